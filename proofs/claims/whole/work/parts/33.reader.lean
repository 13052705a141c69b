set_option maxRecDepth 100000 in
set_option maxHeartbeats 4000000 in
theorem c_Rd_wrong (l : Launch) (D : va_G) (cI cB cJ cS : ClassId) (rd jl jd a ab sh sn sv u w t lo wr pl n PN pn VN vn : Nat) (cl cd b pf : Nat → Nat) (fv : Nat → Int32) (ht : t ≤ n) (hn : n ≤ 65536) (hlo2 : lo < 2) (hw : w ≤ 54) (hPN : PN ≤ 4096) (hpn : pn ≤ PN) (hVN : VN ≤ 8192) (hvn : vn ≤ VN) (h2 : 2 ≤ VN) (hb256 : ∀ j, b j < 256)  : kM l yX2_wrong vsX2_wrong ({ frames := 0, cells := 0, slots := 0, locals := 0 }) D (kT cI cB cJ cS) [.ref rd] [(rd, .inr (0, [.int (nI u), .ref jl, .ref jd, .int (nI w), .ref a, .ref sh, .int (nI t), .int (nI lo), .int (nI wr), .int (nI pl)])), (jl, .inl (cJ, 54, .inr (.inl (lF cl)))), (jd, .inl (cI, 54, .inl (iF cd))), (a, .inr (1, [.ref ab, .int (nI n)])), (ab, .inl (cB, 65536, .inl (bF b))), (sh, .inr (2, [.ref sn, .ref sv, .int (nI pn), .int (nI vn)])), (sn, .inl (cI, PN, .inl (iF pf))), (sv, .inl (cI, VN, .inl fv))] (kQi D (kT cI cB cJ cS) (fun r (ug : Unit) => r = nI wr) (fun ug => [(rd, .inr (0, [.int (nI u), .ref jl, .ref jd, .int (nI w), .ref a, .ref sh, .int (nI t), .int (nI lo), .int (nI wr), .int (nI pl)])), (jl, .inl (cJ, 54, .inr (.inl (lF cl)))), (jd, .inl (cI, 54, .inl (iF cd))), (a, .inr (1, [.ref ab, .int (nI n)])), (ab, .inl (cB, 65536, .inl (bF b))), (sh, .inr (2, [.ref sn, .ref sv, .int (nI pn), .int (nI vn)])), (sn, .inl (cI, PN, .inl (iF pf))), (sv, .inl (cI, VN, .inl fv))])) := by
  refine k_ofW (by decide) rfl (Nat.le_of_ble_eq_true rfl) ?_
  intro p e s m below meth c A ls hx hb hr hts hown hlocks hmn hml hA hP hK hD hS hZ hl
  have inX2 : ∀ w ∈ wsX20, w ∈ vsX2_wrong := fun w h => List.mem_cons_of_mem _ (iaX2 w h)
  have inX3 : ∀ w ∈ wsX30, w ∈ vsX2_wrong := fun w h => List.mem_cons_of_mem _ (iaX3 w h)
  have inX4 : ∀ w ∈ wsX40, w ∈ vsX2_wrong := fun w h => List.mem_cons_of_mem _ (iaX4 w h)
  have F : CallFix p m c cX2_wrong 1 s _ vsX2_wrong RX2 := ⟨hx, hb, hml, hown, hts⟩
  have hl : lv_has ls 1 [(0, .ref rd)] := hl
  refine lv_aload_n hx hb dX2_wrong_0 rfl (lv_at hl 0 rfl) ?_
  refine va_get (D := D) (ci := 0) (v := .int (nI wr)) (C := RX2) (T := TX2) (N := 10) hx hb hts inX2 hown hK hP 0 rfl rfl 8 (by decide) (hts (.fieldLink RX2 23 "ByteShapes$Reader" "wrong" "I") (List.mem_cons_of_mem _ wd_43)) (fun _ h9 => h9) rfl dX2_wrong_1 ?_
  exact k_iret () hx hb hr (by first | rfl | decide | exact vp_nar_int _) hlocks hK hP hD hS (rfl) (rfl) (Nat.le_of_ble_eq_true rfl) (Nat.le_of_ble_eq_true rfl) dX2_wrong_4

set_option maxRecDepth 100000 in
set_option maxHeartbeats 4000000 in
theorem c_Rd_place (l : Launch) (D : va_G) (cI cB cJ cS : ClassId) (rd jl jd a ab sh sn sv u w t lo wr pl n PN pn VN vn : Nat) (cl cd b pf : Nat → Nat) (fv : Nat → Int32) (ht : t ≤ n) (hn : n ≤ 65536) (hlo2 : lo < 2) (hw : w ≤ 54) (hPN : PN ≤ 4096) (hpn : pn ≤ PN) (hVN : VN ≤ 8192) (hvn : vn ≤ VN) (h2 : 2 ≤ VN) (hb256 : ∀ j, b j < 256)  : kM l yX2_place vsX2_place ({ frames := 0, cells := 0, slots := 0, locals := 0 }) D (kT cI cB cJ cS) [.ref rd] [(rd, .inr (0, [.int (nI u), .ref jl, .ref jd, .int (nI w), .ref a, .ref sh, .int (nI t), .int (nI lo), .int (nI wr), .int (nI pl)])), (jl, .inl (cJ, 54, .inr (.inl (lF cl)))), (jd, .inl (cI, 54, .inl (iF cd))), (a, .inr (1, [.ref ab, .int (nI n)])), (ab, .inl (cB, 65536, .inl (bF b))), (sh, .inr (2, [.ref sn, .ref sv, .int (nI pn), .int (nI vn)])), (sn, .inl (cI, PN, .inl (iF pf))), (sv, .inl (cI, VN, .inl fv))] (kQi D (kT cI cB cJ cS) (fun r (ug : Unit) => r = nI pl) (fun ug => [(rd, .inr (0, [.int (nI u), .ref jl, .ref jd, .int (nI w), .ref a, .ref sh, .int (nI t), .int (nI lo), .int (nI wr), .int (nI pl)])), (jl, .inl (cJ, 54, .inr (.inl (lF cl)))), (jd, .inl (cI, 54, .inl (iF cd))), (a, .inr (1, [.ref ab, .int (nI n)])), (ab, .inl (cB, 65536, .inl (bF b))), (sh, .inr (2, [.ref sn, .ref sv, .int (nI pn), .int (nI vn)])), (sn, .inl (cI, PN, .inl (iF pf))), (sv, .inl (cI, VN, .inl fv))])) := by
  refine k_ofW (by decide) rfl (Nat.le_of_ble_eq_true rfl) ?_
  intro p e s m below meth c A ls hx hb hr hts hown hlocks hmn hml hA hP hK hD hS hZ hl
  have inX2 : ∀ w ∈ wsX20, w ∈ vsX2_place := fun w h => List.mem_cons_of_mem _ (iaX2 w h)
  have inX3 : ∀ w ∈ wsX30, w ∈ vsX2_place := fun w h => List.mem_cons_of_mem _ (iaX3 w h)
  have inX4 : ∀ w ∈ wsX40, w ∈ vsX2_place := fun w h => List.mem_cons_of_mem _ (iaX4 w h)
  have F : CallFix p m c cX2_place 1 s _ vsX2_place RX2 := ⟨hx, hb, hml, hown, hts⟩
  have hl : lv_has ls 1 [(0, .ref rd)] := hl
  refine lv_aload_n hx hb dX2_place_0 rfl (lv_at hl 0 rfl) ?_
  refine va_get (D := D) (ci := 0) (v := .int (nI pl)) (C := RX2) (T := TX2) (N := 10) hx hb hts inX2 hown hK hP 0 rfl rfl 9 (by decide) (hts (.fieldLink RX2 26 "ByteShapes$Reader" "place" "I") (List.mem_cons_of_mem _ wd_44)) (fun _ h9 => h9) rfl dX2_place_1 ?_
  exact k_iret () hx hb hr (by first | rfl | decide | exact vp_nar_int _) hlocks hK hP hD hS (rfl) (rfl) (Nat.le_of_ble_eq_true rfl) (Nat.le_of_ble_eq_true rfl) dX2_place_4

set_option maxRecDepth 100000 in
set_option maxHeartbeats 4000000 in
theorem c_Rd_fail (l : Launch) (D : va_G) (cI cB cJ cS : ClassId) (rd jl jd a ab sh sn sv u w t lo wr pl n PN pn VN vn : Nat) (cl cd b pf : Nat → Nat) (fv : Nat → Int32) (ht : t ≤ n) (hn : n ≤ 65536) (hlo2 : lo < 2) (hw : w ≤ 54) (hPN : PN ≤ 4096) (hpn : pn ≤ PN) (hVN : VN ≤ 8192) (hvn : vn ≤ VN) (h2 : 2 ≤ VN) (hb256 : ∀ j, b j < 256) (x y : Nat)  : kM l yX2_fail vsX2_fail ({ frames := 0, cells := 0, slots := 0, locals := 0 }) D (kT cI cB cJ cS) [.ref rd, .int (nI x), .int (nI y)] [(rd, .inr (0, [.int (nI u), .ref jl, .ref jd, .int (nI w), .ref a, .ref sh, .int (nI t), .int (nI lo), .int (nI wr), .int (nI pl)])), (jl, .inl (cJ, 54, .inr (.inl (lF cl)))), (jd, .inl (cI, 54, .inl (iF cd))), (a, .inr (1, [.ref ab, .int (nI n)])), (ab, .inl (cB, 65536, .inl (bF b))), (sh, .inr (2, [.ref sn, .ref sv, .int (nI pn), .int (nI vn)])), (sn, .inl (cI, PN, .inl (iF pf))), (sv, .inl (cI, VN, .inl fv))] (kQi D (kT cI cB cJ cS) (fun r (ug : Unit) => r = nI 0) (fun ug => [(rd, .inr (0, [.int (nI u), .ref jl, .ref jd, .int (nI w), .ref a, .ref sh, .int (nI t), .int (nI lo), .int (nI x), .int (nI y)])), (jl, .inl (cJ, 54, .inr (.inl (lF cl)))), (jd, .inl (cI, 54, .inl (iF cd))), (a, .inr (1, [.ref ab, .int (nI n)])), (ab, .inl (cB, 65536, .inl (bF b))), (sh, .inr (2, [.ref sn, .ref sv, .int (nI pn), .int (nI vn)])), (sn, .inl (cI, PN, .inl (iF pf))), (sv, .inl (cI, VN, .inl fv))])) := by
  refine k_ofW (by decide) rfl (Nat.le_of_ble_eq_true rfl) ?_
  intro p e s m below meth c A ls hx hb hr hts hown hlocks hmn hml hA hP hK hD hS hZ hl
  have inX2 : ∀ w ∈ wsX20, w ∈ vsX2_fail := fun w h => List.mem_cons_of_mem _ (iaX2 w h)
  have inX3 : ∀ w ∈ wsX30, w ∈ vsX2_fail := fun w h => List.mem_cons_of_mem _ (iaX3 w h)
  have inX4 : ∀ w ∈ wsX40, w ∈ vsX2_fail := fun w h => List.mem_cons_of_mem _ (iaX4 w h)
  have F : CallFix p m c cX2_fail 3 s _ vsX2_fail RX2 := ⟨hx, hb, hml, hown, hts⟩
  have hl : lv_has ls 3 [(0, .ref rd), (1, .int (nI x)), (2, .int (nI y))] := hl
  refine lv_aload_n hx hb dX2_fail_0 rfl (lv_at hl 0 rfl) ?_
  refine lv_iload_n hx hb dX2_fail_1 rfl (lv_at hl 1 rfl) ?_
  refine va_put (D := D) (ci := 0) (v := .int (nI x)) (ty := .int) (C := RX2) (T := TX2) (N := 10) hx hb hts inX2 tyX2 tyX2_ok nmX2 hown hK hP hD hS 0 rfl rfl 8 (by decide) (hts (.fieldLink RX2 23 "ByteShapes$Reader" "wrong" "I") (List.mem_cons_of_mem _ wd_43)) (fun _ h9 => h9) rfl (by decide +kernel) (rfl) (rfl) (Nat.le_of_ble_eq_true rfl) dX2_fail_2 (fun H locs hP hD hS => ?_)
  have hP : va_P D kCl [(rd, .inr (0, [.int (nI u), .ref jl, .ref jd, .int (nI w), .ref a, .ref sh, .int (nI t), .int (nI lo), .int (nI x), .int (nI pl)])), (jl, .inl (cJ, 54, .inr (.inl (lF cl)))), (jd, .inl (cI, 54, .inl (iF cd))), (a, .inr (1, [.ref ab, .int (nI n)])), (ab, .inl (cB, 65536, .inl (bF b))), (sh, .inr (2, [.ref sn, .ref sv, .int (nI pn), .int (nI vn)])), (sn, .inl (cI, PN, .inl (iF pf))), (sv, .inl (cI, VN, .inl fv))] H := hP
  have hD : va_D A [(rd, .inr (0, [.int (nI u), .ref jl, .ref jd, .int (nI w), .ref a, .ref sh, .int (nI t), .int (nI lo), .int (nI x), .int (nI pl)])), (jl, .inl (cJ, 54, .inr (.inl (lF cl)))), (jd, .inl (cI, 54, .inl (iF cd))), (a, .inr (1, [.ref ab, .int (nI n)])), (ab, .inl (cB, 65536, .inl (bF b))), (sh, .inr (2, [.ref sn, .ref sv, .int (nI pn), .int (nI vn)])), (sn, .inl (cI, PN, .inl (iF pf))), (sv, .inl (cI, VN, .inl fv))] := hD
  refine lv_aload_n hx hb dX2_fail_5 rfl (lv_at hl 0 rfl) ?_
  refine lv_iload_n hx hb dX2_fail_6 rfl (lv_at hl 2 rfl) ?_
  refine va_put (D := D) (ci := 0) (v := .int (nI y)) (ty := .int) (C := RX2) (T := TX2) (N := 10) hx hb hts inX2 tyX2 tyX2_ok nmX2 hown hK hP hD hS 0 rfl rfl 9 (by decide) (hts (.fieldLink RX2 26 "ByteShapes$Reader" "place" "I") (List.mem_cons_of_mem _ wd_44)) (fun _ h9 => h9) rfl (by decide +kernel) (rfl) (rfl) (Nat.le_of_ble_eq_true rfl) dX2_fail_7 (fun H locs hP hD hS => ?_)
  have hP : va_P D kCl [(rd, .inr (0, [.int (nI u), .ref jl, .ref jd, .int (nI w), .ref a, .ref sh, .int (nI t), .int (nI lo), .int (nI x), .int (nI y)])), (jl, .inl (cJ, 54, .inr (.inl (lF cl)))), (jd, .inl (cI, 54, .inl (iF cd))), (a, .inr (1, [.ref ab, .int (nI n)])), (ab, .inl (cB, 65536, .inl (bF b))), (sh, .inr (2, [.ref sn, .ref sv, .int (nI pn), .int (nI vn)])), (sn, .inl (cI, PN, .inl (iF pf))), (sv, .inl (cI, VN, .inl fv))] H := hP
  have hD : va_D A [(rd, .inr (0, [.int (nI u), .ref jl, .ref jd, .int (nI w), .ref a, .ref sh, .int (nI t), .int (nI lo), .int (nI x), .int (nI y)])), (jl, .inl (cJ, 54, .inr (.inl (lF cl)))), (jd, .inl (cI, 54, .inl (iF cd))), (a, .inr (1, [.ref ab, .int (nI n)])), (ab, .inl (cB, 65536, .inl (bF b))), (sh, .inr (2, [.ref sn, .ref sv, .int (nI pn), .int (nI vn)])), (sn, .inl (cI, PN, .inl (iF pf))), (sv, .inl (cI, VN, .inl fv))] := hD
  refine lv_iconst (v := nI 0) hx hb dX2_fail_10 (by decide) ?_
  exact k_iret () hx hb hr (by first | rfl | decide | exact vp_nar_int _) hlocks hK hP hD hS (rfl) (rfl) (Nat.le_of_ble_eq_true rfl) (Nat.le_of_ble_eq_true rfl) dX2_fail_11

set_option maxRecDepth 100000 in
set_option maxHeartbeats 4000000 in
theorem c_Rd_isThere1 (l : Launch) (D : va_G) (cI cB cJ cS : ClassId) (rd jl jd a ab sh sn sv u w t lo wr pl n PN pn VN vn : Nat) (cl cd b pf : Nat → Nat) (fv : Nat → Int32) (ht : t ≤ n) (hn : n ≤ 65536) (hlo2 : lo < 2) (hw : w ≤ 54) (hPN : PN ≤ 4096) (hpn : pn ≤ PN) (hVN : VN ≤ 8192) (hvn : vn ≤ VN) (h2 : 2 ≤ VN) (hb256 : ∀ j, b j < 256) (q : Nat) (hq : q ≤ 16) (hyes : t + q ≤ n)  : kM l yX2_isThere vsX2_isThere ({ frames := 1, cells := 0, slots := 0, locals := 20 }) D (kT cI cB cJ cS) [.ref rd, .int (nI q)] [(rd, .inr (0, [.int (nI u), .ref jl, .ref jd, .int (nI w), .ref a, .ref sh, .int (nI t), .int (nI lo), .int (nI wr), .int (nI pl)])), (jl, .inl (cJ, 54, .inr (.inl (lF cl)))), (jd, .inl (cI, 54, .inl (iF cd))), (a, .inr (1, [.ref ab, .int (nI n)])), (ab, .inl (cB, 65536, .inl (bF b))), (sh, .inr (2, [.ref sn, .ref sv, .int (nI pn), .int (nI vn)])), (sn, .inl (cI, PN, .inl (iF pf))), (sv, .inl (cI, VN, .inl fv))] (kQi D (kT cI cB cJ cS) (fun r (ug : Unit) => r = nI 1) (fun ug => [(rd, .inr (0, [.int (nI u), .ref jl, .ref jd, .int (nI w), .ref a, .ref sh, .int (nI t), .int (nI lo), .int (nI wr), .int (nI pl)])), (jl, .inl (cJ, 54, .inr (.inl (lF cl)))), (jd, .inl (cI, 54, .inl (iF cd))), (a, .inr (1, [.ref ab, .int (nI n)])), (ab, .inl (cB, 65536, .inl (bF b))), (sh, .inr (2, [.ref sn, .ref sv, .int (nI pn), .int (nI vn)])), (sn, .inl (cI, PN, .inl (iF pf))), (sv, .inl (cI, VN, .inl fv))])) := by
  refine k_ofW (by decide) rfl (Nat.le_of_ble_eq_true rfl) ?_
  intro p e s m below meth c A ls hx hb hr hts hown hlocks hmn hml hA hP hK hD hS hZ hl
  have inX2 : ∀ w ∈ wsX20, w ∈ vsX2_isThere := fun w h => List.mem_cons_of_mem _ (iaX2 w h)
  have inX3 : ∀ w ∈ wsX30, w ∈ vsX2_isThere := fun w h => List.mem_cons_of_mem _ (iaX3 w h)
  have inX4 : ∀ w ∈ wsX40, w ∈ vsX2_isThere := fun w h => List.mem_cons_of_mem _ (iaX4 w h)
  have F : CallFix p m c cX2_isThere 2 s _ vsX2_isThere RX2 := ⟨hx, hb, hml, hown, hts⟩
  have hl : lv_has ls 2 [(0, .ref rd), (1, .int (nI q))] := hl
  refine lv_iload_n hx hb dX2_isThere_0 rfl (lv_at hl 1 rfl) ?_
  refine lv_aload_n hx hb dX2_isThere_1 rfl (lv_at hl 0 rfl) ?_
  refine va_get (D := D) (ci := 0) (v := .ref a) (C := RX2) (T := TX2) (N := 10) hx hb hts inX2 hown hK hP 0 rfl rfl 4 (by decide) (hts (.fieldLink RX2 46 "ByteShapes$Reader" "from" "LByteShapes$Row;") (List.mem_cons_of_mem _ wd_45)) (fun _ h9 => h9) rfl dX2_isThere_2 ?_
  refine k_ci (wr := [(rd, .inr (0, [.int (nI u), .ref jl, .ref jd, .int (nI w), .ref a, .ref sh, .int (nI t), .int (nI lo), .int (nI wr), .int (nI pl)])), (jl, .inl (cJ, 54, .inr (.inl (lF cl)))), (jd, .inl (cI, 54, .inl (iF cd))), (sh, .inr (2, [.ref sn, .ref sv, .int (nI pn), .int (nI vn)])), (sn, .inl (cI, PN, .inl (iF pf))), (sv, .inl (cI, VN, .inl fv))]) (k_rv F (c_Row_size l D cI cB cJ cS a ab n b ) (cwV 0 hts (g_V wd_47 wd_48 wd_49 wd_50 wd_51) rfl rfl rfl (by decide +kernel) ⟨Nat.le_of_ble_eq_true rfl, Nat.le_of_ble_eq_true rfl⟩) hK hP hD hS hA hZ [3, 4] rfl (by decide) 3 rfl rfl rfl rfl hl.1 rfl (Nat.le_of_ble_eq_true rfl) dX2_isThere_5 ⟨Nat.le_of_ble_eq_true rfl, Nat.le_of_ble_eq_true rfl⟩) hP hD hS hA [3, 4] [0, 1, 2, 5, 6, 7] rfl rfl (by decide) (by decide) (fun r u9 H locs hw hP hD hS => ?_)
  subst hw
  have hP : va_P D kCl [(rd, .inr (0, [.int (nI u), .ref jl, .ref jd, .int (nI w), .ref a, .ref sh, .int (nI t), .int (nI lo), .int (nI wr), .int (nI pl)])), (jl, .inl (cJ, 54, .inr (.inl (lF cl)))), (jd, .inl (cI, 54, .inl (iF cd))), (sh, .inr (2, [.ref sn, .ref sv, .int (nI pn), .int (nI vn)])), (sn, .inl (cI, PN, .inl (iF pf))), (sv, .inl (cI, VN, .inl fv)), (a, .inr (1, [.ref ab, .int (nI n)])), (ab, .inl (cB, 65536, .inl (bF b)))] H := hP
  have hD : va_D A [(rd, .inr (0, [.int (nI u), .ref jl, .ref jd, .int (nI w), .ref a, .ref sh, .int (nI t), .int (nI lo), .int (nI wr), .int (nI pl)])), (jl, .inl (cJ, 54, .inr (.inl (lF cl)))), (jd, .inl (cI, 54, .inl (iF cd))), (sh, .inr (2, [.ref sn, .ref sv, .int (nI pn), .int (nI vn)])), (sn, .inl (cI, PN, .inl (iF pf))), (sv, .inl (cI, VN, .inl fv)), (a, .inr (1, [.ref ab, .int (nI n)])), (ab, .inl (cB, 65536, .inl (bF b)))] := hD
  refine W.widen (k := 0) (n := 0) (Nat.le_of_ble_eq_true rfl) (Nat.le_of_ble_eq_true rfl) ?_
  refine lv_aload_n hx hb dX2_isThere_8 rfl (lv_at hl 0 rfl) ?_
  refine va_get (D := D) (ci := 0) (v := .int (nI t)) (C := RX2) (T := TX2) (N := 10) hx hb hts inX2 hown hK hP 0 rfl rfl 6 (by decide) (hts (.fieldLink RX2 43 "ByteShapes$Reader" "at" "I") (List.mem_cons_of_mem _ wd_46)) (fun _ h9 => h9) rfl dX2_isThere_9 ?_
  refine lv_isub hx hb dX2_isThere_12 ?_
  refine k_i (show _ = nI (n - t) from pk_sub (by omega)) ?_
  refine k_icmp_le (tgt := 28) (by omega) (by omega) hx hb dX2_isThere_13 (by decide) (fun c65 => ?_) (fun c65 => ?_)
  · skip
    refine lv_iconst (v := nI 1) hx hb dX2_isThere_28 (by decide) ?_
    refine lv_goto (tgt := 33) hx hb dX2_isThere_29 (by decide) ?_
    have hP : va_P D kCl [(rd, .inr (0, [.int (nI u), .ref jl, .ref jd, .int (nI w), .ref a, .ref sh, .int (nI t), .int (nI lo), .int (nI wr), .int (nI pl)])), (jl, .inl (cJ, 54, .inr (.inl (lF cl)))), (jd, .inl (cI, 54, .inl (iF cd))), (a, .inr (1, [.ref ab, .int (nI n)])), (ab, .inl (cB, 65536, .inl (bF b))), (sh, .inr (2, [.ref sn, .ref sv, .int (nI pn), .int (nI vn)])), (sn, .inl (cI, PN, .inl (iF pf))), (sv, .inl (cI, VN, .inl fv))] H := hP.sub [0, 1, 2, 6, 7, 3, 4, 5] rfl
    have hD : va_D A [(rd, .inr (0, [.int (nI u), .ref jl, .ref jd, .int (nI w), .ref a, .ref sh, .int (nI t), .int (nI lo), .int (nI wr), .int (nI pl)])), (jl, .inl (cJ, 54, .inr (.inl (lF cl)))), (jd, .inl (cI, 54, .inl (iF cd))), (a, .inr (1, [.ref ab, .int (nI n)])), (ab, .inl (cB, 65536, .inl (bF b))), (sh, .inr (2, [.ref sn, .ref sv, .int (nI pn), .int (nI vn)])), (sn, .inl (cI, PN, .inl (iF pf))), (sv, .inl (cI, VN, .inl fv))] := hD.sub [0, 1, 2, 6, 7, 3, 4, 5] (by decide) rfl
    exact k_iret () hx hb hr (by first | rfl | decide | exact vp_nar_int _) hlocks hK hP hD hS (rfl) (rfl) (Nat.le_of_ble_eq_true rfl) (Nat.le_of_ble_eq_true rfl) dX2_isThere_33
  · skip
    exact absurd c65 (by omega)

set_option maxRecDepth 100000 in
set_option maxHeartbeats 4000000 in
theorem c_Rd_isThere0 (l : Launch) (D : va_G) (cI cB cJ cS : ClassId) (rd jl jd a ab sh sn sv u w t lo wr pl n PN pn VN vn : Nat) (cl cd b pf : Nat → Nat) (fv : Nat → Int32) (ht : t ≤ n) (hn : n ≤ 65536) (hlo2 : lo < 2) (hw : w ≤ 54) (hPN : PN ≤ 4096) (hpn : pn ≤ PN) (hVN : VN ≤ 8192) (hvn : vn ≤ VN) (h2 : 2 ≤ VN) (hb256 : ∀ j, b j < 256) (q : Nat) (hq : q ≤ 16) (hyes : n < t + q)  : kM l yX2_isThere vsX2_isThere ({ frames := 1, cells := 0, slots := 0, locals := 22 }) D (kT cI cB cJ cS) [.ref rd, .int (nI q)] [(rd, .inr (0, [.int (nI u), .ref jl, .ref jd, .int (nI w), .ref a, .ref sh, .int (nI t), .int (nI lo), .int (nI wr), .int (nI pl)])), (jl, .inl (cJ, 54, .inr (.inl (lF cl)))), (jd, .inl (cI, 54, .inl (iF cd))), (a, .inr (1, [.ref ab, .int (nI n)])), (ab, .inl (cB, 65536, .inl (bF b))), (sh, .inr (2, [.ref sn, .ref sv, .int (nI pn), .int (nI vn)])), (sn, .inl (cI, PN, .inl (iF pf))), (sv, .inl (cI, VN, .inl fv))] (kQi D (kT cI cB cJ cS) (fun r (ug : Unit) => r = nI 0) (fun ug => [(rd, .inr (0, [.int (nI u), .ref jl, .ref jd, .int (nI w), .ref a, .ref sh, .int (nI t), .int (nI lo), .int (nI 3), .int (nI t)])), (jl, .inl (cJ, 54, .inr (.inl (lF cl)))), (jd, .inl (cI, 54, .inl (iF cd))), (a, .inr (1, [.ref ab, .int (nI n)])), (ab, .inl (cB, 65536, .inl (bF b))), (sh, .inr (2, [.ref sn, .ref sv, .int (nI pn), .int (nI vn)])), (sn, .inl (cI, PN, .inl (iF pf))), (sv, .inl (cI, VN, .inl fv))])) := by
  refine k_ofW (by decide) rfl (Nat.le_of_ble_eq_true rfl) ?_
  intro p e s m below meth c A ls hx hb hr hts hown hlocks hmn hml hA hP hK hD hS hZ hl
  have inX2 : ∀ w ∈ wsX20, w ∈ vsX2_isThere := fun w h => List.mem_cons_of_mem _ (iaX2 w h)
  have inX3 : ∀ w ∈ wsX30, w ∈ vsX2_isThere := fun w h => List.mem_cons_of_mem _ (iaX3 w h)
  have inX4 : ∀ w ∈ wsX40, w ∈ vsX2_isThere := fun w h => List.mem_cons_of_mem _ (iaX4 w h)
  have F : CallFix p m c cX2_isThere 2 s _ vsX2_isThere RX2 := ⟨hx, hb, hml, hown, hts⟩
  have hl : lv_has ls 2 [(0, .ref rd), (1, .int (nI q))] := hl
  refine lv_iload_n hx hb dX2_isThere_0 rfl (lv_at hl 1 rfl) ?_
  refine lv_aload_n hx hb dX2_isThere_1 rfl (lv_at hl 0 rfl) ?_
  refine va_get (D := D) (ci := 0) (v := .ref a) (C := RX2) (T := TX2) (N := 10) hx hb hts inX2 hown hK hP 0 rfl rfl 4 (by decide) (hts (.fieldLink RX2 46 "ByteShapes$Reader" "from" "LByteShapes$Row;") (List.mem_cons_of_mem _ wd_45)) (fun _ h9 => h9) rfl dX2_isThere_2 ?_
  refine k_ci (wr := [(rd, .inr (0, [.int (nI u), .ref jl, .ref jd, .int (nI w), .ref a, .ref sh, .int (nI t), .int (nI lo), .int (nI wr), .int (nI pl)])), (jl, .inl (cJ, 54, .inr (.inl (lF cl)))), (jd, .inl (cI, 54, .inl (iF cd))), (sh, .inr (2, [.ref sn, .ref sv, .int (nI pn), .int (nI vn)])), (sn, .inl (cI, PN, .inl (iF pf))), (sv, .inl (cI, VN, .inl fv))]) (k_rv F (c_Row_size l D cI cB cJ cS a ab n b ) (cwV 0 hts (g_V wd_47 wd_48 wd_49 wd_50 wd_51) rfl rfl rfl (by decide +kernel) ⟨Nat.le_of_ble_eq_true rfl, Nat.le_of_ble_eq_true rfl⟩) hK hP hD hS hA hZ [3, 4] rfl (by decide) 3 rfl rfl rfl rfl hl.1 rfl (Nat.le_of_ble_eq_true rfl) dX2_isThere_5 ⟨Nat.le_of_ble_eq_true rfl, Nat.le_of_ble_eq_true rfl⟩) hP hD hS hA [3, 4] [0, 1, 2, 5, 6, 7] rfl rfl (by decide) (by decide) (fun r u9 H locs hw hP hD hS => ?_)
  subst hw
  have hP : va_P D kCl [(rd, .inr (0, [.int (nI u), .ref jl, .ref jd, .int (nI w), .ref a, .ref sh, .int (nI t), .int (nI lo), .int (nI wr), .int (nI pl)])), (jl, .inl (cJ, 54, .inr (.inl (lF cl)))), (jd, .inl (cI, 54, .inl (iF cd))), (sh, .inr (2, [.ref sn, .ref sv, .int (nI pn), .int (nI vn)])), (sn, .inl (cI, PN, .inl (iF pf))), (sv, .inl (cI, VN, .inl fv)), (a, .inr (1, [.ref ab, .int (nI n)])), (ab, .inl (cB, 65536, .inl (bF b)))] H := hP
  have hD : va_D A [(rd, .inr (0, [.int (nI u), .ref jl, .ref jd, .int (nI w), .ref a, .ref sh, .int (nI t), .int (nI lo), .int (nI wr), .int (nI pl)])), (jl, .inl (cJ, 54, .inr (.inl (lF cl)))), (jd, .inl (cI, 54, .inl (iF cd))), (sh, .inr (2, [.ref sn, .ref sv, .int (nI pn), .int (nI vn)])), (sn, .inl (cI, PN, .inl (iF pf))), (sv, .inl (cI, VN, .inl fv)), (a, .inr (1, [.ref ab, .int (nI n)])), (ab, .inl (cB, 65536, .inl (bF b)))] := hD
  refine W.widen (k := 0) (n := 0) (Nat.le_of_ble_eq_true rfl) (Nat.le_of_ble_eq_true rfl) ?_
  refine lv_aload_n hx hb dX2_isThere_8 rfl (lv_at hl 0 rfl) ?_
  refine va_get (D := D) (ci := 0) (v := .int (nI t)) (C := RX2) (T := TX2) (N := 10) hx hb hts inX2 hown hK hP 0 rfl rfl 6 (by decide) (hts (.fieldLink RX2 43 "ByteShapes$Reader" "at" "I") (List.mem_cons_of_mem _ wd_46)) (fun _ h9 => h9) rfl dX2_isThere_9 ?_
  refine lv_isub hx hb dX2_isThere_12 ?_
  refine k_i (show _ = nI (n - t) from pk_sub (by omega)) ?_
  refine k_icmp_le (tgt := 28) (by omega) (by omega) hx hb dX2_isThere_13 (by decide) (fun c66 => ?_) (fun c66 => ?_)
  · skip
    exact absurd c66 (by omega)
  · skip
    refine lv_aload_n hx hb dX2_isThere_16 rfl (lv_at hl 0 rfl) ?_
    refine lv_iconst (v := nI 3) hx hb dX2_isThere_17 (by decide) ?_
    refine lv_aload_n hx hb dX2_isThere_18 rfl (lv_at hl 0 rfl) ?_
    refine va_get (D := D) (ci := 0) (v := .int (nI t)) (C := RX2) (T := TX2) (N := 10) hx hb hts inX2 hown hK hP 0 rfl rfl 6 (by decide) (hts (.fieldLink RX2 43 "ByteShapes$Reader" "at" "I") (List.mem_cons_of_mem _ wd_46)) (fun _ h9 => h9) rfl dX2_isThere_19 ?_
    refine k_ci (wr := []) (k_rv F (c_Rd_fail l D cI cB cJ cS rd jl jd a ab sh sn sv u w t lo wr pl n PN pn VN vn cl cd b pf fv (by omega) (by omega) (by omega) (by omega) (by omega) (by omega) (by omega) (by omega) (by omega) hb256 3 t) (cwV 2 hts (g_V wd_52 wd_53 wd_54 wd_55 wd_56) rfl rfl rfl (by decide +kernel) ⟨Nat.le_of_ble_eq_true rfl, Nat.le_of_ble_eq_true rfl⟩) hK hP hD hS hA hZ [0, 1, 2, 6, 7, 3, 4, 5] rfl (by decide) 0 rfl rfl rfl rfl hl.1 rfl (Nat.le_of_ble_eq_true rfl) dX2_isThere_22 ⟨Nat.le_of_ble_eq_true rfl, Nat.le_of_ble_eq_true rfl⟩) hP hD hS hA [0, 1, 2, 6, 7, 3, 4, 5] [] rfl rfl (by decide) (by decide) (fun r u9 H locs hw hP hD hS => ?_)
    subst hw
    have hP : va_P D kCl [(rd, .inr (0, [.int (nI u), .ref jl, .ref jd, .int (nI w), .ref a, .ref sh, .int (nI t), .int (nI lo), .int (nI 3), .int (nI t)])), (jl, .inl (cJ, 54, .inr (.inl (lF cl)))), (jd, .inl (cI, 54, .inl (iF cd))), (a, .inr (1, [.ref ab, .int (nI n)])), (ab, .inl (cB, 65536, .inl (bF b))), (sh, .inr (2, [.ref sn, .ref sv, .int (nI pn), .int (nI vn)])), (sn, .inl (cI, PN, .inl (iF pf))), (sv, .inl (cI, VN, .inl fv))] H := hP
    have hD : va_D A [(rd, .inr (0, [.int (nI u), .ref jl, .ref jd, .int (nI w), .ref a, .ref sh, .int (nI t), .int (nI lo), .int (nI 3), .int (nI t)])), (jl, .inl (cJ, 54, .inr (.inl (lF cl)))), (jd, .inl (cI, 54, .inl (iF cd))), (a, .inr (1, [.ref ab, .int (nI n)])), (ab, .inl (cB, 65536, .inl (bF b))), (sh, .inr (2, [.ref sn, .ref sv, .int (nI pn), .int (nI vn)])), (sn, .inl (cI, PN, .inl (iF pf))), (sv, .inl (cI, VN, .inl fv))] := hD
    refine W.widen (k := 0) (n := 0) (Nat.le_of_ble_eq_true rfl) (Nat.le_of_ble_eq_true rfl) ?_
    refine k_if_eq (tgt := 32) (by omega) hx hb dX2_isThere_25 (by decide) (fun c67 => ?_) (fun c67 => ?_)
    · skip
      refine lv_iconst (v := nI 0) hx hb dX2_isThere_32 (by decide) ?_
      exact k_iret () hx hb hr (by first | rfl | decide | exact vp_nar_int _) hlocks hK hP hD hS (rfl) (rfl) (Nat.le_of_ble_eq_true rfl) (Nat.le_of_ble_eq_true rfl) dX2_isThere_33
    · skip
      exact absurd c67 (by omega)

set_option maxRecDepth 100000 in
set_option maxHeartbeats 4000000 in
theorem c_Rd_takeNumber (l : Launch) (D : va_G) (cI cB cJ cS : ClassId) (rd jl jd a ab sh sn sv u w t lo wr pl n PN pn VN vn : Nat) (cl cd b pf : Nat → Nat) (fv : Nat → Int32) (ht : t ≤ n) (hn : n ≤ 65536) (hlo2 : lo < 2) (hw : w ≤ 54) (hPN : PN ≤ 4096) (hpn : pn ≤ PN) (hVN : VN ≤ 8192) (hvn : vn ≤ VN) (h2 : 2 ≤ VN) (hb256 : ∀ j, b j < 256) (q : Nat) (hq : q ≤ 8) (hyes : t + q ≤ n)  : kM l yX2_takeNumber vsX2_takeNumber ({ frames := 1, cells := 0, slots := 0, locals := 27 }) D (kT cI cB cJ cS) [.ref rd, .int (nI q)] [(rd, .inr (0, [.int (nI u), .ref jl, .ref jd, .int (nI w), .ref a, .ref sh, .int (nI t), .int (nI lo), .int (nI wr), .int (nI pl)])), (jl, .inl (cJ, 54, .inr (.inl (lF cl)))), (jd, .inl (cI, 54, .inl (iF cd))), (a, .inr (1, [.ref ab, .int (nI n)])), (ab, .inl (cB, 65536, .inl (bF b))), (sh, .inr (2, [.ref sn, .ref sv, .int (nI pn), .int (nI vn)])), (sn, .inl (cI, PN, .inl (iF pf))), (sv, .inl (cI, VN, .inl fv))] (kQl D (kT cI cB cJ cS) (fun r (ug : Unit) => r = lN (pN b t q lo)) (fun ug => [(rd, .inr (0, [.int (nI u), .ref jl, .ref jd, .int (nI w), .ref a, .ref sh, .int (nI (t + q)), .int (nI lo), .int (nI wr), .int (nI pl)])), (jl, .inl (cJ, 54, .inr (.inl (lF cl)))), (jd, .inl (cI, 54, .inl (iF cd))), (a, .inr (1, [.ref ab, .int (nI n)])), (ab, .inl (cB, 65536, .inl (bF b))), (sh, .inr (2, [.ref sn, .ref sv, .int (nI pn), .int (nI vn)])), (sn, .inl (cI, PN, .inl (iF pf))), (sv, .inl (cI, VN, .inl fv))])) := by
  refine k_ofW (by decide) rfl (Nat.le_of_ble_eq_true rfl) ?_
  intro p e s m below meth c A ls hx hb hr hts hown hlocks hmn hml hA hP hK hD hS hZ hl
  have inX2 : ∀ w ∈ wsX20, w ∈ vsX2_takeNumber := fun w h => List.mem_cons_of_mem _ (iaX2 w h)
  have inX3 : ∀ w ∈ wsX30, w ∈ vsX2_takeNumber := fun w h => List.mem_cons_of_mem _ (iaX3 w h)
  have inX4 : ∀ w ∈ wsX40, w ∈ vsX2_takeNumber := fun w h => List.mem_cons_of_mem _ (iaX4 w h)
  have F : CallFix p m c cX2_takeNumber 4 s _ vsX2_takeNumber RX2 := ⟨hx, hb, hml, hown, hts⟩
  have hl : lv_has ls 4 [(0, .ref rd), (1, .int (nI q))] := hl
  refine lv_aload_n hx hb dX2_takeNumber_0 rfl (lv_at hl 0 rfl) ?_
  refine va_get (D := D) (ci := 0) (v := .ref a) (C := RX2) (T := TX2) (N := 10) hx hb hts inX2 hown hK hP 0 rfl rfl 4 (by decide) (hts (.fieldLink RX2 46 "ByteShapes$Reader" "from" "LByteShapes$Row;") (List.mem_cons_of_mem _ wd_45)) (fun _ h9 => h9) rfl dX2_takeNumber_1 ?_
  refine lv_aload_n hx hb dX2_takeNumber_4 rfl (lv_at hl 0 rfl) ?_
  refine va_get (D := D) (ci := 0) (v := .int (nI t)) (C := RX2) (T := TX2) (N := 10) hx hb hts inX2 hown hK hP 0 rfl rfl 6 (by decide) (hts (.fieldLink RX2 43 "ByteShapes$Reader" "at" "I") (List.mem_cons_of_mem _ wd_46)) (fun _ h9 => h9) rfl dX2_takeNumber_5 ?_
  refine lv_iload_n hx hb dX2_takeNumber_8 rfl (lv_at hl 1 rfl) ?_
  refine lv_aload_n hx hb dX2_takeNumber_9 rfl (lv_at hl 0 rfl) ?_
  refine va_get (D := D) (ci := 0) (v := .int (nI lo)) (C := RX2) (T := TX2) (N := 10) hx hb hts inX2 hown hK hP 0 rfl rfl 7 (by decide) (hts (.fieldLink RX2 85 "ByteShapes$Reader" "lowFirst" "Z") (List.mem_cons_of_mem _ wd_57)) (fun _ h9 => h9) rfl dX2_takeNumber_10 ?_
  refine k_cl (wr := [(rd, .inr (0, [.int (nI u), .ref jl, .ref jd, .int (nI w), .ref a, .ref sh, .int (nI t), .int (nI lo), .int (nI wr), .int (nI pl)])), (jl, .inl (cJ, 54, .inr (.inl (lF cl)))), (jd, .inl (cI, 54, .inl (iF cd))), (sh, .inr (2, [.ref sn, .ref sv, .int (nI pn), .int (nI vn)])), (sn, .inl (cI, PN, .inl (iF pf))), (sv, .inl (cI, VN, .inl fv))]) (k_rv F (c_Row_numberAt l D cI cB cJ cS a ab n b t q lo (by omega) hn hq hlo2 hb256) (cwV 3 hts (g_V wd_58 wd_59 wd_60 wd_50 wd_61) rfl rfl rfl (by decide +kernel) ⟨Nat.le_of_ble_eq_true rfl, Nat.le_of_ble_eq_true rfl⟩) hK hP hD hS hA hZ [3, 4] rfl (by decide) 3 rfl rfl rfl rfl hl.1 rfl (Nat.le_of_ble_eq_true rfl) dX2_takeNumber_13 ⟨Nat.le_of_ble_eq_true rfl, Nat.le_of_ble_eq_true rfl⟩) hP hD hS hA [3, 4] [0, 1, 2, 5, 6, 7] rfl rfl (by decide) (by decide) (fun r u9 H locs hw hP hD hS => ?_)
  subst hw
  have hP : va_P D kCl [(rd, .inr (0, [.int (nI u), .ref jl, .ref jd, .int (nI w), .ref a, .ref sh, .int (nI t), .int (nI lo), .int (nI wr), .int (nI pl)])), (jl, .inl (cJ, 54, .inr (.inl (lF cl)))), (jd, .inl (cI, 54, .inl (iF cd))), (sh, .inr (2, [.ref sn, .ref sv, .int (nI pn), .int (nI vn)])), (sn, .inl (cI, PN, .inl (iF pf))), (sv, .inl (cI, VN, .inl fv)), (a, .inr (1, [.ref ab, .int (nI n)])), (ab, .inl (cB, 65536, .inl (bF b)))] H := hP
  have hD : va_D A [(rd, .inr (0, [.int (nI u), .ref jl, .ref jd, .int (nI w), .ref a, .ref sh, .int (nI t), .int (nI lo), .int (nI wr), .int (nI pl)])), (jl, .inl (cJ, 54, .inr (.inl (lF cl)))), (jd, .inl (cI, 54, .inl (iF cd))), (sh, .inr (2, [.ref sn, .ref sv, .int (nI pn), .int (nI vn)])), (sn, .inl (cI, PN, .inl (iF pf))), (sv, .inl (cI, VN, .inl fv)), (a, .inr (1, [.ref ab, .int (nI n)])), (ab, .inl (cB, 65536, .inl (bF b)))] := hD
  refine W.widen (k := 0) (n := 0) (Nat.le_of_ble_eq_true rfl) (Nat.le_of_ble_eq_true rfl) ?_
  refine lv_lstore_n (lv' := [(2, .long (lN (pN b t q lo))), (0, .ref rd), (1, .int (nI q))]) hx hb dX2_takeNumber_16 rfl hl (by decide) rfl (fun ls hl => ?_)
  refine lv_aload_n hx hb dX2_takeNumber_17 rfl (lv_at hl 1 rfl) ?_
  refine lv_dup hx hb dX2_takeNumber_18 rfl ?_
  refine va_get (D := D) (ci := 0) (v := .int (nI t)) (C := RX2) (T := TX2) (N := 10) hx hb hts inX2 hown hK hP 0 rfl rfl 6 (by decide) (hts (.fieldLink RX2 43 "ByteShapes$Reader" "at" "I") (List.mem_cons_of_mem _ wd_46)) (fun _ h9 => h9) rfl dX2_takeNumber_19 ?_
  refine lv_iload_n hx hb dX2_takeNumber_22 rfl (lv_at hl 2 rfl) ?_
  refine lv_iadd hx hb dX2_takeNumber_23 ?_
  refine k_i (show _ = nI (t + q) from nI_add _ _) ?_
  refine va_put (D := D) (ci := 0) (v := .int (nI (t + q))) (ty := .int) (C := RX2) (T := TX2) (N := 10) hx hb hts inX2 tyX2 tyX2_ok nmX2 hown hK hP hD hS 0 rfl rfl 6 (by decide) (hts (.fieldLink RX2 43 "ByteShapes$Reader" "at" "I") (List.mem_cons_of_mem _ wd_46)) (fun _ h9 => h9) rfl (by decide +kernel) (rfl) (rfl) (Nat.le_of_ble_eq_true rfl) dX2_takeNumber_24 (fun H locs hP hD hS => ?_)
  have hP : va_P D kCl [(rd, .inr (0, [.int (nI u), .ref jl, .ref jd, .int (nI w), .ref a, .ref sh, .int (nI (t + q)), .int (nI lo), .int (nI wr), .int (nI pl)])), (jl, .inl (cJ, 54, .inr (.inl (lF cl)))), (jd, .inl (cI, 54, .inl (iF cd))), (sh, .inr (2, [.ref sn, .ref sv, .int (nI pn), .int (nI vn)])), (sn, .inl (cI, PN, .inl (iF pf))), (sv, .inl (cI, VN, .inl fv)), (a, .inr (1, [.ref ab, .int (nI n)])), (ab, .inl (cB, 65536, .inl (bF b)))] H := hP
  have hD : va_D A [(rd, .inr (0, [.int (nI u), .ref jl, .ref jd, .int (nI w), .ref a, .ref sh, .int (nI (t + q)), .int (nI lo), .int (nI wr), .int (nI pl)])), (jl, .inl (cJ, 54, .inr (.inl (lF cl)))), (jd, .inl (cI, 54, .inl (iF cd))), (sh, .inr (2, [.ref sn, .ref sv, .int (nI pn), .int (nI vn)])), (sn, .inl (cI, PN, .inl (iF pf))), (sv, .inl (cI, VN, .inl fv)), (a, .inr (1, [.ref ab, .int (nI n)])), (ab, .inl (cB, 65536, .inl (bF b)))] := hD
  refine lv_lload_n hx hb dX2_takeNumber_27 rfl (lv_at hl 0 rfl) ?_
  have hP : va_P D kCl [(rd, .inr (0, [.int (nI u), .ref jl, .ref jd, .int (nI w), .ref a, .ref sh, .int (nI (t + q)), .int (nI lo), .int (nI wr), .int (nI pl)])), (jl, .inl (cJ, 54, .inr (.inl (lF cl)))), (jd, .inl (cI, 54, .inl (iF cd))), (a, .inr (1, [.ref ab, .int (nI n)])), (ab, .inl (cB, 65536, .inl (bF b))), (sh, .inr (2, [.ref sn, .ref sv, .int (nI pn), .int (nI vn)])), (sn, .inl (cI, PN, .inl (iF pf))), (sv, .inl (cI, VN, .inl fv))] H := hP.sub [0, 1, 2, 6, 7, 3, 4, 5] rfl
  have hD : va_D A [(rd, .inr (0, [.int (nI u), .ref jl, .ref jd, .int (nI w), .ref a, .ref sh, .int (nI (t + q)), .int (nI lo), .int (nI wr), .int (nI pl)])), (jl, .inl (cJ, 54, .inr (.inl (lF cl)))), (jd, .inl (cI, 54, .inl (iF cd))), (a, .inr (1, [.ref ab, .int (nI n)])), (ab, .inl (cB, 65536, .inl (bF b))), (sh, .inr (2, [.ref sn, .ref sv, .int (nI pn), .int (nI vn)])), (sn, .inl (cI, PN, .inl (iF pf))), (sv, .inl (cI, VN, .inl fv))] := hD.sub [0, 1, 2, 6, 7, 3, 4, 5] (by decide) rfl
  exact k_lret () hx hb hr hlocks hK hP hD hS (rfl) (rfl) (Nat.le_of_ble_eq_true rfl) (Nat.le_of_ble_eq_true rfl) dX2_takeNumber_28

set_option maxRecDepth 100000 in
set_option maxHeartbeats 4000000 in
theorem c_Rd_around (l : Launch) (D : va_G) (cI cB cJ cS : ClassId) (rd jl jd a ab sh sn sv u w t lo wr pl n PN pn VN vn : Nat) (cl cd b pf : Nat → Nat) (fv : Nat → Int32) (ht : t ≤ n) (hn : n ≤ 65536) (hlo2 : lo < 2) (hw : w ≤ 54) (hPN : PN ≤ 4096) (hpn : pn ≤ PN) (hVN : VN ≤ 8192) (hvn : vn ≤ VN) (h2 : 2 ≤ VN) (hb256 : ∀ j, b j < 256) (h1 : 1 ≤ w)  : kM l yX2_collectionsAround vsX2_collectionsAround ({ frames := 0, cells := 0, slots := 0, locals := 0 }) D (kT cI cB cJ cS) [.ref rd] [(rd, .inr (0, [.int (nI u), .ref jl, .ref jd, .int (nI w), .ref a, .ref sh, .int (nI t), .int (nI lo), .int (nI wr), .int (nI pl)])), (jl, .inl (cJ, 54, .inr (.inl (lF cl)))), (jd, .inl (cI, 54, .inl (iF cd))), (a, .inr (1, [.ref ab, .int (nI n)])), (ab, .inl (cB, 65536, .inl (bF b))), (sh, .inr (2, [.ref sn, .ref sv, .int (nI pn), .int (nI vn)])), (sn, .inl (cI, PN, .inl (iF pf))), (sv, .inl (cI, VN, .inl fv))] (kQi D (kT cI cB cJ cS) (fun r (ug : Unit) => r = nI (w - 1)) (fun ug => [(rd, .inr (0, [.int (nI u), .ref jl, .ref jd, .int (nI w), .ref a, .ref sh, .int (nI t), .int (nI lo), .int (nI wr), .int (nI pl)])), (jl, .inl (cJ, 54, .inr (.inl (lF cl)))), (jd, .inl (cI, 54, .inl (iF cd))), (a, .inr (1, [.ref ab, .int (nI n)])), (ab, .inl (cB, 65536, .inl (bF b))), (sh, .inr (2, [.ref sn, .ref sv, .int (nI pn), .int (nI vn)])), (sn, .inl (cI, PN, .inl (iF pf))), (sv, .inl (cI, VN, .inl fv))])) := by
  refine k_ofW (by decide) rfl (Nat.le_of_ble_eq_true rfl) ?_
  intro p e s m below meth c A ls hx hb hr hts hown hlocks hmn hml hA hP hK hD hS hZ hl
  have inX2 : ∀ w ∈ wsX20, w ∈ vsX2_collectionsAround := fun w h => List.mem_cons_of_mem _ (iaX2 w h)
  have inX3 : ∀ w ∈ wsX30, w ∈ vsX2_collectionsAround := fun w h => List.mem_cons_of_mem _ (iaX3 w h)
  have inX4 : ∀ w ∈ wsX40, w ∈ vsX2_collectionsAround := fun w h => List.mem_cons_of_mem _ (iaX4 w h)
  have F : CallFix p m c cX2_collectionsAround 1 s _ vsX2_collectionsAround RX2 := ⟨hx, hb, hml, hown, hts⟩
  have hl : lv_has ls 1 [(0, .ref rd)] := hl
  refine lv_aload_n hx hb dX2_collectionsAround_0 rfl (lv_at hl 0 rfl) ?_
  refine va_get (D := D) (ci := 0) (v := .int (nI w)) (C := RX2) (T := TX2) (N := 10) hx hb hts inX2 hown hK hP 0 rfl rfl 3 (by decide) (hts (.fieldLink RX2 33 "ByteShapes$Reader" "waiting" "I") (List.mem_cons_of_mem _ wd_62)) (fun _ h9 => h9) rfl dX2_collectionsAround_1 ?_
  refine lv_iconst (v := nI 1) hx hb dX2_collectionsAround_4 (by decide) ?_
  refine lv_isub hx hb dX2_collectionsAround_5 ?_
  refine k_i (show _ = nI (w - 1) from pk_sub (by omega)) ?_
  exact k_iret () hx hb hr (by first | rfl | decide | exact vp_nar_int _) hlocks hK hP hD hS (rfl) (rfl) (Nat.le_of_ble_eq_true rfl) (Nat.le_of_ble_eq_true rfl) dX2_collectionsAround_6

set_option maxRecDepth 100000 in
set_option maxHeartbeats 4000000 in
theorem c_Rd_waitFor (l : Launch) (D : va_G) (cI cB cJ cS : ClassId) (rd jl jd a ab sh sn sv u w t lo wr pl n PN pn VN vn : Nat) (cl cd b pf : Nat → Nat) (fv : Nat → Int32) (ht : t ≤ n) (hn : n ≤ 65536) (hlo2 : lo < 2) (hw : w ≤ 54) (hPN : PN ≤ 4096) (hpn : pn ≤ PN) (hVN : VN ≤ 8192) (hvn : vn ≤ VN) (h2 : 2 ≤ VN) (hb256 : ∀ j, b j < 256) (c9 d9 : Nat) (hlt : w < 54)  : kM l yX2_waitFor vsX2_waitFor ({ frames := 0, cells := 0, slots := 0, locals := 0 }) D (kT cI cB cJ cS) [.ref rd, .long (lN c9), .int (nI d9)] [(rd, .inr (0, [.int (nI u), .ref jl, .ref jd, .int (nI w), .ref a, .ref sh, .int (nI t), .int (nI lo), .int (nI wr), .int (nI pl)])), (jl, .inl (cJ, 54, .inr (.inl (lF cl)))), (jd, .inl (cI, 54, .inl (iF cd))), (a, .inr (1, [.ref ab, .int (nI n)])), (ab, .inl (cB, 65536, .inl (bF b))), (sh, .inr (2, [.ref sn, .ref sv, .int (nI pn), .int (nI vn)])), (sn, .inl (cI, PN, .inl (iF pf))), (sv, .inl (cI, VN, .inl fv))] (kQv D (kT cI cB cJ cS) (fun (ug : Unit) => True) (fun ug => [(rd, .inr (0, [.int (nI u), .ref jl, .ref jd, .int (nI (w + 1)), .ref a, .ref sh, .int (nI t), .int (nI lo), .int (nI wr), .int (nI pl)])), (jl, .inl (cJ, 54, .inr (.inl (lF (va_up cl w c9))))), (jd, .inl (cI, 54, .inl (iF (va_up cd w d9)))), (a, .inr (1, [.ref ab, .int (nI n)])), (ab, .inl (cB, 65536, .inl (bF b))), (sh, .inr (2, [.ref sn, .ref sv, .int (nI pn), .int (nI vn)])), (sn, .inl (cI, PN, .inl (iF pf))), (sv, .inl (cI, VN, .inl fv))])) := by
  refine k_ofW (by decide) rfl (Nat.le_of_ble_eq_true rfl) ?_
  intro p e s m below meth c A ls hx hb hr hts hown hlocks hmn hml hA hP hK hD hS hZ hl
  have inX2 : ∀ w ∈ wsX20, w ∈ vsX2_waitFor := fun w h => List.mem_cons_of_mem _ (iaX2 w h)
  have inX3 : ∀ w ∈ wsX30, w ∈ vsX2_waitFor := fun w h => List.mem_cons_of_mem _ (iaX3 w h)
  have inX4 : ∀ w ∈ wsX40, w ∈ vsX2_waitFor := fun w h => List.mem_cons_of_mem _ (iaX4 w h)
  have F : CallFix p m c cX2_waitFor 4 s _ vsX2_waitFor RX2 := ⟨hx, hb, hml, hown, hts⟩
  have hl : lv_has ls 4 [(0, .ref rd), (1, .long (lN c9)), (3, .int (nI d9))] := hl
  refine lv_aload_n hx hb dX2_waitFor_0 rfl (lv_at hl 0 rfl) ?_
  refine va_get (D := D) (ci := 0) (v := .int (nI w)) (C := RX2) (T := TX2) (N := 10) hx hb hts inX2 hown hK hP 0 rfl rfl 3 (by decide) (hts (.fieldLink RX2 33 "ByteShapes$Reader" "waiting" "I") (List.mem_cons_of_mem _ wd_62)) (fun _ h9 => h9) rfl dX2_waitFor_1 ?_
  refine lv_bipush (v := nI 54) hx hb dX2_waitFor_4 (by decide) ?_
  refine k_icmp_ge (tgt := 39) (by omega) (by omega) hx hb dX2_waitFor_6 (by decide) (fun c68 => ?_) (fun c68 => ?_)
  · skip
    exact absurd c68 (by omega)
  · skip
    refine lv_aload_n hx hb dX2_waitFor_9 rfl (lv_at hl 0 rfl) ?_
    refine va_get (D := D) (ci := 0) (v := .ref jl) (C := RX2) (T := TX2) (N := 10) hx hb hts inX2 hown hK hP 0 rfl rfl 1 (by decide) (hts (.fieldLink RX2 11 "ByteShapes$Reader" "itemsLeft" "[J") (List.mem_cons_of_mem _ wd_63)) (fun _ h9 => h9) rfl dX2_waitFor_10 ?_
    refine lv_aload_n hx hb dX2_waitFor_13 rfl (lv_at hl 0 rfl) ?_
    refine va_get (D := D) (ci := 0) (v := .int (nI w)) (C := RX2) (T := TX2) (N := 10) hx hb hts inX2 hown hK hP 0 rfl rfl 3 (by decide) (hts (.fieldLink RX2 33 "ByteShapes$Reader" "waiting" "I") (List.mem_cons_of_mem _ wd_62)) (fun _ h9 => h9) rfl dX2_waitFor_14 ?_
    refine lv_lload_n hx hb dX2_waitFor_17 rfl (lv_at hl 1 rfl) ?_
    refine va_last hx hb hK hP hD hS 1 2 rfl rfl (vp_in_nI (by omega) (by omega)) dX2_waitFor_18 (fun H locs hP hD hS => ?_)
    rw [show vp_updL (lF cl) (nI w).toNatClampNeg (lN c9) = lF (va_up cl w c9) from by rw [nI_clamp (by omega)]; exact lF_put _ _ _] at hP hD
    have hP : va_P D kCl [(rd, .inr (0, [.int (nI u), .ref jl, .ref jd, .int (nI w), .ref a, .ref sh, .int (nI t), .int (nI lo), .int (nI wr), .int (nI pl)])), (jl, .inl (cJ, 54, .inr (.inl (lF (va_up cl w c9))))), (jd, .inl (cI, 54, .inl (iF cd))), (a, .inr (1, [.ref ab, .int (nI n)])), (ab, .inl (cB, 65536, .inl (bF b))), (sh, .inr (2, [.ref sn, .ref sv, .int (nI pn), .int (nI vn)])), (sn, .inl (cI, PN, .inl (iF pf))), (sv, .inl (cI, VN, .inl fv))] H := hP
    have hD : va_D A [(rd, .inr (0, [.int (nI u), .ref jl, .ref jd, .int (nI w), .ref a, .ref sh, .int (nI t), .int (nI lo), .int (nI wr), .int (nI pl)])), (jl, .inl (cJ, 54, .inr (.inl (lF (va_up cl w c9))))), (jd, .inl (cI, 54, .inl (iF cd))), (a, .inr (1, [.ref ab, .int (nI n)])), (ab, .inl (cB, 65536, .inl (bF b))), (sh, .inr (2, [.ref sn, .ref sv, .int (nI pn), .int (nI vn)])), (sn, .inl (cI, PN, .inl (iF pf))), (sv, .inl (cI, VN, .inl fv))] := hD
    refine lv_aload_n hx hb dX2_waitFor_19 rfl (lv_at hl 0 rfl) ?_
    refine va_get (D := D) (ci := 0) (v := .ref jd) (C := RX2) (T := TX2) (N := 10) hx hb hts inX2 hown hK hP 0 rfl rfl 2 (by decide) (hts (.fieldLink RX2 15 "ByteShapes$Reader" "itemsDue" "[I") (List.mem_cons_of_mem _ wd_64)) (fun _ h9 => h9) rfl dX2_waitFor_20 ?_
    refine lv_aload_n hx hb dX2_waitFor_23 rfl (lv_at hl 0 rfl) ?_
    refine va_get (D := D) (ci := 0) (v := .int (nI w)) (C := RX2) (T := TX2) (N := 10) hx hb hts inX2 hown hK hP 0 rfl rfl 3 (by decide) (hts (.fieldLink RX2 33 "ByteShapes$Reader" "waiting" "I") (List.mem_cons_of_mem _ wd_62)) (fun _ h9 => h9) rfl dX2_waitFor_24 ?_
    refine lv_iload_n hx hb dX2_waitFor_27 rfl (lv_at hl 2 rfl) ?_
    refine va_iast hx hb hK hP hD hS 2 0 rfl rfl (vp_in_nI (by omega) (by omega)) dX2_waitFor_28 (fun H locs hP hD hS => ?_)
    rw [show upd (iF cd) (nI w).toNatClampNeg (nI d9) = iF (va_up cd w d9) from by rw [nI_clamp (by omega)]; exact iF_put _ _ _] at hP hD
    have hP : va_P D kCl [(rd, .inr (0, [.int (nI u), .ref jl, .ref jd, .int (nI w), .ref a, .ref sh, .int (nI t), .int (nI lo), .int (nI wr), .int (nI pl)])), (jl, .inl (cJ, 54, .inr (.inl (lF (va_up cl w c9))))), (jd, .inl (cI, 54, .inl (iF (va_up cd w d9)))), (a, .inr (1, [.ref ab, .int (nI n)])), (ab, .inl (cB, 65536, .inl (bF b))), (sh, .inr (2, [.ref sn, .ref sv, .int (nI pn), .int (nI vn)])), (sn, .inl (cI, PN, .inl (iF pf))), (sv, .inl (cI, VN, .inl fv))] H := hP
    have hD : va_D A [(rd, .inr (0, [.int (nI u), .ref jl, .ref jd, .int (nI w), .ref a, .ref sh, .int (nI t), .int (nI lo), .int (nI wr), .int (nI pl)])), (jl, .inl (cJ, 54, .inr (.inl (lF (va_up cl w c9))))), (jd, .inl (cI, 54, .inl (iF (va_up cd w d9)))), (a, .inr (1, [.ref ab, .int (nI n)])), (ab, .inl (cB, 65536, .inl (bF b))), (sh, .inr (2, [.ref sn, .ref sv, .int (nI pn), .int (nI vn)])), (sn, .inl (cI, PN, .inl (iF pf))), (sv, .inl (cI, VN, .inl fv))] := hD
    refine lv_aload_n hx hb dX2_waitFor_29 rfl (lv_at hl 0 rfl) ?_
    refine lv_dup hx hb dX2_waitFor_30 rfl ?_
    refine va_get (D := D) (ci := 0) (v := .int (nI w)) (C := RX2) (T := TX2) (N := 10) hx hb hts inX2 hown hK hP 0 rfl rfl 3 (by decide) (hts (.fieldLink RX2 33 "ByteShapes$Reader" "waiting" "I") (List.mem_cons_of_mem _ wd_62)) (fun _ h9 => h9) rfl dX2_waitFor_31 ?_
    refine lv_iconst (v := nI 1) hx hb dX2_waitFor_34 (by decide) ?_
    refine lv_iadd hx hb dX2_waitFor_35 ?_
    refine k_i (show _ = nI (w + 1) from nI_add _ _) ?_
    refine va_put (D := D) (ci := 0) (v := .int (nI (w + 1))) (ty := .int) (C := RX2) (T := TX2) (N := 10) hx hb hts inX2 tyX2 tyX2_ok nmX2 hown hK hP hD hS 0 rfl rfl 3 (by decide) (hts (.fieldLink RX2 33 "ByteShapes$Reader" "waiting" "I") (List.mem_cons_of_mem _ wd_62)) (fun _ h9 => h9) rfl (by decide +kernel) (rfl) (rfl) (Nat.le_of_ble_eq_true rfl) dX2_waitFor_36 (fun H locs hP hD hS => ?_)
    have hP : va_P D kCl [(rd, .inr (0, [.int (nI u), .ref jl, .ref jd, .int (nI (w + 1)), .ref a, .ref sh, .int (nI t), .int (nI lo), .int (nI wr), .int (nI pl)])), (jl, .inl (cJ, 54, .inr (.inl (lF (va_up cl w c9))))), (jd, .inl (cI, 54, .inl (iF (va_up cd w d9)))), (a, .inr (1, [.ref ab, .int (nI n)])), (ab, .inl (cB, 65536, .inl (bF b))), (sh, .inr (2, [.ref sn, .ref sv, .int (nI pn), .int (nI vn)])), (sn, .inl (cI, PN, .inl (iF pf))), (sv, .inl (cI, VN, .inl fv))] H := hP
    have hD : va_D A [(rd, .inr (0, [.int (nI u), .ref jl, .ref jd, .int (nI (w + 1)), .ref a, .ref sh, .int (nI t), .int (nI lo), .int (nI wr), .int (nI pl)])), (jl, .inl (cJ, 54, .inr (.inl (lF (va_up cl w c9))))), (jd, .inl (cI, 54, .inl (iF (va_up cd w d9)))), (a, .inr (1, [.ref ab, .int (nI n)])), (ab, .inl (cB, 65536, .inl (bF b))), (sh, .inr (2, [.ref sn, .ref sv, .int (nI pn), .int (nI vn)])), (sn, .inl (cI, PN, .inl (iF pf))), (sv, .inl (cI, VN, .inl fv))] := hD
    exact k_vret () hx hb hr hlocks hK hP hD hS (rfl) (trivial) (Nat.le_of_ble_eq_true rfl) (Nat.le_of_ble_eq_true rfl) dX2_waitFor_39

set_option maxRecDepth 100000 in
set_option maxHeartbeats 4000000 in
theorem c_Rd_takeOrderE (l : Launch) (D : va_G) (cI cB cJ cS : ClassId) (rd jl jd a ab sh sn sv u w t lo wr pl n PN pn VN vn : Nat) (cl cd b pf : Nat → Nat) (fv : Nat → Int32) (ht : t ≤ n) (hn : n ≤ 65536) (hlo2 : lo < 2) (hw : w ≤ 54) (hPN : PN ≤ 4096) (hpn : pn ≤ PN) (hVN : VN ≤ 8192) (hvn : vn ≤ VN) (h2 : 2 ≤ VN) (hb256 : ∀ j, b j < 256) (hyes : n < t + 1)  : kM l yX2_takeOrder vsX2_takeOrder ({ frames := 2, cells := 0, slots := 0, locals := 43 }) D (kT cI cB cJ cS) [.ref rd] [(rd, .inr (0, [.int (nI u), .ref jl, .ref jd, .int (nI w), .ref a, .ref sh, .int (nI t), .int (nI lo), .int (nI wr), .int (nI pl)])), (jl, .inl (cJ, 54, .inr (.inl (lF cl)))), (jd, .inl (cI, 54, .inl (iF cd))), (a, .inr (1, [.ref ab, .int (nI n)])), (ab, .inl (cB, 65536, .inl (bF b))), (sh, .inr (2, [.ref sn, .ref sv, .int (nI pn), .int (nI vn)])), (sn, .inl (cI, PN, .inl (iF pf))), (sv, .inl (cI, VN, .inl fv))] (kQi D (kT cI cB cJ cS) (fun r (ug : Unit) => r = nI 0) (fun ug => [(rd, .inr (0, [.int (nI u), .ref jl, .ref jd, .int (nI w), .ref a, .ref sh, .int (nI t), .int (nI lo), .int (nI 3), .int (nI t)])), (jl, .inl (cJ, 54, .inr (.inl (lF cl)))), (jd, .inl (cI, 54, .inl (iF cd))), (a, .inr (1, [.ref ab, .int (nI n)])), (ab, .inl (cB, 65536, .inl (bF b))), (sh, .inr (2, [.ref sn, .ref sv, .int (nI pn), .int (nI vn)])), (sn, .inl (cI, PN, .inl (iF pf))), (sv, .inl (cI, VN, .inl fv))])) := by
  refine k_ofW (by decide) rfl (Nat.le_of_ble_eq_true rfl) ?_
  intro p e s m below meth c A ls hx hb hr hts hown hlocks hmn hml hA hP hK hD hS hZ hl
  have inX2 : ∀ w ∈ wsX20, w ∈ vsX2_takeOrder := fun w h => List.mem_cons_of_mem _ (iaX2 w h)
  have inX3 : ∀ w ∈ wsX30, w ∈ vsX2_takeOrder := fun w h => List.mem_cons_of_mem _ (iaX3 w h)
  have inX4 : ∀ w ∈ wsX40, w ∈ vsX2_takeOrder := fun w h => List.mem_cons_of_mem _ (iaX4 w h)
  have F : CallFix p m c cX2_takeOrder 2 s _ vsX2_takeOrder RX2 := ⟨hx, hb, hml, hown, hts⟩
  have hl : lv_has ls 2 [(0, .ref rd)] := hl
  refine lv_aload_n hx hb dX2_takeOrder_0 rfl (lv_at hl 0 rfl) ?_
  refine lv_iconst (v := nI 1) hx hb dX2_takeOrder_1 (by decide) ?_
  refine k_ci (wr := []) (k_rv F (c_Rd_isThere0 l D cI cB cJ cS rd jl jd a ab sh sn sv u w t lo wr pl n PN pn VN vn cl cd b pf fv (by omega) (by omega) (by omega) (by omega) (by omega) (by omega) (by omega) (by omega) (by omega) hb256 1 (by omega) (by omega)) (cwV 1 hts (g_V wd_65 wd_66 wd_67 wd_55 wd_68) rfl rfl rfl (by decide +kernel) ⟨Nat.le_of_ble_eq_true rfl, Nat.le_of_ble_eq_true rfl⟩) hK hP hD hS hA hZ [0, 1, 2, 3, 4, 5, 6, 7] rfl (by decide) 0 rfl rfl rfl rfl hl.1 rfl (Nat.le_of_ble_eq_true rfl) dX2_takeOrder_2 ⟨Nat.le_of_ble_eq_true rfl, Nat.le_of_ble_eq_true rfl⟩) hP hD hS hA [0, 1, 2, 3, 4, 5, 6, 7] [] rfl rfl (by decide) (by decide) (fun r u9 H locs hw hP hD hS => ?_)
  subst hw
  have hP : va_P D kCl [(rd, .inr (0, [.int (nI u), .ref jl, .ref jd, .int (nI w), .ref a, .ref sh, .int (nI t), .int (nI lo), .int (nI 3), .int (nI t)])), (jl, .inl (cJ, 54, .inr (.inl (lF cl)))), (jd, .inl (cI, 54, .inl (iF cd))), (a, .inr (1, [.ref ab, .int (nI n)])), (ab, .inl (cB, 65536, .inl (bF b))), (sh, .inr (2, [.ref sn, .ref sv, .int (nI pn), .int (nI vn)])), (sn, .inl (cI, PN, .inl (iF pf))), (sv, .inl (cI, VN, .inl fv))] H := hP
  have hD : va_D A [(rd, .inr (0, [.int (nI u), .ref jl, .ref jd, .int (nI w), .ref a, .ref sh, .int (nI t), .int (nI lo), .int (nI 3), .int (nI t)])), (jl, .inl (cJ, 54, .inr (.inl (lF cl)))), (jd, .inl (cI, 54, .inl (iF cd))), (a, .inr (1, [.ref ab, .int (nI n)])), (ab, .inl (cB, 65536, .inl (bF b))), (sh, .inr (2, [.ref sn, .ref sv, .int (nI pn), .int (nI vn)])), (sn, .inl (cI, PN, .inl (iF pf))), (sv, .inl (cI, VN, .inl fv))] := hD
  refine W.widen (k := 0) (n := 0) (Nat.le_of_ble_eq_true rfl) (Nat.le_of_ble_eq_true rfl) ?_
  refine k_if_ne (tgt := 10) (by omega) hx hb dX2_takeOrder_5 (by decide) (fun c69 => ?_) (fun c69 => ?_)
  · skip
    exact absurd c69 (by omega)
  · skip
    refine lv_iconst (v := nI 0) hx hb dX2_takeOrder_8 (by decide) ?_
    exact k_iret () hx hb hr (by first | rfl | decide | exact vp_nar_int _) hlocks hK hP hD hS (rfl) (rfl) (Nat.le_of_ble_eq_true rfl) (Nat.le_of_ble_eq_true rfl) dX2_takeOrder_9

set_option maxRecDepth 100000 in
set_option maxHeartbeats 4000000 in
theorem c_Rd_takeOrderB (l : Launch) (D : va_G) (cI cB cJ cS : ClassId) (rd jl jd a ab sh sn sv u w t lo wr pl n PN pn VN vn : Nat) (cl cd b pf : Nat → Nat) (fv : Nat → Int32) (ht : t ≤ n) (hn : n ≤ 65536) (hlo2 : lo < 2) (hw : w ≤ 54) (hPN : PN ≤ 4096) (hpn : pn ≤ PN) (hVN : VN ≤ 8192) (hvn : vn ≤ VN) (h2 : 2 ≤ VN) (hb256 : ∀ j, b j < 256) (hyes : t < n) (hbad : 1 < b t)  : kM l yX2_takeOrder vsX2_takeOrder ({ frames := 2, cells := 0, slots := 0, locals := 41 }) D (kT cI cB cJ cS) [.ref rd] [(rd, .inr (0, [.int (nI u), .ref jl, .ref jd, .int (nI w), .ref a, .ref sh, .int (nI t), .int (nI lo), .int (nI wr), .int (nI pl)])), (jl, .inl (cJ, 54, .inr (.inl (lF cl)))), (jd, .inl (cI, 54, .inl (iF cd))), (a, .inr (1, [.ref ab, .int (nI n)])), (ab, .inl (cB, 65536, .inl (bF b))), (sh, .inr (2, [.ref sn, .ref sv, .int (nI pn), .int (nI vn)])), (sn, .inl (cI, PN, .inl (iF pf))), (sv, .inl (cI, VN, .inl fv))] (kQi D (kT cI cB cJ cS) (fun r (ug : Unit) => r = nI 0) (fun ug => [(rd, .inr (0, [.int (nI u), .ref jl, .ref jd, .int (nI w), .ref a, .ref sh, .int (nI t), .int (nI lo), .int (nI 1), .int (nI t)])), (jl, .inl (cJ, 54, .inr (.inl (lF cl)))), (jd, .inl (cI, 54, .inl (iF cd))), (a, .inr (1, [.ref ab, .int (nI n)])), (ab, .inl (cB, 65536, .inl (bF b))), (sh, .inr (2, [.ref sn, .ref sv, .int (nI pn), .int (nI vn)])), (sn, .inl (cI, PN, .inl (iF pf))), (sv, .inl (cI, VN, .inl fv))])) := by
  refine k_ofW (by decide) rfl (Nat.le_of_ble_eq_true rfl) ?_
  intro p e s m below meth c A ls hx hb hr hts hown hlocks hmn hml hA hP hK hD hS hZ hl
  have inX2 : ∀ w ∈ wsX20, w ∈ vsX2_takeOrder := fun w h => List.mem_cons_of_mem _ (iaX2 w h)
  have inX3 : ∀ w ∈ wsX30, w ∈ vsX2_takeOrder := fun w h => List.mem_cons_of_mem _ (iaX3 w h)
  have inX4 : ∀ w ∈ wsX40, w ∈ vsX2_takeOrder := fun w h => List.mem_cons_of_mem _ (iaX4 w h)
  have F : CallFix p m c cX2_takeOrder 2 s _ vsX2_takeOrder RX2 := ⟨hx, hb, hml, hown, hts⟩
  have hl : lv_has ls 2 [(0, .ref rd)] := hl
  refine lv_aload_n hx hb dX2_takeOrder_0 rfl (lv_at hl 0 rfl) ?_
  refine lv_iconst (v := nI 1) hx hb dX2_takeOrder_1 (by decide) ?_
  refine k_ci (wr := []) (k_rv F (c_Rd_isThere1 l D cI cB cJ cS rd jl jd a ab sh sn sv u w t lo wr pl n PN pn VN vn cl cd b pf fv (by omega) (by omega) (by omega) (by omega) (by omega) (by omega) (by omega) (by omega) (by omega) hb256 1 (by omega) (by omega)) (cwV 1 hts (g_V wd_65 wd_66 wd_67 wd_55 wd_68) rfl rfl rfl (by decide +kernel) ⟨Nat.le_of_ble_eq_true rfl, Nat.le_of_ble_eq_true rfl⟩) hK hP hD hS hA hZ [0, 1, 2, 3, 4, 5, 6, 7] rfl (by decide) 0 rfl rfl rfl rfl hl.1 rfl (Nat.le_of_ble_eq_true rfl) dX2_takeOrder_2 ⟨Nat.le_of_ble_eq_true rfl, Nat.le_of_ble_eq_true rfl⟩) hP hD hS hA [0, 1, 2, 3, 4, 5, 6, 7] [] rfl rfl (by decide) (by decide) (fun r u9 H locs hw hP hD hS => ?_)
  subst hw
  have hP : va_P D kCl [(rd, .inr (0, [.int (nI u), .ref jl, .ref jd, .int (nI w), .ref a, .ref sh, .int (nI t), .int (nI lo), .int (nI wr), .int (nI pl)])), (jl, .inl (cJ, 54, .inr (.inl (lF cl)))), (jd, .inl (cI, 54, .inl (iF cd))), (a, .inr (1, [.ref ab, .int (nI n)])), (ab, .inl (cB, 65536, .inl (bF b))), (sh, .inr (2, [.ref sn, .ref sv, .int (nI pn), .int (nI vn)])), (sn, .inl (cI, PN, .inl (iF pf))), (sv, .inl (cI, VN, .inl fv))] H := hP
  have hD : va_D A [(rd, .inr (0, [.int (nI u), .ref jl, .ref jd, .int (nI w), .ref a, .ref sh, .int (nI t), .int (nI lo), .int (nI wr), .int (nI pl)])), (jl, .inl (cJ, 54, .inr (.inl (lF cl)))), (jd, .inl (cI, 54, .inl (iF cd))), (a, .inr (1, [.ref ab, .int (nI n)])), (ab, .inl (cB, 65536, .inl (bF b))), (sh, .inr (2, [.ref sn, .ref sv, .int (nI pn), .int (nI vn)])), (sn, .inl (cI, PN, .inl (iF pf))), (sv, .inl (cI, VN, .inl fv))] := hD
  refine W.widen (k := 0) (n := 0) (Nat.le_of_ble_eq_true rfl) (Nat.le_of_ble_eq_true rfl) ?_
  refine k_if_ne (tgt := 10) (by omega) hx hb dX2_takeOrder_5 (by decide) (fun c70 => ?_) (fun c70 => ?_)
  · skip
    refine lv_aload_n hx hb dX2_takeOrder_10 rfl (lv_at hl 0 rfl) ?_
    refine va_get (D := D) (ci := 0) (v := .ref a) (C := RX2) (T := TX2) (N := 10) hx hb hts inX2 hown hK hP 0 rfl rfl 4 (by decide) (hts (.fieldLink RX2 46 "ByteShapes$Reader" "from" "LByteShapes$Row;") (List.mem_cons_of_mem _ wd_45)) (fun _ h9 => h9) rfl dX2_takeOrder_11 ?_
    refine lv_aload_n hx hb dX2_takeOrder_14 rfl (lv_at hl 0 rfl) ?_
    refine va_get (D := D) (ci := 0) (v := .int (nI t)) (C := RX2) (T := TX2) (N := 10) hx hb hts inX2 hown hK hP 0 rfl rfl 6 (by decide) (hts (.fieldLink RX2 43 "ByteShapes$Reader" "at" "I") (List.mem_cons_of_mem _ wd_46)) (fun _ h9 => h9) rfl dX2_takeOrder_15 ?_
    have hbt := hb256 t
    refine k_ci (wr := [(rd, .inr (0, [.int (nI u), .ref jl, .ref jd, .int (nI w), .ref a, .ref sh, .int (nI t), .int (nI lo), .int (nI wr), .int (nI pl)])), (jl, .inl (cJ, 54, .inr (.inl (lF cl)))), (jd, .inl (cI, 54, .inl (iF cd))), (sh, .inr (2, [.ref sn, .ref sv, .int (nI pn), .int (nI vn)])), (sn, .inl (cI, PN, .inl (iF pf))), (sv, .inl (cI, VN, .inl fv))]) (k_rv F (c_Row_valueAt l D cI cB cJ cS a ab n b t (by omega) hn hb256) (cwV 1 hts (g_V wd_69 wd_70 wd_71 wd_50 wd_72) rfl rfl rfl (by decide +kernel) ⟨Nat.le_of_ble_eq_true rfl, Nat.le_of_ble_eq_true rfl⟩) hK hP hD hS hA hZ [3, 4] rfl (by decide) 3 rfl rfl rfl rfl hl.1 rfl (Nat.le_of_ble_eq_true rfl) dX2_takeOrder_18 ⟨Nat.le_of_ble_eq_true rfl, Nat.le_of_ble_eq_true rfl⟩) hP hD hS hA [3, 4] [0, 1, 2, 5, 6, 7] rfl rfl (by decide) (by decide) (fun r u9 H locs hw hP hD hS => ?_)
    subst hw
    have hP : va_P D kCl [(rd, .inr (0, [.int (nI u), .ref jl, .ref jd, .int (nI w), .ref a, .ref sh, .int (nI t), .int (nI lo), .int (nI wr), .int (nI pl)])), (jl, .inl (cJ, 54, .inr (.inl (lF cl)))), (jd, .inl (cI, 54, .inl (iF cd))), (sh, .inr (2, [.ref sn, .ref sv, .int (nI pn), .int (nI vn)])), (sn, .inl (cI, PN, .inl (iF pf))), (sv, .inl (cI, VN, .inl fv)), (a, .inr (1, [.ref ab, .int (nI n)])), (ab, .inl (cB, 65536, .inl (bF b)))] H := hP
    have hD : va_D A [(rd, .inr (0, [.int (nI u), .ref jl, .ref jd, .int (nI w), .ref a, .ref sh, .int (nI t), .int (nI lo), .int (nI wr), .int (nI pl)])), (jl, .inl (cJ, 54, .inr (.inl (lF cl)))), (jd, .inl (cI, 54, .inl (iF cd))), (sh, .inr (2, [.ref sn, .ref sv, .int (nI pn), .int (nI vn)])), (sn, .inl (cI, PN, .inl (iF pf))), (sv, .inl (cI, VN, .inl fv)), (a, .inr (1, [.ref ab, .int (nI n)])), (ab, .inl (cB, 65536, .inl (bF b)))] := hD
    refine W.widen (k := 0) (n := 0) (Nat.le_of_ble_eq_true rfl) (Nat.le_of_ble_eq_true rfl) ?_
    refine lv_istore_n (lv' := [(1, .int (nI (b t))), (0, .ref rd)]) hx hb dX2_takeOrder_21 rfl hl (by decide) rfl (fun ls hl => ?_)
    refine lv_iload_n hx hb dX2_takeOrder_22 rfl (lv_at hl 0 rfl) ?_
    refine lv_iconst (v := nI 1) hx hb dX2_takeOrder_23 (by decide) ?_
    refine k_icmp_le (tgt := 37) (by omega) (by omega) hx hb dX2_takeOrder_24 (by decide) (fun c71 => ?_) (fun c71 => ?_)
    · skip
      exact absurd c71 (by omega)
    · skip
      refine lv_aload_n hx hb dX2_takeOrder_27 rfl (lv_at hl 1 rfl) ?_
      refine lv_iconst (v := nI 1) hx hb dX2_takeOrder_28 (by decide) ?_
      refine lv_aload_n hx hb dX2_takeOrder_29 rfl (lv_at hl 1 rfl) ?_
      refine va_get (D := D) (ci := 0) (v := .int (nI t)) (C := RX2) (T := TX2) (N := 10) hx hb hts inX2 hown hK hP 0 rfl rfl 6 (by decide) (hts (.fieldLink RX2 43 "ByteShapes$Reader" "at" "I") (List.mem_cons_of_mem _ wd_46)) (fun _ h9 => h9) rfl dX2_takeOrder_30 ?_
      refine k_ci (wr := []) (k_rv F (c_Rd_fail l D cI cB cJ cS rd jl jd a ab sh sn sv u w t lo wr pl n PN pn VN vn cl cd b pf fv (by omega) (by omega) (by omega) (by omega) (by omega) (by omega) (by omega) (by omega) (by omega) hb256 1 t) (cwV 2 hts (g_V wd_52 wd_53 wd_54 wd_55 wd_56) rfl rfl rfl (by decide +kernel) ⟨Nat.le_of_ble_eq_true rfl, Nat.le_of_ble_eq_true rfl⟩) hK hP hD hS hA hZ [0, 1, 2, 6, 7, 3, 4, 5] rfl (by decide) 0 rfl rfl rfl rfl hl.1 rfl (Nat.le_of_ble_eq_true rfl) dX2_takeOrder_33 ⟨Nat.le_of_ble_eq_true rfl, Nat.le_of_ble_eq_true rfl⟩) hP hD hS hA [0, 1, 2, 6, 7, 3, 4, 5] [] rfl rfl (by decide) (by decide) (fun r u9 H locs hw hP hD hS => ?_)
      subst hw
      have hP : va_P D kCl [(rd, .inr (0, [.int (nI u), .ref jl, .ref jd, .int (nI w), .ref a, .ref sh, .int (nI t), .int (nI lo), .int (nI 1), .int (nI t)])), (jl, .inl (cJ, 54, .inr (.inl (lF cl)))), (jd, .inl (cI, 54, .inl (iF cd))), (a, .inr (1, [.ref ab, .int (nI n)])), (ab, .inl (cB, 65536, .inl (bF b))), (sh, .inr (2, [.ref sn, .ref sv, .int (nI pn), .int (nI vn)])), (sn, .inl (cI, PN, .inl (iF pf))), (sv, .inl (cI, VN, .inl fv))] H := hP
      have hD : va_D A [(rd, .inr (0, [.int (nI u), .ref jl, .ref jd, .int (nI w), .ref a, .ref sh, .int (nI t), .int (nI lo), .int (nI 1), .int (nI t)])), (jl, .inl (cJ, 54, .inr (.inl (lF cl)))), (jd, .inl (cI, 54, .inl (iF cd))), (a, .inr (1, [.ref ab, .int (nI n)])), (ab, .inl (cB, 65536, .inl (bF b))), (sh, .inr (2, [.ref sn, .ref sv, .int (nI pn), .int (nI vn)])), (sn, .inl (cI, PN, .inl (iF pf))), (sv, .inl (cI, VN, .inl fv))] := hD
      refine W.widen (k := 0) (n := 0) (Nat.le_of_ble_eq_true rfl) (Nat.le_of_ble_eq_true rfl) ?_
      exact k_iret () hx hb hr (by first | rfl | decide | exact vp_nar_int _) hlocks hK hP hD hS (rfl) (rfl) (Nat.le_of_ble_eq_true rfl) (Nat.le_of_ble_eq_true rfl) dX2_takeOrder_36
  · skip
    exact absurd c70 (by omega)

set_option maxRecDepth 100000 in
set_option maxHeartbeats 4000000 in
theorem c_Rd_takeOrderO (l : Launch) (D : va_G) (cI cB cJ cS : ClassId) (rd jl jd a ab sh sn sv u w t lo wr pl n PN pn VN vn : Nat) (cl cd b pf : Nat → Nat) (fv : Nat → Int32) (ht : t ≤ n) (hn : n ≤ 65536) (hlo2 : lo < 2) (hw : w ≤ 54) (hPN : PN ≤ 4096) (hpn : pn ≤ PN) (hVN : VN ≤ 8192) (hvn : vn ≤ VN) (h2 : 2 ≤ VN) (hb256 : ∀ j, b j < 256) (hyes : t < n) (hok : b t ≤ 1)  : kM l yX2_takeOrder vsX2_takeOrder ({ frames := 2, cells := 0, slots := 0, locals := 41 }) D (kT cI cB cJ cS) [.ref rd] [(rd, .inr (0, [.int (nI u), .ref jl, .ref jd, .int (nI w), .ref a, .ref sh, .int (nI t), .int (nI lo), .int (nI wr), .int (nI pl)])), (jl, .inl (cJ, 54, .inr (.inl (lF cl)))), (jd, .inl (cI, 54, .inl (iF cd))), (a, .inr (1, [.ref ab, .int (nI n)])), (ab, .inl (cB, 65536, .inl (bF b))), (sh, .inr (2, [.ref sn, .ref sv, .int (nI pn), .int (nI vn)])), (sn, .inl (cI, PN, .inl (iF pf))), (sv, .inl (cI, VN, .inl fv))] (kQi D (kT cI cB cJ cS) (fun r (ug : Unit) => r = nI 1) (fun ug => [(rd, .inr (0, [.int (nI u), .ref jl, .ref jd, .int (nI w), .ref a, .ref sh, .int (nI (t + 1)), .int (nI (b t)), .int (nI wr), .int (nI pl)])), (jl, .inl (cJ, 54, .inr (.inl (lF cl)))), (jd, .inl (cI, 54, .inl (iF cd))), (a, .inr (1, [.ref ab, .int (nI n)])), (ab, .inl (cB, 65536, .inl (bF b))), (sh, .inr (2, [.ref sn, .ref sv, .int (nI pn), .int (nI vn)])), (sn, .inl (cI, PN, .inl (iF pf))), (sv, .inl (cI, VN, .inl fv))])) := by
  refine k_ofW (by decide) rfl (Nat.le_of_ble_eq_true rfl) ?_
  intro p e s m below meth c A ls hx hb hr hts hown hlocks hmn hml hA hP hK hD hS hZ hl
  have inX2 : ∀ w ∈ wsX20, w ∈ vsX2_takeOrder := fun w h => List.mem_cons_of_mem _ (iaX2 w h)
  have inX3 : ∀ w ∈ wsX30, w ∈ vsX2_takeOrder := fun w h => List.mem_cons_of_mem _ (iaX3 w h)
  have inX4 : ∀ w ∈ wsX40, w ∈ vsX2_takeOrder := fun w h => List.mem_cons_of_mem _ (iaX4 w h)
  have F : CallFix p m c cX2_takeOrder 2 s _ vsX2_takeOrder RX2 := ⟨hx, hb, hml, hown, hts⟩
  have hl : lv_has ls 2 [(0, .ref rd)] := hl
  refine lv_aload_n hx hb dX2_takeOrder_0 rfl (lv_at hl 0 rfl) ?_
  refine lv_iconst (v := nI 1) hx hb dX2_takeOrder_1 (by decide) ?_
  refine k_ci (wr := []) (k_rv F (c_Rd_isThere1 l D cI cB cJ cS rd jl jd a ab sh sn sv u w t lo wr pl n PN pn VN vn cl cd b pf fv (by omega) (by omega) (by omega) (by omega) (by omega) (by omega) (by omega) (by omega) (by omega) hb256 1 (by omega) (by omega)) (cwV 1 hts (g_V wd_65 wd_66 wd_67 wd_55 wd_68) rfl rfl rfl (by decide +kernel) ⟨Nat.le_of_ble_eq_true rfl, Nat.le_of_ble_eq_true rfl⟩) hK hP hD hS hA hZ [0, 1, 2, 3, 4, 5, 6, 7] rfl (by decide) 0 rfl rfl rfl rfl hl.1 rfl (Nat.le_of_ble_eq_true rfl) dX2_takeOrder_2 ⟨Nat.le_of_ble_eq_true rfl, Nat.le_of_ble_eq_true rfl⟩) hP hD hS hA [0, 1, 2, 3, 4, 5, 6, 7] [] rfl rfl (by decide) (by decide) (fun r u9 H locs hw hP hD hS => ?_)
  subst hw
  have hP : va_P D kCl [(rd, .inr (0, [.int (nI u), .ref jl, .ref jd, .int (nI w), .ref a, .ref sh, .int (nI t), .int (nI lo), .int (nI wr), .int (nI pl)])), (jl, .inl (cJ, 54, .inr (.inl (lF cl)))), (jd, .inl (cI, 54, .inl (iF cd))), (a, .inr (1, [.ref ab, .int (nI n)])), (ab, .inl (cB, 65536, .inl (bF b))), (sh, .inr (2, [.ref sn, .ref sv, .int (nI pn), .int (nI vn)])), (sn, .inl (cI, PN, .inl (iF pf))), (sv, .inl (cI, VN, .inl fv))] H := hP
  have hD : va_D A [(rd, .inr (0, [.int (nI u), .ref jl, .ref jd, .int (nI w), .ref a, .ref sh, .int (nI t), .int (nI lo), .int (nI wr), .int (nI pl)])), (jl, .inl (cJ, 54, .inr (.inl (lF cl)))), (jd, .inl (cI, 54, .inl (iF cd))), (a, .inr (1, [.ref ab, .int (nI n)])), (ab, .inl (cB, 65536, .inl (bF b))), (sh, .inr (2, [.ref sn, .ref sv, .int (nI pn), .int (nI vn)])), (sn, .inl (cI, PN, .inl (iF pf))), (sv, .inl (cI, VN, .inl fv))] := hD
  refine W.widen (k := 0) (n := 0) (Nat.le_of_ble_eq_true rfl) (Nat.le_of_ble_eq_true rfl) ?_
  refine k_if_ne (tgt := 10) (by omega) hx hb dX2_takeOrder_5 (by decide) (fun c72 => ?_) (fun c72 => ?_)
  · skip
    refine lv_aload_n hx hb dX2_takeOrder_10 rfl (lv_at hl 0 rfl) ?_
    refine va_get (D := D) (ci := 0) (v := .ref a) (C := RX2) (T := TX2) (N := 10) hx hb hts inX2 hown hK hP 0 rfl rfl 4 (by decide) (hts (.fieldLink RX2 46 "ByteShapes$Reader" "from" "LByteShapes$Row;") (List.mem_cons_of_mem _ wd_45)) (fun _ h9 => h9) rfl dX2_takeOrder_11 ?_
    refine lv_aload_n hx hb dX2_takeOrder_14 rfl (lv_at hl 0 rfl) ?_
    refine va_get (D := D) (ci := 0) (v := .int (nI t)) (C := RX2) (T := TX2) (N := 10) hx hb hts inX2 hown hK hP 0 rfl rfl 6 (by decide) (hts (.fieldLink RX2 43 "ByteShapes$Reader" "at" "I") (List.mem_cons_of_mem _ wd_46)) (fun _ h9 => h9) rfl dX2_takeOrder_15 ?_
    refine k_ci (wr := [(rd, .inr (0, [.int (nI u), .ref jl, .ref jd, .int (nI w), .ref a, .ref sh, .int (nI t), .int (nI lo), .int (nI wr), .int (nI pl)])), (jl, .inl (cJ, 54, .inr (.inl (lF cl)))), (jd, .inl (cI, 54, .inl (iF cd))), (sh, .inr (2, [.ref sn, .ref sv, .int (nI pn), .int (nI vn)])), (sn, .inl (cI, PN, .inl (iF pf))), (sv, .inl (cI, VN, .inl fv))]) (k_rv F (c_Row_valueAt l D cI cB cJ cS a ab n b t (by omega) hn hb256) (cwV 1 hts (g_V wd_69 wd_70 wd_71 wd_50 wd_72) rfl rfl rfl (by decide +kernel) ⟨Nat.le_of_ble_eq_true rfl, Nat.le_of_ble_eq_true rfl⟩) hK hP hD hS hA hZ [3, 4] rfl (by decide) 3 rfl rfl rfl rfl hl.1 rfl (Nat.le_of_ble_eq_true rfl) dX2_takeOrder_18 ⟨Nat.le_of_ble_eq_true rfl, Nat.le_of_ble_eq_true rfl⟩) hP hD hS hA [3, 4] [0, 1, 2, 5, 6, 7] rfl rfl (by decide) (by decide) (fun r u9 H locs hw hP hD hS => ?_)
    subst hw
    have hP : va_P D kCl [(rd, .inr (0, [.int (nI u), .ref jl, .ref jd, .int (nI w), .ref a, .ref sh, .int (nI t), .int (nI lo), .int (nI wr), .int (nI pl)])), (jl, .inl (cJ, 54, .inr (.inl (lF cl)))), (jd, .inl (cI, 54, .inl (iF cd))), (sh, .inr (2, [.ref sn, .ref sv, .int (nI pn), .int (nI vn)])), (sn, .inl (cI, PN, .inl (iF pf))), (sv, .inl (cI, VN, .inl fv)), (a, .inr (1, [.ref ab, .int (nI n)])), (ab, .inl (cB, 65536, .inl (bF b)))] H := hP
    have hD : va_D A [(rd, .inr (0, [.int (nI u), .ref jl, .ref jd, .int (nI w), .ref a, .ref sh, .int (nI t), .int (nI lo), .int (nI wr), .int (nI pl)])), (jl, .inl (cJ, 54, .inr (.inl (lF cl)))), (jd, .inl (cI, 54, .inl (iF cd))), (sh, .inr (2, [.ref sn, .ref sv, .int (nI pn), .int (nI vn)])), (sn, .inl (cI, PN, .inl (iF pf))), (sv, .inl (cI, VN, .inl fv)), (a, .inr (1, [.ref ab, .int (nI n)])), (ab, .inl (cB, 65536, .inl (bF b)))] := hD
    refine W.widen (k := 0) (n := 0) (Nat.le_of_ble_eq_true rfl) (Nat.le_of_ble_eq_true rfl) ?_
    refine lv_istore_n (lv' := [(1, .int (nI (b t))), (0, .ref rd)]) hx hb dX2_takeOrder_21 rfl hl (by decide) rfl (fun ls hl => ?_)
    refine lv_iload_n hx hb dX2_takeOrder_22 rfl (lv_at hl 0 rfl) ?_
    refine lv_iconst (v := nI 1) hx hb dX2_takeOrder_23 (by decide) ?_
    refine k_icmp_le (tgt := 37) (by omega) (by omega) hx hb dX2_takeOrder_24 (by decide) (fun c73 => ?_) (fun c73 => ?_)
    · skip
      refine lv_aload_n hx hb dX2_takeOrder_37 rfl (lv_at hl 1 rfl) ?_
      refine lv_iload_n hx hb dX2_takeOrder_38 rfl (lv_at hl 0 rfl) ?_
      refine lv_iconst (v := nI 1) hx hb dX2_takeOrder_39 (by decide) ?_
      refine k_icmp_ne (tgt := 47) (by omega) (by omega) hx hb dX2_takeOrder_40 (by decide) (fun c74 => ?_) (fun c74 => ?_)
      · skip
        refine lv_iconst (v := nI 0) hx hb dX2_takeOrder_47 (by decide) ?_
        refine k_i (show _ = nI (b t) from congrArg nI (by omega)) ?_
        refine va_put (D := D) (ci := 0) (v := .int (nI (b t))) (ty := .boolean) (C := RX2) (T := TX2) (N := 10) hx hb hts inX2 tyX2 tyX2_ok nmX2 hown hK hP hD hS 0 rfl rfl 7 (by decide) (hts (.fieldLink RX2 85 "ByteShapes$Reader" "lowFirst" "Z") (List.mem_cons_of_mem _ wd_57)) (fun _ h9 => h9) rfl (by decide +kernel) (by rcases (show b t = 0 ∨ b t = 1 by omega) with q | q <;> rw [q] <;> rfl) ((by rcases (show b t = 0 ∨ b t = 1 by omega) with q | q <;> rw [q] <;> rfl)) (Nat.le_of_ble_eq_true rfl) dX2_takeOrder_48 (fun H locs hP hD hS => ?_)
        have hP : va_P D kCl [(rd, .inr (0, [.int (nI u), .ref jl, .ref jd, .int (nI w), .ref a, .ref sh, .int (nI t), .int (nI (b t)), .int (nI wr), .int (nI pl)])), (jl, .inl (cJ, 54, .inr (.inl (lF cl)))), (jd, .inl (cI, 54, .inl (iF cd))), (sh, .inr (2, [.ref sn, .ref sv, .int (nI pn), .int (nI vn)])), (sn, .inl (cI, PN, .inl (iF pf))), (sv, .inl (cI, VN, .inl fv)), (a, .inr (1, [.ref ab, .int (nI n)])), (ab, .inl (cB, 65536, .inl (bF b)))] H := hP
        have hD : va_D A [(rd, .inr (0, [.int (nI u), .ref jl, .ref jd, .int (nI w), .ref a, .ref sh, .int (nI t), .int (nI (b t)), .int (nI wr), .int (nI pl)])), (jl, .inl (cJ, 54, .inr (.inl (lF cl)))), (jd, .inl (cI, 54, .inl (iF cd))), (sh, .inr (2, [.ref sn, .ref sv, .int (nI pn), .int (nI vn)])), (sn, .inl (cI, PN, .inl (iF pf))), (sv, .inl (cI, VN, .inl fv)), (a, .inr (1, [.ref ab, .int (nI n)])), (ab, .inl (cB, 65536, .inl (bF b)))] := hD
        refine lv_aload_n hx hb dX2_takeOrder_51 rfl (lv_at hl 1 rfl) ?_
        refine lv_dup hx hb dX2_takeOrder_52 rfl ?_
        refine va_get (D := D) (ci := 0) (v := .int (nI t)) (C := RX2) (T := TX2) (N := 10) hx hb hts inX2 hown hK hP 0 rfl rfl 6 (by decide) (hts (.fieldLink RX2 43 "ByteShapes$Reader" "at" "I") (List.mem_cons_of_mem _ wd_46)) (fun _ h9 => h9) rfl dX2_takeOrder_53 ?_
        refine lv_iconst (v := nI 1) hx hb dX2_takeOrder_56 (by decide) ?_
        refine lv_iadd hx hb dX2_takeOrder_57 ?_
        refine k_i (show _ = nI (t + 1) from nI_add _ _) ?_
        refine va_put (D := D) (ci := 0) (v := .int (nI (t + 1))) (ty := .int) (C := RX2) (T := TX2) (N := 10) hx hb hts inX2 tyX2 tyX2_ok nmX2 hown hK hP hD hS 0 rfl rfl 6 (by decide) (hts (.fieldLink RX2 43 "ByteShapes$Reader" "at" "I") (List.mem_cons_of_mem _ wd_46)) (fun _ h9 => h9) rfl (by decide +kernel) (rfl) (rfl) (Nat.le_of_ble_eq_true rfl) dX2_takeOrder_58 (fun H locs hP hD hS => ?_)
        have hP : va_P D kCl [(rd, .inr (0, [.int (nI u), .ref jl, .ref jd, .int (nI w), .ref a, .ref sh, .int (nI (t + 1)), .int (nI (b t)), .int (nI wr), .int (nI pl)])), (jl, .inl (cJ, 54, .inr (.inl (lF cl)))), (jd, .inl (cI, 54, .inl (iF cd))), (sh, .inr (2, [.ref sn, .ref sv, .int (nI pn), .int (nI vn)])), (sn, .inl (cI, PN, .inl (iF pf))), (sv, .inl (cI, VN, .inl fv)), (a, .inr (1, [.ref ab, .int (nI n)])), (ab, .inl (cB, 65536, .inl (bF b)))] H := hP
        have hD : va_D A [(rd, .inr (0, [.int (nI u), .ref jl, .ref jd, .int (nI w), .ref a, .ref sh, .int (nI (t + 1)), .int (nI (b t)), .int (nI wr), .int (nI pl)])), (jl, .inl (cJ, 54, .inr (.inl (lF cl)))), (jd, .inl (cI, 54, .inl (iF cd))), (sh, .inr (2, [.ref sn, .ref sv, .int (nI pn), .int (nI vn)])), (sn, .inl (cI, PN, .inl (iF pf))), (sv, .inl (cI, VN, .inl fv)), (a, .inr (1, [.ref ab, .int (nI n)])), (ab, .inl (cB, 65536, .inl (bF b)))] := hD
        refine lv_iconst (v := nI 1) hx hb dX2_takeOrder_61 (by decide) ?_
        have hP : va_P D kCl [(rd, .inr (0, [.int (nI u), .ref jl, .ref jd, .int (nI w), .ref a, .ref sh, .int (nI (t + 1)), .int (nI (b t)), .int (nI wr), .int (nI pl)])), (jl, .inl (cJ, 54, .inr (.inl (lF cl)))), (jd, .inl (cI, 54, .inl (iF cd))), (a, .inr (1, [.ref ab, .int (nI n)])), (ab, .inl (cB, 65536, .inl (bF b))), (sh, .inr (2, [.ref sn, .ref sv, .int (nI pn), .int (nI vn)])), (sn, .inl (cI, PN, .inl (iF pf))), (sv, .inl (cI, VN, .inl fv))] H := hP.sub [0, 1, 2, 6, 7, 3, 4, 5] rfl
        have hD : va_D A [(rd, .inr (0, [.int (nI u), .ref jl, .ref jd, .int (nI w), .ref a, .ref sh, .int (nI (t + 1)), .int (nI (b t)), .int (nI wr), .int (nI pl)])), (jl, .inl (cJ, 54, .inr (.inl (lF cl)))), (jd, .inl (cI, 54, .inl (iF cd))), (a, .inr (1, [.ref ab, .int (nI n)])), (ab, .inl (cB, 65536, .inl (bF b))), (sh, .inr (2, [.ref sn, .ref sv, .int (nI pn), .int (nI vn)])), (sn, .inl (cI, PN, .inl (iF pf))), (sv, .inl (cI, VN, .inl fv))] := hD.sub [0, 1, 2, 6, 7, 3, 4, 5] (by decide) rfl
        exact k_iret () hx hb hr (by first | rfl | decide | exact vp_nar_int _) hlocks hK hP hD hS (rfl) (rfl) (Nat.le_of_ble_eq_true rfl) (Nat.le_of_ble_eq_true rfl) dX2_takeOrder_62
      · skip
        refine lv_iconst (v := nI 1) hx hb dX2_takeOrder_43 (by decide) ?_
        refine lv_goto (tgt := 48) hx hb dX2_takeOrder_44 (by decide) ?_
        refine k_i (show _ = nI (b t) from congrArg nI (by omega)) ?_
        refine va_put (D := D) (ci := 0) (v := .int (nI (b t))) (ty := .boolean) (C := RX2) (T := TX2) (N := 10) hx hb hts inX2 tyX2 tyX2_ok nmX2 hown hK hP hD hS 0 rfl rfl 7 (by decide) (hts (.fieldLink RX2 85 "ByteShapes$Reader" "lowFirst" "Z") (List.mem_cons_of_mem _ wd_57)) (fun _ h9 => h9) rfl (by decide +kernel) (by rcases (show b t = 0 ∨ b t = 1 by omega) with q | q <;> rw [q] <;> rfl) ((by rcases (show b t = 0 ∨ b t = 1 by omega) with q | q <;> rw [q] <;> rfl)) (Nat.le_of_ble_eq_true rfl) dX2_takeOrder_48 (fun H locs hP hD hS => ?_)
        have hP : va_P D kCl [(rd, .inr (0, [.int (nI u), .ref jl, .ref jd, .int (nI w), .ref a, .ref sh, .int (nI t), .int (nI (b t)), .int (nI wr), .int (nI pl)])), (jl, .inl (cJ, 54, .inr (.inl (lF cl)))), (jd, .inl (cI, 54, .inl (iF cd))), (sh, .inr (2, [.ref sn, .ref sv, .int (nI pn), .int (nI vn)])), (sn, .inl (cI, PN, .inl (iF pf))), (sv, .inl (cI, VN, .inl fv)), (a, .inr (1, [.ref ab, .int (nI n)])), (ab, .inl (cB, 65536, .inl (bF b)))] H := hP
        have hD : va_D A [(rd, .inr (0, [.int (nI u), .ref jl, .ref jd, .int (nI w), .ref a, .ref sh, .int (nI t), .int (nI (b t)), .int (nI wr), .int (nI pl)])), (jl, .inl (cJ, 54, .inr (.inl (lF cl)))), (jd, .inl (cI, 54, .inl (iF cd))), (sh, .inr (2, [.ref sn, .ref sv, .int (nI pn), .int (nI vn)])), (sn, .inl (cI, PN, .inl (iF pf))), (sv, .inl (cI, VN, .inl fv)), (a, .inr (1, [.ref ab, .int (nI n)])), (ab, .inl (cB, 65536, .inl (bF b)))] := hD
        refine lv_aload_n hx hb dX2_takeOrder_51 rfl (lv_at hl 1 rfl) ?_
        refine lv_dup hx hb dX2_takeOrder_52 rfl ?_
        refine va_get (D := D) (ci := 0) (v := .int (nI t)) (C := RX2) (T := TX2) (N := 10) hx hb hts inX2 hown hK hP 0 rfl rfl 6 (by decide) (hts (.fieldLink RX2 43 "ByteShapes$Reader" "at" "I") (List.mem_cons_of_mem _ wd_46)) (fun _ h9 => h9) rfl dX2_takeOrder_53 ?_
        refine lv_iconst (v := nI 1) hx hb dX2_takeOrder_56 (by decide) ?_
        refine lv_iadd hx hb dX2_takeOrder_57 ?_
        refine k_i (show _ = nI (t + 1) from nI_add _ _) ?_
        refine va_put (D := D) (ci := 0) (v := .int (nI (t + 1))) (ty := .int) (C := RX2) (T := TX2) (N := 10) hx hb hts inX2 tyX2 tyX2_ok nmX2 hown hK hP hD hS 0 rfl rfl 6 (by decide) (hts (.fieldLink RX2 43 "ByteShapes$Reader" "at" "I") (List.mem_cons_of_mem _ wd_46)) (fun _ h9 => h9) rfl (by decide +kernel) (rfl) (rfl) (Nat.le_of_ble_eq_true rfl) dX2_takeOrder_58 (fun H locs hP hD hS => ?_)
        have hP : va_P D kCl [(rd, .inr (0, [.int (nI u), .ref jl, .ref jd, .int (nI w), .ref a, .ref sh, .int (nI (t + 1)), .int (nI (b t)), .int (nI wr), .int (nI pl)])), (jl, .inl (cJ, 54, .inr (.inl (lF cl)))), (jd, .inl (cI, 54, .inl (iF cd))), (sh, .inr (2, [.ref sn, .ref sv, .int (nI pn), .int (nI vn)])), (sn, .inl (cI, PN, .inl (iF pf))), (sv, .inl (cI, VN, .inl fv)), (a, .inr (1, [.ref ab, .int (nI n)])), (ab, .inl (cB, 65536, .inl (bF b)))] H := hP
        have hD : va_D A [(rd, .inr (0, [.int (nI u), .ref jl, .ref jd, .int (nI w), .ref a, .ref sh, .int (nI (t + 1)), .int (nI (b t)), .int (nI wr), .int (nI pl)])), (jl, .inl (cJ, 54, .inr (.inl (lF cl)))), (jd, .inl (cI, 54, .inl (iF cd))), (sh, .inr (2, [.ref sn, .ref sv, .int (nI pn), .int (nI vn)])), (sn, .inl (cI, PN, .inl (iF pf))), (sv, .inl (cI, VN, .inl fv)), (a, .inr (1, [.ref ab, .int (nI n)])), (ab, .inl (cB, 65536, .inl (bF b)))] := hD
        refine lv_iconst (v := nI 1) hx hb dX2_takeOrder_61 (by decide) ?_
        have hP : va_P D kCl [(rd, .inr (0, [.int (nI u), .ref jl, .ref jd, .int (nI w), .ref a, .ref sh, .int (nI (t + 1)), .int (nI (b t)), .int (nI wr), .int (nI pl)])), (jl, .inl (cJ, 54, .inr (.inl (lF cl)))), (jd, .inl (cI, 54, .inl (iF cd))), (a, .inr (1, [.ref ab, .int (nI n)])), (ab, .inl (cB, 65536, .inl (bF b))), (sh, .inr (2, [.ref sn, .ref sv, .int (nI pn), .int (nI vn)])), (sn, .inl (cI, PN, .inl (iF pf))), (sv, .inl (cI, VN, .inl fv))] H := hP.sub [0, 1, 2, 6, 7, 3, 4, 5] rfl
        have hD : va_D A [(rd, .inr (0, [.int (nI u), .ref jl, .ref jd, .int (nI w), .ref a, .ref sh, .int (nI (t + 1)), .int (nI (b t)), .int (nI wr), .int (nI pl)])), (jl, .inl (cJ, 54, .inr (.inl (lF cl)))), (jd, .inl (cI, 54, .inl (iF cd))), (a, .inr (1, [.ref ab, .int (nI n)])), (ab, .inl (cB, 65536, .inl (bF b))), (sh, .inr (2, [.ref sn, .ref sv, .int (nI pn), .int (nI vn)])), (sn, .inl (cI, PN, .inl (iF pf))), (sv, .inl (cI, VN, .inl fv))] := hD.sub [0, 1, 2, 6, 7, 3, 4, 5] (by decide) rfl
        exact k_iret () hx hb hr (by first | rfl | decide | exact vp_nar_int _) hlocks hK hP hD hS (rfl) (rfl) (Nat.le_of_ble_eq_true rfl) (Nat.le_of_ble_eq_true rfl) dX2_takeOrder_62
    · skip
      exact absurd c73 (by omega)
  · skip
    exact absurd c72 (by omega)

set_option maxRecDepth 100000 in
set_option maxHeartbeats 4000000 in
theorem c_Rd_passMark1 (l : Launch) (D : va_G) (cI cB cJ cS : ClassId) (rd jl jd a ab sh sn sv u w t lo wr pl n PN pn VN vn : Nat) (cl cd b pf : Nat → Nat) (fv : Nat → Int32) (ht : t ≤ n) (hn : n ≤ 65536) (hlo2 : lo < 2) (hw : w ≤ 54) (hPN : PN ≤ 4096) (hpn : pn ≤ PN) (hVN : VN ≤ 8192) (hvn : vn ≤ VN) (h2 : 2 ≤ VN) (hb256 : ∀ j, b j < 256) (hyes : t + 4 ≤ n)  : kM l yX2_passMark vsX2_passMark ({ frames := 2, cells := 0, slots := 0, locals := 41 }) D (kT cI cB cJ cS) [.ref rd] [(rd, .inr (0, [.int (nI u), .ref jl, .ref jd, .int (nI w), .ref a, .ref sh, .int (nI t), .int (nI lo), .int (nI wr), .int (nI pl)])), (jl, .inl (cJ, 54, .inr (.inl (lF cl)))), (jd, .inl (cI, 54, .inl (iF cd))), (a, .inr (1, [.ref ab, .int (nI n)])), (ab, .inl (cB, 65536, .inl (bF b))), (sh, .inr (2, [.ref sn, .ref sv, .int (nI pn), .int (nI vn)])), (sn, .inl (cI, PN, .inl (iF pf))), (sv, .inl (cI, VN, .inl fv))] (kQi D (kT cI cB cJ cS) (fun r (ug : Unit) => r = nI 1) (fun ug => [(rd, .inr (0, [.int (nI u), .ref jl, .ref jd, .int (nI w), .ref a, .ref sh, .int (nI (t + 4)), .int (nI lo), .int (nI wr), .int (nI pl)])), (jl, .inl (cJ, 54, .inr (.inl (lF cl)))), (jd, .inl (cI, 54, .inl (iF cd))), (a, .inr (1, [.ref ab, .int (nI n)])), (ab, .inl (cB, 65536, .inl (bF b))), (sh, .inr (2, [.ref sn, .ref sv, .int (nI pn), .int (nI vn)])), (sn, .inl (cI, PN, .inl (iF pf))), (sv, .inl (cI, VN, .inl fv))])) := by
  refine k_ofW (by decide) rfl (Nat.le_of_ble_eq_true rfl) ?_
  intro p e s m below meth c A ls hx hb hr hts hown hlocks hmn hml hA hP hK hD hS hZ hl
  have inX2 : ∀ w ∈ wsX20, w ∈ vsX2_passMark := fun w h => List.mem_cons_of_mem _ (iaX2 w h)
  have inX3 : ∀ w ∈ wsX30, w ∈ vsX2_passMark := fun w h => List.mem_cons_of_mem _ (iaX3 w h)
  have inX4 : ∀ w ∈ wsX40, w ∈ vsX2_passMark := fun w h => List.mem_cons_of_mem _ (iaX4 w h)
  have F : CallFix p m c cX2_passMark 1 s _ vsX2_passMark RX2 := ⟨hx, hb, hml, hown, hts⟩
  have hl : lv_has ls 1 [(0, .ref rd)] := hl
  refine lv_aload_n hx hb dX2_passMark_0 rfl (lv_at hl 0 rfl) ?_
  refine lv_iconst (v := nI 4) hx hb dX2_passMark_1 (by decide) ?_
  refine k_ci (wr := []) (k_rv F (c_Rd_isThere1 l D cI cB cJ cS rd jl jd a ab sh sn sv u w t lo wr pl n PN pn VN vn cl cd b pf fv (by omega) (by omega) (by omega) (by omega) (by omega) (by omega) (by omega) (by omega) (by omega) hb256 4 (by omega) hyes) (cwV 1 hts (g_V wd_65 wd_66 wd_67 wd_55 wd_68) rfl rfl rfl (by decide +kernel) ⟨Nat.le_of_ble_eq_true rfl, Nat.le_of_ble_eq_true rfl⟩) hK hP hD hS hA hZ [0, 1, 2, 3, 4, 5, 6, 7] rfl (by decide) 0 rfl rfl rfl rfl hl.1 rfl (Nat.le_of_ble_eq_true rfl) dX2_passMark_2 ⟨Nat.le_of_ble_eq_true rfl, Nat.le_of_ble_eq_true rfl⟩) hP hD hS hA [0, 1, 2, 3, 4, 5, 6, 7] [] rfl rfl (by decide) (by decide) (fun r u9 H locs hw hP hD hS => ?_)
  subst hw
  have hP : va_P D kCl [(rd, .inr (0, [.int (nI u), .ref jl, .ref jd, .int (nI w), .ref a, .ref sh, .int (nI t), .int (nI lo), .int (nI wr), .int (nI pl)])), (jl, .inl (cJ, 54, .inr (.inl (lF cl)))), (jd, .inl (cI, 54, .inl (iF cd))), (a, .inr (1, [.ref ab, .int (nI n)])), (ab, .inl (cB, 65536, .inl (bF b))), (sh, .inr (2, [.ref sn, .ref sv, .int (nI pn), .int (nI vn)])), (sn, .inl (cI, PN, .inl (iF pf))), (sv, .inl (cI, VN, .inl fv))] H := hP
  have hD : va_D A [(rd, .inr (0, [.int (nI u), .ref jl, .ref jd, .int (nI w), .ref a, .ref sh, .int (nI t), .int (nI lo), .int (nI wr), .int (nI pl)])), (jl, .inl (cJ, 54, .inr (.inl (lF cl)))), (jd, .inl (cI, 54, .inl (iF cd))), (a, .inr (1, [.ref ab, .int (nI n)])), (ab, .inl (cB, 65536, .inl (bF b))), (sh, .inr (2, [.ref sn, .ref sv, .int (nI pn), .int (nI vn)])), (sn, .inl (cI, PN, .inl (iF pf))), (sv, .inl (cI, VN, .inl fv))] := hD
  refine W.widen (k := 0) (n := 0) (Nat.le_of_ble_eq_true rfl) (Nat.le_of_ble_eq_true rfl) ?_
  refine k_if_ne (tgt := 10) (by omega) hx hb dX2_passMark_5 (by decide) (fun c75 => ?_) (fun c75 => ?_)
  · skip
    refine lv_aload_n hx hb dX2_passMark_10 rfl (lv_at hl 0 rfl) ?_
    refine lv_dup hx hb dX2_passMark_11 rfl ?_
    refine va_get (D := D) (ci := 0) (v := .int (nI t)) (C := RX2) (T := TX2) (N := 10) hx hb hts inX2 hown hK hP 0 rfl rfl 6 (by decide) (hts (.fieldLink RX2 43 "ByteShapes$Reader" "at" "I") (List.mem_cons_of_mem _ wd_46)) (fun _ h9 => h9) rfl dX2_passMark_12 ?_
    refine lv_iconst (v := nI 4) hx hb dX2_passMark_15 (by decide) ?_
    refine lv_iadd hx hb dX2_passMark_16 ?_
    refine k_i (show _ = nI (t + 4) from nI_add _ _) ?_
    refine va_put (D := D) (ci := 0) (v := .int (nI (t + 4))) (ty := .int) (C := RX2) (T := TX2) (N := 10) hx hb hts inX2 tyX2 tyX2_ok nmX2 hown hK hP hD hS 0 rfl rfl 6 (by decide) (hts (.fieldLink RX2 43 "ByteShapes$Reader" "at" "I") (List.mem_cons_of_mem _ wd_46)) (fun _ h9 => h9) rfl (by decide +kernel) (rfl) (rfl) (Nat.le_of_ble_eq_true rfl) dX2_passMark_17 (fun H locs hP hD hS => ?_)
    have hP : va_P D kCl [(rd, .inr (0, [.int (nI u), .ref jl, .ref jd, .int (nI w), .ref a, .ref sh, .int (nI (t + 4)), .int (nI lo), .int (nI wr), .int (nI pl)])), (jl, .inl (cJ, 54, .inr (.inl (lF cl)))), (jd, .inl (cI, 54, .inl (iF cd))), (a, .inr (1, [.ref ab, .int (nI n)])), (ab, .inl (cB, 65536, .inl (bF b))), (sh, .inr (2, [.ref sn, .ref sv, .int (nI pn), .int (nI vn)])), (sn, .inl (cI, PN, .inl (iF pf))), (sv, .inl (cI, VN, .inl fv))] H := hP
    have hD : va_D A [(rd, .inr (0, [.int (nI u), .ref jl, .ref jd, .int (nI w), .ref a, .ref sh, .int (nI (t + 4)), .int (nI lo), .int (nI wr), .int (nI pl)])), (jl, .inl (cJ, 54, .inr (.inl (lF cl)))), (jd, .inl (cI, 54, .inl (iF cd))), (a, .inr (1, [.ref ab, .int (nI n)])), (ab, .inl (cB, 65536, .inl (bF b))), (sh, .inr (2, [.ref sn, .ref sv, .int (nI pn), .int (nI vn)])), (sn, .inl (cI, PN, .inl (iF pf))), (sv, .inl (cI, VN, .inl fv))] := hD
    refine lv_iconst (v := nI 1) hx hb dX2_passMark_20 (by decide) ?_
    exact k_iret () hx hb hr (by first | rfl | decide | exact vp_nar_int _) hlocks hK hP hD hS (rfl) (rfl) (Nat.le_of_ble_eq_true rfl) (Nat.le_of_ble_eq_true rfl) dX2_passMark_21
  · skip
    exact absurd c75 (by omega)

set_option maxRecDepth 100000 in
set_option maxHeartbeats 4000000 in
theorem c_Rd_passMark0 (l : Launch) (D : va_G) (cI cB cJ cS : ClassId) (rd jl jd a ab sh sn sv u w t lo wr pl n PN pn VN vn : Nat) (cl cd b pf : Nat → Nat) (fv : Nat → Int32) (ht : t ≤ n) (hn : n ≤ 65536) (hlo2 : lo < 2) (hw : w ≤ 54) (hPN : PN ≤ 4096) (hpn : pn ≤ PN) (hVN : VN ≤ 8192) (hvn : vn ≤ VN) (h2 : 2 ≤ VN) (hb256 : ∀ j, b j < 256) (hyes : n < t + 4)  : kM l yX2_passMark vsX2_passMark ({ frames := 2, cells := 0, slots := 0, locals := 43 }) D (kT cI cB cJ cS) [.ref rd] [(rd, .inr (0, [.int (nI u), .ref jl, .ref jd, .int (nI w), .ref a, .ref sh, .int (nI t), .int (nI lo), .int (nI wr), .int (nI pl)])), (jl, .inl (cJ, 54, .inr (.inl (lF cl)))), (jd, .inl (cI, 54, .inl (iF cd))), (a, .inr (1, [.ref ab, .int (nI n)])), (ab, .inl (cB, 65536, .inl (bF b))), (sh, .inr (2, [.ref sn, .ref sv, .int (nI pn), .int (nI vn)])), (sn, .inl (cI, PN, .inl (iF pf))), (sv, .inl (cI, VN, .inl fv))] (kQi D (kT cI cB cJ cS) (fun r (ug : Unit) => r = nI 0) (fun ug => [(rd, .inr (0, [.int (nI u), .ref jl, .ref jd, .int (nI w), .ref a, .ref sh, .int (nI t), .int (nI lo), .int (nI 3), .int (nI t)])), (jl, .inl (cJ, 54, .inr (.inl (lF cl)))), (jd, .inl (cI, 54, .inl (iF cd))), (a, .inr (1, [.ref ab, .int (nI n)])), (ab, .inl (cB, 65536, .inl (bF b))), (sh, .inr (2, [.ref sn, .ref sv, .int (nI pn), .int (nI vn)])), (sn, .inl (cI, PN, .inl (iF pf))), (sv, .inl (cI, VN, .inl fv))])) := by
  refine k_ofW (by decide) rfl (Nat.le_of_ble_eq_true rfl) ?_
  intro p e s m below meth c A ls hx hb hr hts hown hlocks hmn hml hA hP hK hD hS hZ hl
  have inX2 : ∀ w ∈ wsX20, w ∈ vsX2_passMark := fun w h => List.mem_cons_of_mem _ (iaX2 w h)
  have inX3 : ∀ w ∈ wsX30, w ∈ vsX2_passMark := fun w h => List.mem_cons_of_mem _ (iaX3 w h)
  have inX4 : ∀ w ∈ wsX40, w ∈ vsX2_passMark := fun w h => List.mem_cons_of_mem _ (iaX4 w h)
  have F : CallFix p m c cX2_passMark 1 s _ vsX2_passMark RX2 := ⟨hx, hb, hml, hown, hts⟩
  have hl : lv_has ls 1 [(0, .ref rd)] := hl
  refine lv_aload_n hx hb dX2_passMark_0 rfl (lv_at hl 0 rfl) ?_
  refine lv_iconst (v := nI 4) hx hb dX2_passMark_1 (by decide) ?_
  refine k_ci (wr := []) (k_rv F (c_Rd_isThere0 l D cI cB cJ cS rd jl jd a ab sh sn sv u w t lo wr pl n PN pn VN vn cl cd b pf fv (by omega) (by omega) (by omega) (by omega) (by omega) (by omega) (by omega) (by omega) (by omega) hb256 4 (by omega) hyes) (cwV 1 hts (g_V wd_65 wd_66 wd_67 wd_55 wd_68) rfl rfl rfl (by decide +kernel) ⟨Nat.le_of_ble_eq_true rfl, Nat.le_of_ble_eq_true rfl⟩) hK hP hD hS hA hZ [0, 1, 2, 3, 4, 5, 6, 7] rfl (by decide) 0 rfl rfl rfl rfl hl.1 rfl (Nat.le_of_ble_eq_true rfl) dX2_passMark_2 ⟨Nat.le_of_ble_eq_true rfl, Nat.le_of_ble_eq_true rfl⟩) hP hD hS hA [0, 1, 2, 3, 4, 5, 6, 7] [] rfl rfl (by decide) (by decide) (fun r u9 H locs hw hP hD hS => ?_)
  subst hw
  have hP : va_P D kCl [(rd, .inr (0, [.int (nI u), .ref jl, .ref jd, .int (nI w), .ref a, .ref sh, .int (nI t), .int (nI lo), .int (nI 3), .int (nI t)])), (jl, .inl (cJ, 54, .inr (.inl (lF cl)))), (jd, .inl (cI, 54, .inl (iF cd))), (a, .inr (1, [.ref ab, .int (nI n)])), (ab, .inl (cB, 65536, .inl (bF b))), (sh, .inr (2, [.ref sn, .ref sv, .int (nI pn), .int (nI vn)])), (sn, .inl (cI, PN, .inl (iF pf))), (sv, .inl (cI, VN, .inl fv))] H := hP
  have hD : va_D A [(rd, .inr (0, [.int (nI u), .ref jl, .ref jd, .int (nI w), .ref a, .ref sh, .int (nI t), .int (nI lo), .int (nI 3), .int (nI t)])), (jl, .inl (cJ, 54, .inr (.inl (lF cl)))), (jd, .inl (cI, 54, .inl (iF cd))), (a, .inr (1, [.ref ab, .int (nI n)])), (ab, .inl (cB, 65536, .inl (bF b))), (sh, .inr (2, [.ref sn, .ref sv, .int (nI pn), .int (nI vn)])), (sn, .inl (cI, PN, .inl (iF pf))), (sv, .inl (cI, VN, .inl fv))] := hD
  refine W.widen (k := 0) (n := 0) (Nat.le_of_ble_eq_true rfl) (Nat.le_of_ble_eq_true rfl) ?_
  refine k_if_ne (tgt := 10) (by omega) hx hb dX2_passMark_5 (by decide) (fun c76 => ?_) (fun c76 => ?_)
  · skip
    exact absurd c76 (by omega)
  · skip
    refine lv_iconst (v := nI 0) hx hb dX2_passMark_8 (by decide) ?_
    exact k_iret () hx hb hr (by first | rfl | decide | exact vp_nar_int _) hlocks hK hP hD hS (rfl) (rfl) (Nat.le_of_ble_eq_true rfl) (Nat.le_of_ble_eq_true rfl) dX2_passMark_9

set_option maxRecDepth 100000 in
set_option maxHeartbeats 4000000 in
theorem c_Rd_isEmptyPoint (l : Launch) (D : va_G) (cI cB cJ cS : ClassId) (rd jl jd a ab sh sn sv u w t lo wr pl n PN pn VN vn : Nat) (cl cd b pf : Nat → Nat) (fv : Nat → Int32) (ht : t ≤ n) (hn : n ≤ 65536) (hlo2 : lo < 2) (hw : w ≤ 54) (hPN : PN ≤ 4096) (hpn : pn ≤ PN) (hVN : VN ≤ 8192) (hvn : vn ≤ VN) (h2 : 2 ≤ VN) (hb256 : ∀ j, b j < 256)  : kM l yX2_isEmptyPoint vsX2_isEmptyPoint ({ frames := 1, cells := 0, slots := 0, locals := 27 }) D (kT cI cB cJ cS) [.ref rd] [(rd, .inr (0, [.int (nI u), .ref jl, .ref jd, .int (nI w), .ref a, .ref sh, .int (nI t), .int (nI lo), .int (nI wr), .int (nI pl)])), (jl, .inl (cJ, 54, .inr (.inl (lF cl)))), (jd, .inl (cI, 54, .inl (iF cd))), (a, .inr (1, [.ref ab, .int (nI n)])), (ab, .inl (cB, 65536, .inl (bF b))), (sh, .inr (2, [.ref sn, .ref sv, .int (nI pn), .int (nI vn)])), (sn, .inl (cI, PN, .inl (iF pf))), (sv, .inl (cI, VN, .inl fv))] (kQi D (kT cI cB cJ cS) (fun r (ug : Unit) => r = nI (eP b n t lo)) (fun ug => [(rd, .inr (0, [.int (nI u), .ref jl, .ref jd, .int (nI w), .ref a, .ref sh, .int (nI t), .int (nI lo), .int (nI wr), .int (nI pl)])), (jl, .inl (cJ, 54, .inr (.inl (lF cl)))), (jd, .inl (cI, 54, .inl (iF cd))), (a, .inr (1, [.ref ab, .int (nI n)])), (ab, .inl (cB, 65536, .inl (bF b))), (sh, .inr (2, [.ref sn, .ref sv, .int (nI pn), .int (nI vn)])), (sn, .inl (cI, PN, .inl (iF pf))), (sv, .inl (cI, VN, .inl fv))])) := by
  refine k_ofW (by decide) rfl (Nat.le_of_ble_eq_true rfl) ?_
  intro p e s m below meth c A ls hx hb hr hts hown hlocks hmn hml hA hP hK hD hS hZ hl
  have inX2 : ∀ w ∈ wsX20, w ∈ vsX2_isEmptyPoint := fun w h => List.mem_cons_of_mem _ (iaX2 w h)
  have inX3 : ∀ w ∈ wsX30, w ∈ vsX2_isEmptyPoint := fun w h => List.mem_cons_of_mem _ (iaX3 w h)
  have inX4 : ∀ w ∈ wsX40, w ∈ vsX2_isEmptyPoint := fun w h => List.mem_cons_of_mem _ (iaX4 w h)
  have F : CallFix p m c cX2_isEmptyPoint 1 s _ vsX2_isEmptyPoint RX2 := ⟨hx, hb, hml, hown, hts⟩
  have hl : lv_has ls 1 [(0, .ref rd)] := hl
  refine lv_aload_n hx hb dX2_isEmptyPoint_0 rfl (lv_at hl 0 rfl) ?_
  refine va_get (D := D) (ci := 0) (v := .ref a) (C := RX2) (T := TX2) (N := 10) hx hb hts inX2 hown hK hP 0 rfl rfl 4 (by decide) (hts (.fieldLink RX2 46 "ByteShapes$Reader" "from" "LByteShapes$Row;") (List.mem_cons_of_mem _ wd_45)) (fun _ h9 => h9) rfl dX2_isEmptyPoint_1 ?_
  refine k_ci (wr := [(rd, .inr (0, [.int (nI u), .ref jl, .ref jd, .int (nI w), .ref a, .ref sh, .int (nI t), .int (nI lo), .int (nI wr), .int (nI pl)])), (jl, .inl (cJ, 54, .inr (.inl (lF cl)))), (jd, .inl (cI, 54, .inl (iF cd))), (sh, .inr (2, [.ref sn, .ref sv, .int (nI pn), .int (nI vn)])), (sn, .inl (cI, PN, .inl (iF pf))), (sv, .inl (cI, VN, .inl fv))]) (k_rv F (c_Row_size l D cI cB cJ cS a ab n b ) (cwV 0 hts (g_V wd_47 wd_48 wd_49 wd_50 wd_51) rfl rfl rfl (by decide +kernel) ⟨Nat.le_of_ble_eq_true rfl, Nat.le_of_ble_eq_true rfl⟩) hK hP hD hS hA hZ [3, 4] rfl (by decide) 3 rfl rfl rfl rfl hl.1 rfl (Nat.le_of_ble_eq_true rfl) dX2_isEmptyPoint_4 ⟨Nat.le_of_ble_eq_true rfl, Nat.le_of_ble_eq_true rfl⟩) hP hD hS hA [3, 4] [0, 1, 2, 5, 6, 7] rfl rfl (by decide) (by decide) (fun r u9 H locs hw hP hD hS => ?_)
  subst hw
  have hP : va_P D kCl [(rd, .inr (0, [.int (nI u), .ref jl, .ref jd, .int (nI w), .ref a, .ref sh, .int (nI t), .int (nI lo), .int (nI wr), .int (nI pl)])), (jl, .inl (cJ, 54, .inr (.inl (lF cl)))), (jd, .inl (cI, 54, .inl (iF cd))), (sh, .inr (2, [.ref sn, .ref sv, .int (nI pn), .int (nI vn)])), (sn, .inl (cI, PN, .inl (iF pf))), (sv, .inl (cI, VN, .inl fv)), (a, .inr (1, [.ref ab, .int (nI n)])), (ab, .inl (cB, 65536, .inl (bF b)))] H := hP
  have hD : va_D A [(rd, .inr (0, [.int (nI u), .ref jl, .ref jd, .int (nI w), .ref a, .ref sh, .int (nI t), .int (nI lo), .int (nI wr), .int (nI pl)])), (jl, .inl (cJ, 54, .inr (.inl (lF cl)))), (jd, .inl (cI, 54, .inl (iF cd))), (sh, .inr (2, [.ref sn, .ref sv, .int (nI pn), .int (nI vn)])), (sn, .inl (cI, PN, .inl (iF pf))), (sv, .inl (cI, VN, .inl fv)), (a, .inr (1, [.ref ab, .int (nI n)])), (ab, .inl (cB, 65536, .inl (bF b)))] := hD
  refine W.widen (k := 0) (n := 0) (Nat.le_of_ble_eq_true rfl) (Nat.le_of_ble_eq_true rfl) ?_
  refine lv_aload_n hx hb dX2_isEmptyPoint_7 rfl (lv_at hl 0 rfl) ?_
  refine va_get (D := D) (ci := 0) (v := .int (nI t)) (C := RX2) (T := TX2) (N := 10) hx hb hts inX2 hown hK hP 0 rfl rfl 6 (by decide) (hts (.fieldLink RX2 43 "ByteShapes$Reader" "at" "I") (List.mem_cons_of_mem _ wd_46)) (fun _ h9 => h9) rfl dX2_isEmptyPoint_8 ?_
  refine lv_isub hx hb dX2_isEmptyPoint_11 ?_
  refine k_i (show _ = nI (n - t) from pk_sub (by omega)) ?_
  refine lv_bipush (v := nI 16) hx hb dX2_isEmptyPoint_12 (by decide) ?_
  refine k_icmp_lt (tgt := 70) (by omega) (by omega) hx hb dX2_isEmptyPoint_14 (by decide) (fun h16 => ?_) (fun h16 => ?_)
  · skip
    refine lv_iconst (v := nI 0) hx hb dX2_isEmptyPoint_70 (by decide) ?_
    have hP : va_P D kCl [(rd, .inr (0, [.int (nI u), .ref jl, .ref jd, .int (nI w), .ref a, .ref sh, .int (nI t), .int (nI lo), .int (nI wr), .int (nI pl)])), (jl, .inl (cJ, 54, .inr (.inl (lF cl)))), (jd, .inl (cI, 54, .inl (iF cd))), (a, .inr (1, [.ref ab, .int (nI n)])), (ab, .inl (cB, 65536, .inl (bF b))), (sh, .inr (2, [.ref sn, .ref sv, .int (nI pn), .int (nI vn)])), (sn, .inl (cI, PN, .inl (iF pf))), (sv, .inl (cI, VN, .inl fv))] H := hP.sub [0, 1, 2, 6, 7, 3, 4, 5] rfl
    have hD : va_D A [(rd, .inr (0, [.int (nI u), .ref jl, .ref jd, .int (nI w), .ref a, .ref sh, .int (nI t), .int (nI lo), .int (nI wr), .int (nI pl)])), (jl, .inl (cJ, 54, .inr (.inl (lF cl)))), (jd, .inl (cI, 54, .inl (iF cd))), (a, .inr (1, [.ref ab, .int (nI n)])), (ab, .inl (cB, 65536, .inl (bF b))), (sh, .inr (2, [.ref sn, .ref sv, .int (nI pn), .int (nI vn)])), (sn, .inl (cI, PN, .inl (iF pf))), (sv, .inl (cI, VN, .inl fv))] := hD.sub [0, 1, 2, 6, 7, 3, 4, 5] (by decide) rfl
    exact k_iret () hx hb hr (by first | rfl | decide | exact vp_nar_int _) hlocks hK hP hD hS (rfl) (by unfold eP; rw [if_neg (fun q => absurd q.1 (by omega))]) (Nat.le_of_ble_eq_true rfl) (Nat.le_of_ble_eq_true rfl) dX2_isEmptyPoint_71
  · skip
    refine lv_aload_n hx hb dX2_isEmptyPoint_17 rfl (lv_at hl 0 rfl) ?_
    refine va_get (D := D) (ci := 0) (v := .ref a) (C := RX2) (T := TX2) (N := 10) hx hb hts inX2 hown hK hP 0 rfl rfl 4 (by decide) (hts (.fieldLink RX2 46 "ByteShapes$Reader" "from" "LByteShapes$Row;") (List.mem_cons_of_mem _ wd_45)) (fun _ h9 => h9) rfl dX2_isEmptyPoint_18 ?_
    refine lv_aload_n hx hb dX2_isEmptyPoint_21 rfl (lv_at hl 0 rfl) ?_
    refine va_get (D := D) (ci := 0) (v := .int (nI t)) (C := RX2) (T := TX2) (N := 10) hx hb hts inX2 hown hK hP 0 rfl rfl 6 (by decide) (hts (.fieldLink RX2 43 "ByteShapes$Reader" "at" "I") (List.mem_cons_of_mem _ wd_46)) (fun _ h9 => h9) rfl dX2_isEmptyPoint_22 ?_
    refine lv_bipush (v := nI 8) hx hb dX2_isEmptyPoint_25 (by decide) ?_
    refine lv_aload_n hx hb dX2_isEmptyPoint_27 rfl (lv_at hl 0 rfl) ?_
    refine va_get (D := D) (ci := 0) (v := .int (nI lo)) (C := RX2) (T := TX2) (N := 10) hx hb hts inX2 hown hK hP 0 rfl rfl 7 (by decide) (hts (.fieldLink RX2 85 "ByteShapes$Reader" "lowFirst" "Z") (List.mem_cons_of_mem _ wd_57)) (fun _ h9 => h9) rfl dX2_isEmptyPoint_28 ?_
    refine k_cl (wr := [(rd, .inr (0, [.int (nI u), .ref jl, .ref jd, .int (nI w), .ref a, .ref sh, .int (nI t), .int (nI lo), .int (nI wr), .int (nI pl)])), (jl, .inl (cJ, 54, .inr (.inl (lF cl)))), (jd, .inl (cI, 54, .inl (iF cd))), (sh, .inr (2, [.ref sn, .ref sv, .int (nI pn), .int (nI vn)])), (sn, .inl (cI, PN, .inl (iF pf))), (sv, .inl (cI, VN, .inl fv))]) (k_rv F (c_Row_numberAt l D cI cB cJ cS a ab n b t 8 lo (by omega) hn (by omega) hlo2 hb256) (cwV 3 hts (g_V wd_58 wd_59 wd_60 wd_50 wd_61) rfl rfl rfl (by decide +kernel) ⟨Nat.le_of_ble_eq_true rfl, Nat.le_of_ble_eq_true rfl⟩) hK hP hD hS hA hZ [6, 7] rfl (by decide) 6 rfl rfl rfl rfl hl.1 rfl (Nat.le_of_ble_eq_true rfl) dX2_isEmptyPoint_31 ⟨Nat.le_of_ble_eq_true rfl, Nat.le_of_ble_eq_true rfl⟩) hP hD hS hA [6, 7] [0, 1, 2, 3, 4, 5] rfl rfl (by decide) (by decide) (fun r u9 H locs hw hP hD hS => ?_)
    subst hw
    have hP : va_P D kCl [(rd, .inr (0, [.int (nI u), .ref jl, .ref jd, .int (nI w), .ref a, .ref sh, .int (nI t), .int (nI lo), .int (nI wr), .int (nI pl)])), (jl, .inl (cJ, 54, .inr (.inl (lF cl)))), (jd, .inl (cI, 54, .inl (iF cd))), (sh, .inr (2, [.ref sn, .ref sv, .int (nI pn), .int (nI vn)])), (sn, .inl (cI, PN, .inl (iF pf))), (sv, .inl (cI, VN, .inl fv)), (a, .inr (1, [.ref ab, .int (nI n)])), (ab, .inl (cB, 65536, .inl (bF b)))] H := hP
    have hD : va_D A [(rd, .inr (0, [.int (nI u), .ref jl, .ref jd, .int (nI w), .ref a, .ref sh, .int (nI t), .int (nI lo), .int (nI wr), .int (nI pl)])), (jl, .inl (cJ, 54, .inr (.inl (lF cl)))), (jd, .inl (cI, 54, .inl (iF cd))), (sh, .inr (2, [.ref sn, .ref sv, .int (nI pn), .int (nI vn)])), (sn, .inl (cI, PN, .inl (iF pf))), (sv, .inl (cI, VN, .inl fv)), (a, .inr (1, [.ref ab, .int (nI n)])), (ab, .inl (cB, 65536, .inl (bF b)))] := hD
    refine W.widen (k := 0) (n := 0) (Nat.le_of_ble_eq_true rfl) (Nat.le_of_ble_eq_true rfl) ?_
    have hx164 := pN_lt hb256 t lo
    refine k_ci (wr := [(rd, .inr (0, [.int (nI u), .ref jl, .ref jd, .int (nI w), .ref a, .ref sh, .int (nI t), .int (nI lo), .int (nI wr), .int (nI pl)])), (jl, .inl (cJ, 54, .inr (.inl (lF cl)))), (jd, .inl (cI, 54, .inl (iF cd))), (sh, .inr (2, [.ref sn, .ref sv, .int (nI pn), .int (nI vn)])), (sn, .inl (cI, PN, .inl (iF pf))), (sv, .inl (cI, VN, .inl fv)), (a, .inr (1, [.ref ab, .int (nI n)])), (ab, .inl (cB, 65536, .inl (bF b)))]) (k_rs F (c_Fr_isNoNumber l D cI cB cJ cS (pN b t 8 lo) hx164) (va_cwS 1 hts (g_S wd_73 wd_74 wd_27 wd_75) rfl rfl rfl (by decide +kernel) ⟨Nat.le_of_ble_eq_true rfl, Nat.le_of_ble_eq_true rfl⟩) hK hP hD hS hA hZ [] rfl (by decide) rfl hl.1 rfl (Nat.le_of_ble_eq_true rfl) dX2_isEmptyPoint_34 ⟨Nat.le_of_ble_eq_true rfl, Nat.le_of_ble_eq_true rfl⟩) hP hD hS hA [] [0, 1, 2, 3, 4, 5, 6, 7] rfl rfl (by decide) (by decide) (fun r u9 H locs hw hP hD hS => ?_)
    subst hw
    have hP : va_P D kCl [(rd, .inr (0, [.int (nI u), .ref jl, .ref jd, .int (nI w), .ref a, .ref sh, .int (nI t), .int (nI lo), .int (nI wr), .int (nI pl)])), (jl, .inl (cJ, 54, .inr (.inl (lF cl)))), (jd, .inl (cI, 54, .inl (iF cd))), (sh, .inr (2, [.ref sn, .ref sv, .int (nI pn), .int (nI vn)])), (sn, .inl (cI, PN, .inl (iF pf))), (sv, .inl (cI, VN, .inl fv)), (a, .inr (1, [.ref ab, .int (nI n)])), (ab, .inl (cB, 65536, .inl (bF b)))] H := hP
    have hD : va_D A [(rd, .inr (0, [.int (nI u), .ref jl, .ref jd, .int (nI w), .ref a, .ref sh, .int (nI t), .int (nI lo), .int (nI wr), .int (nI pl)])), (jl, .inl (cJ, 54, .inr (.inl (lF cl)))), (jd, .inl (cI, 54, .inl (iF cd))), (sh, .inr (2, [.ref sn, .ref sv, .int (nI pn), .int (nI vn)])), (sn, .inl (cI, PN, .inl (iF pf))), (sv, .inl (cI, VN, .inl fv)), (a, .inr (1, [.ref ab, .int (nI n)])), (ab, .inl (cB, 65536, .inl (bF b)))] := hD
    refine W.widen (k := 0) (n := 0) (Nat.le_of_ble_eq_true rfl) (Nat.le_of_ble_eq_true rfl) ?_
    refine k_if_eq (tgt := 70) (ite_lt) hx hb dX2_isEmptyPoint_37 (by decide) (fun hz1 => ?_) (fun hz1 => ?_)
    · skip
      refine lv_iconst (v := nI 0) hx hb dX2_isEmptyPoint_70 (by decide) ?_
      have hP : va_P D kCl [(rd, .inr (0, [.int (nI u), .ref jl, .ref jd, .int (nI w), .ref a, .ref sh, .int (nI t), .int (nI lo), .int (nI wr), .int (nI pl)])), (jl, .inl (cJ, 54, .inr (.inl (lF cl)))), (jd, .inl (cI, 54, .inl (iF cd))), (a, .inr (1, [.ref ab, .int (nI n)])), (ab, .inl (cB, 65536, .inl (bF b))), (sh, .inr (2, [.ref sn, .ref sv, .int (nI pn), .int (nI vn)])), (sn, .inl (cI, PN, .inl (iF pf))), (sv, .inl (cI, VN, .inl fv))] H := hP.sub [0, 1, 2, 6, 7, 3, 4, 5] rfl
      have hD : va_D A [(rd, .inr (0, [.int (nI u), .ref jl, .ref jd, .int (nI w), .ref a, .ref sh, .int (nI t), .int (nI lo), .int (nI wr), .int (nI pl)])), (jl, .inl (cJ, 54, .inr (.inl (lF cl)))), (jd, .inl (cI, 54, .inl (iF cd))), (a, .inr (1, [.ref ab, .int (nI n)])), (ab, .inl (cB, 65536, .inl (bF b))), (sh, .inr (2, [.ref sn, .ref sv, .int (nI pn), .int (nI vn)])), (sn, .inl (cI, PN, .inl (iF pf))), (sv, .inl (cI, VN, .inl fv))] := hD.sub [0, 1, 2, 6, 7, 3, 4, 5] (by decide) rfl
      exact k_iret () hx hb hr (by first | rfl | decide | exact vp_nar_int _) hlocks hK hP hD hS (rfl) (by unfold eP; rw [if_neg (fun q => absurd (ite_p q.2.1) (by omega))]) (Nat.le_of_ble_eq_true rfl) (Nat.le_of_ble_eq_true rfl) dX2_isEmptyPoint_71
    · skip
      refine lv_aload_n hx hb dX2_isEmptyPoint_40 rfl (lv_at hl 0 rfl) ?_
      refine va_get (D := D) (ci := 0) (v := .ref a) (C := RX2) (T := TX2) (N := 10) hx hb hts inX2 hown hK hP 0 rfl rfl 4 (by decide) (hts (.fieldLink RX2 46 "ByteShapes$Reader" "from" "LByteShapes$Row;") (List.mem_cons_of_mem _ wd_45)) (fun _ h9 => h9) rfl dX2_isEmptyPoint_41 ?_
      refine lv_aload_n hx hb dX2_isEmptyPoint_44 rfl (lv_at hl 0 rfl) ?_
      refine va_get (D := D) (ci := 0) (v := .int (nI t)) (C := RX2) (T := TX2) (N := 10) hx hb hts inX2 hown hK hP 0 rfl rfl 6 (by decide) (hts (.fieldLink RX2 43 "ByteShapes$Reader" "at" "I") (List.mem_cons_of_mem _ wd_46)) (fun _ h9 => h9) rfl dX2_isEmptyPoint_45 ?_
      refine lv_bipush (v := nI 8) hx hb dX2_isEmptyPoint_48 (by decide) ?_
      refine lv_iadd hx hb dX2_isEmptyPoint_50 ?_
      refine k_i (show _ = nI (t + 8) from nI_add _ _) ?_
      refine lv_bipush (v := nI 8) hx hb dX2_isEmptyPoint_51 (by decide) ?_
      refine lv_aload_n hx hb dX2_isEmptyPoint_53 rfl (lv_at hl 0 rfl) ?_
      refine va_get (D := D) (ci := 0) (v := .int (nI lo)) (C := RX2) (T := TX2) (N := 10) hx hb hts inX2 hown hK hP 0 rfl rfl 7 (by decide) (hts (.fieldLink RX2 85 "ByteShapes$Reader" "lowFirst" "Z") (List.mem_cons_of_mem _ wd_57)) (fun _ h9 => h9) rfl dX2_isEmptyPoint_54 ?_
      refine k_cl (wr := [(rd, .inr (0, [.int (nI u), .ref jl, .ref jd, .int (nI w), .ref a, .ref sh, .int (nI t), .int (nI lo), .int (nI wr), .int (nI pl)])), (jl, .inl (cJ, 54, .inr (.inl (lF cl)))), (jd, .inl (cI, 54, .inl (iF cd))), (sh, .inr (2, [.ref sn, .ref sv, .int (nI pn), .int (nI vn)])), (sn, .inl (cI, PN, .inl (iF pf))), (sv, .inl (cI, VN, .inl fv))]) (k_rv F (c_Row_numberAt l D cI cB cJ cS a ab n b (t + 8) 8 lo (by omega) hn (by omega) hlo2 hb256) (cwV 3 hts (g_V wd_58 wd_59 wd_60 wd_50 wd_61) rfl rfl rfl (by decide +kernel) ⟨Nat.le_of_ble_eq_true rfl, Nat.le_of_ble_eq_true rfl⟩) hK hP hD hS hA hZ [6, 7] rfl (by decide) 6 rfl rfl rfl rfl hl.1 rfl (Nat.le_of_ble_eq_true rfl) dX2_isEmptyPoint_57 ⟨Nat.le_of_ble_eq_true rfl, Nat.le_of_ble_eq_true rfl⟩) hP hD hS hA [6, 7] [0, 1, 2, 3, 4, 5] rfl rfl (by decide) (by decide) (fun r u9 H locs hw hP hD hS => ?_)
      subst hw
      have hP : va_P D kCl [(rd, .inr (0, [.int (nI u), .ref jl, .ref jd, .int (nI w), .ref a, .ref sh, .int (nI t), .int (nI lo), .int (nI wr), .int (nI pl)])), (jl, .inl (cJ, 54, .inr (.inl (lF cl)))), (jd, .inl (cI, 54, .inl (iF cd))), (sh, .inr (2, [.ref sn, .ref sv, .int (nI pn), .int (nI vn)])), (sn, .inl (cI, PN, .inl (iF pf))), (sv, .inl (cI, VN, .inl fv)), (a, .inr (1, [.ref ab, .int (nI n)])), (ab, .inl (cB, 65536, .inl (bF b)))] H := hP
      have hD : va_D A [(rd, .inr (0, [.int (nI u), .ref jl, .ref jd, .int (nI w), .ref a, .ref sh, .int (nI t), .int (nI lo), .int (nI wr), .int (nI pl)])), (jl, .inl (cJ, 54, .inr (.inl (lF cl)))), (jd, .inl (cI, 54, .inl (iF cd))), (sh, .inr (2, [.ref sn, .ref sv, .int (nI pn), .int (nI vn)])), (sn, .inl (cI, PN, .inl (iF pf))), (sv, .inl (cI, VN, .inl fv)), (a, .inr (1, [.ref ab, .int (nI n)])), (ab, .inl (cB, 65536, .inl (bF b)))] := hD
      refine W.widen (k := 0) (n := 0) (Nat.le_of_ble_eq_true rfl) (Nat.le_of_ble_eq_true rfl) ?_
      have hx264 := pN_lt hb256 (t + 8) lo
      refine k_ci (wr := [(rd, .inr (0, [.int (nI u), .ref jl, .ref jd, .int (nI w), .ref a, .ref sh, .int (nI t), .int (nI lo), .int (nI wr), .int (nI pl)])), (jl, .inl (cJ, 54, .inr (.inl (lF cl)))), (jd, .inl (cI, 54, .inl (iF cd))), (sh, .inr (2, [.ref sn, .ref sv, .int (nI pn), .int (nI vn)])), (sn, .inl (cI, PN, .inl (iF pf))), (sv, .inl (cI, VN, .inl fv)), (a, .inr (1, [.ref ab, .int (nI n)])), (ab, .inl (cB, 65536, .inl (bF b)))]) (k_rs F (c_Fr_isNoNumber l D cI cB cJ cS (pN b (t + 8) 8 lo) hx264) (va_cwS 1 hts (g_S wd_73 wd_74 wd_27 wd_75) rfl rfl rfl (by decide +kernel) ⟨Nat.le_of_ble_eq_true rfl, Nat.le_of_ble_eq_true rfl⟩) hK hP hD hS hA hZ [] rfl (by decide) rfl hl.1 rfl (Nat.le_of_ble_eq_true rfl) dX2_isEmptyPoint_60 ⟨Nat.le_of_ble_eq_true rfl, Nat.le_of_ble_eq_true rfl⟩) hP hD hS hA [] [0, 1, 2, 3, 4, 5, 6, 7] rfl rfl (by decide) (by decide) (fun r u9 H locs hw hP hD hS => ?_)
      subst hw
      have hP : va_P D kCl [(rd, .inr (0, [.int (nI u), .ref jl, .ref jd, .int (nI w), .ref a, .ref sh, .int (nI t), .int (nI lo), .int (nI wr), .int (nI pl)])), (jl, .inl (cJ, 54, .inr (.inl (lF cl)))), (jd, .inl (cI, 54, .inl (iF cd))), (sh, .inr (2, [.ref sn, .ref sv, .int (nI pn), .int (nI vn)])), (sn, .inl (cI, PN, .inl (iF pf))), (sv, .inl (cI, VN, .inl fv)), (a, .inr (1, [.ref ab, .int (nI n)])), (ab, .inl (cB, 65536, .inl (bF b)))] H := hP
      have hD : va_D A [(rd, .inr (0, [.int (nI u), .ref jl, .ref jd, .int (nI w), .ref a, .ref sh, .int (nI t), .int (nI lo), .int (nI wr), .int (nI pl)])), (jl, .inl (cJ, 54, .inr (.inl (lF cl)))), (jd, .inl (cI, 54, .inl (iF cd))), (sh, .inr (2, [.ref sn, .ref sv, .int (nI pn), .int (nI vn)])), (sn, .inl (cI, PN, .inl (iF pf))), (sv, .inl (cI, VN, .inl fv)), (a, .inr (1, [.ref ab, .int (nI n)])), (ab, .inl (cB, 65536, .inl (bF b)))] := hD
      refine W.widen (k := 0) (n := 0) (Nat.le_of_ble_eq_true rfl) (Nat.le_of_ble_eq_true rfl) ?_
      refine k_if_eq (tgt := 70) (ite_lt) hx hb dX2_isEmptyPoint_63 (by decide) (fun hz2 => ?_) (fun hz2 => ?_)
      · skip
        refine lv_iconst (v := nI 0) hx hb dX2_isEmptyPoint_70 (by decide) ?_
        have hP : va_P D kCl [(rd, .inr (0, [.int (nI u), .ref jl, .ref jd, .int (nI w), .ref a, .ref sh, .int (nI t), .int (nI lo), .int (nI wr), .int (nI pl)])), (jl, .inl (cJ, 54, .inr (.inl (lF cl)))), (jd, .inl (cI, 54, .inl (iF cd))), (a, .inr (1, [.ref ab, .int (nI n)])), (ab, .inl (cB, 65536, .inl (bF b))), (sh, .inr (2, [.ref sn, .ref sv, .int (nI pn), .int (nI vn)])), (sn, .inl (cI, PN, .inl (iF pf))), (sv, .inl (cI, VN, .inl fv))] H := hP.sub [0, 1, 2, 6, 7, 3, 4, 5] rfl
        have hD : va_D A [(rd, .inr (0, [.int (nI u), .ref jl, .ref jd, .int (nI w), .ref a, .ref sh, .int (nI t), .int (nI lo), .int (nI wr), .int (nI pl)])), (jl, .inl (cJ, 54, .inr (.inl (lF cl)))), (jd, .inl (cI, 54, .inl (iF cd))), (a, .inr (1, [.ref ab, .int (nI n)])), (ab, .inl (cB, 65536, .inl (bF b))), (sh, .inr (2, [.ref sn, .ref sv, .int (nI pn), .int (nI vn)])), (sn, .inl (cI, PN, .inl (iF pf))), (sv, .inl (cI, VN, .inl fv))] := hD.sub [0, 1, 2, 6, 7, 3, 4, 5] (by decide) rfl
        exact k_iret () hx hb hr (by first | rfl | decide | exact vp_nar_int _) hlocks hK hP hD hS (rfl) (by unfold eP; rw [if_neg (fun q => absurd (ite_p q.2.2) (by omega))]) (Nat.le_of_ble_eq_true rfl) (Nat.le_of_ble_eq_true rfl) dX2_isEmptyPoint_71
      · skip
        refine lv_iconst (v := nI 1) hx hb dX2_isEmptyPoint_66 (by decide) ?_
        refine lv_goto (tgt := 71) hx hb dX2_isEmptyPoint_67 (by decide) ?_
        have hP : va_P D kCl [(rd, .inr (0, [.int (nI u), .ref jl, .ref jd, .int (nI w), .ref a, .ref sh, .int (nI t), .int (nI lo), .int (nI wr), .int (nI pl)])), (jl, .inl (cJ, 54, .inr (.inl (lF cl)))), (jd, .inl (cI, 54, .inl (iF cd))), (a, .inr (1, [.ref ab, .int (nI n)])), (ab, .inl (cB, 65536, .inl (bF b))), (sh, .inr (2, [.ref sn, .ref sv, .int (nI pn), .int (nI vn)])), (sn, .inl (cI, PN, .inl (iF pf))), (sv, .inl (cI, VN, .inl fv))] H := hP.sub [0, 1, 2, 6, 7, 3, 4, 5] rfl
        have hD : va_D A [(rd, .inr (0, [.int (nI u), .ref jl, .ref jd, .int (nI w), .ref a, .ref sh, .int (nI t), .int (nI lo), .int (nI wr), .int (nI pl)])), (jl, .inl (cJ, 54, .inr (.inl (lF cl)))), (jd, .inl (cI, 54, .inl (iF cd))), (a, .inr (1, [.ref ab, .int (nI n)])), (ab, .inl (cB, 65536, .inl (bF b))), (sh, .inr (2, [.ref sn, .ref sv, .int (nI pn), .int (nI vn)])), (sn, .inl (cI, PN, .inl (iF pf))), (sv, .inl (cI, VN, .inl fv))] := hD.sub [0, 1, 2, 6, 7, 3, 4, 5] (by decide) rfl
        exact k_iret () hx hb hr (by first | rfl | decide | exact vp_nar_int _) hlocks hK hP hD hS (rfl) (by unfold eP; rw [if_pos ⟨by omega, ite_ne hz1, ite_ne hz2⟩]) (Nat.le_of_ble_eq_true rfl) (Nat.le_of_ble_eq_true rfl) dX2_isEmptyPoint_71

set_option maxRecDepth 100000 in
set_option maxHeartbeats 4000000 in
theorem c_Rd_takePointE (l : Launch) (D : va_G) (cI cB cJ cS : ClassId) (rd jl jd a ab sh sn sv u w t lo wr pl n PN pn VN vn : Nat) (cl cd b pf : Nat → Nat) (fv : Nat → Int32) (ht : t ≤ n) (hn : n ≤ 65536) (hlo2 : lo < 2) (hw : w ≤ 54) (hPN : PN ≤ 4096) (hpn : pn ≤ PN) (hVN : VN ≤ 8192) (hvn : vn ≤ VN) (h2 : 2 ≤ VN) (hb256 : ∀ j, b j < 256) (hlt9 : pn < PN) (hem : eP b n t lo = 1)  : kM l yX2_takePoint vsX2_takePoint ({ frames := 2, cells := 0, slots := 0, locals := 47 }) D (kT cI cB cJ cS) [.ref rd] [(rd, .inr (0, [.int (nI u), .ref jl, .ref jd, .int (nI w), .ref a, .ref sh, .int (nI t), .int (nI lo), .int (nI wr), .int (nI pl)])), (jl, .inl (cJ, 54, .inr (.inl (lF cl)))), (jd, .inl (cI, 54, .inl (iF cd))), (a, .inr (1, [.ref ab, .int (nI n)])), (ab, .inl (cB, 65536, .inl (bF b))), (sh, .inr (2, [.ref sn, .ref sv, .int (nI pn), .int (nI vn)])), (sn, .inl (cI, PN, .inl (iF pf))), (sv, .inl (cI, VN, .inl fv))] (kQi D (kT cI cB cJ cS) (fun r (ug : Unit) => r = nI 1) (fun ug => [(rd, .inr (0, [.int (nI u), .ref jl, .ref jd, .int (nI w), .ref a, .ref sh, .int (nI (t + 16)), .int (nI lo), .int (nI wr), .int (nI pl)])), (jl, .inl (cJ, 54, .inr (.inl (lF cl)))), (jd, .inl (cI, 54, .inl (iF cd))), (a, .inr (1, [.ref ab, .int (nI n)])), (ab, .inl (cB, 65536, .inl (bF b))), (sh, .inr (2, [.ref sn, .ref sv, .int (nI (pn + 1)), .int (nI vn)])), (sn, .inl (cI, PN, .inl (iF (va_up pf pn 0)))), (sv, .inl (cI, VN, .inl fv))])) := by
  refine k_ofW (by decide) rfl (Nat.le_of_ble_eq_true rfl) ?_
  intro p e s m below meth c A ls hx hb hr hts hown hlocks hmn hml hA hP hK hD hS hZ hl
  have inX2 : ∀ w ∈ wsX20, w ∈ vsX2_takePoint := fun w h => List.mem_cons_of_mem _ (iaX2 w h)
  have inX3 : ∀ w ∈ wsX30, w ∈ vsX2_takePoint := fun w h => List.mem_cons_of_mem _ (iaX3 w h)
  have inX4 : ∀ w ∈ wsX40, w ∈ vsX2_takePoint := fun w h => List.mem_cons_of_mem _ (iaX4 w h)
  have F : CallFix p m c cX2_takePoint 1 s _ vsX2_takePoint RX2 := ⟨hx, hb, hml, hown, hts⟩
  have hl : lv_has ls 1 [(0, .ref rd)] := hl
  refine lv_aload_n hx hb dX2_takePoint_0 rfl (lv_at hl 0 rfl) ?_
  refine k_ci (wr := []) (k_rv F (c_Rd_isEmptyPoint l D cI cB cJ cS rd jl jd a ab sh sn sv u w t lo wr pl n PN pn VN vn cl cd b pf fv (by omega) (by omega) (by omega) (by omega) (by omega) (by omega) (by omega) (by omega) (by omega) hb256 ) (cwV 0 hts (g_V wd_77 wd_78 wd_79 wd_55 wd_80) rfl rfl rfl (by decide +kernel) ⟨Nat.le_of_ble_eq_true rfl, Nat.le_of_ble_eq_true rfl⟩) hK hP hD hS hA hZ [0, 1, 2, 3, 4, 5, 6, 7] rfl (by decide) 0 rfl rfl rfl rfl hl.1 rfl (Nat.le_of_ble_eq_true rfl) dX2_takePoint_1 ⟨Nat.le_of_ble_eq_true rfl, Nat.le_of_ble_eq_true rfl⟩) hP hD hS hA [0, 1, 2, 3, 4, 5, 6, 7] [] rfl rfl (by decide) (by decide) (fun r u9 H locs hw hP hD hS => ?_)
  subst hw
  have hP : va_P D kCl [(rd, .inr (0, [.int (nI u), .ref jl, .ref jd, .int (nI w), .ref a, .ref sh, .int (nI t), .int (nI lo), .int (nI wr), .int (nI pl)])), (jl, .inl (cJ, 54, .inr (.inl (lF cl)))), (jd, .inl (cI, 54, .inl (iF cd))), (a, .inr (1, [.ref ab, .int (nI n)])), (ab, .inl (cB, 65536, .inl (bF b))), (sh, .inr (2, [.ref sn, .ref sv, .int (nI pn), .int (nI vn)])), (sn, .inl (cI, PN, .inl (iF pf))), (sv, .inl (cI, VN, .inl fv))] H := hP
  have hD : va_D A [(rd, .inr (0, [.int (nI u), .ref jl, .ref jd, .int (nI w), .ref a, .ref sh, .int (nI t), .int (nI lo), .int (nI wr), .int (nI pl)])), (jl, .inl (cJ, 54, .inr (.inl (lF cl)))), (jd, .inl (cI, 54, .inl (iF cd))), (a, .inr (1, [.ref ab, .int (nI n)])), (ab, .inl (cB, 65536, .inl (bF b))), (sh, .inr (2, [.ref sn, .ref sv, .int (nI pn), .int (nI vn)])), (sn, .inl (cI, PN, .inl (iF pf))), (sv, .inl (cI, VN, .inl fv))] := hD
  refine W.widen (k := 0) (n := 0) (Nat.le_of_ble_eq_true rfl) (Nat.le_of_ble_eq_true rfl) ?_
  refine k_if_eq (tgt := 29) (eP_lt) hx hb dX2_takePoint_4 (by decide) (fun c77 => ?_) (fun c77 => ?_)
  · skip
    exact absurd c77 (by omega)
  · skip
    refine lv_aload_n hx hb dX2_takePoint_7 rfl (lv_at hl 0 rfl) ?_
    refine lv_dup hx hb dX2_takePoint_8 rfl ?_
    refine va_get (D := D) (ci := 0) (v := .int (nI t)) (C := RX2) (T := TX2) (N := 10) hx hb hts inX2 hown hK hP 0 rfl rfl 6 (by decide) (hts (.fieldLink RX2 43 "ByteShapes$Reader" "at" "I") (List.mem_cons_of_mem _ wd_46)) (fun _ h9 => h9) rfl dX2_takePoint_9 ?_
    refine lv_bipush (v := nI 16) hx hb dX2_takePoint_12 (by decide) ?_
    refine lv_iadd hx hb dX2_takePoint_14 ?_
    refine k_i (show _ = nI (t + 16) from nI_add _ _) ?_
    refine va_put (D := D) (ci := 0) (v := .int (nI (t + 16))) (ty := .int) (C := RX2) (T := TX2) (N := 10) hx hb hts inX2 tyX2 tyX2_ok nmX2 hown hK hP hD hS 0 rfl rfl 6 (by decide) (hts (.fieldLink RX2 43 "ByteShapes$Reader" "at" "I") (List.mem_cons_of_mem _ wd_46)) (fun _ h9 => h9) rfl (by decide +kernel) (rfl) (rfl) (Nat.le_of_ble_eq_true rfl) dX2_takePoint_15 (fun H locs hP hD hS => ?_)
    have hP : va_P D kCl [(rd, .inr (0, [.int (nI u), .ref jl, .ref jd, .int (nI w), .ref a, .ref sh, .int (nI (t + 16)), .int (nI lo), .int (nI wr), .int (nI pl)])), (jl, .inl (cJ, 54, .inr (.inl (lF cl)))), (jd, .inl (cI, 54, .inl (iF cd))), (a, .inr (1, [.ref ab, .int (nI n)])), (ab, .inl (cB, 65536, .inl (bF b))), (sh, .inr (2, [.ref sn, .ref sv, .int (nI pn), .int (nI vn)])), (sn, .inl (cI, PN, .inl (iF pf))), (sv, .inl (cI, VN, .inl fv))] H := hP
    have hD : va_D A [(rd, .inr (0, [.int (nI u), .ref jl, .ref jd, .int (nI w), .ref a, .ref sh, .int (nI (t + 16)), .int (nI lo), .int (nI wr), .int (nI pl)])), (jl, .inl (cJ, 54, .inr (.inl (lF cl)))), (jd, .inl (cI, 54, .inl (iF cd))), (a, .inr (1, [.ref ab, .int (nI n)])), (ab, .inl (cB, 65536, .inl (bF b))), (sh, .inr (2, [.ref sn, .ref sv, .int (nI pn), .int (nI vn)])), (sn, .inl (cI, PN, .inl (iF pf))), (sv, .inl (cI, VN, .inl fv))] := hD
    refine lv_aload_n hx hb dX2_takePoint_18 rfl (lv_at hl 0 rfl) ?_
    refine va_get (D := D) (ci := 0) (v := .ref sh) (C := RX2) (T := TX2) (N := 10) hx hb hts inX2 hown hK hP 0 rfl rfl 5 (by decide) (hts (.fieldLink RX2 60 "ByteShapes$Reader" "into" "LByteShapes$Shape;") (List.mem_cons_of_mem _ wd_76)) (fun _ h9 => h9) rfl dX2_takePoint_19 ?_
    refine lv_iconst (v := nI 0) hx hb dX2_takePoint_22 (by decide) ?_
    refine k_cv (wr := [(rd, .inr (0, [.int (nI u), .ref jl, .ref jd, .int (nI w), .ref a, .ref sh, .int (nI (t + 16)), .int (nI lo), .int (nI wr), .int (nI pl)])), (jl, .inl (cJ, 54, .inr (.inl (lF cl)))), (jd, .inl (cI, 54, .inl (iF cd))), (a, .inr (1, [.ref ab, .int (nI n)])), (ab, .inl (cB, 65536, .inl (bF b)))]) (k_rv F (c_Shape_addNumber l D cI cB cJ cS sh sn sv PN pn VN vn pf fv hPN hpn 0 hlt9) (cwV 1 hts (g_V wd_81 wd_82 wd_83 wd_41 wd_84) rfl rfl rfl (by decide +kernel) ⟨Nat.le_of_ble_eq_true rfl, Nat.le_of_ble_eq_true rfl⟩) hK hP hD hS hA hZ [5, 6, 7] rfl (by decide) 5 rfl rfl rfl rfl hl.1 rfl (Nat.le_of_ble_eq_true rfl) dX2_takePoint_23 ⟨Nat.le_of_ble_eq_true rfl, Nat.le_of_ble_eq_true rfl⟩) hP hD hS hA [5, 6, 7] [0, 1, 2, 3, 4] rfl rfl (by decide) (by decide) (fun u9 H locs hw hP hD hS => ?_)
    have hP : va_P D kCl [(rd, .inr (0, [.int (nI u), .ref jl, .ref jd, .int (nI w), .ref a, .ref sh, .int (nI (t + 16)), .int (nI lo), .int (nI wr), .int (nI pl)])), (jl, .inl (cJ, 54, .inr (.inl (lF cl)))), (jd, .inl (cI, 54, .inl (iF cd))), (a, .inr (1, [.ref ab, .int (nI n)])), (ab, .inl (cB, 65536, .inl (bF b))), (sh, .inr (2, [.ref sn, .ref sv, .int (nI (pn + 1)), .int (nI vn)])), (sn, .inl (cI, PN, .inl (iF (va_up pf pn 0)))), (sv, .inl (cI, VN, .inl fv))] H := hP
    have hD : va_D A [(rd, .inr (0, [.int (nI u), .ref jl, .ref jd, .int (nI w), .ref a, .ref sh, .int (nI (t + 16)), .int (nI lo), .int (nI wr), .int (nI pl)])), (jl, .inl (cJ, 54, .inr (.inl (lF cl)))), (jd, .inl (cI, 54, .inl (iF cd))), (a, .inr (1, [.ref ab, .int (nI n)])), (ab, .inl (cB, 65536, .inl (bF b))), (sh, .inr (2, [.ref sn, .ref sv, .int (nI (pn + 1)), .int (nI vn)])), (sn, .inl (cI, PN, .inl (iF (va_up pf pn 0)))), (sv, .inl (cI, VN, .inl fv))] := hD
    refine W.widen (k := 0) (n := 0) (Nat.le_of_ble_eq_true rfl) (Nat.le_of_ble_eq_true rfl) ?_
    refine lv_goto (tgt := 44) hx hb dX2_takePoint_26 (by decide) ?_
    refine lv_iconst (v := nI 1) hx hb dX2_takePoint_44 (by decide) ?_
    exact k_iret () hx hb hr (by first | rfl | decide | exact vp_nar_int _) hlocks hK hP hD hS (rfl) (rfl) (Nat.le_of_ble_eq_true rfl) (Nat.le_of_ble_eq_true rfl) dX2_takePoint_45

set_option maxRecDepth 100000 in
set_option maxHeartbeats 4000000 in
theorem c_Rd_takePointN (l : Launch) (D : va_G) (cI cB cJ cS : ClassId) (rd jl jd a ab sh sn sv u w t lo wr pl n PN pn VN vn : Nat) (cl cd b pf : Nat → Nat) (fv : Nat → Int32) (ht : t ≤ n) (hn : n ≤ 65536) (hlo2 : lo < 2) (hw : w ≤ 54) (hPN : PN ≤ 4096) (hpn : pn ≤ PN) (hVN : VN ≤ 8192) (hvn : vn ≤ VN) (h2 : 2 ≤ VN) (hb256 : ∀ j, b j < 256) (hlt9 : pn < PN) (hem : ¬ eP b n t lo = 1) (hw54 : w < 54)  : kM l yX2_takePoint vsX2_takePoint ({ frames := 2, cells := 0, slots := 0, locals := 47 }) D (kT cI cB cJ cS) [.ref rd] [(rd, .inr (0, [.int (nI u), .ref jl, .ref jd, .int (nI w), .ref a, .ref sh, .int (nI t), .int (nI lo), .int (nI wr), .int (nI pl)])), (jl, .inl (cJ, 54, .inr (.inl (lF cl)))), (jd, .inl (cI, 54, .inl (iF cd))), (a, .inr (1, [.ref ab, .int (nI n)])), (ab, .inl (cB, 65536, .inl (bF b))), (sh, .inr (2, [.ref sn, .ref sv, .int (nI pn), .int (nI vn)])), (sn, .inl (cI, PN, .inl (iF pf))), (sv, .inl (cI, VN, .inl fv))] (kQi D (kT cI cB cJ cS) (fun r (ug : Unit) => r = nI 1) (fun ug => [(rd, .inr (0, [.int (nI u), .ref jl, .ref jd, .int (nI (w + 1)), .ref a, .ref sh, .int (nI t), .int (nI lo), .int (nI wr), .int (nI pl)])), (jl, .inl (cJ, 54, .inr (.inl (lF (va_up cl w 1))))), (jd, .inl (cI, 54, .inl (iF (va_up cd w 9)))), (a, .inr (1, [.ref ab, .int (nI n)])), (ab, .inl (cB, 65536, .inl (bF b))), (sh, .inr (2, [.ref sn, .ref sv, .int (nI (pn + 1)), .int (nI vn)])), (sn, .inl (cI, PN, .inl (iF (va_up pf pn 1)))), (sv, .inl (cI, VN, .inl fv))])) := by
  refine k_ofW (by decide) rfl (Nat.le_of_ble_eq_true rfl) ?_
  intro p e s m below meth c A ls hx hb hr hts hown hlocks hmn hml hA hP hK hD hS hZ hl
  have inX2 : ∀ w ∈ wsX20, w ∈ vsX2_takePoint := fun w h => List.mem_cons_of_mem _ (iaX2 w h)
  have inX3 : ∀ w ∈ wsX30, w ∈ vsX2_takePoint := fun w h => List.mem_cons_of_mem _ (iaX3 w h)
  have inX4 : ∀ w ∈ wsX40, w ∈ vsX2_takePoint := fun w h => List.mem_cons_of_mem _ (iaX4 w h)
  have F : CallFix p m c cX2_takePoint 1 s _ vsX2_takePoint RX2 := ⟨hx, hb, hml, hown, hts⟩
  have hl : lv_has ls 1 [(0, .ref rd)] := hl
  refine lv_aload_n hx hb dX2_takePoint_0 rfl (lv_at hl 0 rfl) ?_
  refine k_ci (wr := []) (k_rv F (c_Rd_isEmptyPoint l D cI cB cJ cS rd jl jd a ab sh sn sv u w t lo wr pl n PN pn VN vn cl cd b pf fv (by omega) (by omega) (by omega) (by omega) (by omega) (by omega) (by omega) (by omega) (by omega) hb256 ) (cwV 0 hts (g_V wd_77 wd_78 wd_79 wd_55 wd_80) rfl rfl rfl (by decide +kernel) ⟨Nat.le_of_ble_eq_true rfl, Nat.le_of_ble_eq_true rfl⟩) hK hP hD hS hA hZ [0, 1, 2, 3, 4, 5, 6, 7] rfl (by decide) 0 rfl rfl rfl rfl hl.1 rfl (Nat.le_of_ble_eq_true rfl) dX2_takePoint_1 ⟨Nat.le_of_ble_eq_true rfl, Nat.le_of_ble_eq_true rfl⟩) hP hD hS hA [0, 1, 2, 3, 4, 5, 6, 7] [] rfl rfl (by decide) (by decide) (fun r u9 H locs hw hP hD hS => ?_)
  subst hw
  have hP : va_P D kCl [(rd, .inr (0, [.int (nI u), .ref jl, .ref jd, .int (nI w), .ref a, .ref sh, .int (nI t), .int (nI lo), .int (nI wr), .int (nI pl)])), (jl, .inl (cJ, 54, .inr (.inl (lF cl)))), (jd, .inl (cI, 54, .inl (iF cd))), (a, .inr (1, [.ref ab, .int (nI n)])), (ab, .inl (cB, 65536, .inl (bF b))), (sh, .inr (2, [.ref sn, .ref sv, .int (nI pn), .int (nI vn)])), (sn, .inl (cI, PN, .inl (iF pf))), (sv, .inl (cI, VN, .inl fv))] H := hP
  have hD : va_D A [(rd, .inr (0, [.int (nI u), .ref jl, .ref jd, .int (nI w), .ref a, .ref sh, .int (nI t), .int (nI lo), .int (nI wr), .int (nI pl)])), (jl, .inl (cJ, 54, .inr (.inl (lF cl)))), (jd, .inl (cI, 54, .inl (iF cd))), (a, .inr (1, [.ref ab, .int (nI n)])), (ab, .inl (cB, 65536, .inl (bF b))), (sh, .inr (2, [.ref sn, .ref sv, .int (nI pn), .int (nI vn)])), (sn, .inl (cI, PN, .inl (iF pf))), (sv, .inl (cI, VN, .inl fv))] := hD
  refine W.widen (k := 0) (n := 0) (Nat.le_of_ble_eq_true rfl) (Nat.le_of_ble_eq_true rfl) ?_
  refine k_if_eq (tgt := 29) (eP_lt) hx hb dX2_takePoint_4 (by decide) (fun c78 => ?_) (fun c78 => ?_)
  · skip
    refine lv_aload_n hx hb dX2_takePoint_29 rfl (lv_at hl 0 rfl) ?_
    refine va_get (D := D) (ci := 0) (v := .ref sh) (C := RX2) (T := TX2) (N := 10) hx hb hts inX2 hown hK hP 0 rfl rfl 5 (by decide) (hts (.fieldLink RX2 60 "ByteShapes$Reader" "into" "LByteShapes$Shape;") (List.mem_cons_of_mem _ wd_76)) (fun _ h9 => h9) rfl dX2_takePoint_30 ?_
    refine lv_iconst (v := nI 1) hx hb dX2_takePoint_33 (by decide) ?_
    refine k_cv (wr := [(rd, .inr (0, [.int (nI u), .ref jl, .ref jd, .int (nI w), .ref a, .ref sh, .int (nI t), .int (nI lo), .int (nI wr), .int (nI pl)])), (jl, .inl (cJ, 54, .inr (.inl (lF cl)))), (jd, .inl (cI, 54, .inl (iF cd))), (a, .inr (1, [.ref ab, .int (nI n)])), (ab, .inl (cB, 65536, .inl (bF b)))]) (k_rv F (c_Shape_addNumber l D cI cB cJ cS sh sn sv PN pn VN vn pf fv hPN hpn 1 hlt9) (cwV 1 hts (g_V wd_81 wd_82 wd_83 wd_41 wd_84) rfl rfl rfl (by decide +kernel) ⟨Nat.le_of_ble_eq_true rfl, Nat.le_of_ble_eq_true rfl⟩) hK hP hD hS hA hZ [5, 6, 7] rfl (by decide) 5 rfl rfl rfl rfl hl.1 rfl (Nat.le_of_ble_eq_true rfl) dX2_takePoint_34 ⟨Nat.le_of_ble_eq_true rfl, Nat.le_of_ble_eq_true rfl⟩) hP hD hS hA [5, 6, 7] [0, 1, 2, 3, 4] rfl rfl (by decide) (by decide) (fun u9 H locs hw hP hD hS => ?_)
    have hP : va_P D kCl [(rd, .inr (0, [.int (nI u), .ref jl, .ref jd, .int (nI w), .ref a, .ref sh, .int (nI t), .int (nI lo), .int (nI wr), .int (nI pl)])), (jl, .inl (cJ, 54, .inr (.inl (lF cl)))), (jd, .inl (cI, 54, .inl (iF cd))), (a, .inr (1, [.ref ab, .int (nI n)])), (ab, .inl (cB, 65536, .inl (bF b))), (sh, .inr (2, [.ref sn, .ref sv, .int (nI (pn + 1)), .int (nI vn)])), (sn, .inl (cI, PN, .inl (iF (va_up pf pn 1)))), (sv, .inl (cI, VN, .inl fv))] H := hP
    have hD : va_D A [(rd, .inr (0, [.int (nI u), .ref jl, .ref jd, .int (nI w), .ref a, .ref sh, .int (nI t), .int (nI lo), .int (nI wr), .int (nI pl)])), (jl, .inl (cJ, 54, .inr (.inl (lF cl)))), (jd, .inl (cI, 54, .inl (iF cd))), (a, .inr (1, [.ref ab, .int (nI n)])), (ab, .inl (cB, 65536, .inl (bF b))), (sh, .inr (2, [.ref sn, .ref sv, .int (nI (pn + 1)), .int (nI vn)])), (sn, .inl (cI, PN, .inl (iF (va_up pf pn 1)))), (sv, .inl (cI, VN, .inl fv))] := hD
    refine W.widen (k := 0) (n := 0) (Nat.le_of_ble_eq_true rfl) (Nat.le_of_ble_eq_true rfl) ?_
    refine lv_aload_n hx hb dX2_takePoint_37 rfl (lv_at hl 0 rfl) ?_
    refine lv_lconst (v := lN 1) hx hb dX2_takePoint_38 (by decide) ?_
    refine lv_bipush (v := nI 9) hx hb dX2_takePoint_39 (by decide) ?_
    refine k_cv (wr := []) (k_rv F (c_Rd_waitFor l D cI cB cJ cS rd jl jd a ab sh sn sv u w t lo wr pl n PN (pn + 1) VN vn cl cd b (va_up pf pn 1) fv (by omega) (by omega) (by omega) (by omega) (by omega) (by omega) (by omega) (by omega) (by omega) hb256 1 9 hw54) (cwV 2 hts (g_V wd_85 wd_86 wd_87 wd_55 wd_88) rfl rfl rfl (by decide +kernel) ⟨Nat.le_of_ble_eq_true rfl, Nat.le_of_ble_eq_true rfl⟩) hK hP hD hS hA hZ [0, 1, 2, 3, 4, 5, 6, 7] rfl (by decide) 0 rfl rfl rfl rfl hl.1 rfl (Nat.le_of_ble_eq_true rfl) dX2_takePoint_41 ⟨Nat.le_of_ble_eq_true rfl, Nat.le_of_ble_eq_true rfl⟩) hP hD hS hA [0, 1, 2, 3, 4, 5, 6, 7] [] rfl rfl (by decide) (by decide) (fun u9 H locs hw hP hD hS => ?_)
    have hP : va_P D kCl [(rd, .inr (0, [.int (nI u), .ref jl, .ref jd, .int (nI (w + 1)), .ref a, .ref sh, .int (nI t), .int (nI lo), .int (nI wr), .int (nI pl)])), (jl, .inl (cJ, 54, .inr (.inl (lF (va_up cl w 1))))), (jd, .inl (cI, 54, .inl (iF (va_up cd w 9)))), (a, .inr (1, [.ref ab, .int (nI n)])), (ab, .inl (cB, 65536, .inl (bF b))), (sh, .inr (2, [.ref sn, .ref sv, .int (nI (pn + 1)), .int (nI vn)])), (sn, .inl (cI, PN, .inl (iF (va_up pf pn 1)))), (sv, .inl (cI, VN, .inl fv))] H := hP
    have hD : va_D A [(rd, .inr (0, [.int (nI u), .ref jl, .ref jd, .int (nI (w + 1)), .ref a, .ref sh, .int (nI t), .int (nI lo), .int (nI wr), .int (nI pl)])), (jl, .inl (cJ, 54, .inr (.inl (lF (va_up cl w 1))))), (jd, .inl (cI, 54, .inl (iF (va_up cd w 9)))), (a, .inr (1, [.ref ab, .int (nI n)])), (ab, .inl (cB, 65536, .inl (bF b))), (sh, .inr (2, [.ref sn, .ref sv, .int (nI (pn + 1)), .int (nI vn)])), (sn, .inl (cI, PN, .inl (iF (va_up pf pn 1)))), (sv, .inl (cI, VN, .inl fv))] := hD
    refine W.widen (k := 0) (n := 0) (Nat.le_of_ble_eq_true rfl) (Nat.le_of_ble_eq_true rfl) ?_
    refine lv_iconst (v := nI 1) hx hb dX2_takePoint_44 (by decide) ?_
    exact k_iret () hx hb hr (by first | rfl | decide | exact vp_nar_int _) hlocks hK hP hD hS (rfl) (rfl) (Nat.le_of_ble_eq_true rfl) (Nat.le_of_ble_eq_true rfl) dX2_takePoint_45
  · skip
    exact absurd c78 (by have q := eP_le b n t lo; omega)

set_option maxRecDepth 100000 in
set_option maxHeartbeats 4000000 in
theorem c_Rd_itemsOf (l : Launch) (D : va_G) (cI cB cJ cS : ClassId) (k : Nat) (hk1 : 2 ≤ k) (hk2 : k ≤ 7)  : kM l yX2_itemsOf vsX2_itemsOf ({ frames := 0, cells := 0, slots := 0, locals := 0 }) D (kT cI cB cJ cS) [.int (nI k)] [] (kQi D (kT cI cB cJ cS) (fun r (ug : Unit) => r = nI (iOf k)) (fun ug => [])) := by
  refine k_ofW (by decide) rfl (Nat.le_of_ble_eq_true rfl) ?_
  intro p e s m below meth c A ls hx hb hr hts hown hlocks hmn hml hA hP hK hD hS hZ hl
  have F : CallFix p m c cX2_itemsOf 1 s _ vsX2_itemsOf RX2 := ⟨hx, hb, hml, hown, hts⟩
  have hl : lv_has ls 1 [(0, .int (nI k))] := hl
  obtain rfl | rfl | rfl | rfl | rfl | rfl : k = 2 ∨ k = 3 ∨ k = 4 ∨ k = 5 ∨ k = 6 ∨ k = 7 := by omega
  · skip
    refine lv_iload_n hx hb dX2_itemsOf_0 rfl (lv_at hl 0 rfl) ?_
    refine lv_lookup (off := 35) (tgt := 36) hx hb dX2_itemsOf_1 (by decide) (by decide) (by decide) ?_
    refine lv_bipush (v := nI 9) hx hb dX2_itemsOf_36 (by decide) ?_
    exact k_iret () hx hb hr (by first | rfl | decide | exact vp_nar_int _) hlocks hK hP hD hS (rfl) (rfl) (Nat.le_of_ble_eq_true rfl) (Nat.le_of_ble_eq_true rfl) dX2_itemsOf_38
  · skip
    refine lv_iload_n hx hb dX2_itemsOf_0 rfl (lv_at hl 0 rfl) ?_
    refine lv_lookup (off := 38) (tgt := 39) hx hb dX2_itemsOf_1 (by decide) (by decide) (by decide) ?_
    refine lv_bipush (v := nI 8) hx hb dX2_itemsOf_39 (by decide) ?_
    exact k_iret () hx hb hr (by first | rfl | decide | exact vp_nar_int _) hlocks hK hP hD hS (rfl) (rfl) (Nat.le_of_ble_eq_true rfl) (Nat.le_of_ble_eq_true rfl) dX2_itemsOf_41
  · skip
    refine lv_iload_n hx hb dX2_itemsOf_0 rfl (lv_at hl 0 rfl) ?_
    refine lv_lookup (off := 43) (tgt := 44) hx hb dX2_itemsOf_1 (by decide) (by decide) (by decide) ?_
    refine lv_iload_n hx hb dX2_itemsOf_44 rfl (lv_at hl 0 rfl) ?_
    refine lv_iconst (v := nI 3) hx hb dX2_itemsOf_45 (by decide) ?_
    refine lv_isub hx hb dX2_itemsOf_46 ?_
    refine k_i (show _ = nI (4 - 3) from pk_sub (by omega)) ?_
    exact k_iret () hx hb hr (by first | rfl | decide | exact vp_nar_int _) hlocks hK hP hD hS (rfl) (rfl) (Nat.le_of_ble_eq_true rfl) (Nat.le_of_ble_eq_true rfl) dX2_itemsOf_47
  · skip
    refine lv_iload_n hx hb dX2_itemsOf_0 rfl (lv_at hl 0 rfl) ?_
    refine lv_lookup (off := 43) (tgt := 44) hx hb dX2_itemsOf_1 (by decide) (by decide) (by decide) ?_
    refine lv_iload_n hx hb dX2_itemsOf_44 rfl (lv_at hl 0 rfl) ?_
    refine lv_iconst (v := nI 3) hx hb dX2_itemsOf_45 (by decide) ?_
    refine lv_isub hx hb dX2_itemsOf_46 ?_
    refine k_i (show _ = nI (5 - 3) from pk_sub (by omega)) ?_
    exact k_iret () hx hb hr (by first | rfl | decide | exact vp_nar_int _) hlocks hK hP hD hS (rfl) (rfl) (Nat.le_of_ble_eq_true rfl) (Nat.le_of_ble_eq_true rfl) dX2_itemsOf_47
  · skip
    refine lv_iload_n hx hb dX2_itemsOf_0 rfl (lv_at hl 0 rfl) ?_
    refine lv_lookup (off := 43) (tgt := 44) hx hb dX2_itemsOf_1 (by decide) (by decide) (by decide) ?_
    refine lv_iload_n hx hb dX2_itemsOf_44 rfl (lv_at hl 0 rfl) ?_
    refine lv_iconst (v := nI 3) hx hb dX2_itemsOf_45 (by decide) ?_
    refine lv_isub hx hb dX2_itemsOf_46 ?_
    refine k_i (show _ = nI (6 - 3) from pk_sub (by omega)) ?_
    exact k_iret () hx hb hr (by first | rfl | decide | exact vp_nar_int _) hlocks hK hP hD hS (rfl) (rfl) (Nat.le_of_ble_eq_true rfl) (Nat.le_of_ble_eq_true rfl) dX2_itemsOf_47
  · skip
    refine lv_iload_n hx hb dX2_itemsOf_0 rfl (lv_at hl 0 rfl) ?_
    refine lv_lookup (off := 41) (tgt := 42) hx hb dX2_itemsOf_1 (by decide) (by decide) (by decide) ?_
    refine lv_iconst (v := nI 0) hx hb dX2_itemsOf_42 (by decide) ?_
    exact k_iret () hx hb hr (by first | rfl | decide | exact vp_nar_int _) hlocks hK hP hD hS (rfl) (rfl) (Nat.le_of_ble_eq_true rfl) (Nat.le_of_ble_eq_true rfl) dX2_itemsOf_43

set_option maxRecDepth 100000 in
set_option maxHeartbeats 4000000 in
theorem c_Rd_takeCount0 (l : Launch) (D : va_G) (cI cB cJ cS : ClassId) (rd jl jd a ab sh sn sv u w t lo wr pl n PN pn VN vn : Nat) (cl cd b pf : Nat → Nat) (fv : Nat → Int32) (ht : t ≤ n) (hn : n ≤ 65536) (hlo2 : lo < 2) (hw : w ≤ 54) (hPN : PN ≤ 4096) (hpn : pn ≤ PN) (hVN : VN ≤ 8192) (hvn : vn ≤ VN) (h2 : 2 ≤ VN) (hb256 : ∀ j, b j < 256) (k : Nat) (hyes : n < t + 4)  : kM l yX2_takeCount vsX2_takeCount ({ frames := 2, cells := 0, slots := 0, locals := 43 }) D (kT cI cB cJ cS) [.ref rd, .int (nI k)] [(rd, .inr (0, [.int (nI u), .ref jl, .ref jd, .int (nI w), .ref a, .ref sh, .int (nI t), .int (nI lo), .int (nI wr), .int (nI pl)])), (jl, .inl (cJ, 54, .inr (.inl (lF cl)))), (jd, .inl (cI, 54, .inl (iF cd))), (a, .inr (1, [.ref ab, .int (nI n)])), (ab, .inl (cB, 65536, .inl (bF b))), (sh, .inr (2, [.ref sn, .ref sv, .int (nI pn), .int (nI vn)])), (sn, .inl (cI, PN, .inl (iF pf))), (sv, .inl (cI, VN, .inl fv))] (kQi D (kT cI cB cJ cS) (fun r (ug : Unit) => r = nI 0) (fun ug => [(rd, .inr (0, [.int (nI u), .ref jl, .ref jd, .int (nI w), .ref a, .ref sh, .int (nI t), .int (nI lo), .int (nI 3), .int (nI t)])), (jl, .inl (cJ, 54, .inr (.inl (lF cl)))), (jd, .inl (cI, 54, .inl (iF cd))), (a, .inr (1, [.ref ab, .int (nI n)])), (ab, .inl (cB, 65536, .inl (bF b))), (sh, .inr (2, [.ref sn, .ref sv, .int (nI pn), .int (nI vn)])), (sn, .inl (cI, PN, .inl (iF pf))), (sv, .inl (cI, VN, .inl fv))])) := by
  refine k_ofW (by decide) rfl (Nat.le_of_ble_eq_true rfl) ?_
  intro p e s m below meth c A ls hx hb hr hts hown hlocks hmn hml hA hP hK hD hS hZ hl
  have inX2 : ∀ w ∈ wsX20, w ∈ vsX2_takeCount := fun w h => List.mem_cons_of_mem _ (iaX2 w h)
  have inX3 : ∀ w ∈ wsX30, w ∈ vsX2_takeCount := fun w h => List.mem_cons_of_mem _ (iaX3 w h)
  have inX4 : ∀ w ∈ wsX40, w ∈ vsX2_takeCount := fun w h => List.mem_cons_of_mem _ (iaX4 w h)
  have F : CallFix p m c cX2_takeCount 4 s _ vsX2_takeCount RX2 := ⟨hx, hb, hml, hown, hts⟩
  have hl : lv_has ls 4 [(0, .ref rd), (1, .int (nI k))] := hl
  refine lv_aload_n hx hb dX2_takeCount_0 rfl (lv_at hl 0 rfl) ?_
  refine lv_iconst (v := nI 4) hx hb dX2_takeCount_1 (by decide) ?_
  refine k_ci (wr := []) (k_rv F (c_Rd_isThere0 l D cI cB cJ cS rd jl jd a ab sh sn sv u w t lo wr pl n PN pn VN vn cl cd b pf fv (by omega) (by omega) (by omega) (by omega) (by omega) (by omega) (by omega) (by omega) (by omega) hb256 4 (by omega) hyes) (cwV 1 hts (g_V wd_65 wd_66 wd_67 wd_55 wd_68) rfl rfl rfl (by decide +kernel) ⟨Nat.le_of_ble_eq_true rfl, Nat.le_of_ble_eq_true rfl⟩) hK hP hD hS hA hZ [0, 1, 2, 3, 4, 5, 6, 7] rfl (by decide) 0 rfl rfl rfl rfl hl.1 rfl (Nat.le_of_ble_eq_true rfl) dX2_takeCount_2 ⟨Nat.le_of_ble_eq_true rfl, Nat.le_of_ble_eq_true rfl⟩) hP hD hS hA [0, 1, 2, 3, 4, 5, 6, 7] [] rfl rfl (by decide) (by decide) (fun r u9 H locs hw hP hD hS => ?_)
  subst hw
  have hP : va_P D kCl [(rd, .inr (0, [.int (nI u), .ref jl, .ref jd, .int (nI w), .ref a, .ref sh, .int (nI t), .int (nI lo), .int (nI 3), .int (nI t)])), (jl, .inl (cJ, 54, .inr (.inl (lF cl)))), (jd, .inl (cI, 54, .inl (iF cd))), (a, .inr (1, [.ref ab, .int (nI n)])), (ab, .inl (cB, 65536, .inl (bF b))), (sh, .inr (2, [.ref sn, .ref sv, .int (nI pn), .int (nI vn)])), (sn, .inl (cI, PN, .inl (iF pf))), (sv, .inl (cI, VN, .inl fv))] H := hP
  have hD : va_D A [(rd, .inr (0, [.int (nI u), .ref jl, .ref jd, .int (nI w), .ref a, .ref sh, .int (nI t), .int (nI lo), .int (nI 3), .int (nI t)])), (jl, .inl (cJ, 54, .inr (.inl (lF cl)))), (jd, .inl (cI, 54, .inl (iF cd))), (a, .inr (1, [.ref ab, .int (nI n)])), (ab, .inl (cB, 65536, .inl (bF b))), (sh, .inr (2, [.ref sn, .ref sv, .int (nI pn), .int (nI vn)])), (sn, .inl (cI, PN, .inl (iF pf))), (sv, .inl (cI, VN, .inl fv))] := hD
  refine W.widen (k := 0) (n := 0) (Nat.le_of_ble_eq_true rfl) (Nat.le_of_ble_eq_true rfl) ?_
  refine k_if_ne (tgt := 10) (by omega) hx hb dX2_takeCount_5 (by decide) (fun c79 => ?_) (fun c79 => ?_)
  · skip
    exact absurd c79 (by omega)
  · skip
    refine lv_iconst (v := nI 0) hx hb dX2_takeCount_8 (by decide) ?_
    exact k_iret () hx hb hr (by first | rfl | decide | exact vp_nar_int _) hlocks hK hP hD hS (rfl) (rfl) (Nat.le_of_ble_eq_true rfl) (Nat.le_of_ble_eq_true rfl) dX2_takeCount_9

set_option maxRecDepth 100000 in
set_option maxHeartbeats 4000000 in
theorem c_Rd_takeCount1 (l : Launch) (D : va_G) (cI cB cJ cS : ClassId) (rd jl jd a ab sh sn sv u w t lo wr pl n PN pn VN vn : Nat) (cl cd b pf : Nat → Nat) (fv : Nat → Int32) (ht : t ≤ n) (hn : n ≤ 65536) (hlo2 : lo < 2) (hw : w ≤ 54) (hPN : PN ≤ 4096) (hpn : pn ≤ PN) (hVN : VN ≤ 8192) (hvn : vn ≤ VN) (h2 : 2 ≤ VN) (hb256 : ∀ j, b j < 256) (k : Nat) (hk1 : 2 ≤ k) (hk2 : k ≤ 7) (hyes : t + 4 ≤ n) (hlt9 : pn < PN) (hw54 : w < 54)  : kM l yX2_takeCount vsX2_takeCount ({ frames := 2, cells := 0, slots := 0, locals := 50 }) D (kT cI cB cJ cS) [.ref rd, .int (nI k)] [(rd, .inr (0, [.int (nI u), .ref jl, .ref jd, .int (nI w), .ref a, .ref sh, .int (nI t), .int (nI lo), .int (nI wr), .int (nI pl)])), (jl, .inl (cJ, 54, .inr (.inl (lF cl)))), (jd, .inl (cI, 54, .inl (iF cd))), (a, .inr (1, [.ref ab, .int (nI n)])), (ab, .inl (cB, 65536, .inl (bF b))), (sh, .inr (2, [.ref sn, .ref sv, .int (nI pn), .int (nI vn)])), (sn, .inl (cI, PN, .inl (iF pf))), (sv, .inl (cI, VN, .inl fv))] (kQi D (kT cI cB cJ cS) (fun r (ug : Unit) => r = nI 1) (fun ug => [(rd, .inr (0, [.int (nI u), .ref jl, .ref jd, .int (nI (w + 1)), .ref a, .ref sh, .int (nI (t + 4)), .int (nI lo), .int (nI wr), .int (nI pl)])), (jl, .inl (cJ, 54, .inr (.inl (lF (va_up cl w (pN b t 4 lo)))))), (jd, .inl (cI, 54, .inl (iF (va_up cd w (iOf k))))), (a, .inr (1, [.ref ab, .int (nI n)])), (ab, .inl (cB, 65536, .inl (bF b))), (sh, .inr (2, [.ref sn, .ref sv, .int (nI (pn + 1)), .int (nI vn)])), (sn, .inl (cI, PN, .inl (iF (va_up pf pn (pN b t 4 lo))))), (sv, .inl (cI, VN, .inl fv))])) := by
  refine k_ofW (by decide) rfl (Nat.le_of_ble_eq_true rfl) ?_
  intro p e s m below meth c A ls hx hb hr hts hown hlocks hmn hml hA hP hK hD hS hZ hl
  have inX2 : ∀ w ∈ wsX20, w ∈ vsX2_takeCount := fun w h => List.mem_cons_of_mem _ (iaX2 w h)
  have inX3 : ∀ w ∈ wsX30, w ∈ vsX2_takeCount := fun w h => List.mem_cons_of_mem _ (iaX3 w h)
  have inX4 : ∀ w ∈ wsX40, w ∈ vsX2_takeCount := fun w h => List.mem_cons_of_mem _ (iaX4 w h)
  have F : CallFix p m c cX2_takeCount 4 s _ vsX2_takeCount RX2 := ⟨hx, hb, hml, hown, hts⟩
  have hl : lv_has ls 4 [(0, .ref rd), (1, .int (nI k))] := hl
  refine lv_aload_n hx hb dX2_takeCount_0 rfl (lv_at hl 0 rfl) ?_
  refine lv_iconst (v := nI 4) hx hb dX2_takeCount_1 (by decide) ?_
  refine k_ci (wr := []) (k_rv F (c_Rd_isThere1 l D cI cB cJ cS rd jl jd a ab sh sn sv u w t lo wr pl n PN pn VN vn cl cd b pf fv (by omega) (by omega) (by omega) (by omega) (by omega) (by omega) (by omega) (by omega) (by omega) hb256 4 (by omega) hyes) (cwV 1 hts (g_V wd_65 wd_66 wd_67 wd_55 wd_68) rfl rfl rfl (by decide +kernel) ⟨Nat.le_of_ble_eq_true rfl, Nat.le_of_ble_eq_true rfl⟩) hK hP hD hS hA hZ [0, 1, 2, 3, 4, 5, 6, 7] rfl (by decide) 0 rfl rfl rfl rfl hl.1 rfl (Nat.le_of_ble_eq_true rfl) dX2_takeCount_2 ⟨Nat.le_of_ble_eq_true rfl, Nat.le_of_ble_eq_true rfl⟩) hP hD hS hA [0, 1, 2, 3, 4, 5, 6, 7] [] rfl rfl (by decide) (by decide) (fun r u9 H locs hw hP hD hS => ?_)
  subst hw
  have hP : va_P D kCl [(rd, .inr (0, [.int (nI u), .ref jl, .ref jd, .int (nI w), .ref a, .ref sh, .int (nI t), .int (nI lo), .int (nI wr), .int (nI pl)])), (jl, .inl (cJ, 54, .inr (.inl (lF cl)))), (jd, .inl (cI, 54, .inl (iF cd))), (a, .inr (1, [.ref ab, .int (nI n)])), (ab, .inl (cB, 65536, .inl (bF b))), (sh, .inr (2, [.ref sn, .ref sv, .int (nI pn), .int (nI vn)])), (sn, .inl (cI, PN, .inl (iF pf))), (sv, .inl (cI, VN, .inl fv))] H := hP
  have hD : va_D A [(rd, .inr (0, [.int (nI u), .ref jl, .ref jd, .int (nI w), .ref a, .ref sh, .int (nI t), .int (nI lo), .int (nI wr), .int (nI pl)])), (jl, .inl (cJ, 54, .inr (.inl (lF cl)))), (jd, .inl (cI, 54, .inl (iF cd))), (a, .inr (1, [.ref ab, .int (nI n)])), (ab, .inl (cB, 65536, .inl (bF b))), (sh, .inr (2, [.ref sn, .ref sv, .int (nI pn), .int (nI vn)])), (sn, .inl (cI, PN, .inl (iF pf))), (sv, .inl (cI, VN, .inl fv))] := hD
  refine W.widen (k := 0) (n := 0) (Nat.le_of_ble_eq_true rfl) (Nat.le_of_ble_eq_true rfl) ?_
  refine k_if_ne (tgt := 10) (by omega) hx hb dX2_takeCount_5 (by decide) (fun c80 => ?_) (fun c80 => ?_)
  · skip
    refine lv_aload_n hx hb dX2_takeCount_10 rfl (lv_at hl 0 rfl) ?_
    refine lv_iconst (v := nI 4) hx hb dX2_takeCount_11 (by decide) ?_
    refine k_cl (wr := []) (k_rv F (c_Rd_takeNumber l D cI cB cJ cS rd jl jd a ab sh sn sv u w t lo wr pl n PN pn VN vn cl cd b pf fv (by omega) (by omega) (by omega) (by omega) (by omega) (by omega) (by omega) (by omega) (by omega) hb256 4 (by omega) hyes) (cwV 1 hts (g_V wd_89 wd_90 wd_91 wd_55 wd_92) rfl rfl rfl (by decide +kernel) ⟨Nat.le_of_ble_eq_true rfl, Nat.le_of_ble_eq_true rfl⟩) hK hP hD hS hA hZ [0, 1, 2, 3, 4, 5, 6, 7] rfl (by decide) 0 rfl rfl rfl rfl hl.1 rfl (Nat.le_of_ble_eq_true rfl) dX2_takeCount_12 ⟨Nat.le_of_ble_eq_true rfl, Nat.le_of_ble_eq_true rfl⟩) hP hD hS hA [0, 1, 2, 3, 4, 5, 6, 7] [] rfl rfl (by decide) (by decide) (fun r u9 H locs hw hP hD hS => ?_)
    subst hw
    have hP : va_P D kCl [(rd, .inr (0, [.int (nI u), .ref jl, .ref jd, .int (nI w), .ref a, .ref sh, .int (nI (t + 4)), .int (nI lo), .int (nI wr), .int (nI pl)])), (jl, .inl (cJ, 54, .inr (.inl (lF cl)))), (jd, .inl (cI, 54, .inl (iF cd))), (a, .inr (1, [.ref ab, .int (nI n)])), (ab, .inl (cB, 65536, .inl (bF b))), (sh, .inr (2, [.ref sn, .ref sv, .int (nI pn), .int (nI vn)])), (sn, .inl (cI, PN, .inl (iF pf))), (sv, .inl (cI, VN, .inl fv))] H := hP
    have hD : va_D A [(rd, .inr (0, [.int (nI u), .ref jl, .ref jd, .int (nI w), .ref a, .ref sh, .int (nI (t + 4)), .int (nI lo), .int (nI wr), .int (nI pl)])), (jl, .inl (cJ, 54, .inr (.inl (lF cl)))), (jd, .inl (cI, 54, .inl (iF cd))), (a, .inr (1, [.ref ab, .int (nI n)])), (ab, .inl (cB, 65536, .inl (bF b))), (sh, .inr (2, [.ref sn, .ref sv, .int (nI pn), .int (nI vn)])), (sn, .inl (cI, PN, .inl (iF pf))), (sv, .inl (cI, VN, .inl fv))] := hD
    refine W.widen (k := 0) (n := 0) (Nat.le_of_ble_eq_true rfl) (Nat.le_of_ble_eq_true rfl) ?_
    refine lv_lstore_n (lv' := [(2, .long (lN (pN b t 4 lo))), (0, .ref rd), (1, .int (nI k))]) hx hb dX2_takeCount_15 rfl hl (by decide) rfl (fun ls hl => ?_)
    refine lv_aload_n hx hb dX2_takeCount_16 rfl (lv_at hl 1 rfl) ?_
    refine va_get (D := D) (ci := 0) (v := .ref sh) (C := RX2) (T := TX2) (N := 10) hx hb hts inX2 hown hK hP 0 rfl rfl 5 (by decide) (hts (.fieldLink RX2 60 "ByteShapes$Reader" "into" "LByteShapes$Shape;") (List.mem_cons_of_mem _ wd_76)) (fun _ h9 => h9) rfl dX2_takeCount_17 ?_
    refine lv_lload_n hx hb dX2_takeCount_20 rfl (lv_at hl 0 rfl) ?_
    refine lv_l2i (v := nI (pN b t 4 lo)) hx hb dX2_takeCount_21 (lN_i _) ?_
    refine k_cv (wr := [(rd, .inr (0, [.int (nI u), .ref jl, .ref jd, .int (nI w), .ref a, .ref sh, .int (nI (t + 4)), .int (nI lo), .int (nI wr), .int (nI pl)])), (jl, .inl (cJ, 54, .inr (.inl (lF cl)))), (jd, .inl (cI, 54, .inl (iF cd))), (a, .inr (1, [.ref ab, .int (nI n)])), (ab, .inl (cB, 65536, .inl (bF b)))]) (k_rv F (c_Shape_addNumber l D cI cB cJ cS sh sn sv PN pn VN vn pf fv hPN hpn (pN b t 4 lo) hlt9) (cwV 1 hts (g_V wd_81 wd_82 wd_83 wd_41 wd_84) rfl rfl rfl (by decide +kernel) ⟨Nat.le_of_ble_eq_true rfl, Nat.le_of_ble_eq_true rfl⟩) hK hP hD hS hA hZ [5, 6, 7] rfl (by decide) 5 rfl rfl rfl rfl hl.1 rfl (Nat.le_of_ble_eq_true rfl) dX2_takeCount_22 ⟨Nat.le_of_ble_eq_true rfl, Nat.le_of_ble_eq_true rfl⟩) hP hD hS hA [5, 6, 7] [0, 1, 2, 3, 4] rfl rfl (by decide) (by decide) (fun u9 H locs hw hP hD hS => ?_)
    have hP : va_P D kCl [(rd, .inr (0, [.int (nI u), .ref jl, .ref jd, .int (nI w), .ref a, .ref sh, .int (nI (t + 4)), .int (nI lo), .int (nI wr), .int (nI pl)])), (jl, .inl (cJ, 54, .inr (.inl (lF cl)))), (jd, .inl (cI, 54, .inl (iF cd))), (a, .inr (1, [.ref ab, .int (nI n)])), (ab, .inl (cB, 65536, .inl (bF b))), (sh, .inr (2, [.ref sn, .ref sv, .int (nI (pn + 1)), .int (nI vn)])), (sn, .inl (cI, PN, .inl (iF (va_up pf pn (pN b t 4 lo))))), (sv, .inl (cI, VN, .inl fv))] H := hP
    have hD : va_D A [(rd, .inr (0, [.int (nI u), .ref jl, .ref jd, .int (nI w), .ref a, .ref sh, .int (nI (t + 4)), .int (nI lo), .int (nI wr), .int (nI pl)])), (jl, .inl (cJ, 54, .inr (.inl (lF cl)))), (jd, .inl (cI, 54, .inl (iF cd))), (a, .inr (1, [.ref ab, .int (nI n)])), (ab, .inl (cB, 65536, .inl (bF b))), (sh, .inr (2, [.ref sn, .ref sv, .int (nI (pn + 1)), .int (nI vn)])), (sn, .inl (cI, PN, .inl (iF (va_up pf pn (pN b t 4 lo))))), (sv, .inl (cI, VN, .inl fv))] := hD
    refine W.widen (k := 0) (n := 0) (Nat.le_of_ble_eq_true rfl) (Nat.le_of_ble_eq_true rfl) ?_
    refine lv_aload_n hx hb dX2_takeCount_25 rfl (lv_at hl 1 rfl) ?_
    refine lv_lload_n hx hb dX2_takeCount_26 rfl (lv_at hl 0 rfl) ?_
    refine lv_iload_n hx hb dX2_takeCount_27 rfl (lv_at hl 2 rfl) ?_
    refine k_ci (wr := [(rd, .inr (0, [.int (nI u), .ref jl, .ref jd, .int (nI w), .ref a, .ref sh, .int (nI (t + 4)), .int (nI lo), .int (nI wr), .int (nI pl)])), (jl, .inl (cJ, 54, .inr (.inl (lF cl)))), (jd, .inl (cI, 54, .inl (iF cd))), (a, .inr (1, [.ref ab, .int (nI n)])), (ab, .inl (cB, 65536, .inl (bF b))), (sh, .inr (2, [.ref sn, .ref sv, .int (nI (pn + 1)), .int (nI vn)])), (sn, .inl (cI, PN, .inl (iF (va_up pf pn (pN b t 4 lo))))), (sv, .inl (cI, VN, .inl fv))]) (k_rs F (c_Rd_itemsOf l D cI cB cJ cS k hk1 hk2) (va_cwS 1 hts (g_S wd_93 wd_94 wd_55 wd_95) rfl rfl rfl (by decide +kernel) ⟨Nat.le_of_ble_eq_true rfl, Nat.le_of_ble_eq_true rfl⟩) hK hP hD hS hA hZ [] rfl (by decide) rfl hl.1 rfl (Nat.le_of_ble_eq_true rfl) dX2_takeCount_28 ⟨Nat.le_of_ble_eq_true rfl, Nat.le_of_ble_eq_true rfl⟩) hP hD hS hA [] [0, 1, 2, 3, 4, 5, 6, 7] rfl rfl (by decide) (by decide) (fun r u9 H locs hw hP hD hS => ?_)
    subst hw
    have hP : va_P D kCl [(rd, .inr (0, [.int (nI u), .ref jl, .ref jd, .int (nI w), .ref a, .ref sh, .int (nI (t + 4)), .int (nI lo), .int (nI wr), .int (nI pl)])), (jl, .inl (cJ, 54, .inr (.inl (lF cl)))), (jd, .inl (cI, 54, .inl (iF cd))), (a, .inr (1, [.ref ab, .int (nI n)])), (ab, .inl (cB, 65536, .inl (bF b))), (sh, .inr (2, [.ref sn, .ref sv, .int (nI (pn + 1)), .int (nI vn)])), (sn, .inl (cI, PN, .inl (iF (va_up pf pn (pN b t 4 lo))))), (sv, .inl (cI, VN, .inl fv))] H := hP
    have hD : va_D A [(rd, .inr (0, [.int (nI u), .ref jl, .ref jd, .int (nI w), .ref a, .ref sh, .int (nI (t + 4)), .int (nI lo), .int (nI wr), .int (nI pl)])), (jl, .inl (cJ, 54, .inr (.inl (lF cl)))), (jd, .inl (cI, 54, .inl (iF cd))), (a, .inr (1, [.ref ab, .int (nI n)])), (ab, .inl (cB, 65536, .inl (bF b))), (sh, .inr (2, [.ref sn, .ref sv, .int (nI (pn + 1)), .int (nI vn)])), (sn, .inl (cI, PN, .inl (iF (va_up pf pn (pN b t 4 lo))))), (sv, .inl (cI, VN, .inl fv))] := hD
    refine W.widen (k := 0) (n := 0) (Nat.le_of_ble_eq_true rfl) (Nat.le_of_ble_eq_true rfl) ?_
    refine k_cv (wr := []) (k_rv F (c_Rd_waitFor l D cI cB cJ cS rd jl jd a ab sh sn sv u w (t + 4) lo wr pl n PN (pn + 1) VN vn cl cd b (va_up pf pn (pN b t 4 lo)) fv (by omega) (by omega) (by omega) (by omega) (by omega) (by omega) (by omega) (by omega) (by omega) hb256 (pN b t 4 lo) (iOf k) hw54) (cwV 2 hts (g_V wd_85 wd_86 wd_87 wd_55 wd_88) rfl rfl rfl (by decide +kernel) ⟨Nat.le_of_ble_eq_true rfl, Nat.le_of_ble_eq_true rfl⟩) hK hP hD hS hA hZ [0, 1, 2, 3, 4, 5, 6, 7] rfl (by decide) 0 rfl rfl rfl rfl hl.1 rfl (Nat.le_of_ble_eq_true rfl) dX2_takeCount_31 ⟨Nat.le_of_ble_eq_true rfl, Nat.le_of_ble_eq_true rfl⟩) hP hD hS hA [0, 1, 2, 3, 4, 5, 6, 7] [] rfl rfl (by decide) (by decide) (fun u9 H locs hw hP hD hS => ?_)
    have hP : va_P D kCl [(rd, .inr (0, [.int (nI u), .ref jl, .ref jd, .int (nI (w + 1)), .ref a, .ref sh, .int (nI (t + 4)), .int (nI lo), .int (nI wr), .int (nI pl)])), (jl, .inl (cJ, 54, .inr (.inl (lF (va_up cl w (pN b t 4 lo)))))), (jd, .inl (cI, 54, .inl (iF (va_up cd w (iOf k))))), (a, .inr (1, [.ref ab, .int (nI n)])), (ab, .inl (cB, 65536, .inl (bF b))), (sh, .inr (2, [.ref sn, .ref sv, .int (nI (pn + 1)), .int (nI vn)])), (sn, .inl (cI, PN, .inl (iF (va_up pf pn (pN b t 4 lo))))), (sv, .inl (cI, VN, .inl fv))] H := hP
    have hD : va_D A [(rd, .inr (0, [.int (nI u), .ref jl, .ref jd, .int (nI (w + 1)), .ref a, .ref sh, .int (nI (t + 4)), .int (nI lo), .int (nI wr), .int (nI pl)])), (jl, .inl (cJ, 54, .inr (.inl (lF (va_up cl w (pN b t 4 lo)))))), (jd, .inl (cI, 54, .inl (iF (va_up cd w (iOf k))))), (a, .inr (1, [.ref ab, .int (nI n)])), (ab, .inl (cB, 65536, .inl (bF b))), (sh, .inr (2, [.ref sn, .ref sv, .int (nI (pn + 1)), .int (nI vn)])), (sn, .inl (cI, PN, .inl (iF (va_up pf pn (pN b t 4 lo))))), (sv, .inl (cI, VN, .inl fv))] := hD
    refine W.widen (k := 0) (n := 0) (Nat.le_of_ble_eq_true rfl) (Nat.le_of_ble_eq_true rfl) ?_
    refine lv_iconst (v := nI 1) hx hb dX2_takeCount_34 (by decide) ?_
    exact k_iret () hx hb hr (by first | rfl | decide | exact vp_nar_int _) hlocks hK hP hD hS (rfl) (rfl) (Nat.le_of_ble_eq_true rfl) (Nat.le_of_ble_eq_true rfl) dX2_takeCount_35
  · skip
    exact absurd c80 (by omega)

set_option maxRecDepth 100000 in
set_option maxHeartbeats 4000000 in
theorem c_Rd_takeShape (l : Launch) (D : va_G) (cI cB cJ cS : ClassId) (rd jl jd a ab sh sn sv u w t lo wr pl n PN pn VN vn : Nat) (cl cd b pf : Nat → Nat) (fv : Nat → Int32) (ht : t ≤ n) (hn : n ≤ 65536) (hlo2 : lo < 2) (hw : w ≤ 54) (hPN : PN ≤ 4096) (hpn : pn ≤ PN) (hVN : VN ≤ 8192) (hvn : vn ≤ VN) (h2 : 2 ≤ VN) (hb256 : ∀ j, b j < 256) (due : Nat) (hdue : due ≤ 9) (h1w : 1 ≤ w) (hw54 : w < 54) (k1 w1 t1 lo1 wr1 pl1 pn1 vn1 : Nat) (cl1 cd1 pf1 : Nat → Nat) (fv1 : Nat → Int32) (hs : sShape b n PN due w t lo wr pl pn vn cl cd pf fv = (k1, (w1, t1, lo1, wr1, pl1, pn1, vn1, cl1, cd1, pf1, fv1)))  : kM l yX2_takeShape vsX2_takeShape ({ frames := 3, cells := 0, slots := 0, locals := 73 }) D (kT cI cB cJ cS) [.ref rd, .int (nI due)] [(rd, .inr (0, [.int (nI u), .ref jl, .ref jd, .int (nI w), .ref a, .ref sh, .int (nI t), .int (nI lo), .int (nI wr), .int (nI pl)])), (jl, .inl (cJ, 54, .inr (.inl (lF cl)))), (jd, .inl (cI, 54, .inl (iF cd))), (a, .inr (1, [.ref ab, .int (nI n)])), (ab, .inl (cB, 65536, .inl (bF b))), (sh, .inr (2, [.ref sn, .ref sv, .int (nI pn), .int (nI vn)])), (sn, .inl (cI, PN, .inl (iF pf))), (sv, .inl (cI, VN, .inl fv))] (kQi D (kT cI cB cJ cS) (fun r (ug : Unit) => r = nI k1) (fun ug => [(rd, .inr (0, [.int (nI u), .ref jl, .ref jd, .int (nI w1), .ref a, .ref sh, .int (nI t1), .int (nI lo1), .int (nI wr1), .int (nI pl1)])), (jl, .inl (cJ, 54, .inr (.inl (lF cl1)))), (jd, .inl (cI, 54, .inl (iF cd1))), (a, .inr (1, [.ref ab, .int (nI n)])), (ab, .inl (cB, 65536, .inl (bF b))), (sh, .inr (2, [.ref sn, .ref sv, .int (nI pn1), .int (nI vn1)])), (sn, .inl (cI, PN, .inl (iF pf1))), (sv, .inl (cI, VN, .inl fv1))])) := by
  refine k_ofW (by decide) rfl (Nat.le_of_ble_eq_true rfl) ?_
  intro p e s m below meth c A ls hx hb hr hts hown hlocks hmn hml hA hP hK hD hS hZ hl
  have inX2 : ∀ w ∈ wsX20, w ∈ vsX2_takeShape := fun w h => List.mem_cons_of_mem _ (iaX2 w h)
  have inX3 : ∀ w ∈ wsX30, w ∈ vsX2_takeShape := fun w h => List.mem_cons_of_mem _ (iaX3 w h)
  have inX4 : ∀ w ∈ wsX40, w ∈ vsX2_takeShape := fun w h => List.mem_cons_of_mem _ (iaX4 w h)
  have F : CallFix p m c cX2_takeShape 5 s _ vsX2_takeShape RX2 := ⟨hx, hb, hml, hown, hts⟩
  have hl : lv_has ls 5 [(0, .ref rd), (1, .int (nI due))] := hl
  refine lv_aload_n hx hb dX2_takeShape_0 rfl (lv_at hl 0 rfl) ?_
  have hbt := hb256 t
  rcases Nat.lt_or_ge n (t + 1) with h1 | h1
  · skip
    refine k_ci (wr := []) (k_rv F (c_Rd_takeOrderE l D cI cB cJ cS rd jl jd a ab sh sn sv u w t lo wr pl n PN pn VN vn cl cd b pf fv (by omega) (by omega) (by omega) (by omega) (by omega) (by omega) (by omega) (by omega) (by omega) hb256 h1) (cwV 0 hts (g_V wd_96 wd_97 wd_98 wd_55 wd_99) rfl rfl rfl (by decide +kernel) ⟨Nat.le_of_ble_eq_true rfl, Nat.le_of_ble_eq_true rfl⟩) hK hP hD hS hA hZ [0, 1, 2, 3, 4, 5, 6, 7] rfl (by decide) 0 rfl rfl rfl rfl hl.1 rfl (Nat.le_of_ble_eq_true rfl) dX2_takeShape_1 ⟨Nat.le_of_ble_eq_true rfl, Nat.le_of_ble_eq_true rfl⟩) hP hD hS hA [0, 1, 2, 3, 4, 5, 6, 7] [] rfl rfl (by decide) (by decide) (fun r u9 H locs hw hP hD hS => ?_)
    subst hw
    have hP : va_P D kCl [(rd, .inr (0, [.int (nI u), .ref jl, .ref jd, .int (nI w), .ref a, .ref sh, .int (nI t), .int (nI lo), .int (nI 3), .int (nI t)])), (jl, .inl (cJ, 54, .inr (.inl (lF cl)))), (jd, .inl (cI, 54, .inl (iF cd))), (a, .inr (1, [.ref ab, .int (nI n)])), (ab, .inl (cB, 65536, .inl (bF b))), (sh, .inr (2, [.ref sn, .ref sv, .int (nI pn), .int (nI vn)])), (sn, .inl (cI, PN, .inl (iF pf))), (sv, .inl (cI, VN, .inl fv))] H := hP
    have hD : va_D A [(rd, .inr (0, [.int (nI u), .ref jl, .ref jd, .int (nI w), .ref a, .ref sh, .int (nI t), .int (nI lo), .int (nI 3), .int (nI t)])), (jl, .inl (cJ, 54, .inr (.inl (lF cl)))), (jd, .inl (cI, 54, .inl (iF cd))), (a, .inr (1, [.ref ab, .int (nI n)])), (ab, .inl (cB, 65536, .inl (bF b))), (sh, .inr (2, [.ref sn, .ref sv, .int (nI pn), .int (nI vn)])), (sn, .inl (cI, PN, .inl (iF pf))), (sv, .inl (cI, VN, .inl fv))] := hD
    refine W.widen (k := 0) (n := 0) (Nat.le_of_ble_eq_true rfl) (Nat.le_of_ble_eq_true rfl) ?_
    refine k_if_eq (tgt := 15) (by omega) hx hb dX2_takeShape_4 (by decide) (fun c81 => ?_) (fun c81 => ?_)
    · skip
      refine lv_iconst (v := nI 0) hx hb dX2_takeShape_15 (by decide) ?_
      rw [show sShape b n PN due w t lo wr pl pn vn cl cd pf fv = (0, (w, t, lo, 3, t, pn, vn, cl, cd, pf, fv)) from by unfold sShape; rw [if_pos (by omega)]] at hs
      cases hs
      exact k_iret () hx hb hr (by first | rfl | decide | exact vp_nar_int _) hlocks hK hP hD hS (rfl) (rfl) (Nat.le_of_ble_eq_true rfl) (Nat.le_of_ble_eq_true rfl) dX2_takeShape_16
    · skip
      exact absurd c81 (by omega)
  · skip
    rcases Nat.lt_or_ge 1 (b t) with hb1 | hb1
    · skip
      refine k_ci (wr := []) (k_rv F (c_Rd_takeOrderB l D cI cB cJ cS rd jl jd a ab sh sn sv u w t lo wr pl n PN pn VN vn cl cd b pf fv (by omega) (by omega) (by omega) (by omega) (by omega) (by omega) (by omega) (by omega) (by omega) hb256 (by omega) hb1) (cwV 0 hts (g_V wd_96 wd_97 wd_98 wd_55 wd_99) rfl rfl rfl (by decide +kernel) ⟨Nat.le_of_ble_eq_true rfl, Nat.le_of_ble_eq_true rfl⟩) hK hP hD hS hA hZ [0, 1, 2, 3, 4, 5, 6, 7] rfl (by decide) 0 rfl rfl rfl rfl hl.1 rfl (Nat.le_of_ble_eq_true rfl) dX2_takeShape_1 ⟨Nat.le_of_ble_eq_true rfl, Nat.le_of_ble_eq_true rfl⟩) hP hD hS hA [0, 1, 2, 3, 4, 5, 6, 7] [] rfl rfl (by decide) (by decide) (fun r u9 H locs hw hP hD hS => ?_)
      subst hw
      have hP : va_P D kCl [(rd, .inr (0, [.int (nI u), .ref jl, .ref jd, .int (nI w), .ref a, .ref sh, .int (nI t), .int (nI lo), .int (nI 1), .int (nI t)])), (jl, .inl (cJ, 54, .inr (.inl (lF cl)))), (jd, .inl (cI, 54, .inl (iF cd))), (a, .inr (1, [.ref ab, .int (nI n)])), (ab, .inl (cB, 65536, .inl (bF b))), (sh, .inr (2, [.ref sn, .ref sv, .int (nI pn), .int (nI vn)])), (sn, .inl (cI, PN, .inl (iF pf))), (sv, .inl (cI, VN, .inl fv))] H := hP
      have hD : va_D A [(rd, .inr (0, [.int (nI u), .ref jl, .ref jd, .int (nI w), .ref a, .ref sh, .int (nI t), .int (nI lo), .int (nI 1), .int (nI t)])), (jl, .inl (cJ, 54, .inr (.inl (lF cl)))), (jd, .inl (cI, 54, .inl (iF cd))), (a, .inr (1, [.ref ab, .int (nI n)])), (ab, .inl (cB, 65536, .inl (bF b))), (sh, .inr (2, [.ref sn, .ref sv, .int (nI pn), .int (nI vn)])), (sn, .inl (cI, PN, .inl (iF pf))), (sv, .inl (cI, VN, .inl fv))] := hD
      refine W.widen (k := 0) (n := 0) (Nat.le_of_ble_eq_true rfl) (Nat.le_of_ble_eq_true rfl) ?_
      refine k_if_eq (tgt := 15) (by omega) hx hb dX2_takeShape_4 (by decide) (fun c82 => ?_) (fun c82 => ?_)
      · skip
        refine lv_iconst (v := nI 0) hx hb dX2_takeShape_15 (by decide) ?_
        rw [show sShape b n PN due w t lo wr pl pn vn cl cd pf fv = (0, (w, t, lo, 1, t, pn, vn, cl, cd, pf, fv)) from by unfold sShape; rw [if_neg (by omega), if_pos (by omega)]] at hs
        cases hs
        exact k_iret () hx hb hr (by first | rfl | decide | exact vp_nar_int _) hlocks hK hP hD hS (rfl) (rfl) (Nat.le_of_ble_eq_true rfl) (Nat.le_of_ble_eq_true rfl) dX2_takeShape_16
      · skip
        exact absurd c82 (by omega)
    · skip
      refine k_ci (wr := []) (k_rv F (c_Rd_takeOrderO l D cI cB cJ cS rd jl jd a ab sh sn sv u w t lo wr pl n PN pn VN vn cl cd b pf fv (by omega) (by omega) (by omega) (by omega) (by omega) (by omega) (by omega) (by omega) (by omega) hb256 (by omega) hb1) (cwV 0 hts (g_V wd_96 wd_97 wd_98 wd_55 wd_99) rfl rfl rfl (by decide +kernel) ⟨Nat.le_of_ble_eq_true rfl, Nat.le_of_ble_eq_true rfl⟩) hK hP hD hS hA hZ [0, 1, 2, 3, 4, 5, 6, 7] rfl (by decide) 0 rfl rfl rfl rfl hl.1 rfl (Nat.le_of_ble_eq_true rfl) dX2_takeShape_1 ⟨Nat.le_of_ble_eq_true rfl, Nat.le_of_ble_eq_true rfl⟩) hP hD hS hA [0, 1, 2, 3, 4, 5, 6, 7] [] rfl rfl (by decide) (by decide) (fun r u9 H locs hw hP hD hS => ?_)
      subst hw
      have hP : va_P D kCl [(rd, .inr (0, [.int (nI u), .ref jl, .ref jd, .int (nI w), .ref a, .ref sh, .int (nI (t + 1)), .int (nI (b t)), .int (nI wr), .int (nI pl)])), (jl, .inl (cJ, 54, .inr (.inl (lF cl)))), (jd, .inl (cI, 54, .inl (iF cd))), (a, .inr (1, [.ref ab, .int (nI n)])), (ab, .inl (cB, 65536, .inl (bF b))), (sh, .inr (2, [.ref sn, .ref sv, .int (nI pn), .int (nI vn)])), (sn, .inl (cI, PN, .inl (iF pf))), (sv, .inl (cI, VN, .inl fv))] H := hP
      have hD : va_D A [(rd, .inr (0, [.int (nI u), .ref jl, .ref jd, .int (nI w), .ref a, .ref sh, .int (nI (t + 1)), .int (nI (b t)), .int (nI wr), .int (nI pl)])), (jl, .inl (cJ, 54, .inr (.inl (lF cl)))), (jd, .inl (cI, 54, .inl (iF cd))), (a, .inr (1, [.ref ab, .int (nI n)])), (ab, .inl (cB, 65536, .inl (bF b))), (sh, .inr (2, [.ref sn, .ref sv, .int (nI pn), .int (nI vn)])), (sn, .inl (cI, PN, .inl (iF pf))), (sv, .inl (cI, VN, .inl fv))] := hD
      refine W.widen (k := 0) (n := 0) (Nat.le_of_ble_eq_true rfl) (Nat.le_of_ble_eq_true rfl) ?_
      refine k_if_eq (tgt := 15) (by omega) hx hb dX2_takeShape_4 (by decide) (fun c83 => ?_) (fun c83 => ?_)
      · skip
        exact absurd c83 (by omega)
      · skip
        refine lv_aload_n hx hb dX2_takeShape_7 rfl (lv_at hl 0 rfl) ?_
        refine lv_iconst (v := nI 4) hx hb dX2_takeShape_8 (by decide) ?_
        rcases Nat.lt_or_ge n (t + 1 + 4) with h2 | h2
        · skip
          refine k_ci (wr := []) (k_rv F (c_Rd_isThere0 l D cI cB cJ cS rd jl jd a ab sh sn sv u w (t + 1) (b t) wr pl n PN pn VN vn cl cd b pf fv (by omega) (by omega) (by omega) (by omega) (by omega) (by omega) (by omega) (by omega) (by omega) hb256 4 (by omega) (by omega)) (cwV 1 hts (g_V wd_65 wd_66 wd_67 wd_55 wd_68) rfl rfl rfl (by decide +kernel) ⟨Nat.le_of_ble_eq_true rfl, Nat.le_of_ble_eq_true rfl⟩) hK hP hD hS hA hZ [0, 1, 2, 3, 4, 5, 6, 7] rfl (by decide) 0 rfl rfl rfl rfl hl.1 rfl (Nat.le_of_ble_eq_true rfl) dX2_takeShape_9 ⟨Nat.le_of_ble_eq_true rfl, Nat.le_of_ble_eq_true rfl⟩) hP hD hS hA [0, 1, 2, 3, 4, 5, 6, 7] [] rfl rfl (by decide) (by decide) (fun r u9 H locs hw hP hD hS => ?_)
          subst hw
          have hP : va_P D kCl [(rd, .inr (0, [.int (nI u), .ref jl, .ref jd, .int (nI w), .ref a, .ref sh, .int (nI (t + 1)), .int (nI (b t)), .int (nI 3), .int (nI (t + 1))])), (jl, .inl (cJ, 54, .inr (.inl (lF cl)))), (jd, .inl (cI, 54, .inl (iF cd))), (a, .inr (1, [.ref ab, .int (nI n)])), (ab, .inl (cB, 65536, .inl (bF b))), (sh, .inr (2, [.ref sn, .ref sv, .int (nI pn), .int (nI vn)])), (sn, .inl (cI, PN, .inl (iF pf))), (sv, .inl (cI, VN, .inl fv))] H := hP
          have hD : va_D A [(rd, .inr (0, [.int (nI u), .ref jl, .ref jd, .int (nI w), .ref a, .ref sh, .int (nI (t + 1)), .int (nI (b t)), .int (nI 3), .int (nI (t + 1))])), (jl, .inl (cJ, 54, .inr (.inl (lF cl)))), (jd, .inl (cI, 54, .inl (iF cd))), (a, .inr (1, [.ref ab, .int (nI n)])), (ab, .inl (cB, 65536, .inl (bF b))), (sh, .inr (2, [.ref sn, .ref sv, .int (nI pn), .int (nI vn)])), (sn, .inl (cI, PN, .inl (iF pf))), (sv, .inl (cI, VN, .inl fv))] := hD
          refine W.widen (k := 0) (n := 0) (Nat.le_of_ble_eq_true rfl) (Nat.le_of_ble_eq_true rfl) ?_
          refine k_if_ne (tgt := 17) (by omega) hx hb dX2_takeShape_12 (by decide) (fun c84 => ?_) (fun c84 => ?_)
          · skip
            exact absurd c84 (by omega)
          · skip
            refine lv_iconst (v := nI 0) hx hb dX2_takeShape_15 (by decide) ?_
            rw [show sShape b n PN due w t lo wr pl pn vn cl cd pf fv = (0, (w, t + 1, b t, 3, t + 1, pn, vn, cl, cd, pf, fv)) from by unfold sShape; rw [if_neg (by omega), if_neg (by omega), if_pos (by omega)]] at hs
            cases hs
            exact k_iret () hx hb hr (by first | rfl | decide | exact vp_nar_int _) hlocks hK hP hD hS (rfl) (rfl) (Nat.le_of_ble_eq_true rfl) (Nat.le_of_ble_eq_true rfl) dX2_takeShape_16
        · skip
          refine k_ci (wr := []) (k_rv F (c_Rd_isThere1 l D cI cB cJ cS rd jl jd a ab sh sn sv u w (t + 1) (b t) wr pl n PN pn VN vn cl cd b pf fv (by omega) (by omega) (by omega) (by omega) (by omega) (by omega) (by omega) (by omega) (by omega) hb256 4 (by omega) (by omega)) (cwV 1 hts (g_V wd_65 wd_66 wd_67 wd_55 wd_68) rfl rfl rfl (by decide +kernel) ⟨Nat.le_of_ble_eq_true rfl, Nat.le_of_ble_eq_true rfl⟩) hK hP hD hS hA hZ [0, 1, 2, 3, 4, 5, 6, 7] rfl (by decide) 0 rfl rfl rfl rfl hl.1 rfl (Nat.le_of_ble_eq_true rfl) dX2_takeShape_9 ⟨Nat.le_of_ble_eq_true rfl, Nat.le_of_ble_eq_true rfl⟩) hP hD hS hA [0, 1, 2, 3, 4, 5, 6, 7] [] rfl rfl (by decide) (by decide) (fun r u9 H locs hw hP hD hS => ?_)
          subst hw
          have hP : va_P D kCl [(rd, .inr (0, [.int (nI u), .ref jl, .ref jd, .int (nI w), .ref a, .ref sh, .int (nI (t + 1)), .int (nI (b t)), .int (nI wr), .int (nI pl)])), (jl, .inl (cJ, 54, .inr (.inl (lF cl)))), (jd, .inl (cI, 54, .inl (iF cd))), (a, .inr (1, [.ref ab, .int (nI n)])), (ab, .inl (cB, 65536, .inl (bF b))), (sh, .inr (2, [.ref sn, .ref sv, .int (nI pn), .int (nI vn)])), (sn, .inl (cI, PN, .inl (iF pf))), (sv, .inl (cI, VN, .inl fv))] H := hP
          have hD : va_D A [(rd, .inr (0, [.int (nI u), .ref jl, .ref jd, .int (nI w), .ref a, .ref sh, .int (nI (t + 1)), .int (nI (b t)), .int (nI wr), .int (nI pl)])), (jl, .inl (cJ, 54, .inr (.inl (lF cl)))), (jd, .inl (cI, 54, .inl (iF cd))), (a, .inr (1, [.ref ab, .int (nI n)])), (ab, .inl (cB, 65536, .inl (bF b))), (sh, .inr (2, [.ref sn, .ref sv, .int (nI pn), .int (nI vn)])), (sn, .inl (cI, PN, .inl (iF pf))), (sv, .inl (cI, VN, .inl fv))] := hD
          refine W.widen (k := 0) (n := 0) (Nat.le_of_ble_eq_true rfl) (Nat.le_of_ble_eq_true rfl) ?_
          refine k_if_ne (tgt := 17) (by omega) hx hb dX2_takeShape_12 (by decide) (fun c85 => ?_) (fun c85 => ?_)
          · skip
            refine lv_aload_n hx hb dX2_takeShape_17 rfl (lv_at hl 0 rfl) ?_
            refine va_get (D := D) (ci := 0) (v := .int (nI (t + 1))) (C := RX2) (T := TX2) (N := 10) hx hb hts inX2 hown hK hP 0 rfl rfl 6 (by decide) (hts (.fieldLink RX2 43 "ByteShapes$Reader" "at" "I") (List.mem_cons_of_mem _ wd_46)) (fun _ h9 => h9) rfl dX2_takeShape_18 ?_
            refine lv_istore_n (lv' := [(2, .int (nI (t + 1))), (0, .ref rd), (1, .int (nI due))]) hx hb dX2_takeShape_21 rfl hl (by decide) rfl (fun ls hl => ?_)
            refine lv_aload_n hx hb dX2_takeShape_22 rfl (lv_at hl 1 rfl) ?_
            refine lv_iconst (v := nI 4) hx hb dX2_takeShape_23 (by decide) ?_
            refine k_cl (wr := []) (k_rv F (c_Rd_takeNumber l D cI cB cJ cS rd jl jd a ab sh sn sv u w (t + 1) (b t) wr pl n PN pn VN vn cl cd b pf fv (by omega) (by omega) (by omega) (by omega) (by omega) (by omega) (by omega) (by omega) (by omega) hb256 4 (by omega) (by omega)) (cwV 1 hts (g_V wd_89 wd_90 wd_91 wd_55 wd_92) rfl rfl rfl (by decide +kernel) ⟨Nat.le_of_ble_eq_true rfl, Nat.le_of_ble_eq_true rfl⟩) hK hP hD hS hA hZ [0, 1, 2, 3, 4, 5, 6, 7] rfl (by decide) 0 rfl rfl rfl rfl hl.1 rfl (Nat.le_of_ble_eq_true rfl) dX2_takeShape_24 ⟨Nat.le_of_ble_eq_true rfl, Nat.le_of_ble_eq_true rfl⟩) hP hD hS hA [0, 1, 2, 3, 4, 5, 6, 7] [] rfl rfl (by decide) (by decide) (fun r u9 H locs hw hP hD hS => ?_)
            subst hw
            have hP : va_P D kCl [(rd, .inr (0, [.int (nI u), .ref jl, .ref jd, .int (nI w), .ref a, .ref sh, .int (nI (t + 1 + 4)), .int (nI (b t)), .int (nI wr), .int (nI pl)])), (jl, .inl (cJ, 54, .inr (.inl (lF cl)))), (jd, .inl (cI, 54, .inl (iF cd))), (a, .inr (1, [.ref ab, .int (nI n)])), (ab, .inl (cB, 65536, .inl (bF b))), (sh, .inr (2, [.ref sn, .ref sv, .int (nI pn), .int (nI vn)])), (sn, .inl (cI, PN, .inl (iF pf))), (sv, .inl (cI, VN, .inl fv))] H := hP
            have hD : va_D A [(rd, .inr (0, [.int (nI u), .ref jl, .ref jd, .int (nI w), .ref a, .ref sh, .int (nI (t + 1 + 4)), .int (nI (b t)), .int (nI wr), .int (nI pl)])), (jl, .inl (cJ, 54, .inr (.inl (lF cl)))), (jd, .inl (cI, 54, .inl (iF cd))), (a, .inr (1, [.ref ab, .int (nI n)])), (ab, .inl (cB, 65536, .inl (bF b))), (sh, .inr (2, [.ref sn, .ref sv, .int (nI pn), .int (nI vn)])), (sn, .inl (cI, PN, .inl (iF pf))), (sv, .inl (cI, VN, .inl fv))] := hD
            refine W.widen (k := 0) (n := 0) (Nat.le_of_ble_eq_true rfl) (Nat.le_of_ble_eq_true rfl) ?_
            have hT32 := pN_lt4 hb256 (t + 1) (b t)
            obtain ⟨T, hT⟩ : ∃ z, z = pN b (t + 1) 4 (b t) := ⟨_, rfl⟩
            rw [← hT] at hT32
            refine k_l (show _ = lN T from by rw [hT]) ?_
            have hk7 := kOf_le T
            have hm1 := tMore_le T
            have hm2 := tMark_le T
            have jp : ∀ (y : Nat) (H : Heap) (locs : List Loc) (ls : Array Slot), (y ≤ n) → (¬ kOf T = 0) → ((if PN < pn + 2 then (0, (w, y, b t, 7, y, pn, vn, cl, cd, pf, fv)) else sBody b n (kOf T) w y (b t) wr pl (pn + 1) vn cl cd (va_up pf pn (kOf T)) fv) = (k1, (w1, t1, lo1, wr1, pl1, pn1, vn1, cl1, cd1, pf1, fv1))) → va_P D kCl [(rd, .inr (0, [.int (nI u), .ref jl, .ref jd, .int (nI w), .ref a, .ref sh, .int (nI y), .int (nI (b t)), .int (nI wr), .int (nI pl)])), (jl, .inl (cJ, 54, .inr (.inl (lF cl)))), (jd, .inl (cI, 54, .inl (iF cd))), (a, .inr (1, [.ref ab, .int (nI n)])), (ab, .inl (cB, 65536, .inl (bF b))), (sh, .inr (2, [.ref sn, .ref sv, .int (nI pn), .int (nI vn)])), (sn, .inl (cI, PN, .inl (iF pf))), (sv, .inl (cI, VN, .inl fv))] H → va_D A [(rd, .inr (0, [.int (nI u), .ref jl, .ref jd, .int (nI w), .ref a, .ref sh, .int (nI y), .int (nI (b t)), .int (nI wr), .int (nI pl)])), (jl, .inl (cJ, 54, .inr (.inl (lF cl)))), (jd, .inl (cI, 54, .inl (iF cd))), (a, .inr (1, [.ref ab, .int (nI n)])), (ab, .inl (cB, 65536, .inl (bF b))), (sh, .inr (2, [.ref sn, .ref sv, .int (nI pn), .int (nI vn)])), (sn, .inl (cI, PN, .inl (iF pf))), (sv, .inl (cI, VN, .inl fv))] → va_S A s.heap H locs → lv_has ls 5 [(0, .ref rd), (4, .int (nI (kOf T)))] → W p l e ({ frames := 3, cells := 0, slots := 0, locals := 73 }) s m ([.ref rd, .int (nI due)] : List Value).toArray below meth c H locs 0 0 (MQ below ((kQi D (kT cI cB cJ cS) (fun r (ug : Unit) => r = nI k1) (fun ug => [(rd, .inr (0, [.int (nI u), .ref jl, .ref jd, .int (nI w1), .ref a, .ref sh, .int (nI t1), .int (nI lo1), .int (nI wr1), .int (nI pl1)])), (jl, .inl (cJ, 54, .inr (.inl (lF cl1)))), (jd, .inl (cI, 54, .inl (iF cd1))), (a, .inr (1, [.ref ab, .int (nI n)])), (ab, .inl (cB, 65536, .inl (bF b))), (sh, .inr (2, [.ref sn, .ref sv, .int (nI pn1), .int (nI vn1)])), (sn, .inl (cI, PN, .inl (iF pf1))), (sv, .inl (cI, VN, .inl fv1))])) A) ([.ref rd, .int (nI due)] : List Value).toArray s ({ frames := 3, cells := 0, slots := 0, locals := 73 } : Room).cells ({ frames := 3, cells := 0, slots := 0, locals := 73 } : Room).slots A) (F0 m 112 ls []) := by
              intro y H locs ls hyn hk0 hs hP hD hS hl
              refine lv_aload_n hx hb dX2_takeShape_112 rfl (lv_at hl 0 rfl) ?_
              refine va_get (D := D) (ci := 0) (v := .ref sh) (C := RX2) (T := TX2) (N := 10) hx hb hts inX2 hown hK hP 0 rfl rfl 5 (by decide) (hts (.fieldLink RX2 60 "ByteShapes$Reader" "into" "LByteShapes$Shape;") (List.mem_cons_of_mem _ wd_76)) (fun _ h9 => h9) rfl dX2_takeShape_113 ?_
              refine lv_iconst (v := nI 2) hx hb dX2_takeShape_116 (by decide) ?_
              rcases Nat.lt_or_ge PN (pn + 2) with h5 | h5
              · skip
                refine k_ci (wr := [(rd, .inr (0, [.int (nI u), .ref jl, .ref jd, .int (nI w), .ref a, .ref sh, .int (nI y), .int (nI (b t)), .int (nI wr), .int (nI pl)])), (jl, .inl (cJ, 54, .inr (.inl (lF cl)))), (jd, .inl (cI, 54, .inl (iF cd))), (a, .inr (1, [.ref ab, .int (nI n)])), (ab, .inl (cB, 65536, .inl (bF b)))]) (k_rv F (c_Shape_hasRoomForPlan0 l D cI cB cJ cS sh sn sv PN pn VN vn pf fv hPN hpn 2 (by omega) h5) (cwV 1 hts (g_V wd_100 wd_101 wd_102 wd_41 wd_103) rfl rfl rfl (by decide +kernel) ⟨Nat.le_of_ble_eq_true rfl, Nat.le_of_ble_eq_true rfl⟩) hK hP hD hS hA hZ [5, 6, 7] rfl (by decide) 5 rfl rfl rfl rfl hl.1 rfl (Nat.le_of_ble_eq_true rfl) dX2_takeShape_117 ⟨Nat.le_of_ble_eq_true rfl, Nat.le_of_ble_eq_true rfl⟩) hP hD hS hA [5, 6, 7] [0, 1, 2, 3, 4] rfl rfl (by decide) (by decide) (fun r u9 H locs hw hP hD hS => ?_)
                subst hw
                have hP : va_P D kCl [(rd, .inr (0, [.int (nI u), .ref jl, .ref jd, .int (nI w), .ref a, .ref sh, .int (nI y), .int (nI (b t)), .int (nI wr), .int (nI pl)])), (jl, .inl (cJ, 54, .inr (.inl (lF cl)))), (jd, .inl (cI, 54, .inl (iF cd))), (a, .inr (1, [.ref ab, .int (nI n)])), (ab, .inl (cB, 65536, .inl (bF b))), (sh, .inr (2, [.ref sn, .ref sv, .int (nI pn), .int (nI vn)])), (sn, .inl (cI, PN, .inl (iF pf))), (sv, .inl (cI, VN, .inl fv))] H := hP
                have hD : va_D A [(rd, .inr (0, [.int (nI u), .ref jl, .ref jd, .int (nI w), .ref a, .ref sh, .int (nI y), .int (nI (b t)), .int (nI wr), .int (nI pl)])), (jl, .inl (cJ, 54, .inr (.inl (lF cl)))), (jd, .inl (cI, 54, .inl (iF cd))), (a, .inr (1, [.ref ab, .int (nI n)])), (ab, .inl (cB, 65536, .inl (bF b))), (sh, .inr (2, [.ref sn, .ref sv, .int (nI pn), .int (nI vn)])), (sn, .inl (cI, PN, .inl (iF pf))), (sv, .inl (cI, VN, .inl fv))] := hD
                refine W.widen (k := 0) (n := 0) (Nat.le_of_ble_eq_true rfl) (Nat.le_of_ble_eq_true rfl) ?_
                refine k_if_ne (tgt := 134) (by omega) hx hb dX2_takeShape_120 (by decide) (fun c86 => ?_) (fun c86 => ?_)
                · skip
                  exact absurd c86 (by omega)
                · skip
                  refine lv_aload_n hx hb dX2_takeShape_123 rfl (lv_at hl 0 rfl) ?_
                  refine lv_bipush (v := nI 7) hx hb dX2_takeShape_124 (by decide) ?_
                  refine lv_aload_n hx hb dX2_takeShape_126 rfl (lv_at hl 0 rfl) ?_
                  refine va_get (D := D) (ci := 0) (v := .int (nI y)) (C := RX2) (T := TX2) (N := 10) hx hb hts inX2 hown hK hP 0 rfl rfl 6 (by decide) (hts (.fieldLink RX2 43 "ByteShapes$Reader" "at" "I") (List.mem_cons_of_mem _ wd_46)) (fun _ h9 => h9) rfl dX2_takeShape_127 ?_
                  refine k_ci (wr := []) (k_rv F (c_Rd_fail l D cI cB cJ cS rd jl jd a ab sh sn sv u w y (b t) wr pl n PN pn VN vn cl cd b pf fv (by omega) (by omega) (by omega) (by omega) (by omega) (by omega) (by omega) (by omega) (by omega) hb256 7 y) (cwV 2 hts (g_V wd_52 wd_53 wd_54 wd_55 wd_56) rfl rfl rfl (by decide +kernel) ⟨Nat.le_of_ble_eq_true rfl, Nat.le_of_ble_eq_true rfl⟩) hK hP hD hS hA hZ [0, 1, 2, 3, 4, 5, 6, 7] rfl (by decide) 0 rfl rfl rfl rfl hl.1 rfl (Nat.le_of_ble_eq_true rfl) dX2_takeShape_130 ⟨Nat.le_of_ble_eq_true rfl, Nat.le_of_ble_eq_true rfl⟩) hP hD hS hA [0, 1, 2, 3, 4, 5, 6, 7] [] rfl rfl (by decide) (by decide) (fun r u9 H locs hw hP hD hS => ?_)
                  subst hw
                  have hP : va_P D kCl [(rd, .inr (0, [.int (nI u), .ref jl, .ref jd, .int (nI w), .ref a, .ref sh, .int (nI y), .int (nI (b t)), .int (nI 7), .int (nI y)])), (jl, .inl (cJ, 54, .inr (.inl (lF cl)))), (jd, .inl (cI, 54, .inl (iF cd))), (a, .inr (1, [.ref ab, .int (nI n)])), (ab, .inl (cB, 65536, .inl (bF b))), (sh, .inr (2, [.ref sn, .ref sv, .int (nI pn), .int (nI vn)])), (sn, .inl (cI, PN, .inl (iF pf))), (sv, .inl (cI, VN, .inl fv))] H := hP
                  have hD : va_D A [(rd, .inr (0, [.int (nI u), .ref jl, .ref jd, .int (nI w), .ref a, .ref sh, .int (nI y), .int (nI (b t)), .int (nI 7), .int (nI y)])), (jl, .inl (cJ, 54, .inr (.inl (lF cl)))), (jd, .inl (cI, 54, .inl (iF cd))), (a, .inr (1, [.ref ab, .int (nI n)])), (ab, .inl (cB, 65536, .inl (bF b))), (sh, .inr (2, [.ref sn, .ref sv, .int (nI pn), .int (nI vn)])), (sn, .inl (cI, PN, .inl (iF pf))), (sv, .inl (cI, VN, .inl fv))] := hD
                  refine W.widen (k := 0) (n := 0) (Nat.le_of_ble_eq_true rfl) (Nat.le_of_ble_eq_true rfl) ?_
                  rw [show (if PN < pn + 2 then (0, (w, y, b t, 7, y, pn, vn, cl, cd, pf, fv)) else sBody b n (kOf T) w y (b t) wr pl (pn + 1) vn cl cd (va_up pf pn (kOf T)) fv) = (0, (w, y, b t, 7, y, pn, vn, cl, cd, pf, fv)) from by rw [if_pos (by omega)]] at hs
                  cases hs
                  exact k_iret () hx hb hr (by first | rfl | decide | exact vp_nar_int _) hlocks hK hP hD hS (rfl) (rfl) (Nat.le_of_ble_eq_true rfl) (Nat.le_of_ble_eq_true rfl) dX2_takeShape_133
              · skip
                refine k_ci (wr := [(rd, .inr (0, [.int (nI u), .ref jl, .ref jd, .int (nI w), .ref a, .ref sh, .int (nI y), .int (nI (b t)), .int (nI wr), .int (nI pl)])), (jl, .inl (cJ, 54, .inr (.inl (lF cl)))), (jd, .inl (cI, 54, .inl (iF cd))), (a, .inr (1, [.ref ab, .int (nI n)])), (ab, .inl (cB, 65536, .inl (bF b)))]) (k_rv F (c_Shape_hasRoomForPlan1 l D cI cB cJ cS sh sn sv PN pn VN vn pf fv hPN hpn 2 (by omega) h5) (cwV 1 hts (g_V wd_100 wd_101 wd_102 wd_41 wd_103) rfl rfl rfl (by decide +kernel) ⟨Nat.le_of_ble_eq_true rfl, Nat.le_of_ble_eq_true rfl⟩) hK hP hD hS hA hZ [5, 6, 7] rfl (by decide) 5 rfl rfl rfl rfl hl.1 rfl (Nat.le_of_ble_eq_true rfl) dX2_takeShape_117 ⟨Nat.le_of_ble_eq_true rfl, Nat.le_of_ble_eq_true rfl⟩) hP hD hS hA [5, 6, 7] [0, 1, 2, 3, 4] rfl rfl (by decide) (by decide) (fun r u9 H locs hw hP hD hS => ?_)
                subst hw
                have hP : va_P D kCl [(rd, .inr (0, [.int (nI u), .ref jl, .ref jd, .int (nI w), .ref a, .ref sh, .int (nI y), .int (nI (b t)), .int (nI wr), .int (nI pl)])), (jl, .inl (cJ, 54, .inr (.inl (lF cl)))), (jd, .inl (cI, 54, .inl (iF cd))), (a, .inr (1, [.ref ab, .int (nI n)])), (ab, .inl (cB, 65536, .inl (bF b))), (sh, .inr (2, [.ref sn, .ref sv, .int (nI pn), .int (nI vn)])), (sn, .inl (cI, PN, .inl (iF pf))), (sv, .inl (cI, VN, .inl fv))] H := hP
                have hD : va_D A [(rd, .inr (0, [.int (nI u), .ref jl, .ref jd, .int (nI w), .ref a, .ref sh, .int (nI y), .int (nI (b t)), .int (nI wr), .int (nI pl)])), (jl, .inl (cJ, 54, .inr (.inl (lF cl)))), (jd, .inl (cI, 54, .inl (iF cd))), (a, .inr (1, [.ref ab, .int (nI n)])), (ab, .inl (cB, 65536, .inl (bF b))), (sh, .inr (2, [.ref sn, .ref sv, .int (nI pn), .int (nI vn)])), (sn, .inl (cI, PN, .inl (iF pf))), (sv, .inl (cI, VN, .inl fv))] := hD
                refine W.widen (k := 0) (n := 0) (Nat.le_of_ble_eq_true rfl) (Nat.le_of_ble_eq_true rfl) ?_
                refine k_if_ne (tgt := 134) (by omega) hx hb dX2_takeShape_120 (by decide) (fun c87 => ?_) (fun c87 => ?_)
                · skip
                  refine lv_aload_n hx hb dX2_takeShape_134 rfl (lv_at hl 0 rfl) ?_
                  refine va_get (D := D) (ci := 0) (v := .ref sh) (C := RX2) (T := TX2) (N := 10) hx hb hts inX2 hown hK hP 0 rfl rfl 5 (by decide) (hts (.fieldLink RX2 60 "ByteShapes$Reader" "into" "LByteShapes$Shape;") (List.mem_cons_of_mem _ wd_76)) (fun _ h9 => h9) rfl dX2_takeShape_135 ?_
                  refine lv_iload hx hb dX2_takeShape_138 (lv_at hl 1 rfl) ?_
                  refine k_cv (wr := [(rd, .inr (0, [.int (nI u), .ref jl, .ref jd, .int (nI w), .ref a, .ref sh, .int (nI y), .int (nI (b t)), .int (nI wr), .int (nI pl)])), (jl, .inl (cJ, 54, .inr (.inl (lF cl)))), (jd, .inl (cI, 54, .inl (iF cd))), (a, .inr (1, [.ref ab, .int (nI n)])), (ab, .inl (cB, 65536, .inl (bF b)))]) (k_rv F (c_Shape_addNumber l D cI cB cJ cS sh sn sv PN pn VN vn pf fv hPN hpn (kOf T) (by omega)) (cwV 1 hts (g_V wd_81 wd_82 wd_83 wd_41 wd_84) rfl rfl rfl (by decide +kernel) ⟨Nat.le_of_ble_eq_true rfl, Nat.le_of_ble_eq_true rfl⟩) hK hP hD hS hA hZ [5, 6, 7] rfl (by decide) 5 rfl rfl rfl rfl hl.1 rfl (Nat.le_of_ble_eq_true rfl) dX2_takeShape_140 ⟨Nat.le_of_ble_eq_true rfl, Nat.le_of_ble_eq_true rfl⟩) hP hD hS hA [5, 6, 7] [0, 1, 2, 3, 4] rfl rfl (by decide) (by decide) (fun u9 H locs hw hP hD hS => ?_)
                  have hP : va_P D kCl [(rd, .inr (0, [.int (nI u), .ref jl, .ref jd, .int (nI w), .ref a, .ref sh, .int (nI y), .int (nI (b t)), .int (nI wr), .int (nI pl)])), (jl, .inl (cJ, 54, .inr (.inl (lF cl)))), (jd, .inl (cI, 54, .inl (iF cd))), (a, .inr (1, [.ref ab, .int (nI n)])), (ab, .inl (cB, 65536, .inl (bF b))), (sh, .inr (2, [.ref sn, .ref sv, .int (nI (pn + 1)), .int (nI vn)])), (sn, .inl (cI, PN, .inl (iF (va_up pf pn (kOf T))))), (sv, .inl (cI, VN, .inl fv))] H := hP
                  have hD : va_D A [(rd, .inr (0, [.int (nI u), .ref jl, .ref jd, .int (nI w), .ref a, .ref sh, .int (nI y), .int (nI (b t)), .int (nI wr), .int (nI pl)])), (jl, .inl (cJ, 54, .inr (.inl (lF cl)))), (jd, .inl (cI, 54, .inl (iF cd))), (a, .inr (1, [.ref ab, .int (nI n)])), (ab, .inl (cB, 65536, .inl (bF b))), (sh, .inr (2, [.ref sn, .ref sv, .int (nI (pn + 1)), .int (nI vn)])), (sn, .inl (cI, PN, .inl (iF (va_up pf pn (kOf T))))), (sv, .inl (cI, VN, .inl fv))] := hD
                  refine W.widen (k := 0) (n := 0) (Nat.le_of_ble_eq_true rfl) (Nat.le_of_ble_eq_true rfl) ?_
                  refine lv_iload hx hb dX2_takeShape_143 (lv_at hl 1 rfl) ?_
                  refine lv_iconst (v := nI 1) hx hb dX2_takeShape_145 (by decide) ?_
                  refine k_icmp_ne (tgt := 156) (by omega) (by omega) hx hb dX2_takeShape_146 (by decide) (fun c88 => ?_) (fun c88 => ?_)
                  · skip
                    refine lv_aload_n hx hb dX2_takeShape_156 rfl (lv_at hl 0 rfl) ?_
                    refine lv_iload hx hb dX2_takeShape_157 (lv_at hl 1 rfl) ?_
                    rcases Nat.lt_or_ge n (y + 4) with h6 | h6
                    · skip
                      refine k_ci (wr := []) (k_rv F (c_Rd_takeCount0 l D cI cB cJ cS rd jl jd a ab sh sn sv u w y (b t) wr pl n PN (pn + 1) VN vn cl cd b (va_up pf pn (kOf T)) fv (by omega) (by omega) (by omega) (by omega) (by omega) (by omega) (by omega) (by omega) (by omega) hb256 (kOf T) h6) (cwV 1 hts (g_V wd_104 wd_105 wd_106 wd_55 wd_107) rfl rfl rfl (by decide +kernel) ⟨Nat.le_of_ble_eq_true rfl, Nat.le_of_ble_eq_true rfl⟩) hK hP hD hS hA hZ [0, 1, 2, 3, 4, 5, 6, 7] rfl (by decide) 0 rfl rfl rfl rfl hl.1 rfl (Nat.le_of_ble_eq_true rfl) dX2_takeShape_159 ⟨Nat.le_of_ble_eq_true rfl, Nat.le_of_ble_eq_true rfl⟩) hP hD hS hA [0, 1, 2, 3, 4, 5, 6, 7] [] rfl rfl (by decide) (by decide) (fun r u9 H locs hw hP hD hS => ?_)
                      subst hw
                      have hP : va_P D kCl [(rd, .inr (0, [.int (nI u), .ref jl, .ref jd, .int (nI w), .ref a, .ref sh, .int (nI y), .int (nI (b t)), .int (nI 3), .int (nI y)])), (jl, .inl (cJ, 54, .inr (.inl (lF cl)))), (jd, .inl (cI, 54, .inl (iF cd))), (a, .inr (1, [.ref ab, .int (nI n)])), (ab, .inl (cB, 65536, .inl (bF b))), (sh, .inr (2, [.ref sn, .ref sv, .int (nI (pn + 1)), .int (nI vn)])), (sn, .inl (cI, PN, .inl (iF (va_up pf pn (kOf T))))), (sv, .inl (cI, VN, .inl fv))] H := hP
                      have hD : va_D A [(rd, .inr (0, [.int (nI u), .ref jl, .ref jd, .int (nI w), .ref a, .ref sh, .int (nI y), .int (nI (b t)), .int (nI 3), .int (nI y)])), (jl, .inl (cJ, 54, .inr (.inl (lF cl)))), (jd, .inl (cI, 54, .inl (iF cd))), (a, .inr (1, [.ref ab, .int (nI n)])), (ab, .inl (cB, 65536, .inl (bF b))), (sh, .inr (2, [.ref sn, .ref sv, .int (nI (pn + 1)), .int (nI vn)])), (sn, .inl (cI, PN, .inl (iF (va_up pf pn (kOf T))))), (sv, .inl (cI, VN, .inl fv))] := hD
                      refine W.widen (k := 0) (n := 0) (Nat.le_of_ble_eq_true rfl) (Nat.le_of_ble_eq_true rfl) ?_
                      rw [show (if PN < pn + 2 then (0, (w, y, b t, 7, y, pn, vn, cl, cd, pf, fv)) else sBody b n (kOf T) w y (b t) wr pl (pn + 1) vn cl cd (va_up pf pn (kOf T)) fv) = (0, (w, y, b t, 3, y, pn + 1, vn, cl, cd, (va_up pf pn (kOf T)), fv)) from by rw [if_neg (by omega)]; unfold sBody; rw [if_neg (by omega), if_pos (by omega)]] at hs
                      cases hs
                      exact k_iret () hx hb hr (by first | rfl | decide | exact vp_nar_int _) hlocks hK hP hD hS (rfl) (rfl) (Nat.le_of_ble_eq_true rfl) (Nat.le_of_ble_eq_true rfl) dX2_takeShape_162
                    · skip
                      refine k_ci (wr := []) (k_rv F (c_Rd_takeCount1 l D cI cB cJ cS rd jl jd a ab sh sn sv u w y (b t) wr pl n PN (pn + 1) VN vn cl cd b (va_up pf pn (kOf T)) fv (by omega) (by omega) (by omega) (by omega) (by omega) (by omega) (by omega) (by omega) (by omega) hb256 (kOf T) (by omega) (by omega) h6 (by omega) (by omega)) (cwV 1 hts (g_V wd_104 wd_105 wd_106 wd_55 wd_107) rfl rfl rfl (by decide +kernel) ⟨Nat.le_of_ble_eq_true rfl, Nat.le_of_ble_eq_true rfl⟩) hK hP hD hS hA hZ [0, 1, 2, 3, 4, 5, 6, 7] rfl (by decide) 0 rfl rfl rfl rfl hl.1 rfl (Nat.le_of_ble_eq_true rfl) dX2_takeShape_159 ⟨Nat.le_of_ble_eq_true rfl, Nat.le_of_ble_eq_true rfl⟩) hP hD hS hA [0, 1, 2, 3, 4, 5, 6, 7] [] rfl rfl (by decide) (by decide) (fun r u9 H locs hw hP hD hS => ?_)
                      subst hw
                      have hP : va_P D kCl [(rd, .inr (0, [.int (nI u), .ref jl, .ref jd, .int (nI (w + 1)), .ref a, .ref sh, .int (nI (y + 4)), .int (nI (b t)), .int (nI wr), .int (nI pl)])), (jl, .inl (cJ, 54, .inr (.inl (lF (va_up cl w (pN b y 4 (b t))))))), (jd, .inl (cI, 54, .inl (iF (va_up cd w (iOf (kOf T)))))), (a, .inr (1, [.ref ab, .int (nI n)])), (ab, .inl (cB, 65536, .inl (bF b))), (sh, .inr (2, [.ref sn, .ref sv, .int (nI (pn + 1 + 1)), .int (nI vn)])), (sn, .inl (cI, PN, .inl (iF (va_up (va_up pf pn (kOf T)) (pn + 1) (pN b y 4 (b t)))))), (sv, .inl (cI, VN, .inl fv))] H := hP
                      have hD : va_D A [(rd, .inr (0, [.int (nI u), .ref jl, .ref jd, .int (nI (w + 1)), .ref a, .ref sh, .int (nI (y + 4)), .int (nI (b t)), .int (nI wr), .int (nI pl)])), (jl, .inl (cJ, 54, .inr (.inl (lF (va_up cl w (pN b y 4 (b t))))))), (jd, .inl (cI, 54, .inl (iF (va_up cd w (iOf (kOf T)))))), (a, .inr (1, [.ref ab, .int (nI n)])), (ab, .inl (cB, 65536, .inl (bF b))), (sh, .inr (2, [.ref sn, .ref sv, .int (nI (pn + 1 + 1)), .int (nI vn)])), (sn, .inl (cI, PN, .inl (iF (va_up (va_up pf pn (kOf T)) (pn + 1) (pN b y 4 (b t)))))), (sv, .inl (cI, VN, .inl fv))] := hD
                      refine W.widen (k := 0) (n := 0) (Nat.le_of_ble_eq_true rfl) (Nat.le_of_ble_eq_true rfl) ?_
                      rw [show (if PN < pn + 2 then (0, (w, y, b t, 7, y, pn, vn, cl, cd, pf, fv)) else sBody b n (kOf T) w y (b t) wr pl (pn + 1) vn cl cd (va_up pf pn (kOf T)) fv) = (1, (w + 1, y + 4, b t, wr, pl, pn + 1 + 1, vn, (va_up cl w (pN b y 4 (b t))), (va_up cd w (iOf (kOf T))), (va_up (va_up pf pn (kOf T)) (pn + 1) (pN b y 4 (b t))), fv)) from by rw [if_neg (by omega)]; unfold sBody; rw [if_neg (by omega), if_neg (by omega)]] at hs
                      cases hs
                      exact k_iret () hx hb hr (by first | rfl | decide | exact vp_nar_int _) hlocks hK hP hD hS (rfl) (rfl) (Nat.le_of_ble_eq_true rfl) (Nat.le_of_ble_eq_true rfl) dX2_takeShape_162
                  · skip
                    refine lv_aload_n hx hb dX2_takeShape_149 rfl (lv_at hl 0 rfl) ?_
                    rcases Classical.em (eP b n y (b t) = 1) with he | he
                    · skip
                      refine k_ci (wr := []) (k_rv F (c_Rd_takePointE l D cI cB cJ cS rd jl jd a ab sh sn sv u w y (b t) wr pl n PN (pn + 1) VN vn cl cd b (va_up pf pn (kOf T)) fv (by omega) (by omega) (by omega) (by omega) (by omega) (by omega) (by omega) (by omega) (by omega) hb256 (by omega) he) (cwV 0 hts (g_V wd_108 wd_109 wd_110 wd_55 wd_111) rfl rfl rfl (by decide +kernel) ⟨Nat.le_of_ble_eq_true rfl, Nat.le_of_ble_eq_true rfl⟩) hK hP hD hS hA hZ [0, 1, 2, 3, 4, 5, 6, 7] rfl (by decide) 0 rfl rfl rfl rfl hl.1 rfl (Nat.le_of_ble_eq_true rfl) dX2_takeShape_150 ⟨Nat.le_of_ble_eq_true rfl, Nat.le_of_ble_eq_true rfl⟩) hP hD hS hA [0, 1, 2, 3, 4, 5, 6, 7] [] rfl rfl (by decide) (by decide) (fun r u9 H locs hw hP hD hS => ?_)
                      subst hw
                      have hP : va_P D kCl [(rd, .inr (0, [.int (nI u), .ref jl, .ref jd, .int (nI w), .ref a, .ref sh, .int (nI (y + 16)), .int (nI (b t)), .int (nI wr), .int (nI pl)])), (jl, .inl (cJ, 54, .inr (.inl (lF cl)))), (jd, .inl (cI, 54, .inl (iF cd))), (a, .inr (1, [.ref ab, .int (nI n)])), (ab, .inl (cB, 65536, .inl (bF b))), (sh, .inr (2, [.ref sn, .ref sv, .int (nI (pn + 1 + 1)), .int (nI vn)])), (sn, .inl (cI, PN, .inl (iF (va_up (va_up pf pn (kOf T)) (pn + 1) 0)))), (sv, .inl (cI, VN, .inl fv))] H := hP
                      have hD : va_D A [(rd, .inr (0, [.int (nI u), .ref jl, .ref jd, .int (nI w), .ref a, .ref sh, .int (nI (y + 16)), .int (nI (b t)), .int (nI wr), .int (nI pl)])), (jl, .inl (cJ, 54, .inr (.inl (lF cl)))), (jd, .inl (cI, 54, .inl (iF cd))), (a, .inr (1, [.ref ab, .int (nI n)])), (ab, .inl (cB, 65536, .inl (bF b))), (sh, .inr (2, [.ref sn, .ref sv, .int (nI (pn + 1 + 1)), .int (nI vn)])), (sn, .inl (cI, PN, .inl (iF (va_up (va_up pf pn (kOf T)) (pn + 1) 0)))), (sv, .inl (cI, VN, .inl fv))] := hD
                      refine W.widen (k := 0) (n := 0) (Nat.le_of_ble_eq_true rfl) (Nat.le_of_ble_eq_true rfl) ?_
                      refine lv_goto (tgt := 162) hx hb dX2_takeShape_153 (by decide) ?_
                      rw [show (if PN < pn + 2 then (0, (w, y, b t, 7, y, pn, vn, cl, cd, pf, fv)) else sBody b n (kOf T) w y (b t) wr pl (pn + 1) vn cl cd (va_up pf pn (kOf T)) fv) = (1, (w, y + 16, b t, wr, pl, pn + 1 + 1, vn, cl, cd, (va_up (va_up pf pn (kOf T)) (pn + 1) 0), fv)) from by rw [if_neg (by omega)]; unfold sBody; rw [if_pos (by omega), if_pos (by omega)]] at hs
                      cases hs
                      exact k_iret () hx hb hr (by first | rfl | decide | exact vp_nar_int _) hlocks hK hP hD hS (rfl) (rfl) (Nat.le_of_ble_eq_true rfl) (Nat.le_of_ble_eq_true rfl) dX2_takeShape_162
                    · skip
                      refine k_ci (wr := []) (k_rv F (c_Rd_takePointN l D cI cB cJ cS rd jl jd a ab sh sn sv u w y (b t) wr pl n PN (pn + 1) VN vn cl cd b (va_up pf pn (kOf T)) fv (by omega) (by omega) (by omega) (by omega) (by omega) (by omega) (by omega) (by omega) (by omega) hb256 (by omega) he (by omega)) (cwV 0 hts (g_V wd_108 wd_109 wd_110 wd_55 wd_111) rfl rfl rfl (by decide +kernel) ⟨Nat.le_of_ble_eq_true rfl, Nat.le_of_ble_eq_true rfl⟩) hK hP hD hS hA hZ [0, 1, 2, 3, 4, 5, 6, 7] rfl (by decide) 0 rfl rfl rfl rfl hl.1 rfl (Nat.le_of_ble_eq_true rfl) dX2_takeShape_150 ⟨Nat.le_of_ble_eq_true rfl, Nat.le_of_ble_eq_true rfl⟩) hP hD hS hA [0, 1, 2, 3, 4, 5, 6, 7] [] rfl rfl (by decide) (by decide) (fun r u9 H locs hw hP hD hS => ?_)
                      subst hw
                      have hP : va_P D kCl [(rd, .inr (0, [.int (nI u), .ref jl, .ref jd, .int (nI (w + 1)), .ref a, .ref sh, .int (nI y), .int (nI (b t)), .int (nI wr), .int (nI pl)])), (jl, .inl (cJ, 54, .inr (.inl (lF (va_up cl w 1))))), (jd, .inl (cI, 54, .inl (iF (va_up cd w 9)))), (a, .inr (1, [.ref ab, .int (nI n)])), (ab, .inl (cB, 65536, .inl (bF b))), (sh, .inr (2, [.ref sn, .ref sv, .int (nI (pn + 1 + 1)), .int (nI vn)])), (sn, .inl (cI, PN, .inl (iF (va_up (va_up pf pn (kOf T)) (pn + 1) 1)))), (sv, .inl (cI, VN, .inl fv))] H := hP
                      have hD : va_D A [(rd, .inr (0, [.int (nI u), .ref jl, .ref jd, .int (nI (w + 1)), .ref a, .ref sh, .int (nI y), .int (nI (b t)), .int (nI wr), .int (nI pl)])), (jl, .inl (cJ, 54, .inr (.inl (lF (va_up cl w 1))))), (jd, .inl (cI, 54, .inl (iF (va_up cd w 9)))), (a, .inr (1, [.ref ab, .int (nI n)])), (ab, .inl (cB, 65536, .inl (bF b))), (sh, .inr (2, [.ref sn, .ref sv, .int (nI (pn + 1 + 1)), .int (nI vn)])), (sn, .inl (cI, PN, .inl (iF (va_up (va_up pf pn (kOf T)) (pn + 1) 1)))), (sv, .inl (cI, VN, .inl fv))] := hD
                      refine W.widen (k := 0) (n := 0) (Nat.le_of_ble_eq_true rfl) (Nat.le_of_ble_eq_true rfl) ?_
                      refine lv_goto (tgt := 162) hx hb dX2_takeShape_153 (by decide) ?_
                      rw [show (if PN < pn + 2 then (0, (w, y, b t, 7, y, pn, vn, cl, cd, pf, fv)) else sBody b n (kOf T) w y (b t) wr pl (pn + 1) vn cl cd (va_up pf pn (kOf T)) fv) = (1, (w + 1, y, b t, wr, pl, pn + 1 + 1, vn, (va_up cl w 1), (va_up cd w 9), (va_up (va_up pf pn (kOf T)) (pn + 1) 1), fv)) from by rw [if_neg (by omega)]; unfold sBody; rw [if_pos (by omega), if_neg (by omega)]] at hs
                      cases hs
                      exact k_iret () hx hb hr (by first | rfl | decide | exact vp_nar_int _) hlocks hK hP hD hS (rfl) (rfl) (Nat.le_of_ble_eq_true rfl) (Nat.le_of_ble_eq_true rfl) dX2_takeShape_162
                · skip
                  exact absurd c87 (by omega)
            refine lv_l2i (v := nI T) hx hb dX2_takeShape_27 (lN_i _) ?_
            refine lv_istore_n (lv' := [(3, .int (nI T)), (2, .int (nI (t + 1))), (0, .ref rd), (1, .int (nI due))]) hx hb dX2_takeShape_28 rfl hl (by decide) rfl (fun ls hl => ?_)
            refine lv_iload_n hx hb dX2_takeShape_29 rfl (lv_at hl 0 rfl) ?_
            refine k_ci (wr := [(rd, .inr (0, [.int (nI u), .ref jl, .ref jd, .int (nI w), .ref a, .ref sh, .int (nI (t + 1 + 4)), .int (nI (b t)), .int (nI wr), .int (nI pl)])), (jl, .inl (cJ, 54, .inr (.inl (lF cl)))), (jd, .inl (cI, 54, .inl (iF cd))), (a, .inr (1, [.ref ab, .int (nI n)])), (ab, .inl (cB, 65536, .inl (bF b))), (sh, .inr (2, [.ref sn, .ref sv, .int (nI pn), .int (nI vn)])), (sn, .inl (cI, PN, .inl (iF pf))), (sv, .inl (cI, VN, .inl fv))]) (k_rs F (c_Kind_ofType l D cI cB cJ cS T hT32) (va_cwS 1 hts (g_S wd_112 wd_113 wd_114 wd_115) rfl rfl rfl (by decide +kernel) ⟨Nat.le_of_ble_eq_true rfl, Nat.le_of_ble_eq_true rfl⟩) hK hP hD hS hA hZ [] rfl (by decide) rfl hl.1 rfl (Nat.le_of_ble_eq_true rfl) dX2_takeShape_30 ⟨Nat.le_of_ble_eq_true rfl, Nat.le_of_ble_eq_true rfl⟩) hP hD hS hA [] [0, 1, 2, 3, 4, 5, 6, 7] rfl rfl (by decide) (by decide) (fun r u9 H locs hw hP hD hS => ?_)
            subst hw
            have hP : va_P D kCl [(rd, .inr (0, [.int (nI u), .ref jl, .ref jd, .int (nI w), .ref a, .ref sh, .int (nI (t + 1 + 4)), .int (nI (b t)), .int (nI wr), .int (nI pl)])), (jl, .inl (cJ, 54, .inr (.inl (lF cl)))), (jd, .inl (cI, 54, .inl (iF cd))), (a, .inr (1, [.ref ab, .int (nI n)])), (ab, .inl (cB, 65536, .inl (bF b))), (sh, .inr (2, [.ref sn, .ref sv, .int (nI pn), .int (nI vn)])), (sn, .inl (cI, PN, .inl (iF pf))), (sv, .inl (cI, VN, .inl fv))] H := hP
            have hD : va_D A [(rd, .inr (0, [.int (nI u), .ref jl, .ref jd, .int (nI w), .ref a, .ref sh, .int (nI (t + 1 + 4)), .int (nI (b t)), .int (nI wr), .int (nI pl)])), (jl, .inl (cJ, 54, .inr (.inl (lF cl)))), (jd, .inl (cI, 54, .inl (iF cd))), (a, .inr (1, [.ref ab, .int (nI n)])), (ab, .inl (cB, 65536, .inl (bF b))), (sh, .inr (2, [.ref sn, .ref sv, .int (nI pn), .int (nI vn)])), (sn, .inl (cI, PN, .inl (iF pf))), (sv, .inl (cI, VN, .inl fv))] := hD
            refine W.widen (k := 0) (n := 0) (Nat.le_of_ble_eq_true rfl) (Nat.le_of_ble_eq_true rfl) ?_
            refine lv_istore (lv' := [(4, .int (nI (kOf T))), (3, .int (nI T)), (2, .int (nI (t + 1))), (0, .ref rd), (1, .int (nI due))]) hx hb dX2_takeShape_33 hl (by decide) rfl (fun ls hl => ?_)
            refine lv_iload hx hb dX2_takeShape_35 (lv_at hl 0 rfl) ?_
            refine k_if_eq (tgt := 50) (by omega) hx hb dX2_takeShape_37 (by decide) (fun c89 => ?_) (fun c89 => ?_)
            · skip
              refine lv_aload_n hx hb dX2_takeShape_50 rfl (lv_at hl 3 rfl) ?_
              refine lv_iconst (v := nI 2) hx hb dX2_takeShape_51 (by decide) ?_
              refine lv_iload_n hx hb dX2_takeShape_52 rfl (lv_at hl 2 rfl) ?_
              refine k_ci (wr := []) (k_rv F (c_Rd_fail l D cI cB cJ cS rd jl jd a ab sh sn sv u w (t + 1 + 4) (b t) wr pl n PN pn VN vn cl cd b pf fv (by omega) (by omega) (by omega) (by omega) (by omega) (by omega) (by omega) (by omega) (by omega) hb256 2 (t + 1)) (cwV 2 hts (g_V wd_52 wd_53 wd_54 wd_55 wd_56) rfl rfl rfl (by decide +kernel) ⟨Nat.le_of_ble_eq_true rfl, Nat.le_of_ble_eq_true rfl⟩) hK hP hD hS hA hZ [0, 1, 2, 3, 4, 5, 6, 7] rfl (by decide) 0 rfl rfl rfl rfl hl.1 rfl (Nat.le_of_ble_eq_true rfl) dX2_takeShape_53 ⟨Nat.le_of_ble_eq_true rfl, Nat.le_of_ble_eq_true rfl⟩) hP hD hS hA [0, 1, 2, 3, 4, 5, 6, 7] [] rfl rfl (by decide) (by decide) (fun r u9 H locs hw hP hD hS => ?_)
              subst hw
              have hP : va_P D kCl [(rd, .inr (0, [.int (nI u), .ref jl, .ref jd, .int (nI w), .ref a, .ref sh, .int (nI (t + 1 + 4)), .int (nI (b t)), .int (nI 2), .int (nI (t + 1))])), (jl, .inl (cJ, 54, .inr (.inl (lF cl)))), (jd, .inl (cI, 54, .inl (iF cd))), (a, .inr (1, [.ref ab, .int (nI n)])), (ab, .inl (cB, 65536, .inl (bF b))), (sh, .inr (2, [.ref sn, .ref sv, .int (nI pn), .int (nI vn)])), (sn, .inl (cI, PN, .inl (iF pf))), (sv, .inl (cI, VN, .inl fv))] H := hP
              have hD : va_D A [(rd, .inr (0, [.int (nI u), .ref jl, .ref jd, .int (nI w), .ref a, .ref sh, .int (nI (t + 1 + 4)), .int (nI (b t)), .int (nI 2), .int (nI (t + 1))])), (jl, .inl (cJ, 54, .inr (.inl (lF cl)))), (jd, .inl (cI, 54, .inl (iF cd))), (a, .inr (1, [.ref ab, .int (nI n)])), (ab, .inl (cB, 65536, .inl (bF b))), (sh, .inr (2, [.ref sn, .ref sv, .int (nI pn), .int (nI vn)])), (sn, .inl (cI, PN, .inl (iF pf))), (sv, .inl (cI, VN, .inl fv))] := hD
              refine W.widen (k := 0) (n := 0) (Nat.le_of_ble_eq_true rfl) (Nat.le_of_ble_eq_true rfl) ?_
              rw [show sShape b n PN due w t lo wr pl pn vn cl cd pf fv = (0, (w, t + 1 + 4, b t, 2, t + 1, pn, vn, cl, cd, pf, fv)) from by unfold sShape; rw [if_neg (by omega), if_neg (by omega), if_neg (by omega)]; rw [← hT]; unfold sType; rw [if_pos (by omega)]] at hs
              cases hs
              exact k_iret () hx hb hr (by first | rfl | decide | exact vp_nar_int _) hlocks hK hP hD hS (rfl) (rfl) (Nat.le_of_ble_eq_true rfl) (Nat.le_of_ble_eq_true rfl) dX2_takeShape_56
            · skip
              refine lv_iload_n hx hb dX2_takeShape_40 rfl (lv_at hl 4 rfl) ?_
              refine k_if_eq (tgt := 57) (by omega) hx hb dX2_takeShape_41 (by decide) (fun c90 => ?_) (fun c90 => ?_)
              · skip
                refine lv_iload_n hx hb dX2_takeShape_57 rfl (lv_at hl 1 rfl) ?_
                refine k_ci (wr := [(rd, .inr (0, [.int (nI u), .ref jl, .ref jd, .int (nI w), .ref a, .ref sh, .int (nI (t + 1 + 4)), .int (nI (b t)), .int (nI wr), .int (nI pl)])), (jl, .inl (cJ, 54, .inr (.inl (lF cl)))), (jd, .inl (cI, 54, .inl (iF cd))), (a, .inr (1, [.ref ab, .int (nI n)])), (ab, .inl (cB, 65536, .inl (bF b))), (sh, .inr (2, [.ref sn, .ref sv, .int (nI pn), .int (nI vn)])), (sn, .inl (cI, PN, .inl (iF pf))), (sv, .inl (cI, VN, .inl fv))]) (k_rs F (c_Kind_hasMore l D cI cB cJ cS T hT32) (va_cwS 1 hts (g_S wd_116 wd_117 wd_114 wd_118) rfl rfl rfl (by decide +kernel) ⟨Nat.le_of_ble_eq_true rfl, Nat.le_of_ble_eq_true rfl⟩) hK hP hD hS hA hZ [] rfl (by decide) rfl hl.1 rfl (Nat.le_of_ble_eq_true rfl) dX2_takeShape_58 ⟨Nat.le_of_ble_eq_true rfl, Nat.le_of_ble_eq_true rfl⟩) hP hD hS hA [] [0, 1, 2, 3, 4, 5, 6, 7] rfl rfl (by decide) (by decide) (fun r u9 H locs hw hP hD hS => ?_)
                subst hw
                have hP : va_P D kCl [(rd, .inr (0, [.int (nI u), .ref jl, .ref jd, .int (nI w), .ref a, .ref sh, .int (nI (t + 1 + 4)), .int (nI (b t)), .int (nI wr), .int (nI pl)])), (jl, .inl (cJ, 54, .inr (.inl (lF cl)))), (jd, .inl (cI, 54, .inl (iF cd))), (a, .inr (1, [.ref ab, .int (nI n)])), (ab, .inl (cB, 65536, .inl (bF b))), (sh, .inr (2, [.ref sn, .ref sv, .int (nI pn), .int (nI vn)])), (sn, .inl (cI, PN, .inl (iF pf))), (sv, .inl (cI, VN, .inl fv))] H := hP
                have hD : va_D A [(rd, .inr (0, [.int (nI u), .ref jl, .ref jd, .int (nI w), .ref a, .ref sh, .int (nI (t + 1 + 4)), .int (nI (b t)), .int (nI wr), .int (nI pl)])), (jl, .inl (cJ, 54, .inr (.inl (lF cl)))), (jd, .inl (cI, 54, .inl (iF cd))), (a, .inr (1, [.ref ab, .int (nI n)])), (ab, .inl (cB, 65536, .inl (bF b))), (sh, .inr (2, [.ref sn, .ref sv, .int (nI pn), .int (nI vn)])), (sn, .inl (cI, PN, .inl (iF pf))), (sv, .inl (cI, VN, .inl fv))] := hD
                refine W.widen (k := 0) (n := 0) (Nat.le_of_ble_eq_true rfl) (Nat.le_of_ble_eq_true rfl) ?_
                refine k_if_eq (tgt := 72) (by omega) hx hb dX2_takeShape_61 (by decide) (fun c91 => ?_) (fun c91 => ?_)
                · skip
                  refine lv_iload hx hb dX2_takeShape_72 (lv_at hl 0 rfl) ?_
                  refine lv_bipush (v := nI 7) hx hb dX2_takeShape_74 (by decide) ?_
                  refine k_icmp_ne (tgt := 96) (by omega) (by omega) hx hb dX2_takeShape_76 (by decide) (fun c92 => ?_) (fun c92 => ?_)
                  · skip
                    refine lv_iload_n hx hb dX2_takeShape_96 rfl (lv_at hl 1 rfl) ?_
                    refine k_ci (wr := [(rd, .inr (0, [.int (nI u), .ref jl, .ref jd, .int (nI w), .ref a, .ref sh, .int (nI (t + 1 + 4)), .int (nI (b t)), .int (nI wr), .int (nI pl)])), (jl, .inl (cJ, 54, .inr (.inl (lF cl)))), (jd, .inl (cI, 54, .inl (iF cd))), (a, .inr (1, [.ref ab, .int (nI n)])), (ab, .inl (cB, 65536, .inl (bF b))), (sh, .inr (2, [.ref sn, .ref sv, .int (nI pn), .int (nI vn)])), (sn, .inl (cI, PN, .inl (iF pf))), (sv, .inl (cI, VN, .inl fv))]) (k_rs F (c_Kind_hasMark l D cI cB cJ cS T hT32) (va_cwS 1 hts (g_S wd_119 wd_120 wd_114 wd_121) rfl rfl rfl (by decide +kernel) ⟨Nat.le_of_ble_eq_true rfl, Nat.le_of_ble_eq_true rfl⟩) hK hP hD hS hA hZ [] rfl (by decide) rfl hl.1 rfl (Nat.le_of_ble_eq_true rfl) dX2_takeShape_97 ⟨Nat.le_of_ble_eq_true rfl, Nat.le_of_ble_eq_true rfl⟩) hP hD hS hA [] [0, 1, 2, 3, 4, 5, 6, 7] rfl rfl (by decide) (by decide) (fun r u9 H locs hw hP hD hS => ?_)
                    subst hw
                    have hP : va_P D kCl [(rd, .inr (0, [.int (nI u), .ref jl, .ref jd, .int (nI w), .ref a, .ref sh, .int (nI (t + 1 + 4)), .int (nI (b t)), .int (nI wr), .int (nI pl)])), (jl, .inl (cJ, 54, .inr (.inl (lF cl)))), (jd, .inl (cI, 54, .inl (iF cd))), (a, .inr (1, [.ref ab, .int (nI n)])), (ab, .inl (cB, 65536, .inl (bF b))), (sh, .inr (2, [.ref sn, .ref sv, .int (nI pn), .int (nI vn)])), (sn, .inl (cI, PN, .inl (iF pf))), (sv, .inl (cI, VN, .inl fv))] H := hP
                    have hD : va_D A [(rd, .inr (0, [.int (nI u), .ref jl, .ref jd, .int (nI w), .ref a, .ref sh, .int (nI (t + 1 + 4)), .int (nI (b t)), .int (nI wr), .int (nI pl)])), (jl, .inl (cJ, 54, .inr (.inl (lF cl)))), (jd, .inl (cI, 54, .inl (iF cd))), (a, .inr (1, [.ref ab, .int (nI n)])), (ab, .inl (cB, 65536, .inl (bF b))), (sh, .inr (2, [.ref sn, .ref sv, .int (nI pn), .int (nI vn)])), (sn, .inl (cI, PN, .inl (iF pf))), (sv, .inl (cI, VN, .inl fv))] := hD
                    refine W.widen (k := 0) (n := 0) (Nat.le_of_ble_eq_true rfl) (Nat.le_of_ble_eq_true rfl) ?_
                    refine k_if_eq (tgt := 112) (by omega) hx hb dX2_takeShape_100 (by decide) (fun hmk0 => ?_) (fun hmk0 => ?_)
                    · skip
                      have hmk : tMark T = 0 := by omega
                      have e9 := hs
                      unfold sShape at e9
                      rw [if_neg (by omega), if_neg (by omega), if_neg (by omega), ← hT] at e9
                      unfold sType at e9
                      rw [if_neg (by omega), if_neg (by omega), if_neg (by omega), if_neg (by omega), hmk] at e9
                      exact jp (t + 1 + 4) _ _ _ (by omega) (by omega) (e9) (hP.sub [0, 1, 2, 3, 4, 5, 6, 7] rfl) (hD.sub [0, 1, 2, 3, 4, 5, 6, 7] (by decide) rfl) hS (lv_sub hl [3, 0] rfl)
                    · skip
                      have hmk : tMark T = 1 := by omega
                      refine lv_aload_n hx hb dX2_takeShape_103 rfl (lv_at hl 3 rfl) ?_
                      rcases Nat.lt_or_ge n (t + 1 + 4 + 4) with h4 | h4
                      · skip
                        refine k_ci (wr := []) (k_rv F (c_Rd_passMark0 l D cI cB cJ cS rd jl jd a ab sh sn sv u w (t + 1 + 4) (b t) wr pl n PN pn VN vn cl cd b pf fv (by omega) (by omega) (by omega) (by omega) (by omega) (by omega) (by omega) (by omega) (by omega) hb256 h4) (cwV 0 hts (g_V wd_122 wd_123 wd_124 wd_55 wd_125) rfl rfl rfl (by decide +kernel) ⟨Nat.le_of_ble_eq_true rfl, Nat.le_of_ble_eq_true rfl⟩) hK hP hD hS hA hZ [0, 1, 2, 3, 4, 5, 6, 7] rfl (by decide) 0 rfl rfl rfl rfl hl.1 rfl (Nat.le_of_ble_eq_true rfl) dX2_takeShape_104 ⟨Nat.le_of_ble_eq_true rfl, Nat.le_of_ble_eq_true rfl⟩) hP hD hS hA [0, 1, 2, 3, 4, 5, 6, 7] [] rfl rfl (by decide) (by decide) (fun r u9 H locs hw hP hD hS => ?_)
                        subst hw
                        have hP : va_P D kCl [(rd, .inr (0, [.int (nI u), .ref jl, .ref jd, .int (nI w), .ref a, .ref sh, .int (nI (t + 1 + 4)), .int (nI (b t)), .int (nI 3), .int (nI (t + 1 + 4))])), (jl, .inl (cJ, 54, .inr (.inl (lF cl)))), (jd, .inl (cI, 54, .inl (iF cd))), (a, .inr (1, [.ref ab, .int (nI n)])), (ab, .inl (cB, 65536, .inl (bF b))), (sh, .inr (2, [.ref sn, .ref sv, .int (nI pn), .int (nI vn)])), (sn, .inl (cI, PN, .inl (iF pf))), (sv, .inl (cI, VN, .inl fv))] H := hP
                        have hD : va_D A [(rd, .inr (0, [.int (nI u), .ref jl, .ref jd, .int (nI w), .ref a, .ref sh, .int (nI (t + 1 + 4)), .int (nI (b t)), .int (nI 3), .int (nI (t + 1 + 4))])), (jl, .inl (cJ, 54, .inr (.inl (lF cl)))), (jd, .inl (cI, 54, .inl (iF cd))), (a, .inr (1, [.ref ab, .int (nI n)])), (ab, .inl (cB, 65536, .inl (bF b))), (sh, .inr (2, [.ref sn, .ref sv, .int (nI pn), .int (nI vn)])), (sn, .inl (cI, PN, .inl (iF pf))), (sv, .inl (cI, VN, .inl fv))] := hD
                        refine W.widen (k := 0) (n := 0) (Nat.le_of_ble_eq_true rfl) (Nat.le_of_ble_eq_true rfl) ?_
                        refine k_if_ne (tgt := 112) (by omega) hx hb dX2_takeShape_107 (by decide) (fun c93 => ?_) (fun c93 => ?_)
                        · skip
                          exact absurd c93 (by omega)
                        · skip
                          refine lv_iconst (v := nI 0) hx hb dX2_takeShape_110 (by decide) ?_
                          rw [show sShape b n PN due w t lo wr pl pn vn cl cd pf fv = (0, (w, t + 1 + 4, b t, 3, t + 1 + 4, pn, vn, cl, cd, pf, fv)) from by unfold sShape; rw [if_neg (by omega), if_neg (by omega), if_neg (by omega)]; rw [← hT]; unfold sType; rw [hmk]; rw [if_neg (by omega), if_neg (by omega), if_neg (by omega), if_pos (by omega)]] at hs
                          cases hs
                          exact k_iret () hx hb hr (by first | rfl | decide | exact vp_nar_int _) hlocks hK hP hD hS (rfl) (rfl) (Nat.le_of_ble_eq_true rfl) (Nat.le_of_ble_eq_true rfl) dX2_takeShape_111
                      · skip
                        refine k_ci (wr := []) (k_rv F (c_Rd_passMark1 l D cI cB cJ cS rd jl jd a ab sh sn sv u w (t + 1 + 4) (b t) wr pl n PN pn VN vn cl cd b pf fv (by omega) (by omega) (by omega) (by omega) (by omega) (by omega) (by omega) (by omega) (by omega) hb256 h4) (cwV 0 hts (g_V wd_122 wd_123 wd_124 wd_55 wd_125) rfl rfl rfl (by decide +kernel) ⟨Nat.le_of_ble_eq_true rfl, Nat.le_of_ble_eq_true rfl⟩) hK hP hD hS hA hZ [0, 1, 2, 3, 4, 5, 6, 7] rfl (by decide) 0 rfl rfl rfl rfl hl.1 rfl (Nat.le_of_ble_eq_true rfl) dX2_takeShape_104 ⟨Nat.le_of_ble_eq_true rfl, Nat.le_of_ble_eq_true rfl⟩) hP hD hS hA [0, 1, 2, 3, 4, 5, 6, 7] [] rfl rfl (by decide) (by decide) (fun r u9 H locs hw hP hD hS => ?_)
                        subst hw
                        have hP : va_P D kCl [(rd, .inr (0, [.int (nI u), .ref jl, .ref jd, .int (nI w), .ref a, .ref sh, .int (nI (t + 1 + 4 + 4)), .int (nI (b t)), .int (nI wr), .int (nI pl)])), (jl, .inl (cJ, 54, .inr (.inl (lF cl)))), (jd, .inl (cI, 54, .inl (iF cd))), (a, .inr (1, [.ref ab, .int (nI n)])), (ab, .inl (cB, 65536, .inl (bF b))), (sh, .inr (2, [.ref sn, .ref sv, .int (nI pn), .int (nI vn)])), (sn, .inl (cI, PN, .inl (iF pf))), (sv, .inl (cI, VN, .inl fv))] H := hP
                        have hD : va_D A [(rd, .inr (0, [.int (nI u), .ref jl, .ref jd, .int (nI w), .ref a, .ref sh, .int (nI (t + 1 + 4 + 4)), .int (nI (b t)), .int (nI wr), .int (nI pl)])), (jl, .inl (cJ, 54, .inr (.inl (lF cl)))), (jd, .inl (cI, 54, .inl (iF cd))), (a, .inr (1, [.ref ab, .int (nI n)])), (ab, .inl (cB, 65536, .inl (bF b))), (sh, .inr (2, [.ref sn, .ref sv, .int (nI pn), .int (nI vn)])), (sn, .inl (cI, PN, .inl (iF pf))), (sv, .inl (cI, VN, .inl fv))] := hD
                        refine W.widen (k := 0) (n := 0) (Nat.le_of_ble_eq_true rfl) (Nat.le_of_ble_eq_true rfl) ?_
                        refine k_if_ne (tgt := 112) (by omega) hx hb dX2_takeShape_107 (by decide) (fun c94 => ?_) (fun c94 => ?_)
                        · skip
                          have hmk : tMark T = 1 := by omega
                          have e9 := hs
                          unfold sShape at e9
                          rw [if_neg (by omega), if_neg (by omega), if_neg (by omega), ← hT] at e9
                          unfold sType at e9
                          rw [if_neg (by omega), if_neg (by omega), if_neg (by omega), if_neg (by omega), hmk] at e9
                          exact jp (t + 1 + 4 + 4) _ _ _ (by omega) (by omega) (e9) (hP.sub [0, 1, 2, 3, 4, 5, 6, 7] rfl) (hD.sub [0, 1, 2, 3, 4, 5, 6, 7] (by decide) rfl) hS (lv_sub hl [3, 0] rfl)
                        · skip
                          exact absurd c94 (by omega)
                  · skip
                    refine lv_aload_n hx hb dX2_takeShape_79 rfl (lv_at hl 3 rfl) ?_
                    refine k_ci (wr := []) (k_rv F (c_Rd_around l D cI cB cJ cS rd jl jd a ab sh sn sv u w (t + 1 + 4) (b t) wr pl n PN pn VN vn cl cd b pf fv (by omega) (by omega) (by omega) (by omega) (by omega) (by omega) (by omega) (by omega) (by omega) hb256 h1w) (cwV 0 hts (g_V wd_126 wd_127 wd_128 wd_55 wd_129) rfl rfl rfl (by decide +kernel) ⟨Nat.le_of_ble_eq_true rfl, Nat.le_of_ble_eq_true rfl⟩) hK hP hD hS hA hZ [0, 1, 2, 3, 4, 5, 6, 7] rfl (by decide) 0 rfl rfl rfl rfl hl.1 rfl (Nat.le_of_ble_eq_true rfl) dX2_takeShape_80 ⟨Nat.le_of_ble_eq_true rfl, Nat.le_of_ble_eq_true rfl⟩) hP hD hS hA [0, 1, 2, 3, 4, 5, 6, 7] [] rfl rfl (by decide) (by decide) (fun r u9 H locs hw hP hD hS => ?_)
                    subst hw
                    have hP : va_P D kCl [(rd, .inr (0, [.int (nI u), .ref jl, .ref jd, .int (nI w), .ref a, .ref sh, .int (nI (t + 1 + 4)), .int (nI (b t)), .int (nI wr), .int (nI pl)])), (jl, .inl (cJ, 54, .inr (.inl (lF cl)))), (jd, .inl (cI, 54, .inl (iF cd))), (a, .inr (1, [.ref ab, .int (nI n)])), (ab, .inl (cB, 65536, .inl (bF b))), (sh, .inr (2, [.ref sn, .ref sv, .int (nI pn), .int (nI vn)])), (sn, .inl (cI, PN, .inl (iF pf))), (sv, .inl (cI, VN, .inl fv))] H := hP
                    have hD : va_D A [(rd, .inr (0, [.int (nI u), .ref jl, .ref jd, .int (nI w), .ref a, .ref sh, .int (nI (t + 1 + 4)), .int (nI (b t)), .int (nI wr), .int (nI pl)])), (jl, .inl (cJ, 54, .inr (.inl (lF cl)))), (jd, .inl (cI, 54, .inl (iF cd))), (a, .inr (1, [.ref ab, .int (nI n)])), (ab, .inl (cB, 65536, .inl (bF b))), (sh, .inr (2, [.ref sn, .ref sv, .int (nI pn), .int (nI vn)])), (sn, .inl (cI, PN, .inl (iF pf))), (sv, .inl (cI, VN, .inl fv))] := hD
                    refine W.widen (k := 0) (n := 0) (Nat.le_of_ble_eq_true rfl) (Nat.le_of_ble_eq_true rfl) ?_
                    refine lv_bipush (v := nI 50) hx hb dX2_takeShape_83 (by decide) ?_
                    refine k_icmp_lt (tgt := 96) (by omega) (by omega) hx hb dX2_takeShape_85 (by decide) (fun c95 => ?_) (fun c95 => ?_)
                    · skip
                      refine lv_iload_n hx hb dX2_takeShape_96 rfl (lv_at hl 1 rfl) ?_
                      refine k_ci (wr := [(rd, .inr (0, [.int (nI u), .ref jl, .ref jd, .int (nI w), .ref a, .ref sh, .int (nI (t + 1 + 4)), .int (nI (b t)), .int (nI wr), .int (nI pl)])), (jl, .inl (cJ, 54, .inr (.inl (lF cl)))), (jd, .inl (cI, 54, .inl (iF cd))), (a, .inr (1, [.ref ab, .int (nI n)])), (ab, .inl (cB, 65536, .inl (bF b))), (sh, .inr (2, [.ref sn, .ref sv, .int (nI pn), .int (nI vn)])), (sn, .inl (cI, PN, .inl (iF pf))), (sv, .inl (cI, VN, .inl fv))]) (k_rs F (c_Kind_hasMark l D cI cB cJ cS T hT32) (va_cwS 1 hts (g_S wd_119 wd_120 wd_114 wd_121) rfl rfl rfl (by decide +kernel) ⟨Nat.le_of_ble_eq_true rfl, Nat.le_of_ble_eq_true rfl⟩) hK hP hD hS hA hZ [] rfl (by decide) rfl hl.1 rfl (Nat.le_of_ble_eq_true rfl) dX2_takeShape_97 ⟨Nat.le_of_ble_eq_true rfl, Nat.le_of_ble_eq_true rfl⟩) hP hD hS hA [] [0, 1, 2, 3, 4, 5, 6, 7] rfl rfl (by decide) (by decide) (fun r u9 H locs hw hP hD hS => ?_)
                      subst hw
                      have hP : va_P D kCl [(rd, .inr (0, [.int (nI u), .ref jl, .ref jd, .int (nI w), .ref a, .ref sh, .int (nI (t + 1 + 4)), .int (nI (b t)), .int (nI wr), .int (nI pl)])), (jl, .inl (cJ, 54, .inr (.inl (lF cl)))), (jd, .inl (cI, 54, .inl (iF cd))), (a, .inr (1, [.ref ab, .int (nI n)])), (ab, .inl (cB, 65536, .inl (bF b))), (sh, .inr (2, [.ref sn, .ref sv, .int (nI pn), .int (nI vn)])), (sn, .inl (cI, PN, .inl (iF pf))), (sv, .inl (cI, VN, .inl fv))] H := hP
                      have hD : va_D A [(rd, .inr (0, [.int (nI u), .ref jl, .ref jd, .int (nI w), .ref a, .ref sh, .int (nI (t + 1 + 4)), .int (nI (b t)), .int (nI wr), .int (nI pl)])), (jl, .inl (cJ, 54, .inr (.inl (lF cl)))), (jd, .inl (cI, 54, .inl (iF cd))), (a, .inr (1, [.ref ab, .int (nI n)])), (ab, .inl (cB, 65536, .inl (bF b))), (sh, .inr (2, [.ref sn, .ref sv, .int (nI pn), .int (nI vn)])), (sn, .inl (cI, PN, .inl (iF pf))), (sv, .inl (cI, VN, .inl fv))] := hD
                      refine W.widen (k := 0) (n := 0) (Nat.le_of_ble_eq_true rfl) (Nat.le_of_ble_eq_true rfl) ?_
                      refine k_if_eq (tgt := 112) (by omega) hx hb dX2_takeShape_100 (by decide) (fun hmk0 => ?_) (fun hmk0 => ?_)
                      · skip
                        have hmk : tMark T = 0 := by omega
                        have e9 := hs
                        unfold sShape at e9
                        rw [if_neg (by omega), if_neg (by omega), if_neg (by omega), ← hT] at e9
                        unfold sType at e9
                        rw [if_neg (by omega), if_neg (by omega), if_neg (by omega), if_neg (by omega), hmk] at e9
                        exact jp (t + 1 + 4) _ _ _ (by omega) (by omega) (e9) (hP.sub [0, 1, 2, 3, 4, 5, 6, 7] rfl) (hD.sub [0, 1, 2, 3, 4, 5, 6, 7] (by decide) rfl) hS (lv_sub hl [3, 0] rfl)
                      · skip
                        have hmk : tMark T = 1 := by omega
                        refine lv_aload_n hx hb dX2_takeShape_103 rfl (lv_at hl 3 rfl) ?_
                        rcases Nat.lt_or_ge n (t + 1 + 4 + 4) with h4 | h4
                        · skip
                          refine k_ci (wr := []) (k_rv F (c_Rd_passMark0 l D cI cB cJ cS rd jl jd a ab sh sn sv u w (t + 1 + 4) (b t) wr pl n PN pn VN vn cl cd b pf fv (by omega) (by omega) (by omega) (by omega) (by omega) (by omega) (by omega) (by omega) (by omega) hb256 h4) (cwV 0 hts (g_V wd_122 wd_123 wd_124 wd_55 wd_125) rfl rfl rfl (by decide +kernel) ⟨Nat.le_of_ble_eq_true rfl, Nat.le_of_ble_eq_true rfl⟩) hK hP hD hS hA hZ [0, 1, 2, 3, 4, 5, 6, 7] rfl (by decide) 0 rfl rfl rfl rfl hl.1 rfl (Nat.le_of_ble_eq_true rfl) dX2_takeShape_104 ⟨Nat.le_of_ble_eq_true rfl, Nat.le_of_ble_eq_true rfl⟩) hP hD hS hA [0, 1, 2, 3, 4, 5, 6, 7] [] rfl rfl (by decide) (by decide) (fun r u9 H locs hw hP hD hS => ?_)
                          subst hw
                          have hP : va_P D kCl [(rd, .inr (0, [.int (nI u), .ref jl, .ref jd, .int (nI w), .ref a, .ref sh, .int (nI (t + 1 + 4)), .int (nI (b t)), .int (nI 3), .int (nI (t + 1 + 4))])), (jl, .inl (cJ, 54, .inr (.inl (lF cl)))), (jd, .inl (cI, 54, .inl (iF cd))), (a, .inr (1, [.ref ab, .int (nI n)])), (ab, .inl (cB, 65536, .inl (bF b))), (sh, .inr (2, [.ref sn, .ref sv, .int (nI pn), .int (nI vn)])), (sn, .inl (cI, PN, .inl (iF pf))), (sv, .inl (cI, VN, .inl fv))] H := hP
                          have hD : va_D A [(rd, .inr (0, [.int (nI u), .ref jl, .ref jd, .int (nI w), .ref a, .ref sh, .int (nI (t + 1 + 4)), .int (nI (b t)), .int (nI 3), .int (nI (t + 1 + 4))])), (jl, .inl (cJ, 54, .inr (.inl (lF cl)))), (jd, .inl (cI, 54, .inl (iF cd))), (a, .inr (1, [.ref ab, .int (nI n)])), (ab, .inl (cB, 65536, .inl (bF b))), (sh, .inr (2, [.ref sn, .ref sv, .int (nI pn), .int (nI vn)])), (sn, .inl (cI, PN, .inl (iF pf))), (sv, .inl (cI, VN, .inl fv))] := hD
                          refine W.widen (k := 0) (n := 0) (Nat.le_of_ble_eq_true rfl) (Nat.le_of_ble_eq_true rfl) ?_
                          refine k_if_ne (tgt := 112) (by omega) hx hb dX2_takeShape_107 (by decide) (fun c96 => ?_) (fun c96 => ?_)
                          · skip
                            exact absurd c96 (by omega)
                          · skip
                            refine lv_iconst (v := nI 0) hx hb dX2_takeShape_110 (by decide) ?_
                            rw [show sShape b n PN due w t lo wr pl pn vn cl cd pf fv = (0, (w, t + 1 + 4, b t, 3, t + 1 + 4, pn, vn, cl, cd, pf, fv)) from by unfold sShape; rw [if_neg (by omega), if_neg (by omega), if_neg (by omega)]; rw [← hT]; unfold sType; rw [hmk]; rw [if_neg (by omega), if_neg (by omega), if_neg (by omega), if_pos (by omega)]] at hs
                            cases hs
                            exact k_iret () hx hb hr (by first | rfl | decide | exact vp_nar_int _) hlocks hK hP hD hS (rfl) (rfl) (Nat.le_of_ble_eq_true rfl) (Nat.le_of_ble_eq_true rfl) dX2_takeShape_111
                        · skip
                          refine k_ci (wr := []) (k_rv F (c_Rd_passMark1 l D cI cB cJ cS rd jl jd a ab sh sn sv u w (t + 1 + 4) (b t) wr pl n PN pn VN vn cl cd b pf fv (by omega) (by omega) (by omega) (by omega) (by omega) (by omega) (by omega) (by omega) (by omega) hb256 h4) (cwV 0 hts (g_V wd_122 wd_123 wd_124 wd_55 wd_125) rfl rfl rfl (by decide +kernel) ⟨Nat.le_of_ble_eq_true rfl, Nat.le_of_ble_eq_true rfl⟩) hK hP hD hS hA hZ [0, 1, 2, 3, 4, 5, 6, 7] rfl (by decide) 0 rfl rfl rfl rfl hl.1 rfl (Nat.le_of_ble_eq_true rfl) dX2_takeShape_104 ⟨Nat.le_of_ble_eq_true rfl, Nat.le_of_ble_eq_true rfl⟩) hP hD hS hA [0, 1, 2, 3, 4, 5, 6, 7] [] rfl rfl (by decide) (by decide) (fun r u9 H locs hw hP hD hS => ?_)
                          subst hw
                          have hP : va_P D kCl [(rd, .inr (0, [.int (nI u), .ref jl, .ref jd, .int (nI w), .ref a, .ref sh, .int (nI (t + 1 + 4 + 4)), .int (nI (b t)), .int (nI wr), .int (nI pl)])), (jl, .inl (cJ, 54, .inr (.inl (lF cl)))), (jd, .inl (cI, 54, .inl (iF cd))), (a, .inr (1, [.ref ab, .int (nI n)])), (ab, .inl (cB, 65536, .inl (bF b))), (sh, .inr (2, [.ref sn, .ref sv, .int (nI pn), .int (nI vn)])), (sn, .inl (cI, PN, .inl (iF pf))), (sv, .inl (cI, VN, .inl fv))] H := hP
                          have hD : va_D A [(rd, .inr (0, [.int (nI u), .ref jl, .ref jd, .int (nI w), .ref a, .ref sh, .int (nI (t + 1 + 4 + 4)), .int (nI (b t)), .int (nI wr), .int (nI pl)])), (jl, .inl (cJ, 54, .inr (.inl (lF cl)))), (jd, .inl (cI, 54, .inl (iF cd))), (a, .inr (1, [.ref ab, .int (nI n)])), (ab, .inl (cB, 65536, .inl (bF b))), (sh, .inr (2, [.ref sn, .ref sv, .int (nI pn), .int (nI vn)])), (sn, .inl (cI, PN, .inl (iF pf))), (sv, .inl (cI, VN, .inl fv))] := hD
                          refine W.widen (k := 0) (n := 0) (Nat.le_of_ble_eq_true rfl) (Nat.le_of_ble_eq_true rfl) ?_
                          refine k_if_ne (tgt := 112) (by omega) hx hb dX2_takeShape_107 (by decide) (fun c97 => ?_) (fun c97 => ?_)
                          · skip
                            have hmk : tMark T = 1 := by omega
                            have e9 := hs
                            unfold sShape at e9
                            rw [if_neg (by omega), if_neg (by omega), if_neg (by omega), ← hT] at e9
                            unfold sType at e9
                            rw [if_neg (by omega), if_neg (by omega), if_neg (by omega), if_neg (by omega), hmk] at e9
                            exact jp (t + 1 + 4 + 4) _ _ _ (by omega) (by omega) (e9) (hP.sub [0, 1, 2, 3, 4, 5, 6, 7] rfl) (hD.sub [0, 1, 2, 3, 4, 5, 6, 7] (by decide) rfl) hS (lv_sub hl [3, 0] rfl)
                          · skip
                            exact absurd c97 (by omega)
                    · skip
                      refine lv_aload_n hx hb dX2_takeShape_88 rfl (lv_at hl 3 rfl) ?_
                      refine lv_bipush (v := nI 6) hx hb dX2_takeShape_89 (by decide) ?_
                      refine lv_iload_n hx hb dX2_takeShape_91 rfl (lv_at hl 2 rfl) ?_
                      refine k_ci (wr := []) (k_rv F (c_Rd_fail l D cI cB cJ cS rd jl jd a ab sh sn sv u w (t + 1 + 4) (b t) wr pl n PN pn VN vn cl cd b pf fv (by omega) (by omega) (by omega) (by omega) (by omega) (by omega) (by omega) (by omega) (by omega) hb256 6 (t + 1)) (cwV 2 hts (g_V wd_52 wd_53 wd_54 wd_55 wd_56) rfl rfl rfl (by decide +kernel) ⟨Nat.le_of_ble_eq_true rfl, Nat.le_of_ble_eq_true rfl⟩) hK hP hD hS hA hZ [0, 1, 2, 3, 4, 5, 6, 7] rfl (by decide) 0 rfl rfl rfl rfl hl.1 rfl (Nat.le_of_ble_eq_true rfl) dX2_takeShape_92 ⟨Nat.le_of_ble_eq_true rfl, Nat.le_of_ble_eq_true rfl⟩) hP hD hS hA [0, 1, 2, 3, 4, 5, 6, 7] [] rfl rfl (by decide) (by decide) (fun r u9 H locs hw hP hD hS => ?_)
                      subst hw
                      have hP : va_P D kCl [(rd, .inr (0, [.int (nI u), .ref jl, .ref jd, .int (nI w), .ref a, .ref sh, .int (nI (t + 1 + 4)), .int (nI (b t)), .int (nI 6), .int (nI (t + 1))])), (jl, .inl (cJ, 54, .inr (.inl (lF cl)))), (jd, .inl (cI, 54, .inl (iF cd))), (a, .inr (1, [.ref ab, .int (nI n)])), (ab, .inl (cB, 65536, .inl (bF b))), (sh, .inr (2, [.ref sn, .ref sv, .int (nI pn), .int (nI vn)])), (sn, .inl (cI, PN, .inl (iF pf))), (sv, .inl (cI, VN, .inl fv))] H := hP
                      have hD : va_D A [(rd, .inr (0, [.int (nI u), .ref jl, .ref jd, .int (nI w), .ref a, .ref sh, .int (nI (t + 1 + 4)), .int (nI (b t)), .int (nI 6), .int (nI (t + 1))])), (jl, .inl (cJ, 54, .inr (.inl (lF cl)))), (jd, .inl (cI, 54, .inl (iF cd))), (a, .inr (1, [.ref ab, .int (nI n)])), (ab, .inl (cB, 65536, .inl (bF b))), (sh, .inr (2, [.ref sn, .ref sv, .int (nI pn), .int (nI vn)])), (sn, .inl (cI, PN, .inl (iF pf))), (sv, .inl (cI, VN, .inl fv))] := hD
                      refine W.widen (k := 0) (n := 0) (Nat.le_of_ble_eq_true rfl) (Nat.le_of_ble_eq_true rfl) ?_
                      rw [show sShape b n PN due w t lo wr pl pn vn cl cd pf fv = (0, (w, t + 1 + 4, b t, 6, t + 1, pn, vn, cl, cd, pf, fv)) from by unfold sShape; rw [if_neg (by omega), if_neg (by omega), if_neg (by omega)]; rw [← hT]; unfold sType; rw [if_neg (by omega), if_neg (by omega), if_pos (by omega)]] at hs
                      cases hs
                      exact k_iret () hx hb hr (by first | rfl | decide | exact vp_nar_int _) hlocks hK hP hD hS (rfl) (rfl) (Nat.le_of_ble_eq_true rfl) (Nat.le_of_ble_eq_true rfl) dX2_takeShape_95
                · skip
                  refine lv_aload_n hx hb dX2_takeShape_64 rfl (lv_at hl 3 rfl) ?_
                  refine lv_bipush (v := nI 9) hx hb dX2_takeShape_65 (by decide) ?_
                  refine lv_iload_n hx hb dX2_takeShape_67 rfl (lv_at hl 2 rfl) ?_
                  refine k_ci (wr := []) (k_rv F (c_Rd_fail l D cI cB cJ cS rd jl jd a ab sh sn sv u w (t + 1 + 4) (b t) wr pl n PN pn VN vn cl cd b pf fv (by omega) (by omega) (by omega) (by omega) (by omega) (by omega) (by omega) (by omega) (by omega) hb256 9 (t + 1)) (cwV 2 hts (g_V wd_52 wd_53 wd_54 wd_55 wd_56) rfl rfl rfl (by decide +kernel) ⟨Nat.le_of_ble_eq_true rfl, Nat.le_of_ble_eq_true rfl⟩) hK hP hD hS hA hZ [0, 1, 2, 3, 4, 5, 6, 7] rfl (by decide) 0 rfl rfl rfl rfl hl.1 rfl (Nat.le_of_ble_eq_true rfl) dX2_takeShape_68 ⟨Nat.le_of_ble_eq_true rfl, Nat.le_of_ble_eq_true rfl⟩) hP hD hS hA [0, 1, 2, 3, 4, 5, 6, 7] [] rfl rfl (by decide) (by decide) (fun r u9 H locs hw hP hD hS => ?_)
                  subst hw
                  have hP : va_P D kCl [(rd, .inr (0, [.int (nI u), .ref jl, .ref jd, .int (nI w), .ref a, .ref sh, .int (nI (t + 1 + 4)), .int (nI (b t)), .int (nI 9), .int (nI (t + 1))])), (jl, .inl (cJ, 54, .inr (.inl (lF cl)))), (jd, .inl (cI, 54, .inl (iF cd))), (a, .inr (1, [.ref ab, .int (nI n)])), (ab, .inl (cB, 65536, .inl (bF b))), (sh, .inr (2, [.ref sn, .ref sv, .int (nI pn), .int (nI vn)])), (sn, .inl (cI, PN, .inl (iF pf))), (sv, .inl (cI, VN, .inl fv))] H := hP
                  have hD : va_D A [(rd, .inr (0, [.int (nI u), .ref jl, .ref jd, .int (nI w), .ref a, .ref sh, .int (nI (t + 1 + 4)), .int (nI (b t)), .int (nI 9), .int (nI (t + 1))])), (jl, .inl (cJ, 54, .inr (.inl (lF cl)))), (jd, .inl (cI, 54, .inl (iF cd))), (a, .inr (1, [.ref ab, .int (nI n)])), (ab, .inl (cB, 65536, .inl (bF b))), (sh, .inr (2, [.ref sn, .ref sv, .int (nI pn), .int (nI vn)])), (sn, .inl (cI, PN, .inl (iF pf))), (sv, .inl (cI, VN, .inl fv))] := hD
                  refine W.widen (k := 0) (n := 0) (Nat.le_of_ble_eq_true rfl) (Nat.le_of_ble_eq_true rfl) ?_
                  rw [show sShape b n PN due w t lo wr pl pn vn cl cd pf fv = (0, (w, t + 1 + 4, b t, 9, t + 1, pn, vn, cl, cd, pf, fv)) from by unfold sShape; rw [if_neg (by omega), if_neg (by omega), if_neg (by omega)]; rw [← hT]; unfold sType; rw [if_neg (by omega), if_pos (by omega)]] at hs
                  cases hs
                  exact k_iret () hx hb hr (by first | rfl | decide | exact vp_nar_int _) hlocks hK hP hD hS (rfl) (rfl) (Nat.le_of_ble_eq_true rfl) (Nat.le_of_ble_eq_true rfl) dX2_takeShape_71
              · skip
                refine lv_iload_n hx hb dX2_takeShape_44 rfl (lv_at hl 4 rfl) ?_
                refine lv_iload hx hb dX2_takeShape_45 (lv_at hl 0 rfl) ?_
                refine k_icmp_eq (tgt := 57) (by omega) (by omega) hx hb dX2_takeShape_47 (by decide) (fun c98 => ?_) (fun c98 => ?_)
                · skip
                  refine lv_iload_n hx hb dX2_takeShape_57 rfl (lv_at hl 1 rfl) ?_
                  refine k_ci (wr := [(rd, .inr (0, [.int (nI u), .ref jl, .ref jd, .int (nI w), .ref a, .ref sh, .int (nI (t + 1 + 4)), .int (nI (b t)), .int (nI wr), .int (nI pl)])), (jl, .inl (cJ, 54, .inr (.inl (lF cl)))), (jd, .inl (cI, 54, .inl (iF cd))), (a, .inr (1, [.ref ab, .int (nI n)])), (ab, .inl (cB, 65536, .inl (bF b))), (sh, .inr (2, [.ref sn, .ref sv, .int (nI pn), .int (nI vn)])), (sn, .inl (cI, PN, .inl (iF pf))), (sv, .inl (cI, VN, .inl fv))]) (k_rs F (c_Kind_hasMore l D cI cB cJ cS T hT32) (va_cwS 1 hts (g_S wd_116 wd_117 wd_114 wd_118) rfl rfl rfl (by decide +kernel) ⟨Nat.le_of_ble_eq_true rfl, Nat.le_of_ble_eq_true rfl⟩) hK hP hD hS hA hZ [] rfl (by decide) rfl hl.1 rfl (Nat.le_of_ble_eq_true rfl) dX2_takeShape_58 ⟨Nat.le_of_ble_eq_true rfl, Nat.le_of_ble_eq_true rfl⟩) hP hD hS hA [] [0, 1, 2, 3, 4, 5, 6, 7] rfl rfl (by decide) (by decide) (fun r u9 H locs hw hP hD hS => ?_)
                  subst hw
                  have hP : va_P D kCl [(rd, .inr (0, [.int (nI u), .ref jl, .ref jd, .int (nI w), .ref a, .ref sh, .int (nI (t + 1 + 4)), .int (nI (b t)), .int (nI wr), .int (nI pl)])), (jl, .inl (cJ, 54, .inr (.inl (lF cl)))), (jd, .inl (cI, 54, .inl (iF cd))), (a, .inr (1, [.ref ab, .int (nI n)])), (ab, .inl (cB, 65536, .inl (bF b))), (sh, .inr (2, [.ref sn, .ref sv, .int (nI pn), .int (nI vn)])), (sn, .inl (cI, PN, .inl (iF pf))), (sv, .inl (cI, VN, .inl fv))] H := hP
                  have hD : va_D A [(rd, .inr (0, [.int (nI u), .ref jl, .ref jd, .int (nI w), .ref a, .ref sh, .int (nI (t + 1 + 4)), .int (nI (b t)), .int (nI wr), .int (nI pl)])), (jl, .inl (cJ, 54, .inr (.inl (lF cl)))), (jd, .inl (cI, 54, .inl (iF cd))), (a, .inr (1, [.ref ab, .int (nI n)])), (ab, .inl (cB, 65536, .inl (bF b))), (sh, .inr (2, [.ref sn, .ref sv, .int (nI pn), .int (nI vn)])), (sn, .inl (cI, PN, .inl (iF pf))), (sv, .inl (cI, VN, .inl fv))] := hD
                  refine W.widen (k := 0) (n := 0) (Nat.le_of_ble_eq_true rfl) (Nat.le_of_ble_eq_true rfl) ?_
                  refine k_if_eq (tgt := 72) (by omega) hx hb dX2_takeShape_61 (by decide) (fun c99 => ?_) (fun c99 => ?_)
                  · skip
                    refine lv_iload hx hb dX2_takeShape_72 (lv_at hl 0 rfl) ?_
                    refine lv_bipush (v := nI 7) hx hb dX2_takeShape_74 (by decide) ?_
                    refine k_icmp_ne (tgt := 96) (by omega) (by omega) hx hb dX2_takeShape_76 (by decide) (fun c100 => ?_) (fun c100 => ?_)
                    · skip
                      refine lv_iload_n hx hb dX2_takeShape_96 rfl (lv_at hl 1 rfl) ?_
                      refine k_ci (wr := [(rd, .inr (0, [.int (nI u), .ref jl, .ref jd, .int (nI w), .ref a, .ref sh, .int (nI (t + 1 + 4)), .int (nI (b t)), .int (nI wr), .int (nI pl)])), (jl, .inl (cJ, 54, .inr (.inl (lF cl)))), (jd, .inl (cI, 54, .inl (iF cd))), (a, .inr (1, [.ref ab, .int (nI n)])), (ab, .inl (cB, 65536, .inl (bF b))), (sh, .inr (2, [.ref sn, .ref sv, .int (nI pn), .int (nI vn)])), (sn, .inl (cI, PN, .inl (iF pf))), (sv, .inl (cI, VN, .inl fv))]) (k_rs F (c_Kind_hasMark l D cI cB cJ cS T hT32) (va_cwS 1 hts (g_S wd_119 wd_120 wd_114 wd_121) rfl rfl rfl (by decide +kernel) ⟨Nat.le_of_ble_eq_true rfl, Nat.le_of_ble_eq_true rfl⟩) hK hP hD hS hA hZ [] rfl (by decide) rfl hl.1 rfl (Nat.le_of_ble_eq_true rfl) dX2_takeShape_97 ⟨Nat.le_of_ble_eq_true rfl, Nat.le_of_ble_eq_true rfl⟩) hP hD hS hA [] [0, 1, 2, 3, 4, 5, 6, 7] rfl rfl (by decide) (by decide) (fun r u9 H locs hw hP hD hS => ?_)
                      subst hw
                      have hP : va_P D kCl [(rd, .inr (0, [.int (nI u), .ref jl, .ref jd, .int (nI w), .ref a, .ref sh, .int (nI (t + 1 + 4)), .int (nI (b t)), .int (nI wr), .int (nI pl)])), (jl, .inl (cJ, 54, .inr (.inl (lF cl)))), (jd, .inl (cI, 54, .inl (iF cd))), (a, .inr (1, [.ref ab, .int (nI n)])), (ab, .inl (cB, 65536, .inl (bF b))), (sh, .inr (2, [.ref sn, .ref sv, .int (nI pn), .int (nI vn)])), (sn, .inl (cI, PN, .inl (iF pf))), (sv, .inl (cI, VN, .inl fv))] H := hP
                      have hD : va_D A [(rd, .inr (0, [.int (nI u), .ref jl, .ref jd, .int (nI w), .ref a, .ref sh, .int (nI (t + 1 + 4)), .int (nI (b t)), .int (nI wr), .int (nI pl)])), (jl, .inl (cJ, 54, .inr (.inl (lF cl)))), (jd, .inl (cI, 54, .inl (iF cd))), (a, .inr (1, [.ref ab, .int (nI n)])), (ab, .inl (cB, 65536, .inl (bF b))), (sh, .inr (2, [.ref sn, .ref sv, .int (nI pn), .int (nI vn)])), (sn, .inl (cI, PN, .inl (iF pf))), (sv, .inl (cI, VN, .inl fv))] := hD
                      refine W.widen (k := 0) (n := 0) (Nat.le_of_ble_eq_true rfl) (Nat.le_of_ble_eq_true rfl) ?_
                      refine k_if_eq (tgt := 112) (by omega) hx hb dX2_takeShape_100 (by decide) (fun hmk0 => ?_) (fun hmk0 => ?_)
                      · skip
                        have hmk : tMark T = 0 := by omega
                        have e9 := hs
                        unfold sShape at e9
                        rw [if_neg (by omega), if_neg (by omega), if_neg (by omega), ← hT] at e9
                        unfold sType at e9
                        rw [if_neg (by omega), if_neg (by omega), if_neg (by omega), if_neg (by omega), hmk] at e9
                        exact jp (t + 1 + 4) _ _ _ (by omega) (by omega) (e9) (hP.sub [0, 1, 2, 3, 4, 5, 6, 7] rfl) (hD.sub [0, 1, 2, 3, 4, 5, 6, 7] (by decide) rfl) hS (lv_sub hl [3, 0] rfl)
                      · skip
                        have hmk : tMark T = 1 := by omega
                        refine lv_aload_n hx hb dX2_takeShape_103 rfl (lv_at hl 3 rfl) ?_
                        rcases Nat.lt_or_ge n (t + 1 + 4 + 4) with h4 | h4
                        · skip
                          refine k_ci (wr := []) (k_rv F (c_Rd_passMark0 l D cI cB cJ cS rd jl jd a ab sh sn sv u w (t + 1 + 4) (b t) wr pl n PN pn VN vn cl cd b pf fv (by omega) (by omega) (by omega) (by omega) (by omega) (by omega) (by omega) (by omega) (by omega) hb256 h4) (cwV 0 hts (g_V wd_122 wd_123 wd_124 wd_55 wd_125) rfl rfl rfl (by decide +kernel) ⟨Nat.le_of_ble_eq_true rfl, Nat.le_of_ble_eq_true rfl⟩) hK hP hD hS hA hZ [0, 1, 2, 3, 4, 5, 6, 7] rfl (by decide) 0 rfl rfl rfl rfl hl.1 rfl (Nat.le_of_ble_eq_true rfl) dX2_takeShape_104 ⟨Nat.le_of_ble_eq_true rfl, Nat.le_of_ble_eq_true rfl⟩) hP hD hS hA [0, 1, 2, 3, 4, 5, 6, 7] [] rfl rfl (by decide) (by decide) (fun r u9 H locs hw hP hD hS => ?_)
                          subst hw
                          have hP : va_P D kCl [(rd, .inr (0, [.int (nI u), .ref jl, .ref jd, .int (nI w), .ref a, .ref sh, .int (nI (t + 1 + 4)), .int (nI (b t)), .int (nI 3), .int (nI (t + 1 + 4))])), (jl, .inl (cJ, 54, .inr (.inl (lF cl)))), (jd, .inl (cI, 54, .inl (iF cd))), (a, .inr (1, [.ref ab, .int (nI n)])), (ab, .inl (cB, 65536, .inl (bF b))), (sh, .inr (2, [.ref sn, .ref sv, .int (nI pn), .int (nI vn)])), (sn, .inl (cI, PN, .inl (iF pf))), (sv, .inl (cI, VN, .inl fv))] H := hP
                          have hD : va_D A [(rd, .inr (0, [.int (nI u), .ref jl, .ref jd, .int (nI w), .ref a, .ref sh, .int (nI (t + 1 + 4)), .int (nI (b t)), .int (nI 3), .int (nI (t + 1 + 4))])), (jl, .inl (cJ, 54, .inr (.inl (lF cl)))), (jd, .inl (cI, 54, .inl (iF cd))), (a, .inr (1, [.ref ab, .int (nI n)])), (ab, .inl (cB, 65536, .inl (bF b))), (sh, .inr (2, [.ref sn, .ref sv, .int (nI pn), .int (nI vn)])), (sn, .inl (cI, PN, .inl (iF pf))), (sv, .inl (cI, VN, .inl fv))] := hD
                          refine W.widen (k := 0) (n := 0) (Nat.le_of_ble_eq_true rfl) (Nat.le_of_ble_eq_true rfl) ?_
                          refine k_if_ne (tgt := 112) (by omega) hx hb dX2_takeShape_107 (by decide) (fun c101 => ?_) (fun c101 => ?_)
                          · skip
                            exact absurd c101 (by omega)
                          · skip
                            refine lv_iconst (v := nI 0) hx hb dX2_takeShape_110 (by decide) ?_
                            rw [show sShape b n PN due w t lo wr pl pn vn cl cd pf fv = (0, (w, t + 1 + 4, b t, 3, t + 1 + 4, pn, vn, cl, cd, pf, fv)) from by unfold sShape; rw [if_neg (by omega), if_neg (by omega), if_neg (by omega)]; rw [← hT]; unfold sType; rw [hmk]; rw [if_neg (by omega), if_neg (by omega), if_neg (by omega), if_pos (by omega)]] at hs
                            cases hs
                            exact k_iret () hx hb hr (by first | rfl | decide | exact vp_nar_int _) hlocks hK hP hD hS (rfl) (rfl) (Nat.le_of_ble_eq_true rfl) (Nat.le_of_ble_eq_true rfl) dX2_takeShape_111
                        · skip
                          refine k_ci (wr := []) (k_rv F (c_Rd_passMark1 l D cI cB cJ cS rd jl jd a ab sh sn sv u w (t + 1 + 4) (b t) wr pl n PN pn VN vn cl cd b pf fv (by omega) (by omega) (by omega) (by omega) (by omega) (by omega) (by omega) (by omega) (by omega) hb256 h4) (cwV 0 hts (g_V wd_122 wd_123 wd_124 wd_55 wd_125) rfl rfl rfl (by decide +kernel) ⟨Nat.le_of_ble_eq_true rfl, Nat.le_of_ble_eq_true rfl⟩) hK hP hD hS hA hZ [0, 1, 2, 3, 4, 5, 6, 7] rfl (by decide) 0 rfl rfl rfl rfl hl.1 rfl (Nat.le_of_ble_eq_true rfl) dX2_takeShape_104 ⟨Nat.le_of_ble_eq_true rfl, Nat.le_of_ble_eq_true rfl⟩) hP hD hS hA [0, 1, 2, 3, 4, 5, 6, 7] [] rfl rfl (by decide) (by decide) (fun r u9 H locs hw hP hD hS => ?_)
                          subst hw
                          have hP : va_P D kCl [(rd, .inr (0, [.int (nI u), .ref jl, .ref jd, .int (nI w), .ref a, .ref sh, .int (nI (t + 1 + 4 + 4)), .int (nI (b t)), .int (nI wr), .int (nI pl)])), (jl, .inl (cJ, 54, .inr (.inl (lF cl)))), (jd, .inl (cI, 54, .inl (iF cd))), (a, .inr (1, [.ref ab, .int (nI n)])), (ab, .inl (cB, 65536, .inl (bF b))), (sh, .inr (2, [.ref sn, .ref sv, .int (nI pn), .int (nI vn)])), (sn, .inl (cI, PN, .inl (iF pf))), (sv, .inl (cI, VN, .inl fv))] H := hP
                          have hD : va_D A [(rd, .inr (0, [.int (nI u), .ref jl, .ref jd, .int (nI w), .ref a, .ref sh, .int (nI (t + 1 + 4 + 4)), .int (nI (b t)), .int (nI wr), .int (nI pl)])), (jl, .inl (cJ, 54, .inr (.inl (lF cl)))), (jd, .inl (cI, 54, .inl (iF cd))), (a, .inr (1, [.ref ab, .int (nI n)])), (ab, .inl (cB, 65536, .inl (bF b))), (sh, .inr (2, [.ref sn, .ref sv, .int (nI pn), .int (nI vn)])), (sn, .inl (cI, PN, .inl (iF pf))), (sv, .inl (cI, VN, .inl fv))] := hD
                          refine W.widen (k := 0) (n := 0) (Nat.le_of_ble_eq_true rfl) (Nat.le_of_ble_eq_true rfl) ?_
                          refine k_if_ne (tgt := 112) (by omega) hx hb dX2_takeShape_107 (by decide) (fun c102 => ?_) (fun c102 => ?_)
                          · skip
                            have hmk : tMark T = 1 := by omega
                            have e9 := hs
                            unfold sShape at e9
                            rw [if_neg (by omega), if_neg (by omega), if_neg (by omega), ← hT] at e9
                            unfold sType at e9
                            rw [if_neg (by omega), if_neg (by omega), if_neg (by omega), if_neg (by omega), hmk] at e9
                            exact jp (t + 1 + 4 + 4) _ _ _ (by omega) (by omega) (e9) (hP.sub [0, 1, 2, 3, 4, 5, 6, 7] rfl) (hD.sub [0, 1, 2, 3, 4, 5, 6, 7] (by decide) rfl) hS (lv_sub hl [3, 0] rfl)
                          · skip
                            exact absurd c102 (by omega)
                    · skip
                      refine lv_aload_n hx hb dX2_takeShape_79 rfl (lv_at hl 3 rfl) ?_
                      refine k_ci (wr := []) (k_rv F (c_Rd_around l D cI cB cJ cS rd jl jd a ab sh sn sv u w (t + 1 + 4) (b t) wr pl n PN pn VN vn cl cd b pf fv (by omega) (by omega) (by omega) (by omega) (by omega) (by omega) (by omega) (by omega) (by omega) hb256 h1w) (cwV 0 hts (g_V wd_126 wd_127 wd_128 wd_55 wd_129) rfl rfl rfl (by decide +kernel) ⟨Nat.le_of_ble_eq_true rfl, Nat.le_of_ble_eq_true rfl⟩) hK hP hD hS hA hZ [0, 1, 2, 3, 4, 5, 6, 7] rfl (by decide) 0 rfl rfl rfl rfl hl.1 rfl (Nat.le_of_ble_eq_true rfl) dX2_takeShape_80 ⟨Nat.le_of_ble_eq_true rfl, Nat.le_of_ble_eq_true rfl⟩) hP hD hS hA [0, 1, 2, 3, 4, 5, 6, 7] [] rfl rfl (by decide) (by decide) (fun r u9 H locs hw hP hD hS => ?_)
                      subst hw
                      have hP : va_P D kCl [(rd, .inr (0, [.int (nI u), .ref jl, .ref jd, .int (nI w), .ref a, .ref sh, .int (nI (t + 1 + 4)), .int (nI (b t)), .int (nI wr), .int (nI pl)])), (jl, .inl (cJ, 54, .inr (.inl (lF cl)))), (jd, .inl (cI, 54, .inl (iF cd))), (a, .inr (1, [.ref ab, .int (nI n)])), (ab, .inl (cB, 65536, .inl (bF b))), (sh, .inr (2, [.ref sn, .ref sv, .int (nI pn), .int (nI vn)])), (sn, .inl (cI, PN, .inl (iF pf))), (sv, .inl (cI, VN, .inl fv))] H := hP
                      have hD : va_D A [(rd, .inr (0, [.int (nI u), .ref jl, .ref jd, .int (nI w), .ref a, .ref sh, .int (nI (t + 1 + 4)), .int (nI (b t)), .int (nI wr), .int (nI pl)])), (jl, .inl (cJ, 54, .inr (.inl (lF cl)))), (jd, .inl (cI, 54, .inl (iF cd))), (a, .inr (1, [.ref ab, .int (nI n)])), (ab, .inl (cB, 65536, .inl (bF b))), (sh, .inr (2, [.ref sn, .ref sv, .int (nI pn), .int (nI vn)])), (sn, .inl (cI, PN, .inl (iF pf))), (sv, .inl (cI, VN, .inl fv))] := hD
                      refine W.widen (k := 0) (n := 0) (Nat.le_of_ble_eq_true rfl) (Nat.le_of_ble_eq_true rfl) ?_
                      refine lv_bipush (v := nI 50) hx hb dX2_takeShape_83 (by decide) ?_
                      refine k_icmp_lt (tgt := 96) (by omega) (by omega) hx hb dX2_takeShape_85 (by decide) (fun c103 => ?_) (fun c103 => ?_)
                      · skip
                        refine lv_iload_n hx hb dX2_takeShape_96 rfl (lv_at hl 1 rfl) ?_
                        refine k_ci (wr := [(rd, .inr (0, [.int (nI u), .ref jl, .ref jd, .int (nI w), .ref a, .ref sh, .int (nI (t + 1 + 4)), .int (nI (b t)), .int (nI wr), .int (nI pl)])), (jl, .inl (cJ, 54, .inr (.inl (lF cl)))), (jd, .inl (cI, 54, .inl (iF cd))), (a, .inr (1, [.ref ab, .int (nI n)])), (ab, .inl (cB, 65536, .inl (bF b))), (sh, .inr (2, [.ref sn, .ref sv, .int (nI pn), .int (nI vn)])), (sn, .inl (cI, PN, .inl (iF pf))), (sv, .inl (cI, VN, .inl fv))]) (k_rs F (c_Kind_hasMark l D cI cB cJ cS T hT32) (va_cwS 1 hts (g_S wd_119 wd_120 wd_114 wd_121) rfl rfl rfl (by decide +kernel) ⟨Nat.le_of_ble_eq_true rfl, Nat.le_of_ble_eq_true rfl⟩) hK hP hD hS hA hZ [] rfl (by decide) rfl hl.1 rfl (Nat.le_of_ble_eq_true rfl) dX2_takeShape_97 ⟨Nat.le_of_ble_eq_true rfl, Nat.le_of_ble_eq_true rfl⟩) hP hD hS hA [] [0, 1, 2, 3, 4, 5, 6, 7] rfl rfl (by decide) (by decide) (fun r u9 H locs hw hP hD hS => ?_)
                        subst hw
                        have hP : va_P D kCl [(rd, .inr (0, [.int (nI u), .ref jl, .ref jd, .int (nI w), .ref a, .ref sh, .int (nI (t + 1 + 4)), .int (nI (b t)), .int (nI wr), .int (nI pl)])), (jl, .inl (cJ, 54, .inr (.inl (lF cl)))), (jd, .inl (cI, 54, .inl (iF cd))), (a, .inr (1, [.ref ab, .int (nI n)])), (ab, .inl (cB, 65536, .inl (bF b))), (sh, .inr (2, [.ref sn, .ref sv, .int (nI pn), .int (nI vn)])), (sn, .inl (cI, PN, .inl (iF pf))), (sv, .inl (cI, VN, .inl fv))] H := hP
                        have hD : va_D A [(rd, .inr (0, [.int (nI u), .ref jl, .ref jd, .int (nI w), .ref a, .ref sh, .int (nI (t + 1 + 4)), .int (nI (b t)), .int (nI wr), .int (nI pl)])), (jl, .inl (cJ, 54, .inr (.inl (lF cl)))), (jd, .inl (cI, 54, .inl (iF cd))), (a, .inr (1, [.ref ab, .int (nI n)])), (ab, .inl (cB, 65536, .inl (bF b))), (sh, .inr (2, [.ref sn, .ref sv, .int (nI pn), .int (nI vn)])), (sn, .inl (cI, PN, .inl (iF pf))), (sv, .inl (cI, VN, .inl fv))] := hD
                        refine W.widen (k := 0) (n := 0) (Nat.le_of_ble_eq_true rfl) (Nat.le_of_ble_eq_true rfl) ?_
                        refine k_if_eq (tgt := 112) (by omega) hx hb dX2_takeShape_100 (by decide) (fun hmk0 => ?_) (fun hmk0 => ?_)
                        · skip
                          have hmk : tMark T = 0 := by omega
                          have e9 := hs
                          unfold sShape at e9
                          rw [if_neg (by omega), if_neg (by omega), if_neg (by omega), ← hT] at e9
                          unfold sType at e9
                          rw [if_neg (by omega), if_neg (by omega), if_neg (by omega), if_neg (by omega), hmk] at e9
                          exact jp (t + 1 + 4) _ _ _ (by omega) (by omega) (e9) (hP.sub [0, 1, 2, 3, 4, 5, 6, 7] rfl) (hD.sub [0, 1, 2, 3, 4, 5, 6, 7] (by decide) rfl) hS (lv_sub hl [3, 0] rfl)
                        · skip
                          have hmk : tMark T = 1 := by omega
                          refine lv_aload_n hx hb dX2_takeShape_103 rfl (lv_at hl 3 rfl) ?_
                          rcases Nat.lt_or_ge n (t + 1 + 4 + 4) with h4 | h4
                          · skip
                            refine k_ci (wr := []) (k_rv F (c_Rd_passMark0 l D cI cB cJ cS rd jl jd a ab sh sn sv u w (t + 1 + 4) (b t) wr pl n PN pn VN vn cl cd b pf fv (by omega) (by omega) (by omega) (by omega) (by omega) (by omega) (by omega) (by omega) (by omega) hb256 h4) (cwV 0 hts (g_V wd_122 wd_123 wd_124 wd_55 wd_125) rfl rfl rfl (by decide +kernel) ⟨Nat.le_of_ble_eq_true rfl, Nat.le_of_ble_eq_true rfl⟩) hK hP hD hS hA hZ [0, 1, 2, 3, 4, 5, 6, 7] rfl (by decide) 0 rfl rfl rfl rfl hl.1 rfl (Nat.le_of_ble_eq_true rfl) dX2_takeShape_104 ⟨Nat.le_of_ble_eq_true rfl, Nat.le_of_ble_eq_true rfl⟩) hP hD hS hA [0, 1, 2, 3, 4, 5, 6, 7] [] rfl rfl (by decide) (by decide) (fun r u9 H locs hw hP hD hS => ?_)
                            subst hw
                            have hP : va_P D kCl [(rd, .inr (0, [.int (nI u), .ref jl, .ref jd, .int (nI w), .ref a, .ref sh, .int (nI (t + 1 + 4)), .int (nI (b t)), .int (nI 3), .int (nI (t + 1 + 4))])), (jl, .inl (cJ, 54, .inr (.inl (lF cl)))), (jd, .inl (cI, 54, .inl (iF cd))), (a, .inr (1, [.ref ab, .int (nI n)])), (ab, .inl (cB, 65536, .inl (bF b))), (sh, .inr (2, [.ref sn, .ref sv, .int (nI pn), .int (nI vn)])), (sn, .inl (cI, PN, .inl (iF pf))), (sv, .inl (cI, VN, .inl fv))] H := hP
                            have hD : va_D A [(rd, .inr (0, [.int (nI u), .ref jl, .ref jd, .int (nI w), .ref a, .ref sh, .int (nI (t + 1 + 4)), .int (nI (b t)), .int (nI 3), .int (nI (t + 1 + 4))])), (jl, .inl (cJ, 54, .inr (.inl (lF cl)))), (jd, .inl (cI, 54, .inl (iF cd))), (a, .inr (1, [.ref ab, .int (nI n)])), (ab, .inl (cB, 65536, .inl (bF b))), (sh, .inr (2, [.ref sn, .ref sv, .int (nI pn), .int (nI vn)])), (sn, .inl (cI, PN, .inl (iF pf))), (sv, .inl (cI, VN, .inl fv))] := hD
                            refine W.widen (k := 0) (n := 0) (Nat.le_of_ble_eq_true rfl) (Nat.le_of_ble_eq_true rfl) ?_
                            refine k_if_ne (tgt := 112) (by omega) hx hb dX2_takeShape_107 (by decide) (fun c104 => ?_) (fun c104 => ?_)
                            · skip
                              exact absurd c104 (by omega)
                            · skip
                              refine lv_iconst (v := nI 0) hx hb dX2_takeShape_110 (by decide) ?_
                              rw [show sShape b n PN due w t lo wr pl pn vn cl cd pf fv = (0, (w, t + 1 + 4, b t, 3, t + 1 + 4, pn, vn, cl, cd, pf, fv)) from by unfold sShape; rw [if_neg (by omega), if_neg (by omega), if_neg (by omega)]; rw [← hT]; unfold sType; rw [hmk]; rw [if_neg (by omega), if_neg (by omega), if_neg (by omega), if_pos (by omega)]] at hs
                              cases hs
                              exact k_iret () hx hb hr (by first | rfl | decide | exact vp_nar_int _) hlocks hK hP hD hS (rfl) (rfl) (Nat.le_of_ble_eq_true rfl) (Nat.le_of_ble_eq_true rfl) dX2_takeShape_111
                          · skip
                            refine k_ci (wr := []) (k_rv F (c_Rd_passMark1 l D cI cB cJ cS rd jl jd a ab sh sn sv u w (t + 1 + 4) (b t) wr pl n PN pn VN vn cl cd b pf fv (by omega) (by omega) (by omega) (by omega) (by omega) (by omega) (by omega) (by omega) (by omega) hb256 h4) (cwV 0 hts (g_V wd_122 wd_123 wd_124 wd_55 wd_125) rfl rfl rfl (by decide +kernel) ⟨Nat.le_of_ble_eq_true rfl, Nat.le_of_ble_eq_true rfl⟩) hK hP hD hS hA hZ [0, 1, 2, 3, 4, 5, 6, 7] rfl (by decide) 0 rfl rfl rfl rfl hl.1 rfl (Nat.le_of_ble_eq_true rfl) dX2_takeShape_104 ⟨Nat.le_of_ble_eq_true rfl, Nat.le_of_ble_eq_true rfl⟩) hP hD hS hA [0, 1, 2, 3, 4, 5, 6, 7] [] rfl rfl (by decide) (by decide) (fun r u9 H locs hw hP hD hS => ?_)
                            subst hw
                            have hP : va_P D kCl [(rd, .inr (0, [.int (nI u), .ref jl, .ref jd, .int (nI w), .ref a, .ref sh, .int (nI (t + 1 + 4 + 4)), .int (nI (b t)), .int (nI wr), .int (nI pl)])), (jl, .inl (cJ, 54, .inr (.inl (lF cl)))), (jd, .inl (cI, 54, .inl (iF cd))), (a, .inr (1, [.ref ab, .int (nI n)])), (ab, .inl (cB, 65536, .inl (bF b))), (sh, .inr (2, [.ref sn, .ref sv, .int (nI pn), .int (nI vn)])), (sn, .inl (cI, PN, .inl (iF pf))), (sv, .inl (cI, VN, .inl fv))] H := hP
                            have hD : va_D A [(rd, .inr (0, [.int (nI u), .ref jl, .ref jd, .int (nI w), .ref a, .ref sh, .int (nI (t + 1 + 4 + 4)), .int (nI (b t)), .int (nI wr), .int (nI pl)])), (jl, .inl (cJ, 54, .inr (.inl (lF cl)))), (jd, .inl (cI, 54, .inl (iF cd))), (a, .inr (1, [.ref ab, .int (nI n)])), (ab, .inl (cB, 65536, .inl (bF b))), (sh, .inr (2, [.ref sn, .ref sv, .int (nI pn), .int (nI vn)])), (sn, .inl (cI, PN, .inl (iF pf))), (sv, .inl (cI, VN, .inl fv))] := hD
                            refine W.widen (k := 0) (n := 0) (Nat.le_of_ble_eq_true rfl) (Nat.le_of_ble_eq_true rfl) ?_
                            refine k_if_ne (tgt := 112) (by omega) hx hb dX2_takeShape_107 (by decide) (fun c105 => ?_) (fun c105 => ?_)
                            · skip
                              have hmk : tMark T = 1 := by omega
                              have e9 := hs
                              unfold sShape at e9
                              rw [if_neg (by omega), if_neg (by omega), if_neg (by omega), ← hT] at e9
                              unfold sType at e9
                              rw [if_neg (by omega), if_neg (by omega), if_neg (by omega), if_neg (by omega), hmk] at e9
                              exact jp (t + 1 + 4 + 4) _ _ _ (by omega) (by omega) (e9) (hP.sub [0, 1, 2, 3, 4, 5, 6, 7] rfl) (hD.sub [0, 1, 2, 3, 4, 5, 6, 7] (by decide) rfl) hS (lv_sub hl [3, 0] rfl)
                            · skip
                              exact absurd c105 (by omega)
                      · skip
                        refine lv_aload_n hx hb dX2_takeShape_88 rfl (lv_at hl 3 rfl) ?_
                        refine lv_bipush (v := nI 6) hx hb dX2_takeShape_89 (by decide) ?_
                        refine lv_iload_n hx hb dX2_takeShape_91 rfl (lv_at hl 2 rfl) ?_
                        refine k_ci (wr := []) (k_rv F (c_Rd_fail l D cI cB cJ cS rd jl jd a ab sh sn sv u w (t + 1 + 4) (b t) wr pl n PN pn VN vn cl cd b pf fv (by omega) (by omega) (by omega) (by omega) (by omega) (by omega) (by omega) (by omega) (by omega) hb256 6 (t + 1)) (cwV 2 hts (g_V wd_52 wd_53 wd_54 wd_55 wd_56) rfl rfl rfl (by decide +kernel) ⟨Nat.le_of_ble_eq_true rfl, Nat.le_of_ble_eq_true rfl⟩) hK hP hD hS hA hZ [0, 1, 2, 3, 4, 5, 6, 7] rfl (by decide) 0 rfl rfl rfl rfl hl.1 rfl (Nat.le_of_ble_eq_true rfl) dX2_takeShape_92 ⟨Nat.le_of_ble_eq_true rfl, Nat.le_of_ble_eq_true rfl⟩) hP hD hS hA [0, 1, 2, 3, 4, 5, 6, 7] [] rfl rfl (by decide) (by decide) (fun r u9 H locs hw hP hD hS => ?_)
                        subst hw
                        have hP : va_P D kCl [(rd, .inr (0, [.int (nI u), .ref jl, .ref jd, .int (nI w), .ref a, .ref sh, .int (nI (t + 1 + 4)), .int (nI (b t)), .int (nI 6), .int (nI (t + 1))])), (jl, .inl (cJ, 54, .inr (.inl (lF cl)))), (jd, .inl (cI, 54, .inl (iF cd))), (a, .inr (1, [.ref ab, .int (nI n)])), (ab, .inl (cB, 65536, .inl (bF b))), (sh, .inr (2, [.ref sn, .ref sv, .int (nI pn), .int (nI vn)])), (sn, .inl (cI, PN, .inl (iF pf))), (sv, .inl (cI, VN, .inl fv))] H := hP
                        have hD : va_D A [(rd, .inr (0, [.int (nI u), .ref jl, .ref jd, .int (nI w), .ref a, .ref sh, .int (nI (t + 1 + 4)), .int (nI (b t)), .int (nI 6), .int (nI (t + 1))])), (jl, .inl (cJ, 54, .inr (.inl (lF cl)))), (jd, .inl (cI, 54, .inl (iF cd))), (a, .inr (1, [.ref ab, .int (nI n)])), (ab, .inl (cB, 65536, .inl (bF b))), (sh, .inr (2, [.ref sn, .ref sv, .int (nI pn), .int (nI vn)])), (sn, .inl (cI, PN, .inl (iF pf))), (sv, .inl (cI, VN, .inl fv))] := hD
                        refine W.widen (k := 0) (n := 0) (Nat.le_of_ble_eq_true rfl) (Nat.le_of_ble_eq_true rfl) ?_
                        rw [show sShape b n PN due w t lo wr pl pn vn cl cd pf fv = (0, (w, t + 1 + 4, b t, 6, t + 1, pn, vn, cl, cd, pf, fv)) from by unfold sShape; rw [if_neg (by omega), if_neg (by omega), if_neg (by omega)]; rw [← hT]; unfold sType; rw [if_neg (by omega), if_neg (by omega), if_pos (by omega)]] at hs
                        cases hs
                        exact k_iret () hx hb hr (by first | rfl | decide | exact vp_nar_int _) hlocks hK hP hD hS (rfl) (rfl) (Nat.le_of_ble_eq_true rfl) (Nat.le_of_ble_eq_true rfl) dX2_takeShape_95
                  · skip
                    refine lv_aload_n hx hb dX2_takeShape_64 rfl (lv_at hl 3 rfl) ?_
                    refine lv_bipush (v := nI 9) hx hb dX2_takeShape_65 (by decide) ?_
                    refine lv_iload_n hx hb dX2_takeShape_67 rfl (lv_at hl 2 rfl) ?_
                    refine k_ci (wr := []) (k_rv F (c_Rd_fail l D cI cB cJ cS rd jl jd a ab sh sn sv u w (t + 1 + 4) (b t) wr pl n PN pn VN vn cl cd b pf fv (by omega) (by omega) (by omega) (by omega) (by omega) (by omega) (by omega) (by omega) (by omega) hb256 9 (t + 1)) (cwV 2 hts (g_V wd_52 wd_53 wd_54 wd_55 wd_56) rfl rfl rfl (by decide +kernel) ⟨Nat.le_of_ble_eq_true rfl, Nat.le_of_ble_eq_true rfl⟩) hK hP hD hS hA hZ [0, 1, 2, 3, 4, 5, 6, 7] rfl (by decide) 0 rfl rfl rfl rfl hl.1 rfl (Nat.le_of_ble_eq_true rfl) dX2_takeShape_68 ⟨Nat.le_of_ble_eq_true rfl, Nat.le_of_ble_eq_true rfl⟩) hP hD hS hA [0, 1, 2, 3, 4, 5, 6, 7] [] rfl rfl (by decide) (by decide) (fun r u9 H locs hw hP hD hS => ?_)
                    subst hw
                    have hP : va_P D kCl [(rd, .inr (0, [.int (nI u), .ref jl, .ref jd, .int (nI w), .ref a, .ref sh, .int (nI (t + 1 + 4)), .int (nI (b t)), .int (nI 9), .int (nI (t + 1))])), (jl, .inl (cJ, 54, .inr (.inl (lF cl)))), (jd, .inl (cI, 54, .inl (iF cd))), (a, .inr (1, [.ref ab, .int (nI n)])), (ab, .inl (cB, 65536, .inl (bF b))), (sh, .inr (2, [.ref sn, .ref sv, .int (nI pn), .int (nI vn)])), (sn, .inl (cI, PN, .inl (iF pf))), (sv, .inl (cI, VN, .inl fv))] H := hP
                    have hD : va_D A [(rd, .inr (0, [.int (nI u), .ref jl, .ref jd, .int (nI w), .ref a, .ref sh, .int (nI (t + 1 + 4)), .int (nI (b t)), .int (nI 9), .int (nI (t + 1))])), (jl, .inl (cJ, 54, .inr (.inl (lF cl)))), (jd, .inl (cI, 54, .inl (iF cd))), (a, .inr (1, [.ref ab, .int (nI n)])), (ab, .inl (cB, 65536, .inl (bF b))), (sh, .inr (2, [.ref sn, .ref sv, .int (nI pn), .int (nI vn)])), (sn, .inl (cI, PN, .inl (iF pf))), (sv, .inl (cI, VN, .inl fv))] := hD
                    refine W.widen (k := 0) (n := 0) (Nat.le_of_ble_eq_true rfl) (Nat.le_of_ble_eq_true rfl) ?_
                    rw [show sShape b n PN due w t lo wr pl pn vn cl cd pf fv = (0, (w, t + 1 + 4, b t, 9, t + 1, pn, vn, cl, cd, pf, fv)) from by unfold sShape; rw [if_neg (by omega), if_neg (by omega), if_neg (by omega)]; rw [← hT]; unfold sType; rw [if_neg (by omega), if_pos (by omega)]] at hs
                    cases hs
                    exact k_iret () hx hb hr (by first | rfl | decide | exact vp_nar_int _) hlocks hK hP hD hS (rfl) (rfl) (Nat.le_of_ble_eq_true rfl) (Nat.le_of_ble_eq_true rfl) dX2_takeShape_71
                · skip
                  refine lv_aload_n hx hb dX2_takeShape_50 rfl (lv_at hl 3 rfl) ?_
                  refine lv_iconst (v := nI 2) hx hb dX2_takeShape_51 (by decide) ?_
                  refine lv_iload_n hx hb dX2_takeShape_52 rfl (lv_at hl 2 rfl) ?_
                  refine k_ci (wr := []) (k_rv F (c_Rd_fail l D cI cB cJ cS rd jl jd a ab sh sn sv u w (t + 1 + 4) (b t) wr pl n PN pn VN vn cl cd b pf fv (by omega) (by omega) (by omega) (by omega) (by omega) (by omega) (by omega) (by omega) (by omega) hb256 2 (t + 1)) (cwV 2 hts (g_V wd_52 wd_53 wd_54 wd_55 wd_56) rfl rfl rfl (by decide +kernel) ⟨Nat.le_of_ble_eq_true rfl, Nat.le_of_ble_eq_true rfl⟩) hK hP hD hS hA hZ [0, 1, 2, 3, 4, 5, 6, 7] rfl (by decide) 0 rfl rfl rfl rfl hl.1 rfl (Nat.le_of_ble_eq_true rfl) dX2_takeShape_53 ⟨Nat.le_of_ble_eq_true rfl, Nat.le_of_ble_eq_true rfl⟩) hP hD hS hA [0, 1, 2, 3, 4, 5, 6, 7] [] rfl rfl (by decide) (by decide) (fun r u9 H locs hw hP hD hS => ?_)
                  subst hw
                  have hP : va_P D kCl [(rd, .inr (0, [.int (nI u), .ref jl, .ref jd, .int (nI w), .ref a, .ref sh, .int (nI (t + 1 + 4)), .int (nI (b t)), .int (nI 2), .int (nI (t + 1))])), (jl, .inl (cJ, 54, .inr (.inl (lF cl)))), (jd, .inl (cI, 54, .inl (iF cd))), (a, .inr (1, [.ref ab, .int (nI n)])), (ab, .inl (cB, 65536, .inl (bF b))), (sh, .inr (2, [.ref sn, .ref sv, .int (nI pn), .int (nI vn)])), (sn, .inl (cI, PN, .inl (iF pf))), (sv, .inl (cI, VN, .inl fv))] H := hP
                  have hD : va_D A [(rd, .inr (0, [.int (nI u), .ref jl, .ref jd, .int (nI w), .ref a, .ref sh, .int (nI (t + 1 + 4)), .int (nI (b t)), .int (nI 2), .int (nI (t + 1))])), (jl, .inl (cJ, 54, .inr (.inl (lF cl)))), (jd, .inl (cI, 54, .inl (iF cd))), (a, .inr (1, [.ref ab, .int (nI n)])), (ab, .inl (cB, 65536, .inl (bF b))), (sh, .inr (2, [.ref sn, .ref sv, .int (nI pn), .int (nI vn)])), (sn, .inl (cI, PN, .inl (iF pf))), (sv, .inl (cI, VN, .inl fv))] := hD
                  refine W.widen (k := 0) (n := 0) (Nat.le_of_ble_eq_true rfl) (Nat.le_of_ble_eq_true rfl) ?_
                  rw [show sShape b n PN due w t lo wr pl pn vn cl cd pf fv = (0, (w, t + 1 + 4, b t, 2, t + 1, pn, vn, cl, cd, pf, fv)) from by unfold sShape; rw [if_neg (by omega), if_neg (by omega), if_neg (by omega)]; rw [← hT]; unfold sType; rw [if_pos (by omega)]] at hs
                  cases hs
                  exact k_iret () hx hb hr (by first | rfl | decide | exact vp_nar_int _) hlocks hK hP hD hS (rfl) (rfl) (Nat.le_of_ble_eq_true rfl) (Nat.le_of_ble_eq_true rfl) dX2_takeShape_56
          · skip
            exact absurd c85 (by omega)

set_option maxRecDepth 100000 in
set_option maxHeartbeats 4000000 in
theorem c_Rd_takeRing (l : Launch) (D : va_G) (cI cB cJ cS : ClassId) (rd jl jd a ab sh sn sv u w t lo wr pl n PN pn VN vn : Nat) (cl cd b pf : Nat → Nat) (fv : Nat → Int32) (ht : t ≤ n) (hn : n ≤ 65536) (hlo2 : lo < 2) (hw : w ≤ 54) (hPN : PN ≤ 4096) (hpn : pn ≤ PN) (hVN : VN ≤ 8192) (hvn : vn ≤ VN) (h2 : 2 ≤ VN) (hb256 : ∀ j, b j < 256) (hw54 : w < 54) (k1 w1 t1 lo1 wr1 pl1 pn1 vn1 : Nat) (cl1 cd1 pf1 : Nat → Nat) (fv1 : Nat → Int32) (hs : sRing b n PN w t lo wr pl pn vn cl cd pf fv = (k1, (w1, t1, lo1, wr1, pl1, pn1, vn1, cl1, cd1, pf1, fv1)))  : kM l yX2_takeRing vsX2_takeRing ({ frames := 2, cells := 0, slots := 0, locals := 50 }) D (kT cI cB cJ cS) [.ref rd] [(rd, .inr (0, [.int (nI u), .ref jl, .ref jd, .int (nI w), .ref a, .ref sh, .int (nI t), .int (nI lo), .int (nI wr), .int (nI pl)])), (jl, .inl (cJ, 54, .inr (.inl (lF cl)))), (jd, .inl (cI, 54, .inl (iF cd))), (a, .inr (1, [.ref ab, .int (nI n)])), (ab, .inl (cB, 65536, .inl (bF b))), (sh, .inr (2, [.ref sn, .ref sv, .int (nI pn), .int (nI vn)])), (sn, .inl (cI, PN, .inl (iF pf))), (sv, .inl (cI, VN, .inl fv))] (kQi D (kT cI cB cJ cS) (fun r (ug : Unit) => r = nI k1) (fun ug => [(rd, .inr (0, [.int (nI u), .ref jl, .ref jd, .int (nI w1), .ref a, .ref sh, .int (nI t1), .int (nI lo1), .int (nI wr1), .int (nI pl1)])), (jl, .inl (cJ, 54, .inr (.inl (lF cl1)))), (jd, .inl (cI, 54, .inl (iF cd1))), (a, .inr (1, [.ref ab, .int (nI n)])), (ab, .inl (cB, 65536, .inl (bF b))), (sh, .inr (2, [.ref sn, .ref sv, .int (nI pn1), .int (nI vn1)])), (sn, .inl (cI, PN, .inl (iF pf1))), (sv, .inl (cI, VN, .inl fv1))])) := by
  refine k_ofW (by decide) rfl (Nat.le_of_ble_eq_true rfl) ?_
  intro p e s m below meth c A ls hx hb hr hts hown hlocks hmn hml hA hP hK hD hS hZ hl
  have inX2 : ∀ w ∈ wsX20, w ∈ vsX2_takeRing := fun w h => List.mem_cons_of_mem _ (iaX2 w h)
  have inX3 : ∀ w ∈ wsX30, w ∈ vsX2_takeRing := fun w h => List.mem_cons_of_mem _ (iaX3 w h)
  have inX4 : ∀ w ∈ wsX40, w ∈ vsX2_takeRing := fun w h => List.mem_cons_of_mem _ (iaX4 w h)
  have F : CallFix p m c cX2_takeRing 4 s _ vsX2_takeRing RX2 := ⟨hx, hb, hml, hown, hts⟩
  have hl : lv_has ls 4 [(0, .ref rd)] := hl
  refine lv_aload_n hx hb dX2_takeRing_0 rfl (lv_at hl 0 rfl) ?_
  refine va_get (D := D) (ci := 0) (v := .ref sh) (C := RX2) (T := TX2) (N := 10) hx hb hts inX2 hown hK hP 0 rfl rfl 5 (by decide) (hts (.fieldLink RX2 60 "ByteShapes$Reader" "into" "LByteShapes$Shape;") (List.mem_cons_of_mem _ wd_76)) (fun _ h9 => h9) rfl dX2_takeRing_1 ?_
  refine lv_iconst (v := nI 1) hx hb dX2_takeRing_4 (by decide) ?_
  rcases Nat.lt_or_ge PN (pn + 1) with h5 | h5
  · skip
    refine k_ci (wr := [(rd, .inr (0, [.int (nI u), .ref jl, .ref jd, .int (nI w), .ref a, .ref sh, .int (nI t), .int (nI lo), .int (nI wr), .int (nI pl)])), (jl, .inl (cJ, 54, .inr (.inl (lF cl)))), (jd, .inl (cI, 54, .inl (iF cd))), (a, .inr (1, [.ref ab, .int (nI n)])), (ab, .inl (cB, 65536, .inl (bF b)))]) (k_rv F (c_Shape_hasRoomForPlan0 l D cI cB cJ cS sh sn sv PN pn VN vn pf fv hPN hpn 1 (by omega) (by omega)) (cwV 1 hts (g_V wd_100 wd_101 wd_102 wd_41 wd_103) rfl rfl rfl (by decide +kernel) ⟨Nat.le_of_ble_eq_true rfl, Nat.le_of_ble_eq_true rfl⟩) hK hP hD hS hA hZ [5, 6, 7] rfl (by decide) 5 rfl rfl rfl rfl hl.1 rfl (Nat.le_of_ble_eq_true rfl) dX2_takeRing_5 ⟨Nat.le_of_ble_eq_true rfl, Nat.le_of_ble_eq_true rfl⟩) hP hD hS hA [5, 6, 7] [0, 1, 2, 3, 4] rfl rfl (by decide) (by decide) (fun r u9 H locs hw hP hD hS => ?_)
    subst hw
    have hP : va_P D kCl [(rd, .inr (0, [.int (nI u), .ref jl, .ref jd, .int (nI w), .ref a, .ref sh, .int (nI t), .int (nI lo), .int (nI wr), .int (nI pl)])), (jl, .inl (cJ, 54, .inr (.inl (lF cl)))), (jd, .inl (cI, 54, .inl (iF cd))), (a, .inr (1, [.ref ab, .int (nI n)])), (ab, .inl (cB, 65536, .inl (bF b))), (sh, .inr (2, [.ref sn, .ref sv, .int (nI pn), .int (nI vn)])), (sn, .inl (cI, PN, .inl (iF pf))), (sv, .inl (cI, VN, .inl fv))] H := hP
    have hD : va_D A [(rd, .inr (0, [.int (nI u), .ref jl, .ref jd, .int (nI w), .ref a, .ref sh, .int (nI t), .int (nI lo), .int (nI wr), .int (nI pl)])), (jl, .inl (cJ, 54, .inr (.inl (lF cl)))), (jd, .inl (cI, 54, .inl (iF cd))), (a, .inr (1, [.ref ab, .int (nI n)])), (ab, .inl (cB, 65536, .inl (bF b))), (sh, .inr (2, [.ref sn, .ref sv, .int (nI pn), .int (nI vn)])), (sn, .inl (cI, PN, .inl (iF pf))), (sv, .inl (cI, VN, .inl fv))] := hD
    refine W.widen (k := 0) (n := 0) (Nat.le_of_ble_eq_true rfl) (Nat.le_of_ble_eq_true rfl) ?_
    refine k_if_ne (tgt := 22) (by omega) hx hb dX2_takeRing_8 (by decide) (fun c106 => ?_) (fun c106 => ?_)
    · skip
      exact absurd c106 (by omega)
    · skip
      refine lv_aload_n hx hb dX2_takeRing_11 rfl (lv_at hl 0 rfl) ?_
      refine lv_bipush (v := nI 7) hx hb dX2_takeRing_12 (by decide) ?_
      refine lv_aload_n hx hb dX2_takeRing_14 rfl (lv_at hl 0 rfl) ?_
      refine va_get (D := D) (ci := 0) (v := .int (nI t)) (C := RX2) (T := TX2) (N := 10) hx hb hts inX2 hown hK hP 0 rfl rfl 6 (by decide) (hts (.fieldLink RX2 43 "ByteShapes$Reader" "at" "I") (List.mem_cons_of_mem _ wd_46)) (fun _ h9 => h9) rfl dX2_takeRing_15 ?_
      refine k_ci (wr := []) (k_rv F (c_Rd_fail l D cI cB cJ cS rd jl jd a ab sh sn sv u w t lo wr pl n PN pn VN vn cl cd b pf fv (by omega) (by omega) (by omega) (by omega) (by omega) (by omega) (by omega) (by omega) (by omega) hb256 7 t) (cwV 2 hts (g_V wd_52 wd_53 wd_54 wd_55 wd_56) rfl rfl rfl (by decide +kernel) ⟨Nat.le_of_ble_eq_true rfl, Nat.le_of_ble_eq_true rfl⟩) hK hP hD hS hA hZ [0, 1, 2, 3, 4, 5, 6, 7] rfl (by decide) 0 rfl rfl rfl rfl hl.1 rfl (Nat.le_of_ble_eq_true rfl) dX2_takeRing_18 ⟨Nat.le_of_ble_eq_true rfl, Nat.le_of_ble_eq_true rfl⟩) hP hD hS hA [0, 1, 2, 3, 4, 5, 6, 7] [] rfl rfl (by decide) (by decide) (fun r u9 H locs hw hP hD hS => ?_)
      subst hw
      have hP : va_P D kCl [(rd, .inr (0, [.int (nI u), .ref jl, .ref jd, .int (nI w), .ref a, .ref sh, .int (nI t), .int (nI lo), .int (nI 7), .int (nI t)])), (jl, .inl (cJ, 54, .inr (.inl (lF cl)))), (jd, .inl (cI, 54, .inl (iF cd))), (a, .inr (1, [.ref ab, .int (nI n)])), (ab, .inl (cB, 65536, .inl (bF b))), (sh, .inr (2, [.ref sn, .ref sv, .int (nI pn), .int (nI vn)])), (sn, .inl (cI, PN, .inl (iF pf))), (sv, .inl (cI, VN, .inl fv))] H := hP
      have hD : va_D A [(rd, .inr (0, [.int (nI u), .ref jl, .ref jd, .int (nI w), .ref a, .ref sh, .int (nI t), .int (nI lo), .int (nI 7), .int (nI t)])), (jl, .inl (cJ, 54, .inr (.inl (lF cl)))), (jd, .inl (cI, 54, .inl (iF cd))), (a, .inr (1, [.ref ab, .int (nI n)])), (ab, .inl (cB, 65536, .inl (bF b))), (sh, .inr (2, [.ref sn, .ref sv, .int (nI pn), .int (nI vn)])), (sn, .inl (cI, PN, .inl (iF pf))), (sv, .inl (cI, VN, .inl fv))] := hD
      refine W.widen (k := 0) (n := 0) (Nat.le_of_ble_eq_true rfl) (Nat.le_of_ble_eq_true rfl) ?_
      rw [show sRing b n PN w t lo wr pl pn vn cl cd pf fv = (0, (w, t, lo, 7, t, pn, vn, cl, cd, pf, fv)) from by unfold sRing; rw [if_pos (by omega)]] at hs
      cases hs
      exact k_iret () hx hb hr (by first | rfl | decide | exact vp_nar_int _) hlocks hK hP hD hS (rfl) (rfl) (Nat.le_of_ble_eq_true rfl) (Nat.le_of_ble_eq_true rfl) dX2_takeRing_21
  · skip
    refine k_ci (wr := [(rd, .inr (0, [.int (nI u), .ref jl, .ref jd, .int (nI w), .ref a, .ref sh, .int (nI t), .int (nI lo), .int (nI wr), .int (nI pl)])), (jl, .inl (cJ, 54, .inr (.inl (lF cl)))), (jd, .inl (cI, 54, .inl (iF cd))), (a, .inr (1, [.ref ab, .int (nI n)])), (ab, .inl (cB, 65536, .inl (bF b)))]) (k_rv F (c_Shape_hasRoomForPlan1 l D cI cB cJ cS sh sn sv PN pn VN vn pf fv hPN hpn 1 (by omega) (by omega)) (cwV 1 hts (g_V wd_100 wd_101 wd_102 wd_41 wd_103) rfl rfl rfl (by decide +kernel) ⟨Nat.le_of_ble_eq_true rfl, Nat.le_of_ble_eq_true rfl⟩) hK hP hD hS hA hZ [5, 6, 7] rfl (by decide) 5 rfl rfl rfl rfl hl.1 rfl (Nat.le_of_ble_eq_true rfl) dX2_takeRing_5 ⟨Nat.le_of_ble_eq_true rfl, Nat.le_of_ble_eq_true rfl⟩) hP hD hS hA [5, 6, 7] [0, 1, 2, 3, 4] rfl rfl (by decide) (by decide) (fun r u9 H locs hw hP hD hS => ?_)
    subst hw
    have hP : va_P D kCl [(rd, .inr (0, [.int (nI u), .ref jl, .ref jd, .int (nI w), .ref a, .ref sh, .int (nI t), .int (nI lo), .int (nI wr), .int (nI pl)])), (jl, .inl (cJ, 54, .inr (.inl (lF cl)))), (jd, .inl (cI, 54, .inl (iF cd))), (a, .inr (1, [.ref ab, .int (nI n)])), (ab, .inl (cB, 65536, .inl (bF b))), (sh, .inr (2, [.ref sn, .ref sv, .int (nI pn), .int (nI vn)])), (sn, .inl (cI, PN, .inl (iF pf))), (sv, .inl (cI, VN, .inl fv))] H := hP
    have hD : va_D A [(rd, .inr (0, [.int (nI u), .ref jl, .ref jd, .int (nI w), .ref a, .ref sh, .int (nI t), .int (nI lo), .int (nI wr), .int (nI pl)])), (jl, .inl (cJ, 54, .inr (.inl (lF cl)))), (jd, .inl (cI, 54, .inl (iF cd))), (a, .inr (1, [.ref ab, .int (nI n)])), (ab, .inl (cB, 65536, .inl (bF b))), (sh, .inr (2, [.ref sn, .ref sv, .int (nI pn), .int (nI vn)])), (sn, .inl (cI, PN, .inl (iF pf))), (sv, .inl (cI, VN, .inl fv))] := hD
    refine W.widen (k := 0) (n := 0) (Nat.le_of_ble_eq_true rfl) (Nat.le_of_ble_eq_true rfl) ?_
    refine k_if_ne (tgt := 22) (by omega) hx hb dX2_takeRing_8 (by decide) (fun c107 => ?_) (fun c107 => ?_)
    · skip
      refine lv_aload_n hx hb dX2_takeRing_22 rfl (lv_at hl 0 rfl) ?_
      refine lv_iconst (v := nI 4) hx hb dX2_takeRing_23 (by decide) ?_
      rcases Nat.lt_or_ge n (t + 4) with h4 | h4
      · skip
        refine k_ci (wr := []) (k_rv F (c_Rd_isThere0 l D cI cB cJ cS rd jl jd a ab sh sn sv u w t lo wr pl n PN pn VN vn cl cd b pf fv (by omega) (by omega) (by omega) (by omega) (by omega) (by omega) (by omega) (by omega) (by omega) hb256 4 (by omega) (by omega)) (cwV 1 hts (g_V wd_65 wd_66 wd_67 wd_55 wd_68) rfl rfl rfl (by decide +kernel) ⟨Nat.le_of_ble_eq_true rfl, Nat.le_of_ble_eq_true rfl⟩) hK hP hD hS hA hZ [0, 1, 2, 3, 4, 5, 6, 7] rfl (by decide) 0 rfl rfl rfl rfl hl.1 rfl (Nat.le_of_ble_eq_true rfl) dX2_takeRing_24 ⟨Nat.le_of_ble_eq_true rfl, Nat.le_of_ble_eq_true rfl⟩) hP hD hS hA [0, 1, 2, 3, 4, 5, 6, 7] [] rfl rfl (by decide) (by decide) (fun r u9 H locs hw hP hD hS => ?_)
        subst hw
        have hP : va_P D kCl [(rd, .inr (0, [.int (nI u), .ref jl, .ref jd, .int (nI w), .ref a, .ref sh, .int (nI t), .int (nI lo), .int (nI 3), .int (nI t)])), (jl, .inl (cJ, 54, .inr (.inl (lF cl)))), (jd, .inl (cI, 54, .inl (iF cd))), (a, .inr (1, [.ref ab, .int (nI n)])), (ab, .inl (cB, 65536, .inl (bF b))), (sh, .inr (2, [.ref sn, .ref sv, .int (nI pn), .int (nI vn)])), (sn, .inl (cI, PN, .inl (iF pf))), (sv, .inl (cI, VN, .inl fv))] H := hP
        have hD : va_D A [(rd, .inr (0, [.int (nI u), .ref jl, .ref jd, .int (nI w), .ref a, .ref sh, .int (nI t), .int (nI lo), .int (nI 3), .int (nI t)])), (jl, .inl (cJ, 54, .inr (.inl (lF cl)))), (jd, .inl (cI, 54, .inl (iF cd))), (a, .inr (1, [.ref ab, .int (nI n)])), (ab, .inl (cB, 65536, .inl (bF b))), (sh, .inr (2, [.ref sn, .ref sv, .int (nI pn), .int (nI vn)])), (sn, .inl (cI, PN, .inl (iF pf))), (sv, .inl (cI, VN, .inl fv))] := hD
        refine W.widen (k := 0) (n := 0) (Nat.le_of_ble_eq_true rfl) (Nat.le_of_ble_eq_true rfl) ?_
        refine k_if_ne (tgt := 32) (by omega) hx hb dX2_takeRing_27 (by decide) (fun c108 => ?_) (fun c108 => ?_)
        · skip
          exact absurd c108 (by omega)
        · skip
          refine lv_iconst (v := nI 0) hx hb dX2_takeRing_30 (by decide) ?_
          rw [show sRing b n PN w t lo wr pl pn vn cl cd pf fv = (0, (w, t, lo, 3, t, pn, vn, cl, cd, pf, fv)) from by unfold sRing; rw [if_neg (by omega), if_pos (by omega)]] at hs
          cases hs
          exact k_iret () hx hb hr (by first | rfl | decide | exact vp_nar_int _) hlocks hK hP hD hS (rfl) (rfl) (Nat.le_of_ble_eq_true rfl) (Nat.le_of_ble_eq_true rfl) dX2_takeRing_31
      · skip
        refine k_ci (wr := []) (k_rv F (c_Rd_isThere1 l D cI cB cJ cS rd jl jd a ab sh sn sv u w t lo wr pl n PN pn VN vn cl cd b pf fv (by omega) (by omega) (by omega) (by omega) (by omega) (by omega) (by omega) (by omega) (by omega) hb256 4 (by omega) (by omega)) (cwV 1 hts (g_V wd_65 wd_66 wd_67 wd_55 wd_68) rfl rfl rfl (by decide +kernel) ⟨Nat.le_of_ble_eq_true rfl, Nat.le_of_ble_eq_true rfl⟩) hK hP hD hS hA hZ [0, 1, 2, 3, 4, 5, 6, 7] rfl (by decide) 0 rfl rfl rfl rfl hl.1 rfl (Nat.le_of_ble_eq_true rfl) dX2_takeRing_24 ⟨Nat.le_of_ble_eq_true rfl, Nat.le_of_ble_eq_true rfl⟩) hP hD hS hA [0, 1, 2, 3, 4, 5, 6, 7] [] rfl rfl (by decide) (by decide) (fun r u9 H locs hw hP hD hS => ?_)
        subst hw
        have hP : va_P D kCl [(rd, .inr (0, [.int (nI u), .ref jl, .ref jd, .int (nI w), .ref a, .ref sh, .int (nI t), .int (nI lo), .int (nI wr), .int (nI pl)])), (jl, .inl (cJ, 54, .inr (.inl (lF cl)))), (jd, .inl (cI, 54, .inl (iF cd))), (a, .inr (1, [.ref ab, .int (nI n)])), (ab, .inl (cB, 65536, .inl (bF b))), (sh, .inr (2, [.ref sn, .ref sv, .int (nI pn), .int (nI vn)])), (sn, .inl (cI, PN, .inl (iF pf))), (sv, .inl (cI, VN, .inl fv))] H := hP
        have hD : va_D A [(rd, .inr (0, [.int (nI u), .ref jl, .ref jd, .int (nI w), .ref a, .ref sh, .int (nI t), .int (nI lo), .int (nI wr), .int (nI pl)])), (jl, .inl (cJ, 54, .inr (.inl (lF cl)))), (jd, .inl (cI, 54, .inl (iF cd))), (a, .inr (1, [.ref ab, .int (nI n)])), (ab, .inl (cB, 65536, .inl (bF b))), (sh, .inr (2, [.ref sn, .ref sv, .int (nI pn), .int (nI vn)])), (sn, .inl (cI, PN, .inl (iF pf))), (sv, .inl (cI, VN, .inl fv))] := hD
        refine W.widen (k := 0) (n := 0) (Nat.le_of_ble_eq_true rfl) (Nat.le_of_ble_eq_true rfl) ?_
        refine k_if_ne (tgt := 32) (by omega) hx hb dX2_takeRing_27 (by decide) (fun c109 => ?_) (fun c109 => ?_)
        · skip
          refine lv_aload_n hx hb dX2_takeRing_32 rfl (lv_at hl 0 rfl) ?_
          refine va_get (D := D) (ci := 0) (v := .int (nI t)) (C := RX2) (T := TX2) (N := 10) hx hb hts inX2 hown hK hP 0 rfl rfl 6 (by decide) (hts (.fieldLink RX2 43 "ByteShapes$Reader" "at" "I") (List.mem_cons_of_mem _ wd_46)) (fun _ h9 => h9) rfl dX2_takeRing_33 ?_
          refine lv_istore_n (lv' := [(1, .int (nI t)), (0, .ref rd)]) hx hb dX2_takeRing_36 rfl hl (by decide) rfl (fun ls hl => ?_)
          refine lv_aload_n hx hb dX2_takeRing_37 rfl (lv_at hl 1 rfl) ?_
          refine lv_iconst (v := nI 4) hx hb dX2_takeRing_38 (by decide) ?_
          refine k_cl (wr := []) (k_rv F (c_Rd_takeNumber l D cI cB cJ cS rd jl jd a ab sh sn sv u w t lo wr pl n PN pn VN vn cl cd b pf fv (by omega) (by omega) (by omega) (by omega) (by omega) (by omega) (by omega) (by omega) (by omega) hb256 4 (by omega) h4) (cwV 1 hts (g_V wd_89 wd_90 wd_91 wd_55 wd_92) rfl rfl rfl (by decide +kernel) ⟨Nat.le_of_ble_eq_true rfl, Nat.le_of_ble_eq_true rfl⟩) hK hP hD hS hA hZ [0, 1, 2, 3, 4, 5, 6, 7] rfl (by decide) 0 rfl rfl rfl rfl hl.1 rfl (Nat.le_of_ble_eq_true rfl) dX2_takeRing_39 ⟨Nat.le_of_ble_eq_true rfl, Nat.le_of_ble_eq_true rfl⟩) hP hD hS hA [0, 1, 2, 3, 4, 5, 6, 7] [] rfl rfl (by decide) (by decide) (fun r u9 H locs hw hP hD hS => ?_)
          subst hw
          have hP : va_P D kCl [(rd, .inr (0, [.int (nI u), .ref jl, .ref jd, .int (nI w), .ref a, .ref sh, .int (nI (t + 4)), .int (nI lo), .int (nI wr), .int (nI pl)])), (jl, .inl (cJ, 54, .inr (.inl (lF cl)))), (jd, .inl (cI, 54, .inl (iF cd))), (a, .inr (1, [.ref ab, .int (nI n)])), (ab, .inl (cB, 65536, .inl (bF b))), (sh, .inr (2, [.ref sn, .ref sv, .int (nI pn), .int (nI vn)])), (sn, .inl (cI, PN, .inl (iF pf))), (sv, .inl (cI, VN, .inl fv))] H := hP
          have hD : va_D A [(rd, .inr (0, [.int (nI u), .ref jl, .ref jd, .int (nI w), .ref a, .ref sh, .int (nI (t + 4)), .int (nI lo), .int (nI wr), .int (nI pl)])), (jl, .inl (cJ, 54, .inr (.inl (lF cl)))), (jd, .inl (cI, 54, .inl (iF cd))), (a, .inr (1, [.ref ab, .int (nI n)])), (ab, .inl (cB, 65536, .inl (bF b))), (sh, .inr (2, [.ref sn, .ref sv, .int (nI pn), .int (nI vn)])), (sn, .inl (cI, PN, .inl (iF pf))), (sv, .inl (cI, VN, .inl fv))] := hD
          refine W.widen (k := 0) (n := 0) (Nat.le_of_ble_eq_true rfl) (Nat.le_of_ble_eq_true rfl) ?_
          refine lv_lstore_n (lv' := [(2, .long (lN (pN b t 4 lo))), (1, .int (nI t)), (0, .ref rd)]) hx hb dX2_takeRing_42 rfl hl (by decide) rfl (fun ls hl => ?_)
          refine lv_lload_n hx hb dX2_takeRing_43 rfl (lv_at hl 0 rfl) ?_
          refine lv_lconst (v := lN 0) hx hb dX2_takeRing_44 (by decide) ?_
          refine W.lcmp hx hb dX2_takeRing_45 ?_
          have h432 := pN_lt4 hb256 t lo
          refine k_lcmpN_ne (tgt := 56) (by omega) (by decide) hx hb dX2_takeRing_46 (by decide) (fun hz => ?_) (fun hz => ?_)
          · skip
            refine lv_aload_n hx hb dX2_takeRing_56 rfl (lv_at hl 2 rfl) ?_
            refine va_get (D := D) (ci := 0) (v := .ref sh) (C := RX2) (T := TX2) (N := 10) hx hb hts inX2 hown hK hP 0 rfl rfl 5 (by decide) (hts (.fieldLink RX2 60 "ByteShapes$Reader" "into" "LByteShapes$Shape;") (List.mem_cons_of_mem _ wd_76)) (fun _ h9 => h9) rfl dX2_takeRing_57 ?_
            refine lv_lload_n hx hb dX2_takeRing_60 rfl (lv_at hl 0 rfl) ?_
            refine lv_l2i (v := nI (pN b t 4 lo)) hx hb dX2_takeRing_61 (lN_i _) ?_
            refine k_cv (wr := [(rd, .inr (0, [.int (nI u), .ref jl, .ref jd, .int (nI w), .ref a, .ref sh, .int (nI (t + 4)), .int (nI lo), .int (nI wr), .int (nI pl)])), (jl, .inl (cJ, 54, .inr (.inl (lF cl)))), (jd, .inl (cI, 54, .inl (iF cd))), (a, .inr (1, [.ref ab, .int (nI n)])), (ab, .inl (cB, 65536, .inl (bF b)))]) (k_rv F (c_Shape_addNumber l D cI cB cJ cS sh sn sv PN pn VN vn pf fv hPN hpn (pN b t 4 lo) (by omega)) (cwV 1 hts (g_V wd_81 wd_82 wd_83 wd_41 wd_84) rfl rfl rfl (by decide +kernel) ⟨Nat.le_of_ble_eq_true rfl, Nat.le_of_ble_eq_true rfl⟩) hK hP hD hS hA hZ [5, 6, 7] rfl (by decide) 5 rfl rfl rfl rfl hl.1 rfl (Nat.le_of_ble_eq_true rfl) dX2_takeRing_62 ⟨Nat.le_of_ble_eq_true rfl, Nat.le_of_ble_eq_true rfl⟩) hP hD hS hA [5, 6, 7] [0, 1, 2, 3, 4] rfl rfl (by decide) (by decide) (fun u9 H locs hw hP hD hS => ?_)
            have hP : va_P D kCl [(rd, .inr (0, [.int (nI u), .ref jl, .ref jd, .int (nI w), .ref a, .ref sh, .int (nI (t + 4)), .int (nI lo), .int (nI wr), .int (nI pl)])), (jl, .inl (cJ, 54, .inr (.inl (lF cl)))), (jd, .inl (cI, 54, .inl (iF cd))), (a, .inr (1, [.ref ab, .int (nI n)])), (ab, .inl (cB, 65536, .inl (bF b))), (sh, .inr (2, [.ref sn, .ref sv, .int (nI (pn + 1)), .int (nI vn)])), (sn, .inl (cI, PN, .inl (iF (va_up pf pn (pN b t 4 lo))))), (sv, .inl (cI, VN, .inl fv))] H := hP
            have hD : va_D A [(rd, .inr (0, [.int (nI u), .ref jl, .ref jd, .int (nI w), .ref a, .ref sh, .int (nI (t + 4)), .int (nI lo), .int (nI wr), .int (nI pl)])), (jl, .inl (cJ, 54, .inr (.inl (lF cl)))), (jd, .inl (cI, 54, .inl (iF cd))), (a, .inr (1, [.ref ab, .int (nI n)])), (ab, .inl (cB, 65536, .inl (bF b))), (sh, .inr (2, [.ref sn, .ref sv, .int (nI (pn + 1)), .int (nI vn)])), (sn, .inl (cI, PN, .inl (iF (va_up pf pn (pN b t 4 lo))))), (sv, .inl (cI, VN, .inl fv))] := hD
            refine W.widen (k := 0) (n := 0) (Nat.le_of_ble_eq_true rfl) (Nat.le_of_ble_eq_true rfl) ?_
            refine lv_aload_n hx hb dX2_takeRing_65 rfl (lv_at hl 2 rfl) ?_
            refine lv_lload_n hx hb dX2_takeRing_66 rfl (lv_at hl 0 rfl) ?_
            refine lv_bipush (v := nI 9) hx hb dX2_takeRing_67 (by decide) ?_
            refine k_cv (wr := []) (k_rv F (c_Rd_waitFor l D cI cB cJ cS rd jl jd a ab sh sn sv u w (t + 4) lo wr pl n PN (pn + 1) VN vn cl cd b (va_up pf pn (pN b t 4 lo)) fv (by omega) (by omega) (by omega) (by omega) (by omega) (by omega) (by omega) (by omega) (by omega) hb256 (pN b t 4 lo) 9 hw54) (cwV 2 hts (g_V wd_85 wd_86 wd_87 wd_55 wd_88) rfl rfl rfl (by decide +kernel) ⟨Nat.le_of_ble_eq_true rfl, Nat.le_of_ble_eq_true rfl⟩) hK hP hD hS hA hZ [0, 1, 2, 3, 4, 5, 6, 7] rfl (by decide) 0 rfl rfl rfl rfl hl.1 rfl (Nat.le_of_ble_eq_true rfl) dX2_takeRing_69 ⟨Nat.le_of_ble_eq_true rfl, Nat.le_of_ble_eq_true rfl⟩) hP hD hS hA [0, 1, 2, 3, 4, 5, 6, 7] [] rfl rfl (by decide) (by decide) (fun u9 H locs hw hP hD hS => ?_)
            have hP : va_P D kCl [(rd, .inr (0, [.int (nI u), .ref jl, .ref jd, .int (nI (w + 1)), .ref a, .ref sh, .int (nI (t + 4)), .int (nI lo), .int (nI wr), .int (nI pl)])), (jl, .inl (cJ, 54, .inr (.inl (lF (va_up cl w (pN b t 4 lo)))))), (jd, .inl (cI, 54, .inl (iF (va_up cd w 9)))), (a, .inr (1, [.ref ab, .int (nI n)])), (ab, .inl (cB, 65536, .inl (bF b))), (sh, .inr (2, [.ref sn, .ref sv, .int (nI (pn + 1)), .int (nI vn)])), (sn, .inl (cI, PN, .inl (iF (va_up pf pn (pN b t 4 lo))))), (sv, .inl (cI, VN, .inl fv))] H := hP
            have hD : va_D A [(rd, .inr (0, [.int (nI u), .ref jl, .ref jd, .int (nI (w + 1)), .ref a, .ref sh, .int (nI (t + 4)), .int (nI lo), .int (nI wr), .int (nI pl)])), (jl, .inl (cJ, 54, .inr (.inl (lF (va_up cl w (pN b t 4 lo)))))), (jd, .inl (cI, 54, .inl (iF (va_up cd w 9)))), (a, .inr (1, [.ref ab, .int (nI n)])), (ab, .inl (cB, 65536, .inl (bF b))), (sh, .inr (2, [.ref sn, .ref sv, .int (nI (pn + 1)), .int (nI vn)])), (sn, .inl (cI, PN, .inl (iF (va_up pf pn (pN b t 4 lo))))), (sv, .inl (cI, VN, .inl fv))] := hD
            refine W.widen (k := 0) (n := 0) (Nat.le_of_ble_eq_true rfl) (Nat.le_of_ble_eq_true rfl) ?_
            refine lv_iconst (v := nI 1) hx hb dX2_takeRing_72 (by decide) ?_
            rw [show sRing b n PN w t lo wr pl pn vn cl cd pf fv = (1, (w + 1, t + 4, lo, wr, pl, pn + 1, vn, (va_up cl w (pN b t 4 lo)), (va_up cd w 9), (va_up pf pn (pN b t 4 lo)), fv)) from by unfold sRing; rw [if_neg (by omega), if_neg (by omega), if_neg (by omega)]] at hs
            cases hs
            exact k_iret () hx hb hr (by first | rfl | decide | exact vp_nar_int _) hlocks hK hP hD hS (rfl) (rfl) (Nat.le_of_ble_eq_true rfl) (Nat.le_of_ble_eq_true rfl) dX2_takeRing_73
          · skip
            refine lv_aload_n hx hb dX2_takeRing_49 rfl (lv_at hl 2 rfl) ?_
            refine lv_iconst (v := nI 4) hx hb dX2_takeRing_50 (by decide) ?_
            refine lv_iload_n hx hb dX2_takeRing_51 rfl (lv_at hl 1 rfl) ?_
            refine k_ci (wr := []) (k_rv F (c_Rd_fail l D cI cB cJ cS rd jl jd a ab sh sn sv u w (t + 4) lo wr pl n PN pn VN vn cl cd b pf fv (by omega) (by omega) (by omega) (by omega) (by omega) (by omega) (by omega) (by omega) (by omega) hb256 4 t) (cwV 2 hts (g_V wd_52 wd_53 wd_54 wd_55 wd_56) rfl rfl rfl (by decide +kernel) ⟨Nat.le_of_ble_eq_true rfl, Nat.le_of_ble_eq_true rfl⟩) hK hP hD hS hA hZ [0, 1, 2, 3, 4, 5, 6, 7] rfl (by decide) 0 rfl rfl rfl rfl hl.1 rfl (Nat.le_of_ble_eq_true rfl) dX2_takeRing_52 ⟨Nat.le_of_ble_eq_true rfl, Nat.le_of_ble_eq_true rfl⟩) hP hD hS hA [0, 1, 2, 3, 4, 5, 6, 7] [] rfl rfl (by decide) (by decide) (fun r u9 H locs hw hP hD hS => ?_)
            subst hw
            have hP : va_P D kCl [(rd, .inr (0, [.int (nI u), .ref jl, .ref jd, .int (nI w), .ref a, .ref sh, .int (nI (t + 4)), .int (nI lo), .int (nI 4), .int (nI t)])), (jl, .inl (cJ, 54, .inr (.inl (lF cl)))), (jd, .inl (cI, 54, .inl (iF cd))), (a, .inr (1, [.ref ab, .int (nI n)])), (ab, .inl (cB, 65536, .inl (bF b))), (sh, .inr (2, [.ref sn, .ref sv, .int (nI pn), .int (nI vn)])), (sn, .inl (cI, PN, .inl (iF pf))), (sv, .inl (cI, VN, .inl fv))] H := hP
            have hD : va_D A [(rd, .inr (0, [.int (nI u), .ref jl, .ref jd, .int (nI w), .ref a, .ref sh, .int (nI (t + 4)), .int (nI lo), .int (nI 4), .int (nI t)])), (jl, .inl (cJ, 54, .inr (.inl (lF cl)))), (jd, .inl (cI, 54, .inl (iF cd))), (a, .inr (1, [.ref ab, .int (nI n)])), (ab, .inl (cB, 65536, .inl (bF b))), (sh, .inr (2, [.ref sn, .ref sv, .int (nI pn), .int (nI vn)])), (sn, .inl (cI, PN, .inl (iF pf))), (sv, .inl (cI, VN, .inl fv))] := hD
            refine W.widen (k := 0) (n := 0) (Nat.le_of_ble_eq_true rfl) (Nat.le_of_ble_eq_true rfl) ?_
            rw [show sRing b n PN w t lo wr pl pn vn cl cd pf fv = (0, (w, t + 4, lo, 4, t, pn, vn, cl, cd, pf, fv)) from by unfold sRing; rw [if_neg (by omega), if_neg (by omega), if_pos (by omega)]] at hs
            cases hs
            exact k_iret () hx hb hr (by first | rfl | decide | exact vp_nar_int _) hlocks hK hP hD hS (rfl) (rfl) (Nat.le_of_ble_eq_true rfl) (Nat.le_of_ble_eq_true rfl) dX2_takeRing_55
        · skip
          exact absurd c109 (by omega)
    · skip
      exact absurd c107 (by omega)

set_option maxRecDepth 100000 in
set_option maxHeartbeats 4000000 in
theorem c_Rd_takeValue (l : Launch) (D : va_G) (cI cB cJ cS : ClassId) (rd jl jd a ab sh sn sv u w t lo wr pl n PN pn VN vn : Nat) (cl cd b pf : Nat → Nat) (fv : Nat → Int32) (ht : t ≤ n) (hn : n ≤ 65536) (hlo2 : lo < 2) (hw : w ≤ 54) (hPN : PN ≤ 4096) (hpn : pn ≤ PN) (hVN : VN ≤ 8192) (hvn : vn ≤ VN) (h2 : 2 ≤ VN) (hb256 : ∀ j, b j < 256) (hu1 : 1 ≤ u) (hu2 : u ≤ 1000) (hlt9 : vn < VN) (k1 w1 t1 lo1 wr1 pl1 pn1 vn1 : Nat) (cl1 cd1 pf1 : Nat → Nat) (fv1 : Nat → Int32) (hs : sVal b n u w t lo wr pl pn vn cl cd pf fv = (k1, (w1, t1, lo1, wr1, pl1, pn1, vn1, cl1, cd1, pf1, fv1)))  : kM l yX2_takeValue vsX2_takeValue ({ frames := 2, cells := 0, slots := 0, locals := 54 }) D (kT cI cB cJ cS) [.ref rd] [(rd, .inr (0, [.int (nI u), .ref jl, .ref jd, .int (nI w), .ref a, .ref sh, .int (nI t), .int (nI lo), .int (nI wr), .int (nI pl)])), (jl, .inl (cJ, 54, .inr (.inl (lF cl)))), (jd, .inl (cI, 54, .inl (iF cd))), (a, .inr (1, [.ref ab, .int (nI n)])), (ab, .inl (cB, 65536, .inl (bF b))), (sh, .inr (2, [.ref sn, .ref sv, .int (nI pn), .int (nI vn)])), (sn, .inl (cI, PN, .inl (iF pf))), (sv, .inl (cI, VN, .inl fv))] (kQi D (kT cI cB cJ cS) (fun r (ug : Unit) => r = nI k1) (fun ug => [(rd, .inr (0, [.int (nI u), .ref jl, .ref jd, .int (nI w1), .ref a, .ref sh, .int (nI t1), .int (nI lo1), .int (nI wr1), .int (nI pl1)])), (jl, .inl (cJ, 54, .inr (.inl (lF cl1)))), (jd, .inl (cI, 54, .inl (iF cd1))), (a, .inr (1, [.ref ab, .int (nI n)])), (ab, .inl (cB, 65536, .inl (bF b))), (sh, .inr (2, [.ref sn, .ref sv, .int (nI pn1), .int (nI vn1)])), (sn, .inl (cI, PN, .inl (iF pf1))), (sv, .inl (cI, VN, .inl fv1))])) := by
  refine k_ofW (by decide) rfl (Nat.le_of_ble_eq_true rfl) ?_
  intro p e s m below meth c A ls hx hb hr hts hown hlocks hmn hml hA hP hK hD hS hZ hl
  have inX2 : ∀ w ∈ wsX20, w ∈ vsX2_takeValue := fun w h => List.mem_cons_of_mem _ (iaX2 w h)
  have inX3 : ∀ w ∈ wsX30, w ∈ vsX2_takeValue := fun w h => List.mem_cons_of_mem _ (iaX3 w h)
  have inX4 : ∀ w ∈ wsX40, w ∈ vsX2_takeValue := fun w h => List.mem_cons_of_mem _ (iaX4 w h)
  have F : CallFix p m c cX2_takeValue 6 s _ vsX2_takeValue RX2 := ⟨hx, hb, hml, hown, hts⟩
  have hl : lv_has ls 6 [(0, .ref rd)] := hl
  refine lv_aload_n hx hb dX2_takeValue_0 rfl (lv_at hl 0 rfl) ?_
  refine lv_bipush (v := nI 8) hx hb dX2_takeValue_1 (by decide) ?_
  rcases Nat.lt_or_ge n (t + 8) with h8 | h8
  · skip
    refine k_ci (wr := []) (k_rv F (c_Rd_isThere0 l D cI cB cJ cS rd jl jd a ab sh sn sv u w t lo wr pl n PN pn VN vn cl cd b pf fv (by omega) (by omega) (by omega) (by omega) (by omega) (by omega) (by omega) (by omega) (by omega) hb256 8 (by omega) (by omega)) (cwV 1 hts (g_V wd_65 wd_66 wd_67 wd_55 wd_68) rfl rfl rfl (by decide +kernel) ⟨Nat.le_of_ble_eq_true rfl, Nat.le_of_ble_eq_true rfl⟩) hK hP hD hS hA hZ [0, 1, 2, 3, 4, 5, 6, 7] rfl (by decide) 0 rfl rfl rfl rfl hl.1 rfl (Nat.le_of_ble_eq_true rfl) dX2_takeValue_3 ⟨Nat.le_of_ble_eq_true rfl, Nat.le_of_ble_eq_true rfl⟩) hP hD hS hA [0, 1, 2, 3, 4, 5, 6, 7] [] rfl rfl (by decide) (by decide) (fun r u9 H locs hw hP hD hS => ?_)
    subst hw
    have hP : va_P D kCl [(rd, .inr (0, [.int (nI u), .ref jl, .ref jd, .int (nI w), .ref a, .ref sh, .int (nI t), .int (nI lo), .int (nI 3), .int (nI t)])), (jl, .inl (cJ, 54, .inr (.inl (lF cl)))), (jd, .inl (cI, 54, .inl (iF cd))), (a, .inr (1, [.ref ab, .int (nI n)])), (ab, .inl (cB, 65536, .inl (bF b))), (sh, .inr (2, [.ref sn, .ref sv, .int (nI pn), .int (nI vn)])), (sn, .inl (cI, PN, .inl (iF pf))), (sv, .inl (cI, VN, .inl fv))] H := hP
    have hD : va_D A [(rd, .inr (0, [.int (nI u), .ref jl, .ref jd, .int (nI w), .ref a, .ref sh, .int (nI t), .int (nI lo), .int (nI 3), .int (nI t)])), (jl, .inl (cJ, 54, .inr (.inl (lF cl)))), (jd, .inl (cI, 54, .inl (iF cd))), (a, .inr (1, [.ref ab, .int (nI n)])), (ab, .inl (cB, 65536, .inl (bF b))), (sh, .inr (2, [.ref sn, .ref sv, .int (nI pn), .int (nI vn)])), (sn, .inl (cI, PN, .inl (iF pf))), (sv, .inl (cI, VN, .inl fv))] := hD
    refine W.widen (k := 0) (n := 0) (Nat.le_of_ble_eq_true rfl) (Nat.le_of_ble_eq_true rfl) ?_
    refine k_if_ne (tgt := 11) (by omega) hx hb dX2_takeValue_6 (by decide) (fun c110 => ?_) (fun c110 => ?_)
    · skip
      exact absurd c110 (by omega)
    · skip
      refine lv_iconst (v := nI 0) hx hb dX2_takeValue_9 (by decide) ?_
      rw [show sVal b n u w t lo wr pl pn vn cl cd pf fv = (0, (w, t, lo, 3, t, pn, vn, cl, cd, pf, fv)) from by unfold sVal; rw [if_pos (by omega)]] at hs
      cases hs
      exact k_iret () hx hb hr (by first | rfl | decide | exact vp_nar_int _) hlocks hK hP hD hS (rfl) (rfl) (Nat.le_of_ble_eq_true rfl) (Nat.le_of_ble_eq_true rfl) dX2_takeValue_10
  · skip
    refine k_ci (wr := []) (k_rv F (c_Rd_isThere1 l D cI cB cJ cS rd jl jd a ab sh sn sv u w t lo wr pl n PN pn VN vn cl cd b pf fv (by omega) (by omega) (by omega) (by omega) (by omega) (by omega) (by omega) (by omega) (by omega) hb256 8 (by omega) (by omega)) (cwV 1 hts (g_V wd_65 wd_66 wd_67 wd_55 wd_68) rfl rfl rfl (by decide +kernel) ⟨Nat.le_of_ble_eq_true rfl, Nat.le_of_ble_eq_true rfl⟩) hK hP hD hS hA hZ [0, 1, 2, 3, 4, 5, 6, 7] rfl (by decide) 0 rfl rfl rfl rfl hl.1 rfl (Nat.le_of_ble_eq_true rfl) dX2_takeValue_3 ⟨Nat.le_of_ble_eq_true rfl, Nat.le_of_ble_eq_true rfl⟩) hP hD hS hA [0, 1, 2, 3, 4, 5, 6, 7] [] rfl rfl (by decide) (by decide) (fun r u9 H locs hw hP hD hS => ?_)
    subst hw
    have hP : va_P D kCl [(rd, .inr (0, [.int (nI u), .ref jl, .ref jd, .int (nI w), .ref a, .ref sh, .int (nI t), .int (nI lo), .int (nI wr), .int (nI pl)])), (jl, .inl (cJ, 54, .inr (.inl (lF cl)))), (jd, .inl (cI, 54, .inl (iF cd))), (a, .inr (1, [.ref ab, .int (nI n)])), (ab, .inl (cB, 65536, .inl (bF b))), (sh, .inr (2, [.ref sn, .ref sv, .int (nI pn), .int (nI vn)])), (sn, .inl (cI, PN, .inl (iF pf))), (sv, .inl (cI, VN, .inl fv))] H := hP
    have hD : va_D A [(rd, .inr (0, [.int (nI u), .ref jl, .ref jd, .int (nI w), .ref a, .ref sh, .int (nI t), .int (nI lo), .int (nI wr), .int (nI pl)])), (jl, .inl (cJ, 54, .inr (.inl (lF cl)))), (jd, .inl (cI, 54, .inl (iF cd))), (a, .inr (1, [.ref ab, .int (nI n)])), (ab, .inl (cB, 65536, .inl (bF b))), (sh, .inr (2, [.ref sn, .ref sv, .int (nI pn), .int (nI vn)])), (sn, .inl (cI, PN, .inl (iF pf))), (sv, .inl (cI, VN, .inl fv))] := hD
    refine W.widen (k := 0) (n := 0) (Nat.le_of_ble_eq_true rfl) (Nat.le_of_ble_eq_true rfl) ?_
    refine k_if_ne (tgt := 11) (by omega) hx hb dX2_takeValue_6 (by decide) (fun c111 => ?_) (fun c111 => ?_)
    · skip
      refine lv_aload_n hx hb dX2_takeValue_11 rfl (lv_at hl 0 rfl) ?_
      refine va_get (D := D) (ci := 0) (v := .int (nI t)) (C := RX2) (T := TX2) (N := 10) hx hb hts inX2 hown hK hP 0 rfl rfl 6 (by decide) (hts (.fieldLink RX2 43 "ByteShapes$Reader" "at" "I") (List.mem_cons_of_mem _ wd_46)) (fun _ h9 => h9) rfl dX2_takeValue_12 ?_
      refine lv_istore_n (lv' := [(1, .int (nI t)), (0, .ref rd)]) hx hb dX2_takeValue_15 rfl hl (by decide) rfl (fun ls hl => ?_)
      refine lv_aload_n hx hb dX2_takeValue_16 rfl (lv_at hl 1 rfl) ?_
      refine lv_bipush (v := nI 8) hx hb dX2_takeValue_17 (by decide) ?_
      refine k_cl (wr := []) (k_rv F (c_Rd_takeNumber l D cI cB cJ cS rd jl jd a ab sh sn sv u w t lo wr pl n PN pn VN vn cl cd b pf fv (by omega) (by omega) (by omega) (by omega) (by omega) (by omega) (by omega) (by omega) (by omega) hb256 8 (by omega) (by omega)) (cwV 1 hts (g_V wd_89 wd_90 wd_91 wd_55 wd_92) rfl rfl rfl (by decide +kernel) ⟨Nat.le_of_ble_eq_true rfl, Nat.le_of_ble_eq_true rfl⟩) hK hP hD hS hA hZ [0, 1, 2, 3, 4, 5, 6, 7] rfl (by decide) 0 rfl rfl rfl rfl hl.1 rfl (Nat.le_of_ble_eq_true rfl) dX2_takeValue_19 ⟨Nat.le_of_ble_eq_true rfl, Nat.le_of_ble_eq_true rfl⟩) hP hD hS hA [0, 1, 2, 3, 4, 5, 6, 7] [] rfl rfl (by decide) (by decide) (fun r u9 H locs hw hP hD hS => ?_)
      subst hw
      have hP : va_P D kCl [(rd, .inr (0, [.int (nI u), .ref jl, .ref jd, .int (nI w), .ref a, .ref sh, .int (nI (t + 8)), .int (nI lo), .int (nI wr), .int (nI pl)])), (jl, .inl (cJ, 54, .inr (.inl (lF cl)))), (jd, .inl (cI, 54, .inl (iF cd))), (a, .inr (1, [.ref ab, .int (nI n)])), (ab, .inl (cB, 65536, .inl (bF b))), (sh, .inr (2, [.ref sn, .ref sv, .int (nI pn), .int (nI vn)])), (sn, .inl (cI, PN, .inl (iF pf))), (sv, .inl (cI, VN, .inl fv))] H := hP
      have hD : va_D A [(rd, .inr (0, [.int (nI u), .ref jl, .ref jd, .int (nI w), .ref a, .ref sh, .int (nI (t + 8)), .int (nI lo), .int (nI wr), .int (nI pl)])), (jl, .inl (cJ, 54, .inr (.inl (lF cl)))), (jd, .inl (cI, 54, .inl (iF cd))), (a, .inr (1, [.ref ab, .int (nI n)])), (ab, .inl (cB, 65536, .inl (bF b))), (sh, .inr (2, [.ref sn, .ref sv, .int (nI pn), .int (nI vn)])), (sn, .inl (cI, PN, .inl (iF pf))), (sv, .inl (cI, VN, .inl fv))] := hD
      refine W.widen (k := 0) (n := 0) (Nat.le_of_ble_eq_true rfl) (Nat.le_of_ble_eq_true rfl) ?_
      refine lv_lstore_n (lv' := [(2, .long (lN (pN b t 8 lo))), (1, .int (nI t)), (0, .ref rd)]) hx hb dX2_takeValue_22 rfl hl (by decide) rfl (fun ls hl => ?_)
      refine lv_lload_n hx hb dX2_takeValue_23 rfl (lv_at hl 0 rfl) ?_
      have h864 := pN_lt hb256 t lo
      rcases Nat.lt_or_ge (pN b t 8 lo % 9223372036854775808) 9218868437227405312 with hf | hf
      · skip
        refine k_ci (wr := [(rd, .inr (0, [.int (nI u), .ref jl, .ref jd, .int (nI w), .ref a, .ref sh, .int (nI (t + 8)), .int (nI lo), .int (nI wr), .int (nI pl)])), (jl, .inl (cJ, 54, .inr (.inl (lF cl)))), (jd, .inl (cI, 54, .inl (iF cd))), (a, .inr (1, [.ref ab, .int (nI n)])), (ab, .inl (cB, 65536, .inl (bF b))), (sh, .inr (2, [.ref sn, .ref sv, .int (nI pn), .int (nI vn)])), (sn, .inl (cI, PN, .inl (iF pf))), (sv, .inl (cI, VN, .inl fv))]) (k_rs F (c_Fr_isFinite l D cI cB cJ cS (pN b t 8 lo) h864) (va_cwS 1 hts (g_S wd_133 wd_134 wd_27 wd_135) rfl rfl rfl (by decide +kernel) ⟨Nat.le_of_ble_eq_true rfl, Nat.le_of_ble_eq_true rfl⟩) hK hP hD hS hA hZ [] rfl (by decide) rfl hl.1 rfl (Nat.le_of_ble_eq_true rfl) dX2_takeValue_24 ⟨Nat.le_of_ble_eq_true rfl, Nat.le_of_ble_eq_true rfl⟩) hP hD hS hA [] [0, 1, 2, 3, 4, 5, 6, 7] rfl rfl (by decide) (by decide) (fun r u9 H locs hw hP hD hS => ?_)
        subst hw
        have hP : va_P D kCl [(rd, .inr (0, [.int (nI u), .ref jl, .ref jd, .int (nI w), .ref a, .ref sh, .int (nI (t + 8)), .int (nI lo), .int (nI wr), .int (nI pl)])), (jl, .inl (cJ, 54, .inr (.inl (lF cl)))), (jd, .inl (cI, 54, .inl (iF cd))), (a, .inr (1, [.ref ab, .int (nI n)])), (ab, .inl (cB, 65536, .inl (bF b))), (sh, .inr (2, [.ref sn, .ref sv, .int (nI pn), .int (nI vn)])), (sn, .inl (cI, PN, .inl (iF pf))), (sv, .inl (cI, VN, .inl fv))] H := hP
        have hD : va_D A [(rd, .inr (0, [.int (nI u), .ref jl, .ref jd, .int (nI w), .ref a, .ref sh, .int (nI (t + 8)), .int (nI lo), .int (nI wr), .int (nI pl)])), (jl, .inl (cJ, 54, .inr (.inl (lF cl)))), (jd, .inl (cI, 54, .inl (iF cd))), (a, .inr (1, [.ref ab, .int (nI n)])), (ab, .inl (cB, 65536, .inl (bF b))), (sh, .inr (2, [.ref sn, .ref sv, .int (nI pn), .int (nI vn)])), (sn, .inl (cI, PN, .inl (iF pf))), (sv, .inl (cI, VN, .inl fv))] := hD
        refine W.widen (k := 0) (n := 0) (Nat.le_of_ble_eq_true rfl) (Nat.le_of_ble_eq_true rfl) ?_
        refine k_i (show _ = nI 1 from by rw [if_pos hf]) ?_
        refine k_if_ne (tgt := 37) (by omega) hx hb dX2_takeValue_27 (by decide) (fun c112 => ?_) (fun c112 => ?_)
        · skip
          refine lv_lload_n hx hb dX2_takeValue_37 rfl (lv_at hl 0 rfl) ?_
          refine lv_aload_n hx hb dX2_takeValue_38 rfl (lv_at hl 2 rfl) ?_
          refine va_get (D := D) (ci := 0) (v := .int (nI u)) (C := RX2) (T := TX2) (N := 10) hx hb hts inX2 hown hK hP 0 rfl rfl 0 (by decide) (hts (.fieldLink RX2 19 "ByteShapes$Reader" "unit" "I") (List.mem_cons_of_mem _ wd_130)) (fun _ h9 => h9) rfl dX2_takeValue_39 ?_
          refine k_cl (wr := [(rd, .inr (0, [.int (nI u), .ref jl, .ref jd, .int (nI w), .ref a, .ref sh, .int (nI (t + 8)), .int (nI lo), .int (nI wr), .int (nI pl)])), (jl, .inl (cJ, 54, .inr (.inl (lF cl)))), (jd, .inl (cI, 54, .inl (iF cd))), (a, .inr (1, [.ref ab, .int (nI n)])), (ab, .inl (cB, 65536, .inl (bF b))), (sh, .inr (2, [.ref sn, .ref sv, .int (nI pn), .int (nI vn)])), (sn, .inl (cI, PN, .inl (iF pf))), (sv, .inl (cI, VN, .inl fv))]) (k_rs F (c_Fr_rounded l D cI cB cJ cS (pN b t 8 lo) u h864 hu1 hu2) (va_cwS 2 hts (g_S wd_136 wd_137 wd_27 wd_138) rfl rfl rfl (by decide +kernel) ⟨Nat.le_of_ble_eq_true rfl, Nat.le_of_ble_eq_true rfl⟩) hK hP hD hS hA hZ [] rfl (by decide) rfl hl.1 rfl (Nat.le_of_ble_eq_true rfl) dX2_takeValue_42 ⟨Nat.le_of_ble_eq_true rfl, Nat.le_of_ble_eq_true rfl⟩) hP hD hS hA [] [0, 1, 2, 3, 4, 5, 6, 7] rfl rfl (by decide) (by decide) (fun r u9 H locs hw hP hD hS => ?_)
          subst hw
          have hP : va_P D kCl [(rd, .inr (0, [.int (nI u), .ref jl, .ref jd, .int (nI w), .ref a, .ref sh, .int (nI (t + 8)), .int (nI lo), .int (nI wr), .int (nI pl)])), (jl, .inl (cJ, 54, .inr (.inl (lF cl)))), (jd, .inl (cI, 54, .inl (iF cd))), (a, .inr (1, [.ref ab, .int (nI n)])), (ab, .inl (cB, 65536, .inl (bF b))), (sh, .inr (2, [.ref sn, .ref sv, .int (nI pn), .int (nI vn)])), (sn, .inl (cI, PN, .inl (iF pf))), (sv, .inl (cI, VN, .inl fv))] H := hP
          have hD : va_D A [(rd, .inr (0, [.int (nI u), .ref jl, .ref jd, .int (nI w), .ref a, .ref sh, .int (nI (t + 8)), .int (nI lo), .int (nI wr), .int (nI pl)])), (jl, .inl (cJ, 54, .inr (.inl (lF cl)))), (jd, .inl (cI, 54, .inl (iF cd))), (a, .inr (1, [.ref ab, .int (nI n)])), (ab, .inl (cB, 65536, .inl (bF b))), (sh, .inr (2, [.ref sn, .ref sv, .int (nI pn), .int (nI vn)])), (sn, .inl (cI, PN, .inl (iF pf))), (sv, .inl (cI, VN, .inl fv))] := hD
          refine W.widen (k := 0) (n := 0) (Nat.le_of_ble_eq_true rfl) (Nat.le_of_ble_eq_true rfl) ?_
          refine lv_lstore (lv' := [(4, .long (rVal (pN b t 8 lo) u)), (2, .long (lN (pN b t 8 lo))), (1, .int (nI t)), (0, .ref rd)]) hx hb dX2_takeValue_45 hl (by decide) rfl (fun ls hl => ?_)
          refine lv_lload hx hb dX2_takeValue_47 (lv_at hl 0 rfl) ?_
          refine lv_ldc2 (v := (-1000000000)) hx hb hown (hts (.constantLong RX2 160 (-1000000000)) (List.mem_cons_of_mem _ wd_131)) dX2_takeValue_49 ?_
          refine W.lcmp hx hb dX2_takeValue_52 ?_
          refine k_lcmp_lt (tgt := 65) hx hb dX2_takeValue_53 (by decide) (fun hb1 => ?_) (fun hb1 => ?_)
          · skip
            refine lv_aload_n hx hb dX2_takeValue_65 rfl (lv_at hl 3 rfl) ?_
            refine lv_iconst (v := nI 5) hx hb dX2_takeValue_66 (by decide) ?_
            refine lv_iload_n hx hb dX2_takeValue_67 rfl (lv_at hl 2 rfl) ?_
            refine k_ci (wr := []) (k_rv F (c_Rd_fail l D cI cB cJ cS rd jl jd a ab sh sn sv u w (t + 8) lo wr pl n PN pn VN vn cl cd b pf fv (by omega) (by omega) (by omega) (by omega) (by omega) (by omega) (by omega) (by omega) (by omega) hb256 5 t) (cwV 2 hts (g_V wd_52 wd_53 wd_54 wd_55 wd_56) rfl rfl rfl (by decide +kernel) ⟨Nat.le_of_ble_eq_true rfl, Nat.le_of_ble_eq_true rfl⟩) hK hP hD hS hA hZ [0, 1, 2, 3, 4, 5, 6, 7] rfl (by decide) 0 rfl rfl rfl rfl hl.1 rfl (Nat.le_of_ble_eq_true rfl) dX2_takeValue_68 ⟨Nat.le_of_ble_eq_true rfl, Nat.le_of_ble_eq_true rfl⟩) hP hD hS hA [0, 1, 2, 3, 4, 5, 6, 7] [] rfl rfl (by decide) (by decide) (fun r u9 H locs hw hP hD hS => ?_)
            subst hw
            have hP : va_P D kCl [(rd, .inr (0, [.int (nI u), .ref jl, .ref jd, .int (nI w), .ref a, .ref sh, .int (nI (t + 8)), .int (nI lo), .int (nI 5), .int (nI t)])), (jl, .inl (cJ, 54, .inr (.inl (lF cl)))), (jd, .inl (cI, 54, .inl (iF cd))), (a, .inr (1, [.ref ab, .int (nI n)])), (ab, .inl (cB, 65536, .inl (bF b))), (sh, .inr (2, [.ref sn, .ref sv, .int (nI pn), .int (nI vn)])), (sn, .inl (cI, PN, .inl (iF pf))), (sv, .inl (cI, VN, .inl fv))] H := hP
            have hD : va_D A [(rd, .inr (0, [.int (nI u), .ref jl, .ref jd, .int (nI w), .ref a, .ref sh, .int (nI (t + 8)), .int (nI lo), .int (nI 5), .int (nI t)])), (jl, .inl (cJ, 54, .inr (.inl (lF cl)))), (jd, .inl (cI, 54, .inl (iF cd))), (a, .inr (1, [.ref ab, .int (nI n)])), (ab, .inl (cB, 65536, .inl (bF b))), (sh, .inr (2, [.ref sn, .ref sv, .int (nI pn), .int (nI vn)])), (sn, .inl (cI, PN, .inl (iF pf))), (sv, .inl (cI, VN, .inl fv))] := hD
            refine W.widen (k := 0) (n := 0) (Nat.le_of_ble_eq_true rfl) (Nat.le_of_ble_eq_true rfl) ?_
            rw [show sVal b n u w t lo wr pl pn vn cl cd pf fv = (0, (w, t + 8, lo, 5, t, pn, vn, cl, cd, pf, fv)) from by unfold sVal; rw [if_neg (by omega), if_neg (by omega)]; rw [if_pos (Or.inl hb1)]] at hs
            cases hs
            exact k_iret () hx hb hr (by first | rfl | decide | exact vp_nar_int _) hlocks hK hP hD hS (rfl) (rfl) (Nat.le_of_ble_eq_true rfl) (Nat.le_of_ble_eq_true rfl) dX2_takeValue_71
          · skip
            refine lv_lload hx hb dX2_takeValue_56 (lv_at hl 0 rfl) ?_
            refine lv_ldc2 (v := lN 1000000000) hx hb hown (hts (.constantLong RX2 162 (1000000000)) (List.mem_cons_of_mem _ wd_132)) dX2_takeValue_58 ?_
            refine W.lcmp hx hb dX2_takeValue_61 ?_
            refine k_lcmp_le (tgt := 72) hx hb dX2_takeValue_62 (by decide) (fun hb2 => ?_) (fun hb2 => ?_)
            · skip
              refine lv_aload_n hx hb dX2_takeValue_72 rfl (lv_at hl 3 rfl) ?_
              refine va_get (D := D) (ci := 0) (v := .ref sh) (C := RX2) (T := TX2) (N := 10) hx hb hts inX2 hown hK hP 0 rfl rfl 5 (by decide) (hts (.fieldLink RX2 60 "ByteShapes$Reader" "into" "LByteShapes$Shape;") (List.mem_cons_of_mem _ wd_76)) (fun _ h9 => h9) rfl dX2_takeValue_73 ?_
              refine lv_lload hx hb dX2_takeValue_76 (lv_at hl 0 rfl) ?_
              refine lv_l2i (v := (rVal (pN b t 8 lo) u).toInt32) hx hb dX2_takeValue_78 (rfl) ?_
              refine k_cv (wr := [(rd, .inr (0, [.int (nI u), .ref jl, .ref jd, .int (nI w), .ref a, .ref sh, .int (nI (t + 8)), .int (nI lo), .int (nI wr), .int (nI pl)])), (jl, .inl (cJ, 54, .inr (.inl (lF cl)))), (jd, .inl (cI, 54, .inl (iF cd))), (a, .inr (1, [.ref ab, .int (nI n)])), (ab, .inl (cB, 65536, .inl (bF b)))]) (k_rv F (c_Shape_addValue l D cI cB cJ cS sh sn sv PN pn VN vn pf fv hVN hvn (rVal (pN b t 8 lo) u).toInt32 hlt9) (cwV 1 hts (g_V wd_139 wd_140 wd_141 wd_41 wd_142) rfl rfl rfl (by decide +kernel) ⟨Nat.le_of_ble_eq_true rfl, Nat.le_of_ble_eq_true rfl⟩) hK hP hD hS hA hZ [5, 6, 7] rfl (by decide) 5 rfl rfl rfl rfl hl.1 rfl (Nat.le_of_ble_eq_true rfl) dX2_takeValue_79 ⟨Nat.le_of_ble_eq_true rfl, Nat.le_of_ble_eq_true rfl⟩) hP hD hS hA [5, 6, 7] [0, 1, 2, 3, 4] rfl rfl (by decide) (by decide) (fun u9 H locs hw hP hD hS => ?_)
              have hP : va_P D kCl [(rd, .inr (0, [.int (nI u), .ref jl, .ref jd, .int (nI w), .ref a, .ref sh, .int (nI (t + 8)), .int (nI lo), .int (nI wr), .int (nI pl)])), (jl, .inl (cJ, 54, .inr (.inl (lF cl)))), (jd, .inl (cI, 54, .inl (iF cd))), (a, .inr (1, [.ref ab, .int (nI n)])), (ab, .inl (cB, 65536, .inl (bF b))), (sh, .inr (2, [.ref sn, .ref sv, .int (nI pn), .int (nI (vn + 1))])), (sn, .inl (cI, PN, .inl (iF pf))), (sv, .inl (cI, VN, .inl (upd fv vn (rVal (pN b t 8 lo) u).toInt32)))] H := hP
              have hD : va_D A [(rd, .inr (0, [.int (nI u), .ref jl, .ref jd, .int (nI w), .ref a, .ref sh, .int (nI (t + 8)), .int (nI lo), .int (nI wr), .int (nI pl)])), (jl, .inl (cJ, 54, .inr (.inl (lF cl)))), (jd, .inl (cI, 54, .inl (iF cd))), (a, .inr (1, [.ref ab, .int (nI n)])), (ab, .inl (cB, 65536, .inl (bF b))), (sh, .inr (2, [.ref sn, .ref sv, .int (nI pn), .int (nI (vn + 1))])), (sn, .inl (cI, PN, .inl (iF pf))), (sv, .inl (cI, VN, .inl (upd fv vn (rVal (pN b t 8 lo) u).toInt32)))] := hD
              refine W.widen (k := 0) (n := 0) (Nat.le_of_ble_eq_true rfl) (Nat.le_of_ble_eq_true rfl) ?_
              refine lv_iconst (v := nI 1) hx hb dX2_takeValue_82 (by decide) ?_
              rw [show sVal b n u w t lo wr pl pn vn cl cd pf fv = (1, (w, t + 8, lo, wr, pl, pn, vn + 1, cl, cd, pf, upd fv vn (rVal (pN b t 8 lo) u).toInt32)) from by unfold sVal; rw [if_neg (by omega), if_neg (by omega)]; rw [if_neg (fun q => q.elim (fun q => hb1 q) (fun q => absurd hb2 (Int64.not_le.mpr q)))]] at hs
              cases hs
              exact k_iret () hx hb hr (by first | rfl | decide | exact vp_nar_int _) hlocks hK hP hD hS (rfl) (rfl) (Nat.le_of_ble_eq_true rfl) (Nat.le_of_ble_eq_true rfl) dX2_takeValue_83
            · skip
              refine lv_aload_n hx hb dX2_takeValue_65 rfl (lv_at hl 3 rfl) ?_
              refine lv_iconst (v := nI 5) hx hb dX2_takeValue_66 (by decide) ?_
              refine lv_iload_n hx hb dX2_takeValue_67 rfl (lv_at hl 2 rfl) ?_
              refine k_ci (wr := []) (k_rv F (c_Rd_fail l D cI cB cJ cS rd jl jd a ab sh sn sv u w (t + 8) lo wr pl n PN pn VN vn cl cd b pf fv (by omega) (by omega) (by omega) (by omega) (by omega) (by omega) (by omega) (by omega) (by omega) hb256 5 t) (cwV 2 hts (g_V wd_52 wd_53 wd_54 wd_55 wd_56) rfl rfl rfl (by decide +kernel) ⟨Nat.le_of_ble_eq_true rfl, Nat.le_of_ble_eq_true rfl⟩) hK hP hD hS hA hZ [0, 1, 2, 3, 4, 5, 6, 7] rfl (by decide) 0 rfl rfl rfl rfl hl.1 rfl (Nat.le_of_ble_eq_true rfl) dX2_takeValue_68 ⟨Nat.le_of_ble_eq_true rfl, Nat.le_of_ble_eq_true rfl⟩) hP hD hS hA [0, 1, 2, 3, 4, 5, 6, 7] [] rfl rfl (by decide) (by decide) (fun r u9 H locs hw hP hD hS => ?_)
              subst hw
              have hP : va_P D kCl [(rd, .inr (0, [.int (nI u), .ref jl, .ref jd, .int (nI w), .ref a, .ref sh, .int (nI (t + 8)), .int (nI lo), .int (nI 5), .int (nI t)])), (jl, .inl (cJ, 54, .inr (.inl (lF cl)))), (jd, .inl (cI, 54, .inl (iF cd))), (a, .inr (1, [.ref ab, .int (nI n)])), (ab, .inl (cB, 65536, .inl (bF b))), (sh, .inr (2, [.ref sn, .ref sv, .int (nI pn), .int (nI vn)])), (sn, .inl (cI, PN, .inl (iF pf))), (sv, .inl (cI, VN, .inl fv))] H := hP
              have hD : va_D A [(rd, .inr (0, [.int (nI u), .ref jl, .ref jd, .int (nI w), .ref a, .ref sh, .int (nI (t + 8)), .int (nI lo), .int (nI 5), .int (nI t)])), (jl, .inl (cJ, 54, .inr (.inl (lF cl)))), (jd, .inl (cI, 54, .inl (iF cd))), (a, .inr (1, [.ref ab, .int (nI n)])), (ab, .inl (cB, 65536, .inl (bF b))), (sh, .inr (2, [.ref sn, .ref sv, .int (nI pn), .int (nI vn)])), (sn, .inl (cI, PN, .inl (iF pf))), (sv, .inl (cI, VN, .inl fv))] := hD
              refine W.widen (k := 0) (n := 0) (Nat.le_of_ble_eq_true rfl) (Nat.le_of_ble_eq_true rfl) ?_
              rw [show sVal b n u w t lo wr pl pn vn cl cd pf fv = (0, (w, t + 8, lo, 5, t, pn, vn, cl, cd, pf, fv)) from by unfold sVal; rw [if_neg (by omega), if_neg (by omega)]; rw [if_pos (Or.inr (show (1000000000 : Int64) < rVal (pN b t 8 lo) u from Int64.not_le.mp hb2))]] at hs
              cases hs
              exact k_iret () hx hb hr (by first | rfl | decide | exact vp_nar_int _) hlocks hK hP hD hS (rfl) (rfl) (Nat.le_of_ble_eq_true rfl) (Nat.le_of_ble_eq_true rfl) dX2_takeValue_71
        · skip
          exact absurd c112 (by omega)
      · skip
        refine k_ci (wr := [(rd, .inr (0, [.int (nI u), .ref jl, .ref jd, .int (nI w), .ref a, .ref sh, .int (nI (t + 8)), .int (nI lo), .int (nI wr), .int (nI pl)])), (jl, .inl (cJ, 54, .inr (.inl (lF cl)))), (jd, .inl (cI, 54, .inl (iF cd))), (a, .inr (1, [.ref ab, .int (nI n)])), (ab, .inl (cB, 65536, .inl (bF b))), (sh, .inr (2, [.ref sn, .ref sv, .int (nI pn), .int (nI vn)])), (sn, .inl (cI, PN, .inl (iF pf))), (sv, .inl (cI, VN, .inl fv))]) (k_rs F (c_Fr_isFinite l D cI cB cJ cS (pN b t 8 lo) h864) (va_cwS 1 hts (g_S wd_133 wd_134 wd_27 wd_135) rfl rfl rfl (by decide +kernel) ⟨Nat.le_of_ble_eq_true rfl, Nat.le_of_ble_eq_true rfl⟩) hK hP hD hS hA hZ [] rfl (by decide) rfl hl.1 rfl (Nat.le_of_ble_eq_true rfl) dX2_takeValue_24 ⟨Nat.le_of_ble_eq_true rfl, Nat.le_of_ble_eq_true rfl⟩) hP hD hS hA [] [0, 1, 2, 3, 4, 5, 6, 7] rfl rfl (by decide) (by decide) (fun r u9 H locs hw hP hD hS => ?_)
        subst hw
        have hP : va_P D kCl [(rd, .inr (0, [.int (nI u), .ref jl, .ref jd, .int (nI w), .ref a, .ref sh, .int (nI (t + 8)), .int (nI lo), .int (nI wr), .int (nI pl)])), (jl, .inl (cJ, 54, .inr (.inl (lF cl)))), (jd, .inl (cI, 54, .inl (iF cd))), (a, .inr (1, [.ref ab, .int (nI n)])), (ab, .inl (cB, 65536, .inl (bF b))), (sh, .inr (2, [.ref sn, .ref sv, .int (nI pn), .int (nI vn)])), (sn, .inl (cI, PN, .inl (iF pf))), (sv, .inl (cI, VN, .inl fv))] H := hP
        have hD : va_D A [(rd, .inr (0, [.int (nI u), .ref jl, .ref jd, .int (nI w), .ref a, .ref sh, .int (nI (t + 8)), .int (nI lo), .int (nI wr), .int (nI pl)])), (jl, .inl (cJ, 54, .inr (.inl (lF cl)))), (jd, .inl (cI, 54, .inl (iF cd))), (a, .inr (1, [.ref ab, .int (nI n)])), (ab, .inl (cB, 65536, .inl (bF b))), (sh, .inr (2, [.ref sn, .ref sv, .int (nI pn), .int (nI vn)])), (sn, .inl (cI, PN, .inl (iF pf))), (sv, .inl (cI, VN, .inl fv))] := hD
        refine W.widen (k := 0) (n := 0) (Nat.le_of_ble_eq_true rfl) (Nat.le_of_ble_eq_true rfl) ?_
        refine k_i (show _ = nI 0 from by rw [if_neg (by omega)]) ?_
        refine k_if_ne (tgt := 37) (by omega) hx hb dX2_takeValue_27 (by decide) (fun c113 => ?_) (fun c113 => ?_)
        · skip
          exact absurd c113 (by omega)
        · skip
          refine lv_aload_n hx hb dX2_takeValue_30 rfl (lv_at hl 2 rfl) ?_
          refine lv_iconst (v := nI 4) hx hb dX2_takeValue_31 (by decide) ?_
          refine lv_iload_n hx hb dX2_takeValue_32 rfl (lv_at hl 1 rfl) ?_
          refine k_ci (wr := []) (k_rv F (c_Rd_fail l D cI cB cJ cS rd jl jd a ab sh sn sv u w (t + 8) lo wr pl n PN pn VN vn cl cd b pf fv (by omega) (by omega) (by omega) (by omega) (by omega) (by omega) (by omega) (by omega) (by omega) hb256 4 t) (cwV 2 hts (g_V wd_52 wd_53 wd_54 wd_55 wd_56) rfl rfl rfl (by decide +kernel) ⟨Nat.le_of_ble_eq_true rfl, Nat.le_of_ble_eq_true rfl⟩) hK hP hD hS hA hZ [0, 1, 2, 3, 4, 5, 6, 7] rfl (by decide) 0 rfl rfl rfl rfl hl.1 rfl (Nat.le_of_ble_eq_true rfl) dX2_takeValue_33 ⟨Nat.le_of_ble_eq_true rfl, Nat.le_of_ble_eq_true rfl⟩) hP hD hS hA [0, 1, 2, 3, 4, 5, 6, 7] [] rfl rfl (by decide) (by decide) (fun r u9 H locs hw hP hD hS => ?_)
          subst hw
          have hP : va_P D kCl [(rd, .inr (0, [.int (nI u), .ref jl, .ref jd, .int (nI w), .ref a, .ref sh, .int (nI (t + 8)), .int (nI lo), .int (nI 4), .int (nI t)])), (jl, .inl (cJ, 54, .inr (.inl (lF cl)))), (jd, .inl (cI, 54, .inl (iF cd))), (a, .inr (1, [.ref ab, .int (nI n)])), (ab, .inl (cB, 65536, .inl (bF b))), (sh, .inr (2, [.ref sn, .ref sv, .int (nI pn), .int (nI vn)])), (sn, .inl (cI, PN, .inl (iF pf))), (sv, .inl (cI, VN, .inl fv))] H := hP
          have hD : va_D A [(rd, .inr (0, [.int (nI u), .ref jl, .ref jd, .int (nI w), .ref a, .ref sh, .int (nI (t + 8)), .int (nI lo), .int (nI 4), .int (nI t)])), (jl, .inl (cJ, 54, .inr (.inl (lF cl)))), (jd, .inl (cI, 54, .inl (iF cd))), (a, .inr (1, [.ref ab, .int (nI n)])), (ab, .inl (cB, 65536, .inl (bF b))), (sh, .inr (2, [.ref sn, .ref sv, .int (nI pn), .int (nI vn)])), (sn, .inl (cI, PN, .inl (iF pf))), (sv, .inl (cI, VN, .inl fv))] := hD
          refine W.widen (k := 0) (n := 0) (Nat.le_of_ble_eq_true rfl) (Nat.le_of_ble_eq_true rfl) ?_
          rw [show sVal b n u w t lo wr pl pn vn cl cd pf fv = (0, (w, t + 8, lo, 4, t, pn, vn, cl, cd, pf, fv)) from by unfold sVal; rw [if_neg (by omega), if_pos (by omega)]] at hs
          cases hs
          exact k_iret () hx hb hr (by first | rfl | decide | exact vp_nar_int _) hlocks hK hP hD hS (rfl) (rfl) (Nat.le_of_ble_eq_true rfl) (Nat.le_of_ble_eq_true rfl) dX2_takeValue_36
    · skip
      exact absurd c111 (by omega)

set_option maxRecDepth 100000 in
set_option maxHeartbeats 4000000 in
theorem c_Rd_takeCoordinate (l : Launch) (D : va_G) (cI cB cJ cS : ClassId) (rd jl jd a ab sh sn sv u w t lo wr pl n PN pn VN vn : Nat) (cl cd b pf : Nat → Nat) (fv : Nat → Int32) (ht : t ≤ n) (hn : n ≤ 65536) (hlo2 : lo < 2) (hw : w ≤ 54) (hPN : PN ≤ 4096) (hpn : pn ≤ PN) (hVN : VN ≤ 8192) (hvn : vn ≤ VN) (h2 : 2 ≤ VN) (hb256 : ∀ j, b j < 256) (hu1 : 1 ≤ u) (hu2 : u ≤ 1000) (k1 w1 t1 lo1 wr1 pl1 pn1 vn1 : Nat) (cl1 cd1 pf1 : Nat → Nat) (fv1 : Nat → Int32) (hs : sCoord b n u VN w t lo wr pl pn vn cl cd pf fv = (k1, (w1, t1, lo1, wr1, pl1, pn1, vn1, cl1, cd1, pf1, fv1)))  : kM l yX2_takeCoordinate vsX2_takeCoordinate ({ frames := 3, cells := 0, slots := 0, locals := 79 }) D (kT cI cB cJ cS) [.ref rd] [(rd, .inr (0, [.int (nI u), .ref jl, .ref jd, .int (nI w), .ref a, .ref sh, .int (nI t), .int (nI lo), .int (nI wr), .int (nI pl)])), (jl, .inl (cJ, 54, .inr (.inl (lF cl)))), (jd, .inl (cI, 54, .inl (iF cd))), (a, .inr (1, [.ref ab, .int (nI n)])), (ab, .inl (cB, 65536, .inl (bF b))), (sh, .inr (2, [.ref sn, .ref sv, .int (nI pn), .int (nI vn)])), (sn, .inl (cI, PN, .inl (iF pf))), (sv, .inl (cI, VN, .inl fv))] (kQi D (kT cI cB cJ cS) (fun r (ug : Unit) => r = nI k1) (fun ug => [(rd, .inr (0, [.int (nI u), .ref jl, .ref jd, .int (nI w1), .ref a, .ref sh, .int (nI t1), .int (nI lo1), .int (nI wr1), .int (nI pl1)])), (jl, .inl (cJ, 54, .inr (.inl (lF cl1)))), (jd, .inl (cI, 54, .inl (iF cd1))), (a, .inr (1, [.ref ab, .int (nI n)])), (ab, .inl (cB, 65536, .inl (bF b))), (sh, .inr (2, [.ref sn, .ref sv, .int (nI pn1), .int (nI vn1)])), (sn, .inl (cI, PN, .inl (iF pf1))), (sv, .inl (cI, VN, .inl fv1))])) := by
  refine k_ofW (by decide) rfl (Nat.le_of_ble_eq_true rfl) ?_
  intro p e s m below meth c A ls hx hb hr hts hown hlocks hmn hml hA hP hK hD hS hZ hl
  have inX2 : ∀ w ∈ wsX20, w ∈ vsX2_takeCoordinate := fun w h => List.mem_cons_of_mem _ (iaX2 w h)
  have inX3 : ∀ w ∈ wsX30, w ∈ vsX2_takeCoordinate := fun w h => List.mem_cons_of_mem _ (iaX3 w h)
  have inX4 : ∀ w ∈ wsX40, w ∈ vsX2_takeCoordinate := fun w h => List.mem_cons_of_mem _ (iaX4 w h)
  have F : CallFix p m c cX2_takeCoordinate 1 s _ vsX2_takeCoordinate RX2 := ⟨hx, hb, hml, hown, hts⟩
  have hl : lv_has ls 1 [(0, .ref rd)] := hl
  refine lv_aload_n hx hb dX2_takeCoordinate_0 rfl (lv_at hl 0 rfl) ?_
  refine va_get (D := D) (ci := 0) (v := .ref sh) (C := RX2) (T := TX2) (N := 10) hx hb hts inX2 hown hK hP 0 rfl rfl 5 (by decide) (hts (.fieldLink RX2 60 "ByteShapes$Reader" "into" "LByteShapes$Shape;") (List.mem_cons_of_mem _ wd_76)) (fun _ h9 => h9) rfl dX2_takeCoordinate_1 ?_
  rcases Nat.lt_or_ge VN (vn + 2) with h5 | h5
  · skip
    refine k_ci (wr := [(rd, .inr (0, [.int (nI u), .ref jl, .ref jd, .int (nI w), .ref a, .ref sh, .int (nI t), .int (nI lo), .int (nI wr), .int (nI pl)])), (jl, .inl (cJ, 54, .inr (.inl (lF cl)))), (jd, .inl (cI, 54, .inl (iF cd))), (a, .inr (1, [.ref ab, .int (nI n)])), (ab, .inl (cB, 65536, .inl (bF b)))]) (k_rv F (c_Shape_hasRoomForPoint0 l D cI cB cJ cS sh sn sv PN pn VN vn pf fv hVN hvn h2 (by omega)) (cwV 0 hts (g_V wd_143 wd_144 wd_145 wd_41 wd_146) rfl rfl rfl (by decide +kernel) ⟨Nat.le_of_ble_eq_true rfl, Nat.le_of_ble_eq_true rfl⟩) hK hP hD hS hA hZ [5, 6, 7] rfl (by decide) 5 rfl rfl rfl rfl hl.1 rfl (Nat.le_of_ble_eq_true rfl) dX2_takeCoordinate_4 ⟨Nat.le_of_ble_eq_true rfl, Nat.le_of_ble_eq_true rfl⟩) hP hD hS hA [5, 6, 7] [0, 1, 2, 3, 4] rfl rfl (by decide) (by decide) (fun r u9 H locs hw hP hD hS => ?_)
    subst hw
    have hP : va_P D kCl [(rd, .inr (0, [.int (nI u), .ref jl, .ref jd, .int (nI w), .ref a, .ref sh, .int (nI t), .int (nI lo), .int (nI wr), .int (nI pl)])), (jl, .inl (cJ, 54, .inr (.inl (lF cl)))), (jd, .inl (cI, 54, .inl (iF cd))), (a, .inr (1, [.ref ab, .int (nI n)])), (ab, .inl (cB, 65536, .inl (bF b))), (sh, .inr (2, [.ref sn, .ref sv, .int (nI pn), .int (nI vn)])), (sn, .inl (cI, PN, .inl (iF pf))), (sv, .inl (cI, VN, .inl fv))] H := hP
    have hD : va_D A [(rd, .inr (0, [.int (nI u), .ref jl, .ref jd, .int (nI w), .ref a, .ref sh, .int (nI t), .int (nI lo), .int (nI wr), .int (nI pl)])), (jl, .inl (cJ, 54, .inr (.inl (lF cl)))), (jd, .inl (cI, 54, .inl (iF cd))), (a, .inr (1, [.ref ab, .int (nI n)])), (ab, .inl (cB, 65536, .inl (bF b))), (sh, .inr (2, [.ref sn, .ref sv, .int (nI pn), .int (nI vn)])), (sn, .inl (cI, PN, .inl (iF pf))), (sv, .inl (cI, VN, .inl fv))] := hD
    refine W.widen (k := 0) (n := 0) (Nat.le_of_ble_eq_true rfl) (Nat.le_of_ble_eq_true rfl) ?_
    refine k_if_ne (tgt := 21) (by omega) hx hb dX2_takeCoordinate_7 (by decide) (fun c114 => ?_) (fun c114 => ?_)
    · skip
      exact absurd c114 (by omega)
    · skip
      refine lv_aload_n hx hb dX2_takeCoordinate_10 rfl (lv_at hl 0 rfl) ?_
      refine lv_bipush (v := nI 7) hx hb dX2_takeCoordinate_11 (by decide) ?_
      refine lv_aload_n hx hb dX2_takeCoordinate_13 rfl (lv_at hl 0 rfl) ?_
      refine va_get (D := D) (ci := 0) (v := .int (nI t)) (C := RX2) (T := TX2) (N := 10) hx hb hts inX2 hown hK hP 0 rfl rfl 6 (by decide) (hts (.fieldLink RX2 43 "ByteShapes$Reader" "at" "I") (List.mem_cons_of_mem _ wd_46)) (fun _ h9 => h9) rfl dX2_takeCoordinate_14 ?_
      refine k_ci (wr := []) (k_rv F (c_Rd_fail l D cI cB cJ cS rd jl jd a ab sh sn sv u w t lo wr pl n PN pn VN vn cl cd b pf fv (by omega) (by omega) (by omega) (by omega) (by omega) (by omega) (by omega) (by omega) (by omega) hb256 7 t) (cwV 2 hts (g_V wd_52 wd_53 wd_54 wd_55 wd_56) rfl rfl rfl (by decide +kernel) ⟨Nat.le_of_ble_eq_true rfl, Nat.le_of_ble_eq_true rfl⟩) hK hP hD hS hA hZ [0, 1, 2, 3, 4, 5, 6, 7] rfl (by decide) 0 rfl rfl rfl rfl hl.1 rfl (Nat.le_of_ble_eq_true rfl) dX2_takeCoordinate_17 ⟨Nat.le_of_ble_eq_true rfl, Nat.le_of_ble_eq_true rfl⟩) hP hD hS hA [0, 1, 2, 3, 4, 5, 6, 7] [] rfl rfl (by decide) (by decide) (fun r u9 H locs hw hP hD hS => ?_)
      subst hw
      have hP : va_P D kCl [(rd, .inr (0, [.int (nI u), .ref jl, .ref jd, .int (nI w), .ref a, .ref sh, .int (nI t), .int (nI lo), .int (nI 7), .int (nI t)])), (jl, .inl (cJ, 54, .inr (.inl (lF cl)))), (jd, .inl (cI, 54, .inl (iF cd))), (a, .inr (1, [.ref ab, .int (nI n)])), (ab, .inl (cB, 65536, .inl (bF b))), (sh, .inr (2, [.ref sn, .ref sv, .int (nI pn), .int (nI vn)])), (sn, .inl (cI, PN, .inl (iF pf))), (sv, .inl (cI, VN, .inl fv))] H := hP
      have hD : va_D A [(rd, .inr (0, [.int (nI u), .ref jl, .ref jd, .int (nI w), .ref a, .ref sh, .int (nI t), .int (nI lo), .int (nI 7), .int (nI t)])), (jl, .inl (cJ, 54, .inr (.inl (lF cl)))), (jd, .inl (cI, 54, .inl (iF cd))), (a, .inr (1, [.ref ab, .int (nI n)])), (ab, .inl (cB, 65536, .inl (bF b))), (sh, .inr (2, [.ref sn, .ref sv, .int (nI pn), .int (nI vn)])), (sn, .inl (cI, PN, .inl (iF pf))), (sv, .inl (cI, VN, .inl fv))] := hD
      refine W.widen (k := 0) (n := 0) (Nat.le_of_ble_eq_true rfl) (Nat.le_of_ble_eq_true rfl) ?_
      rw [show sCoord b n u VN w t lo wr pl pn vn cl cd pf fv = (0, (w, t, lo, 7, t, pn, vn, cl, cd, pf, fv)) from by unfold sCoord; rw [if_pos (by omega)]] at hs
      cases hs
      exact k_iret () hx hb hr (by first | rfl | decide | exact vp_nar_int _) hlocks hK hP hD hS (rfl) (rfl) (Nat.le_of_ble_eq_true rfl) (Nat.le_of_ble_eq_true rfl) dX2_takeCoordinate_20
  · skip
    refine k_ci (wr := [(rd, .inr (0, [.int (nI u), .ref jl, .ref jd, .int (nI w), .ref a, .ref sh, .int (nI t), .int (nI lo), .int (nI wr), .int (nI pl)])), (jl, .inl (cJ, 54, .inr (.inl (lF cl)))), (jd, .inl (cI, 54, .inl (iF cd))), (a, .inr (1, [.ref ab, .int (nI n)])), (ab, .inl (cB, 65536, .inl (bF b)))]) (k_rv F (c_Shape_hasRoomForPoint1 l D cI cB cJ cS sh sn sv PN pn VN vn pf fv hVN hvn h2 (by omega)) (cwV 0 hts (g_V wd_143 wd_144 wd_145 wd_41 wd_146) rfl rfl rfl (by decide +kernel) ⟨Nat.le_of_ble_eq_true rfl, Nat.le_of_ble_eq_true rfl⟩) hK hP hD hS hA hZ [5, 6, 7] rfl (by decide) 5 rfl rfl rfl rfl hl.1 rfl (Nat.le_of_ble_eq_true rfl) dX2_takeCoordinate_4 ⟨Nat.le_of_ble_eq_true rfl, Nat.le_of_ble_eq_true rfl⟩) hP hD hS hA [5, 6, 7] [0, 1, 2, 3, 4] rfl rfl (by decide) (by decide) (fun r u9 H locs hw hP hD hS => ?_)
    subst hw
    have hP : va_P D kCl [(rd, .inr (0, [.int (nI u), .ref jl, .ref jd, .int (nI w), .ref a, .ref sh, .int (nI t), .int (nI lo), .int (nI wr), .int (nI pl)])), (jl, .inl (cJ, 54, .inr (.inl (lF cl)))), (jd, .inl (cI, 54, .inl (iF cd))), (a, .inr (1, [.ref ab, .int (nI n)])), (ab, .inl (cB, 65536, .inl (bF b))), (sh, .inr (2, [.ref sn, .ref sv, .int (nI pn), .int (nI vn)])), (sn, .inl (cI, PN, .inl (iF pf))), (sv, .inl (cI, VN, .inl fv))] H := hP
    have hD : va_D A [(rd, .inr (0, [.int (nI u), .ref jl, .ref jd, .int (nI w), .ref a, .ref sh, .int (nI t), .int (nI lo), .int (nI wr), .int (nI pl)])), (jl, .inl (cJ, 54, .inr (.inl (lF cl)))), (jd, .inl (cI, 54, .inl (iF cd))), (a, .inr (1, [.ref ab, .int (nI n)])), (ab, .inl (cB, 65536, .inl (bF b))), (sh, .inr (2, [.ref sn, .ref sv, .int (nI pn), .int (nI vn)])), (sn, .inl (cI, PN, .inl (iF pf))), (sv, .inl (cI, VN, .inl fv))] := hD
    refine W.widen (k := 0) (n := 0) (Nat.le_of_ble_eq_true rfl) (Nat.le_of_ble_eq_true rfl) ?_
    refine k_if_ne (tgt := 21) (by omega) hx hb dX2_takeCoordinate_7 (by decide) (fun c115 => ?_) (fun c115 => ?_)
    · skip
      refine lv_aload_n hx hb dX2_takeCoordinate_21 rfl (lv_at hl 0 rfl) ?_
      obtain ⟨⟨k2, w2, t2, lo2, wr2, pl2, pn2, vn2, cl2, cd2, pf2, fv2⟩, hs2⟩ : ∃ z, z = sVal b n u w t lo wr pl pn vn cl cd pf fv := ⟨_, rfl⟩
      obtain ⟨bk2, bw2, bt2, bl2, bp2, bv2⟩ := sVal_bd hs2.symm (by omega)
      refine k_ci (wr := []) (k_rv F (c_Rd_takeValue l D cI cB cJ cS rd jl jd a ab sh sn sv u w t lo wr pl n PN pn VN vn cl cd b pf fv (by omega) (by omega) (by omega) (by omega) (by omega) (by omega) (by omega) (by omega) (by omega) hb256 hu1 hu2 (by omega) k2 w2 t2 lo2 wr2 pl2 pn2 vn2 cl2 cd2 pf2 fv2 hs2.symm) (cwV 0 hts (g_V wd_147 wd_148 wd_149 wd_55 wd_150) rfl rfl rfl (by decide +kernel) ⟨Nat.le_of_ble_eq_true rfl, Nat.le_of_ble_eq_true rfl⟩) hK hP hD hS hA hZ [0, 1, 2, 3, 4, 5, 6, 7] rfl (by decide) 0 rfl rfl rfl rfl hl.1 rfl (Nat.le_of_ble_eq_true rfl) dX2_takeCoordinate_22 ⟨Nat.le_of_ble_eq_true rfl, Nat.le_of_ble_eq_true rfl⟩) hP hD hS hA [0, 1, 2, 3, 4, 5, 6, 7] [] rfl rfl (by decide) (by decide) (fun r u9 H locs hw hP hD hS => ?_)
      subst hw
      have hP : va_P D kCl [(rd, .inr (0, [.int (nI u), .ref jl, .ref jd, .int (nI w2), .ref a, .ref sh, .int (nI t2), .int (nI lo2), .int (nI wr2), .int (nI pl2)])), (jl, .inl (cJ, 54, .inr (.inl (lF cl2)))), (jd, .inl (cI, 54, .inl (iF cd2))), (a, .inr (1, [.ref ab, .int (nI n)])), (ab, .inl (cB, 65536, .inl (bF b))), (sh, .inr (2, [.ref sn, .ref sv, .int (nI pn2), .int (nI vn2)])), (sn, .inl (cI, PN, .inl (iF pf2))), (sv, .inl (cI, VN, .inl fv2))] H := hP
      have hD : va_D A [(rd, .inr (0, [.int (nI u), .ref jl, .ref jd, .int (nI w2), .ref a, .ref sh, .int (nI t2), .int (nI lo2), .int (nI wr2), .int (nI pl2)])), (jl, .inl (cJ, 54, .inr (.inl (lF cl2)))), (jd, .inl (cI, 54, .inl (iF cd2))), (a, .inr (1, [.ref ab, .int (nI n)])), (ab, .inl (cB, 65536, .inl (bF b))), (sh, .inr (2, [.ref sn, .ref sv, .int (nI pn2), .int (nI vn2)])), (sn, .inl (cI, PN, .inl (iF pf2))), (sv, .inl (cI, VN, .inl fv2))] := hD
      refine W.widen (k := 0) (n := 0) (Nat.le_of_ble_eq_true rfl) (Nat.le_of_ble_eq_true rfl) ?_
      refine k_if_eq (tgt := 39) (by omega) hx hb dX2_takeCoordinate_25 (by decide) (fun hk2 => ?_) (fun hk2 => ?_)
      · skip
        refine lv_iconst (v := nI 0) hx hb dX2_takeCoordinate_39 (by decide) ?_
        rw [show sCoord b n u VN w t lo wr pl pn vn cl cd pf fv = (0, (w2, t2, lo2, wr2, pl2, pn2, vn2, cl2, cd2, pf2, fv2)) from by unfold sCoord; rw [if_neg (by omega), ← hs2, hk2]; rfl] at hs
        cases hs
        exact k_iret () hx hb hr (by first | rfl | decide | exact vp_nar_int _) hlocks hK hP hD hS (rfl) (rfl) (Nat.le_of_ble_eq_true rfl) (Nat.le_of_ble_eq_true rfl) dX2_takeCoordinate_40
      · skip
        refine lv_aload_n hx hb dX2_takeCoordinate_28 rfl (lv_at hl 0 rfl) ?_
        obtain ⟨⟨k3, w3, t3, lo3, wr3, pl3, pn3, vn3, cl3, cd3, pf3, fv3⟩, hs3⟩ : ∃ z, z = sVal b n u w2 t2 lo2 wr2 pl2 pn2 vn2 cl2 cd2 pf2 fv2 := ⟨_, rfl⟩
        obtain ⟨bk3, bw3, bt3, bl3, bp3, bv3⟩ := sVal_bd hs3.symm (by omega)
        refine k_ci (wr := []) (k_rv F (c_Rd_takeValue l D cI cB cJ cS rd jl jd a ab sh sn sv u w2 t2 lo2 wr2 pl2 n PN pn2 VN vn2 cl2 cd2 b pf2 fv2 (by omega) (by omega) (by omega) (by omega) (by omega) (by omega) (by omega) (by omega) (by omega) hb256 hu1 hu2 (by omega) k3 w3 t3 lo3 wr3 pl3 pn3 vn3 cl3 cd3 pf3 fv3 hs3.symm) (cwV 0 hts (g_V wd_147 wd_148 wd_149 wd_55 wd_150) rfl rfl rfl (by decide +kernel) ⟨Nat.le_of_ble_eq_true rfl, Nat.le_of_ble_eq_true rfl⟩) hK hP hD hS hA hZ [0, 1, 2, 3, 4, 5, 6, 7] rfl (by decide) 0 rfl rfl rfl rfl hl.1 rfl (Nat.le_of_ble_eq_true rfl) dX2_takeCoordinate_29 ⟨Nat.le_of_ble_eq_true rfl, Nat.le_of_ble_eq_true rfl⟩) hP hD hS hA [0, 1, 2, 3, 4, 5, 6, 7] [] rfl rfl (by decide) (by decide) (fun r u9 H locs hw hP hD hS => ?_)
        subst hw
        have hP : va_P D kCl [(rd, .inr (0, [.int (nI u), .ref jl, .ref jd, .int (nI w3), .ref a, .ref sh, .int (nI t3), .int (nI lo3), .int (nI wr3), .int (nI pl3)])), (jl, .inl (cJ, 54, .inr (.inl (lF cl3)))), (jd, .inl (cI, 54, .inl (iF cd3))), (a, .inr (1, [.ref ab, .int (nI n)])), (ab, .inl (cB, 65536, .inl (bF b))), (sh, .inr (2, [.ref sn, .ref sv, .int (nI pn3), .int (nI vn3)])), (sn, .inl (cI, PN, .inl (iF pf3))), (sv, .inl (cI, VN, .inl fv3))] H := hP
        have hD : va_D A [(rd, .inr (0, [.int (nI u), .ref jl, .ref jd, .int (nI w3), .ref a, .ref sh, .int (nI t3), .int (nI lo3), .int (nI wr3), .int (nI pl3)])), (jl, .inl (cJ, 54, .inr (.inl (lF cl3)))), (jd, .inl (cI, 54, .inl (iF cd3))), (a, .inr (1, [.ref ab, .int (nI n)])), (ab, .inl (cB, 65536, .inl (bF b))), (sh, .inr (2, [.ref sn, .ref sv, .int (nI pn3), .int (nI vn3)])), (sn, .inl (cI, PN, .inl (iF pf3))), (sv, .inl (cI, VN, .inl fv3))] := hD
        refine W.widen (k := 0) (n := 0) (Nat.le_of_ble_eq_true rfl) (Nat.le_of_ble_eq_true rfl) ?_
        refine k_if_eq (tgt := 39) (by omega) hx hb dX2_takeCoordinate_32 (by decide) (fun hk3 => ?_) (fun hk3 => ?_)
        · skip
          refine lv_iconst (v := nI 0) hx hb dX2_takeCoordinate_39 (by decide) ?_
          rw [show sCoord b n u VN w t lo wr pl pn vn cl cd pf fv = (0, (w3, t3, lo3, wr3, pl3, pn3, vn3, cl3, cd3, pf3, fv3)) from by unfold sCoord; rw [if_neg (by omega), ← hs2, show k2 = 1 by omega]; show sVal b n u w2 t2 lo2 wr2 pl2 pn2 vn2 cl2 cd2 pf2 fv2 = _; rw [← hs3, show k3 = 0 by omega]] at hs
          cases hs
          exact k_iret () hx hb hr (by first | rfl | decide | exact vp_nar_int _) hlocks hK hP hD hS (rfl) (rfl) (Nat.le_of_ble_eq_true rfl) (Nat.le_of_ble_eq_true rfl) dX2_takeCoordinate_40
        · skip
          refine lv_iconst (v := nI 1) hx hb dX2_takeCoordinate_35 (by decide) ?_
          refine lv_goto (tgt := 40) hx hb dX2_takeCoordinate_36 (by decide) ?_
          rw [show sCoord b n u VN w t lo wr pl pn vn cl cd pf fv = (1, (w3, t3, lo3, wr3, pl3, pn3, vn3, cl3, cd3, pf3, fv3)) from by unfold sCoord; rw [if_neg (by omega), ← hs2, show k2 = 1 by omega]; show sVal b n u w2 t2 lo2 wr2 pl2 pn2 vn2 cl2 cd2 pf2 fv2 = _; rw [← hs3, show k3 = 1 by omega]] at hs
          cases hs
          exact k_iret () hx hb hr (by first | rfl | decide | exact vp_nar_int _) hlocks hK hP hD hS (rfl) (rfl) (Nat.le_of_ble_eq_true rfl) (Nat.le_of_ble_eq_true rfl) dX2_takeCoordinate_40
    · skip
      exact absurd c115 (by omega)

set_option maxRecDepth 100000 in
set_option maxHeartbeats 4000000 in
theorem c_Rd_takeItem (l : Launch) (D : va_G) (cI cB cJ cS : ClassId) (rd jl jd a ab sh sn sv u w t lo wr pl n PN pn VN vn : Nat) (cl cd b pf : Nat → Nat) (fv : Nat → Int32) (ht : t ≤ n) (hn : n ≤ 65536) (hlo2 : lo < 2) (hw : w ≤ 54) (hPN : PN ≤ 4096) (hpn : pn ≤ PN) (hVN : VN ≤ 8192) (hvn : vn ≤ VN) (h2 : 2 ≤ VN) (hb256 : ∀ j, b j < 256) (hu1 : 1 ≤ u) (hu2 : u ≤ 1000) (h1w : 1 ≤ w) (hcl1 : 1 ≤ cl (w - 1)) (hcd : cd (w - 1) ≤ 9) (hw54 : ¬ cd (w - 1) = 9 → w < 54) (k1 w1 t1 lo1 wr1 pl1 pn1 vn1 : Nat) (cl1 cd1 pf1 : Nat → Nat) (fv1 : Nat → Int32) (hs : sItem b n u PN VN w t lo wr pl pn vn cl cd pf fv = (k1, (w1, t1, lo1, wr1, pl1, pn1, vn1, cl1, cd1, pf1, fv1))) (hk01 : k1 ≤ 1)  : kM l yX2_takeItem vsX2_takeItem ({ frames := 4, cells := 0, slots := 0, locals := 99 }) D (kT cI cB cJ cS) [.ref rd] [(rd, .inr (0, [.int (nI u), .ref jl, .ref jd, .int (nI w), .ref a, .ref sh, .int (nI t), .int (nI lo), .int (nI wr), .int (nI pl)])), (jl, .inl (cJ, 54, .inr (.inl (lF cl)))), (jd, .inl (cI, 54, .inl (iF cd))), (a, .inr (1, [.ref ab, .int (nI n)])), (ab, .inl (cB, 65536, .inl (bF b))), (sh, .inr (2, [.ref sn, .ref sv, .int (nI pn), .int (nI vn)])), (sn, .inl (cI, PN, .inl (iF pf))), (sv, .inl (cI, VN, .inl fv))] (kQi D (kT cI cB cJ cS) (fun r (ug : Unit) => r = nI k1) (fun ug => [(rd, .inr (0, [.int (nI u), .ref jl, .ref jd, .int (nI w1), .ref a, .ref sh, .int (nI t1), .int (nI lo1), .int (nI wr1), .int (nI pl1)])), (jl, .inl (cJ, 54, .inr (.inl (lF cl1)))), (jd, .inl (cI, 54, .inl (iF cd1))), (a, .inr (1, [.ref ab, .int (nI n)])), (ab, .inl (cB, 65536, .inl (bF b))), (sh, .inr (2, [.ref sn, .ref sv, .int (nI pn1), .int (nI vn1)])), (sn, .inl (cI, PN, .inl (iF pf1))), (sv, .inl (cI, VN, .inl fv1))])) := by
  refine k_ofW (by decide) rfl (Nat.le_of_ble_eq_true rfl) ?_
  intro p e s m below meth c A ls hx hb hr hts hown hlocks hmn hml hA hP hK hD hS hZ hl
  have inX2 : ∀ w ∈ wsX20, w ∈ vsX2_takeItem := fun w h => List.mem_cons_of_mem _ (iaX2 w h)
  have inX3 : ∀ w ∈ wsX30, w ∈ vsX2_takeItem := fun w h => List.mem_cons_of_mem _ (iaX3 w h)
  have inX4 : ∀ w ∈ wsX40, w ∈ vsX2_takeItem := fun w h => List.mem_cons_of_mem _ (iaX4 w h)
  have F : CallFix p m c cX2_takeItem 3 s _ vsX2_takeItem RX2 := ⟨hx, hb, hml, hown, hts⟩
  have hl : lv_has ls 3 [(0, .ref rd)] := hl
  refine lv_aload_n hx hb dX2_takeItem_0 rfl (lv_at hl 0 rfl) ?_
  refine va_get (D := D) (ci := 0) (v := .int (nI w)) (C := RX2) (T := TX2) (N := 10) hx hb hts inX2 hown hK hP 0 rfl rfl 3 (by decide) (hts (.fieldLink RX2 33 "ByteShapes$Reader" "waiting" "I") (List.mem_cons_of_mem _ wd_62)) (fun _ h9 => h9) rfl dX2_takeItem_1 ?_
  refine lv_iconst (v := nI 1) hx hb dX2_takeItem_4 (by decide) ?_
  refine lv_isub hx hb dX2_takeItem_5 ?_
  refine k_i (show _ = nI (w - 1) from pk_sub (by omega)) ?_
  refine lv_istore_n (lv' := [(1, .int (nI (w - 1))), (0, .ref rd)]) hx hb dX2_takeItem_6 rfl hl (by decide) rfl (fun ls hl => ?_)
  refine lv_aload_n hx hb dX2_takeItem_7 rfl (lv_at hl 1 rfl) ?_
  refine va_get (D := D) (ci := 0) (v := .ref jl) (C := RX2) (T := TX2) (N := 10) hx hb hts inX2 hown hK hP 0 rfl rfl 1 (by decide) (hts (.fieldLink RX2 11 "ByteShapes$Reader" "itemsLeft" "[J") (List.mem_cons_of_mem _ wd_63)) (fun _ h9 => h9) rfl dX2_takeItem_8 ?_
  refine lv_iload_n hx hb dX2_takeItem_11 rfl (lv_at hl 0 rfl) ?_
  refine lv_dup2_11 hx hb dX2_takeItem_12 rfl rfl ?_
  refine va_lald hx hb hK hP 1 2 rfl rfl (vp_in_nI (by omega) (by omega)) dX2_takeItem_13 ?_
  refine k_l (show _ = (lF cl) (w - 1) from congrArg (lF cl) (nI_clamp (by omega))) ?_
  refine k_l (show _ = lN (cl (w - 1)) from rfl) ?_
  refine lv_lconst (v := lN 1) hx hb dX2_takeItem_14 (by decide) ?_
  refine lv_lsub hx hb dX2_takeItem_15 ?_
  refine k_l (show _ = lN ((cl (w - 1)) - 1) from lN_sub (by omega)) ?_
  refine va_last hx hb hK hP hD hS 1 2 rfl rfl (vp_in_nI (by omega) (by omega)) dX2_takeItem_16 (fun H locs hP hD hS => ?_)
  rw [show vp_updL (lF cl) (nI (w - 1)).toNatClampNeg (lN ((cl (w - 1)) - 1)) = lF (va_up cl (w - 1) (cl (w - 1) - 1)) from by rw [nI_clamp (by omega)]; exact lF_put _ _ _] at hP hD
  have hP : va_P D kCl [(rd, .inr (0, [.int (nI u), .ref jl, .ref jd, .int (nI w), .ref a, .ref sh, .int (nI t), .int (nI lo), .int (nI wr), .int (nI pl)])), (jl, .inl (cJ, 54, .inr (.inl (lF (va_up cl (w - 1) (cl (w - 1) - 1)))))), (jd, .inl (cI, 54, .inl (iF cd))), (a, .inr (1, [.ref ab, .int (nI n)])), (ab, .inl (cB, 65536, .inl (bF b))), (sh, .inr (2, [.ref sn, .ref sv, .int (nI pn), .int (nI vn)])), (sn, .inl (cI, PN, .inl (iF pf))), (sv, .inl (cI, VN, .inl fv))] H := hP
  have hD : va_D A [(rd, .inr (0, [.int (nI u), .ref jl, .ref jd, .int (nI w), .ref a, .ref sh, .int (nI t), .int (nI lo), .int (nI wr), .int (nI pl)])), (jl, .inl (cJ, 54, .inr (.inl (lF (va_up cl (w - 1) (cl (w - 1) - 1)))))), (jd, .inl (cI, 54, .inl (iF cd))), (a, .inr (1, [.ref ab, .int (nI n)])), (ab, .inl (cB, 65536, .inl (bF b))), (sh, .inr (2, [.ref sn, .ref sv, .int (nI pn), .int (nI vn)])), (sn, .inl (cI, PN, .inl (iF pf))), (sv, .inl (cI, VN, .inl fv))] := hD
  refine lv_aload_n hx hb dX2_takeItem_17 rfl (lv_at hl 1 rfl) ?_
  refine va_get (D := D) (ci := 0) (v := .ref jd) (C := RX2) (T := TX2) (N := 10) hx hb hts inX2 hown hK hP 0 rfl rfl 2 (by decide) (hts (.fieldLink RX2 15 "ByteShapes$Reader" "itemsDue" "[I") (List.mem_cons_of_mem _ wd_64)) (fun _ h9 => h9) rfl dX2_takeItem_18 ?_
  refine lv_iload_n hx hb dX2_takeItem_21 rfl (lv_at hl 0 rfl) ?_
  refine va_iald hx hb hK hP 2 0 rfl rfl (vp_in_nI (by omega) (by omega)) dX2_takeItem_22 ?_
  refine k_i (show _ = (iF cd) (w - 1) from congrArg (iF cd) (nI_clamp (by omega))) ?_
  refine k_i (show _ = nI (cd (w - 1)) from rfl) ?_
  refine lv_istore_n (lv' := [(2, .int (nI (cd (w - 1)))), (1, .int (nI (w - 1))), (0, .ref rd)]) hx hb dX2_takeItem_23 rfl hl (by decide) rfl (fun ls hl => ?_)
  refine lv_iload_n hx hb dX2_takeItem_24 rfl (lv_at hl 0 rfl) ?_
  refine lv_bipush (v := nI 9) hx hb dX2_takeItem_25 (by decide) ?_
  refine k_icmp_ne (tgt := 35) (by omega) (by omega) hx hb dX2_takeItem_27 (by decide) (fun h9 => ?_) (fun h9 => ?_)
  · skip
    refine lv_iload_n hx hb dX2_takeItem_35 rfl (lv_at hl 0 rfl) ?_
    refine lv_bipush (v := nI 8) hx hb dX2_takeItem_36 (by decide) ?_
    refine k_icmp_ne (tgt := 48) (by omega) (by omega) hx hb dX2_takeItem_38 (by decide) (fun h8 => ?_) (fun h8 => ?_)
    · skip
      refine lv_aload_n hx hb dX2_takeItem_48 rfl (lv_at hl 2 rfl) ?_
      refine lv_iload_n hx hb dX2_takeItem_49 rfl (lv_at hl 0 rfl) ?_
      have hs9 : sShape b n PN (cd (w - 1)) w t lo wr pl pn vn (va_up cl (w - 1) (cl (w - 1) - 1)) cd pf fv = (k1, (w1, t1, lo1, wr1, pl1, pn1, vn1, cl1, cd1, pf1, fv1)) := by rw [← hs]; unfold sItem; rw [if_neg h9, if_neg h8]
      refine k_ci (wr := []) (k_rv F (c_Rd_takeShape l D cI cB cJ cS rd jl jd a ab sh sn sv u w t lo wr pl n PN pn VN vn (va_up cl (w - 1) (cl (w - 1) - 1)) cd b pf fv (by omega) (by omega) (by omega) (by omega) (by omega) (by omega) (by omega) (by omega) (by omega) hb256 (cd (w - 1)) hcd (by omega) (hw54 (by omega)) k1 w1 t1 lo1 wr1 pl1 pn1 vn1 cl1 cd1 pf1 fv1 hs9) (cwV 1 hts (g_V wd_151 wd_152 wd_153 wd_55 wd_154) rfl rfl rfl (by decide +kernel) ⟨Nat.le_of_ble_eq_true rfl, Nat.le_of_ble_eq_true rfl⟩) hK hP hD hS hA hZ [0, 1, 2, 3, 4, 5, 6, 7] rfl (by decide) 0 rfl rfl rfl rfl hl.1 rfl (Nat.le_of_ble_eq_true rfl) dX2_takeItem_50 ⟨Nat.le_of_ble_eq_true rfl, Nat.le_of_ble_eq_true rfl⟩) hP hD hS hA [0, 1, 2, 3, 4, 5, 6, 7] [] rfl rfl (by decide) (by decide) (fun r u9 H locs hw hP hD hS => ?_)
      subst hw
      have hP : va_P D kCl [(rd, .inr (0, [.int (nI u), .ref jl, .ref jd, .int (nI w1), .ref a, .ref sh, .int (nI t1), .int (nI lo1), .int (nI wr1), .int (nI pl1)])), (jl, .inl (cJ, 54, .inr (.inl (lF cl1)))), (jd, .inl (cI, 54, .inl (iF cd1))), (a, .inr (1, [.ref ab, .int (nI n)])), (ab, .inl (cB, 65536, .inl (bF b))), (sh, .inr (2, [.ref sn, .ref sv, .int (nI pn1), .int (nI vn1)])), (sn, .inl (cI, PN, .inl (iF pf1))), (sv, .inl (cI, VN, .inl fv1))] H := hP
      have hD : va_D A [(rd, .inr (0, [.int (nI u), .ref jl, .ref jd, .int (nI w1), .ref a, .ref sh, .int (nI t1), .int (nI lo1), .int (nI wr1), .int (nI pl1)])), (jl, .inl (cJ, 54, .inr (.inl (lF cl1)))), (jd, .inl (cI, 54, .inl (iF cd1))), (a, .inr (1, [.ref ab, .int (nI n)])), (ab, .inl (cB, 65536, .inl (bF b))), (sh, .inr (2, [.ref sn, .ref sv, .int (nI pn1), .int (nI vn1)])), (sn, .inl (cI, PN, .inl (iF pf1))), (sv, .inl (cI, VN, .inl fv1))] := hD
      refine W.widen (k := 0) (n := 0) (Nat.le_of_ble_eq_true rfl) (Nat.le_of_ble_eq_true rfl) ?_
      exact k_iret () hx hb hr (by rcases (show k1 = 0 ∨ k1 = 1 by omega) with q | q <;> rw [q] <;> rfl) hlocks hK hP hD hS (rfl) (rfl) (Nat.le_of_ble_eq_true rfl) (Nat.le_of_ble_eq_true rfl) dX2_takeItem_53
    · skip
      refine lv_aload_n hx hb dX2_takeItem_41 rfl (lv_at hl 2 rfl) ?_
      have hs9 : sRing b n PN w t lo wr pl pn vn (va_up cl (w - 1) (cl (w - 1) - 1)) cd pf fv = (k1, (w1, t1, lo1, wr1, pl1, pn1, vn1, cl1, cd1, pf1, fv1)) := by rw [← hs]; unfold sItem; rw [if_neg h9, if_pos h8]
      refine k_ci (wr := []) (k_rv F (c_Rd_takeRing l D cI cB cJ cS rd jl jd a ab sh sn sv u w t lo wr pl n PN pn VN vn (va_up cl (w - 1) (cl (w - 1) - 1)) cd b pf fv (by omega) (by omega) (by omega) (by omega) (by omega) (by omega) (by omega) (by omega) (by omega) hb256 (hw54 (by omega)) k1 w1 t1 lo1 wr1 pl1 pn1 vn1 cl1 cd1 pf1 fv1 hs9) (cwV 0 hts (g_V wd_155 wd_156 wd_157 wd_55 wd_158) rfl rfl rfl (by decide +kernel) ⟨Nat.le_of_ble_eq_true rfl, Nat.le_of_ble_eq_true rfl⟩) hK hP hD hS hA hZ [0, 1, 2, 3, 4, 5, 6, 7] rfl (by decide) 0 rfl rfl rfl rfl hl.1 rfl (Nat.le_of_ble_eq_true rfl) dX2_takeItem_42 ⟨Nat.le_of_ble_eq_true rfl, Nat.le_of_ble_eq_true rfl⟩) hP hD hS hA [0, 1, 2, 3, 4, 5, 6, 7] [] rfl rfl (by decide) (by decide) (fun r u9 H locs hw hP hD hS => ?_)
      subst hw
      have hP : va_P D kCl [(rd, .inr (0, [.int (nI u), .ref jl, .ref jd, .int (nI w1), .ref a, .ref sh, .int (nI t1), .int (nI lo1), .int (nI wr1), .int (nI pl1)])), (jl, .inl (cJ, 54, .inr (.inl (lF cl1)))), (jd, .inl (cI, 54, .inl (iF cd1))), (a, .inr (1, [.ref ab, .int (nI n)])), (ab, .inl (cB, 65536, .inl (bF b))), (sh, .inr (2, [.ref sn, .ref sv, .int (nI pn1), .int (nI vn1)])), (sn, .inl (cI, PN, .inl (iF pf1))), (sv, .inl (cI, VN, .inl fv1))] H := hP
      have hD : va_D A [(rd, .inr (0, [.int (nI u), .ref jl, .ref jd, .int (nI w1), .ref a, .ref sh, .int (nI t1), .int (nI lo1), .int (nI wr1), .int (nI pl1)])), (jl, .inl (cJ, 54, .inr (.inl (lF cl1)))), (jd, .inl (cI, 54, .inl (iF cd1))), (a, .inr (1, [.ref ab, .int (nI n)])), (ab, .inl (cB, 65536, .inl (bF b))), (sh, .inr (2, [.ref sn, .ref sv, .int (nI pn1), .int (nI vn1)])), (sn, .inl (cI, PN, .inl (iF pf1))), (sv, .inl (cI, VN, .inl fv1))] := hD
      refine W.widen (k := 0) (n := 0) (Nat.le_of_ble_eq_true rfl) (Nat.le_of_ble_eq_true rfl) ?_
      refine lv_goto (tgt := 53) hx hb dX2_takeItem_45 (by decide) ?_
      exact k_iret () hx hb hr (by rcases (show k1 = 0 ∨ k1 = 1 by omega) with q | q <;> rw [q] <;> rfl) hlocks hK hP hD hS (rfl) (rfl) (Nat.le_of_ble_eq_true rfl) (Nat.le_of_ble_eq_true rfl) dX2_takeItem_53
  · skip
    refine lv_aload_n hx hb dX2_takeItem_30 rfl (lv_at hl 2 rfl) ?_
    have hs9 : sCoord b n u VN w t lo wr pl pn vn (va_up cl (w - 1) (cl (w - 1) - 1)) cd pf fv = (k1, (w1, t1, lo1, wr1, pl1, pn1, vn1, cl1, cd1, pf1, fv1)) := by rw [← hs]; unfold sItem; rw [if_pos h9]
    refine k_ci (wr := []) (k_rv F (c_Rd_takeCoordinate l D cI cB cJ cS rd jl jd a ab sh sn sv u w t lo wr pl n PN pn VN vn (va_up cl (w - 1) (cl (w - 1) - 1)) cd b pf fv (by omega) (by omega) (by omega) (by omega) (by omega) (by omega) (by omega) (by omega) (by omega) hb256 hu1 hu2 k1 w1 t1 lo1 wr1 pl1 pn1 vn1 cl1 cd1 pf1 fv1 hs9) (cwV 0 hts (g_V wd_159 wd_160 wd_161 wd_55 wd_162) rfl rfl rfl (by decide +kernel) ⟨Nat.le_of_ble_eq_true rfl, Nat.le_of_ble_eq_true rfl⟩) hK hP hD hS hA hZ [0, 1, 2, 3, 4, 5, 6, 7] rfl (by decide) 0 rfl rfl rfl rfl hl.1 rfl (Nat.le_of_ble_eq_true rfl) dX2_takeItem_31 ⟨Nat.le_of_ble_eq_true rfl, Nat.le_of_ble_eq_true rfl⟩) hP hD hS hA [0, 1, 2, 3, 4, 5, 6, 7] [] rfl rfl (by decide) (by decide) (fun r u9 H locs hw hP hD hS => ?_)
    subst hw
    have hP : va_P D kCl [(rd, .inr (0, [.int (nI u), .ref jl, .ref jd, .int (nI w1), .ref a, .ref sh, .int (nI t1), .int (nI lo1), .int (nI wr1), .int (nI pl1)])), (jl, .inl (cJ, 54, .inr (.inl (lF cl1)))), (jd, .inl (cI, 54, .inl (iF cd1))), (a, .inr (1, [.ref ab, .int (nI n)])), (ab, .inl (cB, 65536, .inl (bF b))), (sh, .inr (2, [.ref sn, .ref sv, .int (nI pn1), .int (nI vn1)])), (sn, .inl (cI, PN, .inl (iF pf1))), (sv, .inl (cI, VN, .inl fv1))] H := hP
    have hD : va_D A [(rd, .inr (0, [.int (nI u), .ref jl, .ref jd, .int (nI w1), .ref a, .ref sh, .int (nI t1), .int (nI lo1), .int (nI wr1), .int (nI pl1)])), (jl, .inl (cJ, 54, .inr (.inl (lF cl1)))), (jd, .inl (cI, 54, .inl (iF cd1))), (a, .inr (1, [.ref ab, .int (nI n)])), (ab, .inl (cB, 65536, .inl (bF b))), (sh, .inr (2, [.ref sn, .ref sv, .int (nI pn1), .int (nI vn1)])), (sn, .inl (cI, PN, .inl (iF pf1))), (sv, .inl (cI, VN, .inl fv1))] := hD
    refine W.widen (k := 0) (n := 0) (Nat.le_of_ble_eq_true rfl) (Nat.le_of_ble_eq_true rfl) ?_
    exact k_iret () hx hb hr (by rcases (show k1 = 0 ∨ k1 = 1 by omega) with q | q <;> rw [q] <;> rfl) hlocks hK hP hD hS (rfl) (rfl) (Nat.le_of_ble_eq_true rfl) (Nat.le_of_ble_eq_true rfl) dX2_takeItem_34

set_option maxRecDepth 100000 in
set_option maxHeartbeats 4000000 in
theorem c_Rd_leaveFinished (l : Launch) (D : va_G) (cI cB cJ cS : ClassId) (rd jl jd a ab sh sn sv u w t lo wr pl n PN pn VN vn : Nat) (cl cd b pf : Nat → Nat) (fv : Nat → Int32) (ht : t ≤ n) (hn : n ≤ 65536) (hlo2 : lo < 2) (hw : w ≤ 54) (hPN : PN ≤ 4096) (hpn : pn ≤ PN) (hVN : VN ≤ 8192) (hvn : vn ≤ VN) (h2 : 2 ≤ VN) (hb256 : ∀ j, b j < 256) (hcl : ∀ i, cl i < 2 ^ 63)  : kM l yX2_leaveFinished vsX2_leaveFinished ({ frames := 0, cells := 0, slots := 0, locals := 0 }) D (kT cI cB cJ cS) [.ref rd] [(rd, .inr (0, [.int (nI u), .ref jl, .ref jd, .int (nI w), .ref a, .ref sh, .int (nI t), .int (nI lo), .int (nI wr), .int (nI pl)])), (jl, .inl (cJ, 54, .inr (.inl (lF cl)))), (jd, .inl (cI, 54, .inl (iF cd))), (a, .inr (1, [.ref ab, .int (nI n)])), (ab, .inl (cB, 65536, .inl (bF b))), (sh, .inr (2, [.ref sn, .ref sv, .int (nI pn), .int (nI vn)])), (sn, .inl (cI, PN, .inl (iF pf))), (sv, .inl (cI, VN, .inl fv))] (kQv D (kT cI cB cJ cS) (fun (ug : Unit) => True) (fun ug => [(rd, .inr (0, [.int (nI u), .ref jl, .ref jd, .int (nI (popZ cl w)), .ref a, .ref sh, .int (nI t), .int (nI lo), .int (nI wr), .int (nI pl)])), (jl, .inl (cJ, 54, .inr (.inl (lF cl)))), (jd, .inl (cI, 54, .inl (iF cd))), (a, .inr (1, [.ref ab, .int (nI n)])), (ab, .inl (cB, 65536, .inl (bF b))), (sh, .inr (2, [.ref sn, .ref sv, .int (nI pn), .int (nI vn)])), (sn, .inl (cI, PN, .inl (iF pf))), (sv, .inl (cI, VN, .inl fv))])) := by
  refine k_ofW (by decide) rfl (Nat.le_of_ble_eq_true rfl) ?_
  intro p e s m below meth c A ls hx hb hr hts hown hlocks hmn hml hA hP hK hD hS hZ hl
  have inX2 : ∀ w ∈ wsX20, w ∈ vsX2_leaveFinished := fun w h => List.mem_cons_of_mem _ (iaX2 w h)
  have inX3 : ∀ w ∈ wsX30, w ∈ vsX2_leaveFinished := fun w h => List.mem_cons_of_mem _ (iaX3 w h)
  have inX4 : ∀ w ∈ wsX40, w ∈ vsX2_leaveFinished := fun w h => List.mem_cons_of_mem _ (iaX4 w h)
  have F : CallFix p m c cX2_leaveFinished 1 s _ vsX2_leaveFinished RX2 := ⟨hx, hb, hml, hown, hts⟩
  have hl : lv_has ls 1 [(0, .ref rd)] := hl
  have loop116 : ∀ (k117 : Nat) (v : Nat) (H : Heap) (locs : List Loc) (ls : Array Slot), v < k117 → (v ≤ 54) → (popZ cl v = popZ cl w) → va_P D kCl [(rd, .inr (0, [.int (nI u), .ref jl, .ref jd, .int (nI v), .ref a, .ref sh, .int (nI t), .int (nI lo), .int (nI wr), .int (nI pl)])), (jl, .inl (cJ, 54, .inr (.inl (lF cl)))), (jd, .inl (cI, 54, .inl (iF cd))), (a, .inr (1, [.ref ab, .int (nI n)])), (ab, .inl (cB, 65536, .inl (bF b))), (sh, .inr (2, [.ref sn, .ref sv, .int (nI pn), .int (nI vn)])), (sn, .inl (cI, PN, .inl (iF pf))), (sv, .inl (cI, VN, .inl fv))] H → va_D A [(rd, .inr (0, [.int (nI u), .ref jl, .ref jd, .int (nI v), .ref a, .ref sh, .int (nI t), .int (nI lo), .int (nI wr), .int (nI pl)])), (jl, .inl (cJ, 54, .inr (.inl (lF cl)))), (jd, .inl (cI, 54, .inl (iF cd))), (a, .inr (1, [.ref ab, .int (nI n)])), (ab, .inl (cB, 65536, .inl (bF b))), (sh, .inr (2, [.ref sn, .ref sv, .int (nI pn), .int (nI vn)])), (sn, .inl (cI, PN, .inl (iF pf))), (sv, .inl (cI, VN, .inl fv))] → va_S A s.heap H locs → lv_has ls 1 [(0, .ref rd)] → W p l e ({ frames := 0, cells := 0, slots := 0, locals := 0 }) s m ([.ref rd] : List Value).toArray below meth c H locs 0 0 (MQ below ((kQv D (kT cI cB cJ cS) (fun (ug : Unit) => True) (fun ug => [(rd, .inr (0, [.int (nI u), .ref jl, .ref jd, .int (nI (popZ cl w)), .ref a, .ref sh, .int (nI t), .int (nI lo), .int (nI wr), .int (nI pl)])), (jl, .inl (cJ, 54, .inr (.inl (lF cl)))), (jd, .inl (cI, 54, .inl (iF cd))), (a, .inr (1, [.ref ab, .int (nI n)])), (ab, .inl (cB, 65536, .inl (bF b))), (sh, .inr (2, [.ref sn, .ref sv, .int (nI pn), .int (nI vn)])), (sn, .inl (cI, PN, .inl (iF pf))), (sv, .inl (cI, VN, .inl fv))])) A) ([.ref rd] : List Value).toArray s ({ frames := 0, cells := 0, slots := 0, locals := 0 } : Room).cells ({ frames := 0, cells := 0, slots := 0, locals := 0 } : Room).slots A) (F0 m 0 ls []) := by
    intro k117
    induction k117 with
    | zero =>
      intro v H locs ls hk9
      exact absurd hk9 (Nat.not_lt_zero _)
    | succ k117 ihloop116 =>
      intro v H locs ls hk9 hv hpz hP hD hS hl
      refine lv_aload_n hx hb dX2_leaveFinished_0 rfl (lv_at hl 0 rfl) ?_
      refine va_get (D := D) (ci := 0) (v := .int (nI v)) (C := RX2) (T := TX2) (N := 10) hx hb hts inX2 hown hK hP 0 rfl rfl 3 (by decide) (hts (.fieldLink RX2 33 "ByteShapes$Reader" "waiting" "I") (List.mem_cons_of_mem _ wd_62)) (fun _ h9 => h9) rfl dX2_leaveFinished_1 ?_
      refine k_if_le (tgt := 36) (by omega) hx hb dX2_leaveFinished_4 (by decide) (fun hv0 => ?_) (fun hv0 => ?_)
      · skip
        exact k_vret () hx hb hr hlocks hK hP hD hS (by rw [← hpz]; first | rw [hv0]; rfl | rw [show popZ cl v = v from popZ_n (by omega) hz]) (trivial) (Nat.le_of_ble_eq_true rfl) (Nat.le_of_ble_eq_true rfl) dX2_leaveFinished_36
      · skip
        refine lv_aload_n hx hb dX2_leaveFinished_7 rfl (lv_at hl 0 rfl) ?_
        refine va_get (D := D) (ci := 0) (v := .ref jl) (C := RX2) (T := TX2) (N := 10) hx hb hts inX2 hown hK hP 0 rfl rfl 1 (by decide) (hts (.fieldLink RX2 11 "ByteShapes$Reader" "itemsLeft" "[J") (List.mem_cons_of_mem _ wd_63)) (fun _ h9 => h9) rfl dX2_leaveFinished_8 ?_
        refine lv_aload_n hx hb dX2_leaveFinished_11 rfl (lv_at hl 0 rfl) ?_
        refine va_get (D := D) (ci := 0) (v := .int (nI v)) (C := RX2) (T := TX2) (N := 10) hx hb hts inX2 hown hK hP 0 rfl rfl 3 (by decide) (hts (.fieldLink RX2 33 "ByteShapes$Reader" "waiting" "I") (List.mem_cons_of_mem _ wd_62)) (fun _ h9 => h9) rfl dX2_leaveFinished_12 ?_
        refine lv_iconst (v := nI 1) hx hb dX2_leaveFinished_15 (by decide) ?_
        refine lv_isub hx hb dX2_leaveFinished_16 ?_
        refine k_i (show _ = nI (v - 1) from pk_sub (by omega)) ?_
        refine va_lald hx hb hK hP 1 2 rfl rfl (vp_in_nI (by omega) (by omega)) dX2_leaveFinished_17 ?_
        refine k_l (show _ = (lF cl) (v - 1) from congrArg (lF cl) (nI_clamp (by omega))) ?_
        refine k_l (show _ = lN (cl (v - 1)) from rfl) ?_
        refine lv_lconst (v := lN 0) hx hb dX2_leaveFinished_18 (by decide) ?_
        refine W.lcmp hx hb dX2_leaveFinished_19 ?_
        refine k_lcmpN_ne (tgt := 36) (hcl _) (by decide) hx hb dX2_leaveFinished_20 (by decide) (fun hz => ?_) (fun hz => ?_)
        · skip
          exact k_vret () hx hb hr hlocks hK hP hD hS (by rw [← hpz]; first | rw [hv0]; rfl | rw [show popZ cl v = v from popZ_n (by omega) hz]) (trivial) (Nat.le_of_ble_eq_true rfl) (Nat.le_of_ble_eq_true rfl) dX2_leaveFinished_36
        · skip
          refine lv_aload_n hx hb dX2_leaveFinished_23 rfl (lv_at hl 0 rfl) ?_
          refine lv_dup hx hb dX2_leaveFinished_24 rfl ?_
          refine va_get (D := D) (ci := 0) (v := .int (nI v)) (C := RX2) (T := TX2) (N := 10) hx hb hts inX2 hown hK hP 0 rfl rfl 3 (by decide) (hts (.fieldLink RX2 33 "ByteShapes$Reader" "waiting" "I") (List.mem_cons_of_mem _ wd_62)) (fun _ h9 => h9) rfl dX2_leaveFinished_25 ?_
          refine lv_iconst (v := nI 1) hx hb dX2_leaveFinished_28 (by decide) ?_
          refine lv_isub hx hb dX2_leaveFinished_29 ?_
          refine k_i (show _ = nI (v - 1) from pk_sub (by omega)) ?_
          refine va_put (D := D) (ci := 0) (v := .int (nI (v - 1))) (ty := .int) (C := RX2) (T := TX2) (N := 10) hx hb hts inX2 tyX2 tyX2_ok nmX2 hown hK hP hD hS 0 rfl rfl 3 (by decide) (hts (.fieldLink RX2 33 "ByteShapes$Reader" "waiting" "I") (List.mem_cons_of_mem _ wd_62)) (fun _ h9 => h9) rfl (by decide +kernel) (rfl) (rfl) (Nat.le_of_ble_eq_true rfl) dX2_leaveFinished_30 (fun H locs hP hD hS => ?_)
          have hP : va_P D kCl [(rd, .inr (0, [.int (nI u), .ref jl, .ref jd, .int (nI (v - 1)), .ref a, .ref sh, .int (nI t), .int (nI lo), .int (nI wr), .int (nI pl)])), (jl, .inl (cJ, 54, .inr (.inl (lF cl)))), (jd, .inl (cI, 54, .inl (iF cd))), (a, .inr (1, [.ref ab, .int (nI n)])), (ab, .inl (cB, 65536, .inl (bF b))), (sh, .inr (2, [.ref sn, .ref sv, .int (nI pn), .int (nI vn)])), (sn, .inl (cI, PN, .inl (iF pf))), (sv, .inl (cI, VN, .inl fv))] H := hP
          have hD : va_D A [(rd, .inr (0, [.int (nI u), .ref jl, .ref jd, .int (nI (v - 1)), .ref a, .ref sh, .int (nI t), .int (nI lo), .int (nI wr), .int (nI pl)])), (jl, .inl (cJ, 54, .inr (.inl (lF cl)))), (jd, .inl (cI, 54, .inl (iF cd))), (a, .inr (1, [.ref ab, .int (nI n)])), (ab, .inl (cB, 65536, .inl (bF b))), (sh, .inr (2, [.ref sn, .ref sv, .int (nI pn), .int (nI vn)])), (sn, .inl (cI, PN, .inl (iF pf))), (sv, .inl (cI, VN, .inl fv))] := hD
          refine lv_goto (tgt := 0) hx hb dX2_leaveFinished_33 (by decide) ?_
          exact ihloop116 (v - 1) _ _ _ (by omega) (by omega) (by rw [← hpz, show v = (v - 1) + 1 by omega]; exact (popZ_0 hz).symm) (hP.sub [0, 1, 2, 3, 4, 5, 6, 7] rfl) (hD.sub [0, 1, 2, 3, 4, 5, 6, 7] (by decide) rfl) hS (lv_sub hl [0] rfl)
  exact loop116 (w + 1) w _ _ _ (Nat.lt_succ_self _) (hw) (rfl) (hP.sub [0, 1, 2, 3, 4, 5, 6, 7] rfl) (hD.sub [0, 1, 2, 3, 4, 5, 6, 7] (by decide) rfl) hS (lv_sub hl [0] rfl)

