set_option maxRecDepth 100000 in
set_option maxHeartbeats 4000000 in
theorem c_Row_valueAtX (l : Launch) (D : va_G) (cI cB cJ cS : ClassId) (hl9 : l.stackTraces = false) (a ab n : Nat) (b : Nat → Nat) (z : Int32) (hz : z < 0 ∨ nI n ≤ z) : kX l yX3_valueAt vsX3_valueAt ({ frames := 6, cells := 1, slots := 6, locals := 82 }) D (kT cI cB cJ cS) [.ref a, .int z] [(a, .inr (1, [.ref ab, .int (nI n)])), (ab, .inl (cB, 65536, .inl (bF b)))] "java/lang/IndexOutOfBoundsException" [(a, .inr (1, [.ref ab, .int (nI n)])), (ab, .inl (cB, 65536, .inl (bF b)))] := by
  refine k_ofX (by decide) rfl (Nat.le_of_ble_eq_true rfl) ?_
  intro p e s m below meth c A ls hx hb hr hts hown hlocks hmn hml hA hP hK hD hS hZ hl hxt
  have inX3 : ∀ w ∈ wsX30, w ∈ vsX3_valueAt := fun w h => List.mem_cons_of_mem _ (iaX3 w h)
  have F : CallFix p m c cX3_valueAt 2 s _ vsX3_valueAt RX3 := ⟨hx, hb, hml, hown, hts⟩
  have hl : lv_has ls 2 [(0, .ref a), (1, .int z)] := hl
  refine lv_iload_n hx hb dX3_valueAt_0 rfl (lv_at hl 1 rfl) ?_
  refine lv_if_lt (tgt := 12) hx hb dX3_valueAt_1 (by decide) (fun c1 => ?_) (fun c1 => ?_)
  · skip
    exact k_thr (own := RX3) (E := "java/lang/IndexOutOfBoundsException") (names := ["java/lang/RuntimeException", "java/lang/Exception"]) (text := "no such byte") hx hb hl9 hown (by decide +kernel) (by decide +kernel) (hts (.classLink RX3 29 "java/lang/IndexOutOfBoundsException") (List.mem_cons_of_mem _ wd_179)) (hts (.initialized "java/lang/IndexOutOfBoundsException") (List.mem_cons_of_mem _ wd_180)) (hZ.str (q := (RX3, 31, "no such byte")) (by decide +kernel)) (vx_hat (L := vx_atS RX3 33 "java/lang/IndexOutOfBoundsException" ["java/lang/RuntimeException", "java/lang/Exception"]) (B := [.castable "java/lang/IndexOutOfBoundsException" "java/lang/IndexOutOfBoundsException", .declares ⟨"java/lang/RuntimeException", "<init>", "(Ljava/lang/String;)V"⟩, .declares ⟨"java/lang/Exception", "<init>", "(Ljava/lang/String;)V"⟩, .declares ⟨"java/lang/Throwable", "<init>", "(Ljava/lang/String;)V"⟩]) (fun w hw => hts w (List.mem_cons_of_mem _ (atw_0 w hw))) (by decide +kernel) (vx_c (va_Nw.use rfl (hZ.nw (w := .castable "java/lang/IndexOutOfBoundsException" "java/lang/IndexOutOfBoundsException") (by decide +kernel))) (vx_c (va_Nw.use rfl (hZ.nw (w := .declares ⟨"java/lang/RuntimeException", "<init>", "(Ljava/lang/String;)V"⟩) (by decide +kernel))) (vx_c (va_Nw.use rfl (hZ.nw (w := .declares ⟨"java/lang/Exception", "<init>", "(Ljava/lang/String;)V"⟩) (by decide +kernel))) (vx_c (va_Nw.use rfl (hZ.nw (w := .declares ⟨"java/lang/Throwable", "<init>", "(Ljava/lang/String;)V"⟩) (by decide +kernel))) (vx_n)))))) (by decide +kernel) hZ hK hP hD hS (hl.1.trans hml.symm) dX3_valueAt_12 dX3_valueAt_15 dX3_valueAt_16 dX3_valueAt_18 dX3_valueAt_21 hxt (Nat.le_of_ble_eq_true rfl) (Nat.le_of_ble_eq_true rfl) (Nat.le_of_ble_eq_true rfl) (Nat.le_of_ble_eq_true rfl) hlocks (rfl) (Nat.le_of_ble_eq_true rfl) (Nat.le_of_ble_eq_true rfl)
  · skip
    refine lv_iload_n hx hb dX3_valueAt_4 rfl (lv_at hl 1 rfl) ?_
    refine lv_aload_n hx hb dX3_valueAt_5 rfl (lv_at hl 0 rfl) ?_
    refine va_get (D := D) (ci := 1) (v := .int (nI n)) (C := RX3) (T := TX3) (N := 2) hx hb hts inX3 hown hK hP 0 rfl rfl 1 (by decide) (hts (.fieldLink RX3 19 "ByteShapes$Row" "size" "I") (List.mem_cons_of_mem _ wd_7)) (fun _ h9 => h9) rfl dX3_valueAt_6 ?_
    refine lv_icmp_lt (tgt := 22) hx hb dX3_valueAt_9 (by decide) (fun c2 => ?_) (fun c2 => ?_)
    · skip
      exact absurd c2 (fun q => hz.elim c1 (fun r => absurd q (Int32.not_lt.mpr r)))
    · skip
      exact k_thr (own := RX3) (E := "java/lang/IndexOutOfBoundsException") (names := ["java/lang/RuntimeException", "java/lang/Exception"]) (text := "no such byte") hx hb hl9 hown (by decide +kernel) (by decide +kernel) (hts (.classLink RX3 29 "java/lang/IndexOutOfBoundsException") (List.mem_cons_of_mem _ wd_179)) (hts (.initialized "java/lang/IndexOutOfBoundsException") (List.mem_cons_of_mem _ wd_180)) (hZ.str (q := (RX3, 31, "no such byte")) (by decide +kernel)) (vx_hat (L := vx_atS RX3 33 "java/lang/IndexOutOfBoundsException" ["java/lang/RuntimeException", "java/lang/Exception"]) (B := [.castable "java/lang/IndexOutOfBoundsException" "java/lang/IndexOutOfBoundsException", .declares ⟨"java/lang/RuntimeException", "<init>", "(Ljava/lang/String;)V"⟩, .declares ⟨"java/lang/Exception", "<init>", "(Ljava/lang/String;)V"⟩, .declares ⟨"java/lang/Throwable", "<init>", "(Ljava/lang/String;)V"⟩]) (fun w hw => hts w (List.mem_cons_of_mem _ (atw_0 w hw))) (by decide +kernel) (vx_c (va_Nw.use rfl (hZ.nw (w := .castable "java/lang/IndexOutOfBoundsException" "java/lang/IndexOutOfBoundsException") (by decide +kernel))) (vx_c (va_Nw.use rfl (hZ.nw (w := .declares ⟨"java/lang/RuntimeException", "<init>", "(Ljava/lang/String;)V"⟩) (by decide +kernel))) (vx_c (va_Nw.use rfl (hZ.nw (w := .declares ⟨"java/lang/Exception", "<init>", "(Ljava/lang/String;)V"⟩) (by decide +kernel))) (vx_c (va_Nw.use rfl (hZ.nw (w := .declares ⟨"java/lang/Throwable", "<init>", "(Ljava/lang/String;)V"⟩) (by decide +kernel))) (vx_n)))))) (by decide +kernel) hZ hK hP hD hS (hl.1.trans hml.symm) dX3_valueAt_12 dX3_valueAt_15 dX3_valueAt_16 dX3_valueAt_18 dX3_valueAt_21 hxt (Nat.le_of_ble_eq_true rfl) (Nat.le_of_ble_eq_true rfl) (Nat.le_of_ble_eq_true rfl) (Nat.le_of_ble_eq_true rfl) hlocks (rfl) (Nat.le_of_ble_eq_true rfl) (Nat.le_of_ble_eq_true rfl)

set_option maxRecDepth 100000 in
set_option maxHeartbeats 4000000 in
theorem c_Shape_planAtX (l : Launch) (D : va_G) (cI cB cJ cS : ClassId) (hl9 : l.stackTraces = false) (a an av PN pn VN vn : Nat) (pf : Nat → Nat) (fv : Nat → Int32) (z : Int32) (hz : z < 0 ∨ nI pn ≤ z) : kX l yX4_planAt vsX4_planAt ({ frames := 6, cells := 1, slots := 6, locals := 82 }) D (kT cI cB cJ cS) [.ref a, .int z] [(a, .inr (2, [.ref an, .ref av, .int (nI pn), .int (nI vn)])), (an, .inl (cI, PN, .inl (iF pf))), (av, .inl (cI, VN, .inl fv))] "java/lang/IndexOutOfBoundsException" [(a, .inr (2, [.ref an, .ref av, .int (nI pn), .int (nI vn)])), (an, .inl (cI, PN, .inl (iF pf))), (av, .inl (cI, VN, .inl fv))] := by
  refine k_ofX (by decide) rfl (Nat.le_of_ble_eq_true rfl) ?_
  intro p e s m below meth c A ls hx hb hr hts hown hlocks hmn hml hA hP hK hD hS hZ hl hxt
  have inX4 : ∀ w ∈ wsX40, w ∈ vsX4_planAt := fun w h => List.mem_cons_of_mem _ (iaX4 w h)
  have F : CallFix p m c cX4_planAt 2 s _ vsX4_planAt RX4 := ⟨hx, hb, hml, hown, hts⟩
  have hl : lv_has ls 2 [(0, .ref a), (1, .int z)] := hl
  refine lv_iload_n hx hb dX4_planAt_0 rfl (lv_at hl 1 rfl) ?_
  refine lv_if_lt (tgt := 12) hx hb dX4_planAt_1 (by decide) (fun c1 => ?_) (fun c1 => ?_)
  · skip
    exact k_thr (own := RX4) (E := "java/lang/IndexOutOfBoundsException") (names := ["java/lang/RuntimeException", "java/lang/Exception"]) (text := "no such plan number") hx hb hl9 hown (by decide +kernel) (by decide +kernel) (hts (.classLink RX4 29 "java/lang/IndexOutOfBoundsException") (List.mem_cons_of_mem _ wd_181)) (hts (.initialized "java/lang/IndexOutOfBoundsException") (List.mem_cons_of_mem _ wd_180)) (hZ.str (q := (RX4, 31, "no such plan number")) (by decide +kernel)) (vx_hat (L := vx_atS RX4 33 "java/lang/IndexOutOfBoundsException" ["java/lang/RuntimeException", "java/lang/Exception"]) (B := [.castable "java/lang/IndexOutOfBoundsException" "java/lang/IndexOutOfBoundsException", .declares ⟨"java/lang/RuntimeException", "<init>", "(Ljava/lang/String;)V"⟩, .declares ⟨"java/lang/Exception", "<init>", "(Ljava/lang/String;)V"⟩, .declares ⟨"java/lang/Throwable", "<init>", "(Ljava/lang/String;)V"⟩]) (fun w hw => hts w (List.mem_cons_of_mem _ (atw_1 w hw))) (by decide +kernel) (vx_c (va_Nw.use rfl (hZ.nw (w := .castable "java/lang/IndexOutOfBoundsException" "java/lang/IndexOutOfBoundsException") (by decide +kernel))) (vx_c (va_Nw.use rfl (hZ.nw (w := .declares ⟨"java/lang/RuntimeException", "<init>", "(Ljava/lang/String;)V"⟩) (by decide +kernel))) (vx_c (va_Nw.use rfl (hZ.nw (w := .declares ⟨"java/lang/Exception", "<init>", "(Ljava/lang/String;)V"⟩) (by decide +kernel))) (vx_c (va_Nw.use rfl (hZ.nw (w := .declares ⟨"java/lang/Throwable", "<init>", "(Ljava/lang/String;)V"⟩) (by decide +kernel))) (vx_n)))))) (by decide +kernel) hZ hK hP hD hS (hl.1.trans hml.symm) dX4_planAt_12 dX4_planAt_15 dX4_planAt_16 dX4_planAt_18 dX4_planAt_21 hxt (Nat.le_of_ble_eq_true rfl) (Nat.le_of_ble_eq_true rfl) (Nat.le_of_ble_eq_true rfl) (Nat.le_of_ble_eq_true rfl) hlocks (rfl) (Nat.le_of_ble_eq_true rfl) (Nat.le_of_ble_eq_true rfl)
  · skip
    refine lv_iload_n hx hb dX4_planAt_4 rfl (lv_at hl 1 rfl) ?_
    refine lv_aload_n hx hb dX4_planAt_5 rfl (lv_at hl 0 rfl) ?_
    refine va_get (D := D) (ci := 2) (v := .int (nI pn)) (C := RX4) (T := TX4) (N := 4) hx hb hts inX4 hown hK hP 0 rfl rfl 2 (by decide) (hts (.fieldLink RX4 22 "ByteShapes$Shape" "numbersKept" "I") (List.mem_cons_of_mem _ wd_34)) (fun _ h9 => h9) rfl dX4_planAt_6 ?_
    refine lv_icmp_lt (tgt := 22) hx hb dX4_planAt_9 (by decide) (fun c2 => ?_) (fun c2 => ?_)
    · skip
      exact absurd c2 (fun q => hz.elim c1 (fun r => absurd q (Int32.not_lt.mpr r)))
    · skip
      exact k_thr (own := RX4) (E := "java/lang/IndexOutOfBoundsException") (names := ["java/lang/RuntimeException", "java/lang/Exception"]) (text := "no such plan number") hx hb hl9 hown (by decide +kernel) (by decide +kernel) (hts (.classLink RX4 29 "java/lang/IndexOutOfBoundsException") (List.mem_cons_of_mem _ wd_181)) (hts (.initialized "java/lang/IndexOutOfBoundsException") (List.mem_cons_of_mem _ wd_180)) (hZ.str (q := (RX4, 31, "no such plan number")) (by decide +kernel)) (vx_hat (L := vx_atS RX4 33 "java/lang/IndexOutOfBoundsException" ["java/lang/RuntimeException", "java/lang/Exception"]) (B := [.castable "java/lang/IndexOutOfBoundsException" "java/lang/IndexOutOfBoundsException", .declares ⟨"java/lang/RuntimeException", "<init>", "(Ljava/lang/String;)V"⟩, .declares ⟨"java/lang/Exception", "<init>", "(Ljava/lang/String;)V"⟩, .declares ⟨"java/lang/Throwable", "<init>", "(Ljava/lang/String;)V"⟩]) (fun w hw => hts w (List.mem_cons_of_mem _ (atw_1 w hw))) (by decide +kernel) (vx_c (va_Nw.use rfl (hZ.nw (w := .castable "java/lang/IndexOutOfBoundsException" "java/lang/IndexOutOfBoundsException") (by decide +kernel))) (vx_c (va_Nw.use rfl (hZ.nw (w := .declares ⟨"java/lang/RuntimeException", "<init>", "(Ljava/lang/String;)V"⟩) (by decide +kernel))) (vx_c (va_Nw.use rfl (hZ.nw (w := .declares ⟨"java/lang/Exception", "<init>", "(Ljava/lang/String;)V"⟩) (by decide +kernel))) (vx_c (va_Nw.use rfl (hZ.nw (w := .declares ⟨"java/lang/Throwable", "<init>", "(Ljava/lang/String;)V"⟩) (by decide +kernel))) (vx_n)))))) (by decide +kernel) hZ hK hP hD hS (hl.1.trans hml.symm) dX4_planAt_12 dX4_planAt_15 dX4_planAt_16 dX4_planAt_18 dX4_planAt_21 hxt (Nat.le_of_ble_eq_true rfl) (Nat.le_of_ble_eq_true rfl) (Nat.le_of_ble_eq_true rfl) (Nat.le_of_ble_eq_true rfl) hlocks (rfl) (Nat.le_of_ble_eq_true rfl) (Nat.le_of_ble_eq_true rfl)

set_option maxRecDepth 100000 in
set_option maxHeartbeats 4000000 in
theorem c_Shape_valueOfPointX (l : Launch) (D : va_G) (cI cB cJ cS : ClassId) (hl9 : l.stackTraces = false) (a an av PN pn VN vn : Nat) (pf : Nat → Nat) (fv : Nat → Int32) (hVN : VN ≤ 8192) (hvn : vn ≤ VN) (z y : Int32) (hz : (z < 0 ∨ nI (vn / 2) ≤ z) ∨ (y < 0 ∨ nI 1 < y)) : kX l yX4_valueOfPoint vsX4_valueOfPoint ({ frames := 6, cells := 1, slots := 6, locals := 82 }) D (kT cI cB cJ cS) [.ref a, .int z, .int y] [(a, .inr (2, [.ref an, .ref av, .int (nI pn), .int (nI vn)])), (an, .inl (cI, PN, .inl (iF pf))), (av, .inl (cI, VN, .inl fv))] "java/lang/IndexOutOfBoundsException" [(a, .inr (2, [.ref an, .ref av, .int (nI pn), .int (nI vn)])), (an, .inl (cI, PN, .inl (iF pf))), (av, .inl (cI, VN, .inl fv))] := by
  refine k_ofX (by decide) rfl (Nat.le_of_ble_eq_true rfl) ?_
  intro p e s m below meth c A ls hx hb hr hts hown hlocks hmn hml hA hP hK hD hS hZ hl hxt
  have inX4 : ∀ w ∈ wsX40, w ∈ vsX4_valueOfPoint := fun w h => List.mem_cons_of_mem _ (iaX4 w h)
  have F : CallFix p m c cX4_valueOfPoint 3 s _ vsX4_valueOfPoint RX4 := ⟨hx, hb, hml, hown, hts⟩
  have hl : lv_has ls 3 [(0, .ref a), (1, .int z), (2, .int y)] := hl
  refine lv_iload_n hx hb dX4_valueOfPoint_0 rfl (lv_at hl 1 rfl) ?_
  refine lv_if_lt (tgt := 21) hx hb dX4_valueOfPoint_1 (by decide) (fun c1 => ?_) (fun c1 => ?_)
  · skip
    exact k_thr (own := RX4) (E := "java/lang/IndexOutOfBoundsException") (names := ["java/lang/RuntimeException", "java/lang/Exception"]) (text := "no such x or y") hx hb hl9 hown (by decide +kernel) (by decide +kernel) (hts (.classLink RX4 29 "java/lang/IndexOutOfBoundsException") (List.mem_cons_of_mem _ wd_181)) (hts (.initialized "java/lang/IndexOutOfBoundsException") (List.mem_cons_of_mem _ wd_180)) (hZ.str (q := (RX4, 40, "no such x or y")) (by decide +kernel)) (vx_hat (L := vx_atS RX4 33 "java/lang/IndexOutOfBoundsException" ["java/lang/RuntimeException", "java/lang/Exception"]) (B := [.castable "java/lang/IndexOutOfBoundsException" "java/lang/IndexOutOfBoundsException", .declares ⟨"java/lang/RuntimeException", "<init>", "(Ljava/lang/String;)V"⟩, .declares ⟨"java/lang/Exception", "<init>", "(Ljava/lang/String;)V"⟩, .declares ⟨"java/lang/Throwable", "<init>", "(Ljava/lang/String;)V"⟩]) (fun w hw => hts w (List.mem_cons_of_mem _ (atw_1 w hw))) (by decide +kernel) (vx_c (va_Nw.use rfl (hZ.nw (w := .castable "java/lang/IndexOutOfBoundsException" "java/lang/IndexOutOfBoundsException") (by decide +kernel))) (vx_c (va_Nw.use rfl (hZ.nw (w := .declares ⟨"java/lang/RuntimeException", "<init>", "(Ljava/lang/String;)V"⟩) (by decide +kernel))) (vx_c (va_Nw.use rfl (hZ.nw (w := .declares ⟨"java/lang/Exception", "<init>", "(Ljava/lang/String;)V"⟩) (by decide +kernel))) (vx_c (va_Nw.use rfl (hZ.nw (w := .declares ⟨"java/lang/Throwable", "<init>", "(Ljava/lang/String;)V"⟩) (by decide +kernel))) (vx_n)))))) (by decide +kernel) hZ hK hP hD hS (hl.1.trans hml.symm) dX4_valueOfPoint_21 dX4_valueOfPoint_24 dX4_valueOfPoint_25 dX4_valueOfPoint_27 dX4_valueOfPoint_30 hxt (Nat.le_of_ble_eq_true rfl) (Nat.le_of_ble_eq_true rfl) (Nat.le_of_ble_eq_true rfl) (Nat.le_of_ble_eq_true rfl) hlocks (rfl) (Nat.le_of_ble_eq_true rfl) (Nat.le_of_ble_eq_true rfl)
  · skip
    refine lv_iload_n hx hb dX4_valueOfPoint_4 rfl (lv_at hl 1 rfl) ?_
    refine lv_aload_n hx hb dX4_valueOfPoint_5 rfl (lv_at hl 0 rfl) ?_
    refine k_ci (wr := []) (k_rv F (c_Shape_pointSize l D cI cB cJ cS a an av PN pn VN vn pf fv hVN hvn) (cwV 0 hts (g_V wd_38 wd_39 wd_40 wd_41 wd_42) rfl rfl rfl (by decide +kernel) ⟨Nat.le_of_ble_eq_true rfl, Nat.le_of_ble_eq_true rfl⟩) hK hP hD hS hA hZ [0, 1, 2] rfl (by decide) 0 rfl rfl rfl rfl hl.1 rfl (Nat.le_of_ble_eq_true rfl) dX4_valueOfPoint_6 ⟨Nat.le_of_ble_eq_true rfl, Nat.le_of_ble_eq_true rfl⟩) hP hD hS hA [0, 1, 2] [] rfl rfl (by decide) (by decide) (fun r u9 H locs hw hP hD hS => ?_)
    subst hw
    have hP : va_P D kCl [(a, .inr (2, [.ref an, .ref av, .int (nI pn), .int (nI vn)])), (an, .inl (cI, PN, .inl (iF pf))), (av, .inl (cI, VN, .inl fv))] H := hP
    have hD : va_D A [(a, .inr (2, [.ref an, .ref av, .int (nI pn), .int (nI vn)])), (an, .inl (cI, PN, .inl (iF pf))), (av, .inl (cI, VN, .inl fv))] := hD
    refine W.widen (k := 0) (n := 0) (Nat.le_of_ble_eq_true rfl) (Nat.le_of_ble_eq_true rfl) ?_
    refine lv_icmp_ge (tgt := 21) hx hb dX4_valueOfPoint_9 (by decide) (fun c2 => ?_) (fun c2 => ?_)
    · skip
      exact k_thr (own := RX4) (E := "java/lang/IndexOutOfBoundsException") (names := ["java/lang/RuntimeException", "java/lang/Exception"]) (text := "no such x or y") hx hb hl9 hown (by decide +kernel) (by decide +kernel) (hts (.classLink RX4 29 "java/lang/IndexOutOfBoundsException") (List.mem_cons_of_mem _ wd_181)) (hts (.initialized "java/lang/IndexOutOfBoundsException") (List.mem_cons_of_mem _ wd_180)) (hZ.str (q := (RX4, 40, "no such x or y")) (by decide +kernel)) (vx_hat (L := vx_atS RX4 33 "java/lang/IndexOutOfBoundsException" ["java/lang/RuntimeException", "java/lang/Exception"]) (B := [.castable "java/lang/IndexOutOfBoundsException" "java/lang/IndexOutOfBoundsException", .declares ⟨"java/lang/RuntimeException", "<init>", "(Ljava/lang/String;)V"⟩, .declares ⟨"java/lang/Exception", "<init>", "(Ljava/lang/String;)V"⟩, .declares ⟨"java/lang/Throwable", "<init>", "(Ljava/lang/String;)V"⟩]) (fun w hw => hts w (List.mem_cons_of_mem _ (atw_1 w hw))) (by decide +kernel) (vx_c (va_Nw.use rfl (hZ.nw (w := .castable "java/lang/IndexOutOfBoundsException" "java/lang/IndexOutOfBoundsException") (by decide +kernel))) (vx_c (va_Nw.use rfl (hZ.nw (w := .declares ⟨"java/lang/RuntimeException", "<init>", "(Ljava/lang/String;)V"⟩) (by decide +kernel))) (vx_c (va_Nw.use rfl (hZ.nw (w := .declares ⟨"java/lang/Exception", "<init>", "(Ljava/lang/String;)V"⟩) (by decide +kernel))) (vx_c (va_Nw.use rfl (hZ.nw (w := .declares ⟨"java/lang/Throwable", "<init>", "(Ljava/lang/String;)V"⟩) (by decide +kernel))) (vx_n)))))) (by decide +kernel) hZ hK hP hD hS (hl.1.trans hml.symm) dX4_valueOfPoint_21 dX4_valueOfPoint_24 dX4_valueOfPoint_25 dX4_valueOfPoint_27 dX4_valueOfPoint_30 hxt (Nat.le_of_ble_eq_true rfl) (Nat.le_of_ble_eq_true rfl) (Nat.le_of_ble_eq_true rfl) (Nat.le_of_ble_eq_true rfl) hlocks (rfl) (Nat.le_of_ble_eq_true rfl) (Nat.le_of_ble_eq_true rfl)
    · skip
      refine lv_iload_n hx hb dX4_valueOfPoint_12 rfl (lv_at hl 2 rfl) ?_
      refine lv_if_lt (tgt := 21) hx hb dX4_valueOfPoint_13 (by decide) (fun c3 => ?_) (fun c3 => ?_)
      · skip
        exact k_thr (own := RX4) (E := "java/lang/IndexOutOfBoundsException") (names := ["java/lang/RuntimeException", "java/lang/Exception"]) (text := "no such x or y") hx hb hl9 hown (by decide +kernel) (by decide +kernel) (hts (.classLink RX4 29 "java/lang/IndexOutOfBoundsException") (List.mem_cons_of_mem _ wd_181)) (hts (.initialized "java/lang/IndexOutOfBoundsException") (List.mem_cons_of_mem _ wd_180)) (hZ.str (q := (RX4, 40, "no such x or y")) (by decide +kernel)) (vx_hat (L := vx_atS RX4 33 "java/lang/IndexOutOfBoundsException" ["java/lang/RuntimeException", "java/lang/Exception"]) (B := [.castable "java/lang/IndexOutOfBoundsException" "java/lang/IndexOutOfBoundsException", .declares ⟨"java/lang/RuntimeException", "<init>", "(Ljava/lang/String;)V"⟩, .declares ⟨"java/lang/Exception", "<init>", "(Ljava/lang/String;)V"⟩, .declares ⟨"java/lang/Throwable", "<init>", "(Ljava/lang/String;)V"⟩]) (fun w hw => hts w (List.mem_cons_of_mem _ (atw_1 w hw))) (by decide +kernel) (vx_c (va_Nw.use rfl (hZ.nw (w := .castable "java/lang/IndexOutOfBoundsException" "java/lang/IndexOutOfBoundsException") (by decide +kernel))) (vx_c (va_Nw.use rfl (hZ.nw (w := .declares ⟨"java/lang/RuntimeException", "<init>", "(Ljava/lang/String;)V"⟩) (by decide +kernel))) (vx_c (va_Nw.use rfl (hZ.nw (w := .declares ⟨"java/lang/Exception", "<init>", "(Ljava/lang/String;)V"⟩) (by decide +kernel))) (vx_c (va_Nw.use rfl (hZ.nw (w := .declares ⟨"java/lang/Throwable", "<init>", "(Ljava/lang/String;)V"⟩) (by decide +kernel))) (vx_n)))))) (by decide +kernel) hZ hK hP hD hS (hl.1.trans hml.symm) dX4_valueOfPoint_21 dX4_valueOfPoint_24 dX4_valueOfPoint_25 dX4_valueOfPoint_27 dX4_valueOfPoint_30 hxt (Nat.le_of_ble_eq_true rfl) (Nat.le_of_ble_eq_true rfl) (Nat.le_of_ble_eq_true rfl) (Nat.le_of_ble_eq_true rfl) hlocks (rfl) (Nat.le_of_ble_eq_true rfl) (Nat.le_of_ble_eq_true rfl)
      · skip
        refine lv_iload_n hx hb dX4_valueOfPoint_16 rfl (lv_at hl 2 rfl) ?_
        refine lv_iconst (v := nI 1) hx hb dX4_valueOfPoint_17 (by decide) ?_
        refine lv_icmp_le (tgt := 31) hx hb dX4_valueOfPoint_18 (by decide) (fun c4 => ?_) (fun c4 => ?_)
        · skip
          exact absurd c4 (fun q => hz.elim (fun r => r.elim c1 c2) (fun r => r.elim c3 (fun r => absurd q (Int32.not_le.mpr r))))
        · skip
          exact k_thr (own := RX4) (E := "java/lang/IndexOutOfBoundsException") (names := ["java/lang/RuntimeException", "java/lang/Exception"]) (text := "no such x or y") hx hb hl9 hown (by decide +kernel) (by decide +kernel) (hts (.classLink RX4 29 "java/lang/IndexOutOfBoundsException") (List.mem_cons_of_mem _ wd_181)) (hts (.initialized "java/lang/IndexOutOfBoundsException") (List.mem_cons_of_mem _ wd_180)) (hZ.str (q := (RX4, 40, "no such x or y")) (by decide +kernel)) (vx_hat (L := vx_atS RX4 33 "java/lang/IndexOutOfBoundsException" ["java/lang/RuntimeException", "java/lang/Exception"]) (B := [.castable "java/lang/IndexOutOfBoundsException" "java/lang/IndexOutOfBoundsException", .declares ⟨"java/lang/RuntimeException", "<init>", "(Ljava/lang/String;)V"⟩, .declares ⟨"java/lang/Exception", "<init>", "(Ljava/lang/String;)V"⟩, .declares ⟨"java/lang/Throwable", "<init>", "(Ljava/lang/String;)V"⟩]) (fun w hw => hts w (List.mem_cons_of_mem _ (atw_1 w hw))) (by decide +kernel) (vx_c (va_Nw.use rfl (hZ.nw (w := .castable "java/lang/IndexOutOfBoundsException" "java/lang/IndexOutOfBoundsException") (by decide +kernel))) (vx_c (va_Nw.use rfl (hZ.nw (w := .declares ⟨"java/lang/RuntimeException", "<init>", "(Ljava/lang/String;)V"⟩) (by decide +kernel))) (vx_c (va_Nw.use rfl (hZ.nw (w := .declares ⟨"java/lang/Exception", "<init>", "(Ljava/lang/String;)V"⟩) (by decide +kernel))) (vx_c (va_Nw.use rfl (hZ.nw (w := .declares ⟨"java/lang/Throwable", "<init>", "(Ljava/lang/String;)V"⟩) (by decide +kernel))) (vx_n)))))) (by decide +kernel) hZ hK hP hD hS (hl.1.trans hml.symm) dX4_valueOfPoint_21 dX4_valueOfPoint_24 dX4_valueOfPoint_25 dX4_valueOfPoint_27 dX4_valueOfPoint_30 hxt (Nat.le_of_ble_eq_true rfl) (Nat.le_of_ble_eq_true rfl) (Nat.le_of_ble_eq_true rfl) (Nat.le_of_ble_eq_true rfl) hlocks (rfl) (Nat.le_of_ble_eq_true rfl) (Nat.le_of_ble_eq_true rfl)

set_option maxRecDepth 100000 in
set_option maxHeartbeats 4000000 in
theorem c_Shape_isLike0 (l : Launch) (D : va_G) (cI cB cJ cS : ClassId) (a an av PN pn VN vn : Nat) (pf : Nat → Nat) (fv : Nat → Int32) (a2 an2 av2 PN2 pn2 VN2 vn2 : Nat) (pf2 : Nat → Nat) (fv2 : Nat → Int32) (hPN : PN ≤ 4096) (hpn : pn ≤ PN) (hVN : VN ≤ 8192) (hvn : vn ≤ VN) (hPN2 : PN2 ≤ 4096) (hpn2 : pn2 ≤ PN2) (hVN2 : VN2 ≤ 8192) (hvn2 : vn2 ≤ VN2)  : kM l yX4_isLike vsX4_isLike ({ frames := 1, cells := 0, slots := 0, locals := 24 }) D (kT cI cB cJ cS) [.ref a, .ref a2] [(a, .inr (2, [.ref an, .ref av, .int (nI pn), .int (nI vn)])), (an, .inl (cI, PN, .inl (iF pf))), (av, .inl (cI, VN, .inl fv)), (a2, .inr (2, [.ref an2, .ref av2, .int (nI pn2), .int (nI vn2)])), (an2, .inl (cI, PN2, .inl (iF pf2))), (av2, .inl (cI, VN2, .inl fv2))] (kQi D (kT cI cB cJ cS) (fun r (ug : Unit) => (r = nI 1 ∧ liken pn pn2 (iF pf) (iF pf2) vn vn2 fv fv2) ∨ (r = nI 0 ∧ ¬ liken pn pn2 (iF pf) (iF pf2) vn vn2 fv fv2)) (fun ug => [(a, .inr (2, [.ref an, .ref av, .int (nI pn), .int (nI vn)])), (an, .inl (cI, PN, .inl (iF pf))), (av, .inl (cI, VN, .inl fv)), (a2, .inr (2, [.ref an2, .ref av2, .int (nI pn2), .int (nI vn2)])), (an2, .inl (cI, PN2, .inl (iF pf2))), (av2, .inl (cI, VN2, .inl fv2))])) := by
  refine k_ofW (by decide) rfl (Nat.le_of_ble_eq_true rfl) ?_
  intro p e s m below meth c A ls hx hb hr hts hown hlocks hmn hml hA hP hK hD hS hZ hl
  have inX4 : ∀ w ∈ wsX40, w ∈ vsX4_isLike := fun w h => List.mem_cons_of_mem _ (iaX4 w h)
  have F : CallFix p m c cX4_isLike 2 s _ vsX4_isLike RX4 := ⟨hx, hb, hml, hown, hts⟩
  have hl : lv_has ls 2 [(0, .ref a), (1, .ref a2)] := hl
  refine lv_aload_n hx hb dX4_isLike_0 rfl (lv_at hl 0 rfl) ?_
  refine va_get (D := D) (ci := 2) (v := .ref an) (C := RX4) (T := TX4) (N := 4) hx hb hts inX4 hown hK hP 0 rfl rfl 0 (by decide) (hts (.fieldLink RX4 13 "ByteShapes$Shape" "numbers" "[I") (List.mem_cons_of_mem _ wd_36)) (fun _ h9 => h9) rfl dX4_isLike_1 ?_
  refine lv_aload_n hx hb dX4_isLike_4 rfl (lv_at hl 0 rfl) ?_
  refine va_get (D := D) (ci := 2) (v := .int (nI pn)) (C := RX4) (T := TX4) (N := 4) hx hb hts inX4 hown hK hP 0 rfl rfl 2 (by decide) (hts (.fieldLink RX4 22 "ByteShapes$Shape" "numbersKept" "I") (List.mem_cons_of_mem _ wd_34)) (fun _ h9 => h9) rfl dX4_isLike_5 ?_
  refine lv_aload_n hx hb dX4_isLike_8 rfl (lv_at hl 1 rfl) ?_
  refine va_get (D := D) (ci := 2) (v := .ref an2) (C := RX4) (T := TX4) (N := 4) hx hb hts inX4 hown hK hP 3 rfl rfl 0 (by decide) (hts (.fieldLink RX4 13 "ByteShapes$Shape" "numbers" "[I") (List.mem_cons_of_mem _ wd_36)) (fun _ h9 => h9) rfl dX4_isLike_9 ?_
  refine lv_aload_n hx hb dX4_isLike_12 rfl (lv_at hl 1 rfl) ?_
  refine va_get (D := D) (ci := 2) (v := .int (nI pn2)) (C := RX4) (T := TX4) (N := 4) hx hb hts inX4 hown hK hP 3 rfl rfl 2 (by decide) (hts (.fieldLink RX4 22 "ByteShapes$Shape" "numbersKept" "I") (List.mem_cons_of_mem _ wd_34)) (fun _ h9 => h9) rfl dX4_isLike_13 ?_
  refine k_ci (wr := [(a, .inr (2, [.ref an, .ref av, .int (nI pn), .int (nI vn)])), (av, .inl (cI, VN, .inl fv)), (a2, .inr (2, [.ref an2, .ref av2, .int (nI pn2), .int (nI vn2)])), (av2, .inl (cI, VN2, .inl fv2))]) (k_rs F (c_Shape_startsAlike0 l D cI cB cJ cS an PN pn pn2 (iF pf) an2 PN2 (iF pf2) (by omega) (by omega) (by omega) (by omega)) (va_cwS 4 hts (g_S wd_182 wd_183 wd_41 wd_184) rfl rfl rfl (by decide +kernel) ⟨Nat.le_of_ble_eq_true rfl, Nat.le_of_ble_eq_true rfl⟩) hK hP hD hS hA hZ [1, 4] rfl (by decide) rfl hl.1 rfl (Nat.le_of_ble_eq_true rfl) dX4_isLike_16 ⟨Nat.le_of_ble_eq_true rfl, Nat.le_of_ble_eq_true rfl⟩) hP hD hS hA [1, 4] [0, 2, 3, 5] rfl rfl (by decide) (by decide) (fun r u9 H locs hw hP hD hS => ?_)
  skip
  have hP : va_P D kCl [(a, .inr (2, [.ref an, .ref av, .int (nI pn), .int (nI vn)])), (av, .inl (cI, VN, .inl fv)), (a2, .inr (2, [.ref an2, .ref av2, .int (nI pn2), .int (nI vn2)])), (av2, .inl (cI, VN2, .inl fv2)), (an, .inl (cI, PN, .inl (iF pf))), (an2, .inl (cI, PN2, .inl (iF pf2)))] H := hP
  have hD : va_D A [(a, .inr (2, [.ref an, .ref av, .int (nI pn), .int (nI vn)])), (av, .inl (cI, VN, .inl fv)), (a2, .inr (2, [.ref an2, .ref av2, .int (nI pn2), .int (nI vn2)])), (av2, .inl (cI, VN2, .inl fv2)), (an, .inl (cI, PN, .inl (iF pf))), (an2, .inl (cI, PN2, .inl (iF pf2)))] := hD
  refine W.widen (k := 0) (n := 0) (Nat.le_of_ble_eq_true rfl) (Nat.le_of_ble_eq_true rfl) ?_
  rcases hw with ⟨hr1, h1, h2⟩ | ⟨hr1, h1n⟩
  · skip
    subst hr1
    refine k_if_eq (tgt := 48) (by omega) hx hb dX4_isLike_19 (by decide) (fun c120 => ?_) (fun c120 => ?_)
    · skip
      exact absurd c120 (by omega)
    · skip
      refine lv_aload_n hx hb dX4_isLike_22 rfl (lv_at hl 0 rfl) ?_
      refine va_get (D := D) (ci := 2) (v := .ref av) (C := RX4) (T := TX4) (N := 4) hx hb hts inX4 hown hK hP 0 rfl rfl 1 (by decide) (hts (.fieldLink RX4 19 "ByteShapes$Shape" "values" "[I") (List.mem_cons_of_mem _ wd_37)) (fun _ h9 => h9) rfl dX4_isLike_23 ?_
      refine lv_aload_n hx hb dX4_isLike_26 rfl (lv_at hl 0 rfl) ?_
      refine va_get (D := D) (ci := 2) (v := .int (nI vn)) (C := RX4) (T := TX4) (N := 4) hx hb hts inX4 hown hK hP 0 rfl rfl 3 (by decide) (hts (.fieldLink RX4 26 "ByteShapes$Shape" "valuesKept" "I") (List.mem_cons_of_mem _ wd_35)) (fun _ h9 => h9) rfl dX4_isLike_27 ?_
      refine lv_aload_n hx hb dX4_isLike_30 rfl (lv_at hl 1 rfl) ?_
      refine va_get (D := D) (ci := 2) (v := .ref av2) (C := RX4) (T := TX4) (N := 4) hx hb hts inX4 hown hK hP 2 rfl rfl 1 (by decide) (hts (.fieldLink RX4 19 "ByteShapes$Shape" "values" "[I") (List.mem_cons_of_mem _ wd_37)) (fun _ h9 => h9) rfl dX4_isLike_31 ?_
      refine lv_aload_n hx hb dX4_isLike_34 rfl (lv_at hl 1 rfl) ?_
      refine va_get (D := D) (ci := 2) (v := .int (nI vn2)) (C := RX4) (T := TX4) (N := 4) hx hb hts inX4 hown hK hP 2 rfl rfl 3 (by decide) (hts (.fieldLink RX4 26 "ByteShapes$Shape" "valuesKept" "I") (List.mem_cons_of_mem _ wd_35)) (fun _ h9 => h9) rfl dX4_isLike_35 ?_
      refine k_ci (wr := [(a, .inr (2, [.ref an, .ref av, .int (nI pn), .int (nI vn)])), (a2, .inr (2, [.ref an2, .ref av2, .int (nI pn2), .int (nI vn2)])), (an, .inl (cI, PN, .inl (iF pf))), (an2, .inl (cI, PN2, .inl (iF pf2)))]) (k_rs F (c_Shape_startsAlike0 l D cI cB cJ cS av VN vn vn2 fv av2 VN2 fv2 (by omega) (by omega) (by omega) (by omega)) (va_cwS 4 hts (g_S wd_182 wd_183 wd_41 wd_184) rfl rfl rfl (by decide +kernel) ⟨Nat.le_of_ble_eq_true rfl, Nat.le_of_ble_eq_true rfl⟩) hK hP hD hS hA hZ [1, 3] rfl (by decide) rfl hl.1 rfl (Nat.le_of_ble_eq_true rfl) dX4_isLike_38 ⟨Nat.le_of_ble_eq_true rfl, Nat.le_of_ble_eq_true rfl⟩) hP hD hS hA [1, 3] [0, 2, 4, 5] rfl rfl (by decide) (by decide) (fun r u9 H locs hw hP hD hS => ?_)
      skip
      have hP : va_P D kCl [(a, .inr (2, [.ref an, .ref av, .int (nI pn), .int (nI vn)])), (a2, .inr (2, [.ref an2, .ref av2, .int (nI pn2), .int (nI vn2)])), (an, .inl (cI, PN, .inl (iF pf))), (an2, .inl (cI, PN2, .inl (iF pf2))), (av, .inl (cI, VN, .inl fv)), (av2, .inl (cI, VN2, .inl fv2))] H := hP
      have hD : va_D A [(a, .inr (2, [.ref an, .ref av, .int (nI pn), .int (nI vn)])), (a2, .inr (2, [.ref an2, .ref av2, .int (nI pn2), .int (nI vn2)])), (an, .inl (cI, PN, .inl (iF pf))), (an2, .inl (cI, PN2, .inl (iF pf2))), (av, .inl (cI, VN, .inl fv)), (av2, .inl (cI, VN2, .inl fv2))] := hD
      refine W.widen (k := 0) (n := 0) (Nat.le_of_ble_eq_true rfl) (Nat.le_of_ble_eq_true rfl) ?_
      rcases hw with ⟨hr1, h3, h4⟩ | ⟨hr1, h3n⟩
      · skip
        subst hr1
        refine k_if_eq (tgt := 48) (by omega) hx hb dX4_isLike_41 (by decide) (fun c121 => ?_) (fun c121 => ?_)
        · skip
          exact absurd c121 (by omega)
        · skip
          refine lv_iconst (v := nI 1) hx hb dX4_isLike_44 (by decide) ?_
          refine lv_goto (tgt := 49) hx hb dX4_isLike_45 (by decide) ?_
          have hP : va_P D kCl [(a, .inr (2, [.ref an, .ref av, .int (nI pn), .int (nI vn)])), (an, .inl (cI, PN, .inl (iF pf))), (av, .inl (cI, VN, .inl fv)), (a2, .inr (2, [.ref an2, .ref av2, .int (nI pn2), .int (nI vn2)])), (an2, .inl (cI, PN2, .inl (iF pf2))), (av2, .inl (cI, VN2, .inl fv2))] H := hP.sub [0, 2, 4, 1, 3, 5] rfl
          have hD : va_D A [(a, .inr (2, [.ref an, .ref av, .int (nI pn), .int (nI vn)])), (an, .inl (cI, PN, .inl (iF pf))), (av, .inl (cI, VN, .inl fv)), (a2, .inr (2, [.ref an2, .ref av2, .int (nI pn2), .int (nI vn2)])), (an2, .inl (cI, PN2, .inl (iF pf2))), (av2, .inl (cI, VN2, .inl fv2))] := hD.sub [0, 2, 4, 1, 3, 5] (by decide) rfl
          exact k_iret () hx hb hr (by first | rfl | decide | exact vp_nar_int _) hlocks hK hP hD hS (rfl) (Or.inl ⟨rfl, ⟨h1, h2, h3, h4⟩⟩) (Nat.le_of_ble_eq_true rfl) (Nat.le_of_ble_eq_true rfl) dX4_isLike_49
      · skip
        subst hr1
        refine k_if_eq (tgt := 48) (by omega) hx hb dX4_isLike_41 (by decide) (fun c122 => ?_) (fun c122 => ?_)
        · skip
          refine lv_iconst (v := nI 0) hx hb dX4_isLike_48 (by decide) ?_
          have hP : va_P D kCl [(a, .inr (2, [.ref an, .ref av, .int (nI pn), .int (nI vn)])), (an, .inl (cI, PN, .inl (iF pf))), (av, .inl (cI, VN, .inl fv)), (a2, .inr (2, [.ref an2, .ref av2, .int (nI pn2), .int (nI vn2)])), (an2, .inl (cI, PN2, .inl (iF pf2))), (av2, .inl (cI, VN2, .inl fv2))] H := hP.sub [0, 2, 4, 1, 3, 5] rfl
          have hD : va_D A [(a, .inr (2, [.ref an, .ref av, .int (nI pn), .int (nI vn)])), (an, .inl (cI, PN, .inl (iF pf))), (av, .inl (cI, VN, .inl fv)), (a2, .inr (2, [.ref an2, .ref av2, .int (nI pn2), .int (nI vn2)])), (an2, .inl (cI, PN2, .inl (iF pf2))), (av2, .inl (cI, VN2, .inl fv2))] := hD.sub [0, 2, 4, 1, 3, 5] (by decide) rfl
          exact k_iret () hx hb hr (by first | rfl | decide | exact vp_nar_int _) hlocks hK hP hD hS (rfl) (Or.inr ⟨rfl, fun q => h3n ⟨q.2.2.1, q.2.2.2⟩⟩) (Nat.le_of_ble_eq_true rfl) (Nat.le_of_ble_eq_true rfl) dX4_isLike_49
        · skip
          exact absurd c122 (by omega)
  · skip
    subst hr1
    refine k_if_eq (tgt := 48) (by omega) hx hb dX4_isLike_19 (by decide) (fun c123 => ?_) (fun c123 => ?_)
    · skip
      refine lv_iconst (v := nI 0) hx hb dX4_isLike_48 (by decide) ?_
      have hP : va_P D kCl [(a, .inr (2, [.ref an, .ref av, .int (nI pn), .int (nI vn)])), (an, .inl (cI, PN, .inl (iF pf))), (av, .inl (cI, VN, .inl fv)), (a2, .inr (2, [.ref an2, .ref av2, .int (nI pn2), .int (nI vn2)])), (an2, .inl (cI, PN2, .inl (iF pf2))), (av2, .inl (cI, VN2, .inl fv2))] H := hP.sub [0, 4, 1, 2, 5, 3] rfl
      have hD : va_D A [(a, .inr (2, [.ref an, .ref av, .int (nI pn), .int (nI vn)])), (an, .inl (cI, PN, .inl (iF pf))), (av, .inl (cI, VN, .inl fv)), (a2, .inr (2, [.ref an2, .ref av2, .int (nI pn2), .int (nI vn2)])), (an2, .inl (cI, PN2, .inl (iF pf2))), (av2, .inl (cI, VN2, .inl fv2))] := hD.sub [0, 4, 1, 2, 5, 3] (by decide) rfl
      exact k_iret () hx hb hr (by first | rfl | decide | exact vp_nar_int _) hlocks hK hP hD hS (rfl) (Or.inr ⟨rfl, fun q => h1n ⟨q.1, q.2.1⟩⟩) (Nat.le_of_ble_eq_true rfl) (Nat.le_of_ble_eq_true rfl) dX4_isLike_49
    · skip
      exact absurd c123 (by omega)

set_option maxRecDepth 100000 in
set_option maxHeartbeats 4000000 in
theorem c_Shape_isLike1 (l : Launch) (D : va_G) (cI cB cJ cS : ClassId) (a an av PN pn VN vn : Nat) (pf : Nat → Nat) (fv : Nat → Int32) (hPN : PN ≤ 4096) (hpn : pn ≤ PN) (hVN : VN ≤ 8192) (hvn : vn ≤ VN)  : kM l yX4_isLike vsX4_isLike ({ frames := 1, cells := 0, slots := 0, locals := 24 }) D (kT cI cB cJ cS) [.ref a, .ref a] [(a, .inr (2, [.ref an, .ref av, .int (nI pn), .int (nI vn)])), (an, .inl (cI, PN, .inl (iF pf))), (av, .inl (cI, VN, .inl fv))] (kQi D (kT cI cB cJ cS) (fun r (ug : Unit) => (r = nI 1 ∧ liken pn pn (iF pf) (iF pf) vn vn fv fv) ∨ (r = nI 0 ∧ ¬ liken pn pn (iF pf) (iF pf) vn vn fv fv)) (fun ug => [(a, .inr (2, [.ref an, .ref av, .int (nI pn), .int (nI vn)])), (an, .inl (cI, PN, .inl (iF pf))), (av, .inl (cI, VN, .inl fv))])) := by
  refine k_ofW (by decide) rfl (Nat.le_of_ble_eq_true rfl) ?_
  intro p e s m below meth c A ls hx hb hr hts hown hlocks hmn hml hA hP hK hD hS hZ hl
  have inX4 : ∀ w ∈ wsX40, w ∈ vsX4_isLike := fun w h => List.mem_cons_of_mem _ (iaX4 w h)
  have F : CallFix p m c cX4_isLike 2 s _ vsX4_isLike RX4 := ⟨hx, hb, hml, hown, hts⟩
  have hl : lv_has ls 2 [(0, .ref a), (1, .ref a)] := hl
  refine lv_aload_n hx hb dX4_isLike_0 rfl (lv_at hl 0 rfl) ?_
  refine va_get (D := D) (ci := 2) (v := .ref an) (C := RX4) (T := TX4) (N := 4) hx hb hts inX4 hown hK hP 0 rfl rfl 0 (by decide) (hts (.fieldLink RX4 13 "ByteShapes$Shape" "numbers" "[I") (List.mem_cons_of_mem _ wd_36)) (fun _ h9 => h9) rfl dX4_isLike_1 ?_
  refine lv_aload_n hx hb dX4_isLike_4 rfl (lv_at hl 0 rfl) ?_
  refine va_get (D := D) (ci := 2) (v := .int (nI pn)) (C := RX4) (T := TX4) (N := 4) hx hb hts inX4 hown hK hP 0 rfl rfl 2 (by decide) (hts (.fieldLink RX4 22 "ByteShapes$Shape" "numbersKept" "I") (List.mem_cons_of_mem _ wd_34)) (fun _ h9 => h9) rfl dX4_isLike_5 ?_
  refine lv_aload_n hx hb dX4_isLike_8 rfl (lv_at hl 1 rfl) ?_
  refine va_get (D := D) (ci := 2) (v := .ref an) (C := RX4) (T := TX4) (N := 4) hx hb hts inX4 hown hK hP 0 rfl rfl 0 (by decide) (hts (.fieldLink RX4 13 "ByteShapes$Shape" "numbers" "[I") (List.mem_cons_of_mem _ wd_36)) (fun _ h9 => h9) rfl dX4_isLike_9 ?_
  refine lv_aload_n hx hb dX4_isLike_12 rfl (lv_at hl 1 rfl) ?_
  refine va_get (D := D) (ci := 2) (v := .int (nI pn)) (C := RX4) (T := TX4) (N := 4) hx hb hts inX4 hown hK hP 0 rfl rfl 2 (by decide) (hts (.fieldLink RX4 22 "ByteShapes$Shape" "numbersKept" "I") (List.mem_cons_of_mem _ wd_34)) (fun _ h9 => h9) rfl dX4_isLike_13 ?_
  refine k_ci (wr := [(a, .inr (2, [.ref an, .ref av, .int (nI pn), .int (nI vn)])), (av, .inl (cI, VN, .inl fv))]) (k_rs F (c_Shape_startsAlike1 l D cI cB cJ cS an PN pn pn (iF pf) (by omega) (by omega) (by omega) (by omega)) (va_cwS 4 hts (g_S wd_182 wd_183 wd_41 wd_184) rfl rfl rfl (by decide +kernel) ⟨Nat.le_of_ble_eq_true rfl, Nat.le_of_ble_eq_true rfl⟩) hK hP hD hS hA hZ [1] rfl (by decide) rfl hl.1 rfl (Nat.le_of_ble_eq_true rfl) dX4_isLike_16 ⟨Nat.le_of_ble_eq_true rfl, Nat.le_of_ble_eq_true rfl⟩) hP hD hS hA [1] [0, 2] rfl rfl (by decide) (by decide) (fun r u9 H locs hw hP hD hS => ?_)
  skip
  have hP : va_P D kCl [(a, .inr (2, [.ref an, .ref av, .int (nI pn), .int (nI vn)])), (av, .inl (cI, VN, .inl fv)), (an, .inl (cI, PN, .inl (iF pf)))] H := hP
  have hD : va_D A [(a, .inr (2, [.ref an, .ref av, .int (nI pn), .int (nI vn)])), (av, .inl (cI, VN, .inl fv)), (an, .inl (cI, PN, .inl (iF pf)))] := hD
  refine W.widen (k := 0) (n := 0) (Nat.le_of_ble_eq_true rfl) (Nat.le_of_ble_eq_true rfl) ?_
  rcases hw with ⟨hr1, h1, h2⟩ | ⟨hr1, h1n⟩
  · skip
    subst hr1
    refine k_if_eq (tgt := 48) (by omega) hx hb dX4_isLike_19 (by decide) (fun c124 => ?_) (fun c124 => ?_)
    · skip
      exact absurd c124 (by omega)
    · skip
      refine lv_aload_n hx hb dX4_isLike_22 rfl (lv_at hl 0 rfl) ?_
      refine va_get (D := D) (ci := 2) (v := .ref av) (C := RX4) (T := TX4) (N := 4) hx hb hts inX4 hown hK hP 0 rfl rfl 1 (by decide) (hts (.fieldLink RX4 19 "ByteShapes$Shape" "values" "[I") (List.mem_cons_of_mem _ wd_37)) (fun _ h9 => h9) rfl dX4_isLike_23 ?_
      refine lv_aload_n hx hb dX4_isLike_26 rfl (lv_at hl 0 rfl) ?_
      refine va_get (D := D) (ci := 2) (v := .int (nI vn)) (C := RX4) (T := TX4) (N := 4) hx hb hts inX4 hown hK hP 0 rfl rfl 3 (by decide) (hts (.fieldLink RX4 26 "ByteShapes$Shape" "valuesKept" "I") (List.mem_cons_of_mem _ wd_35)) (fun _ h9 => h9) rfl dX4_isLike_27 ?_
      refine lv_aload_n hx hb dX4_isLike_30 rfl (lv_at hl 1 rfl) ?_
      refine va_get (D := D) (ci := 2) (v := .ref av) (C := RX4) (T := TX4) (N := 4) hx hb hts inX4 hown hK hP 0 rfl rfl 1 (by decide) (hts (.fieldLink RX4 19 "ByteShapes$Shape" "values" "[I") (List.mem_cons_of_mem _ wd_37)) (fun _ h9 => h9) rfl dX4_isLike_31 ?_
      refine lv_aload_n hx hb dX4_isLike_34 rfl (lv_at hl 1 rfl) ?_
      refine va_get (D := D) (ci := 2) (v := .int (nI vn)) (C := RX4) (T := TX4) (N := 4) hx hb hts inX4 hown hK hP 0 rfl rfl 3 (by decide) (hts (.fieldLink RX4 26 "ByteShapes$Shape" "valuesKept" "I") (List.mem_cons_of_mem _ wd_35)) (fun _ h9 => h9) rfl dX4_isLike_35 ?_
      refine k_ci (wr := [(a, .inr (2, [.ref an, .ref av, .int (nI pn), .int (nI vn)])), (an, .inl (cI, PN, .inl (iF pf)))]) (k_rs F (c_Shape_startsAlike1 l D cI cB cJ cS av VN vn vn fv (by omega) (by omega) (by omega) (by omega)) (va_cwS 4 hts (g_S wd_182 wd_183 wd_41 wd_184) rfl rfl rfl (by decide +kernel) ⟨Nat.le_of_ble_eq_true rfl, Nat.le_of_ble_eq_true rfl⟩) hK hP hD hS hA hZ [1] rfl (by decide) rfl hl.1 rfl (Nat.le_of_ble_eq_true rfl) dX4_isLike_38 ⟨Nat.le_of_ble_eq_true rfl, Nat.le_of_ble_eq_true rfl⟩) hP hD hS hA [1] [0, 2] rfl rfl (by decide) (by decide) (fun r u9 H locs hw hP hD hS => ?_)
      skip
      have hP : va_P D kCl [(a, .inr (2, [.ref an, .ref av, .int (nI pn), .int (nI vn)])), (an, .inl (cI, PN, .inl (iF pf))), (av, .inl (cI, VN, .inl fv))] H := hP
      have hD : va_D A [(a, .inr (2, [.ref an, .ref av, .int (nI pn), .int (nI vn)])), (an, .inl (cI, PN, .inl (iF pf))), (av, .inl (cI, VN, .inl fv))] := hD
      refine W.widen (k := 0) (n := 0) (Nat.le_of_ble_eq_true rfl) (Nat.le_of_ble_eq_true rfl) ?_
      rcases hw with ⟨hr1, h3, h4⟩ | ⟨hr1, h3n⟩
      · skip
        subst hr1
        refine k_if_eq (tgt := 48) (by omega) hx hb dX4_isLike_41 (by decide) (fun c125 => ?_) (fun c125 => ?_)
        · skip
          exact absurd c125 (by omega)
        · skip
          refine lv_iconst (v := nI 1) hx hb dX4_isLike_44 (by decide) ?_
          refine lv_goto (tgt := 49) hx hb dX4_isLike_45 (by decide) ?_
          exact k_iret () hx hb hr (by first | rfl | decide | exact vp_nar_int _) hlocks hK hP hD hS (rfl) (Or.inl ⟨rfl, ⟨h1, h2, h3, h4⟩⟩) (Nat.le_of_ble_eq_true rfl) (Nat.le_of_ble_eq_true rfl) dX4_isLike_49
      · skip
        subst hr1
        refine k_if_eq (tgt := 48) (by omega) hx hb dX4_isLike_41 (by decide) (fun c126 => ?_) (fun c126 => ?_)
        · skip
          refine lv_iconst (v := nI 0) hx hb dX4_isLike_48 (by decide) ?_
          exact k_iret () hx hb hr (by first | rfl | decide | exact vp_nar_int _) hlocks hK hP hD hS (rfl) (Or.inr ⟨rfl, fun q => h3n ⟨q.2.2.1, q.2.2.2⟩⟩) (Nat.le_of_ble_eq_true rfl) (Nat.le_of_ble_eq_true rfl) dX4_isLike_49
        · skip
          exact absurd c126 (by omega)
  · skip
    subst hr1
    refine k_if_eq (tgt := 48) (by omega) hx hb dX4_isLike_19 (by decide) (fun c127 => ?_) (fun c127 => ?_)
    · skip
      refine lv_iconst (v := nI 0) hx hb dX4_isLike_48 (by decide) ?_
      have hP : va_P D kCl [(a, .inr (2, [.ref an, .ref av, .int (nI pn), .int (nI vn)])), (an, .inl (cI, PN, .inl (iF pf))), (av, .inl (cI, VN, .inl fv))] H := hP.sub [0, 2, 1] rfl
      have hD : va_D A [(a, .inr (2, [.ref an, .ref av, .int (nI pn), .int (nI vn)])), (an, .inl (cI, PN, .inl (iF pf))), (av, .inl (cI, VN, .inl fv))] := hD.sub [0, 2, 1] (by decide) rfl
      exact k_iret () hx hb hr (by first | rfl | decide | exact vp_nar_int _) hlocks hK hP hD hS (rfl) (Or.inr ⟨rfl, fun q => h1n ⟨q.1, q.2.1⟩⟩) (Nat.le_of_ble_eq_true rfl) (Nat.le_of_ble_eq_true rfl) dX4_isLike_49
    · skip
      exact absurd c127 (by omega)

set_option maxRecDepth 100000 in
set_option maxHeartbeats 4000000 in
theorem c_Row_init (l : Launch) (D : va_G) (cI cB cJ cS : ClassId) (a : Nat)  : kM l yX3_init vsX3_init ({ frames := 1, cells := 1, slots := 65536, locals := 21 }) D (kT cI cB cJ cS) [.ref a, .int (nI 65536)] [(a, .inr (1, [.null, .int (nI 0)]))] (kQv D (kT cI cB cJ cS) (fun (u : Nat) => True) (fun u => [(a, .inr (1, [.ref u, .int (nI 0)])), (u, .inl (cB, 65536, .inl (bF fun _ => 0)))])) := by
  refine k_ofW (by decide) rfl (Nat.le_of_ble_eq_true rfl) ?_
  intro p e s m below meth c A ls hx hb hr hts hown hlocks hmn hml hA hP hK hD hS hZ hl
  have inX3 : ∀ w ∈ wsX30, w ∈ vsX3_init := fun w h => List.mem_cons_of_mem _ (iaX3 w h)
  have F : CallFix p m c cX3_init 2 s _ vsX3_init RX3 := ⟨hx, hb, hml, hown, hts⟩
  have hl : lv_has ls 2 [(0, .ref a), (1, .int (nI 65536))] := hl
  refine lv_aload_n hx hb dX3_init_0 rfl (lv_at hl 0 rfl) ?_
  refine W.objInit hx hb hown (hts (.methodLink RX3 1 objectInit) (List.mem_cons_of_mem _ wd_185)) (hts (.instanceMethod objectInit) (List.mem_cons_of_mem _ wd_186)) (hts (.code objectInit ⟨#[0xb1]⟩ 1 none) (List.mem_cons_of_mem _ wd_187)) rfl (by rw [hml]; exact hl.1) rfl dX3_init_1 (Nat.le_of_ble_eq_true rfl) (Nat.le_of_ble_eq_true rfl) ?_
  refine W.eq (g2 := F0 m 4 ls []) rfl ?_
  refine lv_aload_n hx hb dX3_init_4 rfl (lv_at hl 0 rfl) ?_
  refine lv_iconst (v := nI 0) hx hb dX3_init_5 (by decide) ?_
  refine lv_iload_n hx hb dX3_init_6 rfl (lv_at hl 1 rfl) ?_
  refine va_mmax hx hb (hml.trans hl.1.symm) hown (hts (.methodLink RX3 7 Lib.Math.max.name) (List.mem_cons_of_mem _ wd_188)) (hts (.static Lib.Math.max.name) (List.mem_cons_of_mem _ wd_5)) (hts (.initialized "java/lang/Math") (List.mem_cons_of_mem _ wd_2)) (hts (.code Lib.Math.max.name Lib.Math.max.code 2 (some .int)) (List.mem_cons_of_mem _ wd_6)) (by exact Nat.le_of_ble_eq_true rfl) (by exact Nat.le_of_ble_eq_true rfl) (by exact Nat.le_of_ble_eq_true rfl) (by exact Nat.le_of_ble_eq_true rfl) dX3_init_7 ?_
  refine k_i (show _ = nI 65536 from k_max0 (by omega)) ?_
  refine k_newB hx hb (hts (.arrayClass .byte) (List.mem_cons_of_mem _ wd_189)) hK hP hD hS hA (by omega) (show 0 + 1 ≤ 1 by omega) (show 0 + 65536 ≤ 65536 by omega) dX3_init_10 (fun q128 H hP hD hS => ?_)
  refine W.widen (k := 1) (n := 65536) (by omega) (by omega) ?_
  have hP : va_P D kCl [(a, .inr (1, [.null, .int (nI 0)])), (q128, .inl (cB, 65536, .inl (bF fun _ => 0)))] H := hP
  have hD : va_D A [(a, .inr (1, [.null, .int (nI 0)])), (q128, .inl (cB, 65536, .inl (bF fun _ => 0)))] := hD
  refine va_putF (D := D) (ci := 1) (v := .ref q128) (ty := .array (.byte)) (C := RX3) (T := TX3) (N := 2) hx hb hts inX3 tyX3 tyX3_ok nmX3 hown hK hP hD hS 0 rfl rfl 0 (by decide) (hts (.fieldLink RX3 13 "ByteShapes$Row" "bytes" "[B") (List.mem_cons_of_mem _ wd_11)) (fun _ h9 => h9) rfl hmn rfl (by decide +kernel) (rfl) (rfl) (Nat.le_of_ble_eq_true rfl) dX3_init_12 (fun H locs hP hD hS => ?_)
  have hP : va_P D kCl [(a, .inr (1, [.ref q128, .int (nI 0)])), (q128, .inl (cB, 65536, .inl (bF fun _ => 0)))] H := hP
  have hD : va_D A [(a, .inr (1, [.ref q128, .int (nI 0)])), (q128, .inl (cB, 65536, .inl (bF fun _ => 0)))] := hD
  exact k_vret q128 hx hb hr hlocks hK hP hD hS rfl trivial (Nat.le_of_ble_eq_true rfl) (Nat.le_of_ble_eq_true rfl) dX3_init_15

set_option maxRecDepth 100000 in
set_option maxHeartbeats 4000000 in
theorem c_Shape_init (l : Launch) (D : va_G) (cI cB cJ cS : ClassId) (a PT PN : Nat) (hPT : PT ≤ 4096) (hPN : PN ≤ 4096)  : kM l yX4_init vsX4_init ({ frames := 1, cells := 2, slots := 12288, locals := 21 }) D (kT cI cB cJ cS) [.ref a, .int (nI PT), .int (nI PN)] [(a, .inr (2, [.null, .null, .int (nI 0), .int (nI 0)]))] (kQv D (kT cI cB cJ cS) (fun (u : Nat × Nat) => True) (fun u => [(a, .inr (2, [.ref u.1, .ref u.2, .int (nI 0), .int (nI 0)])), (u.1, .inl (cI, PN, .inl (iF fun _ => 0))), (u.2, .inl (cI, 2 * PT, .inl (iF fun _ => 0)))])) := by
  refine k_ofW (by decide) rfl (Nat.le_of_ble_eq_true rfl) ?_
  intro p e s m below meth c A ls hx hb hr hts hown hlocks hmn hml hA hP hK hD hS hZ hl
  have inX4 : ∀ w ∈ wsX40, w ∈ vsX4_init := fun w h => List.mem_cons_of_mem _ (iaX4 w h)
  have F : CallFix p m c cX4_init 3 s _ vsX4_init RX4 := ⟨hx, hb, hml, hown, hts⟩
  have hl : lv_has ls 3 [(0, .ref a), (1, .int (nI PT)), (2, .int (nI PN))] := hl
  refine lv_aload_n hx hb dX4_init_0 rfl (lv_at hl 0 rfl) ?_
  refine W.objInit hx hb hown (hts (.methodLink RX4 1 objectInit) (List.mem_cons_of_mem _ wd_190)) (hts (.instanceMethod objectInit) (List.mem_cons_of_mem _ wd_186)) (hts (.code objectInit ⟨#[0xb1]⟩ 1 none) (List.mem_cons_of_mem _ wd_187)) rfl (by rw [hml]; exact hl.1) rfl dX4_init_1 (Nat.le_of_ble_eq_true rfl) (Nat.le_of_ble_eq_true rfl) ?_
  refine W.eq (g2 := F0 m 4 ls []) rfl ?_
  refine lv_aload_n hx hb dX4_init_4 rfl (lv_at hl 0 rfl) ?_
  refine lv_iconst (v := nI 0) hx hb dX4_init_5 (by decide) ?_
  refine lv_iload_n hx hb dX4_init_6 rfl (lv_at hl 2 rfl) ?_
  refine va_mmax hx hb (hml.trans hl.1.symm) hown (hts (.methodLink RX4 7 Lib.Math.max.name) (List.mem_cons_of_mem _ wd_191)) (hts (.static Lib.Math.max.name) (List.mem_cons_of_mem _ wd_5)) (hts (.initialized "java/lang/Math") (List.mem_cons_of_mem _ wd_2)) (hts (.code Lib.Math.max.name Lib.Math.max.code 2 (some .int)) (List.mem_cons_of_mem _ wd_6)) (by exact Nat.le_of_ble_eq_true rfl) (by exact Nat.le_of_ble_eq_true rfl) (by exact Nat.le_of_ble_eq_true rfl) (by exact Nat.le_of_ble_eq_true rfl) dX4_init_7 ?_
  refine k_i (show _ = nI PN from k_max0 (by omega)) ?_
  refine k_newI hx hb (hts (.arrayClass .int) (List.mem_cons_of_mem _ wd_192)) hK hP hD hS hA (by omega) (show 0 + 1 ≤ 2 by omega) (show 0 + PN ≤ 12288 by omega) dX4_init_10 (fun q129 H hP hD hS => ?_)
  refine W.widen (k := 1) (n := 4096) (by omega) (by omega) ?_
  have hP : va_P D kCl [(a, .inr (2, [.null, .null, .int (nI 0), .int (nI 0)])), (q129, .inl (cI, PN, .inl (iF fun _ => 0)))] H := hP
  have hD : va_D A [(a, .inr (2, [.null, .null, .int (nI 0), .int (nI 0)])), (q129, .inl (cI, PN, .inl (iF fun _ => 0)))] := hD
  refine va_putF (D := D) (ci := 2) (v := .ref q129) (ty := .array (.int)) (C := RX4) (T := TX4) (N := 4) hx hb hts inX4 tyX4 tyX4_ok nmX4 hown hK hP hD hS 0 rfl rfl 0 (by decide) (hts (.fieldLink RX4 13 "ByteShapes$Shape" "numbers" "[I") (List.mem_cons_of_mem _ wd_36)) (fun _ h9 => h9) rfl hmn rfl (by decide +kernel) (rfl) (rfl) (Nat.le_of_ble_eq_true rfl) dX4_init_12 (fun H locs hP hD hS => ?_)
  have hP : va_P D kCl [(a, .inr (2, [.ref q129, .null, .int (nI 0), .int (nI 0)])), (q129, .inl (cI, PN, .inl (iF fun _ => 0)))] H := hP
  have hD : va_D A [(a, .inr (2, [.ref q129, .null, .int (nI 0), .int (nI 0)])), (q129, .inl (cI, PN, .inl (iF fun _ => 0)))] := hD
  refine lv_aload_n hx hb dX4_init_15 rfl (lv_at hl 0 rfl) ?_
  refine lv_iconst (v := nI 2) hx hb dX4_init_16 (by decide) ?_
  refine lv_iconst (v := nI 0) hx hb dX4_init_17 (by decide) ?_
  refine lv_iload_n hx hb dX4_init_18 rfl (lv_at hl 1 rfl) ?_
  refine va_mmax hx hb (hml.trans hl.1.symm) hown (hts (.methodLink RX4 7 Lib.Math.max.name) (List.mem_cons_of_mem _ wd_191)) (hts (.static Lib.Math.max.name) (List.mem_cons_of_mem _ wd_5)) (hts (.initialized "java/lang/Math") (List.mem_cons_of_mem _ wd_2)) (hts (.code Lib.Math.max.name Lib.Math.max.code 2 (some .int)) (List.mem_cons_of_mem _ wd_6)) (by exact Nat.le_of_ble_eq_true rfl) (by exact Nat.le_of_ble_eq_true rfl) (by exact Nat.le_of_ble_eq_true rfl) (by exact Nat.le_of_ble_eq_true rfl) dX4_init_19 ?_
  refine k_i (show _ = nI PT from k_max0 (by omega)) ?_
  refine lv_imul hx hb dX4_init_22 ?_
  refine k_i (show _ = nI (2 * PT) from pk_mul _ _) ?_
  refine k_newI hx hb (hts (.arrayClass .int) (List.mem_cons_of_mem _ wd_192)) hK hP hD hS hA (by omega) (show 1 + 1 ≤ 2 by omega) (show 4096 + (2 * PT) ≤ 12288 by omega) dX4_init_23 (fun q130 H hP hD hS => ?_)
  refine W.widen (k := 2) (n := 12288) (by omega) (by omega) ?_
  have hP : va_P D kCl [(a, .inr (2, [.ref q129, .null, .int (nI 0), .int (nI 0)])), (q129, .inl (cI, PN, .inl (iF fun _ => 0))), (q130, .inl (cI, 2 * PT, .inl (iF fun _ => 0)))] H := hP
  have hD : va_D A [(a, .inr (2, [.ref q129, .null, .int (nI 0), .int (nI 0)])), (q129, .inl (cI, PN, .inl (iF fun _ => 0))), (q130, .inl (cI, 2 * PT, .inl (iF fun _ => 0)))] := hD
  refine va_putF (D := D) (ci := 2) (v := .ref q130) (ty := .array (.int)) (C := RX4) (T := TX4) (N := 4) hx hb hts inX4 tyX4 tyX4_ok nmX4 hown hK hP hD hS 0 rfl rfl 1 (by decide) (hts (.fieldLink RX4 19 "ByteShapes$Shape" "values" "[I") (List.mem_cons_of_mem _ wd_37)) (fun _ h9 => h9) rfl hmn rfl (by decide +kernel) (rfl) (rfl) (Nat.le_of_ble_eq_true rfl) dX4_init_25 (fun H locs hP hD hS => ?_)
  have hP : va_P D kCl [(a, .inr (2, [.ref q129, .ref q130, .int (nI 0), .int (nI 0)])), (q129, .inl (cI, PN, .inl (iF fun _ => 0))), (q130, .inl (cI, 2 * PT, .inl (iF fun _ => 0)))] H := hP
  have hD : va_D A [(a, .inr (2, [.ref q129, .ref q130, .int (nI 0), .int (nI 0)])), (q129, .inl (cI, PN, .inl (iF fun _ => 0))), (q130, .inl (cI, 2 * PT, .inl (iF fun _ => 0)))] := hD
  exact k_vret (q129, q130) hx hb hr hlocks hK hP hD hS rfl trivial (Nat.le_of_ble_eq_true rfl) (Nat.le_of_ble_eq_true rfl) dX4_init_28

set_option maxRecDepth 100000 in
set_option maxHeartbeats 4000000 in
theorem c_Rd_init (l : Launch) (D : va_G) (cI cB cJ cS : ClassId) (a x : Nat)  : kM l yX2_init vsX2_init ({ frames := 1, cells := 2, slots := 108, locals := 12 }) D (kT cI cB cJ cS) [.ref a, .int (nI x)] [(a, .inr (0, [.int (nI 0), .null, .null, .int (nI 0), .null, .null, .int (nI 0), .int (nI 0), .int (nI 0), .int (nI 0)]))] (kQv D (kT cI cB cJ cS) (fun (u : Nat × Nat) => True) (fun u => [(a, .inr (0, [.int (nI x), .ref u.1, .ref u.2, .int (nI 0), .null, .null, .int (nI 0), .int (nI 0), .int (nI 0), .int (nI 0)])), (u.1, .inl (cJ, 54, .inr (.inl (lF fun _ => 0)))), (u.2, .inl (cI, 54, .inl (iF fun _ => 0)))])) := by
  refine k_ofW (by decide) rfl (Nat.le_of_ble_eq_true rfl) ?_
  intro p e s m below meth c A ls hx hb hr hts hown hlocks hmn hml hA hP hK hD hS hZ hl
  have inX2 : ∀ w ∈ wsX20, w ∈ vsX2_init := fun w h => List.mem_cons_of_mem _ (iaX2 w h)
  have F : CallFix p m c cX2_init 2 s _ vsX2_init RX2 := ⟨hx, hb, hml, hown, hts⟩
  have hl : lv_has ls 2 [(0, .ref a), (1, .int (nI x))] := hl
  refine lv_aload_n hx hb dX2_init_0 rfl (lv_at hl 0 rfl) ?_
  refine W.objInit hx hb hown (hts (.methodLink RX2 5 objectInit) (List.mem_cons_of_mem _ wd_193)) (hts (.instanceMethod objectInit) (List.mem_cons_of_mem _ wd_186)) (hts (.code objectInit ⟨#[0xb1]⟩ 1 none) (List.mem_cons_of_mem _ wd_187)) rfl (by rw [hml]; exact hl.1) rfl dX2_init_1 (Nat.le_of_ble_eq_true rfl) (Nat.le_of_ble_eq_true rfl) ?_
  refine W.eq (g2 := F0 m 4 ls []) rfl ?_
  refine lv_aload_n hx hb dX2_init_4 rfl (lv_at hl 0 rfl) ?_
  refine lv_bipush (v := nI 54) hx hb dX2_init_5 (by decide) ?_
  refine k_newJ hx hb (hts (.arrayClass .long) (List.mem_cons_of_mem _ wd_194)) hK hP hD hS hA (by omega) (show 0 + 1 ≤ 2 by omega) (show 0 + 54 ≤ 108 by omega) dX2_init_7 (fun q131 H hP hD hS => ?_)
  refine W.widen (k := 1) (n := 54) (by omega) (by omega) ?_
  have hP : va_P D kCl [(a, .inr (0, [.int (nI 0), .null, .null, .int (nI 0), .null, .null, .int (nI 0), .int (nI 0), .int (nI 0), .int (nI 0)])), (q131, .inl (cJ, 54, .inr (.inl (lF fun _ => 0))))] H := hP
  have hD : va_D A [(a, .inr (0, [.int (nI 0), .null, .null, .int (nI 0), .null, .null, .int (nI 0), .int (nI 0), .int (nI 0), .int (nI 0)])), (q131, .inl (cJ, 54, .inr (.inl (lF fun _ => 0))))] := hD
  refine va_putF (D := D) (ci := 0) (v := .ref q131) (ty := .array (.long)) (C := RX2) (T := TX2) (N := 10) hx hb hts inX2 tyX2 tyX2_ok nmX2 hown hK hP hD hS 0 rfl rfl 1 (by decide) (hts (.fieldLink RX2 11 "ByteShapes$Reader" "itemsLeft" "[J") (List.mem_cons_of_mem _ wd_63)) (fun _ h9 => h9) rfl hmn rfl (by decide +kernel) (rfl) (rfl) (Nat.le_of_ble_eq_true rfl) dX2_init_9 (fun H locs hP hD hS => ?_)
  have hP : va_P D kCl [(a, .inr (0, [.int (nI 0), .ref q131, .null, .int (nI 0), .null, .null, .int (nI 0), .int (nI 0), .int (nI 0), .int (nI 0)])), (q131, .inl (cJ, 54, .inr (.inl (lF fun _ => 0))))] H := hP
  have hD : va_D A [(a, .inr (0, [.int (nI 0), .ref q131, .null, .int (nI 0), .null, .null, .int (nI 0), .int (nI 0), .int (nI 0), .int (nI 0)])), (q131, .inl (cJ, 54, .inr (.inl (lF fun _ => 0))))] := hD
  refine lv_aload_n hx hb dX2_init_12 rfl (lv_at hl 0 rfl) ?_
  refine lv_bipush (v := nI 54) hx hb dX2_init_13 (by decide) ?_
  refine k_newI hx hb (hts (.arrayClass .int) (List.mem_cons_of_mem _ wd_192)) hK hP hD hS hA (by omega) (show 1 + 1 ≤ 2 by omega) (show 54 + 54 ≤ 108 by omega) dX2_init_15 (fun q132 H hP hD hS => ?_)
  refine W.widen (k := 2) (n := 108) (by omega) (by omega) ?_
  have hP : va_P D kCl [(a, .inr (0, [.int (nI 0), .ref q131, .null, .int (nI 0), .null, .null, .int (nI 0), .int (nI 0), .int (nI 0), .int (nI 0)])), (q131, .inl (cJ, 54, .inr (.inl (lF fun _ => 0)))), (q132, .inl (cI, 54, .inl (iF fun _ => 0)))] H := hP
  have hD : va_D A [(a, .inr (0, [.int (nI 0), .ref q131, .null, .int (nI 0), .null, .null, .int (nI 0), .int (nI 0), .int (nI 0), .int (nI 0)])), (q131, .inl (cJ, 54, .inr (.inl (lF fun _ => 0)))), (q132, .inl (cI, 54, .inl (iF fun _ => 0)))] := hD
  refine va_putF (D := D) (ci := 0) (v := .ref q132) (ty := .array (.int)) (C := RX2) (T := TX2) (N := 10) hx hb hts inX2 tyX2 tyX2_ok nmX2 hown hK hP hD hS 0 rfl rfl 2 (by decide) (hts (.fieldLink RX2 15 "ByteShapes$Reader" "itemsDue" "[I") (List.mem_cons_of_mem _ wd_64)) (fun _ h9 => h9) rfl hmn rfl (by decide +kernel) (rfl) (rfl) (Nat.le_of_ble_eq_true rfl) dX2_init_17 (fun H locs hP hD hS => ?_)
  have hP : va_P D kCl [(a, .inr (0, [.int (nI 0), .ref q131, .ref q132, .int (nI 0), .null, .null, .int (nI 0), .int (nI 0), .int (nI 0), .int (nI 0)])), (q131, .inl (cJ, 54, .inr (.inl (lF fun _ => 0)))), (q132, .inl (cI, 54, .inl (iF fun _ => 0)))] H := hP
  have hD : va_D A [(a, .inr (0, [.int (nI 0), .ref q131, .ref q132, .int (nI 0), .null, .null, .int (nI 0), .int (nI 0), .int (nI 0), .int (nI 0)])), (q131, .inl (cJ, 54, .inr (.inl (lF fun _ => 0)))), (q132, .inl (cI, 54, .inl (iF fun _ => 0)))] := hD
  refine lv_aload_n hx hb dX2_init_20 rfl (lv_at hl 0 rfl) ?_
  refine lv_iload_n hx hb dX2_init_21 rfl (lv_at hl 1 rfl) ?_
  refine va_putF (D := D) (ci := 0) (v := .int (nI x)) (ty := .int) (C := RX2) (T := TX2) (N := 10) hx hb hts inX2 tyX2 tyX2_ok nmX2 hown hK hP hD hS 0 rfl rfl 0 (by decide) (hts (.fieldLink RX2 19 "ByteShapes$Reader" "unit" "I") (List.mem_cons_of_mem _ wd_130)) (fun _ h9 => h9) rfl hmn rfl (by decide +kernel) (rfl) (rfl) (Nat.le_of_ble_eq_true rfl) dX2_init_22 (fun H locs hP hD hS => ?_)
  have hP : va_P D kCl [(a, .inr (0, [.int (nI x), .ref q131, .ref q132, .int (nI 0), .null, .null, .int (nI 0), .int (nI 0), .int (nI 0), .int (nI 0)])), (q131, .inl (cJ, 54, .inr (.inl (lF fun _ => 0)))), (q132, .inl (cI, 54, .inl (iF fun _ => 0)))] H := hP
  have hD : va_D A [(a, .inr (0, [.int (nI x), .ref q131, .ref q132, .int (nI 0), .null, .null, .int (nI 0), .int (nI 0), .int (nI 0), .int (nI 0)])), (q131, .inl (cJ, 54, .inr (.inl (lF fun _ => 0)))), (q132, .inl (cI, 54, .inl (iF fun _ => 0)))] := hD
  exact k_vret (q131, q132) hx hb hr hlocks hK hP hD hS rfl trivial (Nat.le_of_ble_eq_true rfl) (Nat.le_of_ble_eq_true rfl) dX2_init_25

set_option maxRecDepth 100000 in
set_option maxHeartbeats 4000000 in
theorem c_Wr_init (l : Launch) (D : va_G) (cI cB cJ cS : ClassId) (a x : Nat)  : kM l yX5_init vsX5_init ({ frames := 1, cells := 0, slots := 0, locals := 12 }) D (kT cI cB cJ cS) [.ref a, .int (nI x)] [(a, .inr (3, [.int (nI 0), .null, .null, .int (nI 0), .int (nI 0), .int (nI 0)]))] (kQv D (kT cI cB cJ cS) (fun (ug : Unit) => True) (fun ug => [(a, .inr (3, [.int (nI x), .null, .null, .int (nI 0), .int (nI 0), .int (nI 0)]))])) := by
  refine k_ofW (by decide) rfl (Nat.le_of_ble_eq_true rfl) ?_
  intro p e s m below meth c A ls hx hb hr hts hown hlocks hmn hml hA hP hK hD hS hZ hl
  have inX5 : ∀ w ∈ wsX50, w ∈ vsX5_init := fun w h => List.mem_cons_of_mem _ (iaX5 w h)
  have F : CallFix p m c cX5_init 2 s _ vsX5_init RX5 := ⟨hx, hb, hml, hown, hts⟩
  have hl : lv_has ls 2 [(0, .ref a), (1, .int (nI x))] := hl
  refine lv_aload_n hx hb dX5_init_0 rfl (lv_at hl 0 rfl) ?_
  refine W.objInit hx hb hown (hts (.methodLink RX5 1 objectInit) (List.mem_cons_of_mem _ wd_195)) (hts (.instanceMethod objectInit) (List.mem_cons_of_mem _ wd_186)) (hts (.code objectInit ⟨#[0xb1]⟩ 1 none) (List.mem_cons_of_mem _ wd_187)) rfl (by rw [hml]; exact hl.1) rfl dX5_init_1 (Nat.le_of_ble_eq_true rfl) (Nat.le_of_ble_eq_true rfl) ?_
  refine W.eq (g2 := F0 m 4 ls []) rfl ?_
  refine lv_aload_n hx hb dX5_init_4 rfl (lv_at hl 0 rfl) ?_
  refine lv_iload_n hx hb dX5_init_5 rfl (lv_at hl 1 rfl) ?_
  refine va_putF (D := D) (ci := 3) (v := .int (nI x)) (ty := .int) (C := RX5) (T := TX5) (N := 6) hx hb hts inX5 tyX5 tyX5_ok nmX5 hown hK hP hD hS 0 rfl rfl 0 (by decide) (hts (.fieldLink RX5 7 "ByteShapes$Writer" "unit" "I") (List.mem_cons_of_mem _ wd_196)) (fun _ h9 => h9) rfl hmn rfl (by decide +kernel) (rfl) (rfl) (Nat.le_of_ble_eq_true rfl) dX5_init_6 (fun H locs hP hD hS => ?_)
  have hP : va_P D kCl [(a, .inr (3, [.int (nI x), .null, .null, .int (nI 0), .int (nI 0), .int (nI 0)]))] H := hP
  have hD : va_D A [(a, .inr (3, [.int (nI x), .null, .null, .int (nI 0), .int (nI 0), .int (nI 0)]))] := hD
  exact k_vret () hx hb hr hlocks hK hP hD hS (rfl) (trivial) (Nat.le_of_ble_eq_true rfl) (Nat.le_of_ble_eq_true rfl) dX5_init_9

