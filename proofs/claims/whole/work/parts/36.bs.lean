set_option maxRecDepth 100000 in
set_option maxHeartbeats 4000000 in
theorem c_isSlot1 (l : Launch) (D : va_G) (cI cB cJ cS : ClassId) (k : Nat) (hk : k < 4)  : kM l yX6_isSlot vsX6_isSlot ({ frames := 0, cells := 0, slots := 0, locals := 0 }) D (kT cI cB cJ cS) [.int (nI k)] [] (kQi D (kT cI cB cJ cS) (fun r (ug : Unit) => r = nI 1) (fun ug => [])) := by
  refine k_ofW (by decide) rfl (Nat.le_of_ble_eq_true rfl) ?_
  intro p e s m below meth c A ls hx hb hr hts hown hlocks hmn hml hA hP hK hD hS hZ hl
  have F : CallFix p m c cX6_isSlot 1 s _ vsX6_isSlot RX6 := ⟨hx, hb, hml, hown, hts⟩
  have hl : lv_has ls 1 [(0, .int (nI k))] := hl
  refine lv_iload_n hx hb dX6_isSlot_0 rfl (lv_at hl 0 rfl) ?_
  refine k_if_lt (tgt := 13) (by omega) hx hb dX6_isSlot_1 (by decide) (fun c133 => ?_) (fun c133 => ?_)
  · skip
    exact c133.elim
  · skip
    refine lv_iload_n hx hb dX6_isSlot_4 rfl (lv_at hl 0 rfl) ?_
    refine lv_iconst (v := nI 4) hx hb dX6_isSlot_5 (by decide) ?_
    refine k_icmp_ge (tgt := 13) (by omega) (by omega) hx hb dX6_isSlot_6 (by decide) (fun c134 => ?_) (fun c134 => ?_)
    · skip
      exact absurd c134 (by omega)
    · skip
      refine lv_iconst (v := nI 1) hx hb dX6_isSlot_9 (by decide) ?_
      refine lv_goto (tgt := 14) hx hb dX6_isSlot_10 (by decide) ?_
      exact k_iret () hx hb hr (by first | rfl | decide | exact vp_nar_int _) hlocks hK hP hD hS (rfl) (rfl) (Nat.le_of_ble_eq_true rfl) (Nat.le_of_ble_eq_true rfl) dX6_isSlot_14

set_option maxRecDepth 100000 in
set_option maxHeartbeats 4000000 in
theorem c_isSlot0 (l : Launch) (D : va_G) (cI cB cJ cS : ClassId) (z : Int32) (hz : z < 0 ∨ nI 4 ≤ z)  : kM l yX6_isSlot vsX6_isSlot ({ frames := 0, cells := 0, slots := 0, locals := 0 }) D (kT cI cB cJ cS) [.int z] [] (kQi D (kT cI cB cJ cS) (fun r (ug : Unit) => r = nI 0) (fun ug => [])) := by
  refine k_ofW (by decide) rfl (Nat.le_of_ble_eq_true rfl) ?_
  intro p e s m below meth c A ls hx hb hr hts hown hlocks hmn hml hA hP hK hD hS hZ hl
  have F : CallFix p m c cX6_isSlot 1 s _ vsX6_isSlot RX6 := ⟨hx, hb, hml, hown, hts⟩
  have hl : lv_has ls 1 [(0, .int z)] := hl
  refine lv_iload_n hx hb dX6_isSlot_0 rfl (lv_at hl 0 rfl) ?_
  refine lv_if_lt (tgt := 13) hx hb dX6_isSlot_1 (by decide) (fun c1 => ?_) (fun c1 => ?_)
  · skip
    refine lv_iconst (v := nI 0) hx hb dX6_isSlot_13 (by decide) ?_
    exact k_iret () hx hb hr (by first | rfl | decide | exact vp_nar_int _) hlocks hK hP hD hS (rfl) (rfl) (Nat.le_of_ble_eq_true rfl) (Nat.le_of_ble_eq_true rfl) dX6_isSlot_14
  · skip
    refine lv_iload_n hx hb dX6_isSlot_4 rfl (lv_at hl 0 rfl) ?_
    refine lv_iconst (v := nI 4) hx hb dX6_isSlot_5 (by decide) ?_
    refine lv_icmp_ge (tgt := 13) hx hb dX6_isSlot_6 (by decide) (fun c2 => ?_) (fun c2 => ?_)
    · skip
      refine lv_iconst (v := nI 0) hx hb dX6_isSlot_13 (by decide) ?_
      exact k_iret () hx hb hr (by first | rfl | decide | exact vp_nar_int _) hlocks hK hP hD hS (rfl) (rfl) (Nat.le_of_ble_eq_true rfl) (Nat.le_of_ble_eq_true rfl) dX6_isSlot_14
    · skip
      exact absurd c2 (fun q => hz.elim c1 q)

set_option maxRecDepth 100000 in
set_option maxHeartbeats 4000000 in
theorem c_shapeIn (l : Launch) (D : va_G) (cI cB cJ cS : ClassId) (x sa a rs rd wt : Nat) (f : Nat → Option Nat) (sh k : Nat) (hk : k < 4) (hf : f k = some sh)  : kM l yX6_shapeIn vsX6_shapeIn ({ frames := 1, cells := 0, slots := 0, locals := 20 }) D (kT cI cB cJ cS) [.ref x, .int (nI k)] [(x, .inr (4, [.ref sa, .ref a, .ref rs, .ref rd, .ref wt])), (sa, .inl (cS, 4, .inr (.inr (.inr (.inr f)))))] (kQr D (kT cI cB cJ cS) (fun (ug : Unit) r => sh = r) (fun ug r => [(x, .inr (4, [.ref sa, .ref a, .ref rs, .ref rd, .ref wt])), (sa, .inl (cS, 4, .inr (.inr (.inr (.inr f)))))])) := by
  refine k_ofW (by decide) rfl (Nat.le_of_ble_eq_true rfl) ?_
  intro p e s m below meth c A ls hx hb hr hts hown hlocks hmn hml hA hP hK hD hS hZ hl
  have inX6 : ∀ w ∈ wsX60, w ∈ vsX6_shapeIn := fun w h => List.mem_cons_of_mem _ (iaX6 w h)
  have F : CallFix p m c cX6_shapeIn 2 s _ vsX6_shapeIn RX6 := ⟨hx, hb, hml, hown, hts⟩
  have hl : lv_has ls 2 [(0, .ref x), (1, .int (nI k))] := hl
  refine lv_iload_n hx hb dX6_shapeIn_0 rfl (lv_at hl 1 rfl) ?_
  refine k_ci (wr := [(x, .inr (4, [.ref sa, .ref a, .ref rs, .ref rd, .ref wt])), (sa, .inl (cS, 4, .inr (.inr (.inr (.inr f)))))]) (k_rs F (c_isSlot1 l D cI cB cJ cS k hk) (va_cwS 1 hts (g_S wd_198 wd_199 wd_8 wd_200) rfl rfl rfl (by decide +kernel) ⟨Nat.le_of_ble_eq_true rfl, Nat.le_of_ble_eq_true rfl⟩) hK hP hD hS hA hZ [] rfl (by decide) rfl hl.1 rfl (Nat.le_of_ble_eq_true rfl) dX6_shapeIn_1 ⟨Nat.le_of_ble_eq_true rfl, Nat.le_of_ble_eq_true rfl⟩) hP hD hS hA [] [0, 1] rfl rfl (by decide) (by decide) (fun r u9 H locs hw hP hD hS => ?_)
  subst hw
  have hP : va_P D kCl [(x, .inr (4, [.ref sa, .ref a, .ref rs, .ref rd, .ref wt])), (sa, .inl (cS, 4, .inr (.inr (.inr (.inr f)))))] H := hP
  have hD : va_D A [(x, .inr (4, [.ref sa, .ref a, .ref rs, .ref rd, .ref wt])), (sa, .inl (cS, 4, .inr (.inr (.inr (.inr f)))))] := hD
  refine W.widen (k := 0) (n := 0) (Nat.le_of_ble_eq_true rfl) (Nat.le_of_ble_eq_true rfl) ?_
  refine k_if_ne (tgt := 17) (by omega) hx hb dX6_shapeIn_4 (by decide) (fun c135 => ?_) (fun c135 => ?_)
  · skip
    refine lv_aload_n hx hb dX6_shapeIn_17 rfl (lv_at hl 0 rfl) ?_
    refine va_get (D := D) (ci := 4) (v := .ref sa) (C := RX6) (T := TX6) (N := 5) hx hb hts inX6 hown hK hP 0 rfl rfl 0 (by decide) (hts (.fieldLink RX6 11 "ByteShapes" "shapes" "[LByteShapes$Shape;") (List.mem_cons_of_mem _ wd_197)) (fun _ h9 => h9) rfl dX6_shapeIn_18 ?_
    refine lv_iload_n hx hb dX6_shapeIn_21 rfl (lv_at hl 1 rfl) ?_
    refine va_aldq hx hb hK hP 1 3 rfl rfl (vp_in_nI (by omega) (by omega)) dX6_shapeIn_22 ?_
    refine k_v (show va_rf (f (nI k).toNatClampNeg) = .ref sh from by rw [nI_clamp (by omega), hf]; rfl) ?_
    exact k_rret () hx hb hr (Or.inl ⟨_, rfl⟩) hlocks hK hP hD hS (rfl) (rfl) (Nat.le_of_ble_eq_true rfl) (Nat.le_of_ble_eq_true rfl) dX6_shapeIn_23
  · skip
    exact absurd c135 (by omega)

set_option maxRecDepth 100000 in
set_option maxHeartbeats 4000000 in
theorem c_shapeInX (l : Launch) (D : va_G) (cI cB cJ cS : ClassId) (hl9 : l.stackTraces = false) (x : Nat) (z : Int32) (hz : z < 0 ∨ nI 4 ≤ z) : kX l yX6_shapeIn vsX6_shapeIn ({ frames := 6, cells := 1, slots := 6, locals := 82 }) D (kT cI cB cJ cS) [.ref x, .int z] [] "java/lang/IndexOutOfBoundsException" [] := by
  refine k_ofX (by decide) rfl (Nat.le_of_ble_eq_true rfl) ?_
  intro p e s m below meth c A ls hx hb hr hts hown hlocks hmn hml hA hP hK hD hS hZ hl hxt
  have F : CallFix p m c cX6_shapeIn 2 s _ vsX6_shapeIn RX6 := ⟨hx, hb, hml, hown, hts⟩
  have hl : lv_has ls 2 [(0, .ref x), (1, .int z)] := hl
  refine lv_iload_n hx hb dX6_shapeIn_0 rfl (lv_at hl 1 rfl) ?_
  refine k_ci (wr := []) (k_rs F (c_isSlot0 l D cI cB cJ cS z hz) (va_cwS 1 hts (g_S wd_198 wd_199 wd_8 wd_200) rfl rfl rfl (by decide +kernel) ⟨Nat.le_of_ble_eq_true rfl, Nat.le_of_ble_eq_true rfl⟩) hK hP hD hS hA hZ [] rfl (by decide) rfl hl.1 rfl (Nat.le_of_ble_eq_true rfl) dX6_shapeIn_1 ⟨Nat.le_of_ble_eq_true rfl, Nat.le_of_ble_eq_true rfl⟩) hP hD hS hA [] [] rfl rfl (by decide) (by decide) (fun r u9 H locs hw hP hD hS => ?_)
  subst hw
  have hP : va_P D kCl [] H := hP
  have hD : va_D A [] := hD
  refine W.widen (k := 0) (n := 0) (Nat.le_of_ble_eq_true rfl) (Nat.le_of_ble_eq_true rfl) ?_
  refine k_if_ne (tgt := 17) (by omega) hx hb dX6_shapeIn_4 (by decide) (fun c136 => ?_) (fun c136 => ?_)
  · skip
    exact absurd c136 (by omega)
  · skip
    exact k_thr (own := RX6) (E := "java/lang/IndexOutOfBoundsException") (names := ["java/lang/RuntimeException", "java/lang/Exception"]) (text := "no such slot") hx hb hl9 hown (by decide +kernel) (by decide +kernel) (hts (.classLink RX6 87 "java/lang/IndexOutOfBoundsException") (List.mem_cons_of_mem _ wd_201)) (hts (.initialized "java/lang/IndexOutOfBoundsException") (List.mem_cons_of_mem _ wd_180)) (hZ.str (q := (RX6, 89, "no such slot")) (by decide +kernel)) (vx_hat (L := vx_atS RX6 91 "java/lang/IndexOutOfBoundsException" ["java/lang/RuntimeException", "java/lang/Exception"]) (B := [.castable "java/lang/IndexOutOfBoundsException" "java/lang/IndexOutOfBoundsException", .declares ⟨"java/lang/RuntimeException", "<init>", "(Ljava/lang/String;)V"⟩, .declares ⟨"java/lang/Exception", "<init>", "(Ljava/lang/String;)V"⟩, .declares ⟨"java/lang/Throwable", "<init>", "(Ljava/lang/String;)V"⟩]) (fun w hw => hts w (List.mem_cons_of_mem _ (atw_2 w hw))) (by decide +kernel) (vx_c (va_Nw.use rfl (hZ.nw (w := .castable "java/lang/IndexOutOfBoundsException" "java/lang/IndexOutOfBoundsException") (by decide +kernel))) (vx_c (va_Nw.use rfl (hZ.nw (w := .declares ⟨"java/lang/RuntimeException", "<init>", "(Ljava/lang/String;)V"⟩) (by decide +kernel))) (vx_c (va_Nw.use rfl (hZ.nw (w := .declares ⟨"java/lang/Exception", "<init>", "(Ljava/lang/String;)V"⟩) (by decide +kernel))) (vx_c (va_Nw.use rfl (hZ.nw (w := .declares ⟨"java/lang/Throwable", "<init>", "(Ljava/lang/String;)V"⟩) (by decide +kernel))) (vx_n)))))) (by decide +kernel) hZ hK hP hD hS (hl.1.trans hml.symm) dX6_shapeIn_7 dX6_shapeIn_10 dX6_shapeIn_11 dX6_shapeIn_13 dX6_shapeIn_16 hxt (Nat.le_of_ble_eq_true rfl) (Nat.le_of_ble_eq_true rfl) (Nat.le_of_ble_eq_true rfl) (Nat.le_of_ble_eq_true rfl) hlocks (rfl) (Nat.le_of_ble_eq_true rfl) (Nat.le_of_ble_eq_true rfl)

set_option maxRecDepth 100000 in
set_option maxHeartbeats 4000000 in
theorem c_feed (l : Launch) (D : va_G) (cI cB cJ cS : ClassId) (x sa a rs rd wt : Nat) (ab n : Nat) (b : Nat → Nat) (hn : n ≤ 65516) (k0 k1 k2 k3 k4 : Nat) (hk0 : k0 < 2 ^ 32) (hk1 : k1 < 2 ^ 32) (hk2 : k2 < 2 ^ 32) (hk3 : k3 < 2 ^ 32) (hk4 : k4 < 2 ^ 32)  : kM l yX6_feed vsX6_feed ({ frames := 1, cells := 0, slots := 0, locals := 26 }) D (kT cI cB cJ cS) [.ref x, .int (nI k0), .int (nI k1), .int (nI k2), .int (nI k3), .int (nI k4)] [(x, .inr (4, [.ref sa, .ref a, .ref rs, .ref rd, .ref wt])), (a, .inr (1, [.ref ab, .int (nI n)])), (ab, .inl (cB, 65536, .inl (bF b)))] (kQi D (kT cI cB cJ cS) (fun r (ug : Unit) => r = nI (n + 20)) (fun ug => [(x, .inr (4, [.ref sa, .ref a, .ref rs, .ref rd, .ref wt])), (a, .inr (1, [.ref ab, .int (nI (n + 4 + 4 + 4 + 4 + 4))])), (ab, .inl (cB, 65536, .inl (bF (pA (pA (pA (pA (pA (b) (n) (sx k0) 4 0 4) (n + 4) (sx k1) 4 0 4) (n + 4 + 4) (sx k2) 4 0 4) (n + 4 + 4 + 4) (sx k3) 4 0 4) (n + 4 + 4 + 4 + 4) (sx k4) 4 0 4))))])) := by
  refine k_ofW (by decide) rfl (Nat.le_of_ble_eq_true rfl) ?_
  intro p e s m below meth c A ls hx hb hr hts hown hlocks hmn hml hA hP hK hD hS hZ hl
  have inX3 : ∀ w ∈ wsX30, w ∈ vsX6_feed := fun w h => List.mem_cons_of_mem _ (iaX3 w h)
  have inX6 : ∀ w ∈ wsX60, w ∈ vsX6_feed := fun w h => List.mem_cons_of_mem _ (iaX6 w h)
  have F : CallFix p m c cX6_feed 6 s _ vsX6_feed RX6 := ⟨hx, hb, hml, hown, hts⟩
  have hl : lv_has ls 6 [(0, .ref x), (1, .int (nI k0)), (2, .int (nI k1)), (3, .int (nI k2)), (4, .int (nI k3)), (5, .int (nI k4))] := hl
  refine lv_aload_n hx hb dX6_feed_0 rfl (lv_at hl 0 rfl) ?_
  refine va_get (D := D) (ci := 4) (v := .ref a) (C := RX6) (T := TX6) (N := 5) hx hb hts inX6 hown hK hP 0 rfl rfl 1 (by decide) (hts (.fieldLink RX6 21 "ByteShapes" "tape" "LByteShapes$Row;") (List.mem_cons_of_mem _ wd_202)) (fun _ h9 => h9) rfl dX6_feed_1 ?_
  refine k_ci (wr := [(x, .inr (4, [.ref sa, .ref a, .ref rs, .ref rd, .ref wt]))]) (k_rv F (c_Row_size l D cI cB cJ cS a ab (n) (b)) (cwV 0 hts (g_V wd_204 wd_48 wd_49 wd_50 wd_51) rfl rfl rfl (by decide +kernel) ⟨Nat.le_of_ble_eq_true rfl, Nat.le_of_ble_eq_true rfl⟩) hK hP hD hS hA hZ [1, 2] rfl (by decide) 1 rfl rfl rfl rfl hl.1 rfl (Nat.le_of_ble_eq_true rfl) dX6_feed_4 ⟨Nat.le_of_ble_eq_true rfl, Nat.le_of_ble_eq_true rfl⟩) hP hD hS hA [1, 2] [0] rfl rfl (by decide) (by decide) (fun r u9 H locs hw hP hD hS => ?_)
  subst hw
  have hP : va_P D kCl [(x, .inr (4, [.ref sa, .ref a, .ref rs, .ref rd, .ref wt])), (a, .inr (1, [.ref ab, .int (nI n)])), (ab, .inl (cB, 65536, .inl (bF b)))] H := hP
  have hD : va_D A [(x, .inr (4, [.ref sa, .ref a, .ref rs, .ref rd, .ref wt])), (a, .inr (1, [.ref ab, .int (nI n)])), (ab, .inl (cB, 65536, .inl (bF b)))] := hD
  refine W.widen (k := 0) (n := 0) (Nat.le_of_ble_eq_true rfl) (Nat.le_of_ble_eq_true rfl) ?_
  refine lv_ldc (v := nI 65516) hx hb hown (hts (.constant RX6 57 (65516)) (List.mem_cons_of_mem _ wd_203)) dX6_feed_7 ?_
  refine k_icmp_le (tgt := 22) (by omega) (by omega) hx hb dX6_feed_9 (by decide) (fun c137 => ?_) (fun c137 => ?_)
  · skip
    refine lv_aload_n hx hb dX6_feed_22 rfl (lv_at hl 0 rfl) ?_
    refine va_get (D := D) (ci := 4) (v := .ref a) (C := RX6) (T := TX6) (N := 5) hx hb hts inX6 hown hK hP 0 rfl rfl 1 (by decide) (hts (.fieldLink RX6 21 "ByteShapes" "tape" "LByteShapes$Row;") (List.mem_cons_of_mem _ wd_202)) (fun _ h9 => h9) rfl dX6_feed_23 ?_
    refine lv_iload_n hx hb dX6_feed_26 rfl (lv_at hl 1 rfl) ?_
    refine lv_i2l (v := lN (sx k0)) hx hb dX6_feed_27 (sx_eq hk0) ?_
    refine lv_iconst (v := nI 4) hx hb dX6_feed_28 (by decide) ?_
    refine lv_iconst (v := nI 0) hx hb dX6_feed_29 (by decide) ?_
    refine k_cv (wr := [(x, .inr (4, [.ref sa, .ref a, .ref rs, .ref rd, .ref wt]))]) (k_rv F (c_Row_append l D cI cB cJ cS a ab (n) (b) (sx k0) 4 0 (by omega) (by decide) (by decide) (sx_lt hk0)) (cwV 3 hts (g_V wd_205 wd_206 wd_207 wd_50 wd_208) rfl rfl rfl (by decide +kernel) ⟨Nat.le_of_ble_eq_true rfl, Nat.le_of_ble_eq_true rfl⟩) hK hP hD hS hA hZ [1, 2] rfl (by decide) 1 rfl rfl rfl rfl hl.1 rfl (Nat.le_of_ble_eq_true rfl) dX6_feed_30 ⟨Nat.le_of_ble_eq_true rfl, Nat.le_of_ble_eq_true rfl⟩) hP hD hS hA [1, 2] [0] rfl rfl (by decide) (by decide) (fun u9 H locs hw hP hD hS => ?_)
    have hP : va_P D kCl [(x, .inr (4, [.ref sa, .ref a, .ref rs, .ref rd, .ref wt])), (a, .inr (1, [.ref ab, .int (nI (n + 4))])), (ab, .inl (cB, 65536, .inl (bF (pA (b) (n) (sx k0) 4 0 4))))] H := hP
    have hD : va_D A [(x, .inr (4, [.ref sa, .ref a, .ref rs, .ref rd, .ref wt])), (a, .inr (1, [.ref ab, .int (nI (n + 4))])), (ab, .inl (cB, 65536, .inl (bF (pA (b) (n) (sx k0) 4 0 4))))] := hD
    refine W.widen (k := 0) (n := 0) (Nat.le_of_ble_eq_true rfl) (Nat.le_of_ble_eq_true rfl) ?_
    refine lv_aload_n hx hb dX6_feed_33 rfl (lv_at hl 0 rfl) ?_
    refine va_get (D := D) (ci := 4) (v := .ref a) (C := RX6) (T := TX6) (N := 5) hx hb hts inX6 hown hK hP 0 rfl rfl 1 (by decide) (hts (.fieldLink RX6 21 "ByteShapes" "tape" "LByteShapes$Row;") (List.mem_cons_of_mem _ wd_202)) (fun _ h9 => h9) rfl dX6_feed_34 ?_
    refine lv_iload_n hx hb dX6_feed_37 rfl (lv_at hl 2 rfl) ?_
    refine lv_i2l (v := lN (sx k1)) hx hb dX6_feed_38 (sx_eq hk1) ?_
    refine lv_iconst (v := nI 4) hx hb dX6_feed_39 (by decide) ?_
    refine lv_iconst (v := nI 0) hx hb dX6_feed_40 (by decide) ?_
    refine k_cv (wr := [(x, .inr (4, [.ref sa, .ref a, .ref rs, .ref rd, .ref wt]))]) (k_rv F (c_Row_append l D cI cB cJ cS a ab (n + 4) (pA (b) (n) (sx k0) 4 0 4) (sx k1) 4 0 (by omega) (by decide) (by decide) (sx_lt hk1)) (cwV 3 hts (g_V wd_205 wd_206 wd_207 wd_50 wd_208) rfl rfl rfl (by decide +kernel) ⟨Nat.le_of_ble_eq_true rfl, Nat.le_of_ble_eq_true rfl⟩) hK hP hD hS hA hZ [1, 2] rfl (by decide) 1 rfl rfl rfl rfl hl.1 rfl (Nat.le_of_ble_eq_true rfl) dX6_feed_41 ⟨Nat.le_of_ble_eq_true rfl, Nat.le_of_ble_eq_true rfl⟩) hP hD hS hA [1, 2] [0] rfl rfl (by decide) (by decide) (fun u9 H locs hw hP hD hS => ?_)
    have hP : va_P D kCl [(x, .inr (4, [.ref sa, .ref a, .ref rs, .ref rd, .ref wt])), (a, .inr (1, [.ref ab, .int (nI (n + 4 + 4))])), (ab, .inl (cB, 65536, .inl (bF (pA (pA (b) (n) (sx k0) 4 0 4) (n + 4) (sx k1) 4 0 4))))] H := hP
    have hD : va_D A [(x, .inr (4, [.ref sa, .ref a, .ref rs, .ref rd, .ref wt])), (a, .inr (1, [.ref ab, .int (nI (n + 4 + 4))])), (ab, .inl (cB, 65536, .inl (bF (pA (pA (b) (n) (sx k0) 4 0 4) (n + 4) (sx k1) 4 0 4))))] := hD
    refine W.widen (k := 0) (n := 0) (Nat.le_of_ble_eq_true rfl) (Nat.le_of_ble_eq_true rfl) ?_
    refine lv_aload_n hx hb dX6_feed_44 rfl (lv_at hl 0 rfl) ?_
    refine va_get (D := D) (ci := 4) (v := .ref a) (C := RX6) (T := TX6) (N := 5) hx hb hts inX6 hown hK hP 0 rfl rfl 1 (by decide) (hts (.fieldLink RX6 21 "ByteShapes" "tape" "LByteShapes$Row;") (List.mem_cons_of_mem _ wd_202)) (fun _ h9 => h9) rfl dX6_feed_45 ?_
    refine lv_iload_n hx hb dX6_feed_48 rfl (lv_at hl 3 rfl) ?_
    refine lv_i2l (v := lN (sx k2)) hx hb dX6_feed_49 (sx_eq hk2) ?_
    refine lv_iconst (v := nI 4) hx hb dX6_feed_50 (by decide) ?_
    refine lv_iconst (v := nI 0) hx hb dX6_feed_51 (by decide) ?_
    refine k_cv (wr := [(x, .inr (4, [.ref sa, .ref a, .ref rs, .ref rd, .ref wt]))]) (k_rv F (c_Row_append l D cI cB cJ cS a ab (n + 4 + 4) (pA (pA (b) (n) (sx k0) 4 0 4) (n + 4) (sx k1) 4 0 4) (sx k2) 4 0 (by omega) (by decide) (by decide) (sx_lt hk2)) (cwV 3 hts (g_V wd_205 wd_206 wd_207 wd_50 wd_208) rfl rfl rfl (by decide +kernel) ⟨Nat.le_of_ble_eq_true rfl, Nat.le_of_ble_eq_true rfl⟩) hK hP hD hS hA hZ [1, 2] rfl (by decide) 1 rfl rfl rfl rfl hl.1 rfl (Nat.le_of_ble_eq_true rfl) dX6_feed_52 ⟨Nat.le_of_ble_eq_true rfl, Nat.le_of_ble_eq_true rfl⟩) hP hD hS hA [1, 2] [0] rfl rfl (by decide) (by decide) (fun u9 H locs hw hP hD hS => ?_)
    have hP : va_P D kCl [(x, .inr (4, [.ref sa, .ref a, .ref rs, .ref rd, .ref wt])), (a, .inr (1, [.ref ab, .int (nI (n + 4 + 4 + 4))])), (ab, .inl (cB, 65536, .inl (bF (pA (pA (pA (b) (n) (sx k0) 4 0 4) (n + 4) (sx k1) 4 0 4) (n + 4 + 4) (sx k2) 4 0 4))))] H := hP
    have hD : va_D A [(x, .inr (4, [.ref sa, .ref a, .ref rs, .ref rd, .ref wt])), (a, .inr (1, [.ref ab, .int (nI (n + 4 + 4 + 4))])), (ab, .inl (cB, 65536, .inl (bF (pA (pA (pA (b) (n) (sx k0) 4 0 4) (n + 4) (sx k1) 4 0 4) (n + 4 + 4) (sx k2) 4 0 4))))] := hD
    refine W.widen (k := 0) (n := 0) (Nat.le_of_ble_eq_true rfl) (Nat.le_of_ble_eq_true rfl) ?_
    refine lv_aload_n hx hb dX6_feed_55 rfl (lv_at hl 0 rfl) ?_
    refine va_get (D := D) (ci := 4) (v := .ref a) (C := RX6) (T := TX6) (N := 5) hx hb hts inX6 hown hK hP 0 rfl rfl 1 (by decide) (hts (.fieldLink RX6 21 "ByteShapes" "tape" "LByteShapes$Row;") (List.mem_cons_of_mem _ wd_202)) (fun _ h9 => h9) rfl dX6_feed_56 ?_
    refine lv_iload hx hb dX6_feed_59 (lv_at hl 4 rfl) ?_
    refine lv_i2l (v := lN (sx k3)) hx hb dX6_feed_61 (sx_eq hk3) ?_
    refine lv_iconst (v := nI 4) hx hb dX6_feed_62 (by decide) ?_
    refine lv_iconst (v := nI 0) hx hb dX6_feed_63 (by decide) ?_
    refine k_cv (wr := [(x, .inr (4, [.ref sa, .ref a, .ref rs, .ref rd, .ref wt]))]) (k_rv F (c_Row_append l D cI cB cJ cS a ab (n + 4 + 4 + 4) (pA (pA (pA (b) (n) (sx k0) 4 0 4) (n + 4) (sx k1) 4 0 4) (n + 4 + 4) (sx k2) 4 0 4) (sx k3) 4 0 (by omega) (by decide) (by decide) (sx_lt hk3)) (cwV 3 hts (g_V wd_205 wd_206 wd_207 wd_50 wd_208) rfl rfl rfl (by decide +kernel) ⟨Nat.le_of_ble_eq_true rfl, Nat.le_of_ble_eq_true rfl⟩) hK hP hD hS hA hZ [1, 2] rfl (by decide) 1 rfl rfl rfl rfl hl.1 rfl (Nat.le_of_ble_eq_true rfl) dX6_feed_64 ⟨Nat.le_of_ble_eq_true rfl, Nat.le_of_ble_eq_true rfl⟩) hP hD hS hA [1, 2] [0] rfl rfl (by decide) (by decide) (fun u9 H locs hw hP hD hS => ?_)
    have hP : va_P D kCl [(x, .inr (4, [.ref sa, .ref a, .ref rs, .ref rd, .ref wt])), (a, .inr (1, [.ref ab, .int (nI (n + 4 + 4 + 4 + 4))])), (ab, .inl (cB, 65536, .inl (bF (pA (pA (pA (pA (b) (n) (sx k0) 4 0 4) (n + 4) (sx k1) 4 0 4) (n + 4 + 4) (sx k2) 4 0 4) (n + 4 + 4 + 4) (sx k3) 4 0 4))))] H := hP
    have hD : va_D A [(x, .inr (4, [.ref sa, .ref a, .ref rs, .ref rd, .ref wt])), (a, .inr (1, [.ref ab, .int (nI (n + 4 + 4 + 4 + 4))])), (ab, .inl (cB, 65536, .inl (bF (pA (pA (pA (pA (b) (n) (sx k0) 4 0 4) (n + 4) (sx k1) 4 0 4) (n + 4 + 4) (sx k2) 4 0 4) (n + 4 + 4 + 4) (sx k3) 4 0 4))))] := hD
    refine W.widen (k := 0) (n := 0) (Nat.le_of_ble_eq_true rfl) (Nat.le_of_ble_eq_true rfl) ?_
    refine lv_aload_n hx hb dX6_feed_67 rfl (lv_at hl 0 rfl) ?_
    refine va_get (D := D) (ci := 4) (v := .ref a) (C := RX6) (T := TX6) (N := 5) hx hb hts inX6 hown hK hP 0 rfl rfl 1 (by decide) (hts (.fieldLink RX6 21 "ByteShapes" "tape" "LByteShapes$Row;") (List.mem_cons_of_mem _ wd_202)) (fun _ h9 => h9) rfl dX6_feed_68 ?_
    refine lv_iload hx hb dX6_feed_71 (lv_at hl 5 rfl) ?_
    refine lv_i2l (v := lN (sx k4)) hx hb dX6_feed_73 (sx_eq hk4) ?_
    refine lv_iconst (v := nI 4) hx hb dX6_feed_74 (by decide) ?_
    refine lv_iconst (v := nI 0) hx hb dX6_feed_75 (by decide) ?_
    refine k_cv (wr := [(x, .inr (4, [.ref sa, .ref a, .ref rs, .ref rd, .ref wt]))]) (k_rv F (c_Row_append l D cI cB cJ cS a ab (n + 4 + 4 + 4 + 4) (pA (pA (pA (pA (b) (n) (sx k0) 4 0 4) (n + 4) (sx k1) 4 0 4) (n + 4 + 4) (sx k2) 4 0 4) (n + 4 + 4 + 4) (sx k3) 4 0 4) (sx k4) 4 0 (by omega) (by decide) (by decide) (sx_lt hk4)) (cwV 3 hts (g_V wd_205 wd_206 wd_207 wd_50 wd_208) rfl rfl rfl (by decide +kernel) ⟨Nat.le_of_ble_eq_true rfl, Nat.le_of_ble_eq_true rfl⟩) hK hP hD hS hA hZ [1, 2] rfl (by decide) 1 rfl rfl rfl rfl hl.1 rfl (Nat.le_of_ble_eq_true rfl) dX6_feed_76 ⟨Nat.le_of_ble_eq_true rfl, Nat.le_of_ble_eq_true rfl⟩) hP hD hS hA [1, 2] [0] rfl rfl (by decide) (by decide) (fun u9 H locs hw hP hD hS => ?_)
    have hP : va_P D kCl [(x, .inr (4, [.ref sa, .ref a, .ref rs, .ref rd, .ref wt])), (a, .inr (1, [.ref ab, .int (nI (n + 4 + 4 + 4 + 4 + 4))])), (ab, .inl (cB, 65536, .inl (bF (pA (pA (pA (pA (pA (b) (n) (sx k0) 4 0 4) (n + 4) (sx k1) 4 0 4) (n + 4 + 4) (sx k2) 4 0 4) (n + 4 + 4 + 4) (sx k3) 4 0 4) (n + 4 + 4 + 4 + 4) (sx k4) 4 0 4))))] H := hP
    have hD : va_D A [(x, .inr (4, [.ref sa, .ref a, .ref rs, .ref rd, .ref wt])), (a, .inr (1, [.ref ab, .int (nI (n + 4 + 4 + 4 + 4 + 4))])), (ab, .inl (cB, 65536, .inl (bF (pA (pA (pA (pA (pA (b) (n) (sx k0) 4 0 4) (n + 4) (sx k1) 4 0 4) (n + 4 + 4) (sx k2) 4 0 4) (n + 4 + 4 + 4) (sx k3) 4 0 4) (n + 4 + 4 + 4 + 4) (sx k4) 4 0 4))))] := hD
    refine W.widen (k := 0) (n := 0) (Nat.le_of_ble_eq_true rfl) (Nat.le_of_ble_eq_true rfl) ?_
    refine lv_aload_n hx hb dX6_feed_79 rfl (lv_at hl 0 rfl) ?_
    refine va_get (D := D) (ci := 4) (v := .ref a) (C := RX6) (T := TX6) (N := 5) hx hb hts inX6 hown hK hP 0 rfl rfl 1 (by decide) (hts (.fieldLink RX6 21 "ByteShapes" "tape" "LByteShapes$Row;") (List.mem_cons_of_mem _ wd_202)) (fun _ h9 => h9) rfl dX6_feed_80 ?_
    refine k_ci (wr := [(x, .inr (4, [.ref sa, .ref a, .ref rs, .ref rd, .ref wt]))]) (k_rv F (c_Row_size l D cI cB cJ cS a ab (n + 4 + 4 + 4 + 4 + 4) (pA (pA (pA (pA (pA (b) (n) (sx k0) 4 0 4) (n + 4) (sx k1) 4 0 4) (n + 4 + 4) (sx k2) 4 0 4) (n + 4 + 4 + 4) (sx k3) 4 0 4) (n + 4 + 4 + 4 + 4) (sx k4) 4 0 4)) (cwV 0 hts (g_V wd_204 wd_48 wd_49 wd_50 wd_51) rfl rfl rfl (by decide +kernel) ⟨Nat.le_of_ble_eq_true rfl, Nat.le_of_ble_eq_true rfl⟩) hK hP hD hS hA hZ [1, 2] rfl (by decide) 1 rfl rfl rfl rfl hl.1 rfl (Nat.le_of_ble_eq_true rfl) dX6_feed_83 ⟨Nat.le_of_ble_eq_true rfl, Nat.le_of_ble_eq_true rfl⟩) hP hD hS hA [1, 2] [0] rfl rfl (by decide) (by decide) (fun r u9 H locs hw hP hD hS => ?_)
    subst hw
    have hP : va_P D kCl [(x, .inr (4, [.ref sa, .ref a, .ref rs, .ref rd, .ref wt])), (a, .inr (1, [.ref ab, .int (nI (n + 4 + 4 + 4 + 4 + 4))])), (ab, .inl (cB, 65536, .inl (bF (pA (pA (pA (pA (pA (b) (n) (sx k0) 4 0 4) (n + 4) (sx k1) 4 0 4) (n + 4 + 4) (sx k2) 4 0 4) (n + 4 + 4 + 4) (sx k3) 4 0 4) (n + 4 + 4 + 4 + 4) (sx k4) 4 0 4))))] H := hP
    have hD : va_D A [(x, .inr (4, [.ref sa, .ref a, .ref rs, .ref rd, .ref wt])), (a, .inr (1, [.ref ab, .int (nI (n + 4 + 4 + 4 + 4 + 4))])), (ab, .inl (cB, 65536, .inl (bF (pA (pA (pA (pA (pA (b) (n) (sx k0) 4 0 4) (n + 4) (sx k1) 4 0 4) (n + 4 + 4) (sx k2) 4 0 4) (n + 4 + 4 + 4) (sx k3) 4 0 4) (n + 4 + 4 + 4 + 4) (sx k4) 4 0 4))))] := hD
    refine W.widen (k := 0) (n := 0) (Nat.le_of_ble_eq_true rfl) (Nat.le_of_ble_eq_true rfl) ?_
    exact k_iret () hx hb hr (by first | rfl | decide | exact vp_nar_int _) hlocks hK hP hD hS (rfl) (rfl) (Nat.le_of_ble_eq_true rfl) (Nat.le_of_ble_eq_true rfl) dX6_feed_86
  · skip
    exact absurd c137 (by omega)

set_option maxRecDepth 100000 in
set_option maxHeartbeats 4000000 in
theorem c_feedX (l : Launch) (D : va_G) (cI cB cJ cS : ClassId) (hl9 : l.stackTraces = false) (x sa a rs rd wt : Nat) (ab n : Nat) (b : Nat → Nat) (hn : 65516 < n) (hn2 : n ≤ 65536) (z0 z1 z2 z3 z4 : Int32) : kX l yX6_feed vsX6_feed ({ frames := 6, cells := 1, slots := 6, locals := 82 }) D (kT cI cB cJ cS) [.ref x, .int z0, .int z1, .int z2, .int z3, .int z4] [(x, .inr (4, [.ref sa, .ref a, .ref rs, .ref rd, .ref wt])), (a, .inr (1, [.ref ab, .int (nI n)])), (ab, .inl (cB, 65536, .inl (bF b)))] "java/lang/IllegalStateException" [(x, .inr (4, [.ref sa, .ref a, .ref rs, .ref rd, .ref wt])), (a, .inr (1, [.ref ab, .int (nI n)])), (ab, .inl (cB, 65536, .inl (bF b)))] := by
  refine k_ofX (by decide) rfl (Nat.le_of_ble_eq_true rfl) ?_
  intro p e s m below meth c A ls hx hb hr hts hown hlocks hmn hml hA hP hK hD hS hZ hl hxt
  have inX3 : ∀ w ∈ wsX30, w ∈ vsX6_feed := fun w h => List.mem_cons_of_mem _ (iaX3 w h)
  have inX6 : ∀ w ∈ wsX60, w ∈ vsX6_feed := fun w h => List.mem_cons_of_mem _ (iaX6 w h)
  have F : CallFix p m c cX6_feed 6 s _ vsX6_feed RX6 := ⟨hx, hb, hml, hown, hts⟩
  have hl : lv_has ls 6 [(0, .ref x), (1, .int z0), (2, .int z1), (3, .int z2), (4, .int z3), (5, .int z4)] := hl
  refine lv_aload_n hx hb dX6_feed_0 rfl (lv_at hl 0 rfl) ?_
  refine va_get (D := D) (ci := 4) (v := .ref a) (C := RX6) (T := TX6) (N := 5) hx hb hts inX6 hown hK hP 0 rfl rfl 1 (by decide) (hts (.fieldLink RX6 21 "ByteShapes" "tape" "LByteShapes$Row;") (List.mem_cons_of_mem _ wd_202)) (fun _ h9 => h9) rfl dX6_feed_1 ?_
  refine k_ci (wr := [(x, .inr (4, [.ref sa, .ref a, .ref rs, .ref rd, .ref wt]))]) (k_rv F (c_Row_size l D cI cB cJ cS a ab (n) (b)) (cwV 0 hts (g_V wd_204 wd_48 wd_49 wd_50 wd_51) rfl rfl rfl (by decide +kernel) ⟨Nat.le_of_ble_eq_true rfl, Nat.le_of_ble_eq_true rfl⟩) hK hP hD hS hA hZ [1, 2] rfl (by decide) 1 rfl rfl rfl rfl hl.1 rfl (Nat.le_of_ble_eq_true rfl) dX6_feed_4 ⟨Nat.le_of_ble_eq_true rfl, Nat.le_of_ble_eq_true rfl⟩) hP hD hS hA [1, 2] [0] rfl rfl (by decide) (by decide) (fun r u9 H locs hw hP hD hS => ?_)
  subst hw
  have hP : va_P D kCl [(x, .inr (4, [.ref sa, .ref a, .ref rs, .ref rd, .ref wt])), (a, .inr (1, [.ref ab, .int (nI n)])), (ab, .inl (cB, 65536, .inl (bF b)))] H := hP
  have hD : va_D A [(x, .inr (4, [.ref sa, .ref a, .ref rs, .ref rd, .ref wt])), (a, .inr (1, [.ref ab, .int (nI n)])), (ab, .inl (cB, 65536, .inl (bF b)))] := hD
  refine W.widen (k := 0) (n := 0) (Nat.le_of_ble_eq_true rfl) (Nat.le_of_ble_eq_true rfl) ?_
  refine lv_ldc (v := nI 65516) hx hb hown (hts (.constant RX6 57 (65516)) (List.mem_cons_of_mem _ wd_203)) dX6_feed_7 ?_
  refine k_icmp_le (tgt := 22) (by omega) (by omega) hx hb dX6_feed_9 (by decide) (fun c138 => ?_) (fun c138 => ?_)
  · skip
    exact absurd c138 (by omega)
  · skip
    exact k_thr (own := RX6) (E := "java/lang/IllegalStateException") (names := ["java/lang/RuntimeException", "java/lang/Exception"]) (text := "the tape is full") hx hb hl9 hown (by decide +kernel) (by decide +kernel) (hts (.classLink RX6 58 "java/lang/IllegalStateException") (List.mem_cons_of_mem _ wd_209)) (hts (.initialized "java/lang/IllegalStateException") (List.mem_cons_of_mem _ wd_210)) (hZ.str (q := (RX6, 60, "the tape is full")) (by decide +kernel)) (vx_hat (L := vx_atS RX6 62 "java/lang/IllegalStateException" ["java/lang/RuntimeException", "java/lang/Exception"]) (B := [.castable "java/lang/IllegalStateException" "java/lang/IllegalStateException", .declares ⟨"java/lang/RuntimeException", "<init>", "(Ljava/lang/String;)V"⟩, .declares ⟨"java/lang/Exception", "<init>", "(Ljava/lang/String;)V"⟩, .declares ⟨"java/lang/Throwable", "<init>", "(Ljava/lang/String;)V"⟩]) (fun w hw => hts w (List.mem_cons_of_mem _ (atw_3 w hw))) (by decide +kernel) (vx_c (va_Nw.use rfl (hZ.nw (w := .castable "java/lang/IllegalStateException" "java/lang/IllegalStateException") (by decide +kernel))) (vx_c (va_Nw.use rfl (hZ.nw (w := .declares ⟨"java/lang/RuntimeException", "<init>", "(Ljava/lang/String;)V"⟩) (by decide +kernel))) (vx_c (va_Nw.use rfl (hZ.nw (w := .declares ⟨"java/lang/Exception", "<init>", "(Ljava/lang/String;)V"⟩) (by decide +kernel))) (vx_c (va_Nw.use rfl (hZ.nw (w := .declares ⟨"java/lang/Throwable", "<init>", "(Ljava/lang/String;)V"⟩) (by decide +kernel))) (vx_n)))))) (by decide +kernel) hZ hK hP hD hS (hl.1.trans hml.symm) dX6_feed_12 dX6_feed_15 dX6_feed_16 dX6_feed_18 dX6_feed_21 hxt (Nat.le_of_ble_eq_true rfl) (Nat.le_of_ble_eq_true rfl) (Nat.le_of_ble_eq_true rfl) (Nat.le_of_ble_eq_true rfl) hlocks (rfl) (Nat.le_of_ble_eq_true rfl) (Nat.le_of_ble_eq_true rfl)

set_option maxRecDepth 100000 in
set_option maxHeartbeats 4000000 in
theorem c_end (l : Launch) (D : va_G) (cI cB cJ cS : ClassId) (x sa a rs rd wt : Nat) (ab n : Nat) (b : Nat → Nat) (hn : n ≤ 65536) (hn20 : 20 ≤ n) (j : Nat) (hj : j ≤ 20)  : kM l yX6_end vsX6_end ({ frames := 3, cells := 0, slots := 0, locals := 64 }) D (kT cI cB cJ cS) [.ref x, .int (nI j)] [(x, .inr (4, [.ref sa, .ref a, .ref rs, .ref rd, .ref wt])), (a, .inr (1, [.ref ab, .int (nI n)])), (ab, .inl (cB, 65536, .inl (bF b)))] (kQi D (kT cI cB cJ cS) (fun r (ug : Unit) => r = nI (n - 20 + j)) (fun ug => [(x, .inr (4, [.ref sa, .ref a, .ref rs, .ref rd, .ref wt])), (a, .inr (1, [.ref ab, .int (nI (n - 20 + j))])), (ab, .inl (cB, 65536, .inl (bF b)))])) := by
  refine k_ofW (by decide) rfl (Nat.le_of_ble_eq_true rfl) ?_
  intro p e s m below meth c A ls hx hb hr hts hown hlocks hmn hml hA hP hK hD hS hZ hl
  have inX3 : ∀ w ∈ wsX30, w ∈ vsX6_end := fun w h => List.mem_cons_of_mem _ (iaX3 w h)
  have inX6 : ∀ w ∈ wsX60, w ∈ vsX6_end := fun w h => List.mem_cons_of_mem _ (iaX6 w h)
  have F : CallFix p m c cX6_end 2 s _ vsX6_end RX6 := ⟨hx, hb, hml, hown, hts⟩
  have hl : lv_has ls 2 [(0, .ref x), (1, .int (nI j))] := hl
  refine lv_iload_n hx hb dX6_end_0 rfl (lv_at hl 1 rfl) ?_
  refine k_if_lt (tgt := 10) (by omega) hx hb dX6_end_1 (by decide) (fun c139 => ?_) (fun c139 => ?_)
  · skip
    exact c139.elim
  · skip
    refine lv_iload_n hx hb dX6_end_4 rfl (lv_at hl 1 rfl) ?_
    refine lv_bipush (v := nI 20) hx hb dX6_end_5 (by decide) ?_
    refine k_icmp_le (tgt := 20) (by omega) (by omega) hx hb dX6_end_7 (by decide) (fun c140 => ?_) (fun c140 => ?_)
    · skip
      refine lv_aload_n hx hb dX6_end_20 rfl (lv_at hl 0 rfl) ?_
      refine va_get (D := D) (ci := 4) (v := .ref a) (C := RX6) (T := TX6) (N := 5) hx hb hts inX6 hown hK hP 0 rfl rfl 1 (by decide) (hts (.fieldLink RX6 21 "ByteShapes" "tape" "LByteShapes$Row;") (List.mem_cons_of_mem _ wd_202)) (fun _ h9 => h9) rfl dX6_end_21 ?_
      refine k_ci (wr := [(x, .inr (4, [.ref sa, .ref a, .ref rs, .ref rd, .ref wt]))]) (k_rv F (c_Row_size l D cI cB cJ cS a ab (n) (b)) (cwV 0 hts (g_V wd_204 wd_48 wd_49 wd_50 wd_51) rfl rfl rfl (by decide +kernel) ⟨Nat.le_of_ble_eq_true rfl, Nat.le_of_ble_eq_true rfl⟩) hK hP hD hS hA hZ [1, 2] rfl (by decide) 1 rfl rfl rfl rfl hl.1 rfl (Nat.le_of_ble_eq_true rfl) dX6_end_24 ⟨Nat.le_of_ble_eq_true rfl, Nat.le_of_ble_eq_true rfl⟩) hP hD hS hA [1, 2] [0] rfl rfl (by decide) (by decide) (fun r u9 H locs hw hP hD hS => ?_)
      subst hw
      have hP : va_P D kCl [(x, .inr (4, [.ref sa, .ref a, .ref rs, .ref rd, .ref wt])), (a, .inr (1, [.ref ab, .int (nI n)])), (ab, .inl (cB, 65536, .inl (bF b)))] H := hP
      have hD : va_D A [(x, .inr (4, [.ref sa, .ref a, .ref rs, .ref rd, .ref wt])), (a, .inr (1, [.ref ab, .int (nI n)])), (ab, .inl (cB, 65536, .inl (bF b)))] := hD
      refine W.widen (k := 0) (n := 0) (Nat.le_of_ble_eq_true rfl) (Nat.le_of_ble_eq_true rfl) ?_
      refine lv_bipush (v := nI 20) hx hb dX6_end_27 (by decide) ?_
      refine k_icmp_ge (tgt := 42) (by omega) (by omega) hx hb dX6_end_29 (by decide) (fun c141 => ?_) (fun c141 => ?_)
      · skip
        refine lv_aload_n hx hb dX6_end_42 rfl (lv_at hl 0 rfl) ?_
        refine va_get (D := D) (ci := 4) (v := .ref a) (C := RX6) (T := TX6) (N := 5) hx hb hts inX6 hown hK hP 0 rfl rfl 1 (by decide) (hts (.fieldLink RX6 21 "ByteShapes" "tape" "LByteShapes$Row;") (List.mem_cons_of_mem _ wd_202)) (fun _ h9 => h9) rfl dX6_end_43 ?_
        refine lv_aload_n hx hb dX6_end_46 rfl (lv_at hl 0 rfl) ?_
        refine va_get (D := D) (ci := 4) (v := .ref a) (C := RX6) (T := TX6) (N := 5) hx hb hts inX6 hown hK hP 0 rfl rfl 1 (by decide) (hts (.fieldLink RX6 21 "ByteShapes" "tape" "LByteShapes$Row;") (List.mem_cons_of_mem _ wd_202)) (fun _ h9 => h9) rfl dX6_end_47 ?_
        refine k_ci (wr := [(x, .inr (4, [.ref sa, .ref a, .ref rs, .ref rd, .ref wt]))]) (k_rv F (c_Row_size l D cI cB cJ cS a ab (n) (b)) (cwV 0 hts (g_V wd_204 wd_48 wd_49 wd_50 wd_51) rfl rfl rfl (by decide +kernel) ⟨Nat.le_of_ble_eq_true rfl, Nat.le_of_ble_eq_true rfl⟩) hK hP hD hS hA hZ [1, 2] rfl (by decide) 1 rfl rfl rfl rfl hl.1 rfl (Nat.le_of_ble_eq_true rfl) dX6_end_50 ⟨Nat.le_of_ble_eq_true rfl, Nat.le_of_ble_eq_true rfl⟩) hP hD hS hA [1, 2] [0] rfl rfl (by decide) (by decide) (fun r u9 H locs hw hP hD hS => ?_)
        subst hw
        have hP : va_P D kCl [(x, .inr (4, [.ref sa, .ref a, .ref rs, .ref rd, .ref wt])), (a, .inr (1, [.ref ab, .int (nI n)])), (ab, .inl (cB, 65536, .inl (bF b)))] H := hP
        have hD : va_D A [(x, .inr (4, [.ref sa, .ref a, .ref rs, .ref rd, .ref wt])), (a, .inr (1, [.ref ab, .int (nI n)])), (ab, .inl (cB, 65536, .inl (bF b)))] := hD
        refine W.widen (k := 0) (n := 0) (Nat.le_of_ble_eq_true rfl) (Nat.le_of_ble_eq_true rfl) ?_
        refine lv_bipush (v := nI 20) hx hb dX6_end_53 (by decide) ?_
        refine lv_isub hx hb dX6_end_55 ?_
        refine k_i (show _ = nI (n - 20) from pk_sub (by omega)) ?_
        refine lv_iload_n hx hb dX6_end_56 rfl (lv_at hl 1 rfl) ?_
        refine lv_iadd hx hb dX6_end_57 ?_
        refine k_i (show _ = nI ((n - 20) + j) from nI_add _ _) ?_
        refine k_cv (wr := [(x, .inr (4, [.ref sa, .ref a, .ref rs, .ref rd, .ref wt]))]) (k_rv F (c_Row_cut l D cI cB cJ cS a ab n b (n - 20 + j) (by omega) hn) (cwV 1 hts (g_V wd_211 wd_212 wd_213 wd_50 wd_214) rfl rfl rfl (by decide +kernel) ⟨Nat.le_of_ble_eq_true rfl, Nat.le_of_ble_eq_true rfl⟩) hK hP hD hS hA hZ [1, 2] rfl (by decide) 1 rfl rfl rfl rfl hl.1 rfl (Nat.le_of_ble_eq_true rfl) dX6_end_58 ⟨Nat.le_of_ble_eq_true rfl, Nat.le_of_ble_eq_true rfl⟩) hP hD hS hA [1, 2] [0] rfl rfl (by decide) (by decide) (fun u9 H locs hw hP hD hS => ?_)
        have hP : va_P D kCl [(x, .inr (4, [.ref sa, .ref a, .ref rs, .ref rd, .ref wt])), (a, .inr (1, [.ref ab, .int (nI (n - 20 + j))])), (ab, .inl (cB, 65536, .inl (bF b)))] H := hP
        have hD : va_D A [(x, .inr (4, [.ref sa, .ref a, .ref rs, .ref rd, .ref wt])), (a, .inr (1, [.ref ab, .int (nI (n - 20 + j))])), (ab, .inl (cB, 65536, .inl (bF b)))] := hD
        refine W.widen (k := 0) (n := 0) (Nat.le_of_ble_eq_true rfl) (Nat.le_of_ble_eq_true rfl) ?_
        refine lv_aload_n hx hb dX6_end_61 rfl (lv_at hl 0 rfl) ?_
        refine va_get (D := D) (ci := 4) (v := .ref a) (C := RX6) (T := TX6) (N := 5) hx hb hts inX6 hown hK hP 0 rfl rfl 1 (by decide) (hts (.fieldLink RX6 21 "ByteShapes" "tape" "LByteShapes$Row;") (List.mem_cons_of_mem _ wd_202)) (fun _ h9 => h9) rfl dX6_end_62 ?_
        refine k_ci (wr := [(x, .inr (4, [.ref sa, .ref a, .ref rs, .ref rd, .ref wt]))]) (k_rv F (c_Row_size l D cI cB cJ cS a ab (n - 20 + j) (b)) (cwV 0 hts (g_V wd_204 wd_48 wd_49 wd_50 wd_51) rfl rfl rfl (by decide +kernel) ⟨Nat.le_of_ble_eq_true rfl, Nat.le_of_ble_eq_true rfl⟩) hK hP hD hS hA hZ [1, 2] rfl (by decide) 1 rfl rfl rfl rfl hl.1 rfl (Nat.le_of_ble_eq_true rfl) dX6_end_65 ⟨Nat.le_of_ble_eq_true rfl, Nat.le_of_ble_eq_true rfl⟩) hP hD hS hA [1, 2] [0] rfl rfl (by decide) (by decide) (fun r u9 H locs hw hP hD hS => ?_)
        subst hw
        have hP : va_P D kCl [(x, .inr (4, [.ref sa, .ref a, .ref rs, .ref rd, .ref wt])), (a, .inr (1, [.ref ab, .int (nI (n - 20 + j))])), (ab, .inl (cB, 65536, .inl (bF b)))] H := hP
        have hD : va_D A [(x, .inr (4, [.ref sa, .ref a, .ref rs, .ref rd, .ref wt])), (a, .inr (1, [.ref ab, .int (nI (n - 20 + j))])), (ab, .inl (cB, 65536, .inl (bF b)))] := hD
        refine W.widen (k := 0) (n := 0) (Nat.le_of_ble_eq_true rfl) (Nat.le_of_ble_eq_true rfl) ?_
        exact k_iret () hx hb hr (by first | rfl | decide | exact vp_nar_int _) hlocks hK hP hD hS (rfl) (rfl) (Nat.le_of_ble_eq_true rfl) (Nat.le_of_ble_eq_true rfl) dX6_end_68
      · skip
        exact absurd c141 (by omega)
    · skip
      exact absurd c140 (by omega)

set_option maxRecDepth 100000 in
set_option maxHeartbeats 4000000 in
theorem c_endA (l : Launch) (D : va_G) (cI cB cJ cS : ClassId) (hl9 : l.stackTraces = false) (x : Nat) (z : Int32) (hz : z < 0 ∨ nI 20 < z) : kX l yX6_end vsX6_end ({ frames := 6, cells := 1, slots := 6, locals := 82 }) D (kT cI cB cJ cS) [.ref x, .int z] [] "java/lang/IllegalArgumentException" [] := by
  refine k_ofX (by decide) rfl (Nat.le_of_ble_eq_true rfl) ?_
  intro p e s m below meth c A ls hx hb hr hts hown hlocks hmn hml hA hP hK hD hS hZ hl hxt
  have F : CallFix p m c cX6_end 2 s _ vsX6_end RX6 := ⟨hx, hb, hml, hown, hts⟩
  have hl : lv_has ls 2 [(0, .ref x), (1, .int z)] := hl
  refine lv_iload_n hx hb dX6_end_0 rfl (lv_at hl 1 rfl) ?_
  refine lv_if_lt (tgt := 10) hx hb dX6_end_1 (by decide) (fun c1 => ?_) (fun c1 => ?_)
  · skip
    exact k_thr (own := RX6) (E := "java/lang/IllegalArgumentException") (names := ["java/lang/RuntimeException", "java/lang/Exception"]) (text := "not 0 to 20 bytes") hx hb hl9 hown (by decide +kernel) (by decide +kernel) (hts (.classLink RX6 69 "java/lang/IllegalArgumentException") (List.mem_cons_of_mem _ wd_215)) (hts (.initialized "java/lang/IllegalArgumentException") (List.mem_cons_of_mem _ wd_216)) (hZ.str (q := (RX6, 71, "not 0 to 20 bytes")) (by decide +kernel)) (vx_hat (L := vx_atS RX6 73 "java/lang/IllegalArgumentException" ["java/lang/RuntimeException", "java/lang/Exception"]) (B := [.castable "java/lang/IllegalArgumentException" "java/lang/IllegalArgumentException", .declares ⟨"java/lang/RuntimeException", "<init>", "(Ljava/lang/String;)V"⟩, .declares ⟨"java/lang/Exception", "<init>", "(Ljava/lang/String;)V"⟩, .declares ⟨"java/lang/Throwable", "<init>", "(Ljava/lang/String;)V"⟩]) (fun w hw => hts w (List.mem_cons_of_mem _ (atw_4 w hw))) (by decide +kernel) (vx_c (va_Nw.use rfl (hZ.nw (w := .castable "java/lang/IllegalArgumentException" "java/lang/IllegalArgumentException") (by decide +kernel))) (vx_c (va_Nw.use rfl (hZ.nw (w := .declares ⟨"java/lang/RuntimeException", "<init>", "(Ljava/lang/String;)V"⟩) (by decide +kernel))) (vx_c (va_Nw.use rfl (hZ.nw (w := .declares ⟨"java/lang/Exception", "<init>", "(Ljava/lang/String;)V"⟩) (by decide +kernel))) (vx_c (va_Nw.use rfl (hZ.nw (w := .declares ⟨"java/lang/Throwable", "<init>", "(Ljava/lang/String;)V"⟩) (by decide +kernel))) (vx_n)))))) (by decide +kernel) hZ hK hP hD hS (hl.1.trans hml.symm) dX6_end_10 dX6_end_13 dX6_end_14 dX6_end_16 dX6_end_19 hxt (Nat.le_of_ble_eq_true rfl) (Nat.le_of_ble_eq_true rfl) (Nat.le_of_ble_eq_true rfl) (Nat.le_of_ble_eq_true rfl) hlocks (rfl) (Nat.le_of_ble_eq_true rfl) (Nat.le_of_ble_eq_true rfl)
  · skip
    refine lv_iload_n hx hb dX6_end_4 rfl (lv_at hl 1 rfl) ?_
    refine lv_bipush (v := nI 20) hx hb dX6_end_5 (by decide) ?_
    refine lv_icmp_le (tgt := 20) hx hb dX6_end_7 (by decide) (fun c2 => ?_) (fun c2 => ?_)
    · skip
      exact absurd c2 (fun q => hz.elim c1 (fun r => absurd q (Int32.not_le.mpr r)))
    · skip
      exact k_thr (own := RX6) (E := "java/lang/IllegalArgumentException") (names := ["java/lang/RuntimeException", "java/lang/Exception"]) (text := "not 0 to 20 bytes") hx hb hl9 hown (by decide +kernel) (by decide +kernel) (hts (.classLink RX6 69 "java/lang/IllegalArgumentException") (List.mem_cons_of_mem _ wd_215)) (hts (.initialized "java/lang/IllegalArgumentException") (List.mem_cons_of_mem _ wd_216)) (hZ.str (q := (RX6, 71, "not 0 to 20 bytes")) (by decide +kernel)) (vx_hat (L := vx_atS RX6 73 "java/lang/IllegalArgumentException" ["java/lang/RuntimeException", "java/lang/Exception"]) (B := [.castable "java/lang/IllegalArgumentException" "java/lang/IllegalArgumentException", .declares ⟨"java/lang/RuntimeException", "<init>", "(Ljava/lang/String;)V"⟩, .declares ⟨"java/lang/Exception", "<init>", "(Ljava/lang/String;)V"⟩, .declares ⟨"java/lang/Throwable", "<init>", "(Ljava/lang/String;)V"⟩]) (fun w hw => hts w (List.mem_cons_of_mem _ (atw_4 w hw))) (by decide +kernel) (vx_c (va_Nw.use rfl (hZ.nw (w := .castable "java/lang/IllegalArgumentException" "java/lang/IllegalArgumentException") (by decide +kernel))) (vx_c (va_Nw.use rfl (hZ.nw (w := .declares ⟨"java/lang/RuntimeException", "<init>", "(Ljava/lang/String;)V"⟩) (by decide +kernel))) (vx_c (va_Nw.use rfl (hZ.nw (w := .declares ⟨"java/lang/Exception", "<init>", "(Ljava/lang/String;)V"⟩) (by decide +kernel))) (vx_c (va_Nw.use rfl (hZ.nw (w := .declares ⟨"java/lang/Throwable", "<init>", "(Ljava/lang/String;)V"⟩) (by decide +kernel))) (vx_n)))))) (by decide +kernel) hZ hK hP hD hS (hl.1.trans hml.symm) dX6_end_10 dX6_end_13 dX6_end_14 dX6_end_16 dX6_end_19 hxt (Nat.le_of_ble_eq_true rfl) (Nat.le_of_ble_eq_true rfl) (Nat.le_of_ble_eq_true rfl) (Nat.le_of_ble_eq_true rfl) hlocks (rfl) (Nat.le_of_ble_eq_true rfl) (Nat.le_of_ble_eq_true rfl)

set_option maxRecDepth 100000 in
set_option maxHeartbeats 4000000 in
theorem c_endS (l : Launch) (D : va_G) (cI cB cJ cS : ClassId) (hl9 : l.stackTraces = false) (x sa a rs rd wt : Nat) (ab n : Nat) (b : Nat → Nat) (hn20 : n < 20) (j : Nat) (hj : j ≤ 20) : kX l yX6_end vsX6_end ({ frames := 6, cells := 1, slots := 6, locals := 82 }) D (kT cI cB cJ cS) [.ref x, .int (nI j)] [(x, .inr (4, [.ref sa, .ref a, .ref rs, .ref rd, .ref wt])), (a, .inr (1, [.ref ab, .int (nI n)])), (ab, .inl (cB, 65536, .inl (bF b)))] "java/lang/IllegalStateException" [(x, .inr (4, [.ref sa, .ref a, .ref rs, .ref rd, .ref wt])), (a, .inr (1, [.ref ab, .int (nI n)])), (ab, .inl (cB, 65536, .inl (bF b)))] := by
  refine k_ofX (by decide) rfl (Nat.le_of_ble_eq_true rfl) ?_
  intro p e s m below meth c A ls hx hb hr hts hown hlocks hmn hml hA hP hK hD hS hZ hl hxt
  have inX3 : ∀ w ∈ wsX30, w ∈ vsX6_end := fun w h => List.mem_cons_of_mem _ (iaX3 w h)
  have inX6 : ∀ w ∈ wsX60, w ∈ vsX6_end := fun w h => List.mem_cons_of_mem _ (iaX6 w h)
  have F : CallFix p m c cX6_end 2 s _ vsX6_end RX6 := ⟨hx, hb, hml, hown, hts⟩
  have hl : lv_has ls 2 [(0, .ref x), (1, .int (nI j))] := hl
  refine lv_iload_n hx hb dX6_end_0 rfl (lv_at hl 1 rfl) ?_
  refine k_if_lt (tgt := 10) (by omega) hx hb dX6_end_1 (by decide) (fun c142 => ?_) (fun c142 => ?_)
  · skip
    exact c142.elim
  · skip
    refine lv_iload_n hx hb dX6_end_4 rfl (lv_at hl 1 rfl) ?_
    refine lv_bipush (v := nI 20) hx hb dX6_end_5 (by decide) ?_
    refine k_icmp_le (tgt := 20) (by omega) (by omega) hx hb dX6_end_7 (by decide) (fun c143 => ?_) (fun c143 => ?_)
    · skip
      refine lv_aload_n hx hb dX6_end_20 rfl (lv_at hl 0 rfl) ?_
      refine va_get (D := D) (ci := 4) (v := .ref a) (C := RX6) (T := TX6) (N := 5) hx hb hts inX6 hown hK hP 0 rfl rfl 1 (by decide) (hts (.fieldLink RX6 21 "ByteShapes" "tape" "LByteShapes$Row;") (List.mem_cons_of_mem _ wd_202)) (fun _ h9 => h9) rfl dX6_end_21 ?_
      refine k_ci (wr := [(x, .inr (4, [.ref sa, .ref a, .ref rs, .ref rd, .ref wt]))]) (k_rv F (c_Row_size l D cI cB cJ cS a ab (n) (b)) (cwV 0 hts (g_V wd_204 wd_48 wd_49 wd_50 wd_51) rfl rfl rfl (by decide +kernel) ⟨Nat.le_of_ble_eq_true rfl, Nat.le_of_ble_eq_true rfl⟩) hK hP hD hS hA hZ [1, 2] rfl (by decide) 1 rfl rfl rfl rfl hl.1 rfl (Nat.le_of_ble_eq_true rfl) dX6_end_24 ⟨Nat.le_of_ble_eq_true rfl, Nat.le_of_ble_eq_true rfl⟩) hP hD hS hA [1, 2] [0] rfl rfl (by decide) (by decide) (fun r u9 H locs hw hP hD hS => ?_)
      subst hw
      have hP : va_P D kCl [(x, .inr (4, [.ref sa, .ref a, .ref rs, .ref rd, .ref wt])), (a, .inr (1, [.ref ab, .int (nI n)])), (ab, .inl (cB, 65536, .inl (bF b)))] H := hP
      have hD : va_D A [(x, .inr (4, [.ref sa, .ref a, .ref rs, .ref rd, .ref wt])), (a, .inr (1, [.ref ab, .int (nI n)])), (ab, .inl (cB, 65536, .inl (bF b)))] := hD
      refine W.widen (k := 0) (n := 0) (Nat.le_of_ble_eq_true rfl) (Nat.le_of_ble_eq_true rfl) ?_
      refine lv_bipush (v := nI 20) hx hb dX6_end_27 (by decide) ?_
      refine k_icmp_ge (tgt := 42) (by omega) (by omega) hx hb dX6_end_29 (by decide) (fun c144 => ?_) (fun c144 => ?_)
      · skip
        exact absurd c144 (by omega)
      · skip
        exact k_thr (own := RX6) (E := "java/lang/IllegalStateException") (names := ["java/lang/RuntimeException", "java/lang/Exception"]) (text := "less than twenty bytes") hx hb hl9 hown (by decide +kernel) (by decide +kernel) (hts (.classLink RX6 58 "java/lang/IllegalStateException") (List.mem_cons_of_mem _ wd_209)) (hts (.initialized "java/lang/IllegalStateException") (List.mem_cons_of_mem _ wd_210)) (hZ.str (q := (RX6, 74, "less than twenty bytes")) (by decide +kernel)) (vx_hat (L := vx_atS RX6 62 "java/lang/IllegalStateException" ["java/lang/RuntimeException", "java/lang/Exception"]) (B := [.castable "java/lang/IllegalStateException" "java/lang/IllegalStateException", .declares ⟨"java/lang/RuntimeException", "<init>", "(Ljava/lang/String;)V"⟩, .declares ⟨"java/lang/Exception", "<init>", "(Ljava/lang/String;)V"⟩, .declares ⟨"java/lang/Throwable", "<init>", "(Ljava/lang/String;)V"⟩]) (fun w hw => hts w (List.mem_cons_of_mem _ (atw_3 w hw))) (by decide +kernel) (vx_c (va_Nw.use rfl (hZ.nw (w := .castable "java/lang/IllegalStateException" "java/lang/IllegalStateException") (by decide +kernel))) (vx_c (va_Nw.use rfl (hZ.nw (w := .declares ⟨"java/lang/RuntimeException", "<init>", "(Ljava/lang/String;)V"⟩) (by decide +kernel))) (vx_c (va_Nw.use rfl (hZ.nw (w := .declares ⟨"java/lang/Exception", "<init>", "(Ljava/lang/String;)V"⟩) (by decide +kernel))) (vx_c (va_Nw.use rfl (hZ.nw (w := .declares ⟨"java/lang/Throwable", "<init>", "(Ljava/lang/String;)V"⟩) (by decide +kernel))) (vx_n)))))) (by decide +kernel) hZ hK hP hD hS (hl.1.trans hml.symm) dX6_end_32 dX6_end_35 dX6_end_36 dX6_end_38 dX6_end_41 hxt (Nat.le_of_ble_eq_true rfl) (Nat.le_of_ble_eq_true rfl) (Nat.le_of_ble_eq_true rfl) (Nat.le_of_ble_eq_true rfl) hlocks (rfl) (Nat.le_of_ble_eq_true rfl) (Nat.le_of_ble_eq_true rfl)
    · skip
      exact absurd c143 (by omega)

set_option maxRecDepth 100000 in
set_option maxHeartbeats 4000000 in
theorem c_read (l : Launch) (D : va_G) (cI cB cJ cS : ClassId) (x sa rs wt : Nat) (f : Nat → Option Nat) (k : Nat) (hk : k < 4) (rd jl jd a ab sh sn sv u w t lo wr pl n PN pn VN vn : Nat) (cl cd b pf : Nat → Nat) (fv : Nat → Int32) (fo io : Value) (hn : n ≤ 65536) (hlo2 : lo < 2) (hPN : PN ≤ 4096) (hVN : VN ≤ 8192) (h2 : 2 ≤ VN) (hb256 : ∀ j, b j < 256) (hu1 : 1 ≤ u) (hu2 : u ≤ 1000) (hcl : ∀ i, cl i < 2 ^ 32) (hf : f k = some sh) (k1 w1 t1 lo1 wr1 pl1 pn1 vn1 : Nat) (cl1 cd1 pf1 : Nat → Nat) (fv1 : Nat → Int32) (hk1 : k1 = 1) (hs : sAll b n u PN VN lo cl cd pf fv = (k1, (w1, t1, lo1, wr1, pl1, pn1, vn1, cl1, cd1, pf1, fv1))) (hpn0 : 1 ≤ pn1) (hpn1 : pn1 ≤ PN)  : kM l yX6_read vsX6_read ({ frames := 6, cells := 0, slots := 0, locals := 145 }) D (kT cI cB cJ cS) [.ref x, .int (nI k)] [(x, .inr (4, [.ref sa, .ref a, .ref rs, .ref rd, .ref wt])), (sa, .inl (cS, 4, .inr (.inr (.inr (.inr f))))), (rd, .inr (0, [.int (nI u), .ref jl, .ref jd, .int (nI w), fo, io, .int (nI t), .int (nI lo), .int (nI wr), .int (nI pl)])), (jl, .inl (cJ, 54, .inr (.inl (lF cl)))), (jd, .inl (cI, 54, .inl (iF cd))), (a, .inr (1, [.ref ab, .int (nI n)])), (ab, .inl (cB, 65536, .inl (bF b))), (sh, .inr (2, [.ref sn, .ref sv, .int (nI pn), .int (nI vn)])), (sn, .inl (cI, PN, .inl (iF pf))), (sv, .inl (cI, VN, .inl fv))] (kQi D (kT cI cB cJ cS) (fun r (ug : Unit) => r = nI (pf1 0)) (fun ug => [(x, .inr (4, [.ref sa, .ref a, .ref rs, .ref rd, .ref wt])), (sa, .inl (cS, 4, .inr (.inr (.inr (.inr f))))), (rd, .inr (0, [.int (nI u), .ref jl, .ref jd, .int (nI w1), .ref a, .ref sh, .int (nI t1), .int (nI lo1), .int (nI wr1), .int (nI pl1)])), (jl, .inl (cJ, 54, .inr (.inl (lF cl1)))), (jd, .inl (cI, 54, .inl (iF cd1))), (a, .inr (1, [.ref ab, .int (nI 0)])), (ab, .inl (cB, 65536, .inl (bF b))), (sh, .inr (2, [.ref sn, .ref sv, .int (nI pn1), .int (nI vn1)])), (sn, .inl (cI, PN, .inl (iF pf1))), (sv, .inl (cI, VN, .inl fv1))])) := by
  refine k_ofW (by decide) rfl (Nat.le_of_ble_eq_true rfl) ?_
  intro p e s m below meth c A ls hx hb hr hts hown hlocks hmn hml hA hP hK hD hS hZ hl
  have inX2 : ∀ w ∈ wsX20, w ∈ vsX6_read := fun w h => List.mem_cons_of_mem _ (iaX2 w h)
  have inX3 : ∀ w ∈ wsX30, w ∈ vsX6_read := fun w h => List.mem_cons_of_mem _ (iaX3 w h)
  have inX4 : ∀ w ∈ wsX40, w ∈ vsX6_read := fun w h => List.mem_cons_of_mem _ (iaX4 w h)
  have inX6 : ∀ w ∈ wsX60, w ∈ vsX6_read := fun w h => List.mem_cons_of_mem _ (iaX6 w h)
  have F : CallFix p m c cX6_read 4 s _ vsX6_read RX6 := ⟨hx, hb, hml, hown, hts⟩
  have hl : lv_has ls 4 [(0, .ref x), (1, .int (nI k))] := hl
  refine lv_iload_n hx hb dX6_read_0 rfl (lv_at hl 1 rfl) ?_
  refine k_ci (wr := [(x, .inr (4, [.ref sa, .ref a, .ref rs, .ref rd, .ref wt])), (sa, .inl (cS, 4, .inr (.inr (.inr (.inr f))))), (rd, .inr (0, [.int (nI u), .ref jl, .ref jd, .int (nI w), fo, io, .int (nI t), .int (nI lo), .int (nI wr), .int (nI pl)])), (jl, .inl (cJ, 54, .inr (.inl (lF cl)))), (jd, .inl (cI, 54, .inl (iF cd))), (a, .inr (1, [.ref ab, .int (nI n)])), (ab, .inl (cB, 65536, .inl (bF b))), (sh, .inr (2, [.ref sn, .ref sv, .int (nI pn), .int (nI vn)])), (sn, .inl (cI, PN, .inl (iF pf))), (sv, .inl (cI, VN, .inl fv))]) (k_rs F (c_isSlot1 l D cI cB cJ cS k hk) (va_cwS 1 hts (g_S wd_198 wd_199 wd_8 wd_200) rfl rfl rfl (by decide +kernel) ⟨Nat.le_of_ble_eq_true rfl, Nat.le_of_ble_eq_true rfl⟩) hK hP hD hS hA hZ [] rfl (by decide) rfl hl.1 rfl (Nat.le_of_ble_eq_true rfl) dX6_read_1 ⟨Nat.le_of_ble_eq_true rfl, Nat.le_of_ble_eq_true rfl⟩) hP hD hS hA [] [0, 1, 2, 3, 4, 5, 6, 7, 8, 9] rfl rfl (by decide) (by decide) (fun r u9 H locs hw hP hD hS => ?_)
  subst hw
  have hP : va_P D kCl [(x, .inr (4, [.ref sa, .ref a, .ref rs, .ref rd, .ref wt])), (sa, .inl (cS, 4, .inr (.inr (.inr (.inr f))))), (rd, .inr (0, [.int (nI u), .ref jl, .ref jd, .int (nI w), fo, io, .int (nI t), .int (nI lo), .int (nI wr), .int (nI pl)])), (jl, .inl (cJ, 54, .inr (.inl (lF cl)))), (jd, .inl (cI, 54, .inl (iF cd))), (a, .inr (1, [.ref ab, .int (nI n)])), (ab, .inl (cB, 65536, .inl (bF b))), (sh, .inr (2, [.ref sn, .ref sv, .int (nI pn), .int (nI vn)])), (sn, .inl (cI, PN, .inl (iF pf))), (sv, .inl (cI, VN, .inl fv))] H := hP
  have hD : va_D A [(x, .inr (4, [.ref sa, .ref a, .ref rs, .ref rd, .ref wt])), (sa, .inl (cS, 4, .inr (.inr (.inr (.inr f))))), (rd, .inr (0, [.int (nI u), .ref jl, .ref jd, .int (nI w), fo, io, .int (nI t), .int (nI lo), .int (nI wr), .int (nI pl)])), (jl, .inl (cJ, 54, .inr (.inl (lF cl)))), (jd, .inl (cI, 54, .inl (iF cd))), (a, .inr (1, [.ref ab, .int (nI n)])), (ab, .inl (cB, 65536, .inl (bF b))), (sh, .inr (2, [.ref sn, .ref sv, .int (nI pn), .int (nI vn)])), (sn, .inl (cI, PN, .inl (iF pf))), (sv, .inl (cI, VN, .inl fv))] := hD
  refine W.widen (k := 0) (n := 0) (Nat.le_of_ble_eq_true rfl) (Nat.le_of_ble_eq_true rfl) ?_
  refine lv_istore_n (lv' := [(2, .int (nI 1)), (0, .ref x), (1, .int (nI k))]) hx hb dX6_read_4 rfl hl (by decide) rfl (fun ls hl => ?_)
  refine lv_iload_n hx hb dX6_read_5 rfl (lv_at hl 0 rfl) ?_
  refine k_if_eq (tgt := 33) (by omega) hx hb dX6_read_6 (by decide) (fun c145 => ?_) (fun c145 => ?_)
  · skip
    exact absurd c145 (by omega)
  · skip
    refine lv_aload_n hx hb dX6_read_9 rfl (lv_at hl 1 rfl) ?_
    refine va_get (D := D) (ci := 4) (v := .ref rd) (C := RX6) (T := TX6) (N := 5) hx hb hts inX6 hown hK hP 0 rfl rfl 3 (by decide) (hts (.fieldLink RX6 42 "ByteShapes" "reader" "LByteShapes$Reader;") (List.mem_cons_of_mem _ wd_217)) (fun _ h9 => h9) rfl dX6_read_10 ?_
    refine lv_aload_n hx hb dX6_read_13 rfl (lv_at hl 1 rfl) ?_
    refine va_get (D := D) (ci := 4) (v := .ref a) (C := RX6) (T := TX6) (N := 5) hx hb hts inX6 hown hK hP 0 rfl rfl 1 (by decide) (hts (.fieldLink RX6 21 "ByteShapes" "tape" "LByteShapes$Row;") (List.mem_cons_of_mem _ wd_202)) (fun _ h9 => h9) rfl dX6_read_14 ?_
    refine lv_aload_n hx hb dX6_read_17 rfl (lv_at hl 1 rfl) ?_
    refine va_get (D := D) (ci := 4) (v := .ref sa) (C := RX6) (T := TX6) (N := 5) hx hb hts inX6 hown hK hP 0 rfl rfl 0 (by decide) (hts (.fieldLink RX6 11 "ByteShapes" "shapes" "[LByteShapes$Shape;") (List.mem_cons_of_mem _ wd_197)) (fun _ h9 => h9) rfl dX6_read_18 ?_
    refine lv_iload_n hx hb dX6_read_21 rfl (lv_at hl 2 rfl) ?_
    refine va_aldq hx hb hK hP 1 3 rfl rfl (vp_in_nI (by omega) (by omega)) dX6_read_22 ?_
    refine k_v (show va_rf (f (nI k).toNatClampNeg) = .ref sh from by rw [nI_clamp (by omega), hf]; rfl) ?_
    refine k_ci (wr := [(x, .inr (4, [.ref sa, .ref a, .ref rs, .ref rd, .ref wt])), (sa, .inl (cS, 4, .inr (.inr (.inr (.inr f)))))]) (k_rv F (c_Rd_takeAll l D cI cB cJ cS rd jl jd a ab sh sn sv u w t lo wr pl n PN pn VN vn cl cd b pf fv fo io hn hlo2 hPN hVN h2 hb256 hu1 hu2 hcl k1 w1 t1 lo1 wr1 pl1 pn1 vn1 cl1 cd1 pf1 fv1 hs) (cwV 2 hts (g_V wd_218 wd_219 wd_220 wd_55 wd_221) rfl rfl rfl (by decide +kernel) ⟨Nat.le_of_ble_eq_true rfl, Nat.le_of_ble_eq_true rfl⟩) hK hP hD hS hA hZ [2, 3, 4, 5, 6, 7, 8, 9] rfl (by decide) 2 rfl rfl rfl rfl hl.1 rfl (Nat.le_of_ble_eq_true rfl) dX6_read_23 ⟨Nat.le_of_ble_eq_true rfl, Nat.le_of_ble_eq_true rfl⟩) hP hD hS hA [2, 3, 4, 5, 6, 7, 8, 9] [0, 1] rfl rfl (by decide) (by decide) (fun r u9 H locs hw hP hD hS => ?_)
    subst hw
    have hP : va_P D kCl [(x, .inr (4, [.ref sa, .ref a, .ref rs, .ref rd, .ref wt])), (sa, .inl (cS, 4, .inr (.inr (.inr (.inr f))))), (rd, .inr (0, [.int (nI u), .ref jl, .ref jd, .int (nI w1), .ref a, .ref sh, .int (nI t1), .int (nI lo1), .int (nI wr1), .int (nI pl1)])), (jl, .inl (cJ, 54, .inr (.inl (lF cl1)))), (jd, .inl (cI, 54, .inl (iF cd1))), (a, .inr (1, [.ref ab, .int (nI n)])), (ab, .inl (cB, 65536, .inl (bF b))), (sh, .inr (2, [.ref sn, .ref sv, .int (nI pn1), .int (nI vn1)])), (sn, .inl (cI, PN, .inl (iF pf1))), (sv, .inl (cI, VN, .inl fv1))] H := hP
    have hD : va_D A [(x, .inr (4, [.ref sa, .ref a, .ref rs, .ref rd, .ref wt])), (sa, .inl (cS, 4, .inr (.inr (.inr (.inr f))))), (rd, .inr (0, [.int (nI u), .ref jl, .ref jd, .int (nI w1), .ref a, .ref sh, .int (nI t1), .int (nI lo1), .int (nI wr1), .int (nI pl1)])), (jl, .inl (cJ, 54, .inr (.inl (lF cl1)))), (jd, .inl (cI, 54, .inl (iF cd1))), (a, .inr (1, [.ref ab, .int (nI n)])), (ab, .inl (cB, 65536, .inl (bF b))), (sh, .inr (2, [.ref sn, .ref sv, .int (nI pn1), .int (nI vn1)])), (sn, .inl (cI, PN, .inl (iF pf1))), (sv, .inl (cI, VN, .inl fv1))] := hD
    refine W.widen (k := 0) (n := 0) (Nat.le_of_ble_eq_true rfl) (Nat.le_of_ble_eq_true rfl) ?_
    subst hk1
    refine k_if_eq (tgt := 33) (by omega) hx hb dX6_read_26 (by decide) (fun c146 => ?_) (fun c146 => ?_)
    · skip
      exact absurd c146 (by omega)
    · skip
      refine lv_iconst (v := nI 1) hx hb dX6_read_29 (by decide) ?_
      refine lv_goto (tgt := 34) hx hb dX6_read_30 (by decide) ?_
      refine lv_istore_n (lv' := [(3, .int (nI 1)), (2, .int (nI 1)), (0, .ref x), (1, .int (nI k))]) hx hb dX6_read_34 rfl hl (by decide) rfl (fun ls hl => ?_)
      refine lv_aload_n hx hb dX6_read_35 rfl (lv_at hl 2 rfl) ?_
      refine va_get (D := D) (ci := 4) (v := .ref a) (C := RX6) (T := TX6) (N := 5) hx hb hts inX6 hown hK hP 0 rfl rfl 1 (by decide) (hts (.fieldLink RX6 21 "ByteShapes" "tape" "LByteShapes$Row;") (List.mem_cons_of_mem _ wd_202)) (fun _ h9 => h9) rfl dX6_read_36 ?_
      refine lv_iconst (v := nI 0) hx hb dX6_read_39 (by decide) ?_
      refine k_cv (wr := [(x, .inr (4, [.ref sa, .ref a, .ref rs, .ref rd, .ref wt])), (sa, .inl (cS, 4, .inr (.inr (.inr (.inr f))))), (rd, .inr (0, [.int (nI u), .ref jl, .ref jd, .int (nI w1), .ref a, .ref sh, .int (nI t1), .int (nI lo1), .int (nI wr1), .int (nI pl1)])), (jl, .inl (cJ, 54, .inr (.inl (lF cl1)))), (jd, .inl (cI, 54, .inl (iF cd1))), (sh, .inr (2, [.ref sn, .ref sv, .int (nI pn1), .int (nI vn1)])), (sn, .inl (cI, PN, .inl (iF pf1))), (sv, .inl (cI, VN, .inl fv1))]) (k_rv F (c_Row_cut l D cI cB cJ cS a ab n b 0 (by omega) hn) (cwV 1 hts (g_V wd_211 wd_212 wd_213 wd_50 wd_214) rfl rfl rfl (by decide +kernel) ⟨Nat.le_of_ble_eq_true rfl, Nat.le_of_ble_eq_true rfl⟩) hK hP hD hS hA hZ [5, 6] rfl (by decide) 5 rfl rfl rfl rfl hl.1 rfl (Nat.le_of_ble_eq_true rfl) dX6_read_40 ⟨Nat.le_of_ble_eq_true rfl, Nat.le_of_ble_eq_true rfl⟩) hP hD hS hA [5, 6] [0, 1, 2, 3, 4, 7, 8, 9] rfl rfl (by decide) (by decide) (fun u9 H locs hw hP hD hS => ?_)
      have hP : va_P D kCl [(x, .inr (4, [.ref sa, .ref a, .ref rs, .ref rd, .ref wt])), (sa, .inl (cS, 4, .inr (.inr (.inr (.inr f))))), (rd, .inr (0, [.int (nI u), .ref jl, .ref jd, .int (nI w1), .ref a, .ref sh, .int (nI t1), .int (nI lo1), .int (nI wr1), .int (nI pl1)])), (jl, .inl (cJ, 54, .inr (.inl (lF cl1)))), (jd, .inl (cI, 54, .inl (iF cd1))), (sh, .inr (2, [.ref sn, .ref sv, .int (nI pn1), .int (nI vn1)])), (sn, .inl (cI, PN, .inl (iF pf1))), (sv, .inl (cI, VN, .inl fv1)), (a, .inr (1, [.ref ab, .int (nI 0)])), (ab, .inl (cB, 65536, .inl (bF b)))] H := hP
      have hD : va_D A [(x, .inr (4, [.ref sa, .ref a, .ref rs, .ref rd, .ref wt])), (sa, .inl (cS, 4, .inr (.inr (.inr (.inr f))))), (rd, .inr (0, [.int (nI u), .ref jl, .ref jd, .int (nI w1), .ref a, .ref sh, .int (nI t1), .int (nI lo1), .int (nI wr1), .int (nI pl1)])), (jl, .inl (cJ, 54, .inr (.inl (lF cl1)))), (jd, .inl (cI, 54, .inl (iF cd1))), (sh, .inr (2, [.ref sn, .ref sv, .int (nI pn1), .int (nI vn1)])), (sn, .inl (cI, PN, .inl (iF pf1))), (sv, .inl (cI, VN, .inl fv1)), (a, .inr (1, [.ref ab, .int (nI 0)])), (ab, .inl (cB, 65536, .inl (bF b)))] := hD
      refine W.widen (k := 0) (n := 0) (Nat.le_of_ble_eq_true rfl) (Nat.le_of_ble_eq_true rfl) ?_
      refine lv_iload_n hx hb dX6_read_43 rfl (lv_at hl 1 rfl) ?_
      refine k_if_ne (tgt := 57) (by omega) hx hb dX6_read_44 (by decide) (fun c147 => ?_) (fun c147 => ?_)
      · skip
        refine lv_iload_n hx hb dX6_read_57 rfl (lv_at hl 0 rfl) ?_
        refine k_if_ne (tgt := 71) (by omega) hx hb dX6_read_58 (by decide) (fun c148 => ?_) (fun c148 => ?_)
        · skip
          refine lv_aload_n hx hb dX6_read_71 rfl (lv_at hl 2 rfl) ?_
          refine va_get (D := D) (ci := 4) (v := .ref sa) (C := RX6) (T := TX6) (N := 5) hx hb hts inX6 hown hK hP 0 rfl rfl 0 (by decide) (hts (.fieldLink RX6 11 "ByteShapes" "shapes" "[LByteShapes$Shape;") (List.mem_cons_of_mem _ wd_197)) (fun _ h9 => h9) rfl dX6_read_72 ?_
          refine lv_iload_n hx hb dX6_read_75 rfl (lv_at hl 3 rfl) ?_
          refine va_aldq hx hb hK hP 1 3 rfl rfl (vp_in_nI (by omega) (by omega)) dX6_read_76 ?_
          refine k_v (show va_rf (f (nI k).toNatClampNeg) = .ref sh from by rw [nI_clamp (by omega), hf]; rfl) ?_
          refine lv_iconst (v := nI 0) hx hb dX6_read_77 (by decide) ?_
          refine k_ci (wr := [(x, .inr (4, [.ref sa, .ref a, .ref rs, .ref rd, .ref wt])), (sa, .inl (cS, 4, .inr (.inr (.inr (.inr f))))), (rd, .inr (0, [.int (nI u), .ref jl, .ref jd, .int (nI w1), .ref a, .ref sh, .int (nI t1), .int (nI lo1), .int (nI wr1), .int (nI pl1)])), (jl, .inl (cJ, 54, .inr (.inl (lF cl1)))), (jd, .inl (cI, 54, .inl (iF cd1))), (a, .inr (1, [.ref ab, .int (nI 0)])), (ab, .inl (cB, 65536, .inl (bF b)))]) (k_rv F (c_Shape_planAt l D cI cB cJ cS sh sn sv PN pn1 VN vn1 pf1 fv1 hPN hpn1 0 (by omega)) (cwV 1 hts (g_V wd_222 wd_223 wd_224 wd_41 wd_225) rfl rfl rfl (by decide +kernel) ⟨Nat.le_of_ble_eq_true rfl, Nat.le_of_ble_eq_true rfl⟩) hK hP hD hS hA hZ [5, 6, 7] rfl (by decide) 5 rfl rfl rfl rfl hl.1 rfl (Nat.le_of_ble_eq_true rfl) dX6_read_78 ⟨Nat.le_of_ble_eq_true rfl, Nat.le_of_ble_eq_true rfl⟩) hP hD hS hA [5, 6, 7] [0, 1, 2, 3, 4, 8, 9] rfl rfl (by decide) (by decide) (fun r u9 H locs hw hP hD hS => ?_)
          subst hw
          have hP : va_P D kCl [(x, .inr (4, [.ref sa, .ref a, .ref rs, .ref rd, .ref wt])), (sa, .inl (cS, 4, .inr (.inr (.inr (.inr f))))), (rd, .inr (0, [.int (nI u), .ref jl, .ref jd, .int (nI w1), .ref a, .ref sh, .int (nI t1), .int (nI lo1), .int (nI wr1), .int (nI pl1)])), (jl, .inl (cJ, 54, .inr (.inl (lF cl1)))), (jd, .inl (cI, 54, .inl (iF cd1))), (a, .inr (1, [.ref ab, .int (nI 0)])), (ab, .inl (cB, 65536, .inl (bF b))), (sh, .inr (2, [.ref sn, .ref sv, .int (nI pn1), .int (nI vn1)])), (sn, .inl (cI, PN, .inl (iF pf1))), (sv, .inl (cI, VN, .inl fv1))] H := hP
          have hD : va_D A [(x, .inr (4, [.ref sa, .ref a, .ref rs, .ref rd, .ref wt])), (sa, .inl (cS, 4, .inr (.inr (.inr (.inr f))))), (rd, .inr (0, [.int (nI u), .ref jl, .ref jd, .int (nI w1), .ref a, .ref sh, .int (nI t1), .int (nI lo1), .int (nI wr1), .int (nI pl1)])), (jl, .inl (cJ, 54, .inr (.inl (lF cl1)))), (jd, .inl (cI, 54, .inl (iF cd1))), (a, .inr (1, [.ref ab, .int (nI 0)])), (ab, .inl (cB, 65536, .inl (bF b))), (sh, .inr (2, [.ref sn, .ref sv, .int (nI pn1), .int (nI vn1)])), (sn, .inl (cI, PN, .inl (iF pf1))), (sv, .inl (cI, VN, .inl fv1))] := hD
          refine W.widen (k := 0) (n := 0) (Nat.le_of_ble_eq_true rfl) (Nat.le_of_ble_eq_true rfl) ?_
          exact k_iret () hx hb hr (by first | rfl | decide | exact vp_nar_int _) hlocks hK hP hD hS (rfl) (rfl) (Nat.le_of_ble_eq_true rfl) (Nat.le_of_ble_eq_true rfl) dX6_read_81
        · skip
          exact absurd c148 (by omega)
      · skip
        exact absurd c147 (by omega)

set_option maxRecDepth 100000 in
set_option maxHeartbeats 4000000 in
theorem c_readA (l : Launch) (D : va_G) (cI cB cJ cS : ClassId) (hl9 : l.stackTraces = false) (x sa rs wt : Nat) (f : Nat → Option Nat) (k : Nat) (hk : k < 4) (rd jl jd a ab sh sn sv u w t lo wr pl n PN pn VN vn : Nat) (cl cd b pf : Nat → Nat) (fv : Nat → Int32) (fo io : Value) (hn : n ≤ 65536) (hlo2 : lo < 2) (hPN : PN ≤ 4096) (hVN : VN ≤ 8192) (h2 : 2 ≤ VN) (hb256 : ∀ j, b j < 256) (hu1 : 1 ≤ u) (hu2 : u ≤ 1000) (hcl : ∀ i, cl i < 2 ^ 32) (hf : f k = some sh) (k1 w1 t1 lo1 wr1 pl1 pn1 vn1 : Nat) (cl1 cd1 pf1 : Nat → Nat) (fv1 : Nat → Int32) (hk1 : k1 = 0) (hs : sAll b n u PN VN lo cl cd pf fv = (k1, (w1, t1, lo1, wr1, pl1, pn1, vn1, cl1, cd1, pf1, fv1))) : kX l yX6_read vsX6_read ({ frames := 6, cells := 1, slots := 6, locals := 145 }) D (kT cI cB cJ cS) [.ref x, .int (nI k)] [(x, .inr (4, [.ref sa, .ref a, .ref rs, .ref rd, .ref wt])), (sa, .inl (cS, 4, .inr (.inr (.inr (.inr f))))), (rd, .inr (0, [.int (nI u), .ref jl, .ref jd, .int (nI w), fo, io, .int (nI t), .int (nI lo), .int (nI wr), .int (nI pl)])), (jl, .inl (cJ, 54, .inr (.inl (lF cl)))), (jd, .inl (cI, 54, .inl (iF cd))), (a, .inr (1, [.ref ab, .int (nI n)])), (ab, .inl (cB, 65536, .inl (bF b))), (sh, .inr (2, [.ref sn, .ref sv, .int (nI pn), .int (nI vn)])), (sn, .inl (cI, PN, .inl (iF pf))), (sv, .inl (cI, VN, .inl fv))] "java/lang/IllegalArgumentException" [(x, .inr (4, [.ref sa, .ref a, .ref rs, .ref rd, .ref wt])), (sa, .inl (cS, 4, .inr (.inr (.inr (.inr f))))), (rd, .inr (0, [.int (nI u), .ref jl, .ref jd, .int (nI w1), .ref a, .ref sh, .int (nI t1), .int (nI lo1), .int (nI wr1), .int (nI pl1)])), (jl, .inl (cJ, 54, .inr (.inl (lF cl1)))), (jd, .inl (cI, 54, .inl (iF cd1))), (a, .inr (1, [.ref ab, .int (nI 0)])), (ab, .inl (cB, 65536, .inl (bF b))), (sh, .inr (2, [.ref sn, .ref sv, .int (nI pn1), .int (nI vn1)])), (sn, .inl (cI, PN, .inl (iF pf1))), (sv, .inl (cI, VN, .inl fv1))] := by
  refine k_ofX (by decide) rfl (Nat.le_of_ble_eq_true rfl) ?_
  intro p e s m below meth c A ls hx hb hr hts hown hlocks hmn hml hA hP hK hD hS hZ hl hxt
  have inX2 : ∀ w ∈ wsX20, w ∈ vsX6_read := fun w h => List.mem_cons_of_mem _ (iaX2 w h)
  have inX3 : ∀ w ∈ wsX30, w ∈ vsX6_read := fun w h => List.mem_cons_of_mem _ (iaX3 w h)
  have inX4 : ∀ w ∈ wsX40, w ∈ vsX6_read := fun w h => List.mem_cons_of_mem _ (iaX4 w h)
  have inX6 : ∀ w ∈ wsX60, w ∈ vsX6_read := fun w h => List.mem_cons_of_mem _ (iaX6 w h)
  have F : CallFix p m c cX6_read 4 s _ vsX6_read RX6 := ⟨hx, hb, hml, hown, hts⟩
  have hl : lv_has ls 4 [(0, .ref x), (1, .int (nI k))] := hl
  refine lv_iload_n hx hb dX6_read_0 rfl (lv_at hl 1 rfl) ?_
  refine k_ci (wr := [(x, .inr (4, [.ref sa, .ref a, .ref rs, .ref rd, .ref wt])), (sa, .inl (cS, 4, .inr (.inr (.inr (.inr f))))), (rd, .inr (0, [.int (nI u), .ref jl, .ref jd, .int (nI w), fo, io, .int (nI t), .int (nI lo), .int (nI wr), .int (nI pl)])), (jl, .inl (cJ, 54, .inr (.inl (lF cl)))), (jd, .inl (cI, 54, .inl (iF cd))), (a, .inr (1, [.ref ab, .int (nI n)])), (ab, .inl (cB, 65536, .inl (bF b))), (sh, .inr (2, [.ref sn, .ref sv, .int (nI pn), .int (nI vn)])), (sn, .inl (cI, PN, .inl (iF pf))), (sv, .inl (cI, VN, .inl fv))]) (k_rs F (c_isSlot1 l D cI cB cJ cS k hk) (va_cwS 1 hts (g_S wd_198 wd_199 wd_8 wd_200) rfl rfl rfl (by decide +kernel) ⟨Nat.le_of_ble_eq_true rfl, Nat.le_of_ble_eq_true rfl⟩) hK hP hD hS hA hZ [] rfl (by decide) rfl hl.1 rfl (Nat.le_of_ble_eq_true rfl) dX6_read_1 ⟨Nat.le_of_ble_eq_true rfl, Nat.le_of_ble_eq_true rfl⟩) hP hD hS hA [] [0, 1, 2, 3, 4, 5, 6, 7, 8, 9] rfl rfl (by decide) (by decide) (fun r u9 H locs hw hP hD hS => ?_)
  subst hw
  have hP : va_P D kCl [(x, .inr (4, [.ref sa, .ref a, .ref rs, .ref rd, .ref wt])), (sa, .inl (cS, 4, .inr (.inr (.inr (.inr f))))), (rd, .inr (0, [.int (nI u), .ref jl, .ref jd, .int (nI w), fo, io, .int (nI t), .int (nI lo), .int (nI wr), .int (nI pl)])), (jl, .inl (cJ, 54, .inr (.inl (lF cl)))), (jd, .inl (cI, 54, .inl (iF cd))), (a, .inr (1, [.ref ab, .int (nI n)])), (ab, .inl (cB, 65536, .inl (bF b))), (sh, .inr (2, [.ref sn, .ref sv, .int (nI pn), .int (nI vn)])), (sn, .inl (cI, PN, .inl (iF pf))), (sv, .inl (cI, VN, .inl fv))] H := hP
  have hD : va_D A [(x, .inr (4, [.ref sa, .ref a, .ref rs, .ref rd, .ref wt])), (sa, .inl (cS, 4, .inr (.inr (.inr (.inr f))))), (rd, .inr (0, [.int (nI u), .ref jl, .ref jd, .int (nI w), fo, io, .int (nI t), .int (nI lo), .int (nI wr), .int (nI pl)])), (jl, .inl (cJ, 54, .inr (.inl (lF cl)))), (jd, .inl (cI, 54, .inl (iF cd))), (a, .inr (1, [.ref ab, .int (nI n)])), (ab, .inl (cB, 65536, .inl (bF b))), (sh, .inr (2, [.ref sn, .ref sv, .int (nI pn), .int (nI vn)])), (sn, .inl (cI, PN, .inl (iF pf))), (sv, .inl (cI, VN, .inl fv))] := hD
  refine W.widen (k := 0) (n := 0) (Nat.le_of_ble_eq_true rfl) (Nat.le_of_ble_eq_true rfl) ?_
  refine lv_istore_n (lv' := [(2, .int (nI 1)), (0, .ref x), (1, .int (nI k))]) hx hb dX6_read_4 rfl hl (by decide) rfl (fun ls hl => ?_)
  refine lv_iload_n hx hb dX6_read_5 rfl (lv_at hl 0 rfl) ?_
  refine k_if_eq (tgt := 33) (by omega) hx hb dX6_read_6 (by decide) (fun c149 => ?_) (fun c149 => ?_)
  · skip
    exact absurd c149 (by omega)
  · skip
    refine lv_aload_n hx hb dX6_read_9 rfl (lv_at hl 1 rfl) ?_
    refine va_get (D := D) (ci := 4) (v := .ref rd) (C := RX6) (T := TX6) (N := 5) hx hb hts inX6 hown hK hP 0 rfl rfl 3 (by decide) (hts (.fieldLink RX6 42 "ByteShapes" "reader" "LByteShapes$Reader;") (List.mem_cons_of_mem _ wd_217)) (fun _ h9 => h9) rfl dX6_read_10 ?_
    refine lv_aload_n hx hb dX6_read_13 rfl (lv_at hl 1 rfl) ?_
    refine va_get (D := D) (ci := 4) (v := .ref a) (C := RX6) (T := TX6) (N := 5) hx hb hts inX6 hown hK hP 0 rfl rfl 1 (by decide) (hts (.fieldLink RX6 21 "ByteShapes" "tape" "LByteShapes$Row;") (List.mem_cons_of_mem _ wd_202)) (fun _ h9 => h9) rfl dX6_read_14 ?_
    refine lv_aload_n hx hb dX6_read_17 rfl (lv_at hl 1 rfl) ?_
    refine va_get (D := D) (ci := 4) (v := .ref sa) (C := RX6) (T := TX6) (N := 5) hx hb hts inX6 hown hK hP 0 rfl rfl 0 (by decide) (hts (.fieldLink RX6 11 "ByteShapes" "shapes" "[LByteShapes$Shape;") (List.mem_cons_of_mem _ wd_197)) (fun _ h9 => h9) rfl dX6_read_18 ?_
    refine lv_iload_n hx hb dX6_read_21 rfl (lv_at hl 2 rfl) ?_
    refine va_aldq hx hb hK hP 1 3 rfl rfl (vp_in_nI (by omega) (by omega)) dX6_read_22 ?_
    refine k_v (show va_rf (f (nI k).toNatClampNeg) = .ref sh from by rw [nI_clamp (by omega), hf]; rfl) ?_
    refine k_ci (wr := [(x, .inr (4, [.ref sa, .ref a, .ref rs, .ref rd, .ref wt])), (sa, .inl (cS, 4, .inr (.inr (.inr (.inr f)))))]) (k_rv F (c_Rd_takeAll l D cI cB cJ cS rd jl jd a ab sh sn sv u w t lo wr pl n PN pn VN vn cl cd b pf fv fo io hn hlo2 hPN hVN h2 hb256 hu1 hu2 hcl k1 w1 t1 lo1 wr1 pl1 pn1 vn1 cl1 cd1 pf1 fv1 hs) (cwV 2 hts (g_V wd_218 wd_219 wd_220 wd_55 wd_221) rfl rfl rfl (by decide +kernel) ⟨Nat.le_of_ble_eq_true rfl, Nat.le_of_ble_eq_true rfl⟩) hK hP hD hS hA hZ [2, 3, 4, 5, 6, 7, 8, 9] rfl (by decide) 2 rfl rfl rfl rfl hl.1 rfl (Nat.le_of_ble_eq_true rfl) dX6_read_23 ⟨Nat.le_of_ble_eq_true rfl, Nat.le_of_ble_eq_true rfl⟩) hP hD hS hA [2, 3, 4, 5, 6, 7, 8, 9] [0, 1] rfl rfl (by decide) (by decide) (fun r u9 H locs hw hP hD hS => ?_)
    subst hw
    have hP : va_P D kCl [(x, .inr (4, [.ref sa, .ref a, .ref rs, .ref rd, .ref wt])), (sa, .inl (cS, 4, .inr (.inr (.inr (.inr f))))), (rd, .inr (0, [.int (nI u), .ref jl, .ref jd, .int (nI w1), .ref a, .ref sh, .int (nI t1), .int (nI lo1), .int (nI wr1), .int (nI pl1)])), (jl, .inl (cJ, 54, .inr (.inl (lF cl1)))), (jd, .inl (cI, 54, .inl (iF cd1))), (a, .inr (1, [.ref ab, .int (nI n)])), (ab, .inl (cB, 65536, .inl (bF b))), (sh, .inr (2, [.ref sn, .ref sv, .int (nI pn1), .int (nI vn1)])), (sn, .inl (cI, PN, .inl (iF pf1))), (sv, .inl (cI, VN, .inl fv1))] H := hP
    have hD : va_D A [(x, .inr (4, [.ref sa, .ref a, .ref rs, .ref rd, .ref wt])), (sa, .inl (cS, 4, .inr (.inr (.inr (.inr f))))), (rd, .inr (0, [.int (nI u), .ref jl, .ref jd, .int (nI w1), .ref a, .ref sh, .int (nI t1), .int (nI lo1), .int (nI wr1), .int (nI pl1)])), (jl, .inl (cJ, 54, .inr (.inl (lF cl1)))), (jd, .inl (cI, 54, .inl (iF cd1))), (a, .inr (1, [.ref ab, .int (nI n)])), (ab, .inl (cB, 65536, .inl (bF b))), (sh, .inr (2, [.ref sn, .ref sv, .int (nI pn1), .int (nI vn1)])), (sn, .inl (cI, PN, .inl (iF pf1))), (sv, .inl (cI, VN, .inl fv1))] := hD
    refine W.widen (k := 0) (n := 0) (Nat.le_of_ble_eq_true rfl) (Nat.le_of_ble_eq_true rfl) ?_
    subst hk1
    refine k_if_eq (tgt := 33) (by omega) hx hb dX6_read_26 (by decide) (fun c150 => ?_) (fun c150 => ?_)
    · skip
      refine lv_iconst (v := nI 0) hx hb dX6_read_33 (by decide) ?_
      refine lv_istore_n (lv' := [(3, .int (nI 0)), (2, .int (nI 1)), (0, .ref x), (1, .int (nI k))]) hx hb dX6_read_34 rfl hl (by decide) rfl (fun ls hl => ?_)
      refine lv_aload_n hx hb dX6_read_35 rfl (lv_at hl 2 rfl) ?_
      refine va_get (D := D) (ci := 4) (v := .ref a) (C := RX6) (T := TX6) (N := 5) hx hb hts inX6 hown hK hP 0 rfl rfl 1 (by decide) (hts (.fieldLink RX6 21 "ByteShapes" "tape" "LByteShapes$Row;") (List.mem_cons_of_mem _ wd_202)) (fun _ h9 => h9) rfl dX6_read_36 ?_
      refine lv_iconst (v := nI 0) hx hb dX6_read_39 (by decide) ?_
      refine k_cv (wr := [(x, .inr (4, [.ref sa, .ref a, .ref rs, .ref rd, .ref wt])), (sa, .inl (cS, 4, .inr (.inr (.inr (.inr f))))), (rd, .inr (0, [.int (nI u), .ref jl, .ref jd, .int (nI w1), .ref a, .ref sh, .int (nI t1), .int (nI lo1), .int (nI wr1), .int (nI pl1)])), (jl, .inl (cJ, 54, .inr (.inl (lF cl1)))), (jd, .inl (cI, 54, .inl (iF cd1))), (sh, .inr (2, [.ref sn, .ref sv, .int (nI pn1), .int (nI vn1)])), (sn, .inl (cI, PN, .inl (iF pf1))), (sv, .inl (cI, VN, .inl fv1))]) (k_rv F (c_Row_cut l D cI cB cJ cS a ab n b 0 (by omega) hn) (cwV 1 hts (g_V wd_211 wd_212 wd_213 wd_50 wd_214) rfl rfl rfl (by decide +kernel) ⟨Nat.le_of_ble_eq_true rfl, Nat.le_of_ble_eq_true rfl⟩) hK hP hD hS hA hZ [5, 6] rfl (by decide) 5 rfl rfl rfl rfl hl.1 rfl (Nat.le_of_ble_eq_true rfl) dX6_read_40 ⟨Nat.le_of_ble_eq_true rfl, Nat.le_of_ble_eq_true rfl⟩) hP hD hS hA [5, 6] [0, 1, 2, 3, 4, 7, 8, 9] rfl rfl (by decide) (by decide) (fun u9 H locs hw hP hD hS => ?_)
      have hP : va_P D kCl [(x, .inr (4, [.ref sa, .ref a, .ref rs, .ref rd, .ref wt])), (sa, .inl (cS, 4, .inr (.inr (.inr (.inr f))))), (rd, .inr (0, [.int (nI u), .ref jl, .ref jd, .int (nI w1), .ref a, .ref sh, .int (nI t1), .int (nI lo1), .int (nI wr1), .int (nI pl1)])), (jl, .inl (cJ, 54, .inr (.inl (lF cl1)))), (jd, .inl (cI, 54, .inl (iF cd1))), (sh, .inr (2, [.ref sn, .ref sv, .int (nI pn1), .int (nI vn1)])), (sn, .inl (cI, PN, .inl (iF pf1))), (sv, .inl (cI, VN, .inl fv1)), (a, .inr (1, [.ref ab, .int (nI 0)])), (ab, .inl (cB, 65536, .inl (bF b)))] H := hP
      have hD : va_D A [(x, .inr (4, [.ref sa, .ref a, .ref rs, .ref rd, .ref wt])), (sa, .inl (cS, 4, .inr (.inr (.inr (.inr f))))), (rd, .inr (0, [.int (nI u), .ref jl, .ref jd, .int (nI w1), .ref a, .ref sh, .int (nI t1), .int (nI lo1), .int (nI wr1), .int (nI pl1)])), (jl, .inl (cJ, 54, .inr (.inl (lF cl1)))), (jd, .inl (cI, 54, .inl (iF cd1))), (sh, .inr (2, [.ref sn, .ref sv, .int (nI pn1), .int (nI vn1)])), (sn, .inl (cI, PN, .inl (iF pf1))), (sv, .inl (cI, VN, .inl fv1)), (a, .inr (1, [.ref ab, .int (nI 0)])), (ab, .inl (cB, 65536, .inl (bF b)))] := hD
      refine W.widen (k := 0) (n := 0) (Nat.le_of_ble_eq_true rfl) (Nat.le_of_ble_eq_true rfl) ?_
      refine lv_iload_n hx hb dX6_read_43 rfl (lv_at hl 1 rfl) ?_
      refine k_if_ne (tgt := 57) (by omega) hx hb dX6_read_44 (by decide) (fun c151 => ?_) (fun c151 => ?_)
      · skip
        refine lv_iload_n hx hb dX6_read_57 rfl (lv_at hl 0 rfl) ?_
        refine k_if_ne (tgt := 71) (by omega) hx hb dX6_read_58 (by decide) (fun c152 => ?_) (fun c152 => ?_)
        · skip
          exact absurd c152 (by omega)
        · skip
          have hP : va_P D kCl [(x, .inr (4, [.ref sa, .ref a, .ref rs, .ref rd, .ref wt])), (sa, .inl (cS, 4, .inr (.inr (.inr (.inr f))))), (rd, .inr (0, [.int (nI u), .ref jl, .ref jd, .int (nI w1), .ref a, .ref sh, .int (nI t1), .int (nI lo1), .int (nI wr1), .int (nI pl1)])), (jl, .inl (cJ, 54, .inr (.inl (lF cl1)))), (jd, .inl (cI, 54, .inl (iF cd1))), (a, .inr (1, [.ref ab, .int (nI 0)])), (ab, .inl (cB, 65536, .inl (bF b))), (sh, .inr (2, [.ref sn, .ref sv, .int (nI pn1), .int (nI vn1)])), (sn, .inl (cI, PN, .inl (iF pf1))), (sv, .inl (cI, VN, .inl fv1))] H := hP.sub [0, 1, 2, 3, 4, 8, 9, 5, 6, 7] rfl
          have hD : va_D A [(x, .inr (4, [.ref sa, .ref a, .ref rs, .ref rd, .ref wt])), (sa, .inl (cS, 4, .inr (.inr (.inr (.inr f))))), (rd, .inr (0, [.int (nI u), .ref jl, .ref jd, .int (nI w1), .ref a, .ref sh, .int (nI t1), .int (nI lo1), .int (nI wr1), .int (nI pl1)])), (jl, .inl (cJ, 54, .inr (.inl (lF cl1)))), (jd, .inl (cI, 54, .inl (iF cd1))), (a, .inr (1, [.ref ab, .int (nI 0)])), (ab, .inl (cB, 65536, .inl (bF b))), (sh, .inr (2, [.ref sn, .ref sv, .int (nI pn1), .int (nI vn1)])), (sn, .inl (cI, PN, .inl (iF pf1))), (sv, .inl (cI, VN, .inl fv1))] := hD.sub [0, 1, 2, 3, 4, 8, 9, 5, 6, 7] (by decide) rfl
          exact k_thr (own := RX6) (E := "java/lang/IllegalArgumentException") (names := ["java/lang/RuntimeException", "java/lang/Exception"]) (text := "no shape") hx hb hl9 hown (by decide +kernel) (by decide +kernel) (hts (.classLink RX6 69 "java/lang/IllegalArgumentException") (List.mem_cons_of_mem _ wd_215)) (hts (.initialized "java/lang/IllegalArgumentException") (List.mem_cons_of_mem _ wd_216)) (hZ.str (q := (RX6, 92, "no shape")) (by decide +kernel)) (vx_hat (L := vx_atS RX6 73 "java/lang/IllegalArgumentException" ["java/lang/RuntimeException", "java/lang/Exception"]) (B := [.castable "java/lang/IllegalArgumentException" "java/lang/IllegalArgumentException", .declares ⟨"java/lang/RuntimeException", "<init>", "(Ljava/lang/String;)V"⟩, .declares ⟨"java/lang/Exception", "<init>", "(Ljava/lang/String;)V"⟩, .declares ⟨"java/lang/Throwable", "<init>", "(Ljava/lang/String;)V"⟩]) (fun w hw => hts w (List.mem_cons_of_mem _ (atw_4 w hw))) (by decide +kernel) (vx_c (va_Nw.use rfl (hZ.nw (w := .castable "java/lang/IllegalArgumentException" "java/lang/IllegalArgumentException") (by decide +kernel))) (vx_c (va_Nw.use rfl (hZ.nw (w := .declares ⟨"java/lang/RuntimeException", "<init>", "(Ljava/lang/String;)V"⟩) (by decide +kernel))) (vx_c (va_Nw.use rfl (hZ.nw (w := .declares ⟨"java/lang/Exception", "<init>", "(Ljava/lang/String;)V"⟩) (by decide +kernel))) (vx_c (va_Nw.use rfl (hZ.nw (w := .declares ⟨"java/lang/Throwable", "<init>", "(Ljava/lang/String;)V"⟩) (by decide +kernel))) (vx_n)))))) (by decide +kernel) hZ hK hP hD hS (hl.1.trans hml.symm) dX6_read_61 dX6_read_64 dX6_read_65 dX6_read_67 dX6_read_70 hxt (Nat.le_of_ble_eq_true rfl) (Nat.le_of_ble_eq_true rfl) (Nat.le_of_ble_eq_true rfl) (Nat.le_of_ble_eq_true rfl) hlocks (rfl) (Nat.le_of_ble_eq_true rfl) (Nat.le_of_ble_eq_true rfl)
      · skip
        exact absurd c151 (by omega)
    · skip
      exact absurd c150 (by omega)

set_option maxRecDepth 100000 in
set_option maxHeartbeats 4000000 in
theorem c_readI (l : Launch) (D : va_G) (cI cB cJ cS : ClassId) (hl9 : l.stackTraces = false) (x sa a rs rd wt : Nat) (ab n : Nat) (b : Nat → Nat) (hn : n ≤ 65536) (z : Int32) (hz : z < 0 ∨ nI 4 ≤ z) : kX l yX6_read vsX6_read ({ frames := 6, cells := 1, slots := 6, locals := 82 }) D (kT cI cB cJ cS) [.ref x, .int z] [(x, .inr (4, [.ref sa, .ref a, .ref rs, .ref rd, .ref wt])), (a, .inr (1, [.ref ab, .int (nI n)])), (ab, .inl (cB, 65536, .inl (bF b)))] "java/lang/IndexOutOfBoundsException" [(x, .inr (4, [.ref sa, .ref a, .ref rs, .ref rd, .ref wt])), (a, .inr (1, [.ref ab, .int (nI 0)])), (ab, .inl (cB, 65536, .inl (bF b)))] := by
  refine k_ofX (by decide) rfl (Nat.le_of_ble_eq_true rfl) ?_
  intro p e s m below meth c A ls hx hb hr hts hown hlocks hmn hml hA hP hK hD hS hZ hl hxt
  have inX3 : ∀ w ∈ wsX30, w ∈ vsX6_read := fun w h => List.mem_cons_of_mem _ (iaX3 w h)
  have inX6 : ∀ w ∈ wsX60, w ∈ vsX6_read := fun w h => List.mem_cons_of_mem _ (iaX6 w h)
  have F : CallFix p m c cX6_read 4 s _ vsX6_read RX6 := ⟨hx, hb, hml, hown, hts⟩
  have hl : lv_has ls 4 [(0, .ref x), (1, .int z)] := hl
  refine lv_iload_n hx hb dX6_read_0 rfl (lv_at hl 1 rfl) ?_
  refine k_ci (wr := [(x, .inr (4, [.ref sa, .ref a, .ref rs, .ref rd, .ref wt])), (a, .inr (1, [.ref ab, .int (nI n)])), (ab, .inl (cB, 65536, .inl (bF b)))]) (k_rs F (c_isSlot0 l D cI cB cJ cS z hz) (va_cwS 1 hts (g_S wd_198 wd_199 wd_8 wd_200) rfl rfl rfl (by decide +kernel) ⟨Nat.le_of_ble_eq_true rfl, Nat.le_of_ble_eq_true rfl⟩) hK hP hD hS hA hZ [] rfl (by decide) rfl hl.1 rfl (Nat.le_of_ble_eq_true rfl) dX6_read_1 ⟨Nat.le_of_ble_eq_true rfl, Nat.le_of_ble_eq_true rfl⟩) hP hD hS hA [] [0, 1, 2] rfl rfl (by decide) (by decide) (fun r u9 H locs hw hP hD hS => ?_)
  subst hw
  have hP : va_P D kCl [(x, .inr (4, [.ref sa, .ref a, .ref rs, .ref rd, .ref wt])), (a, .inr (1, [.ref ab, .int (nI n)])), (ab, .inl (cB, 65536, .inl (bF b)))] H := hP
  have hD : va_D A [(x, .inr (4, [.ref sa, .ref a, .ref rs, .ref rd, .ref wt])), (a, .inr (1, [.ref ab, .int (nI n)])), (ab, .inl (cB, 65536, .inl (bF b)))] := hD
  refine W.widen (k := 0) (n := 0) (Nat.le_of_ble_eq_true rfl) (Nat.le_of_ble_eq_true rfl) ?_
  refine lv_istore_n (lv' := [(2, .int (nI 0)), (0, .ref x), (1, .int z)]) hx hb dX6_read_4 rfl hl (by decide) rfl (fun ls hl => ?_)
  refine lv_iload_n hx hb dX6_read_5 rfl (lv_at hl 0 rfl) ?_
  refine k_if_eq (tgt := 33) (by omega) hx hb dX6_read_6 (by decide) (fun c153 => ?_) (fun c153 => ?_)
  · skip
    refine lv_iconst (v := nI 0) hx hb dX6_read_33 (by decide) ?_
    refine lv_istore_n (lv' := [(3, .int (nI 0)), (2, .int (nI 0)), (0, .ref x), (1, .int z)]) hx hb dX6_read_34 rfl hl (by decide) rfl (fun ls hl => ?_)
    refine lv_aload_n hx hb dX6_read_35 rfl (lv_at hl 2 rfl) ?_
    refine va_get (D := D) (ci := 4) (v := .ref a) (C := RX6) (T := TX6) (N := 5) hx hb hts inX6 hown hK hP 0 rfl rfl 1 (by decide) (hts (.fieldLink RX6 21 "ByteShapes" "tape" "LByteShapes$Row;") (List.mem_cons_of_mem _ wd_202)) (fun _ h9 => h9) rfl dX6_read_36 ?_
    refine lv_iconst (v := nI 0) hx hb dX6_read_39 (by decide) ?_
    refine k_cv (wr := [(x, .inr (4, [.ref sa, .ref a, .ref rs, .ref rd, .ref wt]))]) (k_rv F (c_Row_cut l D cI cB cJ cS a ab n b 0 (by omega) hn) (cwV 1 hts (g_V wd_211 wd_212 wd_213 wd_50 wd_214) rfl rfl rfl (by decide +kernel) ⟨Nat.le_of_ble_eq_true rfl, Nat.le_of_ble_eq_true rfl⟩) hK hP hD hS hA hZ [1, 2] rfl (by decide) 1 rfl rfl rfl rfl hl.1 rfl (Nat.le_of_ble_eq_true rfl) dX6_read_40 ⟨Nat.le_of_ble_eq_true rfl, Nat.le_of_ble_eq_true rfl⟩) hP hD hS hA [1, 2] [0] rfl rfl (by decide) (by decide) (fun u9 H locs hw hP hD hS => ?_)
    have hP : va_P D kCl [(x, .inr (4, [.ref sa, .ref a, .ref rs, .ref rd, .ref wt])), (a, .inr (1, [.ref ab, .int (nI 0)])), (ab, .inl (cB, 65536, .inl (bF b)))] H := hP
    have hD : va_D A [(x, .inr (4, [.ref sa, .ref a, .ref rs, .ref rd, .ref wt])), (a, .inr (1, [.ref ab, .int (nI 0)])), (ab, .inl (cB, 65536, .inl (bF b)))] := hD
    refine W.widen (k := 0) (n := 0) (Nat.le_of_ble_eq_true rfl) (Nat.le_of_ble_eq_true rfl) ?_
    refine lv_iload_n hx hb dX6_read_43 rfl (lv_at hl 1 rfl) ?_
    refine k_if_ne (tgt := 57) (by omega) hx hb dX6_read_44 (by decide) (fun c154 => ?_) (fun c154 => ?_)
    · skip
      exact absurd c154 (by omega)
    · skip
      exact k_thr (own := RX6) (E := "java/lang/IndexOutOfBoundsException") (names := ["java/lang/RuntimeException", "java/lang/Exception"]) (text := "no such slot") hx hb hl9 hown (by decide +kernel) (by decide +kernel) (hts (.classLink RX6 87 "java/lang/IndexOutOfBoundsException") (List.mem_cons_of_mem _ wd_201)) (hts (.initialized "java/lang/IndexOutOfBoundsException") (List.mem_cons_of_mem _ wd_180)) (hZ.str (q := (RX6, 89, "no such slot")) (by decide +kernel)) (vx_hat (L := vx_atS RX6 91 "java/lang/IndexOutOfBoundsException" ["java/lang/RuntimeException", "java/lang/Exception"]) (B := [.castable "java/lang/IndexOutOfBoundsException" "java/lang/IndexOutOfBoundsException", .declares ⟨"java/lang/RuntimeException", "<init>", "(Ljava/lang/String;)V"⟩, .declares ⟨"java/lang/Exception", "<init>", "(Ljava/lang/String;)V"⟩, .declares ⟨"java/lang/Throwable", "<init>", "(Ljava/lang/String;)V"⟩]) (fun w hw => hts w (List.mem_cons_of_mem _ (atw_2 w hw))) (by decide +kernel) (vx_c (va_Nw.use rfl (hZ.nw (w := .castable "java/lang/IndexOutOfBoundsException" "java/lang/IndexOutOfBoundsException") (by decide +kernel))) (vx_c (va_Nw.use rfl (hZ.nw (w := .declares ⟨"java/lang/RuntimeException", "<init>", "(Ljava/lang/String;)V"⟩) (by decide +kernel))) (vx_c (va_Nw.use rfl (hZ.nw (w := .declares ⟨"java/lang/Exception", "<init>", "(Ljava/lang/String;)V"⟩) (by decide +kernel))) (vx_c (va_Nw.use rfl (hZ.nw (w := .declares ⟨"java/lang/Throwable", "<init>", "(Ljava/lang/String;)V"⟩) (by decide +kernel))) (vx_n)))))) (by decide +kernel) hZ hK hP hD hS (hl.1.trans hml.symm) dX6_read_47 dX6_read_50 dX6_read_51 dX6_read_53 dX6_read_56 hxt (Nat.le_of_ble_eq_true rfl) (Nat.le_of_ble_eq_true rfl) (Nat.le_of_ble_eq_true rfl) (Nat.le_of_ble_eq_true rfl) hlocks (rfl) (Nat.le_of_ble_eq_true rfl) (Nat.le_of_ble_eq_true rfl)
  · skip
    exact absurd c153 (by omega)

set_option maxRecDepth 100000 in
set_option maxHeartbeats 4000000 in
theorem c_Rd_wrong0 (l : Launch) (D : va_G) (cI cB cJ cS : ClassId) (rd jl jd u w t lo wr pl : Nat) (fo io : Value)  : kM l yX2_wrong vsX2_wrong ({ frames := 0, cells := 0, slots := 0, locals := 0 }) D (kT cI cB cJ cS) [.ref rd] [(rd, .inr (0, [.int (nI u), .ref jl, .ref jd, .int (nI w), fo, io, .int (nI t), .int (nI lo), .int (nI wr), .int (nI pl)]))] (kQi D (kT cI cB cJ cS) (fun r (ug : Unit) => r = nI wr) (fun ug => [(rd, .inr (0, [.int (nI u), .ref jl, .ref jd, .int (nI w), fo, io, .int (nI t), .int (nI lo), .int (nI wr), .int (nI pl)]))])) := by
  refine k_ofW (by decide) rfl (Nat.le_of_ble_eq_true rfl) ?_
  intro p e s m below meth c A ls hx hb hr hts hown hlocks hmn hml hA hP hK hD hS hZ hl
  have inX2 : ∀ w ∈ wsX20, w ∈ vsX2_wrong := fun w h => List.mem_cons_of_mem _ (iaX2 w h)
  have F : CallFix p m c cX2_wrong 1 s _ vsX2_wrong RX2 := ⟨hx, hb, hml, hown, hts⟩
  have hl : lv_has ls 1 [(0, .ref rd)] := hl
  refine lv_aload_n hx hb dX2_wrong_0 rfl (lv_at hl 0 rfl) ?_
  refine va_get (D := D) (ci := 0) (v := .int (nI wr)) (C := RX2) (T := TX2) (N := 10) hx hb hts inX2 hown hK hP 0 rfl rfl 8 (by decide) (hts (.fieldLink RX2 23 "ByteShapes$Reader" "wrong" "I") (List.mem_cons_of_mem _ wd_43)) (fun _ h9 => h9) rfl dX2_wrong_1 ?_
  exact k_iret () hx hb hr (by first | rfl | decide | exact vp_nar_int _) hlocks hK hP hD hS (rfl) (rfl) (Nat.le_of_ble_eq_true rfl) (Nat.le_of_ble_eq_true rfl) dX2_wrong_4

set_option maxRecDepth 100000 in
set_option maxHeartbeats 4000000 in
theorem c_Rd_place0 (l : Launch) (D : va_G) (cI cB cJ cS : ClassId) (rd jl jd u w t lo wr pl : Nat) (fo io : Value)  : kM l yX2_place vsX2_place ({ frames := 0, cells := 0, slots := 0, locals := 0 }) D (kT cI cB cJ cS) [.ref rd] [(rd, .inr (0, [.int (nI u), .ref jl, .ref jd, .int (nI w), fo, io, .int (nI t), .int (nI lo), .int (nI wr), .int (nI pl)]))] (kQi D (kT cI cB cJ cS) (fun r (ug : Unit) => r = nI pl) (fun ug => [(rd, .inr (0, [.int (nI u), .ref jl, .ref jd, .int (nI w), fo, io, .int (nI t), .int (nI lo), .int (nI wr), .int (nI pl)]))])) := by
  refine k_ofW (by decide) rfl (Nat.le_of_ble_eq_true rfl) ?_
  intro p e s m below meth c A ls hx hb hr hts hown hlocks hmn hml hA hP hK hD hS hZ hl
  have inX2 : ∀ w ∈ wsX20, w ∈ vsX2_place := fun w h => List.mem_cons_of_mem _ (iaX2 w h)
  have F : CallFix p m c cX2_place 1 s _ vsX2_place RX2 := ⟨hx, hb, hml, hown, hts⟩
  have hl : lv_has ls 1 [(0, .ref rd)] := hl
  refine lv_aload_n hx hb dX2_place_0 rfl (lv_at hl 0 rfl) ?_
  refine va_get (D := D) (ci := 0) (v := .int (nI pl)) (C := RX2) (T := TX2) (N := 10) hx hb hts inX2 hown hK hP 0 rfl rfl 9 (by decide) (hts (.fieldLink RX2 26 "ByteShapes$Reader" "place" "I") (List.mem_cons_of_mem _ wd_44)) (fun _ h9 => h9) rfl dX2_place_1 ?_
  exact k_iret () hx hb hr (by first | rfl | decide | exact vp_nar_int _) hlocks hK hP hD hS (rfl) (rfl) (Nat.le_of_ble_eq_true rfl) (Nat.le_of_ble_eq_true rfl) dX2_place_4

set_option maxRecDepth 100000 in
set_option maxHeartbeats 4000000 in
theorem c_fault0 (l : Launch) (D : va_G) (cI cB cJ cS : ClassId) (x sa a rs wt : Nat) (rd jl jd u w t lo wr pl : Nat) (fo io : Value)  : kM l yX6_fault vsX6_fault ({ frames := 1, cells := 0, slots := 0, locals := 20 }) D (kT cI cB cJ cS) [.ref x, .int (nI 0)] [(x, .inr (4, [.ref sa, .ref a, .ref rs, .ref rd, .ref wt])), (rd, .inr (0, [.int (nI u), .ref jl, .ref jd, .int (nI w), fo, io, .int (nI t), .int (nI lo), .int (nI wr), .int (nI pl)]))] (kQi D (kT cI cB cJ cS) (fun r (ug : Unit) => r = nI wr) (fun ug => [(x, .inr (4, [.ref sa, .ref a, .ref rs, .ref rd, .ref wt])), (rd, .inr (0, [.int (nI u), .ref jl, .ref jd, .int (nI w), fo, io, .int (nI t), .int (nI lo), .int (nI wr), .int (nI pl)]))])) := by
  refine k_ofW (by decide) rfl (Nat.le_of_ble_eq_true rfl) ?_
  intro p e s m below meth c A ls hx hb hr hts hown hlocks hmn hml hA hP hK hD hS hZ hl
  have inX2 : ∀ w ∈ wsX20, w ∈ vsX6_fault := fun w h => List.mem_cons_of_mem _ (iaX2 w h)
  have inX6 : ∀ w ∈ wsX60, w ∈ vsX6_fault := fun w h => List.mem_cons_of_mem _ (iaX6 w h)
  have F : CallFix p m c cX6_fault 2 s _ vsX6_fault RX6 := ⟨hx, hb, hml, hown, hts⟩
  have hl : lv_has ls 2 [(0, .ref x), (1, .int (nI 0))] := hl
  refine lv_iload_n hx hb dX6_fault_0 rfl (lv_at hl 1 rfl) ?_
  refine k_if_lt (tgt := 9) (by omega) hx hb dX6_fault_1 (by decide) (fun c155 => ?_) (fun c155 => ?_)
  · skip
    exact c155.elim
  · skip
    refine lv_iload_n hx hb dX6_fault_4 rfl (lv_at hl 1 rfl) ?_
    refine lv_iconst (v := nI 1) hx hb dX6_fault_5 (by decide) ?_
    refine k_icmp_le (tgt := 19) (by omega) (by omega) hx hb dX6_fault_6 (by decide) (fun c156 => ?_) (fun c156 => ?_)
    · skip
      refine lv_iload_n hx hb dX6_fault_19 rfl (lv_at hl 1 rfl) ?_
      refine k_if_ne (tgt := 33) (by omega) hx hb dX6_fault_20 (by decide) (fun c157 => ?_) (fun c157 => ?_)
      · skip
        exact absurd c157 (by omega)
      · skip
        refine lv_aload_n hx hb dX6_fault_23 rfl (lv_at hl 0 rfl) ?_
        refine va_get (D := D) (ci := 4) (v := .ref rd) (C := RX6) (T := TX6) (N := 5) hx hb hts inX6 hown hK hP 0 rfl rfl 3 (by decide) (hts (.fieldLink RX6 42 "ByteShapes" "reader" "LByteShapes$Reader;") (List.mem_cons_of_mem _ wd_217)) (fun _ h9 => h9) rfl dX6_fault_24 ?_
        refine k_ci (wr := [(x, .inr (4, [.ref sa, .ref a, .ref rs, .ref rd, .ref wt]))]) (k_rv F (c_Rd_wrong0 l D cI cB cJ cS rd jl jd u w t lo wr pl fo io) (cwV 0 hts (g_V wd_226 wd_227 wd_228 wd_55 wd_229) rfl rfl rfl (by decide +kernel) ⟨Nat.le_of_ble_eq_true rfl, Nat.le_of_ble_eq_true rfl⟩) hK hP hD hS hA hZ [1] rfl (by decide) 1 rfl rfl rfl rfl hl.1 rfl (Nat.le_of_ble_eq_true rfl) dX6_fault_27 ⟨Nat.le_of_ble_eq_true rfl, Nat.le_of_ble_eq_true rfl⟩) hP hD hS hA [1] [0] rfl rfl (by decide) (by decide) (fun r u9 H locs hw hP hD hS => ?_)
        subst hw
        have hP : va_P D kCl [(x, .inr (4, [.ref sa, .ref a, .ref rs, .ref rd, .ref wt])), (rd, .inr (0, [.int (nI u), .ref jl, .ref jd, .int (nI w), fo, io, .int (nI t), .int (nI lo), .int (nI wr), .int (nI pl)]))] H := hP
        have hD : va_D A [(x, .inr (4, [.ref sa, .ref a, .ref rs, .ref rd, .ref wt])), (rd, .inr (0, [.int (nI u), .ref jl, .ref jd, .int (nI w), fo, io, .int (nI t), .int (nI lo), .int (nI wr), .int (nI pl)]))] := hD
        refine W.widen (k := 0) (n := 0) (Nat.le_of_ble_eq_true rfl) (Nat.le_of_ble_eq_true rfl) ?_
        refine lv_goto (tgt := 40) hx hb dX6_fault_30 (by decide) ?_
        exact k_iret () hx hb hr (by first | rfl | decide | exact vp_nar_int _) hlocks hK hP hD hS (rfl) (rfl) (Nat.le_of_ble_eq_true rfl) (Nat.le_of_ble_eq_true rfl) dX6_fault_40
    · skip
      exact absurd c156 (by omega)

set_option maxRecDepth 100000 in
set_option maxHeartbeats 4000000 in
theorem c_fault1 (l : Launch) (D : va_G) (cI cB cJ cS : ClassId) (x sa a rs wt : Nat) (rd jl jd u w t lo wr pl : Nat) (fo io : Value)  : kM l yX6_fault vsX6_fault ({ frames := 1, cells := 0, slots := 0, locals := 20 }) D (kT cI cB cJ cS) [.ref x, .int (nI 1)] [(x, .inr (4, [.ref sa, .ref a, .ref rs, .ref rd, .ref wt])), (rd, .inr (0, [.int (nI u), .ref jl, .ref jd, .int (nI w), fo, io, .int (nI t), .int (nI lo), .int (nI wr), .int (nI pl)]))] (kQi D (kT cI cB cJ cS) (fun r (ug : Unit) => r = nI pl) (fun ug => [(x, .inr (4, [.ref sa, .ref a, .ref rs, .ref rd, .ref wt])), (rd, .inr (0, [.int (nI u), .ref jl, .ref jd, .int (nI w), fo, io, .int (nI t), .int (nI lo), .int (nI wr), .int (nI pl)]))])) := by
  refine k_ofW (by decide) rfl (Nat.le_of_ble_eq_true rfl) ?_
  intro p e s m below meth c A ls hx hb hr hts hown hlocks hmn hml hA hP hK hD hS hZ hl
  have inX2 : ∀ w ∈ wsX20, w ∈ vsX6_fault := fun w h => List.mem_cons_of_mem _ (iaX2 w h)
  have inX6 : ∀ w ∈ wsX60, w ∈ vsX6_fault := fun w h => List.mem_cons_of_mem _ (iaX6 w h)
  have F : CallFix p m c cX6_fault 2 s _ vsX6_fault RX6 := ⟨hx, hb, hml, hown, hts⟩
  have hl : lv_has ls 2 [(0, .ref x), (1, .int (nI 1))] := hl
  refine lv_iload_n hx hb dX6_fault_0 rfl (lv_at hl 1 rfl) ?_
  refine k_if_lt (tgt := 9) (by omega) hx hb dX6_fault_1 (by decide) (fun c158 => ?_) (fun c158 => ?_)
  · skip
    exact c158.elim
  · skip
    refine lv_iload_n hx hb dX6_fault_4 rfl (lv_at hl 1 rfl) ?_
    refine lv_iconst (v := nI 1) hx hb dX6_fault_5 (by decide) ?_
    refine k_icmp_le (tgt := 19) (by omega) (by omega) hx hb dX6_fault_6 (by decide) (fun c159 => ?_) (fun c159 => ?_)
    · skip
      refine lv_iload_n hx hb dX6_fault_19 rfl (lv_at hl 1 rfl) ?_
      refine k_if_ne (tgt := 33) (by omega) hx hb dX6_fault_20 (by decide) (fun c160 => ?_) (fun c160 => ?_)
      · skip
        refine lv_aload_n hx hb dX6_fault_33 rfl (lv_at hl 0 rfl) ?_
        refine va_get (D := D) (ci := 4) (v := .ref rd) (C := RX6) (T := TX6) (N := 5) hx hb hts inX6 hown hK hP 0 rfl rfl 3 (by decide) (hts (.fieldLink RX6 42 "ByteShapes" "reader" "LByteShapes$Reader;") (List.mem_cons_of_mem _ wd_217)) (fun _ h9 => h9) rfl dX6_fault_34 ?_
        refine k_ci (wr := [(x, .inr (4, [.ref sa, .ref a, .ref rs, .ref rd, .ref wt]))]) (k_rv F (c_Rd_place0 l D cI cB cJ cS rd jl jd u w t lo wr pl fo io) (cwV 0 hts (g_V wd_230 wd_231 wd_232 wd_55 wd_233) rfl rfl rfl (by decide +kernel) ⟨Nat.le_of_ble_eq_true rfl, Nat.le_of_ble_eq_true rfl⟩) hK hP hD hS hA hZ [1] rfl (by decide) 1 rfl rfl rfl rfl hl.1 rfl (Nat.le_of_ble_eq_true rfl) dX6_fault_37 ⟨Nat.le_of_ble_eq_true rfl, Nat.le_of_ble_eq_true rfl⟩) hP hD hS hA [1] [0] rfl rfl (by decide) (by decide) (fun r u9 H locs hw hP hD hS => ?_)
        subst hw
        have hP : va_P D kCl [(x, .inr (4, [.ref sa, .ref a, .ref rs, .ref rd, .ref wt])), (rd, .inr (0, [.int (nI u), .ref jl, .ref jd, .int (nI w), fo, io, .int (nI t), .int (nI lo), .int (nI wr), .int (nI pl)]))] H := hP
        have hD : va_D A [(x, .inr (4, [.ref sa, .ref a, .ref rs, .ref rd, .ref wt])), (rd, .inr (0, [.int (nI u), .ref jl, .ref jd, .int (nI w), fo, io, .int (nI t), .int (nI lo), .int (nI wr), .int (nI pl)]))] := hD
        refine W.widen (k := 0) (n := 0) (Nat.le_of_ble_eq_true rfl) (Nat.le_of_ble_eq_true rfl) ?_
        exact k_iret () hx hb hr (by first | rfl | decide | exact vp_nar_int _) hlocks hK hP hD hS (rfl) (rfl) (Nat.le_of_ble_eq_true rfl) (Nat.le_of_ble_eq_true rfl) dX6_fault_40
      · skip
        exact absurd c160 (by omega)
    · skip
      exact absurd c159 (by omega)

set_option maxRecDepth 100000 in
set_option maxHeartbeats 4000000 in
theorem c_faultX (l : Launch) (D : va_G) (cI cB cJ cS : ClassId) (hl9 : l.stackTraces = false) (x : Nat) (z : Int32) (hz : z < 0 ∨ nI 1 < z) : kX l yX6_fault vsX6_fault ({ frames := 6, cells := 1, slots := 6, locals := 82 }) D (kT cI cB cJ cS) [.ref x, .int z] [] "java/lang/IndexOutOfBoundsException" [] := by
  refine k_ofX (by decide) rfl (Nat.le_of_ble_eq_true rfl) ?_
  intro p e s m below meth c A ls hx hb hr hts hown hlocks hmn hml hA hP hK hD hS hZ hl hxt
  have F : CallFix p m c cX6_fault 2 s _ vsX6_fault RX6 := ⟨hx, hb, hml, hown, hts⟩
  have hl : lv_has ls 2 [(0, .ref x), (1, .int z)] := hl
  refine lv_iload_n hx hb dX6_fault_0 rfl (lv_at hl 1 rfl) ?_
  refine lv_if_lt (tgt := 9) hx hb dX6_fault_1 (by decide) (fun c1 => ?_) (fun c1 => ?_)
  · skip
    exact k_thr (own := RX6) (E := "java/lang/IndexOutOfBoundsException") (names := ["java/lang/RuntimeException", "java/lang/Exception"]) (text := "what is 0 or 1") hx hb hl9 hown (by decide +kernel) (by decide +kernel) (hts (.classLink RX6 87 "java/lang/IndexOutOfBoundsException") (List.mem_cons_of_mem _ wd_201)) (hts (.initialized "java/lang/IndexOutOfBoundsException") (List.mem_cons_of_mem _ wd_180)) (hZ.str (q := (RX6, 98, "what is 0 or 1")) (by decide +kernel)) (vx_hat (L := vx_atS RX6 91 "java/lang/IndexOutOfBoundsException" ["java/lang/RuntimeException", "java/lang/Exception"]) (B := [.castable "java/lang/IndexOutOfBoundsException" "java/lang/IndexOutOfBoundsException", .declares ⟨"java/lang/RuntimeException", "<init>", "(Ljava/lang/String;)V"⟩, .declares ⟨"java/lang/Exception", "<init>", "(Ljava/lang/String;)V"⟩, .declares ⟨"java/lang/Throwable", "<init>", "(Ljava/lang/String;)V"⟩]) (fun w hw => hts w (List.mem_cons_of_mem _ (atw_2 w hw))) (by decide +kernel) (vx_c (va_Nw.use rfl (hZ.nw (w := .castable "java/lang/IndexOutOfBoundsException" "java/lang/IndexOutOfBoundsException") (by decide +kernel))) (vx_c (va_Nw.use rfl (hZ.nw (w := .declares ⟨"java/lang/RuntimeException", "<init>", "(Ljava/lang/String;)V"⟩) (by decide +kernel))) (vx_c (va_Nw.use rfl (hZ.nw (w := .declares ⟨"java/lang/Exception", "<init>", "(Ljava/lang/String;)V"⟩) (by decide +kernel))) (vx_c (va_Nw.use rfl (hZ.nw (w := .declares ⟨"java/lang/Throwable", "<init>", "(Ljava/lang/String;)V"⟩) (by decide +kernel))) (vx_n)))))) (by decide +kernel) hZ hK hP hD hS (hl.1.trans hml.symm) dX6_fault_9 dX6_fault_12 dX6_fault_13 dX6_fault_15 dX6_fault_18 hxt (Nat.le_of_ble_eq_true rfl) (Nat.le_of_ble_eq_true rfl) (Nat.le_of_ble_eq_true rfl) (Nat.le_of_ble_eq_true rfl) hlocks (rfl) (Nat.le_of_ble_eq_true rfl) (Nat.le_of_ble_eq_true rfl)
  · skip
    refine lv_iload_n hx hb dX6_fault_4 rfl (lv_at hl 1 rfl) ?_
    refine lv_iconst (v := nI 1) hx hb dX6_fault_5 (by decide) ?_
    refine lv_icmp_le (tgt := 19) hx hb dX6_fault_6 (by decide) (fun c2 => ?_) (fun c2 => ?_)
    · skip
      exact absurd c2 (fun q => hz.elim c1 (fun r => absurd q (Int32.not_le.mpr r)))
    · skip
      exact k_thr (own := RX6) (E := "java/lang/IndexOutOfBoundsException") (names := ["java/lang/RuntimeException", "java/lang/Exception"]) (text := "what is 0 or 1") hx hb hl9 hown (by decide +kernel) (by decide +kernel) (hts (.classLink RX6 87 "java/lang/IndexOutOfBoundsException") (List.mem_cons_of_mem _ wd_201)) (hts (.initialized "java/lang/IndexOutOfBoundsException") (List.mem_cons_of_mem _ wd_180)) (hZ.str (q := (RX6, 98, "what is 0 or 1")) (by decide +kernel)) (vx_hat (L := vx_atS RX6 91 "java/lang/IndexOutOfBoundsException" ["java/lang/RuntimeException", "java/lang/Exception"]) (B := [.castable "java/lang/IndexOutOfBoundsException" "java/lang/IndexOutOfBoundsException", .declares ⟨"java/lang/RuntimeException", "<init>", "(Ljava/lang/String;)V"⟩, .declares ⟨"java/lang/Exception", "<init>", "(Ljava/lang/String;)V"⟩, .declares ⟨"java/lang/Throwable", "<init>", "(Ljava/lang/String;)V"⟩]) (fun w hw => hts w (List.mem_cons_of_mem _ (atw_2 w hw))) (by decide +kernel) (vx_c (va_Nw.use rfl (hZ.nw (w := .castable "java/lang/IndexOutOfBoundsException" "java/lang/IndexOutOfBoundsException") (by decide +kernel))) (vx_c (va_Nw.use rfl (hZ.nw (w := .declares ⟨"java/lang/RuntimeException", "<init>", "(Ljava/lang/String;)V"⟩) (by decide +kernel))) (vx_c (va_Nw.use rfl (hZ.nw (w := .declares ⟨"java/lang/Exception", "<init>", "(Ljava/lang/String;)V"⟩) (by decide +kernel))) (vx_c (va_Nw.use rfl (hZ.nw (w := .declares ⟨"java/lang/Throwable", "<init>", "(Ljava/lang/String;)V"⟩) (by decide +kernel))) (vx_n)))))) (by decide +kernel) hZ hK hP hD hS (hl.1.trans hml.symm) dX6_fault_9 dX6_fault_12 dX6_fault_13 dX6_fault_15 dX6_fault_18 hxt (Nat.le_of_ble_eq_true rfl) (Nat.le_of_ble_eq_true rfl) (Nat.le_of_ble_eq_true rfl) (Nat.le_of_ble_eq_true rfl) hlocks (rfl) (Nat.le_of_ble_eq_true rfl) (Nat.le_of_ble_eq_true rfl)

set_option maxRecDepth 100000 in
set_option maxHeartbeats 4000000 in
theorem c_again (l : Launch) (D : va_G) (cI cB cJ cS : ClassId) (x sa a rs rd wt : Nat) (ab n : Nat) (b : Nat → Nat) (rsb n2 : Nat) (b2 : Nat → Nat) (hn2 : n2 ≤ 65536)  : kM l yX6_again vsX6_again ({ frames := 2, cells := 0, slots := 0, locals := 42 }) D (kT cI cB cJ cS) [.ref x] [(x, .inr (4, [.ref sa, .ref a, .ref rs, .ref rd, .ref wt])), (a, .inr (1, [.ref ab, .int (nI n)])), (ab, .inl (cB, 65536, .inl (bF b))), (rs, .inr (1, [.ref rsb, .int (nI n2)])), (rsb, .inl (cB, 65536, .inl (bF b2)))] (kQi D (kT cI cB cJ cS) (fun r (ug : Unit) => r = nI n2) (fun ug => [(x, .inr (4, [.ref sa, .ref a, .ref rs, .ref rd, .ref wt])), (a, .inr (1, [.ref ab, .int (nI n2)])), (ab, .inl (cB, 65536, .inl (bF (va_cpy b2 b 0 0 n2)))), (rs, .inr (1, [.ref rsb, .int (nI n2)])), (rsb, .inl (cB, 65536, .inl (bF b2)))])) := by
  refine k_ofW (by decide) rfl (Nat.le_of_ble_eq_true rfl) ?_
  intro p e s m below meth c A ls hx hb hr hts hown hlocks hmn hml hA hP hK hD hS hZ hl
  have inX3 : ∀ w ∈ wsX30, w ∈ vsX6_again := fun w h => List.mem_cons_of_mem _ (iaX3 w h)
  have inX6 : ∀ w ∈ wsX60, w ∈ vsX6_again := fun w h => List.mem_cons_of_mem _ (iaX6 w h)
  have F : CallFix p m c cX6_again 1 s _ vsX6_again RX6 := ⟨hx, hb, hml, hown, hts⟩
  have hl : lv_has ls 1 [(0, .ref x)] := hl
  refine lv_aload_n hx hb dX6_again_0 rfl (lv_at hl 0 rfl) ?_
  refine va_get (D := D) (ci := 4) (v := .ref a) (C := RX6) (T := TX6) (N := 5) hx hb hts inX6 hown hK hP 0 rfl rfl 1 (by decide) (hts (.fieldLink RX6 21 "ByteShapes" "tape" "LByteShapes$Row;") (List.mem_cons_of_mem _ wd_202)) (fun _ h9 => h9) rfl dX6_again_1 ?_
  refine lv_aload_n hx hb dX6_again_4 rfl (lv_at hl 0 rfl) ?_
  refine va_get (D := D) (ci := 4) (v := .ref rs) (C := RX6) (T := TX6) (N := 5) hx hb hts inX6 hown hK hP 0 rfl rfl 2 (by decide) (hts (.fieldLink RX6 25 "ByteShapes" "result" "LByteShapes$Row;") (List.mem_cons_of_mem _ wd_234)) (fun _ h9 => h9) rfl dX6_again_5 ?_
  refine k_cv (wr := [(x, .inr (4, [.ref sa, .ref a, .ref rs, .ref rd, .ref wt]))]) (k_rv F (c_Row_become l D cI cB cJ cS a ab n b rs rsb n2 b2 hn2) (cwV 1 hts (g_V wd_235 wd_236 wd_237 wd_50 wd_238) rfl rfl rfl (by decide +kernel) ⟨Nat.le_of_ble_eq_true rfl, Nat.le_of_ble_eq_true rfl⟩) hK hP hD hS hA hZ [1, 2, 3, 4] rfl (by decide) 1 rfl rfl rfl rfl hl.1 rfl (Nat.le_of_ble_eq_true rfl) dX6_again_8 ⟨Nat.le_of_ble_eq_true rfl, Nat.le_of_ble_eq_true rfl⟩) hP hD hS hA [1, 2, 3, 4] [0] rfl rfl (by decide) (by decide) (fun u9 H locs hw hP hD hS => ?_)
  have hP : va_P D kCl [(x, .inr (4, [.ref sa, .ref a, .ref rs, .ref rd, .ref wt])), (a, .inr (1, [.ref ab, .int (nI n2)])), (ab, .inl (cB, 65536, .inl (bF (va_cpy b2 b 0 0 n2)))), (rs, .inr (1, [.ref rsb, .int (nI n2)])), (rsb, .inl (cB, 65536, .inl (bF b2)))] H := hP
  have hD : va_D A [(x, .inr (4, [.ref sa, .ref a, .ref rs, .ref rd, .ref wt])), (a, .inr (1, [.ref ab, .int (nI n2)])), (ab, .inl (cB, 65536, .inl (bF (va_cpy b2 b 0 0 n2)))), (rs, .inr (1, [.ref rsb, .int (nI n2)])), (rsb, .inl (cB, 65536, .inl (bF b2)))] := hD
  refine W.widen (k := 0) (n := 0) (Nat.le_of_ble_eq_true rfl) (Nat.le_of_ble_eq_true rfl) ?_
  refine lv_aload_n hx hb dX6_again_11 rfl (lv_at hl 0 rfl) ?_
  refine va_get (D := D) (ci := 4) (v := .ref a) (C := RX6) (T := TX6) (N := 5) hx hb hts inX6 hown hK hP 0 rfl rfl 1 (by decide) (hts (.fieldLink RX6 21 "ByteShapes" "tape" "LByteShapes$Row;") (List.mem_cons_of_mem _ wd_202)) (fun _ h9 => h9) rfl dX6_again_12 ?_
  refine k_ci (wr := [(x, .inr (4, [.ref sa, .ref a, .ref rs, .ref rd, .ref wt])), (rs, .inr (1, [.ref rsb, .int (nI n2)])), (rsb, .inl (cB, 65536, .inl (bF b2)))]) (k_rv F (c_Row_size l D cI cB cJ cS a ab (n2) (va_cpy b2 b 0 0 n2)) (cwV 0 hts (g_V wd_204 wd_48 wd_49 wd_50 wd_51) rfl rfl rfl (by decide +kernel) ⟨Nat.le_of_ble_eq_true rfl, Nat.le_of_ble_eq_true rfl⟩) hK hP hD hS hA hZ [1, 2] rfl (by decide) 1 rfl rfl rfl rfl hl.1 rfl (Nat.le_of_ble_eq_true rfl) dX6_again_15 ⟨Nat.le_of_ble_eq_true rfl, Nat.le_of_ble_eq_true rfl⟩) hP hD hS hA [1, 2] [0, 3, 4] rfl rfl (by decide) (by decide) (fun r u9 H locs hw hP hD hS => ?_)
  subst hw
  have hP : va_P D kCl [(x, .inr (4, [.ref sa, .ref a, .ref rs, .ref rd, .ref wt])), (rs, .inr (1, [.ref rsb, .int (nI n2)])), (rsb, .inl (cB, 65536, .inl (bF b2))), (a, .inr (1, [.ref ab, .int (nI n2)])), (ab, .inl (cB, 65536, .inl (bF (va_cpy b2 b 0 0 n2))))] H := hP
  have hD : va_D A [(x, .inr (4, [.ref sa, .ref a, .ref rs, .ref rd, .ref wt])), (rs, .inr (1, [.ref rsb, .int (nI n2)])), (rsb, .inl (cB, 65536, .inl (bF b2))), (a, .inr (1, [.ref ab, .int (nI n2)])), (ab, .inl (cB, 65536, .inl (bF (va_cpy b2 b 0 0 n2))))] := hD
  refine W.widen (k := 0) (n := 0) (Nat.le_of_ble_eq_true rfl) (Nat.le_of_ble_eq_true rfl) ?_
  have hP : va_P D kCl [(x, .inr (4, [.ref sa, .ref a, .ref rs, .ref rd, .ref wt])), (a, .inr (1, [.ref ab, .int (nI n2)])), (ab, .inl (cB, 65536, .inl (bF (va_cpy b2 b 0 0 n2)))), (rs, .inr (1, [.ref rsb, .int (nI n2)])), (rsb, .inl (cB, 65536, .inl (bF b2)))] H := hP.sub [0, 3, 4, 1, 2] rfl
  have hD : va_D A [(x, .inr (4, [.ref sa, .ref a, .ref rs, .ref rd, .ref wt])), (a, .inr (1, [.ref ab, .int (nI n2)])), (ab, .inl (cB, 65536, .inl (bF (va_cpy b2 b 0 0 n2)))), (rs, .inr (1, [.ref rsb, .int (nI n2)])), (rsb, .inl (cB, 65536, .inl (bF b2)))] := hD.sub [0, 3, 4, 1, 2] (by decide) rfl
  exact k_iret () hx hb hr (by first | rfl | decide | exact vp_nar_int _) hlocks hK hP hD hS (rfl) (rfl) (Nat.le_of_ble_eq_true rfl) (Nat.le_of_ble_eq_true rfl) dX6_again_18

set_option maxRecDepth 100000 in
set_option maxHeartbeats 4000000 in
theorem c_same (l : Launch) (D : va_G) (cI cB cJ cS : ClassId) (x sa a rs rd wt : Nat) (f : Nat → Option Nat) (k : Nat) (hk : k < 4) (sh sn sv PN pn VN vn : Nat) (pf : Nat → Nat) (fv : Nat → Int32) (hf : f k = some sh) (k2 sh2 sn2 sv2 pn2 vn2 : Nat) (pf2 : Nat → Nat) (fv2 : Nat → Int32) (hk2 : k2 < 4) (hf2 : f k2 = some sh2) (hPN : PN ≤ 4096) (hpn : pn ≤ PN) (hVN : VN ≤ 8192) (hvn : vn ≤ VN) (hpn2 : pn2 ≤ PN) (hvn2 : vn2 ≤ VN)  : kM l yX6_same vsX6_same ({ frames := 2, cells := 0, slots := 0, locals := 45 }) D (kT cI cB cJ cS) [.ref x, .int (nI k), .int (nI k2)] [(x, .inr (4, [.ref sa, .ref a, .ref rs, .ref rd, .ref wt])), (sa, .inl (cS, 4, .inr (.inr (.inr (.inr f))))), (sh, .inr (2, [.ref sn, .ref sv, .int (nI pn), .int (nI vn)])), (sn, .inl (cI, PN, .inl (iF pf))), (sv, .inl (cI, VN, .inl fv)), (sh2, .inr (2, [.ref sn2, .ref sv2, .int (nI pn2), .int (nI vn2)])), (sn2, .inl (cI, PN, .inl (iF pf2))), (sv2, .inl (cI, VN, .inl fv2))] (kQi D (kT cI cB cJ cS) (fun r (ug : Unit) => (r = nI 1 ∧ liken pn pn2 (iF pf) (iF pf2) vn vn2 fv fv2) ∨ (r = nI 0 ∧ ¬ liken pn pn2 (iF pf) (iF pf2) vn vn2 fv fv2)) (fun ug => [(x, .inr (4, [.ref sa, .ref a, .ref rs, .ref rd, .ref wt])), (sa, .inl (cS, 4, .inr (.inr (.inr (.inr f))))), (sh, .inr (2, [.ref sn, .ref sv, .int (nI pn), .int (nI vn)])), (sn, .inl (cI, PN, .inl (iF pf))), (sv, .inl (cI, VN, .inl fv)), (sh2, .inr (2, [.ref sn2, .ref sv2, .int (nI pn2), .int (nI vn2)])), (sn2, .inl (cI, PN, .inl (iF pf2))), (sv2, .inl (cI, VN, .inl fv2))])) := by
  refine k_ofW (by decide) rfl (Nat.le_of_ble_eq_true rfl) ?_
  intro p e s m below meth c A ls hx hb hr hts hown hlocks hmn hml hA hP hK hD hS hZ hl
  have inX4 : ∀ w ∈ wsX40, w ∈ vsX6_same := fun w h => List.mem_cons_of_mem _ (iaX4 w h)
  have inX6 : ∀ w ∈ wsX60, w ∈ vsX6_same := fun w h => List.mem_cons_of_mem _ (iaX6 w h)
  have F : CallFix p m c cX6_same 5 s _ vsX6_same RX6 := ⟨hx, hb, hml, hown, hts⟩
  have hl : lv_has ls 5 [(0, .ref x), (1, .int (nI k)), (2, .int (nI k2))] := hl
  refine lv_aload_n hx hb dX6_same_0 rfl (lv_at hl 0 rfl) ?_
  refine lv_iload_n hx hb dX6_same_1 rfl (lv_at hl 1 rfl) ?_
  refine k_cr (wr := [(sh, .inr (2, [.ref sn, .ref sv, .int (nI pn), .int (nI vn)])), (sn, .inl (cI, PN, .inl (iF pf))), (sv, .inl (cI, VN, .inl fv)), (sh2, .inr (2, [.ref sn2, .ref sv2, .int (nI pn2), .int (nI vn2)])), (sn2, .inl (cI, PN, .inl (iF pf2))), (sv2, .inl (cI, VN, .inl fv2))]) (k_rv F (c_shapeIn l D cI cB cJ cS x sa a rs rd wt f sh k hk hf) (cwV 1 hts (g_V wd_239 wd_240 wd_241 wd_8 wd_242) rfl rfl rfl (by decide +kernel) ⟨Nat.le_of_ble_eq_true rfl, Nat.le_of_ble_eq_true rfl⟩) hK hP hD hS hA hZ [0, 1] rfl (by decide) 0 rfl rfl rfl rfl hl.1 rfl (Nat.le_of_ble_eq_true rfl) dX6_same_2 ⟨Nat.le_of_ble_eq_true rfl, Nat.le_of_ble_eq_true rfl⟩) hP hD hS hA [0, 1] [2, 3, 4, 5, 6, 7] rfl rfl (by decide) (by decide) (fun r u9 H locs hw hP hD hS => ?_)
  subst hw
  have hP : va_P D kCl [(sh, .inr (2, [.ref sn, .ref sv, .int (nI pn), .int (nI vn)])), (sn, .inl (cI, PN, .inl (iF pf))), (sv, .inl (cI, VN, .inl fv)), (sh2, .inr (2, [.ref sn2, .ref sv2, .int (nI pn2), .int (nI vn2)])), (sn2, .inl (cI, PN, .inl (iF pf2))), (sv2, .inl (cI, VN, .inl fv2)), (x, .inr (4, [.ref sa, .ref a, .ref rs, .ref rd, .ref wt])), (sa, .inl (cS, 4, .inr (.inr (.inr (.inr f)))))] H := hP
  have hD : va_D A [(sh, .inr (2, [.ref sn, .ref sv, .int (nI pn), .int (nI vn)])), (sn, .inl (cI, PN, .inl (iF pf))), (sv, .inl (cI, VN, .inl fv)), (sh2, .inr (2, [.ref sn2, .ref sv2, .int (nI pn2), .int (nI vn2)])), (sn2, .inl (cI, PN, .inl (iF pf2))), (sv2, .inl (cI, VN, .inl fv2)), (x, .inr (4, [.ref sa, .ref a, .ref rs, .ref rd, .ref wt])), (sa, .inl (cS, 4, .inr (.inr (.inr (.inr f)))))] := hD
  refine W.widen (k := 0) (n := 0) (Nat.le_of_ble_eq_true rfl) (Nat.le_of_ble_eq_true rfl) ?_
  refine lv_astore_n (lv' := [(3, .ref sh), (0, .ref x), (1, .int (nI k)), (2, .int (nI k2))]) hx hb dX6_same_5 rfl hl (by decide) rfl (fun ls hl => ?_)
  refine lv_aload_n hx hb dX6_same_6 rfl (lv_at hl 1 rfl) ?_
  refine lv_iload_n hx hb dX6_same_7 rfl (lv_at hl 3 rfl) ?_
  refine k_cr (wr := [(sh, .inr (2, [.ref sn, .ref sv, .int (nI pn), .int (nI vn)])), (sn, .inl (cI, PN, .inl (iF pf))), (sv, .inl (cI, VN, .inl fv)), (sh2, .inr (2, [.ref sn2, .ref sv2, .int (nI pn2), .int (nI vn2)])), (sn2, .inl (cI, PN, .inl (iF pf2))), (sv2, .inl (cI, VN, .inl fv2))]) (k_rv F (c_shapeIn l D cI cB cJ cS x sa a rs rd wt f sh2 k2 hk2 hf2) (cwV 1 hts (g_V wd_239 wd_240 wd_241 wd_8 wd_242) rfl rfl rfl (by decide +kernel) ⟨Nat.le_of_ble_eq_true rfl, Nat.le_of_ble_eq_true rfl⟩) hK hP hD hS hA hZ [6, 7] rfl (by decide) 6 rfl rfl rfl rfl hl.1 rfl (Nat.le_of_ble_eq_true rfl) dX6_same_8 ⟨Nat.le_of_ble_eq_true rfl, Nat.le_of_ble_eq_true rfl⟩) hP hD hS hA [6, 7] [0, 1, 2, 3, 4, 5] rfl rfl (by decide) (by decide) (fun r u9 H locs hw hP hD hS => ?_)
  subst hw
  have hP : va_P D kCl [(sh, .inr (2, [.ref sn, .ref sv, .int (nI pn), .int (nI vn)])), (sn, .inl (cI, PN, .inl (iF pf))), (sv, .inl (cI, VN, .inl fv)), (sh2, .inr (2, [.ref sn2, .ref sv2, .int (nI pn2), .int (nI vn2)])), (sn2, .inl (cI, PN, .inl (iF pf2))), (sv2, .inl (cI, VN, .inl fv2)), (x, .inr (4, [.ref sa, .ref a, .ref rs, .ref rd, .ref wt])), (sa, .inl (cS, 4, .inr (.inr (.inr (.inr f)))))] H := hP
  have hD : va_D A [(sh, .inr (2, [.ref sn, .ref sv, .int (nI pn), .int (nI vn)])), (sn, .inl (cI, PN, .inl (iF pf))), (sv, .inl (cI, VN, .inl fv)), (sh2, .inr (2, [.ref sn2, .ref sv2, .int (nI pn2), .int (nI vn2)])), (sn2, .inl (cI, PN, .inl (iF pf2))), (sv2, .inl (cI, VN, .inl fv2)), (x, .inr (4, [.ref sa, .ref a, .ref rs, .ref rd, .ref wt])), (sa, .inl (cS, 4, .inr (.inr (.inr (.inr f)))))] := hD
  refine W.widen (k := 0) (n := 0) (Nat.le_of_ble_eq_true rfl) (Nat.le_of_ble_eq_true rfl) ?_
  refine lv_astore (lv' := [(4, .ref sh2), (3, .ref sh), (0, .ref x), (1, .int (nI k)), (2, .int (nI k2))]) hx hb dX6_same_11 hl (by decide) rfl (fun ls hl => ?_)
  refine lv_aload_n hx hb dX6_same_13 rfl (lv_at hl 1 rfl) ?_
  refine lv_aload hx hb dX6_same_14 (lv_at hl 0 rfl) ?_
  refine k_ci (wr := [(x, .inr (4, [.ref sa, .ref a, .ref rs, .ref rd, .ref wt])), (sa, .inl (cS, 4, .inr (.inr (.inr (.inr f)))))]) (k_rv F (c_Shape_isLike0 l D cI cB cJ cS sh sn sv PN pn VN vn pf fv sh2 sn2 sv2 PN pn2 VN vn2 pf2 fv2 hPN hpn hVN hvn hPN hpn2 hVN hvn2) (cwV 1 hts (g_V wd_243 wd_244 wd_245 wd_41 wd_246) rfl rfl rfl (by decide +kernel) ⟨Nat.le_of_ble_eq_true rfl, Nat.le_of_ble_eq_true rfl⟩) hK hP hD hS hA hZ [0, 1, 2, 3, 4, 5] rfl (by decide) 0 rfl rfl rfl rfl hl.1 rfl (Nat.le_of_ble_eq_true rfl) dX6_same_16 ⟨Nat.le_of_ble_eq_true rfl, Nat.le_of_ble_eq_true rfl⟩) hP hD hS hA [0, 1, 2, 3, 4, 5] [6, 7] rfl rfl (by decide) (by decide) (fun r u9 H locs hw hP hD hS => ?_)
  skip
  have hP : va_P D kCl [(x, .inr (4, [.ref sa, .ref a, .ref rs, .ref rd, .ref wt])), (sa, .inl (cS, 4, .inr (.inr (.inr (.inr f))))), (sh, .inr (2, [.ref sn, .ref sv, .int (nI pn), .int (nI vn)])), (sn, .inl (cI, PN, .inl (iF pf))), (sv, .inl (cI, VN, .inl fv)), (sh2, .inr (2, [.ref sn2, .ref sv2, .int (nI pn2), .int (nI vn2)])), (sn2, .inl (cI, PN, .inl (iF pf2))), (sv2, .inl (cI, VN, .inl fv2))] H := hP
  have hD : va_D A [(x, .inr (4, [.ref sa, .ref a, .ref rs, .ref rd, .ref wt])), (sa, .inl (cS, 4, .inr (.inr (.inr (.inr f))))), (sh, .inr (2, [.ref sn, .ref sv, .int (nI pn), .int (nI vn)])), (sn, .inl (cI, PN, .inl (iF pf))), (sv, .inl (cI, VN, .inl fv)), (sh2, .inr (2, [.ref sn2, .ref sv2, .int (nI pn2), .int (nI vn2)])), (sn2, .inl (cI, PN, .inl (iF pf2))), (sv2, .inl (cI, VN, .inl fv2))] := hD
  refine W.widen (k := 0) (n := 0) (Nat.le_of_ble_eq_true rfl) (Nat.le_of_ble_eq_true rfl) ?_
  exact k_iret () hx hb hr (by rcases hw with ⟨q, _⟩ | ⟨q, _⟩ <;> rw [q] <;> rfl) hlocks hK hP hD hS rfl hw (Nat.le_of_ble_eq_true rfl) (Nat.le_of_ble_eq_true rfl) dX6_same_19

set_option maxRecDepth 100000 in
set_option maxHeartbeats 4000000 in
theorem c_sameS (l : Launch) (D : va_G) (cI cB cJ cS : ClassId) (x sa a rs rd wt : Nat) (f : Nat → Option Nat) (k : Nat) (hk : k < 4) (sh sn sv PN pn VN vn : Nat) (pf : Nat → Nat) (fv : Nat → Int32) (hf : f k = some sh) (hPN : PN ≤ 4096) (hpn : pn ≤ PN) (hVN : VN ≤ 8192) (hvn : vn ≤ VN)  : kM l yX6_same vsX6_same ({ frames := 2, cells := 0, slots := 0, locals := 45 }) D (kT cI cB cJ cS) [.ref x, .int (nI k), .int (nI k)] [(x, .inr (4, [.ref sa, .ref a, .ref rs, .ref rd, .ref wt])), (sa, .inl (cS, 4, .inr (.inr (.inr (.inr f))))), (sh, .inr (2, [.ref sn, .ref sv, .int (nI pn), .int (nI vn)])), (sn, .inl (cI, PN, .inl (iF pf))), (sv, .inl (cI, VN, .inl fv))] (kQi D (kT cI cB cJ cS) (fun r (ug : Unit) => (r = nI 1 ∧ liken pn pn (iF pf) (iF pf) vn vn fv fv) ∨ (r = nI 0 ∧ ¬ liken pn pn (iF pf) (iF pf) vn vn fv fv)) (fun ug => [(x, .inr (4, [.ref sa, .ref a, .ref rs, .ref rd, .ref wt])), (sa, .inl (cS, 4, .inr (.inr (.inr (.inr f))))), (sh, .inr (2, [.ref sn, .ref sv, .int (nI pn), .int (nI vn)])), (sn, .inl (cI, PN, .inl (iF pf))), (sv, .inl (cI, VN, .inl fv))])) := by
  refine k_ofW (by decide) rfl (Nat.le_of_ble_eq_true rfl) ?_
  intro p e s m below meth c A ls hx hb hr hts hown hlocks hmn hml hA hP hK hD hS hZ hl
  have inX4 : ∀ w ∈ wsX40, w ∈ vsX6_same := fun w h => List.mem_cons_of_mem _ (iaX4 w h)
  have inX6 : ∀ w ∈ wsX60, w ∈ vsX6_same := fun w h => List.mem_cons_of_mem _ (iaX6 w h)
  have F : CallFix p m c cX6_same 5 s _ vsX6_same RX6 := ⟨hx, hb, hml, hown, hts⟩
  have hl : lv_has ls 5 [(0, .ref x), (1, .int (nI k)), (2, .int (nI k))] := hl
  refine lv_aload_n hx hb dX6_same_0 rfl (lv_at hl 0 rfl) ?_
  refine lv_iload_n hx hb dX6_same_1 rfl (lv_at hl 1 rfl) ?_
  refine k_cr (wr := [(sh, .inr (2, [.ref sn, .ref sv, .int (nI pn), .int (nI vn)])), (sn, .inl (cI, PN, .inl (iF pf))), (sv, .inl (cI, VN, .inl fv))]) (k_rv F (c_shapeIn l D cI cB cJ cS x sa a rs rd wt f sh k hk hf) (cwV 1 hts (g_V wd_239 wd_240 wd_241 wd_8 wd_242) rfl rfl rfl (by decide +kernel) ⟨Nat.le_of_ble_eq_true rfl, Nat.le_of_ble_eq_true rfl⟩) hK hP hD hS hA hZ [0, 1] rfl (by decide) 0 rfl rfl rfl rfl hl.1 rfl (Nat.le_of_ble_eq_true rfl) dX6_same_2 ⟨Nat.le_of_ble_eq_true rfl, Nat.le_of_ble_eq_true rfl⟩) hP hD hS hA [0, 1] [2, 3, 4] rfl rfl (by decide) (by decide) (fun r u9 H locs hw hP hD hS => ?_)
  subst hw
  have hP : va_P D kCl [(sh, .inr (2, [.ref sn, .ref sv, .int (nI pn), .int (nI vn)])), (sn, .inl (cI, PN, .inl (iF pf))), (sv, .inl (cI, VN, .inl fv)), (x, .inr (4, [.ref sa, .ref a, .ref rs, .ref rd, .ref wt])), (sa, .inl (cS, 4, .inr (.inr (.inr (.inr f)))))] H := hP
  have hD : va_D A [(sh, .inr (2, [.ref sn, .ref sv, .int (nI pn), .int (nI vn)])), (sn, .inl (cI, PN, .inl (iF pf))), (sv, .inl (cI, VN, .inl fv)), (x, .inr (4, [.ref sa, .ref a, .ref rs, .ref rd, .ref wt])), (sa, .inl (cS, 4, .inr (.inr (.inr (.inr f)))))] := hD
  refine W.widen (k := 0) (n := 0) (Nat.le_of_ble_eq_true rfl) (Nat.le_of_ble_eq_true rfl) ?_
  refine lv_astore_n (lv' := [(3, .ref sh), (0, .ref x), (1, .int (nI k)), (2, .int (nI k))]) hx hb dX6_same_5 rfl hl (by decide) rfl (fun ls hl => ?_)
  refine lv_aload_n hx hb dX6_same_6 rfl (lv_at hl 1 rfl) ?_
  refine lv_iload_n hx hb dX6_same_7 rfl (lv_at hl 3 rfl) ?_
  refine k_cr (wr := [(sh, .inr (2, [.ref sn, .ref sv, .int (nI pn), .int (nI vn)])), (sn, .inl (cI, PN, .inl (iF pf))), (sv, .inl (cI, VN, .inl fv))]) (k_rv F (c_shapeIn l D cI cB cJ cS x sa a rs rd wt f sh k hk hf) (cwV 1 hts (g_V wd_239 wd_240 wd_241 wd_8 wd_242) rfl rfl rfl (by decide +kernel) ⟨Nat.le_of_ble_eq_true rfl, Nat.le_of_ble_eq_true rfl⟩) hK hP hD hS hA hZ [3, 4] rfl (by decide) 3 rfl rfl rfl rfl hl.1 rfl (Nat.le_of_ble_eq_true rfl) dX6_same_8 ⟨Nat.le_of_ble_eq_true rfl, Nat.le_of_ble_eq_true rfl⟩) hP hD hS hA [3, 4] [0, 1, 2] rfl rfl (by decide) (by decide) (fun r u9 H locs hw hP hD hS => ?_)
  subst hw
  have hP : va_P D kCl [(sh, .inr (2, [.ref sn, .ref sv, .int (nI pn), .int (nI vn)])), (sn, .inl (cI, PN, .inl (iF pf))), (sv, .inl (cI, VN, .inl fv)), (x, .inr (4, [.ref sa, .ref a, .ref rs, .ref rd, .ref wt])), (sa, .inl (cS, 4, .inr (.inr (.inr (.inr f)))))] H := hP
  have hD : va_D A [(sh, .inr (2, [.ref sn, .ref sv, .int (nI pn), .int (nI vn)])), (sn, .inl (cI, PN, .inl (iF pf))), (sv, .inl (cI, VN, .inl fv)), (x, .inr (4, [.ref sa, .ref a, .ref rs, .ref rd, .ref wt])), (sa, .inl (cS, 4, .inr (.inr (.inr (.inr f)))))] := hD
  refine W.widen (k := 0) (n := 0) (Nat.le_of_ble_eq_true rfl) (Nat.le_of_ble_eq_true rfl) ?_
  refine lv_astore (lv' := [(4, .ref sh), (3, .ref sh), (0, .ref x), (1, .int (nI k)), (2, .int (nI k))]) hx hb dX6_same_11 hl (by decide) rfl (fun ls hl => ?_)
  refine lv_aload_n hx hb dX6_same_13 rfl (lv_at hl 1 rfl) ?_
  refine lv_aload hx hb dX6_same_14 (lv_at hl 0 rfl) ?_
  refine k_ci (wr := [(x, .inr (4, [.ref sa, .ref a, .ref rs, .ref rd, .ref wt])), (sa, .inl (cS, 4, .inr (.inr (.inr (.inr f)))))]) (k_rv F (c_Shape_isLike1 l D cI cB cJ cS sh sn sv PN pn VN vn pf fv hPN hpn hVN hvn) (cwV 1 hts (g_V wd_243 wd_244 wd_245 wd_41 wd_246) rfl rfl rfl (by decide +kernel) ⟨Nat.le_of_ble_eq_true rfl, Nat.le_of_ble_eq_true rfl⟩) hK hP hD hS hA hZ [0, 1, 2] rfl (by decide) 0 rfl rfl rfl rfl hl.1 rfl (Nat.le_of_ble_eq_true rfl) dX6_same_16 ⟨Nat.le_of_ble_eq_true rfl, Nat.le_of_ble_eq_true rfl⟩) hP hD hS hA [0, 1, 2] [3, 4] rfl rfl (by decide) (by decide) (fun r u9 H locs hw hP hD hS => ?_)
  skip
  have hP : va_P D kCl [(x, .inr (4, [.ref sa, .ref a, .ref rs, .ref rd, .ref wt])), (sa, .inl (cS, 4, .inr (.inr (.inr (.inr f))))), (sh, .inr (2, [.ref sn, .ref sv, .int (nI pn), .int (nI vn)])), (sn, .inl (cI, PN, .inl (iF pf))), (sv, .inl (cI, VN, .inl fv))] H := hP
  have hD : va_D A [(x, .inr (4, [.ref sa, .ref a, .ref rs, .ref rd, .ref wt])), (sa, .inl (cS, 4, .inr (.inr (.inr (.inr f))))), (sh, .inr (2, [.ref sn, .ref sv, .int (nI pn), .int (nI vn)])), (sn, .inl (cI, PN, .inl (iF pf))), (sv, .inl (cI, VN, .inl fv))] := hD
  refine W.widen (k := 0) (n := 0) (Nat.le_of_ble_eq_true rfl) (Nat.le_of_ble_eq_true rfl) ?_
  exact k_iret () hx hb hr (by rcases hw with ⟨q, _⟩ | ⟨q, _⟩ <;> rw [q] <;> rfl) hlocks hK hP hD hS rfl hw (Nat.le_of_ble_eq_true rfl) (Nat.le_of_ble_eq_true rfl) dX6_same_19

set_option maxRecDepth 100000 in
set_option maxHeartbeats 4000000 in
theorem c_sameX1 (l : Launch) (D : va_G) (cI cB cJ cS : ClassId) (hl9 : l.stackTraces = false) (x sa a rs rd wt : Nat) (z : Int32) (hz : z < 0 ∨ nI 4 ≤ z) (z2 : Int32) : kX l yX6_same vsX6_same ({ frames := 7, cells := 1, slots := 6, locals := 103 }) D (kT cI cB cJ cS) [.ref x, .int z, .int z2] [(x, .inr (4, [.ref sa, .ref a, .ref rs, .ref rd, .ref wt]))] "java/lang/IndexOutOfBoundsException" [(x, .inr (4, [.ref sa, .ref a, .ref rs, .ref rd, .ref wt]))] := by
  refine k_ofX (by decide) rfl (Nat.le_of_ble_eq_true rfl) ?_
  intro p e s m below meth c A ls hx hb hr hts hown hlocks hmn hml hA hP hK hD hS hZ hl hxt
  have inX6 : ∀ w ∈ wsX60, w ∈ vsX6_same := fun w h => List.mem_cons_of_mem _ (iaX6 w h)
  have F : CallFix p m c cX6_same 5 s _ vsX6_same RX6 := ⟨hx, hb, hml, hown, hts⟩
  have hl : lv_has ls 5 [(0, .ref x), (1, .int z), (2, .int z2)] := hl
  refine lv_aload_n hx hb dX6_same_0 rfl (lv_at hl 0 rfl) ?_
  refine lv_iload_n hx hb dX6_same_1 rfl (lv_at hl 1 rfl) ?_
  refine k_cx (wr := [(x, .inr (4, [.ref sa, .ref a, .ref rs, .ref rd, .ref wt]))]) (k_rvX F (c_shapeInX l D cI cB cJ cS hl9 x z hz) (cwV 1 hts (g_V wd_239 wd_240 wd_241 wd_8 wd_242) rfl rfl rfl (by decide +kernel) ⟨Nat.le_of_ble_eq_true rfl, Nat.le_of_ble_eq_true rfl⟩) hK hP hD hS hA hZ [] rfl (by decide) 0 rfl rfl rfl rfl hl.1 rfl (Nat.le_of_ble_eq_true rfl) dX6_same_2 ⟨Nat.le_of_ble_eq_true rfl, Nat.le_of_ble_eq_true rfl⟩) hP hD hS hA [] [0] rfl rfl (by decide) (by decide) (fun q9 ce H locs hP hD hS hce hcv hcl => ?_)
  have hP : va_P D kCl [(x, .inr (4, [.ref sa, .ref a, .ref rs, .ref rd, .ref wt]))] H := hP
  have hD : va_D A [(x, .inr (4, [.ref sa, .ref a, .ref rs, .ref rd, .ref wt]))] := hD
  exact vx_widen (k := 1) (n := 6) (Nat.le_of_ble_eq_true rfl) (Nat.le_of_ble_eq_true rfl) (k_out hxt hlocks hce hcv hcl hK hP hD hS (rfl) (Nat.le_of_ble_eq_true rfl) (Nat.le_of_ble_eq_true rfl))

set_option maxRecDepth 100000 in
set_option maxHeartbeats 4000000 in
theorem c_plan (l : Launch) (D : va_G) (cI cB cJ cS : ClassId) (x sa a rs rd wt : Nat) (f : Nat → Option Nat) (k : Nat) (hk : k < 4) (sh sn sv PN pn VN vn : Nat) (pf : Nat → Nat) (fv : Nat → Int32) (hf : f k = some sh) (hPN : PN ≤ 4096) (hpn : pn ≤ PN) (hVN : VN ≤ 8192) (hvn : vn ≤ VN) (j : Nat) (hj : j < pn)  : kM l yX6_plan vsX6_plan ({ frames := 2, cells := 0, slots := 0, locals := 41 }) D (kT cI cB cJ cS) [.ref x, .int (nI k), .int (nI j)] [(x, .inr (4, [.ref sa, .ref a, .ref rs, .ref rd, .ref wt])), (sa, .inl (cS, 4, .inr (.inr (.inr (.inr f))))), (sh, .inr (2, [.ref sn, .ref sv, .int (nI pn), .int (nI vn)])), (sn, .inl (cI, PN, .inl (iF pf))), (sv, .inl (cI, VN, .inl fv))] (kQi D (kT cI cB cJ cS) (fun r (ug : Unit) => r = nI (pf j)) (fun ug => [(x, .inr (4, [.ref sa, .ref a, .ref rs, .ref rd, .ref wt])), (sa, .inl (cS, 4, .inr (.inr (.inr (.inr f))))), (sh, .inr (2, [.ref sn, .ref sv, .int (nI pn), .int (nI vn)])), (sn, .inl (cI, PN, .inl (iF pf))), (sv, .inl (cI, VN, .inl fv))])) := by
  refine k_ofW (by decide) rfl (Nat.le_of_ble_eq_true rfl) ?_
  intro p e s m below meth c A ls hx hb hr hts hown hlocks hmn hml hA hP hK hD hS hZ hl
  have inX4 : ∀ w ∈ wsX40, w ∈ vsX6_plan := fun w h => List.mem_cons_of_mem _ (iaX4 w h)
  have inX6 : ∀ w ∈ wsX60, w ∈ vsX6_plan := fun w h => List.mem_cons_of_mem _ (iaX6 w h)
  have F : CallFix p m c cX6_plan 3 s _ vsX6_plan RX6 := ⟨hx, hb, hml, hown, hts⟩
  have hl : lv_has ls 3 [(0, .ref x), (1, .int (nI k)), (2, .int (nI j))] := hl
  refine lv_aload_n hx hb dX6_plan_0 rfl (lv_at hl 0 rfl) ?_
  refine lv_iload_n hx hb dX6_plan_1 rfl (lv_at hl 1 rfl) ?_
  refine k_cr (wr := [(sh, .inr (2, [.ref sn, .ref sv, .int (nI pn), .int (nI vn)])), (sn, .inl (cI, PN, .inl (iF pf))), (sv, .inl (cI, VN, .inl fv))]) (k_rv F (c_shapeIn l D cI cB cJ cS x sa a rs rd wt f sh k hk hf) (cwV 1 hts (g_V wd_239 wd_240 wd_241 wd_8 wd_242) rfl rfl rfl (by decide +kernel) ⟨Nat.le_of_ble_eq_true rfl, Nat.le_of_ble_eq_true rfl⟩) hK hP hD hS hA hZ [0, 1] rfl (by decide) 0 rfl rfl rfl rfl hl.1 rfl (Nat.le_of_ble_eq_true rfl) dX6_plan_2 ⟨Nat.le_of_ble_eq_true rfl, Nat.le_of_ble_eq_true rfl⟩) hP hD hS hA [0, 1] [2, 3, 4] rfl rfl (by decide) (by decide) (fun r u9 H locs hw hP hD hS => ?_)
  subst hw
  have hP : va_P D kCl [(sh, .inr (2, [.ref sn, .ref sv, .int (nI pn), .int (nI vn)])), (sn, .inl (cI, PN, .inl (iF pf))), (sv, .inl (cI, VN, .inl fv)), (x, .inr (4, [.ref sa, .ref a, .ref rs, .ref rd, .ref wt])), (sa, .inl (cS, 4, .inr (.inr (.inr (.inr f)))))] H := hP
  have hD : va_D A [(sh, .inr (2, [.ref sn, .ref sv, .int (nI pn), .int (nI vn)])), (sn, .inl (cI, PN, .inl (iF pf))), (sv, .inl (cI, VN, .inl fv)), (x, .inr (4, [.ref sa, .ref a, .ref rs, .ref rd, .ref wt])), (sa, .inl (cS, 4, .inr (.inr (.inr (.inr f)))))] := hD
  refine W.widen (k := 0) (n := 0) (Nat.le_of_ble_eq_true rfl) (Nat.le_of_ble_eq_true rfl) ?_
  refine lv_iload_n hx hb dX6_plan_5 rfl (lv_at hl 2 rfl) ?_
  refine k_ci (wr := [(x, .inr (4, [.ref sa, .ref a, .ref rs, .ref rd, .ref wt])), (sa, .inl (cS, 4, .inr (.inr (.inr (.inr f)))))]) (k_rv F (c_Shape_planAt l D cI cB cJ cS sh sn sv PN pn VN vn pf fv hPN hpn j hj) (cwV 1 hts (g_V wd_222 wd_223 wd_224 wd_41 wd_225) rfl rfl rfl (by decide +kernel) ⟨Nat.le_of_ble_eq_true rfl, Nat.le_of_ble_eq_true rfl⟩) hK hP hD hS hA hZ [0, 1, 2] rfl (by decide) 0 rfl rfl rfl rfl hl.1 rfl (Nat.le_of_ble_eq_true rfl) dX6_plan_6 ⟨Nat.le_of_ble_eq_true rfl, Nat.le_of_ble_eq_true rfl⟩) hP hD hS hA [0, 1, 2] [3, 4] rfl rfl (by decide) (by decide) (fun r u9 H locs hw hP hD hS => ?_)
  subst hw
  have hP : va_P D kCl [(x, .inr (4, [.ref sa, .ref a, .ref rs, .ref rd, .ref wt])), (sa, .inl (cS, 4, .inr (.inr (.inr (.inr f))))), (sh, .inr (2, [.ref sn, .ref sv, .int (nI pn), .int (nI vn)])), (sn, .inl (cI, PN, .inl (iF pf))), (sv, .inl (cI, VN, .inl fv))] H := hP
  have hD : va_D A [(x, .inr (4, [.ref sa, .ref a, .ref rs, .ref rd, .ref wt])), (sa, .inl (cS, 4, .inr (.inr (.inr (.inr f))))), (sh, .inr (2, [.ref sn, .ref sv, .int (nI pn), .int (nI vn)])), (sn, .inl (cI, PN, .inl (iF pf))), (sv, .inl (cI, VN, .inl fv))] := hD
  refine W.widen (k := 0) (n := 0) (Nat.le_of_ble_eq_true rfl) (Nat.le_of_ble_eq_true rfl) ?_
  exact k_iret () hx hb hr (by first | rfl | decide | exact vp_nar_int _) hlocks hK hP hD hS (rfl) (rfl) (Nat.le_of_ble_eq_true rfl) (Nat.le_of_ble_eq_true rfl) dX6_plan_9

set_option maxRecDepth 100000 in
set_option maxHeartbeats 4000000 in
theorem c_ordinate (l : Launch) (D : va_G) (cI cB cJ cS : ClassId) (x sa a rs rd wt : Nat) (f : Nat → Option Nat) (k : Nat) (hk : k < 4) (sh sn sv PN pn VN vn : Nat) (pf : Nat → Nat) (fv : Nat → Int32) (hf : f k = some sh) (hPN : PN ≤ 4096) (hpn : pn ≤ PN) (hVN : VN ≤ 8192) (hvn : vn ≤ VN) (j w : Nat) (hj : j < vn / 2) (hw2 : w < 2)  : kM l yX6_ordinate vsX6_ordinate ({ frames := 2, cells := 0, slots := 0, locals := 42 }) D (kT cI cB cJ cS) [.ref x, .int (nI k), .int (nI j), .int (nI w)] [(x, .inr (4, [.ref sa, .ref a, .ref rs, .ref rd, .ref wt])), (sa, .inl (cS, 4, .inr (.inr (.inr (.inr f))))), (sh, .inr (2, [.ref sn, .ref sv, .int (nI pn), .int (nI vn)])), (sn, .inl (cI, PN, .inl (iF pf))), (sv, .inl (cI, VN, .inl fv))] (kQi D (kT cI cB cJ cS) (fun r (ug : Unit) => r = fv (2 * j + w)) (fun ug => [(x, .inr (4, [.ref sa, .ref a, .ref rs, .ref rd, .ref wt])), (sa, .inl (cS, 4, .inr (.inr (.inr (.inr f))))), (sh, .inr (2, [.ref sn, .ref sv, .int (nI pn), .int (nI vn)])), (sn, .inl (cI, PN, .inl (iF pf))), (sv, .inl (cI, VN, .inl fv))])) := by
  refine k_ofW (by decide) rfl (Nat.le_of_ble_eq_true rfl) ?_
  intro p e s m below meth c A ls hx hb hr hts hown hlocks hmn hml hA hP hK hD hS hZ hl
  have inX4 : ∀ w ∈ wsX40, w ∈ vsX6_ordinate := fun w h => List.mem_cons_of_mem _ (iaX4 w h)
  have inX6 : ∀ w ∈ wsX60, w ∈ vsX6_ordinate := fun w h => List.mem_cons_of_mem _ (iaX6 w h)
  have F : CallFix p m c cX6_ordinate 4 s _ vsX6_ordinate RX6 := ⟨hx, hb, hml, hown, hts⟩
  have hl : lv_has ls 4 [(0, .ref x), (1, .int (nI k)), (2, .int (nI j)), (3, .int (nI w))] := hl
  refine lv_aload_n hx hb dX6_ordinate_0 rfl (lv_at hl 0 rfl) ?_
  refine lv_iload_n hx hb dX6_ordinate_1 rfl (lv_at hl 1 rfl) ?_
  refine k_cr (wr := [(sh, .inr (2, [.ref sn, .ref sv, .int (nI pn), .int (nI vn)])), (sn, .inl (cI, PN, .inl (iF pf))), (sv, .inl (cI, VN, .inl fv))]) (k_rv F (c_shapeIn l D cI cB cJ cS x sa a rs rd wt f sh k hk hf) (cwV 1 hts (g_V wd_239 wd_240 wd_241 wd_8 wd_242) rfl rfl rfl (by decide +kernel) ⟨Nat.le_of_ble_eq_true rfl, Nat.le_of_ble_eq_true rfl⟩) hK hP hD hS hA hZ [0, 1] rfl (by decide) 0 rfl rfl rfl rfl hl.1 rfl (Nat.le_of_ble_eq_true rfl) dX6_ordinate_2 ⟨Nat.le_of_ble_eq_true rfl, Nat.le_of_ble_eq_true rfl⟩) hP hD hS hA [0, 1] [2, 3, 4] rfl rfl (by decide) (by decide) (fun r u9 H locs hw hP hD hS => ?_)
  subst hw
  have hP : va_P D kCl [(sh, .inr (2, [.ref sn, .ref sv, .int (nI pn), .int (nI vn)])), (sn, .inl (cI, PN, .inl (iF pf))), (sv, .inl (cI, VN, .inl fv)), (x, .inr (4, [.ref sa, .ref a, .ref rs, .ref rd, .ref wt])), (sa, .inl (cS, 4, .inr (.inr (.inr (.inr f)))))] H := hP
  have hD : va_D A [(sh, .inr (2, [.ref sn, .ref sv, .int (nI pn), .int (nI vn)])), (sn, .inl (cI, PN, .inl (iF pf))), (sv, .inl (cI, VN, .inl fv)), (x, .inr (4, [.ref sa, .ref a, .ref rs, .ref rd, .ref wt])), (sa, .inl (cS, 4, .inr (.inr (.inr (.inr f)))))] := hD
  refine W.widen (k := 0) (n := 0) (Nat.le_of_ble_eq_true rfl) (Nat.le_of_ble_eq_true rfl) ?_
  refine lv_iload_n hx hb dX6_ordinate_5 rfl (lv_at hl 2 rfl) ?_
  refine lv_iload_n hx hb dX6_ordinate_6 rfl (lv_at hl 3 rfl) ?_
  refine k_ci (wr := [(x, .inr (4, [.ref sa, .ref a, .ref rs, .ref rd, .ref wt])), (sa, .inl (cS, 4, .inr (.inr (.inr (.inr f)))))]) (k_rv F (c_Shape_valueOfPoint l D cI cB cJ cS sh sn sv PN pn VN vn pf fv hVN hvn j w hj hw2) (cwV 2 hts (g_V wd_247 wd_248 wd_249 wd_41 wd_250) rfl rfl rfl (by decide +kernel) ⟨Nat.le_of_ble_eq_true rfl, Nat.le_of_ble_eq_true rfl⟩) hK hP hD hS hA hZ [0, 1, 2] rfl (by decide) 0 rfl rfl rfl rfl hl.1 rfl (Nat.le_of_ble_eq_true rfl) dX6_ordinate_7 ⟨Nat.le_of_ble_eq_true rfl, Nat.le_of_ble_eq_true rfl⟩) hP hD hS hA [0, 1, 2] [3, 4] rfl rfl (by decide) (by decide) (fun r u9 H locs hw hP hD hS => ?_)
  subst hw
  have hP : va_P D kCl [(x, .inr (4, [.ref sa, .ref a, .ref rs, .ref rd, .ref wt])), (sa, .inl (cS, 4, .inr (.inr (.inr (.inr f))))), (sh, .inr (2, [.ref sn, .ref sv, .int (nI pn), .int (nI vn)])), (sn, .inl (cI, PN, .inl (iF pf))), (sv, .inl (cI, VN, .inl fv))] H := hP
  have hD : va_D A [(x, .inr (4, [.ref sa, .ref a, .ref rs, .ref rd, .ref wt])), (sa, .inl (cS, 4, .inr (.inr (.inr (.inr f))))), (sh, .inr (2, [.ref sn, .ref sv, .int (nI pn), .int (nI vn)])), (sn, .inl (cI, PN, .inl (iF pf))), (sv, .inl (cI, VN, .inl fv))] := hD
  refine W.widen (k := 0) (n := 0) (Nat.le_of_ble_eq_true rfl) (Nat.le_of_ble_eq_true rfl) ?_
  exact k_iret () hx hb hr (by first | rfl | decide | exact vp_nar_int _) hlocks hK hP hD hS (rfl) (rfl) (Nat.le_of_ble_eq_true rfl) (Nat.le_of_ble_eq_true rfl) dX6_ordinate_10

set_option maxRecDepth 100000 in
set_option maxHeartbeats 4000000 in
theorem c_byteAt (l : Launch) (D : va_G) (cI cB cJ cS : ClassId) (x sa a rs rd wt : Nat) (rsb n2 : Nat) (b2 : Nat → Nat) (j : Nat) (hj : j < n2) (hn2 : n2 ≤ 65536) (hb256 : ∀ j, b2 j < 256)  : kM l yX6_byteAt vsX6_byteAt ({ frames := 1, cells := 0, slots := 0, locals := 21 }) D (kT cI cB cJ cS) [.ref x, .int (nI j)] [(x, .inr (4, [.ref sa, .ref a, .ref rs, .ref rd, .ref wt])), (rs, .inr (1, [.ref rsb, .int (nI n2)])), (rsb, .inl (cB, 65536, .inl (bF b2)))] (kQi D (kT cI cB cJ cS) (fun r (ug : Unit) => r = nI (b2 j)) (fun ug => [(x, .inr (4, [.ref sa, .ref a, .ref rs, .ref rd, .ref wt])), (rs, .inr (1, [.ref rsb, .int (nI n2)])), (rsb, .inl (cB, 65536, .inl (bF b2)))])) := by
  refine k_ofW (by decide) rfl (Nat.le_of_ble_eq_true rfl) ?_
  intro p e s m below meth c A ls hx hb hr hts hown hlocks hmn hml hA hP hK hD hS hZ hl
  have inX3 : ∀ w ∈ wsX30, w ∈ vsX6_byteAt := fun w h => List.mem_cons_of_mem _ (iaX3 w h)
  have inX6 : ∀ w ∈ wsX60, w ∈ vsX6_byteAt := fun w h => List.mem_cons_of_mem _ (iaX6 w h)
  have F : CallFix p m c cX6_byteAt 2 s _ vsX6_byteAt RX6 := ⟨hx, hb, hml, hown, hts⟩
  have hl : lv_has ls 2 [(0, .ref x), (1, .int (nI j))] := hl
  refine lv_aload_n hx hb dX6_byteAt_0 rfl (lv_at hl 0 rfl) ?_
  refine va_get (D := D) (ci := 4) (v := .ref rs) (C := RX6) (T := TX6) (N := 5) hx hb hts inX6 hown hK hP 0 rfl rfl 2 (by decide) (hts (.fieldLink RX6 25 "ByteShapes" "result" "LByteShapes$Row;") (List.mem_cons_of_mem _ wd_234)) (fun _ h9 => h9) rfl dX6_byteAt_1 ?_
  refine lv_iload_n hx hb dX6_byteAt_4 rfl (lv_at hl 1 rfl) ?_
  refine k_ci (wr := [(x, .inr (4, [.ref sa, .ref a, .ref rs, .ref rd, .ref wt]))]) (k_rv F (c_Row_valueAt l D cI cB cJ cS rs rsb n2 b2 j hj hn2 hb256) (cwV 1 hts (g_V wd_251 wd_70 wd_71 wd_50 wd_72) rfl rfl rfl (by decide +kernel) ⟨Nat.le_of_ble_eq_true rfl, Nat.le_of_ble_eq_true rfl⟩) hK hP hD hS hA hZ [1, 2] rfl (by decide) 1 rfl rfl rfl rfl hl.1 rfl (Nat.le_of_ble_eq_true rfl) dX6_byteAt_5 ⟨Nat.le_of_ble_eq_true rfl, Nat.le_of_ble_eq_true rfl⟩) hP hD hS hA [1, 2] [0] rfl rfl (by decide) (by decide) (fun r u9 H locs hw hP hD hS => ?_)
  subst hw
  have hP : va_P D kCl [(x, .inr (4, [.ref sa, .ref a, .ref rs, .ref rd, .ref wt])), (rs, .inr (1, [.ref rsb, .int (nI n2)])), (rsb, .inl (cB, 65536, .inl (bF b2)))] H := hP
  have hD : va_D A [(x, .inr (4, [.ref sa, .ref a, .ref rs, .ref rd, .ref wt])), (rs, .inr (1, [.ref rsb, .int (nI n2)])), (rsb, .inl (cB, 65536, .inl (bF b2)))] := hD
  refine W.widen (k := 0) (n := 0) (Nat.le_of_ble_eq_true rfl) (Nat.le_of_ble_eq_true rfl) ?_
  exact k_iret () hx hb hr (by first | rfl | decide | exact vp_nar_int _) hlocks hK hP hD hS (rfl) (rfl) (Nat.le_of_ble_eq_true rfl) (Nat.le_of_ble_eq_true rfl) dX6_byteAt_8

set_option maxRecDepth 100000 in
set_option maxHeartbeats 4000000 in
theorem c_byteAtX (l : Launch) (D : va_G) (cI cB cJ cS : ClassId) (hl9 : l.stackTraces = false) (x sa a rs rd wt : Nat) (rsb n2 : Nat) (b2 : Nat → Nat) (z : Int32) (hz : z < 0 ∨ nI n2 ≤ z) : kX l yX6_byteAt vsX6_byteAt ({ frames := 7, cells := 1, slots := 6, locals := 103 }) D (kT cI cB cJ cS) [.ref x, .int z] [(x, .inr (4, [.ref sa, .ref a, .ref rs, .ref rd, .ref wt])), (rs, .inr (1, [.ref rsb, .int (nI n2)])), (rsb, .inl (cB, 65536, .inl (bF b2)))] "java/lang/IndexOutOfBoundsException" [(x, .inr (4, [.ref sa, .ref a, .ref rs, .ref rd, .ref wt])), (rs, .inr (1, [.ref rsb, .int (nI n2)])), (rsb, .inl (cB, 65536, .inl (bF b2)))] := by
  refine k_ofX (by decide) rfl (Nat.le_of_ble_eq_true rfl) ?_
  intro p e s m below meth c A ls hx hb hr hts hown hlocks hmn hml hA hP hK hD hS hZ hl hxt
  have inX3 : ∀ w ∈ wsX30, w ∈ vsX6_byteAt := fun w h => List.mem_cons_of_mem _ (iaX3 w h)
  have inX6 : ∀ w ∈ wsX60, w ∈ vsX6_byteAt := fun w h => List.mem_cons_of_mem _ (iaX6 w h)
  have F : CallFix p m c cX6_byteAt 2 s _ vsX6_byteAt RX6 := ⟨hx, hb, hml, hown, hts⟩
  have hl : lv_has ls 2 [(0, .ref x), (1, .int z)] := hl
  refine lv_aload_n hx hb dX6_byteAt_0 rfl (lv_at hl 0 rfl) ?_
  refine va_get (D := D) (ci := 4) (v := .ref rs) (C := RX6) (T := TX6) (N := 5) hx hb hts inX6 hown hK hP 0 rfl rfl 2 (by decide) (hts (.fieldLink RX6 25 "ByteShapes" "result" "LByteShapes$Row;") (List.mem_cons_of_mem _ wd_234)) (fun _ h9 => h9) rfl dX6_byteAt_1 ?_
  refine lv_iload_n hx hb dX6_byteAt_4 rfl (lv_at hl 1 rfl) ?_
  refine k_cx (wr := [(x, .inr (4, [.ref sa, .ref a, .ref rs, .ref rd, .ref wt]))]) (k_rvX F (c_Row_valueAtX l D cI cB cJ cS hl9 rs rsb n2 b2 z hz) (cwV 1 hts (g_V wd_251 wd_70 wd_71 wd_50 wd_72) rfl rfl rfl (by decide +kernel) ⟨Nat.le_of_ble_eq_true rfl, Nat.le_of_ble_eq_true rfl⟩) hK hP hD hS hA hZ [1, 2] rfl (by decide) 1 rfl rfl rfl rfl hl.1 rfl (Nat.le_of_ble_eq_true rfl) dX6_byteAt_5 ⟨Nat.le_of_ble_eq_true rfl, Nat.le_of_ble_eq_true rfl⟩) hP hD hS hA [1, 2] [0] rfl rfl (by decide) (by decide) (fun q9 ce H locs hP hD hS hce hcv hcl => ?_)
  have hP : va_P D kCl [(x, .inr (4, [.ref sa, .ref a, .ref rs, .ref rd, .ref wt])), (rs, .inr (1, [.ref rsb, .int (nI n2)])), (rsb, .inl (cB, 65536, .inl (bF b2)))] H := hP
  have hD : va_D A [(x, .inr (4, [.ref sa, .ref a, .ref rs, .ref rd, .ref wt])), (rs, .inr (1, [.ref rsb, .int (nI n2)])), (rsb, .inl (cB, 65536, .inl (bF b2)))] := hD
  exact vx_widen (k := 1) (n := 6) (Nat.le_of_ble_eq_true rfl) (Nat.le_of_ble_eq_true rfl) (k_out hxt hlocks hce hcv hcl hK hP hD hS (rfl) (Nat.le_of_ble_eq_true rfl) (Nat.le_of_ble_eq_true rfl))

set_option maxRecDepth 100000 in
set_option maxHeartbeats 4000000 in
theorem c_planX1 (l : Launch) (D : va_G) (cI cB cJ cS : ClassId) (hl9 : l.stackTraces = false) (x sa a rs rd wt : Nat) (z : Int32) (hz : z < 0 ∨ nI 4 ≤ z) (z2 : Int32) : kX l yX6_plan vsX6_plan ({ frames := 7, cells := 1, slots := 6, locals := 103 }) D (kT cI cB cJ cS) [.ref x, .int z, .int z2] [(x, .inr (4, [.ref sa, .ref a, .ref rs, .ref rd, .ref wt]))] "java/lang/IndexOutOfBoundsException" [(x, .inr (4, [.ref sa, .ref a, .ref rs, .ref rd, .ref wt]))] := by
  refine k_ofX (by decide) rfl (Nat.le_of_ble_eq_true rfl) ?_
  intro p e s m below meth c A ls hx hb hr hts hown hlocks hmn hml hA hP hK hD hS hZ hl hxt
  have inX6 : ∀ w ∈ wsX60, w ∈ vsX6_plan := fun w h => List.mem_cons_of_mem _ (iaX6 w h)
  have F : CallFix p m c cX6_plan 3 s _ vsX6_plan RX6 := ⟨hx, hb, hml, hown, hts⟩
  have hl : lv_has ls 3 [(0, .ref x), (1, .int z), (2, .int z2)] := hl
  refine lv_aload_n hx hb dX6_plan_0 rfl (lv_at hl 0 rfl) ?_
  refine lv_iload_n hx hb dX6_plan_1 rfl (lv_at hl 1 rfl) ?_
  refine k_cx (wr := [(x, .inr (4, [.ref sa, .ref a, .ref rs, .ref rd, .ref wt]))]) (k_rvX F (c_shapeInX l D cI cB cJ cS hl9 x z hz) (cwV 1 hts (g_V wd_239 wd_240 wd_241 wd_8 wd_242) rfl rfl rfl (by decide +kernel) ⟨Nat.le_of_ble_eq_true rfl, Nat.le_of_ble_eq_true rfl⟩) hK hP hD hS hA hZ [] rfl (by decide) 0 rfl rfl rfl rfl hl.1 rfl (Nat.le_of_ble_eq_true rfl) dX6_plan_2 ⟨Nat.le_of_ble_eq_true rfl, Nat.le_of_ble_eq_true rfl⟩) hP hD hS hA [] [0] rfl rfl (by decide) (by decide) (fun q9 ce H locs hP hD hS hce hcv hcl => ?_)
  have hP : va_P D kCl [(x, .inr (4, [.ref sa, .ref a, .ref rs, .ref rd, .ref wt]))] H := hP
  have hD : va_D A [(x, .inr (4, [.ref sa, .ref a, .ref rs, .ref rd, .ref wt]))] := hD
  exact vx_widen (k := 1) (n := 6) (Nat.le_of_ble_eq_true rfl) (Nat.le_of_ble_eq_true rfl) (k_out hxt hlocks hce hcv hcl hK hP hD hS (rfl) (Nat.le_of_ble_eq_true rfl) (Nat.le_of_ble_eq_true rfl))

set_option maxRecDepth 100000 in
set_option maxHeartbeats 4000000 in
theorem c_planX2 (l : Launch) (D : va_G) (cI cB cJ cS : ClassId) (hl9 : l.stackTraces = false) (x sa a rs rd wt : Nat) (f : Nat → Option Nat) (k : Nat) (hk : k < 4) (sh sn sv PN pn VN vn : Nat) (pf : Nat → Nat) (fv : Nat → Int32) (hf : f k = some sh) (z : Int32) (hz : z < 0 ∨ nI pn ≤ z) : kX l yX6_plan vsX6_plan ({ frames := 7, cells := 1, slots := 6, locals := 103 }) D (kT cI cB cJ cS) [.ref x, .int (nI k), .int z] [(x, .inr (4, [.ref sa, .ref a, .ref rs, .ref rd, .ref wt])), (sa, .inl (cS, 4, .inr (.inr (.inr (.inr f))))), (sh, .inr (2, [.ref sn, .ref sv, .int (nI pn), .int (nI vn)])), (sn, .inl (cI, PN, .inl (iF pf))), (sv, .inl (cI, VN, .inl fv))] "java/lang/IndexOutOfBoundsException" [(x, .inr (4, [.ref sa, .ref a, .ref rs, .ref rd, .ref wt])), (sa, .inl (cS, 4, .inr (.inr (.inr (.inr f))))), (sh, .inr (2, [.ref sn, .ref sv, .int (nI pn), .int (nI vn)])), (sn, .inl (cI, PN, .inl (iF pf))), (sv, .inl (cI, VN, .inl fv))] := by
  refine k_ofX (by decide) rfl (Nat.le_of_ble_eq_true rfl) ?_
  intro p e s m below meth c A ls hx hb hr hts hown hlocks hmn hml hA hP hK hD hS hZ hl hxt
  have inX4 : ∀ w ∈ wsX40, w ∈ vsX6_plan := fun w h => List.mem_cons_of_mem _ (iaX4 w h)
  have inX6 : ∀ w ∈ wsX60, w ∈ vsX6_plan := fun w h => List.mem_cons_of_mem _ (iaX6 w h)
  have F : CallFix p m c cX6_plan 3 s _ vsX6_plan RX6 := ⟨hx, hb, hml, hown, hts⟩
  have hl : lv_has ls 3 [(0, .ref x), (1, .int (nI k)), (2, .int z)] := hl
  refine lv_aload_n hx hb dX6_plan_0 rfl (lv_at hl 0 rfl) ?_
  refine lv_iload_n hx hb dX6_plan_1 rfl (lv_at hl 1 rfl) ?_
  refine k_cr (wr := [(sh, .inr (2, [.ref sn, .ref sv, .int (nI pn), .int (nI vn)])), (sn, .inl (cI, PN, .inl (iF pf))), (sv, .inl (cI, VN, .inl fv))]) (k_rv F (c_shapeIn l D cI cB cJ cS x sa a rs rd wt f sh k hk hf) (cwV 1 hts (g_V wd_239 wd_240 wd_241 wd_8 wd_242) rfl rfl rfl (by decide +kernel) ⟨Nat.le_of_ble_eq_true rfl, Nat.le_of_ble_eq_true rfl⟩) hK hP hD hS hA hZ [0, 1] rfl (by decide) 0 rfl rfl rfl rfl hl.1 rfl (Nat.le_of_ble_eq_true rfl) dX6_plan_2 ⟨Nat.le_of_ble_eq_true rfl, Nat.le_of_ble_eq_true rfl⟩) hP hD hS hA [0, 1] [2, 3, 4] rfl rfl (by decide) (by decide) (fun r u9 H locs hw hP hD hS => ?_)
  subst hw
  have hP : va_P D kCl [(sh, .inr (2, [.ref sn, .ref sv, .int (nI pn), .int (nI vn)])), (sn, .inl (cI, PN, .inl (iF pf))), (sv, .inl (cI, VN, .inl fv)), (x, .inr (4, [.ref sa, .ref a, .ref rs, .ref rd, .ref wt])), (sa, .inl (cS, 4, .inr (.inr (.inr (.inr f)))))] H := hP
  have hD : va_D A [(sh, .inr (2, [.ref sn, .ref sv, .int (nI pn), .int (nI vn)])), (sn, .inl (cI, PN, .inl (iF pf))), (sv, .inl (cI, VN, .inl fv)), (x, .inr (4, [.ref sa, .ref a, .ref rs, .ref rd, .ref wt])), (sa, .inl (cS, 4, .inr (.inr (.inr (.inr f)))))] := hD
  refine W.widen (k := 0) (n := 0) (Nat.le_of_ble_eq_true rfl) (Nat.le_of_ble_eq_true rfl) ?_
  refine lv_iload_n hx hb dX6_plan_5 rfl (lv_at hl 2 rfl) ?_
  refine k_cx (wr := [(x, .inr (4, [.ref sa, .ref a, .ref rs, .ref rd, .ref wt])), (sa, .inl (cS, 4, .inr (.inr (.inr (.inr f)))))]) (k_rvX F (c_Shape_planAtX l D cI cB cJ cS hl9 sh sn sv PN pn VN vn pf fv z hz) (cwV 1 hts (g_V wd_222 wd_223 wd_224 wd_41 wd_225) rfl rfl rfl (by decide +kernel) ⟨Nat.le_of_ble_eq_true rfl, Nat.le_of_ble_eq_true rfl⟩) hK hP hD hS hA hZ [0, 1, 2] rfl (by decide) 0 rfl rfl rfl rfl hl.1 rfl (Nat.le_of_ble_eq_true rfl) dX6_plan_6 ⟨Nat.le_of_ble_eq_true rfl, Nat.le_of_ble_eq_true rfl⟩) hP hD hS hA [0, 1, 2] [3, 4] rfl rfl (by decide) (by decide) (fun q9 ce H locs hP hD hS hce hcv hcl => ?_)
  have hP : va_P D kCl [(x, .inr (4, [.ref sa, .ref a, .ref rs, .ref rd, .ref wt])), (sa, .inl (cS, 4, .inr (.inr (.inr (.inr f))))), (sh, .inr (2, [.ref sn, .ref sv, .int (nI pn), .int (nI vn)])), (sn, .inl (cI, PN, .inl (iF pf))), (sv, .inl (cI, VN, .inl fv))] H := hP
  have hD : va_D A [(x, .inr (4, [.ref sa, .ref a, .ref rs, .ref rd, .ref wt])), (sa, .inl (cS, 4, .inr (.inr (.inr (.inr f))))), (sh, .inr (2, [.ref sn, .ref sv, .int (nI pn), .int (nI vn)])), (sn, .inl (cI, PN, .inl (iF pf))), (sv, .inl (cI, VN, .inl fv))] := hD
  exact vx_widen (k := 1) (n := 6) (Nat.le_of_ble_eq_true rfl) (Nat.le_of_ble_eq_true rfl) (k_out hxt hlocks hce hcv hcl hK hP hD hS (rfl) (Nat.le_of_ble_eq_true rfl) (Nat.le_of_ble_eq_true rfl))

set_option maxRecDepth 100000 in
set_option maxHeartbeats 4000000 in
theorem c_ordinateX1 (l : Launch) (D : va_G) (cI cB cJ cS : ClassId) (hl9 : l.stackTraces = false) (x sa a rs rd wt : Nat) (z : Int32) (hz : z < 0 ∨ nI 4 ≤ z) (z2 z3 : Int32) : kX l yX6_ordinate vsX6_ordinate ({ frames := 7, cells := 1, slots := 6, locals := 103 }) D (kT cI cB cJ cS) [.ref x, .int z, .int z2, .int z3] [(x, .inr (4, [.ref sa, .ref a, .ref rs, .ref rd, .ref wt]))] "java/lang/IndexOutOfBoundsException" [(x, .inr (4, [.ref sa, .ref a, .ref rs, .ref rd, .ref wt]))] := by
  refine k_ofX (by decide) rfl (Nat.le_of_ble_eq_true rfl) ?_
  intro p e s m below meth c A ls hx hb hr hts hown hlocks hmn hml hA hP hK hD hS hZ hl hxt
  have inX6 : ∀ w ∈ wsX60, w ∈ vsX6_ordinate := fun w h => List.mem_cons_of_mem _ (iaX6 w h)
  have F : CallFix p m c cX6_ordinate 4 s _ vsX6_ordinate RX6 := ⟨hx, hb, hml, hown, hts⟩
  have hl : lv_has ls 4 [(0, .ref x), (1, .int z), (2, .int z2), (3, .int z3)] := hl
  refine lv_aload_n hx hb dX6_ordinate_0 rfl (lv_at hl 0 rfl) ?_
  refine lv_iload_n hx hb dX6_ordinate_1 rfl (lv_at hl 1 rfl) ?_
  refine k_cx (wr := [(x, .inr (4, [.ref sa, .ref a, .ref rs, .ref rd, .ref wt]))]) (k_rvX F (c_shapeInX l D cI cB cJ cS hl9 x z hz) (cwV 1 hts (g_V wd_239 wd_240 wd_241 wd_8 wd_242) rfl rfl rfl (by decide +kernel) ⟨Nat.le_of_ble_eq_true rfl, Nat.le_of_ble_eq_true rfl⟩) hK hP hD hS hA hZ [] rfl (by decide) 0 rfl rfl rfl rfl hl.1 rfl (Nat.le_of_ble_eq_true rfl) dX6_ordinate_2 ⟨Nat.le_of_ble_eq_true rfl, Nat.le_of_ble_eq_true rfl⟩) hP hD hS hA [] [0] rfl rfl (by decide) (by decide) (fun q9 ce H locs hP hD hS hce hcv hcl => ?_)
  have hP : va_P D kCl [(x, .inr (4, [.ref sa, .ref a, .ref rs, .ref rd, .ref wt]))] H := hP
  have hD : va_D A [(x, .inr (4, [.ref sa, .ref a, .ref rs, .ref rd, .ref wt]))] := hD
  exact vx_widen (k := 1) (n := 6) (Nat.le_of_ble_eq_true rfl) (Nat.le_of_ble_eq_true rfl) (k_out hxt hlocks hce hcv hcl hK hP hD hS (rfl) (Nat.le_of_ble_eq_true rfl) (Nat.le_of_ble_eq_true rfl))

set_option maxRecDepth 100000 in
set_option maxHeartbeats 4000000 in
theorem c_ordinateX2 (l : Launch) (D : va_G) (cI cB cJ cS : ClassId) (hl9 : l.stackTraces = false) (x sa a rs rd wt : Nat) (f : Nat → Option Nat) (k : Nat) (hk : k < 4) (sh sn sv PN pn VN vn : Nat) (pf : Nat → Nat) (fv : Nat → Int32) (hf : f k = some sh) (hVN : VN ≤ 8192) (hvn : vn ≤ VN) (z y : Int32) (hz : (z < 0 ∨ nI (vn / 2) ≤ z) ∨ (y < 0 ∨ nI 1 < y)) : kX l yX6_ordinate vsX6_ordinate ({ frames := 7, cells := 1, slots := 6, locals := 104 }) D (kT cI cB cJ cS) [.ref x, .int (nI k), .int z, .int y] [(x, .inr (4, [.ref sa, .ref a, .ref rs, .ref rd, .ref wt])), (sa, .inl (cS, 4, .inr (.inr (.inr (.inr f))))), (sh, .inr (2, [.ref sn, .ref sv, .int (nI pn), .int (nI vn)])), (sn, .inl (cI, PN, .inl (iF pf))), (sv, .inl (cI, VN, .inl fv))] "java/lang/IndexOutOfBoundsException" [(x, .inr (4, [.ref sa, .ref a, .ref rs, .ref rd, .ref wt])), (sa, .inl (cS, 4, .inr (.inr (.inr (.inr f))))), (sh, .inr (2, [.ref sn, .ref sv, .int (nI pn), .int (nI vn)])), (sn, .inl (cI, PN, .inl (iF pf))), (sv, .inl (cI, VN, .inl fv))] := by
  refine k_ofX (by decide) rfl (Nat.le_of_ble_eq_true rfl) ?_
  intro p e s m below meth c A ls hx hb hr hts hown hlocks hmn hml hA hP hK hD hS hZ hl hxt
  have inX4 : ∀ w ∈ wsX40, w ∈ vsX6_ordinate := fun w h => List.mem_cons_of_mem _ (iaX4 w h)
  have inX6 : ∀ w ∈ wsX60, w ∈ vsX6_ordinate := fun w h => List.mem_cons_of_mem _ (iaX6 w h)
  have F : CallFix p m c cX6_ordinate 4 s _ vsX6_ordinate RX6 := ⟨hx, hb, hml, hown, hts⟩
  have hl : lv_has ls 4 [(0, .ref x), (1, .int (nI k)), (2, .int z), (3, .int y)] := hl
  refine lv_aload_n hx hb dX6_ordinate_0 rfl (lv_at hl 0 rfl) ?_
  refine lv_iload_n hx hb dX6_ordinate_1 rfl (lv_at hl 1 rfl) ?_
  refine k_cr (wr := [(sh, .inr (2, [.ref sn, .ref sv, .int (nI pn), .int (nI vn)])), (sn, .inl (cI, PN, .inl (iF pf))), (sv, .inl (cI, VN, .inl fv))]) (k_rv F (c_shapeIn l D cI cB cJ cS x sa a rs rd wt f sh k hk hf) (cwV 1 hts (g_V wd_239 wd_240 wd_241 wd_8 wd_242) rfl rfl rfl (by decide +kernel) ⟨Nat.le_of_ble_eq_true rfl, Nat.le_of_ble_eq_true rfl⟩) hK hP hD hS hA hZ [0, 1] rfl (by decide) 0 rfl rfl rfl rfl hl.1 rfl (Nat.le_of_ble_eq_true rfl) dX6_ordinate_2 ⟨Nat.le_of_ble_eq_true rfl, Nat.le_of_ble_eq_true rfl⟩) hP hD hS hA [0, 1] [2, 3, 4] rfl rfl (by decide) (by decide) (fun r u9 H locs hw hP hD hS => ?_)
  subst hw
  have hP : va_P D kCl [(sh, .inr (2, [.ref sn, .ref sv, .int (nI pn), .int (nI vn)])), (sn, .inl (cI, PN, .inl (iF pf))), (sv, .inl (cI, VN, .inl fv)), (x, .inr (4, [.ref sa, .ref a, .ref rs, .ref rd, .ref wt])), (sa, .inl (cS, 4, .inr (.inr (.inr (.inr f)))))] H := hP
  have hD : va_D A [(sh, .inr (2, [.ref sn, .ref sv, .int (nI pn), .int (nI vn)])), (sn, .inl (cI, PN, .inl (iF pf))), (sv, .inl (cI, VN, .inl fv)), (x, .inr (4, [.ref sa, .ref a, .ref rs, .ref rd, .ref wt])), (sa, .inl (cS, 4, .inr (.inr (.inr (.inr f)))))] := hD
  refine W.widen (k := 0) (n := 0) (Nat.le_of_ble_eq_true rfl) (Nat.le_of_ble_eq_true rfl) ?_
  refine lv_iload_n hx hb dX6_ordinate_5 rfl (lv_at hl 2 rfl) ?_
  refine lv_iload_n hx hb dX6_ordinate_6 rfl (lv_at hl 3 rfl) ?_
  refine k_cx (wr := [(x, .inr (4, [.ref sa, .ref a, .ref rs, .ref rd, .ref wt])), (sa, .inl (cS, 4, .inr (.inr (.inr (.inr f)))))]) (k_rvX F (c_Shape_valueOfPointX l D cI cB cJ cS hl9 sh sn sv PN pn VN vn pf fv hVN hvn z y hz) (cwV 2 hts (g_V wd_247 wd_248 wd_249 wd_41 wd_250) rfl rfl rfl (by decide +kernel) ⟨Nat.le_of_ble_eq_true rfl, Nat.le_of_ble_eq_true rfl⟩) hK hP hD hS hA hZ [0, 1, 2] rfl (by decide) 0 rfl rfl rfl rfl hl.1 rfl (Nat.le_of_ble_eq_true rfl) dX6_ordinate_7 ⟨Nat.le_of_ble_eq_true rfl, Nat.le_of_ble_eq_true rfl⟩) hP hD hS hA [0, 1, 2] [3, 4] rfl rfl (by decide) (by decide) (fun q9 ce H locs hP hD hS hce hcv hcl => ?_)
  have hP : va_P D kCl [(x, .inr (4, [.ref sa, .ref a, .ref rs, .ref rd, .ref wt])), (sa, .inl (cS, 4, .inr (.inr (.inr (.inr f))))), (sh, .inr (2, [.ref sn, .ref sv, .int (nI pn), .int (nI vn)])), (sn, .inl (cI, PN, .inl (iF pf))), (sv, .inl (cI, VN, .inl fv))] H := hP
  have hD : va_D A [(x, .inr (4, [.ref sa, .ref a, .ref rs, .ref rd, .ref wt])), (sa, .inl (cS, 4, .inr (.inr (.inr (.inr f))))), (sh, .inr (2, [.ref sn, .ref sv, .int (nI pn), .int (nI vn)])), (sn, .inl (cI, PN, .inl (iF pf))), (sv, .inl (cI, VN, .inl fv))] := hD
  exact vx_widen (k := 1) (n := 6) (Nat.le_of_ble_eq_true rfl) (Nat.le_of_ble_eq_true rfl) (k_out hxt hlocks hce hcv hcl hK hP hD hS (rfl) (Nat.le_of_ble_eq_true rfl) (Nat.le_of_ble_eq_true rfl))

set_option maxRecDepth 100000 in
set_option maxHeartbeats 4000000 in
theorem c_sameX2 (l : Launch) (D : va_G) (cI cB cJ cS : ClassId) (hl9 : l.stackTraces = false) (x sa a rs rd wt : Nat) (f : Nat → Option Nat) (sh k : Nat) (hk : k < 4) (hf : f k = some sh) (z : Int32) (hz : z < 0 ∨ nI 4 ≤ z) : kX l yX6_same vsX6_same ({ frames := 7, cells := 1, slots := 6, locals := 103 }) D (kT cI cB cJ cS) [.ref x, .int (nI k), .int z] [(x, .inr (4, [.ref sa, .ref a, .ref rs, .ref rd, .ref wt])), (sa, .inl (cS, 4, .inr (.inr (.inr (.inr f)))))] "java/lang/IndexOutOfBoundsException" [(x, .inr (4, [.ref sa, .ref a, .ref rs, .ref rd, .ref wt])), (sa, .inl (cS, 4, .inr (.inr (.inr (.inr f)))))] := by
  refine k_ofX (by decide) rfl (Nat.le_of_ble_eq_true rfl) ?_
  intro p e s m below meth c A ls hx hb hr hts hown hlocks hmn hml hA hP hK hD hS hZ hl hxt
  have inX6 : ∀ w ∈ wsX60, w ∈ vsX6_same := fun w h => List.mem_cons_of_mem _ (iaX6 w h)
  have F : CallFix p m c cX6_same 5 s _ vsX6_same RX6 := ⟨hx, hb, hml, hown, hts⟩
  have hl : lv_has ls 5 [(0, .ref x), (1, .int (nI k)), (2, .int z)] := hl
  refine lv_aload_n hx hb dX6_same_0 rfl (lv_at hl 0 rfl) ?_
  refine lv_iload_n hx hb dX6_same_1 rfl (lv_at hl 1 rfl) ?_
  refine k_cr (wr := []) (k_rv F (c_shapeIn l D cI cB cJ cS x sa a rs rd wt f sh k hk hf) (cwV 1 hts (g_V wd_239 wd_240 wd_241 wd_8 wd_242) rfl rfl rfl (by decide +kernel) ⟨Nat.le_of_ble_eq_true rfl, Nat.le_of_ble_eq_true rfl⟩) hK hP hD hS hA hZ [0, 1] rfl (by decide) 0 rfl rfl rfl rfl hl.1 rfl (Nat.le_of_ble_eq_true rfl) dX6_same_2 ⟨Nat.le_of_ble_eq_true rfl, Nat.le_of_ble_eq_true rfl⟩) hP hD hS hA [0, 1] [] rfl rfl (by decide) (by decide) (fun r u9 H locs hw hP hD hS => ?_)
  subst hw
  have hP : va_P D kCl [(x, .inr (4, [.ref sa, .ref a, .ref rs, .ref rd, .ref wt])), (sa, .inl (cS, 4, .inr (.inr (.inr (.inr f)))))] H := hP
  have hD : va_D A [(x, .inr (4, [.ref sa, .ref a, .ref rs, .ref rd, .ref wt])), (sa, .inl (cS, 4, .inr (.inr (.inr (.inr f)))))] := hD
  refine W.widen (k := 0) (n := 0) (Nat.le_of_ble_eq_true rfl) (Nat.le_of_ble_eq_true rfl) ?_
  refine lv_astore_n (lv' := [(3, .ref sh), (0, .ref x), (1, .int (nI k)), (2, .int z)]) hx hb dX6_same_5 rfl hl (by decide) rfl (fun ls hl => ?_)
  refine lv_aload_n hx hb dX6_same_6 rfl (lv_at hl 1 rfl) ?_
  refine lv_iload_n hx hb dX6_same_7 rfl (lv_at hl 3 rfl) ?_
  refine k_cx (wr := [(x, .inr (4, [.ref sa, .ref a, .ref rs, .ref rd, .ref wt])), (sa, .inl (cS, 4, .inr (.inr (.inr (.inr f)))))]) (k_rvX F (c_shapeInX l D cI cB cJ cS hl9 x z hz) (cwV 1 hts (g_V wd_239 wd_240 wd_241 wd_8 wd_242) rfl rfl rfl (by decide +kernel) ⟨Nat.le_of_ble_eq_true rfl, Nat.le_of_ble_eq_true rfl⟩) hK hP hD hS hA hZ [] rfl (by decide) 0 rfl rfl rfl rfl hl.1 rfl (Nat.le_of_ble_eq_true rfl) dX6_same_8 ⟨Nat.le_of_ble_eq_true rfl, Nat.le_of_ble_eq_true rfl⟩) hP hD hS hA [] [0, 1] rfl rfl (by decide) (by decide) (fun q9 ce H locs hP hD hS hce hcv hcl => ?_)
  have hP : va_P D kCl [(x, .inr (4, [.ref sa, .ref a, .ref rs, .ref rd, .ref wt])), (sa, .inl (cS, 4, .inr (.inr (.inr (.inr f)))))] H := hP
  have hD : va_D A [(x, .inr (4, [.ref sa, .ref a, .ref rs, .ref rd, .ref wt])), (sa, .inl (cS, 4, .inr (.inr (.inr (.inr f)))))] := hD
  exact vx_widen (k := 1) (n := 6) (Nat.le_of_ble_eq_true rfl) (Nat.le_of_ble_eq_true rfl) (k_out hxt hlocks hce hcv hcl hK hP hD hS (rfl) (Nat.le_of_ble_eq_true rfl) (Nat.le_of_ble_eq_true rfl))

set_option maxRecDepth 100000 in
set_option maxHeartbeats 4000000 in
theorem c_count0 (l : Launch) (D : va_G) (cI cB cJ cS : ClassId) (x sa a rs rd wt : Nat) (f : Nat → Option Nat) (k : Nat) (hk : k < 4) (sh : Nat) (sn sv PN pn VN vn : Nat) (pf : Nat → Nat) (fv : Nat → Int32) (hVN : VN ≤ 8192) (hvn : vn ≤ VN) (hf : f k = some sh)  : kM l yX6_count vsX6_count ({ frames := 2, cells := 0, slots := 0, locals := 41 }) D (kT cI cB cJ cS) [.ref x, .int (nI k), .int (nI 0)] [(x, .inr (4, [.ref sa, .ref a, .ref rs, .ref rd, .ref wt])), (sa, .inl (cS, 4, .inr (.inr (.inr (.inr f))))), (sh, .inr (2, [.ref sn, .ref sv, .int (nI pn), .int (nI vn)])), (sn, .inl (cI, PN, .inl (iF pf))), (sv, .inl (cI, VN, .inl fv))] (kQi D (kT cI cB cJ cS) (fun r (ug : Unit) => r = nI (pn)) (fun ug => [(x, .inr (4, [.ref sa, .ref a, .ref rs, .ref rd, .ref wt])), (sa, .inl (cS, 4, .inr (.inr (.inr (.inr f))))), (sh, .inr (2, [.ref sn, .ref sv, .int (nI pn), .int (nI vn)])), (sn, .inl (cI, PN, .inl (iF pf))), (sv, .inl (cI, VN, .inl fv))])) := by
  refine k_ofW (by decide) rfl (Nat.le_of_ble_eq_true rfl) ?_
  intro p e s m below meth c A ls hx hb hr hts hown hlocks hmn hml hA hP hK hD hS hZ hl
  have inX4 : ∀ w ∈ wsX40, w ∈ vsX6_count := fun w h => List.mem_cons_of_mem _ (iaX4 w h)
  have inX6 : ∀ w ∈ wsX60, w ∈ vsX6_count := fun w h => List.mem_cons_of_mem _ (iaX6 w h)
  have F : CallFix p m c cX6_count 4 s _ vsX6_count RX6 := ⟨hx, hb, hml, hown, hts⟩
  have hl : lv_has ls 4 [(0, .ref x), (1, .int (nI k)), (2, .int (nI 0))] := hl
  refine lv_aload_n hx hb dX6_count_0 rfl (lv_at hl 0 rfl) ?_
  refine lv_iload_n hx hb dX6_count_1 rfl (lv_at hl 1 rfl) ?_
  refine k_cr (wr := [(sh, .inr (2, [.ref sn, .ref sv, .int (nI pn), .int (nI vn)])), (sn, .inl (cI, PN, .inl (iF pf))), (sv, .inl (cI, VN, .inl fv))]) (k_rv F (c_shapeIn l D cI cB cJ cS x sa a rs rd wt f sh k hk hf) (cwV 1 hts (g_V wd_239 wd_240 wd_241 wd_8 wd_242) rfl rfl rfl (by decide +kernel) ⟨Nat.le_of_ble_eq_true rfl, Nat.le_of_ble_eq_true rfl⟩) hK hP hD hS hA hZ [0, 1] rfl (by decide) 0 rfl rfl rfl rfl hl.1 rfl (Nat.le_of_ble_eq_true rfl) dX6_count_2 ⟨Nat.le_of_ble_eq_true rfl, Nat.le_of_ble_eq_true rfl⟩) hP hD hS hA [0, 1] [2, 3, 4] rfl rfl (by decide) (by decide) (fun r u9 H locs hw hP hD hS => ?_)
  subst hw
  have hP : va_P D kCl [(sh, .inr (2, [.ref sn, .ref sv, .int (nI pn), .int (nI vn)])), (sn, .inl (cI, PN, .inl (iF pf))), (sv, .inl (cI, VN, .inl fv)), (x, .inr (4, [.ref sa, .ref a, .ref rs, .ref rd, .ref wt])), (sa, .inl (cS, 4, .inr (.inr (.inr (.inr f)))))] H := hP
  have hD : va_D A [(sh, .inr (2, [.ref sn, .ref sv, .int (nI pn), .int (nI vn)])), (sn, .inl (cI, PN, .inl (iF pf))), (sv, .inl (cI, VN, .inl fv)), (x, .inr (4, [.ref sa, .ref a, .ref rs, .ref rd, .ref wt])), (sa, .inl (cS, 4, .inr (.inr (.inr (.inr f)))))] := hD
  refine W.widen (k := 0) (n := 0) (Nat.le_of_ble_eq_true rfl) (Nat.le_of_ble_eq_true rfl) ?_
  refine lv_astore_n (lv' := [(3, .ref sh), (0, .ref x), (1, .int (nI k)), (2, .int (nI 0))]) hx hb dX6_count_5 rfl hl (by decide) rfl (fun ls hl => ?_)
  refine lv_iload_n hx hb dX6_count_6 rfl (lv_at hl 3 rfl) ?_
  refine lv_tableIn (off := 29) (tgt := 36) hx hb dX6_count_7 (by decide) (by decide) (by decide) (by decide) ?_
  refine lv_aload_n hx hb dX6_count_36 rfl (lv_at hl 0 rfl) ?_
  refine k_ci (wr := [(x, .inr (4, [.ref sa, .ref a, .ref rs, .ref rd, .ref wt])), (sa, .inl (cS, 4, .inr (.inr (.inr (.inr f)))))]) (k_rv F (c_Shape_planSize l D cI cB cJ cS sh sn sv PN pn VN vn pf fv) (cwV 0 hts (g_V wd_252 wd_253 wd_254 wd_41 wd_255) rfl rfl rfl (by decide +kernel) ⟨Nat.le_of_ble_eq_true rfl, Nat.le_of_ble_eq_true rfl⟩) hK hP hD hS hA hZ [0, 1, 2] rfl (by decide) 0 rfl rfl rfl rfl hl.1 rfl (Nat.le_of_ble_eq_true rfl) dX6_count_37 ⟨Nat.le_of_ble_eq_true rfl, Nat.le_of_ble_eq_true rfl⟩) hP hD hS hA [0, 1, 2] [3, 4] rfl rfl (by decide) (by decide) (fun r u9 H locs hw hP hD hS => ?_)
  subst hw
  have hP : va_P D kCl [(x, .inr (4, [.ref sa, .ref a, .ref rs, .ref rd, .ref wt])), (sa, .inl (cS, 4, .inr (.inr (.inr (.inr f))))), (sh, .inr (2, [.ref sn, .ref sv, .int (nI pn), .int (nI vn)])), (sn, .inl (cI, PN, .inl (iF pf))), (sv, .inl (cI, VN, .inl fv))] H := hP
  have hD : va_D A [(x, .inr (4, [.ref sa, .ref a, .ref rs, .ref rd, .ref wt])), (sa, .inl (cS, 4, .inr (.inr (.inr (.inr f))))), (sh, .inr (2, [.ref sn, .ref sv, .int (nI pn), .int (nI vn)])), (sn, .inl (cI, PN, .inl (iF pf))), (sv, .inl (cI, VN, .inl fv))] := hD
  refine W.widen (k := 0) (n := 0) (Nat.le_of_ble_eq_true rfl) (Nat.le_of_ble_eq_true rfl) ?_
  exact k_iret () hx hb hr (by first | rfl | decide | exact vp_nar_int _) hlocks hK hP hD hS (rfl) (rfl) (Nat.le_of_ble_eq_true rfl) (Nat.le_of_ble_eq_true rfl) dX6_count_40

set_option maxRecDepth 100000 in
set_option maxHeartbeats 4000000 in
theorem c_count1 (l : Launch) (D : va_G) (cI cB cJ cS : ClassId) (x sa a rs rd wt : Nat) (f : Nat → Option Nat) (k : Nat) (hk : k < 4) (sh : Nat) (sn sv PN pn VN vn : Nat) (pf : Nat → Nat) (fv : Nat → Int32) (hVN : VN ≤ 8192) (hvn : vn ≤ VN) (hf : f k = some sh)  : kM l yX6_count vsX6_count ({ frames := 2, cells := 0, slots := 0, locals := 41 }) D (kT cI cB cJ cS) [.ref x, .int (nI k), .int (nI 1)] [(x, .inr (4, [.ref sa, .ref a, .ref rs, .ref rd, .ref wt])), (sa, .inl (cS, 4, .inr (.inr (.inr (.inr f))))), (sh, .inr (2, [.ref sn, .ref sv, .int (nI pn), .int (nI vn)])), (sn, .inl (cI, PN, .inl (iF pf))), (sv, .inl (cI, VN, .inl fv))] (kQi D (kT cI cB cJ cS) (fun r (ug : Unit) => r = nI (vn / 2)) (fun ug => [(x, .inr (4, [.ref sa, .ref a, .ref rs, .ref rd, .ref wt])), (sa, .inl (cS, 4, .inr (.inr (.inr (.inr f))))), (sh, .inr (2, [.ref sn, .ref sv, .int (nI pn), .int (nI vn)])), (sn, .inl (cI, PN, .inl (iF pf))), (sv, .inl (cI, VN, .inl fv))])) := by
  refine k_ofW (by decide) rfl (Nat.le_of_ble_eq_true rfl) ?_
  intro p e s m below meth c A ls hx hb hr hts hown hlocks hmn hml hA hP hK hD hS hZ hl
  have inX4 : ∀ w ∈ wsX40, w ∈ vsX6_count := fun w h => List.mem_cons_of_mem _ (iaX4 w h)
  have inX6 : ∀ w ∈ wsX60, w ∈ vsX6_count := fun w h => List.mem_cons_of_mem _ (iaX6 w h)
  have F : CallFix p m c cX6_count 4 s _ vsX6_count RX6 := ⟨hx, hb, hml, hown, hts⟩
  have hl : lv_has ls 4 [(0, .ref x), (1, .int (nI k)), (2, .int (nI 1))] := hl
  refine lv_aload_n hx hb dX6_count_0 rfl (lv_at hl 0 rfl) ?_
  refine lv_iload_n hx hb dX6_count_1 rfl (lv_at hl 1 rfl) ?_
  refine k_cr (wr := [(sh, .inr (2, [.ref sn, .ref sv, .int (nI pn), .int (nI vn)])), (sn, .inl (cI, PN, .inl (iF pf))), (sv, .inl (cI, VN, .inl fv))]) (k_rv F (c_shapeIn l D cI cB cJ cS x sa a rs rd wt f sh k hk hf) (cwV 1 hts (g_V wd_239 wd_240 wd_241 wd_8 wd_242) rfl rfl rfl (by decide +kernel) ⟨Nat.le_of_ble_eq_true rfl, Nat.le_of_ble_eq_true rfl⟩) hK hP hD hS hA hZ [0, 1] rfl (by decide) 0 rfl rfl rfl rfl hl.1 rfl (Nat.le_of_ble_eq_true rfl) dX6_count_2 ⟨Nat.le_of_ble_eq_true rfl, Nat.le_of_ble_eq_true rfl⟩) hP hD hS hA [0, 1] [2, 3, 4] rfl rfl (by decide) (by decide) (fun r u9 H locs hw hP hD hS => ?_)
  subst hw
  have hP : va_P D kCl [(sh, .inr (2, [.ref sn, .ref sv, .int (nI pn), .int (nI vn)])), (sn, .inl (cI, PN, .inl (iF pf))), (sv, .inl (cI, VN, .inl fv)), (x, .inr (4, [.ref sa, .ref a, .ref rs, .ref rd, .ref wt])), (sa, .inl (cS, 4, .inr (.inr (.inr (.inr f)))))] H := hP
  have hD : va_D A [(sh, .inr (2, [.ref sn, .ref sv, .int (nI pn), .int (nI vn)])), (sn, .inl (cI, PN, .inl (iF pf))), (sv, .inl (cI, VN, .inl fv)), (x, .inr (4, [.ref sa, .ref a, .ref rs, .ref rd, .ref wt])), (sa, .inl (cS, 4, .inr (.inr (.inr (.inr f)))))] := hD
  refine W.widen (k := 0) (n := 0) (Nat.le_of_ble_eq_true rfl) (Nat.le_of_ble_eq_true rfl) ?_
  refine lv_astore_n (lv' := [(3, .ref sh), (0, .ref x), (1, .int (nI k)), (2, .int (nI 1))]) hx hb dX6_count_5 rfl hl (by decide) rfl (fun ls hl => ?_)
  refine lv_iload_n hx hb dX6_count_6 rfl (lv_at hl 3 rfl) ?_
  refine lv_tableIn (off := 34) (tgt := 41) hx hb dX6_count_7 (by decide) (by decide) (by decide) (by decide) ?_
  refine lv_aload_n hx hb dX6_count_41 rfl (lv_at hl 0 rfl) ?_
  refine k_ci (wr := [(x, .inr (4, [.ref sa, .ref a, .ref rs, .ref rd, .ref wt])), (sa, .inl (cS, 4, .inr (.inr (.inr (.inr f)))))]) (k_rv F (c_Shape_pointSize l D cI cB cJ cS sh sn sv PN pn VN vn pf fv hVN hvn) (cwV 0 hts (g_V wd_256 wd_39 wd_40 wd_41 wd_42) rfl rfl rfl (by decide +kernel) ⟨Nat.le_of_ble_eq_true rfl, Nat.le_of_ble_eq_true rfl⟩) hK hP hD hS hA hZ [0, 1, 2] rfl (by decide) 0 rfl rfl rfl rfl hl.1 rfl (Nat.le_of_ble_eq_true rfl) dX6_count_42 ⟨Nat.le_of_ble_eq_true rfl, Nat.le_of_ble_eq_true rfl⟩) hP hD hS hA [0, 1, 2] [3, 4] rfl rfl (by decide) (by decide) (fun r u9 H locs hw hP hD hS => ?_)
  subst hw
  have hP : va_P D kCl [(x, .inr (4, [.ref sa, .ref a, .ref rs, .ref rd, .ref wt])), (sa, .inl (cS, 4, .inr (.inr (.inr (.inr f))))), (sh, .inr (2, [.ref sn, .ref sv, .int (nI pn), .int (nI vn)])), (sn, .inl (cI, PN, .inl (iF pf))), (sv, .inl (cI, VN, .inl fv))] H := hP
  have hD : va_D A [(x, .inr (4, [.ref sa, .ref a, .ref rs, .ref rd, .ref wt])), (sa, .inl (cS, 4, .inr (.inr (.inr (.inr f))))), (sh, .inr (2, [.ref sn, .ref sv, .int (nI pn), .int (nI vn)])), (sn, .inl (cI, PN, .inl (iF pf))), (sv, .inl (cI, VN, .inl fv))] := hD
  refine W.widen (k := 0) (n := 0) (Nat.le_of_ble_eq_true rfl) (Nat.le_of_ble_eq_true rfl) ?_
  exact k_iret () hx hb hr (by first | rfl | decide | exact vp_nar_int _) hlocks hK hP hD hS (rfl) (rfl) (Nat.le_of_ble_eq_true rfl) (Nat.le_of_ble_eq_true rfl) dX6_count_45

set_option maxRecDepth 100000 in
set_option maxHeartbeats 4000000 in
theorem c_count2 (l : Launch) (D : va_G) (cI cB cJ cS : ClassId) (x sa a rs rd wt : Nat) (f : Nat → Option Nat) (k : Nat) (hk : k < 4) (sh : Nat) (ab n : Nat) (b : Nat → Nat) (hf : f k = some sh)  : kM l yX6_count vsX6_count ({ frames := 2, cells := 0, slots := 0, locals := 41 }) D (kT cI cB cJ cS) [.ref x, .int (nI k), .int (nI 2)] [(x, .inr (4, [.ref sa, .ref a, .ref rs, .ref rd, .ref wt])), (sa, .inl (cS, 4, .inr (.inr (.inr (.inr f))))), (a, .inr (1, [.ref ab, .int (nI n)])), (ab, .inl (cB, 65536, .inl (bF b)))] (kQi D (kT cI cB cJ cS) (fun r (ug : Unit) => r = nI (n)) (fun ug => [(x, .inr (4, [.ref sa, .ref a, .ref rs, .ref rd, .ref wt])), (sa, .inl (cS, 4, .inr (.inr (.inr (.inr f))))), (a, .inr (1, [.ref ab, .int (nI n)])), (ab, .inl (cB, 65536, .inl (bF b)))])) := by
  refine k_ofW (by decide) rfl (Nat.le_of_ble_eq_true rfl) ?_
  intro p e s m below meth c A ls hx hb hr hts hown hlocks hmn hml hA hP hK hD hS hZ hl
  have inX3 : ∀ w ∈ wsX30, w ∈ vsX6_count := fun w h => List.mem_cons_of_mem _ (iaX3 w h)
  have inX6 : ∀ w ∈ wsX60, w ∈ vsX6_count := fun w h => List.mem_cons_of_mem _ (iaX6 w h)
  have F : CallFix p m c cX6_count 4 s _ vsX6_count RX6 := ⟨hx, hb, hml, hown, hts⟩
  have hl : lv_has ls 4 [(0, .ref x), (1, .int (nI k)), (2, .int (nI 2))] := hl
  refine lv_aload_n hx hb dX6_count_0 rfl (lv_at hl 0 rfl) ?_
  refine lv_iload_n hx hb dX6_count_1 rfl (lv_at hl 1 rfl) ?_
  refine k_cr (wr := [(a, .inr (1, [.ref ab, .int (nI n)])), (ab, .inl (cB, 65536, .inl (bF b)))]) (k_rv F (c_shapeIn l D cI cB cJ cS x sa a rs rd wt f sh k hk hf) (cwV 1 hts (g_V wd_239 wd_240 wd_241 wd_8 wd_242) rfl rfl rfl (by decide +kernel) ⟨Nat.le_of_ble_eq_true rfl, Nat.le_of_ble_eq_true rfl⟩) hK hP hD hS hA hZ [0, 1] rfl (by decide) 0 rfl rfl rfl rfl hl.1 rfl (Nat.le_of_ble_eq_true rfl) dX6_count_2 ⟨Nat.le_of_ble_eq_true rfl, Nat.le_of_ble_eq_true rfl⟩) hP hD hS hA [0, 1] [2, 3] rfl rfl (by decide) (by decide) (fun r u9 H locs hw hP hD hS => ?_)
  subst hw
  have hP : va_P D kCl [(a, .inr (1, [.ref ab, .int (nI n)])), (ab, .inl (cB, 65536, .inl (bF b))), (x, .inr (4, [.ref sa, .ref a, .ref rs, .ref rd, .ref wt])), (sa, .inl (cS, 4, .inr (.inr (.inr (.inr f)))))] H := hP
  have hD : va_D A [(a, .inr (1, [.ref ab, .int (nI n)])), (ab, .inl (cB, 65536, .inl (bF b))), (x, .inr (4, [.ref sa, .ref a, .ref rs, .ref rd, .ref wt])), (sa, .inl (cS, 4, .inr (.inr (.inr (.inr f)))))] := hD
  refine W.widen (k := 0) (n := 0) (Nat.le_of_ble_eq_true rfl) (Nat.le_of_ble_eq_true rfl) ?_
  refine lv_astore_n (lv' := [(3, .ref sh), (0, .ref x), (1, .int (nI k)), (2, .int (nI 2))]) hx hb dX6_count_5 rfl hl (by decide) rfl (fun ls hl => ?_)
  refine lv_iload_n hx hb dX6_count_6 rfl (lv_at hl 3 rfl) ?_
  refine lv_tableIn (off := 39) (tgt := 46) hx hb dX6_count_7 (by decide) (by decide) (by decide) (by decide) ?_
  refine lv_aload_n hx hb dX6_count_46 rfl (lv_at hl 1 rfl) ?_
  refine va_get (D := D) (ci := 4) (v := .ref a) (C := RX6) (T := TX6) (N := 5) hx hb hts inX6 hown hK hP 2 rfl rfl 1 (by decide) (hts (.fieldLink RX6 21 "ByteShapes" "tape" "LByteShapes$Row;") (List.mem_cons_of_mem _ wd_202)) (fun _ h9 => h9) rfl dX6_count_47 ?_
  refine k_ci (wr := [(x, .inr (4, [.ref sa, .ref a, .ref rs, .ref rd, .ref wt])), (sa, .inl (cS, 4, .inr (.inr (.inr (.inr f)))))]) (k_rv F (c_Row_size l D cI cB cJ cS a ab (n) (b)) (cwV 0 hts (g_V wd_204 wd_48 wd_49 wd_50 wd_51) rfl rfl rfl (by decide +kernel) ⟨Nat.le_of_ble_eq_true rfl, Nat.le_of_ble_eq_true rfl⟩) hK hP hD hS hA hZ [0, 1] rfl (by decide) 0 rfl rfl rfl rfl hl.1 rfl (Nat.le_of_ble_eq_true rfl) dX6_count_50 ⟨Nat.le_of_ble_eq_true rfl, Nat.le_of_ble_eq_true rfl⟩) hP hD hS hA [0, 1] [2, 3] rfl rfl (by decide) (by decide) (fun r u9 H locs hw hP hD hS => ?_)
  subst hw
  have hP : va_P D kCl [(x, .inr (4, [.ref sa, .ref a, .ref rs, .ref rd, .ref wt])), (sa, .inl (cS, 4, .inr (.inr (.inr (.inr f))))), (a, .inr (1, [.ref ab, .int (nI n)])), (ab, .inl (cB, 65536, .inl (bF b)))] H := hP
  have hD : va_D A [(x, .inr (4, [.ref sa, .ref a, .ref rs, .ref rd, .ref wt])), (sa, .inl (cS, 4, .inr (.inr (.inr (.inr f))))), (a, .inr (1, [.ref ab, .int (nI n)])), (ab, .inl (cB, 65536, .inl (bF b)))] := hD
  refine W.widen (k := 0) (n := 0) (Nat.le_of_ble_eq_true rfl) (Nat.le_of_ble_eq_true rfl) ?_
  exact k_iret () hx hb hr (by first | rfl | decide | exact vp_nar_int _) hlocks hK hP hD hS (rfl) (rfl) (Nat.le_of_ble_eq_true rfl) (Nat.le_of_ble_eq_true rfl) dX6_count_53

set_option maxRecDepth 100000 in
set_option maxHeartbeats 4000000 in
theorem c_count3 (l : Launch) (D : va_G) (cI cB cJ cS : ClassId) (x sa a rs rd wt : Nat) (f : Nat → Option Nat) (k : Nat) (hk : k < 4) (sh : Nat) (rsb n2 : Nat) (b2 : Nat → Nat) (hf : f k = some sh)  : kM l yX6_count vsX6_count ({ frames := 2, cells := 0, slots := 0, locals := 41 }) D (kT cI cB cJ cS) [.ref x, .int (nI k), .int (nI 3)] [(x, .inr (4, [.ref sa, .ref a, .ref rs, .ref rd, .ref wt])), (sa, .inl (cS, 4, .inr (.inr (.inr (.inr f))))), (rs, .inr (1, [.ref rsb, .int (nI n2)])), (rsb, .inl (cB, 65536, .inl (bF b2)))] (kQi D (kT cI cB cJ cS) (fun r (ug : Unit) => r = nI (n2)) (fun ug => [(x, .inr (4, [.ref sa, .ref a, .ref rs, .ref rd, .ref wt])), (sa, .inl (cS, 4, .inr (.inr (.inr (.inr f))))), (rs, .inr (1, [.ref rsb, .int (nI n2)])), (rsb, .inl (cB, 65536, .inl (bF b2)))])) := by
  refine k_ofW (by decide) rfl (Nat.le_of_ble_eq_true rfl) ?_
  intro p e s m below meth c A ls hx hb hr hts hown hlocks hmn hml hA hP hK hD hS hZ hl
  have inX3 : ∀ w ∈ wsX30, w ∈ vsX6_count := fun w h => List.mem_cons_of_mem _ (iaX3 w h)
  have inX6 : ∀ w ∈ wsX60, w ∈ vsX6_count := fun w h => List.mem_cons_of_mem _ (iaX6 w h)
  have F : CallFix p m c cX6_count 4 s _ vsX6_count RX6 := ⟨hx, hb, hml, hown, hts⟩
  have hl : lv_has ls 4 [(0, .ref x), (1, .int (nI k)), (2, .int (nI 3))] := hl
  refine lv_aload_n hx hb dX6_count_0 rfl (lv_at hl 0 rfl) ?_
  refine lv_iload_n hx hb dX6_count_1 rfl (lv_at hl 1 rfl) ?_
  refine k_cr (wr := [(rs, .inr (1, [.ref rsb, .int (nI n2)])), (rsb, .inl (cB, 65536, .inl (bF b2)))]) (k_rv F (c_shapeIn l D cI cB cJ cS x sa a rs rd wt f sh k hk hf) (cwV 1 hts (g_V wd_239 wd_240 wd_241 wd_8 wd_242) rfl rfl rfl (by decide +kernel) ⟨Nat.le_of_ble_eq_true rfl, Nat.le_of_ble_eq_true rfl⟩) hK hP hD hS hA hZ [0, 1] rfl (by decide) 0 rfl rfl rfl rfl hl.1 rfl (Nat.le_of_ble_eq_true rfl) dX6_count_2 ⟨Nat.le_of_ble_eq_true rfl, Nat.le_of_ble_eq_true rfl⟩) hP hD hS hA [0, 1] [2, 3] rfl rfl (by decide) (by decide) (fun r u9 H locs hw hP hD hS => ?_)
  subst hw
  have hP : va_P D kCl [(rs, .inr (1, [.ref rsb, .int (nI n2)])), (rsb, .inl (cB, 65536, .inl (bF b2))), (x, .inr (4, [.ref sa, .ref a, .ref rs, .ref rd, .ref wt])), (sa, .inl (cS, 4, .inr (.inr (.inr (.inr f)))))] H := hP
  have hD : va_D A [(rs, .inr (1, [.ref rsb, .int (nI n2)])), (rsb, .inl (cB, 65536, .inl (bF b2))), (x, .inr (4, [.ref sa, .ref a, .ref rs, .ref rd, .ref wt])), (sa, .inl (cS, 4, .inr (.inr (.inr (.inr f)))))] := hD
  refine W.widen (k := 0) (n := 0) (Nat.le_of_ble_eq_true rfl) (Nat.le_of_ble_eq_true rfl) ?_
  refine lv_astore_n (lv' := [(3, .ref sh), (0, .ref x), (1, .int (nI k)), (2, .int (nI 3))]) hx hb dX6_count_5 rfl hl (by decide) rfl (fun ls hl => ?_)
  refine lv_iload_n hx hb dX6_count_6 rfl (lv_at hl 3 rfl) ?_
  refine lv_tableIn (off := 47) (tgt := 54) hx hb dX6_count_7 (by decide) (by decide) (by decide) (by decide) ?_
  refine lv_aload_n hx hb dX6_count_54 rfl (lv_at hl 1 rfl) ?_
  refine va_get (D := D) (ci := 4) (v := .ref rs) (C := RX6) (T := TX6) (N := 5) hx hb hts inX6 hown hK hP 2 rfl rfl 2 (by decide) (hts (.fieldLink RX6 25 "ByteShapes" "result" "LByteShapes$Row;") (List.mem_cons_of_mem _ wd_234)) (fun _ h9 => h9) rfl dX6_count_55 ?_
  refine k_ci (wr := [(x, .inr (4, [.ref sa, .ref a, .ref rs, .ref rd, .ref wt])), (sa, .inl (cS, 4, .inr (.inr (.inr (.inr f)))))]) (k_rv F (c_Row_size l D cI cB cJ cS rs rsb n2 b2) (cwV 0 hts (g_V wd_204 wd_48 wd_49 wd_50 wd_51) rfl rfl rfl (by decide +kernel) ⟨Nat.le_of_ble_eq_true rfl, Nat.le_of_ble_eq_true rfl⟩) hK hP hD hS hA hZ [0, 1] rfl (by decide) 0 rfl rfl rfl rfl hl.1 rfl (Nat.le_of_ble_eq_true rfl) dX6_count_58 ⟨Nat.le_of_ble_eq_true rfl, Nat.le_of_ble_eq_true rfl⟩) hP hD hS hA [0, 1] [2, 3] rfl rfl (by decide) (by decide) (fun r u9 H locs hw hP hD hS => ?_)
  subst hw
  have hP : va_P D kCl [(x, .inr (4, [.ref sa, .ref a, .ref rs, .ref rd, .ref wt])), (sa, .inl (cS, 4, .inr (.inr (.inr (.inr f))))), (rs, .inr (1, [.ref rsb, .int (nI n2)])), (rsb, .inl (cB, 65536, .inl (bF b2)))] H := hP
  have hD : va_D A [(x, .inr (4, [.ref sa, .ref a, .ref rs, .ref rd, .ref wt])), (sa, .inl (cS, 4, .inr (.inr (.inr (.inr f))))), (rs, .inr (1, [.ref rsb, .int (nI n2)])), (rsb, .inl (cB, 65536, .inl (bF b2)))] := hD
  refine W.widen (k := 0) (n := 0) (Nat.le_of_ble_eq_true rfl) (Nat.le_of_ble_eq_true rfl) ?_
  exact k_iret () hx hb hr (by first | rfl | decide | exact vp_nar_int _) hlocks hK hP hD hS (rfl) (rfl) (Nat.le_of_ble_eq_true rfl) (Nat.le_of_ble_eq_true rfl) dX6_count_61

set_option maxRecDepth 100000 in
set_option maxHeartbeats 4000000 in
theorem c_countX1 (l : Launch) (D : va_G) (cI cB cJ cS : ClassId) (hl9 : l.stackTraces = false) (x sa a rs rd wt : Nat) (z : Int32) (hz : z < 0 ∨ nI 4 ≤ z) (z2 : Int32) : kX l yX6_count vsX6_count ({ frames := 7, cells := 1, slots := 6, locals := 103 }) D (kT cI cB cJ cS) [.ref x, .int z, .int z2] [(x, .inr (4, [.ref sa, .ref a, .ref rs, .ref rd, .ref wt]))] "java/lang/IndexOutOfBoundsException" [(x, .inr (4, [.ref sa, .ref a, .ref rs, .ref rd, .ref wt]))] := by
  refine k_ofX (by decide) rfl (Nat.le_of_ble_eq_true rfl) ?_
  intro p e s m below meth c A ls hx hb hr hts hown hlocks hmn hml hA hP hK hD hS hZ hl hxt
  have inX6 : ∀ w ∈ wsX60, w ∈ vsX6_count := fun w h => List.mem_cons_of_mem _ (iaX6 w h)
  have F : CallFix p m c cX6_count 4 s _ vsX6_count RX6 := ⟨hx, hb, hml, hown, hts⟩
  have hl : lv_has ls 4 [(0, .ref x), (1, .int z), (2, .int z2)] := hl
  refine lv_aload_n hx hb dX6_count_0 rfl (lv_at hl 0 rfl) ?_
  refine lv_iload_n hx hb dX6_count_1 rfl (lv_at hl 1 rfl) ?_
  refine k_cx (wr := [(x, .inr (4, [.ref sa, .ref a, .ref rs, .ref rd, .ref wt]))]) (k_rvX F (c_shapeInX l D cI cB cJ cS hl9 x z hz) (cwV 1 hts (g_V wd_239 wd_240 wd_241 wd_8 wd_242) rfl rfl rfl (by decide +kernel) ⟨Nat.le_of_ble_eq_true rfl, Nat.le_of_ble_eq_true rfl⟩) hK hP hD hS hA hZ [] rfl (by decide) 0 rfl rfl rfl rfl hl.1 rfl (Nat.le_of_ble_eq_true rfl) dX6_count_2 ⟨Nat.le_of_ble_eq_true rfl, Nat.le_of_ble_eq_true rfl⟩) hP hD hS hA [] [0] rfl rfl (by decide) (by decide) (fun q9 ce H locs hP hD hS hce hcv hcl => ?_)
  have hP : va_P D kCl [(x, .inr (4, [.ref sa, .ref a, .ref rs, .ref rd, .ref wt]))] H := hP
  have hD : va_D A [(x, .inr (4, [.ref sa, .ref a, .ref rs, .ref rd, .ref wt]))] := hD
  exact vx_widen (k := 1) (n := 6) (Nat.le_of_ble_eq_true rfl) (Nat.le_of_ble_eq_true rfl) (k_out hxt hlocks hce hcv hcl hK hP hD hS (rfl) (Nat.le_of_ble_eq_true rfl) (Nat.le_of_ble_eq_true rfl))

set_option maxRecDepth 100000 in
set_option maxHeartbeats 4000000 in
theorem c_countX2 (l : Launch) (D : va_G) (cI cB cJ cS : ClassId) (hl9 : l.stackTraces = false) (x sa a rs rd wt : Nat) (f : Nat → Option Nat) (sh k : Nat) (hk : k < 4) (hf : f k = some sh) (z : Int32) (hz : z < 0 ∨ nI 3 < z) : kX l yX6_count vsX6_count ({ frames := 6, cells := 1, slots := 6, locals := 82 }) D (kT cI cB cJ cS) [.ref x, .int (nI k), .int z] [(x, .inr (4, [.ref sa, .ref a, .ref rs, .ref rd, .ref wt])), (sa, .inl (cS, 4, .inr (.inr (.inr (.inr f)))))] "java/lang/IndexOutOfBoundsException" [(x, .inr (4, [.ref sa, .ref a, .ref rs, .ref rd, .ref wt])), (sa, .inl (cS, 4, .inr (.inr (.inr (.inr f)))))] := by
  refine k_ofX (by decide) rfl (Nat.le_of_ble_eq_true rfl) ?_
  intro p e s m below meth c A ls hx hb hr hts hown hlocks hmn hml hA hP hK hD hS hZ hl hxt
  have inX6 : ∀ w ∈ wsX60, w ∈ vsX6_count := fun w h => List.mem_cons_of_mem _ (iaX6 w h)
  have F : CallFix p m c cX6_count 4 s _ vsX6_count RX6 := ⟨hx, hb, hml, hown, hts⟩
  have hl : lv_has ls 4 [(0, .ref x), (1, .int (nI k)), (2, .int z)] := hl
  refine lv_aload_n hx hb dX6_count_0 rfl (lv_at hl 0 rfl) ?_
  refine lv_iload_n hx hb dX6_count_1 rfl (lv_at hl 1 rfl) ?_
  refine k_cr (wr := []) (k_rv F (c_shapeIn l D cI cB cJ cS x sa a rs rd wt f sh k hk hf) (cwV 1 hts (g_V wd_239 wd_240 wd_241 wd_8 wd_242) rfl rfl rfl (by decide +kernel) ⟨Nat.le_of_ble_eq_true rfl, Nat.le_of_ble_eq_true rfl⟩) hK hP hD hS hA hZ [0, 1] rfl (by decide) 0 rfl rfl rfl rfl hl.1 rfl (Nat.le_of_ble_eq_true rfl) dX6_count_2 ⟨Nat.le_of_ble_eq_true rfl, Nat.le_of_ble_eq_true rfl⟩) hP hD hS hA [0, 1] [] rfl rfl (by decide) (by decide) (fun r u9 H locs hw hP hD hS => ?_)
  subst hw
  have hP : va_P D kCl [(x, .inr (4, [.ref sa, .ref a, .ref rs, .ref rd, .ref wt])), (sa, .inl (cS, 4, .inr (.inr (.inr (.inr f)))))] H := hP
  have hD : va_D A [(x, .inr (4, [.ref sa, .ref a, .ref rs, .ref rd, .ref wt])), (sa, .inl (cS, 4, .inr (.inr (.inr (.inr f)))))] := hD
  refine W.widen (k := 0) (n := 0) (Nat.le_of_ble_eq_true rfl) (Nat.le_of_ble_eq_true rfl) ?_
  refine lv_astore_n (lv' := [(3, .ref sh), (0, .ref x), (1, .int (nI k)), (2, .int z)]) hx hb dX6_count_5 rfl hl (by decide) rfl (fun ls hl => ?_)
  refine lv_iload_n hx hb dX6_count_6 rfl (lv_at hl 3 rfl) ?_
  refine lv_tableOut (tgt := 62) hx hb dX6_count_7 (tab_out hz) (by decide) ?_
  exact k_thr (own := RX6) (E := "java/lang/IndexOutOfBoundsException") (names := ["java/lang/RuntimeException", "java/lang/Exception"]) (text := "what is 0 to 3") hx hb hl9 hown (by decide +kernel) (by decide +kernel) (hts (.classLink RX6 87 "java/lang/IndexOutOfBoundsException") (List.mem_cons_of_mem _ wd_201)) (hts (.initialized "java/lang/IndexOutOfBoundsException") (List.mem_cons_of_mem _ wd_180)) (hZ.str (q := (RX6, 139, "what is 0 to 3")) (by decide +kernel)) (vx_hat (L := vx_atS RX6 91 "java/lang/IndexOutOfBoundsException" ["java/lang/RuntimeException", "java/lang/Exception"]) (B := [.castable "java/lang/IndexOutOfBoundsException" "java/lang/IndexOutOfBoundsException", .declares ⟨"java/lang/RuntimeException", "<init>", "(Ljava/lang/String;)V"⟩, .declares ⟨"java/lang/Exception", "<init>", "(Ljava/lang/String;)V"⟩, .declares ⟨"java/lang/Throwable", "<init>", "(Ljava/lang/String;)V"⟩]) (fun w hw => hts w (List.mem_cons_of_mem _ (atw_2 w hw))) (by decide +kernel) (vx_c (va_Nw.use rfl (hZ.nw (w := .castable "java/lang/IndexOutOfBoundsException" "java/lang/IndexOutOfBoundsException") (by decide +kernel))) (vx_c (va_Nw.use rfl (hZ.nw (w := .declares ⟨"java/lang/RuntimeException", "<init>", "(Ljava/lang/String;)V"⟩) (by decide +kernel))) (vx_c (va_Nw.use rfl (hZ.nw (w := .declares ⟨"java/lang/Exception", "<init>", "(Ljava/lang/String;)V"⟩) (by decide +kernel))) (vx_c (va_Nw.use rfl (hZ.nw (w := .declares ⟨"java/lang/Throwable", "<init>", "(Ljava/lang/String;)V"⟩) (by decide +kernel))) (vx_n)))))) (by decide +kernel) hZ hK hP hD hS (hl.1.trans hml.symm) dX6_count_62 dX6_count_65 dX6_count_66 dX6_count_68 dX6_count_71 hxt (Nat.le_of_ble_eq_true rfl) (Nat.le_of_ble_eq_true rfl) (Nat.le_of_ble_eq_true rfl) (Nat.le_of_ble_eq_true rfl) hlocks (rfl) (Nat.le_of_ble_eq_true rfl) (Nat.le_of_ble_eq_true rfl)

