set_option maxRecDepth 100000 in
set_option maxHeartbeats 4000000 in
theorem c_between (l : Launch) (D : va_G) (cI cB cJ cS : ClassId) (x y z : Int32)  : kM l yX6_between vsX6_between ({ frames := 1, cells := 0, slots := 0, locals := 21 }) D (kT cI cB cJ cS) [.int x, .int y, .int z] [] (kQi D (kT cI cB cJ cS) (fun r (ug : Unit) => r = bw x y z) (fun ug => [])) := by
  refine k_ofW (by decide) rfl (Nat.le_of_ble_eq_true rfl) ?_
  intro p e s m below meth c A ls hx hb hr hts hown hlocks hmn hml hA hP hK hD hS hZ hl
  have F : CallFix p m c cX6_between 3 s _ vsX6_between RX6 := ⟨hx, hb, hml, hown, hts⟩
  have hl : lv_has ls 3 [(0, .int x), (1, .int y), (2, .int z)] := hl
  refine lv_iload_n hx hb dX6_between_0 rfl (lv_at hl 0 rfl) ?_
  refine lv_iload_n hx hb dX6_between_1 rfl (lv_at hl 1 rfl) ?_
  refine lv_iload_n hx hb dX6_between_2 rfl (lv_at hl 2 rfl) ?_
  refine va_mmin hx hb (hml.trans hl.1.symm) hown (hts (.methodLink RX6 141 Lib.Math.min.name) (List.mem_cons_of_mem _ wd_0)) (hts (.static Lib.Math.min.name) (List.mem_cons_of_mem _ wd_1)) (hts (.initialized "java/lang/Math") (List.mem_cons_of_mem _ wd_2)) (hts (.code Lib.Math.min.name Lib.Math.min.code 2 (some .int)) (List.mem_cons_of_mem _ wd_3)) (Nat.le_of_ble_eq_true rfl) (Nat.le_of_ble_eq_true rfl) (Nat.zero_le _) (Nat.zero_le _) dX6_between_3 ?_
  refine va_mmax hx hb (hml.trans hl.1.symm) hown (hts (.methodLink RX6 146 Lib.Math.max.name) (List.mem_cons_of_mem _ wd_4)) (hts (.static Lib.Math.max.name) (List.mem_cons_of_mem _ wd_5)) (hts (.initialized "java/lang/Math") (List.mem_cons_of_mem _ wd_2)) (hts (.code Lib.Math.max.name Lib.Math.max.code 2 (some .int)) (List.mem_cons_of_mem _ wd_6)) (Nat.le_of_ble_eq_true rfl) (Nat.le_of_ble_eq_true rfl) (Nat.zero_le _) (Nat.zero_le _) dX6_between_6 ?_
  exact k_iret () hx hb hr (by first | rfl | decide | exact vp_nar_int _) hlocks hK hP hD hS (rfl) (rfl) (Nat.le_of_ble_eq_true rfl) (Nat.le_of_ble_eq_true rfl) dX6_between_9

set_option maxRecDepth 100000 in
set_option maxHeartbeats 4000000 in
theorem c_Row_size (l : Launch) (D : va_G) (cI cB cJ cS : ClassId) (a ab n : Nat) (b : Nat → Nat)  : kM l yX3_size vsX3_size ({ frames := 0, cells := 0, slots := 0, locals := 0 }) D (kT cI cB cJ cS) [.ref a] [(a, .inr (1, [.ref ab, .int (nI n)])), (ab, .inl (cB, 65536, .inl (bF b)))] (kQi D (kT cI cB cJ cS) (fun r (ug : Unit) => r = nI n) (fun ug => [(a, .inr (1, [.ref ab, .int (nI n)])), (ab, .inl (cB, 65536, .inl (bF b)))])) := by
  refine k_ofW (by decide) rfl (Nat.le_of_ble_eq_true rfl) ?_
  intro p e s m below meth c A ls hx hb hr hts hown hlocks hmn hml hA hP hK hD hS hZ hl
  have inX3 : ∀ w ∈ wsX30, w ∈ vsX3_size := fun w h => List.mem_cons_of_mem _ (iaX3 w h)
  have F : CallFix p m c cX3_size 1 s _ vsX3_size RX3 := ⟨hx, hb, hml, hown, hts⟩
  have hl : lv_has ls 1 [(0, .ref a)] := hl
  refine lv_aload_n hx hb dX3_size_0 rfl (lv_at hl 0 rfl) ?_
  refine va_get (D := D) (ci := 1) (v := .int (nI n)) (C := RX3) (T := TX3) (N := 2) hx hb hts inX3 hown hK hP 0 rfl rfl 1 (by decide) (hts (.fieldLink RX3 19 "ByteShapes$Row" "size" "I") (List.mem_cons_of_mem _ wd_7)) (fun _ h9 => h9) rfl dX3_size_1 ?_
  exact k_iret () hx hb hr (by first | rfl | decide | exact vp_nar_int _) hlocks hK hP hD hS (rfl) (rfl) (Nat.le_of_ble_eq_true rfl) (Nat.le_of_ble_eq_true rfl) dX3_size_4

set_option maxRecDepth 100000 in
set_option maxHeartbeats 4000000 in
theorem c_Row_cut (l : Launch) (D : va_G) (cI cB cJ cS : ClassId) (a ab n : Nat) (b : Nat → Nat) (j : Nat) (hj : j ≤ n) (hn : n ≤ 65536)  : kM l yX3_cut vsX3_cut ({ frames := 2, cells := 0, slots := 0, locals := 43 }) D (kT cI cB cJ cS) [.ref a, .int (nI j)] [(a, .inr (1, [.ref ab, .int (nI n)])), (ab, .inl (cB, 65536, .inl (bF b)))] (kQv D (kT cI cB cJ cS) (fun (ug : Unit) => True) (fun ug => [(a, .inr (1, [.ref ab, .int (nI j)])), (ab, .inl (cB, 65536, .inl (bF b)))])) := by
  refine k_ofW (by decide) rfl (Nat.le_of_ble_eq_true rfl) ?_
  intro p e s m below meth c A ls hx hb hr hts hown hlocks hmn hml hA hP hK hD hS hZ hl
  have inX3 : ∀ w ∈ wsX30, w ∈ vsX3_cut := fun w h => List.mem_cons_of_mem _ (iaX3 w h)
  have F : CallFix p m c cX3_cut 2 s _ vsX3_cut RX3 := ⟨hx, hb, hml, hown, hts⟩
  have hl : lv_has ls 2 [(0, .ref a), (1, .int (nI j))] := hl
  refine lv_aload_n hx hb dX3_cut_0 rfl (lv_at hl 0 rfl) ?_
  refine lv_iconst (v := nI 0) hx hb dX3_cut_1 (by decide) ?_
  refine lv_iload_n hx hb dX3_cut_2 rfl (lv_at hl 1 rfl) ?_
  refine lv_aload_n hx hb dX3_cut_3 rfl (lv_at hl 0 rfl) ?_
  refine va_get (D := D) (ci := 1) (v := .int (nI n)) (C := RX3) (T := TX3) (N := 2) hx hb hts inX3 hown hK hP 0 rfl rfl 1 (by decide) (hts (.fieldLink RX3 19 "ByteShapes$Row" "size" "I") (List.mem_cons_of_mem _ wd_7)) (fun _ h9 => h9) rfl dX3_cut_4 ?_
  refine k_ci (wr := [(a, .inr (1, [.ref ab, .int (nI n)])), (ab, .inl (cB, 65536, .inl (bF b)))]) (k_rsN F (c_between l D cI cB cJ cS (nI 0) (nI j) (nI n)) ⟨va_cnB 3 hts (g_I wd_10) rfl rfl rfl (hZ.nw (w := .methodLinkNest "ByteShapes$Row" 23 ⟨"ByteShapes", "between", "(III)I"⟩ "ByteShapes") (by decide +kernel)) (hts (.initialized RX6) (List.mem_cons_of_mem _ wd_8)) (by decide +kernel) ⟨Nat.le_of_ble_eq_true rfl, Nat.le_of_ble_eq_true rfl⟩, hts (.static yX6_between) (List.mem_cons_of_mem _ wd_9), trivial⟩ hK hP hD hS hA hZ [] rfl (by decide) rfl hl.1 rfl (Nat.le_of_ble_eq_true rfl) dX3_cut_7 ⟨Nat.le_of_ble_eq_true rfl, Nat.le_of_ble_eq_true rfl⟩) hP hD hS hA [] [0, 1] rfl rfl (by decide) (by decide) (fun r u9 H locs hw hP hD hS => ?_)
  subst hw
  have hP : va_P D kCl [(a, .inr (1, [.ref ab, .int (nI n)])), (ab, .inl (cB, 65536, .inl (bF b)))] H := hP
  have hD : va_D A [(a, .inr (1, [.ref ab, .int (nI n)])), (ab, .inl (cB, 65536, .inl (bF b)))] := hD
  refine W.widen (k := 0) (n := 0) (Nat.le_of_ble_eq_true rfl) (Nat.le_of_ble_eq_true rfl) ?_
  refine k_i (show _ = nI j from bw_cut hj (by omega)) ?_
  refine va_put (D := D) (ci := 1) (v := .int (nI j)) (ty := .int) (C := RX3) (T := TX3) (N := 2) hx hb hts inX3 tyX3 tyX3_ok nmX3 hown hK hP hD hS 0 rfl rfl 1 (by decide) (hts (.fieldLink RX3 19 "ByteShapes$Row" "size" "I") (List.mem_cons_of_mem _ wd_7)) (fun _ h9 => h9) rfl (by decide +kernel) (rfl) (rfl) (Nat.le_of_ble_eq_true rfl) dX3_cut_10 (fun H locs hP hD hS => ?_)
  have hP : va_P D kCl [(a, .inr (1, [.ref ab, .int (nI j)])), (ab, .inl (cB, 65536, .inl (bF b)))] H := hP
  have hD : va_D A [(a, .inr (1, [.ref ab, .int (nI j)])), (ab, .inl (cB, 65536, .inl (bF b)))] := hD
  exact k_vret () hx hb hr hlocks hK hP hD hS (rfl) (trivial) (Nat.le_of_ble_eq_true rfl) (Nat.le_of_ble_eq_true rfl) dX3_cut_13

set_option maxRecDepth 100000 in
set_option maxHeartbeats 4000000 in
theorem c_Row_valueAt (l : Launch) (D : va_G) (cI cB cJ cS : ClassId) (a ab n : Nat) (b : Nat → Nat) (j : Nat) (hj : j < n) (hn : n ≤ 65536) (hb256 : ∀ j, b j < 256)  : kM l yX3_valueAt vsX3_valueAt ({ frames := 0, cells := 0, slots := 0, locals := 0 }) D (kT cI cB cJ cS) [.ref a, .int (nI j)] [(a, .inr (1, [.ref ab, .int (nI n)])), (ab, .inl (cB, 65536, .inl (bF b)))] (kQi D (kT cI cB cJ cS) (fun r (ug : Unit) => r = nI (b j)) (fun ug => [(a, .inr (1, [.ref ab, .int (nI n)])), (ab, .inl (cB, 65536, .inl (bF b)))])) := by
  refine k_ofW (by decide) rfl (Nat.le_of_ble_eq_true rfl) ?_
  intro p e s m below meth c A ls hx hb hr hts hown hlocks hmn hml hA hP hK hD hS hZ hl
  have inX3 : ∀ w ∈ wsX30, w ∈ vsX3_valueAt := fun w h => List.mem_cons_of_mem _ (iaX3 w h)
  have F : CallFix p m c cX3_valueAt 2 s _ vsX3_valueAt RX3 := ⟨hx, hb, hml, hown, hts⟩
  have hl : lv_has ls 2 [(0, .ref a), (1, .int (nI j))] := hl
  refine lv_iload_n hx hb dX3_valueAt_0 rfl (lv_at hl 1 rfl) ?_
  refine k_if_lt (tgt := 12) (by omega) hx hb dX3_valueAt_1 (by decide) (fun c1 => ?_) (fun c1 => ?_)
  · skip
    exact c1.elim
  · skip
    refine lv_iload_n hx hb dX3_valueAt_4 rfl (lv_at hl 1 rfl) ?_
    refine lv_aload_n hx hb dX3_valueAt_5 rfl (lv_at hl 0 rfl) ?_
    refine va_get (D := D) (ci := 1) (v := .int (nI n)) (C := RX3) (T := TX3) (N := 2) hx hb hts inX3 hown hK hP 0 rfl rfl 1 (by decide) (hts (.fieldLink RX3 19 "ByteShapes$Row" "size" "I") (List.mem_cons_of_mem _ wd_7)) (fun _ h9 => h9) rfl dX3_valueAt_6 ?_
    refine k_icmp_lt (tgt := 22) (by omega) (by omega) hx hb dX3_valueAt_9 (by decide) (fun c2 => ?_) (fun c2 => ?_)
    · skip
      refine lv_aload_n hx hb dX3_valueAt_22 rfl (lv_at hl 0 rfl) ?_
      refine va_get (D := D) (ci := 1) (v := .ref ab) (C := RX3) (T := TX3) (N := 2) hx hb hts inX3 hown hK hP 0 rfl rfl 0 (by decide) (hts (.fieldLink RX3 13 "ByteShapes$Row" "bytes" "[B") (List.mem_cons_of_mem _ wd_11)) (fun _ h9 => h9) rfl dX3_valueAt_23 ?_
      refine lv_iload_n hx hb dX3_valueAt_26 rfl (lv_at hl 1 rfl) ?_
      refine va_bald hx hb hK hP 1 1 rfl rfl (vp_in_nI (by omega) (by omega)) dX3_valueAt_27 ?_
      refine k_i (show _ = (bF b) j from congrArg (bF b) (nI_clamp (by omega))) ?_
      refine lv_sipush (v := nI 255) hx hb dX3_valueAt_28 (by decide) ?_
      refine lv_iand hx hb dX3_valueAt_31 ?_
      refine k_i (show _ = nI (b j) from bF_and hb256 _) ?_
      exact k_iret () hx hb hr (by first | rfl | decide | exact vp_nar_int _) hlocks hK hP hD hS (rfl) (rfl) (Nat.le_of_ble_eq_true rfl) (Nat.le_of_ble_eq_true rfl) dX3_valueAt_32
    · skip
      exact absurd c2 (by omega)

set_option maxRecDepth 100000 in
set_option maxHeartbeats 4000000 in
theorem c_Row_numberAt (l : Launch) (D : va_G) (cI cB cJ cS : ClassId) (a ab n : Nat) (b : Nat → Nat) (q len lo : Nat) (hq : q + len ≤ n) (hn : n ≤ 65536) (hlen : len ≤ 8) (hlo2 : lo < 2) (hb256 : ∀ j, b j < 256)  : kM l yX3_numberAt vsX3_numberAt ({ frames := 0, cells := 0, slots := 0, locals := 0 }) D (kT cI cB cJ cS) [.ref a, .int (nI q), .int (nI len), .int (nI lo)] [(a, .inr (1, [.ref ab, .int (nI n)])), (ab, .inl (cB, 65536, .inl (bF b)))] (kQl D (kT cI cB cJ cS) (fun r (ug : Unit) => r = lN (pN b q len lo)) (fun ug => [(a, .inr (1, [.ref ab, .int (nI n)])), (ab, .inl (cB, 65536, .inl (bF b)))])) := by
  refine k_ofW (by decide) rfl (Nat.le_of_ble_eq_true rfl) ?_
  intro p e s m below meth c A ls hx hb hr hts hown hlocks hmn hml hA hP hK hD hS hZ hl
  have inX3 : ∀ w ∈ wsX30, w ∈ vsX3_numberAt := fun w h => List.mem_cons_of_mem _ (iaX3 w h)
  have F : CallFix p m c cX3_numberAt 8 s _ vsX3_numberAt RX3 := ⟨hx, hb, hml, hown, hts⟩
  have hl : lv_has ls 8 [(0, .ref a), (1, .int (nI q)), (2, .int (nI len)), (3, .int (nI lo))] := hl
  refine lv_iload_n hx hb dX3_numberAt_0 rfl (lv_at hl 1 rfl) ?_
  refine k_if_lt (tgt := 18) (by omega) hx hb dX3_numberAt_1 (by decide) (fun c3 => ?_) (fun c3 => ?_)
  · skip
    exact c3.elim
  · skip
    refine lv_iload_n hx hb dX3_numberAt_4 rfl (lv_at hl 2 rfl) ?_
    refine k_if_lt (tgt := 18) (by omega) hx hb dX3_numberAt_5 (by decide) (fun c4 => ?_) (fun c4 => ?_)
    · skip
      exact c4.elim
    · skip
      refine lv_iload_n hx hb dX3_numberAt_8 rfl (lv_at hl 2 rfl) ?_
      refine lv_aload_n hx hb dX3_numberAt_9 rfl (lv_at hl 0 rfl) ?_
      refine va_get (D := D) (ci := 1) (v := .int (nI n)) (C := RX3) (T := TX3) (N := 2) hx hb hts inX3 hown hK hP 0 rfl rfl 1 (by decide) (hts (.fieldLink RX3 19 "ByteShapes$Row" "size" "I") (List.mem_cons_of_mem _ wd_7)) (fun _ h9 => h9) rfl dX3_numberAt_10 ?_
      refine lv_iload_n hx hb dX3_numberAt_13 rfl (lv_at hl 1 rfl) ?_
      refine lv_isub hx hb dX3_numberAt_14 ?_
      refine k_i (show _ = nI (n - q) from pk_sub (by omega)) ?_
      refine k_icmp_le (tgt := 28) (by omega) (by omega) hx hb dX3_numberAt_15 (by decide) (fun c5 => ?_) (fun c5 => ?_)
      · skip
        refine lv_lconst (v := lN 0) hx hb dX3_numberAt_28 (by decide) ?_
        refine lv_lstore (lv' := [(4, .long (lN 0)), (0, .ref a), (1, .int (nI q)), (2, .int (nI len)), (3, .int (nI lo))]) hx hb dX3_numberAt_29 hl (by decide) rfl (fun ls hl => ?_)
        refine lv_iconst (v := nI 0) hx hb dX3_numberAt_31 (by decide) ?_
        refine lv_istore (lv' := [(6, .int (nI 0)), (4, .long (lN 0)), (0, .ref a), (1, .int (nI q)), (2, .int (nI len)), (3, .int (nI lo))]) hx hb dX3_numberAt_32 hl (by decide) rfl (fun ls hl => ?_)
        rw [show lN 0 = lN (pI b q len lo 0) from by unfold pI; split <;> rfl] at hl
        have loop6 : ∀ (k7 : Nat) (i : Nat) (H : Heap) (locs : List Loc) (ls : Array Slot), len - i < k7 → (i ≤ len) → va_P D kCl [(a, .inr (1, [.ref ab, .int (nI n)])), (ab, .inl (cB, 65536, .inl (bF b)))] H → va_D A [(a, .inr (1, [.ref ab, .int (nI n)])), (ab, .inl (cB, 65536, .inl (bF b)))] → va_S A s.heap H locs → lv_has ls 8 [(0, .ref a), (1, .int (nI q)), (2, .int (nI len)), (3, .int (nI lo)), (4, .long (lN (pI b q len lo i))), (6, .int (nI i))] → W p l e ({ frames := 0, cells := 0, slots := 0, locals := 0 }) s m ([.ref a, .int (nI q), .int (nI len), .int (nI lo)] : List Value).toArray below meth c H locs 0 0 (MQ below ((kQl D (kT cI cB cJ cS) (fun r (ug : Unit) => r = lN (pN b q len lo)) (fun ug => [(a, .inr (1, [.ref ab, .int (nI n)])), (ab, .inl (cB, 65536, .inl (bF b)))])) A) ([.ref a, .int (nI q), .int (nI len), .int (nI lo)] : List Value).toArray s ({ frames := 0, cells := 0, slots := 0, locals := 0 } : Room).cells ({ frames := 0, cells := 0, slots := 0, locals := 0 } : Room).slots A) (F0 m 34 ls []) := by
          intro k7
          induction k7 with
          | zero =>
            intro i H locs ls hk9
            exact absurd hk9 (Nat.not_lt_zero _)
          | succ k7 ihloop6 =>
            intro i H locs ls hk9 hi hP hD hS hl
            refine lv_iload hx hb dX3_numberAt_34 (lv_at hl 5 rfl) ?_
            refine lv_iload_n hx hb dX3_numberAt_36 rfl (lv_at hl 2 rfl) ?_
            refine k_icmp_ge (tgt := 87) (by omega) (by omega) hx hb dX3_numberAt_37 (by decide) (fun c8 => ?_) (fun c8 => ?_)
            · skip
              refine lv_lload hx hb dX3_numberAt_87 (lv_at hl 4 rfl) ?_
              exact k_lret () hx hb hr hlocks hK hP hD hS (rfl) (by rw [show i = len by omega]; rfl) (Nat.le_of_ble_eq_true rfl) (Nat.le_of_ble_eq_true rfl) dX3_numberAt_89
            · skip
              refine lv_iload_n hx hb dX3_numberAt_40 rfl (lv_at hl 3 rfl) ?_
              refine k_if_eq (tgt := 55) (by omega) hx hb dX3_numberAt_41 (by decide) (fun hlo => ?_) (fun hlo => ?_)
              · skip
                refine lv_iload_n hx hb dX3_numberAt_55 rfl (lv_at hl 1 rfl) ?_
                refine lv_iload hx hb dX3_numberAt_56 (lv_at hl 5 rfl) ?_
                refine lv_iadd hx hb dX3_numberAt_58 ?_
                refine k_i (show _ = nI (q + i) from nI_add _ _) ?_
                refine lv_istore (lv' := [(7, .int (nI (q + i))), (0, .ref a), (1, .int (nI q)), (2, .int (nI len)), (3, .int (nI lo)), (4, .long (lN (pI b q len lo i))), (6, .int (nI i))]) hx hb dX3_numberAt_59 hl (by decide) rfl (fun ls hl => ?_)
                refine lv_lload hx hb dX3_numberAt_61 (lv_at hl 5 rfl) ?_
                refine lv_bipush (v := nI 8) hx hb dX3_numberAt_63 (by decide) ?_
                refine lv_lshl (v := (lN (pI b q len lo i)) <<< ((nI 8).toInt64 &&& 63)) hx hb dX3_numberAt_65 (rfl) ?_
                refine lv_aload_n hx hb dX3_numberAt_66 rfl (lv_at hl 1 rfl) ?_
                refine va_get (D := D) (ci := 1) (v := .ref ab) (C := RX3) (T := TX3) (N := 2) hx hb hts inX3 hown hK hP 0 rfl rfl 0 (by decide) (hts (.fieldLink RX3 13 "ByteShapes$Row" "bytes" "[B") (List.mem_cons_of_mem _ wd_11)) (fun _ h9 => h9) rfl dX3_numberAt_67 ?_
                refine lv_iload hx hb dX3_numberAt_70 (lv_at hl 0 rfl) ?_
                refine va_bald hx hb hK hP 1 1 rfl rfl (vp_in_nI (by omega) (by omega)) dX3_numberAt_72 ?_
                refine k_i (show _ = (bF b) (q + i) from congrArg (bF b) (nI_clamp (by omega))) ?_
                refine lv_sipush (v := nI 255) hx hb dX3_numberAt_73 (by decide) ?_
                refine lv_iand hx hb dX3_numberAt_76 ?_
                refine k_i (show _ = nI (b (q + i)) from bF_and hb256 _) ?_
                refine lv_i2l (v := (nI (b (q + i))).toInt64) hx hb dX3_numberAt_77 rfl ?_
                refine lv_lor hx hb dX3_numberAt_78 ?_
                refine k_l (show _ = lN (pI b q len lo (i + 1)) from pI_step hb256 (by omega) (by first | rw [if_pos hlo] | rw [if_neg hlo])) ?_
                refine lv_lstore (lv' := [(4, .long (lN (pI b q len lo (i + 1)))), (7, .int (nI (q + i))), (0, .ref a), (1, .int (nI q)), (2, .int (nI len)), (3, .int (nI lo)), (6, .int (nI i))]) hx hb dX3_numberAt_79 hl (by decide) rfl (fun ls hl => ?_)
                refine lv_iinc (v := nI (i + 1)) (lv' := [(6, .int (nI (i + 1))), (4, .long (lN (pI b q len lo (i + 1)))), (7, .int (nI (q + i))), (0, .ref a), (1, .int (nI q)), (2, .int (nI len)), (3, .int (nI lo))]) hx hb dX3_numberAt_81 hl (k := 6) rfl (nI_add _ _) (by decide) rfl (fun ls hl => ?_)
                refine lv_goto (tgt := 34) hx hb dX3_numberAt_84 (by decide) ?_
                exact ihloop6 (i + 1) _ _ _ (by omega) (by omega) (hP.sub [0, 1] rfl) (hD.sub [0, 1] (by decide) rfl) hS (lv_sub hl [3, 4, 5, 6, 1, 0] rfl)
              · skip
                refine lv_iload_n hx hb dX3_numberAt_44 rfl (lv_at hl 1 rfl) ?_
                refine lv_iload_n hx hb dX3_numberAt_45 rfl (lv_at hl 2 rfl) ?_
                refine lv_iadd hx hb dX3_numberAt_46 ?_
                refine k_i (show _ = nI (q + len) from nI_add _ _) ?_
                refine lv_iconst (v := nI 1) hx hb dX3_numberAt_47 (by decide) ?_
                refine lv_isub hx hb dX3_numberAt_48 ?_
                refine k_i (show _ = nI ((q + len) - 1) from pk_sub (by omega)) ?_
                refine lv_iload hx hb dX3_numberAt_49 (lv_at hl 5 rfl) ?_
                refine lv_isub hx hb dX3_numberAt_51 ?_
                refine k_i (show _ = nI (((q + len) - 1) - i) from pk_sub (by omega)) ?_
                refine lv_goto (tgt := 59) hx hb dX3_numberAt_52 (by decide) ?_
                refine lv_istore (lv' := [(7, .int (nI (((q + len) - 1) - i))), (0, .ref a), (1, .int (nI q)), (2, .int (nI len)), (3, .int (nI lo)), (4, .long (lN (pI b q len lo i))), (6, .int (nI i))]) hx hb dX3_numberAt_59 hl (by decide) rfl (fun ls hl => ?_)
                refine lv_lload hx hb dX3_numberAt_61 (lv_at hl 5 rfl) ?_
                refine lv_bipush (v := nI 8) hx hb dX3_numberAt_63 (by decide) ?_
                refine lv_lshl (v := (lN (pI b q len lo i)) <<< ((nI 8).toInt64 &&& 63)) hx hb dX3_numberAt_65 (rfl) ?_
                refine lv_aload_n hx hb dX3_numberAt_66 rfl (lv_at hl 1 rfl) ?_
                refine va_get (D := D) (ci := 1) (v := .ref ab) (C := RX3) (T := TX3) (N := 2) hx hb hts inX3 hown hK hP 0 rfl rfl 0 (by decide) (hts (.fieldLink RX3 13 "ByteShapes$Row" "bytes" "[B") (List.mem_cons_of_mem _ wd_11)) (fun _ h9 => h9) rfl dX3_numberAt_67 ?_
                refine lv_iload hx hb dX3_numberAt_70 (lv_at hl 0 rfl) ?_
                refine va_bald hx hb hK hP 1 1 rfl rfl (vp_in_nI (by omega) (by omega)) dX3_numberAt_72 ?_
                refine k_i (show _ = (bF b) (((q + len) - 1) - i) from congrArg (bF b) (nI_clamp (by omega))) ?_
                refine lv_sipush (v := nI 255) hx hb dX3_numberAt_73 (by decide) ?_
                refine lv_iand hx hb dX3_numberAt_76 ?_
                refine k_i (show _ = nI (b (((q + len) - 1) - i)) from bF_and hb256 _) ?_
                refine lv_i2l (v := (nI (b (((q + len) - 1) - i))).toInt64) hx hb dX3_numberAt_77 rfl ?_
                refine lv_lor hx hb dX3_numberAt_78 ?_
                refine k_l (show _ = lN (pI b q len lo (i + 1)) from pI_step hb256 (by omega) (by first | rw [if_pos hlo] | rw [if_neg hlo])) ?_
                refine lv_lstore (lv' := [(4, .long (lN (pI b q len lo (i + 1)))), (7, .int (nI (((q + len) - 1) - i))), (0, .ref a), (1, .int (nI q)), (2, .int (nI len)), (3, .int (nI lo)), (6, .int (nI i))]) hx hb dX3_numberAt_79 hl (by decide) rfl (fun ls hl => ?_)
                refine lv_iinc (v := nI (i + 1)) (lv' := [(6, .int (nI (i + 1))), (4, .long (lN (pI b q len lo (i + 1)))), (7, .int (nI (((q + len) - 1) - i))), (0, .ref a), (1, .int (nI q)), (2, .int (nI len)), (3, .int (nI lo))]) hx hb dX3_numberAt_81 hl (k := 6) rfl (nI_add _ _) (by decide) rfl (fun ls hl => ?_)
                refine lv_goto (tgt := 34) hx hb dX3_numberAt_84 (by decide) ?_
                exact ihloop6 (i + 1) _ _ _ (by omega) (by omega) (hP.sub [0, 1] rfl) (hD.sub [0, 1] (by decide) rfl) hS (lv_sub hl [3, 4, 5, 6, 1, 0] rfl)
        exact loop6 ((len - 0) + 1) 0 _ _ _ (Nat.lt_succ_self _) (Nat.zero_le _) (hP.sub [0, 1] rfl) (hD.sub [0, 1] (by decide) rfl) hS (lv_sub hl [2, 3, 4, 5, 1, 0] rfl)
      · skip
        exact absurd c5 (by omega)

set_option maxRecDepth 100000 in
set_option maxHeartbeats 4000000 in
theorem c_Row_append (l : Launch) (D : va_G) (cI cB cJ cS : ClassId) (a ab n : Nat) (b : Nat → Nat) (v len lo : Nat) (hq : n + len ≤ 65536) (hlen : len ≤ 8) (hlo2 : lo < 2) (hv64 : v < 2 ^ 64)  : kM l yX3_append vsX3_append ({ frames := 0, cells := 0, slots := 0, locals := 0 }) D (kT cI cB cJ cS) [.ref a, .long (lN v), .int (nI len), .int (nI lo)] [(a, .inr (1, [.ref ab, .int (nI n)])), (ab, .inl (cB, 65536, .inl (bF b)))] (kQv D (kT cI cB cJ cS) (fun (ug : Unit) => True) (fun ug => [(a, .inr (1, [.ref ab, .int (nI (n + len))])), (ab, .inl (cB, 65536, .inl (bF (pA b n v len lo len))))])) := by
  refine k_ofW (by decide) rfl (Nat.le_of_ble_eq_true rfl) ?_
  intro p e s m below meth c A ls hx hb hr hts hown hlocks hmn hml hA hP hK hD hS hZ hl
  have inX3 : ∀ w ∈ wsX30, w ∈ vsX3_append := fun w h => List.mem_cons_of_mem _ (iaX3 w h)
  have F : CallFix p m c cX3_append 7 s _ vsX3_append RX3 := ⟨hx, hb, hml, hown, hts⟩
  have hl : lv_has ls 7 [(0, .ref a), (1, .long (lN v)), (3, .int (nI len)), (4, .int (nI lo))] := hl
  refine lv_iconst (v := nI 0) hx hb dX3_append_0 (by decide) ?_
  refine lv_istore (lv' := [(5, .int (nI 0)), (0, .ref a), (1, .long (lN v)), (3, .int (nI len)), (4, .int (nI lo))]) hx hb dX3_append_1 hl (by decide) rfl (fun ls hl => ?_)
  have loop9 : ∀ (k10 : Nat) (i : Nat) (H : Heap) (locs : List Loc) (ls : Array Slot), len - i < k10 → (i ≤ len) → va_P D kCl [(a, .inr (1, [.ref ab, .int (nI (n + i))])), (ab, .inl (cB, 65536, .inl (bF (pA b n v len lo i))))] H → va_D A [(a, .inr (1, [.ref ab, .int (nI (n + i))])), (ab, .inl (cB, 65536, .inl (bF (pA b n v len lo i))))] → va_S A s.heap H locs → lv_has ls 7 [(0, .ref a), (1, .long (lN v)), (3, .int (nI len)), (4, .int (nI lo)), (5, .int (nI i))] → W p l e ({ frames := 0, cells := 0, slots := 0, locals := 0 }) s m ([.ref a, .long (lN v), .int (nI len), .int (nI lo)] : List Value).toArray below meth c H locs 0 0 (MQ below ((kQv D (kT cI cB cJ cS) (fun (ug : Unit) => True) (fun ug => [(a, .inr (1, [.ref ab, .int (nI (n + len))])), (ab, .inl (cB, 65536, .inl (bF (pA b n v len lo len))))])) A) ([.ref a, .long (lN v), .int (nI len), .int (nI lo)] : List Value).toArray s ({ frames := 0, cells := 0, slots := 0, locals := 0 } : Room).cells ({ frames := 0, cells := 0, slots := 0, locals := 0 } : Room).slots A) (F0 m 3 ls []) := by
    intro k10
    induction k10 with
    | zero =>
      intro i H locs ls hk9
      exact absurd hk9 (Nat.not_lt_zero _)
    | succ k10 ihloop9 =>
      intro i H locs ls hk9 hi hP hD hS hl
      refine lv_iload hx hb dX3_append_3 (lv_at hl 4 rfl) ?_
      refine lv_iload_n hx hb dX3_append_5 rfl (lv_at hl 2 rfl) ?_
      refine k_icmp_ge (tgt := 73) (by omega) (by omega) hx hb dX3_append_6 (by decide) (fun c11 => ?_) (fun c11 => ?_)
      · skip
        exact k_vret () hx hb hr hlocks hK hP hD hS (by rw [show i = len by omega]) (trivial) (Nat.le_of_ble_eq_true rfl) (Nat.le_of_ble_eq_true rfl) dX3_append_73
      · skip
        refine lv_aload_n hx hb dX3_append_9 rfl (lv_at hl 0 rfl) ?_
        refine va_get (D := D) (ci := 1) (v := .int (nI (n + i))) (C := RX3) (T := TX3) (N := 2) hx hb hts inX3 hown hK hP 0 rfl rfl 1 (by decide) (hts (.fieldLink RX3 19 "ByteShapes$Row" "size" "I") (List.mem_cons_of_mem _ wd_7)) (fun _ h9 => h9) rfl dX3_append_10 ?_
        refine lv_aload_n hx hb dX3_append_13 rfl (lv_at hl 0 rfl) ?_
        refine va_get (D := D) (ci := 1) (v := .ref ab) (C := RX3) (T := TX3) (N := 2) hx hb hts inX3 hown hK hP 0 rfl rfl 0 (by decide) (hts (.fieldLink RX3 13 "ByteShapes$Row" "bytes" "[B") (List.mem_cons_of_mem _ wd_11)) (fun _ h9 => h9) rfl dX3_append_14 ?_
        refine va_alen (v := nI 65536) hx hb hK hP 1 1 rfl rfl rfl dX3_append_17 ?_
        refine k_icmp_ge (tgt := 73) (by omega) (by omega) hx hb dX3_append_18 (by decide) (fun c12 => ?_) (fun c12 => ?_)
        · skip
          exact absurd c12 (by omega)
        · skip
          refine lv_bipush (v := nI 8) hx hb dX3_append_21 (by decide) ?_
          refine lv_iload hx hb dX3_append_23 (lv_at hl 3 rfl) ?_
          refine k_if_eq (tgt := 33) (by omega) hx hb dX3_append_25 (by decide) (fun hlo => ?_) (fun hlo => ?_)
          · skip
            refine lv_iload_n hx hb dX3_append_33 rfl (lv_at hl 2 rfl) ?_
            refine lv_iconst (v := nI 1) hx hb dX3_append_34 (by decide) ?_
            refine lv_isub hx hb dX3_append_35 ?_
            refine k_i (show _ = nI (len - 1) from pk_sub (by omega)) ?_
            refine lv_iload hx hb dX3_append_36 (lv_at hl 4 rfl) ?_
            refine lv_isub hx hb dX3_append_38 ?_
            refine k_i (show _ = nI ((len - 1) - i) from pk_sub (by omega)) ?_
            refine lv_imul hx hb dX3_append_39 ?_
            refine k_i (show _ = nI (8 * ((len - 1) - i)) from pk_mul _ _) ?_
            refine lv_istore (lv' := [(6, .int (nI (8 * ((len - 1) - i)))), (0, .ref a), (1, .long (lN v)), (3, .int (nI len)), (4, .int (nI lo)), (5, .int (nI i))]) hx hb dX3_append_40 hl (by decide) rfl (fun ls hl => ?_)
            refine lv_aload_n hx hb dX3_append_42 rfl (lv_at hl 1 rfl) ?_
            refine va_get (D := D) (ci := 1) (v := .ref ab) (C := RX3) (T := TX3) (N := 2) hx hb hts inX3 hown hK hP 0 rfl rfl 0 (by decide) (hts (.fieldLink RX3 13 "ByteShapes$Row" "bytes" "[B") (List.mem_cons_of_mem _ wd_11)) (fun _ h9 => h9) rfl dX3_append_43 ?_
            refine lv_aload_n hx hb dX3_append_46 rfl (lv_at hl 1 rfl) ?_
            refine va_get (D := D) (ci := 1) (v := .int (nI (n + i))) (C := RX3) (T := TX3) (N := 2) hx hb hts inX3 hown hK hP 0 rfl rfl 1 (by decide) (hts (.fieldLink RX3 19 "ByteShapes$Row" "size" "I") (List.mem_cons_of_mem _ wd_7)) (fun _ h9 => h9) rfl dX3_append_47 ?_
            refine lv_lload_n hx hb dX3_append_50 rfl (lv_at hl 2 rfl) ?_
            refine lv_iload hx hb dX3_append_51 (lv_at hl 0 rfl) ?_
            refine lv_lushr (v := lN (v / 2 ^ (8 * ((len - 1) - i)))) hx hb dX3_append_53 (wb_shr hv64 (by omega)) ?_
            refine lv_l2i (v := nI (v / 2 ^ (8 * ((len - 1) - i)))) hx hb dX3_append_54 (lN_i _) ?_
            refine lv_i2b (v := sb_b (v / 2 ^ (8 * ((len - 1) - i)))) hx hb dX3_append_55 rfl ?_
            refine va_bast hx hb hK hP hD hS 1 1 rfl rfl (vp_in_nI (by omega) (by omega)) dX3_append_56 (fun H locs hP hD hS => ?_)
            rw [show upd (bF (pA b n v len lo i)) (nI (n + i)).toNatClampNeg (vp_nar .byte (sb_b (v / 2 ^ (8 * ((len - 1) - i))))) = bF (pA b n v len lo (i + 1)) from by rw [nI_clamp (by omega), bF_put]; simp [pA, hlo]] at hP hD
            have hP : va_P D kCl [(a, .inr (1, [.ref ab, .int (nI (n + i))])), (ab, .inl (cB, 65536, .inl (bF (pA b n v len lo (i + 1)))))] H := hP
            have hD : va_D A [(a, .inr (1, [.ref ab, .int (nI (n + i))])), (ab, .inl (cB, 65536, .inl (bF (pA b n v len lo (i + 1)))))] := hD
            refine lv_aload_n hx hb dX3_append_57 rfl (lv_at hl 1 rfl) ?_
            refine lv_dup hx hb dX3_append_58 rfl ?_
            refine va_get (D := D) (ci := 1) (v := .int (nI (n + i))) (C := RX3) (T := TX3) (N := 2) hx hb hts inX3 hown hK hP 0 rfl rfl 1 (by decide) (hts (.fieldLink RX3 19 "ByteShapes$Row" "size" "I") (List.mem_cons_of_mem _ wd_7)) (fun _ h9 => h9) rfl dX3_append_59 ?_
            refine lv_iconst (v := nI 1) hx hb dX3_append_62 (by decide) ?_
            refine lv_iadd hx hb dX3_append_63 ?_
            refine k_i (show _ = nI ((n + i) + 1) from nI_add _ _) ?_
            refine va_put (D := D) (ci := 1) (v := .int (nI ((n + i) + 1))) (ty := .int) (C := RX3) (T := TX3) (N := 2) hx hb hts inX3 tyX3 tyX3_ok nmX3 hown hK hP hD hS 0 rfl rfl 1 (by decide) (hts (.fieldLink RX3 19 "ByteShapes$Row" "size" "I") (List.mem_cons_of_mem _ wd_7)) (fun _ h9 => h9) rfl (by decide +kernel) (rfl) (rfl) (Nat.le_of_ble_eq_true rfl) dX3_append_64 (fun H locs hP hD hS => ?_)
            have hP : va_P D kCl [(a, .inr (1, [.ref ab, .int (nI ((n + i) + 1))])), (ab, .inl (cB, 65536, .inl (bF (pA b n v len lo (i + 1)))))] H := hP
            have hD : va_D A [(a, .inr (1, [.ref ab, .int (nI ((n + i) + 1))])), (ab, .inl (cB, 65536, .inl (bF (pA b n v len lo (i + 1)))))] := hD
            refine lv_iinc (v := nI (i + 1)) (lv' := [(5, .int (nI (i + 1))), (6, .int (nI (8 * ((len - 1) - i)))), (0, .ref a), (1, .long (lN v)), (3, .int (nI len)), (4, .int (nI lo))]) hx hb dX3_append_67 hl (k := 5) rfl (nI_add _ _) (by decide) rfl (fun ls hl => ?_)
            refine lv_goto (tgt := 3) hx hb dX3_append_70 (by decide) ?_
            exact ihloop9 (i + 1) _ _ _ (by omega) (by omega) (hP.sub [0, 1] rfl) (hD.sub [0, 1] (by decide) rfl) hS (lv_sub hl [2, 3, 4, 5, 0] rfl)
          · skip
            refine lv_iload hx hb dX3_append_28 (lv_at hl 4 rfl) ?_
            refine lv_goto (tgt := 39) hx hb dX3_append_30 (by decide) ?_
            refine lv_imul hx hb dX3_append_39 ?_
            refine k_i (show _ = nI (8 * i) from pk_mul _ _) ?_
            refine lv_istore (lv' := [(6, .int (nI (8 * i))), (0, .ref a), (1, .long (lN v)), (3, .int (nI len)), (4, .int (nI lo)), (5, .int (nI i))]) hx hb dX3_append_40 hl (by decide) rfl (fun ls hl => ?_)
            refine lv_aload_n hx hb dX3_append_42 rfl (lv_at hl 1 rfl) ?_
            refine va_get (D := D) (ci := 1) (v := .ref ab) (C := RX3) (T := TX3) (N := 2) hx hb hts inX3 hown hK hP 0 rfl rfl 0 (by decide) (hts (.fieldLink RX3 13 "ByteShapes$Row" "bytes" "[B") (List.mem_cons_of_mem _ wd_11)) (fun _ h9 => h9) rfl dX3_append_43 ?_
            refine lv_aload_n hx hb dX3_append_46 rfl (lv_at hl 1 rfl) ?_
            refine va_get (D := D) (ci := 1) (v := .int (nI (n + i))) (C := RX3) (T := TX3) (N := 2) hx hb hts inX3 hown hK hP 0 rfl rfl 1 (by decide) (hts (.fieldLink RX3 19 "ByteShapes$Row" "size" "I") (List.mem_cons_of_mem _ wd_7)) (fun _ h9 => h9) rfl dX3_append_47 ?_
            refine lv_lload_n hx hb dX3_append_50 rfl (lv_at hl 2 rfl) ?_
            refine lv_iload hx hb dX3_append_51 (lv_at hl 0 rfl) ?_
            refine lv_lushr (v := lN (v / 2 ^ (8 * i))) hx hb dX3_append_53 (wb_shr hv64 (by omega)) ?_
            refine lv_l2i (v := nI (v / 2 ^ (8 * i))) hx hb dX3_append_54 (lN_i _) ?_
            refine lv_i2b (v := sb_b (v / 2 ^ (8 * i))) hx hb dX3_append_55 rfl ?_
            refine va_bast hx hb hK hP hD hS 1 1 rfl rfl (vp_in_nI (by omega) (by omega)) dX3_append_56 (fun H locs hP hD hS => ?_)
            rw [show upd (bF (pA b n v len lo i)) (nI (n + i)).toNatClampNeg (vp_nar .byte (sb_b (v / 2 ^ (8 * i)))) = bF (pA b n v len lo (i + 1)) from by rw [nI_clamp (by omega), bF_put]; simp [pA, hlo]] at hP hD
            have hP : va_P D kCl [(a, .inr (1, [.ref ab, .int (nI (n + i))])), (ab, .inl (cB, 65536, .inl (bF (pA b n v len lo (i + 1)))))] H := hP
            have hD : va_D A [(a, .inr (1, [.ref ab, .int (nI (n + i))])), (ab, .inl (cB, 65536, .inl (bF (pA b n v len lo (i + 1)))))] := hD
            refine lv_aload_n hx hb dX3_append_57 rfl (lv_at hl 1 rfl) ?_
            refine lv_dup hx hb dX3_append_58 rfl ?_
            refine va_get (D := D) (ci := 1) (v := .int (nI (n + i))) (C := RX3) (T := TX3) (N := 2) hx hb hts inX3 hown hK hP 0 rfl rfl 1 (by decide) (hts (.fieldLink RX3 19 "ByteShapes$Row" "size" "I") (List.mem_cons_of_mem _ wd_7)) (fun _ h9 => h9) rfl dX3_append_59 ?_
            refine lv_iconst (v := nI 1) hx hb dX3_append_62 (by decide) ?_
            refine lv_iadd hx hb dX3_append_63 ?_
            refine k_i (show _ = nI ((n + i) + 1) from nI_add _ _) ?_
            refine va_put (D := D) (ci := 1) (v := .int (nI ((n + i) + 1))) (ty := .int) (C := RX3) (T := TX3) (N := 2) hx hb hts inX3 tyX3 tyX3_ok nmX3 hown hK hP hD hS 0 rfl rfl 1 (by decide) (hts (.fieldLink RX3 19 "ByteShapes$Row" "size" "I") (List.mem_cons_of_mem _ wd_7)) (fun _ h9 => h9) rfl (by decide +kernel) (rfl) (rfl) (Nat.le_of_ble_eq_true rfl) dX3_append_64 (fun H locs hP hD hS => ?_)
            have hP : va_P D kCl [(a, .inr (1, [.ref ab, .int (nI ((n + i) + 1))])), (ab, .inl (cB, 65536, .inl (bF (pA b n v len lo (i + 1)))))] H := hP
            have hD : va_D A [(a, .inr (1, [.ref ab, .int (nI ((n + i) + 1))])), (ab, .inl (cB, 65536, .inl (bF (pA b n v len lo (i + 1)))))] := hD
            refine lv_iinc (v := nI (i + 1)) (lv' := [(5, .int (nI (i + 1))), (6, .int (nI (8 * i))), (0, .ref a), (1, .long (lN v)), (3, .int (nI len)), (4, .int (nI lo))]) hx hb dX3_append_67 hl (k := 5) rfl (nI_add _ _) (by decide) rfl (fun ls hl => ?_)
            refine lv_goto (tgt := 3) hx hb dX3_append_70 (by decide) ?_
            exact ihloop9 (i + 1) _ _ _ (by omega) (by omega) (hP.sub [0, 1] rfl) (hD.sub [0, 1] (by decide) rfl) hS (lv_sub hl [2, 3, 4, 5, 0] rfl)
  exact loop9 ((len - 0) + 1) 0 _ _ _ (Nat.lt_succ_self _) (Nat.zero_le _) (hP.sub [0, 1] rfl) (hD.sub [0, 1] (by decide) rfl) hS (lv_sub hl [1, 2, 3, 4, 0] rfl)

set_option maxRecDepth 100000 in
set_option maxHeartbeats 4000000 in
theorem c_Row_become (l : Launch) (D : va_G) (cI cB cJ cS : ClassId) (a ab n : Nat) (b : Nat → Nat) (o ob n2 : Nat) (b2 : Nat → Nat) (hn2 : n2 ≤ 65536)  : kM l yX3_become vsX3_become ({ frames := 1, cells := 0, slots := 0, locals := 21 }) D (kT cI cB cJ cS) [.ref a, .ref o] [(a, .inr (1, [.ref ab, .int (nI n)])), (ab, .inl (cB, 65536, .inl (bF b))), (o, .inr (1, [.ref ob, .int (nI n2)])), (ob, .inl (cB, 65536, .inl (bF b2)))] (kQv D (kT cI cB cJ cS) (fun (ug : Unit) => True) (fun ug => [(a, .inr (1, [.ref ab, .int (nI n2)])), (ab, .inl (cB, 65536, .inl (bF (va_cpy b2 b 0 0 n2)))), (o, .inr (1, [.ref ob, .int (nI n2)])), (ob, .inl (cB, 65536, .inl (bF b2)))])) := by
  refine k_ofW (by decide) rfl (Nat.le_of_ble_eq_true rfl) ?_
  intro p e s m below meth c A ls hx hb hr hts hown hlocks hmn hml hA hP hK hD hS hZ hl
  have inX3 : ∀ w ∈ wsX30, w ∈ vsX3_become := fun w h => List.mem_cons_of_mem _ (iaX3 w h)
  have F : CallFix p m c cX3_become 2 s _ vsX3_become RX3 := ⟨hx, hb, hml, hown, hts⟩
  have hl : lv_has ls 2 [(0, .ref a), (1, .ref o)] := hl
  refine lv_aload_n hx hb dX3_become_0 rfl (lv_at hl 0 rfl) ?_
  refine lv_aload_n hx hb dX3_become_1 rfl (lv_at hl 1 rfl) ?_
  refine va_get (D := D) (ci := 1) (v := .int (nI n2)) (C := RX3) (T := TX3) (N := 2) hx hb hts inX3 hown hK hP 2 rfl rfl 1 (by decide) (hts (.fieldLink RX3 19 "ByteShapes$Row" "size" "I") (List.mem_cons_of_mem _ wd_7)) (fun _ h9 => h9) rfl dX3_become_2 ?_
  refine lv_aload_n hx hb dX3_become_5 rfl (lv_at hl 0 rfl) ?_
  refine va_get (D := D) (ci := 1) (v := .ref ab) (C := RX3) (T := TX3) (N := 2) hx hb hts inX3 hown hK hP 0 rfl rfl 0 (by decide) (hts (.fieldLink RX3 13 "ByteShapes$Row" "bytes" "[B") (List.mem_cons_of_mem _ wd_11)) (fun _ h9 => h9) rfl dX3_become_6 ?_
  refine va_alen (v := nI 65536) hx hb hK hP 1 1 rfl rfl rfl dX3_become_9 ?_
  refine va_mmin hx hb (hml.trans hl.1.symm) hown (hts (.methodLink RX3 38 Lib.Math.min.name) (List.mem_cons_of_mem _ wd_12)) (hts (.static Lib.Math.min.name) (List.mem_cons_of_mem _ wd_1)) (hts (.initialized "java/lang/Math") (List.mem_cons_of_mem _ wd_2)) (hts (.code Lib.Math.min.name Lib.Math.min.code 2 (some .int)) (List.mem_cons_of_mem _ wd_3)) (Nat.le_of_ble_eq_true rfl) (Nat.le_of_ble_eq_true rfl) (Nat.zero_le _) (Nat.zero_le _) dX3_become_10 ?_
  refine k_i (show _ = nI n2 from by rw [if_neg (nI_nlt (by omega) (by omega))]) ?_
  refine va_put (D := D) (ci := 1) (v := .int (nI n2)) (ty := .int) (C := RX3) (T := TX3) (N := 2) hx hb hts inX3 tyX3 tyX3_ok nmX3 hown hK hP hD hS 0 rfl rfl 1 (by decide) (hts (.fieldLink RX3 19 "ByteShapes$Row" "size" "I") (List.mem_cons_of_mem _ wd_7)) (fun _ h9 => h9) rfl (by decide +kernel) (rfl) (rfl) (Nat.le_of_ble_eq_true rfl) dX3_become_13 (fun H locs hP hD hS => ?_)
  have hP : va_P D kCl [(a, .inr (1, [.ref ab, .int (nI n2)])), (ab, .inl (cB, 65536, .inl (bF b))), (o, .inr (1, [.ref ob, .int (nI n2)])), (ob, .inl (cB, 65536, .inl (bF b2)))] H := hP
  have hD : va_D A [(a, .inr (1, [.ref ab, .int (nI n2)])), (ab, .inl (cB, 65536, .inl (bF b))), (o, .inr (1, [.ref ob, .int (nI n2)])), (ob, .inl (cB, 65536, .inl (bF b2)))] := hD
  refine lv_aload_n hx hb dX3_become_16 rfl (lv_at hl 1 rfl) ?_
  refine va_get (D := D) (ci := 1) (v := .ref ob) (C := RX3) (T := TX3) (N := 2) hx hb hts inX3 hown hK hP 2 rfl rfl 0 (by decide) (hts (.fieldLink RX3 13 "ByteShapes$Row" "bytes" "[B") (List.mem_cons_of_mem _ wd_11)) (fun _ h9 => h9) rfl dX3_become_17 ?_
  refine lv_iconst (v := nI 0) hx hb dX3_become_20 (by decide) ?_
  refine lv_aload_n hx hb dX3_become_21 rfl (lv_at hl 0 rfl) ?_
  refine va_get (D := D) (ci := 1) (v := .ref ab) (C := RX3) (T := TX3) (N := 2) hx hb hts inX3 hown hK hP 0 rfl rfl 0 (by decide) (hts (.fieldLink RX3 13 "ByteShapes$Row" "bytes" "[B") (List.mem_cons_of_mem _ wd_11)) (fun _ h9 => h9) rfl dX3_become_22 ?_
  refine lv_iconst (v := nI 0) hx hb dX3_become_25 (by decide) ?_
  refine lv_aload_n hx hb dX3_become_26 rfl (lv_at hl 0 rfl) ?_
  refine va_get (D := D) (ci := 1) (v := .int (nI n2)) (C := RX3) (T := TX3) (N := 2) hx hb hts inX3 hown hK hP 0 rfl rfl 1 (by decide) (hts (.fieldLink RX3 19 "ByteShapes$Row" "size" "I") (List.mem_cons_of_mem _ wd_7)) (fun _ h9 => h9) rfl dX3_become_27 ?_
  refine va_copyi hx hb (hml.trans hl.1.symm) hown (hts (.methodLink RX3 41 arraycopyName) (List.mem_cons_of_mem _ wd_13)) (hts (.native arraycopyName) (List.mem_cons_of_mem _ wd_14)) (hts (.static arraycopyName) (List.mem_cons_of_mem _ wd_15)) (hts (.initialized "java/lang/System") (List.mem_cons_of_mem _ wd_16)) hK hP hD hS 3 1 1 1 rfl rfl rfl rfl rfl (by decide) (by decide) (nI_pos (by omega)) (by rw [nI_clamp (show n2 < 2 ^ 31 by omega)]; show 0 + n2 ≤ 65536; omega) (by rw [nI_clamp (show n2 < 2 ^ 31 by omega)]; show 0 + n2 ≤ 65536; omega) (fun i _ => bF_fit _ _) (Nat.le_of_ble_eq_true rfl) (by decide +kernel) dX3_become_30 (fun H locs hP hD hS => ?_)
  rw [show va_cpy (bF b2) (bF b) (nI 0).toNatClampNeg (nI 0).toNatClampNeg (nI n2).toNatClampNeg = bF (va_cpy b2 b 0 0 n2) from by rw [nI_clamp (show n2 < 2 ^ 31 by omega)]; exact bF_cpy _ _ _ _ _] at hP hD
  have hP : va_P D kCl [(a, .inr (1, [.ref ab, .int (nI n2)])), (ab, .inl (cB, 65536, .inl (bF (va_cpy b2 b 0 0 n2)))), (o, .inr (1, [.ref ob, .int (nI n2)])), (ob, .inl (cB, 65536, .inl (bF b2)))] H := hP
  have hD : va_D A [(a, .inr (1, [.ref ab, .int (nI n2)])), (ab, .inl (cB, 65536, .inl (bF (va_cpy b2 b 0 0 n2)))), (o, .inr (1, [.ref ob, .int (nI n2)])), (ob, .inl (cB, 65536, .inl (bF b2)))] := hD
  exact k_vret () hx hb hr hlocks hK hP hD hS (rfl) (trivial) (Nat.le_of_ble_eq_true rfl) (Nat.le_of_ble_eq_true rfl) dX3_become_33

