set_option maxRecDepth 100000 in
set_option maxHeartbeats 4000000 in
theorem c_M_within1r (l : Launch) (D : va_G) (cI cB cJ cS : ClassId) (z x1 x2 : Int32) (h1 : ¬ z < x1) (h2 : ¬ x2 < z)  : kM l yX7_within vsX7_within ({ frames := 0, cells := 0, slots := 0, locals := 0 }) D (kT cI cB cJ cS) [.int z, .int x1, .int x2] [] (kQi D (kT cI cB cJ cS) (fun r (ug : Unit) => r = nI 1) (fun ug => [])) := by
  refine k_ofW (by decide) rfl (Nat.le_of_ble_eq_true rfl) ?_
  intro p e s m below meth c A ls hx hb hr hts hown hlocks hmn hml hA hP hK hD hS hZ hl
  have F : CallFix p m c cX7_within 3 s _ vsX7_within RX7 := ⟨hx, hb, hml, hown, hts⟩
  have hl : lv_has ls 3 [(0, .int z), (1, .int x1), (2, .int x2)] := hl
  refine lv_iload_n hx hb dX7_within_0 rfl (lv_at hl 0 rfl) ?_
  refine lv_iload_n hx hb dX7_within_1 rfl (lv_at hl 1 rfl) ?_
  refine lv_icmp_lt (tgt := 14) hx hb dX7_within_2 (by decide) (fun c375 => ?_) (fun c375 => ?_)
  · skip
    exact absurd c375 (h1)
  · skip
    refine lv_iload_n hx hb dX7_within_5 rfl (lv_at hl 0 rfl) ?_
    refine lv_iload_n hx hb dX7_within_6 rfl (lv_at hl 2 rfl) ?_
    refine lv_icmp_gt (tgt := 14) hx hb dX7_within_7 (by decide) (fun c376 => ?_) (fun c376 => ?_)
    · skip
      exact absurd c376 (h2)
    · skip
      refine lv_iconst (v := nI 1) hx hb dX7_within_10 (by decide) ?_
      refine lv_goto (tgt := 15) hx hb dX7_within_11 (by decide) ?_
      exact k_iret () hx hb hr (by first | rfl | decide | exact vp_nar_int _) hlocks hK hP hD hS (rfl) (rfl) (Nat.le_of_ble_eq_true rfl) (Nat.le_of_ble_eq_true rfl) dX7_within_15

set_option maxRecDepth 100000 in
set_option maxHeartbeats 4000000 in
theorem c_M_within0r (l : Launch) (D : va_G) (cI cB cJ cS : ClassId) (z x1 x2 : Int32) (hz : z < x1 ∨ x2 < z)  : kM l yX7_within vsX7_within ({ frames := 0, cells := 0, slots := 0, locals := 0 }) D (kT cI cB cJ cS) [.int z, .int x1, .int x2] [] (kQi D (kT cI cB cJ cS) (fun r (ug : Unit) => r = nI 0) (fun ug => [])) := by
  refine k_ofW (by decide) rfl (Nat.le_of_ble_eq_true rfl) ?_
  intro p e s m below meth c A ls hx hb hr hts hown hlocks hmn hml hA hP hK hD hS hZ hl
  have F : CallFix p m c cX7_within 3 s _ vsX7_within RX7 := ⟨hx, hb, hml, hown, hts⟩
  have hl : lv_has ls 3 [(0, .int z), (1, .int x1), (2, .int x2)] := hl
  refine lv_iload_n hx hb dX7_within_0 rfl (lv_at hl 0 rfl) ?_
  refine lv_iload_n hx hb dX7_within_1 rfl (lv_at hl 1 rfl) ?_
  refine lv_icmp_lt (tgt := 14) hx hb dX7_within_2 (by decide) (fun c1 => ?_) (fun c1 => ?_)
  · skip
    refine lv_iconst (v := nI 0) hx hb dX7_within_14 (by decide) ?_
    exact k_iret () hx hb hr (by first | rfl | decide | exact vp_nar_int _) hlocks hK hP hD hS (rfl) (rfl) (Nat.le_of_ble_eq_true rfl) (Nat.le_of_ble_eq_true rfl) dX7_within_15
  · skip
    refine lv_iload_n hx hb dX7_within_5 rfl (lv_at hl 0 rfl) ?_
    refine lv_iload_n hx hb dX7_within_6 rfl (lv_at hl 2 rfl) ?_
    refine lv_icmp_gt (tgt := 14) hx hb dX7_within_7 (by decide) (fun c2 => ?_) (fun c2 => ?_)
    · skip
      refine lv_iconst (v := nI 0) hx hb dX7_within_14 (by decide) ?_
      exact k_iret () hx hb hr (by first | rfl | decide | exact vp_nar_int _) hlocks hK hP hD hS (rfl) (rfl) (Nat.le_of_ble_eq_true rfl) (Nat.le_of_ble_eq_true rfl) dX7_within_15
    · skip
      exact absurd c2 (fun q => hz.elim c1 q)

set_option maxRecDepth 100000 in
set_option maxHeartbeats 4000000 in
theorem c_M_plan (l : Launch) (D : va_G) (cI cB cJ cS : ClassId) (mm ma mb mc md me mf mg mh th dg PT PN n sz od sl t wr pl lo nm : Nat) (b pm pd pq rb ok ol : Nat → Nat) (fx : Nat → Int32) (vz : Int32) (k : Nat) (hk : k < 4) (hpd : pd k ≤ 4096) (j : Nat) (hj : j < pd k)  : kM l yX7_plan vsX7_plan ({ frames := 2, cells := 0, slots := 0, locals := 42 }) D (kT cI cB cJ cS) [.ref mm, .int (nI k), .int (nI j)] [(mm, .inr (5, [.int (nI th), .int (nI dg), .int (nI PT), .int (nI PN), .int (nI n), .ref ma, .ref mb, .ref mc, .ref md, .ref me, .int (nI sz), .ref mf, .int (nI od), .int (nI sl), .int (nI t), .int (nI wr), .int (nI pl), .int (nI lo), .long (lN nm), .int vz, .ref mg, .ref mh])), (mb, .inl (cI, 16384, .inl (iF pm))), (mc, .inl (cI, 4, .inl (iF pd)))] (kQi D (kT cI cB cJ cS) (fun r (ug : Unit) => r = nI (pm (4096 * k + j))) (fun ug => [(mm, .inr (5, [.int (nI 0), .int (nI dg), .int (nI PT), .int (nI PN), .int (nI n), .ref ma, .ref mb, .ref mc, .ref md, .ref me, .int (nI sz), .ref mf, .int (nI od), .int (nI sl), .int (nI t), .int (nI wr), .int (nI pl), .int (nI lo), .long (lN nm), .int vz, .ref mg, .ref mh])), (mb, .inl (cI, 16384, .inl (iF pm))), (mc, .inl (cI, 4, .inl (iF pd)))])) := by
  refine k_ofW (by decide) rfl (Nat.le_of_ble_eq_true rfl) ?_
  intro p e s m below meth c A ls hx hb hr hts hown hlocks hmn hml hA hP hK hD hS hZ hl
  have inX7 : ∀ w ∈ wsX70, w ∈ vsX7_plan := fun w h => List.mem_cons_of_mem _ (iaX7 w h)
  have F : CallFix p m c cX7_plan 3 s _ vsX7_plan RX7 := ⟨hx, hb, hml, hown, hts⟩
  have hl : lv_has ls 3 [(0, .ref mm), (1, .int (nI k)), (2, .int (nI j))] := hl
  refine lv_aload_n hx hb dX7_plan_0 rfl (lv_at hl 0 rfl) ?_
  refine lv_iconst (v := nI 0) hx hb dX7_plan_1 (by decide) ?_
  refine va_put (D := D) (ci := 5) (v := .int (nI 0)) (ty := .int) (C := RX7) (T := TX7) (N := 22) hx hb hts inX7 tyX7 tyX7_ok nmX7 hown hK hP hD hS 0 rfl rfl 0 (by decide) (hts (.fieldLink RX7 48 "ByteShapesModel" "thrown" "I") (List.mem_cons_of_mem _ wd_368)) (fun _ h9 => h9) rfl (by decide +kernel) (rfl) (rfl) (Nat.le_of_ble_eq_true rfl) dX7_plan_2 (fun H locs hP hD hS => ?_)
  have hP : va_P D kCl [(mm, .inr (5, [.int (nI 0), .int (nI dg), .int (nI PT), .int (nI PN), .int (nI n), .ref ma, .ref mb, .ref mc, .ref md, .ref me, .int (nI sz), .ref mf, .int (nI od), .int (nI sl), .int (nI t), .int (nI wr), .int (nI pl), .int (nI lo), .long (lN nm), .int vz, .ref mg, .ref mh])), (mb, .inl (cI, 16384, .inl (iF pm))), (mc, .inl (cI, 4, .inl (iF pd)))] H := hP
  have hD : va_D A [(mm, .inr (5, [.int (nI 0), .int (nI dg), .int (nI PT), .int (nI PN), .int (nI n), .ref ma, .ref mb, .ref mc, .ref md, .ref me, .int (nI sz), .ref mf, .int (nI od), .int (nI sl), .int (nI t), .int (nI wr), .int (nI pl), .int (nI lo), .long (lN nm), .int vz, .ref mg, .ref mh])), (mb, .inl (cI, 16384, .inl (iF pm))), (mc, .inl (cI, 4, .inl (iF pd)))] := hD
  refine lv_iload_n hx hb dX7_plan_5 rfl (lv_at hl 1 rfl) ?_
  refine k_ci (wr := [(mm, .inr (5, [.int (nI 0), .int (nI dg), .int (nI PT), .int (nI PN), .int (nI n), .ref ma, .ref mb, .ref mc, .ref md, .ref me, .int (nI sz), .ref mf, .int (nI od), .int (nI sl), .int (nI t), .int (nI wr), .int (nI pl), .int (nI lo), .long (lN nm), .int vz, .ref mg, .ref mh])), (mb, .inl (cI, 16384, .inl (iF pm))), (mc, .inl (cI, 4, .inl (iF pd)))]) (k_rs F (c_M_isSlot1 l D cI cB cJ cS k hk) (va_cwS 1 hts (g_S wd_443 wd_444 wd_373 wd_445) rfl rfl rfl (by decide +kernel) ⟨Nat.le_of_ble_eq_true rfl, Nat.le_of_ble_eq_true rfl⟩) hK hP hD hS hA hZ [] rfl (by decide) rfl hl.1 rfl (Nat.le_of_ble_eq_true rfl) dX7_plan_6 ⟨Nat.le_of_ble_eq_true rfl, Nat.le_of_ble_eq_true rfl⟩) hP hD hS hA [] [0, 1, 2] rfl rfl (by decide) (by decide) (fun r u9 H locs hw hP hD hS => ?_)
  subst hw
  have hP : va_P D kCl [(mm, .inr (5, [.int (nI 0), .int (nI dg), .int (nI PT), .int (nI PN), .int (nI n), .ref ma, .ref mb, .ref mc, .ref md, .ref me, .int (nI sz), .ref mf, .int (nI od), .int (nI sl), .int (nI t), .int (nI wr), .int (nI pl), .int (nI lo), .long (lN nm), .int vz, .ref mg, .ref mh])), (mb, .inl (cI, 16384, .inl (iF pm))), (mc, .inl (cI, 4, .inl (iF pd)))] H := hP
  have hD : va_D A [(mm, .inr (5, [.int (nI 0), .int (nI dg), .int (nI PT), .int (nI PN), .int (nI n), .ref ma, .ref mb, .ref mc, .ref md, .ref me, .int (nI sz), .ref mf, .int (nI od), .int (nI sl), .int (nI t), .int (nI wr), .int (nI pl), .int (nI lo), .long (lN nm), .int vz, .ref mg, .ref mh])), (mb, .inl (cI, 16384, .inl (iF pm))), (mc, .inl (cI, 4, .inl (iF pd)))] := hD
  refine W.widen (k := 0) (n := 0) (Nat.le_of_ble_eq_true rfl) (Nat.le_of_ble_eq_true rfl) ?_
  refine k_if_eq (tgt := 43) (by omega) hx hb dX7_plan_9 (by decide) (fun c377 => ?_) (fun c377 => ?_)
  · skip
    exact absurd c377 (by omega)
  · skip
    refine lv_iload_n hx hb dX7_plan_12 rfl (lv_at hl 2 rfl) ?_
    refine lv_iconst (v := nI 0) hx hb dX7_plan_13 (by decide) ?_
    refine lv_aload_n hx hb dX7_plan_14 rfl (lv_at hl 0 rfl) ?_
    refine va_get (D := D) (ci := 5) (v := .ref mc) (C := RX7) (T := TX7) (N := 22) hx hb hts inX7 hown hK hP 0 rfl rfl 7 (by decide) (hts (.fieldLink RX7 17 "ByteShapesModel" "planned" "[I") (List.mem_cons_of_mem _ wd_387)) (fun _ h9 => h9) rfl dX7_plan_15 ?_
    refine lv_iload_n hx hb dX7_plan_18 rfl (lv_at hl 1 rfl) ?_
    refine va_iald hx hb hK hP 2 0 rfl rfl (vp_in_nI (by omega) (by omega)) dX7_plan_19 ?_
    refine k_i (show _ = (iF pd) k from congrArg (iF pd) (nI_clamp (by omega))) ?_
    refine k_i (show _ = nI (pd k) from rfl) ?_
    refine lv_iconst (v := nI 1) hx hb dX7_plan_20 (by decide) ?_
    refine lv_isub hx hb dX7_plan_21 ?_
    refine k_ci (wr := [(mm, .inr (5, [.int (nI 0), .int (nI dg), .int (nI PT), .int (nI PN), .int (nI n), .ref ma, .ref mb, .ref mc, .ref md, .ref me, .int (nI sz), .ref mf, .int (nI od), .int (nI sl), .int (nI t), .int (nI wr), .int (nI pl), .int (nI lo), .long (lN nm), .int vz, .ref mg, .ref mh])), (mb, .inl (cI, 16384, .inl (iF pm))), (mc, .inl (cI, 4, .inl (iF pd)))]) (k_rs F (c_M_within1r l D cI cB cJ cS (nI j) (nI 0) (nI (pd k) - nI 1) (in_0 (by omega)) (in_m (by omega) hj)) (va_cwS 3 hts (g_S wd_371 wd_372 wd_373 wd_374) rfl rfl rfl (by decide +kernel) ⟨Nat.le_of_ble_eq_true rfl, Nat.le_of_ble_eq_true rfl⟩) hK hP hD hS hA hZ [] rfl (by decide) rfl hl.1 rfl (Nat.le_of_ble_eq_true rfl) dX7_plan_22 ⟨Nat.le_of_ble_eq_true rfl, Nat.le_of_ble_eq_true rfl⟩) hP hD hS hA [] [0, 1, 2] rfl rfl (by decide) (by decide) (fun r u9 H locs hw hP hD hS => ?_)
    subst hw
    have hP : va_P D kCl [(mm, .inr (5, [.int (nI 0), .int (nI dg), .int (nI PT), .int (nI PN), .int (nI n), .ref ma, .ref mb, .ref mc, .ref md, .ref me, .int (nI sz), .ref mf, .int (nI od), .int (nI sl), .int (nI t), .int (nI wr), .int (nI pl), .int (nI lo), .long (lN nm), .int vz, .ref mg, .ref mh])), (mb, .inl (cI, 16384, .inl (iF pm))), (mc, .inl (cI, 4, .inl (iF pd)))] H := hP
    have hD : va_D A [(mm, .inr (5, [.int (nI 0), .int (nI dg), .int (nI PT), .int (nI PN), .int (nI n), .ref ma, .ref mb, .ref mc, .ref md, .ref me, .int (nI sz), .ref mf, .int (nI od), .int (nI sl), .int (nI t), .int (nI wr), .int (nI pl), .int (nI lo), .long (lN nm), .int vz, .ref mg, .ref mh])), (mb, .inl (cI, 16384, .inl (iF pm))), (mc, .inl (cI, 4, .inl (iF pd)))] := hD
    refine W.widen (k := 0) (n := 0) (Nat.le_of_ble_eq_true rfl) (Nat.le_of_ble_eq_true rfl) ?_
    refine k_if_eq (tgt := 43) (by omega) hx hb dX7_plan_25 (by decide) (fun c378 => ?_) (fun c378 => ?_)
    · skip
      exact absurd c378 (by omega)
    · skip
      refine lv_aload_n hx hb dX7_plan_28 rfl (lv_at hl 0 rfl) ?_
      refine va_get (D := D) (ci := 5) (v := .ref mb) (C := RX7) (T := TX7) (N := 22) hx hb hts inX7 hown hK hP 0 rfl rfl 6 (by decide) (hts (.fieldLink RX7 14 "ByteShapesModel" "plan" "[I") (List.mem_cons_of_mem _ wd_392)) (fun _ h9 => h9) rfl dX7_plan_29 ?_
      refine lv_sipush (v := nI 4096) hx hb dX7_plan_32 (by decide) ?_
      refine lv_iload_n hx hb dX7_plan_35 rfl (lv_at hl 1 rfl) ?_
      refine lv_imul hx hb dX7_plan_36 ?_
      refine k_i (show _ = nI (4096 * k) from pk_mul _ _) ?_
      refine lv_iload_n hx hb dX7_plan_37 rfl (lv_at hl 2 rfl) ?_
      refine lv_iadd hx hb dX7_plan_38 ?_
      refine k_i (show _ = nI ((4096 * k) + j) from nI_add _ _) ?_
      refine va_iald hx hb hK hP 1 0 rfl rfl (vp_in_nI (by omega) (by omega)) dX7_plan_39 ?_
      refine k_i (show _ = (iF pm) ((4096 * k) + j) from congrArg (iF pm) (nI_clamp (by omega))) ?_
      refine k_i (show _ = nI (pm (4096 * k + j)) from rfl) ?_
      refine lv_goto (tgt := 48) hx hb dX7_plan_40 (by decide) ?_
      exact k_iret () hx hb hr (by first | rfl | decide | exact vp_nar_int _) hlocks hK hP hD hS (rfl) (rfl) (Nat.le_of_ble_eq_true rfl) (Nat.le_of_ble_eq_true rfl) dX7_plan_48

set_option maxRecDepth 100000 in
set_option maxHeartbeats 4000000 in
theorem c_M_planX1 (l : Launch) (D : va_G) (cI cB cJ cS : ClassId) (mm ma mb mc md me mf mg mh th dg PT PN n sz od sl t wr pl lo nm : Nat) (b pm pd pq rb ok ol : Nat → Nat) (fx : Nat → Int32) (vz : Int32) (z : Int32) (hz : z < 0 ∨ nI 4 ≤ z) (z2 : Int32)  : kM l yX7_plan vsX7_plan ({ frames := 2, cells := 0, slots := 0, locals := 42 }) D (kT cI cB cJ cS) [.ref mm, .int z, .int z2] [(mm, .inr (5, [.int (nI th), .int (nI dg), .int (nI PT), .int (nI PN), .int (nI n), .ref ma, .ref mb, .ref mc, .ref md, .ref me, .int (nI sz), .ref mf, .int (nI od), .int (nI sl), .int (nI t), .int (nI wr), .int (nI pl), .int (nI lo), .long (lN nm), .int vz, .ref mg, .ref mh])), (mb, .inl (cI, 16384, .inl (iF pm))), (mc, .inl (cI, 4, .inl (iF pd)))] (kQi D (kT cI cB cJ cS) (fun r (ug : Unit) => r = nI 0) (fun ug => [(mm, .inr (5, [.int (nI 1), .int (nI dg), .int (nI PT), .int (nI PN), .int (nI n), .ref ma, .ref mb, .ref mc, .ref md, .ref me, .int (nI sz), .ref mf, .int (nI od), .int (nI sl), .int (nI t), .int (nI wr), .int (nI pl), .int (nI lo), .long (lN nm), .int vz, .ref mg, .ref mh])), (mb, .inl (cI, 16384, .inl (iF pm))), (mc, .inl (cI, 4, .inl (iF pd)))])) := by
  refine k_ofW (by decide) rfl (Nat.le_of_ble_eq_true rfl) ?_
  intro p e s m below meth c A ls hx hb hr hts hown hlocks hmn hml hA hP hK hD hS hZ hl
  have inX7 : ∀ w ∈ wsX70, w ∈ vsX7_plan := fun w h => List.mem_cons_of_mem _ (iaX7 w h)
  have F : CallFix p m c cX7_plan 3 s _ vsX7_plan RX7 := ⟨hx, hb, hml, hown, hts⟩
  have hl : lv_has ls 3 [(0, .ref mm), (1, .int z), (2, .int z2)] := hl
  refine lv_aload_n hx hb dX7_plan_0 rfl (lv_at hl 0 rfl) ?_
  refine lv_iconst (v := nI 0) hx hb dX7_plan_1 (by decide) ?_
  refine va_put (D := D) (ci := 5) (v := .int (nI 0)) (ty := .int) (C := RX7) (T := TX7) (N := 22) hx hb hts inX7 tyX7 tyX7_ok nmX7 hown hK hP hD hS 0 rfl rfl 0 (by decide) (hts (.fieldLink RX7 48 "ByteShapesModel" "thrown" "I") (List.mem_cons_of_mem _ wd_368)) (fun _ h9 => h9) rfl (by decide +kernel) (rfl) (rfl) (Nat.le_of_ble_eq_true rfl) dX7_plan_2 (fun H locs hP hD hS => ?_)
  have hP : va_P D kCl [(mm, .inr (5, [.int (nI 0), .int (nI dg), .int (nI PT), .int (nI PN), .int (nI n), .ref ma, .ref mb, .ref mc, .ref md, .ref me, .int (nI sz), .ref mf, .int (nI od), .int (nI sl), .int (nI t), .int (nI wr), .int (nI pl), .int (nI lo), .long (lN nm), .int vz, .ref mg, .ref mh])), (mb, .inl (cI, 16384, .inl (iF pm))), (mc, .inl (cI, 4, .inl (iF pd)))] H := hP
  have hD : va_D A [(mm, .inr (5, [.int (nI 0), .int (nI dg), .int (nI PT), .int (nI PN), .int (nI n), .ref ma, .ref mb, .ref mc, .ref md, .ref me, .int (nI sz), .ref mf, .int (nI od), .int (nI sl), .int (nI t), .int (nI wr), .int (nI pl), .int (nI lo), .long (lN nm), .int vz, .ref mg, .ref mh])), (mb, .inl (cI, 16384, .inl (iF pm))), (mc, .inl (cI, 4, .inl (iF pd)))] := hD
  refine lv_iload_n hx hb dX7_plan_5 rfl (lv_at hl 1 rfl) ?_
  refine k_ci (wr := [(mm, .inr (5, [.int (nI 0), .int (nI dg), .int (nI PT), .int (nI PN), .int (nI n), .ref ma, .ref mb, .ref mc, .ref md, .ref me, .int (nI sz), .ref mf, .int (nI od), .int (nI sl), .int (nI t), .int (nI wr), .int (nI pl), .int (nI lo), .long (lN nm), .int vz, .ref mg, .ref mh])), (mb, .inl (cI, 16384, .inl (iF pm))), (mc, .inl (cI, 4, .inl (iF pd)))]) (k_rs F (c_M_isSlot0 l D cI cB cJ cS z hz) (va_cwS 1 hts (g_S wd_443 wd_444 wd_373 wd_445) rfl rfl rfl (by decide +kernel) ⟨Nat.le_of_ble_eq_true rfl, Nat.le_of_ble_eq_true rfl⟩) hK hP hD hS hA hZ [] rfl (by decide) rfl hl.1 rfl (Nat.le_of_ble_eq_true rfl) dX7_plan_6 ⟨Nat.le_of_ble_eq_true rfl, Nat.le_of_ble_eq_true rfl⟩) hP hD hS hA [] [0, 1, 2] rfl rfl (by decide) (by decide) (fun r u9 H locs hw hP hD hS => ?_)
  subst hw
  have hP : va_P D kCl [(mm, .inr (5, [.int (nI 0), .int (nI dg), .int (nI PT), .int (nI PN), .int (nI n), .ref ma, .ref mb, .ref mc, .ref md, .ref me, .int (nI sz), .ref mf, .int (nI od), .int (nI sl), .int (nI t), .int (nI wr), .int (nI pl), .int (nI lo), .long (lN nm), .int vz, .ref mg, .ref mh])), (mb, .inl (cI, 16384, .inl (iF pm))), (mc, .inl (cI, 4, .inl (iF pd)))] H := hP
  have hD : va_D A [(mm, .inr (5, [.int (nI 0), .int (nI dg), .int (nI PT), .int (nI PN), .int (nI n), .ref ma, .ref mb, .ref mc, .ref md, .ref me, .int (nI sz), .ref mf, .int (nI od), .int (nI sl), .int (nI t), .int (nI wr), .int (nI pl), .int (nI lo), .long (lN nm), .int vz, .ref mg, .ref mh])), (mb, .inl (cI, 16384, .inl (iF pm))), (mc, .inl (cI, 4, .inl (iF pd)))] := hD
  refine W.widen (k := 0) (n := 0) (Nat.le_of_ble_eq_true rfl) (Nat.le_of_ble_eq_true rfl) ?_
  refine k_if_eq (tgt := 43) (by omega) hx hb dX7_plan_9 (by decide) (fun c379 => ?_) (fun c379 => ?_)
  · skip
    refine lv_aload_n hx hb dX7_plan_43 rfl (lv_at hl 0 rfl) ?_
    refine lv_iconst (v := nI 1) hx hb dX7_plan_44 (by decide) ?_
    refine k_ci (wr := [(mb, .inl (cI, 16384, .inl (iF pm))), (mc, .inl (cI, 4, .inl (iF pd)))]) (k_rv F (c_M_fail l D cI cB cJ cS mm ma mb mc md me mf mg mh 0 dg PT PN n sz od sl t wr pl lo nm b pm pd pq rb ok ol fx vz 1) (cwV 1 hts (g_V wd_378 wd_379 wd_380 wd_373 wd_381) rfl rfl rfl (by decide +kernel) ⟨Nat.le_of_ble_eq_true rfl, Nat.le_of_ble_eq_true rfl⟩) hK hP hD hS hA hZ [0] rfl (by decide) 0 rfl rfl rfl rfl hl.1 rfl (Nat.le_of_ble_eq_true rfl) dX7_plan_45 ⟨Nat.le_of_ble_eq_true rfl, Nat.le_of_ble_eq_true rfl⟩) hP hD hS hA [0] [1, 2] rfl rfl (by decide) (by decide) (fun r u9 H locs hw hP hD hS => ?_)
    subst hw
    have hP : va_P D kCl [(mb, .inl (cI, 16384, .inl (iF pm))), (mc, .inl (cI, 4, .inl (iF pd))), (mm, .inr (5, [.int (nI 1), .int (nI dg), .int (nI PT), .int (nI PN), .int (nI n), .ref ma, .ref mb, .ref mc, .ref md, .ref me, .int (nI sz), .ref mf, .int (nI od), .int (nI sl), .int (nI t), .int (nI wr), .int (nI pl), .int (nI lo), .long (lN nm), .int vz, .ref mg, .ref mh]))] H := hP
    have hD : va_D A [(mb, .inl (cI, 16384, .inl (iF pm))), (mc, .inl (cI, 4, .inl (iF pd))), (mm, .inr (5, [.int (nI 1), .int (nI dg), .int (nI PT), .int (nI PN), .int (nI n), .ref ma, .ref mb, .ref mc, .ref md, .ref me, .int (nI sz), .ref mf, .int (nI od), .int (nI sl), .int (nI t), .int (nI wr), .int (nI pl), .int (nI lo), .long (lN nm), .int vz, .ref mg, .ref mh]))] := hD
    refine W.widen (k := 0) (n := 0) (Nat.le_of_ble_eq_true rfl) (Nat.le_of_ble_eq_true rfl) ?_
    have hP : va_P D kCl [(mm, .inr (5, [.int (nI 1), .int (nI dg), .int (nI PT), .int (nI PN), .int (nI n), .ref ma, .ref mb, .ref mc, .ref md, .ref me, .int (nI sz), .ref mf, .int (nI od), .int (nI sl), .int (nI t), .int (nI wr), .int (nI pl), .int (nI lo), .long (lN nm), .int vz, .ref mg, .ref mh])), (mb, .inl (cI, 16384, .inl (iF pm))), (mc, .inl (cI, 4, .inl (iF pd)))] H := hP.sub [2, 0, 1] rfl
    have hD : va_D A [(mm, .inr (5, [.int (nI 1), .int (nI dg), .int (nI PT), .int (nI PN), .int (nI n), .ref ma, .ref mb, .ref mc, .ref md, .ref me, .int (nI sz), .ref mf, .int (nI od), .int (nI sl), .int (nI t), .int (nI wr), .int (nI pl), .int (nI lo), .long (lN nm), .int vz, .ref mg, .ref mh])), (mb, .inl (cI, 16384, .inl (iF pm))), (mc, .inl (cI, 4, .inl (iF pd)))] := hD.sub [2, 0, 1] (by decide) rfl
    exact k_iret () hx hb hr (by first | rfl | decide | exact vp_nar_int _) hlocks hK hP hD hS (rfl) (rfl) (Nat.le_of_ble_eq_true rfl) (Nat.le_of_ble_eq_true rfl) dX7_plan_48
  · skip
    exact absurd c379 (by omega)

set_option maxRecDepth 100000 in
set_option maxHeartbeats 4000000 in
theorem c_M_planX2 (l : Launch) (D : va_G) (cI cB cJ cS : ClassId) (mm ma mb mc md me mf mg mh th dg PT PN n sz od sl t wr pl lo nm : Nat) (b pm pd pq rb ok ol : Nat → Nat) (fx : Nat → Int32) (vz : Int32) (k : Nat) (hk : k < 4) (hpd : pd k ≤ 4096) (z : Int32) (hz : z < 0 ∨ nI (pd k) ≤ z)  : kM l yX7_plan vsX7_plan ({ frames := 2, cells := 0, slots := 0, locals := 42 }) D (kT cI cB cJ cS) [.ref mm, .int (nI k), .int z] [(mm, .inr (5, [.int (nI th), .int (nI dg), .int (nI PT), .int (nI PN), .int (nI n), .ref ma, .ref mb, .ref mc, .ref md, .ref me, .int (nI sz), .ref mf, .int (nI od), .int (nI sl), .int (nI t), .int (nI wr), .int (nI pl), .int (nI lo), .long (lN nm), .int vz, .ref mg, .ref mh])), (mb, .inl (cI, 16384, .inl (iF pm))), (mc, .inl (cI, 4, .inl (iF pd)))] (kQi D (kT cI cB cJ cS) (fun r (ug : Unit) => r = nI 0) (fun ug => [(mm, .inr (5, [.int (nI 1), .int (nI dg), .int (nI PT), .int (nI PN), .int (nI n), .ref ma, .ref mb, .ref mc, .ref md, .ref me, .int (nI sz), .ref mf, .int (nI od), .int (nI sl), .int (nI t), .int (nI wr), .int (nI pl), .int (nI lo), .long (lN nm), .int vz, .ref mg, .ref mh])), (mb, .inl (cI, 16384, .inl (iF pm))), (mc, .inl (cI, 4, .inl (iF pd)))])) := by
  refine k_ofW (by decide) rfl (Nat.le_of_ble_eq_true rfl) ?_
  intro p e s m below meth c A ls hx hb hr hts hown hlocks hmn hml hA hP hK hD hS hZ hl
  have inX7 : ∀ w ∈ wsX70, w ∈ vsX7_plan := fun w h => List.mem_cons_of_mem _ (iaX7 w h)
  have F : CallFix p m c cX7_plan 3 s _ vsX7_plan RX7 := ⟨hx, hb, hml, hown, hts⟩
  have hl : lv_has ls 3 [(0, .ref mm), (1, .int (nI k)), (2, .int z)] := hl
  refine lv_aload_n hx hb dX7_plan_0 rfl (lv_at hl 0 rfl) ?_
  refine lv_iconst (v := nI 0) hx hb dX7_plan_1 (by decide) ?_
  refine va_put (D := D) (ci := 5) (v := .int (nI 0)) (ty := .int) (C := RX7) (T := TX7) (N := 22) hx hb hts inX7 tyX7 tyX7_ok nmX7 hown hK hP hD hS 0 rfl rfl 0 (by decide) (hts (.fieldLink RX7 48 "ByteShapesModel" "thrown" "I") (List.mem_cons_of_mem _ wd_368)) (fun _ h9 => h9) rfl (by decide +kernel) (rfl) (rfl) (Nat.le_of_ble_eq_true rfl) dX7_plan_2 (fun H locs hP hD hS => ?_)
  have hP : va_P D kCl [(mm, .inr (5, [.int (nI 0), .int (nI dg), .int (nI PT), .int (nI PN), .int (nI n), .ref ma, .ref mb, .ref mc, .ref md, .ref me, .int (nI sz), .ref mf, .int (nI od), .int (nI sl), .int (nI t), .int (nI wr), .int (nI pl), .int (nI lo), .long (lN nm), .int vz, .ref mg, .ref mh])), (mb, .inl (cI, 16384, .inl (iF pm))), (mc, .inl (cI, 4, .inl (iF pd)))] H := hP
  have hD : va_D A [(mm, .inr (5, [.int (nI 0), .int (nI dg), .int (nI PT), .int (nI PN), .int (nI n), .ref ma, .ref mb, .ref mc, .ref md, .ref me, .int (nI sz), .ref mf, .int (nI od), .int (nI sl), .int (nI t), .int (nI wr), .int (nI pl), .int (nI lo), .long (lN nm), .int vz, .ref mg, .ref mh])), (mb, .inl (cI, 16384, .inl (iF pm))), (mc, .inl (cI, 4, .inl (iF pd)))] := hD
  refine lv_iload_n hx hb dX7_plan_5 rfl (lv_at hl 1 rfl) ?_
  refine k_ci (wr := [(mm, .inr (5, [.int (nI 0), .int (nI dg), .int (nI PT), .int (nI PN), .int (nI n), .ref ma, .ref mb, .ref mc, .ref md, .ref me, .int (nI sz), .ref mf, .int (nI od), .int (nI sl), .int (nI t), .int (nI wr), .int (nI pl), .int (nI lo), .long (lN nm), .int vz, .ref mg, .ref mh])), (mb, .inl (cI, 16384, .inl (iF pm))), (mc, .inl (cI, 4, .inl (iF pd)))]) (k_rs F (c_M_isSlot1 l D cI cB cJ cS k hk) (va_cwS 1 hts (g_S wd_443 wd_444 wd_373 wd_445) rfl rfl rfl (by decide +kernel) ⟨Nat.le_of_ble_eq_true rfl, Nat.le_of_ble_eq_true rfl⟩) hK hP hD hS hA hZ [] rfl (by decide) rfl hl.1 rfl (Nat.le_of_ble_eq_true rfl) dX7_plan_6 ⟨Nat.le_of_ble_eq_true rfl, Nat.le_of_ble_eq_true rfl⟩) hP hD hS hA [] [0, 1, 2] rfl rfl (by decide) (by decide) (fun r u9 H locs hw hP hD hS => ?_)
  subst hw
  have hP : va_P D kCl [(mm, .inr (5, [.int (nI 0), .int (nI dg), .int (nI PT), .int (nI PN), .int (nI n), .ref ma, .ref mb, .ref mc, .ref md, .ref me, .int (nI sz), .ref mf, .int (nI od), .int (nI sl), .int (nI t), .int (nI wr), .int (nI pl), .int (nI lo), .long (lN nm), .int vz, .ref mg, .ref mh])), (mb, .inl (cI, 16384, .inl (iF pm))), (mc, .inl (cI, 4, .inl (iF pd)))] H := hP
  have hD : va_D A [(mm, .inr (5, [.int (nI 0), .int (nI dg), .int (nI PT), .int (nI PN), .int (nI n), .ref ma, .ref mb, .ref mc, .ref md, .ref me, .int (nI sz), .ref mf, .int (nI od), .int (nI sl), .int (nI t), .int (nI wr), .int (nI pl), .int (nI lo), .long (lN nm), .int vz, .ref mg, .ref mh])), (mb, .inl (cI, 16384, .inl (iF pm))), (mc, .inl (cI, 4, .inl (iF pd)))] := hD
  refine W.widen (k := 0) (n := 0) (Nat.le_of_ble_eq_true rfl) (Nat.le_of_ble_eq_true rfl) ?_
  refine k_if_eq (tgt := 43) (by omega) hx hb dX7_plan_9 (by decide) (fun c380 => ?_) (fun c380 => ?_)
  · skip
    exact absurd c380 (by omega)
  · skip
    refine lv_iload_n hx hb dX7_plan_12 rfl (lv_at hl 2 rfl) ?_
    refine lv_iconst (v := nI 0) hx hb dX7_plan_13 (by decide) ?_
    refine lv_aload_n hx hb dX7_plan_14 rfl (lv_at hl 0 rfl) ?_
    refine va_get (D := D) (ci := 5) (v := .ref mc) (C := RX7) (T := TX7) (N := 22) hx hb hts inX7 hown hK hP 0 rfl rfl 7 (by decide) (hts (.fieldLink RX7 17 "ByteShapesModel" "planned" "[I") (List.mem_cons_of_mem _ wd_387)) (fun _ h9 => h9) rfl dX7_plan_15 ?_
    refine lv_iload_n hx hb dX7_plan_18 rfl (lv_at hl 1 rfl) ?_
    refine va_iald hx hb hK hP 2 0 rfl rfl (vp_in_nI (by omega) (by omega)) dX7_plan_19 ?_
    refine k_i (show _ = (iF pd) k from congrArg (iF pd) (nI_clamp (by omega))) ?_
    refine k_i (show _ = nI (pd k) from rfl) ?_
    refine lv_iconst (v := nI 1) hx hb dX7_plan_20 (by decide) ?_
    refine lv_isub hx hb dX7_plan_21 ?_
    refine k_ci (wr := [(mm, .inr (5, [.int (nI 0), .int (nI dg), .int (nI PT), .int (nI PN), .int (nI n), .ref ma, .ref mb, .ref mc, .ref md, .ref me, .int (nI sz), .ref mf, .int (nI od), .int (nI sl), .int (nI t), .int (nI wr), .int (nI pl), .int (nI lo), .long (lN nm), .int vz, .ref mg, .ref mh])), (mb, .inl (cI, 16384, .inl (iF pm))), (mc, .inl (cI, 4, .inl (iF pd)))]) (k_rs F (c_M_within0r l D cI cB cJ cS z (nI 0) (nI (pd k) - nI 1) (out_m (by omega) hz)) (va_cwS 3 hts (g_S wd_371 wd_372 wd_373 wd_374) rfl rfl rfl (by decide +kernel) ⟨Nat.le_of_ble_eq_true rfl, Nat.le_of_ble_eq_true rfl⟩) hK hP hD hS hA hZ [] rfl (by decide) rfl hl.1 rfl (Nat.le_of_ble_eq_true rfl) dX7_plan_22 ⟨Nat.le_of_ble_eq_true rfl, Nat.le_of_ble_eq_true rfl⟩) hP hD hS hA [] [0, 1, 2] rfl rfl (by decide) (by decide) (fun r u9 H locs hw hP hD hS => ?_)
    subst hw
    have hP : va_P D kCl [(mm, .inr (5, [.int (nI 0), .int (nI dg), .int (nI PT), .int (nI PN), .int (nI n), .ref ma, .ref mb, .ref mc, .ref md, .ref me, .int (nI sz), .ref mf, .int (nI od), .int (nI sl), .int (nI t), .int (nI wr), .int (nI pl), .int (nI lo), .long (lN nm), .int vz, .ref mg, .ref mh])), (mb, .inl (cI, 16384, .inl (iF pm))), (mc, .inl (cI, 4, .inl (iF pd)))] H := hP
    have hD : va_D A [(mm, .inr (5, [.int (nI 0), .int (nI dg), .int (nI PT), .int (nI PN), .int (nI n), .ref ma, .ref mb, .ref mc, .ref md, .ref me, .int (nI sz), .ref mf, .int (nI od), .int (nI sl), .int (nI t), .int (nI wr), .int (nI pl), .int (nI lo), .long (lN nm), .int vz, .ref mg, .ref mh])), (mb, .inl (cI, 16384, .inl (iF pm))), (mc, .inl (cI, 4, .inl (iF pd)))] := hD
    refine W.widen (k := 0) (n := 0) (Nat.le_of_ble_eq_true rfl) (Nat.le_of_ble_eq_true rfl) ?_
    refine k_if_eq (tgt := 43) (by omega) hx hb dX7_plan_25 (by decide) (fun c381 => ?_) (fun c381 => ?_)
    · skip
      refine lv_aload_n hx hb dX7_plan_43 rfl (lv_at hl 0 rfl) ?_
      refine lv_iconst (v := nI 1) hx hb dX7_plan_44 (by decide) ?_
      refine k_ci (wr := [(mb, .inl (cI, 16384, .inl (iF pm))), (mc, .inl (cI, 4, .inl (iF pd)))]) (k_rv F (c_M_fail l D cI cB cJ cS mm ma mb mc md me mf mg mh 0 dg PT PN n sz od sl t wr pl lo nm b pm pd pq rb ok ol fx vz 1) (cwV 1 hts (g_V wd_378 wd_379 wd_380 wd_373 wd_381) rfl rfl rfl (by decide +kernel) ⟨Nat.le_of_ble_eq_true rfl, Nat.le_of_ble_eq_true rfl⟩) hK hP hD hS hA hZ [0] rfl (by decide) 0 rfl rfl rfl rfl hl.1 rfl (Nat.le_of_ble_eq_true rfl) dX7_plan_45 ⟨Nat.le_of_ble_eq_true rfl, Nat.le_of_ble_eq_true rfl⟩) hP hD hS hA [0] [1, 2] rfl rfl (by decide) (by decide) (fun r u9 H locs hw hP hD hS => ?_)
      subst hw
      have hP : va_P D kCl [(mb, .inl (cI, 16384, .inl (iF pm))), (mc, .inl (cI, 4, .inl (iF pd))), (mm, .inr (5, [.int (nI 1), .int (nI dg), .int (nI PT), .int (nI PN), .int (nI n), .ref ma, .ref mb, .ref mc, .ref md, .ref me, .int (nI sz), .ref mf, .int (nI od), .int (nI sl), .int (nI t), .int (nI wr), .int (nI pl), .int (nI lo), .long (lN nm), .int vz, .ref mg, .ref mh]))] H := hP
      have hD : va_D A [(mb, .inl (cI, 16384, .inl (iF pm))), (mc, .inl (cI, 4, .inl (iF pd))), (mm, .inr (5, [.int (nI 1), .int (nI dg), .int (nI PT), .int (nI PN), .int (nI n), .ref ma, .ref mb, .ref mc, .ref md, .ref me, .int (nI sz), .ref mf, .int (nI od), .int (nI sl), .int (nI t), .int (nI wr), .int (nI pl), .int (nI lo), .long (lN nm), .int vz, .ref mg, .ref mh]))] := hD
      refine W.widen (k := 0) (n := 0) (Nat.le_of_ble_eq_true rfl) (Nat.le_of_ble_eq_true rfl) ?_
      have hP : va_P D kCl [(mm, .inr (5, [.int (nI 1), .int (nI dg), .int (nI PT), .int (nI PN), .int (nI n), .ref ma, .ref mb, .ref mc, .ref md, .ref me, .int (nI sz), .ref mf, .int (nI od), .int (nI sl), .int (nI t), .int (nI wr), .int (nI pl), .int (nI lo), .long (lN nm), .int vz, .ref mg, .ref mh])), (mb, .inl (cI, 16384, .inl (iF pm))), (mc, .inl (cI, 4, .inl (iF pd)))] H := hP.sub [2, 0, 1] rfl
      have hD : va_D A [(mm, .inr (5, [.int (nI 1), .int (nI dg), .int (nI PT), .int (nI PN), .int (nI n), .ref ma, .ref mb, .ref mc, .ref md, .ref me, .int (nI sz), .ref mf, .int (nI od), .int (nI sl), .int (nI t), .int (nI wr), .int (nI pl), .int (nI lo), .long (lN nm), .int vz, .ref mg, .ref mh])), (mb, .inl (cI, 16384, .inl (iF pm))), (mc, .inl (cI, 4, .inl (iF pd)))] := hD.sub [2, 0, 1] (by decide) rfl
      exact k_iret () hx hb hr (by first | rfl | decide | exact vp_nar_int _) hlocks hK hP hD hS (rfl) (rfl) (Nat.le_of_ble_eq_true rfl) (Nat.le_of_ble_eq_true rfl) dX7_plan_48
    · skip
      exact absurd c381 (by omega)

set_option maxRecDepth 100000 in
set_option maxHeartbeats 4000000 in
theorem c_M_ordinate (l : Launch) (D : va_G) (cI cB cJ cS : ClassId) (mm ma mb mc md me mf mg mh th dg PT PN n sz od sl t wr pl lo nm : Nat) (b pm pd pq rb ok ol : Nat → Nat) (fx : Nat → Int32) (vz : Int32) (k : Nat) (hk : k < 4) (hpq : pq k ≤ 4096) (j w : Nat) (hj : j < pq k) (hw2 : w < 2)  : kM l yX7_ordinate vsX7_ordinate ({ frames := 2, cells := 0, slots := 0, locals := 42 }) D (kT cI cB cJ cS) [.ref mm, .int (nI k), .int (nI j), .int (nI w)] [(mm, .inr (5, [.int (nI th), .int (nI dg), .int (nI PT), .int (nI PN), .int (nI n), .ref ma, .ref mb, .ref mc, .ref md, .ref me, .int (nI sz), .ref mf, .int (nI od), .int (nI sl), .int (nI t), .int (nI wr), .int (nI pl), .int (nI lo), .long (lN nm), .int vz, .ref mg, .ref mh])), (md, .inl (cI, 32768, .inl fx)), (me, .inl (cI, 4, .inl (iF pq)))] (kQi D (kT cI cB cJ cS) (fun r (ug : Unit) => r = fx (2 * (4096 * k + j) + w)) (fun ug => [(mm, .inr (5, [.int (nI 0), .int (nI dg), .int (nI PT), .int (nI PN), .int (nI n), .ref ma, .ref mb, .ref mc, .ref md, .ref me, .int (nI sz), .ref mf, .int (nI od), .int (nI sl), .int (nI t), .int (nI wr), .int (nI pl), .int (nI lo), .long (lN nm), .int vz, .ref mg, .ref mh])), (md, .inl (cI, 32768, .inl fx)), (me, .inl (cI, 4, .inl (iF pq)))])) := by
  refine k_ofW (by decide) rfl (Nat.le_of_ble_eq_true rfl) ?_
  intro p e s m below meth c A ls hx hb hr hts hown hlocks hmn hml hA hP hK hD hS hZ hl
  have inX7 : ∀ w ∈ wsX70, w ∈ vsX7_ordinate := fun w h => List.mem_cons_of_mem _ (iaX7 w h)
  have F : CallFix p m c cX7_ordinate 4 s _ vsX7_ordinate RX7 := ⟨hx, hb, hml, hown, hts⟩
  have hl : lv_has ls 4 [(0, .ref mm), (1, .int (nI k)), (2, .int (nI j)), (3, .int (nI w))] := hl
  refine lv_aload_n hx hb dX7_ordinate_0 rfl (lv_at hl 0 rfl) ?_
  refine lv_iconst (v := nI 0) hx hb dX7_ordinate_1 (by decide) ?_
  refine va_put (D := D) (ci := 5) (v := .int (nI 0)) (ty := .int) (C := RX7) (T := TX7) (N := 22) hx hb hts inX7 tyX7 tyX7_ok nmX7 hown hK hP hD hS 0 rfl rfl 0 (by decide) (hts (.fieldLink RX7 48 "ByteShapesModel" "thrown" "I") (List.mem_cons_of_mem _ wd_368)) (fun _ h9 => h9) rfl (by decide +kernel) (rfl) (rfl) (Nat.le_of_ble_eq_true rfl) dX7_ordinate_2 (fun H locs hP hD hS => ?_)
  have hP : va_P D kCl [(mm, .inr (5, [.int (nI 0), .int (nI dg), .int (nI PT), .int (nI PN), .int (nI n), .ref ma, .ref mb, .ref mc, .ref md, .ref me, .int (nI sz), .ref mf, .int (nI od), .int (nI sl), .int (nI t), .int (nI wr), .int (nI pl), .int (nI lo), .long (lN nm), .int vz, .ref mg, .ref mh])), (md, .inl (cI, 32768, .inl fx)), (me, .inl (cI, 4, .inl (iF pq)))] H := hP
  have hD : va_D A [(mm, .inr (5, [.int (nI 0), .int (nI dg), .int (nI PT), .int (nI PN), .int (nI n), .ref ma, .ref mb, .ref mc, .ref md, .ref me, .int (nI sz), .ref mf, .int (nI od), .int (nI sl), .int (nI t), .int (nI wr), .int (nI pl), .int (nI lo), .long (lN nm), .int vz, .ref mg, .ref mh])), (md, .inl (cI, 32768, .inl fx)), (me, .inl (cI, 4, .inl (iF pq)))] := hD
  refine lv_iload_n hx hb dX7_ordinate_5 rfl (lv_at hl 1 rfl) ?_
  refine k_ci (wr := [(mm, .inr (5, [.int (nI 0), .int (nI dg), .int (nI PT), .int (nI PN), .int (nI n), .ref ma, .ref mb, .ref mc, .ref md, .ref me, .int (nI sz), .ref mf, .int (nI od), .int (nI sl), .int (nI t), .int (nI wr), .int (nI pl), .int (nI lo), .long (lN nm), .int vz, .ref mg, .ref mh])), (md, .inl (cI, 32768, .inl fx)), (me, .inl (cI, 4, .inl (iF pq)))]) (k_rs F (c_M_isSlot1 l D cI cB cJ cS k hk) (va_cwS 1 hts (g_S wd_443 wd_444 wd_373 wd_445) rfl rfl rfl (by decide +kernel) ⟨Nat.le_of_ble_eq_true rfl, Nat.le_of_ble_eq_true rfl⟩) hK hP hD hS hA hZ [] rfl (by decide) rfl hl.1 rfl (Nat.le_of_ble_eq_true rfl) dX7_ordinate_6 ⟨Nat.le_of_ble_eq_true rfl, Nat.le_of_ble_eq_true rfl⟩) hP hD hS hA [] [0, 1, 2] rfl rfl (by decide) (by decide) (fun r u9 H locs hw hP hD hS => ?_)
  subst hw
  have hP : va_P D kCl [(mm, .inr (5, [.int (nI 0), .int (nI dg), .int (nI PT), .int (nI PN), .int (nI n), .ref ma, .ref mb, .ref mc, .ref md, .ref me, .int (nI sz), .ref mf, .int (nI od), .int (nI sl), .int (nI t), .int (nI wr), .int (nI pl), .int (nI lo), .long (lN nm), .int vz, .ref mg, .ref mh])), (md, .inl (cI, 32768, .inl fx)), (me, .inl (cI, 4, .inl (iF pq)))] H := hP
  have hD : va_D A [(mm, .inr (5, [.int (nI 0), .int (nI dg), .int (nI PT), .int (nI PN), .int (nI n), .ref ma, .ref mb, .ref mc, .ref md, .ref me, .int (nI sz), .ref mf, .int (nI od), .int (nI sl), .int (nI t), .int (nI wr), .int (nI pl), .int (nI lo), .long (lN nm), .int vz, .ref mg, .ref mh])), (md, .inl (cI, 32768, .inl fx)), (me, .inl (cI, 4, .inl (iF pq)))] := hD
  refine W.widen (k := 0) (n := 0) (Nat.le_of_ble_eq_true rfl) (Nat.le_of_ble_eq_true rfl) ?_
  refine k_if_eq (tgt := 56) (by omega) hx hb dX7_ordinate_9 (by decide) (fun c382 => ?_) (fun c382 => ?_)
  · skip
    exact absurd c382 (by omega)
  · skip
    refine lv_iload_n hx hb dX7_ordinate_12 rfl (lv_at hl 2 rfl) ?_
    refine lv_iconst (v := nI 0) hx hb dX7_ordinate_13 (by decide) ?_
    refine lv_aload_n hx hb dX7_ordinate_14 rfl (lv_at hl 0 rfl) ?_
    refine va_get (D := D) (ci := 5) (v := .ref me) (C := RX7) (T := TX7) (N := 22) hx hb hts inX7 hown hK hP 0 rfl rfl 9 (by decide) (hts (.fieldLink RX7 24 "ByteShapesModel" "points" "[I") (List.mem_cons_of_mem _ wd_390)) (fun _ h9 => h9) rfl dX7_ordinate_15 ?_
    refine lv_iload_n hx hb dX7_ordinate_18 rfl (lv_at hl 1 rfl) ?_
    refine va_iald hx hb hK hP 2 0 rfl rfl (vp_in_nI (by omega) (by omega)) dX7_ordinate_19 ?_
    refine k_i (show _ = (iF pq) k from congrArg (iF pq) (nI_clamp (by omega))) ?_
    refine k_i (show _ = nI (pq k) from rfl) ?_
    refine lv_iconst (v := nI 1) hx hb dX7_ordinate_20 (by decide) ?_
    refine lv_isub hx hb dX7_ordinate_21 ?_
    refine k_ci (wr := [(mm, .inr (5, [.int (nI 0), .int (nI dg), .int (nI PT), .int (nI PN), .int (nI n), .ref ma, .ref mb, .ref mc, .ref md, .ref me, .int (nI sz), .ref mf, .int (nI od), .int (nI sl), .int (nI t), .int (nI wr), .int (nI pl), .int (nI lo), .long (lN nm), .int vz, .ref mg, .ref mh])), (md, .inl (cI, 32768, .inl fx)), (me, .inl (cI, 4, .inl (iF pq)))]) (k_rs F (c_M_within1r l D cI cB cJ cS (nI j) (nI 0) (nI (pq k) - nI 1) (in_0 (by omega)) (in_m (by omega) hj)) (va_cwS 3 hts (g_S wd_371 wd_372 wd_373 wd_374) rfl rfl rfl (by decide +kernel) ⟨Nat.le_of_ble_eq_true rfl, Nat.le_of_ble_eq_true rfl⟩) hK hP hD hS hA hZ [] rfl (by decide) rfl hl.1 rfl (Nat.le_of_ble_eq_true rfl) dX7_ordinate_22 ⟨Nat.le_of_ble_eq_true rfl, Nat.le_of_ble_eq_true rfl⟩) hP hD hS hA [] [0, 1, 2] rfl rfl (by decide) (by decide) (fun r u9 H locs hw hP hD hS => ?_)
    subst hw
    have hP : va_P D kCl [(mm, .inr (5, [.int (nI 0), .int (nI dg), .int (nI PT), .int (nI PN), .int (nI n), .ref ma, .ref mb, .ref mc, .ref md, .ref me, .int (nI sz), .ref mf, .int (nI od), .int (nI sl), .int (nI t), .int (nI wr), .int (nI pl), .int (nI lo), .long (lN nm), .int vz, .ref mg, .ref mh])), (md, .inl (cI, 32768, .inl fx)), (me, .inl (cI, 4, .inl (iF pq)))] H := hP
    have hD : va_D A [(mm, .inr (5, [.int (nI 0), .int (nI dg), .int (nI PT), .int (nI PN), .int (nI n), .ref ma, .ref mb, .ref mc, .ref md, .ref me, .int (nI sz), .ref mf, .int (nI od), .int (nI sl), .int (nI t), .int (nI wr), .int (nI pl), .int (nI lo), .long (lN nm), .int vz, .ref mg, .ref mh])), (md, .inl (cI, 32768, .inl fx)), (me, .inl (cI, 4, .inl (iF pq)))] := hD
    refine W.widen (k := 0) (n := 0) (Nat.le_of_ble_eq_true rfl) (Nat.le_of_ble_eq_true rfl) ?_
    refine k_if_eq (tgt := 56) (by omega) hx hb dX7_ordinate_25 (by decide) (fun c383 => ?_) (fun c383 => ?_)
    · skip
      exact absurd c383 (by omega)
    · skip
      refine lv_iload_n hx hb dX7_ordinate_28 rfl (lv_at hl 3 rfl) ?_
      refine lv_iconst (v := nI 0) hx hb dX7_ordinate_29 (by decide) ?_
      refine lv_iconst (v := nI 1) hx hb dX7_ordinate_30 (by decide) ?_
      refine k_ci (wr := [(mm, .inr (5, [.int (nI 0), .int (nI dg), .int (nI PT), .int (nI PN), .int (nI n), .ref ma, .ref mb, .ref mc, .ref md, .ref me, .int (nI sz), .ref mf, .int (nI od), .int (nI sl), .int (nI t), .int (nI wr), .int (nI pl), .int (nI lo), .long (lN nm), .int vz, .ref mg, .ref mh])), (md, .inl (cI, 32768, .inl fx)), (me, .inl (cI, 4, .inl (iF pq)))]) (k_rs F (c_M_within1 l D cI cB cJ cS w 0 1 (by omega) (by omega) (by decide)) (va_cwS 3 hts (g_S wd_371 wd_372 wd_373 wd_374) rfl rfl rfl (by decide +kernel) ⟨Nat.le_of_ble_eq_true rfl, Nat.le_of_ble_eq_true rfl⟩) hK hP hD hS hA hZ [] rfl (by decide) rfl hl.1 rfl (Nat.le_of_ble_eq_true rfl) dX7_ordinate_31 ⟨Nat.le_of_ble_eq_true rfl, Nat.le_of_ble_eq_true rfl⟩) hP hD hS hA [] [0, 1, 2] rfl rfl (by decide) (by decide) (fun r u9 H locs hw hP hD hS => ?_)
      subst hw
      have hP : va_P D kCl [(mm, .inr (5, [.int (nI 0), .int (nI dg), .int (nI PT), .int (nI PN), .int (nI n), .ref ma, .ref mb, .ref mc, .ref md, .ref me, .int (nI sz), .ref mf, .int (nI od), .int (nI sl), .int (nI t), .int (nI wr), .int (nI pl), .int (nI lo), .long (lN nm), .int vz, .ref mg, .ref mh])), (md, .inl (cI, 32768, .inl fx)), (me, .inl (cI, 4, .inl (iF pq)))] H := hP
      have hD : va_D A [(mm, .inr (5, [.int (nI 0), .int (nI dg), .int (nI PT), .int (nI PN), .int (nI n), .ref ma, .ref mb, .ref mc, .ref md, .ref me, .int (nI sz), .ref mf, .int (nI od), .int (nI sl), .int (nI t), .int (nI wr), .int (nI pl), .int (nI lo), .long (lN nm), .int vz, .ref mg, .ref mh])), (md, .inl (cI, 32768, .inl fx)), (me, .inl (cI, 4, .inl (iF pq)))] := hD
      refine W.widen (k := 0) (n := 0) (Nat.le_of_ble_eq_true rfl) (Nat.le_of_ble_eq_true rfl) ?_
      refine k_if_eq (tgt := 56) (by omega) hx hb dX7_ordinate_34 (by decide) (fun c384 => ?_) (fun c384 => ?_)
      · skip
        exact absurd c384 (by omega)
      · skip
        refine lv_aload_n hx hb dX7_ordinate_37 rfl (lv_at hl 0 rfl) ?_
        refine va_get (D := D) (ci := 5) (v := .ref md) (C := RX7) (T := TX7) (N := 22) hx hb hts inX7 hown hK hP 0 rfl rfl 8 (by decide) (hts (.fieldLink RX7 21 "ByteShapesModel" "xy" "[I") (List.mem_cons_of_mem _ wd_393)) (fun _ h9 => h9) rfl dX7_ordinate_38 ?_
        refine lv_iconst (v := nI 2) hx hb dX7_ordinate_41 (by decide) ?_
        refine lv_sipush (v := nI 4096) hx hb dX7_ordinate_42 (by decide) ?_
        refine lv_iload_n hx hb dX7_ordinate_45 rfl (lv_at hl 1 rfl) ?_
        refine lv_imul hx hb dX7_ordinate_46 ?_
        refine k_i (show _ = nI (4096 * k) from pk_mul _ _) ?_
        refine lv_iload_n hx hb dX7_ordinate_47 rfl (lv_at hl 2 rfl) ?_
        refine lv_iadd hx hb dX7_ordinate_48 ?_
        refine k_i (show _ = nI ((4096 * k) + j) from nI_add _ _) ?_
        refine lv_imul hx hb dX7_ordinate_49 ?_
        refine k_i (show _ = nI (2 * ((4096 * k) + j)) from pk_mul _ _) ?_
        refine lv_iload_n hx hb dX7_ordinate_50 rfl (lv_at hl 3 rfl) ?_
        refine lv_iadd hx hb dX7_ordinate_51 ?_
        refine k_i (show _ = nI ((2 * ((4096 * k) + j)) + w) from nI_add _ _) ?_
        refine va_iald hx hb hK hP 1 0 rfl rfl (vp_in_nI (by omega) (by omega)) dX7_ordinate_52 ?_
        refine k_i (show _ = fx ((2 * ((4096 * k) + j)) + w) from congrArg fx (nI_clamp (by omega))) ?_
        refine lv_goto (tgt := 61) hx hb dX7_ordinate_53 (by decide) ?_
        exact k_iret () hx hb hr (by first | rfl | decide | exact vp_nar_int _) hlocks hK hP hD hS (rfl) (rfl) (Nat.le_of_ble_eq_true rfl) (Nat.le_of_ble_eq_true rfl) dX7_ordinate_61

set_option maxRecDepth 100000 in
set_option maxHeartbeats 4000000 in
theorem c_M_ordinateX1 (l : Launch) (D : va_G) (cI cB cJ cS : ClassId) (mm ma mb mc md me mf mg mh th dg PT PN n sz od sl t wr pl lo nm : Nat) (b pm pd pq rb ok ol : Nat → Nat) (fx : Nat → Int32) (vz : Int32) (z : Int32) (hz : z < 0 ∨ nI 4 ≤ z) (z2 z3 : Int32)  : kM l yX7_ordinate vsX7_ordinate ({ frames := 2, cells := 0, slots := 0, locals := 42 }) D (kT cI cB cJ cS) [.ref mm, .int z, .int z2, .int z3] [(mm, .inr (5, [.int (nI th), .int (nI dg), .int (nI PT), .int (nI PN), .int (nI n), .ref ma, .ref mb, .ref mc, .ref md, .ref me, .int (nI sz), .ref mf, .int (nI od), .int (nI sl), .int (nI t), .int (nI wr), .int (nI pl), .int (nI lo), .long (lN nm), .int vz, .ref mg, .ref mh])), (md, .inl (cI, 32768, .inl fx)), (me, .inl (cI, 4, .inl (iF pq)))] (kQi D (kT cI cB cJ cS) (fun r (ug : Unit) => r = nI 0) (fun ug => [(mm, .inr (5, [.int (nI 1), .int (nI dg), .int (nI PT), .int (nI PN), .int (nI n), .ref ma, .ref mb, .ref mc, .ref md, .ref me, .int (nI sz), .ref mf, .int (nI od), .int (nI sl), .int (nI t), .int (nI wr), .int (nI pl), .int (nI lo), .long (lN nm), .int vz, .ref mg, .ref mh])), (md, .inl (cI, 32768, .inl fx)), (me, .inl (cI, 4, .inl (iF pq)))])) := by
  refine k_ofW (by decide) rfl (Nat.le_of_ble_eq_true rfl) ?_
  intro p e s m below meth c A ls hx hb hr hts hown hlocks hmn hml hA hP hK hD hS hZ hl
  have inX7 : ∀ w ∈ wsX70, w ∈ vsX7_ordinate := fun w h => List.mem_cons_of_mem _ (iaX7 w h)
  have F : CallFix p m c cX7_ordinate 4 s _ vsX7_ordinate RX7 := ⟨hx, hb, hml, hown, hts⟩
  have hl : lv_has ls 4 [(0, .ref mm), (1, .int z), (2, .int z2), (3, .int z3)] := hl
  refine lv_aload_n hx hb dX7_ordinate_0 rfl (lv_at hl 0 rfl) ?_
  refine lv_iconst (v := nI 0) hx hb dX7_ordinate_1 (by decide) ?_
  refine va_put (D := D) (ci := 5) (v := .int (nI 0)) (ty := .int) (C := RX7) (T := TX7) (N := 22) hx hb hts inX7 tyX7 tyX7_ok nmX7 hown hK hP hD hS 0 rfl rfl 0 (by decide) (hts (.fieldLink RX7 48 "ByteShapesModel" "thrown" "I") (List.mem_cons_of_mem _ wd_368)) (fun _ h9 => h9) rfl (by decide +kernel) (rfl) (rfl) (Nat.le_of_ble_eq_true rfl) dX7_ordinate_2 (fun H locs hP hD hS => ?_)
  have hP : va_P D kCl [(mm, .inr (5, [.int (nI 0), .int (nI dg), .int (nI PT), .int (nI PN), .int (nI n), .ref ma, .ref mb, .ref mc, .ref md, .ref me, .int (nI sz), .ref mf, .int (nI od), .int (nI sl), .int (nI t), .int (nI wr), .int (nI pl), .int (nI lo), .long (lN nm), .int vz, .ref mg, .ref mh])), (md, .inl (cI, 32768, .inl fx)), (me, .inl (cI, 4, .inl (iF pq)))] H := hP
  have hD : va_D A [(mm, .inr (5, [.int (nI 0), .int (nI dg), .int (nI PT), .int (nI PN), .int (nI n), .ref ma, .ref mb, .ref mc, .ref md, .ref me, .int (nI sz), .ref mf, .int (nI od), .int (nI sl), .int (nI t), .int (nI wr), .int (nI pl), .int (nI lo), .long (lN nm), .int vz, .ref mg, .ref mh])), (md, .inl (cI, 32768, .inl fx)), (me, .inl (cI, 4, .inl (iF pq)))] := hD
  refine lv_iload_n hx hb dX7_ordinate_5 rfl (lv_at hl 1 rfl) ?_
  refine k_ci (wr := [(mm, .inr (5, [.int (nI 0), .int (nI dg), .int (nI PT), .int (nI PN), .int (nI n), .ref ma, .ref mb, .ref mc, .ref md, .ref me, .int (nI sz), .ref mf, .int (nI od), .int (nI sl), .int (nI t), .int (nI wr), .int (nI pl), .int (nI lo), .long (lN nm), .int vz, .ref mg, .ref mh])), (md, .inl (cI, 32768, .inl fx)), (me, .inl (cI, 4, .inl (iF pq)))]) (k_rs F (c_M_isSlot0 l D cI cB cJ cS z hz) (va_cwS 1 hts (g_S wd_443 wd_444 wd_373 wd_445) rfl rfl rfl (by decide +kernel) ⟨Nat.le_of_ble_eq_true rfl, Nat.le_of_ble_eq_true rfl⟩) hK hP hD hS hA hZ [] rfl (by decide) rfl hl.1 rfl (Nat.le_of_ble_eq_true rfl) dX7_ordinate_6 ⟨Nat.le_of_ble_eq_true rfl, Nat.le_of_ble_eq_true rfl⟩) hP hD hS hA [] [0, 1, 2] rfl rfl (by decide) (by decide) (fun r u9 H locs hw hP hD hS => ?_)
  subst hw
  have hP : va_P D kCl [(mm, .inr (5, [.int (nI 0), .int (nI dg), .int (nI PT), .int (nI PN), .int (nI n), .ref ma, .ref mb, .ref mc, .ref md, .ref me, .int (nI sz), .ref mf, .int (nI od), .int (nI sl), .int (nI t), .int (nI wr), .int (nI pl), .int (nI lo), .long (lN nm), .int vz, .ref mg, .ref mh])), (md, .inl (cI, 32768, .inl fx)), (me, .inl (cI, 4, .inl (iF pq)))] H := hP
  have hD : va_D A [(mm, .inr (5, [.int (nI 0), .int (nI dg), .int (nI PT), .int (nI PN), .int (nI n), .ref ma, .ref mb, .ref mc, .ref md, .ref me, .int (nI sz), .ref mf, .int (nI od), .int (nI sl), .int (nI t), .int (nI wr), .int (nI pl), .int (nI lo), .long (lN nm), .int vz, .ref mg, .ref mh])), (md, .inl (cI, 32768, .inl fx)), (me, .inl (cI, 4, .inl (iF pq)))] := hD
  refine W.widen (k := 0) (n := 0) (Nat.le_of_ble_eq_true rfl) (Nat.le_of_ble_eq_true rfl) ?_
  refine k_if_eq (tgt := 56) (by omega) hx hb dX7_ordinate_9 (by decide) (fun c385 => ?_) (fun c385 => ?_)
  · skip
    refine lv_aload_n hx hb dX7_ordinate_56 rfl (lv_at hl 0 rfl) ?_
    refine lv_iconst (v := nI 1) hx hb dX7_ordinate_57 (by decide) ?_
    refine k_ci (wr := [(md, .inl (cI, 32768, .inl fx)), (me, .inl (cI, 4, .inl (iF pq)))]) (k_rv F (c_M_fail l D cI cB cJ cS mm ma mb mc md me mf mg mh 0 dg PT PN n sz od sl t wr pl lo nm b pm pd pq rb ok ol fx vz 1) (cwV 1 hts (g_V wd_378 wd_379 wd_380 wd_373 wd_381) rfl rfl rfl (by decide +kernel) ⟨Nat.le_of_ble_eq_true rfl, Nat.le_of_ble_eq_true rfl⟩) hK hP hD hS hA hZ [0] rfl (by decide) 0 rfl rfl rfl rfl hl.1 rfl (Nat.le_of_ble_eq_true rfl) dX7_ordinate_58 ⟨Nat.le_of_ble_eq_true rfl, Nat.le_of_ble_eq_true rfl⟩) hP hD hS hA [0] [1, 2] rfl rfl (by decide) (by decide) (fun r u9 H locs hw hP hD hS => ?_)
    subst hw
    have hP : va_P D kCl [(md, .inl (cI, 32768, .inl fx)), (me, .inl (cI, 4, .inl (iF pq))), (mm, .inr (5, [.int (nI 1), .int (nI dg), .int (nI PT), .int (nI PN), .int (nI n), .ref ma, .ref mb, .ref mc, .ref md, .ref me, .int (nI sz), .ref mf, .int (nI od), .int (nI sl), .int (nI t), .int (nI wr), .int (nI pl), .int (nI lo), .long (lN nm), .int vz, .ref mg, .ref mh]))] H := hP
    have hD : va_D A [(md, .inl (cI, 32768, .inl fx)), (me, .inl (cI, 4, .inl (iF pq))), (mm, .inr (5, [.int (nI 1), .int (nI dg), .int (nI PT), .int (nI PN), .int (nI n), .ref ma, .ref mb, .ref mc, .ref md, .ref me, .int (nI sz), .ref mf, .int (nI od), .int (nI sl), .int (nI t), .int (nI wr), .int (nI pl), .int (nI lo), .long (lN nm), .int vz, .ref mg, .ref mh]))] := hD
    refine W.widen (k := 0) (n := 0) (Nat.le_of_ble_eq_true rfl) (Nat.le_of_ble_eq_true rfl) ?_
    have hP : va_P D kCl [(mm, .inr (5, [.int (nI 1), .int (nI dg), .int (nI PT), .int (nI PN), .int (nI n), .ref ma, .ref mb, .ref mc, .ref md, .ref me, .int (nI sz), .ref mf, .int (nI od), .int (nI sl), .int (nI t), .int (nI wr), .int (nI pl), .int (nI lo), .long (lN nm), .int vz, .ref mg, .ref mh])), (md, .inl (cI, 32768, .inl fx)), (me, .inl (cI, 4, .inl (iF pq)))] H := hP.sub [2, 0, 1] rfl
    have hD : va_D A [(mm, .inr (5, [.int (nI 1), .int (nI dg), .int (nI PT), .int (nI PN), .int (nI n), .ref ma, .ref mb, .ref mc, .ref md, .ref me, .int (nI sz), .ref mf, .int (nI od), .int (nI sl), .int (nI t), .int (nI wr), .int (nI pl), .int (nI lo), .long (lN nm), .int vz, .ref mg, .ref mh])), (md, .inl (cI, 32768, .inl fx)), (me, .inl (cI, 4, .inl (iF pq)))] := hD.sub [2, 0, 1] (by decide) rfl
    exact k_iret () hx hb hr (by first | rfl | decide | exact vp_nar_int _) hlocks hK hP hD hS (rfl) (rfl) (Nat.le_of_ble_eq_true rfl) (Nat.le_of_ble_eq_true rfl) dX7_ordinate_61
  · skip
    exact absurd c385 (by omega)

set_option maxRecDepth 100000 in
set_option maxHeartbeats 4000000 in
theorem c_M_ordinateX2 (l : Launch) (D : va_G) (cI cB cJ cS : ClassId) (mm ma mb mc md me mf mg mh th dg PT PN n sz od sl t wr pl lo nm : Nat) (b pm pd pq rb ok ol : Nat → Nat) (fx : Nat → Int32) (vz : Int32) (k : Nat) (hk : k < 4) (hpq : pq k ≤ 4096) (z z3 : Int32) (hz : z < 0 ∨ nI (pq k) ≤ z)  : kM l yX7_ordinate vsX7_ordinate ({ frames := 2, cells := 0, slots := 0, locals := 42 }) D (kT cI cB cJ cS) [.ref mm, .int (nI k), .int z, .int z3] [(mm, .inr (5, [.int (nI th), .int (nI dg), .int (nI PT), .int (nI PN), .int (nI n), .ref ma, .ref mb, .ref mc, .ref md, .ref me, .int (nI sz), .ref mf, .int (nI od), .int (nI sl), .int (nI t), .int (nI wr), .int (nI pl), .int (nI lo), .long (lN nm), .int vz, .ref mg, .ref mh])), (md, .inl (cI, 32768, .inl fx)), (me, .inl (cI, 4, .inl (iF pq)))] (kQi D (kT cI cB cJ cS) (fun r (ug : Unit) => r = nI 0) (fun ug => [(mm, .inr (5, [.int (nI 1), .int (nI dg), .int (nI PT), .int (nI PN), .int (nI n), .ref ma, .ref mb, .ref mc, .ref md, .ref me, .int (nI sz), .ref mf, .int (nI od), .int (nI sl), .int (nI t), .int (nI wr), .int (nI pl), .int (nI lo), .long (lN nm), .int vz, .ref mg, .ref mh])), (md, .inl (cI, 32768, .inl fx)), (me, .inl (cI, 4, .inl (iF pq)))])) := by
  refine k_ofW (by decide) rfl (Nat.le_of_ble_eq_true rfl) ?_
  intro p e s m below meth c A ls hx hb hr hts hown hlocks hmn hml hA hP hK hD hS hZ hl
  have inX7 : ∀ w ∈ wsX70, w ∈ vsX7_ordinate := fun w h => List.mem_cons_of_mem _ (iaX7 w h)
  have F : CallFix p m c cX7_ordinate 4 s _ vsX7_ordinate RX7 := ⟨hx, hb, hml, hown, hts⟩
  have hl : lv_has ls 4 [(0, .ref mm), (1, .int (nI k)), (2, .int z), (3, .int z3)] := hl
  refine lv_aload_n hx hb dX7_ordinate_0 rfl (lv_at hl 0 rfl) ?_
  refine lv_iconst (v := nI 0) hx hb dX7_ordinate_1 (by decide) ?_
  refine va_put (D := D) (ci := 5) (v := .int (nI 0)) (ty := .int) (C := RX7) (T := TX7) (N := 22) hx hb hts inX7 tyX7 tyX7_ok nmX7 hown hK hP hD hS 0 rfl rfl 0 (by decide) (hts (.fieldLink RX7 48 "ByteShapesModel" "thrown" "I") (List.mem_cons_of_mem _ wd_368)) (fun _ h9 => h9) rfl (by decide +kernel) (rfl) (rfl) (Nat.le_of_ble_eq_true rfl) dX7_ordinate_2 (fun H locs hP hD hS => ?_)
  have hP : va_P D kCl [(mm, .inr (5, [.int (nI 0), .int (nI dg), .int (nI PT), .int (nI PN), .int (nI n), .ref ma, .ref mb, .ref mc, .ref md, .ref me, .int (nI sz), .ref mf, .int (nI od), .int (nI sl), .int (nI t), .int (nI wr), .int (nI pl), .int (nI lo), .long (lN nm), .int vz, .ref mg, .ref mh])), (md, .inl (cI, 32768, .inl fx)), (me, .inl (cI, 4, .inl (iF pq)))] H := hP
  have hD : va_D A [(mm, .inr (5, [.int (nI 0), .int (nI dg), .int (nI PT), .int (nI PN), .int (nI n), .ref ma, .ref mb, .ref mc, .ref md, .ref me, .int (nI sz), .ref mf, .int (nI od), .int (nI sl), .int (nI t), .int (nI wr), .int (nI pl), .int (nI lo), .long (lN nm), .int vz, .ref mg, .ref mh])), (md, .inl (cI, 32768, .inl fx)), (me, .inl (cI, 4, .inl (iF pq)))] := hD
  refine lv_iload_n hx hb dX7_ordinate_5 rfl (lv_at hl 1 rfl) ?_
  refine k_ci (wr := [(mm, .inr (5, [.int (nI 0), .int (nI dg), .int (nI PT), .int (nI PN), .int (nI n), .ref ma, .ref mb, .ref mc, .ref md, .ref me, .int (nI sz), .ref mf, .int (nI od), .int (nI sl), .int (nI t), .int (nI wr), .int (nI pl), .int (nI lo), .long (lN nm), .int vz, .ref mg, .ref mh])), (md, .inl (cI, 32768, .inl fx)), (me, .inl (cI, 4, .inl (iF pq)))]) (k_rs F (c_M_isSlot1 l D cI cB cJ cS k hk) (va_cwS 1 hts (g_S wd_443 wd_444 wd_373 wd_445) rfl rfl rfl (by decide +kernel) ⟨Nat.le_of_ble_eq_true rfl, Nat.le_of_ble_eq_true rfl⟩) hK hP hD hS hA hZ [] rfl (by decide) rfl hl.1 rfl (Nat.le_of_ble_eq_true rfl) dX7_ordinate_6 ⟨Nat.le_of_ble_eq_true rfl, Nat.le_of_ble_eq_true rfl⟩) hP hD hS hA [] [0, 1, 2] rfl rfl (by decide) (by decide) (fun r u9 H locs hw hP hD hS => ?_)
  subst hw
  have hP : va_P D kCl [(mm, .inr (5, [.int (nI 0), .int (nI dg), .int (nI PT), .int (nI PN), .int (nI n), .ref ma, .ref mb, .ref mc, .ref md, .ref me, .int (nI sz), .ref mf, .int (nI od), .int (nI sl), .int (nI t), .int (nI wr), .int (nI pl), .int (nI lo), .long (lN nm), .int vz, .ref mg, .ref mh])), (md, .inl (cI, 32768, .inl fx)), (me, .inl (cI, 4, .inl (iF pq)))] H := hP
  have hD : va_D A [(mm, .inr (5, [.int (nI 0), .int (nI dg), .int (nI PT), .int (nI PN), .int (nI n), .ref ma, .ref mb, .ref mc, .ref md, .ref me, .int (nI sz), .ref mf, .int (nI od), .int (nI sl), .int (nI t), .int (nI wr), .int (nI pl), .int (nI lo), .long (lN nm), .int vz, .ref mg, .ref mh])), (md, .inl (cI, 32768, .inl fx)), (me, .inl (cI, 4, .inl (iF pq)))] := hD
  refine W.widen (k := 0) (n := 0) (Nat.le_of_ble_eq_true rfl) (Nat.le_of_ble_eq_true rfl) ?_
  refine k_if_eq (tgt := 56) (by omega) hx hb dX7_ordinate_9 (by decide) (fun c386 => ?_) (fun c386 => ?_)
  · skip
    exact absurd c386 (by omega)
  · skip
    refine lv_iload_n hx hb dX7_ordinate_12 rfl (lv_at hl 2 rfl) ?_
    refine lv_iconst (v := nI 0) hx hb dX7_ordinate_13 (by decide) ?_
    refine lv_aload_n hx hb dX7_ordinate_14 rfl (lv_at hl 0 rfl) ?_
    refine va_get (D := D) (ci := 5) (v := .ref me) (C := RX7) (T := TX7) (N := 22) hx hb hts inX7 hown hK hP 0 rfl rfl 9 (by decide) (hts (.fieldLink RX7 24 "ByteShapesModel" "points" "[I") (List.mem_cons_of_mem _ wd_390)) (fun _ h9 => h9) rfl dX7_ordinate_15 ?_
    refine lv_iload_n hx hb dX7_ordinate_18 rfl (lv_at hl 1 rfl) ?_
    refine va_iald hx hb hK hP 2 0 rfl rfl (vp_in_nI (by omega) (by omega)) dX7_ordinate_19 ?_
    refine k_i (show _ = (iF pq) k from congrArg (iF pq) (nI_clamp (by omega))) ?_
    refine k_i (show _ = nI (pq k) from rfl) ?_
    refine lv_iconst (v := nI 1) hx hb dX7_ordinate_20 (by decide) ?_
    refine lv_isub hx hb dX7_ordinate_21 ?_
    refine k_ci (wr := [(mm, .inr (5, [.int (nI 0), .int (nI dg), .int (nI PT), .int (nI PN), .int (nI n), .ref ma, .ref mb, .ref mc, .ref md, .ref me, .int (nI sz), .ref mf, .int (nI od), .int (nI sl), .int (nI t), .int (nI wr), .int (nI pl), .int (nI lo), .long (lN nm), .int vz, .ref mg, .ref mh])), (md, .inl (cI, 32768, .inl fx)), (me, .inl (cI, 4, .inl (iF pq)))]) (k_rs F (c_M_within0r l D cI cB cJ cS z (nI 0) (nI (pq k) - nI 1) (out_m (by omega) hz)) (va_cwS 3 hts (g_S wd_371 wd_372 wd_373 wd_374) rfl rfl rfl (by decide +kernel) ⟨Nat.le_of_ble_eq_true rfl, Nat.le_of_ble_eq_true rfl⟩) hK hP hD hS hA hZ [] rfl (by decide) rfl hl.1 rfl (Nat.le_of_ble_eq_true rfl) dX7_ordinate_22 ⟨Nat.le_of_ble_eq_true rfl, Nat.le_of_ble_eq_true rfl⟩) hP hD hS hA [] [0, 1, 2] rfl rfl (by decide) (by decide) (fun r u9 H locs hw hP hD hS => ?_)
    subst hw
    have hP : va_P D kCl [(mm, .inr (5, [.int (nI 0), .int (nI dg), .int (nI PT), .int (nI PN), .int (nI n), .ref ma, .ref mb, .ref mc, .ref md, .ref me, .int (nI sz), .ref mf, .int (nI od), .int (nI sl), .int (nI t), .int (nI wr), .int (nI pl), .int (nI lo), .long (lN nm), .int vz, .ref mg, .ref mh])), (md, .inl (cI, 32768, .inl fx)), (me, .inl (cI, 4, .inl (iF pq)))] H := hP
    have hD : va_D A [(mm, .inr (5, [.int (nI 0), .int (nI dg), .int (nI PT), .int (nI PN), .int (nI n), .ref ma, .ref mb, .ref mc, .ref md, .ref me, .int (nI sz), .ref mf, .int (nI od), .int (nI sl), .int (nI t), .int (nI wr), .int (nI pl), .int (nI lo), .long (lN nm), .int vz, .ref mg, .ref mh])), (md, .inl (cI, 32768, .inl fx)), (me, .inl (cI, 4, .inl (iF pq)))] := hD
    refine W.widen (k := 0) (n := 0) (Nat.le_of_ble_eq_true rfl) (Nat.le_of_ble_eq_true rfl) ?_
    refine k_if_eq (tgt := 56) (by omega) hx hb dX7_ordinate_25 (by decide) (fun c387 => ?_) (fun c387 => ?_)
    · skip
      refine lv_aload_n hx hb dX7_ordinate_56 rfl (lv_at hl 0 rfl) ?_
      refine lv_iconst (v := nI 1) hx hb dX7_ordinate_57 (by decide) ?_
      refine k_ci (wr := [(md, .inl (cI, 32768, .inl fx)), (me, .inl (cI, 4, .inl (iF pq)))]) (k_rv F (c_M_fail l D cI cB cJ cS mm ma mb mc md me mf mg mh 0 dg PT PN n sz od sl t wr pl lo nm b pm pd pq rb ok ol fx vz 1) (cwV 1 hts (g_V wd_378 wd_379 wd_380 wd_373 wd_381) rfl rfl rfl (by decide +kernel) ⟨Nat.le_of_ble_eq_true rfl, Nat.le_of_ble_eq_true rfl⟩) hK hP hD hS hA hZ [0] rfl (by decide) 0 rfl rfl rfl rfl hl.1 rfl (Nat.le_of_ble_eq_true rfl) dX7_ordinate_58 ⟨Nat.le_of_ble_eq_true rfl, Nat.le_of_ble_eq_true rfl⟩) hP hD hS hA [0] [1, 2] rfl rfl (by decide) (by decide) (fun r u9 H locs hw hP hD hS => ?_)
      subst hw
      have hP : va_P D kCl [(md, .inl (cI, 32768, .inl fx)), (me, .inl (cI, 4, .inl (iF pq))), (mm, .inr (5, [.int (nI 1), .int (nI dg), .int (nI PT), .int (nI PN), .int (nI n), .ref ma, .ref mb, .ref mc, .ref md, .ref me, .int (nI sz), .ref mf, .int (nI od), .int (nI sl), .int (nI t), .int (nI wr), .int (nI pl), .int (nI lo), .long (lN nm), .int vz, .ref mg, .ref mh]))] H := hP
      have hD : va_D A [(md, .inl (cI, 32768, .inl fx)), (me, .inl (cI, 4, .inl (iF pq))), (mm, .inr (5, [.int (nI 1), .int (nI dg), .int (nI PT), .int (nI PN), .int (nI n), .ref ma, .ref mb, .ref mc, .ref md, .ref me, .int (nI sz), .ref mf, .int (nI od), .int (nI sl), .int (nI t), .int (nI wr), .int (nI pl), .int (nI lo), .long (lN nm), .int vz, .ref mg, .ref mh]))] := hD
      refine W.widen (k := 0) (n := 0) (Nat.le_of_ble_eq_true rfl) (Nat.le_of_ble_eq_true rfl) ?_
      have hP : va_P D kCl [(mm, .inr (5, [.int (nI 1), .int (nI dg), .int (nI PT), .int (nI PN), .int (nI n), .ref ma, .ref mb, .ref mc, .ref md, .ref me, .int (nI sz), .ref mf, .int (nI od), .int (nI sl), .int (nI t), .int (nI wr), .int (nI pl), .int (nI lo), .long (lN nm), .int vz, .ref mg, .ref mh])), (md, .inl (cI, 32768, .inl fx)), (me, .inl (cI, 4, .inl (iF pq)))] H := hP.sub [2, 0, 1] rfl
      have hD : va_D A [(mm, .inr (5, [.int (nI 1), .int (nI dg), .int (nI PT), .int (nI PN), .int (nI n), .ref ma, .ref mb, .ref mc, .ref md, .ref me, .int (nI sz), .ref mf, .int (nI od), .int (nI sl), .int (nI t), .int (nI wr), .int (nI pl), .int (nI lo), .long (lN nm), .int vz, .ref mg, .ref mh])), (md, .inl (cI, 32768, .inl fx)), (me, .inl (cI, 4, .inl (iF pq)))] := hD.sub [2, 0, 1] (by decide) rfl
      exact k_iret () hx hb hr (by first | rfl | decide | exact vp_nar_int _) hlocks hK hP hD hS (rfl) (rfl) (Nat.le_of_ble_eq_true rfl) (Nat.le_of_ble_eq_true rfl) dX7_ordinate_61
    · skip
      exact absurd c387 (by omega)

set_option maxRecDepth 100000 in
set_option maxHeartbeats 4000000 in
theorem c_M_ordinateX3 (l : Launch) (D : va_G) (cI cB cJ cS : ClassId) (mm ma mb mc md me mf mg mh th dg PT PN n sz od sl t wr pl lo nm : Nat) (b pm pd pq rb ok ol : Nat → Nat) (fx : Nat → Int32) (vz : Int32) (k : Nat) (hk : k < 4) (hpq : pq k ≤ 4096) (j : Nat) (hj : j < pq k) (z : Int32) (hz : z < nI 0 ∨ nI 1 < z)  : kM l yX7_ordinate vsX7_ordinate ({ frames := 2, cells := 0, slots := 0, locals := 42 }) D (kT cI cB cJ cS) [.ref mm, .int (nI k), .int (nI j), .int z] [(mm, .inr (5, [.int (nI th), .int (nI dg), .int (nI PT), .int (nI PN), .int (nI n), .ref ma, .ref mb, .ref mc, .ref md, .ref me, .int (nI sz), .ref mf, .int (nI od), .int (nI sl), .int (nI t), .int (nI wr), .int (nI pl), .int (nI lo), .long (lN nm), .int vz, .ref mg, .ref mh])), (md, .inl (cI, 32768, .inl fx)), (me, .inl (cI, 4, .inl (iF pq)))] (kQi D (kT cI cB cJ cS) (fun r (ug : Unit) => r = nI 0) (fun ug => [(mm, .inr (5, [.int (nI 1), .int (nI dg), .int (nI PT), .int (nI PN), .int (nI n), .ref ma, .ref mb, .ref mc, .ref md, .ref me, .int (nI sz), .ref mf, .int (nI od), .int (nI sl), .int (nI t), .int (nI wr), .int (nI pl), .int (nI lo), .long (lN nm), .int vz, .ref mg, .ref mh])), (md, .inl (cI, 32768, .inl fx)), (me, .inl (cI, 4, .inl (iF pq)))])) := by
  refine k_ofW (by decide) rfl (Nat.le_of_ble_eq_true rfl) ?_
  intro p e s m below meth c A ls hx hb hr hts hown hlocks hmn hml hA hP hK hD hS hZ hl
  have inX7 : ∀ w ∈ wsX70, w ∈ vsX7_ordinate := fun w h => List.mem_cons_of_mem _ (iaX7 w h)
  have F : CallFix p m c cX7_ordinate 4 s _ vsX7_ordinate RX7 := ⟨hx, hb, hml, hown, hts⟩
  have hl : lv_has ls 4 [(0, .ref mm), (1, .int (nI k)), (2, .int (nI j)), (3, .int z)] := hl
  refine lv_aload_n hx hb dX7_ordinate_0 rfl (lv_at hl 0 rfl) ?_
  refine lv_iconst (v := nI 0) hx hb dX7_ordinate_1 (by decide) ?_
  refine va_put (D := D) (ci := 5) (v := .int (nI 0)) (ty := .int) (C := RX7) (T := TX7) (N := 22) hx hb hts inX7 tyX7 tyX7_ok nmX7 hown hK hP hD hS 0 rfl rfl 0 (by decide) (hts (.fieldLink RX7 48 "ByteShapesModel" "thrown" "I") (List.mem_cons_of_mem _ wd_368)) (fun _ h9 => h9) rfl (by decide +kernel) (rfl) (rfl) (Nat.le_of_ble_eq_true rfl) dX7_ordinate_2 (fun H locs hP hD hS => ?_)
  have hP : va_P D kCl [(mm, .inr (5, [.int (nI 0), .int (nI dg), .int (nI PT), .int (nI PN), .int (nI n), .ref ma, .ref mb, .ref mc, .ref md, .ref me, .int (nI sz), .ref mf, .int (nI od), .int (nI sl), .int (nI t), .int (nI wr), .int (nI pl), .int (nI lo), .long (lN nm), .int vz, .ref mg, .ref mh])), (md, .inl (cI, 32768, .inl fx)), (me, .inl (cI, 4, .inl (iF pq)))] H := hP
  have hD : va_D A [(mm, .inr (5, [.int (nI 0), .int (nI dg), .int (nI PT), .int (nI PN), .int (nI n), .ref ma, .ref mb, .ref mc, .ref md, .ref me, .int (nI sz), .ref mf, .int (nI od), .int (nI sl), .int (nI t), .int (nI wr), .int (nI pl), .int (nI lo), .long (lN nm), .int vz, .ref mg, .ref mh])), (md, .inl (cI, 32768, .inl fx)), (me, .inl (cI, 4, .inl (iF pq)))] := hD
  refine lv_iload_n hx hb dX7_ordinate_5 rfl (lv_at hl 1 rfl) ?_
  refine k_ci (wr := [(mm, .inr (5, [.int (nI 0), .int (nI dg), .int (nI PT), .int (nI PN), .int (nI n), .ref ma, .ref mb, .ref mc, .ref md, .ref me, .int (nI sz), .ref mf, .int (nI od), .int (nI sl), .int (nI t), .int (nI wr), .int (nI pl), .int (nI lo), .long (lN nm), .int vz, .ref mg, .ref mh])), (md, .inl (cI, 32768, .inl fx)), (me, .inl (cI, 4, .inl (iF pq)))]) (k_rs F (c_M_isSlot1 l D cI cB cJ cS k hk) (va_cwS 1 hts (g_S wd_443 wd_444 wd_373 wd_445) rfl rfl rfl (by decide +kernel) ⟨Nat.le_of_ble_eq_true rfl, Nat.le_of_ble_eq_true rfl⟩) hK hP hD hS hA hZ [] rfl (by decide) rfl hl.1 rfl (Nat.le_of_ble_eq_true rfl) dX7_ordinate_6 ⟨Nat.le_of_ble_eq_true rfl, Nat.le_of_ble_eq_true rfl⟩) hP hD hS hA [] [0, 1, 2] rfl rfl (by decide) (by decide) (fun r u9 H locs hw hP hD hS => ?_)
  subst hw
  have hP : va_P D kCl [(mm, .inr (5, [.int (nI 0), .int (nI dg), .int (nI PT), .int (nI PN), .int (nI n), .ref ma, .ref mb, .ref mc, .ref md, .ref me, .int (nI sz), .ref mf, .int (nI od), .int (nI sl), .int (nI t), .int (nI wr), .int (nI pl), .int (nI lo), .long (lN nm), .int vz, .ref mg, .ref mh])), (md, .inl (cI, 32768, .inl fx)), (me, .inl (cI, 4, .inl (iF pq)))] H := hP
  have hD : va_D A [(mm, .inr (5, [.int (nI 0), .int (nI dg), .int (nI PT), .int (nI PN), .int (nI n), .ref ma, .ref mb, .ref mc, .ref md, .ref me, .int (nI sz), .ref mf, .int (nI od), .int (nI sl), .int (nI t), .int (nI wr), .int (nI pl), .int (nI lo), .long (lN nm), .int vz, .ref mg, .ref mh])), (md, .inl (cI, 32768, .inl fx)), (me, .inl (cI, 4, .inl (iF pq)))] := hD
  refine W.widen (k := 0) (n := 0) (Nat.le_of_ble_eq_true rfl) (Nat.le_of_ble_eq_true rfl) ?_
  refine k_if_eq (tgt := 56) (by omega) hx hb dX7_ordinate_9 (by decide) (fun c388 => ?_) (fun c388 => ?_)
  · skip
    exact absurd c388 (by omega)
  · skip
    refine lv_iload_n hx hb dX7_ordinate_12 rfl (lv_at hl 2 rfl) ?_
    refine lv_iconst (v := nI 0) hx hb dX7_ordinate_13 (by decide) ?_
    refine lv_aload_n hx hb dX7_ordinate_14 rfl (lv_at hl 0 rfl) ?_
    refine va_get (D := D) (ci := 5) (v := .ref me) (C := RX7) (T := TX7) (N := 22) hx hb hts inX7 hown hK hP 0 rfl rfl 9 (by decide) (hts (.fieldLink RX7 24 "ByteShapesModel" "points" "[I") (List.mem_cons_of_mem _ wd_390)) (fun _ h9 => h9) rfl dX7_ordinate_15 ?_
    refine lv_iload_n hx hb dX7_ordinate_18 rfl (lv_at hl 1 rfl) ?_
    refine va_iald hx hb hK hP 2 0 rfl rfl (vp_in_nI (by omega) (by omega)) dX7_ordinate_19 ?_
    refine k_i (show _ = (iF pq) k from congrArg (iF pq) (nI_clamp (by omega))) ?_
    refine k_i (show _ = nI (pq k) from rfl) ?_
    refine lv_iconst (v := nI 1) hx hb dX7_ordinate_20 (by decide) ?_
    refine lv_isub hx hb dX7_ordinate_21 ?_
    refine k_ci (wr := [(mm, .inr (5, [.int (nI 0), .int (nI dg), .int (nI PT), .int (nI PN), .int (nI n), .ref ma, .ref mb, .ref mc, .ref md, .ref me, .int (nI sz), .ref mf, .int (nI od), .int (nI sl), .int (nI t), .int (nI wr), .int (nI pl), .int (nI lo), .long (lN nm), .int vz, .ref mg, .ref mh])), (md, .inl (cI, 32768, .inl fx)), (me, .inl (cI, 4, .inl (iF pq)))]) (k_rs F (c_M_within1r l D cI cB cJ cS (nI j) (nI 0) (nI (pq k) - nI 1) (in_0 (by omega)) (in_m (by omega) hj)) (va_cwS 3 hts (g_S wd_371 wd_372 wd_373 wd_374) rfl rfl rfl (by decide +kernel) ⟨Nat.le_of_ble_eq_true rfl, Nat.le_of_ble_eq_true rfl⟩) hK hP hD hS hA hZ [] rfl (by decide) rfl hl.1 rfl (Nat.le_of_ble_eq_true rfl) dX7_ordinate_22 ⟨Nat.le_of_ble_eq_true rfl, Nat.le_of_ble_eq_true rfl⟩) hP hD hS hA [] [0, 1, 2] rfl rfl (by decide) (by decide) (fun r u9 H locs hw hP hD hS => ?_)
    subst hw
    have hP : va_P D kCl [(mm, .inr (5, [.int (nI 0), .int (nI dg), .int (nI PT), .int (nI PN), .int (nI n), .ref ma, .ref mb, .ref mc, .ref md, .ref me, .int (nI sz), .ref mf, .int (nI od), .int (nI sl), .int (nI t), .int (nI wr), .int (nI pl), .int (nI lo), .long (lN nm), .int vz, .ref mg, .ref mh])), (md, .inl (cI, 32768, .inl fx)), (me, .inl (cI, 4, .inl (iF pq)))] H := hP
    have hD : va_D A [(mm, .inr (5, [.int (nI 0), .int (nI dg), .int (nI PT), .int (nI PN), .int (nI n), .ref ma, .ref mb, .ref mc, .ref md, .ref me, .int (nI sz), .ref mf, .int (nI od), .int (nI sl), .int (nI t), .int (nI wr), .int (nI pl), .int (nI lo), .long (lN nm), .int vz, .ref mg, .ref mh])), (md, .inl (cI, 32768, .inl fx)), (me, .inl (cI, 4, .inl (iF pq)))] := hD
    refine W.widen (k := 0) (n := 0) (Nat.le_of_ble_eq_true rfl) (Nat.le_of_ble_eq_true rfl) ?_
    refine k_if_eq (tgt := 56) (by omega) hx hb dX7_ordinate_25 (by decide) (fun c389 => ?_) (fun c389 => ?_)
    · skip
      exact absurd c389 (by omega)
    · skip
      refine lv_iload_n hx hb dX7_ordinate_28 rfl (lv_at hl 3 rfl) ?_
      refine lv_iconst (v := nI 0) hx hb dX7_ordinate_29 (by decide) ?_
      refine lv_iconst (v := nI 1) hx hb dX7_ordinate_30 (by decide) ?_
      refine k_ci (wr := [(mm, .inr (5, [.int (nI 0), .int (nI dg), .int (nI PT), .int (nI PN), .int (nI n), .ref ma, .ref mb, .ref mc, .ref md, .ref me, .int (nI sz), .ref mf, .int (nI od), .int (nI sl), .int (nI t), .int (nI wr), .int (nI pl), .int (nI lo), .long (lN nm), .int vz, .ref mg, .ref mh])), (md, .inl (cI, 32768, .inl fx)), (me, .inl (cI, 4, .inl (iF pq)))]) (k_rs F (c_M_within0 l D cI cB cJ cS z 0 1 hz) (va_cwS 3 hts (g_S wd_371 wd_372 wd_373 wd_374) rfl rfl rfl (by decide +kernel) ⟨Nat.le_of_ble_eq_true rfl, Nat.le_of_ble_eq_true rfl⟩) hK hP hD hS hA hZ [] rfl (by decide) rfl hl.1 rfl (Nat.le_of_ble_eq_true rfl) dX7_ordinate_31 ⟨Nat.le_of_ble_eq_true rfl, Nat.le_of_ble_eq_true rfl⟩) hP hD hS hA [] [0, 1, 2] rfl rfl (by decide) (by decide) (fun r u9 H locs hw hP hD hS => ?_)
      subst hw
      have hP : va_P D kCl [(mm, .inr (5, [.int (nI 0), .int (nI dg), .int (nI PT), .int (nI PN), .int (nI n), .ref ma, .ref mb, .ref mc, .ref md, .ref me, .int (nI sz), .ref mf, .int (nI od), .int (nI sl), .int (nI t), .int (nI wr), .int (nI pl), .int (nI lo), .long (lN nm), .int vz, .ref mg, .ref mh])), (md, .inl (cI, 32768, .inl fx)), (me, .inl (cI, 4, .inl (iF pq)))] H := hP
      have hD : va_D A [(mm, .inr (5, [.int (nI 0), .int (nI dg), .int (nI PT), .int (nI PN), .int (nI n), .ref ma, .ref mb, .ref mc, .ref md, .ref me, .int (nI sz), .ref mf, .int (nI od), .int (nI sl), .int (nI t), .int (nI wr), .int (nI pl), .int (nI lo), .long (lN nm), .int vz, .ref mg, .ref mh])), (md, .inl (cI, 32768, .inl fx)), (me, .inl (cI, 4, .inl (iF pq)))] := hD
      refine W.widen (k := 0) (n := 0) (Nat.le_of_ble_eq_true rfl) (Nat.le_of_ble_eq_true rfl) ?_
      refine k_if_eq (tgt := 56) (by omega) hx hb dX7_ordinate_34 (by decide) (fun c390 => ?_) (fun c390 => ?_)
      · skip
        refine lv_aload_n hx hb dX7_ordinate_56 rfl (lv_at hl 0 rfl) ?_
        refine lv_iconst (v := nI 1) hx hb dX7_ordinate_57 (by decide) ?_
        refine k_ci (wr := [(md, .inl (cI, 32768, .inl fx)), (me, .inl (cI, 4, .inl (iF pq)))]) (k_rv F (c_M_fail l D cI cB cJ cS mm ma mb mc md me mf mg mh 0 dg PT PN n sz od sl t wr pl lo nm b pm pd pq rb ok ol fx vz 1) (cwV 1 hts (g_V wd_378 wd_379 wd_380 wd_373 wd_381) rfl rfl rfl (by decide +kernel) ⟨Nat.le_of_ble_eq_true rfl, Nat.le_of_ble_eq_true rfl⟩) hK hP hD hS hA hZ [0] rfl (by decide) 0 rfl rfl rfl rfl hl.1 rfl (Nat.le_of_ble_eq_true rfl) dX7_ordinate_58 ⟨Nat.le_of_ble_eq_true rfl, Nat.le_of_ble_eq_true rfl⟩) hP hD hS hA [0] [1, 2] rfl rfl (by decide) (by decide) (fun r u9 H locs hw hP hD hS => ?_)
        subst hw
        have hP : va_P D kCl [(md, .inl (cI, 32768, .inl fx)), (me, .inl (cI, 4, .inl (iF pq))), (mm, .inr (5, [.int (nI 1), .int (nI dg), .int (nI PT), .int (nI PN), .int (nI n), .ref ma, .ref mb, .ref mc, .ref md, .ref me, .int (nI sz), .ref mf, .int (nI od), .int (nI sl), .int (nI t), .int (nI wr), .int (nI pl), .int (nI lo), .long (lN nm), .int vz, .ref mg, .ref mh]))] H := hP
        have hD : va_D A [(md, .inl (cI, 32768, .inl fx)), (me, .inl (cI, 4, .inl (iF pq))), (mm, .inr (5, [.int (nI 1), .int (nI dg), .int (nI PT), .int (nI PN), .int (nI n), .ref ma, .ref mb, .ref mc, .ref md, .ref me, .int (nI sz), .ref mf, .int (nI od), .int (nI sl), .int (nI t), .int (nI wr), .int (nI pl), .int (nI lo), .long (lN nm), .int vz, .ref mg, .ref mh]))] := hD
        refine W.widen (k := 0) (n := 0) (Nat.le_of_ble_eq_true rfl) (Nat.le_of_ble_eq_true rfl) ?_
        have hP : va_P D kCl [(mm, .inr (5, [.int (nI 1), .int (nI dg), .int (nI PT), .int (nI PN), .int (nI n), .ref ma, .ref mb, .ref mc, .ref md, .ref me, .int (nI sz), .ref mf, .int (nI od), .int (nI sl), .int (nI t), .int (nI wr), .int (nI pl), .int (nI lo), .long (lN nm), .int vz, .ref mg, .ref mh])), (md, .inl (cI, 32768, .inl fx)), (me, .inl (cI, 4, .inl (iF pq)))] H := hP.sub [2, 0, 1] rfl
        have hD : va_D A [(mm, .inr (5, [.int (nI 1), .int (nI dg), .int (nI PT), .int (nI PN), .int (nI n), .ref ma, .ref mb, .ref mc, .ref md, .ref me, .int (nI sz), .ref mf, .int (nI od), .int (nI sl), .int (nI t), .int (nI wr), .int (nI pl), .int (nI lo), .long (lN nm), .int vz, .ref mg, .ref mh])), (md, .inl (cI, 32768, .inl fx)), (me, .inl (cI, 4, .inl (iF pq)))] := hD.sub [2, 0, 1] (by decide) rfl
        exact k_iret () hx hb hr (by first | rfl | decide | exact vp_nar_int _) hlocks hK hP hD hS (rfl) (rfl) (Nat.le_of_ble_eq_true rfl) (Nat.le_of_ble_eq_true rfl) dX7_ordinate_61
      · skip
        exact absurd c390 (by omega)

set_option maxRecDepth 100000 in
set_option maxHeartbeats 4000000 in
theorem c_M_byteAt (l : Launch) (D : va_G) (cI cB cJ cS : ClassId) (mm ma mb mc md me mf mg mh th dg PT PN n sz od sl t wr pl lo nm : Nat) (b pm pd pq rb ok ol : Nat → Nat) (fx : Nat → Int32) (vz : Int32) (hsz : sz ≤ 65536) (j : Nat) (hj : j < sz)  : kM l yX7_byteAt vsX7_byteAt ({ frames := 1, cells := 0, slots := 0, locals := 22 }) D (kT cI cB cJ cS) [.ref mm, .int (nI j)] [(mm, .inr (5, [.int (nI th), .int (nI dg), .int (nI PT), .int (nI PN), .int (nI n), .ref ma, .ref mb, .ref mc, .ref md, .ref me, .int (nI sz), .ref mf, .int (nI od), .int (nI sl), .int (nI t), .int (nI wr), .int (nI pl), .int (nI lo), .long (lN nm), .int vz, .ref mg, .ref mh])), (mf, .inl (cI, 131072, .inl (iF rb)))] (kQi D (kT cI cB cJ cS) (fun r (ug : Unit) => r = nI (rb j)) (fun ug => [(mm, .inr (5, [.int (nI 0), .int (nI dg), .int (nI PT), .int (nI PN), .int (nI n), .ref ma, .ref mb, .ref mc, .ref md, .ref me, .int (nI sz), .ref mf, .int (nI od), .int (nI sl), .int (nI t), .int (nI wr), .int (nI pl), .int (nI lo), .long (lN nm), .int vz, .ref mg, .ref mh])), (mf, .inl (cI, 131072, .inl (iF rb)))])) := by
  refine k_ofW (by decide) rfl (Nat.le_of_ble_eq_true rfl) ?_
  intro p e s m below meth c A ls hx hb hr hts hown hlocks hmn hml hA hP hK hD hS hZ hl
  have inX7 : ∀ w ∈ wsX70, w ∈ vsX7_byteAt := fun w h => List.mem_cons_of_mem _ (iaX7 w h)
  have F : CallFix p m c cX7_byteAt 2 s _ vsX7_byteAt RX7 := ⟨hx, hb, hml, hown, hts⟩
  have hl : lv_has ls 2 [(0, .ref mm), (1, .int (nI j))] := hl
  refine lv_aload_n hx hb dX7_byteAt_0 rfl (lv_at hl 0 rfl) ?_
  refine lv_iconst (v := nI 0) hx hb dX7_byteAt_1 (by decide) ?_
  refine va_put (D := D) (ci := 5) (v := .int (nI 0)) (ty := .int) (C := RX7) (T := TX7) (N := 22) hx hb hts inX7 tyX7 tyX7_ok nmX7 hown hK hP hD hS 0 rfl rfl 0 (by decide) (hts (.fieldLink RX7 48 "ByteShapesModel" "thrown" "I") (List.mem_cons_of_mem _ wd_368)) (fun _ h9 => h9) rfl (by decide +kernel) (rfl) (rfl) (Nat.le_of_ble_eq_true rfl) dX7_byteAt_2 (fun H locs hP hD hS => ?_)
  have hP : va_P D kCl [(mm, .inr (5, [.int (nI 0), .int (nI dg), .int (nI PT), .int (nI PN), .int (nI n), .ref ma, .ref mb, .ref mc, .ref md, .ref me, .int (nI sz), .ref mf, .int (nI od), .int (nI sl), .int (nI t), .int (nI wr), .int (nI pl), .int (nI lo), .long (lN nm), .int vz, .ref mg, .ref mh])), (mf, .inl (cI, 131072, .inl (iF rb)))] H := hP
  have hD : va_D A [(mm, .inr (5, [.int (nI 0), .int (nI dg), .int (nI PT), .int (nI PN), .int (nI n), .ref ma, .ref mb, .ref mc, .ref md, .ref me, .int (nI sz), .ref mf, .int (nI od), .int (nI sl), .int (nI t), .int (nI wr), .int (nI pl), .int (nI lo), .long (lN nm), .int vz, .ref mg, .ref mh])), (mf, .inl (cI, 131072, .inl (iF rb)))] := hD
  refine lv_iload_n hx hb dX7_byteAt_5 rfl (lv_at hl 1 rfl) ?_
  refine lv_iconst (v := nI 0) hx hb dX7_byteAt_6 (by decide) ?_
  refine lv_aload_n hx hb dX7_byteAt_7 rfl (lv_at hl 0 rfl) ?_
  refine va_get (D := D) (ci := 5) (v := .int (nI sz)) (C := RX7) (T := TX7) (N := 22) hx hb hts inX7 hown hK hP 0 rfl rfl 10 (by decide) (hts (.fieldLink RX7 163 "ByteShapesModel" "size" "I") (List.mem_cons_of_mem _ wd_446)) (fun _ h9 => h9) rfl dX7_byteAt_8 ?_
  refine lv_iconst (v := nI 1) hx hb dX7_byteAt_11 (by decide) ?_
  refine lv_isub hx hb dX7_byteAt_12 ?_
  refine k_ci (wr := [(mm, .inr (5, [.int (nI 0), .int (nI dg), .int (nI PT), .int (nI PN), .int (nI n), .ref ma, .ref mb, .ref mc, .ref md, .ref me, .int (nI sz), .ref mf, .int (nI od), .int (nI sl), .int (nI t), .int (nI wr), .int (nI pl), .int (nI lo), .long (lN nm), .int vz, .ref mg, .ref mh])), (mf, .inl (cI, 131072, .inl (iF rb)))]) (k_rs F (c_M_within1r l D cI cB cJ cS (nI j) (nI 0) (nI sz - nI 1) (in_0 (by omega)) (in_m (by omega) hj)) (va_cwS 3 hts (g_S wd_371 wd_372 wd_373 wd_374) rfl rfl rfl (by decide +kernel) ⟨Nat.le_of_ble_eq_true rfl, Nat.le_of_ble_eq_true rfl⟩) hK hP hD hS hA hZ [] rfl (by decide) rfl hl.1 rfl (Nat.le_of_ble_eq_true rfl) dX7_byteAt_13 ⟨Nat.le_of_ble_eq_true rfl, Nat.le_of_ble_eq_true rfl⟩) hP hD hS hA [] [0, 1] rfl rfl (by decide) (by decide) (fun r u9 H locs hw hP hD hS => ?_)
  subst hw
  have hP : va_P D kCl [(mm, .inr (5, [.int (nI 0), .int (nI dg), .int (nI PT), .int (nI PN), .int (nI n), .ref ma, .ref mb, .ref mc, .ref md, .ref me, .int (nI sz), .ref mf, .int (nI od), .int (nI sl), .int (nI t), .int (nI wr), .int (nI pl), .int (nI lo), .long (lN nm), .int vz, .ref mg, .ref mh])), (mf, .inl (cI, 131072, .inl (iF rb)))] H := hP
  have hD : va_D A [(mm, .inr (5, [.int (nI 0), .int (nI dg), .int (nI PT), .int (nI PN), .int (nI n), .ref ma, .ref mb, .ref mc, .ref md, .ref me, .int (nI sz), .ref mf, .int (nI od), .int (nI sl), .int (nI t), .int (nI wr), .int (nI pl), .int (nI lo), .long (lN nm), .int vz, .ref mg, .ref mh])), (mf, .inl (cI, 131072, .inl (iF rb)))] := hD
  refine W.widen (k := 0) (n := 0) (Nat.le_of_ble_eq_true rfl) (Nat.le_of_ble_eq_true rfl) ?_
  refine k_if_eq (tgt := 28) (by omega) hx hb dX7_byteAt_16 (by decide) (fun c391 => ?_) (fun c391 => ?_)
  · skip
    exact absurd c391 (by omega)
  · skip
    refine lv_aload_n hx hb dX7_byteAt_19 rfl (lv_at hl 0 rfl) ?_
    refine va_get (D := D) (ci := 5) (v := .ref mf) (C := RX7) (T := TX7) (N := 22) hx hb hts inX7 hown hK hP 0 rfl rfl 11 (by decide) (hts (.fieldLink RX7 28 "ByteShapesModel" "result" "[I") (List.mem_cons_of_mem _ wd_447)) (fun _ h9 => h9) rfl dX7_byteAt_20 ?_
    refine lv_iload_n hx hb dX7_byteAt_23 rfl (lv_at hl 1 rfl) ?_
    refine va_iald hx hb hK hP 1 0 rfl rfl (vp_in_nI (by omega) (by omega)) dX7_byteAt_24 ?_
    refine k_i (show _ = (iF rb) j from congrArg (iF rb) (nI_clamp (by omega))) ?_
    refine k_i (show _ = nI (rb j) from rfl) ?_
    refine lv_goto (tgt := 33) hx hb dX7_byteAt_25 (by decide) ?_
    exact k_iret () hx hb hr (by first | rfl | decide | exact vp_nar_int _) hlocks hK hP hD hS (rfl) (rfl) (Nat.le_of_ble_eq_true rfl) (Nat.le_of_ble_eq_true rfl) dX7_byteAt_33

set_option maxRecDepth 100000 in
set_option maxHeartbeats 4000000 in
theorem c_M_byteAtX (l : Launch) (D : va_G) (cI cB cJ cS : ClassId) (mm ma mb mc md me mf mg mh th dg PT PN n sz od sl t wr pl lo nm : Nat) (b pm pd pq rb ok ol : Nat → Nat) (fx : Nat → Int32) (vz : Int32) (hsz : sz ≤ 65536) (z : Int32) (hz : z < 0 ∨ nI sz ≤ z)  : kM l yX7_byteAt vsX7_byteAt ({ frames := 1, cells := 0, slots := 0, locals := 22 }) D (kT cI cB cJ cS) [.ref mm, .int z] [(mm, .inr (5, [.int (nI th), .int (nI dg), .int (nI PT), .int (nI PN), .int (nI n), .ref ma, .ref mb, .ref mc, .ref md, .ref me, .int (nI sz), .ref mf, .int (nI od), .int (nI sl), .int (nI t), .int (nI wr), .int (nI pl), .int (nI lo), .long (lN nm), .int vz, .ref mg, .ref mh])), (mf, .inl (cI, 131072, .inl (iF rb)))] (kQi D (kT cI cB cJ cS) (fun r (ug : Unit) => r = nI 0) (fun ug => [(mm, .inr (5, [.int (nI 1), .int (nI dg), .int (nI PT), .int (nI PN), .int (nI n), .ref ma, .ref mb, .ref mc, .ref md, .ref me, .int (nI sz), .ref mf, .int (nI od), .int (nI sl), .int (nI t), .int (nI wr), .int (nI pl), .int (nI lo), .long (lN nm), .int vz, .ref mg, .ref mh])), (mf, .inl (cI, 131072, .inl (iF rb)))])) := by
  refine k_ofW (by decide) rfl (Nat.le_of_ble_eq_true rfl) ?_
  intro p e s m below meth c A ls hx hb hr hts hown hlocks hmn hml hA hP hK hD hS hZ hl
  have inX7 : ∀ w ∈ wsX70, w ∈ vsX7_byteAt := fun w h => List.mem_cons_of_mem _ (iaX7 w h)
  have F : CallFix p m c cX7_byteAt 2 s _ vsX7_byteAt RX7 := ⟨hx, hb, hml, hown, hts⟩
  have hl : lv_has ls 2 [(0, .ref mm), (1, .int z)] := hl
  refine lv_aload_n hx hb dX7_byteAt_0 rfl (lv_at hl 0 rfl) ?_
  refine lv_iconst (v := nI 0) hx hb dX7_byteAt_1 (by decide) ?_
  refine va_put (D := D) (ci := 5) (v := .int (nI 0)) (ty := .int) (C := RX7) (T := TX7) (N := 22) hx hb hts inX7 tyX7 tyX7_ok nmX7 hown hK hP hD hS 0 rfl rfl 0 (by decide) (hts (.fieldLink RX7 48 "ByteShapesModel" "thrown" "I") (List.mem_cons_of_mem _ wd_368)) (fun _ h9 => h9) rfl (by decide +kernel) (rfl) (rfl) (Nat.le_of_ble_eq_true rfl) dX7_byteAt_2 (fun H locs hP hD hS => ?_)
  have hP : va_P D kCl [(mm, .inr (5, [.int (nI 0), .int (nI dg), .int (nI PT), .int (nI PN), .int (nI n), .ref ma, .ref mb, .ref mc, .ref md, .ref me, .int (nI sz), .ref mf, .int (nI od), .int (nI sl), .int (nI t), .int (nI wr), .int (nI pl), .int (nI lo), .long (lN nm), .int vz, .ref mg, .ref mh])), (mf, .inl (cI, 131072, .inl (iF rb)))] H := hP
  have hD : va_D A [(mm, .inr (5, [.int (nI 0), .int (nI dg), .int (nI PT), .int (nI PN), .int (nI n), .ref ma, .ref mb, .ref mc, .ref md, .ref me, .int (nI sz), .ref mf, .int (nI od), .int (nI sl), .int (nI t), .int (nI wr), .int (nI pl), .int (nI lo), .long (lN nm), .int vz, .ref mg, .ref mh])), (mf, .inl (cI, 131072, .inl (iF rb)))] := hD
  refine lv_iload_n hx hb dX7_byteAt_5 rfl (lv_at hl 1 rfl) ?_
  refine lv_iconst (v := nI 0) hx hb dX7_byteAt_6 (by decide) ?_
  refine lv_aload_n hx hb dX7_byteAt_7 rfl (lv_at hl 0 rfl) ?_
  refine va_get (D := D) (ci := 5) (v := .int (nI sz)) (C := RX7) (T := TX7) (N := 22) hx hb hts inX7 hown hK hP 0 rfl rfl 10 (by decide) (hts (.fieldLink RX7 163 "ByteShapesModel" "size" "I") (List.mem_cons_of_mem _ wd_446)) (fun _ h9 => h9) rfl dX7_byteAt_8 ?_
  refine lv_iconst (v := nI 1) hx hb dX7_byteAt_11 (by decide) ?_
  refine lv_isub hx hb dX7_byteAt_12 ?_
  refine k_ci (wr := [(mm, .inr (5, [.int (nI 0), .int (nI dg), .int (nI PT), .int (nI PN), .int (nI n), .ref ma, .ref mb, .ref mc, .ref md, .ref me, .int (nI sz), .ref mf, .int (nI od), .int (nI sl), .int (nI t), .int (nI wr), .int (nI pl), .int (nI lo), .long (lN nm), .int vz, .ref mg, .ref mh])), (mf, .inl (cI, 131072, .inl (iF rb)))]) (k_rs F (c_M_within0r l D cI cB cJ cS z (nI 0) (nI sz - nI 1) (out_m (by omega) hz)) (va_cwS 3 hts (g_S wd_371 wd_372 wd_373 wd_374) rfl rfl rfl (by decide +kernel) ⟨Nat.le_of_ble_eq_true rfl, Nat.le_of_ble_eq_true rfl⟩) hK hP hD hS hA hZ [] rfl (by decide) rfl hl.1 rfl (Nat.le_of_ble_eq_true rfl) dX7_byteAt_13 ⟨Nat.le_of_ble_eq_true rfl, Nat.le_of_ble_eq_true rfl⟩) hP hD hS hA [] [0, 1] rfl rfl (by decide) (by decide) (fun r u9 H locs hw hP hD hS => ?_)
  subst hw
  have hP : va_P D kCl [(mm, .inr (5, [.int (nI 0), .int (nI dg), .int (nI PT), .int (nI PN), .int (nI n), .ref ma, .ref mb, .ref mc, .ref md, .ref me, .int (nI sz), .ref mf, .int (nI od), .int (nI sl), .int (nI t), .int (nI wr), .int (nI pl), .int (nI lo), .long (lN nm), .int vz, .ref mg, .ref mh])), (mf, .inl (cI, 131072, .inl (iF rb)))] H := hP
  have hD : va_D A [(mm, .inr (5, [.int (nI 0), .int (nI dg), .int (nI PT), .int (nI PN), .int (nI n), .ref ma, .ref mb, .ref mc, .ref md, .ref me, .int (nI sz), .ref mf, .int (nI od), .int (nI sl), .int (nI t), .int (nI wr), .int (nI pl), .int (nI lo), .long (lN nm), .int vz, .ref mg, .ref mh])), (mf, .inl (cI, 131072, .inl (iF rb)))] := hD
  refine W.widen (k := 0) (n := 0) (Nat.le_of_ble_eq_true rfl) (Nat.le_of_ble_eq_true rfl) ?_
  refine k_if_eq (tgt := 28) (by omega) hx hb dX7_byteAt_16 (by decide) (fun c392 => ?_) (fun c392 => ?_)
  · skip
    refine lv_aload_n hx hb dX7_byteAt_28 rfl (lv_at hl 0 rfl) ?_
    refine lv_iconst (v := nI 1) hx hb dX7_byteAt_29 (by decide) ?_
    refine k_ci (wr := [(mf, .inl (cI, 131072, .inl (iF rb)))]) (k_rv F (c_M_fail l D cI cB cJ cS mm ma mb mc md me mf mg mh 0 dg PT PN n sz od sl t wr pl lo nm b pm pd pq rb ok ol fx vz 1) (cwV 1 hts (g_V wd_378 wd_379 wd_380 wd_373 wd_381) rfl rfl rfl (by decide +kernel) ⟨Nat.le_of_ble_eq_true rfl, Nat.le_of_ble_eq_true rfl⟩) hK hP hD hS hA hZ [0] rfl (by decide) 0 rfl rfl rfl rfl hl.1 rfl (Nat.le_of_ble_eq_true rfl) dX7_byteAt_30 ⟨Nat.le_of_ble_eq_true rfl, Nat.le_of_ble_eq_true rfl⟩) hP hD hS hA [0] [1] rfl rfl (by decide) (by decide) (fun r u9 H locs hw hP hD hS => ?_)
    subst hw
    have hP : va_P D kCl [(mf, .inl (cI, 131072, .inl (iF rb))), (mm, .inr (5, [.int (nI 1), .int (nI dg), .int (nI PT), .int (nI PN), .int (nI n), .ref ma, .ref mb, .ref mc, .ref md, .ref me, .int (nI sz), .ref mf, .int (nI od), .int (nI sl), .int (nI t), .int (nI wr), .int (nI pl), .int (nI lo), .long (lN nm), .int vz, .ref mg, .ref mh]))] H := hP
    have hD : va_D A [(mf, .inl (cI, 131072, .inl (iF rb))), (mm, .inr (5, [.int (nI 1), .int (nI dg), .int (nI PT), .int (nI PN), .int (nI n), .ref ma, .ref mb, .ref mc, .ref md, .ref me, .int (nI sz), .ref mf, .int (nI od), .int (nI sl), .int (nI t), .int (nI wr), .int (nI pl), .int (nI lo), .long (lN nm), .int vz, .ref mg, .ref mh]))] := hD
    refine W.widen (k := 0) (n := 0) (Nat.le_of_ble_eq_true rfl) (Nat.le_of_ble_eq_true rfl) ?_
    have hP : va_P D kCl [(mm, .inr (5, [.int (nI 1), .int (nI dg), .int (nI PT), .int (nI PN), .int (nI n), .ref ma, .ref mb, .ref mc, .ref md, .ref me, .int (nI sz), .ref mf, .int (nI od), .int (nI sl), .int (nI t), .int (nI wr), .int (nI pl), .int (nI lo), .long (lN nm), .int vz, .ref mg, .ref mh])), (mf, .inl (cI, 131072, .inl (iF rb)))] H := hP.sub [1, 0] rfl
    have hD : va_D A [(mm, .inr (5, [.int (nI 1), .int (nI dg), .int (nI PT), .int (nI PN), .int (nI n), .ref ma, .ref mb, .ref mc, .ref md, .ref me, .int (nI sz), .ref mf, .int (nI od), .int (nI sl), .int (nI t), .int (nI wr), .int (nI pl), .int (nI lo), .long (lN nm), .int vz, .ref mg, .ref mh])), (mf, .inl (cI, 131072, .inl (iF rb)))] := hD.sub [1, 0] (by decide) rfl
    exact k_iret () hx hb hr (by first | rfl | decide | exact vp_nar_int _) hlocks hK hP hD hS (rfl) (rfl) (Nat.le_of_ble_eq_true rfl) (Nat.le_of_ble_eq_true rfl) dX7_byteAt_33
  · skip
    exact absurd c392 (by omega)

set_option maxRecDepth 100000 in
set_option maxHeartbeats 4000000 in
theorem c_M_count0 (l : Launch) (D : va_G) (cI cB cJ cS : ClassId) (mm ma mb mc md me mf mg mh th dg PT PN n sz od sl t wr pl lo nm : Nat) (b pm pd pq rb ok ol : Nat → Nat) (fx : Nat → Int32) (vz : Int32) (k : Nat) (hk : k < 4)  : kM l yX7_count vsX7_count ({ frames := 2, cells := 0, slots := 0, locals := 42 }) D (kT cI cB cJ cS) [.ref mm, .int (nI k), .int (nI 0)] [(mm, .inr (5, [.int (nI th), .int (nI dg), .int (nI PT), .int (nI PN), .int (nI n), .ref ma, .ref mb, .ref mc, .ref md, .ref me, .int (nI sz), .ref mf, .int (nI od), .int (nI sl), .int (nI t), .int (nI wr), .int (nI pl), .int (nI lo), .long (lN nm), .int vz, .ref mg, .ref mh])), (mc, .inl (cI, 4, .inl (iF pd))), (me, .inl (cI, 4, .inl (iF pq)))] (kQi D (kT cI cB cJ cS) (fun r (ug : Unit) => r = nI (pd k)) (fun ug => [(mm, .inr (5, [.int (nI 0), .int (nI dg), .int (nI PT), .int (nI PN), .int (nI n), .ref ma, .ref mb, .ref mc, .ref md, .ref me, .int (nI sz), .ref mf, .int (nI od), .int (nI sl), .int (nI t), .int (nI wr), .int (nI pl), .int (nI lo), .long (lN nm), .int vz, .ref mg, .ref mh])), (mc, .inl (cI, 4, .inl (iF pd))), (me, .inl (cI, 4, .inl (iF pq)))])) := by
  refine k_ofW (by decide) rfl (Nat.le_of_ble_eq_true rfl) ?_
  intro p e s m below meth c A ls hx hb hr hts hown hlocks hmn hml hA hP hK hD hS hZ hl
  have inX7 : ∀ w ∈ wsX70, w ∈ vsX7_count := fun w h => List.mem_cons_of_mem _ (iaX7 w h)
  have F : CallFix p m c cX7_count 3 s _ vsX7_count RX7 := ⟨hx, hb, hml, hown, hts⟩
  have hl : lv_has ls 3 [(0, .ref mm), (1, .int (nI k)), (2, .int (nI 0))] := hl
  refine lv_aload_n hx hb dX7_count_0 rfl (lv_at hl 0 rfl) ?_
  refine lv_iconst (v := nI 0) hx hb dX7_count_1 (by decide) ?_
  refine va_put (D := D) (ci := 5) (v := .int (nI 0)) (ty := .int) (C := RX7) (T := TX7) (N := 22) hx hb hts inX7 tyX7 tyX7_ok nmX7 hown hK hP hD hS 0 rfl rfl 0 (by decide) (hts (.fieldLink RX7 48 "ByteShapesModel" "thrown" "I") (List.mem_cons_of_mem _ wd_368)) (fun _ h9 => h9) rfl (by decide +kernel) (rfl) (rfl) (Nat.le_of_ble_eq_true rfl) dX7_count_2 (fun H locs hP hD hS => ?_)
  have hP : va_P D kCl [(mm, .inr (5, [.int (nI 0), .int (nI dg), .int (nI PT), .int (nI PN), .int (nI n), .ref ma, .ref mb, .ref mc, .ref md, .ref me, .int (nI sz), .ref mf, .int (nI od), .int (nI sl), .int (nI t), .int (nI wr), .int (nI pl), .int (nI lo), .long (lN nm), .int vz, .ref mg, .ref mh])), (mc, .inl (cI, 4, .inl (iF pd))), (me, .inl (cI, 4, .inl (iF pq)))] H := hP
  have hD : va_D A [(mm, .inr (5, [.int (nI 0), .int (nI dg), .int (nI PT), .int (nI PN), .int (nI n), .ref ma, .ref mb, .ref mc, .ref md, .ref me, .int (nI sz), .ref mf, .int (nI od), .int (nI sl), .int (nI t), .int (nI wr), .int (nI pl), .int (nI lo), .long (lN nm), .int vz, .ref mg, .ref mh])), (mc, .inl (cI, 4, .inl (iF pd))), (me, .inl (cI, 4, .inl (iF pq)))] := hD
  refine lv_iload_n hx hb dX7_count_5 rfl (lv_at hl 1 rfl) ?_
  refine k_ci (wr := [(mm, .inr (5, [.int (nI 0), .int (nI dg), .int (nI PT), .int (nI PN), .int (nI n), .ref ma, .ref mb, .ref mc, .ref md, .ref me, .int (nI sz), .ref mf, .int (nI od), .int (nI sl), .int (nI t), .int (nI wr), .int (nI pl), .int (nI lo), .long (lN nm), .int vz, .ref mg, .ref mh])), (mc, .inl (cI, 4, .inl (iF pd))), (me, .inl (cI, 4, .inl (iF pq)))]) (k_rs F (c_M_isSlot1 l D cI cB cJ cS k hk) (va_cwS 1 hts (g_S wd_443 wd_444 wd_373 wd_445) rfl rfl rfl (by decide +kernel) ⟨Nat.le_of_ble_eq_true rfl, Nat.le_of_ble_eq_true rfl⟩) hK hP hD hS hA hZ [] rfl (by decide) rfl hl.1 rfl (Nat.le_of_ble_eq_true rfl) dX7_count_6 ⟨Nat.le_of_ble_eq_true rfl, Nat.le_of_ble_eq_true rfl⟩) hP hD hS hA [] [0, 1, 2] rfl rfl (by decide) (by decide) (fun r u9 H locs hw hP hD hS => ?_)
  subst hw
  have hP : va_P D kCl [(mm, .inr (5, [.int (nI 0), .int (nI dg), .int (nI PT), .int (nI PN), .int (nI n), .ref ma, .ref mb, .ref mc, .ref md, .ref me, .int (nI sz), .ref mf, .int (nI od), .int (nI sl), .int (nI t), .int (nI wr), .int (nI pl), .int (nI lo), .long (lN nm), .int vz, .ref mg, .ref mh])), (mc, .inl (cI, 4, .inl (iF pd))), (me, .inl (cI, 4, .inl (iF pq)))] H := hP
  have hD : va_D A [(mm, .inr (5, [.int (nI 0), .int (nI dg), .int (nI PT), .int (nI PN), .int (nI n), .ref ma, .ref mb, .ref mc, .ref md, .ref me, .int (nI sz), .ref mf, .int (nI od), .int (nI sl), .int (nI t), .int (nI wr), .int (nI pl), .int (nI lo), .long (lN nm), .int vz, .ref mg, .ref mh])), (mc, .inl (cI, 4, .inl (iF pd))), (me, .inl (cI, 4, .inl (iF pq)))] := hD
  refine W.widen (k := 0) (n := 0) (Nat.le_of_ble_eq_true rfl) (Nat.le_of_ble_eq_true rfl) ?_
  refine k_if_eq (tgt := 21) (by omega) hx hb dX7_count_9 (by decide) (fun c393 => ?_) (fun c393 => ?_)
  · skip
    exact absurd c393 (by omega)
  · skip
    refine lv_iload_n hx hb dX7_count_12 rfl (lv_at hl 2 rfl) ?_
    refine lv_iconst (v := nI 0) hx hb dX7_count_13 (by decide) ?_
    refine lv_iconst (v := nI 3) hx hb dX7_count_14 (by decide) ?_
    refine k_ci (wr := [(mm, .inr (5, [.int (nI 0), .int (nI dg), .int (nI PT), .int (nI PN), .int (nI n), .ref ma, .ref mb, .ref mc, .ref md, .ref me, .int (nI sz), .ref mf, .int (nI od), .int (nI sl), .int (nI t), .int (nI wr), .int (nI pl), .int (nI lo), .long (lN nm), .int vz, .ref mg, .ref mh])), (mc, .inl (cI, 4, .inl (iF pd))), (me, .inl (cI, 4, .inl (iF pq)))]) (k_rs F (c_M_within1 l D cI cB cJ cS 0 0 3 (by omega) (by omega) (by decide)) (va_cwS 3 hts (g_S wd_371 wd_372 wd_373 wd_374) rfl rfl rfl (by decide +kernel) ⟨Nat.le_of_ble_eq_true rfl, Nat.le_of_ble_eq_true rfl⟩) hK hP hD hS hA hZ [] rfl (by decide) rfl hl.1 rfl (Nat.le_of_ble_eq_true rfl) dX7_count_15 ⟨Nat.le_of_ble_eq_true rfl, Nat.le_of_ble_eq_true rfl⟩) hP hD hS hA [] [0, 1, 2] rfl rfl (by decide) (by decide) (fun r u9 H locs hw hP hD hS => ?_)
    subst hw
    have hP : va_P D kCl [(mm, .inr (5, [.int (nI 0), .int (nI dg), .int (nI PT), .int (nI PN), .int (nI n), .ref ma, .ref mb, .ref mc, .ref md, .ref me, .int (nI sz), .ref mf, .int (nI od), .int (nI sl), .int (nI t), .int (nI wr), .int (nI pl), .int (nI lo), .long (lN nm), .int vz, .ref mg, .ref mh])), (mc, .inl (cI, 4, .inl (iF pd))), (me, .inl (cI, 4, .inl (iF pq)))] H := hP
    have hD : va_D A [(mm, .inr (5, [.int (nI 0), .int (nI dg), .int (nI PT), .int (nI PN), .int (nI n), .ref ma, .ref mb, .ref mc, .ref md, .ref me, .int (nI sz), .ref mf, .int (nI od), .int (nI sl), .int (nI t), .int (nI wr), .int (nI pl), .int (nI lo), .long (lN nm), .int vz, .ref mg, .ref mh])), (mc, .inl (cI, 4, .inl (iF pd))), (me, .inl (cI, 4, .inl (iF pq)))] := hD
    refine W.widen (k := 0) (n := 0) (Nat.le_of_ble_eq_true rfl) (Nat.le_of_ble_eq_true rfl) ?_
    refine k_if_ne (tgt := 27) (by omega) hx hb dX7_count_18 (by decide) (fun c394 => ?_) (fun c394 => ?_)
    · skip
      refine lv_iload_n hx hb dX7_count_27 rfl (lv_at hl 2 rfl) ?_
      refine k_if_ne (tgt := 40) (by omega) hx hb dX7_count_28 (by decide) (fun c395 => ?_) (fun c395 => ?_)
      · skip
        exact absurd c395 (by omega)
      · skip
        refine lv_aload_n hx hb dX7_count_31 rfl (lv_at hl 0 rfl) ?_
        refine va_get (D := D) (ci := 5) (v := .ref mc) (C := RX7) (T := TX7) (N := 22) hx hb hts inX7 hown hK hP 0 rfl rfl 7 (by decide) (hts (.fieldLink RX7 17 "ByteShapesModel" "planned" "[I") (List.mem_cons_of_mem _ wd_387)) (fun _ h9 => h9) rfl dX7_count_32 ?_
        refine lv_iload_n hx hb dX7_count_35 rfl (lv_at hl 1 rfl) ?_
        refine va_iald hx hb hK hP 1 0 rfl rfl (vp_in_nI (by omega) (by omega)) dX7_count_36 ?_
        refine k_i (show _ = (iF pd) k from congrArg (iF pd) (nI_clamp (by omega))) ?_
        refine k_i (show _ = nI (pd k) from rfl) ?_
        refine lv_goto (tgt := 70) hx hb dX7_count_37 (by decide) ?_
        exact k_iret () hx hb hr (by first | rfl | decide | exact vp_nar_int _) hlocks hK hP hD hS (rfl) (rfl) (Nat.le_of_ble_eq_true rfl) (Nat.le_of_ble_eq_true rfl) dX7_count_70
    · skip
      exact absurd c394 (by omega)

set_option maxRecDepth 100000 in
set_option maxHeartbeats 4000000 in
theorem c_M_count1 (l : Launch) (D : va_G) (cI cB cJ cS : ClassId) (mm ma mb mc md me mf mg mh th dg PT PN n sz od sl t wr pl lo nm : Nat) (b pm pd pq rb ok ol : Nat → Nat) (fx : Nat → Int32) (vz : Int32) (k : Nat) (hk : k < 4)  : kM l yX7_count vsX7_count ({ frames := 2, cells := 0, slots := 0, locals := 42 }) D (kT cI cB cJ cS) [.ref mm, .int (nI k), .int (nI 1)] [(mm, .inr (5, [.int (nI th), .int (nI dg), .int (nI PT), .int (nI PN), .int (nI n), .ref ma, .ref mb, .ref mc, .ref md, .ref me, .int (nI sz), .ref mf, .int (nI od), .int (nI sl), .int (nI t), .int (nI wr), .int (nI pl), .int (nI lo), .long (lN nm), .int vz, .ref mg, .ref mh])), (mc, .inl (cI, 4, .inl (iF pd))), (me, .inl (cI, 4, .inl (iF pq)))] (kQi D (kT cI cB cJ cS) (fun r (ug : Unit) => r = nI (pq k)) (fun ug => [(mm, .inr (5, [.int (nI 0), .int (nI dg), .int (nI PT), .int (nI PN), .int (nI n), .ref ma, .ref mb, .ref mc, .ref md, .ref me, .int (nI sz), .ref mf, .int (nI od), .int (nI sl), .int (nI t), .int (nI wr), .int (nI pl), .int (nI lo), .long (lN nm), .int vz, .ref mg, .ref mh])), (mc, .inl (cI, 4, .inl (iF pd))), (me, .inl (cI, 4, .inl (iF pq)))])) := by
  refine k_ofW (by decide) rfl (Nat.le_of_ble_eq_true rfl) ?_
  intro p e s m below meth c A ls hx hb hr hts hown hlocks hmn hml hA hP hK hD hS hZ hl
  have inX7 : ∀ w ∈ wsX70, w ∈ vsX7_count := fun w h => List.mem_cons_of_mem _ (iaX7 w h)
  have F : CallFix p m c cX7_count 3 s _ vsX7_count RX7 := ⟨hx, hb, hml, hown, hts⟩
  have hl : lv_has ls 3 [(0, .ref mm), (1, .int (nI k)), (2, .int (nI 1))] := hl
  refine lv_aload_n hx hb dX7_count_0 rfl (lv_at hl 0 rfl) ?_
  refine lv_iconst (v := nI 0) hx hb dX7_count_1 (by decide) ?_
  refine va_put (D := D) (ci := 5) (v := .int (nI 0)) (ty := .int) (C := RX7) (T := TX7) (N := 22) hx hb hts inX7 tyX7 tyX7_ok nmX7 hown hK hP hD hS 0 rfl rfl 0 (by decide) (hts (.fieldLink RX7 48 "ByteShapesModel" "thrown" "I") (List.mem_cons_of_mem _ wd_368)) (fun _ h9 => h9) rfl (by decide +kernel) (rfl) (rfl) (Nat.le_of_ble_eq_true rfl) dX7_count_2 (fun H locs hP hD hS => ?_)
  have hP : va_P D kCl [(mm, .inr (5, [.int (nI 0), .int (nI dg), .int (nI PT), .int (nI PN), .int (nI n), .ref ma, .ref mb, .ref mc, .ref md, .ref me, .int (nI sz), .ref mf, .int (nI od), .int (nI sl), .int (nI t), .int (nI wr), .int (nI pl), .int (nI lo), .long (lN nm), .int vz, .ref mg, .ref mh])), (mc, .inl (cI, 4, .inl (iF pd))), (me, .inl (cI, 4, .inl (iF pq)))] H := hP
  have hD : va_D A [(mm, .inr (5, [.int (nI 0), .int (nI dg), .int (nI PT), .int (nI PN), .int (nI n), .ref ma, .ref mb, .ref mc, .ref md, .ref me, .int (nI sz), .ref mf, .int (nI od), .int (nI sl), .int (nI t), .int (nI wr), .int (nI pl), .int (nI lo), .long (lN nm), .int vz, .ref mg, .ref mh])), (mc, .inl (cI, 4, .inl (iF pd))), (me, .inl (cI, 4, .inl (iF pq)))] := hD
  refine lv_iload_n hx hb dX7_count_5 rfl (lv_at hl 1 rfl) ?_
  refine k_ci (wr := [(mm, .inr (5, [.int (nI 0), .int (nI dg), .int (nI PT), .int (nI PN), .int (nI n), .ref ma, .ref mb, .ref mc, .ref md, .ref me, .int (nI sz), .ref mf, .int (nI od), .int (nI sl), .int (nI t), .int (nI wr), .int (nI pl), .int (nI lo), .long (lN nm), .int vz, .ref mg, .ref mh])), (mc, .inl (cI, 4, .inl (iF pd))), (me, .inl (cI, 4, .inl (iF pq)))]) (k_rs F (c_M_isSlot1 l D cI cB cJ cS k hk) (va_cwS 1 hts (g_S wd_443 wd_444 wd_373 wd_445) rfl rfl rfl (by decide +kernel) ⟨Nat.le_of_ble_eq_true rfl, Nat.le_of_ble_eq_true rfl⟩) hK hP hD hS hA hZ [] rfl (by decide) rfl hl.1 rfl (Nat.le_of_ble_eq_true rfl) dX7_count_6 ⟨Nat.le_of_ble_eq_true rfl, Nat.le_of_ble_eq_true rfl⟩) hP hD hS hA [] [0, 1, 2] rfl rfl (by decide) (by decide) (fun r u9 H locs hw hP hD hS => ?_)
  subst hw
  have hP : va_P D kCl [(mm, .inr (5, [.int (nI 0), .int (nI dg), .int (nI PT), .int (nI PN), .int (nI n), .ref ma, .ref mb, .ref mc, .ref md, .ref me, .int (nI sz), .ref mf, .int (nI od), .int (nI sl), .int (nI t), .int (nI wr), .int (nI pl), .int (nI lo), .long (lN nm), .int vz, .ref mg, .ref mh])), (mc, .inl (cI, 4, .inl (iF pd))), (me, .inl (cI, 4, .inl (iF pq)))] H := hP
  have hD : va_D A [(mm, .inr (5, [.int (nI 0), .int (nI dg), .int (nI PT), .int (nI PN), .int (nI n), .ref ma, .ref mb, .ref mc, .ref md, .ref me, .int (nI sz), .ref mf, .int (nI od), .int (nI sl), .int (nI t), .int (nI wr), .int (nI pl), .int (nI lo), .long (lN nm), .int vz, .ref mg, .ref mh])), (mc, .inl (cI, 4, .inl (iF pd))), (me, .inl (cI, 4, .inl (iF pq)))] := hD
  refine W.widen (k := 0) (n := 0) (Nat.le_of_ble_eq_true rfl) (Nat.le_of_ble_eq_true rfl) ?_
  refine k_if_eq (tgt := 21) (by omega) hx hb dX7_count_9 (by decide) (fun c396 => ?_) (fun c396 => ?_)
  · skip
    exact absurd c396 (by omega)
  · skip
    refine lv_iload_n hx hb dX7_count_12 rfl (lv_at hl 2 rfl) ?_
    refine lv_iconst (v := nI 0) hx hb dX7_count_13 (by decide) ?_
    refine lv_iconst (v := nI 3) hx hb dX7_count_14 (by decide) ?_
    refine k_ci (wr := [(mm, .inr (5, [.int (nI 0), .int (nI dg), .int (nI PT), .int (nI PN), .int (nI n), .ref ma, .ref mb, .ref mc, .ref md, .ref me, .int (nI sz), .ref mf, .int (nI od), .int (nI sl), .int (nI t), .int (nI wr), .int (nI pl), .int (nI lo), .long (lN nm), .int vz, .ref mg, .ref mh])), (mc, .inl (cI, 4, .inl (iF pd))), (me, .inl (cI, 4, .inl (iF pq)))]) (k_rs F (c_M_within1 l D cI cB cJ cS 1 0 3 (by omega) (by omega) (by decide)) (va_cwS 3 hts (g_S wd_371 wd_372 wd_373 wd_374) rfl rfl rfl (by decide +kernel) ⟨Nat.le_of_ble_eq_true rfl, Nat.le_of_ble_eq_true rfl⟩) hK hP hD hS hA hZ [] rfl (by decide) rfl hl.1 rfl (Nat.le_of_ble_eq_true rfl) dX7_count_15 ⟨Nat.le_of_ble_eq_true rfl, Nat.le_of_ble_eq_true rfl⟩) hP hD hS hA [] [0, 1, 2] rfl rfl (by decide) (by decide) (fun r u9 H locs hw hP hD hS => ?_)
    subst hw
    have hP : va_P D kCl [(mm, .inr (5, [.int (nI 0), .int (nI dg), .int (nI PT), .int (nI PN), .int (nI n), .ref ma, .ref mb, .ref mc, .ref md, .ref me, .int (nI sz), .ref mf, .int (nI od), .int (nI sl), .int (nI t), .int (nI wr), .int (nI pl), .int (nI lo), .long (lN nm), .int vz, .ref mg, .ref mh])), (mc, .inl (cI, 4, .inl (iF pd))), (me, .inl (cI, 4, .inl (iF pq)))] H := hP
    have hD : va_D A [(mm, .inr (5, [.int (nI 0), .int (nI dg), .int (nI PT), .int (nI PN), .int (nI n), .ref ma, .ref mb, .ref mc, .ref md, .ref me, .int (nI sz), .ref mf, .int (nI od), .int (nI sl), .int (nI t), .int (nI wr), .int (nI pl), .int (nI lo), .long (lN nm), .int vz, .ref mg, .ref mh])), (mc, .inl (cI, 4, .inl (iF pd))), (me, .inl (cI, 4, .inl (iF pq)))] := hD
    refine W.widen (k := 0) (n := 0) (Nat.le_of_ble_eq_true rfl) (Nat.le_of_ble_eq_true rfl) ?_
    refine k_if_ne (tgt := 27) (by omega) hx hb dX7_count_18 (by decide) (fun c397 => ?_) (fun c397 => ?_)
    · skip
      refine lv_iload_n hx hb dX7_count_27 rfl (lv_at hl 2 rfl) ?_
      refine k_if_ne (tgt := 40) (by omega) hx hb dX7_count_28 (by decide) (fun c398 => ?_) (fun c398 => ?_)
      · skip
        refine lv_iload_n hx hb dX7_count_40 rfl (lv_at hl 2 rfl) ?_
        refine lv_iconst (v := nI 1) hx hb dX7_count_41 (by decide) ?_
        refine k_icmp_ne (tgt := 54) (by omega) (by omega) hx hb dX7_count_42 (by decide) (fun c399 => ?_) (fun c399 => ?_)
        · skip
          exact absurd c399 (by omega)
        · skip
          refine lv_aload_n hx hb dX7_count_45 rfl (lv_at hl 0 rfl) ?_
          refine va_get (D := D) (ci := 5) (v := .ref me) (C := RX7) (T := TX7) (N := 22) hx hb hts inX7 hown hK hP 0 rfl rfl 9 (by decide) (hts (.fieldLink RX7 24 "ByteShapesModel" "points" "[I") (List.mem_cons_of_mem _ wd_390)) (fun _ h9 => h9) rfl dX7_count_46 ?_
          refine lv_iload_n hx hb dX7_count_49 rfl (lv_at hl 1 rfl) ?_
          refine va_iald hx hb hK hP 2 0 rfl rfl (vp_in_nI (by omega) (by omega)) dX7_count_50 ?_
          refine k_i (show _ = (iF pq) k from congrArg (iF pq) (nI_clamp (by omega))) ?_
          refine k_i (show _ = nI (pq k) from rfl) ?_
          refine lv_goto (tgt := 70) hx hb dX7_count_51 (by decide) ?_
          exact k_iret () hx hb hr (by first | rfl | decide | exact vp_nar_int _) hlocks hK hP hD hS (rfl) (rfl) (Nat.le_of_ble_eq_true rfl) (Nat.le_of_ble_eq_true rfl) dX7_count_70
      · skip
        exact absurd c398 (by omega)
    · skip
      exact absurd c397 (by omega)

set_option maxRecDepth 100000 in
set_option maxHeartbeats 4000000 in
theorem c_M_count2 (l : Launch) (D : va_G) (cI cB cJ cS : ClassId) (mm ma mb mc md me mf mg mh th dg PT PN n sz od sl t wr pl lo nm : Nat) (b pm pd pq rb ok ol : Nat → Nat) (fx : Nat → Int32) (vz : Int32) (k : Nat) (hk : k < 4)  : kM l yX7_count vsX7_count ({ frames := 2, cells := 0, slots := 0, locals := 42 }) D (kT cI cB cJ cS) [.ref mm, .int (nI k), .int (nI 2)] [(mm, .inr (5, [.int (nI th), .int (nI dg), .int (nI PT), .int (nI PN), .int (nI n), .ref ma, .ref mb, .ref mc, .ref md, .ref me, .int (nI sz), .ref mf, .int (nI od), .int (nI sl), .int (nI t), .int (nI wr), .int (nI pl), .int (nI lo), .long (lN nm), .int vz, .ref mg, .ref mh])), (mc, .inl (cI, 4, .inl (iF pd))), (me, .inl (cI, 4, .inl (iF pq)))] (kQi D (kT cI cB cJ cS) (fun r (ug : Unit) => r = nI (n)) (fun ug => [(mm, .inr (5, [.int (nI 0), .int (nI dg), .int (nI PT), .int (nI PN), .int (nI n), .ref ma, .ref mb, .ref mc, .ref md, .ref me, .int (nI sz), .ref mf, .int (nI od), .int (nI sl), .int (nI t), .int (nI wr), .int (nI pl), .int (nI lo), .long (lN nm), .int vz, .ref mg, .ref mh])), (mc, .inl (cI, 4, .inl (iF pd))), (me, .inl (cI, 4, .inl (iF pq)))])) := by
  refine k_ofW (by decide) rfl (Nat.le_of_ble_eq_true rfl) ?_
  intro p e s m below meth c A ls hx hb hr hts hown hlocks hmn hml hA hP hK hD hS hZ hl
  have inX7 : ∀ w ∈ wsX70, w ∈ vsX7_count := fun w h => List.mem_cons_of_mem _ (iaX7 w h)
  have F : CallFix p m c cX7_count 3 s _ vsX7_count RX7 := ⟨hx, hb, hml, hown, hts⟩
  have hl : lv_has ls 3 [(0, .ref mm), (1, .int (nI k)), (2, .int (nI 2))] := hl
  refine lv_aload_n hx hb dX7_count_0 rfl (lv_at hl 0 rfl) ?_
  refine lv_iconst (v := nI 0) hx hb dX7_count_1 (by decide) ?_
  refine va_put (D := D) (ci := 5) (v := .int (nI 0)) (ty := .int) (C := RX7) (T := TX7) (N := 22) hx hb hts inX7 tyX7 tyX7_ok nmX7 hown hK hP hD hS 0 rfl rfl 0 (by decide) (hts (.fieldLink RX7 48 "ByteShapesModel" "thrown" "I") (List.mem_cons_of_mem _ wd_368)) (fun _ h9 => h9) rfl (by decide +kernel) (rfl) (rfl) (Nat.le_of_ble_eq_true rfl) dX7_count_2 (fun H locs hP hD hS => ?_)
  have hP : va_P D kCl [(mm, .inr (5, [.int (nI 0), .int (nI dg), .int (nI PT), .int (nI PN), .int (nI n), .ref ma, .ref mb, .ref mc, .ref md, .ref me, .int (nI sz), .ref mf, .int (nI od), .int (nI sl), .int (nI t), .int (nI wr), .int (nI pl), .int (nI lo), .long (lN nm), .int vz, .ref mg, .ref mh])), (mc, .inl (cI, 4, .inl (iF pd))), (me, .inl (cI, 4, .inl (iF pq)))] H := hP
  have hD : va_D A [(mm, .inr (5, [.int (nI 0), .int (nI dg), .int (nI PT), .int (nI PN), .int (nI n), .ref ma, .ref mb, .ref mc, .ref md, .ref me, .int (nI sz), .ref mf, .int (nI od), .int (nI sl), .int (nI t), .int (nI wr), .int (nI pl), .int (nI lo), .long (lN nm), .int vz, .ref mg, .ref mh])), (mc, .inl (cI, 4, .inl (iF pd))), (me, .inl (cI, 4, .inl (iF pq)))] := hD
  refine lv_iload_n hx hb dX7_count_5 rfl (lv_at hl 1 rfl) ?_
  refine k_ci (wr := [(mm, .inr (5, [.int (nI 0), .int (nI dg), .int (nI PT), .int (nI PN), .int (nI n), .ref ma, .ref mb, .ref mc, .ref md, .ref me, .int (nI sz), .ref mf, .int (nI od), .int (nI sl), .int (nI t), .int (nI wr), .int (nI pl), .int (nI lo), .long (lN nm), .int vz, .ref mg, .ref mh])), (mc, .inl (cI, 4, .inl (iF pd))), (me, .inl (cI, 4, .inl (iF pq)))]) (k_rs F (c_M_isSlot1 l D cI cB cJ cS k hk) (va_cwS 1 hts (g_S wd_443 wd_444 wd_373 wd_445) rfl rfl rfl (by decide +kernel) ⟨Nat.le_of_ble_eq_true rfl, Nat.le_of_ble_eq_true rfl⟩) hK hP hD hS hA hZ [] rfl (by decide) rfl hl.1 rfl (Nat.le_of_ble_eq_true rfl) dX7_count_6 ⟨Nat.le_of_ble_eq_true rfl, Nat.le_of_ble_eq_true rfl⟩) hP hD hS hA [] [0, 1, 2] rfl rfl (by decide) (by decide) (fun r u9 H locs hw hP hD hS => ?_)
  subst hw
  have hP : va_P D kCl [(mm, .inr (5, [.int (nI 0), .int (nI dg), .int (nI PT), .int (nI PN), .int (nI n), .ref ma, .ref mb, .ref mc, .ref md, .ref me, .int (nI sz), .ref mf, .int (nI od), .int (nI sl), .int (nI t), .int (nI wr), .int (nI pl), .int (nI lo), .long (lN nm), .int vz, .ref mg, .ref mh])), (mc, .inl (cI, 4, .inl (iF pd))), (me, .inl (cI, 4, .inl (iF pq)))] H := hP
  have hD : va_D A [(mm, .inr (5, [.int (nI 0), .int (nI dg), .int (nI PT), .int (nI PN), .int (nI n), .ref ma, .ref mb, .ref mc, .ref md, .ref me, .int (nI sz), .ref mf, .int (nI od), .int (nI sl), .int (nI t), .int (nI wr), .int (nI pl), .int (nI lo), .long (lN nm), .int vz, .ref mg, .ref mh])), (mc, .inl (cI, 4, .inl (iF pd))), (me, .inl (cI, 4, .inl (iF pq)))] := hD
  refine W.widen (k := 0) (n := 0) (Nat.le_of_ble_eq_true rfl) (Nat.le_of_ble_eq_true rfl) ?_
  refine k_if_eq (tgt := 21) (by omega) hx hb dX7_count_9 (by decide) (fun c400 => ?_) (fun c400 => ?_)
  · skip
    exact absurd c400 (by omega)
  · skip
    refine lv_iload_n hx hb dX7_count_12 rfl (lv_at hl 2 rfl) ?_
    refine lv_iconst (v := nI 0) hx hb dX7_count_13 (by decide) ?_
    refine lv_iconst (v := nI 3) hx hb dX7_count_14 (by decide) ?_
    refine k_ci (wr := [(mm, .inr (5, [.int (nI 0), .int (nI dg), .int (nI PT), .int (nI PN), .int (nI n), .ref ma, .ref mb, .ref mc, .ref md, .ref me, .int (nI sz), .ref mf, .int (nI od), .int (nI sl), .int (nI t), .int (nI wr), .int (nI pl), .int (nI lo), .long (lN nm), .int vz, .ref mg, .ref mh])), (mc, .inl (cI, 4, .inl (iF pd))), (me, .inl (cI, 4, .inl (iF pq)))]) (k_rs F (c_M_within1 l D cI cB cJ cS 2 0 3 (by omega) (by omega) (by decide)) (va_cwS 3 hts (g_S wd_371 wd_372 wd_373 wd_374) rfl rfl rfl (by decide +kernel) ⟨Nat.le_of_ble_eq_true rfl, Nat.le_of_ble_eq_true rfl⟩) hK hP hD hS hA hZ [] rfl (by decide) rfl hl.1 rfl (Nat.le_of_ble_eq_true rfl) dX7_count_15 ⟨Nat.le_of_ble_eq_true rfl, Nat.le_of_ble_eq_true rfl⟩) hP hD hS hA [] [0, 1, 2] rfl rfl (by decide) (by decide) (fun r u9 H locs hw hP hD hS => ?_)
    subst hw
    have hP : va_P D kCl [(mm, .inr (5, [.int (nI 0), .int (nI dg), .int (nI PT), .int (nI PN), .int (nI n), .ref ma, .ref mb, .ref mc, .ref md, .ref me, .int (nI sz), .ref mf, .int (nI od), .int (nI sl), .int (nI t), .int (nI wr), .int (nI pl), .int (nI lo), .long (lN nm), .int vz, .ref mg, .ref mh])), (mc, .inl (cI, 4, .inl (iF pd))), (me, .inl (cI, 4, .inl (iF pq)))] H := hP
    have hD : va_D A [(mm, .inr (5, [.int (nI 0), .int (nI dg), .int (nI PT), .int (nI PN), .int (nI n), .ref ma, .ref mb, .ref mc, .ref md, .ref me, .int (nI sz), .ref mf, .int (nI od), .int (nI sl), .int (nI t), .int (nI wr), .int (nI pl), .int (nI lo), .long (lN nm), .int vz, .ref mg, .ref mh])), (mc, .inl (cI, 4, .inl (iF pd))), (me, .inl (cI, 4, .inl (iF pq)))] := hD
    refine W.widen (k := 0) (n := 0) (Nat.le_of_ble_eq_true rfl) (Nat.le_of_ble_eq_true rfl) ?_
    refine k_if_ne (tgt := 27) (by omega) hx hb dX7_count_18 (by decide) (fun c401 => ?_) (fun c401 => ?_)
    · skip
      refine lv_iload_n hx hb dX7_count_27 rfl (lv_at hl 2 rfl) ?_
      refine k_if_ne (tgt := 40) (by omega) hx hb dX7_count_28 (by decide) (fun c402 => ?_) (fun c402 => ?_)
      · skip
        refine lv_iload_n hx hb dX7_count_40 rfl (lv_at hl 2 rfl) ?_
        refine lv_iconst (v := nI 1) hx hb dX7_count_41 (by decide) ?_
        refine k_icmp_ne (tgt := 54) (by omega) (by omega) hx hb dX7_count_42 (by decide) (fun c403 => ?_) (fun c403 => ?_)
        · skip
          refine lv_iload_n hx hb dX7_count_54 rfl (lv_at hl 2 rfl) ?_
          refine lv_iconst (v := nI 2) hx hb dX7_count_55 (by decide) ?_
          refine k_icmp_ne (tgt := 66) (by omega) (by omega) hx hb dX7_count_56 (by decide) (fun c404 => ?_) (fun c404 => ?_)
          · skip
            exact absurd c404 (by omega)
          · skip
            refine lv_aload_n hx hb dX7_count_59 rfl (lv_at hl 0 rfl) ?_
            refine va_get (D := D) (ci := 5) (v := .int (nI n)) (C := RX7) (T := TX7) (N := 22) hx hb hts inX7 hown hK hP 0 rfl rfl 4 (by decide) (hts (.fieldLink RX7 55 "ByteShapesModel" "fed" "I") (List.mem_cons_of_mem _ wd_375)) (fun _ h9 => h9) rfl dX7_count_60 ?_
            refine lv_goto (tgt := 70) hx hb dX7_count_63 (by decide) ?_
            exact k_iret () hx hb hr (by first | rfl | decide | exact vp_nar_int _) hlocks hK hP hD hS (rfl) (rfl) (Nat.le_of_ble_eq_true rfl) (Nat.le_of_ble_eq_true rfl) dX7_count_70
        · skip
          exact absurd c403 (by omega)
      · skip
        exact absurd c402 (by omega)
    · skip
      exact absurd c401 (by omega)

set_option maxRecDepth 100000 in
set_option maxHeartbeats 4000000 in
theorem c_M_count3 (l : Launch) (D : va_G) (cI cB cJ cS : ClassId) (mm ma mb mc md me mf mg mh th dg PT PN n sz od sl t wr pl lo nm : Nat) (b pm pd pq rb ok ol : Nat → Nat) (fx : Nat → Int32) (vz : Int32) (k : Nat) (hk : k < 4)  : kM l yX7_count vsX7_count ({ frames := 2, cells := 0, slots := 0, locals := 42 }) D (kT cI cB cJ cS) [.ref mm, .int (nI k), .int (nI 3)] [(mm, .inr (5, [.int (nI th), .int (nI dg), .int (nI PT), .int (nI PN), .int (nI n), .ref ma, .ref mb, .ref mc, .ref md, .ref me, .int (nI sz), .ref mf, .int (nI od), .int (nI sl), .int (nI t), .int (nI wr), .int (nI pl), .int (nI lo), .long (lN nm), .int vz, .ref mg, .ref mh])), (mc, .inl (cI, 4, .inl (iF pd))), (me, .inl (cI, 4, .inl (iF pq)))] (kQi D (kT cI cB cJ cS) (fun r (ug : Unit) => r = nI (sz)) (fun ug => [(mm, .inr (5, [.int (nI 0), .int (nI dg), .int (nI PT), .int (nI PN), .int (nI n), .ref ma, .ref mb, .ref mc, .ref md, .ref me, .int (nI sz), .ref mf, .int (nI od), .int (nI sl), .int (nI t), .int (nI wr), .int (nI pl), .int (nI lo), .long (lN nm), .int vz, .ref mg, .ref mh])), (mc, .inl (cI, 4, .inl (iF pd))), (me, .inl (cI, 4, .inl (iF pq)))])) := by
  refine k_ofW (by decide) rfl (Nat.le_of_ble_eq_true rfl) ?_
  intro p e s m below meth c A ls hx hb hr hts hown hlocks hmn hml hA hP hK hD hS hZ hl
  have inX7 : ∀ w ∈ wsX70, w ∈ vsX7_count := fun w h => List.mem_cons_of_mem _ (iaX7 w h)
  have F : CallFix p m c cX7_count 3 s _ vsX7_count RX7 := ⟨hx, hb, hml, hown, hts⟩
  have hl : lv_has ls 3 [(0, .ref mm), (1, .int (nI k)), (2, .int (nI 3))] := hl
  refine lv_aload_n hx hb dX7_count_0 rfl (lv_at hl 0 rfl) ?_
  refine lv_iconst (v := nI 0) hx hb dX7_count_1 (by decide) ?_
  refine va_put (D := D) (ci := 5) (v := .int (nI 0)) (ty := .int) (C := RX7) (T := TX7) (N := 22) hx hb hts inX7 tyX7 tyX7_ok nmX7 hown hK hP hD hS 0 rfl rfl 0 (by decide) (hts (.fieldLink RX7 48 "ByteShapesModel" "thrown" "I") (List.mem_cons_of_mem _ wd_368)) (fun _ h9 => h9) rfl (by decide +kernel) (rfl) (rfl) (Nat.le_of_ble_eq_true rfl) dX7_count_2 (fun H locs hP hD hS => ?_)
  have hP : va_P D kCl [(mm, .inr (5, [.int (nI 0), .int (nI dg), .int (nI PT), .int (nI PN), .int (nI n), .ref ma, .ref mb, .ref mc, .ref md, .ref me, .int (nI sz), .ref mf, .int (nI od), .int (nI sl), .int (nI t), .int (nI wr), .int (nI pl), .int (nI lo), .long (lN nm), .int vz, .ref mg, .ref mh])), (mc, .inl (cI, 4, .inl (iF pd))), (me, .inl (cI, 4, .inl (iF pq)))] H := hP
  have hD : va_D A [(mm, .inr (5, [.int (nI 0), .int (nI dg), .int (nI PT), .int (nI PN), .int (nI n), .ref ma, .ref mb, .ref mc, .ref md, .ref me, .int (nI sz), .ref mf, .int (nI od), .int (nI sl), .int (nI t), .int (nI wr), .int (nI pl), .int (nI lo), .long (lN nm), .int vz, .ref mg, .ref mh])), (mc, .inl (cI, 4, .inl (iF pd))), (me, .inl (cI, 4, .inl (iF pq)))] := hD
  refine lv_iload_n hx hb dX7_count_5 rfl (lv_at hl 1 rfl) ?_
  refine k_ci (wr := [(mm, .inr (5, [.int (nI 0), .int (nI dg), .int (nI PT), .int (nI PN), .int (nI n), .ref ma, .ref mb, .ref mc, .ref md, .ref me, .int (nI sz), .ref mf, .int (nI od), .int (nI sl), .int (nI t), .int (nI wr), .int (nI pl), .int (nI lo), .long (lN nm), .int vz, .ref mg, .ref mh])), (mc, .inl (cI, 4, .inl (iF pd))), (me, .inl (cI, 4, .inl (iF pq)))]) (k_rs F (c_M_isSlot1 l D cI cB cJ cS k hk) (va_cwS 1 hts (g_S wd_443 wd_444 wd_373 wd_445) rfl rfl rfl (by decide +kernel) ⟨Nat.le_of_ble_eq_true rfl, Nat.le_of_ble_eq_true rfl⟩) hK hP hD hS hA hZ [] rfl (by decide) rfl hl.1 rfl (Nat.le_of_ble_eq_true rfl) dX7_count_6 ⟨Nat.le_of_ble_eq_true rfl, Nat.le_of_ble_eq_true rfl⟩) hP hD hS hA [] [0, 1, 2] rfl rfl (by decide) (by decide) (fun r u9 H locs hw hP hD hS => ?_)
  subst hw
  have hP : va_P D kCl [(mm, .inr (5, [.int (nI 0), .int (nI dg), .int (nI PT), .int (nI PN), .int (nI n), .ref ma, .ref mb, .ref mc, .ref md, .ref me, .int (nI sz), .ref mf, .int (nI od), .int (nI sl), .int (nI t), .int (nI wr), .int (nI pl), .int (nI lo), .long (lN nm), .int vz, .ref mg, .ref mh])), (mc, .inl (cI, 4, .inl (iF pd))), (me, .inl (cI, 4, .inl (iF pq)))] H := hP
  have hD : va_D A [(mm, .inr (5, [.int (nI 0), .int (nI dg), .int (nI PT), .int (nI PN), .int (nI n), .ref ma, .ref mb, .ref mc, .ref md, .ref me, .int (nI sz), .ref mf, .int (nI od), .int (nI sl), .int (nI t), .int (nI wr), .int (nI pl), .int (nI lo), .long (lN nm), .int vz, .ref mg, .ref mh])), (mc, .inl (cI, 4, .inl (iF pd))), (me, .inl (cI, 4, .inl (iF pq)))] := hD
  refine W.widen (k := 0) (n := 0) (Nat.le_of_ble_eq_true rfl) (Nat.le_of_ble_eq_true rfl) ?_
  refine k_if_eq (tgt := 21) (by omega) hx hb dX7_count_9 (by decide) (fun c405 => ?_) (fun c405 => ?_)
  · skip
    exact absurd c405 (by omega)
  · skip
    refine lv_iload_n hx hb dX7_count_12 rfl (lv_at hl 2 rfl) ?_
    refine lv_iconst (v := nI 0) hx hb dX7_count_13 (by decide) ?_
    refine lv_iconst (v := nI 3) hx hb dX7_count_14 (by decide) ?_
    refine k_ci (wr := [(mm, .inr (5, [.int (nI 0), .int (nI dg), .int (nI PT), .int (nI PN), .int (nI n), .ref ma, .ref mb, .ref mc, .ref md, .ref me, .int (nI sz), .ref mf, .int (nI od), .int (nI sl), .int (nI t), .int (nI wr), .int (nI pl), .int (nI lo), .long (lN nm), .int vz, .ref mg, .ref mh])), (mc, .inl (cI, 4, .inl (iF pd))), (me, .inl (cI, 4, .inl (iF pq)))]) (k_rs F (c_M_within1 l D cI cB cJ cS 3 0 3 (by omega) (by omega) (by decide)) (va_cwS 3 hts (g_S wd_371 wd_372 wd_373 wd_374) rfl rfl rfl (by decide +kernel) ⟨Nat.le_of_ble_eq_true rfl, Nat.le_of_ble_eq_true rfl⟩) hK hP hD hS hA hZ [] rfl (by decide) rfl hl.1 rfl (Nat.le_of_ble_eq_true rfl) dX7_count_15 ⟨Nat.le_of_ble_eq_true rfl, Nat.le_of_ble_eq_true rfl⟩) hP hD hS hA [] [0, 1, 2] rfl rfl (by decide) (by decide) (fun r u9 H locs hw hP hD hS => ?_)
    subst hw
    have hP : va_P D kCl [(mm, .inr (5, [.int (nI 0), .int (nI dg), .int (nI PT), .int (nI PN), .int (nI n), .ref ma, .ref mb, .ref mc, .ref md, .ref me, .int (nI sz), .ref mf, .int (nI od), .int (nI sl), .int (nI t), .int (nI wr), .int (nI pl), .int (nI lo), .long (lN nm), .int vz, .ref mg, .ref mh])), (mc, .inl (cI, 4, .inl (iF pd))), (me, .inl (cI, 4, .inl (iF pq)))] H := hP
    have hD : va_D A [(mm, .inr (5, [.int (nI 0), .int (nI dg), .int (nI PT), .int (nI PN), .int (nI n), .ref ma, .ref mb, .ref mc, .ref md, .ref me, .int (nI sz), .ref mf, .int (nI od), .int (nI sl), .int (nI t), .int (nI wr), .int (nI pl), .int (nI lo), .long (lN nm), .int vz, .ref mg, .ref mh])), (mc, .inl (cI, 4, .inl (iF pd))), (me, .inl (cI, 4, .inl (iF pq)))] := hD
    refine W.widen (k := 0) (n := 0) (Nat.le_of_ble_eq_true rfl) (Nat.le_of_ble_eq_true rfl) ?_
    refine k_if_ne (tgt := 27) (by omega) hx hb dX7_count_18 (by decide) (fun c406 => ?_) (fun c406 => ?_)
    · skip
      refine lv_iload_n hx hb dX7_count_27 rfl (lv_at hl 2 rfl) ?_
      refine k_if_ne (tgt := 40) (by omega) hx hb dX7_count_28 (by decide) (fun c407 => ?_) (fun c407 => ?_)
      · skip
        refine lv_iload_n hx hb dX7_count_40 rfl (lv_at hl 2 rfl) ?_
        refine lv_iconst (v := nI 1) hx hb dX7_count_41 (by decide) ?_
        refine k_icmp_ne (tgt := 54) (by omega) (by omega) hx hb dX7_count_42 (by decide) (fun c408 => ?_) (fun c408 => ?_)
        · skip
          refine lv_iload_n hx hb dX7_count_54 rfl (lv_at hl 2 rfl) ?_
          refine lv_iconst (v := nI 2) hx hb dX7_count_55 (by decide) ?_
          refine k_icmp_ne (tgt := 66) (by omega) (by omega) hx hb dX7_count_56 (by decide) (fun c409 => ?_) (fun c409 => ?_)
          · skip
            refine lv_aload_n hx hb dX7_count_66 rfl (lv_at hl 0 rfl) ?_
            refine va_get (D := D) (ci := 5) (v := .int (nI sz)) (C := RX7) (T := TX7) (N := 22) hx hb hts inX7 hown hK hP 0 rfl rfl 10 (by decide) (hts (.fieldLink RX7 163 "ByteShapesModel" "size" "I") (List.mem_cons_of_mem _ wd_446)) (fun _ h9 => h9) rfl dX7_count_67 ?_
            exact k_iret () hx hb hr (by first | rfl | decide | exact vp_nar_int _) hlocks hK hP hD hS (rfl) (rfl) (Nat.le_of_ble_eq_true rfl) (Nat.le_of_ble_eq_true rfl) dX7_count_70
          · skip
            exact absurd c409 (by omega)
        · skip
          exact absurd c408 (by omega)
      · skip
        exact absurd c407 (by omega)
    · skip
      exact absurd c406 (by omega)

set_option maxRecDepth 100000 in
set_option maxHeartbeats 4000000 in
theorem c_M_countX1 (l : Launch) (D : va_G) (cI cB cJ cS : ClassId) (mm ma mb mc md me mf mg mh th dg PT PN n sz od sl t wr pl lo nm : Nat) (b pm pd pq rb ok ol : Nat → Nat) (fx : Nat → Int32) (vz : Int32) (z : Int32) (hz : z < 0 ∨ nI 4 ≤ z) (z2 : Int32)  : kM l yX7_count vsX7_count ({ frames := 2, cells := 0, slots := 0, locals := 42 }) D (kT cI cB cJ cS) [.ref mm, .int z, .int z2] [(mm, .inr (5, [.int (nI th), .int (nI dg), .int (nI PT), .int (nI PN), .int (nI n), .ref ma, .ref mb, .ref mc, .ref md, .ref me, .int (nI sz), .ref mf, .int (nI od), .int (nI sl), .int (nI t), .int (nI wr), .int (nI pl), .int (nI lo), .long (lN nm), .int vz, .ref mg, .ref mh])), (mc, .inl (cI, 4, .inl (iF pd))), (me, .inl (cI, 4, .inl (iF pq)))] (kQi D (kT cI cB cJ cS) (fun r (ug : Unit) => r = nI 0) (fun ug => [(mm, .inr (5, [.int (nI 1), .int (nI dg), .int (nI PT), .int (nI PN), .int (nI n), .ref ma, .ref mb, .ref mc, .ref md, .ref me, .int (nI sz), .ref mf, .int (nI od), .int (nI sl), .int (nI t), .int (nI wr), .int (nI pl), .int (nI lo), .long (lN nm), .int vz, .ref mg, .ref mh])), (mc, .inl (cI, 4, .inl (iF pd))), (me, .inl (cI, 4, .inl (iF pq)))])) := by
  refine k_ofW (by decide) rfl (Nat.le_of_ble_eq_true rfl) ?_
  intro p e s m below meth c A ls hx hb hr hts hown hlocks hmn hml hA hP hK hD hS hZ hl
  have inX7 : ∀ w ∈ wsX70, w ∈ vsX7_count := fun w h => List.mem_cons_of_mem _ (iaX7 w h)
  have F : CallFix p m c cX7_count 3 s _ vsX7_count RX7 := ⟨hx, hb, hml, hown, hts⟩
  have hl : lv_has ls 3 [(0, .ref mm), (1, .int z), (2, .int z2)] := hl
  refine lv_aload_n hx hb dX7_count_0 rfl (lv_at hl 0 rfl) ?_
  refine lv_iconst (v := nI 0) hx hb dX7_count_1 (by decide) ?_
  refine va_put (D := D) (ci := 5) (v := .int (nI 0)) (ty := .int) (C := RX7) (T := TX7) (N := 22) hx hb hts inX7 tyX7 tyX7_ok nmX7 hown hK hP hD hS 0 rfl rfl 0 (by decide) (hts (.fieldLink RX7 48 "ByteShapesModel" "thrown" "I") (List.mem_cons_of_mem _ wd_368)) (fun _ h9 => h9) rfl (by decide +kernel) (rfl) (rfl) (Nat.le_of_ble_eq_true rfl) dX7_count_2 (fun H locs hP hD hS => ?_)
  have hP : va_P D kCl [(mm, .inr (5, [.int (nI 0), .int (nI dg), .int (nI PT), .int (nI PN), .int (nI n), .ref ma, .ref mb, .ref mc, .ref md, .ref me, .int (nI sz), .ref mf, .int (nI od), .int (nI sl), .int (nI t), .int (nI wr), .int (nI pl), .int (nI lo), .long (lN nm), .int vz, .ref mg, .ref mh])), (mc, .inl (cI, 4, .inl (iF pd))), (me, .inl (cI, 4, .inl (iF pq)))] H := hP
  have hD : va_D A [(mm, .inr (5, [.int (nI 0), .int (nI dg), .int (nI PT), .int (nI PN), .int (nI n), .ref ma, .ref mb, .ref mc, .ref md, .ref me, .int (nI sz), .ref mf, .int (nI od), .int (nI sl), .int (nI t), .int (nI wr), .int (nI pl), .int (nI lo), .long (lN nm), .int vz, .ref mg, .ref mh])), (mc, .inl (cI, 4, .inl (iF pd))), (me, .inl (cI, 4, .inl (iF pq)))] := hD
  refine lv_iload_n hx hb dX7_count_5 rfl (lv_at hl 1 rfl) ?_
  refine k_ci (wr := [(mm, .inr (5, [.int (nI 0), .int (nI dg), .int (nI PT), .int (nI PN), .int (nI n), .ref ma, .ref mb, .ref mc, .ref md, .ref me, .int (nI sz), .ref mf, .int (nI od), .int (nI sl), .int (nI t), .int (nI wr), .int (nI pl), .int (nI lo), .long (lN nm), .int vz, .ref mg, .ref mh])), (mc, .inl (cI, 4, .inl (iF pd))), (me, .inl (cI, 4, .inl (iF pq)))]) (k_rs F (c_M_isSlot0 l D cI cB cJ cS z hz) (va_cwS 1 hts (g_S wd_443 wd_444 wd_373 wd_445) rfl rfl rfl (by decide +kernel) ⟨Nat.le_of_ble_eq_true rfl, Nat.le_of_ble_eq_true rfl⟩) hK hP hD hS hA hZ [] rfl (by decide) rfl hl.1 rfl (Nat.le_of_ble_eq_true rfl) dX7_count_6 ⟨Nat.le_of_ble_eq_true rfl, Nat.le_of_ble_eq_true rfl⟩) hP hD hS hA [] [0, 1, 2] rfl rfl (by decide) (by decide) (fun r u9 H locs hw hP hD hS => ?_)
  subst hw
  have hP : va_P D kCl [(mm, .inr (5, [.int (nI 0), .int (nI dg), .int (nI PT), .int (nI PN), .int (nI n), .ref ma, .ref mb, .ref mc, .ref md, .ref me, .int (nI sz), .ref mf, .int (nI od), .int (nI sl), .int (nI t), .int (nI wr), .int (nI pl), .int (nI lo), .long (lN nm), .int vz, .ref mg, .ref mh])), (mc, .inl (cI, 4, .inl (iF pd))), (me, .inl (cI, 4, .inl (iF pq)))] H := hP
  have hD : va_D A [(mm, .inr (5, [.int (nI 0), .int (nI dg), .int (nI PT), .int (nI PN), .int (nI n), .ref ma, .ref mb, .ref mc, .ref md, .ref me, .int (nI sz), .ref mf, .int (nI od), .int (nI sl), .int (nI t), .int (nI wr), .int (nI pl), .int (nI lo), .long (lN nm), .int vz, .ref mg, .ref mh])), (mc, .inl (cI, 4, .inl (iF pd))), (me, .inl (cI, 4, .inl (iF pq)))] := hD
  refine W.widen (k := 0) (n := 0) (Nat.le_of_ble_eq_true rfl) (Nat.le_of_ble_eq_true rfl) ?_
  refine k_if_eq (tgt := 21) (by omega) hx hb dX7_count_9 (by decide) (fun c410 => ?_) (fun c410 => ?_)
  · skip
    refine lv_aload_n hx hb dX7_count_21 rfl (lv_at hl 0 rfl) ?_
    refine lv_iconst (v := nI 1) hx hb dX7_count_22 (by decide) ?_
    refine k_ci (wr := [(mc, .inl (cI, 4, .inl (iF pd))), (me, .inl (cI, 4, .inl (iF pq)))]) (k_rv F (c_M_fail l D cI cB cJ cS mm ma mb mc md me mf mg mh 0 dg PT PN n sz od sl t wr pl lo nm b pm pd pq rb ok ol fx vz 1) (cwV 1 hts (g_V wd_378 wd_379 wd_380 wd_373 wd_381) rfl rfl rfl (by decide +kernel) ⟨Nat.le_of_ble_eq_true rfl, Nat.le_of_ble_eq_true rfl⟩) hK hP hD hS hA hZ [0] rfl (by decide) 0 rfl rfl rfl rfl hl.1 rfl (Nat.le_of_ble_eq_true rfl) dX7_count_23 ⟨Nat.le_of_ble_eq_true rfl, Nat.le_of_ble_eq_true rfl⟩) hP hD hS hA [0] [1, 2] rfl rfl (by decide) (by decide) (fun r u9 H locs hw hP hD hS => ?_)
    subst hw
    have hP : va_P D kCl [(mc, .inl (cI, 4, .inl (iF pd))), (me, .inl (cI, 4, .inl (iF pq))), (mm, .inr (5, [.int (nI 1), .int (nI dg), .int (nI PT), .int (nI PN), .int (nI n), .ref ma, .ref mb, .ref mc, .ref md, .ref me, .int (nI sz), .ref mf, .int (nI od), .int (nI sl), .int (nI t), .int (nI wr), .int (nI pl), .int (nI lo), .long (lN nm), .int vz, .ref mg, .ref mh]))] H := hP
    have hD : va_D A [(mc, .inl (cI, 4, .inl (iF pd))), (me, .inl (cI, 4, .inl (iF pq))), (mm, .inr (5, [.int (nI 1), .int (nI dg), .int (nI PT), .int (nI PN), .int (nI n), .ref ma, .ref mb, .ref mc, .ref md, .ref me, .int (nI sz), .ref mf, .int (nI od), .int (nI sl), .int (nI t), .int (nI wr), .int (nI pl), .int (nI lo), .long (lN nm), .int vz, .ref mg, .ref mh]))] := hD
    refine W.widen (k := 0) (n := 0) (Nat.le_of_ble_eq_true rfl) (Nat.le_of_ble_eq_true rfl) ?_
    have hP : va_P D kCl [(mm, .inr (5, [.int (nI 1), .int (nI dg), .int (nI PT), .int (nI PN), .int (nI n), .ref ma, .ref mb, .ref mc, .ref md, .ref me, .int (nI sz), .ref mf, .int (nI od), .int (nI sl), .int (nI t), .int (nI wr), .int (nI pl), .int (nI lo), .long (lN nm), .int vz, .ref mg, .ref mh])), (mc, .inl (cI, 4, .inl (iF pd))), (me, .inl (cI, 4, .inl (iF pq)))] H := hP.sub [2, 0, 1] rfl
    have hD : va_D A [(mm, .inr (5, [.int (nI 1), .int (nI dg), .int (nI PT), .int (nI PN), .int (nI n), .ref ma, .ref mb, .ref mc, .ref md, .ref me, .int (nI sz), .ref mf, .int (nI od), .int (nI sl), .int (nI t), .int (nI wr), .int (nI pl), .int (nI lo), .long (lN nm), .int vz, .ref mg, .ref mh])), (mc, .inl (cI, 4, .inl (iF pd))), (me, .inl (cI, 4, .inl (iF pq)))] := hD.sub [2, 0, 1] (by decide) rfl
    exact k_iret () hx hb hr (by first | rfl | decide | exact vp_nar_int _) hlocks hK hP hD hS (rfl) (rfl) (Nat.le_of_ble_eq_true rfl) (Nat.le_of_ble_eq_true rfl) dX7_count_26
  · skip
    exact absurd c410 (by omega)

set_option maxRecDepth 100000 in
set_option maxHeartbeats 4000000 in
theorem c_M_countX2 (l : Launch) (D : va_G) (cI cB cJ cS : ClassId) (mm ma mb mc md me mf mg mh th dg PT PN n sz od sl t wr pl lo nm : Nat) (b pm pd pq rb ok ol : Nat → Nat) (fx : Nat → Int32) (vz : Int32) (k : Nat) (hk : k < 4) (z : Int32) (hz : z < nI 0 ∨ nI 3 < z)  : kM l yX7_count vsX7_count ({ frames := 2, cells := 0, slots := 0, locals := 42 }) D (kT cI cB cJ cS) [.ref mm, .int (nI k), .int z] [(mm, .inr (5, [.int (nI th), .int (nI dg), .int (nI PT), .int (nI PN), .int (nI n), .ref ma, .ref mb, .ref mc, .ref md, .ref me, .int (nI sz), .ref mf, .int (nI od), .int (nI sl), .int (nI t), .int (nI wr), .int (nI pl), .int (nI lo), .long (lN nm), .int vz, .ref mg, .ref mh])), (mc, .inl (cI, 4, .inl (iF pd))), (me, .inl (cI, 4, .inl (iF pq)))] (kQi D (kT cI cB cJ cS) (fun r (ug : Unit) => r = nI 0) (fun ug => [(mm, .inr (5, [.int (nI 1), .int (nI dg), .int (nI PT), .int (nI PN), .int (nI n), .ref ma, .ref mb, .ref mc, .ref md, .ref me, .int (nI sz), .ref mf, .int (nI od), .int (nI sl), .int (nI t), .int (nI wr), .int (nI pl), .int (nI lo), .long (lN nm), .int vz, .ref mg, .ref mh])), (mc, .inl (cI, 4, .inl (iF pd))), (me, .inl (cI, 4, .inl (iF pq)))])) := by
  refine k_ofW (by decide) rfl (Nat.le_of_ble_eq_true rfl) ?_
  intro p e s m below meth c A ls hx hb hr hts hown hlocks hmn hml hA hP hK hD hS hZ hl
  have inX7 : ∀ w ∈ wsX70, w ∈ vsX7_count := fun w h => List.mem_cons_of_mem _ (iaX7 w h)
  have F : CallFix p m c cX7_count 3 s _ vsX7_count RX7 := ⟨hx, hb, hml, hown, hts⟩
  have hl : lv_has ls 3 [(0, .ref mm), (1, .int (nI k)), (2, .int z)] := hl
  refine lv_aload_n hx hb dX7_count_0 rfl (lv_at hl 0 rfl) ?_
  refine lv_iconst (v := nI 0) hx hb dX7_count_1 (by decide) ?_
  refine va_put (D := D) (ci := 5) (v := .int (nI 0)) (ty := .int) (C := RX7) (T := TX7) (N := 22) hx hb hts inX7 tyX7 tyX7_ok nmX7 hown hK hP hD hS 0 rfl rfl 0 (by decide) (hts (.fieldLink RX7 48 "ByteShapesModel" "thrown" "I") (List.mem_cons_of_mem _ wd_368)) (fun _ h9 => h9) rfl (by decide +kernel) (rfl) (rfl) (Nat.le_of_ble_eq_true rfl) dX7_count_2 (fun H locs hP hD hS => ?_)
  have hP : va_P D kCl [(mm, .inr (5, [.int (nI 0), .int (nI dg), .int (nI PT), .int (nI PN), .int (nI n), .ref ma, .ref mb, .ref mc, .ref md, .ref me, .int (nI sz), .ref mf, .int (nI od), .int (nI sl), .int (nI t), .int (nI wr), .int (nI pl), .int (nI lo), .long (lN nm), .int vz, .ref mg, .ref mh])), (mc, .inl (cI, 4, .inl (iF pd))), (me, .inl (cI, 4, .inl (iF pq)))] H := hP
  have hD : va_D A [(mm, .inr (5, [.int (nI 0), .int (nI dg), .int (nI PT), .int (nI PN), .int (nI n), .ref ma, .ref mb, .ref mc, .ref md, .ref me, .int (nI sz), .ref mf, .int (nI od), .int (nI sl), .int (nI t), .int (nI wr), .int (nI pl), .int (nI lo), .long (lN nm), .int vz, .ref mg, .ref mh])), (mc, .inl (cI, 4, .inl (iF pd))), (me, .inl (cI, 4, .inl (iF pq)))] := hD
  refine lv_iload_n hx hb dX7_count_5 rfl (lv_at hl 1 rfl) ?_
  refine k_ci (wr := [(mm, .inr (5, [.int (nI 0), .int (nI dg), .int (nI PT), .int (nI PN), .int (nI n), .ref ma, .ref mb, .ref mc, .ref md, .ref me, .int (nI sz), .ref mf, .int (nI od), .int (nI sl), .int (nI t), .int (nI wr), .int (nI pl), .int (nI lo), .long (lN nm), .int vz, .ref mg, .ref mh])), (mc, .inl (cI, 4, .inl (iF pd))), (me, .inl (cI, 4, .inl (iF pq)))]) (k_rs F (c_M_isSlot1 l D cI cB cJ cS k hk) (va_cwS 1 hts (g_S wd_443 wd_444 wd_373 wd_445) rfl rfl rfl (by decide +kernel) ⟨Nat.le_of_ble_eq_true rfl, Nat.le_of_ble_eq_true rfl⟩) hK hP hD hS hA hZ [] rfl (by decide) rfl hl.1 rfl (Nat.le_of_ble_eq_true rfl) dX7_count_6 ⟨Nat.le_of_ble_eq_true rfl, Nat.le_of_ble_eq_true rfl⟩) hP hD hS hA [] [0, 1, 2] rfl rfl (by decide) (by decide) (fun r u9 H locs hw hP hD hS => ?_)
  subst hw
  have hP : va_P D kCl [(mm, .inr (5, [.int (nI 0), .int (nI dg), .int (nI PT), .int (nI PN), .int (nI n), .ref ma, .ref mb, .ref mc, .ref md, .ref me, .int (nI sz), .ref mf, .int (nI od), .int (nI sl), .int (nI t), .int (nI wr), .int (nI pl), .int (nI lo), .long (lN nm), .int vz, .ref mg, .ref mh])), (mc, .inl (cI, 4, .inl (iF pd))), (me, .inl (cI, 4, .inl (iF pq)))] H := hP
  have hD : va_D A [(mm, .inr (5, [.int (nI 0), .int (nI dg), .int (nI PT), .int (nI PN), .int (nI n), .ref ma, .ref mb, .ref mc, .ref md, .ref me, .int (nI sz), .ref mf, .int (nI od), .int (nI sl), .int (nI t), .int (nI wr), .int (nI pl), .int (nI lo), .long (lN nm), .int vz, .ref mg, .ref mh])), (mc, .inl (cI, 4, .inl (iF pd))), (me, .inl (cI, 4, .inl (iF pq)))] := hD
  refine W.widen (k := 0) (n := 0) (Nat.le_of_ble_eq_true rfl) (Nat.le_of_ble_eq_true rfl) ?_
  refine k_if_eq (tgt := 21) (by omega) hx hb dX7_count_9 (by decide) (fun c411 => ?_) (fun c411 => ?_)
  · skip
    exact absurd c411 (by omega)
  · skip
    refine lv_iload_n hx hb dX7_count_12 rfl (lv_at hl 2 rfl) ?_
    refine lv_iconst (v := nI 0) hx hb dX7_count_13 (by decide) ?_
    refine lv_iconst (v := nI 3) hx hb dX7_count_14 (by decide) ?_
    refine k_ci (wr := [(mm, .inr (5, [.int (nI 0), .int (nI dg), .int (nI PT), .int (nI PN), .int (nI n), .ref ma, .ref mb, .ref mc, .ref md, .ref me, .int (nI sz), .ref mf, .int (nI od), .int (nI sl), .int (nI t), .int (nI wr), .int (nI pl), .int (nI lo), .long (lN nm), .int vz, .ref mg, .ref mh])), (mc, .inl (cI, 4, .inl (iF pd))), (me, .inl (cI, 4, .inl (iF pq)))]) (k_rs F (c_M_within0 l D cI cB cJ cS z 0 3 hz) (va_cwS 3 hts (g_S wd_371 wd_372 wd_373 wd_374) rfl rfl rfl (by decide +kernel) ⟨Nat.le_of_ble_eq_true rfl, Nat.le_of_ble_eq_true rfl⟩) hK hP hD hS hA hZ [] rfl (by decide) rfl hl.1 rfl (Nat.le_of_ble_eq_true rfl) dX7_count_15 ⟨Nat.le_of_ble_eq_true rfl, Nat.le_of_ble_eq_true rfl⟩) hP hD hS hA [] [0, 1, 2] rfl rfl (by decide) (by decide) (fun r u9 H locs hw hP hD hS => ?_)
    subst hw
    have hP : va_P D kCl [(mm, .inr (5, [.int (nI 0), .int (nI dg), .int (nI PT), .int (nI PN), .int (nI n), .ref ma, .ref mb, .ref mc, .ref md, .ref me, .int (nI sz), .ref mf, .int (nI od), .int (nI sl), .int (nI t), .int (nI wr), .int (nI pl), .int (nI lo), .long (lN nm), .int vz, .ref mg, .ref mh])), (mc, .inl (cI, 4, .inl (iF pd))), (me, .inl (cI, 4, .inl (iF pq)))] H := hP
    have hD : va_D A [(mm, .inr (5, [.int (nI 0), .int (nI dg), .int (nI PT), .int (nI PN), .int (nI n), .ref ma, .ref mb, .ref mc, .ref md, .ref me, .int (nI sz), .ref mf, .int (nI od), .int (nI sl), .int (nI t), .int (nI wr), .int (nI pl), .int (nI lo), .long (lN nm), .int vz, .ref mg, .ref mh])), (mc, .inl (cI, 4, .inl (iF pd))), (me, .inl (cI, 4, .inl (iF pq)))] := hD
    refine W.widen (k := 0) (n := 0) (Nat.le_of_ble_eq_true rfl) (Nat.le_of_ble_eq_true rfl) ?_
    refine k_if_ne (tgt := 27) (by omega) hx hb dX7_count_18 (by decide) (fun c412 => ?_) (fun c412 => ?_)
    · skip
      exact absurd c412 (by omega)
    · skip
      refine lv_aload_n hx hb dX7_count_21 rfl (lv_at hl 0 rfl) ?_
      refine lv_iconst (v := nI 1) hx hb dX7_count_22 (by decide) ?_
      refine k_ci (wr := [(mc, .inl (cI, 4, .inl (iF pd))), (me, .inl (cI, 4, .inl (iF pq)))]) (k_rv F (c_M_fail l D cI cB cJ cS mm ma mb mc md me mf mg mh 0 dg PT PN n sz od sl t wr pl lo nm b pm pd pq rb ok ol fx vz 1) (cwV 1 hts (g_V wd_378 wd_379 wd_380 wd_373 wd_381) rfl rfl rfl (by decide +kernel) ⟨Nat.le_of_ble_eq_true rfl, Nat.le_of_ble_eq_true rfl⟩) hK hP hD hS hA hZ [0] rfl (by decide) 0 rfl rfl rfl rfl hl.1 rfl (Nat.le_of_ble_eq_true rfl) dX7_count_23 ⟨Nat.le_of_ble_eq_true rfl, Nat.le_of_ble_eq_true rfl⟩) hP hD hS hA [0] [1, 2] rfl rfl (by decide) (by decide) (fun r u9 H locs hw hP hD hS => ?_)
      subst hw
      have hP : va_P D kCl [(mc, .inl (cI, 4, .inl (iF pd))), (me, .inl (cI, 4, .inl (iF pq))), (mm, .inr (5, [.int (nI 1), .int (nI dg), .int (nI PT), .int (nI PN), .int (nI n), .ref ma, .ref mb, .ref mc, .ref md, .ref me, .int (nI sz), .ref mf, .int (nI od), .int (nI sl), .int (nI t), .int (nI wr), .int (nI pl), .int (nI lo), .long (lN nm), .int vz, .ref mg, .ref mh]))] H := hP
      have hD : va_D A [(mc, .inl (cI, 4, .inl (iF pd))), (me, .inl (cI, 4, .inl (iF pq))), (mm, .inr (5, [.int (nI 1), .int (nI dg), .int (nI PT), .int (nI PN), .int (nI n), .ref ma, .ref mb, .ref mc, .ref md, .ref me, .int (nI sz), .ref mf, .int (nI od), .int (nI sl), .int (nI t), .int (nI wr), .int (nI pl), .int (nI lo), .long (lN nm), .int vz, .ref mg, .ref mh]))] := hD
      refine W.widen (k := 0) (n := 0) (Nat.le_of_ble_eq_true rfl) (Nat.le_of_ble_eq_true rfl) ?_
      have hP : va_P D kCl [(mm, .inr (5, [.int (nI 1), .int (nI dg), .int (nI PT), .int (nI PN), .int (nI n), .ref ma, .ref mb, .ref mc, .ref md, .ref me, .int (nI sz), .ref mf, .int (nI od), .int (nI sl), .int (nI t), .int (nI wr), .int (nI pl), .int (nI lo), .long (lN nm), .int vz, .ref mg, .ref mh])), (mc, .inl (cI, 4, .inl (iF pd))), (me, .inl (cI, 4, .inl (iF pq)))] H := hP.sub [2, 0, 1] rfl
      have hD : va_D A [(mm, .inr (5, [.int (nI 1), .int (nI dg), .int (nI PT), .int (nI PN), .int (nI n), .ref ma, .ref mb, .ref mc, .ref md, .ref me, .int (nI sz), .ref mf, .int (nI od), .int (nI sl), .int (nI t), .int (nI wr), .int (nI pl), .int (nI lo), .long (lN nm), .int vz, .ref mg, .ref mh])), (mc, .inl (cI, 4, .inl (iF pd))), (me, .inl (cI, 4, .inl (iF pq)))] := hD.sub [2, 0, 1] (by decide) rfl
      exact k_iret () hx hb hr (by first | rfl | decide | exact vp_nar_int _) hlocks hK hP hD hS (rfl) (rfl) (Nat.le_of_ble_eq_true rfl) (Nat.le_of_ble_eq_true rfl) dX7_count_26

set_option maxRecDepth 100000 in
set_option maxHeartbeats 4000000 in
theorem c_M_again (l : Launch) (D : va_G) (cI cB cJ cS : ClassId) (mm ma mb mc md me mf mg mh th dg PT PN n sz od sl t wr pl lo nm : Nat) (b pm pd pq rb ok ol : Nat → Nat) (fx : Nat → Int32) (vz : Int32) (hsz : sz ≤ 65536)  : kM l yX7_again vsX7_again ({ frames := 0, cells := 0, slots := 0, locals := 0 }) D (kT cI cB cJ cS) [.ref mm] [(mm, .inr (5, [.int (nI th), .int (nI dg), .int (nI PT), .int (nI PN), .int (nI n), .ref ma, .ref mb, .ref mc, .ref md, .ref me, .int (nI sz), .ref mf, .int (nI od), .int (nI sl), .int (nI t), .int (nI wr), .int (nI pl), .int (nI lo), .long (lN nm), .int vz, .ref mg, .ref mh])), (ma, .inl (cI, 65536, .inl (iF b))), (mf, .inl (cI, 131072, .inl (iF rb)))] (kQi D (kT cI cB cJ cS) (fun r (ug : Unit) => r = nI sz) (fun ug => [(mm, .inr (5, [.int (nI 0), .int (nI dg), .int (nI PT), .int (nI PN), .int (nI sz), .ref ma, .ref mb, .ref mc, .ref md, .ref me, .int (nI sz), .ref mf, .int (nI od), .int (nI sl), .int (nI t), .int (nI wr), .int (nI pl), .int (nI lo), .long (lN nm), .int vz, .ref mg, .ref mh])), (ma, .inl (cI, 65536, .inl (iF (va_cpy rb b 0 0 sz)))), (mf, .inl (cI, 131072, .inl (iF rb)))])) := by
  refine k_ofW (by decide) rfl (Nat.le_of_ble_eq_true rfl) ?_
  intro p e s m below meth c A ls hx hb hr hts hown hlocks hmn hml hA hP hK hD hS hZ hl
  have inX7 : ∀ w ∈ wsX70, w ∈ vsX7_again := fun w h => List.mem_cons_of_mem _ (iaX7 w h)
  have F : CallFix p m c cX7_again 2 s _ vsX7_again RX7 := ⟨hx, hb, hml, hown, hts⟩
  have hl : lv_has ls 2 [(0, .ref mm)] := hl
  refine lv_aload_n hx hb dX7_again_0 rfl (lv_at hl 0 rfl) ?_
  refine lv_iconst (v := nI 0) hx hb dX7_again_1 (by decide) ?_
  refine va_put (D := D) (ci := 5) (v := .int (nI 0)) (ty := .int) (C := RX7) (T := TX7) (N := 22) hx hb hts inX7 tyX7 tyX7_ok nmX7 hown hK hP hD hS 0 rfl rfl 0 (by decide) (hts (.fieldLink RX7 48 "ByteShapesModel" "thrown" "I") (List.mem_cons_of_mem _ wd_368)) (fun _ h9 => h9) rfl (by decide +kernel) (rfl) (rfl) (Nat.le_of_ble_eq_true rfl) dX7_again_2 (fun H locs hP hD hS => ?_)
  have hP : va_P D kCl [(mm, .inr (5, [.int (nI 0), .int (nI dg), .int (nI PT), .int (nI PN), .int (nI n), .ref ma, .ref mb, .ref mc, .ref md, .ref me, .int (nI sz), .ref mf, .int (nI od), .int (nI sl), .int (nI t), .int (nI wr), .int (nI pl), .int (nI lo), .long (lN nm), .int vz, .ref mg, .ref mh])), (ma, .inl (cI, 65536, .inl (iF b))), (mf, .inl (cI, 131072, .inl (iF rb)))] H := hP
  have hD : va_D A [(mm, .inr (5, [.int (nI 0), .int (nI dg), .int (nI PT), .int (nI PN), .int (nI n), .ref ma, .ref mb, .ref mc, .ref md, .ref me, .int (nI sz), .ref mf, .int (nI od), .int (nI sl), .int (nI t), .int (nI wr), .int (nI pl), .int (nI lo), .long (lN nm), .int vz, .ref mg, .ref mh])), (ma, .inl (cI, 65536, .inl (iF b))), (mf, .inl (cI, 131072, .inl (iF rb)))] := hD
  refine lv_aload_n hx hb dX7_again_5 rfl (lv_at hl 0 rfl) ?_
  refine lv_aload_n hx hb dX7_again_6 rfl (lv_at hl 0 rfl) ?_
  refine va_get (D := D) (ci := 5) (v := .int (nI sz)) (C := RX7) (T := TX7) (N := 22) hx hb hts inX7 hown hK hP 0 rfl rfl 10 (by decide) (hts (.fieldLink RX7 163 "ByteShapesModel" "size" "I") (List.mem_cons_of_mem _ wd_446)) (fun _ h9 => h9) rfl dX7_again_7 ?_
  refine lv_ldc (v := nI 65536) hx hb hown (hts (.constant RX7 7 (65536)) (List.mem_cons_of_mem _ wd_376)) dX7_again_10 ?_
  refine k_icmp_ge (tgt := 22) (by omega) (by omega) hx hb dX7_again_12 (by decide) (fun c413 => ?_) (fun c413 => ?_)
  · skip
    refine lv_ldc (v := nI 65536) hx hb hown (hts (.constant RX7 7 (65536)) (List.mem_cons_of_mem _ wd_376)) dX7_again_22 ?_
    refine k_i (show _ = nI sz from by rw [show sz = 65536 by omega]) ?_
    refine va_put (D := D) (ci := 5) (v := .int (nI sz)) (ty := .int) (C := RX7) (T := TX7) (N := 22) hx hb hts inX7 tyX7 tyX7_ok nmX7 hown hK hP hD hS 0 rfl rfl 4 (by decide) (hts (.fieldLink RX7 55 "ByteShapesModel" "fed" "I") (List.mem_cons_of_mem _ wd_375)) (fun _ h9 => h9) rfl (by decide +kernel) (rfl) (rfl) (Nat.le_of_ble_eq_true rfl) dX7_again_24 (fun H locs hP hD hS => ?_)
    have hP : va_P D kCl [(mm, .inr (5, [.int (nI 0), .int (nI dg), .int (nI PT), .int (nI PN), .int (nI sz), .ref ma, .ref mb, .ref mc, .ref md, .ref me, .int (nI sz), .ref mf, .int (nI od), .int (nI sl), .int (nI t), .int (nI wr), .int (nI pl), .int (nI lo), .long (lN nm), .int vz, .ref mg, .ref mh])), (ma, .inl (cI, 65536, .inl (iF b))), (mf, .inl (cI, 131072, .inl (iF rb)))] H := hP
    have hD : va_D A [(mm, .inr (5, [.int (nI 0), .int (nI dg), .int (nI PT), .int (nI PN), .int (nI sz), .ref ma, .ref mb, .ref mc, .ref md, .ref me, .int (nI sz), .ref mf, .int (nI od), .int (nI sl), .int (nI t), .int (nI wr), .int (nI pl), .int (nI lo), .long (lN nm), .int vz, .ref mg, .ref mh])), (ma, .inl (cI, 65536, .inl (iF b))), (mf, .inl (cI, 131072, .inl (iF rb)))] := hD
    refine lv_iconst (v := nI 0) hx hb dX7_again_27 (by decide) ?_
    refine lv_istore_n (lv' := [(1, .int (nI 0)), (0, .ref mm)]) hx hb dX7_again_28 rfl hl (by decide) rfl (fun ls hl => ?_)
    rw [show iF b = iF (va_cpy rb b 0 0 0) from by rw [cpy_0]] at hP hD
    have hP : va_P D kCl [(mm, .inr (5, [.int (nI 0), .int (nI dg), .int (nI PT), .int (nI PN), .int (nI sz), .ref ma, .ref mb, .ref mc, .ref md, .ref me, .int (nI sz), .ref mf, .int (nI od), .int (nI sl), .int (nI t), .int (nI wr), .int (nI pl), .int (nI lo), .long (lN nm), .int vz, .ref mg, .ref mh])), (ma, .inl (cI, 65536, .inl (iF (va_cpy rb b 0 0 0)))), (mf, .inl (cI, 131072, .inl (iF rb)))] H := hP
    have hD : va_D A [(mm, .inr (5, [.int (nI 0), .int (nI dg), .int (nI PT), .int (nI PN), .int (nI sz), .ref ma, .ref mb, .ref mc, .ref md, .ref me, .int (nI sz), .ref mf, .int (nI od), .int (nI sl), .int (nI t), .int (nI wr), .int (nI pl), .int (nI lo), .long (lN nm), .int vz, .ref mg, .ref mh])), (ma, .inl (cI, 65536, .inl (iF (va_cpy rb b 0 0 0)))), (mf, .inl (cI, 131072, .inl (iF rb)))] := hD
    have loop414 : ∀ (k415 : Nat) (j : Nat) (H : Heap) (locs : List Loc) (ls : Array Slot), sz - j < k415 → (j ≤ sz) → va_P D kCl [(mm, .inr (5, [.int (nI 0), .int (nI dg), .int (nI PT), .int (nI PN), .int (nI sz), .ref ma, .ref mb, .ref mc, .ref md, .ref me, .int (nI sz), .ref mf, .int (nI od), .int (nI sl), .int (nI t), .int (nI wr), .int (nI pl), .int (nI lo), .long (lN nm), .int vz, .ref mg, .ref mh])), (ma, .inl (cI, 65536, .inl (iF (va_cpy rb b 0 0 j)))), (mf, .inl (cI, 131072, .inl (iF rb)))] H → va_D A [(mm, .inr (5, [.int (nI 0), .int (nI dg), .int (nI PT), .int (nI PN), .int (nI sz), .ref ma, .ref mb, .ref mc, .ref md, .ref me, .int (nI sz), .ref mf, .int (nI od), .int (nI sl), .int (nI t), .int (nI wr), .int (nI pl), .int (nI lo), .long (lN nm), .int vz, .ref mg, .ref mh])), (ma, .inl (cI, 65536, .inl (iF (va_cpy rb b 0 0 j)))), (mf, .inl (cI, 131072, .inl (iF rb)))] → va_S A s.heap H locs → lv_has ls 2 [(0, .ref mm), (1, .int (nI j))] → W p l e ({ frames := 0, cells := 0, slots := 0, locals := 0 }) s m ([.ref mm] : List Value).toArray below meth c H locs 0 0 (MQ below ((kQi D (kT cI cB cJ cS) (fun r (ug : Unit) => r = nI sz) (fun ug => [(mm, .inr (5, [.int (nI 0), .int (nI dg), .int (nI PT), .int (nI PN), .int (nI sz), .ref ma, .ref mb, .ref mc, .ref md, .ref me, .int (nI sz), .ref mf, .int (nI od), .int (nI sl), .int (nI t), .int (nI wr), .int (nI pl), .int (nI lo), .long (lN nm), .int vz, .ref mg, .ref mh])), (ma, .inl (cI, 65536, .inl (iF (va_cpy rb b 0 0 sz)))), (mf, .inl (cI, 131072, .inl (iF rb)))])) A) ([.ref mm] : List Value).toArray s ({ frames := 0, cells := 0, slots := 0, locals := 0 } : Room).cells ({ frames := 0, cells := 0, slots := 0, locals := 0 } : Room).slots A) (F0 m 29 ls []) := by
      intro k415
      induction k415 with
      | zero =>
        intro j H locs ls hk9
        exact absurd hk9 (Nat.not_lt_zero _)
      | succ k415 ihloop414 =>
        intro j H locs ls hk9 hj hP hD hS hl
        refine lv_iload_n hx hb dX7_again_29 rfl (lv_at hl 1 rfl) ?_
        refine lv_aload_n hx hb dX7_again_30 rfl (lv_at hl 0 rfl) ?_
        refine va_get (D := D) (ci := 5) (v := .int (nI sz)) (C := RX7) (T := TX7) (N := 22) hx hb hts inX7 hown hK hP 0 rfl rfl 4 (by decide) (hts (.fieldLink RX7 55 "ByteShapesModel" "fed" "I") (List.mem_cons_of_mem _ wd_375)) (fun _ h9 => h9) rfl dX7_again_31 ?_
        refine k_icmp_ge (tgt := 55) (by omega) (by omega) hx hb dX7_again_34 (by decide) (fun c416 => ?_) (fun c416 => ?_)
        · skip
          refine lv_aload_n hx hb dX7_again_55 rfl (lv_at hl 0 rfl) ?_
          refine va_get (D := D) (ci := 5) (v := .int (nI sz)) (C := RX7) (T := TX7) (N := 22) hx hb hts inX7 hown hK hP 0 rfl rfl 4 (by decide) (hts (.fieldLink RX7 55 "ByteShapesModel" "fed" "I") (List.mem_cons_of_mem _ wd_375)) (fun _ h9 => h9) rfl dX7_again_56 ?_
          have ej : j = sz := by omega
          subst ej
          exact k_iret () hx hb hr (by first | rfl | decide | exact vp_nar_int _) hlocks hK hP hD hS (rfl) (rfl) (Nat.le_of_ble_eq_true rfl) (Nat.le_of_ble_eq_true rfl) dX7_again_59
        · skip
          refine lv_aload_n hx hb dX7_again_37 rfl (lv_at hl 0 rfl) ?_
          refine va_get (D := D) (ci := 5) (v := .ref ma) (C := RX7) (T := TX7) (N := 22) hx hb hts inX7 hown hK hP 0 rfl rfl 5 (by decide) (hts (.fieldLink RX7 8 "ByteShapesModel" "tape" "[I") (List.mem_cons_of_mem _ wd_377)) (fun _ h9 => h9) rfl dX7_again_38 ?_
          refine lv_iload_n hx hb dX7_again_41 rfl (lv_at hl 1 rfl) ?_
          refine lv_aload_n hx hb dX7_again_42 rfl (lv_at hl 0 rfl) ?_
          refine va_get (D := D) (ci := 5) (v := .ref mf) (C := RX7) (T := TX7) (N := 22) hx hb hts inX7 hown hK hP 0 rfl rfl 11 (by decide) (hts (.fieldLink RX7 28 "ByteShapesModel" "result" "[I") (List.mem_cons_of_mem _ wd_447)) (fun _ h9 => h9) rfl dX7_again_43 ?_
          refine lv_iload_n hx hb dX7_again_46 rfl (lv_at hl 1 rfl) ?_
          refine va_iald hx hb hK hP 2 0 rfl rfl (vp_in_nI (by omega) (by omega)) dX7_again_47 ?_
          refine k_i (show _ = (iF rb) j from congrArg (iF rb) (nI_clamp (by omega))) ?_
          refine k_i (show _ = nI (rb j) from rfl) ?_
          refine va_iast hx hb hK hP hD hS 1 0 rfl rfl (vp_in_nI (by omega) (by omega)) dX7_again_48 (fun H locs hP hD hS => ?_)
          rw [show upd (iF (va_cpy rb b 0 0 j)) (nI j).toNatClampNeg (nI (rb j)) = iF (va_cpy rb b 0 0 (j + 1)) from by rw [nI_clamp (by omega), iF_put, cpy_s]] at hP hD
          have hP : va_P D kCl [(mm, .inr (5, [.int (nI 0), .int (nI dg), .int (nI PT), .int (nI PN), .int (nI sz), .ref ma, .ref mb, .ref mc, .ref md, .ref me, .int (nI sz), .ref mf, .int (nI od), .int (nI sl), .int (nI t), .int (nI wr), .int (nI pl), .int (nI lo), .long (lN nm), .int vz, .ref mg, .ref mh])), (ma, .inl (cI, 65536, .inl (iF (va_cpy rb b 0 0 (j + 1))))), (mf, .inl (cI, 131072, .inl (iF rb)))] H := hP
          have hD : va_D A [(mm, .inr (5, [.int (nI 0), .int (nI dg), .int (nI PT), .int (nI PN), .int (nI sz), .ref ma, .ref mb, .ref mc, .ref md, .ref me, .int (nI sz), .ref mf, .int (nI od), .int (nI sl), .int (nI t), .int (nI wr), .int (nI pl), .int (nI lo), .long (lN nm), .int vz, .ref mg, .ref mh])), (ma, .inl (cI, 65536, .inl (iF (va_cpy rb b 0 0 (j + 1))))), (mf, .inl (cI, 131072, .inl (iF rb)))] := hD
          refine lv_iinc (v := nI (j + 1)) (lv' := [(1, .int (nI (j + 1))), (0, .ref mm)]) hx hb dX7_again_49 hl (k := 1) rfl (nI_add _ _) (by decide) rfl (fun ls hl => ?_)
          refine lv_goto (tgt := 29) hx hb dX7_again_52 (by decide) ?_
          exact ihloop414 (j + 1) _ _ _ (by omega) (by omega) (hP.sub [0, 1, 2] rfl) (hD.sub [0, 1, 2] (by decide) rfl) hS (lv_sub hl [1, 0] rfl)
    exact loop414 ((sz - 0) + 1) 0 _ _ _ (Nat.lt_succ_self _) (Nat.zero_le _) (hP.sub [0, 1, 2] rfl) (hD.sub [0, 1, 2] (by decide) rfl) hS (lv_sub hl [1, 0] rfl)
  · skip
    refine lv_aload_n hx hb dX7_again_15 rfl (lv_at hl 0 rfl) ?_
    refine va_get (D := D) (ci := 5) (v := .int (nI sz)) (C := RX7) (T := TX7) (N := 22) hx hb hts inX7 hown hK hP 0 rfl rfl 10 (by decide) (hts (.fieldLink RX7 163 "ByteShapesModel" "size" "I") (List.mem_cons_of_mem _ wd_446)) (fun _ h9 => h9) rfl dX7_again_16 ?_
    refine lv_goto (tgt := 24) hx hb dX7_again_19 (by decide) ?_
    refine k_i (show _ = nI sz from rfl) ?_
    refine va_put (D := D) (ci := 5) (v := .int (nI sz)) (ty := .int) (C := RX7) (T := TX7) (N := 22) hx hb hts inX7 tyX7 tyX7_ok nmX7 hown hK hP hD hS 0 rfl rfl 4 (by decide) (hts (.fieldLink RX7 55 "ByteShapesModel" "fed" "I") (List.mem_cons_of_mem _ wd_375)) (fun _ h9 => h9) rfl (by decide +kernel) (rfl) (rfl) (Nat.le_of_ble_eq_true rfl) dX7_again_24 (fun H locs hP hD hS => ?_)
    have hP : va_P D kCl [(mm, .inr (5, [.int (nI 0), .int (nI dg), .int (nI PT), .int (nI PN), .int (nI sz), .ref ma, .ref mb, .ref mc, .ref md, .ref me, .int (nI sz), .ref mf, .int (nI od), .int (nI sl), .int (nI t), .int (nI wr), .int (nI pl), .int (nI lo), .long (lN nm), .int vz, .ref mg, .ref mh])), (ma, .inl (cI, 65536, .inl (iF b))), (mf, .inl (cI, 131072, .inl (iF rb)))] H := hP
    have hD : va_D A [(mm, .inr (5, [.int (nI 0), .int (nI dg), .int (nI PT), .int (nI PN), .int (nI sz), .ref ma, .ref mb, .ref mc, .ref md, .ref me, .int (nI sz), .ref mf, .int (nI od), .int (nI sl), .int (nI t), .int (nI wr), .int (nI pl), .int (nI lo), .long (lN nm), .int vz, .ref mg, .ref mh])), (ma, .inl (cI, 65536, .inl (iF b))), (mf, .inl (cI, 131072, .inl (iF rb)))] := hD
    refine lv_iconst (v := nI 0) hx hb dX7_again_27 (by decide) ?_
    refine lv_istore_n (lv' := [(1, .int (nI 0)), (0, .ref mm)]) hx hb dX7_again_28 rfl hl (by decide) rfl (fun ls hl => ?_)
    rw [show iF b = iF (va_cpy rb b 0 0 0) from by rw [cpy_0]] at hP hD
    have hP : va_P D kCl [(mm, .inr (5, [.int (nI 0), .int (nI dg), .int (nI PT), .int (nI PN), .int (nI sz), .ref ma, .ref mb, .ref mc, .ref md, .ref me, .int (nI sz), .ref mf, .int (nI od), .int (nI sl), .int (nI t), .int (nI wr), .int (nI pl), .int (nI lo), .long (lN nm), .int vz, .ref mg, .ref mh])), (ma, .inl (cI, 65536, .inl (iF (va_cpy rb b 0 0 0)))), (mf, .inl (cI, 131072, .inl (iF rb)))] H := hP
    have hD : va_D A [(mm, .inr (5, [.int (nI 0), .int (nI dg), .int (nI PT), .int (nI PN), .int (nI sz), .ref ma, .ref mb, .ref mc, .ref md, .ref me, .int (nI sz), .ref mf, .int (nI od), .int (nI sl), .int (nI t), .int (nI wr), .int (nI pl), .int (nI lo), .long (lN nm), .int vz, .ref mg, .ref mh])), (ma, .inl (cI, 65536, .inl (iF (va_cpy rb b 0 0 0)))), (mf, .inl (cI, 131072, .inl (iF rb)))] := hD
    have loop417 : ∀ (k418 : Nat) (j : Nat) (H : Heap) (locs : List Loc) (ls : Array Slot), sz - j < k418 → (j ≤ sz) → va_P D kCl [(mm, .inr (5, [.int (nI 0), .int (nI dg), .int (nI PT), .int (nI PN), .int (nI sz), .ref ma, .ref mb, .ref mc, .ref md, .ref me, .int (nI sz), .ref mf, .int (nI od), .int (nI sl), .int (nI t), .int (nI wr), .int (nI pl), .int (nI lo), .long (lN nm), .int vz, .ref mg, .ref mh])), (ma, .inl (cI, 65536, .inl (iF (va_cpy rb b 0 0 j)))), (mf, .inl (cI, 131072, .inl (iF rb)))] H → va_D A [(mm, .inr (5, [.int (nI 0), .int (nI dg), .int (nI PT), .int (nI PN), .int (nI sz), .ref ma, .ref mb, .ref mc, .ref md, .ref me, .int (nI sz), .ref mf, .int (nI od), .int (nI sl), .int (nI t), .int (nI wr), .int (nI pl), .int (nI lo), .long (lN nm), .int vz, .ref mg, .ref mh])), (ma, .inl (cI, 65536, .inl (iF (va_cpy rb b 0 0 j)))), (mf, .inl (cI, 131072, .inl (iF rb)))] → va_S A s.heap H locs → lv_has ls 2 [(0, .ref mm), (1, .int (nI j))] → W p l e ({ frames := 0, cells := 0, slots := 0, locals := 0 }) s m ([.ref mm] : List Value).toArray below meth c H locs 0 0 (MQ below ((kQi D (kT cI cB cJ cS) (fun r (ug : Unit) => r = nI sz) (fun ug => [(mm, .inr (5, [.int (nI 0), .int (nI dg), .int (nI PT), .int (nI PN), .int (nI sz), .ref ma, .ref mb, .ref mc, .ref md, .ref me, .int (nI sz), .ref mf, .int (nI od), .int (nI sl), .int (nI t), .int (nI wr), .int (nI pl), .int (nI lo), .long (lN nm), .int vz, .ref mg, .ref mh])), (ma, .inl (cI, 65536, .inl (iF (va_cpy rb b 0 0 sz)))), (mf, .inl (cI, 131072, .inl (iF rb)))])) A) ([.ref mm] : List Value).toArray s ({ frames := 0, cells := 0, slots := 0, locals := 0 } : Room).cells ({ frames := 0, cells := 0, slots := 0, locals := 0 } : Room).slots A) (F0 m 29 ls []) := by
      intro k418
      induction k418 with
      | zero =>
        intro j H locs ls hk9
        exact absurd hk9 (Nat.not_lt_zero _)
      | succ k418 ihloop417 =>
        intro j H locs ls hk9 hj hP hD hS hl
        refine lv_iload_n hx hb dX7_again_29 rfl (lv_at hl 1 rfl) ?_
        refine lv_aload_n hx hb dX7_again_30 rfl (lv_at hl 0 rfl) ?_
        refine va_get (D := D) (ci := 5) (v := .int (nI sz)) (C := RX7) (T := TX7) (N := 22) hx hb hts inX7 hown hK hP 0 rfl rfl 4 (by decide) (hts (.fieldLink RX7 55 "ByteShapesModel" "fed" "I") (List.mem_cons_of_mem _ wd_375)) (fun _ h9 => h9) rfl dX7_again_31 ?_
        refine k_icmp_ge (tgt := 55) (by omega) (by omega) hx hb dX7_again_34 (by decide) (fun c419 => ?_) (fun c419 => ?_)
        · skip
          refine lv_aload_n hx hb dX7_again_55 rfl (lv_at hl 0 rfl) ?_
          refine va_get (D := D) (ci := 5) (v := .int (nI sz)) (C := RX7) (T := TX7) (N := 22) hx hb hts inX7 hown hK hP 0 rfl rfl 4 (by decide) (hts (.fieldLink RX7 55 "ByteShapesModel" "fed" "I") (List.mem_cons_of_mem _ wd_375)) (fun _ h9 => h9) rfl dX7_again_56 ?_
          have ej : j = sz := by omega
          subst ej
          exact k_iret () hx hb hr (by first | rfl | decide | exact vp_nar_int _) hlocks hK hP hD hS (rfl) (rfl) (Nat.le_of_ble_eq_true rfl) (Nat.le_of_ble_eq_true rfl) dX7_again_59
        · skip
          refine lv_aload_n hx hb dX7_again_37 rfl (lv_at hl 0 rfl) ?_
          refine va_get (D := D) (ci := 5) (v := .ref ma) (C := RX7) (T := TX7) (N := 22) hx hb hts inX7 hown hK hP 0 rfl rfl 5 (by decide) (hts (.fieldLink RX7 8 "ByteShapesModel" "tape" "[I") (List.mem_cons_of_mem _ wd_377)) (fun _ h9 => h9) rfl dX7_again_38 ?_
          refine lv_iload_n hx hb dX7_again_41 rfl (lv_at hl 1 rfl) ?_
          refine lv_aload_n hx hb dX7_again_42 rfl (lv_at hl 0 rfl) ?_
          refine va_get (D := D) (ci := 5) (v := .ref mf) (C := RX7) (T := TX7) (N := 22) hx hb hts inX7 hown hK hP 0 rfl rfl 11 (by decide) (hts (.fieldLink RX7 28 "ByteShapesModel" "result" "[I") (List.mem_cons_of_mem _ wd_447)) (fun _ h9 => h9) rfl dX7_again_43 ?_
          refine lv_iload_n hx hb dX7_again_46 rfl (lv_at hl 1 rfl) ?_
          refine va_iald hx hb hK hP 2 0 rfl rfl (vp_in_nI (by omega) (by omega)) dX7_again_47 ?_
          refine k_i (show _ = (iF rb) j from congrArg (iF rb) (nI_clamp (by omega))) ?_
          refine k_i (show _ = nI (rb j) from rfl) ?_
          refine va_iast hx hb hK hP hD hS 1 0 rfl rfl (vp_in_nI (by omega) (by omega)) dX7_again_48 (fun H locs hP hD hS => ?_)
          rw [show upd (iF (va_cpy rb b 0 0 j)) (nI j).toNatClampNeg (nI (rb j)) = iF (va_cpy rb b 0 0 (j + 1)) from by rw [nI_clamp (by omega), iF_put, cpy_s]] at hP hD
          have hP : va_P D kCl [(mm, .inr (5, [.int (nI 0), .int (nI dg), .int (nI PT), .int (nI PN), .int (nI sz), .ref ma, .ref mb, .ref mc, .ref md, .ref me, .int (nI sz), .ref mf, .int (nI od), .int (nI sl), .int (nI t), .int (nI wr), .int (nI pl), .int (nI lo), .long (lN nm), .int vz, .ref mg, .ref mh])), (ma, .inl (cI, 65536, .inl (iF (va_cpy rb b 0 0 (j + 1))))), (mf, .inl (cI, 131072, .inl (iF rb)))] H := hP
          have hD : va_D A [(mm, .inr (5, [.int (nI 0), .int (nI dg), .int (nI PT), .int (nI PN), .int (nI sz), .ref ma, .ref mb, .ref mc, .ref md, .ref me, .int (nI sz), .ref mf, .int (nI od), .int (nI sl), .int (nI t), .int (nI wr), .int (nI pl), .int (nI lo), .long (lN nm), .int vz, .ref mg, .ref mh])), (ma, .inl (cI, 65536, .inl (iF (va_cpy rb b 0 0 (j + 1))))), (mf, .inl (cI, 131072, .inl (iF rb)))] := hD
          refine lv_iinc (v := nI (j + 1)) (lv' := [(1, .int (nI (j + 1))), (0, .ref mm)]) hx hb dX7_again_49 hl (k := 1) rfl (nI_add _ _) (by decide) rfl (fun ls hl => ?_)
          refine lv_goto (tgt := 29) hx hb dX7_again_52 (by decide) ?_
          exact ihloop417 (j + 1) _ _ _ (by omega) (by omega) (hP.sub [0, 1, 2] rfl) (hD.sub [0, 1, 2] (by decide) rfl) hS (lv_sub hl [1, 0] rfl)
    exact loop417 ((sz - 0) + 1) 0 _ _ _ (Nat.lt_succ_self _) (Nat.zero_le _) (hP.sub [0, 1, 2] rfl) (hD.sub [0, 1, 2] (by decide) rfl) hS (lv_sub hl [1, 0] rfl)

set_option maxRecDepth 100000 in
set_option maxHeartbeats 4000000 in
theorem c_M_add (l : Launch) (D : va_G) (cI cB cJ cS : ClassId) (mm ma mb mc md me mf mg mh th dg PT PN n sz od sl t wr pl lo nm : Nat) (b pm pd pq rb ok ol : Nat → Nat) (fx : Nat → Int32) (vz : Int32) (hod2 : od < 2) (v q : Nat) (hq : q ≤ 8) (hsz : sz + q ≤ 131072)  : kM l yX7_add vsX7_add ({ frames := 0, cells := 0, slots := 0, locals := 0 }) D (kT cI cB cJ cS) [.ref mm, .long (lN v), .int (nI q)] [(mm, .inr (5, [.int (nI th), .int (nI dg), .int (nI PT), .int (nI PN), .int (nI n), .ref ma, .ref mb, .ref mc, .ref md, .ref me, .int (nI sz), .ref mf, .int (nI od), .int (nI sl), .int (nI t), .int (nI wr), .int (nI pl), .int (nI lo), .long (lN nm), .int vz, .ref mg, .ref mh])), (mf, .inl (cI, 131072, .inl (iF rb)))] (kQv D (kT cI cB cJ cS) (fun (ug : Unit) => True) (fun ug => [(mm, .inr (5, [.int (nI th), .int (nI dg), .int (nI PT), .int (nI PN), .int (nI n), .ref ma, .ref mb, .ref mc, .ref md, .ref me, .int (nI (sz + q)), .ref mf, .int (nI od), .int (nI sl), .int (nI t), .int (nI wr), .int (nI pl), .int (nI lo), .long (lN nm), .int vz, .ref mg, .ref mh])), (mf, .inl (cI, 131072, .inl (iF (pA rb sz v q od q))))])) := by
  refine k_ofW (by decide) rfl (Nat.le_of_ble_eq_true rfl) ?_
  intro p e s m below meth c A ls hx hb hr hts hown hlocks hmn hml hA hP hK hD hS hZ hl
  have inX7 : ∀ w ∈ wsX70, w ∈ vsX7_add := fun w h => List.mem_cons_of_mem _ (iaX7 w h)
  have F : CallFix p m c cX7_add 5 s _ vsX7_add RX7 := ⟨hx, hb, hml, hown, hts⟩
  have hl : lv_has ls 5 [(0, .ref mm), (1, .long (lN v)), (3, .int (nI q))] := hl
  refine lv_iconst (v := nI 0) hx hb dX7_add_0 (by decide) ?_
  refine lv_istore (lv' := [(4, .int (nI 0)), (0, .ref mm), (1, .long (lN v)), (3, .int (nI q))]) hx hb dX7_add_1 hl (by decide) rfl (fun ls hl => ?_)
  have loop420 : ∀ (k421 : Nat) (j : Nat) (H : Heap) (locs : List Loc) (ls : Array Slot), q - j < k421 → (j ≤ q) → va_P D kCl [(mm, .inr (5, [.int (nI th), .int (nI dg), .int (nI PT), .int (nI PN), .int (nI n), .ref ma, .ref mb, .ref mc, .ref md, .ref me, .int (nI sz), .ref mf, .int (nI od), .int (nI sl), .int (nI t), .int (nI wr), .int (nI pl), .int (nI lo), .long (lN nm), .int vz, .ref mg, .ref mh])), (mf, .inl (cI, 131072, .inl (iF (pA rb sz v q od j))))] H → va_D A [(mm, .inr (5, [.int (nI th), .int (nI dg), .int (nI PT), .int (nI PN), .int (nI n), .ref ma, .ref mb, .ref mc, .ref md, .ref me, .int (nI sz), .ref mf, .int (nI od), .int (nI sl), .int (nI t), .int (nI wr), .int (nI pl), .int (nI lo), .long (lN nm), .int vz, .ref mg, .ref mh])), (mf, .inl (cI, 131072, .inl (iF (pA rb sz v q od j))))] → va_S A s.heap H locs → lv_has ls 5 [(0, .ref mm), (1, .long (lN v)), (3, .int (nI q)), (4, .int (nI j))] → W p l e ({ frames := 0, cells := 0, slots := 0, locals := 0 }) s m ([.ref mm, .long (lN v), .int (nI q)] : List Value).toArray below meth c H locs 0 0 (MQ below ((kQv D (kT cI cB cJ cS) (fun (ug : Unit) => True) (fun ug => [(mm, .inr (5, [.int (nI th), .int (nI dg), .int (nI PT), .int (nI PN), .int (nI n), .ref ma, .ref mb, .ref mc, .ref md, .ref me, .int (nI (sz + q)), .ref mf, .int (nI od), .int (nI sl), .int (nI t), .int (nI wr), .int (nI pl), .int (nI lo), .long (lN nm), .int vz, .ref mg, .ref mh])), (mf, .inl (cI, 131072, .inl (iF (pA rb sz v q od q))))])) A) ([.ref mm, .long (lN v), .int (nI q)] : List Value).toArray s ({ frames := 0, cells := 0, slots := 0, locals := 0 } : Room).cells ({ frames := 0, cells := 0, slots := 0, locals := 0 } : Room).slots A) (F0 m 3 ls []) := by
    intro k421
    induction k421 with
    | zero =>
      intro j H locs ls hk9
      exact absurd hk9 (Nat.not_lt_zero _)
    | succ k421 ihloop420 =>
      intro j H locs ls hk9 hj hP hD hS hl
      refine lv_iload hx hb dX7_add_3 (lv_at hl 3 rfl) ?_
      refine lv_iload_n hx hb dX7_add_5 rfl (lv_at hl 2 rfl) ?_
      refine k_icmp_ge (tgt := 56) (by omega) (by omega) hx hb dX7_add_6 (by decide) (fun c422 => ?_) (fun c422 => ?_)
      · skip
        refine lv_aload_n hx hb dX7_add_56 rfl (lv_at hl 0 rfl) ?_
        refine lv_dup hx hb dX7_add_57 rfl ?_
        refine va_get (D := D) (ci := 5) (v := .int (nI sz)) (C := RX7) (T := TX7) (N := 22) hx hb hts inX7 hown hK hP 0 rfl rfl 10 (by decide) (hts (.fieldLink RX7 163 "ByteShapesModel" "size" "I") (List.mem_cons_of_mem _ wd_446)) (fun _ h9 => h9) rfl dX7_add_58 ?_
        refine lv_iload_n hx hb dX7_add_61 rfl (lv_at hl 2 rfl) ?_
        refine lv_iadd hx hb dX7_add_62 ?_
        refine k_i (show _ = nI (sz + q) from nI_add _ _) ?_
        refine va_put (D := D) (ci := 5) (v := .int (nI (sz + q))) (ty := .int) (C := RX7) (T := TX7) (N := 22) hx hb hts inX7 tyX7 tyX7_ok nmX7 hown hK hP hD hS 0 rfl rfl 10 (by decide) (hts (.fieldLink RX7 163 "ByteShapesModel" "size" "I") (List.mem_cons_of_mem _ wd_446)) (fun _ h9 => h9) rfl (by decide +kernel) (rfl) (rfl) (Nat.le_of_ble_eq_true rfl) dX7_add_63 (fun H locs hP hD hS => ?_)
        have hP : va_P D kCl [(mm, .inr (5, [.int (nI th), .int (nI dg), .int (nI PT), .int (nI PN), .int (nI n), .ref ma, .ref mb, .ref mc, .ref md, .ref me, .int (nI (sz + q)), .ref mf, .int (nI od), .int (nI sl), .int (nI t), .int (nI wr), .int (nI pl), .int (nI lo), .long (lN nm), .int vz, .ref mg, .ref mh])), (mf, .inl (cI, 131072, .inl (iF (pA rb sz v q od j))))] H := hP
        have hD : va_D A [(mm, .inr (5, [.int (nI th), .int (nI dg), .int (nI PT), .int (nI PN), .int (nI n), .ref ma, .ref mb, .ref mc, .ref md, .ref me, .int (nI (sz + q)), .ref mf, .int (nI od), .int (nI sl), .int (nI t), .int (nI wr), .int (nI pl), .int (nI lo), .long (lN nm), .int vz, .ref mg, .ref mh])), (mf, .inl (cI, 131072, .inl (iF (pA rb sz v q od j))))] := hD
        have ej : j = q := by omega
        subst ej
        exact k_vret () hx hb hr hlocks hK hP hD hS (rfl) (trivial) (Nat.le_of_ble_eq_true rfl) (Nat.le_of_ble_eq_true rfl) dX7_add_66
      · skip
        refine lv_aload_n hx hb dX7_add_9 rfl (lv_at hl 0 rfl) ?_
        refine va_get (D := D) (ci := 5) (v := .ref mf) (C := RX7) (T := TX7) (N := 22) hx hb hts inX7 hown hK hP 0 rfl rfl 11 (by decide) (hts (.fieldLink RX7 28 "ByteShapesModel" "result" "[I") (List.mem_cons_of_mem _ wd_447)) (fun _ h9 => h9) rfl dX7_add_10 ?_
        refine lv_aload_n hx hb dX7_add_13 rfl (lv_at hl 0 rfl) ?_
        refine va_get (D := D) (ci := 5) (v := .int (nI sz)) (C := RX7) (T := TX7) (N := 22) hx hb hts inX7 hown hK hP 0 rfl rfl 10 (by decide) (hts (.fieldLink RX7 163 "ByteShapesModel" "size" "I") (List.mem_cons_of_mem _ wd_446)) (fun _ h9 => h9) rfl dX7_add_14 ?_
        refine lv_iload hx hb dX7_add_17 (lv_at hl 3 rfl) ?_
        refine lv_iadd hx hb dX7_add_19 ?_
        refine k_i (show _ = nI (sz + j) from nI_add _ _) ?_
        refine lv_lload_n hx hb dX7_add_20 rfl (lv_at hl 1 rfl) ?_
        refine lv_bipush (v := nI 8) hx hb dX7_add_21 (by decide) ?_
        refine lv_aload_n hx hb dX7_add_23 rfl (lv_at hl 0 rfl) ?_
        refine va_get (D := D) (ci := 5) (v := .int (nI od)) (C := RX7) (T := TX7) (N := 22) hx hb hts inX7 hown hK hP 0 rfl rfl 12 (by decide) (hts (.fieldLink RX7 166 "ByteShapesModel" "order" "I") (List.mem_cons_of_mem _ wd_448)) (fun _ h9 => h9) rfl dX7_add_24 ?_
        refine lv_iconst (v := nI 1) hx hb dX7_add_27 (by decide) ?_
        refine k_icmp_ne (tgt := 36) (by omega) (by omega) hx hb dX7_add_28 (by decide) (fun hod => ?_) (fun hod => ?_)
        · skip
          refine lv_iload_n hx hb dX7_add_36 rfl (lv_at hl 2 rfl) ?_
          refine lv_iconst (v := nI 1) hx hb dX7_add_37 (by decide) ?_
          refine lv_isub hx hb dX7_add_38 ?_
          refine k_i (show _ = nI (q - 1) from pk_sub (by omega)) ?_
          refine lv_iload hx hb dX7_add_39 (lv_at hl 3 rfl) ?_
          refine lv_isub hx hb dX7_add_41 ?_
          refine k_i (show _ = nI ((q - 1) - j) from pk_sub (by omega)) ?_
          refine lv_imul hx hb dX7_add_42 ?_
          refine k_i (show _ = nI (8 * ((q - 1) - j)) from pk_mul _ _) ?_
          refine lv_lshr (v := lN v >>> ((nI (8 * ((q - 1) - j))).toInt64 &&& 63)) hx hb dX7_add_43 rfl ?_
          refine lv_ldc2 (v := lN 255) hx hb hown (hts (.constantLong RX7 169 (255)) (List.mem_cons_of_mem _ wd_449)) dX7_add_44 ?_
          refine lv_land hx hb dX7_add_47 ?_
          refine k_l (show _ = lN (v / 2 ^ (8 * ((q - 1) - j)) % 256) from sh_l (by omega)) ?_
          refine lv_l2i (v := nI (v / 2 ^ (8 * ((q - 1) - j)) % 256)) hx hb dX7_add_48 (lN_i _) ?_
          refine va_iast hx hb hK hP hD hS 1 0 rfl rfl (vp_in_nI (by omega) (by omega)) dX7_add_49 (fun H locs hP hD hS => ?_)
          rw [show upd (iF (pA rb sz v q od j)) (nI (sz + j)).toNatClampNeg (nI (v / 2 ^ (8 * ((q - 1) - j)) % 256)) = iF (pA rb sz v q od (j + 1)) from by rw [nI_clamp (by omega), iF_put]; first | (simp [pA, hod]; done) | (have h0 : od = 0 := (by omega); simp [pA, h0]; done)] at hP hD
          have hP : va_P D kCl [(mm, .inr (5, [.int (nI th), .int (nI dg), .int (nI PT), .int (nI PN), .int (nI n), .ref ma, .ref mb, .ref mc, .ref md, .ref me, .int (nI sz), .ref mf, .int (nI od), .int (nI sl), .int (nI t), .int (nI wr), .int (nI pl), .int (nI lo), .long (lN nm), .int vz, .ref mg, .ref mh])), (mf, .inl (cI, 131072, .inl (iF (pA rb sz v q od (j + 1)))))] H := hP
          have hD : va_D A [(mm, .inr (5, [.int (nI th), .int (nI dg), .int (nI PT), .int (nI PN), .int (nI n), .ref ma, .ref mb, .ref mc, .ref md, .ref me, .int (nI sz), .ref mf, .int (nI od), .int (nI sl), .int (nI t), .int (nI wr), .int (nI pl), .int (nI lo), .long (lN nm), .int vz, .ref mg, .ref mh])), (mf, .inl (cI, 131072, .inl (iF (pA rb sz v q od (j + 1)))))] := hD
          refine lv_iinc (v := nI (j + 1)) (lv' := [(4, .int (nI (j + 1))), (0, .ref mm), (1, .long (lN v)), (3, .int (nI q))]) hx hb dX7_add_50 hl (k := 3) rfl (nI_add _ _) (by decide) rfl (fun ls hl => ?_)
          refine lv_goto (tgt := 3) hx hb dX7_add_53 (by decide) ?_
          exact ihloop420 (j + 1) _ _ _ (by omega) (by omega) (hP.sub [0, 1] rfl) (hD.sub [0, 1] (by decide) rfl) hS (lv_sub hl [1, 2, 3, 0] rfl)
        · skip
          refine lv_iload hx hb dX7_add_31 (lv_at hl 3 rfl) ?_
          refine lv_goto (tgt := 42) hx hb dX7_add_33 (by decide) ?_
          refine lv_imul hx hb dX7_add_42 ?_
          refine k_i (show _ = nI (8 * j) from pk_mul _ _) ?_
          refine lv_lshr (v := lN v >>> ((nI (8 * j)).toInt64 &&& 63)) hx hb dX7_add_43 rfl ?_
          refine lv_ldc2 (v := lN 255) hx hb hown (hts (.constantLong RX7 169 (255)) (List.mem_cons_of_mem _ wd_449)) dX7_add_44 ?_
          refine lv_land hx hb dX7_add_47 ?_
          refine k_l (show _ = lN (v / 2 ^ (8 * j) % 256) from sh_l (by omega)) ?_
          refine lv_l2i (v := nI (v / 2 ^ (8 * j) % 256)) hx hb dX7_add_48 (lN_i _) ?_
          refine va_iast hx hb hK hP hD hS 1 0 rfl rfl (vp_in_nI (by omega) (by omega)) dX7_add_49 (fun H locs hP hD hS => ?_)
          rw [show upd (iF (pA rb sz v q od j)) (nI (sz + j)).toNatClampNeg (nI (v / 2 ^ (8 * j) % 256)) = iF (pA rb sz v q od (j + 1)) from by rw [nI_clamp (by omega), iF_put]; first | (simp [pA, hod]; done) | (have h0 : od = 0 := (by omega); simp [pA, h0]; done)] at hP hD
          have hP : va_P D kCl [(mm, .inr (5, [.int (nI th), .int (nI dg), .int (nI PT), .int (nI PN), .int (nI n), .ref ma, .ref mb, .ref mc, .ref md, .ref me, .int (nI sz), .ref mf, .int (nI od), .int (nI sl), .int (nI t), .int (nI wr), .int (nI pl), .int (nI lo), .long (lN nm), .int vz, .ref mg, .ref mh])), (mf, .inl (cI, 131072, .inl (iF (pA rb sz v q od (j + 1)))))] H := hP
          have hD : va_D A [(mm, .inr (5, [.int (nI th), .int (nI dg), .int (nI PT), .int (nI PN), .int (nI n), .ref ma, .ref mb, .ref mc, .ref md, .ref me, .int (nI sz), .ref mf, .int (nI od), .int (nI sl), .int (nI t), .int (nI wr), .int (nI pl), .int (nI lo), .long (lN nm), .int vz, .ref mg, .ref mh])), (mf, .inl (cI, 131072, .inl (iF (pA rb sz v q od (j + 1)))))] := hD
          refine lv_iinc (v := nI (j + 1)) (lv' := [(4, .int (nI (j + 1))), (0, .ref mm), (1, .long (lN v)), (3, .int (nI q))]) hx hb dX7_add_50 hl (k := 3) rfl (nI_add _ _) (by decide) rfl (fun ls hl => ?_)
          refine lv_goto (tgt := 3) hx hb dX7_add_53 (by decide) ?_
          exact ihloop420 (j + 1) _ _ _ (by omega) (by omega) (hP.sub [0, 1] rfl) (hD.sub [0, 1] (by decide) rfl) hS (lv_sub hl [1, 2, 3, 0] rfl)
  exact loop420 ((q - 0) + 1) 0 _ _ _ (Nat.lt_succ_self _) (Nat.zero_le _) (hP.sub [0, 1] rfl) (hD.sub [0, 1] (by decide) rfl) hS (lv_sub hl [1, 2, 3, 0] rfl)

