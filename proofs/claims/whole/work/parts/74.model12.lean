set_option maxRecDepth 100000 in
set_option maxHeartbeats 4000000 in
theorem c_M_sameN (l : Launch) (D : va_G) (cI cB cJ cS : ClassId) (mm ma mb mc md me mf mg mh th dg PT PN n sz od sl t wr pl lo nm : Nat) (b pm pd pq rb ok ol : Nat → Nat) (fx : Nat → Int32) (vz : Int32) (k : Nat) (hk : k < 4) (k2 : Nat) (hk2 : k2 < 4) (hp3 : pd k ≤ 4096) (hp4 : pd k2 ≤ 4096) (hq3 : pq k ≤ 4096) (hq4 : pq k2 ≤ 4096) (hn9 : ¬ (pd k = pd k2 ∧ pq k = pq k2 ∧ (∀ j, j < pd k → iF pm (4096 * k + j) = iF pm (4096 * k2 + j)) ∧ ∀ j, j < 2 * pq k → fx (8192 * k + j) = fx (8192 * k2 + j)))  : kM l yX7_same vsX7_same ({ frames := 2, cells := 0, slots := 0, locals := 42 }) D (kT cI cB cJ cS) [.ref mm, .int (nI k), .int (nI k2)] [(mm, .inr (5, [.int (nI th), .int (nI dg), .int (nI PT), .int (nI PN), .int (nI n), .ref ma, .ref mb, .ref mc, .ref md, .ref me, .int (nI sz), .ref mf, .int (nI od), .int (nI sl), .int (nI t), .int (nI wr), .int (nI pl), .int (nI lo), .long (lN nm), .int vz, .ref mg, .ref mh])), (mb, .inl (cI, 16384, .inl (iF pm))), (mc, .inl (cI, 4, .inl (iF pd))), (md, .inl (cI, 32768, .inl fx)), (me, .inl (cI, 4, .inl (iF pq)))] (kQi D (kT cI cB cJ cS) (fun r (ug : Unit) => r = nI 0) (fun ug => [(mm, .inr (5, [.int (nI 0), .int (nI dg), .int (nI PT), .int (nI PN), .int (nI n), .ref ma, .ref mb, .ref mc, .ref md, .ref me, .int (nI sz), .ref mf, .int (nI od), .int (nI sl), .int (nI t), .int (nI wr), .int (nI pl), .int (nI lo), .long (lN nm), .int vz, .ref mg, .ref mh])), (mb, .inl (cI, 16384, .inl (iF pm))), (mc, .inl (cI, 4, .inl (iF pd))), (md, .inl (cI, 32768, .inl fx)), (me, .inl (cI, 4, .inl (iF pq)))])) := by
  refine k_ofW (by decide) rfl (Nat.le_of_ble_eq_true rfl) ?_
  intro p e s m below meth c A ls hx hb hr hts hown hlocks hmn hml hA hP hK hD hS hZ hl
  have inX7 : ∀ w ∈ wsX70, w ∈ vsX7_same := fun w h => List.mem_cons_of_mem _ (iaX7 w h)
  have F : CallFix p m c cX7_same 5 s _ vsX7_same RX7 := ⟨hx, hb, hml, hown, hts⟩
  have hl : lv_has ls 5 [(0, .ref mm), (1, .int (nI k)), (2, .int (nI k2))] := hl
  refine lv_aload_n hx hb dX7_same_0 rfl (lv_at hl 0 rfl) ?_
  refine lv_iconst (v := nI 0) hx hb dX7_same_1 (by decide) ?_
  refine va_put (D := D) (ci := 5) (v := .int (nI 0)) (ty := .int) (C := RX7) (T := TX7) (N := 22) hx hb hts inX7 tyX7 tyX7_ok nmX7 hown hK hP hD hS 0 rfl rfl 0 (by decide) (hts (.fieldLink RX7 48 "ByteShapesModel" "thrown" "I") (List.mem_cons_of_mem _ wd_368)) (fun _ h9 => h9) rfl (by decide +kernel) (rfl) (rfl) (Nat.le_of_ble_eq_true rfl) dX7_same_2 (fun H locs hP hD hS => ?_)
  have hP : va_P D kCl [(mm, .inr (5, [.int (nI 0), .int (nI dg), .int (nI PT), .int (nI PN), .int (nI n), .ref ma, .ref mb, .ref mc, .ref md, .ref me, .int (nI sz), .ref mf, .int (nI od), .int (nI sl), .int (nI t), .int (nI wr), .int (nI pl), .int (nI lo), .long (lN nm), .int vz, .ref mg, .ref mh])), (mb, .inl (cI, 16384, .inl (iF pm))), (mc, .inl (cI, 4, .inl (iF pd))), (md, .inl (cI, 32768, .inl fx)), (me, .inl (cI, 4, .inl (iF pq)))] H := hP
  have hD : va_D A [(mm, .inr (5, [.int (nI 0), .int (nI dg), .int (nI PT), .int (nI PN), .int (nI n), .ref ma, .ref mb, .ref mc, .ref md, .ref me, .int (nI sz), .ref mf, .int (nI od), .int (nI sl), .int (nI t), .int (nI wr), .int (nI pl), .int (nI lo), .long (lN nm), .int vz, .ref mg, .ref mh])), (mb, .inl (cI, 16384, .inl (iF pm))), (mc, .inl (cI, 4, .inl (iF pd))), (md, .inl (cI, 32768, .inl fx)), (me, .inl (cI, 4, .inl (iF pq)))] := hD
  refine lv_iload_n hx hb dX7_same_5 rfl (lv_at hl 1 rfl) ?_
  refine k_ci (wr := [(mm, .inr (5, [.int (nI 0), .int (nI dg), .int (nI PT), .int (nI PN), .int (nI n), .ref ma, .ref mb, .ref mc, .ref md, .ref me, .int (nI sz), .ref mf, .int (nI od), .int (nI sl), .int (nI t), .int (nI wr), .int (nI pl), .int (nI lo), .long (lN nm), .int vz, .ref mg, .ref mh])), (mb, .inl (cI, 16384, .inl (iF pm))), (mc, .inl (cI, 4, .inl (iF pd))), (md, .inl (cI, 32768, .inl fx)), (me, .inl (cI, 4, .inl (iF pq)))]) (k_rs F (c_M_isSlot1 l D cI cB cJ cS k hk) (va_cwS 1 hts (g_S wd_443 wd_444 wd_373 wd_445) rfl rfl rfl (by decide +kernel) ⟨Nat.le_of_ble_eq_true rfl, Nat.le_of_ble_eq_true rfl⟩) hK hP hD hS hA hZ [] rfl (by decide) rfl hl.1 rfl (Nat.le_of_ble_eq_true rfl) dX7_same_6 ⟨Nat.le_of_ble_eq_true rfl, Nat.le_of_ble_eq_true rfl⟩) hP hD hS hA [] [0, 1, 2, 3, 4] rfl rfl (by decide) (by decide) (fun r u9 H locs hw hP hD hS => ?_)
  subst hw
  have hP : va_P D kCl [(mm, .inr (5, [.int (nI 0), .int (nI dg), .int (nI PT), .int (nI PN), .int (nI n), .ref ma, .ref mb, .ref mc, .ref md, .ref me, .int (nI sz), .ref mf, .int (nI od), .int (nI sl), .int (nI t), .int (nI wr), .int (nI pl), .int (nI lo), .long (lN nm), .int vz, .ref mg, .ref mh])), (mb, .inl (cI, 16384, .inl (iF pm))), (mc, .inl (cI, 4, .inl (iF pd))), (md, .inl (cI, 32768, .inl fx)), (me, .inl (cI, 4, .inl (iF pq)))] H := hP
  have hD : va_D A [(mm, .inr (5, [.int (nI 0), .int (nI dg), .int (nI PT), .int (nI PN), .int (nI n), .ref ma, .ref mb, .ref mc, .ref md, .ref me, .int (nI sz), .ref mf, .int (nI od), .int (nI sl), .int (nI t), .int (nI wr), .int (nI pl), .int (nI lo), .long (lN nm), .int vz, .ref mg, .ref mh])), (mb, .inl (cI, 16384, .inl (iF pm))), (mc, .inl (cI, 4, .inl (iF pd))), (md, .inl (cI, 32768, .inl fx)), (me, .inl (cI, 4, .inl (iF pq)))] := hD
  refine W.widen (k := 0) (n := 0) (Nat.le_of_ble_eq_true rfl) (Nat.le_of_ble_eq_true rfl) ?_
  refine k_if_eq (tgt := 19) (by omega) hx hb dX7_same_9 (by decide) (fun c516 => ?_) (fun c516 => ?_)
  · skip
    exact absurd c516 (by omega)
  · skip
    refine lv_iload_n hx hb dX7_same_12 rfl (lv_at hl 2 rfl) ?_
    refine k_ci (wr := [(mm, .inr (5, [.int (nI 0), .int (nI dg), .int (nI PT), .int (nI PN), .int (nI n), .ref ma, .ref mb, .ref mc, .ref md, .ref me, .int (nI sz), .ref mf, .int (nI od), .int (nI sl), .int (nI t), .int (nI wr), .int (nI pl), .int (nI lo), .long (lN nm), .int vz, .ref mg, .ref mh])), (mb, .inl (cI, 16384, .inl (iF pm))), (mc, .inl (cI, 4, .inl (iF pd))), (md, .inl (cI, 32768, .inl fx)), (me, .inl (cI, 4, .inl (iF pq)))]) (k_rs F (c_M_isSlot1 l D cI cB cJ cS k2 hk2) (va_cwS 1 hts (g_S wd_443 wd_444 wd_373 wd_445) rfl rfl rfl (by decide +kernel) ⟨Nat.le_of_ble_eq_true rfl, Nat.le_of_ble_eq_true rfl⟩) hK hP hD hS hA hZ [] rfl (by decide) rfl hl.1 rfl (Nat.le_of_ble_eq_true rfl) dX7_same_13 ⟨Nat.le_of_ble_eq_true rfl, Nat.le_of_ble_eq_true rfl⟩) hP hD hS hA [] [0, 1, 2, 3, 4] rfl rfl (by decide) (by decide) (fun r u9 H locs hw hP hD hS => ?_)
    subst hw
    have hP : va_P D kCl [(mm, .inr (5, [.int (nI 0), .int (nI dg), .int (nI PT), .int (nI PN), .int (nI n), .ref ma, .ref mb, .ref mc, .ref md, .ref me, .int (nI sz), .ref mf, .int (nI od), .int (nI sl), .int (nI t), .int (nI wr), .int (nI pl), .int (nI lo), .long (lN nm), .int vz, .ref mg, .ref mh])), (mb, .inl (cI, 16384, .inl (iF pm))), (mc, .inl (cI, 4, .inl (iF pd))), (md, .inl (cI, 32768, .inl fx)), (me, .inl (cI, 4, .inl (iF pq)))] H := hP
    have hD : va_D A [(mm, .inr (5, [.int (nI 0), .int (nI dg), .int (nI PT), .int (nI PN), .int (nI n), .ref ma, .ref mb, .ref mc, .ref md, .ref me, .int (nI sz), .ref mf, .int (nI od), .int (nI sl), .int (nI t), .int (nI wr), .int (nI pl), .int (nI lo), .long (lN nm), .int vz, .ref mg, .ref mh])), (mb, .inl (cI, 16384, .inl (iF pm))), (mc, .inl (cI, 4, .inl (iF pd))), (md, .inl (cI, 32768, .inl fx)), (me, .inl (cI, 4, .inl (iF pq)))] := hD
    refine W.widen (k := 0) (n := 0) (Nat.le_of_ble_eq_true rfl) (Nat.le_of_ble_eq_true rfl) ?_
    refine k_if_ne (tgt := 33) (by omega) hx hb dX7_same_16 (by decide) (fun c517 => ?_) (fun c517 => ?_)
    · skip
      refine lv_aload_n hx hb dX7_same_33 rfl (lv_at hl 0 rfl) ?_
      refine va_get (D := D) (ci := 5) (v := .ref mc) (C := RX7) (T := TX7) (N := 22) hx hb hts inX7 hown hK hP 0 rfl rfl 7 (by decide) (hts (.fieldLink RX7 17 "ByteShapesModel" "planned" "[I") (List.mem_cons_of_mem _ wd_387)) (fun _ h9 => h9) rfl dX7_same_34 ?_
      refine lv_iload_n hx hb dX7_same_37 rfl (lv_at hl 1 rfl) ?_
      refine va_iald hx hb hK hP 2 0 rfl rfl (vp_in_nI (by omega) (by omega)) dX7_same_38 ?_
      refine k_i (show _ = (iF pd) k from congrArg (iF pd) (nI_clamp (by omega))) ?_
      refine k_i (show _ = nI (pd k) from rfl) ?_
      refine lv_aload_n hx hb dX7_same_39 rfl (lv_at hl 0 rfl) ?_
      refine va_get (D := D) (ci := 5) (v := .ref mc) (C := RX7) (T := TX7) (N := 22) hx hb hts inX7 hown hK hP 0 rfl rfl 7 (by decide) (hts (.fieldLink RX7 17 "ByteShapesModel" "planned" "[I") (List.mem_cons_of_mem _ wd_387)) (fun _ h9 => h9) rfl dX7_same_40 ?_
      refine lv_iload_n hx hb dX7_same_43 rfl (lv_at hl 2 rfl) ?_
      refine va_iald hx hb hK hP 2 0 rfl rfl (vp_in_nI (by omega) (by omega)) dX7_same_44 ?_
      refine k_i (show _ = (iF pd) k2 from congrArg (iF pd) (nI_clamp (by omega))) ?_
      refine k_i (show _ = nI (pd k2) from rfl) ?_
      refine k_icmp_ne (tgt := 67) (by omega) (by omega) hx hb dX7_same_45 (by decide) (fun h45 => ?_) (fun h45 => ?_)
      · skip
        refine lv_iconst (v := nI 0) hx hb dX7_same_67 (by decide) ?_
        refine lv_istore_n (lv' := [(3, .int (nI 0)), (0, .ref mm), (1, .int (nI k)), (2, .int (nI k2))]) hx hb dX7_same_68 rfl hl (by decide) rfl (fun ls hl => ?_)
        refine lv_iconst (v := nI 0) hx hb dX7_same_69 (by decide) ?_
        refine lv_istore (lv' := [(4, .int (nI 0)), (3, .int (nI 0)), (0, .ref mm), (1, .int (nI k)), (2, .int (nI k2))]) hx hb dX7_same_70 hl (by decide) rfl (fun ls hl => ?_)
        refine lv_iload hx hb dX7_same_72 (lv_at hl 0 rfl) ?_
        refine lv_aload_n hx hb dX7_same_74 rfl (lv_at hl 2 rfl) ?_
        refine va_get (D := D) (ci := 5) (v := .ref mc) (C := RX7) (T := TX7) (N := 22) hx hb hts inX7 hown hK hP 0 rfl rfl 7 (by decide) (hts (.fieldLink RX7 17 "ByteShapesModel" "planned" "[I") (List.mem_cons_of_mem _ wd_387)) (fun _ h9 => h9) rfl dX7_same_75 ?_
        refine lv_iload_n hx hb dX7_same_78 rfl (lv_at hl 3 rfl) ?_
        refine va_iald hx hb hK hP 2 0 rfl rfl (vp_in_nI (by omega) (by omega)) dX7_same_79 ?_
        refine k_i (show _ = (iF pd) k from congrArg (iF pd) (nI_clamp (by omega))) ?_
        refine k_i (show _ = nI (pd k) from rfl) ?_
        refine k_icmp_ge (tgt := 128) (by omega) (by omega) hx hb dX7_same_80 (by decide) (fun hj1 => ?_) (fun hj1 => ?_)
        · skip
          refine lv_iconst (v := nI 0) hx hb dX7_same_128 (by decide) ?_
          refine lv_istore (lv' := [(4, .int (nI 0)), (3, .int (nI 0)), (0, .ref mm), (1, .int (nI k)), (2, .int (nI k2))]) hx hb dX7_same_129 hl (by decide) rfl (fun ls hl => ?_)
          refine lv_iload hx hb dX7_same_131 (lv_at hl 0 rfl) ?_
          refine lv_iconst (v := nI 2) hx hb dX7_same_133 (by decide) ?_
          refine lv_aload_n hx hb dX7_same_134 rfl (lv_at hl 2 rfl) ?_
          refine va_get (D := D) (ci := 5) (v := .ref me) (C := RX7) (T := TX7) (N := 22) hx hb hts inX7 hown hK hP 0 rfl rfl 9 (by decide) (hts (.fieldLink RX7 24 "ByteShapesModel" "points" "[I") (List.mem_cons_of_mem _ wd_390)) (fun _ h9 => h9) rfl dX7_same_135 ?_
          refine lv_iload_n hx hb dX7_same_138 rfl (lv_at hl 3 rfl) ?_
          refine va_iald hx hb hK hP 4 0 rfl rfl (vp_in_nI (by omega) (by omega)) dX7_same_139 ?_
          refine k_i (show _ = (iF pq) k from congrArg (iF pq) (nI_clamp (by omega))) ?_
          refine k_i (show _ = nI (pq k) from rfl) ?_
          refine lv_imul hx hb dX7_same_140 ?_
          refine k_i (show _ = nI (2 * (pq k)) from pk_mul _ _) ?_
          refine k_icmp_ge (tgt := 189) (by omega) (by omega) hx hb dX7_same_141 (by decide) (fun hi1 => ?_) (fun hi1 => ?_)
          · skip
            refine lv_iload_n hx hb dX7_same_189 rfl (lv_at hl 1 rfl) ?_
            exact k_iret () hx hb hr (by first | rfl | decide | exact vp_nar_int _) hlocks hK hP hD hS (rfl) (rfl) (Nat.le_of_ble_eq_true rfl) (Nat.le_of_ble_eq_true rfl) dX7_same_190
          · skip
            refine lv_iload_n hx hb dX7_same_144 rfl (lv_at hl 1 rfl) ?_
            refine k_if_eq (tgt := 189) (by omega) hx hb dX7_same_145 (by decide) (fun c518 => ?_) (fun c518 => ?_)
            · skip
              refine lv_iload_n hx hb dX7_same_189 rfl (lv_at hl 1 rfl) ?_
              exact k_iret () hx hb hr (by first | rfl | decide | exact vp_nar_int _) hlocks hK hP hD hS (rfl) (rfl) (Nat.le_of_ble_eq_true rfl) (Nat.le_of_ble_eq_true rfl) dX7_same_190
            · skip
              exact absurd c518 (by omega)
        · skip
          refine lv_iload_n hx hb dX7_same_83 rfl (lv_at hl 1 rfl) ?_
          refine k_if_eq (tgt := 128) (by omega) hx hb dX7_same_84 (by decide) (fun c519 => ?_) (fun c519 => ?_)
          · skip
            refine lv_iconst (v := nI 0) hx hb dX7_same_128 (by decide) ?_
            refine lv_istore (lv' := [(4, .int (nI 0)), (3, .int (nI 0)), (0, .ref mm), (1, .int (nI k)), (2, .int (nI k2))]) hx hb dX7_same_129 hl (by decide) rfl (fun ls hl => ?_)
            refine lv_iload hx hb dX7_same_131 (lv_at hl 0 rfl) ?_
            refine lv_iconst (v := nI 2) hx hb dX7_same_133 (by decide) ?_
            refine lv_aload_n hx hb dX7_same_134 rfl (lv_at hl 2 rfl) ?_
            refine va_get (D := D) (ci := 5) (v := .ref me) (C := RX7) (T := TX7) (N := 22) hx hb hts inX7 hown hK hP 0 rfl rfl 9 (by decide) (hts (.fieldLink RX7 24 "ByteShapesModel" "points" "[I") (List.mem_cons_of_mem _ wd_390)) (fun _ h9 => h9) rfl dX7_same_135 ?_
            refine lv_iload_n hx hb dX7_same_138 rfl (lv_at hl 3 rfl) ?_
            refine va_iald hx hb hK hP 4 0 rfl rfl (vp_in_nI (by omega) (by omega)) dX7_same_139 ?_
            refine k_i (show _ = (iF pq) k from congrArg (iF pq) (nI_clamp (by omega))) ?_
            refine k_i (show _ = nI (pq k) from rfl) ?_
            refine lv_imul hx hb dX7_same_140 ?_
            refine k_i (show _ = nI (2 * (pq k)) from pk_mul _ _) ?_
            refine k_icmp_ge (tgt := 189) (by omega) (by omega) hx hb dX7_same_141 (by decide) (fun hi1 => ?_) (fun hi1 => ?_)
            · skip
              refine lv_iload_n hx hb dX7_same_189 rfl (lv_at hl 1 rfl) ?_
              exact k_iret () hx hb hr (by first | rfl | decide | exact vp_nar_int _) hlocks hK hP hD hS (rfl) (rfl) (Nat.le_of_ble_eq_true rfl) (Nat.le_of_ble_eq_true rfl) dX7_same_190
            · skip
              refine lv_iload_n hx hb dX7_same_144 rfl (lv_at hl 1 rfl) ?_
              refine k_if_eq (tgt := 189) (by omega) hx hb dX7_same_145 (by decide) (fun c520 => ?_) (fun c520 => ?_)
              · skip
                refine lv_iload_n hx hb dX7_same_189 rfl (lv_at hl 1 rfl) ?_
                exact k_iret () hx hb hr (by first | rfl | decide | exact vp_nar_int _) hlocks hK hP hD hS (rfl) (rfl) (Nat.le_of_ble_eq_true rfl) (Nat.le_of_ble_eq_true rfl) dX7_same_190
              · skip
                exact absurd c520 (by omega)
          · skip
            exact absurd c519 (by omega)
      · skip
        refine lv_aload_n hx hb dX7_same_48 rfl (lv_at hl 0 rfl) ?_
        refine va_get (D := D) (ci := 5) (v := .ref me) (C := RX7) (T := TX7) (N := 22) hx hb hts inX7 hown hK hP 0 rfl rfl 9 (by decide) (hts (.fieldLink RX7 24 "ByteShapesModel" "points" "[I") (List.mem_cons_of_mem _ wd_390)) (fun _ h9 => h9) rfl dX7_same_49 ?_
        refine lv_iload_n hx hb dX7_same_52 rfl (lv_at hl 1 rfl) ?_
        refine va_iald hx hb hK hP 4 0 rfl rfl (vp_in_nI (by omega) (by omega)) dX7_same_53 ?_
        refine k_i (show _ = (iF pq) k from congrArg (iF pq) (nI_clamp (by omega))) ?_
        refine k_i (show _ = nI (pq k) from rfl) ?_
        refine lv_aload_n hx hb dX7_same_54 rfl (lv_at hl 0 rfl) ?_
        refine va_get (D := D) (ci := 5) (v := .ref me) (C := RX7) (T := TX7) (N := 22) hx hb hts inX7 hown hK hP 0 rfl rfl 9 (by decide) (hts (.fieldLink RX7 24 "ByteShapesModel" "points" "[I") (List.mem_cons_of_mem _ wd_390)) (fun _ h9 => h9) rfl dX7_same_55 ?_
        refine lv_iload_n hx hb dX7_same_58 rfl (lv_at hl 2 rfl) ?_
        refine va_iald hx hb hK hP 4 0 rfl rfl (vp_in_nI (by omega) (by omega)) dX7_same_59 ?_
        refine k_i (show _ = (iF pq) k2 from congrArg (iF pq) (nI_clamp (by omega))) ?_
        refine k_i (show _ = nI (pq k2) from rfl) ?_
        refine k_icmp_ne (tgt := 67) (by omega) (by omega) hx hb dX7_same_60 (by decide) (fun h60 => ?_) (fun h60 => ?_)
        · skip
          refine lv_iconst (v := nI 0) hx hb dX7_same_67 (by decide) ?_
          refine lv_istore_n (lv' := [(3, .int (nI 0)), (0, .ref mm), (1, .int (nI k)), (2, .int (nI k2))]) hx hb dX7_same_68 rfl hl (by decide) rfl (fun ls hl => ?_)
          refine lv_iconst (v := nI 0) hx hb dX7_same_69 (by decide) ?_
          refine lv_istore (lv' := [(4, .int (nI 0)), (3, .int (nI 0)), (0, .ref mm), (1, .int (nI k)), (2, .int (nI k2))]) hx hb dX7_same_70 hl (by decide) rfl (fun ls hl => ?_)
          refine lv_iload hx hb dX7_same_72 (lv_at hl 0 rfl) ?_
          refine lv_aload_n hx hb dX7_same_74 rfl (lv_at hl 2 rfl) ?_
          refine va_get (D := D) (ci := 5) (v := .ref mc) (C := RX7) (T := TX7) (N := 22) hx hb hts inX7 hown hK hP 0 rfl rfl 7 (by decide) (hts (.fieldLink RX7 17 "ByteShapesModel" "planned" "[I") (List.mem_cons_of_mem _ wd_387)) (fun _ h9 => h9) rfl dX7_same_75 ?_
          refine lv_iload_n hx hb dX7_same_78 rfl (lv_at hl 3 rfl) ?_
          refine va_iald hx hb hK hP 2 0 rfl rfl (vp_in_nI (by omega) (by omega)) dX7_same_79 ?_
          refine k_i (show _ = (iF pd) k from congrArg (iF pd) (nI_clamp (by omega))) ?_
          refine k_i (show _ = nI (pd k) from rfl) ?_
          refine k_icmp_ge (tgt := 128) (by omega) (by omega) hx hb dX7_same_80 (by decide) (fun hj1 => ?_) (fun hj1 => ?_)
          · skip
            refine lv_iconst (v := nI 0) hx hb dX7_same_128 (by decide) ?_
            refine lv_istore (lv' := [(4, .int (nI 0)), (3, .int (nI 0)), (0, .ref mm), (1, .int (nI k)), (2, .int (nI k2))]) hx hb dX7_same_129 hl (by decide) rfl (fun ls hl => ?_)
            refine lv_iload hx hb dX7_same_131 (lv_at hl 0 rfl) ?_
            refine lv_iconst (v := nI 2) hx hb dX7_same_133 (by decide) ?_
            refine lv_aload_n hx hb dX7_same_134 rfl (lv_at hl 2 rfl) ?_
            refine va_get (D := D) (ci := 5) (v := .ref me) (C := RX7) (T := TX7) (N := 22) hx hb hts inX7 hown hK hP 0 rfl rfl 9 (by decide) (hts (.fieldLink RX7 24 "ByteShapesModel" "points" "[I") (List.mem_cons_of_mem _ wd_390)) (fun _ h9 => h9) rfl dX7_same_135 ?_
            refine lv_iload_n hx hb dX7_same_138 rfl (lv_at hl 3 rfl) ?_
            refine va_iald hx hb hK hP 4 0 rfl rfl (vp_in_nI (by omega) (by omega)) dX7_same_139 ?_
            refine k_i (show _ = (iF pq) k from congrArg (iF pq) (nI_clamp (by omega))) ?_
            refine k_i (show _ = nI (pq k) from rfl) ?_
            refine lv_imul hx hb dX7_same_140 ?_
            refine k_i (show _ = nI (2 * (pq k)) from pk_mul _ _) ?_
            refine k_icmp_ge (tgt := 189) (by omega) (by omega) hx hb dX7_same_141 (by decide) (fun hi1 => ?_) (fun hi1 => ?_)
            · skip
              refine lv_iload_n hx hb dX7_same_189 rfl (lv_at hl 1 rfl) ?_
              exact k_iret () hx hb hr (by first | rfl | decide | exact vp_nar_int _) hlocks hK hP hD hS (rfl) (rfl) (Nat.le_of_ble_eq_true rfl) (Nat.le_of_ble_eq_true rfl) dX7_same_190
            · skip
              refine lv_iload_n hx hb dX7_same_144 rfl (lv_at hl 1 rfl) ?_
              refine k_if_eq (tgt := 189) (by omega) hx hb dX7_same_145 (by decide) (fun c521 => ?_) (fun c521 => ?_)
              · skip
                refine lv_iload_n hx hb dX7_same_189 rfl (lv_at hl 1 rfl) ?_
                exact k_iret () hx hb hr (by first | rfl | decide | exact vp_nar_int _) hlocks hK hP hD hS (rfl) (rfl) (Nat.le_of_ble_eq_true rfl) (Nat.le_of_ble_eq_true rfl) dX7_same_190
              · skip
                exact absurd c521 (by omega)
          · skip
            refine lv_iload_n hx hb dX7_same_83 rfl (lv_at hl 1 rfl) ?_
            refine k_if_eq (tgt := 128) (by omega) hx hb dX7_same_84 (by decide) (fun c522 => ?_) (fun c522 => ?_)
            · skip
              refine lv_iconst (v := nI 0) hx hb dX7_same_128 (by decide) ?_
              refine lv_istore (lv' := [(4, .int (nI 0)), (3, .int (nI 0)), (0, .ref mm), (1, .int (nI k)), (2, .int (nI k2))]) hx hb dX7_same_129 hl (by decide) rfl (fun ls hl => ?_)
              refine lv_iload hx hb dX7_same_131 (lv_at hl 0 rfl) ?_
              refine lv_iconst (v := nI 2) hx hb dX7_same_133 (by decide) ?_
              refine lv_aload_n hx hb dX7_same_134 rfl (lv_at hl 2 rfl) ?_
              refine va_get (D := D) (ci := 5) (v := .ref me) (C := RX7) (T := TX7) (N := 22) hx hb hts inX7 hown hK hP 0 rfl rfl 9 (by decide) (hts (.fieldLink RX7 24 "ByteShapesModel" "points" "[I") (List.mem_cons_of_mem _ wd_390)) (fun _ h9 => h9) rfl dX7_same_135 ?_
              refine lv_iload_n hx hb dX7_same_138 rfl (lv_at hl 3 rfl) ?_
              refine va_iald hx hb hK hP 4 0 rfl rfl (vp_in_nI (by omega) (by omega)) dX7_same_139 ?_
              refine k_i (show _ = (iF pq) k from congrArg (iF pq) (nI_clamp (by omega))) ?_
              refine k_i (show _ = nI (pq k) from rfl) ?_
              refine lv_imul hx hb dX7_same_140 ?_
              refine k_i (show _ = nI (2 * (pq k)) from pk_mul _ _) ?_
              refine k_icmp_ge (tgt := 189) (by omega) (by omega) hx hb dX7_same_141 (by decide) (fun hi1 => ?_) (fun hi1 => ?_)
              · skip
                refine lv_iload_n hx hb dX7_same_189 rfl (lv_at hl 1 rfl) ?_
                exact k_iret () hx hb hr (by first | rfl | decide | exact vp_nar_int _) hlocks hK hP hD hS (rfl) (rfl) (Nat.le_of_ble_eq_true rfl) (Nat.le_of_ble_eq_true rfl) dX7_same_190
              · skip
                refine lv_iload_n hx hb dX7_same_144 rfl (lv_at hl 1 rfl) ?_
                refine k_if_eq (tgt := 189) (by omega) hx hb dX7_same_145 (by decide) (fun c523 => ?_) (fun c523 => ?_)
                · skip
                  refine lv_iload_n hx hb dX7_same_189 rfl (lv_at hl 1 rfl) ?_
                  exact k_iret () hx hb hr (by first | rfl | decide | exact vp_nar_int _) hlocks hK hP hD hS (rfl) (rfl) (Nat.le_of_ble_eq_true rfl) (Nat.le_of_ble_eq_true rfl) dX7_same_190
                · skip
                  exact absurd c523 (by omega)
            · skip
              exact absurd c522 (by omega)
        · skip
          refine lv_iconst (v := nI 1) hx hb dX7_same_63 (by decide) ?_
          refine lv_goto (tgt := 68) hx hb dX7_same_64 (by decide) ?_
          refine lv_istore_n (lv' := [(3, .int (nI 1)), (0, .ref mm), (1, .int (nI k)), (2, .int (nI k2))]) hx hb dX7_same_68 rfl hl (by decide) rfl (fun ls hl => ?_)
          refine lv_iconst (v := nI 0) hx hb dX7_same_69 (by decide) ?_
          refine lv_istore (lv' := [(4, .int (nI 0)), (3, .int (nI 1)), (0, .ref mm), (1, .int (nI k)), (2, .int (nI k2))]) hx hb dX7_same_70 hl (by decide) rfl (fun ls hl => ?_)
          have loop524 : ∀ (k525 : Nat) (j : Nat) (H : Heap) (locs : List Loc) (ls : Array Slot), pd k - j < k525 → (j ≤ pd k) → (∀ i, i < j → iF pm (4096 * k + i) = iF pm (4096 * k2 + i)) → va_P D kCl [(mm, .inr (5, [.int (nI 0), .int (nI dg), .int (nI PT), .int (nI PN), .int (nI n), .ref ma, .ref mb, .ref mc, .ref md, .ref me, .int (nI sz), .ref mf, .int (nI od), .int (nI sl), .int (nI t), .int (nI wr), .int (nI pl), .int (nI lo), .long (lN nm), .int vz, .ref mg, .ref mh])), (mb, .inl (cI, 16384, .inl (iF pm))), (mc, .inl (cI, 4, .inl (iF pd))), (md, .inl (cI, 32768, .inl fx)), (me, .inl (cI, 4, .inl (iF pq)))] H → va_D A [(mm, .inr (5, [.int (nI 0), .int (nI dg), .int (nI PT), .int (nI PN), .int (nI n), .ref ma, .ref mb, .ref mc, .ref md, .ref me, .int (nI sz), .ref mf, .int (nI od), .int (nI sl), .int (nI t), .int (nI wr), .int (nI pl), .int (nI lo), .long (lN nm), .int vz, .ref mg, .ref mh])), (mb, .inl (cI, 16384, .inl (iF pm))), (mc, .inl (cI, 4, .inl (iF pd))), (md, .inl (cI, 32768, .inl fx)), (me, .inl (cI, 4, .inl (iF pq)))] → va_S A s.heap H locs → lv_has ls 5 [(0, .ref mm), (1, .int (nI k)), (2, .int (nI k2)), (3, .int (nI 1)), (4, .int (nI j))] → W p l e ({ frames := 2, cells := 0, slots := 0, locals := 42 }) s m ([.ref mm, .int (nI k), .int (nI k2)] : List Value).toArray below meth c H locs 0 0 (MQ below ((kQi D (kT cI cB cJ cS) (fun r (ug : Unit) => r = nI 0) (fun ug => [(mm, .inr (5, [.int (nI 0), .int (nI dg), .int (nI PT), .int (nI PN), .int (nI n), .ref ma, .ref mb, .ref mc, .ref md, .ref me, .int (nI sz), .ref mf, .int (nI od), .int (nI sl), .int (nI t), .int (nI wr), .int (nI pl), .int (nI lo), .long (lN nm), .int vz, .ref mg, .ref mh])), (mb, .inl (cI, 16384, .inl (iF pm))), (mc, .inl (cI, 4, .inl (iF pd))), (md, .inl (cI, 32768, .inl fx)), (me, .inl (cI, 4, .inl (iF pq)))])) A) ([.ref mm, .int (nI k), .int (nI k2)] : List Value).toArray s ({ frames := 2, cells := 0, slots := 0, locals := 42 } : Room).cells ({ frames := 2, cells := 0, slots := 0, locals := 42 } : Room).slots A) (F0 m 72 ls []) := by
            intro k525
            induction k525 with
            | zero =>
              intro j H locs ls hk9
              exact absurd hk9 (Nat.not_lt_zero _)
            | succ k525 ihloop524 =>
              intro j H locs ls hk9 hj hy hP hD hS hl
              refine lv_iload hx hb dX7_same_72 (lv_at hl 4 rfl) ?_
              refine lv_aload_n hx hb dX7_same_74 rfl (lv_at hl 0 rfl) ?_
              refine va_get (D := D) (ci := 5) (v := .ref mc) (C := RX7) (T := TX7) (N := 22) hx hb hts inX7 hown hK hP 0 rfl rfl 7 (by decide) (hts (.fieldLink RX7 17 "ByteShapesModel" "planned" "[I") (List.mem_cons_of_mem _ wd_387)) (fun _ h9 => h9) rfl dX7_same_75 ?_
              refine lv_iload_n hx hb dX7_same_78 rfl (lv_at hl 1 rfl) ?_
              refine va_iald hx hb hK hP 2 0 rfl rfl (vp_in_nI (by omega) (by omega)) dX7_same_79 ?_
              refine k_i (show _ = (iF pd) k from congrArg (iF pd) (nI_clamp (by omega))) ?_
              refine k_i (show _ = nI (pd k) from rfl) ?_
              refine k_icmp_ge (tgt := 128) (by omega) (by omega) hx hb dX7_same_80 (by decide) (fun hj1 => ?_) (fun hj1 => ?_)
              · skip
                refine lv_iconst (v := nI 0) hx hb dX7_same_128 (by decide) ?_
                refine lv_istore (lv' := [(4, .int (nI 0)), (0, .ref mm), (1, .int (nI k)), (2, .int (nI k2)), (3, .int (nI 1))]) hx hb dX7_same_129 hl (by decide) rfl (fun ls hl => ?_)
                have loop526 : ∀ (k527 : Nat) (i2 : Nat) (H : Heap) (locs : List Loc) (ls : Array Slot), 2 * pq k - i2 < k527 → (i2 ≤ 2 * pq k) → (∀ i, i < i2 → fx (8192 * k + i) = fx (8192 * k2 + i)) → va_P D kCl [(mm, .inr (5, [.int (nI 0), .int (nI dg), .int (nI PT), .int (nI PN), .int (nI n), .ref ma, .ref mb, .ref mc, .ref md, .ref me, .int (nI sz), .ref mf, .int (nI od), .int (nI sl), .int (nI t), .int (nI wr), .int (nI pl), .int (nI lo), .long (lN nm), .int vz, .ref mg, .ref mh])), (mb, .inl (cI, 16384, .inl (iF pm))), (mc, .inl (cI, 4, .inl (iF pd))), (md, .inl (cI, 32768, .inl fx)), (me, .inl (cI, 4, .inl (iF pq)))] H → va_D A [(mm, .inr (5, [.int (nI 0), .int (nI dg), .int (nI PT), .int (nI PN), .int (nI n), .ref ma, .ref mb, .ref mc, .ref md, .ref me, .int (nI sz), .ref mf, .int (nI od), .int (nI sl), .int (nI t), .int (nI wr), .int (nI pl), .int (nI lo), .long (lN nm), .int vz, .ref mg, .ref mh])), (mb, .inl (cI, 16384, .inl (iF pm))), (mc, .inl (cI, 4, .inl (iF pd))), (md, .inl (cI, 32768, .inl fx)), (me, .inl (cI, 4, .inl (iF pq)))] → va_S A s.heap H locs → lv_has ls 5 [(0, .ref mm), (1, .int (nI k)), (2, .int (nI k2)), (3, .int (nI 1)), (4, .int (nI i2))] → W p l e ({ frames := 2, cells := 0, slots := 0, locals := 42 }) s m ([.ref mm, .int (nI k), .int (nI k2)] : List Value).toArray below meth c H locs 0 0 (MQ below ((kQi D (kT cI cB cJ cS) (fun r (ug : Unit) => r = nI 0) (fun ug => [(mm, .inr (5, [.int (nI 0), .int (nI dg), .int (nI PT), .int (nI PN), .int (nI n), .ref ma, .ref mb, .ref mc, .ref md, .ref me, .int (nI sz), .ref mf, .int (nI od), .int (nI sl), .int (nI t), .int (nI wr), .int (nI pl), .int (nI lo), .long (lN nm), .int vz, .ref mg, .ref mh])), (mb, .inl (cI, 16384, .inl (iF pm))), (mc, .inl (cI, 4, .inl (iF pd))), (md, .inl (cI, 32768, .inl fx)), (me, .inl (cI, 4, .inl (iF pq)))])) A) ([.ref mm, .int (nI k), .int (nI k2)] : List Value).toArray s ({ frames := 2, cells := 0, slots := 0, locals := 42 } : Room).cells ({ frames := 2, cells := 0, slots := 0, locals := 42 } : Room).slots A) (F0 m 131 ls []) := by
                  intro k527
                  induction k527 with
                  | zero =>
                    intro i2 H locs ls hk9
                    exact absurd hk9 (Nat.not_lt_zero _)
                  | succ k527 ihloop526 =>
                    intro i2 H locs ls hk9 hi2 hx2 hP hD hS hl
                    refine lv_iload hx hb dX7_same_131 (lv_at hl 4 rfl) ?_
                    refine lv_iconst (v := nI 2) hx hb dX7_same_133 (by decide) ?_
                    refine lv_aload_n hx hb dX7_same_134 rfl (lv_at hl 0 rfl) ?_
                    refine va_get (D := D) (ci := 5) (v := .ref me) (C := RX7) (T := TX7) (N := 22) hx hb hts inX7 hown hK hP 0 rfl rfl 9 (by decide) (hts (.fieldLink RX7 24 "ByteShapesModel" "points" "[I") (List.mem_cons_of_mem _ wd_390)) (fun _ h9 => h9) rfl dX7_same_135 ?_
                    refine lv_iload_n hx hb dX7_same_138 rfl (lv_at hl 1 rfl) ?_
                    refine va_iald hx hb hK hP 4 0 rfl rfl (vp_in_nI (by omega) (by omega)) dX7_same_139 ?_
                    refine k_i (show _ = (iF pq) k from congrArg (iF pq) (nI_clamp (by omega))) ?_
                    refine k_i (show _ = nI (pq k) from rfl) ?_
                    refine lv_imul hx hb dX7_same_140 ?_
                    refine k_i (show _ = nI (2 * (pq k)) from pk_mul _ _) ?_
                    refine k_icmp_ge (tgt := 189) (by omega) (by omega) hx hb dX7_same_141 (by decide) (fun hi1 => ?_) (fun hi1 => ?_)
                    · skip
                      exact absurd ⟨by omega, by omega, fun i q => hy i (by omega), fun i q => hx2 i (by omega)⟩ hn9
                    · skip
                      refine lv_iload_n hx hb dX7_same_144 rfl (lv_at hl 3 rfl) ?_
                      refine k_if_eq (tgt := 189) (by omega) hx hb dX7_same_145 (by decide) (fun c528 => ?_) (fun c528 => ?_)
                      · skip
                        exact absurd c528 (by omega)
                      · skip
                        refine lv_aload_n hx hb dX7_same_148 rfl (lv_at hl 0 rfl) ?_
                        refine va_get (D := D) (ci := 5) (v := .ref md) (C := RX7) (T := TX7) (N := 22) hx hb hts inX7 hown hK hP 0 rfl rfl 8 (by decide) (hts (.fieldLink RX7 21 "ByteShapesModel" "xy" "[I") (List.mem_cons_of_mem _ wd_393)) (fun _ h9 => h9) rfl dX7_same_149 ?_
                        refine lv_sipush (v := nI 8192) hx hb dX7_same_152 (by decide) ?_
                        refine lv_iload_n hx hb dX7_same_155 rfl (lv_at hl 1 rfl) ?_
                        refine lv_imul hx hb dX7_same_156 ?_
                        refine k_i (show _ = nI (8192 * k) from pk_mul _ _) ?_
                        refine lv_iload hx hb dX7_same_157 (lv_at hl 4 rfl) ?_
                        refine lv_iadd hx hb dX7_same_159 ?_
                        refine k_i (show _ = nI ((8192 * k) + i2) from nI_add _ _) ?_
                        refine va_iald hx hb hK hP 3 0 rfl rfl (vp_in_nI (by omega) (by omega)) dX7_same_160 ?_
                        refine k_i (show _ = fx ((8192 * k) + i2) from congrArg fx (nI_clamp (by omega))) ?_
                        refine lv_aload_n hx hb dX7_same_161 rfl (lv_at hl 0 rfl) ?_
                        refine va_get (D := D) (ci := 5) (v := .ref md) (C := RX7) (T := TX7) (N := 22) hx hb hts inX7 hown hK hP 0 rfl rfl 8 (by decide) (hts (.fieldLink RX7 21 "ByteShapesModel" "xy" "[I") (List.mem_cons_of_mem _ wd_393)) (fun _ h9 => h9) rfl dX7_same_162 ?_
                        refine lv_sipush (v := nI 8192) hx hb dX7_same_165 (by decide) ?_
                        refine lv_iload_n hx hb dX7_same_168 rfl (lv_at hl 2 rfl) ?_
                        refine lv_imul hx hb dX7_same_169 ?_
                        refine k_i (show _ = nI (8192 * k2) from pk_mul _ _) ?_
                        refine lv_iload hx hb dX7_same_170 (lv_at hl 4 rfl) ?_
                        refine lv_iadd hx hb dX7_same_172 ?_
                        refine k_i (show _ = nI ((8192 * k2) + i2) from nI_add _ _) ?_
                        refine va_iald hx hb hK hP 3 0 rfl rfl (vp_in_nI (by omega) (by omega)) dX7_same_173 ?_
                        refine k_i (show _ = fx ((8192 * k2) + i2) from congrArg fx (nI_clamp (by omega))) ?_
                        refine lv_icmp_ne (tgt := 181) hx hb dX7_same_174 (by decide) (fun h174 => ?_) (fun h174 => ?_)
                        · skip
                          refine lv_iconst (v := nI 0) hx hb dX7_same_181 (by decide) ?_
                          refine lv_istore_n (lv' := [(3, .int (nI 0)), (0, .ref mm), (1, .int (nI k)), (2, .int (nI k2)), (4, .int (nI i2))]) hx hb dX7_same_182 rfl hl (by decide) rfl (fun ls hl => ?_)
                          refine lv_iinc (v := nI (i2 + 1)) (lv' := [(4, .int (nI (i2 + 1))), (3, .int (nI 0)), (0, .ref mm), (1, .int (nI k)), (2, .int (nI k2))]) hx hb dX7_same_183 hl (k := 4) rfl (nI_add _ _) (by decide) rfl (fun ls hl => ?_)
                          refine lv_goto (tgt := 131) hx hb dX7_same_186 (by decide) ?_
                          refine lv_iload hx hb dX7_same_131 (lv_at hl 0 rfl) ?_
                          refine lv_iconst (v := nI 2) hx hb dX7_same_133 (by decide) ?_
                          refine lv_aload_n hx hb dX7_same_134 rfl (lv_at hl 2 rfl) ?_
                          refine va_get (D := D) (ci := 5) (v := .ref me) (C := RX7) (T := TX7) (N := 22) hx hb hts inX7 hown hK hP 0 rfl rfl 9 (by decide) (hts (.fieldLink RX7 24 "ByteShapesModel" "points" "[I") (List.mem_cons_of_mem _ wd_390)) (fun _ h9 => h9) rfl dX7_same_135 ?_
                          refine lv_iload_n hx hb dX7_same_138 rfl (lv_at hl 3 rfl) ?_
                          refine va_iald hx hb hK hP 4 0 rfl rfl (vp_in_nI (by omega) (by omega)) dX7_same_139 ?_
                          refine k_i (show _ = (iF pq) k from congrArg (iF pq) (nI_clamp (by omega))) ?_
                          refine k_i (show _ = nI (pq k) from rfl) ?_
                          refine lv_imul hx hb dX7_same_140 ?_
                          refine k_i (show _ = nI (2 * (pq k)) from pk_mul _ _) ?_
                          refine k_icmp_ge (tgt := 189) (by omega) (by omega) hx hb dX7_same_141 (by decide) (fun hi1 => ?_) (fun hi1 => ?_)
                          · skip
                            refine lv_iload_n hx hb dX7_same_189 rfl (lv_at hl 1 rfl) ?_
                            exact k_iret () hx hb hr (by first | rfl | decide | exact vp_nar_int _) hlocks hK hP hD hS (rfl) (rfl) (Nat.le_of_ble_eq_true rfl) (Nat.le_of_ble_eq_true rfl) dX7_same_190
                          · skip
                            refine lv_iload_n hx hb dX7_same_144 rfl (lv_at hl 1 rfl) ?_
                            refine k_if_eq (tgt := 189) (by omega) hx hb dX7_same_145 (by decide) (fun c529 => ?_) (fun c529 => ?_)
                            · skip
                              refine lv_iload_n hx hb dX7_same_189 rfl (lv_at hl 1 rfl) ?_
                              exact k_iret () hx hb hr (by first | rfl | decide | exact vp_nar_int _) hlocks hK hP hD hS (rfl) (rfl) (Nat.le_of_ble_eq_true rfl) (Nat.le_of_ble_eq_true rfl) dX7_same_190
                            · skip
                              exact absurd c529 (by omega)
                        · skip
                          refine lv_iconst (v := nI 1) hx hb dX7_same_177 (by decide) ?_
                          refine lv_goto (tgt := 182) hx hb dX7_same_178 (by decide) ?_
                          refine lv_istore_n (lv' := [(3, .int (nI 1)), (0, .ref mm), (1, .int (nI k)), (2, .int (nI k2)), (4, .int (nI i2))]) hx hb dX7_same_182 rfl hl (by decide) rfl (fun ls hl => ?_)
                          refine lv_iinc (v := nI (i2 + 1)) (lv' := [(4, .int (nI (i2 + 1))), (3, .int (nI 1)), (0, .ref mm), (1, .int (nI k)), (2, .int (nI k2))]) hx hb dX7_same_183 hl (k := 4) rfl (nI_add _ _) (by decide) rfl (fun ls hl => ?_)
                          refine lv_goto (tgt := 131) hx hb dX7_same_186 (by decide) ?_
                          exact ihloop526 (i2 + 1) _ _ _ (by omega) (by omega) (fun i q => (Nat.lt_or_ge i i2).elim (hx2 i) (fun r => by rw [show i = i2 by omega]; first | exact h174 | exact Classical.not_not.mp h174)) (hP.sub [0, 1, 2, 3, 4] rfl) (hD.sub [0, 1, 2, 3, 4] (by decide) rfl) hS (lv_sub hl [2, 3, 4, 1, 0] rfl)
                exact loop526 ((2 * pq k - 0) + 1) 0 _ _ _ (Nat.lt_succ_self _) (Nat.zero_le _) (fun i q => absurd q (by omega)) (hP.sub [0, 1, 2, 3, 4] rfl) (hD.sub [0, 1, 2, 3, 4] (by decide) rfl) hS (lv_sub hl [1, 2, 3, 4, 0] rfl)
              · skip
                refine lv_iload_n hx hb dX7_same_83 rfl (lv_at hl 3 rfl) ?_
                refine k_if_eq (tgt := 128) (by omega) hx hb dX7_same_84 (by decide) (fun c530 => ?_) (fun c530 => ?_)
                · skip
                  exact absurd c530 (by omega)
                · skip
                  refine lv_aload_n hx hb dX7_same_87 rfl (lv_at hl 0 rfl) ?_
                  refine va_get (D := D) (ci := 5) (v := .ref mb) (C := RX7) (T := TX7) (N := 22) hx hb hts inX7 hown hK hP 0 rfl rfl 6 (by decide) (hts (.fieldLink RX7 14 "ByteShapesModel" "plan" "[I") (List.mem_cons_of_mem _ wd_392)) (fun _ h9 => h9) rfl dX7_same_88 ?_
                  refine lv_sipush (v := nI 4096) hx hb dX7_same_91 (by decide) ?_
                  refine lv_iload_n hx hb dX7_same_94 rfl (lv_at hl 1 rfl) ?_
                  refine lv_imul hx hb dX7_same_95 ?_
                  refine k_i (show _ = nI (4096 * k) from pk_mul _ _) ?_
                  refine lv_iload hx hb dX7_same_96 (lv_at hl 4 rfl) ?_
                  refine lv_iadd hx hb dX7_same_98 ?_
                  refine k_i (show _ = nI ((4096 * k) + j) from nI_add _ _) ?_
                  refine va_iald hx hb hK hP 1 0 rfl rfl (vp_in_nI (by omega) (by omega)) dX7_same_99 ?_
                  refine k_i (show _ = (iF pm) ((4096 * k) + j) from congrArg (iF pm) (nI_clamp (by omega))) ?_
                  refine lv_aload_n hx hb dX7_same_100 rfl (lv_at hl 0 rfl) ?_
                  refine va_get (D := D) (ci := 5) (v := .ref mb) (C := RX7) (T := TX7) (N := 22) hx hb hts inX7 hown hK hP 0 rfl rfl 6 (by decide) (hts (.fieldLink RX7 14 "ByteShapesModel" "plan" "[I") (List.mem_cons_of_mem _ wd_392)) (fun _ h9 => h9) rfl dX7_same_101 ?_
                  refine lv_sipush (v := nI 4096) hx hb dX7_same_104 (by decide) ?_
                  refine lv_iload_n hx hb dX7_same_107 rfl (lv_at hl 2 rfl) ?_
                  refine lv_imul hx hb dX7_same_108 ?_
                  refine k_i (show _ = nI (4096 * k2) from pk_mul _ _) ?_
                  refine lv_iload hx hb dX7_same_109 (lv_at hl 4 rfl) ?_
                  refine lv_iadd hx hb dX7_same_111 ?_
                  refine k_i (show _ = nI ((4096 * k2) + j) from nI_add _ _) ?_
                  refine va_iald hx hb hK hP 1 0 rfl rfl (vp_in_nI (by omega) (by omega)) dX7_same_112 ?_
                  refine k_i (show _ = (iF pm) ((4096 * k2) + j) from congrArg (iF pm) (nI_clamp (by omega))) ?_
                  refine lv_icmp_ne (tgt := 120) hx hb dX7_same_113 (by decide) (fun h113 => ?_) (fun h113 => ?_)
                  · skip
                    refine lv_iconst (v := nI 0) hx hb dX7_same_120 (by decide) ?_
                    refine lv_istore_n (lv' := [(3, .int (nI 0)), (0, .ref mm), (1, .int (nI k)), (2, .int (nI k2)), (4, .int (nI j))]) hx hb dX7_same_121 rfl hl (by decide) rfl (fun ls hl => ?_)
                    refine lv_iinc (v := nI (j + 1)) (lv' := [(4, .int (nI (j + 1))), (3, .int (nI 0)), (0, .ref mm), (1, .int (nI k)), (2, .int (nI k2))]) hx hb dX7_same_122 hl (k := 4) rfl (nI_add _ _) (by decide) rfl (fun ls hl => ?_)
                    refine lv_goto (tgt := 72) hx hb dX7_same_125 (by decide) ?_
                    refine lv_iload hx hb dX7_same_72 (lv_at hl 0 rfl) ?_
                    refine lv_aload_n hx hb dX7_same_74 rfl (lv_at hl 2 rfl) ?_
                    refine va_get (D := D) (ci := 5) (v := .ref mc) (C := RX7) (T := TX7) (N := 22) hx hb hts inX7 hown hK hP 0 rfl rfl 7 (by decide) (hts (.fieldLink RX7 17 "ByteShapesModel" "planned" "[I") (List.mem_cons_of_mem _ wd_387)) (fun _ h9 => h9) rfl dX7_same_75 ?_
                    refine lv_iload_n hx hb dX7_same_78 rfl (lv_at hl 3 rfl) ?_
                    refine va_iald hx hb hK hP 2 0 rfl rfl (vp_in_nI (by omega) (by omega)) dX7_same_79 ?_
                    refine k_i (show _ = (iF pd) k from congrArg (iF pd) (nI_clamp (by omega))) ?_
                    refine k_i (show _ = nI (pd k) from rfl) ?_
                    refine k_icmp_ge (tgt := 128) (by omega) (by omega) hx hb dX7_same_80 (by decide) (fun hj1 => ?_) (fun hj1 => ?_)
                    · skip
                      refine lv_iconst (v := nI 0) hx hb dX7_same_128 (by decide) ?_
                      refine lv_istore (lv' := [(4, .int (nI 0)), (3, .int (nI 0)), (0, .ref mm), (1, .int (nI k)), (2, .int (nI k2))]) hx hb dX7_same_129 hl (by decide) rfl (fun ls hl => ?_)
                      refine lv_iload hx hb dX7_same_131 (lv_at hl 0 rfl) ?_
                      refine lv_iconst (v := nI 2) hx hb dX7_same_133 (by decide) ?_
                      refine lv_aload_n hx hb dX7_same_134 rfl (lv_at hl 2 rfl) ?_
                      refine va_get (D := D) (ci := 5) (v := .ref me) (C := RX7) (T := TX7) (N := 22) hx hb hts inX7 hown hK hP 0 rfl rfl 9 (by decide) (hts (.fieldLink RX7 24 "ByteShapesModel" "points" "[I") (List.mem_cons_of_mem _ wd_390)) (fun _ h9 => h9) rfl dX7_same_135 ?_
                      refine lv_iload_n hx hb dX7_same_138 rfl (lv_at hl 3 rfl) ?_
                      refine va_iald hx hb hK hP 4 0 rfl rfl (vp_in_nI (by omega) (by omega)) dX7_same_139 ?_
                      refine k_i (show _ = (iF pq) k from congrArg (iF pq) (nI_clamp (by omega))) ?_
                      refine k_i (show _ = nI (pq k) from rfl) ?_
                      refine lv_imul hx hb dX7_same_140 ?_
                      refine k_i (show _ = nI (2 * (pq k)) from pk_mul _ _) ?_
                      refine k_icmp_ge (tgt := 189) (by omega) (by omega) hx hb dX7_same_141 (by decide) (fun hi1 => ?_) (fun hi1 => ?_)
                      · skip
                        refine lv_iload_n hx hb dX7_same_189 rfl (lv_at hl 1 rfl) ?_
                        exact k_iret () hx hb hr (by first | rfl | decide | exact vp_nar_int _) hlocks hK hP hD hS (rfl) (rfl) (Nat.le_of_ble_eq_true rfl) (Nat.le_of_ble_eq_true rfl) dX7_same_190
                      · skip
                        refine lv_iload_n hx hb dX7_same_144 rfl (lv_at hl 1 rfl) ?_
                        refine k_if_eq (tgt := 189) (by omega) hx hb dX7_same_145 (by decide) (fun c531 => ?_) (fun c531 => ?_)
                        · skip
                          refine lv_iload_n hx hb dX7_same_189 rfl (lv_at hl 1 rfl) ?_
                          exact k_iret () hx hb hr (by first | rfl | decide | exact vp_nar_int _) hlocks hK hP hD hS (rfl) (rfl) (Nat.le_of_ble_eq_true rfl) (Nat.le_of_ble_eq_true rfl) dX7_same_190
                        · skip
                          exact absurd c531 (by omega)
                    · skip
                      refine lv_iload_n hx hb dX7_same_83 rfl (lv_at hl 1 rfl) ?_
                      refine k_if_eq (tgt := 128) (by omega) hx hb dX7_same_84 (by decide) (fun c532 => ?_) (fun c532 => ?_)
                      · skip
                        refine lv_iconst (v := nI 0) hx hb dX7_same_128 (by decide) ?_
                        refine lv_istore (lv' := [(4, .int (nI 0)), (3, .int (nI 0)), (0, .ref mm), (1, .int (nI k)), (2, .int (nI k2))]) hx hb dX7_same_129 hl (by decide) rfl (fun ls hl => ?_)
                        refine lv_iload hx hb dX7_same_131 (lv_at hl 0 rfl) ?_
                        refine lv_iconst (v := nI 2) hx hb dX7_same_133 (by decide) ?_
                        refine lv_aload_n hx hb dX7_same_134 rfl (lv_at hl 2 rfl) ?_
                        refine va_get (D := D) (ci := 5) (v := .ref me) (C := RX7) (T := TX7) (N := 22) hx hb hts inX7 hown hK hP 0 rfl rfl 9 (by decide) (hts (.fieldLink RX7 24 "ByteShapesModel" "points" "[I") (List.mem_cons_of_mem _ wd_390)) (fun _ h9 => h9) rfl dX7_same_135 ?_
                        refine lv_iload_n hx hb dX7_same_138 rfl (lv_at hl 3 rfl) ?_
                        refine va_iald hx hb hK hP 4 0 rfl rfl (vp_in_nI (by omega) (by omega)) dX7_same_139 ?_
                        refine k_i (show _ = (iF pq) k from congrArg (iF pq) (nI_clamp (by omega))) ?_
                        refine k_i (show _ = nI (pq k) from rfl) ?_
                        refine lv_imul hx hb dX7_same_140 ?_
                        refine k_i (show _ = nI (2 * (pq k)) from pk_mul _ _) ?_
                        refine k_icmp_ge (tgt := 189) (by omega) (by omega) hx hb dX7_same_141 (by decide) (fun hi1 => ?_) (fun hi1 => ?_)
                        · skip
                          refine lv_iload_n hx hb dX7_same_189 rfl (lv_at hl 1 rfl) ?_
                          exact k_iret () hx hb hr (by first | rfl | decide | exact vp_nar_int _) hlocks hK hP hD hS (rfl) (rfl) (Nat.le_of_ble_eq_true rfl) (Nat.le_of_ble_eq_true rfl) dX7_same_190
                        · skip
                          refine lv_iload_n hx hb dX7_same_144 rfl (lv_at hl 1 rfl) ?_
                          refine k_if_eq (tgt := 189) (by omega) hx hb dX7_same_145 (by decide) (fun c533 => ?_) (fun c533 => ?_)
                          · skip
                            refine lv_iload_n hx hb dX7_same_189 rfl (lv_at hl 1 rfl) ?_
                            exact k_iret () hx hb hr (by first | rfl | decide | exact vp_nar_int _) hlocks hK hP hD hS (rfl) (rfl) (Nat.le_of_ble_eq_true rfl) (Nat.le_of_ble_eq_true rfl) dX7_same_190
                          · skip
                            exact absurd c533 (by omega)
                      · skip
                        exact absurd c532 (by omega)
                  · skip
                    refine lv_iconst (v := nI 1) hx hb dX7_same_116 (by decide) ?_
                    refine lv_goto (tgt := 121) hx hb dX7_same_117 (by decide) ?_
                    refine lv_istore_n (lv' := [(3, .int (nI 1)), (0, .ref mm), (1, .int (nI k)), (2, .int (nI k2)), (4, .int (nI j))]) hx hb dX7_same_121 rfl hl (by decide) rfl (fun ls hl => ?_)
                    refine lv_iinc (v := nI (j + 1)) (lv' := [(4, .int (nI (j + 1))), (3, .int (nI 1)), (0, .ref mm), (1, .int (nI k)), (2, .int (nI k2))]) hx hb dX7_same_122 hl (k := 4) rfl (nI_add _ _) (by decide) rfl (fun ls hl => ?_)
                    refine lv_goto (tgt := 72) hx hb dX7_same_125 (by decide) ?_
                    exact ihloop524 (j + 1) _ _ _ (by omega) (by omega) (fun i q => (Nat.lt_or_ge i j).elim (hy i) (fun r => by rw [show i = j by omega]; first | exact h113 | exact Classical.not_not.mp h113)) (hP.sub [0, 1, 2, 3, 4] rfl) (hD.sub [0, 1, 2, 3, 4] (by decide) rfl) hS (lv_sub hl [2, 3, 4, 1, 0] rfl)
          exact loop524 ((pd k - 0) + 1) 0 _ _ _ (Nat.lt_succ_self _) (Nat.zero_le _) (fun i q => absurd q (by omega)) (hP.sub [0, 1, 2, 3, 4] rfl) (hD.sub [0, 1, 2, 3, 4] (by decide) rfl) hS (lv_sub hl [2, 3, 4, 1, 0] rfl)
    · skip
      exact absurd c517 (by omega)

