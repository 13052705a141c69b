set_option maxRecDepth 100000 in
set_option maxHeartbeats 4000000 in
theorem c_M_write (l : Launch) (D : va_G) (cI cB cJ cS : ClassId) (mm ma mb mc md me mf mg mh th dg PT PN n sz od sl t wr pl lo nm : Nat) (b pm pd pq rb ok ol : Nat → Nat) (fx : Nat → Int32) (vz : Int32) (hdg : dg < 4) (k : Nat) (hk : k < 4) (w : Nat) (hw2 : w < 2) (pf : Nat → Nat) (fv : Nat → Int32) (pn vn : Nat) (hpd : pd k = pn) (hpn1 : 1 ≤ pn) (hpn : pn ≤ 4096) (hvn : vn ≤ 8192) (hpm : ∀ i, i < pn → pm (4096 * k + i) = pf i) (hfx : ∀ i, i < vn → fx (8192 * k + i) = fv i) (hfv : ∀ j, j < vn → fvOk (fv j)) (J : Nat) (hgd : ∀ j, j < J → wSgy pf fv (uD dg) w pn (vn / 2) (wIt pf fv (uD dg) w (rb, 0, 0, 0) j)) (hpt : ∀ j, j < J → 1 ≤ pf (wIt pf fv (uD dg) w (rb, 0, 0, 0) j).2.2.1 ∧ (pf (wIt pf fv (uD dg) w (rb, 0, 0, 0) j).2.2.1 = 1 → pf ((wIt pf fv (uD dg) w (rb, 0, 0, 0) j).2.2.1 + 1) ≤ 1)) (bf : Nat → Nat) (nf qf : Nat) (hend : wIt pf fv (uD dg) w (rb, 0, 0, 0) J = (bf, nf, pn, qf)) (hnf : nf ≤ 65536)  : kM l yX7_write vsX7_write ({ frames := 3, cells := 0, slots := 0, locals := 75 }) D (kT cI cB cJ cS) [.ref mm, .int (nI k), .int (nI w)] [(mm, .inr (5, [.int (nI th), .int (nI dg), .int (nI PT), .int (nI PN), .int (nI n), .ref ma, .ref mb, .ref mc, .ref md, .ref me, .int (nI sz), .ref mf, .int (nI od), .int (nI sl), .int (nI t), .int (nI wr), .int (nI pl), .int (nI lo), .long (lN nm), .int vz, .ref mg, .ref mh])), (mb, .inl (cI, 16384, .inl (iF pm))), (mc, .inl (cI, 4, .inl (iF pd))), (md, .inl (cI, 32768, .inl fx)), (mf, .inl (cI, 131072, .inl (iF rb)))] (kQi D (kT cI cB cJ cS) (fun r (ug : Unit) => r = nI nf) (fun ug => [(mm, .inr (5, [.int (nI 0), .int (nI dg), .int (nI PT), .int (nI PN), .int (nI n), .ref ma, .ref mb, .ref mc, .ref md, .ref me, .int (nI nf), .ref mf, .int (nI w), .int (nI sl), .int (nI t), .int (nI wr), .int (nI pl), .int (nI lo), .long (lN nm), .int vz, .ref mg, .ref mh])), (mb, .inl (cI, 16384, .inl (iF pm))), (mc, .inl (cI, 4, .inl (iF pd))), (md, .inl (cI, 32768, .inl fx)), (mf, .inl (cI, 131072, .inl (iF bf)))])) := by
  refine k_ofW (by decide) rfl (Nat.le_of_ble_eq_true rfl) ?_
  intro p e s m below meth c A ls hx hb hr hts hown hlocks hmn hml hA hP hK hD hS hZ hl
  have inX7 : ∀ w ∈ wsX70, w ∈ vsX7_write := fun w h => List.mem_cons_of_mem _ (iaX7 w h)
  have F : CallFix p m c cX7_write 8 s _ vsX7_write RX7 := ⟨hx, hb, hml, hown, hts⟩
  have hl : lv_has ls 8 [(0, .ref mm), (1, .int (nI k)), (2, .int (nI w))] := hl
  refine lv_aload_n hx hb dX7_write_0 rfl (lv_at hl 0 rfl) ?_
  refine lv_iconst (v := nI 0) hx hb dX7_write_1 (by decide) ?_
  refine va_put (D := D) (ci := 5) (v := .int (nI 0)) (ty := .int) (C := RX7) (T := TX7) (N := 22) hx hb hts inX7 tyX7 tyX7_ok nmX7 hown hK hP hD hS 0 rfl rfl 0 (by decide) (hts (.fieldLink RX7 48 "ByteShapesModel" "thrown" "I") (List.mem_cons_of_mem _ wd_368)) (fun _ h9 => h9) rfl (by decide +kernel) (rfl) (rfl) (Nat.le_of_ble_eq_true rfl) dX7_write_2 (fun H locs hP hD hS => ?_)
  have hP : va_P D kCl [(mm, .inr (5, [.int (nI 0), .int (nI dg), .int (nI PT), .int (nI PN), .int (nI n), .ref ma, .ref mb, .ref mc, .ref md, .ref me, .int (nI sz), .ref mf, .int (nI od), .int (nI sl), .int (nI t), .int (nI wr), .int (nI pl), .int (nI lo), .long (lN nm), .int vz, .ref mg, .ref mh])), (mb, .inl (cI, 16384, .inl (iF pm))), (mc, .inl (cI, 4, .inl (iF pd))), (md, .inl (cI, 32768, .inl fx)), (mf, .inl (cI, 131072, .inl (iF rb)))] H := hP
  have hD : va_D A [(mm, .inr (5, [.int (nI 0), .int (nI dg), .int (nI PT), .int (nI PN), .int (nI n), .ref ma, .ref mb, .ref mc, .ref md, .ref me, .int (nI sz), .ref mf, .int (nI od), .int (nI sl), .int (nI t), .int (nI wr), .int (nI pl), .int (nI lo), .long (lN nm), .int vz, .ref mg, .ref mh])), (mb, .inl (cI, 16384, .inl (iF pm))), (mc, .inl (cI, 4, .inl (iF pd))), (md, .inl (cI, 32768, .inl fx)), (mf, .inl (cI, 131072, .inl (iF rb)))] := hD
  refine lv_iload_n hx hb dX7_write_5 rfl (lv_at hl 1 rfl) ?_
  refine k_ci (wr := [(mm, .inr (5, [.int (nI 0), .int (nI dg), .int (nI PT), .int (nI PN), .int (nI n), .ref ma, .ref mb, .ref mc, .ref md, .ref me, .int (nI sz), .ref mf, .int (nI od), .int (nI sl), .int (nI t), .int (nI wr), .int (nI pl), .int (nI lo), .long (lN nm), .int vz, .ref mg, .ref mh])), (mb, .inl (cI, 16384, .inl (iF pm))), (mc, .inl (cI, 4, .inl (iF pd))), (md, .inl (cI, 32768, .inl fx)), (mf, .inl (cI, 131072, .inl (iF rb)))]) (k_rs F (c_M_isSlot1 l D cI cB cJ cS k hk) (va_cwS 1 hts (g_S wd_443 wd_444 wd_373 wd_445) rfl rfl rfl (by decide +kernel) ⟨Nat.le_of_ble_eq_true rfl, Nat.le_of_ble_eq_true rfl⟩) hK hP hD hS hA hZ [] rfl (by decide) rfl hl.1 rfl (Nat.le_of_ble_eq_true rfl) dX7_write_6 ⟨Nat.le_of_ble_eq_true rfl, Nat.le_of_ble_eq_true rfl⟩) hP hD hS hA [] [0, 1, 2, 3, 4] rfl rfl (by decide) (by decide) (fun r u9 H locs hw hP hD hS => ?_)
  subst hw
  have hP : va_P D kCl [(mm, .inr (5, [.int (nI 0), .int (nI dg), .int (nI PT), .int (nI PN), .int (nI n), .ref ma, .ref mb, .ref mc, .ref md, .ref me, .int (nI sz), .ref mf, .int (nI od), .int (nI sl), .int (nI t), .int (nI wr), .int (nI pl), .int (nI lo), .long (lN nm), .int vz, .ref mg, .ref mh])), (mb, .inl (cI, 16384, .inl (iF pm))), (mc, .inl (cI, 4, .inl (iF pd))), (md, .inl (cI, 32768, .inl fx)), (mf, .inl (cI, 131072, .inl (iF rb)))] H := hP
  have hD : va_D A [(mm, .inr (5, [.int (nI 0), .int (nI dg), .int (nI PT), .int (nI PN), .int (nI n), .ref ma, .ref mb, .ref mc, .ref md, .ref me, .int (nI sz), .ref mf, .int (nI od), .int (nI sl), .int (nI t), .int (nI wr), .int (nI pl), .int (nI lo), .long (lN nm), .int vz, .ref mg, .ref mh])), (mb, .inl (cI, 16384, .inl (iF pm))), (mc, .inl (cI, 4, .inl (iF pd))), (md, .inl (cI, 32768, .inl fx)), (mf, .inl (cI, 131072, .inl (iF rb)))] := hD
  refine W.widen (k := 0) (n := 0) (Nat.le_of_ble_eq_true rfl) (Nat.le_of_ble_eq_true rfl) ?_
  refine k_if_ne (tgt := 18) (by omega) hx hb dX7_write_9 (by decide) (fun c566 => ?_) (fun c566 => ?_)
  · skip
    refine lv_iload_n hx hb dX7_write_18 rfl (lv_at hl 2 rfl) ?_
    refine lv_iconst (v := nI 0) hx hb dX7_write_19 (by decide) ?_
    refine lv_iconst (v := nI 1) hx hb dX7_write_20 (by decide) ?_
    refine k_ci (wr := [(mm, .inr (5, [.int (nI 0), .int (nI dg), .int (nI PT), .int (nI PN), .int (nI n), .ref ma, .ref mb, .ref mc, .ref md, .ref me, .int (nI sz), .ref mf, .int (nI od), .int (nI sl), .int (nI t), .int (nI wr), .int (nI pl), .int (nI lo), .long (lN nm), .int vz, .ref mg, .ref mh])), (mb, .inl (cI, 16384, .inl (iF pm))), (mc, .inl (cI, 4, .inl (iF pd))), (md, .inl (cI, 32768, .inl fx)), (mf, .inl (cI, 131072, .inl (iF rb)))]) (k_rs F (c_M_within1 l D cI cB cJ cS w 0 1 (by omega) (by omega) (by decide)) (va_cwS 3 hts (g_S wd_371 wd_372 wd_373 wd_374) rfl rfl rfl (by decide +kernel) ⟨Nat.le_of_ble_eq_true rfl, Nat.le_of_ble_eq_true rfl⟩) hK hP hD hS hA hZ [] rfl (by decide) rfl hl.1 rfl (Nat.le_of_ble_eq_true rfl) dX7_write_21 ⟨Nat.le_of_ble_eq_true rfl, Nat.le_of_ble_eq_true rfl⟩) hP hD hS hA [] [0, 1, 2, 3, 4] rfl rfl (by decide) (by decide) (fun r u9 H locs hw hP hD hS => ?_)
    subst hw
    have hP : va_P D kCl [(mm, .inr (5, [.int (nI 0), .int (nI dg), .int (nI PT), .int (nI PN), .int (nI n), .ref ma, .ref mb, .ref mc, .ref md, .ref me, .int (nI sz), .ref mf, .int (nI od), .int (nI sl), .int (nI t), .int (nI wr), .int (nI pl), .int (nI lo), .long (lN nm), .int vz, .ref mg, .ref mh])), (mb, .inl (cI, 16384, .inl (iF pm))), (mc, .inl (cI, 4, .inl (iF pd))), (md, .inl (cI, 32768, .inl fx)), (mf, .inl (cI, 131072, .inl (iF rb)))] H := hP
    have hD : va_D A [(mm, .inr (5, [.int (nI 0), .int (nI dg), .int (nI PT), .int (nI PN), .int (nI n), .ref ma, .ref mb, .ref mc, .ref md, .ref me, .int (nI sz), .ref mf, .int (nI od), .int (nI sl), .int (nI t), .int (nI wr), .int (nI pl), .int (nI lo), .long (lN nm), .int vz, .ref mg, .ref mh])), (mb, .inl (cI, 16384, .inl (iF pm))), (mc, .inl (cI, 4, .inl (iF pd))), (md, .inl (cI, 32768, .inl fx)), (mf, .inl (cI, 131072, .inl (iF rb)))] := hD
    refine W.widen (k := 0) (n := 0) (Nat.le_of_ble_eq_true rfl) (Nat.le_of_ble_eq_true rfl) ?_
    refine k_if_ne (tgt := 33) (by omega) hx hb dX7_write_24 (by decide) (fun c567 => ?_) (fun c567 => ?_)
    · skip
      refine lv_aload_n hx hb dX7_write_33 rfl (lv_at hl 0 rfl) ?_
      refine va_get (D := D) (ci := 5) (v := .ref mc) (C := RX7) (T := TX7) (N := 22) hx hb hts inX7 hown hK hP 0 rfl rfl 7 (by decide) (hts (.fieldLink RX7 17 "ByteShapesModel" "planned" "[I") (List.mem_cons_of_mem _ wd_387)) (fun _ h9 => h9) rfl dX7_write_34 ?_
      refine lv_iload_n hx hb dX7_write_37 rfl (lv_at hl 1 rfl) ?_
      refine va_iald hx hb hK hP 2 0 rfl rfl (vp_in_nI (by omega) (by omega)) dX7_write_38 ?_
      refine k_i (show _ = (iF pd) k from congrArg (iF pd) (nI_clamp (by omega))) ?_
      refine k_i (show _ = nI pn from congrArg nI hpd) ?_
      refine k_if_ne (tgt := 48) (by omega) hx hb dX7_write_39 (by decide) (fun c568 => ?_) (fun c568 => ?_)
      · skip
        refine lv_aload_n hx hb dX7_write_48 rfl (lv_at hl 0 rfl) ?_
        refine lv_iload_n hx hb dX7_write_49 rfl (lv_at hl 2 rfl) ?_
        refine va_put (D := D) (ci := 5) (v := .int (nI w)) (ty := .int) (C := RX7) (T := TX7) (N := 22) hx hb hts inX7 tyX7 tyX7_ok nmX7 hown hK hP hD hS 0 rfl rfl 12 (by decide) (hts (.fieldLink RX7 166 "ByteShapesModel" "order" "I") (List.mem_cons_of_mem _ wd_448)) (fun _ h9 => h9) rfl (by decide +kernel) (rfl) (rfl) (Nat.le_of_ble_eq_true rfl) dX7_write_50 (fun H locs hP hD hS => ?_)
        have hP : va_P D kCl [(mm, .inr (5, [.int (nI 0), .int (nI dg), .int (nI PT), .int (nI PN), .int (nI n), .ref ma, .ref mb, .ref mc, .ref md, .ref me, .int (nI sz), .ref mf, .int (nI w), .int (nI sl), .int (nI t), .int (nI wr), .int (nI pl), .int (nI lo), .long (lN nm), .int vz, .ref mg, .ref mh])), (mb, .inl (cI, 16384, .inl (iF pm))), (mc, .inl (cI, 4, .inl (iF pd))), (md, .inl (cI, 32768, .inl fx)), (mf, .inl (cI, 131072, .inl (iF rb)))] H := hP
        have hD : va_D A [(mm, .inr (5, [.int (nI 0), .int (nI dg), .int (nI PT), .int (nI PN), .int (nI n), .ref ma, .ref mb, .ref mc, .ref md, .ref me, .int (nI sz), .ref mf, .int (nI w), .int (nI sl), .int (nI t), .int (nI wr), .int (nI pl), .int (nI lo), .long (lN nm), .int vz, .ref mg, .ref mh])), (mb, .inl (cI, 16384, .inl (iF pm))), (mc, .inl (cI, 4, .inl (iF pd))), (md, .inl (cI, 32768, .inl fx)), (mf, .inl (cI, 131072, .inl (iF rb)))] := hD
        refine lv_aload_n hx hb dX7_write_53 rfl (lv_at hl 0 rfl) ?_
        refine lv_iconst (v := nI 0) hx hb dX7_write_54 (by decide) ?_
        refine va_put (D := D) (ci := 5) (v := .int (nI 0)) (ty := .int) (C := RX7) (T := TX7) (N := 22) hx hb hts inX7 tyX7 tyX7_ok nmX7 hown hK hP hD hS 0 rfl rfl 10 (by decide) (hts (.fieldLink RX7 163 "ByteShapesModel" "size" "I") (List.mem_cons_of_mem _ wd_446)) (fun _ h9 => h9) rfl (by decide +kernel) (rfl) (rfl) (Nat.le_of_ble_eq_true rfl) dX7_write_55 (fun H locs hP hD hS => ?_)
        have hP : va_P D kCl [(mm, .inr (5, [.int (nI 0), .int (nI dg), .int (nI PT), .int (nI PN), .int (nI n), .ref ma, .ref mb, .ref mc, .ref md, .ref me, .int (nI 0), .ref mf, .int (nI w), .int (nI sl), .int (nI t), .int (nI wr), .int (nI pl), .int (nI lo), .long (lN nm), .int vz, .ref mg, .ref mh])), (mb, .inl (cI, 16384, .inl (iF pm))), (mc, .inl (cI, 4, .inl (iF pd))), (md, .inl (cI, 32768, .inl fx)), (mf, .inl (cI, 131072, .inl (iF rb)))] H := hP
        have hD : va_D A [(mm, .inr (5, [.int (nI 0), .int (nI dg), .int (nI PT), .int (nI PN), .int (nI n), .ref ma, .ref mb, .ref mc, .ref md, .ref me, .int (nI 0), .ref mf, .int (nI w), .int (nI sl), .int (nI t), .int (nI wr), .int (nI pl), .int (nI lo), .long (lN nm), .int vz, .ref mg, .ref mh])), (mb, .inl (cI, 16384, .inl (iF pm))), (mc, .inl (cI, 4, .inl (iF pd))), (md, .inl (cI, 32768, .inl fx)), (mf, .inl (cI, 131072, .inl (iF rb)))] := hD
        refine lv_sipush (v := nI 4096) hx hb dX7_write_58 (by decide) ?_
        refine lv_iload_n hx hb dX7_write_61 rfl (lv_at hl 1 rfl) ?_
        refine lv_imul hx hb dX7_write_62 ?_
        refine k_i (show _ = nI (4096 * k) from pk_mul _ _) ?_
        refine lv_istore_n (lv' := [(3, .int (nI (4096 * k))), (0, .ref mm), (1, .int (nI k)), (2, .int (nI w))]) hx hb dX7_write_63 rfl hl (by decide) rfl (fun ls hl => ?_)
        refine lv_iconst (v := nI 0) hx hb dX7_write_64 (by decide) ?_
        refine lv_istore (lv' := [(4, .int (nI 0)), (3, .int (nI (4096 * k))), (0, .ref mm), (1, .int (nI k)), (2, .int (nI w))]) hx hb dX7_write_65 hl (by decide) rfl (fun ls hl => ?_)
        rw [show nI (4096 * k) = nI (4096 * k + 0) from rfl] at hl
        have loop569 : ∀ (k570 : Nat) (j : Nat) (bj : Nat → Nat) (nj : Nat) (ij : Nat) (qj : Nat) (H : Heap) (locs : List Loc) (ls : Array Slot), J - j < k570 → (j ≤ J) → (wIt pf fv (uD dg) w (rb, 0, 0, 0) j = (bj, nj, ij, qj)) → (nj ≤ 65536) → (ij ≤ pn) → (qj ≤ vn / 2) → va_P D kCl [(mm, .inr (5, [.int (nI 0), .int (nI dg), .int (nI PT), .int (nI PN), .int (nI n), .ref ma, .ref mb, .ref mc, .ref md, .ref me, .int (nI nj), .ref mf, .int (nI w), .int (nI sl), .int (nI t), .int (nI wr), .int (nI pl), .int (nI lo), .long (lN nm), .int vz, .ref mg, .ref mh])), (mb, .inl (cI, 16384, .inl (iF pm))), (mc, .inl (cI, 4, .inl (iF pd))), (md, .inl (cI, 32768, .inl fx)), (mf, .inl (cI, 131072, .inl (iF bj)))] H → va_D A [(mm, .inr (5, [.int (nI 0), .int (nI dg), .int (nI PT), .int (nI PN), .int (nI n), .ref ma, .ref mb, .ref mc, .ref md, .ref me, .int (nI nj), .ref mf, .int (nI w), .int (nI sl), .int (nI t), .int (nI wr), .int (nI pl), .int (nI lo), .long (lN nm), .int vz, .ref mg, .ref mh])), (mb, .inl (cI, 16384, .inl (iF pm))), (mc, .inl (cI, 4, .inl (iF pd))), (md, .inl (cI, 32768, .inl fx)), (mf, .inl (cI, 131072, .inl (iF bj)))] → va_S A s.heap H locs → lv_has ls 8 [(0, .ref mm), (1, .int (nI k)), (2, .int (nI w)), (3, .int (nI (4096 * k + ij))), (4, .int (nI qj))] → W p l e ({ frames := 3, cells := 0, slots := 0, locals := 75 }) s m ([.ref mm, .int (nI k), .int (nI w)] : List Value).toArray below meth c H locs 0 0 (MQ below ((kQi D (kT cI cB cJ cS) (fun r (ug : Unit) => r = nI nf) (fun ug => [(mm, .inr (5, [.int (nI 0), .int (nI dg), .int (nI PT), .int (nI PN), .int (nI n), .ref ma, .ref mb, .ref mc, .ref md, .ref me, .int (nI nf), .ref mf, .int (nI w), .int (nI sl), .int (nI t), .int (nI wr), .int (nI pl), .int (nI lo), .long (lN nm), .int vz, .ref mg, .ref mh])), (mb, .inl (cI, 16384, .inl (iF pm))), (mc, .inl (cI, 4, .inl (iF pd))), (md, .inl (cI, 32768, .inl fx)), (mf, .inl (cI, 131072, .inl (iF bf)))])) A) ([.ref mm, .int (nI k), .int (nI w)] : List Value).toArray s ({ frames := 3, cells := 0, slots := 0, locals := 75 } : Room).cells ({ frames := 3, cells := 0, slots := 0, locals := 75 } : Room).slots A) (F0 m 67 ls []) := by
          intro k570
          induction k570 with
          | zero =>
            intro j bj nj ij qj H locs ls hk9
            exact absurd hk9 (Nat.not_lt_zero _)
          | succ k570 ihloop569 =>
            intro j bj nj ij qj H locs ls hk9 hj hY hnj hij hqj hP hD hS hl
            refine lv_iload_n hx hb dX7_write_67 rfl (lv_at hl 3 rfl) ?_
            refine lv_sipush (v := nI 4096) hx hb dX7_write_68 (by decide) ?_
            refine lv_iload_n hx hb dX7_write_71 rfl (lv_at hl 1 rfl) ?_
            refine lv_imul hx hb dX7_write_72 ?_
            refine k_i (show _ = nI (4096 * k) from pk_mul _ _) ?_
            refine lv_aload_n hx hb dX7_write_73 rfl (lv_at hl 0 rfl) ?_
            refine va_get (D := D) (ci := 5) (v := .ref mc) (C := RX7) (T := TX7) (N := 22) hx hb hts inX7 hown hK hP 0 rfl rfl 7 (by decide) (hts (.fieldLink RX7 17 "ByteShapesModel" "planned" "[I") (List.mem_cons_of_mem _ wd_387)) (fun _ h9 => h9) rfl dX7_write_74 ?_
            refine lv_iload_n hx hb dX7_write_77 rfl (lv_at hl 1 rfl) ?_
            refine va_iald hx hb hK hP 2 0 rfl rfl (vp_in_nI (by omega) (by omega)) dX7_write_78 ?_
            refine k_i (show _ = (iF pd) k from congrArg (iF pd) (nI_clamp (by omega))) ?_
            refine k_i (show _ = nI pn from congrArg nI hpd) ?_
            refine lv_iadd hx hb dX7_write_79 ?_
            refine k_i (show _ = nI ((4096 * k) + pn) from nI_add _ _) ?_
            refine k_icmp_ge (tgt := 237) (by omega) (by omega) hx hb dX7_write_80 (by decide) (fun h80 => ?_) (fun h80 => ?_)
            · skip
              refine lv_aload_n hx hb dX7_write_237 rfl (lv_at hl 0 rfl) ?_
              refine va_get (D := D) (ci := 5) (v := .int (nI nj)) (C := RX7) (T := TX7) (N := 22) hx hb hts inX7 hown hK hP 0 rfl rfl 10 (by decide) (hts (.fieldLink RX7 163 "ByteShapesModel" "size" "I") (List.mem_cons_of_mem _ wd_446)) (fun _ h9 => h9) rfl dX7_write_238 ?_
              have e : j = J := by
                rcases Nat.lt_or_ge j J with h | h
                · have hg := hgd j h
                  rw [hY] at hg
                  have hg : ij + 2 ≤ pn := hg.1
                  omega
                · omega
              subst e
              rw [hend] at hY
              cases hY
              exact k_iret () hx hb hr (by first | rfl | decide | exact vp_nar_int _) hlocks hK hP hD hS (rfl) (rfl) (Nat.le_of_ble_eq_true rfl) (Nat.le_of_ble_eq_true rfl) dX7_write_241
            · skip
              have hjJ : j < J := by
                rcases Nat.lt_or_ge j J with h | h
                · exact h
                · have e : j = J := by omega
                  subst e
                  rw [hend] at hY
                  cases hY
                  omega
              have hg := hgd j hjJ
              rw [hY] at hg
              have hg : wSg pf fv (uD dg) w pn (vn / 2) bj nj ij qj := hg
              have hp1 := hpt j hjJ
              rw [hY] at hp1
              obtain ⟨hp0, hp1⟩ : 1 ≤ pf ij ∧ (pf ij = 1 → pf (ij + 1) ≤ 1) := hp1
              have k9 := wSt_ok hg hqj
              obtain ⟨g1, g2, g3, g4, g5, g6, g7⟩ := hg
              refine lv_aload_n hx hb dX7_write_83 rfl (lv_at hl 0 rfl) ?_
              refine va_get (D := D) (ci := 5) (v := .ref mb) (C := RX7) (T := TX7) (N := 22) hx hb hts inX7 hown hK hP 0 rfl rfl 6 (by decide) (hts (.fieldLink RX7 14 "ByteShapesModel" "plan" "[I") (List.mem_cons_of_mem _ wd_392)) (fun _ h9 => h9) rfl dX7_write_84 ?_
              refine lv_iload_n hx hb dX7_write_87 rfl (lv_at hl 3 rfl) ?_
              refine va_iald hx hb hK hP 1 0 rfl rfl (vp_in_nI (by omega) (by omega)) dX7_write_88 ?_
              refine k_i (show _ = (iF pm) (4096 * k + ij) from congrArg (iF pm) (nI_clamp (by omega))) ?_
              refine k_i (show _ = nI (pf ij) from congrArg nI (hpm ij (by omega))) ?_
              refine lv_istore (lv' := [(5, .int (nI (pf ij))), (0, .ref mm), (1, .int (nI k)), (2, .int (nI w)), (3, .int (nI (4096 * k + ij))), (4, .int (nI qj))]) hx hb dX7_write_89 hl (by decide) rfl (fun ls hl => ?_)
              refine lv_aload_n hx hb dX7_write_91 rfl (lv_at hl 1 rfl) ?_
              refine va_get (D := D) (ci := 5) (v := .ref mb) (C := RX7) (T := TX7) (N := 22) hx hb hts inX7 hown hK hP 0 rfl rfl 6 (by decide) (hts (.fieldLink RX7 14 "ByteShapesModel" "plan" "[I") (List.mem_cons_of_mem _ wd_392)) (fun _ h9 => h9) rfl dX7_write_92 ?_
              refine lv_iload_n hx hb dX7_write_95 rfl (lv_at hl 4 rfl) ?_
              refine lv_iconst (v := nI 1) hx hb dX7_write_96 (by decide) ?_
              refine lv_iadd hx hb dX7_write_97 ?_
              refine k_i (show _ = nI ((4096 * k + ij) + 1) from nI_add _ _) ?_
              refine va_iald hx hb hK hP 1 0 rfl rfl (vp_in_nI (by omega) (by omega)) dX7_write_98 ?_
              refine k_i (show _ = (iF pm) ((4096 * k + ij) + 1) from congrArg (iF pm) (nI_clamp (by omega))) ?_
              refine k_i (show _ = nI (pf (ij + 1)) from congrArg nI (hpm (ij + 1) (by omega))) ?_
              refine lv_istore (lv' := [(6, .int (nI (pf (ij + 1)))), (5, .int (nI (pf ij))), (0, .ref mm), (1, .int (nI k)), (2, .int (nI w)), (3, .int (nI (4096 * k + ij))), (4, .int (nI qj))]) hx hb dX7_write_99 hl (by decide) rfl (fun ls hl => ?_)
              refine lv_iinc (v := nI ((4096 * k + ij) + 2)) (lv' := [(3, .int (nI ((4096 * k + ij) + 2))), (6, .int (nI (pf (ij + 1)))), (5, .int (nI (pf ij))), (0, .ref mm), (1, .int (nI k)), (2, .int (nI w)), (4, .int (nI qj))]) hx hb dX7_write_101 hl (k := 5) rfl (nI_add _ _) (by decide) rfl (fun ls hl => ?_)
              rw [show nI (4096 * k + ij + 2) = nI (4096 * k + (ij + 1 + 1)) from congrArg nI (by omega)] at hl
              refine lv_aload_n hx hb dX7_write_104 rfl (lv_at hl 3 rfl) ?_
              refine lv_iload_n hx hb dX7_write_105 rfl (lv_at hl 5 rfl) ?_
              refine lv_i2l (v := lN w) hx hb dX7_write_106 (nI_l (by omega)) ?_
              refine lv_iconst (v := nI 1) hx hb dX7_write_107 (by decide) ?_
              refine k_cv (wr := [(mb, .inl (cI, 16384, .inl (iF pm))), (mc, .inl (cI, 4, .inl (iF pd))), (md, .inl (cI, 32768, .inl fx))]) (k_rv F (c_M_add l D cI cB cJ cS mm ma mb mc md me mf mg mh 0 dg PT PN n nj w sl t wr pl lo nm b pm pd pq bj ok ol fx vz hw2 (w) 1 (by decide) (by omega)) (cwV 2 hts (g_V wd_482 wd_483 wd_484 wd_373 wd_485) rfl rfl rfl (by decide +kernel) ⟨Nat.le_of_ble_eq_true rfl, Nat.le_of_ble_eq_true rfl⟩) hK hP hD hS hA hZ [0, 4] rfl (by decide) 0 rfl rfl rfl rfl hl.1 rfl (Nat.le_of_ble_eq_true rfl) dX7_write_108 ⟨Nat.le_of_ble_eq_true rfl, Nat.le_of_ble_eq_true rfl⟩) hP hD hS hA [0, 4] [1, 2, 3] rfl rfl (by decide) (by decide) (fun u9 H locs hw hP hD hS => ?_)
              have hP : va_P D kCl [(mb, .inl (cI, 16384, .inl (iF pm))), (mc, .inl (cI, 4, .inl (iF pd))), (md, .inl (cI, 32768, .inl fx)), (mm, .inr (5, [.int (nI 0), .int (nI dg), .int (nI PT), .int (nI PN), .int (nI n), .ref ma, .ref mb, .ref mc, .ref md, .ref me, .int (nI (nj + 1)), .ref mf, .int (nI w), .int (nI sl), .int (nI t), .int (nI wr), .int (nI pl), .int (nI lo), .long (lN nm), .int vz, .ref mg, .ref mh])), (mf, .inl (cI, 131072, .inl (iF (pA (bj) (nj) (w) 1 w 1))))] H := hP
              have hD : va_D A [(mb, .inl (cI, 16384, .inl (iF pm))), (mc, .inl (cI, 4, .inl (iF pd))), (md, .inl (cI, 32768, .inl fx)), (mm, .inr (5, [.int (nI 0), .int (nI dg), .int (nI PT), .int (nI PN), .int (nI n), .ref ma, .ref mb, .ref mc, .ref md, .ref me, .int (nI (nj + 1)), .ref mf, .int (nI w), .int (nI sl), .int (nI t), .int (nI wr), .int (nI pl), .int (nI lo), .long (lN nm), .int vz, .ref mg, .ref mh])), (mf, .inl (cI, 131072, .inl (iF (pA (bj) (nj) (w) 1 w 1))))] := hD
              refine W.widen (k := 0) (n := 0) (Nat.le_of_ble_eq_true rfl) (Nat.le_of_ble_eq_true rfl) ?_
              rw [pA_1] at hP hD
              have hP : va_P D kCl [(mb, .inl (cI, 16384, .inl (iF pm))), (mc, .inl (cI, 4, .inl (iF pd))), (md, .inl (cI, 32768, .inl fx)), (mm, .inr (5, [.int (nI 0), .int (nI dg), .int (nI PT), .int (nI PN), .int (nI n), .ref ma, .ref mb, .ref mc, .ref md, .ref me, .int (nI (nj + 1)), .ref mf, .int (nI w), .int (nI sl), .int (nI t), .int (nI wr), .int (nI pl), .int (nI lo), .long (lN nm), .int vz, .ref mg, .ref mh])), (mf, .inl (cI, 131072, .inl (iF (pA bj nj w 1 0 1))))] H := hP
              have hD : va_D A [(mb, .inl (cI, 16384, .inl (iF pm))), (mc, .inl (cI, 4, .inl (iF pd))), (md, .inl (cI, 32768, .inl fx)), (mm, .inr (5, [.int (nI 0), .int (nI dg), .int (nI PT), .int (nI PN), .int (nI n), .ref ma, .ref mb, .ref mc, .ref md, .ref me, .int (nI (nj + 1)), .ref mf, .int (nI w), .int (nI sl), .int (nI t), .int (nI wr), .int (nI pl), .int (nI lo), .long (lN nm), .int vz, .ref mg, .ref mh])), (mf, .inl (cI, 131072, .inl (iF (pA bj nj w 1 0 1))))] := hD
              refine lv_aload_n hx hb dX7_write_111 rfl (lv_at hl 3 rfl) ?_
              refine lv_iload hx hb dX7_write_112 (lv_at hl 2 rfl) ?_
              refine lv_i2l (v := lN (pf ij)) hx hb dX7_write_114 (nI_l (by omega)) ?_
              refine lv_iconst (v := nI 4) hx hb dX7_write_115 (by decide) ?_
              refine k_cv (wr := [(mb, .inl (cI, 16384, .inl (iF pm))), (mc, .inl (cI, 4, .inl (iF pd))), (md, .inl (cI, 32768, .inl fx))]) (k_rv F (c_M_add l D cI cB cJ cS mm ma mb mc md me mf mg mh 0 dg PT PN n (nj + 1) w sl t wr pl lo nm b pm pd pq (pA bj nj w 1 0 1) ok ol fx vz hw2 (pf ij) 4 (by decide) (by omega)) (cwV 2 hts (g_V wd_482 wd_483 wd_484 wd_373 wd_485) rfl rfl rfl (by decide +kernel) ⟨Nat.le_of_ble_eq_true rfl, Nat.le_of_ble_eq_true rfl⟩) hK hP hD hS hA hZ [3, 4] rfl (by decide) 3 rfl rfl rfl rfl hl.1 rfl (Nat.le_of_ble_eq_true rfl) dX7_write_116 ⟨Nat.le_of_ble_eq_true rfl, Nat.le_of_ble_eq_true rfl⟩) hP hD hS hA [3, 4] [0, 1, 2] rfl rfl (by decide) (by decide) (fun u9 H locs hw hP hD hS => ?_)
              have hP : va_P D kCl [(mb, .inl (cI, 16384, .inl (iF pm))), (mc, .inl (cI, 4, .inl (iF pd))), (md, .inl (cI, 32768, .inl fx)), (mm, .inr (5, [.int (nI 0), .int (nI dg), .int (nI PT), .int (nI PN), .int (nI n), .ref ma, .ref mb, .ref mc, .ref md, .ref me, .int (nI (nj + 1 + 4)), .ref mf, .int (nI w), .int (nI sl), .int (nI t), .int (nI wr), .int (nI pl), .int (nI lo), .long (lN nm), .int vz, .ref mg, .ref mh])), (mf, .inl (cI, 131072, .inl (iF (pA (pA bj nj w 1 0 1) (nj + 1) (pf ij) 4 w 4))))] H := hP
              have hD : va_D A [(mb, .inl (cI, 16384, .inl (iF pm))), (mc, .inl (cI, 4, .inl (iF pd))), (md, .inl (cI, 32768, .inl fx)), (mm, .inr (5, [.int (nI 0), .int (nI dg), .int (nI PT), .int (nI PN), .int (nI n), .ref ma, .ref mb, .ref mc, .ref md, .ref me, .int (nI (nj + 1 + 4)), .ref mf, .int (nI w), .int (nI sl), .int (nI t), .int (nI wr), .int (nI pl), .int (nI lo), .long (lN nm), .int vz, .ref mg, .ref mh])), (mf, .inl (cI, 131072, .inl (iF (pA (pA bj nj w 1 0 1) (nj + 1) (pf ij) 4 w 4))))] := hD
              refine W.widen (k := 0) (n := 0) (Nat.le_of_ble_eq_true rfl) (Nat.le_of_ble_eq_true rfl) ?_
              have hP : va_P D kCl [(mb, .inl (cI, 16384, .inl (iF pm))), (mc, .inl (cI, 4, .inl (iF pd))), (md, .inl (cI, 32768, .inl fx)), (mm, .inr (5, [.int (nI 0), .int (nI dg), .int (nI PT), .int (nI PN), .int (nI n), .ref ma, .ref mb, .ref mc, .ref md, .ref me, .int (nI (nj + 1 + 4)), .ref mf, .int (nI w), .int (nI sl), .int (nI t), .int (nI wr), .int (nI pl), .int (nI lo), .long (lN nm), .int vz, .ref mg, .ref mh])), (mf, .inl (cI, 131072, .inl (iF (wHd pf w bj nj ij))))] H := hP
              have hD : va_D A [(mb, .inl (cI, 16384, .inl (iF pm))), (mc, .inl (cI, 4, .inl (iF pd))), (md, .inl (cI, 32768, .inl fx)), (mm, .inr (5, [.int (nI 0), .int (nI dg), .int (nI PT), .int (nI PN), .int (nI n), .ref ma, .ref mb, .ref mc, .ref md, .ref me, .int (nI (nj + 1 + 4)), .ref mf, .int (nI w), .int (nI sl), .int (nI t), .int (nI wr), .int (nI pl), .int (nI lo), .long (lN nm), .int vz, .ref mg, .ref mh])), (mf, .inl (cI, 131072, .inl (iF (wHd pf w bj nj ij))))] := hD
              refine lv_iload hx hb dX7_write_119 (lv_at hl 2 rfl) ?_
              refine lv_iconst (v := nI 1) hx hb dX7_write_121 (by decide) ?_
              refine k_icmp_le (tgt := 133) (by omega) (by omega) hx hb dX7_write_122 (by decide) (fun h122 => ?_) (fun h122 => ?_)
              · skip
                refine lv_iload hx hb dX7_write_133 (lv_at hl 2 rfl) ?_
                refine lv_iconst (v := nI 1) hx hb dX7_write_135 (by decide) ?_
                refine k_icmp_ne (tgt := 165) (by omega) (by omega) hx hb dX7_write_136 (by decide) (fun h136 => ?_) (fun h136 => ?_)
                · skip
                  exact absurd h136 (by omega)
                · skip
                  have n1 := hp1 (by omega)
                  refine lv_iload hx hb dX7_write_139 (lv_at hl 1 rfl) ?_
                  refine k_if_ne (tgt := 165) (by omega) hx hb dX7_write_141 (by decide) (fun h141 => ?_) (fun h141 => ?_)
                  · skip
                    refine lv_iload hx hb dX7_write_165 (lv_at hl 2 rfl) ?_
                    refine lv_iconst (v := nI 3) hx hb dX7_write_167 (by decide) ?_
                    refine k_icmp_ge (tgt := 182) (by omega) (by omega) hx hb dX7_write_168 (by decide) (fun h168 => ?_) (fun h168 => ?_)
                    · skip
                      exact absurd h168 (by omega)
                    · skip
                      refine lv_aload_n hx hb dX7_write_171 rfl (lv_at hl 3 rfl) ?_
                      refine lv_iload_n hx hb dX7_write_172 rfl (lv_at hl 4 rfl) ?_
                      refine lv_iload hx hb dX7_write_173 (lv_at hl 6 rfl) ?_
                      refine lv_iload hx hb dX7_write_175 (lv_at hl 1 rfl) ?_
                      have hw9 : qj + pf (ij + 1) ≤ vn / 2 ∧ nj + 9 + 16 * pf (ij + 1) ≤ 131072 := by
                        by_cases h1 : pf ij = 1
                        · have q1 := g5 h1
                          have q2 := hp1 h1
                          clear g7
                          constructor <;> omega
                        · have q1 := g6 (by omega)
                          clear g7
                          constructor <;> omega
                      obtain ⟨w8, w9⟩ := hw9
                      have hco : ∀ i, i < 2 * (pf (ij + 1)) → fx (2 * (4096 * k + qj) + i) = fv (2 * qj + i) := fun i hi => by rw [show 2 * (4096 * k + qj) + i = 8192 * k + (2 * qj + i) by omega]; exact hfx _ (by omega)
                      refine k_ci (wr := [(mb, .inl (cI, 16384, .inl (iF pm))), (mc, .inl (cI, 4, .inl (iF pd)))]) (k_rv F (c_M_writePoints l D cI cB cJ cS mm ma mb mc md me mf mg mh 0 dg PT PN n (nj + 1 + 4) w sl t wr pl lo nm b pm pd pq (wHd pf w bj nj ij) ok ol fx vz hdg hw2 k hk qj (pf (ij + 1)) (by omega) (by omega) (fun i hi => by rw [hco i hi]; exact hfv _ (by omega))) (cwV 3 hts (g_V wd_487 wd_488 wd_489 wd_373 wd_490) rfl rfl rfl (by decide +kernel) ⟨Nat.le_of_ble_eq_true rfl, Nat.le_of_ble_eq_true rfl⟩) hK hP hD hS hA hZ [3, 2, 4] rfl (by decide) 3 rfl rfl rfl rfl hl.1 rfl (Nat.le_of_ble_eq_true rfl) dX7_write_177 ⟨Nat.le_of_ble_eq_true rfl, Nat.le_of_ble_eq_true rfl⟩) hP hD hS hA [3, 2, 4] [0, 1] rfl rfl (by decide) (by decide) (fun r u9 H locs hw hP hD hS => ?_)
                      subst hw
                      have hP : va_P D kCl [(mb, .inl (cI, 16384, .inl (iF pm))), (mc, .inl (cI, 4, .inl (iF pd))), (mm, .inr (5, [.int (nI 0), .int (nI dg), .int (nI PT), .int (nI PN), .int (nI n), .ref ma, .ref mb, .ref mc, .ref md, .ref me, .int (nI (nj + 1 + 4 + 8 * (2 * (pf (ij + 1))))), .ref mf, .int (nI w), .int (nI sl), .int (nI t), .int (nI wr), .int (nI pl), .int (nI lo), .long (lN nm), .int vz, .ref mg, .ref mh])), (md, .inl (cI, 32768, .inl fx)), (mf, .inl (cI, 131072, .inl (iF (wCv fx (uD dg) w (wHd pf w bj nj ij) (nj + 1 + 4) (2 * (4096 * k + qj)) (2 * (pf (ij + 1)))))))] H := hP
                      have hD : va_D A [(mb, .inl (cI, 16384, .inl (iF pm))), (mc, .inl (cI, 4, .inl (iF pd))), (mm, .inr (5, [.int (nI 0), .int (nI dg), .int (nI PT), .int (nI PN), .int (nI n), .ref ma, .ref mb, .ref mc, .ref md, .ref me, .int (nI (nj + 1 + 4 + 8 * (2 * (pf (ij + 1))))), .ref mf, .int (nI w), .int (nI sl), .int (nI t), .int (nI wr), .int (nI pl), .int (nI lo), .long (lN nm), .int vz, .ref mg, .ref mh])), (md, .inl (cI, 32768, .inl fx)), (mf, .inl (cI, 131072, .inl (iF (wCv fx (uD dg) w (wHd pf w bj nj ij) (nj + 1 + 4) (2 * (4096 * k + qj)) (2 * (pf (ij + 1)))))))] := hD
                      refine W.widen (k := 0) (n := 0) (Nat.le_of_ble_eq_true rfl) (Nat.le_of_ble_eq_true rfl) ?_
                      rw [wCv_Co (pf (ij + 1)) hco, show nI (nj + 1 + 4 + 8 * (2 * (pf (ij + 1)))) = nI (nj + 1 + 4 + 16 * (pf (ij + 1))) from congrArg nI (by omega)] at hP hD
                      have hP : va_P D kCl [(mb, .inl (cI, 16384, .inl (iF pm))), (mc, .inl (cI, 4, .inl (iF pd))), (mm, .inr (5, [.int (nI 0), .int (nI dg), .int (nI PT), .int (nI PN), .int (nI n), .ref ma, .ref mb, .ref mc, .ref md, .ref me, .int (nI (nj + 1 + 4 + 16 * (pf (ij + 1)))), .ref mf, .int (nI w), .int (nI sl), .int (nI t), .int (nI wr), .int (nI pl), .int (nI lo), .long (lN nm), .int vz, .ref mg, .ref mh])), (md, .inl (cI, 32768, .inl fx)), (mf, .inl (cI, 131072, .inl (iF (wCo fv (uD dg) w (wHd pf w bj nj ij) (nj + 1 + 4) qj (pf (ij + 1))))))] H := hP
                      have hD : va_D A [(mb, .inl (cI, 16384, .inl (iF pm))), (mc, .inl (cI, 4, .inl (iF pd))), (mm, .inr (5, [.int (nI 0), .int (nI dg), .int (nI PT), .int (nI PN), .int (nI n), .ref ma, .ref mb, .ref mc, .ref md, .ref me, .int (nI (nj + 1 + 4 + 16 * (pf (ij + 1)))), .ref mf, .int (nI w), .int (nI sl), .int (nI t), .int (nI wr), .int (nI pl), .int (nI lo), .long (lN nm), .int vz, .ref mg, .ref mh])), (md, .inl (cI, 32768, .inl fx)), (mf, .inl (cI, 131072, .inl (iF (wCo fv (uD dg) w (wHd pf w bj nj ij) (nj + 1 + 4) qj (pf (ij + 1))))))] := hD
                      refine lv_istore (lv' := [(4, .int (nI (qj + pf (ij + 1)))), (3, .int (nI (4096 * k + (ij + 1 + 1)))), (6, .int (nI (pf (ij + 1)))), (5, .int (nI (pf ij))), (0, .ref mm), (1, .int (nI k)), (2, .int (nI w))]) hx hb dX7_write_180 hl (by decide) rfl (fun ls hl => ?_)
                      refine lv_iconst (v := nI 0) hx hb dX7_write_182 (by decide) ?_
                      refine lv_istore (lv' := [(7, .int (nI 0)), (4, .int (nI (qj + pf (ij + 1)))), (3, .int (nI (4096 * k + (ij + 1 + 1)))), (6, .int (nI (pf (ij + 1)))), (5, .int (nI (pf ij))), (0, .ref mm), (1, .int (nI k)), (2, .int (nI w))]) hx hb dX7_write_183 hl (by decide) rfl (fun ls hl => ?_)
                      refine lv_iload hx hb dX7_write_185 (lv_at hl 4 rfl) ?_
                      refine lv_iconst (v := nI 3) hx hb dX7_write_187 (by decide) ?_
                      refine k_icmp_ne (tgt := 234) (by omega) (by omega) hx hb dX7_write_188 (by decide) (fun c571 => ?_) (fun c571 => ?_)
                      · skip
                        refine lv_goto (tgt := 67) hx hb dX7_write_234 (by decide) ?_
                        have E9 : wSt pf fv (uD dg) w bj nj ij qj = (wCo fv (uD dg) w (wHd pf w bj nj ij) (nj + 1 + 4) qj (pf (ij + 1)), nj + 1 + 4 + 16 * (pf (ij + 1)), ij + 1 + 1, qj + pf (ij + 1)) := by unfold wSt; first | (rw [if_pos (by omega), if_neg h141, show pf (ij + 1) = 1 from by have := hp1 (by omega); omega]; done) | rw [if_neg (by omega), if_pos (by omega)]
                        rw [E9] at k9
                        exact ihloop569 (j + 1) (wCo fv (uD dg) w (wHd pf w bj nj ij) (nj + 1 + 4) qj (pf (ij + 1))) (nj + 1 + 4 + 16 * (pf (ij + 1))) (ij + 1 + 1) (qj + pf (ij + 1)) _ _ _ (by omega) (by omega) (by show wSy _ _ _ _ (wIt _ _ _ _ _ j) = _; rw [hY]; exact E9) (k9.1) (k9.2.1) (k9.2.2) (hP.sub [2, 0, 1, 3, 4] rfl) (hD.sub [2, 0, 1, 3, 4] (by decide) rfl) hS (lv_sub hl [5, 6, 7, 2, 1] rfl)
                      · skip
                        exact absurd c571 (by omega)
                  · skip
                    refine lv_aload_n hx hb dX7_write_144 rfl (lv_at hl 3 rfl) ?_
                    refine lv_ldc2 (v := lN 9221120237041090560) hx hb hown (hts (.constantLong RX7 185 (9221120237041090560)) (List.mem_cons_of_mem _ wd_486)) dX7_write_145 ?_
                    refine lv_bipush (v := nI 8) hx hb dX7_write_148 (by decide) ?_
                    refine k_cv (wr := [(mb, .inl (cI, 16384, .inl (iF pm))), (mc, .inl (cI, 4, .inl (iF pd))), (md, .inl (cI, 32768, .inl fx))]) (k_rv F (c_M_add l D cI cB cJ cS mm ma mb mc md me mf mg mh 0 dg PT PN n (nj + 1 + 4) w sl t wr pl lo nm b pm pd pq (wHd pf w bj nj ij) ok ol fx vz hw2 (9221120237041090560) 8 (by decide) (by omega)) (cwV 2 hts (g_V wd_482 wd_483 wd_484 wd_373 wd_485) rfl rfl rfl (by decide +kernel) ⟨Nat.le_of_ble_eq_true rfl, Nat.le_of_ble_eq_true rfl⟩) hK hP hD hS hA hZ [3, 4] rfl (by decide) 3 rfl rfl rfl rfl hl.1 rfl (Nat.le_of_ble_eq_true rfl) dX7_write_150 ⟨Nat.le_of_ble_eq_true rfl, Nat.le_of_ble_eq_true rfl⟩) hP hD hS hA [3, 4] [0, 1, 2] rfl rfl (by decide) (by decide) (fun u9 H locs hw hP hD hS => ?_)
                    have hP : va_P D kCl [(mb, .inl (cI, 16384, .inl (iF pm))), (mc, .inl (cI, 4, .inl (iF pd))), (md, .inl (cI, 32768, .inl fx)), (mm, .inr (5, [.int (nI 0), .int (nI dg), .int (nI PT), .int (nI PN), .int (nI n), .ref ma, .ref mb, .ref mc, .ref md, .ref me, .int (nI (nj + 1 + 4 + 8)), .ref mf, .int (nI w), .int (nI sl), .int (nI t), .int (nI wr), .int (nI pl), .int (nI lo), .long (lN nm), .int vz, .ref mg, .ref mh])), (mf, .inl (cI, 131072, .inl (iF (pA (wHd pf w bj nj ij) (nj + 1 + 4) (9221120237041090560) 8 w 8))))] H := hP
                    have hD : va_D A [(mb, .inl (cI, 16384, .inl (iF pm))), (mc, .inl (cI, 4, .inl (iF pd))), (md, .inl (cI, 32768, .inl fx)), (mm, .inr (5, [.int (nI 0), .int (nI dg), .int (nI PT), .int (nI PN), .int (nI n), .ref ma, .ref mb, .ref mc, .ref md, .ref me, .int (nI (nj + 1 + 4 + 8)), .ref mf, .int (nI w), .int (nI sl), .int (nI t), .int (nI wr), .int (nI pl), .int (nI lo), .long (lN nm), .int vz, .ref mg, .ref mh])), (mf, .inl (cI, 131072, .inl (iF (pA (wHd pf w bj nj ij) (nj + 1 + 4) (9221120237041090560) 8 w 8))))] := hD
                    refine W.widen (k := 0) (n := 0) (Nat.le_of_ble_eq_true rfl) (Nat.le_of_ble_eq_true rfl) ?_
                    refine lv_aload_n hx hb dX7_write_153 rfl (lv_at hl 3 rfl) ?_
                    refine lv_ldc2 (v := lN 9221120237041090560) hx hb hown (hts (.constantLong RX7 185 (9221120237041090560)) (List.mem_cons_of_mem _ wd_486)) dX7_write_154 ?_
                    refine lv_bipush (v := nI 8) hx hb dX7_write_157 (by decide) ?_
                    refine k_cv (wr := [(mb, .inl (cI, 16384, .inl (iF pm))), (mc, .inl (cI, 4, .inl (iF pd))), (md, .inl (cI, 32768, .inl fx))]) (k_rv F (c_M_add l D cI cB cJ cS mm ma mb mc md me mf mg mh 0 dg PT PN n (nj + 1 + 4 + 8) w sl t wr pl lo nm b pm pd pq (pA (wHd pf w bj nj ij) (nj + 1 + 4) (9221120237041090560) 8 w 8) ok ol fx vz hw2 (9221120237041090560) 8 (by decide) (by omega)) (cwV 2 hts (g_V wd_482 wd_483 wd_484 wd_373 wd_485) rfl rfl rfl (by decide +kernel) ⟨Nat.le_of_ble_eq_true rfl, Nat.le_of_ble_eq_true rfl⟩) hK hP hD hS hA hZ [3, 4] rfl (by decide) 3 rfl rfl rfl rfl hl.1 rfl (Nat.le_of_ble_eq_true rfl) dX7_write_159 ⟨Nat.le_of_ble_eq_true rfl, Nat.le_of_ble_eq_true rfl⟩) hP hD hS hA [3, 4] [0, 1, 2] rfl rfl (by decide) (by decide) (fun u9 H locs hw hP hD hS => ?_)
                    have hP : va_P D kCl [(mb, .inl (cI, 16384, .inl (iF pm))), (mc, .inl (cI, 4, .inl (iF pd))), (md, .inl (cI, 32768, .inl fx)), (mm, .inr (5, [.int (nI 0), .int (nI dg), .int (nI PT), .int (nI PN), .int (nI n), .ref ma, .ref mb, .ref mc, .ref md, .ref me, .int (nI (nj + 1 + 4 + 8 + 8)), .ref mf, .int (nI w), .int (nI sl), .int (nI t), .int (nI wr), .int (nI pl), .int (nI lo), .long (lN nm), .int vz, .ref mg, .ref mh])), (mf, .inl (cI, 131072, .inl (iF (pA (pA (wHd pf w bj nj ij) (nj + 1 + 4) (9221120237041090560) 8 w 8) (nj + 1 + 4 + 8) (9221120237041090560) 8 w 8))))] H := hP
                    have hD : va_D A [(mb, .inl (cI, 16384, .inl (iF pm))), (mc, .inl (cI, 4, .inl (iF pd))), (md, .inl (cI, 32768, .inl fx)), (mm, .inr (5, [.int (nI 0), .int (nI dg), .int (nI PT), .int (nI PN), .int (nI n), .ref ma, .ref mb, .ref mc, .ref md, .ref me, .int (nI (nj + 1 + 4 + 8 + 8)), .ref mf, .int (nI w), .int (nI sl), .int (nI t), .int (nI wr), .int (nI pl), .int (nI lo), .long (lN nm), .int vz, .ref mg, .ref mh])), (mf, .inl (cI, 131072, .inl (iF (pA (pA (wHd pf w bj nj ij) (nj + 1 + 4) (9221120237041090560) 8 w 8) (nj + 1 + 4 + 8) (9221120237041090560) 8 w 8))))] := hD
                    refine W.widen (k := 0) (n := 0) (Nat.le_of_ble_eq_true rfl) (Nat.le_of_ble_eq_true rfl) ?_
                    refine lv_goto (tgt := 182) hx hb dX7_write_162 (by decide) ?_
                    refine lv_iconst (v := nI 0) hx hb dX7_write_182 (by decide) ?_
                    refine lv_istore (lv' := [(7, .int (nI 0)), (3, .int (nI (4096 * k + (ij + 1 + 1)))), (6, .int (nI (pf (ij + 1)))), (5, .int (nI (pf ij))), (0, .ref mm), (1, .int (nI k)), (2, .int (nI w)), (4, .int (nI qj))]) hx hb dX7_write_183 hl (by decide) rfl (fun ls hl => ?_)
                    refine lv_iload hx hb dX7_write_185 (lv_at hl 3 rfl) ?_
                    refine lv_iconst (v := nI 3) hx hb dX7_write_187 (by decide) ?_
                    refine k_icmp_ne (tgt := 234) (by omega) (by omega) hx hb dX7_write_188 (by decide) (fun c572 => ?_) (fun c572 => ?_)
                    · skip
                      refine lv_goto (tgt := 67) hx hb dX7_write_234 (by decide) ?_
                      have E9 : wSt pf fv (uD dg) w bj nj ij qj = (pA (pA (wHd pf w bj nj ij) (nj + 1 + 4) (9221120237041090560) 8 w 8) (nj + 1 + 4 + 8) (9221120237041090560) 8 w 8, nj + 1 + 4 + 8 + 8, ij + 1 + 1, qj) := by unfold wSt; rw [if_pos h136, if_pos h141]
                      rw [E9] at k9
                      exact ihloop569 (j + 1) (pA (pA (wHd pf w bj nj ij) (nj + 1 + 4) (9221120237041090560) 8 w 8) (nj + 1 + 4 + 8) (9221120237041090560) 8 w 8) (nj + 1 + 4 + 8 + 8) (ij + 1 + 1) qj _ _ _ (by omega) (by omega) (by show wSy _ _ _ _ (wIt _ _ _ _ _ j) = _; rw [hY]; exact E9) (k9.1) (k9.2.1) (k9.2.2) (hP.sub [3, 0, 1, 2, 4] rfl) (hD.sub [3, 0, 1, 2, 4] (by decide) rfl) hS (lv_sub hl [4, 5, 6, 1, 7] rfl)
                    · skip
                      exact absurd c572 (by omega)
              · skip
                refine lv_aload_n hx hb dX7_write_125 rfl (lv_at hl 3 rfl) ?_
                refine lv_iload hx hb dX7_write_126 (lv_at hl 1 rfl) ?_
                refine lv_i2l (v := lN (sx (pf (ij + 1)))) hx hb dX7_write_128 (sx_eq g3) ?_
                refine lv_iconst (v := nI 4) hx hb dX7_write_129 (by decide) ?_
                refine k_cv (wr := [(mb, .inl (cI, 16384, .inl (iF pm))), (mc, .inl (cI, 4, .inl (iF pd))), (md, .inl (cI, 32768, .inl fx))]) (k_rv F (c_M_add l D cI cB cJ cS mm ma mb mc md me mf mg mh 0 dg PT PN n (nj + 1 + 4) w sl t wr pl lo nm b pm pd pq (wHd pf w bj nj ij) ok ol fx vz hw2 (sx (pf (ij + 1))) 4 (by decide) (by omega)) (cwV 2 hts (g_V wd_482 wd_483 wd_484 wd_373 wd_485) rfl rfl rfl (by decide +kernel) ⟨Nat.le_of_ble_eq_true rfl, Nat.le_of_ble_eq_true rfl⟩) hK hP hD hS hA hZ [3, 4] rfl (by decide) 3 rfl rfl rfl rfl hl.1 rfl (Nat.le_of_ble_eq_true rfl) dX7_write_130 ⟨Nat.le_of_ble_eq_true rfl, Nat.le_of_ble_eq_true rfl⟩) hP hD hS hA [3, 4] [0, 1, 2] rfl rfl (by decide) (by decide) (fun u9 H locs hw hP hD hS => ?_)
                have hP : va_P D kCl [(mb, .inl (cI, 16384, .inl (iF pm))), (mc, .inl (cI, 4, .inl (iF pd))), (md, .inl (cI, 32768, .inl fx)), (mm, .inr (5, [.int (nI 0), .int (nI dg), .int (nI PT), .int (nI PN), .int (nI n), .ref ma, .ref mb, .ref mc, .ref md, .ref me, .int (nI (nj + 1 + 4 + 4)), .ref mf, .int (nI w), .int (nI sl), .int (nI t), .int (nI wr), .int (nI pl), .int (nI lo), .long (lN nm), .int vz, .ref mg, .ref mh])), (mf, .inl (cI, 131072, .inl (iF (pA (wHd pf w bj nj ij) (nj + 1 + 4) (sx (pf (ij + 1))) 4 w 4))))] H := hP
                have hD : va_D A [(mb, .inl (cI, 16384, .inl (iF pm))), (mc, .inl (cI, 4, .inl (iF pd))), (md, .inl (cI, 32768, .inl fx)), (mm, .inr (5, [.int (nI 0), .int (nI dg), .int (nI PT), .int (nI PN), .int (nI n), .ref ma, .ref mb, .ref mc, .ref md, .ref me, .int (nI (nj + 1 + 4 + 4)), .ref mf, .int (nI w), .int (nI sl), .int (nI t), .int (nI wr), .int (nI pl), .int (nI lo), .long (lN nm), .int vz, .ref mg, .ref mh])), (mf, .inl (cI, 131072, .inl (iF (pA (wHd pf w bj nj ij) (nj + 1 + 4) (sx (pf (ij + 1))) 4 w 4))))] := hD
                refine W.widen (k := 0) (n := 0) (Nat.le_of_ble_eq_true rfl) (Nat.le_of_ble_eq_true rfl) ?_
                rw [pA_sx g3] at hP hD
                have hP : va_P D kCl [(mb, .inl (cI, 16384, .inl (iF pm))), (mc, .inl (cI, 4, .inl (iF pd))), (md, .inl (cI, 32768, .inl fx)), (mm, .inr (5, [.int (nI 0), .int (nI dg), .int (nI PT), .int (nI PN), .int (nI n), .ref ma, .ref mb, .ref mc, .ref md, .ref me, .int (nI (nj + 1 + 4 + 4)), .ref mf, .int (nI w), .int (nI sl), .int (nI t), .int (nI wr), .int (nI pl), .int (nI lo), .long (lN nm), .int vz, .ref mg, .ref mh])), (mf, .inl (cI, 131072, .inl (iF (pA (wHd pf w bj nj ij) (nj + 1 + 4) (pf (ij + 1)) 4 w 4))))] H := hP
                have hD : va_D A [(mb, .inl (cI, 16384, .inl (iF pm))), (mc, .inl (cI, 4, .inl (iF pd))), (md, .inl (cI, 32768, .inl fx)), (mm, .inr (5, [.int (nI 0), .int (nI dg), .int (nI PT), .int (nI PN), .int (nI n), .ref ma, .ref mb, .ref mc, .ref md, .ref me, .int (nI (nj + 1 + 4 + 4)), .ref mf, .int (nI w), .int (nI sl), .int (nI t), .int (nI wr), .int (nI pl), .int (nI lo), .long (lN nm), .int vz, .ref mg, .ref mh])), (mf, .inl (cI, 131072, .inl (iF (pA (wHd pf w bj nj ij) (nj + 1 + 4) (pf (ij + 1)) 4 w 4))))] := hD
                refine lv_iload hx hb dX7_write_133 (lv_at hl 2 rfl) ?_
                refine lv_iconst (v := nI 1) hx hb dX7_write_135 (by decide) ?_
                refine k_icmp_ne (tgt := 165) (by omega) (by omega) hx hb dX7_write_136 (by decide) (fun h136 => ?_) (fun h136 => ?_)
                · skip
                  refine lv_iload hx hb dX7_write_165 (lv_at hl 2 rfl) ?_
                  refine lv_iconst (v := nI 3) hx hb dX7_write_167 (by decide) ?_
                  refine k_icmp_ge (tgt := 182) (by omega) (by omega) hx hb dX7_write_168 (by decide) (fun h168 => ?_) (fun h168 => ?_)
                  · skip
                    by_cases h3 : pf ij = 3
                    · skip
                      have g8 := g7 h3
                      have hR31 := rings_lt g8 (by omega)
                      clear g7
                      refine lv_iconst (v := nI 0) hx hb dX7_write_182 (by decide) ?_
                      refine lv_istore (lv' := [(7, .int (nI 0)), (3, .int (nI (4096 * k + (ij + 1 + 1)))), (6, .int (nI (pf (ij + 1)))), (5, .int (nI (pf ij))), (0, .ref mm), (1, .int (nI k)), (2, .int (nI w)), (4, .int (nI qj))]) hx hb dX7_write_183 hl (by decide) rfl (fun ls hl => ?_)
                      have loop573 : ∀ (k574 : Nat) (r9 : Nat) (br : Nat → Nat) (nr : Nat) (ir : Nat) (qr : Nat) (H : Heap) (locs : List Loc) (ls : Array Slot), pf (ij + 1) - r9 < k574 → (r9 ≤ pf (ij + 1)) → (wRi pf fv (uD dg) w (pA (wHd pf w bj nj ij) (nj + 1 + 4) (pf (ij + 1)) 4 w 4, nj + 1 + 4 + 4, ij + 1 + 1, qj) r9 = (br, nr, ir, qr)) → (nr ≤ 65536) → (ir ≤ pn) → (qr ≤ vn / 2) → va_P D kCl [(mm, .inr (5, [.int (nI 0), .int (nI dg), .int (nI PT), .int (nI PN), .int (nI n), .ref ma, .ref mb, .ref mc, .ref md, .ref me, .int (nI nr), .ref mf, .int (nI w), .int (nI sl), .int (nI t), .int (nI wr), .int (nI pl), .int (nI lo), .long (lN nm), .int vz, .ref mg, .ref mh])), (mb, .inl (cI, 16384, .inl (iF pm))), (mc, .inl (cI, 4, .inl (iF pd))), (md, .inl (cI, 32768, .inl fx)), (mf, .inl (cI, 131072, .inl (iF br)))] H → va_D A [(mm, .inr (5, [.int (nI 0), .int (nI dg), .int (nI PT), .int (nI PN), .int (nI n), .ref ma, .ref mb, .ref mc, .ref md, .ref me, .int (nI nr), .ref mf, .int (nI w), .int (nI sl), .int (nI t), .int (nI wr), .int (nI pl), .int (nI lo), .long (lN nm), .int vz, .ref mg, .ref mh])), (mb, .inl (cI, 16384, .inl (iF pm))), (mc, .inl (cI, 4, .inl (iF pd))), (md, .inl (cI, 32768, .inl fx)), (mf, .inl (cI, 131072, .inl (iF br)))] → va_S A s.heap H locs → lv_has ls 8 [(0, .ref mm), (1, .int (nI k)), (2, .int (nI w)), (3, .int (nI (4096 * k + ir))), (4, .int (nI qr)), (5, .int (nI (pf ij))), (6, .int (nI (pf (ij + 1)))), (7, .int (nI r9))] → W p l e ({ frames := 3, cells := 0, slots := 0, locals := 75 }) s m ([.ref mm, .int (nI k), .int (nI w)] : List Value).toArray below meth c H locs 0 0 (MQ below ((kQi D (kT cI cB cJ cS) (fun r (ug : Unit) => r = nI nf) (fun ug => [(mm, .inr (5, [.int (nI 0), .int (nI dg), .int (nI PT), .int (nI PN), .int (nI n), .ref ma, .ref mb, .ref mc, .ref md, .ref me, .int (nI nf), .ref mf, .int (nI w), .int (nI sl), .int (nI t), .int (nI wr), .int (nI pl), .int (nI lo), .long (lN nm), .int vz, .ref mg, .ref mh])), (mb, .inl (cI, 16384, .inl (iF pm))), (mc, .inl (cI, 4, .inl (iF pd))), (md, .inl (cI, 32768, .inl fx)), (mf, .inl (cI, 131072, .inl (iF bf)))])) A) ([.ref mm, .int (nI k), .int (nI w)] : List Value).toArray s ({ frames := 3, cells := 0, slots := 0, locals := 75 } : Room).cells ({ frames := 3, cells := 0, slots := 0, locals := 75 } : Room).slots A) (F0 m 185 ls []) := by
                        intro k574
                        induction k574 with
                        | zero =>
                          intro r9 br nr ir qr H locs ls hk9
                          exact absurd hk9 (Nat.not_lt_zero _)
                        | succ k574 ihloop573 =>
                          intro r9 br nr ir qr H locs ls hk9 hr9 hYr hnr hir hqr hP hD hS hl
                          refine lv_iload hx hb dX7_write_185 (lv_at hl 5 rfl) ?_
                          refine lv_iconst (v := nI 3) hx hb dX7_write_187 (by decide) ?_
                          refine k_icmp_ne (tgt := 234) (by omega) (by omega) hx hb dX7_write_188 (by decide) (fun c575 => ?_) (fun c575 => ?_)
                          · skip
                            exact absurd c575 (by omega)
                          · skip
                            refine lv_iload hx hb dX7_write_191 (lv_at hl 7 rfl) ?_
                            refine lv_iload hx hb dX7_write_193 (lv_at hl 6 rfl) ?_
                            refine k_icmp_ge (tgt := 234) (by omega) (by omega) hx hb dX7_write_195 (by decide) (fun h195 => ?_) (fun h195 => ?_)
                            · skip
                              refine lv_goto (tgt := 67) hx hb dX7_write_234 (by decide) ?_
                              have E9 : wSt pf fv (uD dg) w bj nj ij qj = (br, nr, ir, qr) := by unfold wSt; rw [if_neg (by omega), if_neg (by omega), if_pos h3]; have er : r9 = pf (ij + 1) := (by omega); rw [er] at hYr; exact hYr
                              rw [E9] at k9
                              exact ihloop569 (j + 1) br nr ir qr _ _ _ (by omega) (by omega) (by show wSy _ _ _ _ (wIt _ _ _ _ _ j) = _; rw [hY]; exact E9) (k9.1) (k9.2.1) (k9.2.2) (hP.sub [0, 1, 2, 3, 4] rfl) (hD.sub [0, 1, 2, 3, 4] (by decide) rfl) hS (lv_sub hl [0, 1, 2, 3, 4] rfl)
                            · skip
                              have hgr := g8 r9 (by omega)
                              rw [hYr] at hgr
                              obtain ⟨q1, q2, q3⟩ := hgr
                              have q1 : ir < pn := q1
                              have q2 : qr + pf ir ≤ vn / 2 := q2
                              have q3 : nr + 4 + 16 * pf ir ≤ 65536 := q3
                              refine lv_aload_n hx hb dX7_write_198 rfl (lv_at hl 0 rfl) ?_
                              refine lv_aload_n hx hb dX7_write_199 rfl (lv_at hl 0 rfl) ?_
                              refine va_get (D := D) (ci := 5) (v := .ref mb) (C := RX7) (T := TX7) (N := 22) hx hb hts inX7 hown hK hP 0 rfl rfl 6 (by decide) (hts (.fieldLink RX7 14 "ByteShapesModel" "plan" "[I") (List.mem_cons_of_mem _ wd_392)) (fun _ h9 => h9) rfl dX7_write_200 ?_
                              refine lv_iload_n hx hb dX7_write_203 rfl (lv_at hl 3 rfl) ?_
                              refine va_iald hx hb hK hP 1 0 rfl rfl (vp_in_nI (by omega) (by omega)) dX7_write_204 ?_
                              refine k_i (show _ = (iF pm) (4096 * k + ir) from congrArg (iF pm) (nI_clamp (by omega))) ?_
                              refine k_i (show _ = nI (pf ir) from congrArg nI (hpm ir (by omega))) ?_
                              refine lv_i2l (v := lN (pf ir)) hx hb dX7_write_205 (nI_l (by omega)) ?_
                              refine lv_iconst (v := nI 4) hx hb dX7_write_206 (by decide) ?_
                              refine k_cv (wr := [(mb, .inl (cI, 16384, .inl (iF pm))), (mc, .inl (cI, 4, .inl (iF pd))), (md, .inl (cI, 32768, .inl fx))]) (k_rv F (c_M_add l D cI cB cJ cS mm ma mb mc md me mf mg mh 0 dg PT PN n nr w sl t wr pl lo nm b pm pd pq br ok ol fx vz hw2 (pf ir) 4 (by decide) (by omega)) (cwV 2 hts (g_V wd_482 wd_483 wd_484 wd_373 wd_485) rfl rfl rfl (by decide +kernel) ⟨Nat.le_of_ble_eq_true rfl, Nat.le_of_ble_eq_true rfl⟩) hK hP hD hS hA hZ [0, 4] rfl (by decide) 0 rfl rfl rfl rfl hl.1 rfl (Nat.le_of_ble_eq_true rfl) dX7_write_207 ⟨Nat.le_of_ble_eq_true rfl, Nat.le_of_ble_eq_true rfl⟩) hP hD hS hA [0, 4] [1, 2, 3] rfl rfl (by decide) (by decide) (fun u9 H locs hw hP hD hS => ?_)
                              have hP : va_P D kCl [(mb, .inl (cI, 16384, .inl (iF pm))), (mc, .inl (cI, 4, .inl (iF pd))), (md, .inl (cI, 32768, .inl fx)), (mm, .inr (5, [.int (nI 0), .int (nI dg), .int (nI PT), .int (nI PN), .int (nI n), .ref ma, .ref mb, .ref mc, .ref md, .ref me, .int (nI (nr + 4)), .ref mf, .int (nI w), .int (nI sl), .int (nI t), .int (nI wr), .int (nI pl), .int (nI lo), .long (lN nm), .int vz, .ref mg, .ref mh])), (mf, .inl (cI, 131072, .inl (iF (pA (br) (nr) (pf ir) 4 w 4))))] H := hP
                              have hD : va_D A [(mb, .inl (cI, 16384, .inl (iF pm))), (mc, .inl (cI, 4, .inl (iF pd))), (md, .inl (cI, 32768, .inl fx)), (mm, .inr (5, [.int (nI 0), .int (nI dg), .int (nI PT), .int (nI PN), .int (nI n), .ref ma, .ref mb, .ref mc, .ref md, .ref me, .int (nI (nr + 4)), .ref mf, .int (nI w), .int (nI sl), .int (nI t), .int (nI wr), .int (nI pl), .int (nI lo), .long (lN nm), .int vz, .ref mg, .ref mh])), (mf, .inl (cI, 131072, .inl (iF (pA (br) (nr) (pf ir) 4 w 4))))] := hD
                              refine W.widen (k := 0) (n := 0) (Nat.le_of_ble_eq_true rfl) (Nat.le_of_ble_eq_true rfl) ?_
                              refine lv_aload_n hx hb dX7_write_210 rfl (lv_at hl 0 rfl) ?_
                              refine lv_iload_n hx hb dX7_write_211 rfl (lv_at hl 1 rfl) ?_
                              refine lv_iload hx hb dX7_write_212 (lv_at hl 4 rfl) ?_
                              refine lv_aload_n hx hb dX7_write_214 rfl (lv_at hl 0 rfl) ?_
                              refine va_get (D := D) (ci := 5) (v := .ref mb) (C := RX7) (T := TX7) (N := 22) hx hb hts inX7 hown hK hP 3 rfl rfl 6 (by decide) (hts (.fieldLink RX7 14 "ByteShapesModel" "plan" "[I") (List.mem_cons_of_mem _ wd_392)) (fun _ h9 => h9) rfl dX7_write_215 ?_
                              refine lv_iload_n hx hb dX7_write_218 rfl (lv_at hl 3 rfl) ?_
                              refine va_iald hx hb hK hP 0 0 rfl rfl (vp_in_nI (by omega) (by omega)) dX7_write_219 ?_
                              refine k_i (show _ = (iF pm) (4096 * k + ir) from congrArg (iF pm) (nI_clamp (by omega))) ?_
                              refine k_i (show _ = nI (pf ir) from congrArg nI (hpm ir (by omega))) ?_
                              have hco : ∀ i, i < 2 * (pf ir) → fx (2 * (4096 * k + qr) + i) = fv (2 * qr + i) := fun i hi => by rw [show 2 * (4096 * k + qr) + i = 8192 * k + (2 * qr + i) by omega]; exact hfx _ (by omega)
                              refine k_ci (wr := [(mb, .inl (cI, 16384, .inl (iF pm))), (mc, .inl (cI, 4, .inl (iF pd)))]) (k_rv F (c_M_writePoints l D cI cB cJ cS mm ma mb mc md me mf mg mh 0 dg PT PN n (nr + 4) w sl t wr pl lo nm b pm pd pq (pA (br) (nr) (pf ir) 4 w 4) ok ol fx vz hdg hw2 k hk qr (pf ir) (by omega) (by omega) (fun i hi => by rw [hco i hi]; exact hfv _ (by omega))) (cwV 3 hts (g_V wd_487 wd_488 wd_489 wd_373 wd_490) rfl rfl rfl (by decide +kernel) ⟨Nat.le_of_ble_eq_true rfl, Nat.le_of_ble_eq_true rfl⟩) hK hP hD hS hA hZ [3, 2, 4] rfl (by decide) 3 rfl rfl rfl rfl hl.1 rfl (Nat.le_of_ble_eq_true rfl) dX7_write_220 ⟨Nat.le_of_ble_eq_true rfl, Nat.le_of_ble_eq_true rfl⟩) hP hD hS hA [3, 2, 4] [0, 1] rfl rfl (by decide) (by decide) (fun r u9 H locs hw hP hD hS => ?_)
                              subst hw
                              have hP : va_P D kCl [(mb, .inl (cI, 16384, .inl (iF pm))), (mc, .inl (cI, 4, .inl (iF pd))), (mm, .inr (5, [.int (nI 0), .int (nI dg), .int (nI PT), .int (nI PN), .int (nI n), .ref ma, .ref mb, .ref mc, .ref md, .ref me, .int (nI (nr + 4 + 8 * (2 * (pf ir)))), .ref mf, .int (nI w), .int (nI sl), .int (nI t), .int (nI wr), .int (nI pl), .int (nI lo), .long (lN nm), .int vz, .ref mg, .ref mh])), (md, .inl (cI, 32768, .inl fx)), (mf, .inl (cI, 131072, .inl (iF (wCv fx (uD dg) w (pA (br) (nr) (pf ir) 4 w 4) (nr + 4) (2 * (4096 * k + qr)) (2 * (pf ir))))))] H := hP
                              have hD : va_D A [(mb, .inl (cI, 16384, .inl (iF pm))), (mc, .inl (cI, 4, .inl (iF pd))), (mm, .inr (5, [.int (nI 0), .int (nI dg), .int (nI PT), .int (nI PN), .int (nI n), .ref ma, .ref mb, .ref mc, .ref md, .ref me, .int (nI (nr + 4 + 8 * (2 * (pf ir)))), .ref mf, .int (nI w), .int (nI sl), .int (nI t), .int (nI wr), .int (nI pl), .int (nI lo), .long (lN nm), .int vz, .ref mg, .ref mh])), (md, .inl (cI, 32768, .inl fx)), (mf, .inl (cI, 131072, .inl (iF (wCv fx (uD dg) w (pA (br) (nr) (pf ir) 4 w 4) (nr + 4) (2 * (4096 * k + qr)) (2 * (pf ir))))))] := hD
                              refine W.widen (k := 0) (n := 0) (Nat.le_of_ble_eq_true rfl) (Nat.le_of_ble_eq_true rfl) ?_
                              rw [wCv_Co (pf ir) hco, show nI (nr + 4 + 8 * (2 * (pf ir))) = nI (nr + 4 + 16 * (pf ir)) from congrArg nI (by omega)] at hP hD
                              have hP : va_P D kCl [(mb, .inl (cI, 16384, .inl (iF pm))), (mc, .inl (cI, 4, .inl (iF pd))), (mm, .inr (5, [.int (nI 0), .int (nI dg), .int (nI PT), .int (nI PN), .int (nI n), .ref ma, .ref mb, .ref mc, .ref md, .ref me, .int (nI (nr + 4 + 16 * (pf ir))), .ref mf, .int (nI w), .int (nI sl), .int (nI t), .int (nI wr), .int (nI pl), .int (nI lo), .long (lN nm), .int vz, .ref mg, .ref mh])), (md, .inl (cI, 32768, .inl fx)), (mf, .inl (cI, 131072, .inl (iF (wCo fv (uD dg) w (pA (br) (nr) (pf ir) 4 w 4) (nr + 4) qr (pf ir)))))] H := hP
                              have hD : va_D A [(mb, .inl (cI, 16384, .inl (iF pm))), (mc, .inl (cI, 4, .inl (iF pd))), (mm, .inr (5, [.int (nI 0), .int (nI dg), .int (nI PT), .int (nI PN), .int (nI n), .ref ma, .ref mb, .ref mc, .ref md, .ref me, .int (nI (nr + 4 + 16 * (pf ir))), .ref mf, .int (nI w), .int (nI sl), .int (nI t), .int (nI wr), .int (nI pl), .int (nI lo), .long (lN nm), .int vz, .ref mg, .ref mh])), (md, .inl (cI, 32768, .inl fx)), (mf, .inl (cI, 131072, .inl (iF (wCo fv (uD dg) w (pA (br) (nr) (pf ir) 4 w 4) (nr + 4) qr (pf ir)))))] := hD
                              refine lv_istore (lv' := [(4, .int (nI (qr + pf ir))), (0, .ref mm), (1, .int (nI k)), (2, .int (nI w)), (3, .int (nI (4096 * k + ir))), (5, .int (nI (pf ij))), (6, .int (nI (pf (ij + 1)))), (7, .int (nI r9))]) hx hb dX7_write_223 hl (by decide) rfl (fun ls hl => ?_)
                              refine lv_iinc (v := nI ((4096 * k + ir) + 1)) (lv' := [(3, .int (nI ((4096 * k + ir) + 1))), (4, .int (nI (qr + pf ir))), (0, .ref mm), (1, .int (nI k)), (2, .int (nI w)), (5, .int (nI (pf ij))), (6, .int (nI (pf (ij + 1)))), (7, .int (nI r9))]) hx hb dX7_write_225 hl (k := 4) rfl (nI_add _ _) (by decide) rfl (fun ls hl => ?_)
                              rw [show nI (4096 * k + ir + 1) = nI (4096 * k + (ir + 1)) from congrArg nI (by omega)] at hl
                              refine lv_iinc (v := nI (r9 + 1)) (lv' := [(7, .int (nI (r9 + 1))), (3, .int (nI (4096 * k + (ir + 1)))), (4, .int (nI (qr + pf ir))), (0, .ref mm), (1, .int (nI k)), (2, .int (nI w)), (5, .int (nI (pf ij))), (6, .int (nI (pf (ij + 1))))]) hx hb dX7_write_228 hl (k := 7) rfl (nI_add _ _) (by decide) rfl (fun ls hl => ?_)
                              refine lv_goto (tgt := 185) hx hb dX7_write_231 (by decide) ?_
                              exact ihloop573 (r9 + 1) (wCo fv (uD dg) w (pA br nr (pf ir) 4 w 4) (nr + 4) qr (pf ir)) (nr + 4 + 16 * pf ir) (ir + 1) (qr + pf ir) _ _ _ (by omega) (by omega) (by show (wCo _ _ _ _ _ _ _, _, _, _) = _; rw [hYr]) (by omega) (by omega) (by omega) (hP.sub [2, 0, 1, 3, 4] rfl) (hD.sub [2, 0, 1, 3, 4] (by decide) rfl) hS (lv_sub hl [3, 4, 5, 1, 2, 6, 7, 0] rfl)
                      exact loop573 ((pf (ij + 1) - 0) + 1) 0 (pA (wHd pf w bj nj ij) (nj + 1 + 4) (pf (ij + 1)) 4 w 4) (nj + 1 + 4 + 4) (ij + 1 + 1) qj _ _ _ (Nat.lt_succ_self _) (Nat.zero_le _) (rfl) (by omega) (by omega) (hqj) (hP.sub [3, 0, 1, 2, 4] rfl) (hD.sub [3, 0, 1, 2, 4] (by decide) rfl) hS (lv_sub hl [4, 5, 6, 1, 7, 3, 2, 0] rfl)
                    · skip
                      refine lv_iconst (v := nI 0) hx hb dX7_write_182 (by decide) ?_
                      refine lv_istore (lv' := [(7, .int (nI 0)), (3, .int (nI (4096 * k + (ij + 1 + 1)))), (6, .int (nI (pf (ij + 1)))), (5, .int (nI (pf ij))), (0, .ref mm), (1, .int (nI k)), (2, .int (nI w)), (4, .int (nI qj))]) hx hb dX7_write_183 hl (by decide) rfl (fun ls hl => ?_)
                      refine lv_iload hx hb dX7_write_185 (lv_at hl 3 rfl) ?_
                      refine lv_iconst (v := nI 3) hx hb dX7_write_187 (by decide) ?_
                      refine k_icmp_ne (tgt := 234) (by omega) (by omega) hx hb dX7_write_188 (by decide) (fun c576 => ?_) (fun c576 => ?_)
                      · skip
                        refine lv_goto (tgt := 67) hx hb dX7_write_234 (by decide) ?_
                        have E9 : wSt pf fv (uD dg) w bj nj ij qj = (pA (wHd pf w bj nj ij) (nj + 1 + 4) (pf (ij + 1)) 4 w 4, nj + 1 + 4 + 4, ij + 1 + 1, qj) := by unfold wSt; rw [if_neg (by omega), if_neg (by omega), if_neg h3]
                        rw [E9] at k9
                        exact ihloop569 (j + 1) (pA (wHd pf w bj nj ij) (nj + 1 + 4) (pf (ij + 1)) 4 w 4) (nj + 1 + 4 + 4) (ij + 1 + 1) qj _ _ _ (by omega) (by omega) (by show wSy _ _ _ _ (wIt _ _ _ _ _ j) = _; rw [hY]; exact E9) (k9.1) (k9.2.1) (k9.2.2) (hP.sub [3, 0, 1, 2, 4] rfl) (hD.sub [3, 0, 1, 2, 4] (by decide) rfl) hS (lv_sub hl [4, 5, 6, 1, 7] rfl)
                      · skip
                        exact absurd c576 (by omega)
                  · skip
                    refine lv_aload_n hx hb dX7_write_171 rfl (lv_at hl 3 rfl) ?_
                    refine lv_iload_n hx hb dX7_write_172 rfl (lv_at hl 4 rfl) ?_
                    refine lv_iload hx hb dX7_write_173 (lv_at hl 6 rfl) ?_
                    refine lv_iload hx hb dX7_write_175 (lv_at hl 1 rfl) ?_
                    have hw9 : qj + pf (ij + 1) ≤ vn / 2 ∧ nj + 9 + 16 * pf (ij + 1) ≤ 131072 := by
                      by_cases h1 : pf ij = 1
                      · have q1 := g5 h1
                        have q2 := hp1 h1
                        clear g7
                        constructor <;> omega
                      · have q1 := g6 (by omega)
                        clear g7
                        constructor <;> omega
                    obtain ⟨w8, w9⟩ := hw9
                    have hco : ∀ i, i < 2 * (pf (ij + 1)) → fx (2 * (4096 * k + qj) + i) = fv (2 * qj + i) := fun i hi => by rw [show 2 * (4096 * k + qj) + i = 8192 * k + (2 * qj + i) by omega]; exact hfx _ (by omega)
                    refine k_ci (wr := [(mb, .inl (cI, 16384, .inl (iF pm))), (mc, .inl (cI, 4, .inl (iF pd)))]) (k_rv F (c_M_writePoints l D cI cB cJ cS mm ma mb mc md me mf mg mh 0 dg PT PN n (nj + 1 + 4 + 4) w sl t wr pl lo nm b pm pd pq (pA (wHd pf w bj nj ij) (nj + 1 + 4) (pf (ij + 1)) 4 w 4) ok ol fx vz hdg hw2 k hk qj (pf (ij + 1)) (by omega) (by omega) (fun i hi => by rw [hco i hi]; exact hfv _ (by omega))) (cwV 3 hts (g_V wd_487 wd_488 wd_489 wd_373 wd_490) rfl rfl rfl (by decide +kernel) ⟨Nat.le_of_ble_eq_true rfl, Nat.le_of_ble_eq_true rfl⟩) hK hP hD hS hA hZ [3, 2, 4] rfl (by decide) 3 rfl rfl rfl rfl hl.1 rfl (Nat.le_of_ble_eq_true rfl) dX7_write_177 ⟨Nat.le_of_ble_eq_true rfl, Nat.le_of_ble_eq_true rfl⟩) hP hD hS hA [3, 2, 4] [0, 1] rfl rfl (by decide) (by decide) (fun r u9 H locs hw hP hD hS => ?_)
                    subst hw
                    have hP : va_P D kCl [(mb, .inl (cI, 16384, .inl (iF pm))), (mc, .inl (cI, 4, .inl (iF pd))), (mm, .inr (5, [.int (nI 0), .int (nI dg), .int (nI PT), .int (nI PN), .int (nI n), .ref ma, .ref mb, .ref mc, .ref md, .ref me, .int (nI (nj + 1 + 4 + 4 + 8 * (2 * (pf (ij + 1))))), .ref mf, .int (nI w), .int (nI sl), .int (nI t), .int (nI wr), .int (nI pl), .int (nI lo), .long (lN nm), .int vz, .ref mg, .ref mh])), (md, .inl (cI, 32768, .inl fx)), (mf, .inl (cI, 131072, .inl (iF (wCv fx (uD dg) w (pA (wHd pf w bj nj ij) (nj + 1 + 4) (pf (ij + 1)) 4 w 4) (nj + 1 + 4 + 4) (2 * (4096 * k + qj)) (2 * (pf (ij + 1)))))))] H := hP
                    have hD : va_D A [(mb, .inl (cI, 16384, .inl (iF pm))), (mc, .inl (cI, 4, .inl (iF pd))), (mm, .inr (5, [.int (nI 0), .int (nI dg), .int (nI PT), .int (nI PN), .int (nI n), .ref ma, .ref mb, .ref mc, .ref md, .ref me, .int (nI (nj + 1 + 4 + 4 + 8 * (2 * (pf (ij + 1))))), .ref mf, .int (nI w), .int (nI sl), .int (nI t), .int (nI wr), .int (nI pl), .int (nI lo), .long (lN nm), .int vz, .ref mg, .ref mh])), (md, .inl (cI, 32768, .inl fx)), (mf, .inl (cI, 131072, .inl (iF (wCv fx (uD dg) w (pA (wHd pf w bj nj ij) (nj + 1 + 4) (pf (ij + 1)) 4 w 4) (nj + 1 + 4 + 4) (2 * (4096 * k + qj)) (2 * (pf (ij + 1)))))))] := hD
                    refine W.widen (k := 0) (n := 0) (Nat.le_of_ble_eq_true rfl) (Nat.le_of_ble_eq_true rfl) ?_
                    rw [wCv_Co (pf (ij + 1)) hco, show nI (nj + 1 + 4 + 4 + 8 * (2 * (pf (ij + 1)))) = nI (nj + 1 + 4 + 4 + 16 * (pf (ij + 1))) from congrArg nI (by omega)] at hP hD
                    have hP : va_P D kCl [(mb, .inl (cI, 16384, .inl (iF pm))), (mc, .inl (cI, 4, .inl (iF pd))), (mm, .inr (5, [.int (nI 0), .int (nI dg), .int (nI PT), .int (nI PN), .int (nI n), .ref ma, .ref mb, .ref mc, .ref md, .ref me, .int (nI (nj + 1 + 4 + 4 + 16 * (pf (ij + 1)))), .ref mf, .int (nI w), .int (nI sl), .int (nI t), .int (nI wr), .int (nI pl), .int (nI lo), .long (lN nm), .int vz, .ref mg, .ref mh])), (md, .inl (cI, 32768, .inl fx)), (mf, .inl (cI, 131072, .inl (iF (wCo fv (uD dg) w (pA (wHd pf w bj nj ij) (nj + 1 + 4) (pf (ij + 1)) 4 w 4) (nj + 1 + 4 + 4) qj (pf (ij + 1))))))] H := hP
                    have hD : va_D A [(mb, .inl (cI, 16384, .inl (iF pm))), (mc, .inl (cI, 4, .inl (iF pd))), (mm, .inr (5, [.int (nI 0), .int (nI dg), .int (nI PT), .int (nI PN), .int (nI n), .ref ma, .ref mb, .ref mc, .ref md, .ref me, .int (nI (nj + 1 + 4 + 4 + 16 * (pf (ij + 1)))), .ref mf, .int (nI w), .int (nI sl), .int (nI t), .int (nI wr), .int (nI pl), .int (nI lo), .long (lN nm), .int vz, .ref mg, .ref mh])), (md, .inl (cI, 32768, .inl fx)), (mf, .inl (cI, 131072, .inl (iF (wCo fv (uD dg) w (pA (wHd pf w bj nj ij) (nj + 1 + 4) (pf (ij + 1)) 4 w 4) (nj + 1 + 4 + 4) qj (pf (ij + 1))))))] := hD
                    refine lv_istore (lv' := [(4, .int (nI (qj + pf (ij + 1)))), (3, .int (nI (4096 * k + (ij + 1 + 1)))), (6, .int (nI (pf (ij + 1)))), (5, .int (nI (pf ij))), (0, .ref mm), (1, .int (nI k)), (2, .int (nI w))]) hx hb dX7_write_180 hl (by decide) rfl (fun ls hl => ?_)
                    refine lv_iconst (v := nI 0) hx hb dX7_write_182 (by decide) ?_
                    refine lv_istore (lv' := [(7, .int (nI 0)), (4, .int (nI (qj + pf (ij + 1)))), (3, .int (nI (4096 * k + (ij + 1 + 1)))), (6, .int (nI (pf (ij + 1)))), (5, .int (nI (pf ij))), (0, .ref mm), (1, .int (nI k)), (2, .int (nI w))]) hx hb dX7_write_183 hl (by decide) rfl (fun ls hl => ?_)
                    refine lv_iload hx hb dX7_write_185 (lv_at hl 4 rfl) ?_
                    refine lv_iconst (v := nI 3) hx hb dX7_write_187 (by decide) ?_
                    refine k_icmp_ne (tgt := 234) (by omega) (by omega) hx hb dX7_write_188 (by decide) (fun c577 => ?_) (fun c577 => ?_)
                    · skip
                      refine lv_goto (tgt := 67) hx hb dX7_write_234 (by decide) ?_
                      have E9 : wSt pf fv (uD dg) w bj nj ij qj = (wCo fv (uD dg) w (pA (wHd pf w bj nj ij) (nj + 1 + 4) (pf (ij + 1)) 4 w 4) (nj + 1 + 4 + 4) qj (pf (ij + 1)), nj + 1 + 4 + 4 + 16 * (pf (ij + 1)), ij + 1 + 1, qj + pf (ij + 1)) := by unfold wSt; first | (rw [if_pos (by omega), if_neg h141, show pf (ij + 1) = 1 from by have := hp1 (by omega); omega]; done) | rw [if_neg (by omega), if_pos (by omega)]
                      rw [E9] at k9
                      exact ihloop569 (j + 1) (wCo fv (uD dg) w (pA (wHd pf w bj nj ij) (nj + 1 + 4) (pf (ij + 1)) 4 w 4) (nj + 1 + 4 + 4) qj (pf (ij + 1))) (nj + 1 + 4 + 4 + 16 * (pf (ij + 1))) (ij + 1 + 1) (qj + pf (ij + 1)) _ _ _ (by omega) (by omega) (by show wSy _ _ _ _ (wIt _ _ _ _ _ j) = _; rw [hY]; exact E9) (k9.1) (k9.2.1) (k9.2.2) (hP.sub [2, 0, 1, 3, 4] rfl) (hD.sub [2, 0, 1, 3, 4] (by decide) rfl) hS (lv_sub hl [5, 6, 7, 2, 1] rfl)
                    · skip
                      exact absurd c577 (by omega)
                · skip
                  exact absurd h136 (by omega)
        exact loop569 ((J - 0) + 1) 0 rb 0 0 0 _ _ _ (Nat.lt_succ_self _) (Nat.zero_le _) (rfl) (by omega) (by omega) (by omega) (hP.sub [0, 1, 2, 3, 4] rfl) (hD.sub [0, 1, 2, 3, 4] (by decide) rfl) hS (lv_sub hl [2, 3, 4, 1, 0] rfl)
      · skip
        exact absurd c568 (by omega)
    · skip
      exact absurd c567 (by omega)
  · skip
    exact absurd c566 (by omega)

