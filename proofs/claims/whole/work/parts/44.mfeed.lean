set_option maxRecDepth 100000 in
set_option maxHeartbeats 4000000 in
theorem c_M_feed (l : Launch) (D : va_G) (cI cB cJ cS : ClassId) (mm ma mb mc md me mf mg mh th dg PT PN n sz od sl t wr pl lo nm : Nat) (b pm pd pq rb ok ol : Nat → Nat) (fx : Nat → Int32) (vz : Int32) (hn : n ≤ 65516) (k0 k1 k2 k3 k4 : Nat) (hk0 : k0 < 2 ^ 32) (hk1 : k1 < 2 ^ 32) (hk2 : k2 < 2 ^ 32) (hk3 : k3 < 2 ^ 32) (hk4 : k4 < 2 ^ 32)  : kM l yX7_feed vsX7_feed ({ frames := 0, cells := 0, slots := 0, locals := 0 }) D (kT cI cB cJ cS) [.ref mm, .int (nI k0), .int (nI k1), .int (nI k2), .int (nI k3), .int (nI k4)] [(mm, .inr (5, [.int (nI th), .int (nI dg), .int (nI PT), .int (nI PN), .int (nI n), .ref ma, .ref mb, .ref mc, .ref md, .ref me, .int (nI sz), .ref mf, .int (nI od), .int (nI sl), .int (nI t), .int (nI wr), .int (nI pl), .int (nI lo), .long (lN nm), .int vz, .ref mg, .ref mh])), (ma, .inl (cI, 65536, .inl (iF b)))] (kQi D (kT cI cB cJ cS) (fun r (ug : Unit) => r = nI (n + 20)) (fun ug => [(mm, .inr (5, [.int (nI 0), .int (nI dg), .int (nI PT), .int (nI PN), .int (nI (n + 20)), .ref ma, .ref mb, .ref mc, .ref md, .ref me, .int (nI sz), .ref mf, .int (nI od), .int (nI sl), .int (nI t), .int (nI wr), .int (nI pl), .int (nI lo), .long (lN nm), .int vz, .ref mg, .ref mh])), (ma, .inl (cI, 65536, .inl (iF (pA (pA (pA (pA (pA (b) (n) k0 4 0 4) (n + 4) k1 4 0 4) (n + 4 + 4) k2 4 0 4) (n + 4 + 4 + 4) k3 4 0 4) (n + 4 + 4 + 4 + 4) k4 4 0 4))))])) := by
  refine k_ofW (by decide) rfl (Nat.le_of_ble_eq_true rfl) ?_
  intro p e s m below meth c A ls hx hb hr hts hown hlocks hmn hml hA hP hK hD hS hZ hl
  have inX7 : ∀ w ∈ wsX70, w ∈ vsX7_feed := fun w h => List.mem_cons_of_mem _ (iaX7 w h)
  have F : CallFix p m c cX7_feed 8 s _ vsX7_feed RX7 := ⟨hx, hb, hml, hown, hts⟩
  have hl : lv_has ls 8 [(0, .ref mm), (1, .int (nI k0)), (2, .int (nI k1)), (3, .int (nI k2)), (4, .int (nI k3)), (5, .int (nI k4))] := hl
  refine lv_aload_n hx hb dX7_feed_0 rfl (lv_at hl 0 rfl) ?_
  refine lv_iconst (v := nI 0) hx hb dX7_feed_1 (by decide) ?_
  refine va_put (D := D) (ci := 5) (v := .int (nI 0)) (ty := .int) (C := RX7) (T := TX7) (N := 22) hx hb hts inX7 tyX7 tyX7_ok nmX7 hown hK hP hD hS 0 rfl rfl 0 (by decide) (hts (.fieldLink RX7 48 "ByteShapesModel" "thrown" "I") (List.mem_cons_of_mem _ wd_368)) (fun _ h9 => h9) rfl (by decide +kernel) (rfl) (rfl) (Nat.le_of_ble_eq_true rfl) dX7_feed_2 (fun H locs hP hD hS => ?_)
  have hP : va_P D kCl [(mm, .inr (5, [.int (nI 0), .int (nI dg), .int (nI PT), .int (nI PN), .int (nI n), .ref ma, .ref mb, .ref mc, .ref md, .ref me, .int (nI sz), .ref mf, .int (nI od), .int (nI sl), .int (nI t), .int (nI wr), .int (nI pl), .int (nI lo), .long (lN nm), .int vz, .ref mg, .ref mh])), (ma, .inl (cI, 65536, .inl (iF b)))] H := hP
  have hD : va_D A [(mm, .inr (5, [.int (nI 0), .int (nI dg), .int (nI PT), .int (nI PN), .int (nI n), .ref ma, .ref mb, .ref mc, .ref md, .ref me, .int (nI sz), .ref mf, .int (nI od), .int (nI sl), .int (nI t), .int (nI wr), .int (nI pl), .int (nI lo), .long (lN nm), .int vz, .ref mg, .ref mh])), (ma, .inl (cI, 65536, .inl (iF b)))] := hD
  refine lv_aload_n hx hb dX7_feed_5 rfl (lv_at hl 0 rfl) ?_
  refine va_get (D := D) (ci := 5) (v := .int (nI n)) (C := RX7) (T := TX7) (N := 22) hx hb hts inX7 hown hK hP 0 rfl rfl 4 (by decide) (hts (.fieldLink RX7 55 "ByteShapesModel" "fed" "I") (List.mem_cons_of_mem _ wd_375)) (fun _ h9 => h9) rfl dX7_feed_6 ?_
  refine lv_bipush (v := nI 20) hx hb dX7_feed_9 (by decide) ?_
  refine lv_iadd hx hb dX7_feed_11 ?_
  refine k_i (show _ = nI (n + 20) from nI_add _ _) ?_
  refine lv_ldc (v := nI 65536) hx hb hown (hts (.constant RX7 7 (65536)) (List.mem_cons_of_mem _ wd_376)) dX7_feed_12 ?_
  refine k_icmp_le (tgt := 23) (by omega) (by omega) hx hb dX7_feed_14 (by decide) (fun c207 => ?_) (fun c207 => ?_)
  · skip
    refine lv_iconst (v := nI 0) hx hb dX7_feed_23 (by decide) ?_
    refine lv_istore (lv' := [(6, .int (nI 0)), (0, .ref mm), (1, .int (nI k0)), (2, .int (nI k1)), (3, .int (nI k2)), (4, .int (nI k3)), (5, .int (nI k4))]) hx hb dX7_feed_24 hl (by decide) rfl (fun ls hl => ?_)
    refine lv_iload hx hb dX7_feed_26 (lv_at hl 0 rfl) ?_
    refine lv_bipush (v := nI 20) hx hb dX7_feed_28 (by decide) ?_
    refine k_icmp_ge (tgt := 116) (by omega) (by omega) hx hb dX7_feed_30 (by decide) (fun c208 => ?_) (fun c208 => ?_)
    · skip
      exact absurd c208 (by omega)
    · skip
      refine lv_iload hx hb dX7_feed_33 (lv_at hl 0 rfl) ?_
      refine lv_iconst (v := nI 4) hx hb dX7_feed_35 (by decide) ?_
      refine k_icmp_ge (tgt := 43) (by omega) (by omega) hx hb dX7_feed_36 (by decide) (fun c209 => ?_) (fun c209 => ?_)
      · skip
        exact absurd c209 (by omega)
      · skip
        refine lv_iload_n hx hb dX7_feed_39 rfl (lv_at hl 2 rfl) ?_
        refine lv_goto (tgt := 79) hx hb dX7_feed_40 (by decide) ?_
        refine lv_istore (lv' := [(7, .int (nI k0)), (6, .int (nI 0)), (0, .ref mm), (1, .int (nI k0)), (2, .int (nI k1)), (3, .int (nI k2)), (4, .int (nI k3)), (5, .int (nI k4))]) hx hb dX7_feed_79 hl (by decide) rfl (fun ls hl => ?_)
        refine lv_aload_n hx hb dX7_feed_81 rfl (lv_at hl 2 rfl) ?_
        refine va_get (D := D) (ci := 5) (v := .ref ma) (C := RX7) (T := TX7) (N := 22) hx hb hts inX7 hown hK hP 0 rfl rfl 5 (by decide) (hts (.fieldLink RX7 8 "ByteShapesModel" "tape" "[I") (List.mem_cons_of_mem _ wd_377)) (fun _ h9 => h9) rfl dX7_feed_82 ?_
        refine lv_aload_n hx hb dX7_feed_85 rfl (lv_at hl 2 rfl) ?_
        refine va_get (D := D) (ci := 5) (v := .int (nI n)) (C := RX7) (T := TX7) (N := 22) hx hb hts inX7 hown hK hP 0 rfl rfl 4 (by decide) (hts (.fieldLink RX7 55 "ByteShapesModel" "fed" "I") (List.mem_cons_of_mem _ wd_375)) (fun _ h9 => h9) rfl dX7_feed_86 ?_
        refine lv_iload hx hb dX7_feed_89 (lv_at hl 1 rfl) ?_
        refine lv_iadd hx hb dX7_feed_91 ?_
        refine k_i (show _ = nI (n + 0) from nI_add _ _) ?_
        refine lv_iload hx hb dX7_feed_92 (lv_at hl 0 rfl) ?_
        refine lv_bipush (v := nI 24) hx hb dX7_feed_94 (by decide) ?_
        refine lv_bipush (v := nI 8) hx hb dX7_feed_96 (by decide) ?_
        refine lv_iload hx hb dX7_feed_98 (lv_at hl 1 rfl) ?_
        refine lv_iconst (v := nI 4) hx hb dX7_feed_100 (by decide) ?_
        refine lv_irem hx hb dX7_feed_101 (by decide) ?_
        refine k_i (show _ = nI 0 from by decide) ?_
        refine lv_imul hx hb dX7_feed_102 ?_
        refine k_i (show _ = nI 0 from by decide) ?_
        refine lv_isub hx hb dX7_feed_103 ?_
        refine k_i (show _ = nI 24 from by decide) ?_
        refine lv_ishr hx hb dX7_feed_104 ?_
        refine lv_sipush (v := nI 255) hx hb dX7_feed_105 (by decide) ?_
        refine lv_iand hx hb dX7_feed_108 ?_
        refine k_i (show _ = nI (k0 / 2 ^ 24 % 256) from sh_b (by omega) (by decide)) ?_
        refine va_iast hx hb hK hP hD hS 1 0 rfl rfl (vp_in_nI (by omega) (by omega)) dX7_feed_109 (fun H locs hP hD hS => ?_)
        rw [show upd (iF b) (nI (n + 0)).toNatClampNeg (nI (k0 / 2 ^ 24 % 256)) = iF (va_up b (n + 0) (k0 / 2 ^ 24 % 256)) from by rw [nI_clamp (by omega)]; exact iF_put _ _ _] at hP hD
        have hP : va_P D kCl [(mm, .inr (5, [.int (nI 0), .int (nI dg), .int (nI PT), .int (nI PN), .int (nI n), .ref ma, .ref mb, .ref mc, .ref md, .ref me, .int (nI sz), .ref mf, .int (nI od), .int (nI sl), .int (nI t), .int (nI wr), .int (nI pl), .int (nI lo), .long (lN nm), .int vz, .ref mg, .ref mh])), (ma, .inl (cI, 65536, .inl (iF (va_up b (n + 0) (k0 / 2 ^ 24 % 256)))))] H := hP
        have hD : va_D A [(mm, .inr (5, [.int (nI 0), .int (nI dg), .int (nI PT), .int (nI PN), .int (nI n), .ref ma, .ref mb, .ref mc, .ref md, .ref me, .int (nI sz), .ref mf, .int (nI od), .int (nI sl), .int (nI t), .int (nI wr), .int (nI pl), .int (nI lo), .long (lN nm), .int vz, .ref mg, .ref mh])), (ma, .inl (cI, 65536, .inl (iF (va_up b (n + 0) (k0 / 2 ^ 24 % 256)))))] := hD
        refine lv_iinc (v := nI 1) (lv' := [(6, .int (nI 1)), (7, .int (nI k0)), (0, .ref mm), (1, .int (nI k0)), (2, .int (nI k1)), (3, .int (nI k2)), (4, .int (nI k3)), (5, .int (nI k4))]) hx hb dX7_feed_110 hl (k := 1) rfl (nI_add _ _) (by decide) rfl (fun ls hl => ?_)
        refine lv_goto (tgt := 26) hx hb dX7_feed_113 (by decide) ?_
        refine lv_iload hx hb dX7_feed_26 (lv_at hl 0 rfl) ?_
        refine lv_bipush (v := nI 20) hx hb dX7_feed_28 (by decide) ?_
        refine k_icmp_ge (tgt := 116) (by omega) (by omega) hx hb dX7_feed_30 (by decide) (fun c210 => ?_) (fun c210 => ?_)
        · skip
          exact absurd c210 (by omega)
        · skip
          refine lv_iload hx hb dX7_feed_33 (lv_at hl 0 rfl) ?_
          refine lv_iconst (v := nI 4) hx hb dX7_feed_35 (by decide) ?_
          refine k_icmp_ge (tgt := 43) (by omega) (by omega) hx hb dX7_feed_36 (by decide) (fun c211 => ?_) (fun c211 => ?_)
          · skip
            exact absurd c211 (by omega)
          · skip
            refine lv_iload_n hx hb dX7_feed_39 rfl (lv_at hl 3 rfl) ?_
            refine lv_goto (tgt := 79) hx hb dX7_feed_40 (by decide) ?_
            refine lv_istore (lv' := [(7, .int (nI k0)), (6, .int (nI 1)), (0, .ref mm), (1, .int (nI k0)), (2, .int (nI k1)), (3, .int (nI k2)), (4, .int (nI k3)), (5, .int (nI k4))]) hx hb dX7_feed_79 hl (by decide) rfl (fun ls hl => ?_)
            refine lv_aload_n hx hb dX7_feed_81 rfl (lv_at hl 2 rfl) ?_
            refine va_get (D := D) (ci := 5) (v := .ref ma) (C := RX7) (T := TX7) (N := 22) hx hb hts inX7 hown hK hP 0 rfl rfl 5 (by decide) (hts (.fieldLink RX7 8 "ByteShapesModel" "tape" "[I") (List.mem_cons_of_mem _ wd_377)) (fun _ h9 => h9) rfl dX7_feed_82 ?_
            refine lv_aload_n hx hb dX7_feed_85 rfl (lv_at hl 2 rfl) ?_
            refine va_get (D := D) (ci := 5) (v := .int (nI n)) (C := RX7) (T := TX7) (N := 22) hx hb hts inX7 hown hK hP 0 rfl rfl 4 (by decide) (hts (.fieldLink RX7 55 "ByteShapesModel" "fed" "I") (List.mem_cons_of_mem _ wd_375)) (fun _ h9 => h9) rfl dX7_feed_86 ?_
            refine lv_iload hx hb dX7_feed_89 (lv_at hl 1 rfl) ?_
            refine lv_iadd hx hb dX7_feed_91 ?_
            refine k_i (show _ = nI (n + 1) from nI_add _ _) ?_
            refine lv_iload hx hb dX7_feed_92 (lv_at hl 0 rfl) ?_
            refine lv_bipush (v := nI 24) hx hb dX7_feed_94 (by decide) ?_
            refine lv_bipush (v := nI 8) hx hb dX7_feed_96 (by decide) ?_
            refine lv_iload hx hb dX7_feed_98 (lv_at hl 1 rfl) ?_
            refine lv_iconst (v := nI 4) hx hb dX7_feed_100 (by decide) ?_
            refine lv_irem hx hb dX7_feed_101 (by decide) ?_
            refine k_i (show _ = nI 1 from by decide) ?_
            refine lv_imul hx hb dX7_feed_102 ?_
            refine k_i (show _ = nI 8 from by decide) ?_
            refine lv_isub hx hb dX7_feed_103 ?_
            refine k_i (show _ = nI 16 from by decide) ?_
            refine lv_ishr hx hb dX7_feed_104 ?_
            refine lv_sipush (v := nI 255) hx hb dX7_feed_105 (by decide) ?_
            refine lv_iand hx hb dX7_feed_108 ?_
            refine k_i (show _ = nI (k0 / 2 ^ 16 % 256) from sh_b (by omega) (by decide)) ?_
            refine va_iast hx hb hK hP hD hS 1 0 rfl rfl (vp_in_nI (by omega) (by omega)) dX7_feed_109 (fun H locs hP hD hS => ?_)
            rw [show upd (iF (va_up b (n + 0) (k0 / 2 ^ 24 % 256))) (nI (n + 1)).toNatClampNeg (nI (k0 / 2 ^ 16 % 256)) = iF (va_up (va_up b (n + 0) (k0 / 2 ^ 24 % 256)) (n + 1) (k0 / 2 ^ 16 % 256)) from by rw [nI_clamp (by omega)]; exact iF_put _ _ _] at hP hD
            have hP : va_P D kCl [(mm, .inr (5, [.int (nI 0), .int (nI dg), .int (nI PT), .int (nI PN), .int (nI n), .ref ma, .ref mb, .ref mc, .ref md, .ref me, .int (nI sz), .ref mf, .int (nI od), .int (nI sl), .int (nI t), .int (nI wr), .int (nI pl), .int (nI lo), .long (lN nm), .int vz, .ref mg, .ref mh])), (ma, .inl (cI, 65536, .inl (iF (va_up (va_up b (n + 0) (k0 / 2 ^ 24 % 256)) (n + 1) (k0 / 2 ^ 16 % 256)))))] H := hP
            have hD : va_D A [(mm, .inr (5, [.int (nI 0), .int (nI dg), .int (nI PT), .int (nI PN), .int (nI n), .ref ma, .ref mb, .ref mc, .ref md, .ref me, .int (nI sz), .ref mf, .int (nI od), .int (nI sl), .int (nI t), .int (nI wr), .int (nI pl), .int (nI lo), .long (lN nm), .int vz, .ref mg, .ref mh])), (ma, .inl (cI, 65536, .inl (iF (va_up (va_up b (n + 0) (k0 / 2 ^ 24 % 256)) (n + 1) (k0 / 2 ^ 16 % 256)))))] := hD
            refine lv_iinc (v := nI 2) (lv' := [(6, .int (nI 2)), (7, .int (nI k0)), (0, .ref mm), (1, .int (nI k0)), (2, .int (nI k1)), (3, .int (nI k2)), (4, .int (nI k3)), (5, .int (nI k4))]) hx hb dX7_feed_110 hl (k := 1) rfl (nI_add _ _) (by decide) rfl (fun ls hl => ?_)
            refine lv_goto (tgt := 26) hx hb dX7_feed_113 (by decide) ?_
            refine lv_iload hx hb dX7_feed_26 (lv_at hl 0 rfl) ?_
            refine lv_bipush (v := nI 20) hx hb dX7_feed_28 (by decide) ?_
            refine k_icmp_ge (tgt := 116) (by omega) (by omega) hx hb dX7_feed_30 (by decide) (fun c212 => ?_) (fun c212 => ?_)
            · skip
              exact absurd c212 (by omega)
            · skip
              refine lv_iload hx hb dX7_feed_33 (lv_at hl 0 rfl) ?_
              refine lv_iconst (v := nI 4) hx hb dX7_feed_35 (by decide) ?_
              refine k_icmp_ge (tgt := 43) (by omega) (by omega) hx hb dX7_feed_36 (by decide) (fun c213 => ?_) (fun c213 => ?_)
              · skip
                exact absurd c213 (by omega)
              · skip
                refine lv_iload_n hx hb dX7_feed_39 rfl (lv_at hl 3 rfl) ?_
                refine lv_goto (tgt := 79) hx hb dX7_feed_40 (by decide) ?_
                refine lv_istore (lv' := [(7, .int (nI k0)), (6, .int (nI 2)), (0, .ref mm), (1, .int (nI k0)), (2, .int (nI k1)), (3, .int (nI k2)), (4, .int (nI k3)), (5, .int (nI k4))]) hx hb dX7_feed_79 hl (by decide) rfl (fun ls hl => ?_)
                refine lv_aload_n hx hb dX7_feed_81 rfl (lv_at hl 2 rfl) ?_
                refine va_get (D := D) (ci := 5) (v := .ref ma) (C := RX7) (T := TX7) (N := 22) hx hb hts inX7 hown hK hP 0 rfl rfl 5 (by decide) (hts (.fieldLink RX7 8 "ByteShapesModel" "tape" "[I") (List.mem_cons_of_mem _ wd_377)) (fun _ h9 => h9) rfl dX7_feed_82 ?_
                refine lv_aload_n hx hb dX7_feed_85 rfl (lv_at hl 2 rfl) ?_
                refine va_get (D := D) (ci := 5) (v := .int (nI n)) (C := RX7) (T := TX7) (N := 22) hx hb hts inX7 hown hK hP 0 rfl rfl 4 (by decide) (hts (.fieldLink RX7 55 "ByteShapesModel" "fed" "I") (List.mem_cons_of_mem _ wd_375)) (fun _ h9 => h9) rfl dX7_feed_86 ?_
                refine lv_iload hx hb dX7_feed_89 (lv_at hl 1 rfl) ?_
                refine lv_iadd hx hb dX7_feed_91 ?_
                refine k_i (show _ = nI (n + 2) from nI_add _ _) ?_
                refine lv_iload hx hb dX7_feed_92 (lv_at hl 0 rfl) ?_
                refine lv_bipush (v := nI 24) hx hb dX7_feed_94 (by decide) ?_
                refine lv_bipush (v := nI 8) hx hb dX7_feed_96 (by decide) ?_
                refine lv_iload hx hb dX7_feed_98 (lv_at hl 1 rfl) ?_
                refine lv_iconst (v := nI 4) hx hb dX7_feed_100 (by decide) ?_
                refine lv_irem hx hb dX7_feed_101 (by decide) ?_
                refine k_i (show _ = nI 2 from by decide) ?_
                refine lv_imul hx hb dX7_feed_102 ?_
                refine k_i (show _ = nI 16 from by decide) ?_
                refine lv_isub hx hb dX7_feed_103 ?_
                refine k_i (show _ = nI 8 from by decide) ?_
                refine lv_ishr hx hb dX7_feed_104 ?_
                refine lv_sipush (v := nI 255) hx hb dX7_feed_105 (by decide) ?_
                refine lv_iand hx hb dX7_feed_108 ?_
                refine k_i (show _ = nI (k0 / 2 ^ 8 % 256) from sh_b (by omega) (by decide)) ?_
                refine va_iast hx hb hK hP hD hS 1 0 rfl rfl (vp_in_nI (by omega) (by omega)) dX7_feed_109 (fun H locs hP hD hS => ?_)
                rw [show upd (iF (va_up (va_up b (n + 0) (k0 / 2 ^ 24 % 256)) (n + 1) (k0 / 2 ^ 16 % 256))) (nI (n + 2)).toNatClampNeg (nI (k0 / 2 ^ 8 % 256)) = iF (va_up (va_up (va_up b (n + 0) (k0 / 2 ^ 24 % 256)) (n + 1) (k0 / 2 ^ 16 % 256)) (n + 2) (k0 / 2 ^ 8 % 256)) from by rw [nI_clamp (by omega)]; exact iF_put _ _ _] at hP hD
                have hP : va_P D kCl [(mm, .inr (5, [.int (nI 0), .int (nI dg), .int (nI PT), .int (nI PN), .int (nI n), .ref ma, .ref mb, .ref mc, .ref md, .ref me, .int (nI sz), .ref mf, .int (nI od), .int (nI sl), .int (nI t), .int (nI wr), .int (nI pl), .int (nI lo), .long (lN nm), .int vz, .ref mg, .ref mh])), (ma, .inl (cI, 65536, .inl (iF (va_up (va_up (va_up b (n + 0) (k0 / 2 ^ 24 % 256)) (n + 1) (k0 / 2 ^ 16 % 256)) (n + 2) (k0 / 2 ^ 8 % 256)))))] H := hP
                have hD : va_D A [(mm, .inr (5, [.int (nI 0), .int (nI dg), .int (nI PT), .int (nI PN), .int (nI n), .ref ma, .ref mb, .ref mc, .ref md, .ref me, .int (nI sz), .ref mf, .int (nI od), .int (nI sl), .int (nI t), .int (nI wr), .int (nI pl), .int (nI lo), .long (lN nm), .int vz, .ref mg, .ref mh])), (ma, .inl (cI, 65536, .inl (iF (va_up (va_up (va_up b (n + 0) (k0 / 2 ^ 24 % 256)) (n + 1) (k0 / 2 ^ 16 % 256)) (n + 2) (k0 / 2 ^ 8 % 256)))))] := hD
                refine lv_iinc (v := nI 3) (lv' := [(6, .int (nI 3)), (7, .int (nI k0)), (0, .ref mm), (1, .int (nI k0)), (2, .int (nI k1)), (3, .int (nI k2)), (4, .int (nI k3)), (5, .int (nI k4))]) hx hb dX7_feed_110 hl (k := 1) rfl (nI_add _ _) (by decide) rfl (fun ls hl => ?_)
                refine lv_goto (tgt := 26) hx hb dX7_feed_113 (by decide) ?_
                refine lv_iload hx hb dX7_feed_26 (lv_at hl 0 rfl) ?_
                refine lv_bipush (v := nI 20) hx hb dX7_feed_28 (by decide) ?_
                refine k_icmp_ge (tgt := 116) (by omega) (by omega) hx hb dX7_feed_30 (by decide) (fun c214 => ?_) (fun c214 => ?_)
                · skip
                  exact absurd c214 (by omega)
                · skip
                  refine lv_iload hx hb dX7_feed_33 (lv_at hl 0 rfl) ?_
                  refine lv_iconst (v := nI 4) hx hb dX7_feed_35 (by decide) ?_
                  refine k_icmp_ge (tgt := 43) (by omega) (by omega) hx hb dX7_feed_36 (by decide) (fun c215 => ?_) (fun c215 => ?_)
                  · skip
                    exact absurd c215 (by omega)
                  · skip
                    refine lv_iload_n hx hb dX7_feed_39 rfl (lv_at hl 3 rfl) ?_
                    refine lv_goto (tgt := 79) hx hb dX7_feed_40 (by decide) ?_
                    refine lv_istore (lv' := [(7, .int (nI k0)), (6, .int (nI 3)), (0, .ref mm), (1, .int (nI k0)), (2, .int (nI k1)), (3, .int (nI k2)), (4, .int (nI k3)), (5, .int (nI k4))]) hx hb dX7_feed_79 hl (by decide) rfl (fun ls hl => ?_)
                    refine lv_aload_n hx hb dX7_feed_81 rfl (lv_at hl 2 rfl) ?_
                    refine va_get (D := D) (ci := 5) (v := .ref ma) (C := RX7) (T := TX7) (N := 22) hx hb hts inX7 hown hK hP 0 rfl rfl 5 (by decide) (hts (.fieldLink RX7 8 "ByteShapesModel" "tape" "[I") (List.mem_cons_of_mem _ wd_377)) (fun _ h9 => h9) rfl dX7_feed_82 ?_
                    refine lv_aload_n hx hb dX7_feed_85 rfl (lv_at hl 2 rfl) ?_
                    refine va_get (D := D) (ci := 5) (v := .int (nI n)) (C := RX7) (T := TX7) (N := 22) hx hb hts inX7 hown hK hP 0 rfl rfl 4 (by decide) (hts (.fieldLink RX7 55 "ByteShapesModel" "fed" "I") (List.mem_cons_of_mem _ wd_375)) (fun _ h9 => h9) rfl dX7_feed_86 ?_
                    refine lv_iload hx hb dX7_feed_89 (lv_at hl 1 rfl) ?_
                    refine lv_iadd hx hb dX7_feed_91 ?_
                    refine k_i (show _ = nI (n + 3) from nI_add _ _) ?_
                    refine lv_iload hx hb dX7_feed_92 (lv_at hl 0 rfl) ?_
                    refine lv_bipush (v := nI 24) hx hb dX7_feed_94 (by decide) ?_
                    refine lv_bipush (v := nI 8) hx hb dX7_feed_96 (by decide) ?_
                    refine lv_iload hx hb dX7_feed_98 (lv_at hl 1 rfl) ?_
                    refine lv_iconst (v := nI 4) hx hb dX7_feed_100 (by decide) ?_
                    refine lv_irem hx hb dX7_feed_101 (by decide) ?_
                    refine k_i (show _ = nI 3 from by decide) ?_
                    refine lv_imul hx hb dX7_feed_102 ?_
                    refine k_i (show _ = nI 24 from by decide) ?_
                    refine lv_isub hx hb dX7_feed_103 ?_
                    refine k_i (show _ = nI 0 from by decide) ?_
                    refine lv_ishr hx hb dX7_feed_104 ?_
                    refine lv_sipush (v := nI 255) hx hb dX7_feed_105 (by decide) ?_
                    refine lv_iand hx hb dX7_feed_108 ?_
                    refine k_i (show _ = nI (k0 / 2 ^ 0 % 256) from sh_b (by omega) (by decide)) ?_
                    refine va_iast hx hb hK hP hD hS 1 0 rfl rfl (vp_in_nI (by omega) (by omega)) dX7_feed_109 (fun H locs hP hD hS => ?_)
                    rw [show upd (iF (va_up (va_up (va_up b (n + 0) (k0 / 2 ^ 24 % 256)) (n + 1) (k0 / 2 ^ 16 % 256)) (n + 2) (k0 / 2 ^ 8 % 256))) (nI (n + 3)).toNatClampNeg (nI (k0 / 2 ^ 0 % 256)) = iF (va_up (va_up (va_up (va_up b (n + 0) (k0 / 2 ^ 24 % 256)) (n + 1) (k0 / 2 ^ 16 % 256)) (n + 2) (k0 / 2 ^ 8 % 256)) (n + 3) (k0 / 2 ^ 0 % 256)) from by rw [nI_clamp (by omega)]; exact iF_put _ _ _] at hP hD
                    have hP : va_P D kCl [(mm, .inr (5, [.int (nI 0), .int (nI dg), .int (nI PT), .int (nI PN), .int (nI n), .ref ma, .ref mb, .ref mc, .ref md, .ref me, .int (nI sz), .ref mf, .int (nI od), .int (nI sl), .int (nI t), .int (nI wr), .int (nI pl), .int (nI lo), .long (lN nm), .int vz, .ref mg, .ref mh])), (ma, .inl (cI, 65536, .inl (iF (va_up (va_up (va_up (va_up b (n + 0) (k0 / 2 ^ 24 % 256)) (n + 1) (k0 / 2 ^ 16 % 256)) (n + 2) (k0 / 2 ^ 8 % 256)) (n + 3) (k0 / 2 ^ 0 % 256)))))] H := hP
                    have hD : va_D A [(mm, .inr (5, [.int (nI 0), .int (nI dg), .int (nI PT), .int (nI PN), .int (nI n), .ref ma, .ref mb, .ref mc, .ref md, .ref me, .int (nI sz), .ref mf, .int (nI od), .int (nI sl), .int (nI t), .int (nI wr), .int (nI pl), .int (nI lo), .long (lN nm), .int vz, .ref mg, .ref mh])), (ma, .inl (cI, 65536, .inl (iF (va_up (va_up (va_up (va_up b (n + 0) (k0 / 2 ^ 24 % 256)) (n + 1) (k0 / 2 ^ 16 % 256)) (n + 2) (k0 / 2 ^ 8 % 256)) (n + 3) (k0 / 2 ^ 0 % 256)))))] := hD
                    refine lv_iinc (v := nI 4) (lv' := [(6, .int (nI 4)), (7, .int (nI k0)), (0, .ref mm), (1, .int (nI k0)), (2, .int (nI k1)), (3, .int (nI k2)), (4, .int (nI k3)), (5, .int (nI k4))]) hx hb dX7_feed_110 hl (k := 1) rfl (nI_add _ _) (by decide) rfl (fun ls hl => ?_)
                    refine lv_goto (tgt := 26) hx hb dX7_feed_113 (by decide) ?_
                    refine lv_iload hx hb dX7_feed_26 (lv_at hl 0 rfl) ?_
                    refine lv_bipush (v := nI 20) hx hb dX7_feed_28 (by decide) ?_
                    refine k_icmp_ge (tgt := 116) (by omega) (by omega) hx hb dX7_feed_30 (by decide) (fun c216 => ?_) (fun c216 => ?_)
                    · skip
                      exact absurd c216 (by omega)
                    · skip
                      refine lv_iload hx hb dX7_feed_33 (lv_at hl 0 rfl) ?_
                      refine lv_iconst (v := nI 4) hx hb dX7_feed_35 (by decide) ?_
                      refine k_icmp_ge (tgt := 43) (by omega) (by omega) hx hb dX7_feed_36 (by decide) (fun c217 => ?_) (fun c217 => ?_)
                      · skip
                        refine lv_iload hx hb dX7_feed_43 (lv_at hl 0 rfl) ?_
                        refine lv_bipush (v := nI 8) hx hb dX7_feed_45 (by decide) ?_
                        refine k_icmp_ge (tgt := 54) (by omega) (by omega) hx hb dX7_feed_47 (by decide) (fun c218 => ?_) (fun c218 => ?_)
                        · skip
                          exact absurd c218 (by omega)
                        · skip
                          refine lv_iload_n hx hb dX7_feed_50 rfl (lv_at hl 4 rfl) ?_
                          refine lv_goto (tgt := 79) hx hb dX7_feed_51 (by decide) ?_
                          refine lv_istore (lv' := [(7, .int (nI k1)), (6, .int (nI 4)), (0, .ref mm), (1, .int (nI k0)), (2, .int (nI k1)), (3, .int (nI k2)), (4, .int (nI k3)), (5, .int (nI k4))]) hx hb dX7_feed_79 hl (by decide) rfl (fun ls hl => ?_)
                          refine lv_aload_n hx hb dX7_feed_81 rfl (lv_at hl 2 rfl) ?_
                          refine va_get (D := D) (ci := 5) (v := .ref ma) (C := RX7) (T := TX7) (N := 22) hx hb hts inX7 hown hK hP 0 rfl rfl 5 (by decide) (hts (.fieldLink RX7 8 "ByteShapesModel" "tape" "[I") (List.mem_cons_of_mem _ wd_377)) (fun _ h9 => h9) rfl dX7_feed_82 ?_
                          refine lv_aload_n hx hb dX7_feed_85 rfl (lv_at hl 2 rfl) ?_
                          refine va_get (D := D) (ci := 5) (v := .int (nI n)) (C := RX7) (T := TX7) (N := 22) hx hb hts inX7 hown hK hP 0 rfl rfl 4 (by decide) (hts (.fieldLink RX7 55 "ByteShapesModel" "fed" "I") (List.mem_cons_of_mem _ wd_375)) (fun _ h9 => h9) rfl dX7_feed_86 ?_
                          refine lv_iload hx hb dX7_feed_89 (lv_at hl 1 rfl) ?_
                          refine lv_iadd hx hb dX7_feed_91 ?_
                          refine k_i (show _ = nI (n + 4) from nI_add _ _) ?_
                          refine lv_iload hx hb dX7_feed_92 (lv_at hl 0 rfl) ?_
                          refine lv_bipush (v := nI 24) hx hb dX7_feed_94 (by decide) ?_
                          refine lv_bipush (v := nI 8) hx hb dX7_feed_96 (by decide) ?_
                          refine lv_iload hx hb dX7_feed_98 (lv_at hl 1 rfl) ?_
                          refine lv_iconst (v := nI 4) hx hb dX7_feed_100 (by decide) ?_
                          refine lv_irem hx hb dX7_feed_101 (by decide) ?_
                          refine k_i (show _ = nI 0 from by decide) ?_
                          refine lv_imul hx hb dX7_feed_102 ?_
                          refine k_i (show _ = nI 0 from by decide) ?_
                          refine lv_isub hx hb dX7_feed_103 ?_
                          refine k_i (show _ = nI 24 from by decide) ?_
                          refine lv_ishr hx hb dX7_feed_104 ?_
                          refine lv_sipush (v := nI 255) hx hb dX7_feed_105 (by decide) ?_
                          refine lv_iand hx hb dX7_feed_108 ?_
                          refine k_i (show _ = nI (k1 / 2 ^ 24 % 256) from sh_b (by omega) (by decide)) ?_
                          refine va_iast hx hb hK hP hD hS 1 0 rfl rfl (vp_in_nI (by omega) (by omega)) dX7_feed_109 (fun H locs hP hD hS => ?_)
                          rw [show upd (iF (va_up (va_up (va_up (va_up b (n + 0) (k0 / 2 ^ 24 % 256)) (n + 1) (k0 / 2 ^ 16 % 256)) (n + 2) (k0 / 2 ^ 8 % 256)) (n + 3) (k0 / 2 ^ 0 % 256))) (nI (n + 4)).toNatClampNeg (nI (k1 / 2 ^ 24 % 256)) = iF (va_up (va_up (va_up (va_up (va_up b (n + 0) (k0 / 2 ^ 24 % 256)) (n + 1) (k0 / 2 ^ 16 % 256)) (n + 2) (k0 / 2 ^ 8 % 256)) (n + 3) (k0 / 2 ^ 0 % 256)) (n + 4) (k1 / 2 ^ 24 % 256)) from by rw [nI_clamp (by omega)]; exact iF_put _ _ _] at hP hD
                          have hP : va_P D kCl [(mm, .inr (5, [.int (nI 0), .int (nI dg), .int (nI PT), .int (nI PN), .int (nI n), .ref ma, .ref mb, .ref mc, .ref md, .ref me, .int (nI sz), .ref mf, .int (nI od), .int (nI sl), .int (nI t), .int (nI wr), .int (nI pl), .int (nI lo), .long (lN nm), .int vz, .ref mg, .ref mh])), (ma, .inl (cI, 65536, .inl (iF (va_up (va_up (va_up (va_up (va_up b (n + 0) (k0 / 2 ^ 24 % 256)) (n + 1) (k0 / 2 ^ 16 % 256)) (n + 2) (k0 / 2 ^ 8 % 256)) (n + 3) (k0 / 2 ^ 0 % 256)) (n + 4) (k1 / 2 ^ 24 % 256)))))] H := hP
                          have hD : va_D A [(mm, .inr (5, [.int (nI 0), .int (nI dg), .int (nI PT), .int (nI PN), .int (nI n), .ref ma, .ref mb, .ref mc, .ref md, .ref me, .int (nI sz), .ref mf, .int (nI od), .int (nI sl), .int (nI t), .int (nI wr), .int (nI pl), .int (nI lo), .long (lN nm), .int vz, .ref mg, .ref mh])), (ma, .inl (cI, 65536, .inl (iF (va_up (va_up (va_up (va_up (va_up b (n + 0) (k0 / 2 ^ 24 % 256)) (n + 1) (k0 / 2 ^ 16 % 256)) (n + 2) (k0 / 2 ^ 8 % 256)) (n + 3) (k0 / 2 ^ 0 % 256)) (n + 4) (k1 / 2 ^ 24 % 256)))))] := hD
                          refine lv_iinc (v := nI 5) (lv' := [(6, .int (nI 5)), (7, .int (nI k1)), (0, .ref mm), (1, .int (nI k0)), (2, .int (nI k1)), (3, .int (nI k2)), (4, .int (nI k3)), (5, .int (nI k4))]) hx hb dX7_feed_110 hl (k := 1) rfl (nI_add _ _) (by decide) rfl (fun ls hl => ?_)
                          refine lv_goto (tgt := 26) hx hb dX7_feed_113 (by decide) ?_
                          refine lv_iload hx hb dX7_feed_26 (lv_at hl 0 rfl) ?_
                          refine lv_bipush (v := nI 20) hx hb dX7_feed_28 (by decide) ?_
                          refine k_icmp_ge (tgt := 116) (by omega) (by omega) hx hb dX7_feed_30 (by decide) (fun c219 => ?_) (fun c219 => ?_)
                          · skip
                            exact absurd c219 (by omega)
                          · skip
                            refine lv_iload hx hb dX7_feed_33 (lv_at hl 0 rfl) ?_
                            refine lv_iconst (v := nI 4) hx hb dX7_feed_35 (by decide) ?_
                            refine k_icmp_ge (tgt := 43) (by omega) (by omega) hx hb dX7_feed_36 (by decide) (fun c220 => ?_) (fun c220 => ?_)
                            · skip
                              refine lv_iload hx hb dX7_feed_43 (lv_at hl 0 rfl) ?_
                              refine lv_bipush (v := nI 8) hx hb dX7_feed_45 (by decide) ?_
                              refine k_icmp_ge (tgt := 54) (by omega) (by omega) hx hb dX7_feed_47 (by decide) (fun c221 => ?_) (fun c221 => ?_)
                              · skip
                                exact absurd c221 (by omega)
                              · skip
                                refine lv_iload_n hx hb dX7_feed_50 rfl (lv_at hl 4 rfl) ?_
                                refine lv_goto (tgt := 79) hx hb dX7_feed_51 (by decide) ?_
                                refine lv_istore (lv' := [(7, .int (nI k1)), (6, .int (nI 5)), (0, .ref mm), (1, .int (nI k0)), (2, .int (nI k1)), (3, .int (nI k2)), (4, .int (nI k3)), (5, .int (nI k4))]) hx hb dX7_feed_79 hl (by decide) rfl (fun ls hl => ?_)
                                refine lv_aload_n hx hb dX7_feed_81 rfl (lv_at hl 2 rfl) ?_
                                refine va_get (D := D) (ci := 5) (v := .ref ma) (C := RX7) (T := TX7) (N := 22) hx hb hts inX7 hown hK hP 0 rfl rfl 5 (by decide) (hts (.fieldLink RX7 8 "ByteShapesModel" "tape" "[I") (List.mem_cons_of_mem _ wd_377)) (fun _ h9 => h9) rfl dX7_feed_82 ?_
                                refine lv_aload_n hx hb dX7_feed_85 rfl (lv_at hl 2 rfl) ?_
                                refine va_get (D := D) (ci := 5) (v := .int (nI n)) (C := RX7) (T := TX7) (N := 22) hx hb hts inX7 hown hK hP 0 rfl rfl 4 (by decide) (hts (.fieldLink RX7 55 "ByteShapesModel" "fed" "I") (List.mem_cons_of_mem _ wd_375)) (fun _ h9 => h9) rfl dX7_feed_86 ?_
                                refine lv_iload hx hb dX7_feed_89 (lv_at hl 1 rfl) ?_
                                refine lv_iadd hx hb dX7_feed_91 ?_
                                refine k_i (show _ = nI (n + 5) from nI_add _ _) ?_
                                refine lv_iload hx hb dX7_feed_92 (lv_at hl 0 rfl) ?_
                                refine lv_bipush (v := nI 24) hx hb dX7_feed_94 (by decide) ?_
                                refine lv_bipush (v := nI 8) hx hb dX7_feed_96 (by decide) ?_
                                refine lv_iload hx hb dX7_feed_98 (lv_at hl 1 rfl) ?_
                                refine lv_iconst (v := nI 4) hx hb dX7_feed_100 (by decide) ?_
                                refine lv_irem hx hb dX7_feed_101 (by decide) ?_
                                refine k_i (show _ = nI 1 from by decide) ?_
                                refine lv_imul hx hb dX7_feed_102 ?_
                                refine k_i (show _ = nI 8 from by decide) ?_
                                refine lv_isub hx hb dX7_feed_103 ?_
                                refine k_i (show _ = nI 16 from by decide) ?_
                                refine lv_ishr hx hb dX7_feed_104 ?_
                                refine lv_sipush (v := nI 255) hx hb dX7_feed_105 (by decide) ?_
                                refine lv_iand hx hb dX7_feed_108 ?_
                                refine k_i (show _ = nI (k1 / 2 ^ 16 % 256) from sh_b (by omega) (by decide)) ?_
                                refine va_iast hx hb hK hP hD hS 1 0 rfl rfl (vp_in_nI (by omega) (by omega)) dX7_feed_109 (fun H locs hP hD hS => ?_)
                                rw [show upd (iF (va_up (va_up (va_up (va_up (va_up b (n + 0) (k0 / 2 ^ 24 % 256)) (n + 1) (k0 / 2 ^ 16 % 256)) (n + 2) (k0 / 2 ^ 8 % 256)) (n + 3) (k0 / 2 ^ 0 % 256)) (n + 4) (k1 / 2 ^ 24 % 256))) (nI (n + 5)).toNatClampNeg (nI (k1 / 2 ^ 16 % 256)) = iF (va_up (va_up (va_up (va_up (va_up (va_up b (n + 0) (k0 / 2 ^ 24 % 256)) (n + 1) (k0 / 2 ^ 16 % 256)) (n + 2) (k0 / 2 ^ 8 % 256)) (n + 3) (k0 / 2 ^ 0 % 256)) (n + 4) (k1 / 2 ^ 24 % 256)) (n + 5) (k1 / 2 ^ 16 % 256)) from by rw [nI_clamp (by omega)]; exact iF_put _ _ _] at hP hD
                                have hP : va_P D kCl [(mm, .inr (5, [.int (nI 0), .int (nI dg), .int (nI PT), .int (nI PN), .int (nI n), .ref ma, .ref mb, .ref mc, .ref md, .ref me, .int (nI sz), .ref mf, .int (nI od), .int (nI sl), .int (nI t), .int (nI wr), .int (nI pl), .int (nI lo), .long (lN nm), .int vz, .ref mg, .ref mh])), (ma, .inl (cI, 65536, .inl (iF (va_up (va_up (va_up (va_up (va_up (va_up b (n + 0) (k0 / 2 ^ 24 % 256)) (n + 1) (k0 / 2 ^ 16 % 256)) (n + 2) (k0 / 2 ^ 8 % 256)) (n + 3) (k0 / 2 ^ 0 % 256)) (n + 4) (k1 / 2 ^ 24 % 256)) (n + 5) (k1 / 2 ^ 16 % 256)))))] H := hP
                                have hD : va_D A [(mm, .inr (5, [.int (nI 0), .int (nI dg), .int (nI PT), .int (nI PN), .int (nI n), .ref ma, .ref mb, .ref mc, .ref md, .ref me, .int (nI sz), .ref mf, .int (nI od), .int (nI sl), .int (nI t), .int (nI wr), .int (nI pl), .int (nI lo), .long (lN nm), .int vz, .ref mg, .ref mh])), (ma, .inl (cI, 65536, .inl (iF (va_up (va_up (va_up (va_up (va_up (va_up b (n + 0) (k0 / 2 ^ 24 % 256)) (n + 1) (k0 / 2 ^ 16 % 256)) (n + 2) (k0 / 2 ^ 8 % 256)) (n + 3) (k0 / 2 ^ 0 % 256)) (n + 4) (k1 / 2 ^ 24 % 256)) (n + 5) (k1 / 2 ^ 16 % 256)))))] := hD
                                refine lv_iinc (v := nI 6) (lv' := [(6, .int (nI 6)), (7, .int (nI k1)), (0, .ref mm), (1, .int (nI k0)), (2, .int (nI k1)), (3, .int (nI k2)), (4, .int (nI k3)), (5, .int (nI k4))]) hx hb dX7_feed_110 hl (k := 1) rfl (nI_add _ _) (by decide) rfl (fun ls hl => ?_)
                                refine lv_goto (tgt := 26) hx hb dX7_feed_113 (by decide) ?_
                                refine lv_iload hx hb dX7_feed_26 (lv_at hl 0 rfl) ?_
                                refine lv_bipush (v := nI 20) hx hb dX7_feed_28 (by decide) ?_
                                refine k_icmp_ge (tgt := 116) (by omega) (by omega) hx hb dX7_feed_30 (by decide) (fun c222 => ?_) (fun c222 => ?_)
                                · skip
                                  exact absurd c222 (by omega)
                                · skip
                                  refine lv_iload hx hb dX7_feed_33 (lv_at hl 0 rfl) ?_
                                  refine lv_iconst (v := nI 4) hx hb dX7_feed_35 (by decide) ?_
                                  refine k_icmp_ge (tgt := 43) (by omega) (by omega) hx hb dX7_feed_36 (by decide) (fun c223 => ?_) (fun c223 => ?_)
                                  · skip
                                    refine lv_iload hx hb dX7_feed_43 (lv_at hl 0 rfl) ?_
                                    refine lv_bipush (v := nI 8) hx hb dX7_feed_45 (by decide) ?_
                                    refine k_icmp_ge (tgt := 54) (by omega) (by omega) hx hb dX7_feed_47 (by decide) (fun c224 => ?_) (fun c224 => ?_)
                                    · skip
                                      exact absurd c224 (by omega)
                                    · skip
                                      refine lv_iload_n hx hb dX7_feed_50 rfl (lv_at hl 4 rfl) ?_
                                      refine lv_goto (tgt := 79) hx hb dX7_feed_51 (by decide) ?_
                                      refine lv_istore (lv' := [(7, .int (nI k1)), (6, .int (nI 6)), (0, .ref mm), (1, .int (nI k0)), (2, .int (nI k1)), (3, .int (nI k2)), (4, .int (nI k3)), (5, .int (nI k4))]) hx hb dX7_feed_79 hl (by decide) rfl (fun ls hl => ?_)
                                      refine lv_aload_n hx hb dX7_feed_81 rfl (lv_at hl 2 rfl) ?_
                                      refine va_get (D := D) (ci := 5) (v := .ref ma) (C := RX7) (T := TX7) (N := 22) hx hb hts inX7 hown hK hP 0 rfl rfl 5 (by decide) (hts (.fieldLink RX7 8 "ByteShapesModel" "tape" "[I") (List.mem_cons_of_mem _ wd_377)) (fun _ h9 => h9) rfl dX7_feed_82 ?_
                                      refine lv_aload_n hx hb dX7_feed_85 rfl (lv_at hl 2 rfl) ?_
                                      refine va_get (D := D) (ci := 5) (v := .int (nI n)) (C := RX7) (T := TX7) (N := 22) hx hb hts inX7 hown hK hP 0 rfl rfl 4 (by decide) (hts (.fieldLink RX7 55 "ByteShapesModel" "fed" "I") (List.mem_cons_of_mem _ wd_375)) (fun _ h9 => h9) rfl dX7_feed_86 ?_
                                      refine lv_iload hx hb dX7_feed_89 (lv_at hl 1 rfl) ?_
                                      refine lv_iadd hx hb dX7_feed_91 ?_
                                      refine k_i (show _ = nI (n + 6) from nI_add _ _) ?_
                                      refine lv_iload hx hb dX7_feed_92 (lv_at hl 0 rfl) ?_
                                      refine lv_bipush (v := nI 24) hx hb dX7_feed_94 (by decide) ?_
                                      refine lv_bipush (v := nI 8) hx hb dX7_feed_96 (by decide) ?_
                                      refine lv_iload hx hb dX7_feed_98 (lv_at hl 1 rfl) ?_
                                      refine lv_iconst (v := nI 4) hx hb dX7_feed_100 (by decide) ?_
                                      refine lv_irem hx hb dX7_feed_101 (by decide) ?_
                                      refine k_i (show _ = nI 2 from by decide) ?_
                                      refine lv_imul hx hb dX7_feed_102 ?_
                                      refine k_i (show _ = nI 16 from by decide) ?_
                                      refine lv_isub hx hb dX7_feed_103 ?_
                                      refine k_i (show _ = nI 8 from by decide) ?_
                                      refine lv_ishr hx hb dX7_feed_104 ?_
                                      refine lv_sipush (v := nI 255) hx hb dX7_feed_105 (by decide) ?_
                                      refine lv_iand hx hb dX7_feed_108 ?_
                                      refine k_i (show _ = nI (k1 / 2 ^ 8 % 256) from sh_b (by omega) (by decide)) ?_
                                      refine va_iast hx hb hK hP hD hS 1 0 rfl rfl (vp_in_nI (by omega) (by omega)) dX7_feed_109 (fun H locs hP hD hS => ?_)
                                      rw [show upd (iF (va_up (va_up (va_up (va_up (va_up (va_up b (n + 0) (k0 / 2 ^ 24 % 256)) (n + 1) (k0 / 2 ^ 16 % 256)) (n + 2) (k0 / 2 ^ 8 % 256)) (n + 3) (k0 / 2 ^ 0 % 256)) (n + 4) (k1 / 2 ^ 24 % 256)) (n + 5) (k1 / 2 ^ 16 % 256))) (nI (n + 6)).toNatClampNeg (nI (k1 / 2 ^ 8 % 256)) = iF (va_up (va_up (va_up (va_up (va_up (va_up (va_up b (n + 0) (k0 / 2 ^ 24 % 256)) (n + 1) (k0 / 2 ^ 16 % 256)) (n + 2) (k0 / 2 ^ 8 % 256)) (n + 3) (k0 / 2 ^ 0 % 256)) (n + 4) (k1 / 2 ^ 24 % 256)) (n + 5) (k1 / 2 ^ 16 % 256)) (n + 6) (k1 / 2 ^ 8 % 256)) from by rw [nI_clamp (by omega)]; exact iF_put _ _ _] at hP hD
                                      have hP : va_P D kCl [(mm, .inr (5, [.int (nI 0), .int (nI dg), .int (nI PT), .int (nI PN), .int (nI n), .ref ma, .ref mb, .ref mc, .ref md, .ref me, .int (nI sz), .ref mf, .int (nI od), .int (nI sl), .int (nI t), .int (nI wr), .int (nI pl), .int (nI lo), .long (lN nm), .int vz, .ref mg, .ref mh])), (ma, .inl (cI, 65536, .inl (iF (va_up (va_up (va_up (va_up (va_up (va_up (va_up b (n + 0) (k0 / 2 ^ 24 % 256)) (n + 1) (k0 / 2 ^ 16 % 256)) (n + 2) (k0 / 2 ^ 8 % 256)) (n + 3) (k0 / 2 ^ 0 % 256)) (n + 4) (k1 / 2 ^ 24 % 256)) (n + 5) (k1 / 2 ^ 16 % 256)) (n + 6) (k1 / 2 ^ 8 % 256)))))] H := hP
                                      have hD : va_D A [(mm, .inr (5, [.int (nI 0), .int (nI dg), .int (nI PT), .int (nI PN), .int (nI n), .ref ma, .ref mb, .ref mc, .ref md, .ref me, .int (nI sz), .ref mf, .int (nI od), .int (nI sl), .int (nI t), .int (nI wr), .int (nI pl), .int (nI lo), .long (lN nm), .int vz, .ref mg, .ref mh])), (ma, .inl (cI, 65536, .inl (iF (va_up (va_up (va_up (va_up (va_up (va_up (va_up b (n + 0) (k0 / 2 ^ 24 % 256)) (n + 1) (k0 / 2 ^ 16 % 256)) (n + 2) (k0 / 2 ^ 8 % 256)) (n + 3) (k0 / 2 ^ 0 % 256)) (n + 4) (k1 / 2 ^ 24 % 256)) (n + 5) (k1 / 2 ^ 16 % 256)) (n + 6) (k1 / 2 ^ 8 % 256)))))] := hD
                                      refine lv_iinc (v := nI 7) (lv' := [(6, .int (nI 7)), (7, .int (nI k1)), (0, .ref mm), (1, .int (nI k0)), (2, .int (nI k1)), (3, .int (nI k2)), (4, .int (nI k3)), (5, .int (nI k4))]) hx hb dX7_feed_110 hl (k := 1) rfl (nI_add _ _) (by decide) rfl (fun ls hl => ?_)
                                      refine lv_goto (tgt := 26) hx hb dX7_feed_113 (by decide) ?_
                                      refine lv_iload hx hb dX7_feed_26 (lv_at hl 0 rfl) ?_
                                      refine lv_bipush (v := nI 20) hx hb dX7_feed_28 (by decide) ?_
                                      refine k_icmp_ge (tgt := 116) (by omega) (by omega) hx hb dX7_feed_30 (by decide) (fun c225 => ?_) (fun c225 => ?_)
                                      · skip
                                        exact absurd c225 (by omega)
                                      · skip
                                        refine lv_iload hx hb dX7_feed_33 (lv_at hl 0 rfl) ?_
                                        refine lv_iconst (v := nI 4) hx hb dX7_feed_35 (by decide) ?_
                                        refine k_icmp_ge (tgt := 43) (by omega) (by omega) hx hb dX7_feed_36 (by decide) (fun c226 => ?_) (fun c226 => ?_)
                                        · skip
                                          refine lv_iload hx hb dX7_feed_43 (lv_at hl 0 rfl) ?_
                                          refine lv_bipush (v := nI 8) hx hb dX7_feed_45 (by decide) ?_
                                          refine k_icmp_ge (tgt := 54) (by omega) (by omega) hx hb dX7_feed_47 (by decide) (fun c227 => ?_) (fun c227 => ?_)
                                          · skip
                                            exact absurd c227 (by omega)
                                          · skip
                                            refine lv_iload_n hx hb dX7_feed_50 rfl (lv_at hl 4 rfl) ?_
                                            refine lv_goto (tgt := 79) hx hb dX7_feed_51 (by decide) ?_
                                            refine lv_istore (lv' := [(7, .int (nI k1)), (6, .int (nI 7)), (0, .ref mm), (1, .int (nI k0)), (2, .int (nI k1)), (3, .int (nI k2)), (4, .int (nI k3)), (5, .int (nI k4))]) hx hb dX7_feed_79 hl (by decide) rfl (fun ls hl => ?_)
                                            refine lv_aload_n hx hb dX7_feed_81 rfl (lv_at hl 2 rfl) ?_
                                            refine va_get (D := D) (ci := 5) (v := .ref ma) (C := RX7) (T := TX7) (N := 22) hx hb hts inX7 hown hK hP 0 rfl rfl 5 (by decide) (hts (.fieldLink RX7 8 "ByteShapesModel" "tape" "[I") (List.mem_cons_of_mem _ wd_377)) (fun _ h9 => h9) rfl dX7_feed_82 ?_
                                            refine lv_aload_n hx hb dX7_feed_85 rfl (lv_at hl 2 rfl) ?_
                                            refine va_get (D := D) (ci := 5) (v := .int (nI n)) (C := RX7) (T := TX7) (N := 22) hx hb hts inX7 hown hK hP 0 rfl rfl 4 (by decide) (hts (.fieldLink RX7 55 "ByteShapesModel" "fed" "I") (List.mem_cons_of_mem _ wd_375)) (fun _ h9 => h9) rfl dX7_feed_86 ?_
                                            refine lv_iload hx hb dX7_feed_89 (lv_at hl 1 rfl) ?_
                                            refine lv_iadd hx hb dX7_feed_91 ?_
                                            refine k_i (show _ = nI (n + 7) from nI_add _ _) ?_
                                            refine lv_iload hx hb dX7_feed_92 (lv_at hl 0 rfl) ?_
                                            refine lv_bipush (v := nI 24) hx hb dX7_feed_94 (by decide) ?_
                                            refine lv_bipush (v := nI 8) hx hb dX7_feed_96 (by decide) ?_
                                            refine lv_iload hx hb dX7_feed_98 (lv_at hl 1 rfl) ?_
                                            refine lv_iconst (v := nI 4) hx hb dX7_feed_100 (by decide) ?_
                                            refine lv_irem hx hb dX7_feed_101 (by decide) ?_
                                            refine k_i (show _ = nI 3 from by decide) ?_
                                            refine lv_imul hx hb dX7_feed_102 ?_
                                            refine k_i (show _ = nI 24 from by decide) ?_
                                            refine lv_isub hx hb dX7_feed_103 ?_
                                            refine k_i (show _ = nI 0 from by decide) ?_
                                            refine lv_ishr hx hb dX7_feed_104 ?_
                                            refine lv_sipush (v := nI 255) hx hb dX7_feed_105 (by decide) ?_
                                            refine lv_iand hx hb dX7_feed_108 ?_
                                            refine k_i (show _ = nI (k1 / 2 ^ 0 % 256) from sh_b (by omega) (by decide)) ?_
                                            refine va_iast hx hb hK hP hD hS 1 0 rfl rfl (vp_in_nI (by omega) (by omega)) dX7_feed_109 (fun H locs hP hD hS => ?_)
                                            rw [show upd (iF (va_up (va_up (va_up (va_up (va_up (va_up (va_up b (n + 0) (k0 / 2 ^ 24 % 256)) (n + 1) (k0 / 2 ^ 16 % 256)) (n + 2) (k0 / 2 ^ 8 % 256)) (n + 3) (k0 / 2 ^ 0 % 256)) (n + 4) (k1 / 2 ^ 24 % 256)) (n + 5) (k1 / 2 ^ 16 % 256)) (n + 6) (k1 / 2 ^ 8 % 256))) (nI (n + 7)).toNatClampNeg (nI (k1 / 2 ^ 0 % 256)) = iF (va_up (va_up (va_up (va_up (va_up (va_up (va_up (va_up b (n + 0) (k0 / 2 ^ 24 % 256)) (n + 1) (k0 / 2 ^ 16 % 256)) (n + 2) (k0 / 2 ^ 8 % 256)) (n + 3) (k0 / 2 ^ 0 % 256)) (n + 4) (k1 / 2 ^ 24 % 256)) (n + 5) (k1 / 2 ^ 16 % 256)) (n + 6) (k1 / 2 ^ 8 % 256)) (n + 7) (k1 / 2 ^ 0 % 256)) from by rw [nI_clamp (by omega)]; exact iF_put _ _ _] at hP hD
                                            have hP : va_P D kCl [(mm, .inr (5, [.int (nI 0), .int (nI dg), .int (nI PT), .int (nI PN), .int (nI n), .ref ma, .ref mb, .ref mc, .ref md, .ref me, .int (nI sz), .ref mf, .int (nI od), .int (nI sl), .int (nI t), .int (nI wr), .int (nI pl), .int (nI lo), .long (lN nm), .int vz, .ref mg, .ref mh])), (ma, .inl (cI, 65536, .inl (iF (va_up (va_up (va_up (va_up (va_up (va_up (va_up (va_up b (n + 0) (k0 / 2 ^ 24 % 256)) (n + 1) (k0 / 2 ^ 16 % 256)) (n + 2) (k0 / 2 ^ 8 % 256)) (n + 3) (k0 / 2 ^ 0 % 256)) (n + 4) (k1 / 2 ^ 24 % 256)) (n + 5) (k1 / 2 ^ 16 % 256)) (n + 6) (k1 / 2 ^ 8 % 256)) (n + 7) (k1 / 2 ^ 0 % 256)))))] H := hP
                                            have hD : va_D A [(mm, .inr (5, [.int (nI 0), .int (nI dg), .int (nI PT), .int (nI PN), .int (nI n), .ref ma, .ref mb, .ref mc, .ref md, .ref me, .int (nI sz), .ref mf, .int (nI od), .int (nI sl), .int (nI t), .int (nI wr), .int (nI pl), .int (nI lo), .long (lN nm), .int vz, .ref mg, .ref mh])), (ma, .inl (cI, 65536, .inl (iF (va_up (va_up (va_up (va_up (va_up (va_up (va_up (va_up b (n + 0) (k0 / 2 ^ 24 % 256)) (n + 1) (k0 / 2 ^ 16 % 256)) (n + 2) (k0 / 2 ^ 8 % 256)) (n + 3) (k0 / 2 ^ 0 % 256)) (n + 4) (k1 / 2 ^ 24 % 256)) (n + 5) (k1 / 2 ^ 16 % 256)) (n + 6) (k1 / 2 ^ 8 % 256)) (n + 7) (k1 / 2 ^ 0 % 256)))))] := hD
                                            refine lv_iinc (v := nI 8) (lv' := [(6, .int (nI 8)), (7, .int (nI k1)), (0, .ref mm), (1, .int (nI k0)), (2, .int (nI k1)), (3, .int (nI k2)), (4, .int (nI k3)), (5, .int (nI k4))]) hx hb dX7_feed_110 hl (k := 1) rfl (nI_add _ _) (by decide) rfl (fun ls hl => ?_)
                                            refine lv_goto (tgt := 26) hx hb dX7_feed_113 (by decide) ?_
                                            refine lv_iload hx hb dX7_feed_26 (lv_at hl 0 rfl) ?_
                                            refine lv_bipush (v := nI 20) hx hb dX7_feed_28 (by decide) ?_
                                            refine k_icmp_ge (tgt := 116) (by omega) (by omega) hx hb dX7_feed_30 (by decide) (fun c228 => ?_) (fun c228 => ?_)
                                            · skip
                                              exact absurd c228 (by omega)
                                            · skip
                                              refine lv_iload hx hb dX7_feed_33 (lv_at hl 0 rfl) ?_
                                              refine lv_iconst (v := nI 4) hx hb dX7_feed_35 (by decide) ?_
                                              refine k_icmp_ge (tgt := 43) (by omega) (by omega) hx hb dX7_feed_36 (by decide) (fun c229 => ?_) (fun c229 => ?_)
                                              · skip
                                                refine lv_iload hx hb dX7_feed_43 (lv_at hl 0 rfl) ?_
                                                refine lv_bipush (v := nI 8) hx hb dX7_feed_45 (by decide) ?_
                                                refine k_icmp_ge (tgt := 54) (by omega) (by omega) hx hb dX7_feed_47 (by decide) (fun c230 => ?_) (fun c230 => ?_)
                                                · skip
                                                  refine lv_iload hx hb dX7_feed_54 (lv_at hl 0 rfl) ?_
                                                  refine lv_bipush (v := nI 12) hx hb dX7_feed_56 (by decide) ?_
                                                  refine k_icmp_ge (tgt := 65) (by omega) (by omega) hx hb dX7_feed_58 (by decide) (fun c231 => ?_) (fun c231 => ?_)
                                                  · skip
                                                    exact absurd c231 (by omega)
                                                  · skip
                                                    refine lv_iload_n hx hb dX7_feed_61 rfl (lv_at hl 5 rfl) ?_
                                                    refine lv_goto (tgt := 79) hx hb dX7_feed_62 (by decide) ?_
                                                    refine lv_istore (lv' := [(7, .int (nI k2)), (6, .int (nI 8)), (0, .ref mm), (1, .int (nI k0)), (2, .int (nI k1)), (3, .int (nI k2)), (4, .int (nI k3)), (5, .int (nI k4))]) hx hb dX7_feed_79 hl (by decide) rfl (fun ls hl => ?_)
                                                    refine lv_aload_n hx hb dX7_feed_81 rfl (lv_at hl 2 rfl) ?_
                                                    refine va_get (D := D) (ci := 5) (v := .ref ma) (C := RX7) (T := TX7) (N := 22) hx hb hts inX7 hown hK hP 0 rfl rfl 5 (by decide) (hts (.fieldLink RX7 8 "ByteShapesModel" "tape" "[I") (List.mem_cons_of_mem _ wd_377)) (fun _ h9 => h9) rfl dX7_feed_82 ?_
                                                    refine lv_aload_n hx hb dX7_feed_85 rfl (lv_at hl 2 rfl) ?_
                                                    refine va_get (D := D) (ci := 5) (v := .int (nI n)) (C := RX7) (T := TX7) (N := 22) hx hb hts inX7 hown hK hP 0 rfl rfl 4 (by decide) (hts (.fieldLink RX7 55 "ByteShapesModel" "fed" "I") (List.mem_cons_of_mem _ wd_375)) (fun _ h9 => h9) rfl dX7_feed_86 ?_
                                                    refine lv_iload hx hb dX7_feed_89 (lv_at hl 1 rfl) ?_
                                                    refine lv_iadd hx hb dX7_feed_91 ?_
                                                    refine k_i (show _ = nI (n + 8) from nI_add _ _) ?_
                                                    refine lv_iload hx hb dX7_feed_92 (lv_at hl 0 rfl) ?_
                                                    refine lv_bipush (v := nI 24) hx hb dX7_feed_94 (by decide) ?_
                                                    refine lv_bipush (v := nI 8) hx hb dX7_feed_96 (by decide) ?_
                                                    refine lv_iload hx hb dX7_feed_98 (lv_at hl 1 rfl) ?_
                                                    refine lv_iconst (v := nI 4) hx hb dX7_feed_100 (by decide) ?_
                                                    refine lv_irem hx hb dX7_feed_101 (by decide) ?_
                                                    refine k_i (show _ = nI 0 from by decide) ?_
                                                    refine lv_imul hx hb dX7_feed_102 ?_
                                                    refine k_i (show _ = nI 0 from by decide) ?_
                                                    refine lv_isub hx hb dX7_feed_103 ?_
                                                    refine k_i (show _ = nI 24 from by decide) ?_
                                                    refine lv_ishr hx hb dX7_feed_104 ?_
                                                    refine lv_sipush (v := nI 255) hx hb dX7_feed_105 (by decide) ?_
                                                    refine lv_iand hx hb dX7_feed_108 ?_
                                                    refine k_i (show _ = nI (k2 / 2 ^ 24 % 256) from sh_b (by omega) (by decide)) ?_
                                                    refine va_iast hx hb hK hP hD hS 1 0 rfl rfl (vp_in_nI (by omega) (by omega)) dX7_feed_109 (fun H locs hP hD hS => ?_)
                                                    rw [show upd (iF (va_up (va_up (va_up (va_up (va_up (va_up (va_up (va_up b (n + 0) (k0 / 2 ^ 24 % 256)) (n + 1) (k0 / 2 ^ 16 % 256)) (n + 2) (k0 / 2 ^ 8 % 256)) (n + 3) (k0 / 2 ^ 0 % 256)) (n + 4) (k1 / 2 ^ 24 % 256)) (n + 5) (k1 / 2 ^ 16 % 256)) (n + 6) (k1 / 2 ^ 8 % 256)) (n + 7) (k1 / 2 ^ 0 % 256))) (nI (n + 8)).toNatClampNeg (nI (k2 / 2 ^ 24 % 256)) = iF (va_up (va_up (va_up (va_up (va_up (va_up (va_up (va_up (va_up b (n + 0) (k0 / 2 ^ 24 % 256)) (n + 1) (k0 / 2 ^ 16 % 256)) (n + 2) (k0 / 2 ^ 8 % 256)) (n + 3) (k0 / 2 ^ 0 % 256)) (n + 4) (k1 / 2 ^ 24 % 256)) (n + 5) (k1 / 2 ^ 16 % 256)) (n + 6) (k1 / 2 ^ 8 % 256)) (n + 7) (k1 / 2 ^ 0 % 256)) (n + 8) (k2 / 2 ^ 24 % 256)) from by rw [nI_clamp (by omega)]; exact iF_put _ _ _] at hP hD
                                                    have hP : va_P D kCl [(mm, .inr (5, [.int (nI 0), .int (nI dg), .int (nI PT), .int (nI PN), .int (nI n), .ref ma, .ref mb, .ref mc, .ref md, .ref me, .int (nI sz), .ref mf, .int (nI od), .int (nI sl), .int (nI t), .int (nI wr), .int (nI pl), .int (nI lo), .long (lN nm), .int vz, .ref mg, .ref mh])), (ma, .inl (cI, 65536, .inl (iF (va_up (va_up (va_up (va_up (va_up (va_up (va_up (va_up (va_up b (n + 0) (k0 / 2 ^ 24 % 256)) (n + 1) (k0 / 2 ^ 16 % 256)) (n + 2) (k0 / 2 ^ 8 % 256)) (n + 3) (k0 / 2 ^ 0 % 256)) (n + 4) (k1 / 2 ^ 24 % 256)) (n + 5) (k1 / 2 ^ 16 % 256)) (n + 6) (k1 / 2 ^ 8 % 256)) (n + 7) (k1 / 2 ^ 0 % 256)) (n + 8) (k2 / 2 ^ 24 % 256)))))] H := hP
                                                    have hD : va_D A [(mm, .inr (5, [.int (nI 0), .int (nI dg), .int (nI PT), .int (nI PN), .int (nI n), .ref ma, .ref mb, .ref mc, .ref md, .ref me, .int (nI sz), .ref mf, .int (nI od), .int (nI sl), .int (nI t), .int (nI wr), .int (nI pl), .int (nI lo), .long (lN nm), .int vz, .ref mg, .ref mh])), (ma, .inl (cI, 65536, .inl (iF (va_up (va_up (va_up (va_up (va_up (va_up (va_up (va_up (va_up b (n + 0) (k0 / 2 ^ 24 % 256)) (n + 1) (k0 / 2 ^ 16 % 256)) (n + 2) (k0 / 2 ^ 8 % 256)) (n + 3) (k0 / 2 ^ 0 % 256)) (n + 4) (k1 / 2 ^ 24 % 256)) (n + 5) (k1 / 2 ^ 16 % 256)) (n + 6) (k1 / 2 ^ 8 % 256)) (n + 7) (k1 / 2 ^ 0 % 256)) (n + 8) (k2 / 2 ^ 24 % 256)))))] := hD
                                                    refine lv_iinc (v := nI 9) (lv' := [(6, .int (nI 9)), (7, .int (nI k2)), (0, .ref mm), (1, .int (nI k0)), (2, .int (nI k1)), (3, .int (nI k2)), (4, .int (nI k3)), (5, .int (nI k4))]) hx hb dX7_feed_110 hl (k := 1) rfl (nI_add _ _) (by decide) rfl (fun ls hl => ?_)
                                                    refine lv_goto (tgt := 26) hx hb dX7_feed_113 (by decide) ?_
                                                    refine lv_iload hx hb dX7_feed_26 (lv_at hl 0 rfl) ?_
                                                    refine lv_bipush (v := nI 20) hx hb dX7_feed_28 (by decide) ?_
                                                    refine k_icmp_ge (tgt := 116) (by omega) (by omega) hx hb dX7_feed_30 (by decide) (fun c232 => ?_) (fun c232 => ?_)
                                                    · skip
                                                      exact absurd c232 (by omega)
                                                    · skip
                                                      refine lv_iload hx hb dX7_feed_33 (lv_at hl 0 rfl) ?_
                                                      refine lv_iconst (v := nI 4) hx hb dX7_feed_35 (by decide) ?_
                                                      refine k_icmp_ge (tgt := 43) (by omega) (by omega) hx hb dX7_feed_36 (by decide) (fun c233 => ?_) (fun c233 => ?_)
                                                      · skip
                                                        refine lv_iload hx hb dX7_feed_43 (lv_at hl 0 rfl) ?_
                                                        refine lv_bipush (v := nI 8) hx hb dX7_feed_45 (by decide) ?_
                                                        refine k_icmp_ge (tgt := 54) (by omega) (by omega) hx hb dX7_feed_47 (by decide) (fun c234 => ?_) (fun c234 => ?_)
                                                        · skip
                                                          refine lv_iload hx hb dX7_feed_54 (lv_at hl 0 rfl) ?_
                                                          refine lv_bipush (v := nI 12) hx hb dX7_feed_56 (by decide) ?_
                                                          refine k_icmp_ge (tgt := 65) (by omega) (by omega) hx hb dX7_feed_58 (by decide) (fun c235 => ?_) (fun c235 => ?_)
                                                          · skip
                                                            exact absurd c235 (by omega)
                                                          · skip
                                                            refine lv_iload_n hx hb dX7_feed_61 rfl (lv_at hl 5 rfl) ?_
                                                            refine lv_goto (tgt := 79) hx hb dX7_feed_62 (by decide) ?_
                                                            refine lv_istore (lv' := [(7, .int (nI k2)), (6, .int (nI 9)), (0, .ref mm), (1, .int (nI k0)), (2, .int (nI k1)), (3, .int (nI k2)), (4, .int (nI k3)), (5, .int (nI k4))]) hx hb dX7_feed_79 hl (by decide) rfl (fun ls hl => ?_)
                                                            refine lv_aload_n hx hb dX7_feed_81 rfl (lv_at hl 2 rfl) ?_
                                                            refine va_get (D := D) (ci := 5) (v := .ref ma) (C := RX7) (T := TX7) (N := 22) hx hb hts inX7 hown hK hP 0 rfl rfl 5 (by decide) (hts (.fieldLink RX7 8 "ByteShapesModel" "tape" "[I") (List.mem_cons_of_mem _ wd_377)) (fun _ h9 => h9) rfl dX7_feed_82 ?_
                                                            refine lv_aload_n hx hb dX7_feed_85 rfl (lv_at hl 2 rfl) ?_
                                                            refine va_get (D := D) (ci := 5) (v := .int (nI n)) (C := RX7) (T := TX7) (N := 22) hx hb hts inX7 hown hK hP 0 rfl rfl 4 (by decide) (hts (.fieldLink RX7 55 "ByteShapesModel" "fed" "I") (List.mem_cons_of_mem _ wd_375)) (fun _ h9 => h9) rfl dX7_feed_86 ?_
                                                            refine lv_iload hx hb dX7_feed_89 (lv_at hl 1 rfl) ?_
                                                            refine lv_iadd hx hb dX7_feed_91 ?_
                                                            refine k_i (show _ = nI (n + 9) from nI_add _ _) ?_
                                                            refine lv_iload hx hb dX7_feed_92 (lv_at hl 0 rfl) ?_
                                                            refine lv_bipush (v := nI 24) hx hb dX7_feed_94 (by decide) ?_
                                                            refine lv_bipush (v := nI 8) hx hb dX7_feed_96 (by decide) ?_
                                                            refine lv_iload hx hb dX7_feed_98 (lv_at hl 1 rfl) ?_
                                                            refine lv_iconst (v := nI 4) hx hb dX7_feed_100 (by decide) ?_
                                                            refine lv_irem hx hb dX7_feed_101 (by decide) ?_
                                                            refine k_i (show _ = nI 1 from by decide) ?_
                                                            refine lv_imul hx hb dX7_feed_102 ?_
                                                            refine k_i (show _ = nI 8 from by decide) ?_
                                                            refine lv_isub hx hb dX7_feed_103 ?_
                                                            refine k_i (show _ = nI 16 from by decide) ?_
                                                            refine lv_ishr hx hb dX7_feed_104 ?_
                                                            refine lv_sipush (v := nI 255) hx hb dX7_feed_105 (by decide) ?_
                                                            refine lv_iand hx hb dX7_feed_108 ?_
                                                            refine k_i (show _ = nI (k2 / 2 ^ 16 % 256) from sh_b (by omega) (by decide)) ?_
                                                            refine va_iast hx hb hK hP hD hS 1 0 rfl rfl (vp_in_nI (by omega) (by omega)) dX7_feed_109 (fun H locs hP hD hS => ?_)
                                                            rw [show upd (iF (va_up (va_up (va_up (va_up (va_up (va_up (va_up (va_up (va_up b (n + 0) (k0 / 2 ^ 24 % 256)) (n + 1) (k0 / 2 ^ 16 % 256)) (n + 2) (k0 / 2 ^ 8 % 256)) (n + 3) (k0 / 2 ^ 0 % 256)) (n + 4) (k1 / 2 ^ 24 % 256)) (n + 5) (k1 / 2 ^ 16 % 256)) (n + 6) (k1 / 2 ^ 8 % 256)) (n + 7) (k1 / 2 ^ 0 % 256)) (n + 8) (k2 / 2 ^ 24 % 256))) (nI (n + 9)).toNatClampNeg (nI (k2 / 2 ^ 16 % 256)) = iF (va_up (va_up (va_up (va_up (va_up (va_up (va_up (va_up (va_up (va_up b (n + 0) (k0 / 2 ^ 24 % 256)) (n + 1) (k0 / 2 ^ 16 % 256)) (n + 2) (k0 / 2 ^ 8 % 256)) (n + 3) (k0 / 2 ^ 0 % 256)) (n + 4) (k1 / 2 ^ 24 % 256)) (n + 5) (k1 / 2 ^ 16 % 256)) (n + 6) (k1 / 2 ^ 8 % 256)) (n + 7) (k1 / 2 ^ 0 % 256)) (n + 8) (k2 / 2 ^ 24 % 256)) (n + 9) (k2 / 2 ^ 16 % 256)) from by rw [nI_clamp (by omega)]; exact iF_put _ _ _] at hP hD
                                                            have hP : va_P D kCl [(mm, .inr (5, [.int (nI 0), .int (nI dg), .int (nI PT), .int (nI PN), .int (nI n), .ref ma, .ref mb, .ref mc, .ref md, .ref me, .int (nI sz), .ref mf, .int (nI od), .int (nI sl), .int (nI t), .int (nI wr), .int (nI pl), .int (nI lo), .long (lN nm), .int vz, .ref mg, .ref mh])), (ma, .inl (cI, 65536, .inl (iF (va_up (va_up (va_up (va_up (va_up (va_up (va_up (va_up (va_up (va_up b (n + 0) (k0 / 2 ^ 24 % 256)) (n + 1) (k0 / 2 ^ 16 % 256)) (n + 2) (k0 / 2 ^ 8 % 256)) (n + 3) (k0 / 2 ^ 0 % 256)) (n + 4) (k1 / 2 ^ 24 % 256)) (n + 5) (k1 / 2 ^ 16 % 256)) (n + 6) (k1 / 2 ^ 8 % 256)) (n + 7) (k1 / 2 ^ 0 % 256)) (n + 8) (k2 / 2 ^ 24 % 256)) (n + 9) (k2 / 2 ^ 16 % 256)))))] H := hP
                                                            have hD : va_D A [(mm, .inr (5, [.int (nI 0), .int (nI dg), .int (nI PT), .int (nI PN), .int (nI n), .ref ma, .ref mb, .ref mc, .ref md, .ref me, .int (nI sz), .ref mf, .int (nI od), .int (nI sl), .int (nI t), .int (nI wr), .int (nI pl), .int (nI lo), .long (lN nm), .int vz, .ref mg, .ref mh])), (ma, .inl (cI, 65536, .inl (iF (va_up (va_up (va_up (va_up (va_up (va_up (va_up (va_up (va_up (va_up b (n + 0) (k0 / 2 ^ 24 % 256)) (n + 1) (k0 / 2 ^ 16 % 256)) (n + 2) (k0 / 2 ^ 8 % 256)) (n + 3) (k0 / 2 ^ 0 % 256)) (n + 4) (k1 / 2 ^ 24 % 256)) (n + 5) (k1 / 2 ^ 16 % 256)) (n + 6) (k1 / 2 ^ 8 % 256)) (n + 7) (k1 / 2 ^ 0 % 256)) (n + 8) (k2 / 2 ^ 24 % 256)) (n + 9) (k2 / 2 ^ 16 % 256)))))] := hD
                                                            refine lv_iinc (v := nI 10) (lv' := [(6, .int (nI 10)), (7, .int (nI k2)), (0, .ref mm), (1, .int (nI k0)), (2, .int (nI k1)), (3, .int (nI k2)), (4, .int (nI k3)), (5, .int (nI k4))]) hx hb dX7_feed_110 hl (k := 1) rfl (nI_add _ _) (by decide) rfl (fun ls hl => ?_)
                                                            refine lv_goto (tgt := 26) hx hb dX7_feed_113 (by decide) ?_
                                                            refine lv_iload hx hb dX7_feed_26 (lv_at hl 0 rfl) ?_
                                                            refine lv_bipush (v := nI 20) hx hb dX7_feed_28 (by decide) ?_
                                                            refine k_icmp_ge (tgt := 116) (by omega) (by omega) hx hb dX7_feed_30 (by decide) (fun c236 => ?_) (fun c236 => ?_)
                                                            · skip
                                                              exact absurd c236 (by omega)
                                                            · skip
                                                              refine lv_iload hx hb dX7_feed_33 (lv_at hl 0 rfl) ?_
                                                              refine lv_iconst (v := nI 4) hx hb dX7_feed_35 (by decide) ?_
                                                              refine k_icmp_ge (tgt := 43) (by omega) (by omega) hx hb dX7_feed_36 (by decide) (fun c237 => ?_) (fun c237 => ?_)
                                                              · skip
                                                                refine lv_iload hx hb dX7_feed_43 (lv_at hl 0 rfl) ?_
                                                                refine lv_bipush (v := nI 8) hx hb dX7_feed_45 (by decide) ?_
                                                                refine k_icmp_ge (tgt := 54) (by omega) (by omega) hx hb dX7_feed_47 (by decide) (fun c238 => ?_) (fun c238 => ?_)
                                                                · skip
                                                                  refine lv_iload hx hb dX7_feed_54 (lv_at hl 0 rfl) ?_
                                                                  refine lv_bipush (v := nI 12) hx hb dX7_feed_56 (by decide) ?_
                                                                  refine k_icmp_ge (tgt := 65) (by omega) (by omega) hx hb dX7_feed_58 (by decide) (fun c239 => ?_) (fun c239 => ?_)
                                                                  · skip
                                                                    exact absurd c239 (by omega)
                                                                  · skip
                                                                    refine lv_iload_n hx hb dX7_feed_61 rfl (lv_at hl 5 rfl) ?_
                                                                    refine lv_goto (tgt := 79) hx hb dX7_feed_62 (by decide) ?_
                                                                    refine lv_istore (lv' := [(7, .int (nI k2)), (6, .int (nI 10)), (0, .ref mm), (1, .int (nI k0)), (2, .int (nI k1)), (3, .int (nI k2)), (4, .int (nI k3)), (5, .int (nI k4))]) hx hb dX7_feed_79 hl (by decide) rfl (fun ls hl => ?_)
                                                                    refine lv_aload_n hx hb dX7_feed_81 rfl (lv_at hl 2 rfl) ?_
                                                                    refine va_get (D := D) (ci := 5) (v := .ref ma) (C := RX7) (T := TX7) (N := 22) hx hb hts inX7 hown hK hP 0 rfl rfl 5 (by decide) (hts (.fieldLink RX7 8 "ByteShapesModel" "tape" "[I") (List.mem_cons_of_mem _ wd_377)) (fun _ h9 => h9) rfl dX7_feed_82 ?_
                                                                    refine lv_aload_n hx hb dX7_feed_85 rfl (lv_at hl 2 rfl) ?_
                                                                    refine va_get (D := D) (ci := 5) (v := .int (nI n)) (C := RX7) (T := TX7) (N := 22) hx hb hts inX7 hown hK hP 0 rfl rfl 4 (by decide) (hts (.fieldLink RX7 55 "ByteShapesModel" "fed" "I") (List.mem_cons_of_mem _ wd_375)) (fun _ h9 => h9) rfl dX7_feed_86 ?_
                                                                    refine lv_iload hx hb dX7_feed_89 (lv_at hl 1 rfl) ?_
                                                                    refine lv_iadd hx hb dX7_feed_91 ?_
                                                                    refine k_i (show _ = nI (n + 10) from nI_add _ _) ?_
                                                                    refine lv_iload hx hb dX7_feed_92 (lv_at hl 0 rfl) ?_
                                                                    refine lv_bipush (v := nI 24) hx hb dX7_feed_94 (by decide) ?_
                                                                    refine lv_bipush (v := nI 8) hx hb dX7_feed_96 (by decide) ?_
                                                                    refine lv_iload hx hb dX7_feed_98 (lv_at hl 1 rfl) ?_
                                                                    refine lv_iconst (v := nI 4) hx hb dX7_feed_100 (by decide) ?_
                                                                    refine lv_irem hx hb dX7_feed_101 (by decide) ?_
                                                                    refine k_i (show _ = nI 2 from by decide) ?_
                                                                    refine lv_imul hx hb dX7_feed_102 ?_
                                                                    refine k_i (show _ = nI 16 from by decide) ?_
                                                                    refine lv_isub hx hb dX7_feed_103 ?_
                                                                    refine k_i (show _ = nI 8 from by decide) ?_
                                                                    refine lv_ishr hx hb dX7_feed_104 ?_
                                                                    refine lv_sipush (v := nI 255) hx hb dX7_feed_105 (by decide) ?_
                                                                    refine lv_iand hx hb dX7_feed_108 ?_
                                                                    refine k_i (show _ = nI (k2 / 2 ^ 8 % 256) from sh_b (by omega) (by decide)) ?_
                                                                    refine va_iast hx hb hK hP hD hS 1 0 rfl rfl (vp_in_nI (by omega) (by omega)) dX7_feed_109 (fun H locs hP hD hS => ?_)
                                                                    rw [show upd (iF (va_up (va_up (va_up (va_up (va_up (va_up (va_up (va_up (va_up (va_up b (n + 0) (k0 / 2 ^ 24 % 256)) (n + 1) (k0 / 2 ^ 16 % 256)) (n + 2) (k0 / 2 ^ 8 % 256)) (n + 3) (k0 / 2 ^ 0 % 256)) (n + 4) (k1 / 2 ^ 24 % 256)) (n + 5) (k1 / 2 ^ 16 % 256)) (n + 6) (k1 / 2 ^ 8 % 256)) (n + 7) (k1 / 2 ^ 0 % 256)) (n + 8) (k2 / 2 ^ 24 % 256)) (n + 9) (k2 / 2 ^ 16 % 256))) (nI (n + 10)).toNatClampNeg (nI (k2 / 2 ^ 8 % 256)) = iF (va_up (va_up (va_up (va_up (va_up (va_up (va_up (va_up (va_up (va_up (va_up b (n + 0) (k0 / 2 ^ 24 % 256)) (n + 1) (k0 / 2 ^ 16 % 256)) (n + 2) (k0 / 2 ^ 8 % 256)) (n + 3) (k0 / 2 ^ 0 % 256)) (n + 4) (k1 / 2 ^ 24 % 256)) (n + 5) (k1 / 2 ^ 16 % 256)) (n + 6) (k1 / 2 ^ 8 % 256)) (n + 7) (k1 / 2 ^ 0 % 256)) (n + 8) (k2 / 2 ^ 24 % 256)) (n + 9) (k2 / 2 ^ 16 % 256)) (n + 10) (k2 / 2 ^ 8 % 256)) from by rw [nI_clamp (by omega)]; exact iF_put _ _ _] at hP hD
                                                                    have hP : va_P D kCl [(mm, .inr (5, [.int (nI 0), .int (nI dg), .int (nI PT), .int (nI PN), .int (nI n), .ref ma, .ref mb, .ref mc, .ref md, .ref me, .int (nI sz), .ref mf, .int (nI od), .int (nI sl), .int (nI t), .int (nI wr), .int (nI pl), .int (nI lo), .long (lN nm), .int vz, .ref mg, .ref mh])), (ma, .inl (cI, 65536, .inl (iF (va_up (va_up (va_up (va_up (va_up (va_up (va_up (va_up (va_up (va_up (va_up b (n + 0) (k0 / 2 ^ 24 % 256)) (n + 1) (k0 / 2 ^ 16 % 256)) (n + 2) (k0 / 2 ^ 8 % 256)) (n + 3) (k0 / 2 ^ 0 % 256)) (n + 4) (k1 / 2 ^ 24 % 256)) (n + 5) (k1 / 2 ^ 16 % 256)) (n + 6) (k1 / 2 ^ 8 % 256)) (n + 7) (k1 / 2 ^ 0 % 256)) (n + 8) (k2 / 2 ^ 24 % 256)) (n + 9) (k2 / 2 ^ 16 % 256)) (n + 10) (k2 / 2 ^ 8 % 256)))))] H := hP
                                                                    have hD : va_D A [(mm, .inr (5, [.int (nI 0), .int (nI dg), .int (nI PT), .int (nI PN), .int (nI n), .ref ma, .ref mb, .ref mc, .ref md, .ref me, .int (nI sz), .ref mf, .int (nI od), .int (nI sl), .int (nI t), .int (nI wr), .int (nI pl), .int (nI lo), .long (lN nm), .int vz, .ref mg, .ref mh])), (ma, .inl (cI, 65536, .inl (iF (va_up (va_up (va_up (va_up (va_up (va_up (va_up (va_up (va_up (va_up (va_up b (n + 0) (k0 / 2 ^ 24 % 256)) (n + 1) (k0 / 2 ^ 16 % 256)) (n + 2) (k0 / 2 ^ 8 % 256)) (n + 3) (k0 / 2 ^ 0 % 256)) (n + 4) (k1 / 2 ^ 24 % 256)) (n + 5) (k1 / 2 ^ 16 % 256)) (n + 6) (k1 / 2 ^ 8 % 256)) (n + 7) (k1 / 2 ^ 0 % 256)) (n + 8) (k2 / 2 ^ 24 % 256)) (n + 9) (k2 / 2 ^ 16 % 256)) (n + 10) (k2 / 2 ^ 8 % 256)))))] := hD
                                                                    refine lv_iinc (v := nI 11) (lv' := [(6, .int (nI 11)), (7, .int (nI k2)), (0, .ref mm), (1, .int (nI k0)), (2, .int (nI k1)), (3, .int (nI k2)), (4, .int (nI k3)), (5, .int (nI k4))]) hx hb dX7_feed_110 hl (k := 1) rfl (nI_add _ _) (by decide) rfl (fun ls hl => ?_)
                                                                    refine lv_goto (tgt := 26) hx hb dX7_feed_113 (by decide) ?_
                                                                    refine lv_iload hx hb dX7_feed_26 (lv_at hl 0 rfl) ?_
                                                                    refine lv_bipush (v := nI 20) hx hb dX7_feed_28 (by decide) ?_
                                                                    refine k_icmp_ge (tgt := 116) (by omega) (by omega) hx hb dX7_feed_30 (by decide) (fun c240 => ?_) (fun c240 => ?_)
                                                                    · skip
                                                                      exact absurd c240 (by omega)
                                                                    · skip
                                                                      refine lv_iload hx hb dX7_feed_33 (lv_at hl 0 rfl) ?_
                                                                      refine lv_iconst (v := nI 4) hx hb dX7_feed_35 (by decide) ?_
                                                                      refine k_icmp_ge (tgt := 43) (by omega) (by omega) hx hb dX7_feed_36 (by decide) (fun c241 => ?_) (fun c241 => ?_)
                                                                      · skip
                                                                        refine lv_iload hx hb dX7_feed_43 (lv_at hl 0 rfl) ?_
                                                                        refine lv_bipush (v := nI 8) hx hb dX7_feed_45 (by decide) ?_
                                                                        refine k_icmp_ge (tgt := 54) (by omega) (by omega) hx hb dX7_feed_47 (by decide) (fun c242 => ?_) (fun c242 => ?_)
                                                                        · skip
                                                                          refine lv_iload hx hb dX7_feed_54 (lv_at hl 0 rfl) ?_
                                                                          refine lv_bipush (v := nI 12) hx hb dX7_feed_56 (by decide) ?_
                                                                          refine k_icmp_ge (tgt := 65) (by omega) (by omega) hx hb dX7_feed_58 (by decide) (fun c243 => ?_) (fun c243 => ?_)
                                                                          · skip
                                                                            exact absurd c243 (by omega)
                                                                          · skip
                                                                            refine lv_iload_n hx hb dX7_feed_61 rfl (lv_at hl 5 rfl) ?_
                                                                            refine lv_goto (tgt := 79) hx hb dX7_feed_62 (by decide) ?_
                                                                            refine lv_istore (lv' := [(7, .int (nI k2)), (6, .int (nI 11)), (0, .ref mm), (1, .int (nI k0)), (2, .int (nI k1)), (3, .int (nI k2)), (4, .int (nI k3)), (5, .int (nI k4))]) hx hb dX7_feed_79 hl (by decide) rfl (fun ls hl => ?_)
                                                                            refine lv_aload_n hx hb dX7_feed_81 rfl (lv_at hl 2 rfl) ?_
                                                                            refine va_get (D := D) (ci := 5) (v := .ref ma) (C := RX7) (T := TX7) (N := 22) hx hb hts inX7 hown hK hP 0 rfl rfl 5 (by decide) (hts (.fieldLink RX7 8 "ByteShapesModel" "tape" "[I") (List.mem_cons_of_mem _ wd_377)) (fun _ h9 => h9) rfl dX7_feed_82 ?_
                                                                            refine lv_aload_n hx hb dX7_feed_85 rfl (lv_at hl 2 rfl) ?_
                                                                            refine va_get (D := D) (ci := 5) (v := .int (nI n)) (C := RX7) (T := TX7) (N := 22) hx hb hts inX7 hown hK hP 0 rfl rfl 4 (by decide) (hts (.fieldLink RX7 55 "ByteShapesModel" "fed" "I") (List.mem_cons_of_mem _ wd_375)) (fun _ h9 => h9) rfl dX7_feed_86 ?_
                                                                            refine lv_iload hx hb dX7_feed_89 (lv_at hl 1 rfl) ?_
                                                                            refine lv_iadd hx hb dX7_feed_91 ?_
                                                                            refine k_i (show _ = nI (n + 11) from nI_add _ _) ?_
                                                                            refine lv_iload hx hb dX7_feed_92 (lv_at hl 0 rfl) ?_
                                                                            refine lv_bipush (v := nI 24) hx hb dX7_feed_94 (by decide) ?_
                                                                            refine lv_bipush (v := nI 8) hx hb dX7_feed_96 (by decide) ?_
                                                                            refine lv_iload hx hb dX7_feed_98 (lv_at hl 1 rfl) ?_
                                                                            refine lv_iconst (v := nI 4) hx hb dX7_feed_100 (by decide) ?_
                                                                            refine lv_irem hx hb dX7_feed_101 (by decide) ?_
                                                                            refine k_i (show _ = nI 3 from by decide) ?_
                                                                            refine lv_imul hx hb dX7_feed_102 ?_
                                                                            refine k_i (show _ = nI 24 from by decide) ?_
                                                                            refine lv_isub hx hb dX7_feed_103 ?_
                                                                            refine k_i (show _ = nI 0 from by decide) ?_
                                                                            refine lv_ishr hx hb dX7_feed_104 ?_
                                                                            refine lv_sipush (v := nI 255) hx hb dX7_feed_105 (by decide) ?_
                                                                            refine lv_iand hx hb dX7_feed_108 ?_
                                                                            refine k_i (show _ = nI (k2 / 2 ^ 0 % 256) from sh_b (by omega) (by decide)) ?_
                                                                            refine va_iast hx hb hK hP hD hS 1 0 rfl rfl (vp_in_nI (by omega) (by omega)) dX7_feed_109 (fun H locs hP hD hS => ?_)
                                                                            rw [show upd (iF (va_up (va_up (va_up (va_up (va_up (va_up (va_up (va_up (va_up (va_up (va_up b (n + 0) (k0 / 2 ^ 24 % 256)) (n + 1) (k0 / 2 ^ 16 % 256)) (n + 2) (k0 / 2 ^ 8 % 256)) (n + 3) (k0 / 2 ^ 0 % 256)) (n + 4) (k1 / 2 ^ 24 % 256)) (n + 5) (k1 / 2 ^ 16 % 256)) (n + 6) (k1 / 2 ^ 8 % 256)) (n + 7) (k1 / 2 ^ 0 % 256)) (n + 8) (k2 / 2 ^ 24 % 256)) (n + 9) (k2 / 2 ^ 16 % 256)) (n + 10) (k2 / 2 ^ 8 % 256))) (nI (n + 11)).toNatClampNeg (nI (k2 / 2 ^ 0 % 256)) = iF (va_up (va_up (va_up (va_up (va_up (va_up (va_up (va_up (va_up (va_up (va_up (va_up b (n + 0) (k0 / 2 ^ 24 % 256)) (n + 1) (k0 / 2 ^ 16 % 256)) (n + 2) (k0 / 2 ^ 8 % 256)) (n + 3) (k0 / 2 ^ 0 % 256)) (n + 4) (k1 / 2 ^ 24 % 256)) (n + 5) (k1 / 2 ^ 16 % 256)) (n + 6) (k1 / 2 ^ 8 % 256)) (n + 7) (k1 / 2 ^ 0 % 256)) (n + 8) (k2 / 2 ^ 24 % 256)) (n + 9) (k2 / 2 ^ 16 % 256)) (n + 10) (k2 / 2 ^ 8 % 256)) (n + 11) (k2 / 2 ^ 0 % 256)) from by rw [nI_clamp (by omega)]; exact iF_put _ _ _] at hP hD
                                                                            have hP : va_P D kCl [(mm, .inr (5, [.int (nI 0), .int (nI dg), .int (nI PT), .int (nI PN), .int (nI n), .ref ma, .ref mb, .ref mc, .ref md, .ref me, .int (nI sz), .ref mf, .int (nI od), .int (nI sl), .int (nI t), .int (nI wr), .int (nI pl), .int (nI lo), .long (lN nm), .int vz, .ref mg, .ref mh])), (ma, .inl (cI, 65536, .inl (iF (va_up (va_up (va_up (va_up (va_up (va_up (va_up (va_up (va_up (va_up (va_up (va_up b (n + 0) (k0 / 2 ^ 24 % 256)) (n + 1) (k0 / 2 ^ 16 % 256)) (n + 2) (k0 / 2 ^ 8 % 256)) (n + 3) (k0 / 2 ^ 0 % 256)) (n + 4) (k1 / 2 ^ 24 % 256)) (n + 5) (k1 / 2 ^ 16 % 256)) (n + 6) (k1 / 2 ^ 8 % 256)) (n + 7) (k1 / 2 ^ 0 % 256)) (n + 8) (k2 / 2 ^ 24 % 256)) (n + 9) (k2 / 2 ^ 16 % 256)) (n + 10) (k2 / 2 ^ 8 % 256)) (n + 11) (k2 / 2 ^ 0 % 256)))))] H := hP
                                                                            have hD : va_D A [(mm, .inr (5, [.int (nI 0), .int (nI dg), .int (nI PT), .int (nI PN), .int (nI n), .ref ma, .ref mb, .ref mc, .ref md, .ref me, .int (nI sz), .ref mf, .int (nI od), .int (nI sl), .int (nI t), .int (nI wr), .int (nI pl), .int (nI lo), .long (lN nm), .int vz, .ref mg, .ref mh])), (ma, .inl (cI, 65536, .inl (iF (va_up (va_up (va_up (va_up (va_up (va_up (va_up (va_up (va_up (va_up (va_up (va_up b (n + 0) (k0 / 2 ^ 24 % 256)) (n + 1) (k0 / 2 ^ 16 % 256)) (n + 2) (k0 / 2 ^ 8 % 256)) (n + 3) (k0 / 2 ^ 0 % 256)) (n + 4) (k1 / 2 ^ 24 % 256)) (n + 5) (k1 / 2 ^ 16 % 256)) (n + 6) (k1 / 2 ^ 8 % 256)) (n + 7) (k1 / 2 ^ 0 % 256)) (n + 8) (k2 / 2 ^ 24 % 256)) (n + 9) (k2 / 2 ^ 16 % 256)) (n + 10) (k2 / 2 ^ 8 % 256)) (n + 11) (k2 / 2 ^ 0 % 256)))))] := hD
                                                                            refine lv_iinc (v := nI 12) (lv' := [(6, .int (nI 12)), (7, .int (nI k2)), (0, .ref mm), (1, .int (nI k0)), (2, .int (nI k1)), (3, .int (nI k2)), (4, .int (nI k3)), (5, .int (nI k4))]) hx hb dX7_feed_110 hl (k := 1) rfl (nI_add _ _) (by decide) rfl (fun ls hl => ?_)
                                                                            refine lv_goto (tgt := 26) hx hb dX7_feed_113 (by decide) ?_
                                                                            refine lv_iload hx hb dX7_feed_26 (lv_at hl 0 rfl) ?_
                                                                            refine lv_bipush (v := nI 20) hx hb dX7_feed_28 (by decide) ?_
                                                                            refine k_icmp_ge (tgt := 116) (by omega) (by omega) hx hb dX7_feed_30 (by decide) (fun c244 => ?_) (fun c244 => ?_)
                                                                            · skip
                                                                              exact absurd c244 (by omega)
                                                                            · skip
                                                                              refine lv_iload hx hb dX7_feed_33 (lv_at hl 0 rfl) ?_
                                                                              refine lv_iconst (v := nI 4) hx hb dX7_feed_35 (by decide) ?_
                                                                              refine k_icmp_ge (tgt := 43) (by omega) (by omega) hx hb dX7_feed_36 (by decide) (fun c245 => ?_) (fun c245 => ?_)
                                                                              · skip
                                                                                refine lv_iload hx hb dX7_feed_43 (lv_at hl 0 rfl) ?_
                                                                                refine lv_bipush (v := nI 8) hx hb dX7_feed_45 (by decide) ?_
                                                                                refine k_icmp_ge (tgt := 54) (by omega) (by omega) hx hb dX7_feed_47 (by decide) (fun c246 => ?_) (fun c246 => ?_)
                                                                                · skip
                                                                                  refine lv_iload hx hb dX7_feed_54 (lv_at hl 0 rfl) ?_
                                                                                  refine lv_bipush (v := nI 12) hx hb dX7_feed_56 (by decide) ?_
                                                                                  refine k_icmp_ge (tgt := 65) (by omega) (by omega) hx hb dX7_feed_58 (by decide) (fun c247 => ?_) (fun c247 => ?_)
                                                                                  · skip
                                                                                    refine lv_iload hx hb dX7_feed_65 (lv_at hl 0 rfl) ?_
                                                                                    refine lv_bipush (v := nI 16) hx hb dX7_feed_67 (by decide) ?_
                                                                                    refine k_icmp_ge (tgt := 77) (by omega) (by omega) hx hb dX7_feed_69 (by decide) (fun c248 => ?_) (fun c248 => ?_)
                                                                                    · skip
                                                                                      exact absurd c248 (by omega)
                                                                                    · skip
                                                                                      refine lv_iload hx hb dX7_feed_72 (lv_at hl 6 rfl) ?_
                                                                                      refine lv_goto (tgt := 79) hx hb dX7_feed_74 (by decide) ?_
                                                                                      refine lv_istore (lv' := [(7, .int (nI k3)), (6, .int (nI 12)), (0, .ref mm), (1, .int (nI k0)), (2, .int (nI k1)), (3, .int (nI k2)), (4, .int (nI k3)), (5, .int (nI k4))]) hx hb dX7_feed_79 hl (by decide) rfl (fun ls hl => ?_)
                                                                                      refine lv_aload_n hx hb dX7_feed_81 rfl (lv_at hl 2 rfl) ?_
                                                                                      refine va_get (D := D) (ci := 5) (v := .ref ma) (C := RX7) (T := TX7) (N := 22) hx hb hts inX7 hown hK hP 0 rfl rfl 5 (by decide) (hts (.fieldLink RX7 8 "ByteShapesModel" "tape" "[I") (List.mem_cons_of_mem _ wd_377)) (fun _ h9 => h9) rfl dX7_feed_82 ?_
                                                                                      refine lv_aload_n hx hb dX7_feed_85 rfl (lv_at hl 2 rfl) ?_
                                                                                      refine va_get (D := D) (ci := 5) (v := .int (nI n)) (C := RX7) (T := TX7) (N := 22) hx hb hts inX7 hown hK hP 0 rfl rfl 4 (by decide) (hts (.fieldLink RX7 55 "ByteShapesModel" "fed" "I") (List.mem_cons_of_mem _ wd_375)) (fun _ h9 => h9) rfl dX7_feed_86 ?_
                                                                                      refine lv_iload hx hb dX7_feed_89 (lv_at hl 1 rfl) ?_
                                                                                      refine lv_iadd hx hb dX7_feed_91 ?_
                                                                                      refine k_i (show _ = nI (n + 12) from nI_add _ _) ?_
                                                                                      refine lv_iload hx hb dX7_feed_92 (lv_at hl 0 rfl) ?_
                                                                                      refine lv_bipush (v := nI 24) hx hb dX7_feed_94 (by decide) ?_
                                                                                      refine lv_bipush (v := nI 8) hx hb dX7_feed_96 (by decide) ?_
                                                                                      refine lv_iload hx hb dX7_feed_98 (lv_at hl 1 rfl) ?_
                                                                                      refine lv_iconst (v := nI 4) hx hb dX7_feed_100 (by decide) ?_
                                                                                      refine lv_irem hx hb dX7_feed_101 (by decide) ?_
                                                                                      refine k_i (show _ = nI 0 from by decide) ?_
                                                                                      refine lv_imul hx hb dX7_feed_102 ?_
                                                                                      refine k_i (show _ = nI 0 from by decide) ?_
                                                                                      refine lv_isub hx hb dX7_feed_103 ?_
                                                                                      refine k_i (show _ = nI 24 from by decide) ?_
                                                                                      refine lv_ishr hx hb dX7_feed_104 ?_
                                                                                      refine lv_sipush (v := nI 255) hx hb dX7_feed_105 (by decide) ?_
                                                                                      refine lv_iand hx hb dX7_feed_108 ?_
                                                                                      refine k_i (show _ = nI (k3 / 2 ^ 24 % 256) from sh_b (by omega) (by decide)) ?_
                                                                                      refine va_iast hx hb hK hP hD hS 1 0 rfl rfl (vp_in_nI (by omega) (by omega)) dX7_feed_109 (fun H locs hP hD hS => ?_)
                                                                                      rw [show upd (iF (va_up (va_up (va_up (va_up (va_up (va_up (va_up (va_up (va_up (va_up (va_up (va_up b (n + 0) (k0 / 2 ^ 24 % 256)) (n + 1) (k0 / 2 ^ 16 % 256)) (n + 2) (k0 / 2 ^ 8 % 256)) (n + 3) (k0 / 2 ^ 0 % 256)) (n + 4) (k1 / 2 ^ 24 % 256)) (n + 5) (k1 / 2 ^ 16 % 256)) (n + 6) (k1 / 2 ^ 8 % 256)) (n + 7) (k1 / 2 ^ 0 % 256)) (n + 8) (k2 / 2 ^ 24 % 256)) (n + 9) (k2 / 2 ^ 16 % 256)) (n + 10) (k2 / 2 ^ 8 % 256)) (n + 11) (k2 / 2 ^ 0 % 256))) (nI (n + 12)).toNatClampNeg (nI (k3 / 2 ^ 24 % 256)) = iF (va_up (va_up (va_up (va_up (va_up (va_up (va_up (va_up (va_up (va_up (va_up (va_up (va_up b (n + 0) (k0 / 2 ^ 24 % 256)) (n + 1) (k0 / 2 ^ 16 % 256)) (n + 2) (k0 / 2 ^ 8 % 256)) (n + 3) (k0 / 2 ^ 0 % 256)) (n + 4) (k1 / 2 ^ 24 % 256)) (n + 5) (k1 / 2 ^ 16 % 256)) (n + 6) (k1 / 2 ^ 8 % 256)) (n + 7) (k1 / 2 ^ 0 % 256)) (n + 8) (k2 / 2 ^ 24 % 256)) (n + 9) (k2 / 2 ^ 16 % 256)) (n + 10) (k2 / 2 ^ 8 % 256)) (n + 11) (k2 / 2 ^ 0 % 256)) (n + 12) (k3 / 2 ^ 24 % 256)) from by rw [nI_clamp (by omega)]; exact iF_put _ _ _] at hP hD
                                                                                      have hP : va_P D kCl [(mm, .inr (5, [.int (nI 0), .int (nI dg), .int (nI PT), .int (nI PN), .int (nI n), .ref ma, .ref mb, .ref mc, .ref md, .ref me, .int (nI sz), .ref mf, .int (nI od), .int (nI sl), .int (nI t), .int (nI wr), .int (nI pl), .int (nI lo), .long (lN nm), .int vz, .ref mg, .ref mh])), (ma, .inl (cI, 65536, .inl (iF (va_up (va_up (va_up (va_up (va_up (va_up (va_up (va_up (va_up (va_up (va_up (va_up (va_up b (n + 0) (k0 / 2 ^ 24 % 256)) (n + 1) (k0 / 2 ^ 16 % 256)) (n + 2) (k0 / 2 ^ 8 % 256)) (n + 3) (k0 / 2 ^ 0 % 256)) (n + 4) (k1 / 2 ^ 24 % 256)) (n + 5) (k1 / 2 ^ 16 % 256)) (n + 6) (k1 / 2 ^ 8 % 256)) (n + 7) (k1 / 2 ^ 0 % 256)) (n + 8) (k2 / 2 ^ 24 % 256)) (n + 9) (k2 / 2 ^ 16 % 256)) (n + 10) (k2 / 2 ^ 8 % 256)) (n + 11) (k2 / 2 ^ 0 % 256)) (n + 12) (k3 / 2 ^ 24 % 256)))))] H := hP
                                                                                      have hD : va_D A [(mm, .inr (5, [.int (nI 0), .int (nI dg), .int (nI PT), .int (nI PN), .int (nI n), .ref ma, .ref mb, .ref mc, .ref md, .ref me, .int (nI sz), .ref mf, .int (nI od), .int (nI sl), .int (nI t), .int (nI wr), .int (nI pl), .int (nI lo), .long (lN nm), .int vz, .ref mg, .ref mh])), (ma, .inl (cI, 65536, .inl (iF (va_up (va_up (va_up (va_up (va_up (va_up (va_up (va_up (va_up (va_up (va_up (va_up (va_up b (n + 0) (k0 / 2 ^ 24 % 256)) (n + 1) (k0 / 2 ^ 16 % 256)) (n + 2) (k0 / 2 ^ 8 % 256)) (n + 3) (k0 / 2 ^ 0 % 256)) (n + 4) (k1 / 2 ^ 24 % 256)) (n + 5) (k1 / 2 ^ 16 % 256)) (n + 6) (k1 / 2 ^ 8 % 256)) (n + 7) (k1 / 2 ^ 0 % 256)) (n + 8) (k2 / 2 ^ 24 % 256)) (n + 9) (k2 / 2 ^ 16 % 256)) (n + 10) (k2 / 2 ^ 8 % 256)) (n + 11) (k2 / 2 ^ 0 % 256)) (n + 12) (k3 / 2 ^ 24 % 256)))))] := hD
                                                                                      refine lv_iinc (v := nI 13) (lv' := [(6, .int (nI 13)), (7, .int (nI k3)), (0, .ref mm), (1, .int (nI k0)), (2, .int (nI k1)), (3, .int (nI k2)), (4, .int (nI k3)), (5, .int (nI k4))]) hx hb dX7_feed_110 hl (k := 1) rfl (nI_add _ _) (by decide) rfl (fun ls hl => ?_)
                                                                                      refine lv_goto (tgt := 26) hx hb dX7_feed_113 (by decide) ?_
                                                                                      refine lv_iload hx hb dX7_feed_26 (lv_at hl 0 rfl) ?_
                                                                                      refine lv_bipush (v := nI 20) hx hb dX7_feed_28 (by decide) ?_
                                                                                      refine k_icmp_ge (tgt := 116) (by omega) (by omega) hx hb dX7_feed_30 (by decide) (fun c249 => ?_) (fun c249 => ?_)
                                                                                      · skip
                                                                                        exact absurd c249 (by omega)
                                                                                      · skip
                                                                                        refine lv_iload hx hb dX7_feed_33 (lv_at hl 0 rfl) ?_
                                                                                        refine lv_iconst (v := nI 4) hx hb dX7_feed_35 (by decide) ?_
                                                                                        refine k_icmp_ge (tgt := 43) (by omega) (by omega) hx hb dX7_feed_36 (by decide) (fun c250 => ?_) (fun c250 => ?_)
                                                                                        · skip
                                                                                          refine lv_iload hx hb dX7_feed_43 (lv_at hl 0 rfl) ?_
                                                                                          refine lv_bipush (v := nI 8) hx hb dX7_feed_45 (by decide) ?_
                                                                                          refine k_icmp_ge (tgt := 54) (by omega) (by omega) hx hb dX7_feed_47 (by decide) (fun c251 => ?_) (fun c251 => ?_)
                                                                                          · skip
                                                                                            refine lv_iload hx hb dX7_feed_54 (lv_at hl 0 rfl) ?_
                                                                                            refine lv_bipush (v := nI 12) hx hb dX7_feed_56 (by decide) ?_
                                                                                            refine k_icmp_ge (tgt := 65) (by omega) (by omega) hx hb dX7_feed_58 (by decide) (fun c252 => ?_) (fun c252 => ?_)
                                                                                            · skip
                                                                                              refine lv_iload hx hb dX7_feed_65 (lv_at hl 0 rfl) ?_
                                                                                              refine lv_bipush (v := nI 16) hx hb dX7_feed_67 (by decide) ?_
                                                                                              refine k_icmp_ge (tgt := 77) (by omega) (by omega) hx hb dX7_feed_69 (by decide) (fun c253 => ?_) (fun c253 => ?_)
                                                                                              · skip
                                                                                                exact absurd c253 (by omega)
                                                                                              · skip
                                                                                                refine lv_iload hx hb dX7_feed_72 (lv_at hl 6 rfl) ?_
                                                                                                refine lv_goto (tgt := 79) hx hb dX7_feed_74 (by decide) ?_
                                                                                                refine lv_istore (lv' := [(7, .int (nI k3)), (6, .int (nI 13)), (0, .ref mm), (1, .int (nI k0)), (2, .int (nI k1)), (3, .int (nI k2)), (4, .int (nI k3)), (5, .int (nI k4))]) hx hb dX7_feed_79 hl (by decide) rfl (fun ls hl => ?_)
                                                                                                refine lv_aload_n hx hb dX7_feed_81 rfl (lv_at hl 2 rfl) ?_
                                                                                                refine va_get (D := D) (ci := 5) (v := .ref ma) (C := RX7) (T := TX7) (N := 22) hx hb hts inX7 hown hK hP 0 rfl rfl 5 (by decide) (hts (.fieldLink RX7 8 "ByteShapesModel" "tape" "[I") (List.mem_cons_of_mem _ wd_377)) (fun _ h9 => h9) rfl dX7_feed_82 ?_
                                                                                                refine lv_aload_n hx hb dX7_feed_85 rfl (lv_at hl 2 rfl) ?_
                                                                                                refine va_get (D := D) (ci := 5) (v := .int (nI n)) (C := RX7) (T := TX7) (N := 22) hx hb hts inX7 hown hK hP 0 rfl rfl 4 (by decide) (hts (.fieldLink RX7 55 "ByteShapesModel" "fed" "I") (List.mem_cons_of_mem _ wd_375)) (fun _ h9 => h9) rfl dX7_feed_86 ?_
                                                                                                refine lv_iload hx hb dX7_feed_89 (lv_at hl 1 rfl) ?_
                                                                                                refine lv_iadd hx hb dX7_feed_91 ?_
                                                                                                refine k_i (show _ = nI (n + 13) from nI_add _ _) ?_
                                                                                                refine lv_iload hx hb dX7_feed_92 (lv_at hl 0 rfl) ?_
                                                                                                refine lv_bipush (v := nI 24) hx hb dX7_feed_94 (by decide) ?_
                                                                                                refine lv_bipush (v := nI 8) hx hb dX7_feed_96 (by decide) ?_
                                                                                                refine lv_iload hx hb dX7_feed_98 (lv_at hl 1 rfl) ?_
                                                                                                refine lv_iconst (v := nI 4) hx hb dX7_feed_100 (by decide) ?_
                                                                                                refine lv_irem hx hb dX7_feed_101 (by decide) ?_
                                                                                                refine k_i (show _ = nI 1 from by decide) ?_
                                                                                                refine lv_imul hx hb dX7_feed_102 ?_
                                                                                                refine k_i (show _ = nI 8 from by decide) ?_
                                                                                                refine lv_isub hx hb dX7_feed_103 ?_
                                                                                                refine k_i (show _ = nI 16 from by decide) ?_
                                                                                                refine lv_ishr hx hb dX7_feed_104 ?_
                                                                                                refine lv_sipush (v := nI 255) hx hb dX7_feed_105 (by decide) ?_
                                                                                                refine lv_iand hx hb dX7_feed_108 ?_
                                                                                                refine k_i (show _ = nI (k3 / 2 ^ 16 % 256) from sh_b (by omega) (by decide)) ?_
                                                                                                refine va_iast hx hb hK hP hD hS 1 0 rfl rfl (vp_in_nI (by omega) (by omega)) dX7_feed_109 (fun H locs hP hD hS => ?_)
                                                                                                rw [show upd (iF (va_up (va_up (va_up (va_up (va_up (va_up (va_up (va_up (va_up (va_up (va_up (va_up (va_up b (n + 0) (k0 / 2 ^ 24 % 256)) (n + 1) (k0 / 2 ^ 16 % 256)) (n + 2) (k0 / 2 ^ 8 % 256)) (n + 3) (k0 / 2 ^ 0 % 256)) (n + 4) (k1 / 2 ^ 24 % 256)) (n + 5) (k1 / 2 ^ 16 % 256)) (n + 6) (k1 / 2 ^ 8 % 256)) (n + 7) (k1 / 2 ^ 0 % 256)) (n + 8) (k2 / 2 ^ 24 % 256)) (n + 9) (k2 / 2 ^ 16 % 256)) (n + 10) (k2 / 2 ^ 8 % 256)) (n + 11) (k2 / 2 ^ 0 % 256)) (n + 12) (k3 / 2 ^ 24 % 256))) (nI (n + 13)).toNatClampNeg (nI (k3 / 2 ^ 16 % 256)) = iF (va_up (va_up (va_up (va_up (va_up (va_up (va_up (va_up (va_up (va_up (va_up (va_up (va_up (va_up b (n + 0) (k0 / 2 ^ 24 % 256)) (n + 1) (k0 / 2 ^ 16 % 256)) (n + 2) (k0 / 2 ^ 8 % 256)) (n + 3) (k0 / 2 ^ 0 % 256)) (n + 4) (k1 / 2 ^ 24 % 256)) (n + 5) (k1 / 2 ^ 16 % 256)) (n + 6) (k1 / 2 ^ 8 % 256)) (n + 7) (k1 / 2 ^ 0 % 256)) (n + 8) (k2 / 2 ^ 24 % 256)) (n + 9) (k2 / 2 ^ 16 % 256)) (n + 10) (k2 / 2 ^ 8 % 256)) (n + 11) (k2 / 2 ^ 0 % 256)) (n + 12) (k3 / 2 ^ 24 % 256)) (n + 13) (k3 / 2 ^ 16 % 256)) from by rw [nI_clamp (by omega)]; exact iF_put _ _ _] at hP hD
                                                                                                have hP : va_P D kCl [(mm, .inr (5, [.int (nI 0), .int (nI dg), .int (nI PT), .int (nI PN), .int (nI n), .ref ma, .ref mb, .ref mc, .ref md, .ref me, .int (nI sz), .ref mf, .int (nI od), .int (nI sl), .int (nI t), .int (nI wr), .int (nI pl), .int (nI lo), .long (lN nm), .int vz, .ref mg, .ref mh])), (ma, .inl (cI, 65536, .inl (iF (va_up (va_up (va_up (va_up (va_up (va_up (va_up (va_up (va_up (va_up (va_up (va_up (va_up (va_up b (n + 0) (k0 / 2 ^ 24 % 256)) (n + 1) (k0 / 2 ^ 16 % 256)) (n + 2) (k0 / 2 ^ 8 % 256)) (n + 3) (k0 / 2 ^ 0 % 256)) (n + 4) (k1 / 2 ^ 24 % 256)) (n + 5) (k1 / 2 ^ 16 % 256)) (n + 6) (k1 / 2 ^ 8 % 256)) (n + 7) (k1 / 2 ^ 0 % 256)) (n + 8) (k2 / 2 ^ 24 % 256)) (n + 9) (k2 / 2 ^ 16 % 256)) (n + 10) (k2 / 2 ^ 8 % 256)) (n + 11) (k2 / 2 ^ 0 % 256)) (n + 12) (k3 / 2 ^ 24 % 256)) (n + 13) (k3 / 2 ^ 16 % 256)))))] H := hP
                                                                                                have hD : va_D A [(mm, .inr (5, [.int (nI 0), .int (nI dg), .int (nI PT), .int (nI PN), .int (nI n), .ref ma, .ref mb, .ref mc, .ref md, .ref me, .int (nI sz), .ref mf, .int (nI od), .int (nI sl), .int (nI t), .int (nI wr), .int (nI pl), .int (nI lo), .long (lN nm), .int vz, .ref mg, .ref mh])), (ma, .inl (cI, 65536, .inl (iF (va_up (va_up (va_up (va_up (va_up (va_up (va_up (va_up (va_up (va_up (va_up (va_up (va_up (va_up b (n + 0) (k0 / 2 ^ 24 % 256)) (n + 1) (k0 / 2 ^ 16 % 256)) (n + 2) (k0 / 2 ^ 8 % 256)) (n + 3) (k0 / 2 ^ 0 % 256)) (n + 4) (k1 / 2 ^ 24 % 256)) (n + 5) (k1 / 2 ^ 16 % 256)) (n + 6) (k1 / 2 ^ 8 % 256)) (n + 7) (k1 / 2 ^ 0 % 256)) (n + 8) (k2 / 2 ^ 24 % 256)) (n + 9) (k2 / 2 ^ 16 % 256)) (n + 10) (k2 / 2 ^ 8 % 256)) (n + 11) (k2 / 2 ^ 0 % 256)) (n + 12) (k3 / 2 ^ 24 % 256)) (n + 13) (k3 / 2 ^ 16 % 256)))))] := hD
                                                                                                refine lv_iinc (v := nI 14) (lv' := [(6, .int (nI 14)), (7, .int (nI k3)), (0, .ref mm), (1, .int (nI k0)), (2, .int (nI k1)), (3, .int (nI k2)), (4, .int (nI k3)), (5, .int (nI k4))]) hx hb dX7_feed_110 hl (k := 1) rfl (nI_add _ _) (by decide) rfl (fun ls hl => ?_)
                                                                                                refine lv_goto (tgt := 26) hx hb dX7_feed_113 (by decide) ?_
                                                                                                refine lv_iload hx hb dX7_feed_26 (lv_at hl 0 rfl) ?_
                                                                                                refine lv_bipush (v := nI 20) hx hb dX7_feed_28 (by decide) ?_
                                                                                                refine k_icmp_ge (tgt := 116) (by omega) (by omega) hx hb dX7_feed_30 (by decide) (fun c254 => ?_) (fun c254 => ?_)
                                                                                                · skip
                                                                                                  exact absurd c254 (by omega)
                                                                                                · skip
                                                                                                  refine lv_iload hx hb dX7_feed_33 (lv_at hl 0 rfl) ?_
                                                                                                  refine lv_iconst (v := nI 4) hx hb dX7_feed_35 (by decide) ?_
                                                                                                  refine k_icmp_ge (tgt := 43) (by omega) (by omega) hx hb dX7_feed_36 (by decide) (fun c255 => ?_) (fun c255 => ?_)
                                                                                                  · skip
                                                                                                    refine lv_iload hx hb dX7_feed_43 (lv_at hl 0 rfl) ?_
                                                                                                    refine lv_bipush (v := nI 8) hx hb dX7_feed_45 (by decide) ?_
                                                                                                    refine k_icmp_ge (tgt := 54) (by omega) (by omega) hx hb dX7_feed_47 (by decide) (fun c256 => ?_) (fun c256 => ?_)
                                                                                                    · skip
                                                                                                      refine lv_iload hx hb dX7_feed_54 (lv_at hl 0 rfl) ?_
                                                                                                      refine lv_bipush (v := nI 12) hx hb dX7_feed_56 (by decide) ?_
                                                                                                      refine k_icmp_ge (tgt := 65) (by omega) (by omega) hx hb dX7_feed_58 (by decide) (fun c257 => ?_) (fun c257 => ?_)
                                                                                                      · skip
                                                                                                        refine lv_iload hx hb dX7_feed_65 (lv_at hl 0 rfl) ?_
                                                                                                        refine lv_bipush (v := nI 16) hx hb dX7_feed_67 (by decide) ?_
                                                                                                        refine k_icmp_ge (tgt := 77) (by omega) (by omega) hx hb dX7_feed_69 (by decide) (fun c258 => ?_) (fun c258 => ?_)
                                                                                                        · skip
                                                                                                          exact absurd c258 (by omega)
                                                                                                        · skip
                                                                                                          refine lv_iload hx hb dX7_feed_72 (lv_at hl 6 rfl) ?_
                                                                                                          refine lv_goto (tgt := 79) hx hb dX7_feed_74 (by decide) ?_
                                                                                                          refine lv_istore (lv' := [(7, .int (nI k3)), (6, .int (nI 14)), (0, .ref mm), (1, .int (nI k0)), (2, .int (nI k1)), (3, .int (nI k2)), (4, .int (nI k3)), (5, .int (nI k4))]) hx hb dX7_feed_79 hl (by decide) rfl (fun ls hl => ?_)
                                                                                                          refine lv_aload_n hx hb dX7_feed_81 rfl (lv_at hl 2 rfl) ?_
                                                                                                          refine va_get (D := D) (ci := 5) (v := .ref ma) (C := RX7) (T := TX7) (N := 22) hx hb hts inX7 hown hK hP 0 rfl rfl 5 (by decide) (hts (.fieldLink RX7 8 "ByteShapesModel" "tape" "[I") (List.mem_cons_of_mem _ wd_377)) (fun _ h9 => h9) rfl dX7_feed_82 ?_
                                                                                                          refine lv_aload_n hx hb dX7_feed_85 rfl (lv_at hl 2 rfl) ?_
                                                                                                          refine va_get (D := D) (ci := 5) (v := .int (nI n)) (C := RX7) (T := TX7) (N := 22) hx hb hts inX7 hown hK hP 0 rfl rfl 4 (by decide) (hts (.fieldLink RX7 55 "ByteShapesModel" "fed" "I") (List.mem_cons_of_mem _ wd_375)) (fun _ h9 => h9) rfl dX7_feed_86 ?_
                                                                                                          refine lv_iload hx hb dX7_feed_89 (lv_at hl 1 rfl) ?_
                                                                                                          refine lv_iadd hx hb dX7_feed_91 ?_
                                                                                                          refine k_i (show _ = nI (n + 14) from nI_add _ _) ?_
                                                                                                          refine lv_iload hx hb dX7_feed_92 (lv_at hl 0 rfl) ?_
                                                                                                          refine lv_bipush (v := nI 24) hx hb dX7_feed_94 (by decide) ?_
                                                                                                          refine lv_bipush (v := nI 8) hx hb dX7_feed_96 (by decide) ?_
                                                                                                          refine lv_iload hx hb dX7_feed_98 (lv_at hl 1 rfl) ?_
                                                                                                          refine lv_iconst (v := nI 4) hx hb dX7_feed_100 (by decide) ?_
                                                                                                          refine lv_irem hx hb dX7_feed_101 (by decide) ?_
                                                                                                          refine k_i (show _ = nI 2 from by decide) ?_
                                                                                                          refine lv_imul hx hb dX7_feed_102 ?_
                                                                                                          refine k_i (show _ = nI 16 from by decide) ?_
                                                                                                          refine lv_isub hx hb dX7_feed_103 ?_
                                                                                                          refine k_i (show _ = nI 8 from by decide) ?_
                                                                                                          refine lv_ishr hx hb dX7_feed_104 ?_
                                                                                                          refine lv_sipush (v := nI 255) hx hb dX7_feed_105 (by decide) ?_
                                                                                                          refine lv_iand hx hb dX7_feed_108 ?_
                                                                                                          refine k_i (show _ = nI (k3 / 2 ^ 8 % 256) from sh_b (by omega) (by decide)) ?_
                                                                                                          refine va_iast hx hb hK hP hD hS 1 0 rfl rfl (vp_in_nI (by omega) (by omega)) dX7_feed_109 (fun H locs hP hD hS => ?_)
                                                                                                          rw [show upd (iF (va_up (va_up (va_up (va_up (va_up (va_up (va_up (va_up (va_up (va_up (va_up (va_up (va_up (va_up b (n + 0) (k0 / 2 ^ 24 % 256)) (n + 1) (k0 / 2 ^ 16 % 256)) (n + 2) (k0 / 2 ^ 8 % 256)) (n + 3) (k0 / 2 ^ 0 % 256)) (n + 4) (k1 / 2 ^ 24 % 256)) (n + 5) (k1 / 2 ^ 16 % 256)) (n + 6) (k1 / 2 ^ 8 % 256)) (n + 7) (k1 / 2 ^ 0 % 256)) (n + 8) (k2 / 2 ^ 24 % 256)) (n + 9) (k2 / 2 ^ 16 % 256)) (n + 10) (k2 / 2 ^ 8 % 256)) (n + 11) (k2 / 2 ^ 0 % 256)) (n + 12) (k3 / 2 ^ 24 % 256)) (n + 13) (k3 / 2 ^ 16 % 256))) (nI (n + 14)).toNatClampNeg (nI (k3 / 2 ^ 8 % 256)) = iF (va_up (va_up (va_up (va_up (va_up (va_up (va_up (va_up (va_up (va_up (va_up (va_up (va_up (va_up (va_up b (n + 0) (k0 / 2 ^ 24 % 256)) (n + 1) (k0 / 2 ^ 16 % 256)) (n + 2) (k0 / 2 ^ 8 % 256)) (n + 3) (k0 / 2 ^ 0 % 256)) (n + 4) (k1 / 2 ^ 24 % 256)) (n + 5) (k1 / 2 ^ 16 % 256)) (n + 6) (k1 / 2 ^ 8 % 256)) (n + 7) (k1 / 2 ^ 0 % 256)) (n + 8) (k2 / 2 ^ 24 % 256)) (n + 9) (k2 / 2 ^ 16 % 256)) (n + 10) (k2 / 2 ^ 8 % 256)) (n + 11) (k2 / 2 ^ 0 % 256)) (n + 12) (k3 / 2 ^ 24 % 256)) (n + 13) (k3 / 2 ^ 16 % 256)) (n + 14) (k3 / 2 ^ 8 % 256)) from by rw [nI_clamp (by omega)]; exact iF_put _ _ _] at hP hD
                                                                                                          have hP : va_P D kCl [(mm, .inr (5, [.int (nI 0), .int (nI dg), .int (nI PT), .int (nI PN), .int (nI n), .ref ma, .ref mb, .ref mc, .ref md, .ref me, .int (nI sz), .ref mf, .int (nI od), .int (nI sl), .int (nI t), .int (nI wr), .int (nI pl), .int (nI lo), .long (lN nm), .int vz, .ref mg, .ref mh])), (ma, .inl (cI, 65536, .inl (iF (va_up (va_up (va_up (va_up (va_up (va_up (va_up (va_up (va_up (va_up (va_up (va_up (va_up (va_up (va_up b (n + 0) (k0 / 2 ^ 24 % 256)) (n + 1) (k0 / 2 ^ 16 % 256)) (n + 2) (k0 / 2 ^ 8 % 256)) (n + 3) (k0 / 2 ^ 0 % 256)) (n + 4) (k1 / 2 ^ 24 % 256)) (n + 5) (k1 / 2 ^ 16 % 256)) (n + 6) (k1 / 2 ^ 8 % 256)) (n + 7) (k1 / 2 ^ 0 % 256)) (n + 8) (k2 / 2 ^ 24 % 256)) (n + 9) (k2 / 2 ^ 16 % 256)) (n + 10) (k2 / 2 ^ 8 % 256)) (n + 11) (k2 / 2 ^ 0 % 256)) (n + 12) (k3 / 2 ^ 24 % 256)) (n + 13) (k3 / 2 ^ 16 % 256)) (n + 14) (k3 / 2 ^ 8 % 256)))))] H := hP
                                                                                                          have hD : va_D A [(mm, .inr (5, [.int (nI 0), .int (nI dg), .int (nI PT), .int (nI PN), .int (nI n), .ref ma, .ref mb, .ref mc, .ref md, .ref me, .int (nI sz), .ref mf, .int (nI od), .int (nI sl), .int (nI t), .int (nI wr), .int (nI pl), .int (nI lo), .long (lN nm), .int vz, .ref mg, .ref mh])), (ma, .inl (cI, 65536, .inl (iF (va_up (va_up (va_up (va_up (va_up (va_up (va_up (va_up (va_up (va_up (va_up (va_up (va_up (va_up (va_up b (n + 0) (k0 / 2 ^ 24 % 256)) (n + 1) (k0 / 2 ^ 16 % 256)) (n + 2) (k0 / 2 ^ 8 % 256)) (n + 3) (k0 / 2 ^ 0 % 256)) (n + 4) (k1 / 2 ^ 24 % 256)) (n + 5) (k1 / 2 ^ 16 % 256)) (n + 6) (k1 / 2 ^ 8 % 256)) (n + 7) (k1 / 2 ^ 0 % 256)) (n + 8) (k2 / 2 ^ 24 % 256)) (n + 9) (k2 / 2 ^ 16 % 256)) (n + 10) (k2 / 2 ^ 8 % 256)) (n + 11) (k2 / 2 ^ 0 % 256)) (n + 12) (k3 / 2 ^ 24 % 256)) (n + 13) (k3 / 2 ^ 16 % 256)) (n + 14) (k3 / 2 ^ 8 % 256)))))] := hD
                                                                                                          refine lv_iinc (v := nI 15) (lv' := [(6, .int (nI 15)), (7, .int (nI k3)), (0, .ref mm), (1, .int (nI k0)), (2, .int (nI k1)), (3, .int (nI k2)), (4, .int (nI k3)), (5, .int (nI k4))]) hx hb dX7_feed_110 hl (k := 1) rfl (nI_add _ _) (by decide) rfl (fun ls hl => ?_)
                                                                                                          refine lv_goto (tgt := 26) hx hb dX7_feed_113 (by decide) ?_
                                                                                                          refine lv_iload hx hb dX7_feed_26 (lv_at hl 0 rfl) ?_
                                                                                                          refine lv_bipush (v := nI 20) hx hb dX7_feed_28 (by decide) ?_
                                                                                                          refine k_icmp_ge (tgt := 116) (by omega) (by omega) hx hb dX7_feed_30 (by decide) (fun c259 => ?_) (fun c259 => ?_)
                                                                                                          · skip
                                                                                                            exact absurd c259 (by omega)
                                                                                                          · skip
                                                                                                            refine lv_iload hx hb dX7_feed_33 (lv_at hl 0 rfl) ?_
                                                                                                            refine lv_iconst (v := nI 4) hx hb dX7_feed_35 (by decide) ?_
                                                                                                            refine k_icmp_ge (tgt := 43) (by omega) (by omega) hx hb dX7_feed_36 (by decide) (fun c260 => ?_) (fun c260 => ?_)
                                                                                                            · skip
                                                                                                              refine lv_iload hx hb dX7_feed_43 (lv_at hl 0 rfl) ?_
                                                                                                              refine lv_bipush (v := nI 8) hx hb dX7_feed_45 (by decide) ?_
                                                                                                              refine k_icmp_ge (tgt := 54) (by omega) (by omega) hx hb dX7_feed_47 (by decide) (fun c261 => ?_) (fun c261 => ?_)
                                                                                                              · skip
                                                                                                                refine lv_iload hx hb dX7_feed_54 (lv_at hl 0 rfl) ?_
                                                                                                                refine lv_bipush (v := nI 12) hx hb dX7_feed_56 (by decide) ?_
                                                                                                                refine k_icmp_ge (tgt := 65) (by omega) (by omega) hx hb dX7_feed_58 (by decide) (fun c262 => ?_) (fun c262 => ?_)
                                                                                                                · skip
                                                                                                                  refine lv_iload hx hb dX7_feed_65 (lv_at hl 0 rfl) ?_
                                                                                                                  refine lv_bipush (v := nI 16) hx hb dX7_feed_67 (by decide) ?_
                                                                                                                  refine k_icmp_ge (tgt := 77) (by omega) (by omega) hx hb dX7_feed_69 (by decide) (fun c263 => ?_) (fun c263 => ?_)
                                                                                                                  · skip
                                                                                                                    exact absurd c263 (by omega)
                                                                                                                  · skip
                                                                                                                    refine lv_iload hx hb dX7_feed_72 (lv_at hl 6 rfl) ?_
                                                                                                                    refine lv_goto (tgt := 79) hx hb dX7_feed_74 (by decide) ?_
                                                                                                                    refine lv_istore (lv' := [(7, .int (nI k3)), (6, .int (nI 15)), (0, .ref mm), (1, .int (nI k0)), (2, .int (nI k1)), (3, .int (nI k2)), (4, .int (nI k3)), (5, .int (nI k4))]) hx hb dX7_feed_79 hl (by decide) rfl (fun ls hl => ?_)
                                                                                                                    refine lv_aload_n hx hb dX7_feed_81 rfl (lv_at hl 2 rfl) ?_
                                                                                                                    refine va_get (D := D) (ci := 5) (v := .ref ma) (C := RX7) (T := TX7) (N := 22) hx hb hts inX7 hown hK hP 0 rfl rfl 5 (by decide) (hts (.fieldLink RX7 8 "ByteShapesModel" "tape" "[I") (List.mem_cons_of_mem _ wd_377)) (fun _ h9 => h9) rfl dX7_feed_82 ?_
                                                                                                                    refine lv_aload_n hx hb dX7_feed_85 rfl (lv_at hl 2 rfl) ?_
                                                                                                                    refine va_get (D := D) (ci := 5) (v := .int (nI n)) (C := RX7) (T := TX7) (N := 22) hx hb hts inX7 hown hK hP 0 rfl rfl 4 (by decide) (hts (.fieldLink RX7 55 "ByteShapesModel" "fed" "I") (List.mem_cons_of_mem _ wd_375)) (fun _ h9 => h9) rfl dX7_feed_86 ?_
                                                                                                                    refine lv_iload hx hb dX7_feed_89 (lv_at hl 1 rfl) ?_
                                                                                                                    refine lv_iadd hx hb dX7_feed_91 ?_
                                                                                                                    refine k_i (show _ = nI (n + 15) from nI_add _ _) ?_
                                                                                                                    refine lv_iload hx hb dX7_feed_92 (lv_at hl 0 rfl) ?_
                                                                                                                    refine lv_bipush (v := nI 24) hx hb dX7_feed_94 (by decide) ?_
                                                                                                                    refine lv_bipush (v := nI 8) hx hb dX7_feed_96 (by decide) ?_
                                                                                                                    refine lv_iload hx hb dX7_feed_98 (lv_at hl 1 rfl) ?_
                                                                                                                    refine lv_iconst (v := nI 4) hx hb dX7_feed_100 (by decide) ?_
                                                                                                                    refine lv_irem hx hb dX7_feed_101 (by decide) ?_
                                                                                                                    refine k_i (show _ = nI 3 from by decide) ?_
                                                                                                                    refine lv_imul hx hb dX7_feed_102 ?_
                                                                                                                    refine k_i (show _ = nI 24 from by decide) ?_
                                                                                                                    refine lv_isub hx hb dX7_feed_103 ?_
                                                                                                                    refine k_i (show _ = nI 0 from by decide) ?_
                                                                                                                    refine lv_ishr hx hb dX7_feed_104 ?_
                                                                                                                    refine lv_sipush (v := nI 255) hx hb dX7_feed_105 (by decide) ?_
                                                                                                                    refine lv_iand hx hb dX7_feed_108 ?_
                                                                                                                    refine k_i (show _ = nI (k3 / 2 ^ 0 % 256) from sh_b (by omega) (by decide)) ?_
                                                                                                                    refine va_iast hx hb hK hP hD hS 1 0 rfl rfl (vp_in_nI (by omega) (by omega)) dX7_feed_109 (fun H locs hP hD hS => ?_)
                                                                                                                    rw [show upd (iF (va_up (va_up (va_up (va_up (va_up (va_up (va_up (va_up (va_up (va_up (va_up (va_up (va_up (va_up (va_up b (n + 0) (k0 / 2 ^ 24 % 256)) (n + 1) (k0 / 2 ^ 16 % 256)) (n + 2) (k0 / 2 ^ 8 % 256)) (n + 3) (k0 / 2 ^ 0 % 256)) (n + 4) (k1 / 2 ^ 24 % 256)) (n + 5) (k1 / 2 ^ 16 % 256)) (n + 6) (k1 / 2 ^ 8 % 256)) (n + 7) (k1 / 2 ^ 0 % 256)) (n + 8) (k2 / 2 ^ 24 % 256)) (n + 9) (k2 / 2 ^ 16 % 256)) (n + 10) (k2 / 2 ^ 8 % 256)) (n + 11) (k2 / 2 ^ 0 % 256)) (n + 12) (k3 / 2 ^ 24 % 256)) (n + 13) (k3 / 2 ^ 16 % 256)) (n + 14) (k3 / 2 ^ 8 % 256))) (nI (n + 15)).toNatClampNeg (nI (k3 / 2 ^ 0 % 256)) = iF (va_up (va_up (va_up (va_up (va_up (va_up (va_up (va_up (va_up (va_up (va_up (va_up (va_up (va_up (va_up (va_up b (n + 0) (k0 / 2 ^ 24 % 256)) (n + 1) (k0 / 2 ^ 16 % 256)) (n + 2) (k0 / 2 ^ 8 % 256)) (n + 3) (k0 / 2 ^ 0 % 256)) (n + 4) (k1 / 2 ^ 24 % 256)) (n + 5) (k1 / 2 ^ 16 % 256)) (n + 6) (k1 / 2 ^ 8 % 256)) (n + 7) (k1 / 2 ^ 0 % 256)) (n + 8) (k2 / 2 ^ 24 % 256)) (n + 9) (k2 / 2 ^ 16 % 256)) (n + 10) (k2 / 2 ^ 8 % 256)) (n + 11) (k2 / 2 ^ 0 % 256)) (n + 12) (k3 / 2 ^ 24 % 256)) (n + 13) (k3 / 2 ^ 16 % 256)) (n + 14) (k3 / 2 ^ 8 % 256)) (n + 15) (k3 / 2 ^ 0 % 256)) from by rw [nI_clamp (by omega)]; exact iF_put _ _ _] at hP hD
                                                                                                                    have hP : va_P D kCl [(mm, .inr (5, [.int (nI 0), .int (nI dg), .int (nI PT), .int (nI PN), .int (nI n), .ref ma, .ref mb, .ref mc, .ref md, .ref me, .int (nI sz), .ref mf, .int (nI od), .int (nI sl), .int (nI t), .int (nI wr), .int (nI pl), .int (nI lo), .long (lN nm), .int vz, .ref mg, .ref mh])), (ma, .inl (cI, 65536, .inl (iF (va_up (va_up (va_up (va_up (va_up (va_up (va_up (va_up (va_up (va_up (va_up (va_up (va_up (va_up (va_up (va_up b (n + 0) (k0 / 2 ^ 24 % 256)) (n + 1) (k0 / 2 ^ 16 % 256)) (n + 2) (k0 / 2 ^ 8 % 256)) (n + 3) (k0 / 2 ^ 0 % 256)) (n + 4) (k1 / 2 ^ 24 % 256)) (n + 5) (k1 / 2 ^ 16 % 256)) (n + 6) (k1 / 2 ^ 8 % 256)) (n + 7) (k1 / 2 ^ 0 % 256)) (n + 8) (k2 / 2 ^ 24 % 256)) (n + 9) (k2 / 2 ^ 16 % 256)) (n + 10) (k2 / 2 ^ 8 % 256)) (n + 11) (k2 / 2 ^ 0 % 256)) (n + 12) (k3 / 2 ^ 24 % 256)) (n + 13) (k3 / 2 ^ 16 % 256)) (n + 14) (k3 / 2 ^ 8 % 256)) (n + 15) (k3 / 2 ^ 0 % 256)))))] H := hP
                                                                                                                    have hD : va_D A [(mm, .inr (5, [.int (nI 0), .int (nI dg), .int (nI PT), .int (nI PN), .int (nI n), .ref ma, .ref mb, .ref mc, .ref md, .ref me, .int (nI sz), .ref mf, .int (nI od), .int (nI sl), .int (nI t), .int (nI wr), .int (nI pl), .int (nI lo), .long (lN nm), .int vz, .ref mg, .ref mh])), (ma, .inl (cI, 65536, .inl (iF (va_up (va_up (va_up (va_up (va_up (va_up (va_up (va_up (va_up (va_up (va_up (va_up (va_up (va_up (va_up (va_up b (n + 0) (k0 / 2 ^ 24 % 256)) (n + 1) (k0 / 2 ^ 16 % 256)) (n + 2) (k0 / 2 ^ 8 % 256)) (n + 3) (k0 / 2 ^ 0 % 256)) (n + 4) (k1 / 2 ^ 24 % 256)) (n + 5) (k1 / 2 ^ 16 % 256)) (n + 6) (k1 / 2 ^ 8 % 256)) (n + 7) (k1 / 2 ^ 0 % 256)) (n + 8) (k2 / 2 ^ 24 % 256)) (n + 9) (k2 / 2 ^ 16 % 256)) (n + 10) (k2 / 2 ^ 8 % 256)) (n + 11) (k2 / 2 ^ 0 % 256)) (n + 12) (k3 / 2 ^ 24 % 256)) (n + 13) (k3 / 2 ^ 16 % 256)) (n + 14) (k3 / 2 ^ 8 % 256)) (n + 15) (k3 / 2 ^ 0 % 256)))))] := hD
                                                                                                                    refine lv_iinc (v := nI 16) (lv' := [(6, .int (nI 16)), (7, .int (nI k3)), (0, .ref mm), (1, .int (nI k0)), (2, .int (nI k1)), (3, .int (nI k2)), (4, .int (nI k3)), (5, .int (nI k4))]) hx hb dX7_feed_110 hl (k := 1) rfl (nI_add _ _) (by decide) rfl (fun ls hl => ?_)
                                                                                                                    refine lv_goto (tgt := 26) hx hb dX7_feed_113 (by decide) ?_
                                                                                                                    refine lv_iload hx hb dX7_feed_26 (lv_at hl 0 rfl) ?_
                                                                                                                    refine lv_bipush (v := nI 20) hx hb dX7_feed_28 (by decide) ?_
                                                                                                                    refine k_icmp_ge (tgt := 116) (by omega) (by omega) hx hb dX7_feed_30 (by decide) (fun c264 => ?_) (fun c264 => ?_)
                                                                                                                    · skip
                                                                                                                      exact absurd c264 (by omega)
                                                                                                                    · skip
                                                                                                                      refine lv_iload hx hb dX7_feed_33 (lv_at hl 0 rfl) ?_
                                                                                                                      refine lv_iconst (v := nI 4) hx hb dX7_feed_35 (by decide) ?_
                                                                                                                      refine k_icmp_ge (tgt := 43) (by omega) (by omega) hx hb dX7_feed_36 (by decide) (fun c265 => ?_) (fun c265 => ?_)
                                                                                                                      · skip
                                                                                                                        refine lv_iload hx hb dX7_feed_43 (lv_at hl 0 rfl) ?_
                                                                                                                        refine lv_bipush (v := nI 8) hx hb dX7_feed_45 (by decide) ?_
                                                                                                                        refine k_icmp_ge (tgt := 54) (by omega) (by omega) hx hb dX7_feed_47 (by decide) (fun c266 => ?_) (fun c266 => ?_)
                                                                                                                        · skip
                                                                                                                          refine lv_iload hx hb dX7_feed_54 (lv_at hl 0 rfl) ?_
                                                                                                                          refine lv_bipush (v := nI 12) hx hb dX7_feed_56 (by decide) ?_
                                                                                                                          refine k_icmp_ge (tgt := 65) (by omega) (by omega) hx hb dX7_feed_58 (by decide) (fun c267 => ?_) (fun c267 => ?_)
                                                                                                                          · skip
                                                                                                                            refine lv_iload hx hb dX7_feed_65 (lv_at hl 0 rfl) ?_
                                                                                                                            refine lv_bipush (v := nI 16) hx hb dX7_feed_67 (by decide) ?_
                                                                                                                            refine k_icmp_ge (tgt := 77) (by omega) (by omega) hx hb dX7_feed_69 (by decide) (fun c268 => ?_) (fun c268 => ?_)
                                                                                                                            · skip
                                                                                                                              refine lv_iload hx hb dX7_feed_77 (lv_at hl 7 rfl) ?_
                                                                                                                              refine lv_istore (lv' := [(7, .int (nI k4)), (6, .int (nI 16)), (0, .ref mm), (1, .int (nI k0)), (2, .int (nI k1)), (3, .int (nI k2)), (4, .int (nI k3)), (5, .int (nI k4))]) hx hb dX7_feed_79 hl (by decide) rfl (fun ls hl => ?_)
                                                                                                                              refine lv_aload_n hx hb dX7_feed_81 rfl (lv_at hl 2 rfl) ?_
                                                                                                                              refine va_get (D := D) (ci := 5) (v := .ref ma) (C := RX7) (T := TX7) (N := 22) hx hb hts inX7 hown hK hP 0 rfl rfl 5 (by decide) (hts (.fieldLink RX7 8 "ByteShapesModel" "tape" "[I") (List.mem_cons_of_mem _ wd_377)) (fun _ h9 => h9) rfl dX7_feed_82 ?_
                                                                                                                              refine lv_aload_n hx hb dX7_feed_85 rfl (lv_at hl 2 rfl) ?_
                                                                                                                              refine va_get (D := D) (ci := 5) (v := .int (nI n)) (C := RX7) (T := TX7) (N := 22) hx hb hts inX7 hown hK hP 0 rfl rfl 4 (by decide) (hts (.fieldLink RX7 55 "ByteShapesModel" "fed" "I") (List.mem_cons_of_mem _ wd_375)) (fun _ h9 => h9) rfl dX7_feed_86 ?_
                                                                                                                              refine lv_iload hx hb dX7_feed_89 (lv_at hl 1 rfl) ?_
                                                                                                                              refine lv_iadd hx hb dX7_feed_91 ?_
                                                                                                                              refine k_i (show _ = nI (n + 16) from nI_add _ _) ?_
                                                                                                                              refine lv_iload hx hb dX7_feed_92 (lv_at hl 0 rfl) ?_
                                                                                                                              refine lv_bipush (v := nI 24) hx hb dX7_feed_94 (by decide) ?_
                                                                                                                              refine lv_bipush (v := nI 8) hx hb dX7_feed_96 (by decide) ?_
                                                                                                                              refine lv_iload hx hb dX7_feed_98 (lv_at hl 1 rfl) ?_
                                                                                                                              refine lv_iconst (v := nI 4) hx hb dX7_feed_100 (by decide) ?_
                                                                                                                              refine lv_irem hx hb dX7_feed_101 (by decide) ?_
                                                                                                                              refine k_i (show _ = nI 0 from by decide) ?_
                                                                                                                              refine lv_imul hx hb dX7_feed_102 ?_
                                                                                                                              refine k_i (show _ = nI 0 from by decide) ?_
                                                                                                                              refine lv_isub hx hb dX7_feed_103 ?_
                                                                                                                              refine k_i (show _ = nI 24 from by decide) ?_
                                                                                                                              refine lv_ishr hx hb dX7_feed_104 ?_
                                                                                                                              refine lv_sipush (v := nI 255) hx hb dX7_feed_105 (by decide) ?_
                                                                                                                              refine lv_iand hx hb dX7_feed_108 ?_
                                                                                                                              refine k_i (show _ = nI (k4 / 2 ^ 24 % 256) from sh_b (by omega) (by decide)) ?_
                                                                                                                              refine va_iast hx hb hK hP hD hS 1 0 rfl rfl (vp_in_nI (by omega) (by omega)) dX7_feed_109 (fun H locs hP hD hS => ?_)
                                                                                                                              rw [show upd (iF (va_up (va_up (va_up (va_up (va_up (va_up (va_up (va_up (va_up (va_up (va_up (va_up (va_up (va_up (va_up (va_up b (n + 0) (k0 / 2 ^ 24 % 256)) (n + 1) (k0 / 2 ^ 16 % 256)) (n + 2) (k0 / 2 ^ 8 % 256)) (n + 3) (k0 / 2 ^ 0 % 256)) (n + 4) (k1 / 2 ^ 24 % 256)) (n + 5) (k1 / 2 ^ 16 % 256)) (n + 6) (k1 / 2 ^ 8 % 256)) (n + 7) (k1 / 2 ^ 0 % 256)) (n + 8) (k2 / 2 ^ 24 % 256)) (n + 9) (k2 / 2 ^ 16 % 256)) (n + 10) (k2 / 2 ^ 8 % 256)) (n + 11) (k2 / 2 ^ 0 % 256)) (n + 12) (k3 / 2 ^ 24 % 256)) (n + 13) (k3 / 2 ^ 16 % 256)) (n + 14) (k3 / 2 ^ 8 % 256)) (n + 15) (k3 / 2 ^ 0 % 256))) (nI (n + 16)).toNatClampNeg (nI (k4 / 2 ^ 24 % 256)) = iF (va_up (va_up (va_up (va_up (va_up (va_up (va_up (va_up (va_up (va_up (va_up (va_up (va_up (va_up (va_up (va_up (va_up b (n + 0) (k0 / 2 ^ 24 % 256)) (n + 1) (k0 / 2 ^ 16 % 256)) (n + 2) (k0 / 2 ^ 8 % 256)) (n + 3) (k0 / 2 ^ 0 % 256)) (n + 4) (k1 / 2 ^ 24 % 256)) (n + 5) (k1 / 2 ^ 16 % 256)) (n + 6) (k1 / 2 ^ 8 % 256)) (n + 7) (k1 / 2 ^ 0 % 256)) (n + 8) (k2 / 2 ^ 24 % 256)) (n + 9) (k2 / 2 ^ 16 % 256)) (n + 10) (k2 / 2 ^ 8 % 256)) (n + 11) (k2 / 2 ^ 0 % 256)) (n + 12) (k3 / 2 ^ 24 % 256)) (n + 13) (k3 / 2 ^ 16 % 256)) (n + 14) (k3 / 2 ^ 8 % 256)) (n + 15) (k3 / 2 ^ 0 % 256)) (n + 16) (k4 / 2 ^ 24 % 256)) from by rw [nI_clamp (by omega)]; exact iF_put _ _ _] at hP hD
                                                                                                                              have hP : va_P D kCl [(mm, .inr (5, [.int (nI 0), .int (nI dg), .int (nI PT), .int (nI PN), .int (nI n), .ref ma, .ref mb, .ref mc, .ref md, .ref me, .int (nI sz), .ref mf, .int (nI od), .int (nI sl), .int (nI t), .int (nI wr), .int (nI pl), .int (nI lo), .long (lN nm), .int vz, .ref mg, .ref mh])), (ma, .inl (cI, 65536, .inl (iF (va_up (va_up (va_up (va_up (va_up (va_up (va_up (va_up (va_up (va_up (va_up (va_up (va_up (va_up (va_up (va_up (va_up b (n + 0) (k0 / 2 ^ 24 % 256)) (n + 1) (k0 / 2 ^ 16 % 256)) (n + 2) (k0 / 2 ^ 8 % 256)) (n + 3) (k0 / 2 ^ 0 % 256)) (n + 4) (k1 / 2 ^ 24 % 256)) (n + 5) (k1 / 2 ^ 16 % 256)) (n + 6) (k1 / 2 ^ 8 % 256)) (n + 7) (k1 / 2 ^ 0 % 256)) (n + 8) (k2 / 2 ^ 24 % 256)) (n + 9) (k2 / 2 ^ 16 % 256)) (n + 10) (k2 / 2 ^ 8 % 256)) (n + 11) (k2 / 2 ^ 0 % 256)) (n + 12) (k3 / 2 ^ 24 % 256)) (n + 13) (k3 / 2 ^ 16 % 256)) (n + 14) (k3 / 2 ^ 8 % 256)) (n + 15) (k3 / 2 ^ 0 % 256)) (n + 16) (k4 / 2 ^ 24 % 256)))))] H := hP
                                                                                                                              have hD : va_D A [(mm, .inr (5, [.int (nI 0), .int (nI dg), .int (nI PT), .int (nI PN), .int (nI n), .ref ma, .ref mb, .ref mc, .ref md, .ref me, .int (nI sz), .ref mf, .int (nI od), .int (nI sl), .int (nI t), .int (nI wr), .int (nI pl), .int (nI lo), .long (lN nm), .int vz, .ref mg, .ref mh])), (ma, .inl (cI, 65536, .inl (iF (va_up (va_up (va_up (va_up (va_up (va_up (va_up (va_up (va_up (va_up (va_up (va_up (va_up (va_up (va_up (va_up (va_up b (n + 0) (k0 / 2 ^ 24 % 256)) (n + 1) (k0 / 2 ^ 16 % 256)) (n + 2) (k0 / 2 ^ 8 % 256)) (n + 3) (k0 / 2 ^ 0 % 256)) (n + 4) (k1 / 2 ^ 24 % 256)) (n + 5) (k1 / 2 ^ 16 % 256)) (n + 6) (k1 / 2 ^ 8 % 256)) (n + 7) (k1 / 2 ^ 0 % 256)) (n + 8) (k2 / 2 ^ 24 % 256)) (n + 9) (k2 / 2 ^ 16 % 256)) (n + 10) (k2 / 2 ^ 8 % 256)) (n + 11) (k2 / 2 ^ 0 % 256)) (n + 12) (k3 / 2 ^ 24 % 256)) (n + 13) (k3 / 2 ^ 16 % 256)) (n + 14) (k3 / 2 ^ 8 % 256)) (n + 15) (k3 / 2 ^ 0 % 256)) (n + 16) (k4 / 2 ^ 24 % 256)))))] := hD
                                                                                                                              refine lv_iinc (v := nI 17) (lv' := [(6, .int (nI 17)), (7, .int (nI k4)), (0, .ref mm), (1, .int (nI k0)), (2, .int (nI k1)), (3, .int (nI k2)), (4, .int (nI k3)), (5, .int (nI k4))]) hx hb dX7_feed_110 hl (k := 1) rfl (nI_add _ _) (by decide) rfl (fun ls hl => ?_)
                                                                                                                              refine lv_goto (tgt := 26) hx hb dX7_feed_113 (by decide) ?_
                                                                                                                              refine lv_iload hx hb dX7_feed_26 (lv_at hl 0 rfl) ?_
                                                                                                                              refine lv_bipush (v := nI 20) hx hb dX7_feed_28 (by decide) ?_
                                                                                                                              refine k_icmp_ge (tgt := 116) (by omega) (by omega) hx hb dX7_feed_30 (by decide) (fun c269 => ?_) (fun c269 => ?_)
                                                                                                                              · skip
                                                                                                                                exact absurd c269 (by omega)
                                                                                                                              · skip
                                                                                                                                refine lv_iload hx hb dX7_feed_33 (lv_at hl 0 rfl) ?_
                                                                                                                                refine lv_iconst (v := nI 4) hx hb dX7_feed_35 (by decide) ?_
                                                                                                                                refine k_icmp_ge (tgt := 43) (by omega) (by omega) hx hb dX7_feed_36 (by decide) (fun c270 => ?_) (fun c270 => ?_)
                                                                                                                                · skip
                                                                                                                                  refine lv_iload hx hb dX7_feed_43 (lv_at hl 0 rfl) ?_
                                                                                                                                  refine lv_bipush (v := nI 8) hx hb dX7_feed_45 (by decide) ?_
                                                                                                                                  refine k_icmp_ge (tgt := 54) (by omega) (by omega) hx hb dX7_feed_47 (by decide) (fun c271 => ?_) (fun c271 => ?_)
                                                                                                                                  · skip
                                                                                                                                    refine lv_iload hx hb dX7_feed_54 (lv_at hl 0 rfl) ?_
                                                                                                                                    refine lv_bipush (v := nI 12) hx hb dX7_feed_56 (by decide) ?_
                                                                                                                                    refine k_icmp_ge (tgt := 65) (by omega) (by omega) hx hb dX7_feed_58 (by decide) (fun c272 => ?_) (fun c272 => ?_)
                                                                                                                                    · skip
                                                                                                                                      refine lv_iload hx hb dX7_feed_65 (lv_at hl 0 rfl) ?_
                                                                                                                                      refine lv_bipush (v := nI 16) hx hb dX7_feed_67 (by decide) ?_
                                                                                                                                      refine k_icmp_ge (tgt := 77) (by omega) (by omega) hx hb dX7_feed_69 (by decide) (fun c273 => ?_) (fun c273 => ?_)
                                                                                                                                      · skip
                                                                                                                                        refine lv_iload hx hb dX7_feed_77 (lv_at hl 7 rfl) ?_
                                                                                                                                        refine lv_istore (lv' := [(7, .int (nI k4)), (6, .int (nI 17)), (0, .ref mm), (1, .int (nI k0)), (2, .int (nI k1)), (3, .int (nI k2)), (4, .int (nI k3)), (5, .int (nI k4))]) hx hb dX7_feed_79 hl (by decide) rfl (fun ls hl => ?_)
                                                                                                                                        refine lv_aload_n hx hb dX7_feed_81 rfl (lv_at hl 2 rfl) ?_
                                                                                                                                        refine va_get (D := D) (ci := 5) (v := .ref ma) (C := RX7) (T := TX7) (N := 22) hx hb hts inX7 hown hK hP 0 rfl rfl 5 (by decide) (hts (.fieldLink RX7 8 "ByteShapesModel" "tape" "[I") (List.mem_cons_of_mem _ wd_377)) (fun _ h9 => h9) rfl dX7_feed_82 ?_
                                                                                                                                        refine lv_aload_n hx hb dX7_feed_85 rfl (lv_at hl 2 rfl) ?_
                                                                                                                                        refine va_get (D := D) (ci := 5) (v := .int (nI n)) (C := RX7) (T := TX7) (N := 22) hx hb hts inX7 hown hK hP 0 rfl rfl 4 (by decide) (hts (.fieldLink RX7 55 "ByteShapesModel" "fed" "I") (List.mem_cons_of_mem _ wd_375)) (fun _ h9 => h9) rfl dX7_feed_86 ?_
                                                                                                                                        refine lv_iload hx hb dX7_feed_89 (lv_at hl 1 rfl) ?_
                                                                                                                                        refine lv_iadd hx hb dX7_feed_91 ?_
                                                                                                                                        refine k_i (show _ = nI (n + 17) from nI_add _ _) ?_
                                                                                                                                        refine lv_iload hx hb dX7_feed_92 (lv_at hl 0 rfl) ?_
                                                                                                                                        refine lv_bipush (v := nI 24) hx hb dX7_feed_94 (by decide) ?_
                                                                                                                                        refine lv_bipush (v := nI 8) hx hb dX7_feed_96 (by decide) ?_
                                                                                                                                        refine lv_iload hx hb dX7_feed_98 (lv_at hl 1 rfl) ?_
                                                                                                                                        refine lv_iconst (v := nI 4) hx hb dX7_feed_100 (by decide) ?_
                                                                                                                                        refine lv_irem hx hb dX7_feed_101 (by decide) ?_
                                                                                                                                        refine k_i (show _ = nI 1 from by decide) ?_
                                                                                                                                        refine lv_imul hx hb dX7_feed_102 ?_
                                                                                                                                        refine k_i (show _ = nI 8 from by decide) ?_
                                                                                                                                        refine lv_isub hx hb dX7_feed_103 ?_
                                                                                                                                        refine k_i (show _ = nI 16 from by decide) ?_
                                                                                                                                        refine lv_ishr hx hb dX7_feed_104 ?_
                                                                                                                                        refine lv_sipush (v := nI 255) hx hb dX7_feed_105 (by decide) ?_
                                                                                                                                        refine lv_iand hx hb dX7_feed_108 ?_
                                                                                                                                        refine k_i (show _ = nI (k4 / 2 ^ 16 % 256) from sh_b (by omega) (by decide)) ?_
                                                                                                                                        refine va_iast hx hb hK hP hD hS 1 0 rfl rfl (vp_in_nI (by omega) (by omega)) dX7_feed_109 (fun H locs hP hD hS => ?_)
                                                                                                                                        rw [show upd (iF (va_up (va_up (va_up (va_up (va_up (va_up (va_up (va_up (va_up (va_up (va_up (va_up (va_up (va_up (va_up (va_up (va_up b (n + 0) (k0 / 2 ^ 24 % 256)) (n + 1) (k0 / 2 ^ 16 % 256)) (n + 2) (k0 / 2 ^ 8 % 256)) (n + 3) (k0 / 2 ^ 0 % 256)) (n + 4) (k1 / 2 ^ 24 % 256)) (n + 5) (k1 / 2 ^ 16 % 256)) (n + 6) (k1 / 2 ^ 8 % 256)) (n + 7) (k1 / 2 ^ 0 % 256)) (n + 8) (k2 / 2 ^ 24 % 256)) (n + 9) (k2 / 2 ^ 16 % 256)) (n + 10) (k2 / 2 ^ 8 % 256)) (n + 11) (k2 / 2 ^ 0 % 256)) (n + 12) (k3 / 2 ^ 24 % 256)) (n + 13) (k3 / 2 ^ 16 % 256)) (n + 14) (k3 / 2 ^ 8 % 256)) (n + 15) (k3 / 2 ^ 0 % 256)) (n + 16) (k4 / 2 ^ 24 % 256))) (nI (n + 17)).toNatClampNeg (nI (k4 / 2 ^ 16 % 256)) = iF (va_up (va_up (va_up (va_up (va_up (va_up (va_up (va_up (va_up (va_up (va_up (va_up (va_up (va_up (va_up (va_up (va_up (va_up b (n + 0) (k0 / 2 ^ 24 % 256)) (n + 1) (k0 / 2 ^ 16 % 256)) (n + 2) (k0 / 2 ^ 8 % 256)) (n + 3) (k0 / 2 ^ 0 % 256)) (n + 4) (k1 / 2 ^ 24 % 256)) (n + 5) (k1 / 2 ^ 16 % 256)) (n + 6) (k1 / 2 ^ 8 % 256)) (n + 7) (k1 / 2 ^ 0 % 256)) (n + 8) (k2 / 2 ^ 24 % 256)) (n + 9) (k2 / 2 ^ 16 % 256)) (n + 10) (k2 / 2 ^ 8 % 256)) (n + 11) (k2 / 2 ^ 0 % 256)) (n + 12) (k3 / 2 ^ 24 % 256)) (n + 13) (k3 / 2 ^ 16 % 256)) (n + 14) (k3 / 2 ^ 8 % 256)) (n + 15) (k3 / 2 ^ 0 % 256)) (n + 16) (k4 / 2 ^ 24 % 256)) (n + 17) (k4 / 2 ^ 16 % 256)) from by rw [nI_clamp (by omega)]; exact iF_put _ _ _] at hP hD
                                                                                                                                        have hP : va_P D kCl [(mm, .inr (5, [.int (nI 0), .int (nI dg), .int (nI PT), .int (nI PN), .int (nI n), .ref ma, .ref mb, .ref mc, .ref md, .ref me, .int (nI sz), .ref mf, .int (nI od), .int (nI sl), .int (nI t), .int (nI wr), .int (nI pl), .int (nI lo), .long (lN nm), .int vz, .ref mg, .ref mh])), (ma, .inl (cI, 65536, .inl (iF (va_up (va_up (va_up (va_up (va_up (va_up (va_up (va_up (va_up (va_up (va_up (va_up (va_up (va_up (va_up (va_up (va_up (va_up b (n + 0) (k0 / 2 ^ 24 % 256)) (n + 1) (k0 / 2 ^ 16 % 256)) (n + 2) (k0 / 2 ^ 8 % 256)) (n + 3) (k0 / 2 ^ 0 % 256)) (n + 4) (k1 / 2 ^ 24 % 256)) (n + 5) (k1 / 2 ^ 16 % 256)) (n + 6) (k1 / 2 ^ 8 % 256)) (n + 7) (k1 / 2 ^ 0 % 256)) (n + 8) (k2 / 2 ^ 24 % 256)) (n + 9) (k2 / 2 ^ 16 % 256)) (n + 10) (k2 / 2 ^ 8 % 256)) (n + 11) (k2 / 2 ^ 0 % 256)) (n + 12) (k3 / 2 ^ 24 % 256)) (n + 13) (k3 / 2 ^ 16 % 256)) (n + 14) (k3 / 2 ^ 8 % 256)) (n + 15) (k3 / 2 ^ 0 % 256)) (n + 16) (k4 / 2 ^ 24 % 256)) (n + 17) (k4 / 2 ^ 16 % 256)))))] H := hP
                                                                                                                                        have hD : va_D A [(mm, .inr (5, [.int (nI 0), .int (nI dg), .int (nI PT), .int (nI PN), .int (nI n), .ref ma, .ref mb, .ref mc, .ref md, .ref me, .int (nI sz), .ref mf, .int (nI od), .int (nI sl), .int (nI t), .int (nI wr), .int (nI pl), .int (nI lo), .long (lN nm), .int vz, .ref mg, .ref mh])), (ma, .inl (cI, 65536, .inl (iF (va_up (va_up (va_up (va_up (va_up (va_up (va_up (va_up (va_up (va_up (va_up (va_up (va_up (va_up (va_up (va_up (va_up (va_up b (n + 0) (k0 / 2 ^ 24 % 256)) (n + 1) (k0 / 2 ^ 16 % 256)) (n + 2) (k0 / 2 ^ 8 % 256)) (n + 3) (k0 / 2 ^ 0 % 256)) (n + 4) (k1 / 2 ^ 24 % 256)) (n + 5) (k1 / 2 ^ 16 % 256)) (n + 6) (k1 / 2 ^ 8 % 256)) (n + 7) (k1 / 2 ^ 0 % 256)) (n + 8) (k2 / 2 ^ 24 % 256)) (n + 9) (k2 / 2 ^ 16 % 256)) (n + 10) (k2 / 2 ^ 8 % 256)) (n + 11) (k2 / 2 ^ 0 % 256)) (n + 12) (k3 / 2 ^ 24 % 256)) (n + 13) (k3 / 2 ^ 16 % 256)) (n + 14) (k3 / 2 ^ 8 % 256)) (n + 15) (k3 / 2 ^ 0 % 256)) (n + 16) (k4 / 2 ^ 24 % 256)) (n + 17) (k4 / 2 ^ 16 % 256)))))] := hD
                                                                                                                                        refine lv_iinc (v := nI 18) (lv' := [(6, .int (nI 18)), (7, .int (nI k4)), (0, .ref mm), (1, .int (nI k0)), (2, .int (nI k1)), (3, .int (nI k2)), (4, .int (nI k3)), (5, .int (nI k4))]) hx hb dX7_feed_110 hl (k := 1) rfl (nI_add _ _) (by decide) rfl (fun ls hl => ?_)
                                                                                                                                        refine lv_goto (tgt := 26) hx hb dX7_feed_113 (by decide) ?_
                                                                                                                                        refine lv_iload hx hb dX7_feed_26 (lv_at hl 0 rfl) ?_
                                                                                                                                        refine lv_bipush (v := nI 20) hx hb dX7_feed_28 (by decide) ?_
                                                                                                                                        refine k_icmp_ge (tgt := 116) (by omega) (by omega) hx hb dX7_feed_30 (by decide) (fun c274 => ?_) (fun c274 => ?_)
                                                                                                                                        · skip
                                                                                                                                          exact absurd c274 (by omega)
                                                                                                                                        · skip
                                                                                                                                          refine lv_iload hx hb dX7_feed_33 (lv_at hl 0 rfl) ?_
                                                                                                                                          refine lv_iconst (v := nI 4) hx hb dX7_feed_35 (by decide) ?_
                                                                                                                                          refine k_icmp_ge (tgt := 43) (by omega) (by omega) hx hb dX7_feed_36 (by decide) (fun c275 => ?_) (fun c275 => ?_)
                                                                                                                                          · skip
                                                                                                                                            refine lv_iload hx hb dX7_feed_43 (lv_at hl 0 rfl) ?_
                                                                                                                                            refine lv_bipush (v := nI 8) hx hb dX7_feed_45 (by decide) ?_
                                                                                                                                            refine k_icmp_ge (tgt := 54) (by omega) (by omega) hx hb dX7_feed_47 (by decide) (fun c276 => ?_) (fun c276 => ?_)
                                                                                                                                            · skip
                                                                                                                                              refine lv_iload hx hb dX7_feed_54 (lv_at hl 0 rfl) ?_
                                                                                                                                              refine lv_bipush (v := nI 12) hx hb dX7_feed_56 (by decide) ?_
                                                                                                                                              refine k_icmp_ge (tgt := 65) (by omega) (by omega) hx hb dX7_feed_58 (by decide) (fun c277 => ?_) (fun c277 => ?_)
                                                                                                                                              · skip
                                                                                                                                                refine lv_iload hx hb dX7_feed_65 (lv_at hl 0 rfl) ?_
                                                                                                                                                refine lv_bipush (v := nI 16) hx hb dX7_feed_67 (by decide) ?_
                                                                                                                                                refine k_icmp_ge (tgt := 77) (by omega) (by omega) hx hb dX7_feed_69 (by decide) (fun c278 => ?_) (fun c278 => ?_)
                                                                                                                                                · skip
                                                                                                                                                  refine lv_iload hx hb dX7_feed_77 (lv_at hl 7 rfl) ?_
                                                                                                                                                  refine lv_istore (lv' := [(7, .int (nI k4)), (6, .int (nI 18)), (0, .ref mm), (1, .int (nI k0)), (2, .int (nI k1)), (3, .int (nI k2)), (4, .int (nI k3)), (5, .int (nI k4))]) hx hb dX7_feed_79 hl (by decide) rfl (fun ls hl => ?_)
                                                                                                                                                  refine lv_aload_n hx hb dX7_feed_81 rfl (lv_at hl 2 rfl) ?_
                                                                                                                                                  refine va_get (D := D) (ci := 5) (v := .ref ma) (C := RX7) (T := TX7) (N := 22) hx hb hts inX7 hown hK hP 0 rfl rfl 5 (by decide) (hts (.fieldLink RX7 8 "ByteShapesModel" "tape" "[I") (List.mem_cons_of_mem _ wd_377)) (fun _ h9 => h9) rfl dX7_feed_82 ?_
                                                                                                                                                  refine lv_aload_n hx hb dX7_feed_85 rfl (lv_at hl 2 rfl) ?_
                                                                                                                                                  refine va_get (D := D) (ci := 5) (v := .int (nI n)) (C := RX7) (T := TX7) (N := 22) hx hb hts inX7 hown hK hP 0 rfl rfl 4 (by decide) (hts (.fieldLink RX7 55 "ByteShapesModel" "fed" "I") (List.mem_cons_of_mem _ wd_375)) (fun _ h9 => h9) rfl dX7_feed_86 ?_
                                                                                                                                                  refine lv_iload hx hb dX7_feed_89 (lv_at hl 1 rfl) ?_
                                                                                                                                                  refine lv_iadd hx hb dX7_feed_91 ?_
                                                                                                                                                  refine k_i (show _ = nI (n + 18) from nI_add _ _) ?_
                                                                                                                                                  refine lv_iload hx hb dX7_feed_92 (lv_at hl 0 rfl) ?_
                                                                                                                                                  refine lv_bipush (v := nI 24) hx hb dX7_feed_94 (by decide) ?_
                                                                                                                                                  refine lv_bipush (v := nI 8) hx hb dX7_feed_96 (by decide) ?_
                                                                                                                                                  refine lv_iload hx hb dX7_feed_98 (lv_at hl 1 rfl) ?_
                                                                                                                                                  refine lv_iconst (v := nI 4) hx hb dX7_feed_100 (by decide) ?_
                                                                                                                                                  refine lv_irem hx hb dX7_feed_101 (by decide) ?_
                                                                                                                                                  refine k_i (show _ = nI 2 from by decide) ?_
                                                                                                                                                  refine lv_imul hx hb dX7_feed_102 ?_
                                                                                                                                                  refine k_i (show _ = nI 16 from by decide) ?_
                                                                                                                                                  refine lv_isub hx hb dX7_feed_103 ?_
                                                                                                                                                  refine k_i (show _ = nI 8 from by decide) ?_
                                                                                                                                                  refine lv_ishr hx hb dX7_feed_104 ?_
                                                                                                                                                  refine lv_sipush (v := nI 255) hx hb dX7_feed_105 (by decide) ?_
                                                                                                                                                  refine lv_iand hx hb dX7_feed_108 ?_
                                                                                                                                                  refine k_i (show _ = nI (k4 / 2 ^ 8 % 256) from sh_b (by omega) (by decide)) ?_
                                                                                                                                                  refine va_iast hx hb hK hP hD hS 1 0 rfl rfl (vp_in_nI (by omega) (by omega)) dX7_feed_109 (fun H locs hP hD hS => ?_)
                                                                                                                                                  rw [show upd (iF (va_up (va_up (va_up (va_up (va_up (va_up (va_up (va_up (va_up (va_up (va_up (va_up (va_up (va_up (va_up (va_up (va_up (va_up b (n + 0) (k0 / 2 ^ 24 % 256)) (n + 1) (k0 / 2 ^ 16 % 256)) (n + 2) (k0 / 2 ^ 8 % 256)) (n + 3) (k0 / 2 ^ 0 % 256)) (n + 4) (k1 / 2 ^ 24 % 256)) (n + 5) (k1 / 2 ^ 16 % 256)) (n + 6) (k1 / 2 ^ 8 % 256)) (n + 7) (k1 / 2 ^ 0 % 256)) (n + 8) (k2 / 2 ^ 24 % 256)) (n + 9) (k2 / 2 ^ 16 % 256)) (n + 10) (k2 / 2 ^ 8 % 256)) (n + 11) (k2 / 2 ^ 0 % 256)) (n + 12) (k3 / 2 ^ 24 % 256)) (n + 13) (k3 / 2 ^ 16 % 256)) (n + 14) (k3 / 2 ^ 8 % 256)) (n + 15) (k3 / 2 ^ 0 % 256)) (n + 16) (k4 / 2 ^ 24 % 256)) (n + 17) (k4 / 2 ^ 16 % 256))) (nI (n + 18)).toNatClampNeg (nI (k4 / 2 ^ 8 % 256)) = iF (va_up (va_up (va_up (va_up (va_up (va_up (va_up (va_up (va_up (va_up (va_up (va_up (va_up (va_up (va_up (va_up (va_up (va_up (va_up b (n + 0) (k0 / 2 ^ 24 % 256)) (n + 1) (k0 / 2 ^ 16 % 256)) (n + 2) (k0 / 2 ^ 8 % 256)) (n + 3) (k0 / 2 ^ 0 % 256)) (n + 4) (k1 / 2 ^ 24 % 256)) (n + 5) (k1 / 2 ^ 16 % 256)) (n + 6) (k1 / 2 ^ 8 % 256)) (n + 7) (k1 / 2 ^ 0 % 256)) (n + 8) (k2 / 2 ^ 24 % 256)) (n + 9) (k2 / 2 ^ 16 % 256)) (n + 10) (k2 / 2 ^ 8 % 256)) (n + 11) (k2 / 2 ^ 0 % 256)) (n + 12) (k3 / 2 ^ 24 % 256)) (n + 13) (k3 / 2 ^ 16 % 256)) (n + 14) (k3 / 2 ^ 8 % 256)) (n + 15) (k3 / 2 ^ 0 % 256)) (n + 16) (k4 / 2 ^ 24 % 256)) (n + 17) (k4 / 2 ^ 16 % 256)) (n + 18) (k4 / 2 ^ 8 % 256)) from by rw [nI_clamp (by omega)]; exact iF_put _ _ _] at hP hD
                                                                                                                                                  have hP : va_P D kCl [(mm, .inr (5, [.int (nI 0), .int (nI dg), .int (nI PT), .int (nI PN), .int (nI n), .ref ma, .ref mb, .ref mc, .ref md, .ref me, .int (nI sz), .ref mf, .int (nI od), .int (nI sl), .int (nI t), .int (nI wr), .int (nI pl), .int (nI lo), .long (lN nm), .int vz, .ref mg, .ref mh])), (ma, .inl (cI, 65536, .inl (iF (va_up (va_up (va_up (va_up (va_up (va_up (va_up (va_up (va_up (va_up (va_up (va_up (va_up (va_up (va_up (va_up (va_up (va_up (va_up b (n + 0) (k0 / 2 ^ 24 % 256)) (n + 1) (k0 / 2 ^ 16 % 256)) (n + 2) (k0 / 2 ^ 8 % 256)) (n + 3) (k0 / 2 ^ 0 % 256)) (n + 4) (k1 / 2 ^ 24 % 256)) (n + 5) (k1 / 2 ^ 16 % 256)) (n + 6) (k1 / 2 ^ 8 % 256)) (n + 7) (k1 / 2 ^ 0 % 256)) (n + 8) (k2 / 2 ^ 24 % 256)) (n + 9) (k2 / 2 ^ 16 % 256)) (n + 10) (k2 / 2 ^ 8 % 256)) (n + 11) (k2 / 2 ^ 0 % 256)) (n + 12) (k3 / 2 ^ 24 % 256)) (n + 13) (k3 / 2 ^ 16 % 256)) (n + 14) (k3 / 2 ^ 8 % 256)) (n + 15) (k3 / 2 ^ 0 % 256)) (n + 16) (k4 / 2 ^ 24 % 256)) (n + 17) (k4 / 2 ^ 16 % 256)) (n + 18) (k4 / 2 ^ 8 % 256)))))] H := hP
                                                                                                                                                  have hD : va_D A [(mm, .inr (5, [.int (nI 0), .int (nI dg), .int (nI PT), .int (nI PN), .int (nI n), .ref ma, .ref mb, .ref mc, .ref md, .ref me, .int (nI sz), .ref mf, .int (nI od), .int (nI sl), .int (nI t), .int (nI wr), .int (nI pl), .int (nI lo), .long (lN nm), .int vz, .ref mg, .ref mh])), (ma, .inl (cI, 65536, .inl (iF (va_up (va_up (va_up (va_up (va_up (va_up (va_up (va_up (va_up (va_up (va_up (va_up (va_up (va_up (va_up (va_up (va_up (va_up (va_up b (n + 0) (k0 / 2 ^ 24 % 256)) (n + 1) (k0 / 2 ^ 16 % 256)) (n + 2) (k0 / 2 ^ 8 % 256)) (n + 3) (k0 / 2 ^ 0 % 256)) (n + 4) (k1 / 2 ^ 24 % 256)) (n + 5) (k1 / 2 ^ 16 % 256)) (n + 6) (k1 / 2 ^ 8 % 256)) (n + 7) (k1 / 2 ^ 0 % 256)) (n + 8) (k2 / 2 ^ 24 % 256)) (n + 9) (k2 / 2 ^ 16 % 256)) (n + 10) (k2 / 2 ^ 8 % 256)) (n + 11) (k2 / 2 ^ 0 % 256)) (n + 12) (k3 / 2 ^ 24 % 256)) (n + 13) (k3 / 2 ^ 16 % 256)) (n + 14) (k3 / 2 ^ 8 % 256)) (n + 15) (k3 / 2 ^ 0 % 256)) (n + 16) (k4 / 2 ^ 24 % 256)) (n + 17) (k4 / 2 ^ 16 % 256)) (n + 18) (k4 / 2 ^ 8 % 256)))))] := hD
                                                                                                                                                  refine lv_iinc (v := nI 19) (lv' := [(6, .int (nI 19)), (7, .int (nI k4)), (0, .ref mm), (1, .int (nI k0)), (2, .int (nI k1)), (3, .int (nI k2)), (4, .int (nI k3)), (5, .int (nI k4))]) hx hb dX7_feed_110 hl (k := 1) rfl (nI_add _ _) (by decide) rfl (fun ls hl => ?_)
                                                                                                                                                  refine lv_goto (tgt := 26) hx hb dX7_feed_113 (by decide) ?_
                                                                                                                                                  refine lv_iload hx hb dX7_feed_26 (lv_at hl 0 rfl) ?_
                                                                                                                                                  refine lv_bipush (v := nI 20) hx hb dX7_feed_28 (by decide) ?_
                                                                                                                                                  refine k_icmp_ge (tgt := 116) (by omega) (by omega) hx hb dX7_feed_30 (by decide) (fun c279 => ?_) (fun c279 => ?_)
                                                                                                                                                  · skip
                                                                                                                                                    exact absurd c279 (by omega)
                                                                                                                                                  · skip
                                                                                                                                                    refine lv_iload hx hb dX7_feed_33 (lv_at hl 0 rfl) ?_
                                                                                                                                                    refine lv_iconst (v := nI 4) hx hb dX7_feed_35 (by decide) ?_
                                                                                                                                                    refine k_icmp_ge (tgt := 43) (by omega) (by omega) hx hb dX7_feed_36 (by decide) (fun c280 => ?_) (fun c280 => ?_)
                                                                                                                                                    · skip
                                                                                                                                                      refine lv_iload hx hb dX7_feed_43 (lv_at hl 0 rfl) ?_
                                                                                                                                                      refine lv_bipush (v := nI 8) hx hb dX7_feed_45 (by decide) ?_
                                                                                                                                                      refine k_icmp_ge (tgt := 54) (by omega) (by omega) hx hb dX7_feed_47 (by decide) (fun c281 => ?_) (fun c281 => ?_)
                                                                                                                                                      · skip
                                                                                                                                                        refine lv_iload hx hb dX7_feed_54 (lv_at hl 0 rfl) ?_
                                                                                                                                                        refine lv_bipush (v := nI 12) hx hb dX7_feed_56 (by decide) ?_
                                                                                                                                                        refine k_icmp_ge (tgt := 65) (by omega) (by omega) hx hb dX7_feed_58 (by decide) (fun c282 => ?_) (fun c282 => ?_)
                                                                                                                                                        · skip
                                                                                                                                                          refine lv_iload hx hb dX7_feed_65 (lv_at hl 0 rfl) ?_
                                                                                                                                                          refine lv_bipush (v := nI 16) hx hb dX7_feed_67 (by decide) ?_
                                                                                                                                                          refine k_icmp_ge (tgt := 77) (by omega) (by omega) hx hb dX7_feed_69 (by decide) (fun c283 => ?_) (fun c283 => ?_)
                                                                                                                                                          · skip
                                                                                                                                                            refine lv_iload hx hb dX7_feed_77 (lv_at hl 7 rfl) ?_
                                                                                                                                                            refine lv_istore (lv' := [(7, .int (nI k4)), (6, .int (nI 19)), (0, .ref mm), (1, .int (nI k0)), (2, .int (nI k1)), (3, .int (nI k2)), (4, .int (nI k3)), (5, .int (nI k4))]) hx hb dX7_feed_79 hl (by decide) rfl (fun ls hl => ?_)
                                                                                                                                                            refine lv_aload_n hx hb dX7_feed_81 rfl (lv_at hl 2 rfl) ?_
                                                                                                                                                            refine va_get (D := D) (ci := 5) (v := .ref ma) (C := RX7) (T := TX7) (N := 22) hx hb hts inX7 hown hK hP 0 rfl rfl 5 (by decide) (hts (.fieldLink RX7 8 "ByteShapesModel" "tape" "[I") (List.mem_cons_of_mem _ wd_377)) (fun _ h9 => h9) rfl dX7_feed_82 ?_
                                                                                                                                                            refine lv_aload_n hx hb dX7_feed_85 rfl (lv_at hl 2 rfl) ?_
                                                                                                                                                            refine va_get (D := D) (ci := 5) (v := .int (nI n)) (C := RX7) (T := TX7) (N := 22) hx hb hts inX7 hown hK hP 0 rfl rfl 4 (by decide) (hts (.fieldLink RX7 55 "ByteShapesModel" "fed" "I") (List.mem_cons_of_mem _ wd_375)) (fun _ h9 => h9) rfl dX7_feed_86 ?_
                                                                                                                                                            refine lv_iload hx hb dX7_feed_89 (lv_at hl 1 rfl) ?_
                                                                                                                                                            refine lv_iadd hx hb dX7_feed_91 ?_
                                                                                                                                                            refine k_i (show _ = nI (n + 19) from nI_add _ _) ?_
                                                                                                                                                            refine lv_iload hx hb dX7_feed_92 (lv_at hl 0 rfl) ?_
                                                                                                                                                            refine lv_bipush (v := nI 24) hx hb dX7_feed_94 (by decide) ?_
                                                                                                                                                            refine lv_bipush (v := nI 8) hx hb dX7_feed_96 (by decide) ?_
                                                                                                                                                            refine lv_iload hx hb dX7_feed_98 (lv_at hl 1 rfl) ?_
                                                                                                                                                            refine lv_iconst (v := nI 4) hx hb dX7_feed_100 (by decide) ?_
                                                                                                                                                            refine lv_irem hx hb dX7_feed_101 (by decide) ?_
                                                                                                                                                            refine k_i (show _ = nI 3 from by decide) ?_
                                                                                                                                                            refine lv_imul hx hb dX7_feed_102 ?_
                                                                                                                                                            refine k_i (show _ = nI 24 from by decide) ?_
                                                                                                                                                            refine lv_isub hx hb dX7_feed_103 ?_
                                                                                                                                                            refine k_i (show _ = nI 0 from by decide) ?_
                                                                                                                                                            refine lv_ishr hx hb dX7_feed_104 ?_
                                                                                                                                                            refine lv_sipush (v := nI 255) hx hb dX7_feed_105 (by decide) ?_
                                                                                                                                                            refine lv_iand hx hb dX7_feed_108 ?_
                                                                                                                                                            refine k_i (show _ = nI (k4 / 2 ^ 0 % 256) from sh_b (by omega) (by decide)) ?_
                                                                                                                                                            refine va_iast hx hb hK hP hD hS 1 0 rfl rfl (vp_in_nI (by omega) (by omega)) dX7_feed_109 (fun H locs hP hD hS => ?_)
                                                                                                                                                            rw [show upd (iF (va_up (va_up (va_up (va_up (va_up (va_up (va_up (va_up (va_up (va_up (va_up (va_up (va_up (va_up (va_up (va_up (va_up (va_up (va_up b (n + 0) (k0 / 2 ^ 24 % 256)) (n + 1) (k0 / 2 ^ 16 % 256)) (n + 2) (k0 / 2 ^ 8 % 256)) (n + 3) (k0 / 2 ^ 0 % 256)) (n + 4) (k1 / 2 ^ 24 % 256)) (n + 5) (k1 / 2 ^ 16 % 256)) (n + 6) (k1 / 2 ^ 8 % 256)) (n + 7) (k1 / 2 ^ 0 % 256)) (n + 8) (k2 / 2 ^ 24 % 256)) (n + 9) (k2 / 2 ^ 16 % 256)) (n + 10) (k2 / 2 ^ 8 % 256)) (n + 11) (k2 / 2 ^ 0 % 256)) (n + 12) (k3 / 2 ^ 24 % 256)) (n + 13) (k3 / 2 ^ 16 % 256)) (n + 14) (k3 / 2 ^ 8 % 256)) (n + 15) (k3 / 2 ^ 0 % 256)) (n + 16) (k4 / 2 ^ 24 % 256)) (n + 17) (k4 / 2 ^ 16 % 256)) (n + 18) (k4 / 2 ^ 8 % 256))) (nI (n + 19)).toNatClampNeg (nI (k4 / 2 ^ 0 % 256)) = iF (va_up (va_up (va_up (va_up (va_up (va_up (va_up (va_up (va_up (va_up (va_up (va_up (va_up (va_up (va_up (va_up (va_up (va_up (va_up (va_up b (n + 0) (k0 / 2 ^ 24 % 256)) (n + 1) (k0 / 2 ^ 16 % 256)) (n + 2) (k0 / 2 ^ 8 % 256)) (n + 3) (k0 / 2 ^ 0 % 256)) (n + 4) (k1 / 2 ^ 24 % 256)) (n + 5) (k1 / 2 ^ 16 % 256)) (n + 6) (k1 / 2 ^ 8 % 256)) (n + 7) (k1 / 2 ^ 0 % 256)) (n + 8) (k2 / 2 ^ 24 % 256)) (n + 9) (k2 / 2 ^ 16 % 256)) (n + 10) (k2 / 2 ^ 8 % 256)) (n + 11) (k2 / 2 ^ 0 % 256)) (n + 12) (k3 / 2 ^ 24 % 256)) (n + 13) (k3 / 2 ^ 16 % 256)) (n + 14) (k3 / 2 ^ 8 % 256)) (n + 15) (k3 / 2 ^ 0 % 256)) (n + 16) (k4 / 2 ^ 24 % 256)) (n + 17) (k4 / 2 ^ 16 % 256)) (n + 18) (k4 / 2 ^ 8 % 256)) (n + 19) (k4 / 2 ^ 0 % 256)) from by rw [nI_clamp (by omega)]; exact iF_put _ _ _] at hP hD
                                                                                                                                                            have hP : va_P D kCl [(mm, .inr (5, [.int (nI 0), .int (nI dg), .int (nI PT), .int (nI PN), .int (nI n), .ref ma, .ref mb, .ref mc, .ref md, .ref me, .int (nI sz), .ref mf, .int (nI od), .int (nI sl), .int (nI t), .int (nI wr), .int (nI pl), .int (nI lo), .long (lN nm), .int vz, .ref mg, .ref mh])), (ma, .inl (cI, 65536, .inl (iF (va_up (va_up (va_up (va_up (va_up (va_up (va_up (va_up (va_up (va_up (va_up (va_up (va_up (va_up (va_up (va_up (va_up (va_up (va_up (va_up b (n + 0) (k0 / 2 ^ 24 % 256)) (n + 1) (k0 / 2 ^ 16 % 256)) (n + 2) (k0 / 2 ^ 8 % 256)) (n + 3) (k0 / 2 ^ 0 % 256)) (n + 4) (k1 / 2 ^ 24 % 256)) (n + 5) (k1 / 2 ^ 16 % 256)) (n + 6) (k1 / 2 ^ 8 % 256)) (n + 7) (k1 / 2 ^ 0 % 256)) (n + 8) (k2 / 2 ^ 24 % 256)) (n + 9) (k2 / 2 ^ 16 % 256)) (n + 10) (k2 / 2 ^ 8 % 256)) (n + 11) (k2 / 2 ^ 0 % 256)) (n + 12) (k3 / 2 ^ 24 % 256)) (n + 13) (k3 / 2 ^ 16 % 256)) (n + 14) (k3 / 2 ^ 8 % 256)) (n + 15) (k3 / 2 ^ 0 % 256)) (n + 16) (k4 / 2 ^ 24 % 256)) (n + 17) (k4 / 2 ^ 16 % 256)) (n + 18) (k4 / 2 ^ 8 % 256)) (n + 19) (k4 / 2 ^ 0 % 256)))))] H := hP
                                                                                                                                                            have hD : va_D A [(mm, .inr (5, [.int (nI 0), .int (nI dg), .int (nI PT), .int (nI PN), .int (nI n), .ref ma, .ref mb, .ref mc, .ref md, .ref me, .int (nI sz), .ref mf, .int (nI od), .int (nI sl), .int (nI t), .int (nI wr), .int (nI pl), .int (nI lo), .long (lN nm), .int vz, .ref mg, .ref mh])), (ma, .inl (cI, 65536, .inl (iF (va_up (va_up (va_up (va_up (va_up (va_up (va_up (va_up (va_up (va_up (va_up (va_up (va_up (va_up (va_up (va_up (va_up (va_up (va_up (va_up b (n + 0) (k0 / 2 ^ 24 % 256)) (n + 1) (k0 / 2 ^ 16 % 256)) (n + 2) (k0 / 2 ^ 8 % 256)) (n + 3) (k0 / 2 ^ 0 % 256)) (n + 4) (k1 / 2 ^ 24 % 256)) (n + 5) (k1 / 2 ^ 16 % 256)) (n + 6) (k1 / 2 ^ 8 % 256)) (n + 7) (k1 / 2 ^ 0 % 256)) (n + 8) (k2 / 2 ^ 24 % 256)) (n + 9) (k2 / 2 ^ 16 % 256)) (n + 10) (k2 / 2 ^ 8 % 256)) (n + 11) (k2 / 2 ^ 0 % 256)) (n + 12) (k3 / 2 ^ 24 % 256)) (n + 13) (k3 / 2 ^ 16 % 256)) (n + 14) (k3 / 2 ^ 8 % 256)) (n + 15) (k3 / 2 ^ 0 % 256)) (n + 16) (k4 / 2 ^ 24 % 256)) (n + 17) (k4 / 2 ^ 16 % 256)) (n + 18) (k4 / 2 ^ 8 % 256)) (n + 19) (k4 / 2 ^ 0 % 256)))))] := hD
                                                                                                                                                            refine lv_iinc (v := nI 20) (lv' := [(6, .int (nI 20)), (7, .int (nI k4)), (0, .ref mm), (1, .int (nI k0)), (2, .int (nI k1)), (3, .int (nI k2)), (4, .int (nI k3)), (5, .int (nI k4))]) hx hb dX7_feed_110 hl (k := 1) rfl (nI_add _ _) (by decide) rfl (fun ls hl => ?_)
                                                                                                                                                            refine lv_goto (tgt := 26) hx hb dX7_feed_113 (by decide) ?_
                                                                                                                                                            refine lv_iload hx hb dX7_feed_26 (lv_at hl 0 rfl) ?_
                                                                                                                                                            refine lv_bipush (v := nI 20) hx hb dX7_feed_28 (by decide) ?_
                                                                                                                                                            refine k_icmp_ge (tgt := 116) (by omega) (by omega) hx hb dX7_feed_30 (by decide) (fun c284 => ?_) (fun c284 => ?_)
                                                                                                                                                            · skip
                                                                                                                                                              refine lv_aload_n hx hb dX7_feed_116 rfl (lv_at hl 2 rfl) ?_
                                                                                                                                                              refine lv_dup hx hb dX7_feed_117 rfl ?_
                                                                                                                                                              refine va_get (D := D) (ci := 5) (v := .int (nI n)) (C := RX7) (T := TX7) (N := 22) hx hb hts inX7 hown hK hP 0 rfl rfl 4 (by decide) (hts (.fieldLink RX7 55 "ByteShapesModel" "fed" "I") (List.mem_cons_of_mem _ wd_375)) (fun _ h9 => h9) rfl dX7_feed_118 ?_
                                                                                                                                                              refine lv_bipush (v := nI 20) hx hb dX7_feed_121 (by decide) ?_
                                                                                                                                                              refine lv_iadd hx hb dX7_feed_123 ?_
                                                                                                                                                              refine k_i (show _ = nI (n + 20) from nI_add _ _) ?_
                                                                                                                                                              refine va_put (D := D) (ci := 5) (v := .int (nI (n + 20))) (ty := .int) (C := RX7) (T := TX7) (N := 22) hx hb hts inX7 tyX7 tyX7_ok nmX7 hown hK hP hD hS 0 rfl rfl 4 (by decide) (hts (.fieldLink RX7 55 "ByteShapesModel" "fed" "I") (List.mem_cons_of_mem _ wd_375)) (fun _ h9 => h9) rfl (by decide +kernel) (rfl) (rfl) (Nat.le_of_ble_eq_true rfl) dX7_feed_124 (fun H locs hP hD hS => ?_)
                                                                                                                                                              have hP : va_P D kCl [(mm, .inr (5, [.int (nI 0), .int (nI dg), .int (nI PT), .int (nI PN), .int (nI (n + 20)), .ref ma, .ref mb, .ref mc, .ref md, .ref me, .int (nI sz), .ref mf, .int (nI od), .int (nI sl), .int (nI t), .int (nI wr), .int (nI pl), .int (nI lo), .long (lN nm), .int vz, .ref mg, .ref mh])), (ma, .inl (cI, 65536, .inl (iF (va_up (va_up (va_up (va_up (va_up (va_up (va_up (va_up (va_up (va_up (va_up (va_up (va_up (va_up (va_up (va_up (va_up (va_up (va_up (va_up b (n + 0) (k0 / 2 ^ 24 % 256)) (n + 1) (k0 / 2 ^ 16 % 256)) (n + 2) (k0 / 2 ^ 8 % 256)) (n + 3) (k0 / 2 ^ 0 % 256)) (n + 4) (k1 / 2 ^ 24 % 256)) (n + 5) (k1 / 2 ^ 16 % 256)) (n + 6) (k1 / 2 ^ 8 % 256)) (n + 7) (k1 / 2 ^ 0 % 256)) (n + 8) (k2 / 2 ^ 24 % 256)) (n + 9) (k2 / 2 ^ 16 % 256)) (n + 10) (k2 / 2 ^ 8 % 256)) (n + 11) (k2 / 2 ^ 0 % 256)) (n + 12) (k3 / 2 ^ 24 % 256)) (n + 13) (k3 / 2 ^ 16 % 256)) (n + 14) (k3 / 2 ^ 8 % 256)) (n + 15) (k3 / 2 ^ 0 % 256)) (n + 16) (k4 / 2 ^ 24 % 256)) (n + 17) (k4 / 2 ^ 16 % 256)) (n + 18) (k4 / 2 ^ 8 % 256)) (n + 19) (k4 / 2 ^ 0 % 256)))))] H := hP
                                                                                                                                                              have hD : va_D A [(mm, .inr (5, [.int (nI 0), .int (nI dg), .int (nI PT), .int (nI PN), .int (nI (n + 20)), .ref ma, .ref mb, .ref mc, .ref md, .ref me, .int (nI sz), .ref mf, .int (nI od), .int (nI sl), .int (nI t), .int (nI wr), .int (nI pl), .int (nI lo), .long (lN nm), .int vz, .ref mg, .ref mh])), (ma, .inl (cI, 65536, .inl (iF (va_up (va_up (va_up (va_up (va_up (va_up (va_up (va_up (va_up (va_up (va_up (va_up (va_up (va_up (va_up (va_up (va_up (va_up (va_up (va_up b (n + 0) (k0 / 2 ^ 24 % 256)) (n + 1) (k0 / 2 ^ 16 % 256)) (n + 2) (k0 / 2 ^ 8 % 256)) (n + 3) (k0 / 2 ^ 0 % 256)) (n + 4) (k1 / 2 ^ 24 % 256)) (n + 5) (k1 / 2 ^ 16 % 256)) (n + 6) (k1 / 2 ^ 8 % 256)) (n + 7) (k1 / 2 ^ 0 % 256)) (n + 8) (k2 / 2 ^ 24 % 256)) (n + 9) (k2 / 2 ^ 16 % 256)) (n + 10) (k2 / 2 ^ 8 % 256)) (n + 11) (k2 / 2 ^ 0 % 256)) (n + 12) (k3 / 2 ^ 24 % 256)) (n + 13) (k3 / 2 ^ 16 % 256)) (n + 14) (k3 / 2 ^ 8 % 256)) (n + 15) (k3 / 2 ^ 0 % 256)) (n + 16) (k4 / 2 ^ 24 % 256)) (n + 17) (k4 / 2 ^ 16 % 256)) (n + 18) (k4 / 2 ^ 8 % 256)) (n + 19) (k4 / 2 ^ 0 % 256)))))] := hD
                                                                                                                                                              refine lv_aload_n hx hb dX7_feed_127 rfl (lv_at hl 2 rfl) ?_
                                                                                                                                                              refine va_get (D := D) (ci := 5) (v := .int (nI (n + 20))) (C := RX7) (T := TX7) (N := 22) hx hb hts inX7 hown hK hP 0 rfl rfl 4 (by decide) (hts (.fieldLink RX7 55 "ByteShapesModel" "fed" "I") (List.mem_cons_of_mem _ wd_375)) (fun _ h9 => h9) rfl dX7_feed_128 ?_
                                                                                                                                                              exact k_iret () hx hb hr (by first | rfl | decide | exact vp_nar_int _) hlocks hK hP hD hS (rfl) (rfl) (Nat.le_of_ble_eq_true rfl) (Nat.le_of_ble_eq_true rfl) dX7_feed_131
                                                                                                                                                            · skip
                                                                                                                                                              exact absurd c284 (by omega)
                                                                                                                                                          · skip
                                                                                                                                                            exact absurd c283 (by omega)
                                                                                                                                                        · skip
                                                                                                                                                          exact absurd c282 (by omega)
                                                                                                                                                      · skip
                                                                                                                                                        exact absurd c281 (by omega)
                                                                                                                                                    · skip
                                                                                                                                                      exact absurd c280 (by omega)
                                                                                                                                                · skip
                                                                                                                                                  exact absurd c278 (by omega)
                                                                                                                                              · skip
                                                                                                                                                exact absurd c277 (by omega)
                                                                                                                                            · skip
                                                                                                                                              exact absurd c276 (by omega)
                                                                                                                                          · skip
                                                                                                                                            exact absurd c275 (by omega)
                                                                                                                                      · skip
                                                                                                                                        exact absurd c273 (by omega)
                                                                                                                                    · skip
                                                                                                                                      exact absurd c272 (by omega)
                                                                                                                                  · skip
                                                                                                                                    exact absurd c271 (by omega)
                                                                                                                                · skip
                                                                                                                                  exact absurd c270 (by omega)
                                                                                                                            · skip
                                                                                                                              exact absurd c268 (by omega)
                                                                                                                          · skip
                                                                                                                            exact absurd c267 (by omega)
                                                                                                                        · skip
                                                                                                                          exact absurd c266 (by omega)
                                                                                                                      · skip
                                                                                                                        exact absurd c265 (by omega)
                                                                                                                · skip
                                                                                                                  exact absurd c262 (by omega)
                                                                                                              · skip
                                                                                                                exact absurd c261 (by omega)
                                                                                                            · skip
                                                                                                              exact absurd c260 (by omega)
                                                                                                      · skip
                                                                                                        exact absurd c257 (by omega)
                                                                                                    · skip
                                                                                                      exact absurd c256 (by omega)
                                                                                                  · skip
                                                                                                    exact absurd c255 (by omega)
                                                                                            · skip
                                                                                              exact absurd c252 (by omega)
                                                                                          · skip
                                                                                            exact absurd c251 (by omega)
                                                                                        · skip
                                                                                          exact absurd c250 (by omega)
                                                                                  · skip
                                                                                    exact absurd c247 (by omega)
                                                                                · skip
                                                                                  exact absurd c246 (by omega)
                                                                              · skip
                                                                                exact absurd c245 (by omega)
                                                                        · skip
                                                                          exact absurd c242 (by omega)
                                                                      · skip
                                                                        exact absurd c241 (by omega)
                                                                · skip
                                                                  exact absurd c238 (by omega)
                                                              · skip
                                                                exact absurd c237 (by omega)
                                                        · skip
                                                          exact absurd c234 (by omega)
                                                      · skip
                                                        exact absurd c233 (by omega)
                                                · skip
                                                  exact absurd c230 (by omega)
                                              · skip
                                                exact absurd c229 (by omega)
                                        · skip
                                          exact absurd c226 (by omega)
                                  · skip
                                    exact absurd c223 (by omega)
                            · skip
                              exact absurd c220 (by omega)
                      · skip
                        exact absurd c217 (by omega)
  · skip
    exact absurd c207 (by omega)

