set_option maxRecDepth 100000 in
set_option maxHeartbeats 4000000 in
theorem c_M_bitsP (l : Launch) (D : va_G) (cI cB cJ cS : ClassId) (mm ma mb mc md me mf mg mh th dg PT PN n sz od sl t wr pl lo nm : Nat) (b pm pd pq rb ok ol : Nat → Nat) (fx : Nat → Int32) (vz : Int32) (hdg : dg < 4) (k : Nat) (hk1 : 1 ≤ k) (hk : k ≤ 1000000000)  : kM l yX7_bitsOf vsX7_bitsOf ({ frames := 1, cells := 0, slots := 0, locals := 20 }) D (kT cI cB cJ cS) [.ref mm, .int (nI k)] [(mm, .inr (5, [.int (nI th), .int (nI dg), .int (nI PT), .int (nI PN), .int (nI n), .ref ma, .ref mb, .ref mc, .ref md, .ref me, .int (nI sz), .ref mf, .int (nI od), .int (nI sl), .int (nI t), .int (nI wr), .int (nI pl), .int (nI lo), .long (lN nm), .int vz, .ref mg, .ref mh]))] (kQl D (kT cI cB cJ cS) (fun r (ug : Unit) => r = lN (nBits k (uD dg))) (fun ug => [(mm, .inr (5, [.int (nI th), .int (nI dg), .int (nI PT), .int (nI PN), .int (nI n), .ref ma, .ref mb, .ref mc, .ref md, .ref me, .int (nI sz), .ref mf, .int (nI od), .int (nI sl), .int (nI t), .int (nI wr), .int (nI pl), .int (nI lo), .long (lN nm), .int vz, .ref mg, .ref mh]))])) := by
  refine k_ofW (by decide) rfl (Nat.le_of_ble_eq_true rfl) ?_
  intro p e s m below meth c A ls hx hb hr hts hown hlocks hmn hml hA hP hK hD hS hZ hl
  have inX7 : ∀ w ∈ wsX70, w ∈ vsX7_bitsOf := fun w h => List.mem_cons_of_mem _ (iaX7 w h)
  have F : CallFix p m c cX7_bitsOf 12 s _ vsX7_bitsOf RX7 := ⟨hx, hb, hml, hown, hts⟩
  have hl : lv_has ls 12 [(0, .ref mm), (1, .int (nI k))] := hl
  refine lv_iload_n hx hb dX7_bitsOf_0 rfl (lv_at hl 1 rfl) ?_
  refine k_if_ne (tgt := 6) (by omega) hx hb dX7_bitsOf_1 (by decide) (fun c534 => ?_) (fun c534 => ?_)
  · skip
    refine lv_iload_n hx hb dX7_bitsOf_6 rfl (lv_at hl 1 rfl) ?_
    refine k_if_ge (tgt := 16) (by omega) hx hb dX7_bitsOf_7 (by decide) (fun c535 => ?_) (fun c535 => ?_)
    · skip
      refine lv_iload_n hx hb dX7_bitsOf_16 rfl (lv_at hl 1 rfl) ?_
      refine lv_i2l (v := lN k) hx hb dX7_bitsOf_17 (nI_l (by omega)) ?_
      refine lv_lstore_n (lv' := [(2, .long (lN k)), (0, .ref mm), (1, .int (nI k))]) hx hb dX7_bitsOf_18 rfl hl (by decide) rfl (fun ls hl => ?_)
      refine lv_aload_n hx hb dX7_bitsOf_19 rfl (lv_at hl 1 rfl) ?_
      refine va_get (D := D) (ci := 5) (v := .int (nI dg)) (C := RX7) (T := TX7) (N := 22) hx hb hts inX7 hown hK hP 0 rfl rfl 1 (by decide) (hts (.fieldLink RX7 38 "ByteShapesModel" "digits" "I") (List.mem_cons_of_mem _ wd_402)) (fun _ h9 => h9) rfl dX7_bitsOf_20 ?_
      obtain ⟨hu1, hu2⟩ := uD_ok dg
      refine k_ci (wr := [(mm, .inr (5, [.int (nI th), .int (nI dg), .int (nI PT), .int (nI PN), .int (nI n), .ref ma, .ref mb, .ref mc, .ref md, .ref me, .int (nI sz), .ref mf, .int (nI od), .int (nI sl), .int (nI t), .int (nI wr), .int (nI pl), .int (nI lo), .long (lN nm), .int vz, .ref mg, .ref mh]))]) (k_rs F (c_M_units l D cI cB cJ cS dg hdg) (va_cwS 1 hts (g_S wd_405 wd_406 wd_373 wd_407) rfl rfl rfl (by decide +kernel) ⟨Nat.le_of_ble_eq_true rfl, Nat.le_of_ble_eq_true rfl⟩) hK hP hD hS hA hZ [] rfl (by decide) rfl hl.1 rfl (Nat.le_of_ble_eq_true rfl) dX7_bitsOf_23 ⟨Nat.le_of_ble_eq_true rfl, Nat.le_of_ble_eq_true rfl⟩) hP hD hS hA [] [0] rfl rfl (by decide) (by decide) (fun r u9 H locs hw hP hD hS => ?_)
      subst hw
      have hP : va_P D kCl [(mm, .inr (5, [.int (nI th), .int (nI dg), .int (nI PT), .int (nI PN), .int (nI n), .ref ma, .ref mb, .ref mc, .ref md, .ref me, .int (nI sz), .ref mf, .int (nI od), .int (nI sl), .int (nI t), .int (nI wr), .int (nI pl), .int (nI lo), .long (lN nm), .int vz, .ref mg, .ref mh]))] H := hP
      have hD : va_D A [(mm, .inr (5, [.int (nI th), .int (nI dg), .int (nI PT), .int (nI PN), .int (nI n), .ref ma, .ref mb, .ref mc, .ref md, .ref me, .int (nI sz), .ref mf, .int (nI od), .int (nI sl), .int (nI t), .int (nI wr), .int (nI pl), .int (nI lo), .long (lN nm), .int vz, .ref mg, .ref mh]))] := hD
      refine W.widen (k := 0) (n := 0) (Nat.le_of_ble_eq_true rfl) (Nat.le_of_ble_eq_true rfl) ?_
      refine lv_i2l (v := lN (uD dg)) hx hb dX7_bitsOf_26 (nI_l (by omega)) ?_
      refine lv_lstore (lv' := [(4, .long (lN (uD dg))), (2, .long (lN k)), (0, .ref mm), (1, .int (nI k))]) hx hb dX7_bitsOf_27 hl (by decide) rfl (fun ls hl => ?_)
      refine lv_lconst (v := lN 0) hx hb dX7_bitsOf_29 (by decide) ?_
      refine lv_lstore (lv' := [(6, .long (lN 0)), (4, .long (lN (uD dg))), (2, .long (lN k)), (0, .ref mm), (1, .int (nI k))]) hx hb dX7_bitsOf_30 hl (by decide) rfl (fun ls hl => ?_)
      rw [show lN (uD dg) = lN (uD dg * 2 ^ 0) from by rw [Nat.pow_zero, Nat.mul_one]] at hl
      have loop536 : ∀ (k537 : Nat) (j : Nat) (H : Heap) (locs : List Loc) (ls : Array Slot), 31 - j < k537 → (uD dg * 2 ^ j ≤ 1000000000) → va_P D kCl [(mm, .inr (5, [.int (nI th), .int (nI dg), .int (nI PT), .int (nI PN), .int (nI n), .ref ma, .ref mb, .ref mc, .ref md, .ref me, .int (nI sz), .ref mf, .int (nI od), .int (nI sl), .int (nI t), .int (nI wr), .int (nI pl), .int (nI lo), .long (lN nm), .int vz, .ref mg, .ref mh]))] H → va_D A [(mm, .inr (5, [.int (nI th), .int (nI dg), .int (nI PT), .int (nI PN), .int (nI n), .ref ma, .ref mb, .ref mc, .ref md, .ref me, .int (nI sz), .ref mf, .int (nI od), .int (nI sl), .int (nI t), .int (nI wr), .int (nI pl), .int (nI lo), .long (lN nm), .int vz, .ref mg, .ref mh]))] → va_S A s.heap H locs → lv_has ls 12 [(0, .ref mm), (1, .int (nI k)), (2, .long (lN k)), (4, .long (lN (uD dg * 2 ^ j))), (6, .long (lN j))] → W p l e ({ frames := 1, cells := 0, slots := 0, locals := 20 }) s m ([.ref mm, .int (nI k)] : List Value).toArray below meth c H locs 0 0 (MQ below ((kQl D (kT cI cB cJ cS) (fun r (ug : Unit) => r = lN (nBits k (uD dg))) (fun ug => [(mm, .inr (5, [.int (nI th), .int (nI dg), .int (nI PT), .int (nI PN), .int (nI n), .ref ma, .ref mb, .ref mc, .ref md, .ref me, .int (nI sz), .ref mf, .int (nI od), .int (nI sl), .int (nI t), .int (nI wr), .int (nI pl), .int (nI lo), .long (lN nm), .int vz, .ref mg, .ref mh]))])) A) ([.ref mm, .int (nI k)] : List Value).toArray s ({ frames := 1, cells := 0, slots := 0, locals := 20 } : Room).cells ({ frames := 1, cells := 0, slots := 0, locals := 20 } : Room).slots A) (F0 m 32 ls []) := by
        intro k537
        induction k537 with
        | zero =>
          intro j H locs ls hk9
          exact absurd hk9 (Nat.not_lt_zero _)
        | succ k537 ihloop536 =>
          intro j H locs ls hk9 hbj hP hD hS hl
          refine lv_lload_n hx hb dX7_bitsOf_32 rfl (lv_at hl 2 rfl) ?_
          have hj30 := bo_j hu1 hbj
          refine lv_ldc2 (v := lN 2) hx hb hown (hts (.constantLong RX7 102 (2)) (List.mem_cons_of_mem _ wd_408)) dX7_bitsOf_33 ?_
          refine lv_lload hx hb dX7_bitsOf_36 (lv_at hl 3 rfl) ?_
          refine lv_lmul hx hb dX7_bitsOf_38 ?_
          refine k_l (show _ = lN (2 * (uD dg * 2 ^ j)) from lN_mul _ _) ?_
          refine W.lcmp hx hb dX7_bitsOf_39 ?_
          refine k_lcmpN_lt (tgt := 60) (by omega) (by omega) hx hb dX7_bitsOf_40 (by decide) (fun h40 => ?_) (fun h40 => ?_)
          · skip
            rw [show lN k = lN (k * 2 ^ 0) from by rw [Nat.pow_zero, Nat.mul_one], show lN j = lN j - lN 0 from bo_0 j] at hl
            have loop538 : ∀ (k539 : Nat) (i : Nat) (H : Heap) (locs : List Loc) (ls : Array Slot), 31 - i < k539 → (k * 2 ^ i < 2 * (uD dg * 2 ^ j)) → va_P D kCl [(mm, .inr (5, [.int (nI th), .int (nI dg), .int (nI PT), .int (nI PN), .int (nI n), .ref ma, .ref mb, .ref mc, .ref md, .ref me, .int (nI sz), .ref mf, .int (nI od), .int (nI sl), .int (nI t), .int (nI wr), .int (nI pl), .int (nI lo), .long (lN nm), .int vz, .ref mg, .ref mh]))] H → va_D A [(mm, .inr (5, [.int (nI th), .int (nI dg), .int (nI PT), .int (nI PN), .int (nI n), .ref ma, .ref mb, .ref mc, .ref md, .ref me, .int (nI sz), .ref mf, .int (nI od), .int (nI sl), .int (nI t), .int (nI wr), .int (nI pl), .int (nI lo), .long (lN nm), .int vz, .ref mg, .ref mh]))] → va_S A s.heap H locs → lv_has ls 12 [(0, .ref mm), (1, .int (nI k)), (2, .long (lN (k * 2 ^ i))), (4, .long (lN (uD dg * 2 ^ j))), (6, .long (lN j - lN i))] → W p l e ({ frames := 1, cells := 0, slots := 0, locals := 20 }) s m ([.ref mm, .int (nI k)] : List Value).toArray below meth c H locs 0 0 (MQ below ((kQl D (kT cI cB cJ cS) (fun r (ug : Unit) => r = lN (nBits k (uD dg))) (fun ug => [(mm, .inr (5, [.int (nI th), .int (nI dg), .int (nI PT), .int (nI PN), .int (nI n), .ref ma, .ref mb, .ref mc, .ref md, .ref me, .int (nI sz), .ref mf, .int (nI od), .int (nI sl), .int (nI t), .int (nI wr), .int (nI pl), .int (nI lo), .long (lN nm), .int vz, .ref mg, .ref mh]))])) A) ([.ref mm, .int (nI k)] : List Value).toArray s ({ frames := 1, cells := 0, slots := 0, locals := 20 } : Room).cells ({ frames := 1, cells := 0, slots := 0, locals := 20 } : Room).slots A) (F0 m 60 ls []) := by
              intro k539
              induction k539 with
              | zero =>
                intro i H locs ls hk9
                exact absurd hk9 (Nat.not_lt_zero _)
              | succ k539 ihloop538 =>
                intro i H locs ls hk9 hi hP hD hS hl
                refine lv_lload_n hx hb dX7_bitsOf_60 rfl (lv_at hl 2 rfl) ?_
                have hi31 := bo_i hk1 hbj hi
                refine lv_lload hx hb dX7_bitsOf_61 (lv_at hl 3 rfl) ?_
                refine W.lcmp hx hb dX7_bitsOf_63 ?_
                refine k_lcmpN_ge (tgt := 82) (by omega) (by omega) hx hb dX7_bitsOf_64 (by decide) (fun h64 => ?_) (fun h64 => ?_)
                · skip
                  refine lv_lconst (v := lN 0) hx hb dX7_bitsOf_82 (by decide) ?_
                  refine lv_lstore (lv' := [(8, .long (lN 0)), (0, .ref mm), (1, .int (nI k)), (2, .long (lN (k * 2 ^ i))), (4, .long (lN (uD dg * 2 ^ j))), (6, .long (lN j - lN i))]) hx hb dX7_bitsOf_83 hl (by decide) rfl (fun ls hl => ?_)
                  refine lv_iconst (v := nI 0) hx hb dX7_bitsOf_85 (by decide) ?_
                  refine lv_istore (lv' := [(10, .int (nI 0)), (8, .long (lN 0)), (0, .ref mm), (1, .int (nI k)), (2, .long (lN (k * 2 ^ i))), (4, .long (lN (uD dg * 2 ^ j))), (6, .long (lN j - lN i))]) hx hb dX7_bitsOf_86 hl (by decide) rfl (fun ls hl => ?_)
                  have loop540 : ∀ (k541 : Nat) (tt : Nat) (q : Nat) (a : Nat) (H : Heap) (locs : List Loc) (ls : Array Slot), 53 - tt < k541 → (tt ≤ 53) → (k * 2 ^ i * 2 ^ tt = 2 * (q * (uD dg * 2 ^ j)) + a) → (a < 2 * (uD dg * 2 ^ j)) → va_P D kCl [(mm, .inr (5, [.int (nI th), .int (nI dg), .int (nI PT), .int (nI PN), .int (nI n), .ref ma, .ref mb, .ref mc, .ref md, .ref me, .int (nI sz), .ref mf, .int (nI od), .int (nI sl), .int (nI t), .int (nI wr), .int (nI pl), .int (nI lo), .long (lN nm), .int vz, .ref mg, .ref mh]))] H → va_D A [(mm, .inr (5, [.int (nI th), .int (nI dg), .int (nI PT), .int (nI PN), .int (nI n), .ref ma, .ref mb, .ref mc, .ref md, .ref me, .int (nI sz), .ref mf, .int (nI od), .int (nI sl), .int (nI t), .int (nI wr), .int (nI pl), .int (nI lo), .long (lN nm), .int vz, .ref mg, .ref mh]))] → va_S A s.heap H locs → lv_has ls 12 [(0, .ref mm), (1, .int (nI k)), (2, .long (lN a)), (4, .long (lN (uD dg * 2 ^ j))), (6, .long (lN j - lN i)), (8, .long (lN q)), (10, .int (nI tt))] → W p l e ({ frames := 1, cells := 0, slots := 0, locals := 20 }) s m ([.ref mm, .int (nI k)] : List Value).toArray below meth c H locs 0 0 (MQ below ((kQl D (kT cI cB cJ cS) (fun r (ug : Unit) => r = lN (nBits k (uD dg))) (fun ug => [(mm, .inr (5, [.int (nI th), .int (nI dg), .int (nI PT), .int (nI PN), .int (nI n), .ref ma, .ref mb, .ref mc, .ref md, .ref me, .int (nI sz), .ref mf, .int (nI od), .int (nI sl), .int (nI t), .int (nI wr), .int (nI pl), .int (nI lo), .long (lN nm), .int vz, .ref mg, .ref mh]))])) A) ([.ref mm, .int (nI k)] : List Value).toArray s ({ frames := 1, cells := 0, slots := 0, locals := 20 } : Room).cells ({ frames := 1, cells := 0, slots := 0, locals := 20 } : Room).slots A) (F0 m 88 ls []) := by
                    intro k541
                    induction k541 with
                    | zero =>
                      intro tt q a H locs ls hk9
                      exact absurd hk9 (Nat.not_lt_zero _)
                    | succ k541 ihloop540 =>
                      intro tt q a H locs ls hk9 htt hA ha hP hD hS hl
                      refine lv_iload hx hb dX7_bitsOf_88 (lv_at hl 6 rfl) ?_
                      refine lv_bipush (v := nI 53) hx hb dX7_bitsOf_90 (by decide) ?_
                      refine k_icmp_ge (tgt := 142) (by omega) (by omega) hx hb dX7_bitsOf_92 (by decide) (fun h92 => ?_) (fun h92 => ?_)
                      · skip
                        rw [show tt = 53 by omega] at hA
                        obtain ⟨hq1, hq2⟩ := bo_q h64 hi hA ha
                        refine lv_lload_n hx hb dX7_bitsOf_142 rfl (lv_at hl 2 rfl) ?_
                        refine lv_lload hx hb dX7_bitsOf_143 (lv_at hl 3 rfl) ?_
                        refine W.lcmp hx hb dX7_bitsOf_145 ?_
                        refine k_lcmpN_gt (tgt := 167) (by omega) (by omega) hx hb dX7_bitsOf_146 (by decide) (fun h146 => ?_) (fun h146 => ?_)
                        · skip
                          refine lv_lload hx hb dX7_bitsOf_167 (lv_at hl 5 rfl) ?_
                          refine lv_lconst (v := lN 1) hx hb dX7_bitsOf_169 (by decide) ?_
                          refine lv_ladd hx hb dX7_bitsOf_170 ?_
                          refine k_l (show _ = lN (q + 1) from lN_add _ _) ?_
                          refine lv_lstore (lv' := [(8, .long (lN (q + 1))), (0, .ref mm), (1, .int (nI k)), (2, .long (lN a)), (4, .long (lN (uD dg * 2 ^ j))), (6, .long (lN j - lN i)), (10, .int (nI tt))]) hx hb dX7_bitsOf_171 hl (by decide) rfl (fun ls hl => ?_)
                          refine lv_lload hx hb dX7_bitsOf_173 (lv_at hl 0 rfl) ?_
                          refine lv_ldc2 (v := lN 9007199254740992) hx hb hown (hts (.constantLong RX7 171 (9007199254740992)) (List.mem_cons_of_mem _ wd_475)) dX7_bitsOf_175 ?_
                          refine W.lcmp hx hb dX7_bitsOf_178 ?_
                          refine k_lcmpN_ne (tgt := 193) (by omega) (by omega) hx hb dX7_bitsOf_179 (by decide) (fun h179 => ?_) (fun h179 => ?_)
                          · skip
                            refine lv_lload hx hb dX7_bitsOf_193 (lv_at hl 5 rfl) ?_
                            refine lv_ldc2 (v := lN 1023) hx hb hown (hts (.constantLong RX7 173 (1023)) (List.mem_cons_of_mem _ wd_476)) dX7_bitsOf_195 ?_
                            refine lv_ladd hx hb dX7_bitsOf_198 ?_
                            refine k_l (show _ = lN (1023 + j - i) from bo_e hi31 hj30) ?_
                            refine lv_bipush (v := nI 52) hx hb dX7_bitsOf_199 (by decide) ?_
                            refine lv_lshl (v := lN ((1023 + j - i) * 4503599627370496)) hx hb dX7_bitsOf_201 (bo_sh _) ?_
                            refine lv_lload hx hb dX7_bitsOf_202 (lv_at hl 0 rfl) ?_
                            refine lv_ldc2 (v := lN 4503599627370496) hx hb hown (hts (.constantLong RX7 91 (4503599627370496)) (List.mem_cons_of_mem _ wd_401)) dX7_bitsOf_204 ?_
                            refine lv_lsub hx hb dX7_bitsOf_207 ?_
                            refine k_l (show _ = lN ((q + 1) - 4503599627370496) from lN_sub (by omega)) ?_
                            refine lv_lor hx hb dX7_bitsOf_208 ?_
                            refine k_l (show _ = lN ((1023 + j - i) * 4503599627370496 + ((q + 1) - 4503599627370496)) from g_or (k := 52) (p := 4503599627370496) rfl (by omega) (by omega)) ?_
                            refine lv_lstore (lv' := [(10, .long (lN ((1023 + j - i) * 4503599627370496 + ((q + 1) - 4503599627370496)))), (8, .long (lN (q + 1))), (0, .ref mm), (1, .int (nI k)), (2, .long (lN a)), (4, .long (lN (uD dg * 2 ^ j))), (6, .long (lN j - lN i))]) hx hb dX7_bitsOf_209 hl (by decide) rfl (fun ls hl => ?_)
                            refine lv_iload_n hx hb dX7_bitsOf_211 rfl (lv_at hl 3 rfl) ?_
                            refine k_if_ge (tgt := 224) (by omega) hx hb dX7_bitsOf_212 (by decide) (fun c542 => ?_) (fun c542 => ?_)
                            · skip
                              refine lv_lload hx hb dX7_bitsOf_224 (lv_at hl 0 rfl) ?_
                              have z9 := bo_eq (c := 1) hk1 hu1 hu2 hj30 h64 hi hA ha (by rw [if_pos (by omega)])
                              have z7 : (1023 + j - i) * 4503599627370496 + ((q + 1) - 4503599627370496) = nBits k (uD dg) := z9
                              refine k_l (congrArg lN z7) ?_
                              exact k_lret () hx hb hr hlocks hK hP hD hS (rfl) (rfl) (Nat.le_of_ble_eq_true rfl) (Nat.le_of_ble_eq_true rfl) dX7_bitsOf_226
                            · skip
                              exact c542.elim
                          · skip
                            refine lv_ldc2 (v := lN 4503599627370496) hx hb hown (hts (.constantLong RX7 91 (4503599627370496)) (List.mem_cons_of_mem _ wd_401)) dX7_bitsOf_182 ?_
                            refine lv_lstore (lv' := [(8, .long (lN 4503599627370496)), (0, .ref mm), (1, .int (nI k)), (2, .long (lN a)), (4, .long (lN (uD dg * 2 ^ j))), (6, .long (lN j - lN i)), (10, .int (nI tt))]) hx hb dX7_bitsOf_185 hl (by decide) rfl (fun ls hl => ?_)
                            refine lv_lload hx hb dX7_bitsOf_187 (lv_at hl 5 rfl) ?_
                            refine lv_lconst (v := lN 1) hx hb dX7_bitsOf_189 (by decide) ?_
                            refine lv_ladd hx hb dX7_bitsOf_190 ?_
                            refine lv_lstore (lv' := [(6, .long ((lN j - lN i) + (lN 1))), (8, .long (lN 4503599627370496)), (0, .ref mm), (1, .int (nI k)), (2, .long (lN a)), (4, .long (lN (uD dg * 2 ^ j))), (10, .int (nI tt))]) hx hb dX7_bitsOf_191 hl (by decide) rfl (fun ls hl => ?_)
                            refine lv_lload hx hb dX7_bitsOf_193 (lv_at hl 0 rfl) ?_
                            refine lv_ldc2 (v := lN 1023) hx hb hown (hts (.constantLong RX7 173 (1023)) (List.mem_cons_of_mem _ wd_476)) dX7_bitsOf_195 ?_
                            refine lv_ladd hx hb dX7_bitsOf_198 ?_
                            refine k_l (show _ = lN (1023 + j - i + 1) from bo_e1 hi31 hj30) ?_
                            refine lv_bipush (v := nI 52) hx hb dX7_bitsOf_199 (by decide) ?_
                            refine lv_lshl (v := lN ((1023 + j - i + 1) * 4503599627370496)) hx hb dX7_bitsOf_201 (bo_sh _) ?_
                            refine lv_lload hx hb dX7_bitsOf_202 (lv_at hl 1 rfl) ?_
                            refine lv_ldc2 (v := lN 4503599627370496) hx hb hown (hts (.constantLong RX7 91 (4503599627370496)) (List.mem_cons_of_mem _ wd_401)) dX7_bitsOf_204 ?_
                            refine lv_lsub hx hb dX7_bitsOf_207 ?_
                            refine k_l (show _ = lN (4503599627370496 - 4503599627370496) from lN_sub (by omega)) ?_
                            refine lv_lor hx hb dX7_bitsOf_208 ?_
                            refine k_l (show _ = lN ((1023 + j - i + 1) * 4503599627370496 + (4503599627370496 - 4503599627370496)) from g_or (k := 52) (p := 4503599627370496) rfl (by omega) (by omega)) ?_
                            refine lv_lstore (lv' := [(10, .long (lN ((1023 + j - i + 1) * 4503599627370496 + (4503599627370496 - 4503599627370496)))), (6, .long ((lN j - lN i) + (lN 1))), (8, .long (lN 4503599627370496)), (0, .ref mm), (1, .int (nI k)), (2, .long (lN a)), (4, .long (lN (uD dg * 2 ^ j)))]) hx hb dX7_bitsOf_209 hl (by decide) rfl (fun ls hl => ?_)
                            refine lv_iload_n hx hb dX7_bitsOf_211 rfl (lv_at hl 4 rfl) ?_
                            refine k_if_ge (tgt := 224) (by omega) hx hb dX7_bitsOf_212 (by decide) (fun c543 => ?_) (fun c543 => ?_)
                            · skip
                              refine lv_lload hx hb dX7_bitsOf_224 (lv_at hl 0 rfl) ?_
                              have z9 := bo_eq (c := 1) hk1 hu1 hu2 hj30 h64 hi hA ha (by rw [if_pos (by omega)])
                              have z7 : (1023 + j - i + 1) * 4503599627370496 + (4503599627370496 - 4503599627370496) = nBits k (uD dg) := bo_c z9 h179
                              refine k_l (congrArg lN z7) ?_
                              exact k_lret () hx hb hr hlocks hK hP hD hS (rfl) (rfl) (Nat.le_of_ble_eq_true rfl) (Nat.le_of_ble_eq_true rfl) dX7_bitsOf_226
                            · skip
                              exact c543.elim
                        · skip
                          refine lv_lload_n hx hb dX7_bitsOf_149 rfl (lv_at hl 2 rfl) ?_
                          refine lv_lload hx hb dX7_bitsOf_150 (lv_at hl 3 rfl) ?_
                          refine W.lcmp hx hb dX7_bitsOf_152 ?_
                          refine k_lcmpN_ne (tgt := 173) (by omega) (by omega) hx hb dX7_bitsOf_153 (by decide) (fun h153 => ?_) (fun h153 => ?_)
                          · skip
                            refine lv_lload hx hb dX7_bitsOf_173 (lv_at hl 5 rfl) ?_
                            refine lv_ldc2 (v := lN 9007199254740992) hx hb hown (hts (.constantLong RX7 171 (9007199254740992)) (List.mem_cons_of_mem _ wd_475)) dX7_bitsOf_175 ?_
                            refine W.lcmp hx hb dX7_bitsOf_178 ?_
                            refine k_lcmpN_ne (tgt := 193) (by omega) (by omega) hx hb dX7_bitsOf_179 (by decide) (fun h179 => ?_) (fun h179 => ?_)
                            · skip
                              refine lv_lload hx hb dX7_bitsOf_193 (lv_at hl 4 rfl) ?_
                              refine lv_ldc2 (v := lN 1023) hx hb hown (hts (.constantLong RX7 173 (1023)) (List.mem_cons_of_mem _ wd_476)) dX7_bitsOf_195 ?_
                              refine lv_ladd hx hb dX7_bitsOf_198 ?_
                              refine k_l (show _ = lN (1023 + j - i) from bo_e hi31 hj30) ?_
                              refine lv_bipush (v := nI 52) hx hb dX7_bitsOf_199 (by decide) ?_
                              refine lv_lshl (v := lN ((1023 + j - i) * 4503599627370496)) hx hb dX7_bitsOf_201 (bo_sh _) ?_
                              refine lv_lload hx hb dX7_bitsOf_202 (lv_at hl 5 rfl) ?_
                              refine lv_ldc2 (v := lN 4503599627370496) hx hb hown (hts (.constantLong RX7 91 (4503599627370496)) (List.mem_cons_of_mem _ wd_401)) dX7_bitsOf_204 ?_
                              refine lv_lsub hx hb dX7_bitsOf_207 ?_
                              refine k_l (show _ = lN (q - 4503599627370496) from lN_sub (by omega)) ?_
                              refine lv_lor hx hb dX7_bitsOf_208 ?_
                              refine k_l (show _ = lN ((1023 + j - i) * 4503599627370496 + (q - 4503599627370496)) from g_or (k := 52) (p := 4503599627370496) rfl (by omega) (by omega)) ?_
                              refine lv_lstore (lv' := [(10, .long (lN ((1023 + j - i) * 4503599627370496 + (q - 4503599627370496)))), (0, .ref mm), (1, .int (nI k)), (2, .long (lN a)), (4, .long (lN (uD dg * 2 ^ j))), (6, .long (lN j - lN i)), (8, .long (lN q))]) hx hb dX7_bitsOf_209 hl (by decide) rfl (fun ls hl => ?_)
                              refine lv_iload_n hx hb dX7_bitsOf_211 rfl (lv_at hl 2 rfl) ?_
                              refine k_if_ge (tgt := 224) (by omega) hx hb dX7_bitsOf_212 (by decide) (fun c544 => ?_) (fun c544 => ?_)
                              · skip
                                refine lv_lload hx hb dX7_bitsOf_224 (lv_at hl 0 rfl) ?_
                                have z9 := bo_eq (c := 0) hk1 hu1 hu2 hj30 h64 hi hA ha (by rw [if_neg (by omega)])
                                have z7 : (1023 + j - i) * 4503599627370496 + (q - 4503599627370496) = nBits k (uD dg) := z9
                                refine k_l (congrArg lN z7) ?_
                                exact k_lret () hx hb hr hlocks hK hP hD hS (rfl) (rfl) (Nat.le_of_ble_eq_true rfl) (Nat.le_of_ble_eq_true rfl) dX7_bitsOf_226
                              · skip
                                exact c544.elim
                            · skip
                              exact absurd h179 (by omega)
                          · skip
                            refine lv_lload hx hb dX7_bitsOf_156 (lv_at hl 5 rfl) ?_
                            refine lv_ldc2 (v := lN 2) hx hb hown (hts (.constantLong RX7 102 (2)) (List.mem_cons_of_mem _ wd_408)) dX7_bitsOf_158 ?_
                            refine lv_lrem hx hb dX7_bitsOf_161 (by decide) ?_
                            refine k_l (show _ = lN (q % 2) from pk_lRem (by omega) (by decide) (by decide)) ?_
                            refine lv_lconst (v := lN 1) hx hb dX7_bitsOf_162 (by decide) ?_
                            refine W.lcmp hx hb dX7_bitsOf_163 ?_
                            refine k_lcmpN_ne (tgt := 173) (by omega) (by omega) hx hb dX7_bitsOf_164 (by decide) (fun h164 => ?_) (fun h164 => ?_)
                            · skip
                              refine lv_lload hx hb dX7_bitsOf_173 (lv_at hl 5 rfl) ?_
                              refine lv_ldc2 (v := lN 9007199254740992) hx hb hown (hts (.constantLong RX7 171 (9007199254740992)) (List.mem_cons_of_mem _ wd_475)) dX7_bitsOf_175 ?_
                              refine W.lcmp hx hb dX7_bitsOf_178 ?_
                              refine k_lcmpN_ne (tgt := 193) (by omega) (by omega) hx hb dX7_bitsOf_179 (by decide) (fun h179 => ?_) (fun h179 => ?_)
                              · skip
                                refine lv_lload hx hb dX7_bitsOf_193 (lv_at hl 4 rfl) ?_
                                refine lv_ldc2 (v := lN 1023) hx hb hown (hts (.constantLong RX7 173 (1023)) (List.mem_cons_of_mem _ wd_476)) dX7_bitsOf_195 ?_
                                refine lv_ladd hx hb dX7_bitsOf_198 ?_
                                refine k_l (show _ = lN (1023 + j - i) from bo_e hi31 hj30) ?_
                                refine lv_bipush (v := nI 52) hx hb dX7_bitsOf_199 (by decide) ?_
                                refine lv_lshl (v := lN ((1023 + j - i) * 4503599627370496)) hx hb dX7_bitsOf_201 (bo_sh _) ?_
                                refine lv_lload hx hb dX7_bitsOf_202 (lv_at hl 5 rfl) ?_
                                refine lv_ldc2 (v := lN 4503599627370496) hx hb hown (hts (.constantLong RX7 91 (4503599627370496)) (List.mem_cons_of_mem _ wd_401)) dX7_bitsOf_204 ?_
                                refine lv_lsub hx hb dX7_bitsOf_207 ?_
                                refine k_l (show _ = lN (q - 4503599627370496) from lN_sub (by omega)) ?_
                                refine lv_lor hx hb dX7_bitsOf_208 ?_
                                refine k_l (show _ = lN ((1023 + j - i) * 4503599627370496 + (q - 4503599627370496)) from g_or (k := 52) (p := 4503599627370496) rfl (by omega) (by omega)) ?_
                                refine lv_lstore (lv' := [(10, .long (lN ((1023 + j - i) * 4503599627370496 + (q - 4503599627370496)))), (0, .ref mm), (1, .int (nI k)), (2, .long (lN a)), (4, .long (lN (uD dg * 2 ^ j))), (6, .long (lN j - lN i)), (8, .long (lN q))]) hx hb dX7_bitsOf_209 hl (by decide) rfl (fun ls hl => ?_)
                                refine lv_iload_n hx hb dX7_bitsOf_211 rfl (lv_at hl 2 rfl) ?_
                                refine k_if_ge (tgt := 224) (by omega) hx hb dX7_bitsOf_212 (by decide) (fun c545 => ?_) (fun c545 => ?_)
                                · skip
                                  refine lv_lload hx hb dX7_bitsOf_224 (lv_at hl 0 rfl) ?_
                                  have z9 := bo_eq (c := 0) hk1 hu1 hu2 hj30 h64 hi hA ha (by rw [if_neg (by omega)])
                                  have z7 : (1023 + j - i) * 4503599627370496 + (q - 4503599627370496) = nBits k (uD dg) := z9
                                  refine k_l (congrArg lN z7) ?_
                                  exact k_lret () hx hb hr hlocks hK hP hD hS (rfl) (rfl) (Nat.le_of_ble_eq_true rfl) (Nat.le_of_ble_eq_true rfl) dX7_bitsOf_226
                                · skip
                                  exact c545.elim
                              · skip
                                exact absurd h179 (by omega)
                            · skip
                              refine lv_lload hx hb dX7_bitsOf_167 (lv_at hl 5 rfl) ?_
                              refine lv_lconst (v := lN 1) hx hb dX7_bitsOf_169 (by decide) ?_
                              refine lv_ladd hx hb dX7_bitsOf_170 ?_
                              refine k_l (show _ = lN (q + 1) from lN_add _ _) ?_
                              refine lv_lstore (lv' := [(8, .long (lN (q + 1))), (0, .ref mm), (1, .int (nI k)), (2, .long (lN a)), (4, .long (lN (uD dg * 2 ^ j))), (6, .long (lN j - lN i)), (10, .int (nI tt))]) hx hb dX7_bitsOf_171 hl (by decide) rfl (fun ls hl => ?_)
                              refine lv_lload hx hb dX7_bitsOf_173 (lv_at hl 0 rfl) ?_
                              refine lv_ldc2 (v := lN 9007199254740992) hx hb hown (hts (.constantLong RX7 171 (9007199254740992)) (List.mem_cons_of_mem _ wd_475)) dX7_bitsOf_175 ?_
                              refine W.lcmp hx hb dX7_bitsOf_178 ?_
                              refine k_lcmpN_ne (tgt := 193) (by omega) (by omega) hx hb dX7_bitsOf_179 (by decide) (fun h179 => ?_) (fun h179 => ?_)
                              · skip
                                refine lv_lload hx hb dX7_bitsOf_193 (lv_at hl 5 rfl) ?_
                                refine lv_ldc2 (v := lN 1023) hx hb hown (hts (.constantLong RX7 173 (1023)) (List.mem_cons_of_mem _ wd_476)) dX7_bitsOf_195 ?_
                                refine lv_ladd hx hb dX7_bitsOf_198 ?_
                                refine k_l (show _ = lN (1023 + j - i) from bo_e hi31 hj30) ?_
                                refine lv_bipush (v := nI 52) hx hb dX7_bitsOf_199 (by decide) ?_
                                refine lv_lshl (v := lN ((1023 + j - i) * 4503599627370496)) hx hb dX7_bitsOf_201 (bo_sh _) ?_
                                refine lv_lload hx hb dX7_bitsOf_202 (lv_at hl 0 rfl) ?_
                                refine lv_ldc2 (v := lN 4503599627370496) hx hb hown (hts (.constantLong RX7 91 (4503599627370496)) (List.mem_cons_of_mem _ wd_401)) dX7_bitsOf_204 ?_
                                refine lv_lsub hx hb dX7_bitsOf_207 ?_
                                refine k_l (show _ = lN ((q + 1) - 4503599627370496) from lN_sub (by omega)) ?_
                                refine lv_lor hx hb dX7_bitsOf_208 ?_
                                refine k_l (show _ = lN ((1023 + j - i) * 4503599627370496 + ((q + 1) - 4503599627370496)) from g_or (k := 52) (p := 4503599627370496) rfl (by omega) (by omega)) ?_
                                refine lv_lstore (lv' := [(10, .long (lN ((1023 + j - i) * 4503599627370496 + ((q + 1) - 4503599627370496)))), (8, .long (lN (q + 1))), (0, .ref mm), (1, .int (nI k)), (2, .long (lN a)), (4, .long (lN (uD dg * 2 ^ j))), (6, .long (lN j - lN i))]) hx hb dX7_bitsOf_209 hl (by decide) rfl (fun ls hl => ?_)
                                refine lv_iload_n hx hb dX7_bitsOf_211 rfl (lv_at hl 3 rfl) ?_
                                refine k_if_ge (tgt := 224) (by omega) hx hb dX7_bitsOf_212 (by decide) (fun c546 => ?_) (fun c546 => ?_)
                                · skip
                                  refine lv_lload hx hb dX7_bitsOf_224 (lv_at hl 0 rfl) ?_
                                  have z9 := bo_eq (c := 1) hk1 hu1 hu2 hj30 h64 hi hA ha (by rw [if_pos (by omega)])
                                  have z7 : (1023 + j - i) * 4503599627370496 + ((q + 1) - 4503599627370496) = nBits k (uD dg) := z9
                                  refine k_l (congrArg lN z7) ?_
                                  exact k_lret () hx hb hr hlocks hK hP hD hS (rfl) (rfl) (Nat.le_of_ble_eq_true rfl) (Nat.le_of_ble_eq_true rfl) dX7_bitsOf_226
                                · skip
                                  exact c546.elim
                              · skip
                                refine lv_ldc2 (v := lN 4503599627370496) hx hb hown (hts (.constantLong RX7 91 (4503599627370496)) (List.mem_cons_of_mem _ wd_401)) dX7_bitsOf_182 ?_
                                refine lv_lstore (lv' := [(8, .long (lN 4503599627370496)), (0, .ref mm), (1, .int (nI k)), (2, .long (lN a)), (4, .long (lN (uD dg * 2 ^ j))), (6, .long (lN j - lN i)), (10, .int (nI tt))]) hx hb dX7_bitsOf_185 hl (by decide) rfl (fun ls hl => ?_)
                                refine lv_lload hx hb dX7_bitsOf_187 (lv_at hl 5 rfl) ?_
                                refine lv_lconst (v := lN 1) hx hb dX7_bitsOf_189 (by decide) ?_
                                refine lv_ladd hx hb dX7_bitsOf_190 ?_
                                refine lv_lstore (lv' := [(6, .long ((lN j - lN i) + (lN 1))), (8, .long (lN 4503599627370496)), (0, .ref mm), (1, .int (nI k)), (2, .long (lN a)), (4, .long (lN (uD dg * 2 ^ j))), (10, .int (nI tt))]) hx hb dX7_bitsOf_191 hl (by decide) rfl (fun ls hl => ?_)
                                refine lv_lload hx hb dX7_bitsOf_193 (lv_at hl 0 rfl) ?_
                                refine lv_ldc2 (v := lN 1023) hx hb hown (hts (.constantLong RX7 173 (1023)) (List.mem_cons_of_mem _ wd_476)) dX7_bitsOf_195 ?_
                                refine lv_ladd hx hb dX7_bitsOf_198 ?_
                                refine k_l (show _ = lN (1023 + j - i + 1) from bo_e1 hi31 hj30) ?_
                                refine lv_bipush (v := nI 52) hx hb dX7_bitsOf_199 (by decide) ?_
                                refine lv_lshl (v := lN ((1023 + j - i + 1) * 4503599627370496)) hx hb dX7_bitsOf_201 (bo_sh _) ?_
                                refine lv_lload hx hb dX7_bitsOf_202 (lv_at hl 1 rfl) ?_
                                refine lv_ldc2 (v := lN 4503599627370496) hx hb hown (hts (.constantLong RX7 91 (4503599627370496)) (List.mem_cons_of_mem _ wd_401)) dX7_bitsOf_204 ?_
                                refine lv_lsub hx hb dX7_bitsOf_207 ?_
                                refine k_l (show _ = lN (4503599627370496 - 4503599627370496) from lN_sub (by omega)) ?_
                                refine lv_lor hx hb dX7_bitsOf_208 ?_
                                refine k_l (show _ = lN ((1023 + j - i + 1) * 4503599627370496 + (4503599627370496 - 4503599627370496)) from g_or (k := 52) (p := 4503599627370496) rfl (by omega) (by omega)) ?_
                                refine lv_lstore (lv' := [(10, .long (lN ((1023 + j - i + 1) * 4503599627370496 + (4503599627370496 - 4503599627370496)))), (6, .long ((lN j - lN i) + (lN 1))), (8, .long (lN 4503599627370496)), (0, .ref mm), (1, .int (nI k)), (2, .long (lN a)), (4, .long (lN (uD dg * 2 ^ j)))]) hx hb dX7_bitsOf_209 hl (by decide) rfl (fun ls hl => ?_)
                                refine lv_iload_n hx hb dX7_bitsOf_211 rfl (lv_at hl 4 rfl) ?_
                                refine k_if_ge (tgt := 224) (by omega) hx hb dX7_bitsOf_212 (by decide) (fun c547 => ?_) (fun c547 => ?_)
                                · skip
                                  refine lv_lload hx hb dX7_bitsOf_224 (lv_at hl 0 rfl) ?_
                                  have z9 := bo_eq (c := 1) hk1 hu1 hu2 hj30 h64 hi hA ha (by rw [if_pos (by omega)])
                                  have z7 : (1023 + j - i + 1) * 4503599627370496 + (4503599627370496 - 4503599627370496) = nBits k (uD dg) := bo_c z9 h179
                                  refine k_l (congrArg lN z7) ?_
                                  exact k_lret () hx hb hr hlocks hK hP hD hS (rfl) (rfl) (Nat.le_of_ble_eq_true rfl) (Nat.le_of_ble_eq_true rfl) dX7_bitsOf_226
                                · skip
                                  exact c547.elim
                      · skip
                        refine lv_ldc2 (v := lN 2) hx hb hown (hts (.constantLong RX7 102 (2)) (List.mem_cons_of_mem _ wd_408)) dX7_bitsOf_95 ?_
                        refine lv_lload hx hb dX7_bitsOf_98 (lv_at hl 5 rfl) ?_
                        refine lv_lmul hx hb dX7_bitsOf_100 ?_
                        refine k_l (show _ = lN (2 * q) from lN_mul _ _) ?_
                        refine lv_lload_n hx hb dX7_bitsOf_101 rfl (lv_at hl 2 rfl) ?_
                        refine lv_lload hx hb dX7_bitsOf_102 (lv_at hl 3 rfl) ?_
                        refine W.lcmp hx hb dX7_bitsOf_104 ?_
                        refine k_lcmpN_lt (tgt := 112) (by omega) (by omega) hx hb dX7_bitsOf_105 (by decide) (fun h105 => ?_) (fun h105 => ?_)
                        · skip
                          refine lv_lconst (v := lN 0) hx hb dX7_bitsOf_112 (by decide) ?_
                          refine lv_ladd hx hb dX7_bitsOf_113 ?_
                          refine k_l (show _ = lN ((2 * q) + 0) from lN_add _ _) ?_
                          refine lv_lstore (lv' := [(8, .long (lN ((2 * q) + 0))), (0, .ref mm), (1, .int (nI k)), (2, .long (lN a)), (4, .long (lN (uD dg * 2 ^ j))), (6, .long (lN j - lN i)), (10, .int (nI tt))]) hx hb dX7_bitsOf_114 hl (by decide) rfl (fun ls hl => ?_)
                          refine lv_ldc2 (v := lN 2) hx hb hown (hts (.constantLong RX7 102 (2)) (List.mem_cons_of_mem _ wd_408)) dX7_bitsOf_116 ?_
                          refine lv_lload_n hx hb dX7_bitsOf_119 rfl (lv_at hl 3 rfl) ?_
                          refine lv_lload hx hb dX7_bitsOf_120 (lv_at hl 4 rfl) ?_
                          refine W.lcmp hx hb dX7_bitsOf_122 ?_
                          refine k_lcmpN_lt (tgt := 133) (by omega) (by omega) hx hb dX7_bitsOf_123 (by decide) (fun h123 => ?_) (fun h123 => ?_)
                          · skip
                            refine lv_lload_n hx hb dX7_bitsOf_133 rfl (lv_at hl 3 rfl) ?_
                            refine lv_lmul hx hb dX7_bitsOf_134 ?_
                            refine k_l (show _ = lN (2 * a) from lN_mul _ _) ?_
                            refine lv_lstore_n (lv' := [(2, .long (lN (2 * a))), (8, .long (lN ((2 * q) + 0))), (0, .ref mm), (1, .int (nI k)), (4, .long (lN (uD dg * 2 ^ j))), (6, .long (lN j - lN i)), (10, .int (nI tt))]) hx hb dX7_bitsOf_135 rfl hl (by decide) rfl (fun ls hl => ?_)
                            refine lv_iinc (v := nI (tt + 1)) (lv' := [(10, .int (nI (tt + 1))), (2, .long (lN (2 * a))), (8, .long (lN ((2 * q) + 0))), (0, .ref mm), (1, .int (nI k)), (4, .long (lN (uD dg * 2 ^ j))), (6, .long (lN j - lN i))]) hx hb dX7_bitsOf_136 hl (k := 6) rfl (nI_add _ _) (by decide) rfl (fun ls hl => ?_)
                            refine lv_goto (tgt := 88) hx hb dX7_bitsOf_139 (by decide) ?_
                            exact ihloop540 (tt + 1) ((2 * q) + 0) (2 * a) _ _ _ (by omega) (by omega) (bo_s0 hA) (by omega) (hP.sub [0] rfl) (hD.sub [0] (by decide) rfl) hS (lv_sub hl [3, 4, 1, 5, 6, 2, 0] rfl)
                          · skip
                            exact absurd h123 (by omega)
                        · skip
                          refine lv_lconst (v := lN 1) hx hb dX7_bitsOf_108 (by decide) ?_
                          refine lv_goto (tgt := 113) hx hb dX7_bitsOf_109 (by decide) ?_
                          refine lv_ladd hx hb dX7_bitsOf_113 ?_
                          refine k_l (show _ = lN ((2 * q) + 1) from lN_add _ _) ?_
                          refine lv_lstore (lv' := [(8, .long (lN ((2 * q) + 1))), (0, .ref mm), (1, .int (nI k)), (2, .long (lN a)), (4, .long (lN (uD dg * 2 ^ j))), (6, .long (lN j - lN i)), (10, .int (nI tt))]) hx hb dX7_bitsOf_114 hl (by decide) rfl (fun ls hl => ?_)
                          refine lv_ldc2 (v := lN 2) hx hb hown (hts (.constantLong RX7 102 (2)) (List.mem_cons_of_mem _ wd_408)) dX7_bitsOf_116 ?_
                          refine lv_lload_n hx hb dX7_bitsOf_119 rfl (lv_at hl 3 rfl) ?_
                          refine lv_lload hx hb dX7_bitsOf_120 (lv_at hl 4 rfl) ?_
                          refine W.lcmp hx hb dX7_bitsOf_122 ?_
                          refine k_lcmpN_lt (tgt := 133) (by omega) (by omega) hx hb dX7_bitsOf_123 (by decide) (fun h123 => ?_) (fun h123 => ?_)
                          · skip
                            exact absurd h123 (by omega)
                          · skip
                            refine lv_lload_n hx hb dX7_bitsOf_126 rfl (lv_at hl 3 rfl) ?_
                            refine lv_lload hx hb dX7_bitsOf_127 (lv_at hl 4 rfl) ?_
                            refine lv_lsub hx hb dX7_bitsOf_129 ?_
                            refine k_l (show _ = lN (a - (uD dg * 2 ^ j)) from lN_sub (by omega)) ?_
                            refine lv_goto (tgt := 134) hx hb dX7_bitsOf_130 (by decide) ?_
                            refine lv_lmul hx hb dX7_bitsOf_134 ?_
                            refine k_l (show _ = lN (2 * (a - (uD dg * 2 ^ j))) from lN_mul _ _) ?_
                            refine lv_lstore_n (lv' := [(2, .long (lN (2 * (a - (uD dg * 2 ^ j))))), (8, .long (lN ((2 * q) + 1))), (0, .ref mm), (1, .int (nI k)), (4, .long (lN (uD dg * 2 ^ j))), (6, .long (lN j - lN i)), (10, .int (nI tt))]) hx hb dX7_bitsOf_135 rfl hl (by decide) rfl (fun ls hl => ?_)
                            refine lv_iinc (v := nI (tt + 1)) (lv' := [(10, .int (nI (tt + 1))), (2, .long (lN (2 * (a - (uD dg * 2 ^ j))))), (8, .long (lN ((2 * q) + 1))), (0, .ref mm), (1, .int (nI k)), (4, .long (lN (uD dg * 2 ^ j))), (6, .long (lN j - lN i))]) hx hb dX7_bitsOf_136 hl (k := 6) rfl (nI_add _ _) (by decide) rfl (fun ls hl => ?_)
                            refine lv_goto (tgt := 88) hx hb dX7_bitsOf_139 (by decide) ?_
                            exact ihloop540 (tt + 1) ((2 * q) + 1) (2 * (a - (uD dg * 2 ^ j))) _ _ _ (by omega) (by omega) (bo_s1 hA (by omega)) (by omega) (hP.sub [0] rfl) (hD.sub [0] (by decide) rfl) hS (lv_sub hl [3, 4, 1, 5, 6, 2, 0] rfl)
                  exact loop540 ((53 - 0) + 1) 0 0 (k * 2 ^ i) _ _ _ (Nat.lt_succ_self _) (Nat.zero_le _) (by rw [Nat.pow_zero, Nat.zero_mul]; omega) (hi) (hP.sub [0] rfl) (hD.sub [0] (by decide) rfl) hS (lv_sub hl [2, 3, 4, 5, 6, 1, 0] rfl)
                · skip
                  refine lv_ldc2 (v := lN 2) hx hb hown (hts (.constantLong RX7 102 (2)) (List.mem_cons_of_mem _ wd_408)) dX7_bitsOf_67 ?_
                  refine lv_lload_n hx hb dX7_bitsOf_70 rfl (lv_at hl 2 rfl) ?_
                  refine lv_lmul hx hb dX7_bitsOf_71 ?_
                  refine k_l (show _ = lN (2 * (k * 2 ^ i)) from lN_mul _ _) ?_
                  refine k_l (show _ = lN (k * 2 ^ (i + 1)) from congrArg lN (bo_d _ _)) ?_
                  refine lv_lstore_n (lv' := [(2, .long (lN (k * 2 ^ (i + 1)))), (0, .ref mm), (1, .int (nI k)), (4, .long (lN (uD dg * 2 ^ j))), (6, .long (lN j - lN i))]) hx hb dX7_bitsOf_72 rfl hl (by decide) rfl (fun ls hl => ?_)
                  refine lv_lload hx hb dX7_bitsOf_73 (lv_at hl 4 rfl) ?_
                  refine lv_lconst (v := lN 1) hx hb dX7_bitsOf_75 (by decide) ?_
                  refine lv_lsub hx hb dX7_bitsOf_76 ?_
                  refine k_l (show _ = lN j - lN (i + 1) from bo_m hi31 hj30) ?_
                  refine lv_lstore (lv' := [(6, .long (lN j - lN (i + 1))), (2, .long (lN (k * 2 ^ (i + 1)))), (0, .ref mm), (1, .int (nI k)), (4, .long (lN (uD dg * 2 ^ j)))]) hx hb dX7_bitsOf_77 hl (by decide) rfl (fun ls hl => ?_)
                  refine lv_goto (tgt := 60) hx hb dX7_bitsOf_79 (by decide) ?_
                  exact ihloop538 (i + 1) _ _ _ (by omega) (by rw [← bo_d]; omega) (hP.sub [0] rfl) (hD.sub [0] (by decide) rfl) hS (lv_sub hl [2, 3, 1, 4, 0] rfl)
            exact loop538 ((31 - 0) + 1) 0 _ _ _ (Nat.lt_succ_self _) (by rw [Nat.pow_zero]; omega) (hP.sub [0] rfl) (hD.sub [0] (by decide) rfl) hS (lv_sub hl [0, 1, 2, 3, 4] rfl)
          · skip
            refine lv_ldc2 (v := lN 2) hx hb hown (hts (.constantLong RX7 102 (2)) (List.mem_cons_of_mem _ wd_408)) dX7_bitsOf_43 ?_
            refine lv_lload hx hb dX7_bitsOf_46 (lv_at hl 3 rfl) ?_
            refine lv_lmul hx hb dX7_bitsOf_48 ?_
            refine k_l (show _ = lN (2 * (uD dg * 2 ^ j)) from lN_mul _ _) ?_
            refine k_l (show _ = lN (uD dg * 2 ^ (j + 1)) from congrArg lN (bo_d _ _)) ?_
            refine lv_lstore (lv' := [(4, .long (lN (uD dg * 2 ^ (j + 1)))), (0, .ref mm), (1, .int (nI k)), (2, .long (lN k)), (6, .long (lN j))]) hx hb dX7_bitsOf_49 hl (by decide) rfl (fun ls hl => ?_)
            refine lv_lload hx hb dX7_bitsOf_51 (lv_at hl 4 rfl) ?_
            refine lv_lconst (v := lN 1) hx hb dX7_bitsOf_53 (by decide) ?_
            refine lv_ladd hx hb dX7_bitsOf_54 ?_
            refine k_l (show _ = lN (j + 1) from lN_add _ _) ?_
            refine lv_lstore (lv' := [(6, .long (lN (j + 1))), (4, .long (lN (uD dg * 2 ^ (j + 1)))), (0, .ref mm), (1, .int (nI k)), (2, .long (lN k))]) hx hb dX7_bitsOf_55 hl (by decide) rfl (fun ls hl => ?_)
            refine lv_goto (tgt := 32) hx hb dX7_bitsOf_57 (by decide) ?_
            exact ihloop536 (j + 1) _ _ _ (by omega) (by rw [← bo_d]; omega) (hP.sub [0] rfl) (hD.sub [0] (by decide) rfl) hS (lv_sub hl [2, 3, 4, 1, 0] rfl)
      exact loop536 ((31 - 0) + 1) 0 _ _ _ (Nat.lt_succ_self _) (by rw [Nat.pow_zero]; omega) (hP.sub [0] rfl) (hD.sub [0] (by decide) rfl) hS (lv_sub hl [3, 4, 2, 1, 0] rfl)
    · skip
      exact c535.elim
  · skip
    exact absurd c534 (by omega)

set_option maxRecDepth 100000 in
set_option maxHeartbeats 4000000 in
theorem c_M_bitsM (l : Launch) (D : va_G) (cI cB cJ cS : ClassId) (mm ma mb mc md me mf mg mh th dg PT PN n sz od sl t wr pl lo nm : Nat) (b pm pd pq rb ok ol : Nat → Nat) (fx : Nat → Int32) (vz : Int32) (hdg : dg < 4) (k : Nat) (hk1 : 1 ≤ k) (hk : k ≤ 1000000000)  : kM l yX7_bitsOf vsX7_bitsOf ({ frames := 1, cells := 0, slots := 0, locals := 20 }) D (kT cI cB cJ cS) [.ref mm, .int (-nI k)] [(mm, .inr (5, [.int (nI th), .int (nI dg), .int (nI PT), .int (nI PN), .int (nI n), .ref ma, .ref mb, .ref mc, .ref md, .ref me, .int (nI sz), .ref mf, .int (nI od), .int (nI sl), .int (nI t), .int (nI wr), .int (nI pl), .int (nI lo), .long (lN nm), .int vz, .ref mg, .ref mh]))] (kQl D (kT cI cB cJ cS) (fun r (ug : Unit) => r = lN (nBits k (uD dg) + 9223372036854775808)) (fun ug => [(mm, .inr (5, [.int (nI th), .int (nI dg), .int (nI PT), .int (nI PN), .int (nI n), .ref ma, .ref mb, .ref mc, .ref md, .ref me, .int (nI sz), .ref mf, .int (nI od), .int (nI sl), .int (nI t), .int (nI wr), .int (nI pl), .int (nI lo), .long (lN nm), .int vz, .ref mg, .ref mh]))])) := by
  refine k_ofW (by decide) rfl (Nat.le_of_ble_eq_true rfl) ?_
  intro p e s m below meth c A ls hx hb hr hts hown hlocks hmn hml hA hP hK hD hS hZ hl
  have inX7 : ∀ w ∈ wsX70, w ∈ vsX7_bitsOf := fun w h => List.mem_cons_of_mem _ (iaX7 w h)
  have F : CallFix p m c cX7_bitsOf 12 s _ vsX7_bitsOf RX7 := ⟨hx, hb, hml, hown, hts⟩
  have hl : lv_has ls 12 [(0, .ref mm), (1, .int (-nI k))] := hl
  refine lv_iload_n hx hb dX7_bitsOf_0 rfl (lv_at hl 1 rfl) ?_
  refine lv_if_ne (tgt := 6) hx hb dX7_bitsOf_1 (by decide) (fun c548 => ?_) (fun c548 => ?_)
  · skip
    refine lv_iload_n hx hb dX7_bitsOf_6 rfl (lv_at hl 1 rfl) ?_
    refine lv_if_ge (tgt := 16) hx hb dX7_bitsOf_7 (by decide) (fun c549 => ?_) (fun c549 => ?_)
    · skip
      exact absurd c549 (nb_nge hk1 (by omega))
    · skip
      refine lv_iload_n hx hb dX7_bitsOf_10 rfl (lv_at hl 1 rfl) ?_
      refine lv_ineg hx hb dX7_bitsOf_11 ?_
      refine k_i (show _ = nI k from bo_n) ?_
      refine lv_i2l (v := lN k) hx hb dX7_bitsOf_12 (nI_l (by omega)) ?_
      refine lv_goto (tgt := 18) hx hb dX7_bitsOf_13 (by decide) ?_
      refine lv_lstore_n (lv' := [(2, .long (lN k)), (0, .ref mm), (1, .int (-nI k))]) hx hb dX7_bitsOf_18 rfl hl (by decide) rfl (fun ls hl => ?_)
      refine lv_aload_n hx hb dX7_bitsOf_19 rfl (lv_at hl 1 rfl) ?_
      refine va_get (D := D) (ci := 5) (v := .int (nI dg)) (C := RX7) (T := TX7) (N := 22) hx hb hts inX7 hown hK hP 0 rfl rfl 1 (by decide) (hts (.fieldLink RX7 38 "ByteShapesModel" "digits" "I") (List.mem_cons_of_mem _ wd_402)) (fun _ h9 => h9) rfl dX7_bitsOf_20 ?_
      obtain ⟨hu1, hu2⟩ := uD_ok dg
      refine k_ci (wr := [(mm, .inr (5, [.int (nI th), .int (nI dg), .int (nI PT), .int (nI PN), .int (nI n), .ref ma, .ref mb, .ref mc, .ref md, .ref me, .int (nI sz), .ref mf, .int (nI od), .int (nI sl), .int (nI t), .int (nI wr), .int (nI pl), .int (nI lo), .long (lN nm), .int vz, .ref mg, .ref mh]))]) (k_rs F (c_M_units l D cI cB cJ cS dg hdg) (va_cwS 1 hts (g_S wd_405 wd_406 wd_373 wd_407) rfl rfl rfl (by decide +kernel) ⟨Nat.le_of_ble_eq_true rfl, Nat.le_of_ble_eq_true rfl⟩) hK hP hD hS hA hZ [] rfl (by decide) rfl hl.1 rfl (Nat.le_of_ble_eq_true rfl) dX7_bitsOf_23 ⟨Nat.le_of_ble_eq_true rfl, Nat.le_of_ble_eq_true rfl⟩) hP hD hS hA [] [0] rfl rfl (by decide) (by decide) (fun r u9 H locs hw hP hD hS => ?_)
      subst hw
      have hP : va_P D kCl [(mm, .inr (5, [.int (nI th), .int (nI dg), .int (nI PT), .int (nI PN), .int (nI n), .ref ma, .ref mb, .ref mc, .ref md, .ref me, .int (nI sz), .ref mf, .int (nI od), .int (nI sl), .int (nI t), .int (nI wr), .int (nI pl), .int (nI lo), .long (lN nm), .int vz, .ref mg, .ref mh]))] H := hP
      have hD : va_D A [(mm, .inr (5, [.int (nI th), .int (nI dg), .int (nI PT), .int (nI PN), .int (nI n), .ref ma, .ref mb, .ref mc, .ref md, .ref me, .int (nI sz), .ref mf, .int (nI od), .int (nI sl), .int (nI t), .int (nI wr), .int (nI pl), .int (nI lo), .long (lN nm), .int vz, .ref mg, .ref mh]))] := hD
      refine W.widen (k := 0) (n := 0) (Nat.le_of_ble_eq_true rfl) (Nat.le_of_ble_eq_true rfl) ?_
      refine lv_i2l (v := lN (uD dg)) hx hb dX7_bitsOf_26 (nI_l (by omega)) ?_
      refine lv_lstore (lv' := [(4, .long (lN (uD dg))), (2, .long (lN k)), (0, .ref mm), (1, .int (-nI k))]) hx hb dX7_bitsOf_27 hl (by decide) rfl (fun ls hl => ?_)
      refine lv_lconst (v := lN 0) hx hb dX7_bitsOf_29 (by decide) ?_
      refine lv_lstore (lv' := [(6, .long (lN 0)), (4, .long (lN (uD dg))), (2, .long (lN k)), (0, .ref mm), (1, .int (-nI k))]) hx hb dX7_bitsOf_30 hl (by decide) rfl (fun ls hl => ?_)
      rw [show lN (uD dg) = lN (uD dg * 2 ^ 0) from by rw [Nat.pow_zero, Nat.mul_one]] at hl
      have loop550 : ∀ (k551 : Nat) (j : Nat) (H : Heap) (locs : List Loc) (ls : Array Slot), 31 - j < k551 → (uD dg * 2 ^ j ≤ 1000000000) → va_P D kCl [(mm, .inr (5, [.int (nI th), .int (nI dg), .int (nI PT), .int (nI PN), .int (nI n), .ref ma, .ref mb, .ref mc, .ref md, .ref me, .int (nI sz), .ref mf, .int (nI od), .int (nI sl), .int (nI t), .int (nI wr), .int (nI pl), .int (nI lo), .long (lN nm), .int vz, .ref mg, .ref mh]))] H → va_D A [(mm, .inr (5, [.int (nI th), .int (nI dg), .int (nI PT), .int (nI PN), .int (nI n), .ref ma, .ref mb, .ref mc, .ref md, .ref me, .int (nI sz), .ref mf, .int (nI od), .int (nI sl), .int (nI t), .int (nI wr), .int (nI pl), .int (nI lo), .long (lN nm), .int vz, .ref mg, .ref mh]))] → va_S A s.heap H locs → lv_has ls 12 [(0, .ref mm), (1, .int (-nI k)), (2, .long (lN k)), (4, .long (lN (uD dg * 2 ^ j))), (6, .long (lN j))] → W p l e ({ frames := 1, cells := 0, slots := 0, locals := 20 }) s m ([.ref mm, .int (-nI k)] : List Value).toArray below meth c H locs 0 0 (MQ below ((kQl D (kT cI cB cJ cS) (fun r (ug : Unit) => r = lN (nBits k (uD dg) + 9223372036854775808)) (fun ug => [(mm, .inr (5, [.int (nI th), .int (nI dg), .int (nI PT), .int (nI PN), .int (nI n), .ref ma, .ref mb, .ref mc, .ref md, .ref me, .int (nI sz), .ref mf, .int (nI od), .int (nI sl), .int (nI t), .int (nI wr), .int (nI pl), .int (nI lo), .long (lN nm), .int vz, .ref mg, .ref mh]))])) A) ([.ref mm, .int (-nI k)] : List Value).toArray s ({ frames := 1, cells := 0, slots := 0, locals := 20 } : Room).cells ({ frames := 1, cells := 0, slots := 0, locals := 20 } : Room).slots A) (F0 m 32 ls []) := by
        intro k551
        induction k551 with
        | zero =>
          intro j H locs ls hk9
          exact absurd hk9 (Nat.not_lt_zero _)
        | succ k551 ihloop550 =>
          intro j H locs ls hk9 hbj hP hD hS hl
          refine lv_lload_n hx hb dX7_bitsOf_32 rfl (lv_at hl 2 rfl) ?_
          have hj30 := bo_j hu1 hbj
          refine lv_ldc2 (v := lN 2) hx hb hown (hts (.constantLong RX7 102 (2)) (List.mem_cons_of_mem _ wd_408)) dX7_bitsOf_33 ?_
          refine lv_lload hx hb dX7_bitsOf_36 (lv_at hl 3 rfl) ?_
          refine lv_lmul hx hb dX7_bitsOf_38 ?_
          refine k_l (show _ = lN (2 * (uD dg * 2 ^ j)) from lN_mul _ _) ?_
          refine W.lcmp hx hb dX7_bitsOf_39 ?_
          refine k_lcmpN_lt (tgt := 60) (by omega) (by omega) hx hb dX7_bitsOf_40 (by decide) (fun h40 => ?_) (fun h40 => ?_)
          · skip
            rw [show lN k = lN (k * 2 ^ 0) from by rw [Nat.pow_zero, Nat.mul_one], show lN j = lN j - lN 0 from bo_0 j] at hl
            have loop552 : ∀ (k553 : Nat) (i : Nat) (H : Heap) (locs : List Loc) (ls : Array Slot), 31 - i < k553 → (k * 2 ^ i < 2 * (uD dg * 2 ^ j)) → va_P D kCl [(mm, .inr (5, [.int (nI th), .int (nI dg), .int (nI PT), .int (nI PN), .int (nI n), .ref ma, .ref mb, .ref mc, .ref md, .ref me, .int (nI sz), .ref mf, .int (nI od), .int (nI sl), .int (nI t), .int (nI wr), .int (nI pl), .int (nI lo), .long (lN nm), .int vz, .ref mg, .ref mh]))] H → va_D A [(mm, .inr (5, [.int (nI th), .int (nI dg), .int (nI PT), .int (nI PN), .int (nI n), .ref ma, .ref mb, .ref mc, .ref md, .ref me, .int (nI sz), .ref mf, .int (nI od), .int (nI sl), .int (nI t), .int (nI wr), .int (nI pl), .int (nI lo), .long (lN nm), .int vz, .ref mg, .ref mh]))] → va_S A s.heap H locs → lv_has ls 12 [(0, .ref mm), (1, .int (-nI k)), (2, .long (lN (k * 2 ^ i))), (4, .long (lN (uD dg * 2 ^ j))), (6, .long (lN j - lN i))] → W p l e ({ frames := 1, cells := 0, slots := 0, locals := 20 }) s m ([.ref mm, .int (-nI k)] : List Value).toArray below meth c H locs 0 0 (MQ below ((kQl D (kT cI cB cJ cS) (fun r (ug : Unit) => r = lN (nBits k (uD dg) + 9223372036854775808)) (fun ug => [(mm, .inr (5, [.int (nI th), .int (nI dg), .int (nI PT), .int (nI PN), .int (nI n), .ref ma, .ref mb, .ref mc, .ref md, .ref me, .int (nI sz), .ref mf, .int (nI od), .int (nI sl), .int (nI t), .int (nI wr), .int (nI pl), .int (nI lo), .long (lN nm), .int vz, .ref mg, .ref mh]))])) A) ([.ref mm, .int (-nI k)] : List Value).toArray s ({ frames := 1, cells := 0, slots := 0, locals := 20 } : Room).cells ({ frames := 1, cells := 0, slots := 0, locals := 20 } : Room).slots A) (F0 m 60 ls []) := by
              intro k553
              induction k553 with
              | zero =>
                intro i H locs ls hk9
                exact absurd hk9 (Nat.not_lt_zero _)
              | succ k553 ihloop552 =>
                intro i H locs ls hk9 hi hP hD hS hl
                refine lv_lload_n hx hb dX7_bitsOf_60 rfl (lv_at hl 2 rfl) ?_
                have hi31 := bo_i hk1 hbj hi
                refine lv_lload hx hb dX7_bitsOf_61 (lv_at hl 3 rfl) ?_
                refine W.lcmp hx hb dX7_bitsOf_63 ?_
                refine k_lcmpN_ge (tgt := 82) (by omega) (by omega) hx hb dX7_bitsOf_64 (by decide) (fun h64 => ?_) (fun h64 => ?_)
                · skip
                  refine lv_lconst (v := lN 0) hx hb dX7_bitsOf_82 (by decide) ?_
                  refine lv_lstore (lv' := [(8, .long (lN 0)), (0, .ref mm), (1, .int (-nI k)), (2, .long (lN (k * 2 ^ i))), (4, .long (lN (uD dg * 2 ^ j))), (6, .long (lN j - lN i))]) hx hb dX7_bitsOf_83 hl (by decide) rfl (fun ls hl => ?_)
                  refine lv_iconst (v := nI 0) hx hb dX7_bitsOf_85 (by decide) ?_
                  refine lv_istore (lv' := [(10, .int (nI 0)), (8, .long (lN 0)), (0, .ref mm), (1, .int (-nI k)), (2, .long (lN (k * 2 ^ i))), (4, .long (lN (uD dg * 2 ^ j))), (6, .long (lN j - lN i))]) hx hb dX7_bitsOf_86 hl (by decide) rfl (fun ls hl => ?_)
                  have loop554 : ∀ (k555 : Nat) (tt : Nat) (q : Nat) (a : Nat) (H : Heap) (locs : List Loc) (ls : Array Slot), 53 - tt < k555 → (tt ≤ 53) → (k * 2 ^ i * 2 ^ tt = 2 * (q * (uD dg * 2 ^ j)) + a) → (a < 2 * (uD dg * 2 ^ j)) → va_P D kCl [(mm, .inr (5, [.int (nI th), .int (nI dg), .int (nI PT), .int (nI PN), .int (nI n), .ref ma, .ref mb, .ref mc, .ref md, .ref me, .int (nI sz), .ref mf, .int (nI od), .int (nI sl), .int (nI t), .int (nI wr), .int (nI pl), .int (nI lo), .long (lN nm), .int vz, .ref mg, .ref mh]))] H → va_D A [(mm, .inr (5, [.int (nI th), .int (nI dg), .int (nI PT), .int (nI PN), .int (nI n), .ref ma, .ref mb, .ref mc, .ref md, .ref me, .int (nI sz), .ref mf, .int (nI od), .int (nI sl), .int (nI t), .int (nI wr), .int (nI pl), .int (nI lo), .long (lN nm), .int vz, .ref mg, .ref mh]))] → va_S A s.heap H locs → lv_has ls 12 [(0, .ref mm), (1, .int (-nI k)), (2, .long (lN a)), (4, .long (lN (uD dg * 2 ^ j))), (6, .long (lN j - lN i)), (8, .long (lN q)), (10, .int (nI tt))] → W p l e ({ frames := 1, cells := 0, slots := 0, locals := 20 }) s m ([.ref mm, .int (-nI k)] : List Value).toArray below meth c H locs 0 0 (MQ below ((kQl D (kT cI cB cJ cS) (fun r (ug : Unit) => r = lN (nBits k (uD dg) + 9223372036854775808)) (fun ug => [(mm, .inr (5, [.int (nI th), .int (nI dg), .int (nI PT), .int (nI PN), .int (nI n), .ref ma, .ref mb, .ref mc, .ref md, .ref me, .int (nI sz), .ref mf, .int (nI od), .int (nI sl), .int (nI t), .int (nI wr), .int (nI pl), .int (nI lo), .long (lN nm), .int vz, .ref mg, .ref mh]))])) A) ([.ref mm, .int (-nI k)] : List Value).toArray s ({ frames := 1, cells := 0, slots := 0, locals := 20 } : Room).cells ({ frames := 1, cells := 0, slots := 0, locals := 20 } : Room).slots A) (F0 m 88 ls []) := by
                    intro k555
                    induction k555 with
                    | zero =>
                      intro tt q a H locs ls hk9
                      exact absurd hk9 (Nat.not_lt_zero _)
                    | succ k555 ihloop554 =>
                      intro tt q a H locs ls hk9 htt hA ha hP hD hS hl
                      refine lv_iload hx hb dX7_bitsOf_88 (lv_at hl 6 rfl) ?_
                      refine lv_bipush (v := nI 53) hx hb dX7_bitsOf_90 (by decide) ?_
                      refine k_icmp_ge (tgt := 142) (by omega) (by omega) hx hb dX7_bitsOf_92 (by decide) (fun h92 => ?_) (fun h92 => ?_)
                      · skip
                        rw [show tt = 53 by omega] at hA
                        obtain ⟨hq1, hq2⟩ := bo_q h64 hi hA ha
                        refine lv_lload_n hx hb dX7_bitsOf_142 rfl (lv_at hl 2 rfl) ?_
                        refine lv_lload hx hb dX7_bitsOf_143 (lv_at hl 3 rfl) ?_
                        refine W.lcmp hx hb dX7_bitsOf_145 ?_
                        refine k_lcmpN_gt (tgt := 167) (by omega) (by omega) hx hb dX7_bitsOf_146 (by decide) (fun h146 => ?_) (fun h146 => ?_)
                        · skip
                          refine lv_lload hx hb dX7_bitsOf_167 (lv_at hl 5 rfl) ?_
                          refine lv_lconst (v := lN 1) hx hb dX7_bitsOf_169 (by decide) ?_
                          refine lv_ladd hx hb dX7_bitsOf_170 ?_
                          refine k_l (show _ = lN (q + 1) from lN_add _ _) ?_
                          refine lv_lstore (lv' := [(8, .long (lN (q + 1))), (0, .ref mm), (1, .int (-nI k)), (2, .long (lN a)), (4, .long (lN (uD dg * 2 ^ j))), (6, .long (lN j - lN i)), (10, .int (nI tt))]) hx hb dX7_bitsOf_171 hl (by decide) rfl (fun ls hl => ?_)
                          refine lv_lload hx hb dX7_bitsOf_173 (lv_at hl 0 rfl) ?_
                          refine lv_ldc2 (v := lN 9007199254740992) hx hb hown (hts (.constantLong RX7 171 (9007199254740992)) (List.mem_cons_of_mem _ wd_475)) dX7_bitsOf_175 ?_
                          refine W.lcmp hx hb dX7_bitsOf_178 ?_
                          refine k_lcmpN_ne (tgt := 193) (by omega) (by omega) hx hb dX7_bitsOf_179 (by decide) (fun h179 => ?_) (fun h179 => ?_)
                          · skip
                            refine lv_lload hx hb dX7_bitsOf_193 (lv_at hl 5 rfl) ?_
                            refine lv_ldc2 (v := lN 1023) hx hb hown (hts (.constantLong RX7 173 (1023)) (List.mem_cons_of_mem _ wd_476)) dX7_bitsOf_195 ?_
                            refine lv_ladd hx hb dX7_bitsOf_198 ?_
                            refine k_l (show _ = lN (1023 + j - i) from bo_e hi31 hj30) ?_
                            refine lv_bipush (v := nI 52) hx hb dX7_bitsOf_199 (by decide) ?_
                            refine lv_lshl (v := lN ((1023 + j - i) * 4503599627370496)) hx hb dX7_bitsOf_201 (bo_sh _) ?_
                            refine lv_lload hx hb dX7_bitsOf_202 (lv_at hl 0 rfl) ?_
                            refine lv_ldc2 (v := lN 4503599627370496) hx hb hown (hts (.constantLong RX7 91 (4503599627370496)) (List.mem_cons_of_mem _ wd_401)) dX7_bitsOf_204 ?_
                            refine lv_lsub hx hb dX7_bitsOf_207 ?_
                            refine k_l (show _ = lN ((q + 1) - 4503599627370496) from lN_sub (by omega)) ?_
                            refine lv_lor hx hb dX7_bitsOf_208 ?_
                            refine k_l (show _ = lN ((1023 + j - i) * 4503599627370496 + ((q + 1) - 4503599627370496)) from g_or (k := 52) (p := 4503599627370496) rfl (by omega) (by omega)) ?_
                            refine lv_lstore (lv' := [(10, .long (lN ((1023 + j - i) * 4503599627370496 + ((q + 1) - 4503599627370496)))), (8, .long (lN (q + 1))), (0, .ref mm), (1, .int (-nI k)), (2, .long (lN a)), (4, .long (lN (uD dg * 2 ^ j))), (6, .long (lN j - lN i))]) hx hb dX7_bitsOf_209 hl (by decide) rfl (fun ls hl => ?_)
                            refine lv_iload_n hx hb dX7_bitsOf_211 rfl (lv_at hl 3 rfl) ?_
                            refine lv_if_ge (tgt := 224) hx hb dX7_bitsOf_212 (by decide) (fun c556 => ?_) (fun c556 => ?_)
                            · skip
                              exact absurd c556 (nb_nge hk1 (by omega))
                            · skip
                              refine lv_lload hx hb dX7_bitsOf_215 (lv_at hl 0 rfl) ?_
                              refine lv_ldc2 (v := (-9223372036854775808)) hx hb hown (hts (.constantLong RX7 175 (-9223372036854775808)) (List.mem_cons_of_mem _ wd_477)) dX7_bitsOf_217 ?_
                              refine lv_lor hx hb dX7_bitsOf_220 ?_
                              refine k_l (show _ = lN (((1023 + j - i) * 4503599627370496 + ((q + 1) - 4503599627370496)) + 9223372036854775808) from nb_sgn (by omega)) ?_
                              refine lv_goto (tgt := 226) hx hb dX7_bitsOf_221 (by decide) ?_
                              have z9 := bo_eq (c := 1) hk1 hu1 hu2 hj30 h64 hi hA ha (by rw [if_pos (by omega)])
                              have z7 : (1023 + j - i) * 4503599627370496 + ((q + 1) - 4503599627370496) = nBits k (uD dg) := z9
                              refine k_l (congrArg (fun x => lN (x + 9223372036854775808)) z7) ?_
                              exact k_lret () hx hb hr hlocks hK hP hD hS (rfl) (rfl) (Nat.le_of_ble_eq_true rfl) (Nat.le_of_ble_eq_true rfl) dX7_bitsOf_226
                          · skip
                            refine lv_ldc2 (v := lN 4503599627370496) hx hb hown (hts (.constantLong RX7 91 (4503599627370496)) (List.mem_cons_of_mem _ wd_401)) dX7_bitsOf_182 ?_
                            refine lv_lstore (lv' := [(8, .long (lN 4503599627370496)), (0, .ref mm), (1, .int (-nI k)), (2, .long (lN a)), (4, .long (lN (uD dg * 2 ^ j))), (6, .long (lN j - lN i)), (10, .int (nI tt))]) hx hb dX7_bitsOf_185 hl (by decide) rfl (fun ls hl => ?_)
                            refine lv_lload hx hb dX7_bitsOf_187 (lv_at hl 5 rfl) ?_
                            refine lv_lconst (v := lN 1) hx hb dX7_bitsOf_189 (by decide) ?_
                            refine lv_ladd hx hb dX7_bitsOf_190 ?_
                            refine lv_lstore (lv' := [(6, .long ((lN j - lN i) + (lN 1))), (8, .long (lN 4503599627370496)), (0, .ref mm), (1, .int (-nI k)), (2, .long (lN a)), (4, .long (lN (uD dg * 2 ^ j))), (10, .int (nI tt))]) hx hb dX7_bitsOf_191 hl (by decide) rfl (fun ls hl => ?_)
                            refine lv_lload hx hb dX7_bitsOf_193 (lv_at hl 0 rfl) ?_
                            refine lv_ldc2 (v := lN 1023) hx hb hown (hts (.constantLong RX7 173 (1023)) (List.mem_cons_of_mem _ wd_476)) dX7_bitsOf_195 ?_
                            refine lv_ladd hx hb dX7_bitsOf_198 ?_
                            refine k_l (show _ = lN (1023 + j - i + 1) from bo_e1 hi31 hj30) ?_
                            refine lv_bipush (v := nI 52) hx hb dX7_bitsOf_199 (by decide) ?_
                            refine lv_lshl (v := lN ((1023 + j - i + 1) * 4503599627370496)) hx hb dX7_bitsOf_201 (bo_sh _) ?_
                            refine lv_lload hx hb dX7_bitsOf_202 (lv_at hl 1 rfl) ?_
                            refine lv_ldc2 (v := lN 4503599627370496) hx hb hown (hts (.constantLong RX7 91 (4503599627370496)) (List.mem_cons_of_mem _ wd_401)) dX7_bitsOf_204 ?_
                            refine lv_lsub hx hb dX7_bitsOf_207 ?_
                            refine k_l (show _ = lN (4503599627370496 - 4503599627370496) from lN_sub (by omega)) ?_
                            refine lv_lor hx hb dX7_bitsOf_208 ?_
                            refine k_l (show _ = lN ((1023 + j - i + 1) * 4503599627370496 + (4503599627370496 - 4503599627370496)) from g_or (k := 52) (p := 4503599627370496) rfl (by omega) (by omega)) ?_
                            refine lv_lstore (lv' := [(10, .long (lN ((1023 + j - i + 1) * 4503599627370496 + (4503599627370496 - 4503599627370496)))), (6, .long ((lN j - lN i) + (lN 1))), (8, .long (lN 4503599627370496)), (0, .ref mm), (1, .int (-nI k)), (2, .long (lN a)), (4, .long (lN (uD dg * 2 ^ j)))]) hx hb dX7_bitsOf_209 hl (by decide) rfl (fun ls hl => ?_)
                            refine lv_iload_n hx hb dX7_bitsOf_211 rfl (lv_at hl 4 rfl) ?_
                            refine lv_if_ge (tgt := 224) hx hb dX7_bitsOf_212 (by decide) (fun c557 => ?_) (fun c557 => ?_)
                            · skip
                              exact absurd c557 (nb_nge hk1 (by omega))
                            · skip
                              refine lv_lload hx hb dX7_bitsOf_215 (lv_at hl 0 rfl) ?_
                              refine lv_ldc2 (v := (-9223372036854775808)) hx hb hown (hts (.constantLong RX7 175 (-9223372036854775808)) (List.mem_cons_of_mem _ wd_477)) dX7_bitsOf_217 ?_
                              refine lv_lor hx hb dX7_bitsOf_220 ?_
                              refine k_l (show _ = lN (((1023 + j - i + 1) * 4503599627370496 + (4503599627370496 - 4503599627370496)) + 9223372036854775808) from nb_sgn (by omega)) ?_
                              refine lv_goto (tgt := 226) hx hb dX7_bitsOf_221 (by decide) ?_
                              have z9 := bo_eq (c := 1) hk1 hu1 hu2 hj30 h64 hi hA ha (by rw [if_pos (by omega)])
                              have z7 : (1023 + j - i + 1) * 4503599627370496 + (4503599627370496 - 4503599627370496) = nBits k (uD dg) := bo_c z9 h179
                              refine k_l (congrArg (fun x => lN (x + 9223372036854775808)) z7) ?_
                              exact k_lret () hx hb hr hlocks hK hP hD hS (rfl) (rfl) (Nat.le_of_ble_eq_true rfl) (Nat.le_of_ble_eq_true rfl) dX7_bitsOf_226
                        · skip
                          refine lv_lload_n hx hb dX7_bitsOf_149 rfl (lv_at hl 2 rfl) ?_
                          refine lv_lload hx hb dX7_bitsOf_150 (lv_at hl 3 rfl) ?_
                          refine W.lcmp hx hb dX7_bitsOf_152 ?_
                          refine k_lcmpN_ne (tgt := 173) (by omega) (by omega) hx hb dX7_bitsOf_153 (by decide) (fun h153 => ?_) (fun h153 => ?_)
                          · skip
                            refine lv_lload hx hb dX7_bitsOf_173 (lv_at hl 5 rfl) ?_
                            refine lv_ldc2 (v := lN 9007199254740992) hx hb hown (hts (.constantLong RX7 171 (9007199254740992)) (List.mem_cons_of_mem _ wd_475)) dX7_bitsOf_175 ?_
                            refine W.lcmp hx hb dX7_bitsOf_178 ?_
                            refine k_lcmpN_ne (tgt := 193) (by omega) (by omega) hx hb dX7_bitsOf_179 (by decide) (fun h179 => ?_) (fun h179 => ?_)
                            · skip
                              refine lv_lload hx hb dX7_bitsOf_193 (lv_at hl 4 rfl) ?_
                              refine lv_ldc2 (v := lN 1023) hx hb hown (hts (.constantLong RX7 173 (1023)) (List.mem_cons_of_mem _ wd_476)) dX7_bitsOf_195 ?_
                              refine lv_ladd hx hb dX7_bitsOf_198 ?_
                              refine k_l (show _ = lN (1023 + j - i) from bo_e hi31 hj30) ?_
                              refine lv_bipush (v := nI 52) hx hb dX7_bitsOf_199 (by decide) ?_
                              refine lv_lshl (v := lN ((1023 + j - i) * 4503599627370496)) hx hb dX7_bitsOf_201 (bo_sh _) ?_
                              refine lv_lload hx hb dX7_bitsOf_202 (lv_at hl 5 rfl) ?_
                              refine lv_ldc2 (v := lN 4503599627370496) hx hb hown (hts (.constantLong RX7 91 (4503599627370496)) (List.mem_cons_of_mem _ wd_401)) dX7_bitsOf_204 ?_
                              refine lv_lsub hx hb dX7_bitsOf_207 ?_
                              refine k_l (show _ = lN (q - 4503599627370496) from lN_sub (by omega)) ?_
                              refine lv_lor hx hb dX7_bitsOf_208 ?_
                              refine k_l (show _ = lN ((1023 + j - i) * 4503599627370496 + (q - 4503599627370496)) from g_or (k := 52) (p := 4503599627370496) rfl (by omega) (by omega)) ?_
                              refine lv_lstore (lv' := [(10, .long (lN ((1023 + j - i) * 4503599627370496 + (q - 4503599627370496)))), (0, .ref mm), (1, .int (-nI k)), (2, .long (lN a)), (4, .long (lN (uD dg * 2 ^ j))), (6, .long (lN j - lN i)), (8, .long (lN q))]) hx hb dX7_bitsOf_209 hl (by decide) rfl (fun ls hl => ?_)
                              refine lv_iload_n hx hb dX7_bitsOf_211 rfl (lv_at hl 2 rfl) ?_
                              refine lv_if_ge (tgt := 224) hx hb dX7_bitsOf_212 (by decide) (fun c558 => ?_) (fun c558 => ?_)
                              · skip
                                exact absurd c558 (nb_nge hk1 (by omega))
                              · skip
                                refine lv_lload hx hb dX7_bitsOf_215 (lv_at hl 0 rfl) ?_
                                refine lv_ldc2 (v := (-9223372036854775808)) hx hb hown (hts (.constantLong RX7 175 (-9223372036854775808)) (List.mem_cons_of_mem _ wd_477)) dX7_bitsOf_217 ?_
                                refine lv_lor hx hb dX7_bitsOf_220 ?_
                                refine k_l (show _ = lN (((1023 + j - i) * 4503599627370496 + (q - 4503599627370496)) + 9223372036854775808) from nb_sgn (by omega)) ?_
                                refine lv_goto (tgt := 226) hx hb dX7_bitsOf_221 (by decide) ?_
                                have z9 := bo_eq (c := 0) hk1 hu1 hu2 hj30 h64 hi hA ha (by rw [if_neg (by omega)])
                                have z7 : (1023 + j - i) * 4503599627370496 + (q - 4503599627370496) = nBits k (uD dg) := z9
                                refine k_l (congrArg (fun x => lN (x + 9223372036854775808)) z7) ?_
                                exact k_lret () hx hb hr hlocks hK hP hD hS (rfl) (rfl) (Nat.le_of_ble_eq_true rfl) (Nat.le_of_ble_eq_true rfl) dX7_bitsOf_226
                            · skip
                              exact absurd h179 (by omega)
                          · skip
                            refine lv_lload hx hb dX7_bitsOf_156 (lv_at hl 5 rfl) ?_
                            refine lv_ldc2 (v := lN 2) hx hb hown (hts (.constantLong RX7 102 (2)) (List.mem_cons_of_mem _ wd_408)) dX7_bitsOf_158 ?_
                            refine lv_lrem hx hb dX7_bitsOf_161 (by decide) ?_
                            refine k_l (show _ = lN (q % 2) from pk_lRem (by omega) (by decide) (by decide)) ?_
                            refine lv_lconst (v := lN 1) hx hb dX7_bitsOf_162 (by decide) ?_
                            refine W.lcmp hx hb dX7_bitsOf_163 ?_
                            refine k_lcmpN_ne (tgt := 173) (by omega) (by omega) hx hb dX7_bitsOf_164 (by decide) (fun h164 => ?_) (fun h164 => ?_)
                            · skip
                              refine lv_lload hx hb dX7_bitsOf_173 (lv_at hl 5 rfl) ?_
                              refine lv_ldc2 (v := lN 9007199254740992) hx hb hown (hts (.constantLong RX7 171 (9007199254740992)) (List.mem_cons_of_mem _ wd_475)) dX7_bitsOf_175 ?_
                              refine W.lcmp hx hb dX7_bitsOf_178 ?_
                              refine k_lcmpN_ne (tgt := 193) (by omega) (by omega) hx hb dX7_bitsOf_179 (by decide) (fun h179 => ?_) (fun h179 => ?_)
                              · skip
                                refine lv_lload hx hb dX7_bitsOf_193 (lv_at hl 4 rfl) ?_
                                refine lv_ldc2 (v := lN 1023) hx hb hown (hts (.constantLong RX7 173 (1023)) (List.mem_cons_of_mem _ wd_476)) dX7_bitsOf_195 ?_
                                refine lv_ladd hx hb dX7_bitsOf_198 ?_
                                refine k_l (show _ = lN (1023 + j - i) from bo_e hi31 hj30) ?_
                                refine lv_bipush (v := nI 52) hx hb dX7_bitsOf_199 (by decide) ?_
                                refine lv_lshl (v := lN ((1023 + j - i) * 4503599627370496)) hx hb dX7_bitsOf_201 (bo_sh _) ?_
                                refine lv_lload hx hb dX7_bitsOf_202 (lv_at hl 5 rfl) ?_
                                refine lv_ldc2 (v := lN 4503599627370496) hx hb hown (hts (.constantLong RX7 91 (4503599627370496)) (List.mem_cons_of_mem _ wd_401)) dX7_bitsOf_204 ?_
                                refine lv_lsub hx hb dX7_bitsOf_207 ?_
                                refine k_l (show _ = lN (q - 4503599627370496) from lN_sub (by omega)) ?_
                                refine lv_lor hx hb dX7_bitsOf_208 ?_
                                refine k_l (show _ = lN ((1023 + j - i) * 4503599627370496 + (q - 4503599627370496)) from g_or (k := 52) (p := 4503599627370496) rfl (by omega) (by omega)) ?_
                                refine lv_lstore (lv' := [(10, .long (lN ((1023 + j - i) * 4503599627370496 + (q - 4503599627370496)))), (0, .ref mm), (1, .int (-nI k)), (2, .long (lN a)), (4, .long (lN (uD dg * 2 ^ j))), (6, .long (lN j - lN i)), (8, .long (lN q))]) hx hb dX7_bitsOf_209 hl (by decide) rfl (fun ls hl => ?_)
                                refine lv_iload_n hx hb dX7_bitsOf_211 rfl (lv_at hl 2 rfl) ?_
                                refine lv_if_ge (tgt := 224) hx hb dX7_bitsOf_212 (by decide) (fun c559 => ?_) (fun c559 => ?_)
                                · skip
                                  exact absurd c559 (nb_nge hk1 (by omega))
                                · skip
                                  refine lv_lload hx hb dX7_bitsOf_215 (lv_at hl 0 rfl) ?_
                                  refine lv_ldc2 (v := (-9223372036854775808)) hx hb hown (hts (.constantLong RX7 175 (-9223372036854775808)) (List.mem_cons_of_mem _ wd_477)) dX7_bitsOf_217 ?_
                                  refine lv_lor hx hb dX7_bitsOf_220 ?_
                                  refine k_l (show _ = lN (((1023 + j - i) * 4503599627370496 + (q - 4503599627370496)) + 9223372036854775808) from nb_sgn (by omega)) ?_
                                  refine lv_goto (tgt := 226) hx hb dX7_bitsOf_221 (by decide) ?_
                                  have z9 := bo_eq (c := 0) hk1 hu1 hu2 hj30 h64 hi hA ha (by rw [if_neg (by omega)])
                                  have z7 : (1023 + j - i) * 4503599627370496 + (q - 4503599627370496) = nBits k (uD dg) := z9
                                  refine k_l (congrArg (fun x => lN (x + 9223372036854775808)) z7) ?_
                                  exact k_lret () hx hb hr hlocks hK hP hD hS (rfl) (rfl) (Nat.le_of_ble_eq_true rfl) (Nat.le_of_ble_eq_true rfl) dX7_bitsOf_226
                              · skip
                                exact absurd h179 (by omega)
                            · skip
                              refine lv_lload hx hb dX7_bitsOf_167 (lv_at hl 5 rfl) ?_
                              refine lv_lconst (v := lN 1) hx hb dX7_bitsOf_169 (by decide) ?_
                              refine lv_ladd hx hb dX7_bitsOf_170 ?_
                              refine k_l (show _ = lN (q + 1) from lN_add _ _) ?_
                              refine lv_lstore (lv' := [(8, .long (lN (q + 1))), (0, .ref mm), (1, .int (-nI k)), (2, .long (lN a)), (4, .long (lN (uD dg * 2 ^ j))), (6, .long (lN j - lN i)), (10, .int (nI tt))]) hx hb dX7_bitsOf_171 hl (by decide) rfl (fun ls hl => ?_)
                              refine lv_lload hx hb dX7_bitsOf_173 (lv_at hl 0 rfl) ?_
                              refine lv_ldc2 (v := lN 9007199254740992) hx hb hown (hts (.constantLong RX7 171 (9007199254740992)) (List.mem_cons_of_mem _ wd_475)) dX7_bitsOf_175 ?_
                              refine W.lcmp hx hb dX7_bitsOf_178 ?_
                              refine k_lcmpN_ne (tgt := 193) (by omega) (by omega) hx hb dX7_bitsOf_179 (by decide) (fun h179 => ?_) (fun h179 => ?_)
                              · skip
                                refine lv_lload hx hb dX7_bitsOf_193 (lv_at hl 5 rfl) ?_
                                refine lv_ldc2 (v := lN 1023) hx hb hown (hts (.constantLong RX7 173 (1023)) (List.mem_cons_of_mem _ wd_476)) dX7_bitsOf_195 ?_
                                refine lv_ladd hx hb dX7_bitsOf_198 ?_
                                refine k_l (show _ = lN (1023 + j - i) from bo_e hi31 hj30) ?_
                                refine lv_bipush (v := nI 52) hx hb dX7_bitsOf_199 (by decide) ?_
                                refine lv_lshl (v := lN ((1023 + j - i) * 4503599627370496)) hx hb dX7_bitsOf_201 (bo_sh _) ?_
                                refine lv_lload hx hb dX7_bitsOf_202 (lv_at hl 0 rfl) ?_
                                refine lv_ldc2 (v := lN 4503599627370496) hx hb hown (hts (.constantLong RX7 91 (4503599627370496)) (List.mem_cons_of_mem _ wd_401)) dX7_bitsOf_204 ?_
                                refine lv_lsub hx hb dX7_bitsOf_207 ?_
                                refine k_l (show _ = lN ((q + 1) - 4503599627370496) from lN_sub (by omega)) ?_
                                refine lv_lor hx hb dX7_bitsOf_208 ?_
                                refine k_l (show _ = lN ((1023 + j - i) * 4503599627370496 + ((q + 1) - 4503599627370496)) from g_or (k := 52) (p := 4503599627370496) rfl (by omega) (by omega)) ?_
                                refine lv_lstore (lv' := [(10, .long (lN ((1023 + j - i) * 4503599627370496 + ((q + 1) - 4503599627370496)))), (8, .long (lN (q + 1))), (0, .ref mm), (1, .int (-nI k)), (2, .long (lN a)), (4, .long (lN (uD dg * 2 ^ j))), (6, .long (lN j - lN i))]) hx hb dX7_bitsOf_209 hl (by decide) rfl (fun ls hl => ?_)
                                refine lv_iload_n hx hb dX7_bitsOf_211 rfl (lv_at hl 3 rfl) ?_
                                refine lv_if_ge (tgt := 224) hx hb dX7_bitsOf_212 (by decide) (fun c560 => ?_) (fun c560 => ?_)
                                · skip
                                  exact absurd c560 (nb_nge hk1 (by omega))
                                · skip
                                  refine lv_lload hx hb dX7_bitsOf_215 (lv_at hl 0 rfl) ?_
                                  refine lv_ldc2 (v := (-9223372036854775808)) hx hb hown (hts (.constantLong RX7 175 (-9223372036854775808)) (List.mem_cons_of_mem _ wd_477)) dX7_bitsOf_217 ?_
                                  refine lv_lor hx hb dX7_bitsOf_220 ?_
                                  refine k_l (show _ = lN (((1023 + j - i) * 4503599627370496 + ((q + 1) - 4503599627370496)) + 9223372036854775808) from nb_sgn (by omega)) ?_
                                  refine lv_goto (tgt := 226) hx hb dX7_bitsOf_221 (by decide) ?_
                                  have z9 := bo_eq (c := 1) hk1 hu1 hu2 hj30 h64 hi hA ha (by rw [if_pos (by omega)])
                                  have z7 : (1023 + j - i) * 4503599627370496 + ((q + 1) - 4503599627370496) = nBits k (uD dg) := z9
                                  refine k_l (congrArg (fun x => lN (x + 9223372036854775808)) z7) ?_
                                  exact k_lret () hx hb hr hlocks hK hP hD hS (rfl) (rfl) (Nat.le_of_ble_eq_true rfl) (Nat.le_of_ble_eq_true rfl) dX7_bitsOf_226
                              · skip
                                refine lv_ldc2 (v := lN 4503599627370496) hx hb hown (hts (.constantLong RX7 91 (4503599627370496)) (List.mem_cons_of_mem _ wd_401)) dX7_bitsOf_182 ?_
                                refine lv_lstore (lv' := [(8, .long (lN 4503599627370496)), (0, .ref mm), (1, .int (-nI k)), (2, .long (lN a)), (4, .long (lN (uD dg * 2 ^ j))), (6, .long (lN j - lN i)), (10, .int (nI tt))]) hx hb dX7_bitsOf_185 hl (by decide) rfl (fun ls hl => ?_)
                                refine lv_lload hx hb dX7_bitsOf_187 (lv_at hl 5 rfl) ?_
                                refine lv_lconst (v := lN 1) hx hb dX7_bitsOf_189 (by decide) ?_
                                refine lv_ladd hx hb dX7_bitsOf_190 ?_
                                refine lv_lstore (lv' := [(6, .long ((lN j - lN i) + (lN 1))), (8, .long (lN 4503599627370496)), (0, .ref mm), (1, .int (-nI k)), (2, .long (lN a)), (4, .long (lN (uD dg * 2 ^ j))), (10, .int (nI tt))]) hx hb dX7_bitsOf_191 hl (by decide) rfl (fun ls hl => ?_)
                                refine lv_lload hx hb dX7_bitsOf_193 (lv_at hl 0 rfl) ?_
                                refine lv_ldc2 (v := lN 1023) hx hb hown (hts (.constantLong RX7 173 (1023)) (List.mem_cons_of_mem _ wd_476)) dX7_bitsOf_195 ?_
                                refine lv_ladd hx hb dX7_bitsOf_198 ?_
                                refine k_l (show _ = lN (1023 + j - i + 1) from bo_e1 hi31 hj30) ?_
                                refine lv_bipush (v := nI 52) hx hb dX7_bitsOf_199 (by decide) ?_
                                refine lv_lshl (v := lN ((1023 + j - i + 1) * 4503599627370496)) hx hb dX7_bitsOf_201 (bo_sh _) ?_
                                refine lv_lload hx hb dX7_bitsOf_202 (lv_at hl 1 rfl) ?_
                                refine lv_ldc2 (v := lN 4503599627370496) hx hb hown (hts (.constantLong RX7 91 (4503599627370496)) (List.mem_cons_of_mem _ wd_401)) dX7_bitsOf_204 ?_
                                refine lv_lsub hx hb dX7_bitsOf_207 ?_
                                refine k_l (show _ = lN (4503599627370496 - 4503599627370496) from lN_sub (by omega)) ?_
                                refine lv_lor hx hb dX7_bitsOf_208 ?_
                                refine k_l (show _ = lN ((1023 + j - i + 1) * 4503599627370496 + (4503599627370496 - 4503599627370496)) from g_or (k := 52) (p := 4503599627370496) rfl (by omega) (by omega)) ?_
                                refine lv_lstore (lv' := [(10, .long (lN ((1023 + j - i + 1) * 4503599627370496 + (4503599627370496 - 4503599627370496)))), (6, .long ((lN j - lN i) + (lN 1))), (8, .long (lN 4503599627370496)), (0, .ref mm), (1, .int (-nI k)), (2, .long (lN a)), (4, .long (lN (uD dg * 2 ^ j)))]) hx hb dX7_bitsOf_209 hl (by decide) rfl (fun ls hl => ?_)
                                refine lv_iload_n hx hb dX7_bitsOf_211 rfl (lv_at hl 4 rfl) ?_
                                refine lv_if_ge (tgt := 224) hx hb dX7_bitsOf_212 (by decide) (fun c561 => ?_) (fun c561 => ?_)
                                · skip
                                  exact absurd c561 (nb_nge hk1 (by omega))
                                · skip
                                  refine lv_lload hx hb dX7_bitsOf_215 (lv_at hl 0 rfl) ?_
                                  refine lv_ldc2 (v := (-9223372036854775808)) hx hb hown (hts (.constantLong RX7 175 (-9223372036854775808)) (List.mem_cons_of_mem _ wd_477)) dX7_bitsOf_217 ?_
                                  refine lv_lor hx hb dX7_bitsOf_220 ?_
                                  refine k_l (show _ = lN (((1023 + j - i + 1) * 4503599627370496 + (4503599627370496 - 4503599627370496)) + 9223372036854775808) from nb_sgn (by omega)) ?_
                                  refine lv_goto (tgt := 226) hx hb dX7_bitsOf_221 (by decide) ?_
                                  have z9 := bo_eq (c := 1) hk1 hu1 hu2 hj30 h64 hi hA ha (by rw [if_pos (by omega)])
                                  have z7 : (1023 + j - i + 1) * 4503599627370496 + (4503599627370496 - 4503599627370496) = nBits k (uD dg) := bo_c z9 h179
                                  refine k_l (congrArg (fun x => lN (x + 9223372036854775808)) z7) ?_
                                  exact k_lret () hx hb hr hlocks hK hP hD hS (rfl) (rfl) (Nat.le_of_ble_eq_true rfl) (Nat.le_of_ble_eq_true rfl) dX7_bitsOf_226
                      · skip
                        refine lv_ldc2 (v := lN 2) hx hb hown (hts (.constantLong RX7 102 (2)) (List.mem_cons_of_mem _ wd_408)) dX7_bitsOf_95 ?_
                        refine lv_lload hx hb dX7_bitsOf_98 (lv_at hl 5 rfl) ?_
                        refine lv_lmul hx hb dX7_bitsOf_100 ?_
                        refine k_l (show _ = lN (2 * q) from lN_mul _ _) ?_
                        refine lv_lload_n hx hb dX7_bitsOf_101 rfl (lv_at hl 2 rfl) ?_
                        refine lv_lload hx hb dX7_bitsOf_102 (lv_at hl 3 rfl) ?_
                        refine W.lcmp hx hb dX7_bitsOf_104 ?_
                        refine k_lcmpN_lt (tgt := 112) (by omega) (by omega) hx hb dX7_bitsOf_105 (by decide) (fun h105 => ?_) (fun h105 => ?_)
                        · skip
                          refine lv_lconst (v := lN 0) hx hb dX7_bitsOf_112 (by decide) ?_
                          refine lv_ladd hx hb dX7_bitsOf_113 ?_
                          refine k_l (show _ = lN ((2 * q) + 0) from lN_add _ _) ?_
                          refine lv_lstore (lv' := [(8, .long (lN ((2 * q) + 0))), (0, .ref mm), (1, .int (-nI k)), (2, .long (lN a)), (4, .long (lN (uD dg * 2 ^ j))), (6, .long (lN j - lN i)), (10, .int (nI tt))]) hx hb dX7_bitsOf_114 hl (by decide) rfl (fun ls hl => ?_)
                          refine lv_ldc2 (v := lN 2) hx hb hown (hts (.constantLong RX7 102 (2)) (List.mem_cons_of_mem _ wd_408)) dX7_bitsOf_116 ?_
                          refine lv_lload_n hx hb dX7_bitsOf_119 rfl (lv_at hl 3 rfl) ?_
                          refine lv_lload hx hb dX7_bitsOf_120 (lv_at hl 4 rfl) ?_
                          refine W.lcmp hx hb dX7_bitsOf_122 ?_
                          refine k_lcmpN_lt (tgt := 133) (by omega) (by omega) hx hb dX7_bitsOf_123 (by decide) (fun h123 => ?_) (fun h123 => ?_)
                          · skip
                            refine lv_lload_n hx hb dX7_bitsOf_133 rfl (lv_at hl 3 rfl) ?_
                            refine lv_lmul hx hb dX7_bitsOf_134 ?_
                            refine k_l (show _ = lN (2 * a) from lN_mul _ _) ?_
                            refine lv_lstore_n (lv' := [(2, .long (lN (2 * a))), (8, .long (lN ((2 * q) + 0))), (0, .ref mm), (1, .int (-nI k)), (4, .long (lN (uD dg * 2 ^ j))), (6, .long (lN j - lN i)), (10, .int (nI tt))]) hx hb dX7_bitsOf_135 rfl hl (by decide) rfl (fun ls hl => ?_)
                            refine lv_iinc (v := nI (tt + 1)) (lv' := [(10, .int (nI (tt + 1))), (2, .long (lN (2 * a))), (8, .long (lN ((2 * q) + 0))), (0, .ref mm), (1, .int (-nI k)), (4, .long (lN (uD dg * 2 ^ j))), (6, .long (lN j - lN i))]) hx hb dX7_bitsOf_136 hl (k := 6) rfl (nI_add _ _) (by decide) rfl (fun ls hl => ?_)
                            refine lv_goto (tgt := 88) hx hb dX7_bitsOf_139 (by decide) ?_
                            exact ihloop554 (tt + 1) ((2 * q) + 0) (2 * a) _ _ _ (by omega) (by omega) (bo_s0 hA) (by omega) (hP.sub [0] rfl) (hD.sub [0] (by decide) rfl) hS (lv_sub hl [3, 4, 1, 5, 6, 2, 0] rfl)
                          · skip
                            exact absurd h123 (by omega)
                        · skip
                          refine lv_lconst (v := lN 1) hx hb dX7_bitsOf_108 (by decide) ?_
                          refine lv_goto (tgt := 113) hx hb dX7_bitsOf_109 (by decide) ?_
                          refine lv_ladd hx hb dX7_bitsOf_113 ?_
                          refine k_l (show _ = lN ((2 * q) + 1) from lN_add _ _) ?_
                          refine lv_lstore (lv' := [(8, .long (lN ((2 * q) + 1))), (0, .ref mm), (1, .int (-nI k)), (2, .long (lN a)), (4, .long (lN (uD dg * 2 ^ j))), (6, .long (lN j - lN i)), (10, .int (nI tt))]) hx hb dX7_bitsOf_114 hl (by decide) rfl (fun ls hl => ?_)
                          refine lv_ldc2 (v := lN 2) hx hb hown (hts (.constantLong RX7 102 (2)) (List.mem_cons_of_mem _ wd_408)) dX7_bitsOf_116 ?_
                          refine lv_lload_n hx hb dX7_bitsOf_119 rfl (lv_at hl 3 rfl) ?_
                          refine lv_lload hx hb dX7_bitsOf_120 (lv_at hl 4 rfl) ?_
                          refine W.lcmp hx hb dX7_bitsOf_122 ?_
                          refine k_lcmpN_lt (tgt := 133) (by omega) (by omega) hx hb dX7_bitsOf_123 (by decide) (fun h123 => ?_) (fun h123 => ?_)
                          · skip
                            exact absurd h123 (by omega)
                          · skip
                            refine lv_lload_n hx hb dX7_bitsOf_126 rfl (lv_at hl 3 rfl) ?_
                            refine lv_lload hx hb dX7_bitsOf_127 (lv_at hl 4 rfl) ?_
                            refine lv_lsub hx hb dX7_bitsOf_129 ?_
                            refine k_l (show _ = lN (a - (uD dg * 2 ^ j)) from lN_sub (by omega)) ?_
                            refine lv_goto (tgt := 134) hx hb dX7_bitsOf_130 (by decide) ?_
                            refine lv_lmul hx hb dX7_bitsOf_134 ?_
                            refine k_l (show _ = lN (2 * (a - (uD dg * 2 ^ j))) from lN_mul _ _) ?_
                            refine lv_lstore_n (lv' := [(2, .long (lN (2 * (a - (uD dg * 2 ^ j))))), (8, .long (lN ((2 * q) + 1))), (0, .ref mm), (1, .int (-nI k)), (4, .long (lN (uD dg * 2 ^ j))), (6, .long (lN j - lN i)), (10, .int (nI tt))]) hx hb dX7_bitsOf_135 rfl hl (by decide) rfl (fun ls hl => ?_)
                            refine lv_iinc (v := nI (tt + 1)) (lv' := [(10, .int (nI (tt + 1))), (2, .long (lN (2 * (a - (uD dg * 2 ^ j))))), (8, .long (lN ((2 * q) + 1))), (0, .ref mm), (1, .int (-nI k)), (4, .long (lN (uD dg * 2 ^ j))), (6, .long (lN j - lN i))]) hx hb dX7_bitsOf_136 hl (k := 6) rfl (nI_add _ _) (by decide) rfl (fun ls hl => ?_)
                            refine lv_goto (tgt := 88) hx hb dX7_bitsOf_139 (by decide) ?_
                            exact ihloop554 (tt + 1) ((2 * q) + 1) (2 * (a - (uD dg * 2 ^ j))) _ _ _ (by omega) (by omega) (bo_s1 hA (by omega)) (by omega) (hP.sub [0] rfl) (hD.sub [0] (by decide) rfl) hS (lv_sub hl [3, 4, 1, 5, 6, 2, 0] rfl)
                  exact loop554 ((53 - 0) + 1) 0 0 (k * 2 ^ i) _ _ _ (Nat.lt_succ_self _) (Nat.zero_le _) (by rw [Nat.pow_zero, Nat.zero_mul]; omega) (hi) (hP.sub [0] rfl) (hD.sub [0] (by decide) rfl) hS (lv_sub hl [2, 3, 4, 5, 6, 1, 0] rfl)
                · skip
                  refine lv_ldc2 (v := lN 2) hx hb hown (hts (.constantLong RX7 102 (2)) (List.mem_cons_of_mem _ wd_408)) dX7_bitsOf_67 ?_
                  refine lv_lload_n hx hb dX7_bitsOf_70 rfl (lv_at hl 2 rfl) ?_
                  refine lv_lmul hx hb dX7_bitsOf_71 ?_
                  refine k_l (show _ = lN (2 * (k * 2 ^ i)) from lN_mul _ _) ?_
                  refine k_l (show _ = lN (k * 2 ^ (i + 1)) from congrArg lN (bo_d _ _)) ?_
                  refine lv_lstore_n (lv' := [(2, .long (lN (k * 2 ^ (i + 1)))), (0, .ref mm), (1, .int (-nI k)), (4, .long (lN (uD dg * 2 ^ j))), (6, .long (lN j - lN i))]) hx hb dX7_bitsOf_72 rfl hl (by decide) rfl (fun ls hl => ?_)
                  refine lv_lload hx hb dX7_bitsOf_73 (lv_at hl 4 rfl) ?_
                  refine lv_lconst (v := lN 1) hx hb dX7_bitsOf_75 (by decide) ?_
                  refine lv_lsub hx hb dX7_bitsOf_76 ?_
                  refine k_l (show _ = lN j - lN (i + 1) from bo_m hi31 hj30) ?_
                  refine lv_lstore (lv' := [(6, .long (lN j - lN (i + 1))), (2, .long (lN (k * 2 ^ (i + 1)))), (0, .ref mm), (1, .int (-nI k)), (4, .long (lN (uD dg * 2 ^ j)))]) hx hb dX7_bitsOf_77 hl (by decide) rfl (fun ls hl => ?_)
                  refine lv_goto (tgt := 60) hx hb dX7_bitsOf_79 (by decide) ?_
                  exact ihloop552 (i + 1) _ _ _ (by omega) (by rw [← bo_d]; omega) (hP.sub [0] rfl) (hD.sub [0] (by decide) rfl) hS (lv_sub hl [2, 3, 1, 4, 0] rfl)
            exact loop552 ((31 - 0) + 1) 0 _ _ _ (Nat.lt_succ_self _) (by rw [Nat.pow_zero]; omega) (hP.sub [0] rfl) (hD.sub [0] (by decide) rfl) hS (lv_sub hl [0, 1, 2, 3, 4] rfl)
          · skip
            refine lv_ldc2 (v := lN 2) hx hb hown (hts (.constantLong RX7 102 (2)) (List.mem_cons_of_mem _ wd_408)) dX7_bitsOf_43 ?_
            refine lv_lload hx hb dX7_bitsOf_46 (lv_at hl 3 rfl) ?_
            refine lv_lmul hx hb dX7_bitsOf_48 ?_
            refine k_l (show _ = lN (2 * (uD dg * 2 ^ j)) from lN_mul _ _) ?_
            refine k_l (show _ = lN (uD dg * 2 ^ (j + 1)) from congrArg lN (bo_d _ _)) ?_
            refine lv_lstore (lv' := [(4, .long (lN (uD dg * 2 ^ (j + 1)))), (0, .ref mm), (1, .int (-nI k)), (2, .long (lN k)), (6, .long (lN j))]) hx hb dX7_bitsOf_49 hl (by decide) rfl (fun ls hl => ?_)
            refine lv_lload hx hb dX7_bitsOf_51 (lv_at hl 4 rfl) ?_
            refine lv_lconst (v := lN 1) hx hb dX7_bitsOf_53 (by decide) ?_
            refine lv_ladd hx hb dX7_bitsOf_54 ?_
            refine k_l (show _ = lN (j + 1) from lN_add _ _) ?_
            refine lv_lstore (lv' := [(6, .long (lN (j + 1))), (4, .long (lN (uD dg * 2 ^ (j + 1)))), (0, .ref mm), (1, .int (-nI k)), (2, .long (lN k))]) hx hb dX7_bitsOf_55 hl (by decide) rfl (fun ls hl => ?_)
            refine lv_goto (tgt := 32) hx hb dX7_bitsOf_57 (by decide) ?_
            exact ihloop550 (j + 1) _ _ _ (by omega) (by rw [← bo_d]; omega) (hP.sub [0] rfl) (hD.sub [0] (by decide) rfl) hS (lv_sub hl [2, 3, 4, 1, 0] rfl)
      exact loop550 ((31 - 0) + 1) 0 _ _ _ (Nat.lt_succ_self _) (by rw [Nat.pow_zero]; omega) (hP.sub [0] rfl) (hD.sub [0] (by decide) rfl) hS (lv_sub hl [3, 4, 2, 1, 0] rfl)
  · skip
    exact absurd c548 (nb_ne hk1 (by omega))

set_option maxRecDepth 100000 in
set_option maxHeartbeats 4000000 in
theorem c_M_bits0 (l : Launch) (D : va_G) (cI cB cJ cS : ClassId) (mm ma mb mc md me mf mg mh th dg PT PN n sz od sl t wr pl lo nm : Nat) (b pm pd pq rb ok ol : Nat → Nat) (fx : Nat → Int32) (vz : Int32)  : kM l yX7_bitsOf vsX7_bitsOf ({ frames := 1, cells := 0, slots := 0, locals := 20 }) D (kT cI cB cJ cS) [.ref mm, .int (nI 0)] [(mm, .inr (5, [.int (nI th), .int (nI dg), .int (nI PT), .int (nI PN), .int (nI n), .ref ma, .ref mb, .ref mc, .ref md, .ref me, .int (nI sz), .ref mf, .int (nI od), .int (nI sl), .int (nI t), .int (nI wr), .int (nI pl), .int (nI lo), .long (lN nm), .int vz, .ref mg, .ref mh]))] (kQl D (kT cI cB cJ cS) (fun r (ug : Unit) => r = lN 0) (fun ug => [(mm, .inr (5, [.int (nI th), .int (nI dg), .int (nI PT), .int (nI PN), .int (nI n), .ref ma, .ref mb, .ref mc, .ref md, .ref me, .int (nI sz), .ref mf, .int (nI od), .int (nI sl), .int (nI t), .int (nI wr), .int (nI pl), .int (nI lo), .long (lN nm), .int vz, .ref mg, .ref mh]))])) := by
  refine k_ofW (by decide) rfl (Nat.le_of_ble_eq_true rfl) ?_
  intro p e s m below meth c A ls hx hb hr hts hown hlocks hmn hml hA hP hK hD hS hZ hl
  have inX7 : ∀ w ∈ wsX70, w ∈ vsX7_bitsOf := fun w h => List.mem_cons_of_mem _ (iaX7 w h)
  have F : CallFix p m c cX7_bitsOf 12 s _ vsX7_bitsOf RX7 := ⟨hx, hb, hml, hown, hts⟩
  have hl : lv_has ls 12 [(0, .ref mm), (1, .int (nI 0))] := hl
  refine lv_iload_n hx hb dX7_bitsOf_0 rfl (lv_at hl 1 rfl) ?_
  refine k_if_ne (tgt := 6) (by omega) hx hb dX7_bitsOf_1 (by decide) (fun c562 => ?_) (fun c562 => ?_)
  · skip
    exact absurd c562 (by omega)
  · skip
    refine lv_lconst (v := lN 0) hx hb dX7_bitsOf_4 (by decide) ?_
    exact k_lret () hx hb hr hlocks hK hP hD hS (rfl) (rfl) (Nat.le_of_ble_eq_true rfl) (Nat.le_of_ble_eq_true rfl) dX7_bitsOf_5

set_option maxRecDepth 100000 in
set_option maxHeartbeats 4000000 in
theorem c_M_bitsOf (l : Launch) (D : va_G) (cI cB cJ cS : ClassId) (mm ma mb mc md me mf mg mh th dg PT PN n sz od sl t wr pl lo nm : Nat) (b pm pd pq rb ok ol : Nat → Nat) (fx : Nat → Int32) (vz : Int32) (hdg : dg < 4) (z : Int32) (hz : fvOk z) : kM l yX7_bitsOf vsX7_bitsOf ({ frames := 1, cells := 0, slots := 0, locals := 20 }) D (kT cI cB cJ cS) [.ref mm, .int z] [(mm, .inr (5, [.int (nI th), .int (nI dg), .int (nI PT), .int (nI PN), .int (nI n), .ref ma, .ref mb, .ref mc, .ref md, .ref me, .int (nI sz), .ref mf, .int (nI od), .int (nI sl), .int (nI t), .int (nI wr), .int (nI pl), .int (nI lo), .long (lN nm), .int vz, .ref mg, .ref mh]))] (kQl D (kT cI cB cJ cS) (fun r (ug : Unit) => r = lN (wB z (uD dg))) (fun ug => [(mm, .inr (5, [.int (nI th), .int (nI dg), .int (nI PT), .int (nI PN), .int (nI n), .ref ma, .ref mb, .ref mc, .ref md, .ref me, .int (nI sz), .ref mf, .int (nI od), .int (nI sl), .int (nI t), .int (nI wr), .int (nI pl), .int (nI lo), .long (lN nm), .int vz, .ref mg, .ref mh]))])) := by
  obtain ⟨k, hk, hz⟩ := hz
  by_cases h0 : k = 0
  · subst h0
    have e : z = nI 0 := by rcases hz with h | h <;> rw [h] <;> rfl
    subst e
    exact c_M_bits0 l D cI cB cJ cS mm ma mb mc md me mf mg mh th dg PT PN n sz od sl t wr pl lo nm b pm pd pq rb ok ol fx vz
  · rcases hz with h | h
    · subst h
      rw [← wB_pos (by omega) (by omega)]
      exact c_M_bitsP l D cI cB cJ cS mm ma mb mc md me mf mg mh th dg PT PN n sz od sl t wr pl lo nm b pm pd pq rb ok ol fx vz hdg k (by omega) hk
    · subst h
      rw [← wB_neg (by omega) (by omega)]
      exact c_M_bitsM l D cI cB cJ cS mm ma mb mc md me mf mg mh th dg PT PN n sz od sl t wr pl lo nm b pm pd pq rb ok ol fx vz hdg k (by omega) hk

set_option maxRecDepth 100000 in
set_option maxHeartbeats 4000000 in
theorem c_M_writePoints (l : Launch) (D : va_G) (cI cB cJ cS : ClassId) (mm ma mb mc md me mf mg mh th dg PT PN n sz od sl t wr pl lo nm : Nat) (b pm pd pq rb ok ol : Nat → Nat) (fx : Nat → Int32) (vz : Int32) (hdg : dg < 4) (hod2 : od < 2) (k : Nat) (hk : k < 4) (q p9 : Nat) (hqp : q + p9 ≤ 4096) (hsz : sz + 16 * p9 ≤ 131072) (hfx : ∀ i, i < 2 * p9 → fvOk (fx (2 * (4096 * k + q) + i)))  : kM l yX7_writePoints vsX7_writePoints ({ frames := 2, cells := 0, slots := 0, locals := 51 }) D (kT cI cB cJ cS) [.ref mm, .int (nI k), .int (nI q), .int (nI p9)] [(mm, .inr (5, [.int (nI th), .int (nI dg), .int (nI PT), .int (nI PN), .int (nI n), .ref ma, .ref mb, .ref mc, .ref md, .ref me, .int (nI sz), .ref mf, .int (nI od), .int (nI sl), .int (nI t), .int (nI wr), .int (nI pl), .int (nI lo), .long (lN nm), .int vz, .ref mg, .ref mh])), (md, .inl (cI, 32768, .inl fx)), (mf, .inl (cI, 131072, .inl (iF rb)))] (kQi D (kT cI cB cJ cS) (fun r (ug : Unit) => r = nI (q + p9)) (fun ug => [(mm, .inr (5, [.int (nI th), .int (nI dg), .int (nI PT), .int (nI PN), .int (nI n), .ref ma, .ref mb, .ref mc, .ref md, .ref me, .int (nI (sz + 8 * (2 * p9))), .ref mf, .int (nI od), .int (nI sl), .int (nI t), .int (nI wr), .int (nI pl), .int (nI lo), .long (lN nm), .int vz, .ref mg, .ref mh])), (md, .inl (cI, 32768, .inl fx)), (mf, .inl (cI, 131072, .inl (iF (wCv fx (uD dg) od rb sz (2 * (4096 * k + q)) (2 * p9)))))])) := by
  refine k_ofW (by decide) rfl (Nat.le_of_ble_eq_true rfl) ?_
  intro p e s m below meth c A ls hx hb hr hts hown hlocks hmn hml hA hP hK hD hS hZ hl
  have inX7 : ∀ w ∈ wsX70, w ∈ vsX7_writePoints := fun w h => List.mem_cons_of_mem _ (iaX7 w h)
  have F : CallFix p m c cX7_writePoints 5 s _ vsX7_writePoints RX7 := ⟨hx, hb, hml, hown, hts⟩
  have hl : lv_has ls 5 [(0, .ref mm), (1, .int (nI k)), (2, .int (nI q)), (3, .int (nI p9))] := hl
  refine lv_iconst (v := nI 2) hx hb dX7_writePoints_0 (by decide) ?_
  refine lv_sipush (v := nI 4096) hx hb dX7_writePoints_1 (by decide) ?_
  refine lv_iload_n hx hb dX7_writePoints_4 rfl (lv_at hl 1 rfl) ?_
  refine lv_imul hx hb dX7_writePoints_5 ?_
  refine k_i (show _ = nI (4096 * k) from pk_mul _ _) ?_
  refine lv_iload_n hx hb dX7_writePoints_6 rfl (lv_at hl 2 rfl) ?_
  refine lv_iadd hx hb dX7_writePoints_7 ?_
  refine k_i (show _ = nI ((4096 * k) + q) from nI_add _ _) ?_
  refine lv_imul hx hb dX7_writePoints_8 ?_
  refine k_i (show _ = nI (2 * ((4096 * k) + q)) from pk_mul _ _) ?_
  refine lv_istore (lv' := [(4, .int (nI (2 * ((4096 * k) + q)))), (0, .ref mm), (1, .int (nI k)), (2, .int (nI q)), (3, .int (nI p9))]) hx hb dX7_writePoints_9 hl (by decide) rfl (fun ls hl => ?_)
  have loop563 : ∀ (k564 : Nat) (j : Nat) (H : Heap) (locs : List Loc) (ls : Array Slot), 2 * p9 - j < k564 → (j ≤ 2 * p9) → va_P D kCl [(mm, .inr (5, [.int (nI th), .int (nI dg), .int (nI PT), .int (nI PN), .int (nI n), .ref ma, .ref mb, .ref mc, .ref md, .ref me, .int (nI (sz + 8 * j)), .ref mf, .int (nI od), .int (nI sl), .int (nI t), .int (nI wr), .int (nI pl), .int (nI lo), .long (lN nm), .int vz, .ref mg, .ref mh])), (md, .inl (cI, 32768, .inl fx)), (mf, .inl (cI, 131072, .inl (iF (wCv fx (uD dg) od rb sz (2 * (4096 * k + q)) j))))] H → va_D A [(mm, .inr (5, [.int (nI th), .int (nI dg), .int (nI PT), .int (nI PN), .int (nI n), .ref ma, .ref mb, .ref mc, .ref md, .ref me, .int (nI (sz + 8 * j)), .ref mf, .int (nI od), .int (nI sl), .int (nI t), .int (nI wr), .int (nI pl), .int (nI lo), .long (lN nm), .int vz, .ref mg, .ref mh])), (md, .inl (cI, 32768, .inl fx)), (mf, .inl (cI, 131072, .inl (iF (wCv fx (uD dg) od rb sz (2 * (4096 * k + q)) j))))] → va_S A s.heap H locs → lv_has ls 5 [(0, .ref mm), (1, .int (nI k)), (2, .int (nI q)), (3, .int (nI p9)), (4, .int (nI (2 * (4096 * k + q) + j)))] → W p l e ({ frames := 2, cells := 0, slots := 0, locals := 51 }) s m ([.ref mm, .int (nI k), .int (nI q), .int (nI p9)] : List Value).toArray below meth c H locs 0 0 (MQ below ((kQi D (kT cI cB cJ cS) (fun r (ug : Unit) => r = nI (q + p9)) (fun ug => [(mm, .inr (5, [.int (nI th), .int (nI dg), .int (nI PT), .int (nI PN), .int (nI n), .ref ma, .ref mb, .ref mc, .ref md, .ref me, .int (nI (sz + 8 * (2 * p9))), .ref mf, .int (nI od), .int (nI sl), .int (nI t), .int (nI wr), .int (nI pl), .int (nI lo), .long (lN nm), .int vz, .ref mg, .ref mh])), (md, .inl (cI, 32768, .inl fx)), (mf, .inl (cI, 131072, .inl (iF (wCv fx (uD dg) od rb sz (2 * (4096 * k + q)) (2 * p9)))))])) A) ([.ref mm, .int (nI k), .int (nI q), .int (nI p9)] : List Value).toArray s ({ frames := 2, cells := 0, slots := 0, locals := 51 } : Room).cells ({ frames := 2, cells := 0, slots := 0, locals := 51 } : Room).slots A) (F0 m 11 ls []) := by
    intro k564
    induction k564 with
    | zero =>
      intro j H locs ls hk9
      exact absurd hk9 (Nat.not_lt_zero _)
    | succ k564 ihloop563 =>
      intro j H locs ls hk9 hj hP hD hS hl
      refine lv_iload hx hb dX7_writePoints_11 (lv_at hl 4 rfl) ?_
      refine lv_iconst (v := nI 2) hx hb dX7_writePoints_13 (by decide) ?_
      refine lv_sipush (v := nI 4096) hx hb dX7_writePoints_14 (by decide) ?_
      refine lv_iload_n hx hb dX7_writePoints_17 rfl (lv_at hl 1 rfl) ?_
      refine lv_imul hx hb dX7_writePoints_18 ?_
      refine k_i (show _ = nI (4096 * k) from pk_mul _ _) ?_
      refine lv_iload_n hx hb dX7_writePoints_19 rfl (lv_at hl 2 rfl) ?_
      refine lv_iadd hx hb dX7_writePoints_20 ?_
      refine k_i (show _ = nI ((4096 * k) + q) from nI_add _ _) ?_
      refine lv_iload_n hx hb dX7_writePoints_21 rfl (lv_at hl 3 rfl) ?_
      refine lv_iadd hx hb dX7_writePoints_22 ?_
      refine k_i (show _ = nI (((4096 * k) + q) + p9) from nI_add _ _) ?_
      refine lv_imul hx hb dX7_writePoints_23 ?_
      refine k_i (show _ = nI (2 * (((4096 * k) + q) + p9)) from pk_mul _ _) ?_
      refine k_icmp_ge (tgt := 50) (by omega) (by omega) hx hb dX7_writePoints_24 (by decide) (fun c565 => ?_) (fun c565 => ?_)
      · skip
        refine lv_iload_n hx hb dX7_writePoints_50 rfl (lv_at hl 2 rfl) ?_
        refine lv_iload_n hx hb dX7_writePoints_51 rfl (lv_at hl 3 rfl) ?_
        refine lv_iadd hx hb dX7_writePoints_52 ?_
        refine k_i (show _ = nI (q + p9) from nI_add _ _) ?_
        have ej : j = 2 * p9 := by omega
        subst ej
        exact k_iret () hx hb hr (by first | rfl | decide | exact vp_nar_int _) hlocks hK hP hD hS (rfl) (rfl) (Nat.le_of_ble_eq_true rfl) (Nat.le_of_ble_eq_true rfl) dX7_writePoints_53
      · skip
        refine lv_aload_n hx hb dX7_writePoints_27 rfl (lv_at hl 0 rfl) ?_
        refine lv_aload_n hx hb dX7_writePoints_28 rfl (lv_at hl 0 rfl) ?_
        refine lv_aload_n hx hb dX7_writePoints_29 rfl (lv_at hl 0 rfl) ?_
        refine va_get (D := D) (ci := 5) (v := .ref md) (C := RX7) (T := TX7) (N := 22) hx hb hts inX7 hown hK hP 0 rfl rfl 8 (by decide) (hts (.fieldLink RX7 21 "ByteShapesModel" "xy" "[I") (List.mem_cons_of_mem _ wd_393)) (fun _ h9 => h9) rfl dX7_writePoints_30 ?_
        refine lv_iload hx hb dX7_writePoints_33 (lv_at hl 4 rfl) ?_
        refine va_iald hx hb hK hP 1 0 rfl rfl (vp_in_nI (by omega) (by omega)) dX7_writePoints_35 ?_
        refine k_i (show _ = fx (2 * (4096 * k + q) + j) from congrArg fx (nI_clamp (by omega))) ?_
        refine k_cl (wr := [(md, .inl (cI, 32768, .inl fx)), (mf, .inl (cI, 131072, .inl (iF (wCv fx (uD dg) od rb sz (2 * (4096 * k + q)) j))))]) (k_rv F (c_M_bitsOf l D cI cB cJ cS mm ma mb mc md me mf mg mh th dg PT PN n (sz + 8 * j) od sl t wr pl lo nm b pm pd pq (wCv fx (uD dg) od rb sz (2 * (4096 * k + q)) j) ok ol fx vz hdg (fx (2 * (4096 * k + q) + j)) (hfx j (by omega))) (cwV 1 hts (g_V wd_478 wd_479 wd_480 wd_373 wd_481) rfl rfl rfl (by decide +kernel) ⟨Nat.le_of_ble_eq_true rfl, Nat.le_of_ble_eq_true rfl⟩) hK hP hD hS hA hZ [0] rfl (by decide) 0 rfl rfl rfl rfl hl.1 rfl (Nat.le_of_ble_eq_true rfl) dX7_writePoints_36 ⟨Nat.le_of_ble_eq_true rfl, Nat.le_of_ble_eq_true rfl⟩) hP hD hS hA [0] [1, 2] rfl rfl (by decide) (by decide) (fun r u9 H locs hw hP hD hS => ?_)
        subst hw
        have hP : va_P D kCl [(md, .inl (cI, 32768, .inl fx)), (mf, .inl (cI, 131072, .inl (iF (wCv fx (uD dg) od rb sz (2 * (4096 * k + q)) j)))), (mm, .inr (5, [.int (nI th), .int (nI dg), .int (nI PT), .int (nI PN), .int (nI n), .ref ma, .ref mb, .ref mc, .ref md, .ref me, .int (nI (sz + 8 * j)), .ref mf, .int (nI od), .int (nI sl), .int (nI t), .int (nI wr), .int (nI pl), .int (nI lo), .long (lN nm), .int vz, .ref mg, .ref mh]))] H := hP
        have hD : va_D A [(md, .inl (cI, 32768, .inl fx)), (mf, .inl (cI, 131072, .inl (iF (wCv fx (uD dg) od rb sz (2 * (4096 * k + q)) j)))), (mm, .inr (5, [.int (nI th), .int (nI dg), .int (nI PT), .int (nI PN), .int (nI n), .ref ma, .ref mb, .ref mc, .ref md, .ref me, .int (nI (sz + 8 * j)), .ref mf, .int (nI od), .int (nI sl), .int (nI t), .int (nI wr), .int (nI pl), .int (nI lo), .long (lN nm), .int vz, .ref mg, .ref mh]))] := hD
        refine W.widen (k := 0) (n := 0) (Nat.le_of_ble_eq_true rfl) (Nat.le_of_ble_eq_true rfl) ?_
        refine lv_bipush (v := nI 8) hx hb dX7_writePoints_39 (by decide) ?_
        refine k_cv (wr := [(md, .inl (cI, 32768, .inl fx))]) (k_rv F (c_M_add l D cI cB cJ cS mm ma mb mc md me mf mg mh th dg PT PN n (sz + 8 * j) od sl t wr pl lo nm b pm pd pq (wCv fx (uD dg) od rb sz (2 * (4096 * k + q)) j) ok ol fx vz hod2 (wB (fx (2 * (4096 * k + q) + j)) (uD dg)) 8 (by decide) (by omega)) (cwV 2 hts (g_V wd_482 wd_483 wd_484 wd_373 wd_485) rfl rfl rfl (by decide +kernel) ⟨Nat.le_of_ble_eq_true rfl, Nat.le_of_ble_eq_true rfl⟩) hK hP hD hS hA hZ [2, 1] rfl (by decide) 2 rfl rfl rfl rfl hl.1 rfl (Nat.le_of_ble_eq_true rfl) dX7_writePoints_41 ⟨Nat.le_of_ble_eq_true rfl, Nat.le_of_ble_eq_true rfl⟩) hP hD hS hA [2, 1] [0] rfl rfl (by decide) (by decide) (fun u9 H locs hw hP hD hS => ?_)
        have hP : va_P D kCl [(md, .inl (cI, 32768, .inl fx)), (mm, .inr (5, [.int (nI th), .int (nI dg), .int (nI PT), .int (nI PN), .int (nI n), .ref ma, .ref mb, .ref mc, .ref md, .ref me, .int (nI (sz + 8 * j + 8)), .ref mf, .int (nI od), .int (nI sl), .int (nI t), .int (nI wr), .int (nI pl), .int (nI lo), .long (lN nm), .int vz, .ref mg, .ref mh])), (mf, .inl (cI, 131072, .inl (iF (pA (wCv fx (uD dg) od rb sz (2 * (4096 * k + q)) j) (sz + 8 * j) (wB (fx (2 * (4096 * k + q) + j)) (uD dg)) 8 od 8))))] H := hP
        have hD : va_D A [(md, .inl (cI, 32768, .inl fx)), (mm, .inr (5, [.int (nI th), .int (nI dg), .int (nI PT), .int (nI PN), .int (nI n), .ref ma, .ref mb, .ref mc, .ref md, .ref me, .int (nI (sz + 8 * j + 8)), .ref mf, .int (nI od), .int (nI sl), .int (nI t), .int (nI wr), .int (nI pl), .int (nI lo), .long (lN nm), .int vz, .ref mg, .ref mh])), (mf, .inl (cI, 131072, .inl (iF (pA (wCv fx (uD dg) od rb sz (2 * (4096 * k + q)) j) (sz + 8 * j) (wB (fx (2 * (4096 * k + q) + j)) (uD dg)) 8 od 8))))] := hD
        refine W.widen (k := 0) (n := 0) (Nat.le_of_ble_eq_true rfl) (Nat.le_of_ble_eq_true rfl) ?_
        rw [show nI (sz + 8 * j + 8) = nI (sz + 8 * (j + 1)) from congrArg nI (by omega), wCv_S] at hP hD
        have hP : va_P D kCl [(mm, .inr (5, [.int (nI th), .int (nI dg), .int (nI PT), .int (nI PN), .int (nI n), .ref ma, .ref mb, .ref mc, .ref md, .ref me, .int (nI (sz + 8 * j + 8)), .ref mf, .int (nI od), .int (nI sl), .int (nI t), .int (nI wr), .int (nI pl), .int (nI lo), .long (lN nm), .int vz, .ref mg, .ref mh])), (md, .inl (cI, 32768, .inl fx)), (mf, .inl (cI, 131072, .inl (iF (pA (wCv fx (uD dg) od rb sz (2 * (4096 * k + q)) j) (sz + 8 * j) (wB (fx (2 * (4096 * k + q) + j)) (uD dg)) 8 od 8))))] H := hP.sub [1, 0, 2] rfl
        have hD : va_D A [(mm, .inr (5, [.int (nI th), .int (nI dg), .int (nI PT), .int (nI PN), .int (nI n), .ref ma, .ref mb, .ref mc, .ref md, .ref me, .int (nI (sz + 8 * j + 8)), .ref mf, .int (nI od), .int (nI sl), .int (nI t), .int (nI wr), .int (nI pl), .int (nI lo), .long (lN nm), .int vz, .ref mg, .ref mh])), (md, .inl (cI, 32768, .inl fx)), (mf, .inl (cI, 131072, .inl (iF (pA (wCv fx (uD dg) od rb sz (2 * (4096 * k + q)) j) (sz + 8 * j) (wB (fx (2 * (4096 * k + q) + j)) (uD dg)) 8 od 8))))] := hD.sub [1, 0, 2] (by decide) rfl
        have hP : va_P D kCl [(mm, .inr (5, [.int (nI th), .int (nI dg), .int (nI PT), .int (nI PN), .int (nI n), .ref ma, .ref mb, .ref mc, .ref md, .ref me, .int (nI (sz + 8 * (j + 1))), .ref mf, .int (nI od), .int (nI sl), .int (nI t), .int (nI wr), .int (nI pl), .int (nI lo), .long (lN nm), .int vz, .ref mg, .ref mh])), (md, .inl (cI, 32768, .inl fx)), (mf, .inl (cI, 131072, .inl (iF (wCv fx (uD dg) od rb sz (2 * (4096 * k + q)) (j + 1)))))] H := hP
        have hD : va_D A [(mm, .inr (5, [.int (nI th), .int (nI dg), .int (nI PT), .int (nI PN), .int (nI n), .ref ma, .ref mb, .ref mc, .ref md, .ref me, .int (nI (sz + 8 * (j + 1))), .ref mf, .int (nI od), .int (nI sl), .int (nI t), .int (nI wr), .int (nI pl), .int (nI lo), .long (lN nm), .int vz, .ref mg, .ref mh])), (md, .inl (cI, 32768, .inl fx)), (mf, .inl (cI, 131072, .inl (iF (wCv fx (uD dg) od rb sz (2 * (4096 * k + q)) (j + 1)))))] := hD
        refine lv_iinc (v := nI ((2 * (4096 * k + q) + j) + 1)) (lv' := [(4, .int (nI ((2 * (4096 * k + q) + j) + 1))), (0, .ref mm), (1, .int (nI k)), (2, .int (nI q)), (3, .int (nI p9))]) hx hb dX7_writePoints_44 hl (k := 4) rfl (nI_add _ _) (by decide) rfl (fun ls hl => ?_)
        refine lv_goto (tgt := 11) hx hb dX7_writePoints_47 (by decide) ?_
        exact ihloop563 (j + 1) _ _ _ (by omega) (by omega) (hP.sub [0, 1, 2] rfl) (hD.sub [0, 1, 2] (by decide) rfl) hS (lv_sub hl [1, 2, 3, 4, 0] rfl)
  exact loop563 ((2 * p9 - 0) + 1) 0 _ _ _ (Nat.lt_succ_self _) (Nat.zero_le _) (hP.sub [0, 1, 2] rfl) (hD.sub [0, 1, 2] (by decide) rfl) hS (lv_sub hl [1, 2, 3, 4, 0] rfl)

