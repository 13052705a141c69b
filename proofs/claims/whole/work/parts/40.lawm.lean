set_option maxRecDepth 100000 in
set_option maxHeartbeats 4000000 in
theorem c_L_feed (l : Launch) (D : va_G) (cI cB cJ cS : ClassId) (x sa a rs rd wt : Nat) (ab n : Nat) (b : Nat → Nat) (hn : n ≤ 65516) (k0 k1 k2 k3 k4 : Nat) (hk0 : k0 < 2 ^ 32) (hk1 : k1 < 2 ^ 32) (hk2 : k2 < 2 ^ 32) (hk3 : k3 < 2 ^ 32) (hk4 : k4 < 2 ^ 32) (o : Nat) (fo : Nat → Int64)  : kM l yL_feed vsL_feed ({ frames := 2, cells := 0, slots := 0, locals := 51 }) D (kT cI cB cJ cS) [.ref x, .int (nI k0), .int (nI k1), .int (nI k2), .int (nI k3), .int (nI k4), .ref o] [(x, .inr (4, [.ref sa, .ref a, .ref rs, .ref rd, .ref wt])), (a, .inr (1, [.ref ab, .int (nI n)])), (ab, .inl (cB, 65536, .inl (bF b))), (o, .inl (cJ, 1, .inr (.inl fo)))] (kQi D (kT cI cB cJ cS) (fun r (ug : Unit) => r = nI 0) (fun ug => [(x, .inr (4, [.ref sa, .ref a, .ref rs, .ref rd, .ref wt])), (a, .inr (1, [.ref ab, .int (nI (n + 4 + 4 + 4 + 4 + 4))])), (ab, .inl (cB, 65536, .inl (bF (pA (pA (pA (pA (pA (b) (n) (sx k0) 4 0 4) (n + 4) (sx k1) 4 0 4) (n + 4 + 4) (sx k2) 4 0 4) (n + 4 + 4 + 4) (sx k3) 4 0 4) (n + 4 + 4 + 4 + 4) (sx k4) 4 0 4)))), (o, .inl (cJ, 1, .inr (.inl (vp_updL fo 0 (lN (n + 20))))))])) := by
  refine k_ofH (by decide) rfl (Nat.le_of_ble_eq_true rfl) ?_
  intro p e s m below meth c A ls hx hb hr hts hown hlocks hmn hml hA hP hK hD hS hZ hl htab
  have inX3 : ∀ w ∈ wsX30, w ∈ vsL_feed := fun w h => List.mem_cons_of_mem _ (iaX3 w h)
  have inX6 : ∀ w ∈ wsX60, w ∈ vsL_feed := fun w h => List.mem_cons_of_mem _ (iaX6 w h)
  have F : CallFix p m c cL_feed 8 s _ vsL_feed RL := ⟨hx, hb, hml, hown, hts⟩
  have hl : lv_has ls 8 [(0, .ref x), (1, .int (nI k0)), (2, .int (nI k1)), (3, .int (nI k2)), (4, .int (nI k3)), (5, .int (nI k4)), (6, .ref o)] := hl
  refine lv_aload hx hb dL_feed_0 (lv_at hl 6 rfl) ?_
  refine lv_iconst (v := nI 0) hx hb dL_feed_2 (by decide) ?_
  refine lv_aload_n hx hb dL_feed_3 rfl (lv_at hl 0 rfl) ?_
  refine lv_iload_n hx hb dL_feed_4 rfl (lv_at hl 1 rfl) ?_
  refine lv_iload_n hx hb dL_feed_5 rfl (lv_at hl 2 rfl) ?_
  refine lv_iload_n hx hb dL_feed_6 rfl (lv_at hl 3 rfl) ?_
  refine lv_iload hx hb dL_feed_7 (lv_at hl 4 rfl) ?_
  refine lv_iload hx hb dL_feed_9 (lv_at hl 5 rfl) ?_
  refine k_ci (wr := [(o, .inl (cJ, 1, .inr (.inl fo)))]) (k_rv F (c_feed l D cI cB cJ cS x sa a rs rd wt ab n b hn k0 k1 k2 k3 k4 hk0 hk1 hk2 hk3 hk4) (cwV 5 hts (g_V wd_325 wd_326 wd_327 wd_8 wd_328) rfl rfl rfl (by decide +kernel) ⟨Nat.le_of_ble_eq_true rfl, Nat.le_of_ble_eq_true rfl⟩) hK hP hD hS hA hZ [0, 1, 2] rfl (by decide) 0 rfl rfl rfl rfl hl.1 rfl (Nat.le_of_ble_eq_true rfl) dL_feed_11 ⟨Nat.le_of_ble_eq_true rfl, Nat.le_of_ble_eq_true rfl⟩) hP hD hS hA [0, 1, 2] [3] rfl rfl (by decide) (by decide) (fun r u9 H locs hw hP hD hS => ?_)
  subst hw
  have hP : va_P D kCl [(o, .inl (cJ, 1, .inr (.inl fo))), (x, .inr (4, [.ref sa, .ref a, .ref rs, .ref rd, .ref wt])), (a, .inr (1, [.ref ab, .int (nI (n + 4 + 4 + 4 + 4 + 4))])), (ab, .inl (cB, 65536, .inl (bF (pA (pA (pA (pA (pA (b) (n) (sx k0) 4 0 4) (n + 4) (sx k1) 4 0 4) (n + 4 + 4) (sx k2) 4 0 4) (n + 4 + 4 + 4) (sx k3) 4 0 4) (n + 4 + 4 + 4 + 4) (sx k4) 4 0 4))))] H := hP
  have hD : va_D A [(o, .inl (cJ, 1, .inr (.inl fo))), (x, .inr (4, [.ref sa, .ref a, .ref rs, .ref rd, .ref wt])), (a, .inr (1, [.ref ab, .int (nI (n + 4 + 4 + 4 + 4 + 4))])), (ab, .inl (cB, 65536, .inl (bF (pA (pA (pA (pA (pA (b) (n) (sx k0) 4 0 4) (n + 4) (sx k1) 4 0 4) (n + 4 + 4) (sx k2) 4 0 4) (n + 4 + 4 + 4) (sx k3) 4 0 4) (n + 4 + 4 + 4 + 4) (sx k4) 4 0 4))))] := hD
  refine W.widen (k := 0) (n := 0) (Nat.le_of_ble_eq_true rfl) (Nat.le_of_ble_eq_true rfl) ?_
  refine lv_i2l (v := lN (n + 20)) hx hb dL_feed_14 (nI_l (by omega)) ?_
  refine va_last hx hb hK hP hD hS 0 2 rfl rfl (vp_in_nI (by omega) (by omega)) dL_feed_15 (fun H locs hP hD hS => ?_)
  rw [show vp_updL fo (nI 0).toNatClampNeg (lN (n + 20)) = vp_updL fo 0 (lN (n + 20)) from by rw [nI_clamp (by omega)]] at hP hD
  have hP : va_P D kCl [(o, .inl (cJ, 1, .inr (.inl (vp_updL fo 0 (lN (n + 20)))))), (x, .inr (4, [.ref sa, .ref a, .ref rs, .ref rd, .ref wt])), (a, .inr (1, [.ref ab, .int (nI (n + 4 + 4 + 4 + 4 + 4))])), (ab, .inl (cB, 65536, .inl (bF (pA (pA (pA (pA (pA (b) (n) (sx k0) 4 0 4) (n + 4) (sx k1) 4 0 4) (n + 4 + 4) (sx k2) 4 0 4) (n + 4 + 4 + 4) (sx k3) 4 0 4) (n + 4 + 4 + 4 + 4) (sx k4) 4 0 4))))] H := hP
  have hD : va_D A [(o, .inl (cJ, 1, .inr (.inl (vp_updL fo 0 (lN (n + 20)))))), (x, .inr (4, [.ref sa, .ref a, .ref rs, .ref rd, .ref wt])), (a, .inr (1, [.ref ab, .int (nI (n + 4 + 4 + 4 + 4 + 4))])), (ab, .inl (cB, 65536, .inl (bF (pA (pA (pA (pA (pA (b) (n) (sx k0) 4 0 4) (n + 4) (sx k1) 4 0 4) (n + 4 + 4) (sx k2) 4 0 4) (n + 4 + 4 + 4) (sx k3) 4 0 4) (n + 4 + 4 + 4 + 4) (sx k4) 4 0 4))))] := hD
  refine lv_goto (tgt := 23) hx hb dL_feed_16 (by decide) ?_
  refine lv_iconst (v := nI 0) hx hb dL_feed_23 (by decide) ?_
  have hP : va_P D kCl [(x, .inr (4, [.ref sa, .ref a, .ref rs, .ref rd, .ref wt])), (a, .inr (1, [.ref ab, .int (nI (n + 4 + 4 + 4 + 4 + 4))])), (ab, .inl (cB, 65536, .inl (bF (pA (pA (pA (pA (pA (b) (n) (sx k0) 4 0 4) (n + 4) (sx k1) 4 0 4) (n + 4 + 4) (sx k2) 4 0 4) (n + 4 + 4 + 4) (sx k3) 4 0 4) (n + 4 + 4 + 4 + 4) (sx k4) 4 0 4)))), (o, .inl (cJ, 1, .inr (.inl (vp_updL fo 0 (lN (n + 20))))))] H := hP.sub [1, 2, 3, 0] rfl
  have hD : va_D A [(x, .inr (4, [.ref sa, .ref a, .ref rs, .ref rd, .ref wt])), (a, .inr (1, [.ref ab, .int (nI (n + 4 + 4 + 4 + 4 + 4))])), (ab, .inl (cB, 65536, .inl (bF (pA (pA (pA (pA (pA (b) (n) (sx k0) 4 0 4) (n + 4) (sx k1) 4 0 4) (n + 4 + 4) (sx k2) 4 0 4) (n + 4 + 4 + 4) (sx k3) 4 0 4) (n + 4 + 4 + 4 + 4) (sx k4) 4 0 4)))), (o, .inl (cJ, 1, .inr (.inl (vp_updL fo 0 (lN (n + 20))))))] := hD.sub [1, 2, 3, 0] (by decide) rfl
  exact k_iret () hx hb hr (by first | rfl | decide | exact vp_nar_int _) hlocks hK hP hD hS (rfl) (rfl) (Nat.le_of_ble_eq_true rfl) (Nat.le_of_ble_eq_true rfl) dL_feed_24

set_option maxRecDepth 100000 in
set_option maxHeartbeats 4000000 in
theorem c_L_feedX (l : Launch) (D : va_G) (cI cB cJ cS : ClassId) (hl9 : l.stackTraces = false) (x sa a rs rd wt : Nat) (ab n : Nat) (b : Nat → Nat) (hn : 65516 < n) (hn2 : n ≤ 65536) (z0 z1 z2 z3 z4 : Int32) (o : Nat) (fo : Nat → Int64)  : kM l yL_feed vsL_feed ({ frames := 7, cells := 1, slots := 6, locals := 107 }) D (kT cI cB cJ cS) [.ref x, .int z0, .int z1, .int z2, .int z3, .int z4, .ref o] [(x, .inr (4, [.ref sa, .ref a, .ref rs, .ref rd, .ref wt])), (a, .inr (1, [.ref ab, .int (nI n)])), (ab, .inl (cB, 65536, .inl (bF b))), (o, .inl (cJ, 1, .inr (.inl fo)))] (kQi D (kT cI cB cJ cS) (fun r (ug : Unit) => r = nI 1) (fun ug => [(x, .inr (4, [.ref sa, .ref a, .ref rs, .ref rd, .ref wt])), (a, .inr (1, [.ref ab, .int (nI n)])), (ab, .inl (cB, 65536, .inl (bF b))), (o, .inl (cJ, 1, .inr (.inl fo)))])) := by
  refine k_ofH (by decide) rfl (Nat.le_of_ble_eq_true rfl) ?_
  intro p e s m below meth c A ls hx hb hr hts hown hlocks hmn hml hA hP hK hD hS hZ hl htab
  have inX3 : ∀ w ∈ wsX30, w ∈ vsL_feed := fun w h => List.mem_cons_of_mem _ (iaX3 w h)
  have inX6 : ∀ w ∈ wsX60, w ∈ vsL_feed := fun w h => List.mem_cons_of_mem _ (iaX6 w h)
  have F : CallFix p m c cL_feed 8 s _ vsL_feed RL := ⟨hx, hb, hml, hown, hts⟩
  have hl : lv_has ls 8 [(0, .ref x), (1, .int z0), (2, .int z1), (3, .int z2), (4, .int z3), (5, .int z4), (6, .ref o)] := hl
  refine lv_aload hx hb dL_feed_0 (lv_at hl 6 rfl) ?_
  refine lv_iconst (v := nI 0) hx hb dL_feed_2 (by decide) ?_
  refine lv_aload_n hx hb dL_feed_3 rfl (lv_at hl 0 rfl) ?_
  refine lv_iload_n hx hb dL_feed_4 rfl (lv_at hl 1 rfl) ?_
  refine lv_iload_n hx hb dL_feed_5 rfl (lv_at hl 2 rfl) ?_
  refine lv_iload_n hx hb dL_feed_6 rfl (lv_at hl 3 rfl) ?_
  refine lv_iload hx hb dL_feed_7 (lv_at hl 4 rfl) ?_
  refine lv_iload hx hb dL_feed_9 (lv_at hl 5 rfl) ?_
  refine k_cx (wr := [(o, .inl (cJ, 1, .inr (.inl fo)))]) (k_rvX F (c_feedX l D cI cB cJ cS hl9 x sa a rs rd wt ab n b hn hn2 z0 z1 z2 z3 z4) (cwV 5 hts (g_V wd_325 wd_326 wd_327 wd_8 wd_328) rfl rfl rfl (by decide +kernel) ⟨Nat.le_of_ble_eq_true rfl, Nat.le_of_ble_eq_true rfl⟩) hK hP hD hS hA hZ [0, 1, 2] rfl (by decide) 0 rfl rfl rfl rfl hl.1 rfl (Nat.le_of_ble_eq_true rfl) dL_feed_11 ⟨Nat.le_of_ble_eq_true rfl, Nat.le_of_ble_eq_true rfl⟩) hP hD hS hA [0, 1, 2] [3] rfl rfl (by decide) (by decide) (fun q9 ce H locs hP hD hS hce hcv hcl => ?_)
  have hP : va_P D kCl [(o, .inl (cJ, 1, .inr (.inl fo))), (x, .inr (4, [.ref sa, .ref a, .ref rs, .ref rd, .ref wt])), (a, .inr (1, [.ref ab, .int (nI n)])), (ab, .inl (cB, 65536, .inl (bF b)))] H := hP
  have hD : va_D A [(o, .inl (cJ, 1, .inr (.inl fo))), (x, .inr (4, [.ref sa, .ref a, .ref rs, .ref rd, .ref wt])), (a, .inr (1, [.ref ab, .int (nI n)])), (ab, .inl (cB, 65536, .inl (bF b)))] := hD
  refine vx_widen (k := 1) (n := 6) (Nat.le_of_ble_eq_true rfl) (Nat.le_of_ble_eq_true rfl) ?_
  refine vx_catch (E := "java/lang/IllegalStateException") (name := "java/lang/IllegalStateException") hown [] ⟨0, 16, 19, 13⟩ [] (by rw [htab]; rfl) (fun z hz => nomatch hz) (by decide) (by decide) (hts (.classLink RL 13 "java/lang/IllegalStateException") (List.mem_cons_of_mem _ wd_329)) (va_Nw.use rfl (hZ.nw (w := .castable "java/lang/IllegalStateException" "java/lang/IllegalStateException") (by decide +kernel))) hce hcv hcl ?_
  refine lv_astore (lv' := [(7, .ref q9), (0, .ref x), (1, .int z0), (2, .int z1), (3, .int z2), (4, .int z3), (5, .int z4), (6, .ref o)]) hx hb dL_feed_19 hl (by decide) rfl (fun ls hl => ?_)
  refine lv_iconst (v := nI 1) hx hb dL_feed_21 (by decide) ?_
  have hP : va_P D kCl [(x, .inr (4, [.ref sa, .ref a, .ref rs, .ref rd, .ref wt])), (a, .inr (1, [.ref ab, .int (nI n)])), (ab, .inl (cB, 65536, .inl (bF b))), (o, .inl (cJ, 1, .inr (.inl fo)))] H := hP.sub [1, 2, 3, 0] rfl
  have hD : va_D A [(x, .inr (4, [.ref sa, .ref a, .ref rs, .ref rd, .ref wt])), (a, .inr (1, [.ref ab, .int (nI n)])), (ab, .inl (cB, 65536, .inl (bF b))), (o, .inl (cJ, 1, .inr (.inl fo)))] := hD.sub [1, 2, 3, 0] (by decide) rfl
  exact k_iret () hx hb hr (by first | rfl | decide | exact vp_nar_int _) hlocks hK hP hD hS (rfl) (rfl) (Nat.le_of_ble_eq_true rfl) (Nat.le_of_ble_eq_true rfl) dL_feed_22

set_option maxRecDepth 100000 in
set_option maxHeartbeats 4000000 in
theorem c_L_end (l : Launch) (D : va_G) (cI cB cJ cS : ClassId) (x sa a rs rd wt : Nat) (ab n : Nat) (b : Nat → Nat) (hn : n ≤ 65536) (hn20 : 20 ≤ n) (j : Nat) (hj : j ≤ 20) (o : Nat) (fo : Nat → Int64)  : kM l yL_end vsL_end ({ frames := 4, cells := 0, slots := 0, locals := 85 }) D (kT cI cB cJ cS) [.ref x, .int (nI j), .ref o] [(x, .inr (4, [.ref sa, .ref a, .ref rs, .ref rd, .ref wt])), (a, .inr (1, [.ref ab, .int (nI n)])), (ab, .inl (cB, 65536, .inl (bF b))), (o, .inl (cJ, 1, .inr (.inl fo)))] (kQi D (kT cI cB cJ cS) (fun r (ug : Unit) => r = nI 0) (fun ug => [(x, .inr (4, [.ref sa, .ref a, .ref rs, .ref rd, .ref wt])), (a, .inr (1, [.ref ab, .int (nI (n - 20 + j))])), (ab, .inl (cB, 65536, .inl (bF b))), (o, .inl (cJ, 1, .inr (.inl (vp_updL fo 0 (lN (n - 20 + j))))))])) := by
  refine k_ofH (by decide) rfl (Nat.le_of_ble_eq_true rfl) ?_
  intro p e s m below meth c A ls hx hb hr hts hown hlocks hmn hml hA hP hK hD hS hZ hl htab
  have inX3 : ∀ w ∈ wsX30, w ∈ vsL_end := fun w h => List.mem_cons_of_mem _ (iaX3 w h)
  have inX6 : ∀ w ∈ wsX60, w ∈ vsL_end := fun w h => List.mem_cons_of_mem _ (iaX6 w h)
  have F : CallFix p m c cL_end 4 s _ vsL_end RL := ⟨hx, hb, hml, hown, hts⟩
  have hl : lv_has ls 4 [(0, .ref x), (1, .int (nI j)), (2, .ref o)] := hl
  refine lv_aload_n hx hb dL_end_0 rfl (lv_at hl 2 rfl) ?_
  refine lv_iconst (v := nI 0) hx hb dL_end_1 (by decide) ?_
  refine lv_aload_n hx hb dL_end_2 rfl (lv_at hl 0 rfl) ?_
  refine lv_iload_n hx hb dL_end_3 rfl (lv_at hl 1 rfl) ?_
  refine k_ci (wr := [(o, .inl (cJ, 1, .inr (.inl fo)))]) (k_rv F (c_end l D cI cB cJ cS x sa a rs rd wt ab n b hn hn20 j hj) (cwV 1 hts (g_V wd_330 wd_331 wd_332 wd_8 wd_333) rfl rfl rfl (by decide +kernel) ⟨Nat.le_of_ble_eq_true rfl, Nat.le_of_ble_eq_true rfl⟩) hK hP hD hS hA hZ [0, 1, 2] rfl (by decide) 0 rfl rfl rfl rfl hl.1 rfl (Nat.le_of_ble_eq_true rfl) dL_end_4 ⟨Nat.le_of_ble_eq_true rfl, Nat.le_of_ble_eq_true rfl⟩) hP hD hS hA [0, 1, 2] [3] rfl rfl (by decide) (by decide) (fun r u9 H locs hw hP hD hS => ?_)
  subst hw
  have hP : va_P D kCl [(o, .inl (cJ, 1, .inr (.inl fo))), (x, .inr (4, [.ref sa, .ref a, .ref rs, .ref rd, .ref wt])), (a, .inr (1, [.ref ab, .int (nI (n - 20 + j))])), (ab, .inl (cB, 65536, .inl (bF b)))] H := hP
  have hD : va_D A [(o, .inl (cJ, 1, .inr (.inl fo))), (x, .inr (4, [.ref sa, .ref a, .ref rs, .ref rd, .ref wt])), (a, .inr (1, [.ref ab, .int (nI (n - 20 + j))])), (ab, .inl (cB, 65536, .inl (bF b)))] := hD
  refine W.widen (k := 0) (n := 0) (Nat.le_of_ble_eq_true rfl) (Nat.le_of_ble_eq_true rfl) ?_
  refine lv_i2l (v := lN (n - 20 + j)) hx hb dL_end_7 (nI_l (by omega)) ?_
  refine va_last hx hb hK hP hD hS 0 2 rfl rfl (vp_in_nI (by omega) (by omega)) dL_end_8 (fun H locs hP hD hS => ?_)
  rw [show vp_updL fo (nI 0).toNatClampNeg (lN (n - 20 + j)) = vp_updL fo 0 (lN (n - 20 + j)) from by rw [nI_clamp (by omega)]] at hP hD
  have hP : va_P D kCl [(o, .inl (cJ, 1, .inr (.inl (vp_updL fo 0 (lN (n - 20 + j)))))), (x, .inr (4, [.ref sa, .ref a, .ref rs, .ref rd, .ref wt])), (a, .inr (1, [.ref ab, .int (nI (n - 20 + j))])), (ab, .inl (cB, 65536, .inl (bF b)))] H := hP
  have hD : va_D A [(o, .inl (cJ, 1, .inr (.inl (vp_updL fo 0 (lN (n - 20 + j)))))), (x, .inr (4, [.ref sa, .ref a, .ref rs, .ref rd, .ref wt])), (a, .inr (1, [.ref ab, .int (nI (n - 20 + j))])), (ab, .inl (cB, 65536, .inl (bF b)))] := hD
  refine lv_goto (tgt := 18) hx hb dL_end_9 (by decide) ?_
  refine lv_iconst (v := nI 0) hx hb dL_end_18 (by decide) ?_
  have hP : va_P D kCl [(x, .inr (4, [.ref sa, .ref a, .ref rs, .ref rd, .ref wt])), (a, .inr (1, [.ref ab, .int (nI (n - 20 + j))])), (ab, .inl (cB, 65536, .inl (bF b))), (o, .inl (cJ, 1, .inr (.inl (vp_updL fo 0 (lN (n - 20 + j))))))] H := hP.sub [1, 2, 3, 0] rfl
  have hD : va_D A [(x, .inr (4, [.ref sa, .ref a, .ref rs, .ref rd, .ref wt])), (a, .inr (1, [.ref ab, .int (nI (n - 20 + j))])), (ab, .inl (cB, 65536, .inl (bF b))), (o, .inl (cJ, 1, .inr (.inl (vp_updL fo 0 (lN (n - 20 + j))))))] := hD.sub [1, 2, 3, 0] (by decide) rfl
  exact k_iret () hx hb hr (by first | rfl | decide | exact vp_nar_int _) hlocks hK hP hD hS (rfl) (rfl) (Nat.le_of_ble_eq_true rfl) (Nat.le_of_ble_eq_true rfl) dL_end_19

set_option maxRecDepth 100000 in
set_option maxHeartbeats 4000000 in
theorem c_L_endA (l : Launch) (D : va_G) (cI cB cJ cS : ClassId) (hl9 : l.stackTraces = false) (x sa a rs rd wt : Nat) (z : Int32) (hz : z < 0 ∨ nI 20 < z) (o : Nat) (fo : Nat → Int64)  : kM l yL_end vsL_end ({ frames := 7, cells := 1, slots := 6, locals := 103 }) D (kT cI cB cJ cS) [.ref x, .int z, .ref o] [(x, .inr (4, [.ref sa, .ref a, .ref rs, .ref rd, .ref wt])), (o, .inl (cJ, 1, .inr (.inl fo)))] (kQi D (kT cI cB cJ cS) (fun r (ug : Unit) => r = nI 1) (fun ug => [(x, .inr (4, [.ref sa, .ref a, .ref rs, .ref rd, .ref wt])), (o, .inl (cJ, 1, .inr (.inl fo)))])) := by
  refine k_ofH (by decide) rfl (Nat.le_of_ble_eq_true rfl) ?_
  intro p e s m below meth c A ls hx hb hr hts hown hlocks hmn hml hA hP hK hD hS hZ hl htab
  have inX6 : ∀ w ∈ wsX60, w ∈ vsL_end := fun w h => List.mem_cons_of_mem _ (iaX6 w h)
  have F : CallFix p m c cL_end 4 s _ vsL_end RL := ⟨hx, hb, hml, hown, hts⟩
  have hl : lv_has ls 4 [(0, .ref x), (1, .int z), (2, .ref o)] := hl
  refine lv_aload_n hx hb dL_end_0 rfl (lv_at hl 2 rfl) ?_
  refine lv_iconst (v := nI 0) hx hb dL_end_1 (by decide) ?_
  refine lv_aload_n hx hb dL_end_2 rfl (lv_at hl 0 rfl) ?_
  refine lv_iload_n hx hb dL_end_3 rfl (lv_at hl 1 rfl) ?_
  refine k_cx (wr := [(x, .inr (4, [.ref sa, .ref a, .ref rs, .ref rd, .ref wt])), (o, .inl (cJ, 1, .inr (.inl fo)))]) (k_rvX F (c_endA l D cI cB cJ cS hl9 x z hz) (cwV 1 hts (g_V wd_330 wd_331 wd_332 wd_8 wd_333) rfl rfl rfl (by decide +kernel) ⟨Nat.le_of_ble_eq_true rfl, Nat.le_of_ble_eq_true rfl⟩) hK hP hD hS hA hZ [] rfl (by decide) 0 rfl rfl rfl rfl hl.1 rfl (Nat.le_of_ble_eq_true rfl) dL_end_4 ⟨Nat.le_of_ble_eq_true rfl, Nat.le_of_ble_eq_true rfl⟩) hP hD hS hA [] [0, 1] rfl rfl (by decide) (by decide) (fun q9 ce H locs hP hD hS hce hcv hcl => ?_)
  have hP : va_P D kCl [(x, .inr (4, [.ref sa, .ref a, .ref rs, .ref rd, .ref wt])), (o, .inl (cJ, 1, .inr (.inl fo)))] H := hP
  have hD : va_D A [(x, .inr (4, [.ref sa, .ref a, .ref rs, .ref rd, .ref wt])), (o, .inl (cJ, 1, .inr (.inl fo)))] := hD
  refine vx_widen (k := 1) (n := 6) (Nat.le_of_ble_eq_true rfl) (Nat.le_of_ble_eq_true rfl) ?_
  refine vx_catch (E := "java/lang/IllegalArgumentException") (name := "java/lang/IllegalArgumentException") hown [] ⟨0, 9, 12, 19⟩ [⟨0, 9, 15, 13⟩] (by rw [htab]; rfl) (fun z hz => nomatch hz) (by decide) (by decide) (hts (.classLink RL 19 "java/lang/IllegalArgumentException") (List.mem_cons_of_mem _ wd_334)) (va_Nw.use rfl (hZ.nw (w := .castable "java/lang/IllegalArgumentException" "java/lang/IllegalArgumentException") (by decide +kernel))) hce hcv hcl ?_
  refine lv_astore_n (lv' := [(3, .ref q9), (0, .ref x), (1, .int z), (2, .ref o)]) hx hb dL_end_12 rfl hl (by decide) rfl (fun ls hl => ?_)
  refine lv_iconst (v := nI 1) hx hb dL_end_13 (by decide) ?_
  exact k_iret () hx hb hr (by first | rfl | decide | exact vp_nar_int _) hlocks hK hP hD hS (rfl) (rfl) (Nat.le_of_ble_eq_true rfl) (Nat.le_of_ble_eq_true rfl) dL_end_14

set_option maxRecDepth 100000 in
set_option maxHeartbeats 4000000 in
theorem c_L_endS (l : Launch) (D : va_G) (cI cB cJ cS : ClassId) (hl9 : l.stackTraces = false) (x sa a rs rd wt : Nat) (ab n : Nat) (b : Nat → Nat) (hn20 : n < 20) (j : Nat) (hj : j ≤ 20) (o : Nat) (fo : Nat → Int64)  : kM l yL_end vsL_end ({ frames := 7, cells := 1, slots := 6, locals := 103 }) D (kT cI cB cJ cS) [.ref x, .int (nI j), .ref o] [(x, .inr (4, [.ref sa, .ref a, .ref rs, .ref rd, .ref wt])), (a, .inr (1, [.ref ab, .int (nI n)])), (ab, .inl (cB, 65536, .inl (bF b))), (o, .inl (cJ, 1, .inr (.inl fo)))] (kQi D (kT cI cB cJ cS) (fun r (ug : Unit) => r = nI 2) (fun ug => [(x, .inr (4, [.ref sa, .ref a, .ref rs, .ref rd, .ref wt])), (a, .inr (1, [.ref ab, .int (nI n)])), (ab, .inl (cB, 65536, .inl (bF b))), (o, .inl (cJ, 1, .inr (.inl fo)))])) := by
  refine k_ofH (by decide) rfl (Nat.le_of_ble_eq_true rfl) ?_
  intro p e s m below meth c A ls hx hb hr hts hown hlocks hmn hml hA hP hK hD hS hZ hl htab
  have inX3 : ∀ w ∈ wsX30, w ∈ vsL_end := fun w h => List.mem_cons_of_mem _ (iaX3 w h)
  have inX6 : ∀ w ∈ wsX60, w ∈ vsL_end := fun w h => List.mem_cons_of_mem _ (iaX6 w h)
  have F : CallFix p m c cL_end 4 s _ vsL_end RL := ⟨hx, hb, hml, hown, hts⟩
  have hl : lv_has ls 4 [(0, .ref x), (1, .int (nI j)), (2, .ref o)] := hl
  refine lv_aload_n hx hb dL_end_0 rfl (lv_at hl 2 rfl) ?_
  refine lv_iconst (v := nI 0) hx hb dL_end_1 (by decide) ?_
  refine lv_aload_n hx hb dL_end_2 rfl (lv_at hl 0 rfl) ?_
  refine lv_iload_n hx hb dL_end_3 rfl (lv_at hl 1 rfl) ?_
  refine k_cx (wr := [(o, .inl (cJ, 1, .inr (.inl fo)))]) (k_rvX F (c_endS l D cI cB cJ cS hl9 x sa a rs rd wt ab n b hn20 j hj) (cwV 1 hts (g_V wd_330 wd_331 wd_332 wd_8 wd_333) rfl rfl rfl (by decide +kernel) ⟨Nat.le_of_ble_eq_true rfl, Nat.le_of_ble_eq_true rfl⟩) hK hP hD hS hA hZ [0, 1, 2] rfl (by decide) 0 rfl rfl rfl rfl hl.1 rfl (Nat.le_of_ble_eq_true rfl) dL_end_4 ⟨Nat.le_of_ble_eq_true rfl, Nat.le_of_ble_eq_true rfl⟩) hP hD hS hA [0, 1, 2] [3] rfl rfl (by decide) (by decide) (fun q9 ce H locs hP hD hS hce hcv hcl => ?_)
  have hP : va_P D kCl [(o, .inl (cJ, 1, .inr (.inl fo))), (x, .inr (4, [.ref sa, .ref a, .ref rs, .ref rd, .ref wt])), (a, .inr (1, [.ref ab, .int (nI n)])), (ab, .inl (cB, 65536, .inl (bF b)))] H := hP
  have hD : va_D A [(o, .inl (cJ, 1, .inr (.inl fo))), (x, .inr (4, [.ref sa, .ref a, .ref rs, .ref rd, .ref wt])), (a, .inr (1, [.ref ab, .int (nI n)])), (ab, .inl (cB, 65536, .inl (bF b)))] := hD
  refine vx_widen (k := 1) (n := 6) (Nat.le_of_ble_eq_true rfl) (Nat.le_of_ble_eq_true rfl) ?_
  refine vx_catch (E := "java/lang/IllegalStateException") (name := "java/lang/IllegalStateException") hown [⟨0, 9, 12, 19⟩] ⟨0, 9, 15, 13⟩ [] (by rw [htab]; rfl) (fun z hz => by
      simp only [List.mem_cons, List.not_mem_nil, or_false] at hz
      rcases hz with rfl
      · exact Or.inr ⟨by decide, "java/lang/IllegalArgumentException", hts (.classLink RL 19 "java/lang/IllegalArgumentException") (List.mem_cons_of_mem _ wd_334), hZ.nc (q := ("java/lang/IllegalStateException", "java/lang/IllegalArgumentException")) (by decide +kernel)⟩) (by decide) (by decide) (hts (.classLink RL 13 "java/lang/IllegalStateException") (List.mem_cons_of_mem _ wd_329)) (va_Nw.use rfl (hZ.nw (w := .castable "java/lang/IllegalStateException" "java/lang/IllegalStateException") (by decide +kernel))) hce hcv hcl ?_
  refine lv_astore_n (lv' := [(3, .ref q9), (0, .ref x), (1, .int (nI j)), (2, .ref o)]) hx hb dL_end_15 rfl hl (by decide) rfl (fun ls hl => ?_)
  refine lv_iconst (v := nI 2) hx hb dL_end_16 (by decide) ?_
  have hP : va_P D kCl [(x, .inr (4, [.ref sa, .ref a, .ref rs, .ref rd, .ref wt])), (a, .inr (1, [.ref ab, .int (nI n)])), (ab, .inl (cB, 65536, .inl (bF b))), (o, .inl (cJ, 1, .inr (.inl fo)))] H := hP.sub [1, 2, 3, 0] rfl
  have hD : va_D A [(x, .inr (4, [.ref sa, .ref a, .ref rs, .ref rd, .ref wt])), (a, .inr (1, [.ref ab, .int (nI n)])), (ab, .inl (cB, 65536, .inl (bF b))), (o, .inl (cJ, 1, .inr (.inl fo)))] := hD.sub [1, 2, 3, 0] (by decide) rfl
  exact k_iret () hx hb hr (by first | rfl | decide | exact vp_nar_int _) hlocks hK hP hD hS (rfl) (rfl) (Nat.le_of_ble_eq_true rfl) (Nat.le_of_ble_eq_true rfl) dL_end_17

set_option maxRecDepth 100000 in
set_option maxHeartbeats 4000000 in
theorem c_L_read (l : Launch) (D : va_G) (cI cB cJ cS : ClassId) (x sa rs wt : Nat) (f : Nat → Option Nat) (k : Nat) (hk : k < 4) (rd jl jd a ab sh sn sv u w t lo wr pl n PN pn VN vn : Nat) (cl cd b pf : Nat → Nat) (fv : Nat → Int32) (vo wo : Value) (hn : n ≤ 65536) (hlo2 : lo < 2) (hPN : PN ≤ 4096) (hVN : VN ≤ 8192) (h2 : 2 ≤ VN) (hb256 : ∀ j, b j < 256) (hu1 : 1 ≤ u) (hu2 : u ≤ 1000) (hcl : ∀ i, cl i < 2 ^ 32) (hf : f k = some sh) (k1 w1 t1 lo1 wr1 pl1 pn1 vn1 : Nat) (cl1 cd1 pf1 : Nat → Nat) (fv1 : Nat → Int32) (hk1 : k1 = 1) (hs : sAll b n u PN VN lo cl cd pf fv = (k1, (w1, t1, lo1, wr1, pl1, pn1, vn1, cl1, cd1, pf1, fv1))) (hpn0 : 1 ≤ pn1) (hpn1 : pn1 ≤ PN) (hkd : pf1 0 < 2 ^ 31) (o : Nat) (fo : Nat → Int64)  : kM l yL_read vsL_read ({ frames := 7, cells := 0, slots := 0, locals := 168 }) D (kT cI cB cJ cS) [.ref x, .int (nI k), .ref o] [(x, .inr (4, [.ref sa, .ref a, .ref rs, .ref rd, .ref wt])), (sa, .inl (cS, 4, .inr (.inr (.inr (.inr f))))), (rd, .inr (0, [.int (nI u), .ref jl, .ref jd, .int (nI w), vo, wo, .int (nI t), .int (nI lo), .int (nI wr), .int (nI pl)])), (jl, .inl (cJ, 54, .inr (.inl (lF cl)))), (jd, .inl (cI, 54, .inl (iF cd))), (a, .inr (1, [.ref ab, .int (nI n)])), (ab, .inl (cB, 65536, .inl (bF b))), (sh, .inr (2, [.ref sn, .ref sv, .int (nI pn), .int (nI vn)])), (sn, .inl (cI, PN, .inl (iF pf))), (sv, .inl (cI, VN, .inl fv)), (o, .inl (cJ, 1, .inr (.inl fo)))] (kQi D (kT cI cB cJ cS) (fun r (ug : Unit) => r = nI 0) (fun ug => [(x, .inr (4, [.ref sa, .ref a, .ref rs, .ref rd, .ref wt])), (sa, .inl (cS, 4, .inr (.inr (.inr (.inr f))))), (rd, .inr (0, [.int (nI u), .ref jl, .ref jd, .int (nI w1), .ref a, .ref sh, .int (nI t1), .int (nI lo1), .int (nI wr1), .int (nI pl1)])), (jl, .inl (cJ, 54, .inr (.inl (lF cl1)))), (jd, .inl (cI, 54, .inl (iF cd1))), (a, .inr (1, [.ref ab, .int (nI 0)])), (ab, .inl (cB, 65536, .inl (bF b))), (sh, .inr (2, [.ref sn, .ref sv, .int (nI pn1), .int (nI vn1)])), (sn, .inl (cI, PN, .inl (iF pf1))), (sv, .inl (cI, VN, .inl fv1)), (o, .inl (cJ, 1, .inr (.inl (vp_updL fo 0 (lN (pf1 0))))))])) := by
  refine k_ofH (by decide) rfl (Nat.le_of_ble_eq_true rfl) ?_
  intro p e s m below meth c A ls hx hb hr hts hown hlocks hmn hml hA hP hK hD hS hZ hl htab
  have inX2 : ∀ w ∈ wsX20, w ∈ vsL_read := fun w h => List.mem_cons_of_mem _ (iaX2 w h)
  have inX3 : ∀ w ∈ wsX30, w ∈ vsL_read := fun w h => List.mem_cons_of_mem _ (iaX3 w h)
  have inX4 : ∀ w ∈ wsX40, w ∈ vsL_read := fun w h => List.mem_cons_of_mem _ (iaX4 w h)
  have inX6 : ∀ w ∈ wsX60, w ∈ vsL_read := fun w h => List.mem_cons_of_mem _ (iaX6 w h)
  have F : CallFix p m c cL_read 4 s _ vsL_read RL := ⟨hx, hb, hml, hown, hts⟩
  have hl : lv_has ls 4 [(0, .ref x), (1, .int (nI k)), (2, .ref o)] := hl
  refine lv_aload_n hx hb dL_read_0 rfl (lv_at hl 2 rfl) ?_
  refine lv_iconst (v := nI 0) hx hb dL_read_1 (by decide) ?_
  refine lv_aload_n hx hb dL_read_2 rfl (lv_at hl 0 rfl) ?_
  refine lv_iload_n hx hb dL_read_3 rfl (lv_at hl 1 rfl) ?_
  refine k_ci (wr := [(o, .inl (cJ, 1, .inr (.inl fo)))]) (k_rv F (c_read l D cI cB cJ cS x sa rs wt f k hk rd jl jd a ab sh sn sv u w t lo wr pl n PN pn VN vn cl cd b pf fv vo wo hn hlo2 hPN hVN h2 hb256 hu1 hu2 hcl hf k1 w1 t1 lo1 wr1 pl1 pn1 vn1 cl1 cd1 pf1 fv1 hk1 hs hpn0 hpn1) (cwV 1 hts (g_V wd_335 wd_336 wd_337 wd_8 wd_338) rfl rfl rfl (by decide +kernel) ⟨Nat.le_of_ble_eq_true rfl, Nat.le_of_ble_eq_true rfl⟩) hK hP hD hS hA hZ [0, 1, 2, 3, 4, 5, 6, 7, 8, 9] rfl (by decide) 0 rfl rfl rfl rfl hl.1 rfl (Nat.le_of_ble_eq_true rfl) dL_read_4 ⟨Nat.le_of_ble_eq_true rfl, Nat.le_of_ble_eq_true rfl⟩) hP hD hS hA [0, 1, 2, 3, 4, 5, 6, 7, 8, 9] [10] rfl rfl (by decide) (by decide) (fun r u9 H locs hw hP hD hS => ?_)
  subst hw
  have hP : va_P D kCl [(o, .inl (cJ, 1, .inr (.inl fo))), (x, .inr (4, [.ref sa, .ref a, .ref rs, .ref rd, .ref wt])), (sa, .inl (cS, 4, .inr (.inr (.inr (.inr f))))), (rd, .inr (0, [.int (nI u), .ref jl, .ref jd, .int (nI w1), .ref a, .ref sh, .int (nI t1), .int (nI lo1), .int (nI wr1), .int (nI pl1)])), (jl, .inl (cJ, 54, .inr (.inl (lF cl1)))), (jd, .inl (cI, 54, .inl (iF cd1))), (a, .inr (1, [.ref ab, .int (nI 0)])), (ab, .inl (cB, 65536, .inl (bF b))), (sh, .inr (2, [.ref sn, .ref sv, .int (nI pn1), .int (nI vn1)])), (sn, .inl (cI, PN, .inl (iF pf1))), (sv, .inl (cI, VN, .inl fv1))] H := hP
  have hD : va_D A [(o, .inl (cJ, 1, .inr (.inl fo))), (x, .inr (4, [.ref sa, .ref a, .ref rs, .ref rd, .ref wt])), (sa, .inl (cS, 4, .inr (.inr (.inr (.inr f))))), (rd, .inr (0, [.int (nI u), .ref jl, .ref jd, .int (nI w1), .ref a, .ref sh, .int (nI t1), .int (nI lo1), .int (nI wr1), .int (nI pl1)])), (jl, .inl (cJ, 54, .inr (.inl (lF cl1)))), (jd, .inl (cI, 54, .inl (iF cd1))), (a, .inr (1, [.ref ab, .int (nI 0)])), (ab, .inl (cB, 65536, .inl (bF b))), (sh, .inr (2, [.ref sn, .ref sv, .int (nI pn1), .int (nI vn1)])), (sn, .inl (cI, PN, .inl (iF pf1))), (sv, .inl (cI, VN, .inl fv1))] := hD
  refine W.widen (k := 0) (n := 0) (Nat.le_of_ble_eq_true rfl) (Nat.le_of_ble_eq_true rfl) ?_
  refine lv_i2l (v := lN (pf1 0)) hx hb dL_read_7 (nI_l (by omega)) ?_
  refine va_last hx hb hK hP hD hS 0 2 rfl rfl (vp_in_nI (by omega) (by omega)) dL_read_8 (fun H locs hP hD hS => ?_)
  rw [show vp_updL fo (nI 0).toNatClampNeg (lN (pf1 0)) = vp_updL fo 0 (lN (pf1 0)) from by rw [nI_clamp (by omega)]] at hP hD
  have hP : va_P D kCl [(o, .inl (cJ, 1, .inr (.inl (vp_updL fo 0 (lN (pf1 0)))))), (x, .inr (4, [.ref sa, .ref a, .ref rs, .ref rd, .ref wt])), (sa, .inl (cS, 4, .inr (.inr (.inr (.inr f))))), (rd, .inr (0, [.int (nI u), .ref jl, .ref jd, .int (nI w1), .ref a, .ref sh, .int (nI t1), .int (nI lo1), .int (nI wr1), .int (nI pl1)])), (jl, .inl (cJ, 54, .inr (.inl (lF cl1)))), (jd, .inl (cI, 54, .inl (iF cd1))), (a, .inr (1, [.ref ab, .int (nI 0)])), (ab, .inl (cB, 65536, .inl (bF b))), (sh, .inr (2, [.ref sn, .ref sv, .int (nI pn1), .int (nI vn1)])), (sn, .inl (cI, PN, .inl (iF pf1))), (sv, .inl (cI, VN, .inl fv1))] H := hP
  have hD : va_D A [(o, .inl (cJ, 1, .inr (.inl (vp_updL fo 0 (lN (pf1 0)))))), (x, .inr (4, [.ref sa, .ref a, .ref rs, .ref rd, .ref wt])), (sa, .inl (cS, 4, .inr (.inr (.inr (.inr f))))), (rd, .inr (0, [.int (nI u), .ref jl, .ref jd, .int (nI w1), .ref a, .ref sh, .int (nI t1), .int (nI lo1), .int (nI wr1), .int (nI pl1)])), (jl, .inl (cJ, 54, .inr (.inl (lF cl1)))), (jd, .inl (cI, 54, .inl (iF cd1))), (a, .inr (1, [.ref ab, .int (nI 0)])), (ab, .inl (cB, 65536, .inl (bF b))), (sh, .inr (2, [.ref sn, .ref sv, .int (nI pn1), .int (nI vn1)])), (sn, .inl (cI, PN, .inl (iF pf1))), (sv, .inl (cI, VN, .inl fv1))] := hD
  refine lv_goto (tgt := 18) hx hb dL_read_9 (by decide) ?_
  refine lv_iconst (v := nI 0) hx hb dL_read_18 (by decide) ?_
  have hP : va_P D kCl [(x, .inr (4, [.ref sa, .ref a, .ref rs, .ref rd, .ref wt])), (sa, .inl (cS, 4, .inr (.inr (.inr (.inr f))))), (rd, .inr (0, [.int (nI u), .ref jl, .ref jd, .int (nI w1), .ref a, .ref sh, .int (nI t1), .int (nI lo1), .int (nI wr1), .int (nI pl1)])), (jl, .inl (cJ, 54, .inr (.inl (lF cl1)))), (jd, .inl (cI, 54, .inl (iF cd1))), (a, .inr (1, [.ref ab, .int (nI 0)])), (ab, .inl (cB, 65536, .inl (bF b))), (sh, .inr (2, [.ref sn, .ref sv, .int (nI pn1), .int (nI vn1)])), (sn, .inl (cI, PN, .inl (iF pf1))), (sv, .inl (cI, VN, .inl fv1)), (o, .inl (cJ, 1, .inr (.inl (vp_updL fo 0 (lN (pf1 0))))))] H := hP.sub [1, 2, 3, 4, 5, 6, 7, 8, 9, 10, 0] rfl
  have hD : va_D A [(x, .inr (4, [.ref sa, .ref a, .ref rs, .ref rd, .ref wt])), (sa, .inl (cS, 4, .inr (.inr (.inr (.inr f))))), (rd, .inr (0, [.int (nI u), .ref jl, .ref jd, .int (nI w1), .ref a, .ref sh, .int (nI t1), .int (nI lo1), .int (nI wr1), .int (nI pl1)])), (jl, .inl (cJ, 54, .inr (.inl (lF cl1)))), (jd, .inl (cI, 54, .inl (iF cd1))), (a, .inr (1, [.ref ab, .int (nI 0)])), (ab, .inl (cB, 65536, .inl (bF b))), (sh, .inr (2, [.ref sn, .ref sv, .int (nI pn1), .int (nI vn1)])), (sn, .inl (cI, PN, .inl (iF pf1))), (sv, .inl (cI, VN, .inl fv1)), (o, .inl (cJ, 1, .inr (.inl (vp_updL fo 0 (lN (pf1 0))))))] := hD.sub [1, 2, 3, 4, 5, 6, 7, 8, 9, 10, 0] (by decide) rfl
  exact k_iret () hx hb hr (by first | rfl | decide | exact vp_nar_int _) hlocks hK hP hD hS (rfl) (rfl) (Nat.le_of_ble_eq_true rfl) (Nat.le_of_ble_eq_true rfl) dL_read_19

set_option maxRecDepth 100000 in
set_option maxHeartbeats 4000000 in
theorem c_L_readA (l : Launch) (D : va_G) (cI cB cJ cS : ClassId) (hl9 : l.stackTraces = false) (x sa rs wt : Nat) (f : Nat → Option Nat) (k : Nat) (hk : k < 4) (rd jl jd a ab sh sn sv u w t lo wr pl n PN pn VN vn : Nat) (cl cd b pf : Nat → Nat) (fv : Nat → Int32) (vo wo : Value) (hn : n ≤ 65536) (hlo2 : lo < 2) (hPN : PN ≤ 4096) (hVN : VN ≤ 8192) (h2 : 2 ≤ VN) (hb256 : ∀ j, b j < 256) (hu1 : 1 ≤ u) (hu2 : u ≤ 1000) (hcl : ∀ i, cl i < 2 ^ 32) (hf : f k = some sh) (k1 w1 t1 lo1 wr1 pl1 pn1 vn1 : Nat) (cl1 cd1 pf1 : Nat → Nat) (fv1 : Nat → Int32) (hk1 : k1 = 0) (hs : sAll b n u PN VN lo cl cd pf fv = (k1, (w1, t1, lo1, wr1, pl1, pn1, vn1, cl1, cd1, pf1, fv1))) (o : Nat) (fo : Nat → Int64)  : kM l yL_read vsL_read ({ frames := 7, cells := 1, slots := 6, locals := 168 }) D (kT cI cB cJ cS) [.ref x, .int (nI k), .ref o] [(x, .inr (4, [.ref sa, .ref a, .ref rs, .ref rd, .ref wt])), (sa, .inl (cS, 4, .inr (.inr (.inr (.inr f))))), (rd, .inr (0, [.int (nI u), .ref jl, .ref jd, .int (nI w), vo, wo, .int (nI t), .int (nI lo), .int (nI wr), .int (nI pl)])), (jl, .inl (cJ, 54, .inr (.inl (lF cl)))), (jd, .inl (cI, 54, .inl (iF cd))), (a, .inr (1, [.ref ab, .int (nI n)])), (ab, .inl (cB, 65536, .inl (bF b))), (sh, .inr (2, [.ref sn, .ref sv, .int (nI pn), .int (nI vn)])), (sn, .inl (cI, PN, .inl (iF pf))), (sv, .inl (cI, VN, .inl fv)), (o, .inl (cJ, 1, .inr (.inl fo)))] (kQi D (kT cI cB cJ cS) (fun r (ug : Unit) => r = nI 2) (fun ug => [(x, .inr (4, [.ref sa, .ref a, .ref rs, .ref rd, .ref wt])), (sa, .inl (cS, 4, .inr (.inr (.inr (.inr f))))), (rd, .inr (0, [.int (nI u), .ref jl, .ref jd, .int (nI w1), .ref a, .ref sh, .int (nI t1), .int (nI lo1), .int (nI wr1), .int (nI pl1)])), (jl, .inl (cJ, 54, .inr (.inl (lF cl1)))), (jd, .inl (cI, 54, .inl (iF cd1))), (a, .inr (1, [.ref ab, .int (nI 0)])), (ab, .inl (cB, 65536, .inl (bF b))), (sh, .inr (2, [.ref sn, .ref sv, .int (nI pn1), .int (nI vn1)])), (sn, .inl (cI, PN, .inl (iF pf1))), (sv, .inl (cI, VN, .inl fv1)), (o, .inl (cJ, 1, .inr (.inl fo)))])) := by
  refine k_ofH (by decide) rfl (Nat.le_of_ble_eq_true rfl) ?_
  intro p e s m below meth c A ls hx hb hr hts hown hlocks hmn hml hA hP hK hD hS hZ hl htab
  have inX2 : ∀ w ∈ wsX20, w ∈ vsL_read := fun w h => List.mem_cons_of_mem _ (iaX2 w h)
  have inX3 : ∀ w ∈ wsX30, w ∈ vsL_read := fun w h => List.mem_cons_of_mem _ (iaX3 w h)
  have inX4 : ∀ w ∈ wsX40, w ∈ vsL_read := fun w h => List.mem_cons_of_mem _ (iaX4 w h)
  have inX6 : ∀ w ∈ wsX60, w ∈ vsL_read := fun w h => List.mem_cons_of_mem _ (iaX6 w h)
  have F : CallFix p m c cL_read 4 s _ vsL_read RL := ⟨hx, hb, hml, hown, hts⟩
  have hl : lv_has ls 4 [(0, .ref x), (1, .int (nI k)), (2, .ref o)] := hl
  refine lv_aload_n hx hb dL_read_0 rfl (lv_at hl 2 rfl) ?_
  refine lv_iconst (v := nI 0) hx hb dL_read_1 (by decide) ?_
  refine lv_aload_n hx hb dL_read_2 rfl (lv_at hl 0 rfl) ?_
  refine lv_iload_n hx hb dL_read_3 rfl (lv_at hl 1 rfl) ?_
  refine k_cx (wr := [(o, .inl (cJ, 1, .inr (.inl fo)))]) (k_rvX F (c_readA l D cI cB cJ cS hl9 x sa rs wt f k hk rd jl jd a ab sh sn sv u w t lo wr pl n PN pn VN vn cl cd b pf fv vo wo hn hlo2 hPN hVN h2 hb256 hu1 hu2 hcl hf k1 w1 t1 lo1 wr1 pl1 pn1 vn1 cl1 cd1 pf1 fv1 hk1 hs) (cwV 1 hts (g_V wd_335 wd_336 wd_337 wd_8 wd_338) rfl rfl rfl (by decide +kernel) ⟨Nat.le_of_ble_eq_true rfl, Nat.le_of_ble_eq_true rfl⟩) hK hP hD hS hA hZ [0, 1, 2, 3, 4, 5, 6, 7, 8, 9] rfl (by decide) 0 rfl rfl rfl rfl hl.1 rfl (Nat.le_of_ble_eq_true rfl) dL_read_4 ⟨Nat.le_of_ble_eq_true rfl, Nat.le_of_ble_eq_true rfl⟩) hP hD hS hA [0, 1, 2, 3, 4, 5, 6, 7, 8, 9] [10] rfl rfl (by decide) (by decide) (fun q9 ce H locs hP hD hS hce hcv hcl => ?_)
  have hP : va_P D kCl [(o, .inl (cJ, 1, .inr (.inl fo))), (x, .inr (4, [.ref sa, .ref a, .ref rs, .ref rd, .ref wt])), (sa, .inl (cS, 4, .inr (.inr (.inr (.inr f))))), (rd, .inr (0, [.int (nI u), .ref jl, .ref jd, .int (nI w1), .ref a, .ref sh, .int (nI t1), .int (nI lo1), .int (nI wr1), .int (nI pl1)])), (jl, .inl (cJ, 54, .inr (.inl (lF cl1)))), (jd, .inl (cI, 54, .inl (iF cd1))), (a, .inr (1, [.ref ab, .int (nI 0)])), (ab, .inl (cB, 65536, .inl (bF b))), (sh, .inr (2, [.ref sn, .ref sv, .int (nI pn1), .int (nI vn1)])), (sn, .inl (cI, PN, .inl (iF pf1))), (sv, .inl (cI, VN, .inl fv1))] H := hP
  have hD : va_D A [(o, .inl (cJ, 1, .inr (.inl fo))), (x, .inr (4, [.ref sa, .ref a, .ref rs, .ref rd, .ref wt])), (sa, .inl (cS, 4, .inr (.inr (.inr (.inr f))))), (rd, .inr (0, [.int (nI u), .ref jl, .ref jd, .int (nI w1), .ref a, .ref sh, .int (nI t1), .int (nI lo1), .int (nI wr1), .int (nI pl1)])), (jl, .inl (cJ, 54, .inr (.inl (lF cl1)))), (jd, .inl (cI, 54, .inl (iF cd1))), (a, .inr (1, [.ref ab, .int (nI 0)])), (ab, .inl (cB, 65536, .inl (bF b))), (sh, .inr (2, [.ref sn, .ref sv, .int (nI pn1), .int (nI vn1)])), (sn, .inl (cI, PN, .inl (iF pf1))), (sv, .inl (cI, VN, .inl fv1))] := hD
  refine vx_widen (k := 1) (n := 6) (Nat.le_of_ble_eq_true rfl) (Nat.le_of_ble_eq_true rfl) ?_
  refine vx_catch (E := "java/lang/IllegalArgumentException") (name := "java/lang/IllegalArgumentException") hown [⟨0, 9, 12, 24⟩] ⟨0, 9, 15, 19⟩ [] (by rw [htab]; rfl) (fun z hz => by
      simp only [List.mem_cons, List.not_mem_nil, or_false] at hz
      rcases hz with rfl
      · exact Or.inr ⟨by decide, "java/lang/IndexOutOfBoundsException", hts (.classLink RL 24 "java/lang/IndexOutOfBoundsException") (List.mem_cons_of_mem _ wd_339), hZ.nc (q := ("java/lang/IllegalArgumentException", "java/lang/IndexOutOfBoundsException")) (by decide +kernel)⟩) (by decide) (by decide) (hts (.classLink RL 19 "java/lang/IllegalArgumentException") (List.mem_cons_of_mem _ wd_334)) (va_Nw.use rfl (hZ.nw (w := .castable "java/lang/IllegalArgumentException" "java/lang/IllegalArgumentException") (by decide +kernel))) hce hcv hcl ?_
  refine lv_astore_n (lv' := [(3, .ref q9), (0, .ref x), (1, .int (nI k)), (2, .ref o)]) hx hb dL_read_15 rfl hl (by decide) rfl (fun ls hl => ?_)
  refine lv_iconst (v := nI 2) hx hb dL_read_16 (by decide) ?_
  have hP : va_P D kCl [(x, .inr (4, [.ref sa, .ref a, .ref rs, .ref rd, .ref wt])), (sa, .inl (cS, 4, .inr (.inr (.inr (.inr f))))), (rd, .inr (0, [.int (nI u), .ref jl, .ref jd, .int (nI w1), .ref a, .ref sh, .int (nI t1), .int (nI lo1), .int (nI wr1), .int (nI pl1)])), (jl, .inl (cJ, 54, .inr (.inl (lF cl1)))), (jd, .inl (cI, 54, .inl (iF cd1))), (a, .inr (1, [.ref ab, .int (nI 0)])), (ab, .inl (cB, 65536, .inl (bF b))), (sh, .inr (2, [.ref sn, .ref sv, .int (nI pn1), .int (nI vn1)])), (sn, .inl (cI, PN, .inl (iF pf1))), (sv, .inl (cI, VN, .inl fv1)), (o, .inl (cJ, 1, .inr (.inl fo)))] H := hP.sub [1, 2, 3, 4, 5, 6, 7, 8, 9, 10, 0] rfl
  have hD : va_D A [(x, .inr (4, [.ref sa, .ref a, .ref rs, .ref rd, .ref wt])), (sa, .inl (cS, 4, .inr (.inr (.inr (.inr f))))), (rd, .inr (0, [.int (nI u), .ref jl, .ref jd, .int (nI w1), .ref a, .ref sh, .int (nI t1), .int (nI lo1), .int (nI wr1), .int (nI pl1)])), (jl, .inl (cJ, 54, .inr (.inl (lF cl1)))), (jd, .inl (cI, 54, .inl (iF cd1))), (a, .inr (1, [.ref ab, .int (nI 0)])), (ab, .inl (cB, 65536, .inl (bF b))), (sh, .inr (2, [.ref sn, .ref sv, .int (nI pn1), .int (nI vn1)])), (sn, .inl (cI, PN, .inl (iF pf1))), (sv, .inl (cI, VN, .inl fv1)), (o, .inl (cJ, 1, .inr (.inl fo)))] := hD.sub [1, 2, 3, 4, 5, 6, 7, 8, 9, 10, 0] (by decide) rfl
  exact k_iret () hx hb hr (by first | rfl | decide | exact vp_nar_int _) hlocks hK hP hD hS (rfl) (rfl) (Nat.le_of_ble_eq_true rfl) (Nat.le_of_ble_eq_true rfl) dL_read_17

set_option maxRecDepth 100000 in
set_option maxHeartbeats 4000000 in
theorem c_L_readI (l : Launch) (D : va_G) (cI cB cJ cS : ClassId) (hl9 : l.stackTraces = false) (x sa a rs rd wt : Nat) (ab n : Nat) (b : Nat → Nat) (hn : n ≤ 65536) (z : Int32) (hz : z < 0 ∨ nI 4 ≤ z) (o : Nat) (fo : Nat → Int64)  : kM l yL_read vsL_read ({ frames := 7, cells := 1, slots := 6, locals := 105 }) D (kT cI cB cJ cS) [.ref x, .int z, .ref o] [(x, .inr (4, [.ref sa, .ref a, .ref rs, .ref rd, .ref wt])), (a, .inr (1, [.ref ab, .int (nI n)])), (ab, .inl (cB, 65536, .inl (bF b))), (o, .inl (cJ, 1, .inr (.inl fo)))] (kQi D (kT cI cB cJ cS) (fun r (ug : Unit) => r = nI 1) (fun ug => [(x, .inr (4, [.ref sa, .ref a, .ref rs, .ref rd, .ref wt])), (a, .inr (1, [.ref ab, .int (nI 0)])), (ab, .inl (cB, 65536, .inl (bF b))), (o, .inl (cJ, 1, .inr (.inl fo)))])) := by
  refine k_ofH (by decide) rfl (Nat.le_of_ble_eq_true rfl) ?_
  intro p e s m below meth c A ls hx hb hr hts hown hlocks hmn hml hA hP hK hD hS hZ hl htab
  have inX3 : ∀ w ∈ wsX30, w ∈ vsL_read := fun w h => List.mem_cons_of_mem _ (iaX3 w h)
  have inX6 : ∀ w ∈ wsX60, w ∈ vsL_read := fun w h => List.mem_cons_of_mem _ (iaX6 w h)
  have F : CallFix p m c cL_read 4 s _ vsL_read RL := ⟨hx, hb, hml, hown, hts⟩
  have hl : lv_has ls 4 [(0, .ref x), (1, .int z), (2, .ref o)] := hl
  refine lv_aload_n hx hb dL_read_0 rfl (lv_at hl 2 rfl) ?_
  refine lv_iconst (v := nI 0) hx hb dL_read_1 (by decide) ?_
  refine lv_aload_n hx hb dL_read_2 rfl (lv_at hl 0 rfl) ?_
  refine lv_iload_n hx hb dL_read_3 rfl (lv_at hl 1 rfl) ?_
  refine k_cx (wr := [(o, .inl (cJ, 1, .inr (.inl fo)))]) (k_rvX F (c_readI l D cI cB cJ cS hl9 x sa a rs rd wt ab n b hn z hz) (cwV 1 hts (g_V wd_335 wd_336 wd_337 wd_8 wd_338) rfl rfl rfl (by decide +kernel) ⟨Nat.le_of_ble_eq_true rfl, Nat.le_of_ble_eq_true rfl⟩) hK hP hD hS hA hZ [0, 1, 2] rfl (by decide) 0 rfl rfl rfl rfl hl.1 rfl (Nat.le_of_ble_eq_true rfl) dL_read_4 ⟨Nat.le_of_ble_eq_true rfl, Nat.le_of_ble_eq_true rfl⟩) hP hD hS hA [0, 1, 2] [3] rfl rfl (by decide) (by decide) (fun q9 ce H locs hP hD hS hce hcv hcl => ?_)
  have hP : va_P D kCl [(o, .inl (cJ, 1, .inr (.inl fo))), (x, .inr (4, [.ref sa, .ref a, .ref rs, .ref rd, .ref wt])), (a, .inr (1, [.ref ab, .int (nI 0)])), (ab, .inl (cB, 65536, .inl (bF b)))] H := hP
  have hD : va_D A [(o, .inl (cJ, 1, .inr (.inl fo))), (x, .inr (4, [.ref sa, .ref a, .ref rs, .ref rd, .ref wt])), (a, .inr (1, [.ref ab, .int (nI 0)])), (ab, .inl (cB, 65536, .inl (bF b)))] := hD
  refine vx_widen (k := 1) (n := 6) (Nat.le_of_ble_eq_true rfl) (Nat.le_of_ble_eq_true rfl) ?_
  refine vx_catch (E := "java/lang/IndexOutOfBoundsException") (name := "java/lang/IndexOutOfBoundsException") hown [] ⟨0, 9, 12, 24⟩ [⟨0, 9, 15, 19⟩] (by rw [htab]; rfl) (fun z hz => nomatch hz) (by decide) (by decide) (hts (.classLink RL 24 "java/lang/IndexOutOfBoundsException") (List.mem_cons_of_mem _ wd_339)) (va_Nw.use rfl (hZ.nw (w := .castable "java/lang/IndexOutOfBoundsException" "java/lang/IndexOutOfBoundsException") (by decide +kernel))) hce hcv hcl ?_
  refine lv_astore_n (lv' := [(3, .ref q9), (0, .ref x), (1, .int z), (2, .ref o)]) hx hb dL_read_12 rfl hl (by decide) rfl (fun ls hl => ?_)
  refine lv_iconst (v := nI 1) hx hb dL_read_13 (by decide) ?_
  have hP : va_P D kCl [(x, .inr (4, [.ref sa, .ref a, .ref rs, .ref rd, .ref wt])), (a, .inr (1, [.ref ab, .int (nI 0)])), (ab, .inl (cB, 65536, .inl (bF b))), (o, .inl (cJ, 1, .inr (.inl fo)))] H := hP.sub [1, 2, 3, 0] rfl
  have hD : va_D A [(x, .inr (4, [.ref sa, .ref a, .ref rs, .ref rd, .ref wt])), (a, .inr (1, [.ref ab, .int (nI 0)])), (ab, .inl (cB, 65536, .inl (bF b))), (o, .inl (cJ, 1, .inr (.inl fo)))] := hD.sub [1, 2, 3, 0] (by decide) rfl
  exact k_iret () hx hb hr (by first | rfl | decide | exact vp_nar_int _) hlocks hK hP hD hS (rfl) (rfl) (Nat.le_of_ble_eq_true rfl) (Nat.le_of_ble_eq_true rfl) dL_read_14

set_option maxRecDepth 100000 in
set_option maxHeartbeats 4000000 in
theorem c_L_fault0 (l : Launch) (D : va_G) (cI cB cJ cS : ClassId) (x sa a rs wt : Nat) (rd jl jd u w t lo wr pl : Nat) (vo wo : Value) (hwr : wr < 2 ^ 31) (hpl : pl < 2 ^ 31) (o : Nat) (fo : Nat → Int64)  : kM l yL_fault vsL_fault ({ frames := 2, cells := 0, slots := 0, locals := 41 }) D (kT cI cB cJ cS) [.ref x, .int (nI 0), .ref o] [(x, .inr (4, [.ref sa, .ref a, .ref rs, .ref rd, .ref wt])), (rd, .inr (0, [.int (nI u), .ref jl, .ref jd, .int (nI w), vo, wo, .int (nI t), .int (nI lo), .int (nI wr), .int (nI pl)])), (o, .inl (cJ, 1, .inr (.inl fo)))] (kQi D (kT cI cB cJ cS) (fun r (ug : Unit) => r = nI 0) (fun ug => [(x, .inr (4, [.ref sa, .ref a, .ref rs, .ref rd, .ref wt])), (rd, .inr (0, [.int (nI u), .ref jl, .ref jd, .int (nI w), vo, wo, .int (nI t), .int (nI lo), .int (nI wr), .int (nI pl)])), (o, .inl (cJ, 1, .inr (.inl (vp_updL fo 0 (lN wr)))))])) := by
  refine k_ofH (by decide) rfl (Nat.le_of_ble_eq_true rfl) ?_
  intro p e s m below meth c A ls hx hb hr hts hown hlocks hmn hml hA hP hK hD hS hZ hl htab
  have inX2 : ∀ w ∈ wsX20, w ∈ vsL_fault := fun w h => List.mem_cons_of_mem _ (iaX2 w h)
  have inX6 : ∀ w ∈ wsX60, w ∈ vsL_fault := fun w h => List.mem_cons_of_mem _ (iaX6 w h)
  have F : CallFix p m c cL_fault 4 s _ vsL_fault RL := ⟨hx, hb, hml, hown, hts⟩
  have hl : lv_has ls 4 [(0, .ref x), (1, .int (nI 0)), (2, .ref o)] := hl
  refine lv_aload_n hx hb dL_fault_0 rfl (lv_at hl 2 rfl) ?_
  refine lv_iconst (v := nI 0) hx hb dL_fault_1 (by decide) ?_
  refine lv_aload_n hx hb dL_fault_2 rfl (lv_at hl 0 rfl) ?_
  refine lv_iload_n hx hb dL_fault_3 rfl (lv_at hl 1 rfl) ?_
  refine k_ci (wr := [(o, .inl (cJ, 1, .inr (.inl fo)))]) (k_rv F (c_fault0 l D cI cB cJ cS x sa a rs wt rd jl jd u w t lo wr pl vo wo) (cwV 1 hts (g_V wd_340 wd_341 wd_342 wd_8 wd_343) rfl rfl rfl (by decide +kernel) ⟨Nat.le_of_ble_eq_true rfl, Nat.le_of_ble_eq_true rfl⟩) hK hP hD hS hA hZ [0, 1] rfl (by decide) 0 rfl rfl rfl rfl hl.1 rfl (Nat.le_of_ble_eq_true rfl) dL_fault_4 ⟨Nat.le_of_ble_eq_true rfl, Nat.le_of_ble_eq_true rfl⟩) hP hD hS hA [0, 1] [2] rfl rfl (by decide) (by decide) (fun r u9 H locs hw hP hD hS => ?_)
  subst hw
  have hP : va_P D kCl [(o, .inl (cJ, 1, .inr (.inl fo))), (x, .inr (4, [.ref sa, .ref a, .ref rs, .ref rd, .ref wt])), (rd, .inr (0, [.int (nI u), .ref jl, .ref jd, .int (nI w), vo, wo, .int (nI t), .int (nI lo), .int (nI wr), .int (nI pl)]))] H := hP
  have hD : va_D A [(o, .inl (cJ, 1, .inr (.inl fo))), (x, .inr (4, [.ref sa, .ref a, .ref rs, .ref rd, .ref wt])), (rd, .inr (0, [.int (nI u), .ref jl, .ref jd, .int (nI w), vo, wo, .int (nI t), .int (nI lo), .int (nI wr), .int (nI pl)]))] := hD
  refine W.widen (k := 0) (n := 0) (Nat.le_of_ble_eq_true rfl) (Nat.le_of_ble_eq_true rfl) ?_
  refine lv_i2l (v := lN wr) hx hb dL_fault_7 (nI_l (by omega)) ?_
  refine va_last hx hb hK hP hD hS 0 2 rfl rfl (vp_in_nI (by omega) (by omega)) dL_fault_8 (fun H locs hP hD hS => ?_)
  rw [show vp_updL fo (nI 0).toNatClampNeg (lN wr) = vp_updL fo 0 (lN wr) from by rw [nI_clamp (by omega)]] at hP hD
  have hP : va_P D kCl [(o, .inl (cJ, 1, .inr (.inl (vp_updL fo 0 (lN wr))))), (x, .inr (4, [.ref sa, .ref a, .ref rs, .ref rd, .ref wt])), (rd, .inr (0, [.int (nI u), .ref jl, .ref jd, .int (nI w), vo, wo, .int (nI t), .int (nI lo), .int (nI wr), .int (nI pl)]))] H := hP
  have hD : va_D A [(o, .inl (cJ, 1, .inr (.inl (vp_updL fo 0 (lN wr))))), (x, .inr (4, [.ref sa, .ref a, .ref rs, .ref rd, .ref wt])), (rd, .inr (0, [.int (nI u), .ref jl, .ref jd, .int (nI w), vo, wo, .int (nI t), .int (nI lo), .int (nI wr), .int (nI pl)]))] := hD
  refine lv_goto (tgt := 15) hx hb dL_fault_9 (by decide) ?_
  refine lv_iconst (v := nI 0) hx hb dL_fault_15 (by decide) ?_
  have hP : va_P D kCl [(x, .inr (4, [.ref sa, .ref a, .ref rs, .ref rd, .ref wt])), (rd, .inr (0, [.int (nI u), .ref jl, .ref jd, .int (nI w), vo, wo, .int (nI t), .int (nI lo), .int (nI wr), .int (nI pl)])), (o, .inl (cJ, 1, .inr (.inl (vp_updL fo 0 (lN wr)))))] H := hP.sub [1, 2, 0] rfl
  have hD : va_D A [(x, .inr (4, [.ref sa, .ref a, .ref rs, .ref rd, .ref wt])), (rd, .inr (0, [.int (nI u), .ref jl, .ref jd, .int (nI w), vo, wo, .int (nI t), .int (nI lo), .int (nI wr), .int (nI pl)])), (o, .inl (cJ, 1, .inr (.inl (vp_updL fo 0 (lN wr)))))] := hD.sub [1, 2, 0] (by decide) rfl
  exact k_iret () hx hb hr (by first | rfl | decide | exact vp_nar_int _) hlocks hK hP hD hS (rfl) (rfl) (Nat.le_of_ble_eq_true rfl) (Nat.le_of_ble_eq_true rfl) dL_fault_16

set_option maxRecDepth 100000 in
set_option maxHeartbeats 4000000 in
theorem c_L_fault1 (l : Launch) (D : va_G) (cI cB cJ cS : ClassId) (x sa a rs wt : Nat) (rd jl jd u w t lo wr pl : Nat) (vo wo : Value) (hwr : wr < 2 ^ 31) (hpl : pl < 2 ^ 31) (o : Nat) (fo : Nat → Int64)  : kM l yL_fault vsL_fault ({ frames := 2, cells := 0, slots := 0, locals := 41 }) D (kT cI cB cJ cS) [.ref x, .int (nI 1), .ref o] [(x, .inr (4, [.ref sa, .ref a, .ref rs, .ref rd, .ref wt])), (rd, .inr (0, [.int (nI u), .ref jl, .ref jd, .int (nI w), vo, wo, .int (nI t), .int (nI lo), .int (nI wr), .int (nI pl)])), (o, .inl (cJ, 1, .inr (.inl fo)))] (kQi D (kT cI cB cJ cS) (fun r (ug : Unit) => r = nI 0) (fun ug => [(x, .inr (4, [.ref sa, .ref a, .ref rs, .ref rd, .ref wt])), (rd, .inr (0, [.int (nI u), .ref jl, .ref jd, .int (nI w), vo, wo, .int (nI t), .int (nI lo), .int (nI wr), .int (nI pl)])), (o, .inl (cJ, 1, .inr (.inl (vp_updL fo 0 (lN pl)))))])) := by
  refine k_ofH (by decide) rfl (Nat.le_of_ble_eq_true rfl) ?_
  intro p e s m below meth c A ls hx hb hr hts hown hlocks hmn hml hA hP hK hD hS hZ hl htab
  have inX2 : ∀ w ∈ wsX20, w ∈ vsL_fault := fun w h => List.mem_cons_of_mem _ (iaX2 w h)
  have inX6 : ∀ w ∈ wsX60, w ∈ vsL_fault := fun w h => List.mem_cons_of_mem _ (iaX6 w h)
  have F : CallFix p m c cL_fault 4 s _ vsL_fault RL := ⟨hx, hb, hml, hown, hts⟩
  have hl : lv_has ls 4 [(0, .ref x), (1, .int (nI 1)), (2, .ref o)] := hl
  refine lv_aload_n hx hb dL_fault_0 rfl (lv_at hl 2 rfl) ?_
  refine lv_iconst (v := nI 0) hx hb dL_fault_1 (by decide) ?_
  refine lv_aload_n hx hb dL_fault_2 rfl (lv_at hl 0 rfl) ?_
  refine lv_iload_n hx hb dL_fault_3 rfl (lv_at hl 1 rfl) ?_
  refine k_ci (wr := [(o, .inl (cJ, 1, .inr (.inl fo)))]) (k_rv F (c_fault1 l D cI cB cJ cS x sa a rs wt rd jl jd u w t lo wr pl vo wo) (cwV 1 hts (g_V wd_340 wd_341 wd_342 wd_8 wd_343) rfl rfl rfl (by decide +kernel) ⟨Nat.le_of_ble_eq_true rfl, Nat.le_of_ble_eq_true rfl⟩) hK hP hD hS hA hZ [0, 1] rfl (by decide) 0 rfl rfl rfl rfl hl.1 rfl (Nat.le_of_ble_eq_true rfl) dL_fault_4 ⟨Nat.le_of_ble_eq_true rfl, Nat.le_of_ble_eq_true rfl⟩) hP hD hS hA [0, 1] [2] rfl rfl (by decide) (by decide) (fun r u9 H locs hw hP hD hS => ?_)
  subst hw
  have hP : va_P D kCl [(o, .inl (cJ, 1, .inr (.inl fo))), (x, .inr (4, [.ref sa, .ref a, .ref rs, .ref rd, .ref wt])), (rd, .inr (0, [.int (nI u), .ref jl, .ref jd, .int (nI w), vo, wo, .int (nI t), .int (nI lo), .int (nI wr), .int (nI pl)]))] H := hP
  have hD : va_D A [(o, .inl (cJ, 1, .inr (.inl fo))), (x, .inr (4, [.ref sa, .ref a, .ref rs, .ref rd, .ref wt])), (rd, .inr (0, [.int (nI u), .ref jl, .ref jd, .int (nI w), vo, wo, .int (nI t), .int (nI lo), .int (nI wr), .int (nI pl)]))] := hD
  refine W.widen (k := 0) (n := 0) (Nat.le_of_ble_eq_true rfl) (Nat.le_of_ble_eq_true rfl) ?_
  refine lv_i2l (v := lN pl) hx hb dL_fault_7 (nI_l (by omega)) ?_
  refine va_last hx hb hK hP hD hS 0 2 rfl rfl (vp_in_nI (by omega) (by omega)) dL_fault_8 (fun H locs hP hD hS => ?_)
  rw [show vp_updL fo (nI 0).toNatClampNeg (lN pl) = vp_updL fo 0 (lN pl) from by rw [nI_clamp (by omega)]] at hP hD
  have hP : va_P D kCl [(o, .inl (cJ, 1, .inr (.inl (vp_updL fo 0 (lN pl))))), (x, .inr (4, [.ref sa, .ref a, .ref rs, .ref rd, .ref wt])), (rd, .inr (0, [.int (nI u), .ref jl, .ref jd, .int (nI w), vo, wo, .int (nI t), .int (nI lo), .int (nI wr), .int (nI pl)]))] H := hP
  have hD : va_D A [(o, .inl (cJ, 1, .inr (.inl (vp_updL fo 0 (lN pl))))), (x, .inr (4, [.ref sa, .ref a, .ref rs, .ref rd, .ref wt])), (rd, .inr (0, [.int (nI u), .ref jl, .ref jd, .int (nI w), vo, wo, .int (nI t), .int (nI lo), .int (nI wr), .int (nI pl)]))] := hD
  refine lv_goto (tgt := 15) hx hb dL_fault_9 (by decide) ?_
  refine lv_iconst (v := nI 0) hx hb dL_fault_15 (by decide) ?_
  have hP : va_P D kCl [(x, .inr (4, [.ref sa, .ref a, .ref rs, .ref rd, .ref wt])), (rd, .inr (0, [.int (nI u), .ref jl, .ref jd, .int (nI w), vo, wo, .int (nI t), .int (nI lo), .int (nI wr), .int (nI pl)])), (o, .inl (cJ, 1, .inr (.inl (vp_updL fo 0 (lN pl)))))] H := hP.sub [1, 2, 0] rfl
  have hD : va_D A [(x, .inr (4, [.ref sa, .ref a, .ref rs, .ref rd, .ref wt])), (rd, .inr (0, [.int (nI u), .ref jl, .ref jd, .int (nI w), vo, wo, .int (nI t), .int (nI lo), .int (nI wr), .int (nI pl)])), (o, .inl (cJ, 1, .inr (.inl (vp_updL fo 0 (lN pl)))))] := hD.sub [1, 2, 0] (by decide) rfl
  exact k_iret () hx hb hr (by first | rfl | decide | exact vp_nar_int _) hlocks hK hP hD hS (rfl) (rfl) (Nat.le_of_ble_eq_true rfl) (Nat.le_of_ble_eq_true rfl) dL_fault_16

set_option maxRecDepth 100000 in
set_option maxHeartbeats 4000000 in
theorem c_L_faultX (l : Launch) (D : va_G) (cI cB cJ cS : ClassId) (hl9 : l.stackTraces = false) (x sa a rs rd wt : Nat) (z : Int32) (hz : z < 0 ∨ nI 1 < z) (o : Nat) (fo : Nat → Int64)  : kM l yL_fault vsL_fault ({ frames := 7, cells := 1, slots := 6, locals := 103 }) D (kT cI cB cJ cS) [.ref x, .int z, .ref o] [(x, .inr (4, [.ref sa, .ref a, .ref rs, .ref rd, .ref wt])), (o, .inl (cJ, 1, .inr (.inl fo)))] (kQi D (kT cI cB cJ cS) (fun r (ug : Unit) => r = nI 1) (fun ug => [(x, .inr (4, [.ref sa, .ref a, .ref rs, .ref rd, .ref wt])), (o, .inl (cJ, 1, .inr (.inl fo)))])) := by
  refine k_ofH (by decide) rfl (Nat.le_of_ble_eq_true rfl) ?_
  intro p e s m below meth c A ls hx hb hr hts hown hlocks hmn hml hA hP hK hD hS hZ hl htab
  have inX6 : ∀ w ∈ wsX60, w ∈ vsL_fault := fun w h => List.mem_cons_of_mem _ (iaX6 w h)
  have F : CallFix p m c cL_fault 4 s _ vsL_fault RL := ⟨hx, hb, hml, hown, hts⟩
  have hl : lv_has ls 4 [(0, .ref x), (1, .int z), (2, .ref o)] := hl
  refine lv_aload_n hx hb dL_fault_0 rfl (lv_at hl 2 rfl) ?_
  refine lv_iconst (v := nI 0) hx hb dL_fault_1 (by decide) ?_
  refine lv_aload_n hx hb dL_fault_2 rfl (lv_at hl 0 rfl) ?_
  refine lv_iload_n hx hb dL_fault_3 rfl (lv_at hl 1 rfl) ?_
  refine k_cx (wr := [(x, .inr (4, [.ref sa, .ref a, .ref rs, .ref rd, .ref wt])), (o, .inl (cJ, 1, .inr (.inl fo)))]) (k_rvX F (c_faultX l D cI cB cJ cS hl9 x z hz) (cwV 1 hts (g_V wd_340 wd_341 wd_342 wd_8 wd_343) rfl rfl rfl (by decide +kernel) ⟨Nat.le_of_ble_eq_true rfl, Nat.le_of_ble_eq_true rfl⟩) hK hP hD hS hA hZ [] rfl (by decide) 0 rfl rfl rfl rfl hl.1 rfl (Nat.le_of_ble_eq_true rfl) dL_fault_4 ⟨Nat.le_of_ble_eq_true rfl, Nat.le_of_ble_eq_true rfl⟩) hP hD hS hA [] [0, 1] rfl rfl (by decide) (by decide) (fun q9 ce H locs hP hD hS hce hcv hcl => ?_)
  have hP : va_P D kCl [(x, .inr (4, [.ref sa, .ref a, .ref rs, .ref rd, .ref wt])), (o, .inl (cJ, 1, .inr (.inl fo)))] H := hP
  have hD : va_D A [(x, .inr (4, [.ref sa, .ref a, .ref rs, .ref rd, .ref wt])), (o, .inl (cJ, 1, .inr (.inl fo)))] := hD
  refine vx_widen (k := 1) (n := 6) (Nat.le_of_ble_eq_true rfl) (Nat.le_of_ble_eq_true rfl) ?_
  refine vx_catch (E := "java/lang/IndexOutOfBoundsException") (name := "java/lang/IndexOutOfBoundsException") hown [] ⟨0, 9, 12, 24⟩ [] (by rw [htab]; rfl) (fun z hz => nomatch hz) (by decide) (by decide) (hts (.classLink RL 24 "java/lang/IndexOutOfBoundsException") (List.mem_cons_of_mem _ wd_339)) (va_Nw.use rfl (hZ.nw (w := .castable "java/lang/IndexOutOfBoundsException" "java/lang/IndexOutOfBoundsException") (by decide +kernel))) hce hcv hcl ?_
  refine lv_astore_n (lv' := [(3, .ref q9), (0, .ref x), (1, .int z), (2, .ref o)]) hx hb dL_fault_12 rfl hl (by decide) rfl (fun ls hl => ?_)
  refine lv_iconst (v := nI 1) hx hb dL_fault_13 (by decide) ?_
  exact k_iret () hx hb hr (by first | rfl | decide | exact vp_nar_int _) hlocks hK hP hD hS (rfl) (rfl) (Nat.le_of_ble_eq_true rfl) (Nat.le_of_ble_eq_true rfl) dL_fault_14

set_option maxRecDepth 100000 in
set_option maxHeartbeats 4000000 in
theorem c_L_write (l : Launch) (D : va_G) (cI cB cJ cS : ClassId) (wt sh sn sv rs rsb u lo n PN pn VN vn : Nat) (b pf : Nat → Nat) (fv : Nat → Int32) (so ro : Value) (zo zp zq : Int32) (hPN : PN ≤ 4096) (hpn : pn ≤ PN) (hVN : VN ≤ 8192) (hvn : vn ≤ VN) (hn : n ≤ 65536) (hlo2 : lo < 2) (hu1 : 1 ≤ u) (hu2 : u ≤ 1000) (hfv : ∀ j, j < vn → fvOk (fv j)) (J : Nat) (hJ : J ≤ pn) (hgd : ∀ j, j < J → wSgy pf fv u lo pn (vn / 2) (wIt pf fv u lo (b, 0, 0, 0) j)) (bf : Nat → Nat) (nf qf : Nat) (hend : wIt pf fv u lo (b, 0, 0, 0) J = (bf, nf, pn, qf)) (hnf : nf ≤ 65536) (hpn1 : 1 ≤ pn) (x sa a rd : Nat) (f : Nat → Option Nat) (k : Nat) (hk : k < 4) (hf : f k = some sh) (o : Nat) (fo : Nat → Int64)  : kM l yL_write vsL_write ({ frames := 7, cells := 0, slots := 0, locals := 172 }) D (kT cI cB cJ cS) [.ref x, .int (nI k), .int (nI lo), .ref o] [(x, .inr (4, [.ref sa, .ref a, .ref rs, .ref rd, .ref wt])), (sa, .inl (cS, 4, .inr (.inr (.inr (.inr f))))), (wt, .inr (3, [.int (nI u), so, ro, .int zo, .int zp, .int zq])), (sh, .inr (2, [.ref sn, .ref sv, .int (nI pn), .int (nI vn)])), (sn, .inl (cI, PN, .inl (iF pf))), (sv, .inl (cI, VN, .inl fv)), (rs, .inr (1, [.ref rsb, .int (nI n)])), (rsb, .inl (cB, 65536, .inl (bF b))), (o, .inl (cJ, 1, .inr (.inl fo)))] (kQi D (kT cI cB cJ cS) (fun r (ug : Unit) => r = nI 0) (fun ug => [(x, .inr (4, [.ref sa, .ref a, .ref rs, .ref rd, .ref wt])), (sa, .inl (cS, 4, .inr (.inr (.inr (.inr f))))), (wt, .inr (3, [.int (nI u), .ref sh, .ref rs, .int (nI lo), .int (nI pn), .int (nI qf)])), (sh, .inr (2, [.ref sn, .ref sv, .int (nI pn), .int (nI vn)])), (sn, .inl (cI, PN, .inl (iF pf))), (sv, .inl (cI, VN, .inl fv)), (rs, .inr (1, [.ref rsb, .int (nI nf)])), (rsb, .inl (cB, 65536, .inl (bF bf))), (o, .inl (cJ, 1, .inr (.inl (vp_updL fo 0 (lN nf)))))])) := by
  refine k_ofH (by decide) rfl (Nat.le_of_ble_eq_true rfl) ?_
  intro p e s m below meth c A ls hx hb hr hts hown hlocks hmn hml hA hP hK hD hS hZ hl htab
  have inX3 : ∀ w ∈ wsX30, w ∈ vsL_write := fun w h => List.mem_cons_of_mem _ (iaX3 w h)
  have inX4 : ∀ w ∈ wsX40, w ∈ vsL_write := fun w h => List.mem_cons_of_mem _ (iaX4 w h)
  have inX5 : ∀ w ∈ wsX50, w ∈ vsL_write := fun w h => List.mem_cons_of_mem _ (iaX5 w h)
  have inX6 : ∀ w ∈ wsX60, w ∈ vsL_write := fun w h => List.mem_cons_of_mem _ (iaX6 w h)
  have F : CallFix p m c cL_write 5 s _ vsL_write RL := ⟨hx, hb, hml, hown, hts⟩
  have hl : lv_has ls 5 [(0, .ref x), (1, .int (nI k)), (2, .int (nI lo)), (3, .ref o)] := hl
  refine lv_aload_n hx hb dL_write_0 rfl (lv_at hl 3 rfl) ?_
  refine lv_iconst (v := nI 0) hx hb dL_write_1 (by decide) ?_
  refine lv_aload_n hx hb dL_write_2 rfl (lv_at hl 0 rfl) ?_
  refine lv_iload_n hx hb dL_write_3 rfl (lv_at hl 1 rfl) ?_
  refine lv_iload_n hx hb dL_write_4 rfl (lv_at hl 2 rfl) ?_
  refine k_ci (wr := [(o, .inl (cJ, 1, .inr (.inl fo)))]) (k_rv F (c_write l D cI cB cJ cS wt sh sn sv rs rsb u lo n PN pn VN vn b pf fv so ro zo zp zq hPN hpn hVN hvn hn hlo2 hu1 hu2 hfv J hJ hgd bf nf qf hend hnf hpn1 x sa a rd f k hk hf) (cwV 2 hts (g_V wd_344 wd_345 wd_346 wd_8 wd_347) rfl rfl rfl (by decide +kernel) ⟨Nat.le_of_ble_eq_true rfl, Nat.le_of_ble_eq_true rfl⟩) hK hP hD hS hA hZ [0, 1, 2, 3, 4, 5, 6, 7] rfl (by decide) 0 rfl rfl rfl rfl hl.1 rfl (Nat.le_of_ble_eq_true rfl) dL_write_5 ⟨Nat.le_of_ble_eq_true rfl, Nat.le_of_ble_eq_true rfl⟩) hP hD hS hA [0, 1, 2, 3, 4, 5, 6, 7] [8] rfl rfl (by decide) (by decide) (fun r u9 H locs hw hP hD hS => ?_)
  subst hw
  have hP : va_P D kCl [(o, .inl (cJ, 1, .inr (.inl fo))), (x, .inr (4, [.ref sa, .ref a, .ref rs, .ref rd, .ref wt])), (sa, .inl (cS, 4, .inr (.inr (.inr (.inr f))))), (wt, .inr (3, [.int (nI u), .ref sh, .ref rs, .int (nI lo), .int (nI pn), .int (nI qf)])), (sh, .inr (2, [.ref sn, .ref sv, .int (nI pn), .int (nI vn)])), (sn, .inl (cI, PN, .inl (iF pf))), (sv, .inl (cI, VN, .inl fv)), (rs, .inr (1, [.ref rsb, .int (nI nf)])), (rsb, .inl (cB, 65536, .inl (bF bf)))] H := hP
  have hD : va_D A [(o, .inl (cJ, 1, .inr (.inl fo))), (x, .inr (4, [.ref sa, .ref a, .ref rs, .ref rd, .ref wt])), (sa, .inl (cS, 4, .inr (.inr (.inr (.inr f))))), (wt, .inr (3, [.int (nI u), .ref sh, .ref rs, .int (nI lo), .int (nI pn), .int (nI qf)])), (sh, .inr (2, [.ref sn, .ref sv, .int (nI pn), .int (nI vn)])), (sn, .inl (cI, PN, .inl (iF pf))), (sv, .inl (cI, VN, .inl fv)), (rs, .inr (1, [.ref rsb, .int (nI nf)])), (rsb, .inl (cB, 65536, .inl (bF bf)))] := hD
  refine W.widen (k := 0) (n := 0) (Nat.le_of_ble_eq_true rfl) (Nat.le_of_ble_eq_true rfl) ?_
  refine lv_i2l (v := lN nf) hx hb dL_write_8 (nI_l (by omega)) ?_
  refine va_last hx hb hK hP hD hS 0 2 rfl rfl (vp_in_nI (by omega) (by omega)) dL_write_9 (fun H locs hP hD hS => ?_)
  rw [show vp_updL fo (nI 0).toNatClampNeg (lN nf) = vp_updL fo 0 (lN nf) from by rw [nI_clamp (by omega)]] at hP hD
  have hP : va_P D kCl [(o, .inl (cJ, 1, .inr (.inl (vp_updL fo 0 (lN nf))))), (x, .inr (4, [.ref sa, .ref a, .ref rs, .ref rd, .ref wt])), (sa, .inl (cS, 4, .inr (.inr (.inr (.inr f))))), (wt, .inr (3, [.int (nI u), .ref sh, .ref rs, .int (nI lo), .int (nI pn), .int (nI qf)])), (sh, .inr (2, [.ref sn, .ref sv, .int (nI pn), .int (nI vn)])), (sn, .inl (cI, PN, .inl (iF pf))), (sv, .inl (cI, VN, .inl fv)), (rs, .inr (1, [.ref rsb, .int (nI nf)])), (rsb, .inl (cB, 65536, .inl (bF bf)))] H := hP
  have hD : va_D A [(o, .inl (cJ, 1, .inr (.inl (vp_updL fo 0 (lN nf))))), (x, .inr (4, [.ref sa, .ref a, .ref rs, .ref rd, .ref wt])), (sa, .inl (cS, 4, .inr (.inr (.inr (.inr f))))), (wt, .inr (3, [.int (nI u), .ref sh, .ref rs, .int (nI lo), .int (nI pn), .int (nI qf)])), (sh, .inr (2, [.ref sn, .ref sv, .int (nI pn), .int (nI vn)])), (sn, .inl (cI, PN, .inl (iF pf))), (sv, .inl (cI, VN, .inl fv)), (rs, .inr (1, [.ref rsb, .int (nI nf)])), (rsb, .inl (cB, 65536, .inl (bF bf)))] := hD
  refine lv_goto (tgt := 25) hx hb dL_write_10 (by decide) ?_
  refine lv_iconst (v := nI 0) hx hb dL_write_25 (by decide) ?_
  have hP : va_P D kCl [(x, .inr (4, [.ref sa, .ref a, .ref rs, .ref rd, .ref wt])), (sa, .inl (cS, 4, .inr (.inr (.inr (.inr f))))), (wt, .inr (3, [.int (nI u), .ref sh, .ref rs, .int (nI lo), .int (nI pn), .int (nI qf)])), (sh, .inr (2, [.ref sn, .ref sv, .int (nI pn), .int (nI vn)])), (sn, .inl (cI, PN, .inl (iF pf))), (sv, .inl (cI, VN, .inl fv)), (rs, .inr (1, [.ref rsb, .int (nI nf)])), (rsb, .inl (cB, 65536, .inl (bF bf))), (o, .inl (cJ, 1, .inr (.inl (vp_updL fo 0 (lN nf)))))] H := hP.sub [1, 2, 3, 4, 5, 6, 7, 8, 0] rfl
  have hD : va_D A [(x, .inr (4, [.ref sa, .ref a, .ref rs, .ref rd, .ref wt])), (sa, .inl (cS, 4, .inr (.inr (.inr (.inr f))))), (wt, .inr (3, [.int (nI u), .ref sh, .ref rs, .int (nI lo), .int (nI pn), .int (nI qf)])), (sh, .inr (2, [.ref sn, .ref sv, .int (nI pn), .int (nI vn)])), (sn, .inl (cI, PN, .inl (iF pf))), (sv, .inl (cI, VN, .inl fv)), (rs, .inr (1, [.ref rsb, .int (nI nf)])), (rsb, .inl (cB, 65536, .inl (bF bf))), (o, .inl (cJ, 1, .inr (.inl (vp_updL fo 0 (lN nf)))))] := hD.sub [1, 2, 3, 4, 5, 6, 7, 8, 0] (by decide) rfl
  exact k_iret () hx hb hr (by first | rfl | decide | exact vp_nar_int _) hlocks hK hP hD hS (rfl) (rfl) (Nat.le_of_ble_eq_true rfl) (Nat.le_of_ble_eq_true rfl) dL_write_26

set_option maxRecDepth 100000 in
set_option maxHeartbeats 4000000 in
theorem c_L_writeX1 (l : Launch) (D : va_G) (cI cB cJ cS : ClassId) (hl9 : l.stackTraces = false) (x sa a rs rd wt : Nat) (z : Int32) (hz : z < 0 ∨ nI 4 ≤ z) (z2 : Int32) (o : Nat) (fo : Nat → Int64)  : kM l yL_write vsL_write ({ frames := 8, cells := 1, slots := 6, locals := 126 }) D (kT cI cB cJ cS) [.ref x, .int z, .int z2, .ref o] [(x, .inr (4, [.ref sa, .ref a, .ref rs, .ref rd, .ref wt])), (o, .inl (cJ, 1, .inr (.inl fo)))] (kQi D (kT cI cB cJ cS) (fun r (ug : Unit) => r = nI 1) (fun ug => [(x, .inr (4, [.ref sa, .ref a, .ref rs, .ref rd, .ref wt])), (o, .inl (cJ, 1, .inr (.inl fo)))])) := by
  refine k_ofH (by decide) rfl (Nat.le_of_ble_eq_true rfl) ?_
  intro p e s m below meth c A ls hx hb hr hts hown hlocks hmn hml hA hP hK hD hS hZ hl htab
  have inX6 : ∀ w ∈ wsX60, w ∈ vsL_write := fun w h => List.mem_cons_of_mem _ (iaX6 w h)
  have F : CallFix p m c cL_write 5 s _ vsL_write RL := ⟨hx, hb, hml, hown, hts⟩
  have hl : lv_has ls 5 [(0, .ref x), (1, .int z), (2, .int z2), (3, .ref o)] := hl
  refine lv_aload_n hx hb dL_write_0 rfl (lv_at hl 3 rfl) ?_
  refine lv_iconst (v := nI 0) hx hb dL_write_1 (by decide) ?_
  refine lv_aload_n hx hb dL_write_2 rfl (lv_at hl 0 rfl) ?_
  refine lv_iload_n hx hb dL_write_3 rfl (lv_at hl 1 rfl) ?_
  refine lv_iload_n hx hb dL_write_4 rfl (lv_at hl 2 rfl) ?_
  refine k_cx (wr := [(o, .inl (cJ, 1, .inr (.inl fo)))]) (k_rvX F (c_writeX1 l D cI cB cJ cS hl9 x sa a rs rd wt z hz z2) (cwV 2 hts (g_V wd_344 wd_345 wd_346 wd_8 wd_347) rfl rfl rfl (by decide +kernel) ⟨Nat.le_of_ble_eq_true rfl, Nat.le_of_ble_eq_true rfl⟩) hK hP hD hS hA hZ [0] rfl (by decide) 0 rfl rfl rfl rfl hl.1 rfl (Nat.le_of_ble_eq_true rfl) dL_write_5 ⟨Nat.le_of_ble_eq_true rfl, Nat.le_of_ble_eq_true rfl⟩) hP hD hS hA [0] [1] rfl rfl (by decide) (by decide) (fun q9 ce H locs hP hD hS hce hcv hcl => ?_)
  have hP : va_P D kCl [(o, .inl (cJ, 1, .inr (.inl fo))), (x, .inr (4, [.ref sa, .ref a, .ref rs, .ref rd, .ref wt]))] H := hP
  have hD : va_D A [(o, .inl (cJ, 1, .inr (.inl fo))), (x, .inr (4, [.ref sa, .ref a, .ref rs, .ref rd, .ref wt]))] := hD
  refine vx_widen (k := 1) (n := 6) (Nat.le_of_ble_eq_true rfl) (Nat.le_of_ble_eq_true rfl) ?_
  refine vx_catch (E := "java/lang/IndexOutOfBoundsException") (name := "java/lang/IndexOutOfBoundsException") hown [] ⟨0, 10, 13, 24⟩ [⟨0, 10, 17, 19⟩, ⟨0, 10, 21, 13⟩] (by rw [htab]; rfl) (fun z hz => nomatch hz) (by decide) (by decide) (hts (.classLink RL 24 "java/lang/IndexOutOfBoundsException") (List.mem_cons_of_mem _ wd_339)) (va_Nw.use rfl (hZ.nw (w := .castable "java/lang/IndexOutOfBoundsException" "java/lang/IndexOutOfBoundsException") (by decide +kernel))) hce hcv hcl ?_
  refine lv_astore (lv' := [(4, .ref q9), (0, .ref x), (1, .int z), (2, .int z2), (3, .ref o)]) hx hb dL_write_13 hl (by decide) rfl (fun ls hl => ?_)
  refine lv_iconst (v := nI 1) hx hb dL_write_15 (by decide) ?_
  have hP : va_P D kCl [(x, .inr (4, [.ref sa, .ref a, .ref rs, .ref rd, .ref wt])), (o, .inl (cJ, 1, .inr (.inl fo)))] H := hP.sub [1, 0] rfl
  have hD : va_D A [(x, .inr (4, [.ref sa, .ref a, .ref rs, .ref rd, .ref wt])), (o, .inl (cJ, 1, .inr (.inl fo)))] := hD.sub [1, 0] (by decide) rfl
  exact k_iret () hx hb hr (by first | rfl | decide | exact vp_nar_int _) hlocks hK hP hD hS (rfl) (rfl) (Nat.le_of_ble_eq_true rfl) (Nat.le_of_ble_eq_true rfl) dL_write_16

set_option maxRecDepth 100000 in
set_option maxHeartbeats 4000000 in
theorem c_L_writeX2 (l : Launch) (D : va_G) (cI cB cJ cS : ClassId) (hl9 : l.stackTraces = false) (x sa a rs rd wt : Nat) (f : Nat → Option Nat) (k : Nat) (hk : k < 4) (sh : Nat) (hf : f k = some sh) (z : Int32) (hz : z < 0 ∨ nI 1 < z) (o : Nat) (fo : Nat → Int64)  : kM l yL_write vsL_write ({ frames := 7, cells := 1, slots := 6, locals := 105 }) D (kT cI cB cJ cS) [.ref x, .int (nI k), .int z, .ref o] [(x, .inr (4, [.ref sa, .ref a, .ref rs, .ref rd, .ref wt])), (sa, .inl (cS, 4, .inr (.inr (.inr (.inr f))))), (o, .inl (cJ, 1, .inr (.inl fo)))] (kQi D (kT cI cB cJ cS) (fun r (ug : Unit) => r = nI 2) (fun ug => [(x, .inr (4, [.ref sa, .ref a, .ref rs, .ref rd, .ref wt])), (sa, .inl (cS, 4, .inr (.inr (.inr (.inr f))))), (o, .inl (cJ, 1, .inr (.inl fo)))])) := by
  refine k_ofH (by decide) rfl (Nat.le_of_ble_eq_true rfl) ?_
  intro p e s m below meth c A ls hx hb hr hts hown hlocks hmn hml hA hP hK hD hS hZ hl htab
  have inX6 : ∀ w ∈ wsX60, w ∈ vsL_write := fun w h => List.mem_cons_of_mem _ (iaX6 w h)
  have F : CallFix p m c cL_write 5 s _ vsL_write RL := ⟨hx, hb, hml, hown, hts⟩
  have hl : lv_has ls 5 [(0, .ref x), (1, .int (nI k)), (2, .int z), (3, .ref o)] := hl
  refine lv_aload_n hx hb dL_write_0 rfl (lv_at hl 3 rfl) ?_
  refine lv_iconst (v := nI 0) hx hb dL_write_1 (by decide) ?_
  refine lv_aload_n hx hb dL_write_2 rfl (lv_at hl 0 rfl) ?_
  refine lv_iload_n hx hb dL_write_3 rfl (lv_at hl 1 rfl) ?_
  refine lv_iload_n hx hb dL_write_4 rfl (lv_at hl 2 rfl) ?_
  refine k_cx (wr := [(o, .inl (cJ, 1, .inr (.inl fo)))]) (k_rvX F (c_writeX2 l D cI cB cJ cS hl9 x sa a rs rd wt f k hk sh hf z hz) (cwV 2 hts (g_V wd_344 wd_345 wd_346 wd_8 wd_347) rfl rfl rfl (by decide +kernel) ⟨Nat.le_of_ble_eq_true rfl, Nat.le_of_ble_eq_true rfl⟩) hK hP hD hS hA hZ [0, 1] rfl (by decide) 0 rfl rfl rfl rfl hl.1 rfl (Nat.le_of_ble_eq_true rfl) dL_write_5 ⟨Nat.le_of_ble_eq_true rfl, Nat.le_of_ble_eq_true rfl⟩) hP hD hS hA [0, 1] [2] rfl rfl (by decide) (by decide) (fun q9 ce H locs hP hD hS hce hcv hcl => ?_)
  have hP : va_P D kCl [(o, .inl (cJ, 1, .inr (.inl fo))), (x, .inr (4, [.ref sa, .ref a, .ref rs, .ref rd, .ref wt])), (sa, .inl (cS, 4, .inr (.inr (.inr (.inr f)))))] H := hP
  have hD : va_D A [(o, .inl (cJ, 1, .inr (.inl fo))), (x, .inr (4, [.ref sa, .ref a, .ref rs, .ref rd, .ref wt])), (sa, .inl (cS, 4, .inr (.inr (.inr (.inr f)))))] := hD
  refine vx_widen (k := 1) (n := 6) (Nat.le_of_ble_eq_true rfl) (Nat.le_of_ble_eq_true rfl) ?_
  refine vx_catch (E := "java/lang/IllegalArgumentException") (name := "java/lang/IllegalArgumentException") hown [⟨0, 10, 13, 24⟩] ⟨0, 10, 17, 19⟩ [⟨0, 10, 21, 13⟩] (by rw [htab]; rfl) (fun z hz => by
      simp only [List.mem_cons, List.not_mem_nil, or_false] at hz
      rcases hz with rfl
      · exact Or.inr ⟨by decide, "java/lang/IndexOutOfBoundsException", hts (.classLink RL 24 "java/lang/IndexOutOfBoundsException") (List.mem_cons_of_mem _ wd_339), hZ.nc (q := ("java/lang/IllegalArgumentException", "java/lang/IndexOutOfBoundsException")) (by decide +kernel)⟩) (by decide) (by decide) (hts (.classLink RL 19 "java/lang/IllegalArgumentException") (List.mem_cons_of_mem _ wd_334)) (va_Nw.use rfl (hZ.nw (w := .castable "java/lang/IllegalArgumentException" "java/lang/IllegalArgumentException") (by decide +kernel))) hce hcv hcl ?_
  refine lv_astore (lv' := [(4, .ref q9), (0, .ref x), (1, .int (nI k)), (2, .int z), (3, .ref o)]) hx hb dL_write_17 hl (by decide) rfl (fun ls hl => ?_)
  refine lv_iconst (v := nI 2) hx hb dL_write_19 (by decide) ?_
  have hP : va_P D kCl [(x, .inr (4, [.ref sa, .ref a, .ref rs, .ref rd, .ref wt])), (sa, .inl (cS, 4, .inr (.inr (.inr (.inr f))))), (o, .inl (cJ, 1, .inr (.inl fo)))] H := hP.sub [1, 2, 0] rfl
  have hD : va_D A [(x, .inr (4, [.ref sa, .ref a, .ref rs, .ref rd, .ref wt])), (sa, .inl (cS, 4, .inr (.inr (.inr (.inr f))))), (o, .inl (cJ, 1, .inr (.inl fo)))] := hD.sub [1, 2, 0] (by decide) rfl
  exact k_iret () hx hb hr (by first | rfl | decide | exact vp_nar_int _) hlocks hK hP hD hS (rfl) (rfl) (Nat.le_of_ble_eq_true rfl) (Nat.le_of_ble_eq_true rfl) dL_write_20

set_option maxRecDepth 100000 in
set_option maxHeartbeats 4000000 in
theorem c_L_writeX3 (l : Launch) (D : va_G) (cI cB cJ cS : ClassId) (hl9 : l.stackTraces = false) (x sa a rs rd wt : Nat) (f : Nat → Option Nat) (k : Nat) (hk : k < 4) (sh : Nat) (hf : f k = some sh) (sn sv PN VN vn : Nat) (pf : Nat → Nat) (fv : Nat → Int32) (lo : Nat) (hlo2 : lo < 2) (o : Nat) (fo : Nat → Int64)  : kM l yL_write vsL_write ({ frames := 7, cells := 1, slots := 6, locals := 105 }) D (kT cI cB cJ cS) [.ref x, .int (nI k), .int (nI lo), .ref o] [(x, .inr (4, [.ref sa, .ref a, .ref rs, .ref rd, .ref wt])), (sa, .inl (cS, 4, .inr (.inr (.inr (.inr f))))), (sh, .inr (2, [.ref sn, .ref sv, .int (nI 0), .int (nI vn)])), (sn, .inl (cI, PN, .inl (iF pf))), (sv, .inl (cI, VN, .inl fv)), (o, .inl (cJ, 1, .inr (.inl fo)))] (kQi D (kT cI cB cJ cS) (fun r (ug : Unit) => r = nI 3) (fun ug => [(x, .inr (4, [.ref sa, .ref a, .ref rs, .ref rd, .ref wt])), (sa, .inl (cS, 4, .inr (.inr (.inr (.inr f))))), (sh, .inr (2, [.ref sn, .ref sv, .int (nI 0), .int (nI vn)])), (sn, .inl (cI, PN, .inl (iF pf))), (sv, .inl (cI, VN, .inl fv)), (o, .inl (cJ, 1, .inr (.inl fo)))])) := by
  refine k_ofH (by decide) rfl (Nat.le_of_ble_eq_true rfl) ?_
  intro p e s m below meth c A ls hx hb hr hts hown hlocks hmn hml hA hP hK hD hS hZ hl htab
  have inX4 : ∀ w ∈ wsX40, w ∈ vsL_write := fun w h => List.mem_cons_of_mem _ (iaX4 w h)
  have inX6 : ∀ w ∈ wsX60, w ∈ vsL_write := fun w h => List.mem_cons_of_mem _ (iaX6 w h)
  have F : CallFix p m c cL_write 5 s _ vsL_write RL := ⟨hx, hb, hml, hown, hts⟩
  have hl : lv_has ls 5 [(0, .ref x), (1, .int (nI k)), (2, .int (nI lo)), (3, .ref o)] := hl
  refine lv_aload_n hx hb dL_write_0 rfl (lv_at hl 3 rfl) ?_
  refine lv_iconst (v := nI 0) hx hb dL_write_1 (by decide) ?_
  refine lv_aload_n hx hb dL_write_2 rfl (lv_at hl 0 rfl) ?_
  refine lv_iload_n hx hb dL_write_3 rfl (lv_at hl 1 rfl) ?_
  refine lv_iload_n hx hb dL_write_4 rfl (lv_at hl 2 rfl) ?_
  refine k_cx (wr := [(o, .inl (cJ, 1, .inr (.inl fo)))]) (k_rvX F (c_writeX3 l D cI cB cJ cS hl9 x sa a rs rd wt f k hk sh hf sn sv PN VN vn pf fv lo hlo2) (cwV 2 hts (g_V wd_344 wd_345 wd_346 wd_8 wd_347) rfl rfl rfl (by decide +kernel) ⟨Nat.le_of_ble_eq_true rfl, Nat.le_of_ble_eq_true rfl⟩) hK hP hD hS hA hZ [0, 1, 2, 3, 4] rfl (by decide) 0 rfl rfl rfl rfl hl.1 rfl (Nat.le_of_ble_eq_true rfl) dL_write_5 ⟨Nat.le_of_ble_eq_true rfl, Nat.le_of_ble_eq_true rfl⟩) hP hD hS hA [0, 1, 2, 3, 4] [5] rfl rfl (by decide) (by decide) (fun q9 ce H locs hP hD hS hce hcv hcl => ?_)
  have hP : va_P D kCl [(o, .inl (cJ, 1, .inr (.inl fo))), (x, .inr (4, [.ref sa, .ref a, .ref rs, .ref rd, .ref wt])), (sa, .inl (cS, 4, .inr (.inr (.inr (.inr f))))), (sh, .inr (2, [.ref sn, .ref sv, .int (nI 0), .int (nI vn)])), (sn, .inl (cI, PN, .inl (iF pf))), (sv, .inl (cI, VN, .inl fv))] H := hP
  have hD : va_D A [(o, .inl (cJ, 1, .inr (.inl fo))), (x, .inr (4, [.ref sa, .ref a, .ref rs, .ref rd, .ref wt])), (sa, .inl (cS, 4, .inr (.inr (.inr (.inr f))))), (sh, .inr (2, [.ref sn, .ref sv, .int (nI 0), .int (nI vn)])), (sn, .inl (cI, PN, .inl (iF pf))), (sv, .inl (cI, VN, .inl fv))] := hD
  refine vx_widen (k := 1) (n := 6) (Nat.le_of_ble_eq_true rfl) (Nat.le_of_ble_eq_true rfl) ?_
  refine vx_catch (E := "java/lang/IllegalStateException") (name := "java/lang/IllegalStateException") hown [⟨0, 10, 13, 24⟩, ⟨0, 10, 17, 19⟩] ⟨0, 10, 21, 13⟩ [] (by rw [htab]; rfl) (fun z hz => by
      simp only [List.mem_cons, List.not_mem_nil, or_false] at hz
      rcases hz with rfl | rfl
      · exact Or.inr ⟨by decide, "java/lang/IndexOutOfBoundsException", hts (.classLink RL 24 "java/lang/IndexOutOfBoundsException") (List.mem_cons_of_mem _ wd_339), hZ.nc (q := ("java/lang/IllegalStateException", "java/lang/IndexOutOfBoundsException")) (by decide +kernel)⟩
      · exact Or.inr ⟨by decide, "java/lang/IllegalArgumentException", hts (.classLink RL 19 "java/lang/IllegalArgumentException") (List.mem_cons_of_mem _ wd_334), hZ.nc (q := ("java/lang/IllegalStateException", "java/lang/IllegalArgumentException")) (by decide +kernel)⟩) (by decide) (by decide) (hts (.classLink RL 13 "java/lang/IllegalStateException") (List.mem_cons_of_mem _ wd_329)) (va_Nw.use rfl (hZ.nw (w := .castable "java/lang/IllegalStateException" "java/lang/IllegalStateException") (by decide +kernel))) hce hcv hcl ?_
  refine lv_astore (lv' := [(4, .ref q9), (0, .ref x), (1, .int (nI k)), (2, .int (nI lo)), (3, .ref o)]) hx hb dL_write_21 hl (by decide) rfl (fun ls hl => ?_)
  refine lv_iconst (v := nI 3) hx hb dL_write_23 (by decide) ?_
  have hP : va_P D kCl [(x, .inr (4, [.ref sa, .ref a, .ref rs, .ref rd, .ref wt])), (sa, .inl (cS, 4, .inr (.inr (.inr (.inr f))))), (sh, .inr (2, [.ref sn, .ref sv, .int (nI 0), .int (nI vn)])), (sn, .inl (cI, PN, .inl (iF pf))), (sv, .inl (cI, VN, .inl fv)), (o, .inl (cJ, 1, .inr (.inl fo)))] H := hP.sub [1, 2, 3, 4, 5, 0] rfl
  have hD : va_D A [(x, .inr (4, [.ref sa, .ref a, .ref rs, .ref rd, .ref wt])), (sa, .inl (cS, 4, .inr (.inr (.inr (.inr f))))), (sh, .inr (2, [.ref sn, .ref sv, .int (nI 0), .int (nI vn)])), (sn, .inl (cI, PN, .inl (iF pf))), (sv, .inl (cI, VN, .inl fv)), (o, .inl (cJ, 1, .inr (.inl fo)))] := hD.sub [1, 2, 3, 4, 5, 0] (by decide) rfl
  exact k_iret () hx hb hr (by first | rfl | decide | exact vp_nar_int _) hlocks hK hP hD hS (rfl) (rfl) (Nat.le_of_ble_eq_true rfl) (Nat.le_of_ble_eq_true rfl) dL_write_24

set_option maxRecDepth 100000 in
set_option maxHeartbeats 4000000 in
theorem c_L_same (l : Launch) (D : va_G) (cI cB cJ cS : ClassId) (x sa a rs rd wt : Nat) (f : Nat → Option Nat) (k : Nat) (hk : k < 4) (sh sn sv PN pn VN vn : Nat) (pf : Nat → Nat) (fv : Nat → Int32) (hf : f k = some sh) (k2 sh2 sn2 sv2 pn2 vn2 : Nat) (pf2 : Nat → Nat) (fv2 : Nat → Int32) (hk2 : k2 < 4) (hf2 : f k2 = some sh2) (hPN : PN ≤ 4096) (hpn : pn ≤ PN) (hVN : VN ≤ 8192) (hvn : vn ≤ VN) (hpn2 : pn2 ≤ PN) (hvn2 : vn2 ≤ VN) (o : Nat) (fo : Nat → Int64)  : kM l yL_same vsL_same ({ frames := 3, cells := 0, slots := 0, locals := 69 }) D (kT cI cB cJ cS) [.ref x, .int (nI k), .int (nI k2), .ref o] [(x, .inr (4, [.ref sa, .ref a, .ref rs, .ref rd, .ref wt])), (sa, .inl (cS, 4, .inr (.inr (.inr (.inr f))))), (sh, .inr (2, [.ref sn, .ref sv, .int (nI pn), .int (nI vn)])), (sn, .inl (cI, PN, .inl (iF pf))), (sv, .inl (cI, VN, .inl fv)), (sh2, .inr (2, [.ref sn2, .ref sv2, .int (nI pn2), .int (nI vn2)])), (sn2, .inl (cI, PN, .inl (iF pf2))), (sv2, .inl (cI, VN, .inl fv2)), (o, .inl (cJ, 1, .inr (.inl fo)))] (kQi D (kT cI cB cJ cS) (fun r (u : Nat) => r = nI 0 ∧ ((u = 1 ∧ liken pn pn2 (iF pf) (iF pf2) vn vn2 fv fv2) ∨ (u = 0 ∧ ¬ liken pn pn2 (iF pf) (iF pf2) vn vn2 fv fv2))) (fun u => [(x, .inr (4, [.ref sa, .ref a, .ref rs, .ref rd, .ref wt])), (sa, .inl (cS, 4, .inr (.inr (.inr (.inr f))))), (sh, .inr (2, [.ref sn, .ref sv, .int (nI pn), .int (nI vn)])), (sn, .inl (cI, PN, .inl (iF pf))), (sv, .inl (cI, VN, .inl fv)), (sh2, .inr (2, [.ref sn2, .ref sv2, .int (nI pn2), .int (nI vn2)])), (sn2, .inl (cI, PN, .inl (iF pf2))), (sv2, .inl (cI, VN, .inl fv2)), (o, .inl (cJ, 1, .inr (.inl (vp_updL fo 0 (lN u)))))])) := by
  refine k_ofH (by decide) rfl (Nat.le_of_ble_eq_true rfl) ?_
  intro p e s m below meth c A ls hx hb hr hts hown hlocks hmn hml hA hP hK hD hS hZ hl htab
  have inX4 : ∀ w ∈ wsX40, w ∈ vsL_same := fun w h => List.mem_cons_of_mem _ (iaX4 w h)
  have inX6 : ∀ w ∈ wsX60, w ∈ vsL_same := fun w h => List.mem_cons_of_mem _ (iaX6 w h)
  have F : CallFix p m c cL_same 5 s _ vsL_same RL := ⟨hx, hb, hml, hown, hts⟩
  have hl : lv_has ls 5 [(0, .ref x), (1, .int (nI k)), (2, .int (nI k2)), (3, .ref o)] := hl
  refine lv_aload_n hx hb dL_same_0 rfl (lv_at hl 3 rfl) ?_
  refine lv_iconst (v := nI 0) hx hb dL_same_1 (by decide) ?_
  refine lv_aload_n hx hb dL_same_2 rfl (lv_at hl 0 rfl) ?_
  refine lv_iload_n hx hb dL_same_3 rfl (lv_at hl 1 rfl) ?_
  refine lv_iload_n hx hb dL_same_4 rfl (lv_at hl 2 rfl) ?_
  refine k_ci (wr := [(o, .inl (cJ, 1, .inr (.inl fo)))]) (k_rv F (c_same l D cI cB cJ cS x sa a rs rd wt f k hk sh sn sv PN pn VN vn pf fv hf k2 sh2 sn2 sv2 pn2 vn2 pf2 fv2 hk2 hf2 hPN hpn hVN hvn hpn2 hvn2) (cwV 2 hts (g_V wd_348 wd_349 wd_350 wd_8 wd_351) rfl rfl rfl (by decide +kernel) ⟨Nat.le_of_ble_eq_true rfl, Nat.le_of_ble_eq_true rfl⟩) hK hP hD hS hA hZ [0, 1, 2, 3, 4, 5, 6, 7] rfl (by decide) 0 rfl rfl rfl rfl hl.1 rfl (Nat.le_of_ble_eq_true rfl) dL_same_5 ⟨Nat.le_of_ble_eq_true rfl, Nat.le_of_ble_eq_true rfl⟩) hP hD hS hA [0, 1, 2, 3, 4, 5, 6, 7] [8] rfl rfl (by decide) (by decide) (fun r u9 H locs hw hP hD hS => ?_)
  skip
  have hP : va_P D kCl [(o, .inl (cJ, 1, .inr (.inl fo))), (x, .inr (4, [.ref sa, .ref a, .ref rs, .ref rd, .ref wt])), (sa, .inl (cS, 4, .inr (.inr (.inr (.inr f))))), (sh, .inr (2, [.ref sn, .ref sv, .int (nI pn), .int (nI vn)])), (sn, .inl (cI, PN, .inl (iF pf))), (sv, .inl (cI, VN, .inl fv)), (sh2, .inr (2, [.ref sn2, .ref sv2, .int (nI pn2), .int (nI vn2)])), (sn2, .inl (cI, PN, .inl (iF pf2))), (sv2, .inl (cI, VN, .inl fv2))] H := hP
  have hD : va_D A [(o, .inl (cJ, 1, .inr (.inl fo))), (x, .inr (4, [.ref sa, .ref a, .ref rs, .ref rd, .ref wt])), (sa, .inl (cS, 4, .inr (.inr (.inr (.inr f))))), (sh, .inr (2, [.ref sn, .ref sv, .int (nI pn), .int (nI vn)])), (sn, .inl (cI, PN, .inl (iF pf))), (sv, .inl (cI, VN, .inl fv)), (sh2, .inr (2, [.ref sn2, .ref sv2, .int (nI pn2), .int (nI vn2)])), (sn2, .inl (cI, PN, .inl (iF pf2))), (sv2, .inl (cI, VN, .inl fv2))] := hD
  refine W.widen (k := 0) (n := 0) (Nat.le_of_ble_eq_true rfl) (Nat.le_of_ble_eq_true rfl) ?_
  rcases hw with ⟨hr1, hlk⟩ | ⟨hr1, hlk⟩
  · skip
    subst hr1
    refine k_if_eq (tgt := 15) (by omega) hx hb dL_same_8 (by decide) (fun c201 => ?_) (fun c201 => ?_)
    · skip
      exact absurd c201 (by omega)
    · skip
      refine lv_lconst (v := lN 1) hx hb dL_same_11 (by decide) ?_
      refine lv_goto (tgt := 16) hx hb dL_same_12 (by decide) ?_
      refine va_last hx hb hK hP hD hS 0 2 rfl rfl (vp_in_nI (by omega) (by omega)) dL_same_16 (fun H locs hP hD hS => ?_)
      rw [show vp_updL fo (nI 0).toNatClampNeg (lN 1) = vp_updL fo 0 (lN 1) from by rw [nI_clamp (by omega)]] at hP hD
      have hP : va_P D kCl [(o, .inl (cJ, 1, .inr (.inl (vp_updL fo 0 (lN 1))))), (x, .inr (4, [.ref sa, .ref a, .ref rs, .ref rd, .ref wt])), (sa, .inl (cS, 4, .inr (.inr (.inr (.inr f))))), (sh, .inr (2, [.ref sn, .ref sv, .int (nI pn), .int (nI vn)])), (sn, .inl (cI, PN, .inl (iF pf))), (sv, .inl (cI, VN, .inl fv)), (sh2, .inr (2, [.ref sn2, .ref sv2, .int (nI pn2), .int (nI vn2)])), (sn2, .inl (cI, PN, .inl (iF pf2))), (sv2, .inl (cI, VN, .inl fv2))] H := hP
      have hD : va_D A [(o, .inl (cJ, 1, .inr (.inl (vp_updL fo 0 (lN 1))))), (x, .inr (4, [.ref sa, .ref a, .ref rs, .ref rd, .ref wt])), (sa, .inl (cS, 4, .inr (.inr (.inr (.inr f))))), (sh, .inr (2, [.ref sn, .ref sv, .int (nI pn), .int (nI vn)])), (sn, .inl (cI, PN, .inl (iF pf))), (sv, .inl (cI, VN, .inl fv)), (sh2, .inr (2, [.ref sn2, .ref sv2, .int (nI pn2), .int (nI vn2)])), (sn2, .inl (cI, PN, .inl (iF pf2))), (sv2, .inl (cI, VN, .inl fv2))] := hD
      refine lv_goto (tgt := 24) hx hb dL_same_17 (by decide) ?_
      refine lv_iconst (v := nI 0) hx hb dL_same_24 (by decide) ?_
      have hP : va_P D kCl [(x, .inr (4, [.ref sa, .ref a, .ref rs, .ref rd, .ref wt])), (sa, .inl (cS, 4, .inr (.inr (.inr (.inr f))))), (sh, .inr (2, [.ref sn, .ref sv, .int (nI pn), .int (nI vn)])), (sn, .inl (cI, PN, .inl (iF pf))), (sv, .inl (cI, VN, .inl fv)), (sh2, .inr (2, [.ref sn2, .ref sv2, .int (nI pn2), .int (nI vn2)])), (sn2, .inl (cI, PN, .inl (iF pf2))), (sv2, .inl (cI, VN, .inl fv2)), (o, .inl (cJ, 1, .inr (.inl (vp_updL fo 0 (lN 1)))))] H := hP.sub [1, 2, 3, 4, 5, 6, 7, 8, 0] rfl
      have hD : va_D A [(x, .inr (4, [.ref sa, .ref a, .ref rs, .ref rd, .ref wt])), (sa, .inl (cS, 4, .inr (.inr (.inr (.inr f))))), (sh, .inr (2, [.ref sn, .ref sv, .int (nI pn), .int (nI vn)])), (sn, .inl (cI, PN, .inl (iF pf))), (sv, .inl (cI, VN, .inl fv)), (sh2, .inr (2, [.ref sn2, .ref sv2, .int (nI pn2), .int (nI vn2)])), (sn2, .inl (cI, PN, .inl (iF pf2))), (sv2, .inl (cI, VN, .inl fv2)), (o, .inl (cJ, 1, .inr (.inl (vp_updL fo 0 (lN 1)))))] := hD.sub [1, 2, 3, 4, 5, 6, 7, 8, 0] (by decide) rfl
      exact k_iret (S := Nat) 1 hx hb hr (by rfl) hlocks hK hP hD hS rfl ⟨rfl, Or.inl ⟨rfl, hlk⟩⟩ (Nat.le_of_ble_eq_true rfl) (Nat.le_of_ble_eq_true rfl) dL_same_25
  · skip
    subst hr1
    refine k_if_eq (tgt := 15) (by omega) hx hb dL_same_8 (by decide) (fun c202 => ?_) (fun c202 => ?_)
    · skip
      refine lv_lconst (v := lN 0) hx hb dL_same_15 (by decide) ?_
      refine va_last hx hb hK hP hD hS 0 2 rfl rfl (vp_in_nI (by omega) (by omega)) dL_same_16 (fun H locs hP hD hS => ?_)
      rw [show vp_updL fo (nI 0).toNatClampNeg (lN 0) = vp_updL fo 0 (lN 0) from by rw [nI_clamp (by omega)]] at hP hD
      have hP : va_P D kCl [(o, .inl (cJ, 1, .inr (.inl (vp_updL fo 0 (lN 0))))), (x, .inr (4, [.ref sa, .ref a, .ref rs, .ref rd, .ref wt])), (sa, .inl (cS, 4, .inr (.inr (.inr (.inr f))))), (sh, .inr (2, [.ref sn, .ref sv, .int (nI pn), .int (nI vn)])), (sn, .inl (cI, PN, .inl (iF pf))), (sv, .inl (cI, VN, .inl fv)), (sh2, .inr (2, [.ref sn2, .ref sv2, .int (nI pn2), .int (nI vn2)])), (sn2, .inl (cI, PN, .inl (iF pf2))), (sv2, .inl (cI, VN, .inl fv2))] H := hP
      have hD : va_D A [(o, .inl (cJ, 1, .inr (.inl (vp_updL fo 0 (lN 0))))), (x, .inr (4, [.ref sa, .ref a, .ref rs, .ref rd, .ref wt])), (sa, .inl (cS, 4, .inr (.inr (.inr (.inr f))))), (sh, .inr (2, [.ref sn, .ref sv, .int (nI pn), .int (nI vn)])), (sn, .inl (cI, PN, .inl (iF pf))), (sv, .inl (cI, VN, .inl fv)), (sh2, .inr (2, [.ref sn2, .ref sv2, .int (nI pn2), .int (nI vn2)])), (sn2, .inl (cI, PN, .inl (iF pf2))), (sv2, .inl (cI, VN, .inl fv2))] := hD
      refine lv_goto (tgt := 24) hx hb dL_same_17 (by decide) ?_
      refine lv_iconst (v := nI 0) hx hb dL_same_24 (by decide) ?_
      have hP : va_P D kCl [(x, .inr (4, [.ref sa, .ref a, .ref rs, .ref rd, .ref wt])), (sa, .inl (cS, 4, .inr (.inr (.inr (.inr f))))), (sh, .inr (2, [.ref sn, .ref sv, .int (nI pn), .int (nI vn)])), (sn, .inl (cI, PN, .inl (iF pf))), (sv, .inl (cI, VN, .inl fv)), (sh2, .inr (2, [.ref sn2, .ref sv2, .int (nI pn2), .int (nI vn2)])), (sn2, .inl (cI, PN, .inl (iF pf2))), (sv2, .inl (cI, VN, .inl fv2)), (o, .inl (cJ, 1, .inr (.inl (vp_updL fo 0 (lN 0)))))] H := hP.sub [1, 2, 3, 4, 5, 6, 7, 8, 0] rfl
      have hD : va_D A [(x, .inr (4, [.ref sa, .ref a, .ref rs, .ref rd, .ref wt])), (sa, .inl (cS, 4, .inr (.inr (.inr (.inr f))))), (sh, .inr (2, [.ref sn, .ref sv, .int (nI pn), .int (nI vn)])), (sn, .inl (cI, PN, .inl (iF pf))), (sv, .inl (cI, VN, .inl fv)), (sh2, .inr (2, [.ref sn2, .ref sv2, .int (nI pn2), .int (nI vn2)])), (sn2, .inl (cI, PN, .inl (iF pf2))), (sv2, .inl (cI, VN, .inl fv2)), (o, .inl (cJ, 1, .inr (.inl (vp_updL fo 0 (lN 0)))))] := hD.sub [1, 2, 3, 4, 5, 6, 7, 8, 0] (by decide) rfl
      exact k_iret (S := Nat) 0 hx hb hr (by rfl) hlocks hK hP hD hS rfl ⟨rfl, Or.inr ⟨rfl, hlk⟩⟩ (Nat.le_of_ble_eq_true rfl) (Nat.le_of_ble_eq_true rfl) dL_same_25
    · skip
      exact absurd c202 (by omega)

set_option maxRecDepth 100000 in
set_option maxHeartbeats 4000000 in
theorem c_L_sameS (l : Launch) (D : va_G) (cI cB cJ cS : ClassId) (x sa a rs rd wt : Nat) (f : Nat → Option Nat) (k : Nat) (hk : k < 4) (sh sn sv PN pn VN vn : Nat) (pf : Nat → Nat) (fv : Nat → Int32) (hf : f k = some sh) (hPN : PN ≤ 4096) (hpn : pn ≤ PN) (hVN : VN ≤ 8192) (hvn : vn ≤ VN) (o : Nat) (fo : Nat → Int64)  : kM l yL_same vsL_same ({ frames := 3, cells := 0, slots := 0, locals := 69 }) D (kT cI cB cJ cS) [.ref x, .int (nI k), .int (nI k), .ref o] [(x, .inr (4, [.ref sa, .ref a, .ref rs, .ref rd, .ref wt])), (sa, .inl (cS, 4, .inr (.inr (.inr (.inr f))))), (sh, .inr (2, [.ref sn, .ref sv, .int (nI pn), .int (nI vn)])), (sn, .inl (cI, PN, .inl (iF pf))), (sv, .inl (cI, VN, .inl fv)), (o, .inl (cJ, 1, .inr (.inl fo)))] (kQi D (kT cI cB cJ cS) (fun r (u : Nat) => r = nI 0 ∧ ((u = 1 ∧ liken pn pn (iF pf) (iF pf) vn vn fv fv) ∨ (u = 0 ∧ ¬ liken pn pn (iF pf) (iF pf) vn vn fv fv))) (fun u => [(x, .inr (4, [.ref sa, .ref a, .ref rs, .ref rd, .ref wt])), (sa, .inl (cS, 4, .inr (.inr (.inr (.inr f))))), (sh, .inr (2, [.ref sn, .ref sv, .int (nI pn), .int (nI vn)])), (sn, .inl (cI, PN, .inl (iF pf))), (sv, .inl (cI, VN, .inl fv)), (o, .inl (cJ, 1, .inr (.inl (vp_updL fo 0 (lN u)))))])) := by
  refine k_ofH (by decide) rfl (Nat.le_of_ble_eq_true rfl) ?_
  intro p e s m below meth c A ls hx hb hr hts hown hlocks hmn hml hA hP hK hD hS hZ hl htab
  have inX4 : ∀ w ∈ wsX40, w ∈ vsL_same := fun w h => List.mem_cons_of_mem _ (iaX4 w h)
  have inX6 : ∀ w ∈ wsX60, w ∈ vsL_same := fun w h => List.mem_cons_of_mem _ (iaX6 w h)
  have F : CallFix p m c cL_same 5 s _ vsL_same RL := ⟨hx, hb, hml, hown, hts⟩
  have hl : lv_has ls 5 [(0, .ref x), (1, .int (nI k)), (2, .int (nI k)), (3, .ref o)] := hl
  refine lv_aload_n hx hb dL_same_0 rfl (lv_at hl 3 rfl) ?_
  refine lv_iconst (v := nI 0) hx hb dL_same_1 (by decide) ?_
  refine lv_aload_n hx hb dL_same_2 rfl (lv_at hl 0 rfl) ?_
  refine lv_iload_n hx hb dL_same_3 rfl (lv_at hl 1 rfl) ?_
  refine lv_iload_n hx hb dL_same_4 rfl (lv_at hl 2 rfl) ?_
  refine k_ci (wr := [(o, .inl (cJ, 1, .inr (.inl fo)))]) (k_rv F (c_sameS l D cI cB cJ cS x sa a rs rd wt f k hk sh sn sv PN pn VN vn pf fv hf hPN hpn hVN hvn) (cwV 2 hts (g_V wd_348 wd_349 wd_350 wd_8 wd_351) rfl rfl rfl (by decide +kernel) ⟨Nat.le_of_ble_eq_true rfl, Nat.le_of_ble_eq_true rfl⟩) hK hP hD hS hA hZ [0, 1, 2, 3, 4] rfl (by decide) 0 rfl rfl rfl rfl hl.1 rfl (Nat.le_of_ble_eq_true rfl) dL_same_5 ⟨Nat.le_of_ble_eq_true rfl, Nat.le_of_ble_eq_true rfl⟩) hP hD hS hA [0, 1, 2, 3, 4] [5] rfl rfl (by decide) (by decide) (fun r u9 H locs hw hP hD hS => ?_)
  skip
  have hP : va_P D kCl [(o, .inl (cJ, 1, .inr (.inl fo))), (x, .inr (4, [.ref sa, .ref a, .ref rs, .ref rd, .ref wt])), (sa, .inl (cS, 4, .inr (.inr (.inr (.inr f))))), (sh, .inr (2, [.ref sn, .ref sv, .int (nI pn), .int (nI vn)])), (sn, .inl (cI, PN, .inl (iF pf))), (sv, .inl (cI, VN, .inl fv))] H := hP
  have hD : va_D A [(o, .inl (cJ, 1, .inr (.inl fo))), (x, .inr (4, [.ref sa, .ref a, .ref rs, .ref rd, .ref wt])), (sa, .inl (cS, 4, .inr (.inr (.inr (.inr f))))), (sh, .inr (2, [.ref sn, .ref sv, .int (nI pn), .int (nI vn)])), (sn, .inl (cI, PN, .inl (iF pf))), (sv, .inl (cI, VN, .inl fv))] := hD
  refine W.widen (k := 0) (n := 0) (Nat.le_of_ble_eq_true rfl) (Nat.le_of_ble_eq_true rfl) ?_
  rcases hw with ⟨hr1, hlk⟩ | ⟨hr1, hlk⟩
  · skip
    subst hr1
    refine k_if_eq (tgt := 15) (by omega) hx hb dL_same_8 (by decide) (fun c203 => ?_) (fun c203 => ?_)
    · skip
      exact absurd c203 (by omega)
    · skip
      refine lv_lconst (v := lN 1) hx hb dL_same_11 (by decide) ?_
      refine lv_goto (tgt := 16) hx hb dL_same_12 (by decide) ?_
      refine va_last hx hb hK hP hD hS 0 2 rfl rfl (vp_in_nI (by omega) (by omega)) dL_same_16 (fun H locs hP hD hS => ?_)
      rw [show vp_updL fo (nI 0).toNatClampNeg (lN 1) = vp_updL fo 0 (lN 1) from by rw [nI_clamp (by omega)]] at hP hD
      have hP : va_P D kCl [(o, .inl (cJ, 1, .inr (.inl (vp_updL fo 0 (lN 1))))), (x, .inr (4, [.ref sa, .ref a, .ref rs, .ref rd, .ref wt])), (sa, .inl (cS, 4, .inr (.inr (.inr (.inr f))))), (sh, .inr (2, [.ref sn, .ref sv, .int (nI pn), .int (nI vn)])), (sn, .inl (cI, PN, .inl (iF pf))), (sv, .inl (cI, VN, .inl fv))] H := hP
      have hD : va_D A [(o, .inl (cJ, 1, .inr (.inl (vp_updL fo 0 (lN 1))))), (x, .inr (4, [.ref sa, .ref a, .ref rs, .ref rd, .ref wt])), (sa, .inl (cS, 4, .inr (.inr (.inr (.inr f))))), (sh, .inr (2, [.ref sn, .ref sv, .int (nI pn), .int (nI vn)])), (sn, .inl (cI, PN, .inl (iF pf))), (sv, .inl (cI, VN, .inl fv))] := hD
      refine lv_goto (tgt := 24) hx hb dL_same_17 (by decide) ?_
      refine lv_iconst (v := nI 0) hx hb dL_same_24 (by decide) ?_
      have hP : va_P D kCl [(x, .inr (4, [.ref sa, .ref a, .ref rs, .ref rd, .ref wt])), (sa, .inl (cS, 4, .inr (.inr (.inr (.inr f))))), (sh, .inr (2, [.ref sn, .ref sv, .int (nI pn), .int (nI vn)])), (sn, .inl (cI, PN, .inl (iF pf))), (sv, .inl (cI, VN, .inl fv)), (o, .inl (cJ, 1, .inr (.inl (vp_updL fo 0 (lN 1)))))] H := hP.sub [1, 2, 3, 4, 5, 0] rfl
      have hD : va_D A [(x, .inr (4, [.ref sa, .ref a, .ref rs, .ref rd, .ref wt])), (sa, .inl (cS, 4, .inr (.inr (.inr (.inr f))))), (sh, .inr (2, [.ref sn, .ref sv, .int (nI pn), .int (nI vn)])), (sn, .inl (cI, PN, .inl (iF pf))), (sv, .inl (cI, VN, .inl fv)), (o, .inl (cJ, 1, .inr (.inl (vp_updL fo 0 (lN 1)))))] := hD.sub [1, 2, 3, 4, 5, 0] (by decide) rfl
      exact k_iret (S := Nat) 1 hx hb hr (by rfl) hlocks hK hP hD hS rfl ⟨rfl, Or.inl ⟨rfl, hlk⟩⟩ (Nat.le_of_ble_eq_true rfl) (Nat.le_of_ble_eq_true rfl) dL_same_25
  · skip
    subst hr1
    refine k_if_eq (tgt := 15) (by omega) hx hb dL_same_8 (by decide) (fun c204 => ?_) (fun c204 => ?_)
    · skip
      refine lv_lconst (v := lN 0) hx hb dL_same_15 (by decide) ?_
      refine va_last hx hb hK hP hD hS 0 2 rfl rfl (vp_in_nI (by omega) (by omega)) dL_same_16 (fun H locs hP hD hS => ?_)
      rw [show vp_updL fo (nI 0).toNatClampNeg (lN 0) = vp_updL fo 0 (lN 0) from by rw [nI_clamp (by omega)]] at hP hD
      have hP : va_P D kCl [(o, .inl (cJ, 1, .inr (.inl (vp_updL fo 0 (lN 0))))), (x, .inr (4, [.ref sa, .ref a, .ref rs, .ref rd, .ref wt])), (sa, .inl (cS, 4, .inr (.inr (.inr (.inr f))))), (sh, .inr (2, [.ref sn, .ref sv, .int (nI pn), .int (nI vn)])), (sn, .inl (cI, PN, .inl (iF pf))), (sv, .inl (cI, VN, .inl fv))] H := hP
      have hD : va_D A [(o, .inl (cJ, 1, .inr (.inl (vp_updL fo 0 (lN 0))))), (x, .inr (4, [.ref sa, .ref a, .ref rs, .ref rd, .ref wt])), (sa, .inl (cS, 4, .inr (.inr (.inr (.inr f))))), (sh, .inr (2, [.ref sn, .ref sv, .int (nI pn), .int (nI vn)])), (sn, .inl (cI, PN, .inl (iF pf))), (sv, .inl (cI, VN, .inl fv))] := hD
      refine lv_goto (tgt := 24) hx hb dL_same_17 (by decide) ?_
      refine lv_iconst (v := nI 0) hx hb dL_same_24 (by decide) ?_
      have hP : va_P D kCl [(x, .inr (4, [.ref sa, .ref a, .ref rs, .ref rd, .ref wt])), (sa, .inl (cS, 4, .inr (.inr (.inr (.inr f))))), (sh, .inr (2, [.ref sn, .ref sv, .int (nI pn), .int (nI vn)])), (sn, .inl (cI, PN, .inl (iF pf))), (sv, .inl (cI, VN, .inl fv)), (o, .inl (cJ, 1, .inr (.inl (vp_updL fo 0 (lN 0)))))] H := hP.sub [1, 2, 3, 4, 5, 0] rfl
      have hD : va_D A [(x, .inr (4, [.ref sa, .ref a, .ref rs, .ref rd, .ref wt])), (sa, .inl (cS, 4, .inr (.inr (.inr (.inr f))))), (sh, .inr (2, [.ref sn, .ref sv, .int (nI pn), .int (nI vn)])), (sn, .inl (cI, PN, .inl (iF pf))), (sv, .inl (cI, VN, .inl fv)), (o, .inl (cJ, 1, .inr (.inl (vp_updL fo 0 (lN 0)))))] := hD.sub [1, 2, 3, 4, 5, 0] (by decide) rfl
      exact k_iret (S := Nat) 0 hx hb hr (by rfl) hlocks hK hP hD hS rfl ⟨rfl, Or.inr ⟨rfl, hlk⟩⟩ (Nat.le_of_ble_eq_true rfl) (Nat.le_of_ble_eq_true rfl) dL_same_25
    · skip
      exact absurd c204 (by omega)

set_option maxRecDepth 100000 in
set_option maxHeartbeats 4000000 in
theorem c_L_sameX1 (l : Launch) (D : va_G) (cI cB cJ cS : ClassId) (hl9 : l.stackTraces = false) (x sa a rs rd wt : Nat) (z : Int32) (hz : z < 0 ∨ nI 4 ≤ z) (z2 : Int32) (o : Nat) (fo : Nat → Int64)  : kM l yL_same vsL_same ({ frames := 8, cells := 1, slots := 6, locals := 127 }) D (kT cI cB cJ cS) [.ref x, .int z, .int z2, .ref o] [(x, .inr (4, [.ref sa, .ref a, .ref rs, .ref rd, .ref wt])), (o, .inl (cJ, 1, .inr (.inl fo)))] (kQi D (kT cI cB cJ cS) (fun r (ug : Unit) => r = nI 1) (fun ug => [(x, .inr (4, [.ref sa, .ref a, .ref rs, .ref rd, .ref wt])), (o, .inl (cJ, 1, .inr (.inl fo)))])) := by
  refine k_ofH (by decide) rfl (Nat.le_of_ble_eq_true rfl) ?_
  intro p e s m below meth c A ls hx hb hr hts hown hlocks hmn hml hA hP hK hD hS hZ hl htab
  have inX6 : ∀ w ∈ wsX60, w ∈ vsL_same := fun w h => List.mem_cons_of_mem _ (iaX6 w h)
  have F : CallFix p m c cL_same 5 s _ vsL_same RL := ⟨hx, hb, hml, hown, hts⟩
  have hl : lv_has ls 5 [(0, .ref x), (1, .int z), (2, .int z2), (3, .ref o)] := hl
  refine lv_aload_n hx hb dL_same_0 rfl (lv_at hl 3 rfl) ?_
  refine lv_iconst (v := nI 0) hx hb dL_same_1 (by decide) ?_
  refine lv_aload_n hx hb dL_same_2 rfl (lv_at hl 0 rfl) ?_
  refine lv_iload_n hx hb dL_same_3 rfl (lv_at hl 1 rfl) ?_
  refine lv_iload_n hx hb dL_same_4 rfl (lv_at hl 2 rfl) ?_
  refine k_cx (wr := [(o, .inl (cJ, 1, .inr (.inl fo)))]) (k_rvX F (c_sameX1 l D cI cB cJ cS hl9 x sa a rs rd wt z hz z2) (cwV 2 hts (g_V wd_348 wd_349 wd_350 wd_8 wd_351) rfl rfl rfl (by decide +kernel) ⟨Nat.le_of_ble_eq_true rfl, Nat.le_of_ble_eq_true rfl⟩) hK hP hD hS hA hZ [0] rfl (by decide) 0 rfl rfl rfl rfl hl.1 rfl (Nat.le_of_ble_eq_true rfl) dL_same_5 ⟨Nat.le_of_ble_eq_true rfl, Nat.le_of_ble_eq_true rfl⟩) hP hD hS hA [0] [1] rfl rfl (by decide) (by decide) (fun q9 ce H locs hP hD hS hce hcv hcl => ?_)
  have hP : va_P D kCl [(o, .inl (cJ, 1, .inr (.inl fo))), (x, .inr (4, [.ref sa, .ref a, .ref rs, .ref rd, .ref wt]))] H := hP
  have hD : va_D A [(o, .inl (cJ, 1, .inr (.inl fo))), (x, .inr (4, [.ref sa, .ref a, .ref rs, .ref rd, .ref wt]))] := hD
  refine vx_widen (k := 1) (n := 6) (Nat.le_of_ble_eq_true rfl) (Nat.le_of_ble_eq_true rfl) ?_
  refine vx_catch (E := "java/lang/IndexOutOfBoundsException") (name := "java/lang/IndexOutOfBoundsException") hown [] ⟨0, 17, 20, 24⟩ [] (by rw [htab]; rfl) (fun z hz => nomatch hz) (by decide) (by decide) (hts (.classLink RL 24 "java/lang/IndexOutOfBoundsException") (List.mem_cons_of_mem _ wd_339)) (va_Nw.use rfl (hZ.nw (w := .castable "java/lang/IndexOutOfBoundsException" "java/lang/IndexOutOfBoundsException") (by decide +kernel))) hce hcv hcl ?_
  refine lv_astore (lv' := [(4, .ref q9), (0, .ref x), (1, .int z), (2, .int z2), (3, .ref o)]) hx hb dL_same_20 hl (by decide) rfl (fun ls hl => ?_)
  refine lv_iconst (v := nI 1) hx hb dL_same_22 (by decide) ?_
  have hP : va_P D kCl [(x, .inr (4, [.ref sa, .ref a, .ref rs, .ref rd, .ref wt])), (o, .inl (cJ, 1, .inr (.inl fo)))] H := hP.sub [1, 0] rfl
  have hD : va_D A [(x, .inr (4, [.ref sa, .ref a, .ref rs, .ref rd, .ref wt])), (o, .inl (cJ, 1, .inr (.inl fo)))] := hD.sub [1, 0] (by decide) rfl
  exact k_iret () hx hb hr (by first | rfl | decide | exact vp_nar_int _) hlocks hK hP hD hS (rfl) (rfl) (Nat.le_of_ble_eq_true rfl) (Nat.le_of_ble_eq_true rfl) dL_same_23

set_option maxRecDepth 100000 in
set_option maxHeartbeats 4000000 in
theorem c_L_sameX2 (l : Launch) (D : va_G) (cI cB cJ cS : ClassId) (hl9 : l.stackTraces = false) (x sa a rs rd wt : Nat) (f : Nat → Option Nat) (sh k : Nat) (hk : k < 4) (hf : f k = some sh) (z : Int32) (hz : z < 0 ∨ nI 4 ≤ z) (o : Nat) (fo : Nat → Int64)  : kM l yL_same vsL_same ({ frames := 8, cells := 1, slots := 6, locals := 127 }) D (kT cI cB cJ cS) [.ref x, .int (nI k), .int z, .ref o] [(x, .inr (4, [.ref sa, .ref a, .ref rs, .ref rd, .ref wt])), (sa, .inl (cS, 4, .inr (.inr (.inr (.inr f))))), (o, .inl (cJ, 1, .inr (.inl fo)))] (kQi D (kT cI cB cJ cS) (fun r (ug : Unit) => r = nI 1) (fun ug => [(x, .inr (4, [.ref sa, .ref a, .ref rs, .ref rd, .ref wt])), (sa, .inl (cS, 4, .inr (.inr (.inr (.inr f))))), (o, .inl (cJ, 1, .inr (.inl fo)))])) := by
  refine k_ofH (by decide) rfl (Nat.le_of_ble_eq_true rfl) ?_
  intro p e s m below meth c A ls hx hb hr hts hown hlocks hmn hml hA hP hK hD hS hZ hl htab
  have inX6 : ∀ w ∈ wsX60, w ∈ vsL_same := fun w h => List.mem_cons_of_mem _ (iaX6 w h)
  have F : CallFix p m c cL_same 5 s _ vsL_same RL := ⟨hx, hb, hml, hown, hts⟩
  have hl : lv_has ls 5 [(0, .ref x), (1, .int (nI k)), (2, .int z), (3, .ref o)] := hl
  refine lv_aload_n hx hb dL_same_0 rfl (lv_at hl 3 rfl) ?_
  refine lv_iconst (v := nI 0) hx hb dL_same_1 (by decide) ?_
  refine lv_aload_n hx hb dL_same_2 rfl (lv_at hl 0 rfl) ?_
  refine lv_iload_n hx hb dL_same_3 rfl (lv_at hl 1 rfl) ?_
  refine lv_iload_n hx hb dL_same_4 rfl (lv_at hl 2 rfl) ?_
  refine k_cx (wr := [(o, .inl (cJ, 1, .inr (.inl fo)))]) (k_rvX F (c_sameX2 l D cI cB cJ cS hl9 x sa a rs rd wt f sh k hk hf z hz) (cwV 2 hts (g_V wd_348 wd_349 wd_350 wd_8 wd_351) rfl rfl rfl (by decide +kernel) ⟨Nat.le_of_ble_eq_true rfl, Nat.le_of_ble_eq_true rfl⟩) hK hP hD hS hA hZ [0, 1] rfl (by decide) 0 rfl rfl rfl rfl hl.1 rfl (Nat.le_of_ble_eq_true rfl) dL_same_5 ⟨Nat.le_of_ble_eq_true rfl, Nat.le_of_ble_eq_true rfl⟩) hP hD hS hA [0, 1] [2] rfl rfl (by decide) (by decide) (fun q9 ce H locs hP hD hS hce hcv hcl => ?_)
  have hP : va_P D kCl [(o, .inl (cJ, 1, .inr (.inl fo))), (x, .inr (4, [.ref sa, .ref a, .ref rs, .ref rd, .ref wt])), (sa, .inl (cS, 4, .inr (.inr (.inr (.inr f)))))] H := hP
  have hD : va_D A [(o, .inl (cJ, 1, .inr (.inl fo))), (x, .inr (4, [.ref sa, .ref a, .ref rs, .ref rd, .ref wt])), (sa, .inl (cS, 4, .inr (.inr (.inr (.inr f)))))] := hD
  refine vx_widen (k := 1) (n := 6) (Nat.le_of_ble_eq_true rfl) (Nat.le_of_ble_eq_true rfl) ?_
  refine vx_catch (E := "java/lang/IndexOutOfBoundsException") (name := "java/lang/IndexOutOfBoundsException") hown [] ⟨0, 17, 20, 24⟩ [] (by rw [htab]; rfl) (fun z hz => nomatch hz) (by decide) (by decide) (hts (.classLink RL 24 "java/lang/IndexOutOfBoundsException") (List.mem_cons_of_mem _ wd_339)) (va_Nw.use rfl (hZ.nw (w := .castable "java/lang/IndexOutOfBoundsException" "java/lang/IndexOutOfBoundsException") (by decide +kernel))) hce hcv hcl ?_
  refine lv_astore (lv' := [(4, .ref q9), (0, .ref x), (1, .int (nI k)), (2, .int z), (3, .ref o)]) hx hb dL_same_20 hl (by decide) rfl (fun ls hl => ?_)
  refine lv_iconst (v := nI 1) hx hb dL_same_22 (by decide) ?_
  have hP : va_P D kCl [(x, .inr (4, [.ref sa, .ref a, .ref rs, .ref rd, .ref wt])), (sa, .inl (cS, 4, .inr (.inr (.inr (.inr f))))), (o, .inl (cJ, 1, .inr (.inl fo)))] H := hP.sub [1, 2, 0] rfl
  have hD : va_D A [(x, .inr (4, [.ref sa, .ref a, .ref rs, .ref rd, .ref wt])), (sa, .inl (cS, 4, .inr (.inr (.inr (.inr f))))), (o, .inl (cJ, 1, .inr (.inl fo)))] := hD.sub [1, 2, 0] (by decide) rfl
  exact k_iret () hx hb hr (by first | rfl | decide | exact vp_nar_int _) hlocks hK hP hD hS (rfl) (rfl) (Nat.le_of_ble_eq_true rfl) (Nat.le_of_ble_eq_true rfl) dL_same_23

set_option maxRecDepth 100000 in
set_option maxHeartbeats 4000000 in
theorem c_L_plan (l : Launch) (D : va_G) (cI cB cJ cS : ClassId) (x sa a rs rd wt : Nat) (f : Nat → Option Nat) (k : Nat) (hk : k < 4) (sh sn sv PN pn VN vn : Nat) (pf : Nat → Nat) (fv : Nat → Int32) (hf : f k = some sh) (hPN : PN ≤ 4096) (hpn : pn ≤ PN) (hVN : VN ≤ 8192) (hvn : vn ≤ VN) (j : Nat) (hj : j < pn) (o : Nat) (fo : Nat → Int64)  : kM l yL_plan vsL_plan ({ frames := 3, cells := 0, slots := 0, locals := 63 }) D (kT cI cB cJ cS) [.ref x, .int (nI k), .int (nI j), .ref o] [(x, .inr (4, [.ref sa, .ref a, .ref rs, .ref rd, .ref wt])), (sa, .inl (cS, 4, .inr (.inr (.inr (.inr f))))), (sh, .inr (2, [.ref sn, .ref sv, .int (nI pn), .int (nI vn)])), (sn, .inl (cI, PN, .inl (iF pf))), (sv, .inl (cI, VN, .inl fv)), (o, .inl (cJ, 1, .inr (.inl fo)))] (kQi D (kT cI cB cJ cS) (fun r (ug : Unit) => r = nI 0) (fun ug => [(x, .inr (4, [.ref sa, .ref a, .ref rs, .ref rd, .ref wt])), (sa, .inl (cS, 4, .inr (.inr (.inr (.inr f))))), (sh, .inr (2, [.ref sn, .ref sv, .int (nI pn), .int (nI vn)])), (sn, .inl (cI, PN, .inl (iF pf))), (sv, .inl (cI, VN, .inl fv)), (o, .inl (cJ, 1, .inr (.inl (vp_updL fo 0 ((nI (pf j)).toInt64)))))])) := by
  refine k_ofH (by decide) rfl (Nat.le_of_ble_eq_true rfl) ?_
  intro p e s m below meth c A ls hx hb hr hts hown hlocks hmn hml hA hP hK hD hS hZ hl htab
  have inX4 : ∀ w ∈ wsX40, w ∈ vsL_plan := fun w h => List.mem_cons_of_mem _ (iaX4 w h)
  have inX6 : ∀ w ∈ wsX60, w ∈ vsL_plan := fun w h => List.mem_cons_of_mem _ (iaX6 w h)
  have F : CallFix p m c cL_plan 5 s _ vsL_plan RL := ⟨hx, hb, hml, hown, hts⟩
  have hl : lv_has ls 5 [(0, .ref x), (1, .int (nI k)), (2, .int (nI j)), (3, .ref o)] := hl
  refine lv_aload_n hx hb dL_plan_0 rfl (lv_at hl 3 rfl) ?_
  refine lv_iconst (v := nI 0) hx hb dL_plan_1 (by decide) ?_
  refine lv_aload_n hx hb dL_plan_2 rfl (lv_at hl 0 rfl) ?_
  refine lv_iload_n hx hb dL_plan_3 rfl (lv_at hl 1 rfl) ?_
  refine lv_iload_n hx hb dL_plan_4 rfl (lv_at hl 2 rfl) ?_
  refine k_ci (wr := [(o, .inl (cJ, 1, .inr (.inl fo)))]) (k_rv F (c_plan l D cI cB cJ cS x sa a rs rd wt f k hk sh sn sv PN pn VN vn pf fv hf hPN hpn hVN hvn j hj) (cwV 2 hts (g_V wd_352 wd_353 wd_354 wd_8 wd_355) rfl rfl rfl (by decide +kernel) ⟨Nat.le_of_ble_eq_true rfl, Nat.le_of_ble_eq_true rfl⟩) hK hP hD hS hA hZ [0, 1, 2, 3, 4] rfl (by decide) 0 rfl rfl rfl rfl hl.1 rfl (Nat.le_of_ble_eq_true rfl) dL_plan_5 ⟨Nat.le_of_ble_eq_true rfl, Nat.le_of_ble_eq_true rfl⟩) hP hD hS hA [0, 1, 2, 3, 4] [5] rfl rfl (by decide) (by decide) (fun r u9 H locs hw hP hD hS => ?_)
  subst hw
  have hP : va_P D kCl [(o, .inl (cJ, 1, .inr (.inl fo))), (x, .inr (4, [.ref sa, .ref a, .ref rs, .ref rd, .ref wt])), (sa, .inl (cS, 4, .inr (.inr (.inr (.inr f))))), (sh, .inr (2, [.ref sn, .ref sv, .int (nI pn), .int (nI vn)])), (sn, .inl (cI, PN, .inl (iF pf))), (sv, .inl (cI, VN, .inl fv))] H := hP
  have hD : va_D A [(o, .inl (cJ, 1, .inr (.inl fo))), (x, .inr (4, [.ref sa, .ref a, .ref rs, .ref rd, .ref wt])), (sa, .inl (cS, 4, .inr (.inr (.inr (.inr f))))), (sh, .inr (2, [.ref sn, .ref sv, .int (nI pn), .int (nI vn)])), (sn, .inl (cI, PN, .inl (iF pf))), (sv, .inl (cI, VN, .inl fv))] := hD
  refine W.widen (k := 0) (n := 0) (Nat.le_of_ble_eq_true rfl) (Nat.le_of_ble_eq_true rfl) ?_
  refine lv_i2l (v := (nI (pf j)).toInt64) hx hb dL_plan_8 (rfl) ?_
  refine va_last hx hb hK hP hD hS 0 2 rfl rfl (vp_in_nI (by omega) (by omega)) dL_plan_9 (fun H locs hP hD hS => ?_)
  rw [show vp_updL fo (nI 0).toNatClampNeg ((nI (pf j)).toInt64) = vp_updL fo 0 ((nI (pf j)).toInt64) from by rw [nI_clamp (by omega)]] at hP hD
  have hP : va_P D kCl [(o, .inl (cJ, 1, .inr (.inl (vp_updL fo 0 ((nI (pf j)).toInt64))))), (x, .inr (4, [.ref sa, .ref a, .ref rs, .ref rd, .ref wt])), (sa, .inl (cS, 4, .inr (.inr (.inr (.inr f))))), (sh, .inr (2, [.ref sn, .ref sv, .int (nI pn), .int (nI vn)])), (sn, .inl (cI, PN, .inl (iF pf))), (sv, .inl (cI, VN, .inl fv))] H := hP
  have hD : va_D A [(o, .inl (cJ, 1, .inr (.inl (vp_updL fo 0 ((nI (pf j)).toInt64))))), (x, .inr (4, [.ref sa, .ref a, .ref rs, .ref rd, .ref wt])), (sa, .inl (cS, 4, .inr (.inr (.inr (.inr f))))), (sh, .inr (2, [.ref sn, .ref sv, .int (nI pn), .int (nI vn)])), (sn, .inl (cI, PN, .inl (iF pf))), (sv, .inl (cI, VN, .inl fv))] := hD
  refine lv_goto (tgt := 17) hx hb dL_plan_10 (by decide) ?_
  refine lv_iconst (v := nI 0) hx hb dL_plan_17 (by decide) ?_
  have hP : va_P D kCl [(x, .inr (4, [.ref sa, .ref a, .ref rs, .ref rd, .ref wt])), (sa, .inl (cS, 4, .inr (.inr (.inr (.inr f))))), (sh, .inr (2, [.ref sn, .ref sv, .int (nI pn), .int (nI vn)])), (sn, .inl (cI, PN, .inl (iF pf))), (sv, .inl (cI, VN, .inl fv)), (o, .inl (cJ, 1, .inr (.inl (vp_updL fo 0 ((nI (pf j)).toInt64)))))] H := hP.sub [1, 2, 3, 4, 5, 0] rfl
  have hD : va_D A [(x, .inr (4, [.ref sa, .ref a, .ref rs, .ref rd, .ref wt])), (sa, .inl (cS, 4, .inr (.inr (.inr (.inr f))))), (sh, .inr (2, [.ref sn, .ref sv, .int (nI pn), .int (nI vn)])), (sn, .inl (cI, PN, .inl (iF pf))), (sv, .inl (cI, VN, .inl fv)), (o, .inl (cJ, 1, .inr (.inl (vp_updL fo 0 ((nI (pf j)).toInt64)))))] := hD.sub [1, 2, 3, 4, 5, 0] (by decide) rfl
  exact k_iret () hx hb hr (by first | rfl | decide | exact vp_nar_int _) hlocks hK hP hD hS (rfl) (rfl) (Nat.le_of_ble_eq_true rfl) (Nat.le_of_ble_eq_true rfl) dL_plan_18

set_option maxRecDepth 100000 in
set_option maxHeartbeats 4000000 in
theorem c_L_planX1 (l : Launch) (D : va_G) (cI cB cJ cS : ClassId) (hl9 : l.stackTraces = false) (x sa a rs rd wt : Nat) (z : Int32) (hz : z < 0 ∨ nI 4 ≤ z) (z2 : Int32) (o : Nat) (fo : Nat → Int64)  : kM l yL_plan vsL_plan ({ frames := 8, cells := 1, slots := 6, locals := 125 }) D (kT cI cB cJ cS) [.ref x, .int z, .int z2, .ref o] [(x, .inr (4, [.ref sa, .ref a, .ref rs, .ref rd, .ref wt])), (o, .inl (cJ, 1, .inr (.inl fo)))] (kQi D (kT cI cB cJ cS) (fun r (ug : Unit) => r = nI 1) (fun ug => [(x, .inr (4, [.ref sa, .ref a, .ref rs, .ref rd, .ref wt])), (o, .inl (cJ, 1, .inr (.inl fo)))])) := by
  refine k_ofH (by decide) rfl (Nat.le_of_ble_eq_true rfl) ?_
  intro p e s m below meth c A ls hx hb hr hts hown hlocks hmn hml hA hP hK hD hS hZ hl htab
  have inX6 : ∀ w ∈ wsX60, w ∈ vsL_plan := fun w h => List.mem_cons_of_mem _ (iaX6 w h)
  have F : CallFix p m c cL_plan 5 s _ vsL_plan RL := ⟨hx, hb, hml, hown, hts⟩
  have hl : lv_has ls 5 [(0, .ref x), (1, .int z), (2, .int z2), (3, .ref o)] := hl
  refine lv_aload_n hx hb dL_plan_0 rfl (lv_at hl 3 rfl) ?_
  refine lv_iconst (v := nI 0) hx hb dL_plan_1 (by decide) ?_
  refine lv_aload_n hx hb dL_plan_2 rfl (lv_at hl 0 rfl) ?_
  refine lv_iload_n hx hb dL_plan_3 rfl (lv_at hl 1 rfl) ?_
  refine lv_iload_n hx hb dL_plan_4 rfl (lv_at hl 2 rfl) ?_
  refine k_cx (wr := [(o, .inl (cJ, 1, .inr (.inl fo)))]) (k_rvX F (c_planX1 l D cI cB cJ cS hl9 x sa a rs rd wt z hz z2) (cwV 2 hts (g_V wd_352 wd_353 wd_354 wd_8 wd_355) rfl rfl rfl (by decide +kernel) ⟨Nat.le_of_ble_eq_true rfl, Nat.le_of_ble_eq_true rfl⟩) hK hP hD hS hA hZ [0] rfl (by decide) 0 rfl rfl rfl rfl hl.1 rfl (Nat.le_of_ble_eq_true rfl) dL_plan_5 ⟨Nat.le_of_ble_eq_true rfl, Nat.le_of_ble_eq_true rfl⟩) hP hD hS hA [0] [1] rfl rfl (by decide) (by decide) (fun q9 ce H locs hP hD hS hce hcv hcl => ?_)
  have hP : va_P D kCl [(o, .inl (cJ, 1, .inr (.inl fo))), (x, .inr (4, [.ref sa, .ref a, .ref rs, .ref rd, .ref wt]))] H := hP
  have hD : va_D A [(o, .inl (cJ, 1, .inr (.inl fo))), (x, .inr (4, [.ref sa, .ref a, .ref rs, .ref rd, .ref wt]))] := hD
  refine vx_widen (k := 1) (n := 6) (Nat.le_of_ble_eq_true rfl) (Nat.le_of_ble_eq_true rfl) ?_
  refine vx_catch (E := "java/lang/IndexOutOfBoundsException") (name := "java/lang/IndexOutOfBoundsException") hown [] ⟨0, 10, 13, 24⟩ [] (by rw [htab]; rfl) (fun z hz => nomatch hz) (by decide) (by decide) (hts (.classLink RL 24 "java/lang/IndexOutOfBoundsException") (List.mem_cons_of_mem _ wd_339)) (va_Nw.use rfl (hZ.nw (w := .castable "java/lang/IndexOutOfBoundsException" "java/lang/IndexOutOfBoundsException") (by decide +kernel))) hce hcv hcl ?_
  refine lv_astore (lv' := [(4, .ref q9), (0, .ref x), (1, .int z), (2, .int z2), (3, .ref o)]) hx hb dL_plan_13 hl (by decide) rfl (fun ls hl => ?_)
  refine lv_iconst (v := nI 1) hx hb dL_plan_15 (by decide) ?_
  have hP : va_P D kCl [(x, .inr (4, [.ref sa, .ref a, .ref rs, .ref rd, .ref wt])), (o, .inl (cJ, 1, .inr (.inl fo)))] H := hP.sub [1, 0] rfl
  have hD : va_D A [(x, .inr (4, [.ref sa, .ref a, .ref rs, .ref rd, .ref wt])), (o, .inl (cJ, 1, .inr (.inl fo)))] := hD.sub [1, 0] (by decide) rfl
  exact k_iret () hx hb hr (by first | rfl | decide | exact vp_nar_int _) hlocks hK hP hD hS (rfl) (rfl) (Nat.le_of_ble_eq_true rfl) (Nat.le_of_ble_eq_true rfl) dL_plan_16

set_option maxRecDepth 100000 in
set_option maxHeartbeats 4000000 in
theorem c_L_planX2 (l : Launch) (D : va_G) (cI cB cJ cS : ClassId) (hl9 : l.stackTraces = false) (x sa a rs rd wt : Nat) (f : Nat → Option Nat) (k : Nat) (hk : k < 4) (sh sn sv PN pn VN vn : Nat) (pf : Nat → Nat) (fv : Nat → Int32) (hf : f k = some sh) (z : Int32) (hz : z < 0 ∨ nI pn ≤ z) (o : Nat) (fo : Nat → Int64)  : kM l yL_plan vsL_plan ({ frames := 8, cells := 1, slots := 6, locals := 125 }) D (kT cI cB cJ cS) [.ref x, .int (nI k), .int z, .ref o] [(x, .inr (4, [.ref sa, .ref a, .ref rs, .ref rd, .ref wt])), (sa, .inl (cS, 4, .inr (.inr (.inr (.inr f))))), (sh, .inr (2, [.ref sn, .ref sv, .int (nI pn), .int (nI vn)])), (sn, .inl (cI, PN, .inl (iF pf))), (sv, .inl (cI, VN, .inl fv)), (o, .inl (cJ, 1, .inr (.inl fo)))] (kQi D (kT cI cB cJ cS) (fun r (ug : Unit) => r = nI 1) (fun ug => [(x, .inr (4, [.ref sa, .ref a, .ref rs, .ref rd, .ref wt])), (sa, .inl (cS, 4, .inr (.inr (.inr (.inr f))))), (sh, .inr (2, [.ref sn, .ref sv, .int (nI pn), .int (nI vn)])), (sn, .inl (cI, PN, .inl (iF pf))), (sv, .inl (cI, VN, .inl fv)), (o, .inl (cJ, 1, .inr (.inl fo)))])) := by
  refine k_ofH (by decide) rfl (Nat.le_of_ble_eq_true rfl) ?_
  intro p e s m below meth c A ls hx hb hr hts hown hlocks hmn hml hA hP hK hD hS hZ hl htab
  have inX4 : ∀ w ∈ wsX40, w ∈ vsL_plan := fun w h => List.mem_cons_of_mem _ (iaX4 w h)
  have inX6 : ∀ w ∈ wsX60, w ∈ vsL_plan := fun w h => List.mem_cons_of_mem _ (iaX6 w h)
  have F : CallFix p m c cL_plan 5 s _ vsL_plan RL := ⟨hx, hb, hml, hown, hts⟩
  have hl : lv_has ls 5 [(0, .ref x), (1, .int (nI k)), (2, .int z), (3, .ref o)] := hl
  refine lv_aload_n hx hb dL_plan_0 rfl (lv_at hl 3 rfl) ?_
  refine lv_iconst (v := nI 0) hx hb dL_plan_1 (by decide) ?_
  refine lv_aload_n hx hb dL_plan_2 rfl (lv_at hl 0 rfl) ?_
  refine lv_iload_n hx hb dL_plan_3 rfl (lv_at hl 1 rfl) ?_
  refine lv_iload_n hx hb dL_plan_4 rfl (lv_at hl 2 rfl) ?_
  refine k_cx (wr := [(o, .inl (cJ, 1, .inr (.inl fo)))]) (k_rvX F (c_planX2 l D cI cB cJ cS hl9 x sa a rs rd wt f k hk sh sn sv PN pn VN vn pf fv hf z hz) (cwV 2 hts (g_V wd_352 wd_353 wd_354 wd_8 wd_355) rfl rfl rfl (by decide +kernel) ⟨Nat.le_of_ble_eq_true rfl, Nat.le_of_ble_eq_true rfl⟩) hK hP hD hS hA hZ [0, 1, 2, 3, 4] rfl (by decide) 0 rfl rfl rfl rfl hl.1 rfl (Nat.le_of_ble_eq_true rfl) dL_plan_5 ⟨Nat.le_of_ble_eq_true rfl, Nat.le_of_ble_eq_true rfl⟩) hP hD hS hA [0, 1, 2, 3, 4] [5] rfl rfl (by decide) (by decide) (fun q9 ce H locs hP hD hS hce hcv hcl => ?_)
  have hP : va_P D kCl [(o, .inl (cJ, 1, .inr (.inl fo))), (x, .inr (4, [.ref sa, .ref a, .ref rs, .ref rd, .ref wt])), (sa, .inl (cS, 4, .inr (.inr (.inr (.inr f))))), (sh, .inr (2, [.ref sn, .ref sv, .int (nI pn), .int (nI vn)])), (sn, .inl (cI, PN, .inl (iF pf))), (sv, .inl (cI, VN, .inl fv))] H := hP
  have hD : va_D A [(o, .inl (cJ, 1, .inr (.inl fo))), (x, .inr (4, [.ref sa, .ref a, .ref rs, .ref rd, .ref wt])), (sa, .inl (cS, 4, .inr (.inr (.inr (.inr f))))), (sh, .inr (2, [.ref sn, .ref sv, .int (nI pn), .int (nI vn)])), (sn, .inl (cI, PN, .inl (iF pf))), (sv, .inl (cI, VN, .inl fv))] := hD
  refine vx_widen (k := 1) (n := 6) (Nat.le_of_ble_eq_true rfl) (Nat.le_of_ble_eq_true rfl) ?_
  refine vx_catch (E := "java/lang/IndexOutOfBoundsException") (name := "java/lang/IndexOutOfBoundsException") hown [] ⟨0, 10, 13, 24⟩ [] (by rw [htab]; rfl) (fun z hz => nomatch hz) (by decide) (by decide) (hts (.classLink RL 24 "java/lang/IndexOutOfBoundsException") (List.mem_cons_of_mem _ wd_339)) (va_Nw.use rfl (hZ.nw (w := .castable "java/lang/IndexOutOfBoundsException" "java/lang/IndexOutOfBoundsException") (by decide +kernel))) hce hcv hcl ?_
  refine lv_astore (lv' := [(4, .ref q9), (0, .ref x), (1, .int (nI k)), (2, .int z), (3, .ref o)]) hx hb dL_plan_13 hl (by decide) rfl (fun ls hl => ?_)
  refine lv_iconst (v := nI 1) hx hb dL_plan_15 (by decide) ?_
  have hP : va_P D kCl [(x, .inr (4, [.ref sa, .ref a, .ref rs, .ref rd, .ref wt])), (sa, .inl (cS, 4, .inr (.inr (.inr (.inr f))))), (sh, .inr (2, [.ref sn, .ref sv, .int (nI pn), .int (nI vn)])), (sn, .inl (cI, PN, .inl (iF pf))), (sv, .inl (cI, VN, .inl fv)), (o, .inl (cJ, 1, .inr (.inl fo)))] H := hP.sub [1, 2, 3, 4, 5, 0] rfl
  have hD : va_D A [(x, .inr (4, [.ref sa, .ref a, .ref rs, .ref rd, .ref wt])), (sa, .inl (cS, 4, .inr (.inr (.inr (.inr f))))), (sh, .inr (2, [.ref sn, .ref sv, .int (nI pn), .int (nI vn)])), (sn, .inl (cI, PN, .inl (iF pf))), (sv, .inl (cI, VN, .inl fv)), (o, .inl (cJ, 1, .inr (.inl fo)))] := hD.sub [1, 2, 3, 4, 5, 0] (by decide) rfl
  exact k_iret () hx hb hr (by first | rfl | decide | exact vp_nar_int _) hlocks hK hP hD hS (rfl) (rfl) (Nat.le_of_ble_eq_true rfl) (Nat.le_of_ble_eq_true rfl) dL_plan_16

set_option maxRecDepth 100000 in
set_option maxHeartbeats 4000000 in
theorem c_L_ordinate (l : Launch) (D : va_G) (cI cB cJ cS : ClassId) (x sa a rs rd wt : Nat) (f : Nat → Option Nat) (k : Nat) (hk : k < 4) (sh sn sv PN pn VN vn : Nat) (pf : Nat → Nat) (fv : Nat → Int32) (hf : f k = some sh) (hPN : PN ≤ 4096) (hpn : pn ≤ PN) (hVN : VN ≤ 8192) (hvn : vn ≤ VN) (j w : Nat) (hj : j < vn / 2) (hw2 : w < 2) (o : Nat) (fo : Nat → Int64)  : kM l yL_ordinate vsL_ordinate ({ frames := 3, cells := 0, slots := 0, locals := 65 }) D (kT cI cB cJ cS) [.ref x, .int (nI k), .int (nI j), .int (nI w), .ref o] [(x, .inr (4, [.ref sa, .ref a, .ref rs, .ref rd, .ref wt])), (sa, .inl (cS, 4, .inr (.inr (.inr (.inr f))))), (sh, .inr (2, [.ref sn, .ref sv, .int (nI pn), .int (nI vn)])), (sn, .inl (cI, PN, .inl (iF pf))), (sv, .inl (cI, VN, .inl fv)), (o, .inl (cJ, 1, .inr (.inl fo)))] (kQi D (kT cI cB cJ cS) (fun r (ug : Unit) => r = nI 0) (fun ug => [(x, .inr (4, [.ref sa, .ref a, .ref rs, .ref rd, .ref wt])), (sa, .inl (cS, 4, .inr (.inr (.inr (.inr f))))), (sh, .inr (2, [.ref sn, .ref sv, .int (nI pn), .int (nI vn)])), (sn, .inl (cI, PN, .inl (iF pf))), (sv, .inl (cI, VN, .inl fv)), (o, .inl (cJ, 1, .inr (.inl (vp_updL fo 0 ((fv (2 * j + w)).toInt64)))))])) := by
  refine k_ofH (by decide) rfl (Nat.le_of_ble_eq_true rfl) ?_
  intro p e s m below meth c A ls hx hb hr hts hown hlocks hmn hml hA hP hK hD hS hZ hl htab
  have inX4 : ∀ w ∈ wsX40, w ∈ vsL_ordinate := fun w h => List.mem_cons_of_mem _ (iaX4 w h)
  have inX6 : ∀ w ∈ wsX60, w ∈ vsL_ordinate := fun w h => List.mem_cons_of_mem _ (iaX6 w h)
  have F : CallFix p m c cL_ordinate 6 s _ vsL_ordinate RL := ⟨hx, hb, hml, hown, hts⟩
  have hl : lv_has ls 6 [(0, .ref x), (1, .int (nI k)), (2, .int (nI j)), (3, .int (nI w)), (4, .ref o)] := hl
  refine lv_aload hx hb dL_ordinate_0 (lv_at hl 4 rfl) ?_
  refine lv_iconst (v := nI 0) hx hb dL_ordinate_2 (by decide) ?_
  refine lv_aload_n hx hb dL_ordinate_3 rfl (lv_at hl 0 rfl) ?_
  refine lv_iload_n hx hb dL_ordinate_4 rfl (lv_at hl 1 rfl) ?_
  refine lv_iload_n hx hb dL_ordinate_5 rfl (lv_at hl 2 rfl) ?_
  refine lv_iload_n hx hb dL_ordinate_6 rfl (lv_at hl 3 rfl) ?_
  refine k_ci (wr := [(o, .inl (cJ, 1, .inr (.inl fo)))]) (k_rv F (c_ordinate l D cI cB cJ cS x sa a rs rd wt f k hk sh sn sv PN pn VN vn pf fv hf hPN hpn hVN hvn j w hj hw2) (cwV 3 hts (g_V wd_356 wd_357 wd_358 wd_8 wd_359) rfl rfl rfl (by decide +kernel) ⟨Nat.le_of_ble_eq_true rfl, Nat.le_of_ble_eq_true rfl⟩) hK hP hD hS hA hZ [0, 1, 2, 3, 4] rfl (by decide) 0 rfl rfl rfl rfl hl.1 rfl (Nat.le_of_ble_eq_true rfl) dL_ordinate_7 ⟨Nat.le_of_ble_eq_true rfl, Nat.le_of_ble_eq_true rfl⟩) hP hD hS hA [0, 1, 2, 3, 4] [5] rfl rfl (by decide) (by decide) (fun r u9 H locs hw hP hD hS => ?_)
  subst hw
  have hP : va_P D kCl [(o, .inl (cJ, 1, .inr (.inl fo))), (x, .inr (4, [.ref sa, .ref a, .ref rs, .ref rd, .ref wt])), (sa, .inl (cS, 4, .inr (.inr (.inr (.inr f))))), (sh, .inr (2, [.ref sn, .ref sv, .int (nI pn), .int (nI vn)])), (sn, .inl (cI, PN, .inl (iF pf))), (sv, .inl (cI, VN, .inl fv))] H := hP
  have hD : va_D A [(o, .inl (cJ, 1, .inr (.inl fo))), (x, .inr (4, [.ref sa, .ref a, .ref rs, .ref rd, .ref wt])), (sa, .inl (cS, 4, .inr (.inr (.inr (.inr f))))), (sh, .inr (2, [.ref sn, .ref sv, .int (nI pn), .int (nI vn)])), (sn, .inl (cI, PN, .inl (iF pf))), (sv, .inl (cI, VN, .inl fv))] := hD
  refine W.widen (k := 0) (n := 0) (Nat.le_of_ble_eq_true rfl) (Nat.le_of_ble_eq_true rfl) ?_
  refine lv_i2l (v := (fv (2 * j + w)).toInt64) hx hb dL_ordinate_10 (rfl) ?_
  refine va_last hx hb hK hP hD hS 0 2 rfl rfl (vp_in_nI (by omega) (by omega)) dL_ordinate_11 (fun H locs hP hD hS => ?_)
  rw [show vp_updL fo (nI 0).toNatClampNeg ((fv (2 * j + w)).toInt64) = vp_updL fo 0 ((fv (2 * j + w)).toInt64) from by rw [nI_clamp (by omega)]] at hP hD
  have hP : va_P D kCl [(o, .inl (cJ, 1, .inr (.inl (vp_updL fo 0 ((fv (2 * j + w)).toInt64))))), (x, .inr (4, [.ref sa, .ref a, .ref rs, .ref rd, .ref wt])), (sa, .inl (cS, 4, .inr (.inr (.inr (.inr f))))), (sh, .inr (2, [.ref sn, .ref sv, .int (nI pn), .int (nI vn)])), (sn, .inl (cI, PN, .inl (iF pf))), (sv, .inl (cI, VN, .inl fv))] H := hP
  have hD : va_D A [(o, .inl (cJ, 1, .inr (.inl (vp_updL fo 0 ((fv (2 * j + w)).toInt64))))), (x, .inr (4, [.ref sa, .ref a, .ref rs, .ref rd, .ref wt])), (sa, .inl (cS, 4, .inr (.inr (.inr (.inr f))))), (sh, .inr (2, [.ref sn, .ref sv, .int (nI pn), .int (nI vn)])), (sn, .inl (cI, PN, .inl (iF pf))), (sv, .inl (cI, VN, .inl fv))] := hD
  refine lv_goto (tgt := 19) hx hb dL_ordinate_12 (by decide) ?_
  refine lv_iconst (v := nI 0) hx hb dL_ordinate_19 (by decide) ?_
  have hP : va_P D kCl [(x, .inr (4, [.ref sa, .ref a, .ref rs, .ref rd, .ref wt])), (sa, .inl (cS, 4, .inr (.inr (.inr (.inr f))))), (sh, .inr (2, [.ref sn, .ref sv, .int (nI pn), .int (nI vn)])), (sn, .inl (cI, PN, .inl (iF pf))), (sv, .inl (cI, VN, .inl fv)), (o, .inl (cJ, 1, .inr (.inl (vp_updL fo 0 ((fv (2 * j + w)).toInt64)))))] H := hP.sub [1, 2, 3, 4, 5, 0] rfl
  have hD : va_D A [(x, .inr (4, [.ref sa, .ref a, .ref rs, .ref rd, .ref wt])), (sa, .inl (cS, 4, .inr (.inr (.inr (.inr f))))), (sh, .inr (2, [.ref sn, .ref sv, .int (nI pn), .int (nI vn)])), (sn, .inl (cI, PN, .inl (iF pf))), (sv, .inl (cI, VN, .inl fv)), (o, .inl (cJ, 1, .inr (.inl (vp_updL fo 0 ((fv (2 * j + w)).toInt64)))))] := hD.sub [1, 2, 3, 4, 5, 0] (by decide) rfl
  exact k_iret () hx hb hr (by first | rfl | decide | exact vp_nar_int _) hlocks hK hP hD hS (rfl) (rfl) (Nat.le_of_ble_eq_true rfl) (Nat.le_of_ble_eq_true rfl) dL_ordinate_20

set_option maxRecDepth 100000 in
set_option maxHeartbeats 4000000 in
theorem c_L_ordinateX1 (l : Launch) (D : va_G) (cI cB cJ cS : ClassId) (hl9 : l.stackTraces = false) (x sa a rs rd wt : Nat) (z : Int32) (hz : z < 0 ∨ nI 4 ≤ z) (z2 z3 : Int32) (o : Nat) (fo : Nat → Int64)  : kM l yL_ordinate vsL_ordinate ({ frames := 8, cells := 1, slots := 6, locals := 126 }) D (kT cI cB cJ cS) [.ref x, .int z, .int z2, .int z3, .ref o] [(x, .inr (4, [.ref sa, .ref a, .ref rs, .ref rd, .ref wt])), (o, .inl (cJ, 1, .inr (.inl fo)))] (kQi D (kT cI cB cJ cS) (fun r (ug : Unit) => r = nI 1) (fun ug => [(x, .inr (4, [.ref sa, .ref a, .ref rs, .ref rd, .ref wt])), (o, .inl (cJ, 1, .inr (.inl fo)))])) := by
  refine k_ofH (by decide) rfl (Nat.le_of_ble_eq_true rfl) ?_
  intro p e s m below meth c A ls hx hb hr hts hown hlocks hmn hml hA hP hK hD hS hZ hl htab
  have inX6 : ∀ w ∈ wsX60, w ∈ vsL_ordinate := fun w h => List.mem_cons_of_mem _ (iaX6 w h)
  have F : CallFix p m c cL_ordinate 6 s _ vsL_ordinate RL := ⟨hx, hb, hml, hown, hts⟩
  have hl : lv_has ls 6 [(0, .ref x), (1, .int z), (2, .int z2), (3, .int z3), (4, .ref o)] := hl
  refine lv_aload hx hb dL_ordinate_0 (lv_at hl 4 rfl) ?_
  refine lv_iconst (v := nI 0) hx hb dL_ordinate_2 (by decide) ?_
  refine lv_aload_n hx hb dL_ordinate_3 rfl (lv_at hl 0 rfl) ?_
  refine lv_iload_n hx hb dL_ordinate_4 rfl (lv_at hl 1 rfl) ?_
  refine lv_iload_n hx hb dL_ordinate_5 rfl (lv_at hl 2 rfl) ?_
  refine lv_iload_n hx hb dL_ordinate_6 rfl (lv_at hl 3 rfl) ?_
  refine k_cx (wr := [(o, .inl (cJ, 1, .inr (.inl fo)))]) (k_rvX F (c_ordinateX1 l D cI cB cJ cS hl9 x sa a rs rd wt z hz z2 z3) (cwV 3 hts (g_V wd_356 wd_357 wd_358 wd_8 wd_359) rfl rfl rfl (by decide +kernel) ⟨Nat.le_of_ble_eq_true rfl, Nat.le_of_ble_eq_true rfl⟩) hK hP hD hS hA hZ [0] rfl (by decide) 0 rfl rfl rfl rfl hl.1 rfl (Nat.le_of_ble_eq_true rfl) dL_ordinate_7 ⟨Nat.le_of_ble_eq_true rfl, Nat.le_of_ble_eq_true rfl⟩) hP hD hS hA [0] [1] rfl rfl (by decide) (by decide) (fun q9 ce H locs hP hD hS hce hcv hcl => ?_)
  have hP : va_P D kCl [(o, .inl (cJ, 1, .inr (.inl fo))), (x, .inr (4, [.ref sa, .ref a, .ref rs, .ref rd, .ref wt]))] H := hP
  have hD : va_D A [(o, .inl (cJ, 1, .inr (.inl fo))), (x, .inr (4, [.ref sa, .ref a, .ref rs, .ref rd, .ref wt]))] := hD
  refine vx_widen (k := 1) (n := 6) (Nat.le_of_ble_eq_true rfl) (Nat.le_of_ble_eq_true rfl) ?_
  refine vx_catch (E := "java/lang/IndexOutOfBoundsException") (name := "java/lang/IndexOutOfBoundsException") hown [] ⟨0, 12, 15, 24⟩ [] (by rw [htab]; rfl) (fun z hz => nomatch hz) (by decide) (by decide) (hts (.classLink RL 24 "java/lang/IndexOutOfBoundsException") (List.mem_cons_of_mem _ wd_339)) (va_Nw.use rfl (hZ.nw (w := .castable "java/lang/IndexOutOfBoundsException" "java/lang/IndexOutOfBoundsException") (by decide +kernel))) hce hcv hcl ?_
  refine lv_astore (lv' := [(5, .ref q9), (0, .ref x), (1, .int z), (2, .int z2), (3, .int z3), (4, .ref o)]) hx hb dL_ordinate_15 hl (by decide) rfl (fun ls hl => ?_)
  refine lv_iconst (v := nI 1) hx hb dL_ordinate_17 (by decide) ?_
  have hP : va_P D kCl [(x, .inr (4, [.ref sa, .ref a, .ref rs, .ref rd, .ref wt])), (o, .inl (cJ, 1, .inr (.inl fo)))] H := hP.sub [1, 0] rfl
  have hD : va_D A [(x, .inr (4, [.ref sa, .ref a, .ref rs, .ref rd, .ref wt])), (o, .inl (cJ, 1, .inr (.inl fo)))] := hD.sub [1, 0] (by decide) rfl
  exact k_iret () hx hb hr (by first | rfl | decide | exact vp_nar_int _) hlocks hK hP hD hS (rfl) (rfl) (Nat.le_of_ble_eq_true rfl) (Nat.le_of_ble_eq_true rfl) dL_ordinate_18

set_option maxRecDepth 100000 in
set_option maxHeartbeats 4000000 in
theorem c_L_ordinateX2 (l : Launch) (D : va_G) (cI cB cJ cS : ClassId) (hl9 : l.stackTraces = false) (x sa a rs rd wt : Nat) (f : Nat → Option Nat) (k : Nat) (hk : k < 4) (sh sn sv PN pn VN vn : Nat) (pf : Nat → Nat) (fv : Nat → Int32) (hf : f k = some sh) (hVN : VN ≤ 8192) (hvn : vn ≤ VN) (z y : Int32) (hz : (z < 0 ∨ nI (vn / 2) ≤ z) ∨ (y < 0 ∨ nI 1 < y)) (o : Nat) (fo : Nat → Int64)  : kM l yL_ordinate vsL_ordinate ({ frames := 8, cells := 1, slots := 6, locals := 127 }) D (kT cI cB cJ cS) [.ref x, .int (nI k), .int z, .int y, .ref o] [(x, .inr (4, [.ref sa, .ref a, .ref rs, .ref rd, .ref wt])), (sa, .inl (cS, 4, .inr (.inr (.inr (.inr f))))), (sh, .inr (2, [.ref sn, .ref sv, .int (nI pn), .int (nI vn)])), (sn, .inl (cI, PN, .inl (iF pf))), (sv, .inl (cI, VN, .inl fv)), (o, .inl (cJ, 1, .inr (.inl fo)))] (kQi D (kT cI cB cJ cS) (fun r (ug : Unit) => r = nI 1) (fun ug => [(x, .inr (4, [.ref sa, .ref a, .ref rs, .ref rd, .ref wt])), (sa, .inl (cS, 4, .inr (.inr (.inr (.inr f))))), (sh, .inr (2, [.ref sn, .ref sv, .int (nI pn), .int (nI vn)])), (sn, .inl (cI, PN, .inl (iF pf))), (sv, .inl (cI, VN, .inl fv)), (o, .inl (cJ, 1, .inr (.inl fo)))])) := by
  refine k_ofH (by decide) rfl (Nat.le_of_ble_eq_true rfl) ?_
  intro p e s m below meth c A ls hx hb hr hts hown hlocks hmn hml hA hP hK hD hS hZ hl htab
  have inX4 : ∀ w ∈ wsX40, w ∈ vsL_ordinate := fun w h => List.mem_cons_of_mem _ (iaX4 w h)
  have inX6 : ∀ w ∈ wsX60, w ∈ vsL_ordinate := fun w h => List.mem_cons_of_mem _ (iaX6 w h)
  have F : CallFix p m c cL_ordinate 6 s _ vsL_ordinate RL := ⟨hx, hb, hml, hown, hts⟩
  have hl : lv_has ls 6 [(0, .ref x), (1, .int (nI k)), (2, .int z), (3, .int y), (4, .ref o)] := hl
  refine lv_aload hx hb dL_ordinate_0 (lv_at hl 4 rfl) ?_
  refine lv_iconst (v := nI 0) hx hb dL_ordinate_2 (by decide) ?_
  refine lv_aload_n hx hb dL_ordinate_3 rfl (lv_at hl 0 rfl) ?_
  refine lv_iload_n hx hb dL_ordinate_4 rfl (lv_at hl 1 rfl) ?_
  refine lv_iload_n hx hb dL_ordinate_5 rfl (lv_at hl 2 rfl) ?_
  refine lv_iload_n hx hb dL_ordinate_6 rfl (lv_at hl 3 rfl) ?_
  refine k_cx (wr := [(o, .inl (cJ, 1, .inr (.inl fo)))]) (k_rvX F (c_ordinateX2 l D cI cB cJ cS hl9 x sa a rs rd wt f k hk sh sn sv PN pn VN vn pf fv hf hVN hvn z y hz) (cwV 3 hts (g_V wd_356 wd_357 wd_358 wd_8 wd_359) rfl rfl rfl (by decide +kernel) ⟨Nat.le_of_ble_eq_true rfl, Nat.le_of_ble_eq_true rfl⟩) hK hP hD hS hA hZ [0, 1, 2, 3, 4] rfl (by decide) 0 rfl rfl rfl rfl hl.1 rfl (Nat.le_of_ble_eq_true rfl) dL_ordinate_7 ⟨Nat.le_of_ble_eq_true rfl, Nat.le_of_ble_eq_true rfl⟩) hP hD hS hA [0, 1, 2, 3, 4] [5] rfl rfl (by decide) (by decide) (fun q9 ce H locs hP hD hS hce hcv hcl => ?_)
  have hP : va_P D kCl [(o, .inl (cJ, 1, .inr (.inl fo))), (x, .inr (4, [.ref sa, .ref a, .ref rs, .ref rd, .ref wt])), (sa, .inl (cS, 4, .inr (.inr (.inr (.inr f))))), (sh, .inr (2, [.ref sn, .ref sv, .int (nI pn), .int (nI vn)])), (sn, .inl (cI, PN, .inl (iF pf))), (sv, .inl (cI, VN, .inl fv))] H := hP
  have hD : va_D A [(o, .inl (cJ, 1, .inr (.inl fo))), (x, .inr (4, [.ref sa, .ref a, .ref rs, .ref rd, .ref wt])), (sa, .inl (cS, 4, .inr (.inr (.inr (.inr f))))), (sh, .inr (2, [.ref sn, .ref sv, .int (nI pn), .int (nI vn)])), (sn, .inl (cI, PN, .inl (iF pf))), (sv, .inl (cI, VN, .inl fv))] := hD
  refine vx_widen (k := 1) (n := 6) (Nat.le_of_ble_eq_true rfl) (Nat.le_of_ble_eq_true rfl) ?_
  refine vx_catch (E := "java/lang/IndexOutOfBoundsException") (name := "java/lang/IndexOutOfBoundsException") hown [] ⟨0, 12, 15, 24⟩ [] (by rw [htab]; rfl) (fun z hz => nomatch hz) (by decide) (by decide) (hts (.classLink RL 24 "java/lang/IndexOutOfBoundsException") (List.mem_cons_of_mem _ wd_339)) (va_Nw.use rfl (hZ.nw (w := .castable "java/lang/IndexOutOfBoundsException" "java/lang/IndexOutOfBoundsException") (by decide +kernel))) hce hcv hcl ?_
  refine lv_astore (lv' := [(5, .ref q9), (0, .ref x), (1, .int (nI k)), (2, .int z), (3, .int y), (4, .ref o)]) hx hb dL_ordinate_15 hl (by decide) rfl (fun ls hl => ?_)
  refine lv_iconst (v := nI 1) hx hb dL_ordinate_17 (by decide) ?_
  have hP : va_P D kCl [(x, .inr (4, [.ref sa, .ref a, .ref rs, .ref rd, .ref wt])), (sa, .inl (cS, 4, .inr (.inr (.inr (.inr f))))), (sh, .inr (2, [.ref sn, .ref sv, .int (nI pn), .int (nI vn)])), (sn, .inl (cI, PN, .inl (iF pf))), (sv, .inl (cI, VN, .inl fv)), (o, .inl (cJ, 1, .inr (.inl fo)))] H := hP.sub [1, 2, 3, 4, 5, 0] rfl
  have hD : va_D A [(x, .inr (4, [.ref sa, .ref a, .ref rs, .ref rd, .ref wt])), (sa, .inl (cS, 4, .inr (.inr (.inr (.inr f))))), (sh, .inr (2, [.ref sn, .ref sv, .int (nI pn), .int (nI vn)])), (sn, .inl (cI, PN, .inl (iF pf))), (sv, .inl (cI, VN, .inl fv)), (o, .inl (cJ, 1, .inr (.inl fo)))] := hD.sub [1, 2, 3, 4, 5, 0] (by decide) rfl
  exact k_iret () hx hb hr (by first | rfl | decide | exact vp_nar_int _) hlocks hK hP hD hS (rfl) (rfl) (Nat.le_of_ble_eq_true rfl) (Nat.le_of_ble_eq_true rfl) dL_ordinate_18

set_option maxRecDepth 100000 in
set_option maxHeartbeats 4000000 in
theorem c_L_byteAt (l : Launch) (D : va_G) (cI cB cJ cS : ClassId) (x sa a rs rd wt : Nat) (rsb n2 : Nat) (b2 : Nat → Nat) (j : Nat) (hj : j < n2) (hn2 : n2 ≤ 65536) (hb256 : ∀ j, b2 j < 256) (o : Nat) (fo : Nat → Int64)  : kM l yL_byteAt vsL_byteAt ({ frames := 2, cells := 0, slots := 0, locals := 42 }) D (kT cI cB cJ cS) [.ref x, .int (nI j), .ref o] [(x, .inr (4, [.ref sa, .ref a, .ref rs, .ref rd, .ref wt])), (rs, .inr (1, [.ref rsb, .int (nI n2)])), (rsb, .inl (cB, 65536, .inl (bF b2))), (o, .inl (cJ, 1, .inr (.inl fo)))] (kQi D (kT cI cB cJ cS) (fun r (ug : Unit) => r = nI 0) (fun ug => [(x, .inr (4, [.ref sa, .ref a, .ref rs, .ref rd, .ref wt])), (rs, .inr (1, [.ref rsb, .int (nI n2)])), (rsb, .inl (cB, 65536, .inl (bF b2))), (o, .inl (cJ, 1, .inr (.inl (vp_updL fo 0 (lN (b2 j))))))])) := by
  refine k_ofH (by decide) rfl (Nat.le_of_ble_eq_true rfl) ?_
  intro p e s m below meth c A ls hx hb hr hts hown hlocks hmn hml hA hP hK hD hS hZ hl htab
  have inX3 : ∀ w ∈ wsX30, w ∈ vsL_byteAt := fun w h => List.mem_cons_of_mem _ (iaX3 w h)
  have inX6 : ∀ w ∈ wsX60, w ∈ vsL_byteAt := fun w h => List.mem_cons_of_mem _ (iaX6 w h)
  have F : CallFix p m c cL_byteAt 4 s _ vsL_byteAt RL := ⟨hx, hb, hml, hown, hts⟩
  have hl : lv_has ls 4 [(0, .ref x), (1, .int (nI j)), (2, .ref o)] := hl
  refine lv_aload_n hx hb dL_byteAt_0 rfl (lv_at hl 2 rfl) ?_
  refine lv_iconst (v := nI 0) hx hb dL_byteAt_1 (by decide) ?_
  refine lv_aload_n hx hb dL_byteAt_2 rfl (lv_at hl 0 rfl) ?_
  refine lv_iload_n hx hb dL_byteAt_3 rfl (lv_at hl 1 rfl) ?_
  refine k_ci (wr := [(o, .inl (cJ, 1, .inr (.inl fo)))]) (k_rv F (c_byteAt l D cI cB cJ cS x sa a rs rd wt rsb n2 b2 j hj hn2 hb256) (cwV 1 hts (g_V wd_360 wd_361 wd_362 wd_8 wd_363) rfl rfl rfl (by decide +kernel) ⟨Nat.le_of_ble_eq_true rfl, Nat.le_of_ble_eq_true rfl⟩) hK hP hD hS hA hZ [0, 1, 2] rfl (by decide) 0 rfl rfl rfl rfl hl.1 rfl (Nat.le_of_ble_eq_true rfl) dL_byteAt_4 ⟨Nat.le_of_ble_eq_true rfl, Nat.le_of_ble_eq_true rfl⟩) hP hD hS hA [0, 1, 2] [3] rfl rfl (by decide) (by decide) (fun r u9 H locs hw hP hD hS => ?_)
  subst hw
  have hP : va_P D kCl [(o, .inl (cJ, 1, .inr (.inl fo))), (x, .inr (4, [.ref sa, .ref a, .ref rs, .ref rd, .ref wt])), (rs, .inr (1, [.ref rsb, .int (nI n2)])), (rsb, .inl (cB, 65536, .inl (bF b2)))] H := hP
  have hD : va_D A [(o, .inl (cJ, 1, .inr (.inl fo))), (x, .inr (4, [.ref sa, .ref a, .ref rs, .ref rd, .ref wt])), (rs, .inr (1, [.ref rsb, .int (nI n2)])), (rsb, .inl (cB, 65536, .inl (bF b2)))] := hD
  refine W.widen (k := 0) (n := 0) (Nat.le_of_ble_eq_true rfl) (Nat.le_of_ble_eq_true rfl) ?_
  refine lv_i2l (v := lN (b2 j)) hx hb dL_byteAt_7 (nI_l (Nat.lt_trans (hb256 j) (by decide))) ?_
  refine va_last hx hb hK hP hD hS 0 2 rfl rfl (vp_in_nI (by omega) (by omega)) dL_byteAt_8 (fun H locs hP hD hS => ?_)
  rw [show vp_updL fo (nI 0).toNatClampNeg (lN (b2 j)) = vp_updL fo 0 (lN (b2 j)) from by rw [nI_clamp (by omega)]] at hP hD
  have hP : va_P D kCl [(o, .inl (cJ, 1, .inr (.inl (vp_updL fo 0 (lN (b2 j)))))), (x, .inr (4, [.ref sa, .ref a, .ref rs, .ref rd, .ref wt])), (rs, .inr (1, [.ref rsb, .int (nI n2)])), (rsb, .inl (cB, 65536, .inl (bF b2)))] H := hP
  have hD : va_D A [(o, .inl (cJ, 1, .inr (.inl (vp_updL fo 0 (lN (b2 j)))))), (x, .inr (4, [.ref sa, .ref a, .ref rs, .ref rd, .ref wt])), (rs, .inr (1, [.ref rsb, .int (nI n2)])), (rsb, .inl (cB, 65536, .inl (bF b2)))] := hD
  refine lv_goto (tgt := 15) hx hb dL_byteAt_9 (by decide) ?_
  refine lv_iconst (v := nI 0) hx hb dL_byteAt_15 (by decide) ?_
  have hP : va_P D kCl [(x, .inr (4, [.ref sa, .ref a, .ref rs, .ref rd, .ref wt])), (rs, .inr (1, [.ref rsb, .int (nI n2)])), (rsb, .inl (cB, 65536, .inl (bF b2))), (o, .inl (cJ, 1, .inr (.inl (vp_updL fo 0 (lN (b2 j))))))] H := hP.sub [1, 2, 3, 0] rfl
  have hD : va_D A [(x, .inr (4, [.ref sa, .ref a, .ref rs, .ref rd, .ref wt])), (rs, .inr (1, [.ref rsb, .int (nI n2)])), (rsb, .inl (cB, 65536, .inl (bF b2))), (o, .inl (cJ, 1, .inr (.inl (vp_updL fo 0 (lN (b2 j))))))] := hD.sub [1, 2, 3, 0] (by decide) rfl
  exact k_iret () hx hb hr (by first | rfl | decide | exact vp_nar_int _) hlocks hK hP hD hS (rfl) (rfl) (Nat.le_of_ble_eq_true rfl) (Nat.le_of_ble_eq_true rfl) dL_byteAt_16

set_option maxRecDepth 100000 in
set_option maxHeartbeats 4000000 in
theorem c_L_byteAtX (l : Launch) (D : va_G) (cI cB cJ cS : ClassId) (hl9 : l.stackTraces = false) (x sa a rs rd wt : Nat) (rsb n2 : Nat) (b2 : Nat → Nat) (z : Int32) (hz : z < 0 ∨ nI n2 ≤ z) (o : Nat) (fo : Nat → Int64)  : kM l yL_byteAt vsL_byteAt ({ frames := 8, cells := 1, slots := 6, locals := 124 }) D (kT cI cB cJ cS) [.ref x, .int z, .ref o] [(x, .inr (4, [.ref sa, .ref a, .ref rs, .ref rd, .ref wt])), (rs, .inr (1, [.ref rsb, .int (nI n2)])), (rsb, .inl (cB, 65536, .inl (bF b2))), (o, .inl (cJ, 1, .inr (.inl fo)))] (kQi D (kT cI cB cJ cS) (fun r (ug : Unit) => r = nI 1) (fun ug => [(x, .inr (4, [.ref sa, .ref a, .ref rs, .ref rd, .ref wt])), (rs, .inr (1, [.ref rsb, .int (nI n2)])), (rsb, .inl (cB, 65536, .inl (bF b2))), (o, .inl (cJ, 1, .inr (.inl fo)))])) := by
  refine k_ofH (by decide) rfl (Nat.le_of_ble_eq_true rfl) ?_
  intro p e s m below meth c A ls hx hb hr hts hown hlocks hmn hml hA hP hK hD hS hZ hl htab
  have inX3 : ∀ w ∈ wsX30, w ∈ vsL_byteAt := fun w h => List.mem_cons_of_mem _ (iaX3 w h)
  have inX6 : ∀ w ∈ wsX60, w ∈ vsL_byteAt := fun w h => List.mem_cons_of_mem _ (iaX6 w h)
  have F : CallFix p m c cL_byteAt 4 s _ vsL_byteAt RL := ⟨hx, hb, hml, hown, hts⟩
  have hl : lv_has ls 4 [(0, .ref x), (1, .int z), (2, .ref o)] := hl
  refine lv_aload_n hx hb dL_byteAt_0 rfl (lv_at hl 2 rfl) ?_
  refine lv_iconst (v := nI 0) hx hb dL_byteAt_1 (by decide) ?_
  refine lv_aload_n hx hb dL_byteAt_2 rfl (lv_at hl 0 rfl) ?_
  refine lv_iload_n hx hb dL_byteAt_3 rfl (lv_at hl 1 rfl) ?_
  refine k_cx (wr := [(o, .inl (cJ, 1, .inr (.inl fo)))]) (k_rvX F (c_byteAtX l D cI cB cJ cS hl9 x sa a rs rd wt rsb n2 b2 z hz) (cwV 1 hts (g_V wd_360 wd_361 wd_362 wd_8 wd_363) rfl rfl rfl (by decide +kernel) ⟨Nat.le_of_ble_eq_true rfl, Nat.le_of_ble_eq_true rfl⟩) hK hP hD hS hA hZ [0, 1, 2] rfl (by decide) 0 rfl rfl rfl rfl hl.1 rfl (Nat.le_of_ble_eq_true rfl) dL_byteAt_4 ⟨Nat.le_of_ble_eq_true rfl, Nat.le_of_ble_eq_true rfl⟩) hP hD hS hA [0, 1, 2] [3] rfl rfl (by decide) (by decide) (fun q9 ce H locs hP hD hS hce hcv hcl => ?_)
  have hP : va_P D kCl [(o, .inl (cJ, 1, .inr (.inl fo))), (x, .inr (4, [.ref sa, .ref a, .ref rs, .ref rd, .ref wt])), (rs, .inr (1, [.ref rsb, .int (nI n2)])), (rsb, .inl (cB, 65536, .inl (bF b2)))] H := hP
  have hD : va_D A [(o, .inl (cJ, 1, .inr (.inl fo))), (x, .inr (4, [.ref sa, .ref a, .ref rs, .ref rd, .ref wt])), (rs, .inr (1, [.ref rsb, .int (nI n2)])), (rsb, .inl (cB, 65536, .inl (bF b2)))] := hD
  refine vx_widen (k := 1) (n := 6) (Nat.le_of_ble_eq_true rfl) (Nat.le_of_ble_eq_true rfl) ?_
  refine vx_catch (E := "java/lang/IndexOutOfBoundsException") (name := "java/lang/IndexOutOfBoundsException") hown [] ⟨0, 9, 12, 24⟩ [] (by rw [htab]; rfl) (fun z hz => nomatch hz) (by decide) (by decide) (hts (.classLink RL 24 "java/lang/IndexOutOfBoundsException") (List.mem_cons_of_mem _ wd_339)) (va_Nw.use rfl (hZ.nw (w := .castable "java/lang/IndexOutOfBoundsException" "java/lang/IndexOutOfBoundsException") (by decide +kernel))) hce hcv hcl ?_
  refine lv_astore_n (lv' := [(3, .ref q9), (0, .ref x), (1, .int z), (2, .ref o)]) hx hb dL_byteAt_12 rfl hl (by decide) rfl (fun ls hl => ?_)
  refine lv_iconst (v := nI 1) hx hb dL_byteAt_13 (by decide) ?_
  have hP : va_P D kCl [(x, .inr (4, [.ref sa, .ref a, .ref rs, .ref rd, .ref wt])), (rs, .inr (1, [.ref rsb, .int (nI n2)])), (rsb, .inl (cB, 65536, .inl (bF b2))), (o, .inl (cJ, 1, .inr (.inl fo)))] H := hP.sub [1, 2, 3, 0] rfl
  have hD : va_D A [(x, .inr (4, [.ref sa, .ref a, .ref rs, .ref rd, .ref wt])), (rs, .inr (1, [.ref rsb, .int (nI n2)])), (rsb, .inl (cB, 65536, .inl (bF b2))), (o, .inl (cJ, 1, .inr (.inl fo)))] := hD.sub [1, 2, 3, 0] (by decide) rfl
  exact k_iret () hx hb hr (by first | rfl | decide | exact vp_nar_int _) hlocks hK hP hD hS (rfl) (rfl) (Nat.le_of_ble_eq_true rfl) (Nat.le_of_ble_eq_true rfl) dL_byteAt_14

set_option maxRecDepth 100000 in
set_option maxHeartbeats 4000000 in
theorem c_L_count0 (l : Launch) (D : va_G) (cI cB cJ cS : ClassId) (x sa a rs rd wt : Nat) (f : Nat → Option Nat) (k : Nat) (hk : k < 4) (sh : Nat) (sn sv PN pn VN vn : Nat) (pf : Nat → Nat) (fv : Nat → Int32) (hVN : VN ≤ 8192) (hvn : vn ≤ VN) (hf : f k = some sh) (hpn : pn < 2 ^ 31) (o : Nat) (fo : Nat → Int64)  : kM l yL_count vsL_count ({ frames := 3, cells := 0, slots := 0, locals := 64 }) D (kT cI cB cJ cS) [.ref x, .int (nI k), .int (nI 0), .ref o] [(x, .inr (4, [.ref sa, .ref a, .ref rs, .ref rd, .ref wt])), (sa, .inl (cS, 4, .inr (.inr (.inr (.inr f))))), (sh, .inr (2, [.ref sn, .ref sv, .int (nI pn), .int (nI vn)])), (sn, .inl (cI, PN, .inl (iF pf))), (sv, .inl (cI, VN, .inl fv)), (o, .inl (cJ, 1, .inr (.inl fo)))] (kQi D (kT cI cB cJ cS) (fun r (ug : Unit) => r = nI 0) (fun ug => [(x, .inr (4, [.ref sa, .ref a, .ref rs, .ref rd, .ref wt])), (sa, .inl (cS, 4, .inr (.inr (.inr (.inr f))))), (sh, .inr (2, [.ref sn, .ref sv, .int (nI pn), .int (nI vn)])), (sn, .inl (cI, PN, .inl (iF pf))), (sv, .inl (cI, VN, .inl fv)), (o, .inl (cJ, 1, .inr (.inl (vp_updL fo 0 (lN (pn))))))])) := by
  refine k_ofH (by decide) rfl (Nat.le_of_ble_eq_true rfl) ?_
  intro p e s m below meth c A ls hx hb hr hts hown hlocks hmn hml hA hP hK hD hS hZ hl htab
  have inX4 : ∀ w ∈ wsX40, w ∈ vsL_count := fun w h => List.mem_cons_of_mem _ (iaX4 w h)
  have inX6 : ∀ w ∈ wsX60, w ∈ vsL_count := fun w h => List.mem_cons_of_mem _ (iaX6 w h)
  have F : CallFix p m c cL_count 5 s _ vsL_count RL := ⟨hx, hb, hml, hown, hts⟩
  have hl : lv_has ls 5 [(0, .ref x), (1, .int (nI k)), (2, .int (nI 0)), (3, .ref o)] := hl
  refine lv_aload_n hx hb dL_count_0 rfl (lv_at hl 3 rfl) ?_
  refine lv_iconst (v := nI 0) hx hb dL_count_1 (by decide) ?_
  refine lv_aload_n hx hb dL_count_2 rfl (lv_at hl 0 rfl) ?_
  refine lv_iload_n hx hb dL_count_3 rfl (lv_at hl 1 rfl) ?_
  refine lv_iload_n hx hb dL_count_4 rfl (lv_at hl 2 rfl) ?_
  refine k_ci (wr := [(o, .inl (cJ, 1, .inr (.inl fo)))]) (k_rv F (c_count0 l D cI cB cJ cS x sa a rs rd wt f k hk sh sn sv PN pn VN vn pf fv hVN hvn hf) (cwV 2 hts (g_V wd_364 wd_365 wd_366 wd_8 wd_367) rfl rfl rfl (by decide +kernel) ⟨Nat.le_of_ble_eq_true rfl, Nat.le_of_ble_eq_true rfl⟩) hK hP hD hS hA hZ [0, 1, 2, 3, 4] rfl (by decide) 0 rfl rfl rfl rfl hl.1 rfl (Nat.le_of_ble_eq_true rfl) dL_count_5 ⟨Nat.le_of_ble_eq_true rfl, Nat.le_of_ble_eq_true rfl⟩) hP hD hS hA [0, 1, 2, 3, 4] [5] rfl rfl (by decide) (by decide) (fun r u9 H locs hw hP hD hS => ?_)
  subst hw
  have hP : va_P D kCl [(o, .inl (cJ, 1, .inr (.inl fo))), (x, .inr (4, [.ref sa, .ref a, .ref rs, .ref rd, .ref wt])), (sa, .inl (cS, 4, .inr (.inr (.inr (.inr f))))), (sh, .inr (2, [.ref sn, .ref sv, .int (nI pn), .int (nI vn)])), (sn, .inl (cI, PN, .inl (iF pf))), (sv, .inl (cI, VN, .inl fv))] H := hP
  have hD : va_D A [(o, .inl (cJ, 1, .inr (.inl fo))), (x, .inr (4, [.ref sa, .ref a, .ref rs, .ref rd, .ref wt])), (sa, .inl (cS, 4, .inr (.inr (.inr (.inr f))))), (sh, .inr (2, [.ref sn, .ref sv, .int (nI pn), .int (nI vn)])), (sn, .inl (cI, PN, .inl (iF pf))), (sv, .inl (cI, VN, .inl fv))] := hD
  refine W.widen (k := 0) (n := 0) (Nat.le_of_ble_eq_true rfl) (Nat.le_of_ble_eq_true rfl) ?_
  refine lv_i2l (v := lN pn) hx hb dL_count_8 (nI_l (by omega)) ?_
  refine va_last hx hb hK hP hD hS 0 2 rfl rfl (vp_in_nI (by omega) (by omega)) dL_count_9 (fun H locs hP hD hS => ?_)
  rw [show vp_updL fo (nI 0).toNatClampNeg (lN pn) = vp_updL fo 0 (lN pn) from by rw [nI_clamp (by omega)]] at hP hD
  have hP : va_P D kCl [(o, .inl (cJ, 1, .inr (.inl (vp_updL fo 0 (lN pn))))), (x, .inr (4, [.ref sa, .ref a, .ref rs, .ref rd, .ref wt])), (sa, .inl (cS, 4, .inr (.inr (.inr (.inr f))))), (sh, .inr (2, [.ref sn, .ref sv, .int (nI pn), .int (nI vn)])), (sn, .inl (cI, PN, .inl (iF pf))), (sv, .inl (cI, VN, .inl fv))] H := hP
  have hD : va_D A [(o, .inl (cJ, 1, .inr (.inl (vp_updL fo 0 (lN pn))))), (x, .inr (4, [.ref sa, .ref a, .ref rs, .ref rd, .ref wt])), (sa, .inl (cS, 4, .inr (.inr (.inr (.inr f))))), (sh, .inr (2, [.ref sn, .ref sv, .int (nI pn), .int (nI vn)])), (sn, .inl (cI, PN, .inl (iF pf))), (sv, .inl (cI, VN, .inl fv))] := hD
  refine lv_goto (tgt := 17) hx hb dL_count_10 (by decide) ?_
  refine lv_iconst (v := nI 0) hx hb dL_count_17 (by decide) ?_
  have hP : va_P D kCl [(x, .inr (4, [.ref sa, .ref a, .ref rs, .ref rd, .ref wt])), (sa, .inl (cS, 4, .inr (.inr (.inr (.inr f))))), (sh, .inr (2, [.ref sn, .ref sv, .int (nI pn), .int (nI vn)])), (sn, .inl (cI, PN, .inl (iF pf))), (sv, .inl (cI, VN, .inl fv)), (o, .inl (cJ, 1, .inr (.inl (vp_updL fo 0 (lN pn)))))] H := hP.sub [1, 2, 3, 4, 5, 0] rfl
  have hD : va_D A [(x, .inr (4, [.ref sa, .ref a, .ref rs, .ref rd, .ref wt])), (sa, .inl (cS, 4, .inr (.inr (.inr (.inr f))))), (sh, .inr (2, [.ref sn, .ref sv, .int (nI pn), .int (nI vn)])), (sn, .inl (cI, PN, .inl (iF pf))), (sv, .inl (cI, VN, .inl fv)), (o, .inl (cJ, 1, .inr (.inl (vp_updL fo 0 (lN pn)))))] := hD.sub [1, 2, 3, 4, 5, 0] (by decide) rfl
  exact k_iret () hx hb hr (by first | rfl | decide | exact vp_nar_int _) hlocks hK hP hD hS (rfl) (rfl) (Nat.le_of_ble_eq_true rfl) (Nat.le_of_ble_eq_true rfl) dL_count_18

set_option maxRecDepth 100000 in
set_option maxHeartbeats 4000000 in
theorem c_L_count1 (l : Launch) (D : va_G) (cI cB cJ cS : ClassId) (x sa a rs rd wt : Nat) (f : Nat → Option Nat) (k : Nat) (hk : k < 4) (sh : Nat) (sn sv PN pn VN vn : Nat) (pf : Nat → Nat) (fv : Nat → Int32) (hVN : VN ≤ 8192) (hvn : vn ≤ VN) (hf : f k = some sh) (o : Nat) (fo : Nat → Int64)  : kM l yL_count vsL_count ({ frames := 3, cells := 0, slots := 0, locals := 64 }) D (kT cI cB cJ cS) [.ref x, .int (nI k), .int (nI 1), .ref o] [(x, .inr (4, [.ref sa, .ref a, .ref rs, .ref rd, .ref wt])), (sa, .inl (cS, 4, .inr (.inr (.inr (.inr f))))), (sh, .inr (2, [.ref sn, .ref sv, .int (nI pn), .int (nI vn)])), (sn, .inl (cI, PN, .inl (iF pf))), (sv, .inl (cI, VN, .inl fv)), (o, .inl (cJ, 1, .inr (.inl fo)))] (kQi D (kT cI cB cJ cS) (fun r (ug : Unit) => r = nI 0) (fun ug => [(x, .inr (4, [.ref sa, .ref a, .ref rs, .ref rd, .ref wt])), (sa, .inl (cS, 4, .inr (.inr (.inr (.inr f))))), (sh, .inr (2, [.ref sn, .ref sv, .int (nI pn), .int (nI vn)])), (sn, .inl (cI, PN, .inl (iF pf))), (sv, .inl (cI, VN, .inl fv)), (o, .inl (cJ, 1, .inr (.inl (vp_updL fo 0 (lN (vn / 2))))))])) := by
  refine k_ofH (by decide) rfl (Nat.le_of_ble_eq_true rfl) ?_
  intro p e s m below meth c A ls hx hb hr hts hown hlocks hmn hml hA hP hK hD hS hZ hl htab
  have inX4 : ∀ w ∈ wsX40, w ∈ vsL_count := fun w h => List.mem_cons_of_mem _ (iaX4 w h)
  have inX6 : ∀ w ∈ wsX60, w ∈ vsL_count := fun w h => List.mem_cons_of_mem _ (iaX6 w h)
  have F : CallFix p m c cL_count 5 s _ vsL_count RL := ⟨hx, hb, hml, hown, hts⟩
  have hl : lv_has ls 5 [(0, .ref x), (1, .int (nI k)), (2, .int (nI 1)), (3, .ref o)] := hl
  refine lv_aload_n hx hb dL_count_0 rfl (lv_at hl 3 rfl) ?_
  refine lv_iconst (v := nI 0) hx hb dL_count_1 (by decide) ?_
  refine lv_aload_n hx hb dL_count_2 rfl (lv_at hl 0 rfl) ?_
  refine lv_iload_n hx hb dL_count_3 rfl (lv_at hl 1 rfl) ?_
  refine lv_iload_n hx hb dL_count_4 rfl (lv_at hl 2 rfl) ?_
  refine k_ci (wr := [(o, .inl (cJ, 1, .inr (.inl fo)))]) (k_rv F (c_count1 l D cI cB cJ cS x sa a rs rd wt f k hk sh sn sv PN pn VN vn pf fv hVN hvn hf) (cwV 2 hts (g_V wd_364 wd_365 wd_366 wd_8 wd_367) rfl rfl rfl (by decide +kernel) ⟨Nat.le_of_ble_eq_true rfl, Nat.le_of_ble_eq_true rfl⟩) hK hP hD hS hA hZ [0, 1, 2, 3, 4] rfl (by decide) 0 rfl rfl rfl rfl hl.1 rfl (Nat.le_of_ble_eq_true rfl) dL_count_5 ⟨Nat.le_of_ble_eq_true rfl, Nat.le_of_ble_eq_true rfl⟩) hP hD hS hA [0, 1, 2, 3, 4] [5] rfl rfl (by decide) (by decide) (fun r u9 H locs hw hP hD hS => ?_)
  subst hw
  have hP : va_P D kCl [(o, .inl (cJ, 1, .inr (.inl fo))), (x, .inr (4, [.ref sa, .ref a, .ref rs, .ref rd, .ref wt])), (sa, .inl (cS, 4, .inr (.inr (.inr (.inr f))))), (sh, .inr (2, [.ref sn, .ref sv, .int (nI pn), .int (nI vn)])), (sn, .inl (cI, PN, .inl (iF pf))), (sv, .inl (cI, VN, .inl fv))] H := hP
  have hD : va_D A [(o, .inl (cJ, 1, .inr (.inl fo))), (x, .inr (4, [.ref sa, .ref a, .ref rs, .ref rd, .ref wt])), (sa, .inl (cS, 4, .inr (.inr (.inr (.inr f))))), (sh, .inr (2, [.ref sn, .ref sv, .int (nI pn), .int (nI vn)])), (sn, .inl (cI, PN, .inl (iF pf))), (sv, .inl (cI, VN, .inl fv))] := hD
  refine W.widen (k := 0) (n := 0) (Nat.le_of_ble_eq_true rfl) (Nat.le_of_ble_eq_true rfl) ?_
  refine lv_i2l (v := lN (vn / 2)) hx hb dL_count_8 (nI_l (by omega)) ?_
  refine va_last hx hb hK hP hD hS 0 2 rfl rfl (vp_in_nI (by omega) (by omega)) dL_count_9 (fun H locs hP hD hS => ?_)
  rw [show vp_updL fo (nI 0).toNatClampNeg (lN (vn / 2)) = vp_updL fo 0 (lN (vn / 2)) from by rw [nI_clamp (by omega)]] at hP hD
  have hP : va_P D kCl [(o, .inl (cJ, 1, .inr (.inl (vp_updL fo 0 (lN (vn / 2)))))), (x, .inr (4, [.ref sa, .ref a, .ref rs, .ref rd, .ref wt])), (sa, .inl (cS, 4, .inr (.inr (.inr (.inr f))))), (sh, .inr (2, [.ref sn, .ref sv, .int (nI pn), .int (nI vn)])), (sn, .inl (cI, PN, .inl (iF pf))), (sv, .inl (cI, VN, .inl fv))] H := hP
  have hD : va_D A [(o, .inl (cJ, 1, .inr (.inl (vp_updL fo 0 (lN (vn / 2)))))), (x, .inr (4, [.ref sa, .ref a, .ref rs, .ref rd, .ref wt])), (sa, .inl (cS, 4, .inr (.inr (.inr (.inr f))))), (sh, .inr (2, [.ref sn, .ref sv, .int (nI pn), .int (nI vn)])), (sn, .inl (cI, PN, .inl (iF pf))), (sv, .inl (cI, VN, .inl fv))] := hD
  refine lv_goto (tgt := 17) hx hb dL_count_10 (by decide) ?_
  refine lv_iconst (v := nI 0) hx hb dL_count_17 (by decide) ?_
  have hP : va_P D kCl [(x, .inr (4, [.ref sa, .ref a, .ref rs, .ref rd, .ref wt])), (sa, .inl (cS, 4, .inr (.inr (.inr (.inr f))))), (sh, .inr (2, [.ref sn, .ref sv, .int (nI pn), .int (nI vn)])), (sn, .inl (cI, PN, .inl (iF pf))), (sv, .inl (cI, VN, .inl fv)), (o, .inl (cJ, 1, .inr (.inl (vp_updL fo 0 (lN (vn / 2))))))] H := hP.sub [1, 2, 3, 4, 5, 0] rfl
  have hD : va_D A [(x, .inr (4, [.ref sa, .ref a, .ref rs, .ref rd, .ref wt])), (sa, .inl (cS, 4, .inr (.inr (.inr (.inr f))))), (sh, .inr (2, [.ref sn, .ref sv, .int (nI pn), .int (nI vn)])), (sn, .inl (cI, PN, .inl (iF pf))), (sv, .inl (cI, VN, .inl fv)), (o, .inl (cJ, 1, .inr (.inl (vp_updL fo 0 (lN (vn / 2))))))] := hD.sub [1, 2, 3, 4, 5, 0] (by decide) rfl
  exact k_iret () hx hb hr (by first | rfl | decide | exact vp_nar_int _) hlocks hK hP hD hS (rfl) (rfl) (Nat.le_of_ble_eq_true rfl) (Nat.le_of_ble_eq_true rfl) dL_count_18

set_option maxRecDepth 100000 in
set_option maxHeartbeats 4000000 in
theorem c_L_count2 (l : Launch) (D : va_G) (cI cB cJ cS : ClassId) (x sa a rs rd wt : Nat) (f : Nat → Option Nat) (k : Nat) (hk : k < 4) (sh : Nat) (ab n : Nat) (b : Nat → Nat) (hf : f k = some sh) (hn : n < 2 ^ 31) (o : Nat) (fo : Nat → Int64)  : kM l yL_count vsL_count ({ frames := 3, cells := 0, slots := 0, locals := 64 }) D (kT cI cB cJ cS) [.ref x, .int (nI k), .int (nI 2), .ref o] [(x, .inr (4, [.ref sa, .ref a, .ref rs, .ref rd, .ref wt])), (sa, .inl (cS, 4, .inr (.inr (.inr (.inr f))))), (a, .inr (1, [.ref ab, .int (nI n)])), (ab, .inl (cB, 65536, .inl (bF b))), (o, .inl (cJ, 1, .inr (.inl fo)))] (kQi D (kT cI cB cJ cS) (fun r (ug : Unit) => r = nI 0) (fun ug => [(x, .inr (4, [.ref sa, .ref a, .ref rs, .ref rd, .ref wt])), (sa, .inl (cS, 4, .inr (.inr (.inr (.inr f))))), (a, .inr (1, [.ref ab, .int (nI n)])), (ab, .inl (cB, 65536, .inl (bF b))), (o, .inl (cJ, 1, .inr (.inl (vp_updL fo 0 (lN (n))))))])) := by
  refine k_ofH (by decide) rfl (Nat.le_of_ble_eq_true rfl) ?_
  intro p e s m below meth c A ls hx hb hr hts hown hlocks hmn hml hA hP hK hD hS hZ hl htab
  have inX3 : ∀ w ∈ wsX30, w ∈ vsL_count := fun w h => List.mem_cons_of_mem _ (iaX3 w h)
  have inX6 : ∀ w ∈ wsX60, w ∈ vsL_count := fun w h => List.mem_cons_of_mem _ (iaX6 w h)
  have F : CallFix p m c cL_count 5 s _ vsL_count RL := ⟨hx, hb, hml, hown, hts⟩
  have hl : lv_has ls 5 [(0, .ref x), (1, .int (nI k)), (2, .int (nI 2)), (3, .ref o)] := hl
  refine lv_aload_n hx hb dL_count_0 rfl (lv_at hl 3 rfl) ?_
  refine lv_iconst (v := nI 0) hx hb dL_count_1 (by decide) ?_
  refine lv_aload_n hx hb dL_count_2 rfl (lv_at hl 0 rfl) ?_
  refine lv_iload_n hx hb dL_count_3 rfl (lv_at hl 1 rfl) ?_
  refine lv_iload_n hx hb dL_count_4 rfl (lv_at hl 2 rfl) ?_
  refine k_ci (wr := [(o, .inl (cJ, 1, .inr (.inl fo)))]) (k_rv F (c_count2 l D cI cB cJ cS x sa a rs rd wt f k hk sh ab n b hf) (cwV 2 hts (g_V wd_364 wd_365 wd_366 wd_8 wd_367) rfl rfl rfl (by decide +kernel) ⟨Nat.le_of_ble_eq_true rfl, Nat.le_of_ble_eq_true rfl⟩) hK hP hD hS hA hZ [0, 1, 2, 3] rfl (by decide) 0 rfl rfl rfl rfl hl.1 rfl (Nat.le_of_ble_eq_true rfl) dL_count_5 ⟨Nat.le_of_ble_eq_true rfl, Nat.le_of_ble_eq_true rfl⟩) hP hD hS hA [0, 1, 2, 3] [4] rfl rfl (by decide) (by decide) (fun r u9 H locs hw hP hD hS => ?_)
  subst hw
  have hP : va_P D kCl [(o, .inl (cJ, 1, .inr (.inl fo))), (x, .inr (4, [.ref sa, .ref a, .ref rs, .ref rd, .ref wt])), (sa, .inl (cS, 4, .inr (.inr (.inr (.inr f))))), (a, .inr (1, [.ref ab, .int (nI n)])), (ab, .inl (cB, 65536, .inl (bF b)))] H := hP
  have hD : va_D A [(o, .inl (cJ, 1, .inr (.inl fo))), (x, .inr (4, [.ref sa, .ref a, .ref rs, .ref rd, .ref wt])), (sa, .inl (cS, 4, .inr (.inr (.inr (.inr f))))), (a, .inr (1, [.ref ab, .int (nI n)])), (ab, .inl (cB, 65536, .inl (bF b)))] := hD
  refine W.widen (k := 0) (n := 0) (Nat.le_of_ble_eq_true rfl) (Nat.le_of_ble_eq_true rfl) ?_
  refine lv_i2l (v := lN n) hx hb dL_count_8 (nI_l (by omega)) ?_
  refine va_last hx hb hK hP hD hS 0 2 rfl rfl (vp_in_nI (by omega) (by omega)) dL_count_9 (fun H locs hP hD hS => ?_)
  rw [show vp_updL fo (nI 0).toNatClampNeg (lN n) = vp_updL fo 0 (lN n) from by rw [nI_clamp (by omega)]] at hP hD
  have hP : va_P D kCl [(o, .inl (cJ, 1, .inr (.inl (vp_updL fo 0 (lN n))))), (x, .inr (4, [.ref sa, .ref a, .ref rs, .ref rd, .ref wt])), (sa, .inl (cS, 4, .inr (.inr (.inr (.inr f))))), (a, .inr (1, [.ref ab, .int (nI n)])), (ab, .inl (cB, 65536, .inl (bF b)))] H := hP
  have hD : va_D A [(o, .inl (cJ, 1, .inr (.inl (vp_updL fo 0 (lN n))))), (x, .inr (4, [.ref sa, .ref a, .ref rs, .ref rd, .ref wt])), (sa, .inl (cS, 4, .inr (.inr (.inr (.inr f))))), (a, .inr (1, [.ref ab, .int (nI n)])), (ab, .inl (cB, 65536, .inl (bF b)))] := hD
  refine lv_goto (tgt := 17) hx hb dL_count_10 (by decide) ?_
  refine lv_iconst (v := nI 0) hx hb dL_count_17 (by decide) ?_
  have hP : va_P D kCl [(x, .inr (4, [.ref sa, .ref a, .ref rs, .ref rd, .ref wt])), (sa, .inl (cS, 4, .inr (.inr (.inr (.inr f))))), (a, .inr (1, [.ref ab, .int (nI n)])), (ab, .inl (cB, 65536, .inl (bF b))), (o, .inl (cJ, 1, .inr (.inl (vp_updL fo 0 (lN n)))))] H := hP.sub [1, 2, 3, 4, 0] rfl
  have hD : va_D A [(x, .inr (4, [.ref sa, .ref a, .ref rs, .ref rd, .ref wt])), (sa, .inl (cS, 4, .inr (.inr (.inr (.inr f))))), (a, .inr (1, [.ref ab, .int (nI n)])), (ab, .inl (cB, 65536, .inl (bF b))), (o, .inl (cJ, 1, .inr (.inl (vp_updL fo 0 (lN n)))))] := hD.sub [1, 2, 3, 4, 0] (by decide) rfl
  exact k_iret () hx hb hr (by first | rfl | decide | exact vp_nar_int _) hlocks hK hP hD hS (rfl) (rfl) (Nat.le_of_ble_eq_true rfl) (Nat.le_of_ble_eq_true rfl) dL_count_18

set_option maxRecDepth 100000 in
set_option maxHeartbeats 4000000 in
theorem c_L_count3 (l : Launch) (D : va_G) (cI cB cJ cS : ClassId) (x sa a rs rd wt : Nat) (f : Nat → Option Nat) (k : Nat) (hk : k < 4) (sh : Nat) (rsb n2 : Nat) (b2 : Nat → Nat) (hf : f k = some sh) (hn2 : n2 < 2 ^ 31) (o : Nat) (fo : Nat → Int64)  : kM l yL_count vsL_count ({ frames := 3, cells := 0, slots := 0, locals := 64 }) D (kT cI cB cJ cS) [.ref x, .int (nI k), .int (nI 3), .ref o] [(x, .inr (4, [.ref sa, .ref a, .ref rs, .ref rd, .ref wt])), (sa, .inl (cS, 4, .inr (.inr (.inr (.inr f))))), (rs, .inr (1, [.ref rsb, .int (nI n2)])), (rsb, .inl (cB, 65536, .inl (bF b2))), (o, .inl (cJ, 1, .inr (.inl fo)))] (kQi D (kT cI cB cJ cS) (fun r (ug : Unit) => r = nI 0) (fun ug => [(x, .inr (4, [.ref sa, .ref a, .ref rs, .ref rd, .ref wt])), (sa, .inl (cS, 4, .inr (.inr (.inr (.inr f))))), (rs, .inr (1, [.ref rsb, .int (nI n2)])), (rsb, .inl (cB, 65536, .inl (bF b2))), (o, .inl (cJ, 1, .inr (.inl (vp_updL fo 0 (lN (n2))))))])) := by
  refine k_ofH (by decide) rfl (Nat.le_of_ble_eq_true rfl) ?_
  intro p e s m below meth c A ls hx hb hr hts hown hlocks hmn hml hA hP hK hD hS hZ hl htab
  have inX3 : ∀ w ∈ wsX30, w ∈ vsL_count := fun w h => List.mem_cons_of_mem _ (iaX3 w h)
  have inX6 : ∀ w ∈ wsX60, w ∈ vsL_count := fun w h => List.mem_cons_of_mem _ (iaX6 w h)
  have F : CallFix p m c cL_count 5 s _ vsL_count RL := ⟨hx, hb, hml, hown, hts⟩
  have hl : lv_has ls 5 [(0, .ref x), (1, .int (nI k)), (2, .int (nI 3)), (3, .ref o)] := hl
  refine lv_aload_n hx hb dL_count_0 rfl (lv_at hl 3 rfl) ?_
  refine lv_iconst (v := nI 0) hx hb dL_count_1 (by decide) ?_
  refine lv_aload_n hx hb dL_count_2 rfl (lv_at hl 0 rfl) ?_
  refine lv_iload_n hx hb dL_count_3 rfl (lv_at hl 1 rfl) ?_
  refine lv_iload_n hx hb dL_count_4 rfl (lv_at hl 2 rfl) ?_
  refine k_ci (wr := [(o, .inl (cJ, 1, .inr (.inl fo)))]) (k_rv F (c_count3 l D cI cB cJ cS x sa a rs rd wt f k hk sh rsb n2 b2 hf) (cwV 2 hts (g_V wd_364 wd_365 wd_366 wd_8 wd_367) rfl rfl rfl (by decide +kernel) ⟨Nat.le_of_ble_eq_true rfl, Nat.le_of_ble_eq_true rfl⟩) hK hP hD hS hA hZ [0, 1, 2, 3] rfl (by decide) 0 rfl rfl rfl rfl hl.1 rfl (Nat.le_of_ble_eq_true rfl) dL_count_5 ⟨Nat.le_of_ble_eq_true rfl, Nat.le_of_ble_eq_true rfl⟩) hP hD hS hA [0, 1, 2, 3] [4] rfl rfl (by decide) (by decide) (fun r u9 H locs hw hP hD hS => ?_)
  subst hw
  have hP : va_P D kCl [(o, .inl (cJ, 1, .inr (.inl fo))), (x, .inr (4, [.ref sa, .ref a, .ref rs, .ref rd, .ref wt])), (sa, .inl (cS, 4, .inr (.inr (.inr (.inr f))))), (rs, .inr (1, [.ref rsb, .int (nI n2)])), (rsb, .inl (cB, 65536, .inl (bF b2)))] H := hP
  have hD : va_D A [(o, .inl (cJ, 1, .inr (.inl fo))), (x, .inr (4, [.ref sa, .ref a, .ref rs, .ref rd, .ref wt])), (sa, .inl (cS, 4, .inr (.inr (.inr (.inr f))))), (rs, .inr (1, [.ref rsb, .int (nI n2)])), (rsb, .inl (cB, 65536, .inl (bF b2)))] := hD
  refine W.widen (k := 0) (n := 0) (Nat.le_of_ble_eq_true rfl) (Nat.le_of_ble_eq_true rfl) ?_
  refine lv_i2l (v := lN n2) hx hb dL_count_8 (nI_l (by omega)) ?_
  refine va_last hx hb hK hP hD hS 0 2 rfl rfl (vp_in_nI (by omega) (by omega)) dL_count_9 (fun H locs hP hD hS => ?_)
  rw [show vp_updL fo (nI 0).toNatClampNeg (lN n2) = vp_updL fo 0 (lN n2) from by rw [nI_clamp (by omega)]] at hP hD
  have hP : va_P D kCl [(o, .inl (cJ, 1, .inr (.inl (vp_updL fo 0 (lN n2))))), (x, .inr (4, [.ref sa, .ref a, .ref rs, .ref rd, .ref wt])), (sa, .inl (cS, 4, .inr (.inr (.inr (.inr f))))), (rs, .inr (1, [.ref rsb, .int (nI n2)])), (rsb, .inl (cB, 65536, .inl (bF b2)))] H := hP
  have hD : va_D A [(o, .inl (cJ, 1, .inr (.inl (vp_updL fo 0 (lN n2))))), (x, .inr (4, [.ref sa, .ref a, .ref rs, .ref rd, .ref wt])), (sa, .inl (cS, 4, .inr (.inr (.inr (.inr f))))), (rs, .inr (1, [.ref rsb, .int (nI n2)])), (rsb, .inl (cB, 65536, .inl (bF b2)))] := hD
  refine lv_goto (tgt := 17) hx hb dL_count_10 (by decide) ?_
  refine lv_iconst (v := nI 0) hx hb dL_count_17 (by decide) ?_
  have hP : va_P D kCl [(x, .inr (4, [.ref sa, .ref a, .ref rs, .ref rd, .ref wt])), (sa, .inl (cS, 4, .inr (.inr (.inr (.inr f))))), (rs, .inr (1, [.ref rsb, .int (nI n2)])), (rsb, .inl (cB, 65536, .inl (bF b2))), (o, .inl (cJ, 1, .inr (.inl (vp_updL fo 0 (lN n2)))))] H := hP.sub [1, 2, 3, 4, 0] rfl
  have hD : va_D A [(x, .inr (4, [.ref sa, .ref a, .ref rs, .ref rd, .ref wt])), (sa, .inl (cS, 4, .inr (.inr (.inr (.inr f))))), (rs, .inr (1, [.ref rsb, .int (nI n2)])), (rsb, .inl (cB, 65536, .inl (bF b2))), (o, .inl (cJ, 1, .inr (.inl (vp_updL fo 0 (lN n2)))))] := hD.sub [1, 2, 3, 4, 0] (by decide) rfl
  exact k_iret () hx hb hr (by first | rfl | decide | exact vp_nar_int _) hlocks hK hP hD hS (rfl) (rfl) (Nat.le_of_ble_eq_true rfl) (Nat.le_of_ble_eq_true rfl) dL_count_18

set_option maxRecDepth 100000 in
set_option maxHeartbeats 4000000 in
theorem c_L_countX1 (l : Launch) (D : va_G) (cI cB cJ cS : ClassId) (hl9 : l.stackTraces = false) (x sa a rs rd wt : Nat) (z : Int32) (hz : z < 0 ∨ nI 4 ≤ z) (z2 : Int32) (o : Nat) (fo : Nat → Int64)  : kM l yL_count vsL_count ({ frames := 8, cells := 1, slots := 6, locals := 126 }) D (kT cI cB cJ cS) [.ref x, .int z, .int z2, .ref o] [(x, .inr (4, [.ref sa, .ref a, .ref rs, .ref rd, .ref wt])), (o, .inl (cJ, 1, .inr (.inl fo)))] (kQi D (kT cI cB cJ cS) (fun r (ug : Unit) => r = nI 1) (fun ug => [(x, .inr (4, [.ref sa, .ref a, .ref rs, .ref rd, .ref wt])), (o, .inl (cJ, 1, .inr (.inl fo)))])) := by
  refine k_ofH (by decide) rfl (Nat.le_of_ble_eq_true rfl) ?_
  intro p e s m below meth c A ls hx hb hr hts hown hlocks hmn hml hA hP hK hD hS hZ hl htab
  have inX6 : ∀ w ∈ wsX60, w ∈ vsL_count := fun w h => List.mem_cons_of_mem _ (iaX6 w h)
  have F : CallFix p m c cL_count 5 s _ vsL_count RL := ⟨hx, hb, hml, hown, hts⟩
  have hl : lv_has ls 5 [(0, .ref x), (1, .int z), (2, .int z2), (3, .ref o)] := hl
  refine lv_aload_n hx hb dL_count_0 rfl (lv_at hl 3 rfl) ?_
  refine lv_iconst (v := nI 0) hx hb dL_count_1 (by decide) ?_
  refine lv_aload_n hx hb dL_count_2 rfl (lv_at hl 0 rfl) ?_
  refine lv_iload_n hx hb dL_count_3 rfl (lv_at hl 1 rfl) ?_
  refine lv_iload_n hx hb dL_count_4 rfl (lv_at hl 2 rfl) ?_
  refine k_cx (wr := [(o, .inl (cJ, 1, .inr (.inl fo)))]) (k_rvX F (c_countX1 l D cI cB cJ cS hl9 x sa a rs rd wt z hz z2) (cwV 2 hts (g_V wd_364 wd_365 wd_366 wd_8 wd_367) rfl rfl rfl (by decide +kernel) ⟨Nat.le_of_ble_eq_true rfl, Nat.le_of_ble_eq_true rfl⟩) hK hP hD hS hA hZ [0] rfl (by decide) 0 rfl rfl rfl rfl hl.1 rfl (Nat.le_of_ble_eq_true rfl) dL_count_5 ⟨Nat.le_of_ble_eq_true rfl, Nat.le_of_ble_eq_true rfl⟩) hP hD hS hA [0] [1] rfl rfl (by decide) (by decide) (fun q9 ce H locs hP hD hS hce hcv hcl => ?_)
  have hP : va_P D kCl [(o, .inl (cJ, 1, .inr (.inl fo))), (x, .inr (4, [.ref sa, .ref a, .ref rs, .ref rd, .ref wt]))] H := hP
  have hD : va_D A [(o, .inl (cJ, 1, .inr (.inl fo))), (x, .inr (4, [.ref sa, .ref a, .ref rs, .ref rd, .ref wt]))] := hD
  refine vx_widen (k := 1) (n := 6) (Nat.le_of_ble_eq_true rfl) (Nat.le_of_ble_eq_true rfl) ?_
  refine vx_catch (E := "java/lang/IndexOutOfBoundsException") (name := "java/lang/IndexOutOfBoundsException") hown [] ⟨0, 10, 13, 24⟩ [] (by rw [htab]; rfl) (fun z hz => nomatch hz) (by decide) (by decide) (hts (.classLink RL 24 "java/lang/IndexOutOfBoundsException") (List.mem_cons_of_mem _ wd_339)) (va_Nw.use rfl (hZ.nw (w := .castable "java/lang/IndexOutOfBoundsException" "java/lang/IndexOutOfBoundsException") (by decide +kernel))) hce hcv hcl ?_
  refine lv_astore (lv' := [(4, .ref q9), (0, .ref x), (1, .int z), (2, .int z2), (3, .ref o)]) hx hb dL_count_13 hl (by decide) rfl (fun ls hl => ?_)
  refine lv_iconst (v := nI 1) hx hb dL_count_15 (by decide) ?_
  have hP : va_P D kCl [(x, .inr (4, [.ref sa, .ref a, .ref rs, .ref rd, .ref wt])), (o, .inl (cJ, 1, .inr (.inl fo)))] H := hP.sub [1, 0] rfl
  have hD : va_D A [(x, .inr (4, [.ref sa, .ref a, .ref rs, .ref rd, .ref wt])), (o, .inl (cJ, 1, .inr (.inl fo)))] := hD.sub [1, 0] (by decide) rfl
  exact k_iret () hx hb hr (by first | rfl | decide | exact vp_nar_int _) hlocks hK hP hD hS (rfl) (rfl) (Nat.le_of_ble_eq_true rfl) (Nat.le_of_ble_eq_true rfl) dL_count_16

set_option maxRecDepth 100000 in
set_option maxHeartbeats 4000000 in
theorem c_L_countX2 (l : Launch) (D : va_G) (cI cB cJ cS : ClassId) (hl9 : l.stackTraces = false) (x sa a rs rd wt : Nat) (f : Nat → Option Nat) (sh k : Nat) (hk : k < 4) (hf : f k = some sh) (z : Int32) (hz : z < 0 ∨ nI 3 < z) (o : Nat) (fo : Nat → Int64)  : kM l yL_count vsL_count ({ frames := 7, cells := 1, slots := 6, locals := 105 }) D (kT cI cB cJ cS) [.ref x, .int (nI k), .int z, .ref o] [(x, .inr (4, [.ref sa, .ref a, .ref rs, .ref rd, .ref wt])), (sa, .inl (cS, 4, .inr (.inr (.inr (.inr f))))), (o, .inl (cJ, 1, .inr (.inl fo)))] (kQi D (kT cI cB cJ cS) (fun r (ug : Unit) => r = nI 1) (fun ug => [(x, .inr (4, [.ref sa, .ref a, .ref rs, .ref rd, .ref wt])), (sa, .inl (cS, 4, .inr (.inr (.inr (.inr f))))), (o, .inl (cJ, 1, .inr (.inl fo)))])) := by
  refine k_ofH (by decide) rfl (Nat.le_of_ble_eq_true rfl) ?_
  intro p e s m below meth c A ls hx hb hr hts hown hlocks hmn hml hA hP hK hD hS hZ hl htab
  have inX6 : ∀ w ∈ wsX60, w ∈ vsL_count := fun w h => List.mem_cons_of_mem _ (iaX6 w h)
  have F : CallFix p m c cL_count 5 s _ vsL_count RL := ⟨hx, hb, hml, hown, hts⟩
  have hl : lv_has ls 5 [(0, .ref x), (1, .int (nI k)), (2, .int z), (3, .ref o)] := hl
  refine lv_aload_n hx hb dL_count_0 rfl (lv_at hl 3 rfl) ?_
  refine lv_iconst (v := nI 0) hx hb dL_count_1 (by decide) ?_
  refine lv_aload_n hx hb dL_count_2 rfl (lv_at hl 0 rfl) ?_
  refine lv_iload_n hx hb dL_count_3 rfl (lv_at hl 1 rfl) ?_
  refine lv_iload_n hx hb dL_count_4 rfl (lv_at hl 2 rfl) ?_
  refine k_cx (wr := [(o, .inl (cJ, 1, .inr (.inl fo)))]) (k_rvX F (c_countX2 l D cI cB cJ cS hl9 x sa a rs rd wt f sh k hk hf z hz) (cwV 2 hts (g_V wd_364 wd_365 wd_366 wd_8 wd_367) rfl rfl rfl (by decide +kernel) ⟨Nat.le_of_ble_eq_true rfl, Nat.le_of_ble_eq_true rfl⟩) hK hP hD hS hA hZ [0, 1] rfl (by decide) 0 rfl rfl rfl rfl hl.1 rfl (Nat.le_of_ble_eq_true rfl) dL_count_5 ⟨Nat.le_of_ble_eq_true rfl, Nat.le_of_ble_eq_true rfl⟩) hP hD hS hA [0, 1] [2] rfl rfl (by decide) (by decide) (fun q9 ce H locs hP hD hS hce hcv hcl => ?_)
  have hP : va_P D kCl [(o, .inl (cJ, 1, .inr (.inl fo))), (x, .inr (4, [.ref sa, .ref a, .ref rs, .ref rd, .ref wt])), (sa, .inl (cS, 4, .inr (.inr (.inr (.inr f)))))] H := hP
  have hD : va_D A [(o, .inl (cJ, 1, .inr (.inl fo))), (x, .inr (4, [.ref sa, .ref a, .ref rs, .ref rd, .ref wt])), (sa, .inl (cS, 4, .inr (.inr (.inr (.inr f)))))] := hD
  refine vx_widen (k := 1) (n := 6) (Nat.le_of_ble_eq_true rfl) (Nat.le_of_ble_eq_true rfl) ?_
  refine vx_catch (E := "java/lang/IndexOutOfBoundsException") (name := "java/lang/IndexOutOfBoundsException") hown [] ⟨0, 10, 13, 24⟩ [] (by rw [htab]; rfl) (fun z hz => nomatch hz) (by decide) (by decide) (hts (.classLink RL 24 "java/lang/IndexOutOfBoundsException") (List.mem_cons_of_mem _ wd_339)) (va_Nw.use rfl (hZ.nw (w := .castable "java/lang/IndexOutOfBoundsException" "java/lang/IndexOutOfBoundsException") (by decide +kernel))) hce hcv hcl ?_
  refine lv_astore (lv' := [(4, .ref q9), (0, .ref x), (1, .int (nI k)), (2, .int z), (3, .ref o)]) hx hb dL_count_13 hl (by decide) rfl (fun ls hl => ?_)
  refine lv_iconst (v := nI 1) hx hb dL_count_15 (by decide) ?_
  have hP : va_P D kCl [(x, .inr (4, [.ref sa, .ref a, .ref rs, .ref rd, .ref wt])), (sa, .inl (cS, 4, .inr (.inr (.inr (.inr f))))), (o, .inl (cJ, 1, .inr (.inl fo)))] H := hP.sub [1, 2, 0] rfl
  have hD : va_D A [(x, .inr (4, [.ref sa, .ref a, .ref rs, .ref rd, .ref wt])), (sa, .inl (cS, 4, .inr (.inr (.inr (.inr f))))), (o, .inl (cJ, 1, .inr (.inl fo)))] := hD.sub [1, 2, 0] (by decide) rfl
  exact k_iret () hx hb hr (by first | rfl | decide | exact vp_nar_int _) hlocks hK hP hD hS (rfl) (rfl) (Nat.le_of_ble_eq_true rfl) (Nat.le_of_ble_eq_true rfl) dL_count_16

