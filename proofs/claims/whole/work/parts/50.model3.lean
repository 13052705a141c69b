set_option maxRecDepth 100000 in
set_option maxHeartbeats 4000000 in
theorem c_M_take0 (l : Launch) (D : va_G) (cI cB cJ cS : ClassId) (mm ma mb mc md me mf mg mh th dg PT PN n sz od sl t wr pl lo nm : Nat) (b pm pd pq rb ok ol : Nat → Nat) (fx : Nat → Int32) (vz : Int32) (ht : t ≤ n) (hn : n ≤ 65536) (hlo2 : lo < 2) (hb256 : ∀ j, b j < 256) (q : Nat) (hq : q ≤ 8) (hyes : n < t + q)  : kM l yX7_take vsX7_take ({ frames := 1, cells := 0, slots := 0, locals := 22 }) D (kT cI cB cJ cS) [.ref mm, .int (nI q)] [(mm, .inr (5, [.int (nI th), .int (nI dg), .int (nI PT), .int (nI PN), .int (nI n), .ref ma, .ref mb, .ref mc, .ref md, .ref me, .int (nI sz), .ref mf, .int (nI od), .int (nI sl), .int (nI t), .int (nI wr), .int (nI pl), .int (nI lo), .long (lN nm), .int vz, .ref mg, .ref mh])), (ma, .inl (cI, 65536, .inl (iF b)))] (kQi D (kT cI cB cJ cS) (fun r (ug : Unit) => r = nI 0) (fun ug => [(mm, .inr (5, [.int (nI th), .int (nI dg), .int (nI PT), .int (nI PN), .int (nI n), .ref ma, .ref mb, .ref mc, .ref md, .ref me, .int (nI sz), .ref mf, .int (nI od), .int (nI sl), .int (nI t), .int (nI 3), .int (nI t), .int (nI lo), .long (lN nm), .int vz, .ref mg, .ref mh])), (ma, .inl (cI, 65536, .inl (iF b)))])) := by
  refine k_ofW (by decide) rfl (Nat.le_of_ble_eq_true rfl) ?_
  intro p e s m below meth c A ls hx hb hr hts hown hlocks hmn hml hA hP hK hD hS hZ hl
  have inX7 : ∀ w ∈ wsX70, w ∈ vsX7_take := fun w h => List.mem_cons_of_mem _ (iaX7 w h)
  have F : CallFix p m c cX7_take 3 s _ vsX7_take RX7 := ⟨hx, hb, hml, hown, hts⟩
  have hl : lv_has ls 3 [(0, .ref mm), (1, .int (nI q))] := hl
  refine lv_aload_n hx hb dX7_take_0 rfl (lv_at hl 0 rfl) ?_
  refine va_get (D := D) (ci := 5) (v := .int (nI t)) (C := RX7) (T := TX7) (N := 22) hx hb hts inX7 hown hK hP 0 rfl rfl 14 (by decide) (hts (.fieldLink RX7 68 "ByteShapesModel" "at" "I") (List.mem_cons_of_mem _ wd_394)) (fun _ h9 => h9) rfl dX7_take_1 ?_
  refine lv_iload_n hx hb dX7_take_4 rfl (lv_at hl 1 rfl) ?_
  refine lv_iadd hx hb dX7_take_5 ?_
  refine k_i (show _ = nI (t + q) from nI_add _ _) ?_
  refine lv_aload_n hx hb dX7_take_6 rfl (lv_at hl 0 rfl) ?_
  refine va_get (D := D) (ci := 5) (v := .int (nI n)) (C := RX7) (T := TX7) (N := 22) hx hb hts inX7 hown hK hP 0 rfl rfl 4 (by decide) (hts (.fieldLink RX7 55 "ByteShapesModel" "fed" "I") (List.mem_cons_of_mem _ wd_375)) (fun _ h9 => h9) rfl dX7_take_7 ?_
  refine k_icmp_le (tgt := 23) (by omega) (by omega) hx hb dX7_take_10 (by decide) (fun c307 => ?_) (fun c307 => ?_)
  · skip
    exact absurd c307 (by omega)
  · skip
    refine lv_aload_n hx hb dX7_take_13 rfl (lv_at hl 0 rfl) ?_
    refine lv_iconst (v := nI 3) hx hb dX7_take_14 (by decide) ?_
    refine lv_aload_n hx hb dX7_take_15 rfl (lv_at hl 0 rfl) ?_
    refine va_get (D := D) (ci := 5) (v := .int (nI t)) (C := RX7) (T := TX7) (N := 22) hx hb hts inX7 hown hK hP 0 rfl rfl 14 (by decide) (hts (.fieldLink RX7 68 "ByteShapesModel" "at" "I") (List.mem_cons_of_mem _ wd_394)) (fun _ h9 => h9) rfl dX7_take_16 ?_
    refine k_ci (wr := [(ma, .inl (cI, 65536, .inl (iF b)))]) (k_rv F (c_M_wrong l D cI cB cJ cS mm ma mb mc md me mf mg mh th dg PT PN n sz od sl t wr pl lo nm b pm pd pq rb ok ol fx vz 3 t) (cwV 2 hts (g_V wd_395 wd_396 wd_397 wd_373 wd_398) rfl rfl rfl (by decide +kernel) ⟨Nat.le_of_ble_eq_true rfl, Nat.le_of_ble_eq_true rfl⟩) hK hP hD hS hA hZ [0] rfl (by decide) 0 rfl rfl rfl rfl hl.1 rfl (Nat.le_of_ble_eq_true rfl) dX7_take_19 ⟨Nat.le_of_ble_eq_true rfl, Nat.le_of_ble_eq_true rfl⟩) hP hD hS hA [0] [1] rfl rfl (by decide) (by decide) (fun r u9 H locs hw hP hD hS => ?_)
    subst hw
    have hP : va_P D kCl [(ma, .inl (cI, 65536, .inl (iF b))), (mm, .inr (5, [.int (nI th), .int (nI dg), .int (nI PT), .int (nI PN), .int (nI n), .ref ma, .ref mb, .ref mc, .ref md, .ref me, .int (nI sz), .ref mf, .int (nI od), .int (nI sl), .int (nI t), .int (nI 3), .int (nI t), .int (nI lo), .long (lN nm), .int vz, .ref mg, .ref mh]))] H := hP
    have hD : va_D A [(ma, .inl (cI, 65536, .inl (iF b))), (mm, .inr (5, [.int (nI th), .int (nI dg), .int (nI PT), .int (nI PN), .int (nI n), .ref ma, .ref mb, .ref mc, .ref md, .ref me, .int (nI sz), .ref mf, .int (nI od), .int (nI sl), .int (nI t), .int (nI 3), .int (nI t), .int (nI lo), .long (lN nm), .int vz, .ref mg, .ref mh]))] := hD
    refine W.widen (k := 0) (n := 0) (Nat.le_of_ble_eq_true rfl) (Nat.le_of_ble_eq_true rfl) ?_
    have hP : va_P D kCl [(mm, .inr (5, [.int (nI th), .int (nI dg), .int (nI PT), .int (nI PN), .int (nI n), .ref ma, .ref mb, .ref mc, .ref md, .ref me, .int (nI sz), .ref mf, .int (nI od), .int (nI sl), .int (nI t), .int (nI 3), .int (nI t), .int (nI lo), .long (lN nm), .int vz, .ref mg, .ref mh])), (ma, .inl (cI, 65536, .inl (iF b)))] H := hP.sub [1, 0] rfl
    have hD : va_D A [(mm, .inr (5, [.int (nI th), .int (nI dg), .int (nI PT), .int (nI PN), .int (nI n), .ref ma, .ref mb, .ref mc, .ref md, .ref me, .int (nI sz), .ref mf, .int (nI od), .int (nI sl), .int (nI t), .int (nI 3), .int (nI t), .int (nI lo), .long (lN nm), .int vz, .ref mg, .ref mh])), (ma, .inl (cI, 65536, .inl (iF b)))] := hD.sub [1, 0] (by decide) rfl
    exact k_iret () hx hb hr (by first | rfl | decide | exact vp_nar_int _) hlocks hK hP hD hS (rfl) (rfl) (Nat.le_of_ble_eq_true rfl) (Nat.le_of_ble_eq_true rfl) dX7_take_22

set_option maxRecDepth 100000 in
set_option maxHeartbeats 4000000 in
theorem c_M_take1 (l : Launch) (D : va_G) (cI cB cJ cS : ClassId) (mm ma mb mc md me mf mg mh th dg PT PN n sz od sl t wr pl lo nm : Nat) (b pm pd pq rb ok ol : Nat → Nat) (fx : Nat → Int32) (vz : Int32) (ht : t ≤ n) (hn : n ≤ 65536) (hlo2 : lo < 2) (hb256 : ∀ j, b j < 256) (q : Nat) (hq : q ≤ 8) (hyes : t + q ≤ n)  : kM l yX7_take vsX7_take ({ frames := 0, cells := 0, slots := 0, locals := 0 }) D (kT cI cB cJ cS) [.ref mm, .int (nI q)] [(mm, .inr (5, [.int (nI th), .int (nI dg), .int (nI PT), .int (nI PN), .int (nI n), .ref ma, .ref mb, .ref mc, .ref md, .ref me, .int (nI sz), .ref mf, .int (nI od), .int (nI sl), .int (nI t), .int (nI wr), .int (nI pl), .int (nI lo), .long (lN nm), .int vz, .ref mg, .ref mh])), (ma, .inl (cI, 65536, .inl (iF b)))] (kQi D (kT cI cB cJ cS) (fun r (ug : Unit) => r = nI 1) (fun ug => [(mm, .inr (5, [.int (nI th), .int (nI dg), .int (nI PT), .int (nI PN), .int (nI n), .ref ma, .ref mb, .ref mc, .ref md, .ref me, .int (nI sz), .ref mf, .int (nI od), .int (nI sl), .int (nI (t + q)), .int (nI wr), .int (nI pl), .int (nI lo), .long (lN (pN b t q lo)), .int vz, .ref mg, .ref mh])), (ma, .inl (cI, 65536, .inl (iF b)))])) := by
  refine k_ofW (by decide) rfl (Nat.le_of_ble_eq_true rfl) ?_
  intro p e s m below meth c A ls hx hb hr hts hown hlocks hmn hml hA hP hK hD hS hZ hl
  have inX7 : ∀ w ∈ wsX70, w ∈ vsX7_take := fun w h => List.mem_cons_of_mem _ (iaX7 w h)
  have F : CallFix p m c cX7_take 3 s _ vsX7_take RX7 := ⟨hx, hb, hml, hown, hts⟩
  have hl : lv_has ls 3 [(0, .ref mm), (1, .int (nI q))] := hl
  refine lv_aload_n hx hb dX7_take_0 rfl (lv_at hl 0 rfl) ?_
  refine va_get (D := D) (ci := 5) (v := .int (nI t)) (C := RX7) (T := TX7) (N := 22) hx hb hts inX7 hown hK hP 0 rfl rfl 14 (by decide) (hts (.fieldLink RX7 68 "ByteShapesModel" "at" "I") (List.mem_cons_of_mem _ wd_394)) (fun _ h9 => h9) rfl dX7_take_1 ?_
  refine lv_iload_n hx hb dX7_take_4 rfl (lv_at hl 1 rfl) ?_
  refine lv_iadd hx hb dX7_take_5 ?_
  refine k_i (show _ = nI (t + q) from nI_add _ _) ?_
  refine lv_aload_n hx hb dX7_take_6 rfl (lv_at hl 0 rfl) ?_
  refine va_get (D := D) (ci := 5) (v := .int (nI n)) (C := RX7) (T := TX7) (N := 22) hx hb hts inX7 hown hK hP 0 rfl rfl 4 (by decide) (hts (.fieldLink RX7 55 "ByteShapesModel" "fed" "I") (List.mem_cons_of_mem _ wd_375)) (fun _ h9 => h9) rfl dX7_take_7 ?_
  refine k_icmp_le (tgt := 23) (by omega) (by omega) hx hb dX7_take_10 (by decide) (fun c308 => ?_) (fun c308 => ?_)
  · skip
    refine lv_aload_n hx hb dX7_take_23 rfl (lv_at hl 0 rfl) ?_
    refine lv_lconst (v := lN 0) hx hb dX7_take_24 (by decide) ?_
    refine va_put (D := D) (ci := 5) (v := .long (lN 0)) (ty := .long) (C := RX7) (T := TX7) (N := 22) hx hb hts inX7 tyX7 tyX7_ok nmX7 hown hK hP hD hS 0 rfl rfl 18 (by decide) (hts (.fieldLink RX7 75 "ByteShapesModel" "number" "J") (List.mem_cons_of_mem _ wd_399)) (fun _ h9 => h9) rfl (by decide +kernel) (rfl) (rfl) (Nat.le_of_ble_eq_true rfl) dX7_take_25 (fun H locs hP hD hS => ?_)
    have hP : va_P D kCl [(mm, .inr (5, [.int (nI th), .int (nI dg), .int (nI PT), .int (nI PN), .int (nI n), .ref ma, .ref mb, .ref mc, .ref md, .ref me, .int (nI sz), .ref mf, .int (nI od), .int (nI sl), .int (nI t), .int (nI wr), .int (nI pl), .int (nI lo), .long (lN 0), .int vz, .ref mg, .ref mh])), (ma, .inl (cI, 65536, .inl (iF b)))] H := hP
    have hD : va_D A [(mm, .inr (5, [.int (nI th), .int (nI dg), .int (nI PT), .int (nI PN), .int (nI n), .ref ma, .ref mb, .ref mc, .ref md, .ref me, .int (nI sz), .ref mf, .int (nI od), .int (nI sl), .int (nI t), .int (nI wr), .int (nI pl), .int (nI lo), .long (lN 0), .int vz, .ref mg, .ref mh])), (ma, .inl (cI, 65536, .inl (iF b)))] := hD
    refine lv_iconst (v := nI 0) hx hb dX7_take_28 (by decide) ?_
    refine lv_istore_n (lv' := [(2, .int (nI 0)), (0, .ref mm), (1, .int (nI q))]) hx hb dX7_take_29 rfl hl (by decide) rfl (fun ls hl => ?_)
    rw [show lN 0 = lN (tkI b t q lo 0) from by unfold tkI; split <;> rfl] at hP hD
    have hP : va_P D kCl [(mm, .inr (5, [.int (nI th), .int (nI dg), .int (nI PT), .int (nI PN), .int (nI n), .ref ma, .ref mb, .ref mc, .ref md, .ref me, .int (nI sz), .ref mf, .int (nI od), .int (nI sl), .int (nI t), .int (nI wr), .int (nI pl), .int (nI lo), .long (lN (tkI b t q lo 0)), .int vz, .ref mg, .ref mh])), (ma, .inl (cI, 65536, .inl (iF b)))] H := hP
    have hD : va_D A [(mm, .inr (5, [.int (nI th), .int (nI dg), .int (nI PT), .int (nI PN), .int (nI n), .ref ma, .ref mb, .ref mc, .ref md, .ref me, .int (nI sz), .ref mf, .int (nI od), .int (nI sl), .int (nI t), .int (nI wr), .int (nI pl), .int (nI lo), .long (lN (tkI b t q lo 0)), .int vz, .ref mg, .ref mh])), (ma, .inl (cI, 65536, .inl (iF b)))] := hD
    have loop309 : ∀ (k310 : Nat) (j : Nat) (H : Heap) (locs : List Loc) (ls : Array Slot), q - j < k310 → (j ≤ q) → va_P D kCl [(mm, .inr (5, [.int (nI th), .int (nI dg), .int (nI PT), .int (nI PN), .int (nI n), .ref ma, .ref mb, .ref mc, .ref md, .ref me, .int (nI sz), .ref mf, .int (nI od), .int (nI sl), .int (nI t), .int (nI wr), .int (nI pl), .int (nI lo), .long (lN (tkI b t q lo j)), .int vz, .ref mg, .ref mh])), (ma, .inl (cI, 65536, .inl (iF b)))] H → va_D A [(mm, .inr (5, [.int (nI th), .int (nI dg), .int (nI PT), .int (nI PN), .int (nI n), .ref ma, .ref mb, .ref mc, .ref md, .ref me, .int (nI sz), .ref mf, .int (nI od), .int (nI sl), .int (nI t), .int (nI wr), .int (nI pl), .int (nI lo), .long (lN (tkI b t q lo j)), .int vz, .ref mg, .ref mh])), (ma, .inl (cI, 65536, .inl (iF b)))] → va_S A s.heap H locs → lv_has ls 3 [(0, .ref mm), (1, .int (nI q)), (2, .int (nI j))] → W p l e ({ frames := 0, cells := 0, slots := 0, locals := 0 }) s m ([.ref mm, .int (nI q)] : List Value).toArray below meth c H locs 0 0 (MQ below ((kQi D (kT cI cB cJ cS) (fun r (ug : Unit) => r = nI 1) (fun ug => [(mm, .inr (5, [.int (nI th), .int (nI dg), .int (nI PT), .int (nI PN), .int (nI n), .ref ma, .ref mb, .ref mc, .ref md, .ref me, .int (nI sz), .ref mf, .int (nI od), .int (nI sl), .int (nI (t + q)), .int (nI wr), .int (nI pl), .int (nI lo), .long (lN (pN b t q lo)), .int vz, .ref mg, .ref mh])), (ma, .inl (cI, 65536, .inl (iF b)))])) A) ([.ref mm, .int (nI q)] : List Value).toArray s ({ frames := 0, cells := 0, slots := 0, locals := 0 } : Room).cells ({ frames := 0, cells := 0, slots := 0, locals := 0 } : Room).slots A) (F0 m 30 ls []) := by
      intro k310
      induction k310 with
      | zero =>
        intro j H locs ls hk9
        exact absurd hk9 (Nat.not_lt_zero _)
      | succ k310 ihloop309 =>
        intro j H locs ls hk9 hj hP hD hS hl
        refine lv_iload_n hx hb dX7_take_30 rfl (lv_at hl 2 rfl) ?_
        refine lv_iload_n hx hb dX7_take_31 rfl (lv_at hl 1 rfl) ?_
        refine k_icmp_ge (tgt := 82) (by omega) (by omega) hx hb dX7_take_32 (by decide) (fun c311 => ?_) (fun c311 => ?_)
        · skip
          refine lv_aload_n hx hb dX7_take_82 rfl (lv_at hl 0 rfl) ?_
          refine lv_dup hx hb dX7_take_83 rfl ?_
          refine va_get (D := D) (ci := 5) (v := .int (nI t)) (C := RX7) (T := TX7) (N := 22) hx hb hts inX7 hown hK hP 0 rfl rfl 14 (by decide) (hts (.fieldLink RX7 68 "ByteShapesModel" "at" "I") (List.mem_cons_of_mem _ wd_394)) (fun _ h9 => h9) rfl dX7_take_84 ?_
          refine lv_iload_n hx hb dX7_take_87 rfl (lv_at hl 1 rfl) ?_
          refine lv_iadd hx hb dX7_take_88 ?_
          refine k_i (show _ = nI (t + q) from nI_add _ _) ?_
          refine va_put (D := D) (ci := 5) (v := .int (nI (t + q))) (ty := .int) (C := RX7) (T := TX7) (N := 22) hx hb hts inX7 tyX7 tyX7_ok nmX7 hown hK hP hD hS 0 rfl rfl 14 (by decide) (hts (.fieldLink RX7 68 "ByteShapesModel" "at" "I") (List.mem_cons_of_mem _ wd_394)) (fun _ h9 => h9) rfl (by decide +kernel) (rfl) (rfl) (Nat.le_of_ble_eq_true rfl) dX7_take_89 (fun H locs hP hD hS => ?_)
          have hP : va_P D kCl [(mm, .inr (5, [.int (nI th), .int (nI dg), .int (nI PT), .int (nI PN), .int (nI n), .ref ma, .ref mb, .ref mc, .ref md, .ref me, .int (nI sz), .ref mf, .int (nI od), .int (nI sl), .int (nI (t + q)), .int (nI wr), .int (nI pl), .int (nI lo), .long (lN (tkI b t q lo j)), .int vz, .ref mg, .ref mh])), (ma, .inl (cI, 65536, .inl (iF b)))] H := hP
          have hD : va_D A [(mm, .inr (5, [.int (nI th), .int (nI dg), .int (nI PT), .int (nI PN), .int (nI n), .ref ma, .ref mb, .ref mc, .ref md, .ref me, .int (nI sz), .ref mf, .int (nI od), .int (nI sl), .int (nI (t + q)), .int (nI wr), .int (nI pl), .int (nI lo), .long (lN (tkI b t q lo j)), .int vz, .ref mg, .ref mh])), (ma, .inl (cI, 65536, .inl (iF b)))] := hD
          refine lv_iconst (v := nI 1) hx hb dX7_take_92 (by decide) ?_
          have ej : j = q := by omega
          subst ej
          exact k_iret () hx hb hr (by first | rfl | decide | exact vp_nar_int _) hlocks hK hP hD hS (by rw [tkI_pN]) (rfl) (Nat.le_of_ble_eq_true rfl) (Nat.le_of_ble_eq_true rfl) dX7_take_93
        · skip
          refine lv_aload_n hx hb dX7_take_35 rfl (lv_at hl 0 rfl) ?_
          refine lv_dup hx hb dX7_take_36 rfl ?_
          refine va_get (D := D) (ci := 5) (v := .long (lN (tkI b t q lo j))) (C := RX7) (T := TX7) (N := 22) hx hb hts inX7 hown hK hP 0 rfl rfl 18 (by decide) (hts (.fieldLink RX7 75 "ByteShapesModel" "number" "J") (List.mem_cons_of_mem _ wd_399)) (fun _ h9 => h9) rfl dX7_take_37 ?_
          refine lv_aload_n hx hb dX7_take_40 rfl (lv_at hl 0 rfl) ?_
          refine va_get (D := D) (ci := 5) (v := .ref ma) (C := RX7) (T := TX7) (N := 22) hx hb hts inX7 hown hK hP 0 rfl rfl 5 (by decide) (hts (.fieldLink RX7 8 "ByteShapesModel" "tape" "[I") (List.mem_cons_of_mem _ wd_377)) (fun _ h9 => h9) rfl dX7_take_41 ?_
          refine lv_aload_n hx hb dX7_take_44 rfl (lv_at hl 0 rfl) ?_
          refine va_get (D := D) (ci := 5) (v := .int (nI t)) (C := RX7) (T := TX7) (N := 22) hx hb hts inX7 hown hK hP 0 rfl rfl 14 (by decide) (hts (.fieldLink RX7 68 "ByteShapesModel" "at" "I") (List.mem_cons_of_mem _ wd_394)) (fun _ h9 => h9) rfl dX7_take_45 ?_
          refine lv_iload_n hx hb dX7_take_48 rfl (lv_at hl 2 rfl) ?_
          refine lv_iadd hx hb dX7_take_49 ?_
          refine k_i (show _ = nI (t + j) from nI_add _ _) ?_
          refine va_iald hx hb hK hP 1 0 rfl rfl (vp_in_nI (by omega) (by omega)) dX7_take_50 ?_
          refine k_i (show _ = (iF b) (t + j) from congrArg (iF b) (nI_clamp (by omega))) ?_
          refine k_i (show _ = nI (b (t + j)) from rfl) ?_
          refine lv_i2l (v := lN (b (t + j))) hx hb dX7_take_51 (nI_l (Nat.lt_trans (hb256 _) (by decide))) ?_
          refine lv_bipush (v := nI 8) hx hb dX7_take_52 (by decide) ?_
          refine lv_aload_n hx hb dX7_take_54 rfl (lv_at hl 0 rfl) ?_
          refine va_get (D := D) (ci := 5) (v := .int (nI lo)) (C := RX7) (T := TX7) (N := 22) hx hb hts inX7 hown hK hP 0 rfl rfl 17 (by decide) (hts (.fieldLink RX7 79 "ByteShapesModel" "lowFirst" "Z") (List.mem_cons_of_mem _ wd_400)) (fun _ h9 => h9) rfl dX7_take_55 ?_
          refine k_if_eq (tgt := 65) (by omega) hx hb dX7_take_58 (by decide) (fun hl0 => ?_) (fun hl0 => ?_)
          · skip
            refine lv_iload_n hx hb dX7_take_65 rfl (lv_at hl 1 rfl) ?_
            refine lv_iconst (v := nI 1) hx hb dX7_take_66 (by decide) ?_
            refine lv_isub hx hb dX7_take_67 ?_
            refine k_i (show _ = nI (q - 1) from pk_sub (by omega)) ?_
            refine lv_iload_n hx hb dX7_take_68 rfl (lv_at hl 2 rfl) ?_
            refine lv_isub hx hb dX7_take_69 ?_
            refine k_i (show _ = nI ((q - 1) - j) from pk_sub (by omega)) ?_
            refine lv_imul hx hb dX7_take_70 ?_
            refine k_i (show _ = nI (8 * ((q - 1) - j)) from pk_mul _ _) ?_
            refine lv_lshl (v := lN (b (t + j)) <<< ((nI (8 * ((q - 1) - j))).toInt64 &&& 63)) hx hb dX7_take_71 rfl ?_
            refine lv_lor hx hb dX7_take_72 ?_
            refine k_l (show _ = lN (tkI b t q lo (j + 1)) from tk_step hb256 hq (by omega) (by rw [if_pos hl0])) ?_
            refine va_put (D := D) (ci := 5) (v := .long (lN (tkI b t q lo (j + 1)))) (ty := .long) (C := RX7) (T := TX7) (N := 22) hx hb hts inX7 tyX7 tyX7_ok nmX7 hown hK hP hD hS 0 rfl rfl 18 (by decide) (hts (.fieldLink RX7 75 "ByteShapesModel" "number" "J") (List.mem_cons_of_mem _ wd_399)) (fun _ h9 => h9) rfl (by decide +kernel) (rfl) (rfl) (Nat.le_of_ble_eq_true rfl) dX7_take_73 (fun H locs hP hD hS => ?_)
            have hP : va_P D kCl [(mm, .inr (5, [.int (nI th), .int (nI dg), .int (nI PT), .int (nI PN), .int (nI n), .ref ma, .ref mb, .ref mc, .ref md, .ref me, .int (nI sz), .ref mf, .int (nI od), .int (nI sl), .int (nI t), .int (nI wr), .int (nI pl), .int (nI lo), .long (lN (tkI b t q lo (j + 1))), .int vz, .ref mg, .ref mh])), (ma, .inl (cI, 65536, .inl (iF b)))] H := hP
            have hD : va_D A [(mm, .inr (5, [.int (nI th), .int (nI dg), .int (nI PT), .int (nI PN), .int (nI n), .ref ma, .ref mb, .ref mc, .ref md, .ref me, .int (nI sz), .ref mf, .int (nI od), .int (nI sl), .int (nI t), .int (nI wr), .int (nI pl), .int (nI lo), .long (lN (tkI b t q lo (j + 1))), .int vz, .ref mg, .ref mh])), (ma, .inl (cI, 65536, .inl (iF b)))] := hD
            refine lv_iinc (v := nI (j + 1)) (lv' := [(2, .int (nI (j + 1))), (0, .ref mm), (1, .int (nI q))]) hx hb dX7_take_76 hl (k := 2) rfl (nI_add _ _) (by decide) rfl (fun ls hl => ?_)
            refine lv_goto (tgt := 30) hx hb dX7_take_79 (by decide) ?_
            exact ihloop309 (j + 1) _ _ _ (by omega) (by omega) (hP.sub [0, 1] rfl) (hD.sub [0, 1] (by decide) rfl) hS (lv_sub hl [1, 2, 0] rfl)
          · skip
            refine lv_iload_n hx hb dX7_take_61 rfl (lv_at hl 2 rfl) ?_
            refine lv_goto (tgt := 70) hx hb dX7_take_62 (by decide) ?_
            refine lv_imul hx hb dX7_take_70 ?_
            refine k_i (show _ = nI (8 * j) from pk_mul _ _) ?_
            refine lv_lshl (v := lN (b (t + j)) <<< ((nI (8 * j)).toInt64 &&& 63)) hx hb dX7_take_71 rfl ?_
            refine lv_lor hx hb dX7_take_72 ?_
            refine k_l (show _ = lN (tkI b t q lo (j + 1)) from tk_step hb256 hq (by omega) (by rw [if_neg hl0])) ?_
            refine va_put (D := D) (ci := 5) (v := .long (lN (tkI b t q lo (j + 1)))) (ty := .long) (C := RX7) (T := TX7) (N := 22) hx hb hts inX7 tyX7 tyX7_ok nmX7 hown hK hP hD hS 0 rfl rfl 18 (by decide) (hts (.fieldLink RX7 75 "ByteShapesModel" "number" "J") (List.mem_cons_of_mem _ wd_399)) (fun _ h9 => h9) rfl (by decide +kernel) (rfl) (rfl) (Nat.le_of_ble_eq_true rfl) dX7_take_73 (fun H locs hP hD hS => ?_)
            have hP : va_P D kCl [(mm, .inr (5, [.int (nI th), .int (nI dg), .int (nI PT), .int (nI PN), .int (nI n), .ref ma, .ref mb, .ref mc, .ref md, .ref me, .int (nI sz), .ref mf, .int (nI od), .int (nI sl), .int (nI t), .int (nI wr), .int (nI pl), .int (nI lo), .long (lN (tkI b t q lo (j + 1))), .int vz, .ref mg, .ref mh])), (ma, .inl (cI, 65536, .inl (iF b)))] H := hP
            have hD : va_D A [(mm, .inr (5, [.int (nI th), .int (nI dg), .int (nI PT), .int (nI PN), .int (nI n), .ref ma, .ref mb, .ref mc, .ref md, .ref me, .int (nI sz), .ref mf, .int (nI od), .int (nI sl), .int (nI t), .int (nI wr), .int (nI pl), .int (nI lo), .long (lN (tkI b t q lo (j + 1))), .int vz, .ref mg, .ref mh])), (ma, .inl (cI, 65536, .inl (iF b)))] := hD
            refine lv_iinc (v := nI (j + 1)) (lv' := [(2, .int (nI (j + 1))), (0, .ref mm), (1, .int (nI q))]) hx hb dX7_take_76 hl (k := 2) rfl (nI_add _ _) (by decide) rfl (fun ls hl => ?_)
            refine lv_goto (tgt := 30) hx hb dX7_take_79 (by decide) ?_
            exact ihloop309 (j + 1) _ _ _ (by omega) (by omega) (hP.sub [0, 1] rfl) (hD.sub [0, 1] (by decide) rfl) hS (lv_sub hl [1, 2, 0] rfl)
    exact loop309 ((q - 0) + 1) 0 _ _ _ (Nat.lt_succ_self _) (Nat.zero_le _) (hP.sub [0, 1] rfl) (hD.sub [0, 1] (by decide) rfl) hS (lv_sub hl [1, 2, 0] rfl)
  · skip
    exact absurd c308 (by omega)

set_option maxRecDepth 100000 in
set_option maxHeartbeats 4000000 in
theorem c_M_round4 (l : Launch) (D : va_G) (cI cB cJ cS : ClassId) (mm ma mb mc md me mf mg mh th dg PT PN n sz od sl t wr pl lo nm : Nat) (b pm pd pq rb ok ol : Nat → Nat) (fx : Nat → Int32) (vz : Int32) (v y : Nat) (hv : v < 2 ^ 64) (hdg : dg < 4) (hE : rE v = 2047)  : kM l yX7_round vsX7_round ({ frames := 1, cells := 0, slots := 0, locals := 22 }) D (kT cI cB cJ cS) [.ref mm, .long (lN v), .int (nI y)] [(mm, .inr (5, [.int (nI th), .int (nI dg), .int (nI PT), .int (nI PN), .int (nI n), .ref ma, .ref mb, .ref mc, .ref md, .ref me, .int (nI sz), .ref mf, .int (nI od), .int (nI sl), .int (nI t), .int (nI wr), .int (nI pl), .int (nI lo), .long (lN nm), .int vz, .ref mg, .ref mh]))] (kQi D (kT cI cB cJ cS) (fun r (ug : Unit) => r = nI 0) (fun ug => [(mm, .inr (5, [.int (nI th), .int (nI dg), .int (nI PT), .int (nI PN), .int (nI n), .ref ma, .ref mb, .ref mc, .ref md, .ref me, .int (nI sz), .ref mf, .int (nI od), .int (nI sl), .int (nI t), .int (nI 4), .int (nI y), .int (nI lo), .long (lN nm), .int vz, .ref mg, .ref mh]))])) := by
  refine k_ofW (by decide) rfl (Nat.le_of_ble_eq_true rfl) ?_
  intro p e s m below meth c A ls hx hb hr hts hown hlocks hmn hml hA hP hK hD hS hZ hl
  have inX7 : ∀ w ∈ wsX70, w ∈ vsX7_round := fun w h => List.mem_cons_of_mem _ (iaX7 w h)
  have F : CallFix p m c cX7_round 11 s _ vsX7_round RX7 := ⟨hx, hb, hml, hown, hts⟩
  have hl : lv_has ls 11 [(0, .ref mm), (1, .long (lN v)), (3, .int (nI y))] := hl
  refine lv_lload_n hx hb dX7_round_0 rfl (lv_at hl 1 rfl) ?_
  refine k_cl (wr := [(mm, .inr (5, [.int (nI th), .int (nI dg), .int (nI PT), .int (nI PN), .int (nI n), .ref ma, .ref mb, .ref mc, .ref md, .ref me, .int (nI sz), .ref mf, .int (nI od), .int (nI sl), .int (nI t), .int (nI wr), .int (nI pl), .int (nI lo), .long (lN nm), .int vz, .ref mg, .ref mh]))]) (k_rs F (c_M_exponent l D cI cB cJ cS v hv) (va_cwS 1 hts (g_S wd_384 wd_385 wd_373 wd_386) rfl rfl rfl (by decide +kernel) ⟨Nat.le_of_ble_eq_true rfl, Nat.le_of_ble_eq_true rfl⟩) hK hP hD hS hA hZ [] rfl (by decide) rfl hl.1 rfl (Nat.le_of_ble_eq_true rfl) dX7_round_1 ⟨Nat.le_of_ble_eq_true rfl, Nat.le_of_ble_eq_true rfl⟩) hP hD hS hA [] [0] rfl rfl (by decide) (by decide) (fun r u9 H locs hw hP hD hS => ?_)
  subst hw
  have hP : va_P D kCl [(mm, .inr (5, [.int (nI th), .int (nI dg), .int (nI PT), .int (nI PN), .int (nI n), .ref ma, .ref mb, .ref mc, .ref md, .ref me, .int (nI sz), .ref mf, .int (nI od), .int (nI sl), .int (nI t), .int (nI wr), .int (nI pl), .int (nI lo), .long (lN nm), .int vz, .ref mg, .ref mh]))] H := hP
  have hD : va_D A [(mm, .inr (5, [.int (nI th), .int (nI dg), .int (nI PT), .int (nI PN), .int (nI n), .ref ma, .ref mb, .ref mc, .ref md, .ref me, .int (nI sz), .ref mf, .int (nI od), .int (nI sl), .int (nI t), .int (nI wr), .int (nI pl), .int (nI lo), .long (lN nm), .int vz, .ref mg, .ref mh]))] := hD
  refine W.widen (k := 0) (n := 0) (Nat.le_of_ble_eq_true rfl) (Nat.le_of_ble_eq_true rfl) ?_
  refine lv_ldc2 (v := lN 2047) hx hb hown (hts (.constantLong RX7 83 (2047)) (List.mem_cons_of_mem _ wd_382)) dX7_round_4 ?_
  refine W.lcmp hx hb dX7_round_7 ?_
  have hE0 := rE_lt (v := v)
  refine k_lcmpN_ne (tgt := 18) (by omega) (by omega) hx hb dX7_round_8 (by decide) (fun c312 => ?_) (fun c312 => ?_)
  · skip
    exact absurd c312 (by omega)
  · skip
    refine lv_aload_n hx hb dX7_round_11 rfl (lv_at hl 0 rfl) ?_
    refine lv_iconst (v := nI 4) hx hb dX7_round_12 (by decide) ?_
    refine lv_iload_n hx hb dX7_round_13 rfl (lv_at hl 2 rfl) ?_
    refine k_ci (wr := []) (k_rv F (c_M_wrong l D cI cB cJ cS mm ma mb mc md me mf mg mh th dg PT PN n sz od sl t wr pl lo nm b pm pd pq rb ok ol fx vz 4 y) (cwV 2 hts (g_V wd_395 wd_396 wd_397 wd_373 wd_398) rfl rfl rfl (by decide +kernel) ⟨Nat.le_of_ble_eq_true rfl, Nat.le_of_ble_eq_true rfl⟩) hK hP hD hS hA hZ [0] rfl (by decide) 0 rfl rfl rfl rfl hl.1 rfl (Nat.le_of_ble_eq_true rfl) dX7_round_14 ⟨Nat.le_of_ble_eq_true rfl, Nat.le_of_ble_eq_true rfl⟩) hP hD hS hA [0] [] rfl rfl (by decide) (by decide) (fun r u9 H locs hw hP hD hS => ?_)
    subst hw
    have hP : va_P D kCl [(mm, .inr (5, [.int (nI th), .int (nI dg), .int (nI PT), .int (nI PN), .int (nI n), .ref ma, .ref mb, .ref mc, .ref md, .ref me, .int (nI sz), .ref mf, .int (nI od), .int (nI sl), .int (nI t), .int (nI 4), .int (nI y), .int (nI lo), .long (lN nm), .int vz, .ref mg, .ref mh]))] H := hP
    have hD : va_D A [(mm, .inr (5, [.int (nI th), .int (nI dg), .int (nI PT), .int (nI PN), .int (nI n), .ref ma, .ref mb, .ref mc, .ref md, .ref me, .int (nI sz), .ref mf, .int (nI od), .int (nI sl), .int (nI t), .int (nI 4), .int (nI y), .int (nI lo), .long (lN nm), .int vz, .ref mg, .ref mh]))] := hD
    refine W.widen (k := 0) (n := 0) (Nat.le_of_ble_eq_true rfl) (Nat.le_of_ble_eq_true rfl) ?_
    exact k_iret () hx hb hr (by first | rfl | decide | exact vp_nar_int _) hlocks hK hP hD hS (rfl) (rfl) (Nat.le_of_ble_eq_true rfl) (Nat.le_of_ble_eq_true rfl) dX7_round_17

set_option maxRecDepth 100000 in
set_option maxHeartbeats 4000000 in
theorem c_M_round5a (l : Launch) (D : va_G) (cI cB cJ cS : ClassId) (mm ma mb mc md me mf mg mh th dg PT PN n sz od sl t wr pl lo nm : Nat) (b pm pd pq rb ok ol : Nat → Nat) (fx : Nat → Int32) (vz : Int32) (v y : Nat) (hv : v < 2 ^ 64) (hdg : dg < 4) (hE : 1075 ≤ rE v) (hE2 : rE v < 2047)  : kM l yX7_round vsX7_round ({ frames := 1, cells := 0, slots := 0, locals := 22 }) D (kT cI cB cJ cS) [.ref mm, .long (lN v), .int (nI y)] [(mm, .inr (5, [.int (nI th), .int (nI dg), .int (nI PT), .int (nI PN), .int (nI n), .ref ma, .ref mb, .ref mc, .ref md, .ref me, .int (nI sz), .ref mf, .int (nI od), .int (nI sl), .int (nI t), .int (nI wr), .int (nI pl), .int (nI lo), .long (lN nm), .int vz, .ref mg, .ref mh]))] (kQi D (kT cI cB cJ cS) (fun r (ug : Unit) => r = nI 0) (fun ug => [(mm, .inr (5, [.int (nI th), .int (nI dg), .int (nI PT), .int (nI PN), .int (nI n), .ref ma, .ref mb, .ref mc, .ref md, .ref me, .int (nI sz), .ref mf, .int (nI od), .int (nI sl), .int (nI t), .int (nI 5), .int (nI y), .int (nI lo), .long (lN nm), .int vz, .ref mg, .ref mh]))])) := by
  refine k_ofW (by decide) rfl (Nat.le_of_ble_eq_true rfl) ?_
  intro p e s m below meth c A ls hx hb hr hts hown hlocks hmn hml hA hP hK hD hS hZ hl
  have inX7 : ∀ w ∈ wsX70, w ∈ vsX7_round := fun w h => List.mem_cons_of_mem _ (iaX7 w h)
  have F : CallFix p m c cX7_round 11 s _ vsX7_round RX7 := ⟨hx, hb, hml, hown, hts⟩
  have hl : lv_has ls 11 [(0, .ref mm), (1, .long (lN v)), (3, .int (nI y))] := hl
  refine lv_lload_n hx hb dX7_round_0 rfl (lv_at hl 1 rfl) ?_
  refine k_cl (wr := [(mm, .inr (5, [.int (nI th), .int (nI dg), .int (nI PT), .int (nI PN), .int (nI n), .ref ma, .ref mb, .ref mc, .ref md, .ref me, .int (nI sz), .ref mf, .int (nI od), .int (nI sl), .int (nI t), .int (nI wr), .int (nI pl), .int (nI lo), .long (lN nm), .int vz, .ref mg, .ref mh]))]) (k_rs F (c_M_exponent l D cI cB cJ cS v hv) (va_cwS 1 hts (g_S wd_384 wd_385 wd_373 wd_386) rfl rfl rfl (by decide +kernel) ⟨Nat.le_of_ble_eq_true rfl, Nat.le_of_ble_eq_true rfl⟩) hK hP hD hS hA hZ [] rfl (by decide) rfl hl.1 rfl (Nat.le_of_ble_eq_true rfl) dX7_round_1 ⟨Nat.le_of_ble_eq_true rfl, Nat.le_of_ble_eq_true rfl⟩) hP hD hS hA [] [0] rfl rfl (by decide) (by decide) (fun r u9 H locs hw hP hD hS => ?_)
  subst hw
  have hP : va_P D kCl [(mm, .inr (5, [.int (nI th), .int (nI dg), .int (nI PT), .int (nI PN), .int (nI n), .ref ma, .ref mb, .ref mc, .ref md, .ref me, .int (nI sz), .ref mf, .int (nI od), .int (nI sl), .int (nI t), .int (nI wr), .int (nI pl), .int (nI lo), .long (lN nm), .int vz, .ref mg, .ref mh]))] H := hP
  have hD : va_D A [(mm, .inr (5, [.int (nI th), .int (nI dg), .int (nI PT), .int (nI PN), .int (nI n), .ref ma, .ref mb, .ref mc, .ref md, .ref me, .int (nI sz), .ref mf, .int (nI od), .int (nI sl), .int (nI t), .int (nI wr), .int (nI pl), .int (nI lo), .long (lN nm), .int vz, .ref mg, .ref mh]))] := hD
  refine W.widen (k := 0) (n := 0) (Nat.le_of_ble_eq_true rfl) (Nat.le_of_ble_eq_true rfl) ?_
  refine lv_ldc2 (v := lN 2047) hx hb hown (hts (.constantLong RX7 83 (2047)) (List.mem_cons_of_mem _ wd_382)) dX7_round_4 ?_
  refine W.lcmp hx hb dX7_round_7 ?_
  have hE0 := rE_lt (v := v)
  refine k_lcmpN_ne (tgt := 18) (by omega) (by omega) hx hb dX7_round_8 (by decide) (fun c313 => ?_) (fun c313 => ?_)
  · skip
    refine lv_lload_n hx hb dX7_round_18 rfl (lv_at hl 1 rfl) ?_
    refine lv_ldc2 (v := lN 4503599627370495) hx hb hown (hts (.constantLong RX7 89 (4503599627370495)) (List.mem_cons_of_mem _ wd_383)) dX7_round_19 ?_
    refine lv_land hx hb dX7_round_22 ?_
    refine k_l (show _ = lN (v % 4503599627370496) from g_mask (s := 52) (p := 4503599627370496) rfl (by decide) hv) ?_
    refine lv_lload_n hx hb dX7_round_23 rfl (lv_at hl 1 rfl) ?_
    refine k_cl (wr := [(mm, .inr (5, [.int (nI th), .int (nI dg), .int (nI PT), .int (nI PN), .int (nI n), .ref ma, .ref mb, .ref mc, .ref md, .ref me, .int (nI sz), .ref mf, .int (nI od), .int (nI sl), .int (nI t), .int (nI wr), .int (nI pl), .int (nI lo), .long (lN nm), .int vz, .ref mg, .ref mh]))]) (k_rs F (c_M_exponent l D cI cB cJ cS v hv) (va_cwS 1 hts (g_S wd_384 wd_385 wd_373 wd_386) rfl rfl rfl (by decide +kernel) ⟨Nat.le_of_ble_eq_true rfl, Nat.le_of_ble_eq_true rfl⟩) hK hP hD hS hA hZ [] rfl (by decide) rfl hl.1 rfl (Nat.le_of_ble_eq_true rfl) dX7_round_24 ⟨Nat.le_of_ble_eq_true rfl, Nat.le_of_ble_eq_true rfl⟩) hP hD hS hA [] [0] rfl rfl (by decide) (by decide) (fun r u9 H locs hw hP hD hS => ?_)
    subst hw
    have hP : va_P D kCl [(mm, .inr (5, [.int (nI th), .int (nI dg), .int (nI PT), .int (nI PN), .int (nI n), .ref ma, .ref mb, .ref mc, .ref md, .ref me, .int (nI sz), .ref mf, .int (nI od), .int (nI sl), .int (nI t), .int (nI wr), .int (nI pl), .int (nI lo), .long (lN nm), .int vz, .ref mg, .ref mh]))] H := hP
    have hD : va_D A [(mm, .inr (5, [.int (nI th), .int (nI dg), .int (nI PT), .int (nI PN), .int (nI n), .ref ma, .ref mb, .ref mc, .ref md, .ref me, .int (nI sz), .ref mf, .int (nI od), .int (nI sl), .int (nI t), .int (nI wr), .int (nI pl), .int (nI lo), .long (lN nm), .int vz, .ref mg, .ref mh]))] := hD
    refine W.widen (k := 0) (n := 0) (Nat.le_of_ble_eq_true rfl) (Nat.le_of_ble_eq_true rfl) ?_
    refine lv_lconst (v := lN 0) hx hb dX7_round_27 (by decide) ?_
    refine W.lcmp hx hb dX7_round_28 ?_
    refine k_lcmpN_le (tgt := 38) (by omega) (by omega) hx hb dX7_round_29 (by decide) (fun c314 => ?_) (fun c314 => ?_)
    · skip
      exact absurd c314 (by omega)
    · skip
      refine lv_ldc2 (v := lN 4503599627370496) hx hb hown (hts (.constantLong RX7 91 (4503599627370496)) (List.mem_cons_of_mem _ wd_401)) dX7_round_32 ?_
      refine lv_goto (tgt := 39) hx hb dX7_round_35 (by decide) ?_
      refine lv_ladd hx hb dX7_round_39 ?_
      refine k_l (show _ = lN ((v % 4503599627370496) + 4503599627370496) from lN_add _ _) ?_
      refine lv_lstore (lv' := [(4, .long (lN ((v % 4503599627370496) + 4503599627370496))), (0, .ref mm), (1, .long (lN v)), (3, .int (nI y))]) hx hb dX7_round_40 hl (by decide) rfl (fun ls hl => ?_)
      refine lv_lload hx hb dX7_round_42 (lv_at hl 0 rfl) ?_
      refine lv_aload_n hx hb dX7_round_44 rfl (lv_at hl 1 rfl) ?_
      refine va_get (D := D) (ci := 5) (v := .int (nI dg)) (C := RX7) (T := TX7) (N := 22) hx hb hts inX7 hown hK hP 0 rfl rfl 1 (by decide) (hts (.fieldLink RX7 38 "ByteShapesModel" "digits" "I") (List.mem_cons_of_mem _ wd_402)) (fun _ h9 => h9) rfl dX7_round_45 ?_
      refine k_ci (wr := [(mm, .inr (5, [.int (nI th), .int (nI dg), .int (nI PT), .int (nI PN), .int (nI n), .ref ma, .ref mb, .ref mc, .ref md, .ref me, .int (nI sz), .ref mf, .int (nI od), .int (nI sl), .int (nI t), .int (nI wr), .int (nI pl), .int (nI lo), .long (lN nm), .int vz, .ref mg, .ref mh]))]) (k_rs F (c_M_units l D cI cB cJ cS dg hdg) (va_cwS 1 hts (g_S wd_405 wd_406 wd_373 wd_407) rfl rfl rfl (by decide +kernel) ⟨Nat.le_of_ble_eq_true rfl, Nat.le_of_ble_eq_true rfl⟩) hK hP hD hS hA hZ [] rfl (by decide) rfl hl.1 rfl (Nat.le_of_ble_eq_true rfl) dX7_round_48 ⟨Nat.le_of_ble_eq_true rfl, Nat.le_of_ble_eq_true rfl⟩) hP hD hS hA [] [0] rfl rfl (by decide) (by decide) (fun r u9 H locs hw hP hD hS => ?_)
      subst hw
      have hP : va_P D kCl [(mm, .inr (5, [.int (nI th), .int (nI dg), .int (nI PT), .int (nI PN), .int (nI n), .ref ma, .ref mb, .ref mc, .ref md, .ref me, .int (nI sz), .ref mf, .int (nI od), .int (nI sl), .int (nI t), .int (nI wr), .int (nI pl), .int (nI lo), .long (lN nm), .int vz, .ref mg, .ref mh]))] H := hP
      have hD : va_D A [(mm, .inr (5, [.int (nI th), .int (nI dg), .int (nI PT), .int (nI PN), .int (nI n), .ref ma, .ref mb, .ref mc, .ref md, .ref me, .int (nI sz), .ref mf, .int (nI od), .int (nI sl), .int (nI t), .int (nI wr), .int (nI pl), .int (nI lo), .long (lN nm), .int vz, .ref mg, .ref mh]))] := hD
      refine W.widen (k := 0) (n := 0) (Nat.le_of_ble_eq_true rfl) (Nat.le_of_ble_eq_true rfl) ?_
      refine lv_i2l (v := lN (uD dg)) hx hb dX7_round_51 (nI_l (by have := uD_ok dg; omega)) ?_
      refine lv_lmul hx hb dX7_round_52 ?_
      obtain ⟨P, hP9⟩ : ∃ z, z = mP v (uD dg) := ⟨_, rfl⟩
      have hu9 := uD_ok dg
      have hPl := mP_lt (v := v) (u := uD dg) hu9.2
      rw [← hP9] at hPl
      refine k_l (show _ = lN P from by rw [hP9, lN_mul]; unfold mP; rw [if_pos (by omega)]) ?_
      refine lv_lstore (lv' := [(4, .long (lN P)), (0, .ref mm), (1, .long (lN v)), (3, .int (nI y))]) hx hb dX7_round_53 hl (by decide) rfl (fun ls hl => ?_)
      refine lv_lload_n hx hb dX7_round_55 rfl (lv_at hl 2 rfl) ?_
      refine k_cl (wr := [(mm, .inr (5, [.int (nI th), .int (nI dg), .int (nI PT), .int (nI PN), .int (nI n), .ref ma, .ref mb, .ref mc, .ref md, .ref me, .int (nI sz), .ref mf, .int (nI od), .int (nI sl), .int (nI t), .int (nI wr), .int (nI pl), .int (nI lo), .long (lN nm), .int vz, .ref mg, .ref mh]))]) (k_rs F (c_M_exponent l D cI cB cJ cS v hv) (va_cwS 1 hts (g_S wd_384 wd_385 wd_373 wd_386) rfl rfl rfl (by decide +kernel) ⟨Nat.le_of_ble_eq_true rfl, Nat.le_of_ble_eq_true rfl⟩) hK hP hD hS hA hZ [] rfl (by decide) rfl hl.1 rfl (Nat.le_of_ble_eq_true rfl) dX7_round_56 ⟨Nat.le_of_ble_eq_true rfl, Nat.le_of_ble_eq_true rfl⟩) hP hD hS hA [] [0] rfl rfl (by decide) (by decide) (fun r u9 H locs hw hP hD hS => ?_)
      subst hw
      have hP : va_P D kCl [(mm, .inr (5, [.int (nI th), .int (nI dg), .int (nI PT), .int (nI PN), .int (nI n), .ref ma, .ref mb, .ref mc, .ref md, .ref me, .int (nI sz), .ref mf, .int (nI od), .int (nI sl), .int (nI t), .int (nI wr), .int (nI pl), .int (nI lo), .long (lN nm), .int vz, .ref mg, .ref mh]))] H := hP
      have hD : va_D A [(mm, .inr (5, [.int (nI th), .int (nI dg), .int (nI PT), .int (nI PN), .int (nI n), .ref ma, .ref mb, .ref mc, .ref md, .ref me, .int (nI sz), .ref mf, .int (nI od), .int (nI sl), .int (nI t), .int (nI wr), .int (nI pl), .int (nI lo), .long (lN nm), .int vz, .ref mg, .ref mh]))] := hD
      refine W.widen (k := 0) (n := 0) (Nat.le_of_ble_eq_true rfl) (Nat.le_of_ble_eq_true rfl) ?_
      refine lv_lconst (v := lN 0) hx hb dX7_round_59 (by decide) ?_
      refine W.lcmp hx hb dX7_round_60 ?_
      refine k_lcmpN_le (tgt := 75) (by omega) (by omega) hx hb dX7_round_61 (by decide) (fun c315 => ?_) (fun c315 => ?_)
      · skip
        exact absurd c315 (by omega)
      · skip
        refine lv_lload_n hx hb dX7_round_64 rfl (lv_at hl 2 rfl) ?_
        refine k_cl (wr := [(mm, .inr (5, [.int (nI th), .int (nI dg), .int (nI PT), .int (nI PN), .int (nI n), .ref ma, .ref mb, .ref mc, .ref md, .ref me, .int (nI sz), .ref mf, .int (nI od), .int (nI sl), .int (nI t), .int (nI wr), .int (nI pl), .int (nI lo), .long (lN nm), .int vz, .ref mg, .ref mh]))]) (k_rs F (c_M_exponent l D cI cB cJ cS v hv) (va_cwS 1 hts (g_S wd_384 wd_385 wd_373 wd_386) rfl rfl rfl (by decide +kernel) ⟨Nat.le_of_ble_eq_true rfl, Nat.le_of_ble_eq_true rfl⟩) hK hP hD hS hA hZ [] rfl (by decide) rfl hl.1 rfl (Nat.le_of_ble_eq_true rfl) dX7_round_65 ⟨Nat.le_of_ble_eq_true rfl, Nat.le_of_ble_eq_true rfl⟩) hP hD hS hA [] [0] rfl rfl (by decide) (by decide) (fun r u9 H locs hw hP hD hS => ?_)
        subst hw
        have hP : va_P D kCl [(mm, .inr (5, [.int (nI th), .int (nI dg), .int (nI PT), .int (nI PN), .int (nI n), .ref ma, .ref mb, .ref mc, .ref md, .ref me, .int (nI sz), .ref mf, .int (nI od), .int (nI sl), .int (nI t), .int (nI wr), .int (nI pl), .int (nI lo), .long (lN nm), .int vz, .ref mg, .ref mh]))] H := hP
        have hD : va_D A [(mm, .inr (5, [.int (nI th), .int (nI dg), .int (nI PT), .int (nI PN), .int (nI n), .ref ma, .ref mb, .ref mc, .ref md, .ref me, .int (nI sz), .ref mf, .int (nI od), .int (nI sl), .int (nI t), .int (nI wr), .int (nI pl), .int (nI lo), .long (lN nm), .int vz, .ref mg, .ref mh]))] := hD
        refine W.widen (k := 0) (n := 0) (Nat.le_of_ble_eq_true rfl) (Nat.le_of_ble_eq_true rfl) ?_
        refine lv_ldc2 (v := lN 1075) hx hb hown (hts (.constantLong RX7 96 (1075)) (List.mem_cons_of_mem _ wd_403)) dX7_round_68 ?_
        refine lv_lsub hx hb dX7_round_71 ?_
        refine k_l (show _ = lN ((rE v) - 1075) from lN_sub (by omega)) ?_
        refine lv_goto (tgt := 78) hx hb dX7_round_72 (by decide) ?_
        refine lv_lstore (lv' := [(6, .long (lN ((rE v) - 1075))), (4, .long (lN P)), (0, .ref mm), (1, .long (lN v)), (3, .int (nI y))]) hx hb dX7_round_78 hl (by decide) rfl (fun ls hl => ?_)
        have hPg : 4503599627370496 ≤ P := by rw [hP9]; exact mP_ge (by omega) (uD_ok dg).1
        refine lv_lload hx hb dX7_round_80 (lv_at hl 0 rfl) ?_
        refine lv_lconst (v := lN 0) hx hb dX7_round_82 (by decide) ?_
        refine W.lcmp hx hb dX7_round_83 ?_
        refine k_lcmpN_le (tgt := 120) (by omega) (by omega) hx hb dX7_round_84 (by decide) (fun c316 => ?_) (fun c316 => ?_)
        · skip
          refine lv_lconst (v := lN 0) hx hb dX7_round_120 (by decide) ?_
          refine lv_lstore (lv' := [(8, .long (lN 0)), (6, .long (lN ((rE v) - 1075))), (4, .long (lN P)), (0, .ref mm), (1, .long (lN v)), (3, .int (nI y))]) hx hb dX7_round_121 hl (by decide) rfl (fun ls hl => ?_)
          refine lv_iconst (v := nI 0) hx hb dX7_round_123 (by decide) ?_
          refine lv_istore (lv' := [(10, .int (nI 0)), (8, .long (lN 0)), (6, .long (lN ((rE v) - 1075))), (4, .long (lN P)), (0, .ref mm), (1, .long (lN v)), (3, .int (nI y))]) hx hb dX7_round_124 hl (by decide) rfl (fun ls hl => ?_)
          refine lv_lload hx hb dX7_round_126 (lv_at hl 2 rfl) ?_
          refine lv_lconst (v := lN 0) hx hb dX7_round_128 (by decide) ?_
          refine W.lcmp hx hb dX7_round_129 ?_
          refine k_lcmpN_ge (tgt := 191) (by omega) (by omega) hx hb dX7_round_130 (by decide) (fun c317 => ?_) (fun c317 => ?_)
          · skip
            refine lv_lload hx hb dX7_round_191 (lv_at hl 1 rfl) ?_
            refine lv_lconst (v := lN 0) hx hb dX7_round_193 (by decide) ?_
            refine W.lcmp hx hb dX7_round_194 ?_
            refine k_lcmpN_le (tgt := 220) (by omega) (by omega) hx hb dX7_round_195 (by decide) (fun c318 => ?_) (fun c318 => ?_)
            · skip
              refine lv_lload hx hb dX7_round_220 (lv_at hl 3 rfl) ?_
              refine lv_ldc2 (v := lN 1000000000) hx hb hown (hts (.constantLong RX7 100 (1000000000)) (List.mem_cons_of_mem _ wd_404)) dX7_round_222 ?_
              refine W.lcmp hx hb dX7_round_225 ?_
              refine k_lcmpN_le (tgt := 236) (by omega) (by omega) hx hb dX7_round_226 (by decide) (fun c319 => ?_) (fun c319 => ?_)
              · skip
                exact absurd c319 (by omega)
              · skip
                refine lv_aload_n hx hb dX7_round_229 rfl (lv_at hl 4 rfl) ?_
                refine lv_iconst (v := nI 5) hx hb dX7_round_230 (by decide) ?_
                refine lv_iload_n hx hb dX7_round_231 rfl (lv_at hl 6 rfl) ?_
                refine k_ci (wr := []) (k_rv F (c_M_wrong l D cI cB cJ cS mm ma mb mc md me mf mg mh th dg PT PN n sz od sl t wr pl lo nm b pm pd pq rb ok ol fx vz 5 y) (cwV 2 hts (g_V wd_395 wd_396 wd_397 wd_373 wd_398) rfl rfl rfl (by decide +kernel) ⟨Nat.le_of_ble_eq_true rfl, Nat.le_of_ble_eq_true rfl⟩) hK hP hD hS hA hZ [0] rfl (by decide) 0 rfl rfl rfl rfl hl.1 rfl (Nat.le_of_ble_eq_true rfl) dX7_round_232 ⟨Nat.le_of_ble_eq_true rfl, Nat.le_of_ble_eq_true rfl⟩) hP hD hS hA [0] [] rfl rfl (by decide) (by decide) (fun r u9 H locs hw hP hD hS => ?_)
                subst hw
                have hP : va_P D kCl [(mm, .inr (5, [.int (nI th), .int (nI dg), .int (nI PT), .int (nI PN), .int (nI n), .ref ma, .ref mb, .ref mc, .ref md, .ref me, .int (nI sz), .ref mf, .int (nI od), .int (nI sl), .int (nI t), .int (nI 5), .int (nI y), .int (nI lo), .long (lN nm), .int vz, .ref mg, .ref mh]))] H := hP
                have hD : va_D A [(mm, .inr (5, [.int (nI th), .int (nI dg), .int (nI PT), .int (nI PN), .int (nI n), .ref ma, .ref mb, .ref mc, .ref md, .ref me, .int (nI sz), .ref mf, .int (nI od), .int (nI sl), .int (nI t), .int (nI 5), .int (nI y), .int (nI lo), .long (lN nm), .int vz, .ref mg, .ref mh]))] := hD
                refine W.widen (k := 0) (n := 0) (Nat.le_of_ble_eq_true rfl) (Nat.le_of_ble_eq_true rfl) ?_
                exact k_iret () hx hb hr (by first | rfl | decide | exact vp_nar_int _) hlocks hK hP hD hS (rfl) (rfl) (Nat.le_of_ble_eq_true rfl) (Nat.le_of_ble_eq_true rfl) dX7_round_235
            · skip
              exact absurd c318 (by omega)
          · skip
            exact absurd c317 (by omega)
        · skip
          refine lv_lload hx hb dX7_round_87 (lv_at hl 1 rfl) ?_
          refine lv_lconst (v := lN 0) hx hb dX7_round_89 (by decide) ?_
          refine W.lcmp hx hb dX7_round_90 ?_
          refine k_lcmpN_le (tgt := 120) (by omega) (by omega) hx hb dX7_round_91 (by decide) (fun c320 => ?_) (fun c320 => ?_)
          · skip
            exact absurd c320 (by omega)
          · skip
            refine lv_lload hx hb dX7_round_94 (lv_at hl 1 rfl) ?_
            refine lv_ldc2 (v := lN 1000000000) hx hb hown (hts (.constantLong RX7 100 (1000000000)) (List.mem_cons_of_mem _ wd_404)) dX7_round_96 ?_
            refine W.lcmp hx hb dX7_round_99 ?_
            refine k_lcmpN_gt (tgt := 120) (by omega) (by omega) hx hb dX7_round_100 (by decide) (fun c321 => ?_) (fun c321 => ?_)
            · skip
              refine lv_lconst (v := lN 0) hx hb dX7_round_120 (by decide) ?_
              refine lv_lstore (lv' := [(8, .long (lN 0)), (6, .long (lN ((rE v) - 1075))), (4, .long (lN P)), (0, .ref mm), (1, .long (lN v)), (3, .int (nI y))]) hx hb dX7_round_121 hl (by decide) rfl (fun ls hl => ?_)
              refine lv_iconst (v := nI 0) hx hb dX7_round_123 (by decide) ?_
              refine lv_istore (lv' := [(10, .int (nI 0)), (8, .long (lN 0)), (6, .long (lN ((rE v) - 1075))), (4, .long (lN P)), (0, .ref mm), (1, .long (lN v)), (3, .int (nI y))]) hx hb dX7_round_124 hl (by decide) rfl (fun ls hl => ?_)
              refine lv_lload hx hb dX7_round_126 (lv_at hl 2 rfl) ?_
              refine lv_lconst (v := lN 0) hx hb dX7_round_128 (by decide) ?_
              refine W.lcmp hx hb dX7_round_129 ?_
              refine k_lcmpN_ge (tgt := 191) (by omega) (by omega) hx hb dX7_round_130 (by decide) (fun c322 => ?_) (fun c322 => ?_)
              · skip
                refine lv_lload hx hb dX7_round_191 (lv_at hl 1 rfl) ?_
                refine lv_lconst (v := lN 0) hx hb dX7_round_193 (by decide) ?_
                refine W.lcmp hx hb dX7_round_194 ?_
                refine k_lcmpN_le (tgt := 220) (by omega) (by omega) hx hb dX7_round_195 (by decide) (fun c323 => ?_) (fun c323 => ?_)
                · skip
                  refine lv_lload hx hb dX7_round_220 (lv_at hl 3 rfl) ?_
                  refine lv_ldc2 (v := lN 1000000000) hx hb hown (hts (.constantLong RX7 100 (1000000000)) (List.mem_cons_of_mem _ wd_404)) dX7_round_222 ?_
                  refine W.lcmp hx hb dX7_round_225 ?_
                  refine k_lcmpN_le (tgt := 236) (by omega) (by omega) hx hb dX7_round_226 (by decide) (fun c324 => ?_) (fun c324 => ?_)
                  · skip
                    exact absurd c324 (by omega)
                  · skip
                    refine lv_aload_n hx hb dX7_round_229 rfl (lv_at hl 4 rfl) ?_
                    refine lv_iconst (v := nI 5) hx hb dX7_round_230 (by decide) ?_
                    refine lv_iload_n hx hb dX7_round_231 rfl (lv_at hl 6 rfl) ?_
                    refine k_ci (wr := []) (k_rv F (c_M_wrong l D cI cB cJ cS mm ma mb mc md me mf mg mh th dg PT PN n sz od sl t wr pl lo nm b pm pd pq rb ok ol fx vz 5 y) (cwV 2 hts (g_V wd_395 wd_396 wd_397 wd_373 wd_398) rfl rfl rfl (by decide +kernel) ⟨Nat.le_of_ble_eq_true rfl, Nat.le_of_ble_eq_true rfl⟩) hK hP hD hS hA hZ [0] rfl (by decide) 0 rfl rfl rfl rfl hl.1 rfl (Nat.le_of_ble_eq_true rfl) dX7_round_232 ⟨Nat.le_of_ble_eq_true rfl, Nat.le_of_ble_eq_true rfl⟩) hP hD hS hA [0] [] rfl rfl (by decide) (by decide) (fun r u9 H locs hw hP hD hS => ?_)
                    subst hw
                    have hP : va_P D kCl [(mm, .inr (5, [.int (nI th), .int (nI dg), .int (nI PT), .int (nI PN), .int (nI n), .ref ma, .ref mb, .ref mc, .ref md, .ref me, .int (nI sz), .ref mf, .int (nI od), .int (nI sl), .int (nI t), .int (nI 5), .int (nI y), .int (nI lo), .long (lN nm), .int vz, .ref mg, .ref mh]))] H := hP
                    have hD : va_D A [(mm, .inr (5, [.int (nI th), .int (nI dg), .int (nI PT), .int (nI PN), .int (nI n), .ref ma, .ref mb, .ref mc, .ref md, .ref me, .int (nI sz), .ref mf, .int (nI od), .int (nI sl), .int (nI t), .int (nI 5), .int (nI y), .int (nI lo), .long (lN nm), .int vz, .ref mg, .ref mh]))] := hD
                    refine W.widen (k := 0) (n := 0) (Nat.le_of_ble_eq_true rfl) (Nat.le_of_ble_eq_true rfl) ?_
                    exact k_iret () hx hb hr (by first | rfl | decide | exact vp_nar_int _) hlocks hK hP hD hS (rfl) (rfl) (Nat.le_of_ble_eq_true rfl) (Nat.le_of_ble_eq_true rfl) dX7_round_235
                · skip
                  exact absurd c323 (by omega)
              · skip
                exact absurd c322 (by omega)
            · skip
              exact absurd c321 (by omega)
  · skip
    exact absurd c313 (by omega)

set_option maxRecDepth 100000 in
set_option maxHeartbeats 4000000 in
theorem c_M_roundB5 (l : Launch) (D : va_G) (cI cB cJ cS : ClassId) (mm ma mb mc md me mf mg mh th dg PT PN n sz od sl t wr pl lo nm : Nat) (b pm pd pq rb ok ol : Nat → Nat) (fx : Nat → Int32) (vz : Int32) (v y : Nat) (hv : v < 2 ^ 64) (hdg : dg < 4) (hE : rE v < 1075) (hm : 1000000000 < rMag v (uD dg))  : kM l yX7_round vsX7_round ({ frames := 1, cells := 0, slots := 0, locals := 22 }) D (kT cI cB cJ cS) [.ref mm, .long (lN v), .int (nI y)] [(mm, .inr (5, [.int (nI th), .int (nI dg), .int (nI PT), .int (nI PN), .int (nI n), .ref ma, .ref mb, .ref mc, .ref md, .ref me, .int (nI sz), .ref mf, .int (nI od), .int (nI sl), .int (nI t), .int (nI wr), .int (nI pl), .int (nI lo), .long (lN nm), .int vz, .ref mg, .ref mh]))] (kQi D (kT cI cB cJ cS) (fun r (ug : Unit) => r = nI 0) (fun ug => [(mm, .inr (5, [.int (nI th), .int (nI dg), .int (nI PT), .int (nI PN), .int (nI n), .ref ma, .ref mb, .ref mc, .ref md, .ref me, .int (nI sz), .ref mf, .int (nI od), .int (nI sl), .int (nI t), .int (nI 5), .int (nI y), .int (nI lo), .long (lN nm), .int vz, .ref mg, .ref mh]))])) := by
  refine k_ofW (by decide) rfl (Nat.le_of_ble_eq_true rfl) ?_
  intro p e s m below meth c A ls hx hb hr hts hown hlocks hmn hml hA hP hK hD hS hZ hl
  have inX7 : ∀ w ∈ wsX70, w ∈ vsX7_round := fun w h => List.mem_cons_of_mem _ (iaX7 w h)
  have F : CallFix p m c cX7_round 11 s _ vsX7_round RX7 := ⟨hx, hb, hml, hown, hts⟩
  have hl : lv_has ls 11 [(0, .ref mm), (1, .long (lN v)), (3, .int (nI y))] := hl
  have jp80 : ∀ (P : Nat) (h : Nat) (H : Heap) (locs : List Loc) (ls : Array Slot), (P = mP v (uD dg)) → (h = mH v) → va_P D kCl [(mm, .inr (5, [.int (nI th), .int (nI dg), .int (nI PT), .int (nI PN), .int (nI n), .ref ma, .ref mb, .ref mc, .ref md, .ref me, .int (nI sz), .ref mf, .int (nI od), .int (nI sl), .int (nI t), .int (nI wr), .int (nI pl), .int (nI lo), .long (lN nm), .int vz, .ref mg, .ref mh]))] H → va_D A [(mm, .inr (5, [.int (nI th), .int (nI dg), .int (nI PT), .int (nI PN), .int (nI n), .ref ma, .ref mb, .ref mc, .ref md, .ref me, .int (nI sz), .ref mf, .int (nI od), .int (nI sl), .int (nI t), .int (nI wr), .int (nI pl), .int (nI lo), .long (lN nm), .int vz, .ref mg, .ref mh]))] → va_S A s.heap H locs → lv_has ls 11 [(0, .ref mm), (1, .long (lN v)), (3, .int (nI y)), (4, .long (lN P)), (6, .long (-lN h))] → W p l e ({ frames := 1, cells := 0, slots := 0, locals := 22 }) s m ([.ref mm, .long (lN v), .int (nI y)] : List Value).toArray below meth c H locs 0 0 (MQ below ((kQi D (kT cI cB cJ cS) (fun r (ug : Unit) => r = nI 0) (fun ug => [(mm, .inr (5, [.int (nI th), .int (nI dg), .int (nI PT), .int (nI PN), .int (nI n), .ref ma, .ref mb, .ref mc, .ref md, .ref me, .int (nI sz), .ref mf, .int (nI od), .int (nI sl), .int (nI t), .int (nI 5), .int (nI y), .int (nI lo), .long (lN nm), .int vz, .ref mg, .ref mh]))])) A) ([.ref mm, .long (lN v), .int (nI y)] : List Value).toArray s ({ frames := 1, cells := 0, slots := 0, locals := 22 } : Room).cells ({ frames := 1, cells := 0, slots := 0, locals := 22 } : Room).slots A) (F0 m 80 ls []) := by
    intro P h H locs ls hP9 hh hP hD hS hl
    have hu9 := uD_ok dg
    have hPl := mP_lt (v := v) (u := uD dg) hu9.2
    rw [← hP9] at hPl
    have hh2 : 1 ≤ h ∧ h ≤ 1075 := by rw [hh]; unfold mH; split <;> omega
    refine lv_lload hx hb dX7_round_80 (lv_at hl 4 rfl) ?_
    refine lv_lconst (v := lN 0) hx hb dX7_round_82 (by decide) ?_
    refine W.lcmp hx hb dX7_round_83 ?_
    refine k_lcmp_le (tgt := 120) hx hb dX7_round_84 (by decide) (fun c325 => ?_) (fun c325 => ?_)
    · skip
      refine lv_lconst (v := lN 0) hx hb dX7_round_120 (by decide) ?_
      refine lv_lstore (lv' := [(8, .long (lN 0)), (0, .ref mm), (1, .long (lN v)), (3, .int (nI y)), (4, .long (lN P)), (6, .long (-lN h))]) hx hb dX7_round_121 hl (by decide) rfl (fun ls hl => ?_)
      refine lv_iconst (v := nI 0) hx hb dX7_round_123 (by decide) ?_
      refine lv_istore (lv' := [(10, .int (nI 0)), (8, .long (lN 0)), (0, .ref mm), (1, .long (lN v)), (3, .int (nI y)), (4, .long (lN P)), (6, .long (-lN h))]) hx hb dX7_round_124 hl (by decide) rfl (fun ls hl => ?_)
      have jp : ∀ (x : Nat) (H : Heap) (locs : List Loc) (ls : Array Slot), (x = rMag v (uD dg)) → va_P D kCl [(mm, .inr (5, [.int (nI th), .int (nI dg), .int (nI PT), .int (nI PN), .int (nI n), .ref ma, .ref mb, .ref mc, .ref md, .ref me, .int (nI sz), .ref mf, .int (nI od), .int (nI sl), .int (nI t), .int (nI wr), .int (nI pl), .int (nI lo), .long (lN nm), .int vz, .ref mg, .ref mh]))] H → va_D A [(mm, .inr (5, [.int (nI th), .int (nI dg), .int (nI PT), .int (nI PN), .int (nI n), .ref ma, .ref mb, .ref mc, .ref md, .ref me, .int (nI sz), .ref mf, .int (nI od), .int (nI sl), .int (nI t), .int (nI wr), .int (nI pl), .int (nI lo), .long (lN nm), .int vz, .ref mg, .ref mh]))] → va_S A s.heap H locs → lv_has ls 11 [(0, .ref mm), (1, .long (lN v)), (3, .int (nI y)), (4, .long (lN x))] → W p l e ({ frames := 1, cells := 0, slots := 0, locals := 22 }) s m ([.ref mm, .long (lN v), .int (nI y)] : List Value).toArray below meth c H locs 0 0 (MQ below ((kQi D (kT cI cB cJ cS) (fun r (ug : Unit) => r = nI 0) (fun ug => [(mm, .inr (5, [.int (nI th), .int (nI dg), .int (nI PT), .int (nI PN), .int (nI n), .ref ma, .ref mb, .ref mc, .ref md, .ref me, .int (nI sz), .ref mf, .int (nI od), .int (nI sl), .int (nI t), .int (nI 5), .int (nI y), .int (nI lo), .long (lN nm), .int vz, .ref mg, .ref mh]))])) A) ([.ref mm, .long (lN v), .int (nI y)] : List Value).toArray s ({ frames := 1, cells := 0, slots := 0, locals := 22 } : Room).cells ({ frames := 1, cells := 0, slots := 0, locals := 22 } : Room).slots A) (F0 m 220 ls []) := by
        intro x H locs ls hx9 hP hD hS hl
        refine lv_lload hx hb dX7_round_220 (lv_at hl 3 rfl) ?_
        refine lv_ldc2 (v := lN 1000000000) hx hb hown (hts (.constantLong RX7 100 (1000000000)) (List.mem_cons_of_mem _ wd_404)) dX7_round_222 ?_
        refine W.lcmp hx hb dX7_round_225 ?_
        refine k_lcmpN_le (tgt := 236) (by rw [hx9]; exact rMag_lt (uD_ok dg).2) (by decide) hx hb dX7_round_226 (by decide) (fun c326 => ?_) (fun c326 => ?_)
        · skip
          exact absurd c326 (by omega)
        · skip
          refine lv_aload_n hx hb dX7_round_229 rfl (lv_at hl 0 rfl) ?_
          refine lv_iconst (v := nI 5) hx hb dX7_round_230 (by decide) ?_
          refine lv_iload_n hx hb dX7_round_231 rfl (lv_at hl 2 rfl) ?_
          refine k_ci (wr := []) (k_rv F (c_M_wrong l D cI cB cJ cS mm ma mb mc md me mf mg mh th dg PT PN n sz od sl t wr pl lo nm b pm pd pq rb ok ol fx vz 5 y) (cwV 2 hts (g_V wd_395 wd_396 wd_397 wd_373 wd_398) rfl rfl rfl (by decide +kernel) ⟨Nat.le_of_ble_eq_true rfl, Nat.le_of_ble_eq_true rfl⟩) hK hP hD hS hA hZ [0] rfl (by decide) 0 rfl rfl rfl rfl hl.1 rfl (Nat.le_of_ble_eq_true rfl) dX7_round_232 ⟨Nat.le_of_ble_eq_true rfl, Nat.le_of_ble_eq_true rfl⟩) hP hD hS hA [0] [] rfl rfl (by decide) (by decide) (fun r u9 H locs hw hP hD hS => ?_)
          subst hw
          have hP : va_P D kCl [(mm, .inr (5, [.int (nI th), .int (nI dg), .int (nI PT), .int (nI PN), .int (nI n), .ref ma, .ref mb, .ref mc, .ref md, .ref me, .int (nI sz), .ref mf, .int (nI od), .int (nI sl), .int (nI t), .int (nI 5), .int (nI y), .int (nI lo), .long (lN nm), .int vz, .ref mg, .ref mh]))] H := hP
          have hD : va_D A [(mm, .inr (5, [.int (nI th), .int (nI dg), .int (nI PT), .int (nI PN), .int (nI n), .ref ma, .ref mb, .ref mc, .ref md, .ref me, .int (nI sz), .ref mf, .int (nI od), .int (nI sl), .int (nI t), .int (nI 5), .int (nI y), .int (nI lo), .long (lN nm), .int vz, .ref mg, .ref mh]))] := hD
          refine W.widen (k := 0) (n := 0) (Nat.le_of_ble_eq_true rfl) (Nat.le_of_ble_eq_true rfl) ?_
          exact k_iret () hx hb hr (by first | rfl | decide | exact vp_nar_int _) hlocks hK hP hD hS (rfl) (rfl) (Nat.le_of_ble_eq_true rfl) (Nat.le_of_ble_eq_true rfl) dX7_round_235
      rw [show lN P = lN (P / 2 ^ 0) from by rw [Nat.pow_zero, Nat.div_one]] at hl
      have loop327 : ∀ (k328 : Nat) (j : Nat) (H : Heap) (locs : List Loc) (ls : Array Slot), h - j < k328 → (j ≤ h) → va_P D kCl [(mm, .inr (5, [.int (nI th), .int (nI dg), .int (nI PT), .int (nI PN), .int (nI n), .ref ma, .ref mb, .ref mc, .ref md, .ref me, .int (nI sz), .ref mf, .int (nI od), .int (nI sl), .int (nI t), .int (nI wr), .int (nI pl), .int (nI lo), .long (lN nm), .int vz, .ref mg, .ref mh]))] H → va_D A [(mm, .inr (5, [.int (nI th), .int (nI dg), .int (nI PT), .int (nI PN), .int (nI n), .ref ma, .ref mb, .ref mc, .ref md, .ref me, .int (nI sz), .ref mf, .int (nI od), .int (nI sl), .int (nI t), .int (nI wr), .int (nI pl), .int (nI lo), .long (lN nm), .int vz, .ref mg, .ref mh]))] → va_S A s.heap H locs → lv_has ls 11 [(0, .ref mm), (1, .long (lN v)), (3, .int (nI y)), (4, .long (lN (P / 2 ^ j))), (6, .long (-lN (h - j))), (8, .long (lN (rl P j))), (10, .int (nI (rm P j)))] → W p l e ({ frames := 1, cells := 0, slots := 0, locals := 22 }) s m ([.ref mm, .long (lN v), .int (nI y)] : List Value).toArray below meth c H locs 0 0 (MQ below ((kQi D (kT cI cB cJ cS) (fun r (ug : Unit) => r = nI 0) (fun ug => [(mm, .inr (5, [.int (nI th), .int (nI dg), .int (nI PT), .int (nI PN), .int (nI n), .ref ma, .ref mb, .ref mc, .ref md, .ref me, .int (nI sz), .ref mf, .int (nI od), .int (nI sl), .int (nI t), .int (nI 5), .int (nI y), .int (nI lo), .long (lN nm), .int vz, .ref mg, .ref mh]))])) A) ([.ref mm, .long (lN v), .int (nI y)] : List Value).toArray s ({ frames := 1, cells := 0, slots := 0, locals := 22 } : Room).cells ({ frames := 1, cells := 0, slots := 0, locals := 22 } : Room).slots A) (F0 m 126 ls []) := by
        intro k328
        induction k328 with
        | zero =>
          intro j H locs ls hk9
          exact absurd hk9 (Nat.not_lt_zero _)
        | succ k328 ihloop327 =>
          intro j H locs ls hk9 hjh hP hD hS hl
          refine lv_lload hx hb dX7_round_126 (lv_at hl 4 rfl) ?_
          have hdj := Nat.div_le_self P (2 ^ j)
          have hrl := rl_le P j
          have hrm := rm_le P j
          refine lv_lconst (v := lN 0) hx hb dX7_round_128 (by decide) ?_
          refine W.lcmp hx hb dX7_round_129 ?_
          refine k_lcmp_ge (tgt := 191) hx hb dX7_round_130 (by decide) (fun hge => ?_) (fun hge => ?_)
          · skip
            have ej : j = h := by have z := (ng_ge (by omega)).mp hge; omega
            refine lv_lload hx hb dX7_round_191 (lv_at hl 5 rfl) ?_
            refine lv_lconst (v := lN 0) hx hb dX7_round_193 (by decide) ?_
            refine W.lcmp hx hb dX7_round_194 ?_
            refine k_lcmpN_le (tgt := 220) (by omega) (by omega) hx hb dX7_round_195 (by decide) (fun c329 => ?_) (fun c329 => ?_)
            · skip
              exact jp (P / 2 ^ j) _ _ _ (by rw [← mr_mag hE hu9.2, ← hP9, ← hh, rd_h (by omega), ← ej, if_neg (by omega), Nat.add_zero]) (hP.sub [0] rfl) (hD.sub [0] (by decide) rfl) hS (lv_sub hl [0, 1, 2, 3] rfl)
            · skip
              refine lv_iload hx hb dX7_round_198 (lv_at hl 6 rfl) ?_
              refine k_if_ne (tgt := 214) (by omega) hx hb dX7_round_200 (by decide) (fun c330 => ?_) (fun c330 => ?_)
              · skip
                refine lv_lload hx hb dX7_round_214 (lv_at hl 3 rfl) ?_
                refine lv_lconst (v := lN 1) hx hb dX7_round_216 (by decide) ?_
                refine lv_ladd hx hb dX7_round_217 ?_
                refine k_l (show _ = lN ((P / 2 ^ j) + 1) from lN_add _ _) ?_
                refine lv_lstore (lv' := [(4, .long (lN ((P / 2 ^ j) + 1))), (0, .ref mm), (1, .long (lN v)), (3, .int (nI y)), (6, .long (-lN (h - j))), (8, .long (lN (rl P j))), (10, .int (nI (rm P j)))]) hx hb dX7_round_218 hl (by decide) rfl (fun ls hl => ?_)
                exact jp ((P / 2 ^ j) + 1) _ _ _ (by rw [← mr_mag hE hu9.2, ← hP9, ← hh, rd_h (by omega), ← ej, if_pos (by omega)]) (hP.sub [0] rfl) (hD.sub [0] (by decide) rfl) hS (lv_sub hl [1, 2, 3, 0] rfl)
              · skip
                refine lv_lload hx hb dX7_round_203 (lv_at hl 3 rfl) ?_
                refine lv_ldc2 (v := lN 2) hx hb hown (hts (.constantLong RX7 102 (2)) (List.mem_cons_of_mem _ wd_408)) dX7_round_205 ?_
                refine lv_lrem hx hb dX7_round_208 (by decide) ?_
                refine k_l (show _ = lN (P / 2 ^ j % 2) from pk_lRem (by omega) (by decide) (by decide)) ?_
                refine lv_lconst (v := lN 1) hx hb dX7_round_209 (by decide) ?_
                refine W.lcmp hx hb dX7_round_210 ?_
                refine k_lcmpN_ne (tgt := 220) (by omega) (by omega) hx hb dX7_round_211 (by decide) (fun c331 => ?_) (fun c331 => ?_)
                · skip
                  exact jp (P / 2 ^ j) _ _ _ (by rw [← mr_mag hE hu9.2, ← hP9, ← hh, rd_h (by omega), ← ej, if_neg (by omega), Nat.add_zero]) (hP.sub [0] rfl) (hD.sub [0] (by decide) rfl) hS (lv_sub hl [0, 1, 2, 3] rfl)
                · skip
                  refine lv_lload hx hb dX7_round_214 (lv_at hl 3 rfl) ?_
                  refine lv_lconst (v := lN 1) hx hb dX7_round_216 (by decide) ?_
                  refine lv_ladd hx hb dX7_round_217 ?_
                  refine k_l (show _ = lN ((P / 2 ^ j) + 1) from lN_add _ _) ?_
                  refine lv_lstore (lv' := [(4, .long (lN ((P / 2 ^ j) + 1))), (0, .ref mm), (1, .long (lN v)), (3, .int (nI y)), (6, .long (-lN (h - j))), (8, .long (lN (rl P j))), (10, .int (nI (rm P j)))]) hx hb dX7_round_218 hl (by decide) rfl (fun ls hl => ?_)
                  exact jp ((P / 2 ^ j) + 1) _ _ _ (by rw [← mr_mag hE hu9.2, ← hP9, ← hh, rd_h (by omega), ← ej, if_pos (by omega)]) (hP.sub [0] rfl) (hD.sub [0] (by decide) rfl) hS (lv_sub hl [1, 2, 3, 0] rfl)
          · skip
            have q9 : ¬ (h - j = 0) := fun z => hge ((ng_ge (by omega)).mpr z)
            refine lv_lload hx hb dX7_round_133 (lv_at hl 3 rfl) ?_
            refine lv_lconst (v := lN 0) hx hb dX7_round_135 (by decide) ?_
            refine W.lcmp hx hb dX7_round_136 ?_
            refine k_lcmpN_gt (tgt := 147) (by omega) (by omega) hx hb dX7_round_137 (by decide) (fun hv0 => ?_) (fun hv0 => ?_)
            · skip
              refine lv_iload hx hb dX7_round_147 (lv_at hl 6 rfl) ?_
              refine k_if_ne (tgt := 159) (by omega) hx hb dX7_round_149 (by decide) (fun hm1 => ?_) (fun hm1 => ?_)
              · skip
                refine lv_iconst (v := nI 1) hx hb dX7_round_159 (by decide) ?_
                refine lv_goto (tgt := 164) hx hb dX7_round_160 (by decide) ?_
                refine k_i (show _ = nI (rm P (j + 1)) from congrArg nI (rm_s1 (by omega))) ?_
                refine lv_istore (lv' := [(10, .int (nI (rm P (j + 1)))), (0, .ref mm), (1, .long (lN v)), (3, .int (nI y)), (4, .long (lN (P / 2 ^ j))), (6, .long (-lN (h - j))), (8, .long (lN (rl P j)))]) hx hb dX7_round_164 hl (by decide) rfl (fun ls hl => ?_)
                refine lv_lload hx hb dX7_round_166 (lv_at hl 4 rfl) ?_
                refine lv_ldc2 (v := lN 2) hx hb hown (hts (.constantLong RX7 102 (2)) (List.mem_cons_of_mem _ wd_408)) dX7_round_168 ?_
                refine lv_lrem hx hb dX7_round_171 (by decide) ?_
                refine k_l (show _ = lN (P / 2 ^ j % 2) from pk_lRem (by omega) (by decide) (by decide)) ?_
                refine k_l (show _ = lN (rl P (j + 1)) from congrArg lN (rl_s P j)) ?_
                refine lv_lstore (lv' := [(8, .long (lN (rl P (j + 1)))), (10, .int (nI (rm P (j + 1)))), (0, .ref mm), (1, .long (lN v)), (3, .int (nI y)), (4, .long (lN (P / 2 ^ j))), (6, .long (-lN (h - j)))]) hx hb dX7_round_172 hl (by decide) rfl (fun ls hl => ?_)
                refine lv_lload hx hb dX7_round_174 (lv_at hl 5 rfl) ?_
                refine lv_ldc2 (v := lN 2) hx hb hown (hts (.constantLong RX7 102 (2)) (List.mem_cons_of_mem _ wd_408)) dX7_round_176 ?_
                refine lv_ldiv hx hb dX7_round_179 (by decide) ?_
                refine k_l (show _ = lN (P / 2 ^ j / 2) from pk_lDiv (by omega) (by decide) (by decide)) ?_
                refine k_l (show _ = lN (P / 2 ^ (j + 1)) from congrArg lN (dv_s P j)) ?_
                refine lv_lstore (lv' := [(4, .long (lN (P / 2 ^ (j + 1)))), (8, .long (lN (rl P (j + 1)))), (10, .int (nI (rm P (j + 1)))), (0, .ref mm), (1, .long (lN v)), (3, .int (nI y)), (6, .long (-lN (h - j)))]) hx hb dX7_round_180 hl (by decide) rfl (fun ls hl => ?_)
                refine lv_lload hx hb dX7_round_182 (lv_at hl 6 rfl) ?_
                refine lv_lconst (v := lN 1) hx hb dX7_round_184 (by decide) ?_
                refine lv_ladd hx hb dX7_round_185 ?_
                refine k_l (show _ = -lN (h - (j + 1)) from by rw [ng_inc (by omega) (by omega), Nat.sub_sub]) ?_
                refine lv_lstore (lv' := [(6, .long (-lN (h - (j + 1)))), (4, .long (lN (P / 2 ^ (j + 1)))), (8, .long (lN (rl P (j + 1)))), (10, .int (nI (rm P (j + 1)))), (0, .ref mm), (1, .long (lN v)), (3, .int (nI y))]) hx hb dX7_round_186 hl (by decide) rfl (fun ls hl => ?_)
                refine lv_goto (tgt := 126) hx hb dX7_round_188 (by decide) ?_
                exact ihloop327 (j + 1) _ _ _ (by omega) (by omega) (hP.sub [0] rfl) (hD.sub [0] (by decide) rfl) hS (lv_sub hl [4, 5, 6, 1, 0, 2, 3] rfl)
              · skip
                refine lv_lload hx hb dX7_round_152 (lv_at hl 5 rfl) ?_
                refine lv_lconst (v := lN 0) hx hb dX7_round_154 (by decide) ?_
                refine W.lcmp hx hb dX7_round_155 ?_
                refine k_lcmpN_le (tgt := 163) (by omega) (by omega) hx hb dX7_round_156 (by decide) (fun hl2 => ?_) (fun hl2 => ?_)
                · skip
                  refine lv_iconst (v := nI 0) hx hb dX7_round_163 (by decide) ?_
                  refine k_i (show _ = nI (rm P (j + 1)) from congrArg nI (rm_s0 (by omega) (by omega))) ?_
                  refine lv_istore (lv' := [(10, .int (nI (rm P (j + 1)))), (0, .ref mm), (1, .long (lN v)), (3, .int (nI y)), (4, .long (lN (P / 2 ^ j))), (6, .long (-lN (h - j))), (8, .long (lN (rl P j)))]) hx hb dX7_round_164 hl (by decide) rfl (fun ls hl => ?_)
                  refine lv_lload hx hb dX7_round_166 (lv_at hl 4 rfl) ?_
                  refine lv_ldc2 (v := lN 2) hx hb hown (hts (.constantLong RX7 102 (2)) (List.mem_cons_of_mem _ wd_408)) dX7_round_168 ?_
                  refine lv_lrem hx hb dX7_round_171 (by decide) ?_
                  refine k_l (show _ = lN (P / 2 ^ j % 2) from pk_lRem (by omega) (by decide) (by decide)) ?_
                  refine k_l (show _ = lN (rl P (j + 1)) from congrArg lN (rl_s P j)) ?_
                  refine lv_lstore (lv' := [(8, .long (lN (rl P (j + 1)))), (10, .int (nI (rm P (j + 1)))), (0, .ref mm), (1, .long (lN v)), (3, .int (nI y)), (4, .long (lN (P / 2 ^ j))), (6, .long (-lN (h - j)))]) hx hb dX7_round_172 hl (by decide) rfl (fun ls hl => ?_)
                  refine lv_lload hx hb dX7_round_174 (lv_at hl 5 rfl) ?_
                  refine lv_ldc2 (v := lN 2) hx hb hown (hts (.constantLong RX7 102 (2)) (List.mem_cons_of_mem _ wd_408)) dX7_round_176 ?_
                  refine lv_ldiv hx hb dX7_round_179 (by decide) ?_
                  refine k_l (show _ = lN (P / 2 ^ j / 2) from pk_lDiv (by omega) (by decide) (by decide)) ?_
                  refine k_l (show _ = lN (P / 2 ^ (j + 1)) from congrArg lN (dv_s P j)) ?_
                  refine lv_lstore (lv' := [(4, .long (lN (P / 2 ^ (j + 1)))), (8, .long (lN (rl P (j + 1)))), (10, .int (nI (rm P (j + 1)))), (0, .ref mm), (1, .long (lN v)), (3, .int (nI y)), (6, .long (-lN (h - j)))]) hx hb dX7_round_180 hl (by decide) rfl (fun ls hl => ?_)
                  refine lv_lload hx hb dX7_round_182 (lv_at hl 6 rfl) ?_
                  refine lv_lconst (v := lN 1) hx hb dX7_round_184 (by decide) ?_
                  refine lv_ladd hx hb dX7_round_185 ?_
                  refine k_l (show _ = -lN (h - (j + 1)) from by rw [ng_inc (by omega) (by omega), Nat.sub_sub]) ?_
                  refine lv_lstore (lv' := [(6, .long (-lN (h - (j + 1)))), (4, .long (lN (P / 2 ^ (j + 1)))), (8, .long (lN (rl P (j + 1)))), (10, .int (nI (rm P (j + 1)))), (0, .ref mm), (1, .long (lN v)), (3, .int (nI y))]) hx hb dX7_round_186 hl (by decide) rfl (fun ls hl => ?_)
                  refine lv_goto (tgt := 126) hx hb dX7_round_188 (by decide) ?_
                  exact ihloop327 (j + 1) _ _ _ (by omega) (by omega) (hP.sub [0] rfl) (hD.sub [0] (by decide) rfl) hS (lv_sub hl [4, 5, 6, 1, 0, 2, 3] rfl)
                · skip
                  refine lv_iconst (v := nI 1) hx hb dX7_round_159 (by decide) ?_
                  refine lv_goto (tgt := 164) hx hb dX7_round_160 (by decide) ?_
                  refine k_i (show _ = nI (rm P (j + 1)) from congrArg nI (rm_s1 (by omega))) ?_
                  refine lv_istore (lv' := [(10, .int (nI (rm P (j + 1)))), (0, .ref mm), (1, .long (lN v)), (3, .int (nI y)), (4, .long (lN (P / 2 ^ j))), (6, .long (-lN (h - j))), (8, .long (lN (rl P j)))]) hx hb dX7_round_164 hl (by decide) rfl (fun ls hl => ?_)
                  refine lv_lload hx hb dX7_round_166 (lv_at hl 4 rfl) ?_
                  refine lv_ldc2 (v := lN 2) hx hb hown (hts (.constantLong RX7 102 (2)) (List.mem_cons_of_mem _ wd_408)) dX7_round_168 ?_
                  refine lv_lrem hx hb dX7_round_171 (by decide) ?_
                  refine k_l (show _ = lN (P / 2 ^ j % 2) from pk_lRem (by omega) (by decide) (by decide)) ?_
                  refine k_l (show _ = lN (rl P (j + 1)) from congrArg lN (rl_s P j)) ?_
                  refine lv_lstore (lv' := [(8, .long (lN (rl P (j + 1)))), (10, .int (nI (rm P (j + 1)))), (0, .ref mm), (1, .long (lN v)), (3, .int (nI y)), (4, .long (lN (P / 2 ^ j))), (6, .long (-lN (h - j)))]) hx hb dX7_round_172 hl (by decide) rfl (fun ls hl => ?_)
                  refine lv_lload hx hb dX7_round_174 (lv_at hl 5 rfl) ?_
                  refine lv_ldc2 (v := lN 2) hx hb hown (hts (.constantLong RX7 102 (2)) (List.mem_cons_of_mem _ wd_408)) dX7_round_176 ?_
                  refine lv_ldiv hx hb dX7_round_179 (by decide) ?_
                  refine k_l (show _ = lN (P / 2 ^ j / 2) from pk_lDiv (by omega) (by decide) (by decide)) ?_
                  refine k_l (show _ = lN (P / 2 ^ (j + 1)) from congrArg lN (dv_s P j)) ?_
                  refine lv_lstore (lv' := [(4, .long (lN (P / 2 ^ (j + 1)))), (8, .long (lN (rl P (j + 1)))), (10, .int (nI (rm P (j + 1)))), (0, .ref mm), (1, .long (lN v)), (3, .int (nI y)), (6, .long (-lN (h - j)))]) hx hb dX7_round_180 hl (by decide) rfl (fun ls hl => ?_)
                  refine lv_lload hx hb dX7_round_182 (lv_at hl 6 rfl) ?_
                  refine lv_lconst (v := lN 1) hx hb dX7_round_184 (by decide) ?_
                  refine lv_ladd hx hb dX7_round_185 ?_
                  refine k_l (show _ = -lN (h - (j + 1)) from by rw [ng_inc (by omega) (by omega), Nat.sub_sub]) ?_
                  refine lv_lstore (lv' := [(6, .long (-lN (h - (j + 1)))), (4, .long (lN (P / 2 ^ (j + 1)))), (8, .long (lN (rl P (j + 1)))), (10, .int (nI (rm P (j + 1)))), (0, .ref mm), (1, .long (lN v)), (3, .int (nI y))]) hx hb dX7_round_186 hl (by decide) rfl (fun ls hl => ?_)
                  refine lv_goto (tgt := 126) hx hb dX7_round_188 (by decide) ?_
                  exact ihloop327 (j + 1) _ _ _ (by omega) (by omega) (hP.sub [0] rfl) (hD.sub [0] (by decide) rfl) hS (lv_sub hl [4, 5, 6, 1, 0, 2, 3] rfl)
            · skip
              refine lv_lload hx hb dX7_round_140 (lv_at hl 5 rfl) ?_
              refine lv_lconst (v := lN 0) hx hb dX7_round_142 (by decide) ?_
              refine W.lcmp hx hb dX7_round_143 ?_
              refine k_lcmpN_le (tgt := 191) (by omega) (by omega) hx hb dX7_round_144 (by decide) (fun hl1 => ?_) (fun hl1 => ?_)
              · skip
                refine lv_lload hx hb dX7_round_191 (lv_at hl 5 rfl) ?_
                refine lv_lconst (v := lN 0) hx hb dX7_round_193 (by decide) ?_
                refine W.lcmp hx hb dX7_round_194 ?_
                refine k_lcmpN_le (tgt := 220) (by omega) (by omega) hx hb dX7_round_195 (by decide) (fun c332 => ?_) (fun c332 => ?_)
                · skip
                  exact jp (P / 2 ^ j) _ _ _ (by rw [← mr_mag hE hu9.2, ← hP9, ← hh, rd_0 (j := j) (by omega) (by omega) (Nat.le_zero.mp hv0) hl1]; exact Nat.le_zero.mp hv0) (hP.sub [0] rfl) (hD.sub [0] (by decide) rfl) hS (lv_sub hl [0, 1, 2, 3] rfl)
                · skip
                  exact absurd c332 (by omega)
              · skip
                refine lv_iload hx hb dX7_round_147 (lv_at hl 6 rfl) ?_
                refine k_if_ne (tgt := 159) (by omega) hx hb dX7_round_149 (by decide) (fun hm1 => ?_) (fun hm1 => ?_)
                · skip
                  refine lv_iconst (v := nI 1) hx hb dX7_round_159 (by decide) ?_
                  refine lv_goto (tgt := 164) hx hb dX7_round_160 (by decide) ?_
                  refine k_i (show _ = nI (rm P (j + 1)) from congrArg nI (rm_s1 (by omega))) ?_
                  refine lv_istore (lv' := [(10, .int (nI (rm P (j + 1)))), (0, .ref mm), (1, .long (lN v)), (3, .int (nI y)), (4, .long (lN (P / 2 ^ j))), (6, .long (-lN (h - j))), (8, .long (lN (rl P j)))]) hx hb dX7_round_164 hl (by decide) rfl (fun ls hl => ?_)
                  refine lv_lload hx hb dX7_round_166 (lv_at hl 4 rfl) ?_
                  refine lv_ldc2 (v := lN 2) hx hb hown (hts (.constantLong RX7 102 (2)) (List.mem_cons_of_mem _ wd_408)) dX7_round_168 ?_
                  refine lv_lrem hx hb dX7_round_171 (by decide) ?_
                  refine k_l (show _ = lN (P / 2 ^ j % 2) from pk_lRem (by omega) (by decide) (by decide)) ?_
                  refine k_l (show _ = lN (rl P (j + 1)) from congrArg lN (rl_s P j)) ?_
                  refine lv_lstore (lv' := [(8, .long (lN (rl P (j + 1)))), (10, .int (nI (rm P (j + 1)))), (0, .ref mm), (1, .long (lN v)), (3, .int (nI y)), (4, .long (lN (P / 2 ^ j))), (6, .long (-lN (h - j)))]) hx hb dX7_round_172 hl (by decide) rfl (fun ls hl => ?_)
                  refine lv_lload hx hb dX7_round_174 (lv_at hl 5 rfl) ?_
                  refine lv_ldc2 (v := lN 2) hx hb hown (hts (.constantLong RX7 102 (2)) (List.mem_cons_of_mem _ wd_408)) dX7_round_176 ?_
                  refine lv_ldiv hx hb dX7_round_179 (by decide) ?_
                  refine k_l (show _ = lN (P / 2 ^ j / 2) from pk_lDiv (by omega) (by decide) (by decide)) ?_
                  refine k_l (show _ = lN (P / 2 ^ (j + 1)) from congrArg lN (dv_s P j)) ?_
                  refine lv_lstore (lv' := [(4, .long (lN (P / 2 ^ (j + 1)))), (8, .long (lN (rl P (j + 1)))), (10, .int (nI (rm P (j + 1)))), (0, .ref mm), (1, .long (lN v)), (3, .int (nI y)), (6, .long (-lN (h - j)))]) hx hb dX7_round_180 hl (by decide) rfl (fun ls hl => ?_)
                  refine lv_lload hx hb dX7_round_182 (lv_at hl 6 rfl) ?_
                  refine lv_lconst (v := lN 1) hx hb dX7_round_184 (by decide) ?_
                  refine lv_ladd hx hb dX7_round_185 ?_
                  refine k_l (show _ = -lN (h - (j + 1)) from by rw [ng_inc (by omega) (by omega), Nat.sub_sub]) ?_
                  refine lv_lstore (lv' := [(6, .long (-lN (h - (j + 1)))), (4, .long (lN (P / 2 ^ (j + 1)))), (8, .long (lN (rl P (j + 1)))), (10, .int (nI (rm P (j + 1)))), (0, .ref mm), (1, .long (lN v)), (3, .int (nI y))]) hx hb dX7_round_186 hl (by decide) rfl (fun ls hl => ?_)
                  refine lv_goto (tgt := 126) hx hb dX7_round_188 (by decide) ?_
                  exact ihloop327 (j + 1) _ _ _ (by omega) (by omega) (hP.sub [0] rfl) (hD.sub [0] (by decide) rfl) hS (lv_sub hl [4, 5, 6, 1, 0, 2, 3] rfl)
                · skip
                  refine lv_lload hx hb dX7_round_152 (lv_at hl 5 rfl) ?_
                  refine lv_lconst (v := lN 0) hx hb dX7_round_154 (by decide) ?_
                  refine W.lcmp hx hb dX7_round_155 ?_
                  refine k_lcmpN_le (tgt := 163) (by omega) (by omega) hx hb dX7_round_156 (by decide) (fun hl2 => ?_) (fun hl2 => ?_)
                  · skip
                    refine lv_iconst (v := nI 0) hx hb dX7_round_163 (by decide) ?_
                    refine k_i (show _ = nI (rm P (j + 1)) from congrArg nI (rm_s0 (by omega) (by omega))) ?_
                    refine lv_istore (lv' := [(10, .int (nI (rm P (j + 1)))), (0, .ref mm), (1, .long (lN v)), (3, .int (nI y)), (4, .long (lN (P / 2 ^ j))), (6, .long (-lN (h - j))), (8, .long (lN (rl P j)))]) hx hb dX7_round_164 hl (by decide) rfl (fun ls hl => ?_)
                    refine lv_lload hx hb dX7_round_166 (lv_at hl 4 rfl) ?_
                    refine lv_ldc2 (v := lN 2) hx hb hown (hts (.constantLong RX7 102 (2)) (List.mem_cons_of_mem _ wd_408)) dX7_round_168 ?_
                    refine lv_lrem hx hb dX7_round_171 (by decide) ?_
                    refine k_l (show _ = lN (P / 2 ^ j % 2) from pk_lRem (by omega) (by decide) (by decide)) ?_
                    refine k_l (show _ = lN (rl P (j + 1)) from congrArg lN (rl_s P j)) ?_
                    refine lv_lstore (lv' := [(8, .long (lN (rl P (j + 1)))), (10, .int (nI (rm P (j + 1)))), (0, .ref mm), (1, .long (lN v)), (3, .int (nI y)), (4, .long (lN (P / 2 ^ j))), (6, .long (-lN (h - j)))]) hx hb dX7_round_172 hl (by decide) rfl (fun ls hl => ?_)
                    refine lv_lload hx hb dX7_round_174 (lv_at hl 5 rfl) ?_
                    refine lv_ldc2 (v := lN 2) hx hb hown (hts (.constantLong RX7 102 (2)) (List.mem_cons_of_mem _ wd_408)) dX7_round_176 ?_
                    refine lv_ldiv hx hb dX7_round_179 (by decide) ?_
                    refine k_l (show _ = lN (P / 2 ^ j / 2) from pk_lDiv (by omega) (by decide) (by decide)) ?_
                    refine k_l (show _ = lN (P / 2 ^ (j + 1)) from congrArg lN (dv_s P j)) ?_
                    refine lv_lstore (lv' := [(4, .long (lN (P / 2 ^ (j + 1)))), (8, .long (lN (rl P (j + 1)))), (10, .int (nI (rm P (j + 1)))), (0, .ref mm), (1, .long (lN v)), (3, .int (nI y)), (6, .long (-lN (h - j)))]) hx hb dX7_round_180 hl (by decide) rfl (fun ls hl => ?_)
                    refine lv_lload hx hb dX7_round_182 (lv_at hl 6 rfl) ?_
                    refine lv_lconst (v := lN 1) hx hb dX7_round_184 (by decide) ?_
                    refine lv_ladd hx hb dX7_round_185 ?_
                    refine k_l (show _ = -lN (h - (j + 1)) from by rw [ng_inc (by omega) (by omega), Nat.sub_sub]) ?_
                    refine lv_lstore (lv' := [(6, .long (-lN (h - (j + 1)))), (4, .long (lN (P / 2 ^ (j + 1)))), (8, .long (lN (rl P (j + 1)))), (10, .int (nI (rm P (j + 1)))), (0, .ref mm), (1, .long (lN v)), (3, .int (nI y))]) hx hb dX7_round_186 hl (by decide) rfl (fun ls hl => ?_)
                    refine lv_goto (tgt := 126) hx hb dX7_round_188 (by decide) ?_
                    exact ihloop327 (j + 1) _ _ _ (by omega) (by omega) (hP.sub [0] rfl) (hD.sub [0] (by decide) rfl) hS (lv_sub hl [4, 5, 6, 1, 0, 2, 3] rfl)
                  · skip
                    refine lv_iconst (v := nI 1) hx hb dX7_round_159 (by decide) ?_
                    refine lv_goto (tgt := 164) hx hb dX7_round_160 (by decide) ?_
                    refine k_i (show _ = nI (rm P (j + 1)) from congrArg nI (rm_s1 (by omega))) ?_
                    refine lv_istore (lv' := [(10, .int (nI (rm P (j + 1)))), (0, .ref mm), (1, .long (lN v)), (3, .int (nI y)), (4, .long (lN (P / 2 ^ j))), (6, .long (-lN (h - j))), (8, .long (lN (rl P j)))]) hx hb dX7_round_164 hl (by decide) rfl (fun ls hl => ?_)
                    refine lv_lload hx hb dX7_round_166 (lv_at hl 4 rfl) ?_
                    refine lv_ldc2 (v := lN 2) hx hb hown (hts (.constantLong RX7 102 (2)) (List.mem_cons_of_mem _ wd_408)) dX7_round_168 ?_
                    refine lv_lrem hx hb dX7_round_171 (by decide) ?_
                    refine k_l (show _ = lN (P / 2 ^ j % 2) from pk_lRem (by omega) (by decide) (by decide)) ?_
                    refine k_l (show _ = lN (rl P (j + 1)) from congrArg lN (rl_s P j)) ?_
                    refine lv_lstore (lv' := [(8, .long (lN (rl P (j + 1)))), (10, .int (nI (rm P (j + 1)))), (0, .ref mm), (1, .long (lN v)), (3, .int (nI y)), (4, .long (lN (P / 2 ^ j))), (6, .long (-lN (h - j)))]) hx hb dX7_round_172 hl (by decide) rfl (fun ls hl => ?_)
                    refine lv_lload hx hb dX7_round_174 (lv_at hl 5 rfl) ?_
                    refine lv_ldc2 (v := lN 2) hx hb hown (hts (.constantLong RX7 102 (2)) (List.mem_cons_of_mem _ wd_408)) dX7_round_176 ?_
                    refine lv_ldiv hx hb dX7_round_179 (by decide) ?_
                    refine k_l (show _ = lN (P / 2 ^ j / 2) from pk_lDiv (by omega) (by decide) (by decide)) ?_
                    refine k_l (show _ = lN (P / 2 ^ (j + 1)) from congrArg lN (dv_s P j)) ?_
                    refine lv_lstore (lv' := [(4, .long (lN (P / 2 ^ (j + 1)))), (8, .long (lN (rl P (j + 1)))), (10, .int (nI (rm P (j + 1)))), (0, .ref mm), (1, .long (lN v)), (3, .int (nI y)), (6, .long (-lN (h - j)))]) hx hb dX7_round_180 hl (by decide) rfl (fun ls hl => ?_)
                    refine lv_lload hx hb dX7_round_182 (lv_at hl 6 rfl) ?_
                    refine lv_lconst (v := lN 1) hx hb dX7_round_184 (by decide) ?_
                    refine lv_ladd hx hb dX7_round_185 ?_
                    refine k_l (show _ = -lN (h - (j + 1)) from by rw [ng_inc (by omega) (by omega), Nat.sub_sub]) ?_
                    refine lv_lstore (lv' := [(6, .long (-lN (h - (j + 1)))), (4, .long (lN (P / 2 ^ (j + 1)))), (8, .long (lN (rl P (j + 1)))), (10, .int (nI (rm P (j + 1)))), (0, .ref mm), (1, .long (lN v)), (3, .int (nI y))]) hx hb dX7_round_186 hl (by decide) rfl (fun ls hl => ?_)
                    refine lv_goto (tgt := 126) hx hb dX7_round_188 (by decide) ?_
                    exact ihloop327 (j + 1) _ _ _ (by omega) (by omega) (hP.sub [0] rfl) (hD.sub [0] (by decide) rfl) hS (lv_sub hl [4, 5, 6, 1, 0, 2, 3] rfl)
      exact loop327 ((h - 0) + 1) 0 _ _ _ (Nat.lt_succ_self _) (Nat.zero_le _) (hP.sub [0] rfl) (hD.sub [0] (by decide) rfl) hS (lv_sub hl [2, 3, 4, 5, 6, 1, 0] rfl)
    · skip
      exact absurd c325 (fun q => q (Int64.not_lt.mp (ng_gt (by omega))))
  refine lv_lload_n hx hb dX7_round_0 rfl (lv_at hl 1 rfl) ?_
  refine k_cl (wr := [(mm, .inr (5, [.int (nI th), .int (nI dg), .int (nI PT), .int (nI PN), .int (nI n), .ref ma, .ref mb, .ref mc, .ref md, .ref me, .int (nI sz), .ref mf, .int (nI od), .int (nI sl), .int (nI t), .int (nI wr), .int (nI pl), .int (nI lo), .long (lN nm), .int vz, .ref mg, .ref mh]))]) (k_rs F (c_M_exponent l D cI cB cJ cS v hv) (va_cwS 1 hts (g_S wd_384 wd_385 wd_373 wd_386) rfl rfl rfl (by decide +kernel) ⟨Nat.le_of_ble_eq_true rfl, Nat.le_of_ble_eq_true rfl⟩) hK hP hD hS hA hZ [] rfl (by decide) rfl hl.1 rfl (Nat.le_of_ble_eq_true rfl) dX7_round_1 ⟨Nat.le_of_ble_eq_true rfl, Nat.le_of_ble_eq_true rfl⟩) hP hD hS hA [] [0] rfl rfl (by decide) (by decide) (fun r u9 H locs hw hP hD hS => ?_)
  subst hw
  have hP : va_P D kCl [(mm, .inr (5, [.int (nI th), .int (nI dg), .int (nI PT), .int (nI PN), .int (nI n), .ref ma, .ref mb, .ref mc, .ref md, .ref me, .int (nI sz), .ref mf, .int (nI od), .int (nI sl), .int (nI t), .int (nI wr), .int (nI pl), .int (nI lo), .long (lN nm), .int vz, .ref mg, .ref mh]))] H := hP
  have hD : va_D A [(mm, .inr (5, [.int (nI th), .int (nI dg), .int (nI PT), .int (nI PN), .int (nI n), .ref ma, .ref mb, .ref mc, .ref md, .ref me, .int (nI sz), .ref mf, .int (nI od), .int (nI sl), .int (nI t), .int (nI wr), .int (nI pl), .int (nI lo), .long (lN nm), .int vz, .ref mg, .ref mh]))] := hD
  refine W.widen (k := 0) (n := 0) (Nat.le_of_ble_eq_true rfl) (Nat.le_of_ble_eq_true rfl) ?_
  refine lv_ldc2 (v := lN 2047) hx hb hown (hts (.constantLong RX7 83 (2047)) (List.mem_cons_of_mem _ wd_382)) dX7_round_4 ?_
  refine W.lcmp hx hb dX7_round_7 ?_
  have hE0 := rE_lt (v := v)
  refine k_lcmpN_ne (tgt := 18) (by omega) (by omega) hx hb dX7_round_8 (by decide) (fun c333 => ?_) (fun c333 => ?_)
  · skip
    refine lv_lload_n hx hb dX7_round_18 rfl (lv_at hl 1 rfl) ?_
    refine lv_ldc2 (v := lN 4503599627370495) hx hb hown (hts (.constantLong RX7 89 (4503599627370495)) (List.mem_cons_of_mem _ wd_383)) dX7_round_19 ?_
    refine lv_land hx hb dX7_round_22 ?_
    refine k_l (show _ = lN (v % 4503599627370496) from g_mask (s := 52) (p := 4503599627370496) rfl (by decide) hv) ?_
    refine lv_lload_n hx hb dX7_round_23 rfl (lv_at hl 1 rfl) ?_
    refine k_cl (wr := [(mm, .inr (5, [.int (nI th), .int (nI dg), .int (nI PT), .int (nI PN), .int (nI n), .ref ma, .ref mb, .ref mc, .ref md, .ref me, .int (nI sz), .ref mf, .int (nI od), .int (nI sl), .int (nI t), .int (nI wr), .int (nI pl), .int (nI lo), .long (lN nm), .int vz, .ref mg, .ref mh]))]) (k_rs F (c_M_exponent l D cI cB cJ cS v hv) (va_cwS 1 hts (g_S wd_384 wd_385 wd_373 wd_386) rfl rfl rfl (by decide +kernel) ⟨Nat.le_of_ble_eq_true rfl, Nat.le_of_ble_eq_true rfl⟩) hK hP hD hS hA hZ [] rfl (by decide) rfl hl.1 rfl (Nat.le_of_ble_eq_true rfl) dX7_round_24 ⟨Nat.le_of_ble_eq_true rfl, Nat.le_of_ble_eq_true rfl⟩) hP hD hS hA [] [0] rfl rfl (by decide) (by decide) (fun r u9 H locs hw hP hD hS => ?_)
    subst hw
    have hP : va_P D kCl [(mm, .inr (5, [.int (nI th), .int (nI dg), .int (nI PT), .int (nI PN), .int (nI n), .ref ma, .ref mb, .ref mc, .ref md, .ref me, .int (nI sz), .ref mf, .int (nI od), .int (nI sl), .int (nI t), .int (nI wr), .int (nI pl), .int (nI lo), .long (lN nm), .int vz, .ref mg, .ref mh]))] H := hP
    have hD : va_D A [(mm, .inr (5, [.int (nI th), .int (nI dg), .int (nI PT), .int (nI PN), .int (nI n), .ref ma, .ref mb, .ref mc, .ref md, .ref me, .int (nI sz), .ref mf, .int (nI od), .int (nI sl), .int (nI t), .int (nI wr), .int (nI pl), .int (nI lo), .long (lN nm), .int vz, .ref mg, .ref mh]))] := hD
    refine W.widen (k := 0) (n := 0) (Nat.le_of_ble_eq_true rfl) (Nat.le_of_ble_eq_true rfl) ?_
    refine lv_lconst (v := lN 0) hx hb dX7_round_27 (by decide) ?_
    refine W.lcmp hx hb dX7_round_28 ?_
    refine k_lcmpN_le (tgt := 38) (by omega) (by omega) hx hb dX7_round_29 (by decide) (fun c334 => ?_) (fun c334 => ?_)
    · skip
      refine lv_lconst (v := lN 0) hx hb dX7_round_38 (by decide) ?_
      refine lv_ladd hx hb dX7_round_39 ?_
      refine k_l (show _ = lN ((v % 4503599627370496) + 0) from lN_add _ _) ?_
      refine lv_lstore (lv' := [(4, .long (lN ((v % 4503599627370496) + 0))), (0, .ref mm), (1, .long (lN v)), (3, .int (nI y))]) hx hb dX7_round_40 hl (by decide) rfl (fun ls hl => ?_)
      refine lv_lload hx hb dX7_round_42 (lv_at hl 0 rfl) ?_
      refine lv_aload_n hx hb dX7_round_44 rfl (lv_at hl 1 rfl) ?_
      refine va_get (D := D) (ci := 5) (v := .int (nI dg)) (C := RX7) (T := TX7) (N := 22) hx hb hts inX7 hown hK hP 0 rfl rfl 1 (by decide) (hts (.fieldLink RX7 38 "ByteShapesModel" "digits" "I") (List.mem_cons_of_mem _ wd_402)) (fun _ h9 => h9) rfl dX7_round_45 ?_
      refine k_ci (wr := [(mm, .inr (5, [.int (nI th), .int (nI dg), .int (nI PT), .int (nI PN), .int (nI n), .ref ma, .ref mb, .ref mc, .ref md, .ref me, .int (nI sz), .ref mf, .int (nI od), .int (nI sl), .int (nI t), .int (nI wr), .int (nI pl), .int (nI lo), .long (lN nm), .int vz, .ref mg, .ref mh]))]) (k_rs F (c_M_units l D cI cB cJ cS dg hdg) (va_cwS 1 hts (g_S wd_405 wd_406 wd_373 wd_407) rfl rfl rfl (by decide +kernel) ⟨Nat.le_of_ble_eq_true rfl, Nat.le_of_ble_eq_true rfl⟩) hK hP hD hS hA hZ [] rfl (by decide) rfl hl.1 rfl (Nat.le_of_ble_eq_true rfl) dX7_round_48 ⟨Nat.le_of_ble_eq_true rfl, Nat.le_of_ble_eq_true rfl⟩) hP hD hS hA [] [0] rfl rfl (by decide) (by decide) (fun r u9 H locs hw hP hD hS => ?_)
      subst hw
      have hP : va_P D kCl [(mm, .inr (5, [.int (nI th), .int (nI dg), .int (nI PT), .int (nI PN), .int (nI n), .ref ma, .ref mb, .ref mc, .ref md, .ref me, .int (nI sz), .ref mf, .int (nI od), .int (nI sl), .int (nI t), .int (nI wr), .int (nI pl), .int (nI lo), .long (lN nm), .int vz, .ref mg, .ref mh]))] H := hP
      have hD : va_D A [(mm, .inr (5, [.int (nI th), .int (nI dg), .int (nI PT), .int (nI PN), .int (nI n), .ref ma, .ref mb, .ref mc, .ref md, .ref me, .int (nI sz), .ref mf, .int (nI od), .int (nI sl), .int (nI t), .int (nI wr), .int (nI pl), .int (nI lo), .long (lN nm), .int vz, .ref mg, .ref mh]))] := hD
      refine W.widen (k := 0) (n := 0) (Nat.le_of_ble_eq_true rfl) (Nat.le_of_ble_eq_true rfl) ?_
      refine lv_i2l (v := lN (uD dg)) hx hb dX7_round_51 (nI_l (by have := uD_ok dg; omega)) ?_
      refine lv_lmul hx hb dX7_round_52 ?_
      obtain ⟨P, hP9⟩ : ∃ z, z = mP v (uD dg) := ⟨_, rfl⟩
      have hu9 := uD_ok dg
      have hPl := mP_lt (v := v) (u := uD dg) hu9.2
      rw [← hP9] at hPl
      refine k_l (show _ = lN P from by rw [hP9, lN_mul]; unfold mP; rw [if_neg (by omega)]) ?_
      refine lv_lstore (lv' := [(4, .long (lN P)), (0, .ref mm), (1, .long (lN v)), (3, .int (nI y))]) hx hb dX7_round_53 hl (by decide) rfl (fun ls hl => ?_)
      refine lv_lload_n hx hb dX7_round_55 rfl (lv_at hl 2 rfl) ?_
      refine k_cl (wr := [(mm, .inr (5, [.int (nI th), .int (nI dg), .int (nI PT), .int (nI PN), .int (nI n), .ref ma, .ref mb, .ref mc, .ref md, .ref me, .int (nI sz), .ref mf, .int (nI od), .int (nI sl), .int (nI t), .int (nI wr), .int (nI pl), .int (nI lo), .long (lN nm), .int vz, .ref mg, .ref mh]))]) (k_rs F (c_M_exponent l D cI cB cJ cS v hv) (va_cwS 1 hts (g_S wd_384 wd_385 wd_373 wd_386) rfl rfl rfl (by decide +kernel) ⟨Nat.le_of_ble_eq_true rfl, Nat.le_of_ble_eq_true rfl⟩) hK hP hD hS hA hZ [] rfl (by decide) rfl hl.1 rfl (Nat.le_of_ble_eq_true rfl) dX7_round_56 ⟨Nat.le_of_ble_eq_true rfl, Nat.le_of_ble_eq_true rfl⟩) hP hD hS hA [] [0] rfl rfl (by decide) (by decide) (fun r u9 H locs hw hP hD hS => ?_)
      subst hw
      have hP : va_P D kCl [(mm, .inr (5, [.int (nI th), .int (nI dg), .int (nI PT), .int (nI PN), .int (nI n), .ref ma, .ref mb, .ref mc, .ref md, .ref me, .int (nI sz), .ref mf, .int (nI od), .int (nI sl), .int (nI t), .int (nI wr), .int (nI pl), .int (nI lo), .long (lN nm), .int vz, .ref mg, .ref mh]))] H := hP
      have hD : va_D A [(mm, .inr (5, [.int (nI th), .int (nI dg), .int (nI PT), .int (nI PN), .int (nI n), .ref ma, .ref mb, .ref mc, .ref md, .ref me, .int (nI sz), .ref mf, .int (nI od), .int (nI sl), .int (nI t), .int (nI wr), .int (nI pl), .int (nI lo), .long (lN nm), .int vz, .ref mg, .ref mh]))] := hD
      refine W.widen (k := 0) (n := 0) (Nat.le_of_ble_eq_true rfl) (Nat.le_of_ble_eq_true rfl) ?_
      refine lv_lconst (v := lN 0) hx hb dX7_round_59 (by decide) ?_
      refine W.lcmp hx hb dX7_round_60 ?_
      refine k_lcmpN_le (tgt := 75) (by omega) (by omega) hx hb dX7_round_61 (by decide) (fun c335 => ?_) (fun c335 => ?_)
      · skip
        refine lv_ldc2 (v := (-1074)) hx hb hown (hts (.constantLong RX7 98 (-1074)) (List.mem_cons_of_mem _ wd_409)) dX7_round_75 ?_
        obtain ⟨h, hh⟩ : ∃ z, z = mH v := ⟨_, rfl⟩
        have hh2 : 1 ≤ h ∧ h ≤ 1075 := by rw [hh]; unfold mH; split <;> omega
        refine k_l (show _ = -lN h from by rw [hh]; unfold mH; rw [if_neg (by omega)]; decide) ?_
        refine lv_lstore (lv' := [(6, .long (-lN h)), (4, .long (lN P)), (0, .ref mm), (1, .long (lN v)), (3, .int (nI y))]) hx hb dX7_round_78 hl (by decide) rfl (fun ls hl => ?_)
        exact jp80 P h _ _ _ (hP9) (hh) (hP.sub [0] rfl) (hD.sub [0] (by decide) rfl) hS (lv_sub hl [2, 3, 4, 1, 0] rfl)
      · skip
        exact absurd c335 (by omega)
    · skip
      refine lv_ldc2 (v := lN 4503599627370496) hx hb hown (hts (.constantLong RX7 91 (4503599627370496)) (List.mem_cons_of_mem _ wd_401)) dX7_round_32 ?_
      refine lv_goto (tgt := 39) hx hb dX7_round_35 (by decide) ?_
      refine lv_ladd hx hb dX7_round_39 ?_
      refine k_l (show _ = lN ((v % 4503599627370496) + 4503599627370496) from lN_add _ _) ?_
      refine lv_lstore (lv' := [(4, .long (lN ((v % 4503599627370496) + 4503599627370496))), (0, .ref mm), (1, .long (lN v)), (3, .int (nI y))]) hx hb dX7_round_40 hl (by decide) rfl (fun ls hl => ?_)
      refine lv_lload hx hb dX7_round_42 (lv_at hl 0 rfl) ?_
      refine lv_aload_n hx hb dX7_round_44 rfl (lv_at hl 1 rfl) ?_
      refine va_get (D := D) (ci := 5) (v := .int (nI dg)) (C := RX7) (T := TX7) (N := 22) hx hb hts inX7 hown hK hP 0 rfl rfl 1 (by decide) (hts (.fieldLink RX7 38 "ByteShapesModel" "digits" "I") (List.mem_cons_of_mem _ wd_402)) (fun _ h9 => h9) rfl dX7_round_45 ?_
      refine k_ci (wr := [(mm, .inr (5, [.int (nI th), .int (nI dg), .int (nI PT), .int (nI PN), .int (nI n), .ref ma, .ref mb, .ref mc, .ref md, .ref me, .int (nI sz), .ref mf, .int (nI od), .int (nI sl), .int (nI t), .int (nI wr), .int (nI pl), .int (nI lo), .long (lN nm), .int vz, .ref mg, .ref mh]))]) (k_rs F (c_M_units l D cI cB cJ cS dg hdg) (va_cwS 1 hts (g_S wd_405 wd_406 wd_373 wd_407) rfl rfl rfl (by decide +kernel) ⟨Nat.le_of_ble_eq_true rfl, Nat.le_of_ble_eq_true rfl⟩) hK hP hD hS hA hZ [] rfl (by decide) rfl hl.1 rfl (Nat.le_of_ble_eq_true rfl) dX7_round_48 ⟨Nat.le_of_ble_eq_true rfl, Nat.le_of_ble_eq_true rfl⟩) hP hD hS hA [] [0] rfl rfl (by decide) (by decide) (fun r u9 H locs hw hP hD hS => ?_)
      subst hw
      have hP : va_P D kCl [(mm, .inr (5, [.int (nI th), .int (nI dg), .int (nI PT), .int (nI PN), .int (nI n), .ref ma, .ref mb, .ref mc, .ref md, .ref me, .int (nI sz), .ref mf, .int (nI od), .int (nI sl), .int (nI t), .int (nI wr), .int (nI pl), .int (nI lo), .long (lN nm), .int vz, .ref mg, .ref mh]))] H := hP
      have hD : va_D A [(mm, .inr (5, [.int (nI th), .int (nI dg), .int (nI PT), .int (nI PN), .int (nI n), .ref ma, .ref mb, .ref mc, .ref md, .ref me, .int (nI sz), .ref mf, .int (nI od), .int (nI sl), .int (nI t), .int (nI wr), .int (nI pl), .int (nI lo), .long (lN nm), .int vz, .ref mg, .ref mh]))] := hD
      refine W.widen (k := 0) (n := 0) (Nat.le_of_ble_eq_true rfl) (Nat.le_of_ble_eq_true rfl) ?_
      refine lv_i2l (v := lN (uD dg)) hx hb dX7_round_51 (nI_l (by have := uD_ok dg; omega)) ?_
      refine lv_lmul hx hb dX7_round_52 ?_
      obtain ⟨P, hP9⟩ : ∃ z, z = mP v (uD dg) := ⟨_, rfl⟩
      have hu9 := uD_ok dg
      have hPl := mP_lt (v := v) (u := uD dg) hu9.2
      rw [← hP9] at hPl
      refine k_l (show _ = lN P from by rw [hP9, lN_mul]; unfold mP; rw [if_pos (by omega)]) ?_
      refine lv_lstore (lv' := [(4, .long (lN P)), (0, .ref mm), (1, .long (lN v)), (3, .int (nI y))]) hx hb dX7_round_53 hl (by decide) rfl (fun ls hl => ?_)
      refine lv_lload_n hx hb dX7_round_55 rfl (lv_at hl 2 rfl) ?_
      refine k_cl (wr := [(mm, .inr (5, [.int (nI th), .int (nI dg), .int (nI PT), .int (nI PN), .int (nI n), .ref ma, .ref mb, .ref mc, .ref md, .ref me, .int (nI sz), .ref mf, .int (nI od), .int (nI sl), .int (nI t), .int (nI wr), .int (nI pl), .int (nI lo), .long (lN nm), .int vz, .ref mg, .ref mh]))]) (k_rs F (c_M_exponent l D cI cB cJ cS v hv) (va_cwS 1 hts (g_S wd_384 wd_385 wd_373 wd_386) rfl rfl rfl (by decide +kernel) ⟨Nat.le_of_ble_eq_true rfl, Nat.le_of_ble_eq_true rfl⟩) hK hP hD hS hA hZ [] rfl (by decide) rfl hl.1 rfl (Nat.le_of_ble_eq_true rfl) dX7_round_56 ⟨Nat.le_of_ble_eq_true rfl, Nat.le_of_ble_eq_true rfl⟩) hP hD hS hA [] [0] rfl rfl (by decide) (by decide) (fun r u9 H locs hw hP hD hS => ?_)
      subst hw
      have hP : va_P D kCl [(mm, .inr (5, [.int (nI th), .int (nI dg), .int (nI PT), .int (nI PN), .int (nI n), .ref ma, .ref mb, .ref mc, .ref md, .ref me, .int (nI sz), .ref mf, .int (nI od), .int (nI sl), .int (nI t), .int (nI wr), .int (nI pl), .int (nI lo), .long (lN nm), .int vz, .ref mg, .ref mh]))] H := hP
      have hD : va_D A [(mm, .inr (5, [.int (nI th), .int (nI dg), .int (nI PT), .int (nI PN), .int (nI n), .ref ma, .ref mb, .ref mc, .ref md, .ref me, .int (nI sz), .ref mf, .int (nI od), .int (nI sl), .int (nI t), .int (nI wr), .int (nI pl), .int (nI lo), .long (lN nm), .int vz, .ref mg, .ref mh]))] := hD
      refine W.widen (k := 0) (n := 0) (Nat.le_of_ble_eq_true rfl) (Nat.le_of_ble_eq_true rfl) ?_
      refine lv_lconst (v := lN 0) hx hb dX7_round_59 (by decide) ?_
      refine W.lcmp hx hb dX7_round_60 ?_
      refine k_lcmpN_le (tgt := 75) (by omega) (by omega) hx hb dX7_round_61 (by decide) (fun c336 => ?_) (fun c336 => ?_)
      · skip
        exact absurd c336 (by omega)
      · skip
        refine lv_lload_n hx hb dX7_round_64 rfl (lv_at hl 2 rfl) ?_
        refine k_cl (wr := [(mm, .inr (5, [.int (nI th), .int (nI dg), .int (nI PT), .int (nI PN), .int (nI n), .ref ma, .ref mb, .ref mc, .ref md, .ref me, .int (nI sz), .ref mf, .int (nI od), .int (nI sl), .int (nI t), .int (nI wr), .int (nI pl), .int (nI lo), .long (lN nm), .int vz, .ref mg, .ref mh]))]) (k_rs F (c_M_exponent l D cI cB cJ cS v hv) (va_cwS 1 hts (g_S wd_384 wd_385 wd_373 wd_386) rfl rfl rfl (by decide +kernel) ⟨Nat.le_of_ble_eq_true rfl, Nat.le_of_ble_eq_true rfl⟩) hK hP hD hS hA hZ [] rfl (by decide) rfl hl.1 rfl (Nat.le_of_ble_eq_true rfl) dX7_round_65 ⟨Nat.le_of_ble_eq_true rfl, Nat.le_of_ble_eq_true rfl⟩) hP hD hS hA [] [0] rfl rfl (by decide) (by decide) (fun r u9 H locs hw hP hD hS => ?_)
        subst hw
        have hP : va_P D kCl [(mm, .inr (5, [.int (nI th), .int (nI dg), .int (nI PT), .int (nI PN), .int (nI n), .ref ma, .ref mb, .ref mc, .ref md, .ref me, .int (nI sz), .ref mf, .int (nI od), .int (nI sl), .int (nI t), .int (nI wr), .int (nI pl), .int (nI lo), .long (lN nm), .int vz, .ref mg, .ref mh]))] H := hP
        have hD : va_D A [(mm, .inr (5, [.int (nI th), .int (nI dg), .int (nI PT), .int (nI PN), .int (nI n), .ref ma, .ref mb, .ref mc, .ref md, .ref me, .int (nI sz), .ref mf, .int (nI od), .int (nI sl), .int (nI t), .int (nI wr), .int (nI pl), .int (nI lo), .long (lN nm), .int vz, .ref mg, .ref mh]))] := hD
        refine W.widen (k := 0) (n := 0) (Nat.le_of_ble_eq_true rfl) (Nat.le_of_ble_eq_true rfl) ?_
        refine lv_ldc2 (v := lN 1075) hx hb hown (hts (.constantLong RX7 96 (1075)) (List.mem_cons_of_mem _ wd_403)) dX7_round_68 ?_
        refine lv_lsub hx hb dX7_round_71 ?_
        refine k_l (show _ = -lN (1075 - rE v) from ng_sub (by omega)) ?_
        refine lv_goto (tgt := 78) hx hb dX7_round_72 (by decide) ?_
        obtain ⟨h, hh⟩ : ∃ z, z = mH v := ⟨_, rfl⟩
        have hh2 : 1 ≤ h ∧ h ≤ 1075 := by rw [hh]; unfold mH; split <;> omega
        refine k_l (show _ = -lN h from by rw [hh]; unfold mH; rw [if_pos (by omega)]) ?_
        refine lv_lstore (lv' := [(6, .long (-lN h)), (4, .long (lN P)), (0, .ref mm), (1, .long (lN v)), (3, .int (nI y))]) hx hb dX7_round_78 hl (by decide) rfl (fun ls hl => ?_)
        exact jp80 P h _ _ _ (hP9) (hh) (hP.sub [0] rfl) (hD.sub [0] (by decide) rfl) hS (lv_sub hl [2, 3, 4, 1, 0] rfl)
  · skip
    exact absurd c333 (by omega)

set_option maxRecDepth 100000 in
set_option maxHeartbeats 4000000 in
theorem c_M_roundB1 (l : Launch) (D : va_G) (cI cB cJ cS : ClassId) (mm ma mb mc md me mf mg mh th dg PT PN n sz od sl t wr pl lo nm : Nat) (b pm pd pq rb ok ol : Nat → Nat) (fx : Nat → Int32) (vz : Int32) (v y : Nat) (hv : v < 2 ^ 64) (hdg : dg < 4) (hE : rE v < 1075) (hm : rMag v (uD dg) ≤ 1000000000)  : kM l yX7_round vsX7_round ({ frames := 1, cells := 0, slots := 0, locals := 22 }) D (kT cI cB cJ cS) [.ref mm, .long (lN v), .int (nI y)] [(mm, .inr (5, [.int (nI th), .int (nI dg), .int (nI PT), .int (nI PN), .int (nI n), .ref ma, .ref mb, .ref mc, .ref md, .ref me, .int (nI sz), .ref mf, .int (nI od), .int (nI sl), .int (nI t), .int (nI wr), .int (nI pl), .int (nI lo), .long (lN nm), .int vz, .ref mg, .ref mh]))] (kQi D (kT cI cB cJ cS) (fun r (ug : Unit) => r = nI 1) (fun ug => [(mm, .inr (5, [.int (nI th), .int (nI dg), .int (nI PT), .int (nI PN), .int (nI n), .ref ma, .ref mb, .ref mc, .ref md, .ref me, .int (nI sz), .ref mf, .int (nI od), .int (nI sl), .int (nI t), .int (nI wr), .int (nI pl), .int (nI lo), .long (lN nm), .int ((rVal v (uD dg)).toInt32), .ref mg, .ref mh]))])) := by
  refine k_ofW (by decide) rfl (Nat.le_of_ble_eq_true rfl) ?_
  intro p e s m below meth c A ls hx hb hr hts hown hlocks hmn hml hA hP hK hD hS hZ hl
  have inX7 : ∀ w ∈ wsX70, w ∈ vsX7_round := fun w h => List.mem_cons_of_mem _ (iaX7 w h)
  have F : CallFix p m c cX7_round 11 s _ vsX7_round RX7 := ⟨hx, hb, hml, hown, hts⟩
  have hl : lv_has ls 11 [(0, .ref mm), (1, .long (lN v)), (3, .int (nI y))] := hl
  have jp80 : ∀ (P : Nat) (h : Nat) (H : Heap) (locs : List Loc) (ls : Array Slot), (P = mP v (uD dg)) → (h = mH v) → va_P D kCl [(mm, .inr (5, [.int (nI th), .int (nI dg), .int (nI PT), .int (nI PN), .int (nI n), .ref ma, .ref mb, .ref mc, .ref md, .ref me, .int (nI sz), .ref mf, .int (nI od), .int (nI sl), .int (nI t), .int (nI wr), .int (nI pl), .int (nI lo), .long (lN nm), .int vz, .ref mg, .ref mh]))] H → va_D A [(mm, .inr (5, [.int (nI th), .int (nI dg), .int (nI PT), .int (nI PN), .int (nI n), .ref ma, .ref mb, .ref mc, .ref md, .ref me, .int (nI sz), .ref mf, .int (nI od), .int (nI sl), .int (nI t), .int (nI wr), .int (nI pl), .int (nI lo), .long (lN nm), .int vz, .ref mg, .ref mh]))] → va_S A s.heap H locs → lv_has ls 11 [(0, .ref mm), (1, .long (lN v)), (3, .int (nI y)), (4, .long (lN P)), (6, .long (-lN h))] → W p l e ({ frames := 1, cells := 0, slots := 0, locals := 22 }) s m ([.ref mm, .long (lN v), .int (nI y)] : List Value).toArray below meth c H locs 0 0 (MQ below ((kQi D (kT cI cB cJ cS) (fun r (ug : Unit) => r = nI 1) (fun ug => [(mm, .inr (5, [.int (nI th), .int (nI dg), .int (nI PT), .int (nI PN), .int (nI n), .ref ma, .ref mb, .ref mc, .ref md, .ref me, .int (nI sz), .ref mf, .int (nI od), .int (nI sl), .int (nI t), .int (nI wr), .int (nI pl), .int (nI lo), .long (lN nm), .int ((rVal v (uD dg)).toInt32), .ref mg, .ref mh]))])) A) ([.ref mm, .long (lN v), .int (nI y)] : List Value).toArray s ({ frames := 1, cells := 0, slots := 0, locals := 22 } : Room).cells ({ frames := 1, cells := 0, slots := 0, locals := 22 } : Room).slots A) (F0 m 80 ls []) := by
    intro P h H locs ls hP9 hh hP hD hS hl
    have hu9 := uD_ok dg
    have hPl := mP_lt (v := v) (u := uD dg) hu9.2
    rw [← hP9] at hPl
    have hh2 : 1 ≤ h ∧ h ≤ 1075 := by rw [hh]; unfold mH; split <;> omega
    refine lv_lload hx hb dX7_round_80 (lv_at hl 4 rfl) ?_
    refine lv_lconst (v := lN 0) hx hb dX7_round_82 (by decide) ?_
    refine W.lcmp hx hb dX7_round_83 ?_
    refine k_lcmp_le (tgt := 120) hx hb dX7_round_84 (by decide) (fun c337 => ?_) (fun c337 => ?_)
    · skip
      refine lv_lconst (v := lN 0) hx hb dX7_round_120 (by decide) ?_
      refine lv_lstore (lv' := [(8, .long (lN 0)), (0, .ref mm), (1, .long (lN v)), (3, .int (nI y)), (4, .long (lN P)), (6, .long (-lN h))]) hx hb dX7_round_121 hl (by decide) rfl (fun ls hl => ?_)
      refine lv_iconst (v := nI 0) hx hb dX7_round_123 (by decide) ?_
      refine lv_istore (lv' := [(10, .int (nI 0)), (8, .long (lN 0)), (0, .ref mm), (1, .long (lN v)), (3, .int (nI y)), (4, .long (lN P)), (6, .long (-lN h))]) hx hb dX7_round_124 hl (by decide) rfl (fun ls hl => ?_)
      have jp : ∀ (x : Nat) (H : Heap) (locs : List Loc) (ls : Array Slot), (x = rMag v (uD dg)) → va_P D kCl [(mm, .inr (5, [.int (nI th), .int (nI dg), .int (nI PT), .int (nI PN), .int (nI n), .ref ma, .ref mb, .ref mc, .ref md, .ref me, .int (nI sz), .ref mf, .int (nI od), .int (nI sl), .int (nI t), .int (nI wr), .int (nI pl), .int (nI lo), .long (lN nm), .int vz, .ref mg, .ref mh]))] H → va_D A [(mm, .inr (5, [.int (nI th), .int (nI dg), .int (nI PT), .int (nI PN), .int (nI n), .ref ma, .ref mb, .ref mc, .ref md, .ref me, .int (nI sz), .ref mf, .int (nI od), .int (nI sl), .int (nI t), .int (nI wr), .int (nI pl), .int (nI lo), .long (lN nm), .int vz, .ref mg, .ref mh]))] → va_S A s.heap H locs → lv_has ls 11 [(0, .ref mm), (1, .long (lN v)), (3, .int (nI y)), (4, .long (lN x))] → W p l e ({ frames := 1, cells := 0, slots := 0, locals := 22 }) s m ([.ref mm, .long (lN v), .int (nI y)] : List Value).toArray below meth c H locs 0 0 (MQ below ((kQi D (kT cI cB cJ cS) (fun r (ug : Unit) => r = nI 1) (fun ug => [(mm, .inr (5, [.int (nI th), .int (nI dg), .int (nI PT), .int (nI PN), .int (nI n), .ref ma, .ref mb, .ref mc, .ref md, .ref me, .int (nI sz), .ref mf, .int (nI od), .int (nI sl), .int (nI t), .int (nI wr), .int (nI pl), .int (nI lo), .long (lN nm), .int ((rVal v (uD dg)).toInt32), .ref mg, .ref mh]))])) A) ([.ref mm, .long (lN v), .int (nI y)] : List Value).toArray s ({ frames := 1, cells := 0, slots := 0, locals := 22 } : Room).cells ({ frames := 1, cells := 0, slots := 0, locals := 22 } : Room).slots A) (F0 m 220 ls []) := by
        intro x H locs ls hx9 hP hD hS hl
        refine lv_lload hx hb dX7_round_220 (lv_at hl 3 rfl) ?_
        refine lv_ldc2 (v := lN 1000000000) hx hb hown (hts (.constantLong RX7 100 (1000000000)) (List.mem_cons_of_mem _ wd_404)) dX7_round_222 ?_
        refine W.lcmp hx hb dX7_round_225 ?_
        refine k_lcmpN_le (tgt := 236) (by rw [hx9]; exact rMag_lt (uD_ok dg).2) (by decide) hx hb dX7_round_226 (by decide) (fun c338 => ?_) (fun c338 => ?_)
        · skip
          refine lv_aload_n hx hb dX7_round_236 rfl (lv_at hl 0 rfl) ?_
          refine lv_lload_n hx hb dX7_round_237 rfl (lv_at hl 1 rfl) ?_
          refine lv_lconst (v := lN 0) hx hb dX7_round_238 (by decide) ?_
          refine W.lcmp hx hb dX7_round_239 ?_
          refine k_lcmp_ge (tgt := 250) hx hb dX7_round_240 (by decide) (fun hsg => ?_) (fun hsg => ?_)
          · skip
            refine lv_lload hx hb dX7_round_250 (lv_at hl 3 rfl) ?_
            refine lv_l2i (v := (rVal v (uD dg)).toInt32) hx hb dX7_round_252 (by rw [← rv_pos hv hsg hx9]) ?_
            refine va_put (D := D) (ci := 5) (v := .int ((rVal v (uD dg)).toInt32)) (ty := .int) (C := RX7) (T := TX7) (N := 22) hx hb hts inX7 tyX7 tyX7_ok nmX7 hown hK hP hD hS 0 rfl rfl 19 (by decide) (hts (.fieldLink RX7 104 "ByteShapesModel" "value" "I") (List.mem_cons_of_mem _ wd_410)) (fun _ h9 => h9) rfl (by decide +kernel) (rfl) (rfl) (Nat.le_of_ble_eq_true rfl) dX7_round_253 (fun H locs hP hD hS => ?_)
            have hP : va_P D kCl [(mm, .inr (5, [.int (nI th), .int (nI dg), .int (nI PT), .int (nI PN), .int (nI n), .ref ma, .ref mb, .ref mc, .ref md, .ref me, .int (nI sz), .ref mf, .int (nI od), .int (nI sl), .int (nI t), .int (nI wr), .int (nI pl), .int (nI lo), .long (lN nm), .int ((rVal v (uD dg)).toInt32), .ref mg, .ref mh]))] H := hP
            have hD : va_D A [(mm, .inr (5, [.int (nI th), .int (nI dg), .int (nI PT), .int (nI PN), .int (nI n), .ref ma, .ref mb, .ref mc, .ref md, .ref me, .int (nI sz), .ref mf, .int (nI od), .int (nI sl), .int (nI t), .int (nI wr), .int (nI pl), .int (nI lo), .long (lN nm), .int ((rVal v (uD dg)).toInt32), .ref mg, .ref mh]))] := hD
            refine lv_iconst (v := nI 1) hx hb dX7_round_256 (by decide) ?_
            exact k_iret () hx hb hr (by first | rfl | decide | exact vp_nar_int _) hlocks hK hP hD hS (rfl) (rfl) (Nat.le_of_ble_eq_true rfl) (Nat.le_of_ble_eq_true rfl) dX7_round_257
          · skip
            refine lv_lload hx hb dX7_round_243 (lv_at hl 3 rfl) ?_
            refine lv_lneg hx hb dX7_round_245 ?_
            refine lv_l2i (v := (rVal v (uD dg)).toInt32) hx hb dX7_round_246 (by rw [← rv_neg hv hsg hx9]) ?_
            refine lv_goto (tgt := 253) hx hb dX7_round_247 (by decide) ?_
            refine va_put (D := D) (ci := 5) (v := .int ((rVal v (uD dg)).toInt32)) (ty := .int) (C := RX7) (T := TX7) (N := 22) hx hb hts inX7 tyX7 tyX7_ok nmX7 hown hK hP hD hS 0 rfl rfl 19 (by decide) (hts (.fieldLink RX7 104 "ByteShapesModel" "value" "I") (List.mem_cons_of_mem _ wd_410)) (fun _ h9 => h9) rfl (by decide +kernel) (rfl) (rfl) (Nat.le_of_ble_eq_true rfl) dX7_round_253 (fun H locs hP hD hS => ?_)
            have hP : va_P D kCl [(mm, .inr (5, [.int (nI th), .int (nI dg), .int (nI PT), .int (nI PN), .int (nI n), .ref ma, .ref mb, .ref mc, .ref md, .ref me, .int (nI sz), .ref mf, .int (nI od), .int (nI sl), .int (nI t), .int (nI wr), .int (nI pl), .int (nI lo), .long (lN nm), .int ((rVal v (uD dg)).toInt32), .ref mg, .ref mh]))] H := hP
            have hD : va_D A [(mm, .inr (5, [.int (nI th), .int (nI dg), .int (nI PT), .int (nI PN), .int (nI n), .ref ma, .ref mb, .ref mc, .ref md, .ref me, .int (nI sz), .ref mf, .int (nI od), .int (nI sl), .int (nI t), .int (nI wr), .int (nI pl), .int (nI lo), .long (lN nm), .int ((rVal v (uD dg)).toInt32), .ref mg, .ref mh]))] := hD
            refine lv_iconst (v := nI 1) hx hb dX7_round_256 (by decide) ?_
            exact k_iret () hx hb hr (by first | rfl | decide | exact vp_nar_int _) hlocks hK hP hD hS (rfl) (rfl) (Nat.le_of_ble_eq_true rfl) (Nat.le_of_ble_eq_true rfl) dX7_round_257
        · skip
          exact absurd c338 (by omega)
      rw [show lN P = lN (P / 2 ^ 0) from by rw [Nat.pow_zero, Nat.div_one]] at hl
      have loop339 : ∀ (k340 : Nat) (j : Nat) (H : Heap) (locs : List Loc) (ls : Array Slot), h - j < k340 → (j ≤ h) → va_P D kCl [(mm, .inr (5, [.int (nI th), .int (nI dg), .int (nI PT), .int (nI PN), .int (nI n), .ref ma, .ref mb, .ref mc, .ref md, .ref me, .int (nI sz), .ref mf, .int (nI od), .int (nI sl), .int (nI t), .int (nI wr), .int (nI pl), .int (nI lo), .long (lN nm), .int vz, .ref mg, .ref mh]))] H → va_D A [(mm, .inr (5, [.int (nI th), .int (nI dg), .int (nI PT), .int (nI PN), .int (nI n), .ref ma, .ref mb, .ref mc, .ref md, .ref me, .int (nI sz), .ref mf, .int (nI od), .int (nI sl), .int (nI t), .int (nI wr), .int (nI pl), .int (nI lo), .long (lN nm), .int vz, .ref mg, .ref mh]))] → va_S A s.heap H locs → lv_has ls 11 [(0, .ref mm), (1, .long (lN v)), (3, .int (nI y)), (4, .long (lN (P / 2 ^ j))), (6, .long (-lN (h - j))), (8, .long (lN (rl P j))), (10, .int (nI (rm P j)))] → W p l e ({ frames := 1, cells := 0, slots := 0, locals := 22 }) s m ([.ref mm, .long (lN v), .int (nI y)] : List Value).toArray below meth c H locs 0 0 (MQ below ((kQi D (kT cI cB cJ cS) (fun r (ug : Unit) => r = nI 1) (fun ug => [(mm, .inr (5, [.int (nI th), .int (nI dg), .int (nI PT), .int (nI PN), .int (nI n), .ref ma, .ref mb, .ref mc, .ref md, .ref me, .int (nI sz), .ref mf, .int (nI od), .int (nI sl), .int (nI t), .int (nI wr), .int (nI pl), .int (nI lo), .long (lN nm), .int ((rVal v (uD dg)).toInt32), .ref mg, .ref mh]))])) A) ([.ref mm, .long (lN v), .int (nI y)] : List Value).toArray s ({ frames := 1, cells := 0, slots := 0, locals := 22 } : Room).cells ({ frames := 1, cells := 0, slots := 0, locals := 22 } : Room).slots A) (F0 m 126 ls []) := by
        intro k340
        induction k340 with
        | zero =>
          intro j H locs ls hk9
          exact absurd hk9 (Nat.not_lt_zero _)
        | succ k340 ihloop339 =>
          intro j H locs ls hk9 hjh hP hD hS hl
          refine lv_lload hx hb dX7_round_126 (lv_at hl 4 rfl) ?_
          have hdj := Nat.div_le_self P (2 ^ j)
          have hrl := rl_le P j
          have hrm := rm_le P j
          refine lv_lconst (v := lN 0) hx hb dX7_round_128 (by decide) ?_
          refine W.lcmp hx hb dX7_round_129 ?_
          refine k_lcmp_ge (tgt := 191) hx hb dX7_round_130 (by decide) (fun hge => ?_) (fun hge => ?_)
          · skip
            have ej : j = h := by have z := (ng_ge (by omega)).mp hge; omega
            refine lv_lload hx hb dX7_round_191 (lv_at hl 5 rfl) ?_
            refine lv_lconst (v := lN 0) hx hb dX7_round_193 (by decide) ?_
            refine W.lcmp hx hb dX7_round_194 ?_
            refine k_lcmpN_le (tgt := 220) (by omega) (by omega) hx hb dX7_round_195 (by decide) (fun c341 => ?_) (fun c341 => ?_)
            · skip
              exact jp (P / 2 ^ j) _ _ _ (by rw [← mr_mag hE hu9.2, ← hP9, ← hh, rd_h (by omega), ← ej, if_neg (by omega), Nat.add_zero]) (hP.sub [0] rfl) (hD.sub [0] (by decide) rfl) hS (lv_sub hl [0, 1, 2, 3] rfl)
            · skip
              refine lv_iload hx hb dX7_round_198 (lv_at hl 6 rfl) ?_
              refine k_if_ne (tgt := 214) (by omega) hx hb dX7_round_200 (by decide) (fun c342 => ?_) (fun c342 => ?_)
              · skip
                refine lv_lload hx hb dX7_round_214 (lv_at hl 3 rfl) ?_
                refine lv_lconst (v := lN 1) hx hb dX7_round_216 (by decide) ?_
                refine lv_ladd hx hb dX7_round_217 ?_
                refine k_l (show _ = lN ((P / 2 ^ j) + 1) from lN_add _ _) ?_
                refine lv_lstore (lv' := [(4, .long (lN ((P / 2 ^ j) + 1))), (0, .ref mm), (1, .long (lN v)), (3, .int (nI y)), (6, .long (-lN (h - j))), (8, .long (lN (rl P j))), (10, .int (nI (rm P j)))]) hx hb dX7_round_218 hl (by decide) rfl (fun ls hl => ?_)
                exact jp ((P / 2 ^ j) + 1) _ _ _ (by rw [← mr_mag hE hu9.2, ← hP9, ← hh, rd_h (by omega), ← ej, if_pos (by omega)]) (hP.sub [0] rfl) (hD.sub [0] (by decide) rfl) hS (lv_sub hl [1, 2, 3, 0] rfl)
              · skip
                refine lv_lload hx hb dX7_round_203 (lv_at hl 3 rfl) ?_
                refine lv_ldc2 (v := lN 2) hx hb hown (hts (.constantLong RX7 102 (2)) (List.mem_cons_of_mem _ wd_408)) dX7_round_205 ?_
                refine lv_lrem hx hb dX7_round_208 (by decide) ?_
                refine k_l (show _ = lN (P / 2 ^ j % 2) from pk_lRem (by omega) (by decide) (by decide)) ?_
                refine lv_lconst (v := lN 1) hx hb dX7_round_209 (by decide) ?_
                refine W.lcmp hx hb dX7_round_210 ?_
                refine k_lcmpN_ne (tgt := 220) (by omega) (by omega) hx hb dX7_round_211 (by decide) (fun c343 => ?_) (fun c343 => ?_)
                · skip
                  exact jp (P / 2 ^ j) _ _ _ (by rw [← mr_mag hE hu9.2, ← hP9, ← hh, rd_h (by omega), ← ej, if_neg (by omega), Nat.add_zero]) (hP.sub [0] rfl) (hD.sub [0] (by decide) rfl) hS (lv_sub hl [0, 1, 2, 3] rfl)
                · skip
                  refine lv_lload hx hb dX7_round_214 (lv_at hl 3 rfl) ?_
                  refine lv_lconst (v := lN 1) hx hb dX7_round_216 (by decide) ?_
                  refine lv_ladd hx hb dX7_round_217 ?_
                  refine k_l (show _ = lN ((P / 2 ^ j) + 1) from lN_add _ _) ?_
                  refine lv_lstore (lv' := [(4, .long (lN ((P / 2 ^ j) + 1))), (0, .ref mm), (1, .long (lN v)), (3, .int (nI y)), (6, .long (-lN (h - j))), (8, .long (lN (rl P j))), (10, .int (nI (rm P j)))]) hx hb dX7_round_218 hl (by decide) rfl (fun ls hl => ?_)
                  exact jp ((P / 2 ^ j) + 1) _ _ _ (by rw [← mr_mag hE hu9.2, ← hP9, ← hh, rd_h (by omega), ← ej, if_pos (by omega)]) (hP.sub [0] rfl) (hD.sub [0] (by decide) rfl) hS (lv_sub hl [1, 2, 3, 0] rfl)
          · skip
            have q9 : ¬ (h - j = 0) := fun z => hge ((ng_ge (by omega)).mpr z)
            refine lv_lload hx hb dX7_round_133 (lv_at hl 3 rfl) ?_
            refine lv_lconst (v := lN 0) hx hb dX7_round_135 (by decide) ?_
            refine W.lcmp hx hb dX7_round_136 ?_
            refine k_lcmpN_gt (tgt := 147) (by omega) (by omega) hx hb dX7_round_137 (by decide) (fun hv0 => ?_) (fun hv0 => ?_)
            · skip
              refine lv_iload hx hb dX7_round_147 (lv_at hl 6 rfl) ?_
              refine k_if_ne (tgt := 159) (by omega) hx hb dX7_round_149 (by decide) (fun hm1 => ?_) (fun hm1 => ?_)
              · skip
                refine lv_iconst (v := nI 1) hx hb dX7_round_159 (by decide) ?_
                refine lv_goto (tgt := 164) hx hb dX7_round_160 (by decide) ?_
                refine k_i (show _ = nI (rm P (j + 1)) from congrArg nI (rm_s1 (by omega))) ?_
                refine lv_istore (lv' := [(10, .int (nI (rm P (j + 1)))), (0, .ref mm), (1, .long (lN v)), (3, .int (nI y)), (4, .long (lN (P / 2 ^ j))), (6, .long (-lN (h - j))), (8, .long (lN (rl P j)))]) hx hb dX7_round_164 hl (by decide) rfl (fun ls hl => ?_)
                refine lv_lload hx hb dX7_round_166 (lv_at hl 4 rfl) ?_
                refine lv_ldc2 (v := lN 2) hx hb hown (hts (.constantLong RX7 102 (2)) (List.mem_cons_of_mem _ wd_408)) dX7_round_168 ?_
                refine lv_lrem hx hb dX7_round_171 (by decide) ?_
                refine k_l (show _ = lN (P / 2 ^ j % 2) from pk_lRem (by omega) (by decide) (by decide)) ?_
                refine k_l (show _ = lN (rl P (j + 1)) from congrArg lN (rl_s P j)) ?_
                refine lv_lstore (lv' := [(8, .long (lN (rl P (j + 1)))), (10, .int (nI (rm P (j + 1)))), (0, .ref mm), (1, .long (lN v)), (3, .int (nI y)), (4, .long (lN (P / 2 ^ j))), (6, .long (-lN (h - j)))]) hx hb dX7_round_172 hl (by decide) rfl (fun ls hl => ?_)
                refine lv_lload hx hb dX7_round_174 (lv_at hl 5 rfl) ?_
                refine lv_ldc2 (v := lN 2) hx hb hown (hts (.constantLong RX7 102 (2)) (List.mem_cons_of_mem _ wd_408)) dX7_round_176 ?_
                refine lv_ldiv hx hb dX7_round_179 (by decide) ?_
                refine k_l (show _ = lN (P / 2 ^ j / 2) from pk_lDiv (by omega) (by decide) (by decide)) ?_
                refine k_l (show _ = lN (P / 2 ^ (j + 1)) from congrArg lN (dv_s P j)) ?_
                refine lv_lstore (lv' := [(4, .long (lN (P / 2 ^ (j + 1)))), (8, .long (lN (rl P (j + 1)))), (10, .int (nI (rm P (j + 1)))), (0, .ref mm), (1, .long (lN v)), (3, .int (nI y)), (6, .long (-lN (h - j)))]) hx hb dX7_round_180 hl (by decide) rfl (fun ls hl => ?_)
                refine lv_lload hx hb dX7_round_182 (lv_at hl 6 rfl) ?_
                refine lv_lconst (v := lN 1) hx hb dX7_round_184 (by decide) ?_
                refine lv_ladd hx hb dX7_round_185 ?_
                refine k_l (show _ = -lN (h - (j + 1)) from by rw [ng_inc (by omega) (by omega), Nat.sub_sub]) ?_
                refine lv_lstore (lv' := [(6, .long (-lN (h - (j + 1)))), (4, .long (lN (P / 2 ^ (j + 1)))), (8, .long (lN (rl P (j + 1)))), (10, .int (nI (rm P (j + 1)))), (0, .ref mm), (1, .long (lN v)), (3, .int (nI y))]) hx hb dX7_round_186 hl (by decide) rfl (fun ls hl => ?_)
                refine lv_goto (tgt := 126) hx hb dX7_round_188 (by decide) ?_
                exact ihloop339 (j + 1) _ _ _ (by omega) (by omega) (hP.sub [0] rfl) (hD.sub [0] (by decide) rfl) hS (lv_sub hl [4, 5, 6, 1, 0, 2, 3] rfl)
              · skip
                refine lv_lload hx hb dX7_round_152 (lv_at hl 5 rfl) ?_
                refine lv_lconst (v := lN 0) hx hb dX7_round_154 (by decide) ?_
                refine W.lcmp hx hb dX7_round_155 ?_
                refine k_lcmpN_le (tgt := 163) (by omega) (by omega) hx hb dX7_round_156 (by decide) (fun hl2 => ?_) (fun hl2 => ?_)
                · skip
                  refine lv_iconst (v := nI 0) hx hb dX7_round_163 (by decide) ?_
                  refine k_i (show _ = nI (rm P (j + 1)) from congrArg nI (rm_s0 (by omega) (by omega))) ?_
                  refine lv_istore (lv' := [(10, .int (nI (rm P (j + 1)))), (0, .ref mm), (1, .long (lN v)), (3, .int (nI y)), (4, .long (lN (P / 2 ^ j))), (6, .long (-lN (h - j))), (8, .long (lN (rl P j)))]) hx hb dX7_round_164 hl (by decide) rfl (fun ls hl => ?_)
                  refine lv_lload hx hb dX7_round_166 (lv_at hl 4 rfl) ?_
                  refine lv_ldc2 (v := lN 2) hx hb hown (hts (.constantLong RX7 102 (2)) (List.mem_cons_of_mem _ wd_408)) dX7_round_168 ?_
                  refine lv_lrem hx hb dX7_round_171 (by decide) ?_
                  refine k_l (show _ = lN (P / 2 ^ j % 2) from pk_lRem (by omega) (by decide) (by decide)) ?_
                  refine k_l (show _ = lN (rl P (j + 1)) from congrArg lN (rl_s P j)) ?_
                  refine lv_lstore (lv' := [(8, .long (lN (rl P (j + 1)))), (10, .int (nI (rm P (j + 1)))), (0, .ref mm), (1, .long (lN v)), (3, .int (nI y)), (4, .long (lN (P / 2 ^ j))), (6, .long (-lN (h - j)))]) hx hb dX7_round_172 hl (by decide) rfl (fun ls hl => ?_)
                  refine lv_lload hx hb dX7_round_174 (lv_at hl 5 rfl) ?_
                  refine lv_ldc2 (v := lN 2) hx hb hown (hts (.constantLong RX7 102 (2)) (List.mem_cons_of_mem _ wd_408)) dX7_round_176 ?_
                  refine lv_ldiv hx hb dX7_round_179 (by decide) ?_
                  refine k_l (show _ = lN (P / 2 ^ j / 2) from pk_lDiv (by omega) (by decide) (by decide)) ?_
                  refine k_l (show _ = lN (P / 2 ^ (j + 1)) from congrArg lN (dv_s P j)) ?_
                  refine lv_lstore (lv' := [(4, .long (lN (P / 2 ^ (j + 1)))), (8, .long (lN (rl P (j + 1)))), (10, .int (nI (rm P (j + 1)))), (0, .ref mm), (1, .long (lN v)), (3, .int (nI y)), (6, .long (-lN (h - j)))]) hx hb dX7_round_180 hl (by decide) rfl (fun ls hl => ?_)
                  refine lv_lload hx hb dX7_round_182 (lv_at hl 6 rfl) ?_
                  refine lv_lconst (v := lN 1) hx hb dX7_round_184 (by decide) ?_
                  refine lv_ladd hx hb dX7_round_185 ?_
                  refine k_l (show _ = -lN (h - (j + 1)) from by rw [ng_inc (by omega) (by omega), Nat.sub_sub]) ?_
                  refine lv_lstore (lv' := [(6, .long (-lN (h - (j + 1)))), (4, .long (lN (P / 2 ^ (j + 1)))), (8, .long (lN (rl P (j + 1)))), (10, .int (nI (rm P (j + 1)))), (0, .ref mm), (1, .long (lN v)), (3, .int (nI y))]) hx hb dX7_round_186 hl (by decide) rfl (fun ls hl => ?_)
                  refine lv_goto (tgt := 126) hx hb dX7_round_188 (by decide) ?_
                  exact ihloop339 (j + 1) _ _ _ (by omega) (by omega) (hP.sub [0] rfl) (hD.sub [0] (by decide) rfl) hS (lv_sub hl [4, 5, 6, 1, 0, 2, 3] rfl)
                · skip
                  refine lv_iconst (v := nI 1) hx hb dX7_round_159 (by decide) ?_
                  refine lv_goto (tgt := 164) hx hb dX7_round_160 (by decide) ?_
                  refine k_i (show _ = nI (rm P (j + 1)) from congrArg nI (rm_s1 (by omega))) ?_
                  refine lv_istore (lv' := [(10, .int (nI (rm P (j + 1)))), (0, .ref mm), (1, .long (lN v)), (3, .int (nI y)), (4, .long (lN (P / 2 ^ j))), (6, .long (-lN (h - j))), (8, .long (lN (rl P j)))]) hx hb dX7_round_164 hl (by decide) rfl (fun ls hl => ?_)
                  refine lv_lload hx hb dX7_round_166 (lv_at hl 4 rfl) ?_
                  refine lv_ldc2 (v := lN 2) hx hb hown (hts (.constantLong RX7 102 (2)) (List.mem_cons_of_mem _ wd_408)) dX7_round_168 ?_
                  refine lv_lrem hx hb dX7_round_171 (by decide) ?_
                  refine k_l (show _ = lN (P / 2 ^ j % 2) from pk_lRem (by omega) (by decide) (by decide)) ?_
                  refine k_l (show _ = lN (rl P (j + 1)) from congrArg lN (rl_s P j)) ?_
                  refine lv_lstore (lv' := [(8, .long (lN (rl P (j + 1)))), (10, .int (nI (rm P (j + 1)))), (0, .ref mm), (1, .long (lN v)), (3, .int (nI y)), (4, .long (lN (P / 2 ^ j))), (6, .long (-lN (h - j)))]) hx hb dX7_round_172 hl (by decide) rfl (fun ls hl => ?_)
                  refine lv_lload hx hb dX7_round_174 (lv_at hl 5 rfl) ?_
                  refine lv_ldc2 (v := lN 2) hx hb hown (hts (.constantLong RX7 102 (2)) (List.mem_cons_of_mem _ wd_408)) dX7_round_176 ?_
                  refine lv_ldiv hx hb dX7_round_179 (by decide) ?_
                  refine k_l (show _ = lN (P / 2 ^ j / 2) from pk_lDiv (by omega) (by decide) (by decide)) ?_
                  refine k_l (show _ = lN (P / 2 ^ (j + 1)) from congrArg lN (dv_s P j)) ?_
                  refine lv_lstore (lv' := [(4, .long (lN (P / 2 ^ (j + 1)))), (8, .long (lN (rl P (j + 1)))), (10, .int (nI (rm P (j + 1)))), (0, .ref mm), (1, .long (lN v)), (3, .int (nI y)), (6, .long (-lN (h - j)))]) hx hb dX7_round_180 hl (by decide) rfl (fun ls hl => ?_)
                  refine lv_lload hx hb dX7_round_182 (lv_at hl 6 rfl) ?_
                  refine lv_lconst (v := lN 1) hx hb dX7_round_184 (by decide) ?_
                  refine lv_ladd hx hb dX7_round_185 ?_
                  refine k_l (show _ = -lN (h - (j + 1)) from by rw [ng_inc (by omega) (by omega), Nat.sub_sub]) ?_
                  refine lv_lstore (lv' := [(6, .long (-lN (h - (j + 1)))), (4, .long (lN (P / 2 ^ (j + 1)))), (8, .long (lN (rl P (j + 1)))), (10, .int (nI (rm P (j + 1)))), (0, .ref mm), (1, .long (lN v)), (3, .int (nI y))]) hx hb dX7_round_186 hl (by decide) rfl (fun ls hl => ?_)
                  refine lv_goto (tgt := 126) hx hb dX7_round_188 (by decide) ?_
                  exact ihloop339 (j + 1) _ _ _ (by omega) (by omega) (hP.sub [0] rfl) (hD.sub [0] (by decide) rfl) hS (lv_sub hl [4, 5, 6, 1, 0, 2, 3] rfl)
            · skip
              refine lv_lload hx hb dX7_round_140 (lv_at hl 5 rfl) ?_
              refine lv_lconst (v := lN 0) hx hb dX7_round_142 (by decide) ?_
              refine W.lcmp hx hb dX7_round_143 ?_
              refine k_lcmpN_le (tgt := 191) (by omega) (by omega) hx hb dX7_round_144 (by decide) (fun hl1 => ?_) (fun hl1 => ?_)
              · skip
                refine lv_lload hx hb dX7_round_191 (lv_at hl 5 rfl) ?_
                refine lv_lconst (v := lN 0) hx hb dX7_round_193 (by decide) ?_
                refine W.lcmp hx hb dX7_round_194 ?_
                refine k_lcmpN_le (tgt := 220) (by omega) (by omega) hx hb dX7_round_195 (by decide) (fun c344 => ?_) (fun c344 => ?_)
                · skip
                  exact jp (P / 2 ^ j) _ _ _ (by rw [← mr_mag hE hu9.2, ← hP9, ← hh, rd_0 (j := j) (by omega) (by omega) (Nat.le_zero.mp hv0) hl1]; exact Nat.le_zero.mp hv0) (hP.sub [0] rfl) (hD.sub [0] (by decide) rfl) hS (lv_sub hl [0, 1, 2, 3] rfl)
                · skip
                  exact absurd c344 (by omega)
              · skip
                refine lv_iload hx hb dX7_round_147 (lv_at hl 6 rfl) ?_
                refine k_if_ne (tgt := 159) (by omega) hx hb dX7_round_149 (by decide) (fun hm1 => ?_) (fun hm1 => ?_)
                · skip
                  refine lv_iconst (v := nI 1) hx hb dX7_round_159 (by decide) ?_
                  refine lv_goto (tgt := 164) hx hb dX7_round_160 (by decide) ?_
                  refine k_i (show _ = nI (rm P (j + 1)) from congrArg nI (rm_s1 (by omega))) ?_
                  refine lv_istore (lv' := [(10, .int (nI (rm P (j + 1)))), (0, .ref mm), (1, .long (lN v)), (3, .int (nI y)), (4, .long (lN (P / 2 ^ j))), (6, .long (-lN (h - j))), (8, .long (lN (rl P j)))]) hx hb dX7_round_164 hl (by decide) rfl (fun ls hl => ?_)
                  refine lv_lload hx hb dX7_round_166 (lv_at hl 4 rfl) ?_
                  refine lv_ldc2 (v := lN 2) hx hb hown (hts (.constantLong RX7 102 (2)) (List.mem_cons_of_mem _ wd_408)) dX7_round_168 ?_
                  refine lv_lrem hx hb dX7_round_171 (by decide) ?_
                  refine k_l (show _ = lN (P / 2 ^ j % 2) from pk_lRem (by omega) (by decide) (by decide)) ?_
                  refine k_l (show _ = lN (rl P (j + 1)) from congrArg lN (rl_s P j)) ?_
                  refine lv_lstore (lv' := [(8, .long (lN (rl P (j + 1)))), (10, .int (nI (rm P (j + 1)))), (0, .ref mm), (1, .long (lN v)), (3, .int (nI y)), (4, .long (lN (P / 2 ^ j))), (6, .long (-lN (h - j)))]) hx hb dX7_round_172 hl (by decide) rfl (fun ls hl => ?_)
                  refine lv_lload hx hb dX7_round_174 (lv_at hl 5 rfl) ?_
                  refine lv_ldc2 (v := lN 2) hx hb hown (hts (.constantLong RX7 102 (2)) (List.mem_cons_of_mem _ wd_408)) dX7_round_176 ?_
                  refine lv_ldiv hx hb dX7_round_179 (by decide) ?_
                  refine k_l (show _ = lN (P / 2 ^ j / 2) from pk_lDiv (by omega) (by decide) (by decide)) ?_
                  refine k_l (show _ = lN (P / 2 ^ (j + 1)) from congrArg lN (dv_s P j)) ?_
                  refine lv_lstore (lv' := [(4, .long (lN (P / 2 ^ (j + 1)))), (8, .long (lN (rl P (j + 1)))), (10, .int (nI (rm P (j + 1)))), (0, .ref mm), (1, .long (lN v)), (3, .int (nI y)), (6, .long (-lN (h - j)))]) hx hb dX7_round_180 hl (by decide) rfl (fun ls hl => ?_)
                  refine lv_lload hx hb dX7_round_182 (lv_at hl 6 rfl) ?_
                  refine lv_lconst (v := lN 1) hx hb dX7_round_184 (by decide) ?_
                  refine lv_ladd hx hb dX7_round_185 ?_
                  refine k_l (show _ = -lN (h - (j + 1)) from by rw [ng_inc (by omega) (by omega), Nat.sub_sub]) ?_
                  refine lv_lstore (lv' := [(6, .long (-lN (h - (j + 1)))), (4, .long (lN (P / 2 ^ (j + 1)))), (8, .long (lN (rl P (j + 1)))), (10, .int (nI (rm P (j + 1)))), (0, .ref mm), (1, .long (lN v)), (3, .int (nI y))]) hx hb dX7_round_186 hl (by decide) rfl (fun ls hl => ?_)
                  refine lv_goto (tgt := 126) hx hb dX7_round_188 (by decide) ?_
                  exact ihloop339 (j + 1) _ _ _ (by omega) (by omega) (hP.sub [0] rfl) (hD.sub [0] (by decide) rfl) hS (lv_sub hl [4, 5, 6, 1, 0, 2, 3] rfl)
                · skip
                  refine lv_lload hx hb dX7_round_152 (lv_at hl 5 rfl) ?_
                  refine lv_lconst (v := lN 0) hx hb dX7_round_154 (by decide) ?_
                  refine W.lcmp hx hb dX7_round_155 ?_
                  refine k_lcmpN_le (tgt := 163) (by omega) (by omega) hx hb dX7_round_156 (by decide) (fun hl2 => ?_) (fun hl2 => ?_)
                  · skip
                    refine lv_iconst (v := nI 0) hx hb dX7_round_163 (by decide) ?_
                    refine k_i (show _ = nI (rm P (j + 1)) from congrArg nI (rm_s0 (by omega) (by omega))) ?_
                    refine lv_istore (lv' := [(10, .int (nI (rm P (j + 1)))), (0, .ref mm), (1, .long (lN v)), (3, .int (nI y)), (4, .long (lN (P / 2 ^ j))), (6, .long (-lN (h - j))), (8, .long (lN (rl P j)))]) hx hb dX7_round_164 hl (by decide) rfl (fun ls hl => ?_)
                    refine lv_lload hx hb dX7_round_166 (lv_at hl 4 rfl) ?_
                    refine lv_ldc2 (v := lN 2) hx hb hown (hts (.constantLong RX7 102 (2)) (List.mem_cons_of_mem _ wd_408)) dX7_round_168 ?_
                    refine lv_lrem hx hb dX7_round_171 (by decide) ?_
                    refine k_l (show _ = lN (P / 2 ^ j % 2) from pk_lRem (by omega) (by decide) (by decide)) ?_
                    refine k_l (show _ = lN (rl P (j + 1)) from congrArg lN (rl_s P j)) ?_
                    refine lv_lstore (lv' := [(8, .long (lN (rl P (j + 1)))), (10, .int (nI (rm P (j + 1)))), (0, .ref mm), (1, .long (lN v)), (3, .int (nI y)), (4, .long (lN (P / 2 ^ j))), (6, .long (-lN (h - j)))]) hx hb dX7_round_172 hl (by decide) rfl (fun ls hl => ?_)
                    refine lv_lload hx hb dX7_round_174 (lv_at hl 5 rfl) ?_
                    refine lv_ldc2 (v := lN 2) hx hb hown (hts (.constantLong RX7 102 (2)) (List.mem_cons_of_mem _ wd_408)) dX7_round_176 ?_
                    refine lv_ldiv hx hb dX7_round_179 (by decide) ?_
                    refine k_l (show _ = lN (P / 2 ^ j / 2) from pk_lDiv (by omega) (by decide) (by decide)) ?_
                    refine k_l (show _ = lN (P / 2 ^ (j + 1)) from congrArg lN (dv_s P j)) ?_
                    refine lv_lstore (lv' := [(4, .long (lN (P / 2 ^ (j + 1)))), (8, .long (lN (rl P (j + 1)))), (10, .int (nI (rm P (j + 1)))), (0, .ref mm), (1, .long (lN v)), (3, .int (nI y)), (6, .long (-lN (h - j)))]) hx hb dX7_round_180 hl (by decide) rfl (fun ls hl => ?_)
                    refine lv_lload hx hb dX7_round_182 (lv_at hl 6 rfl) ?_
                    refine lv_lconst (v := lN 1) hx hb dX7_round_184 (by decide) ?_
                    refine lv_ladd hx hb dX7_round_185 ?_
                    refine k_l (show _ = -lN (h - (j + 1)) from by rw [ng_inc (by omega) (by omega), Nat.sub_sub]) ?_
                    refine lv_lstore (lv' := [(6, .long (-lN (h - (j + 1)))), (4, .long (lN (P / 2 ^ (j + 1)))), (8, .long (lN (rl P (j + 1)))), (10, .int (nI (rm P (j + 1)))), (0, .ref mm), (1, .long (lN v)), (3, .int (nI y))]) hx hb dX7_round_186 hl (by decide) rfl (fun ls hl => ?_)
                    refine lv_goto (tgt := 126) hx hb dX7_round_188 (by decide) ?_
                    exact ihloop339 (j + 1) _ _ _ (by omega) (by omega) (hP.sub [0] rfl) (hD.sub [0] (by decide) rfl) hS (lv_sub hl [4, 5, 6, 1, 0, 2, 3] rfl)
                  · skip
                    refine lv_iconst (v := nI 1) hx hb dX7_round_159 (by decide) ?_
                    refine lv_goto (tgt := 164) hx hb dX7_round_160 (by decide) ?_
                    refine k_i (show _ = nI (rm P (j + 1)) from congrArg nI (rm_s1 (by omega))) ?_
                    refine lv_istore (lv' := [(10, .int (nI (rm P (j + 1)))), (0, .ref mm), (1, .long (lN v)), (3, .int (nI y)), (4, .long (lN (P / 2 ^ j))), (6, .long (-lN (h - j))), (8, .long (lN (rl P j)))]) hx hb dX7_round_164 hl (by decide) rfl (fun ls hl => ?_)
                    refine lv_lload hx hb dX7_round_166 (lv_at hl 4 rfl) ?_
                    refine lv_ldc2 (v := lN 2) hx hb hown (hts (.constantLong RX7 102 (2)) (List.mem_cons_of_mem _ wd_408)) dX7_round_168 ?_
                    refine lv_lrem hx hb dX7_round_171 (by decide) ?_
                    refine k_l (show _ = lN (P / 2 ^ j % 2) from pk_lRem (by omega) (by decide) (by decide)) ?_
                    refine k_l (show _ = lN (rl P (j + 1)) from congrArg lN (rl_s P j)) ?_
                    refine lv_lstore (lv' := [(8, .long (lN (rl P (j + 1)))), (10, .int (nI (rm P (j + 1)))), (0, .ref mm), (1, .long (lN v)), (3, .int (nI y)), (4, .long (lN (P / 2 ^ j))), (6, .long (-lN (h - j)))]) hx hb dX7_round_172 hl (by decide) rfl (fun ls hl => ?_)
                    refine lv_lload hx hb dX7_round_174 (lv_at hl 5 rfl) ?_
                    refine lv_ldc2 (v := lN 2) hx hb hown (hts (.constantLong RX7 102 (2)) (List.mem_cons_of_mem _ wd_408)) dX7_round_176 ?_
                    refine lv_ldiv hx hb dX7_round_179 (by decide) ?_
                    refine k_l (show _ = lN (P / 2 ^ j / 2) from pk_lDiv (by omega) (by decide) (by decide)) ?_
                    refine k_l (show _ = lN (P / 2 ^ (j + 1)) from congrArg lN (dv_s P j)) ?_
                    refine lv_lstore (lv' := [(4, .long (lN (P / 2 ^ (j + 1)))), (8, .long (lN (rl P (j + 1)))), (10, .int (nI (rm P (j + 1)))), (0, .ref mm), (1, .long (lN v)), (3, .int (nI y)), (6, .long (-lN (h - j)))]) hx hb dX7_round_180 hl (by decide) rfl (fun ls hl => ?_)
                    refine lv_lload hx hb dX7_round_182 (lv_at hl 6 rfl) ?_
                    refine lv_lconst (v := lN 1) hx hb dX7_round_184 (by decide) ?_
                    refine lv_ladd hx hb dX7_round_185 ?_
                    refine k_l (show _ = -lN (h - (j + 1)) from by rw [ng_inc (by omega) (by omega), Nat.sub_sub]) ?_
                    refine lv_lstore (lv' := [(6, .long (-lN (h - (j + 1)))), (4, .long (lN (P / 2 ^ (j + 1)))), (8, .long (lN (rl P (j + 1)))), (10, .int (nI (rm P (j + 1)))), (0, .ref mm), (1, .long (lN v)), (3, .int (nI y))]) hx hb dX7_round_186 hl (by decide) rfl (fun ls hl => ?_)
                    refine lv_goto (tgt := 126) hx hb dX7_round_188 (by decide) ?_
                    exact ihloop339 (j + 1) _ _ _ (by omega) (by omega) (hP.sub [0] rfl) (hD.sub [0] (by decide) rfl) hS (lv_sub hl [4, 5, 6, 1, 0, 2, 3] rfl)
      exact loop339 ((h - 0) + 1) 0 _ _ _ (Nat.lt_succ_self _) (Nat.zero_le _) (hP.sub [0] rfl) (hD.sub [0] (by decide) rfl) hS (lv_sub hl [2, 3, 4, 5, 6, 1, 0] rfl)
    · skip
      exact absurd c337 (fun q => q (Int64.not_lt.mp (ng_gt (by omega))))
  refine lv_lload_n hx hb dX7_round_0 rfl (lv_at hl 1 rfl) ?_
  refine k_cl (wr := [(mm, .inr (5, [.int (nI th), .int (nI dg), .int (nI PT), .int (nI PN), .int (nI n), .ref ma, .ref mb, .ref mc, .ref md, .ref me, .int (nI sz), .ref mf, .int (nI od), .int (nI sl), .int (nI t), .int (nI wr), .int (nI pl), .int (nI lo), .long (lN nm), .int vz, .ref mg, .ref mh]))]) (k_rs F (c_M_exponent l D cI cB cJ cS v hv) (va_cwS 1 hts (g_S wd_384 wd_385 wd_373 wd_386) rfl rfl rfl (by decide +kernel) ⟨Nat.le_of_ble_eq_true rfl, Nat.le_of_ble_eq_true rfl⟩) hK hP hD hS hA hZ [] rfl (by decide) rfl hl.1 rfl (Nat.le_of_ble_eq_true rfl) dX7_round_1 ⟨Nat.le_of_ble_eq_true rfl, Nat.le_of_ble_eq_true rfl⟩) hP hD hS hA [] [0] rfl rfl (by decide) (by decide) (fun r u9 H locs hw hP hD hS => ?_)
  subst hw
  have hP : va_P D kCl [(mm, .inr (5, [.int (nI th), .int (nI dg), .int (nI PT), .int (nI PN), .int (nI n), .ref ma, .ref mb, .ref mc, .ref md, .ref me, .int (nI sz), .ref mf, .int (nI od), .int (nI sl), .int (nI t), .int (nI wr), .int (nI pl), .int (nI lo), .long (lN nm), .int vz, .ref mg, .ref mh]))] H := hP
  have hD : va_D A [(mm, .inr (5, [.int (nI th), .int (nI dg), .int (nI PT), .int (nI PN), .int (nI n), .ref ma, .ref mb, .ref mc, .ref md, .ref me, .int (nI sz), .ref mf, .int (nI od), .int (nI sl), .int (nI t), .int (nI wr), .int (nI pl), .int (nI lo), .long (lN nm), .int vz, .ref mg, .ref mh]))] := hD
  refine W.widen (k := 0) (n := 0) (Nat.le_of_ble_eq_true rfl) (Nat.le_of_ble_eq_true rfl) ?_
  refine lv_ldc2 (v := lN 2047) hx hb hown (hts (.constantLong RX7 83 (2047)) (List.mem_cons_of_mem _ wd_382)) dX7_round_4 ?_
  refine W.lcmp hx hb dX7_round_7 ?_
  have hE0 := rE_lt (v := v)
  refine k_lcmpN_ne (tgt := 18) (by omega) (by omega) hx hb dX7_round_8 (by decide) (fun c345 => ?_) (fun c345 => ?_)
  · skip
    refine lv_lload_n hx hb dX7_round_18 rfl (lv_at hl 1 rfl) ?_
    refine lv_ldc2 (v := lN 4503599627370495) hx hb hown (hts (.constantLong RX7 89 (4503599627370495)) (List.mem_cons_of_mem _ wd_383)) dX7_round_19 ?_
    refine lv_land hx hb dX7_round_22 ?_
    refine k_l (show _ = lN (v % 4503599627370496) from g_mask (s := 52) (p := 4503599627370496) rfl (by decide) hv) ?_
    refine lv_lload_n hx hb dX7_round_23 rfl (lv_at hl 1 rfl) ?_
    refine k_cl (wr := [(mm, .inr (5, [.int (nI th), .int (nI dg), .int (nI PT), .int (nI PN), .int (nI n), .ref ma, .ref mb, .ref mc, .ref md, .ref me, .int (nI sz), .ref mf, .int (nI od), .int (nI sl), .int (nI t), .int (nI wr), .int (nI pl), .int (nI lo), .long (lN nm), .int vz, .ref mg, .ref mh]))]) (k_rs F (c_M_exponent l D cI cB cJ cS v hv) (va_cwS 1 hts (g_S wd_384 wd_385 wd_373 wd_386) rfl rfl rfl (by decide +kernel) ⟨Nat.le_of_ble_eq_true rfl, Nat.le_of_ble_eq_true rfl⟩) hK hP hD hS hA hZ [] rfl (by decide) rfl hl.1 rfl (Nat.le_of_ble_eq_true rfl) dX7_round_24 ⟨Nat.le_of_ble_eq_true rfl, Nat.le_of_ble_eq_true rfl⟩) hP hD hS hA [] [0] rfl rfl (by decide) (by decide) (fun r u9 H locs hw hP hD hS => ?_)
    subst hw
    have hP : va_P D kCl [(mm, .inr (5, [.int (nI th), .int (nI dg), .int (nI PT), .int (nI PN), .int (nI n), .ref ma, .ref mb, .ref mc, .ref md, .ref me, .int (nI sz), .ref mf, .int (nI od), .int (nI sl), .int (nI t), .int (nI wr), .int (nI pl), .int (nI lo), .long (lN nm), .int vz, .ref mg, .ref mh]))] H := hP
    have hD : va_D A [(mm, .inr (5, [.int (nI th), .int (nI dg), .int (nI PT), .int (nI PN), .int (nI n), .ref ma, .ref mb, .ref mc, .ref md, .ref me, .int (nI sz), .ref mf, .int (nI od), .int (nI sl), .int (nI t), .int (nI wr), .int (nI pl), .int (nI lo), .long (lN nm), .int vz, .ref mg, .ref mh]))] := hD
    refine W.widen (k := 0) (n := 0) (Nat.le_of_ble_eq_true rfl) (Nat.le_of_ble_eq_true rfl) ?_
    refine lv_lconst (v := lN 0) hx hb dX7_round_27 (by decide) ?_
    refine W.lcmp hx hb dX7_round_28 ?_
    refine k_lcmpN_le (tgt := 38) (by omega) (by omega) hx hb dX7_round_29 (by decide) (fun c346 => ?_) (fun c346 => ?_)
    · skip
      refine lv_lconst (v := lN 0) hx hb dX7_round_38 (by decide) ?_
      refine lv_ladd hx hb dX7_round_39 ?_
      refine k_l (show _ = lN ((v % 4503599627370496) + 0) from lN_add _ _) ?_
      refine lv_lstore (lv' := [(4, .long (lN ((v % 4503599627370496) + 0))), (0, .ref mm), (1, .long (lN v)), (3, .int (nI y))]) hx hb dX7_round_40 hl (by decide) rfl (fun ls hl => ?_)
      refine lv_lload hx hb dX7_round_42 (lv_at hl 0 rfl) ?_
      refine lv_aload_n hx hb dX7_round_44 rfl (lv_at hl 1 rfl) ?_
      refine va_get (D := D) (ci := 5) (v := .int (nI dg)) (C := RX7) (T := TX7) (N := 22) hx hb hts inX7 hown hK hP 0 rfl rfl 1 (by decide) (hts (.fieldLink RX7 38 "ByteShapesModel" "digits" "I") (List.mem_cons_of_mem _ wd_402)) (fun _ h9 => h9) rfl dX7_round_45 ?_
      refine k_ci (wr := [(mm, .inr (5, [.int (nI th), .int (nI dg), .int (nI PT), .int (nI PN), .int (nI n), .ref ma, .ref mb, .ref mc, .ref md, .ref me, .int (nI sz), .ref mf, .int (nI od), .int (nI sl), .int (nI t), .int (nI wr), .int (nI pl), .int (nI lo), .long (lN nm), .int vz, .ref mg, .ref mh]))]) (k_rs F (c_M_units l D cI cB cJ cS dg hdg) (va_cwS 1 hts (g_S wd_405 wd_406 wd_373 wd_407) rfl rfl rfl (by decide +kernel) ⟨Nat.le_of_ble_eq_true rfl, Nat.le_of_ble_eq_true rfl⟩) hK hP hD hS hA hZ [] rfl (by decide) rfl hl.1 rfl (Nat.le_of_ble_eq_true rfl) dX7_round_48 ⟨Nat.le_of_ble_eq_true rfl, Nat.le_of_ble_eq_true rfl⟩) hP hD hS hA [] [0] rfl rfl (by decide) (by decide) (fun r u9 H locs hw hP hD hS => ?_)
      subst hw
      have hP : va_P D kCl [(mm, .inr (5, [.int (nI th), .int (nI dg), .int (nI PT), .int (nI PN), .int (nI n), .ref ma, .ref mb, .ref mc, .ref md, .ref me, .int (nI sz), .ref mf, .int (nI od), .int (nI sl), .int (nI t), .int (nI wr), .int (nI pl), .int (nI lo), .long (lN nm), .int vz, .ref mg, .ref mh]))] H := hP
      have hD : va_D A [(mm, .inr (5, [.int (nI th), .int (nI dg), .int (nI PT), .int (nI PN), .int (nI n), .ref ma, .ref mb, .ref mc, .ref md, .ref me, .int (nI sz), .ref mf, .int (nI od), .int (nI sl), .int (nI t), .int (nI wr), .int (nI pl), .int (nI lo), .long (lN nm), .int vz, .ref mg, .ref mh]))] := hD
      refine W.widen (k := 0) (n := 0) (Nat.le_of_ble_eq_true rfl) (Nat.le_of_ble_eq_true rfl) ?_
      refine lv_i2l (v := lN (uD dg)) hx hb dX7_round_51 (nI_l (by have := uD_ok dg; omega)) ?_
      refine lv_lmul hx hb dX7_round_52 ?_
      obtain ⟨P, hP9⟩ : ∃ z, z = mP v (uD dg) := ⟨_, rfl⟩
      have hu9 := uD_ok dg
      have hPl := mP_lt (v := v) (u := uD dg) hu9.2
      rw [← hP9] at hPl
      refine k_l (show _ = lN P from by rw [hP9, lN_mul]; unfold mP; rw [if_neg (by omega)]) ?_
      refine lv_lstore (lv' := [(4, .long (lN P)), (0, .ref mm), (1, .long (lN v)), (3, .int (nI y))]) hx hb dX7_round_53 hl (by decide) rfl (fun ls hl => ?_)
      refine lv_lload_n hx hb dX7_round_55 rfl (lv_at hl 2 rfl) ?_
      refine k_cl (wr := [(mm, .inr (5, [.int (nI th), .int (nI dg), .int (nI PT), .int (nI PN), .int (nI n), .ref ma, .ref mb, .ref mc, .ref md, .ref me, .int (nI sz), .ref mf, .int (nI od), .int (nI sl), .int (nI t), .int (nI wr), .int (nI pl), .int (nI lo), .long (lN nm), .int vz, .ref mg, .ref mh]))]) (k_rs F (c_M_exponent l D cI cB cJ cS v hv) (va_cwS 1 hts (g_S wd_384 wd_385 wd_373 wd_386) rfl rfl rfl (by decide +kernel) ⟨Nat.le_of_ble_eq_true rfl, Nat.le_of_ble_eq_true rfl⟩) hK hP hD hS hA hZ [] rfl (by decide) rfl hl.1 rfl (Nat.le_of_ble_eq_true rfl) dX7_round_56 ⟨Nat.le_of_ble_eq_true rfl, Nat.le_of_ble_eq_true rfl⟩) hP hD hS hA [] [0] rfl rfl (by decide) (by decide) (fun r u9 H locs hw hP hD hS => ?_)
      subst hw
      have hP : va_P D kCl [(mm, .inr (5, [.int (nI th), .int (nI dg), .int (nI PT), .int (nI PN), .int (nI n), .ref ma, .ref mb, .ref mc, .ref md, .ref me, .int (nI sz), .ref mf, .int (nI od), .int (nI sl), .int (nI t), .int (nI wr), .int (nI pl), .int (nI lo), .long (lN nm), .int vz, .ref mg, .ref mh]))] H := hP
      have hD : va_D A [(mm, .inr (5, [.int (nI th), .int (nI dg), .int (nI PT), .int (nI PN), .int (nI n), .ref ma, .ref mb, .ref mc, .ref md, .ref me, .int (nI sz), .ref mf, .int (nI od), .int (nI sl), .int (nI t), .int (nI wr), .int (nI pl), .int (nI lo), .long (lN nm), .int vz, .ref mg, .ref mh]))] := hD
      refine W.widen (k := 0) (n := 0) (Nat.le_of_ble_eq_true rfl) (Nat.le_of_ble_eq_true rfl) ?_
      refine lv_lconst (v := lN 0) hx hb dX7_round_59 (by decide) ?_
      refine W.lcmp hx hb dX7_round_60 ?_
      refine k_lcmpN_le (tgt := 75) (by omega) (by omega) hx hb dX7_round_61 (by decide) (fun c347 => ?_) (fun c347 => ?_)
      · skip
        refine lv_ldc2 (v := (-1074)) hx hb hown (hts (.constantLong RX7 98 (-1074)) (List.mem_cons_of_mem _ wd_409)) dX7_round_75 ?_
        obtain ⟨h, hh⟩ : ∃ z, z = mH v := ⟨_, rfl⟩
        have hh2 : 1 ≤ h ∧ h ≤ 1075 := by rw [hh]; unfold mH; split <;> omega
        refine k_l (show _ = -lN h from by rw [hh]; unfold mH; rw [if_neg (by omega)]; decide) ?_
        refine lv_lstore (lv' := [(6, .long (-lN h)), (4, .long (lN P)), (0, .ref mm), (1, .long (lN v)), (3, .int (nI y))]) hx hb dX7_round_78 hl (by decide) rfl (fun ls hl => ?_)
        exact jp80 P h _ _ _ (hP9) (hh) (hP.sub [0] rfl) (hD.sub [0] (by decide) rfl) hS (lv_sub hl [2, 3, 4, 1, 0] rfl)
      · skip
        exact absurd c347 (by omega)
    · skip
      refine lv_ldc2 (v := lN 4503599627370496) hx hb hown (hts (.constantLong RX7 91 (4503599627370496)) (List.mem_cons_of_mem _ wd_401)) dX7_round_32 ?_
      refine lv_goto (tgt := 39) hx hb dX7_round_35 (by decide) ?_
      refine lv_ladd hx hb dX7_round_39 ?_
      refine k_l (show _ = lN ((v % 4503599627370496) + 4503599627370496) from lN_add _ _) ?_
      refine lv_lstore (lv' := [(4, .long (lN ((v % 4503599627370496) + 4503599627370496))), (0, .ref mm), (1, .long (lN v)), (3, .int (nI y))]) hx hb dX7_round_40 hl (by decide) rfl (fun ls hl => ?_)
      refine lv_lload hx hb dX7_round_42 (lv_at hl 0 rfl) ?_
      refine lv_aload_n hx hb dX7_round_44 rfl (lv_at hl 1 rfl) ?_
      refine va_get (D := D) (ci := 5) (v := .int (nI dg)) (C := RX7) (T := TX7) (N := 22) hx hb hts inX7 hown hK hP 0 rfl rfl 1 (by decide) (hts (.fieldLink RX7 38 "ByteShapesModel" "digits" "I") (List.mem_cons_of_mem _ wd_402)) (fun _ h9 => h9) rfl dX7_round_45 ?_
      refine k_ci (wr := [(mm, .inr (5, [.int (nI th), .int (nI dg), .int (nI PT), .int (nI PN), .int (nI n), .ref ma, .ref mb, .ref mc, .ref md, .ref me, .int (nI sz), .ref mf, .int (nI od), .int (nI sl), .int (nI t), .int (nI wr), .int (nI pl), .int (nI lo), .long (lN nm), .int vz, .ref mg, .ref mh]))]) (k_rs F (c_M_units l D cI cB cJ cS dg hdg) (va_cwS 1 hts (g_S wd_405 wd_406 wd_373 wd_407) rfl rfl rfl (by decide +kernel) ⟨Nat.le_of_ble_eq_true rfl, Nat.le_of_ble_eq_true rfl⟩) hK hP hD hS hA hZ [] rfl (by decide) rfl hl.1 rfl (Nat.le_of_ble_eq_true rfl) dX7_round_48 ⟨Nat.le_of_ble_eq_true rfl, Nat.le_of_ble_eq_true rfl⟩) hP hD hS hA [] [0] rfl rfl (by decide) (by decide) (fun r u9 H locs hw hP hD hS => ?_)
      subst hw
      have hP : va_P D kCl [(mm, .inr (5, [.int (nI th), .int (nI dg), .int (nI PT), .int (nI PN), .int (nI n), .ref ma, .ref mb, .ref mc, .ref md, .ref me, .int (nI sz), .ref mf, .int (nI od), .int (nI sl), .int (nI t), .int (nI wr), .int (nI pl), .int (nI lo), .long (lN nm), .int vz, .ref mg, .ref mh]))] H := hP
      have hD : va_D A [(mm, .inr (5, [.int (nI th), .int (nI dg), .int (nI PT), .int (nI PN), .int (nI n), .ref ma, .ref mb, .ref mc, .ref md, .ref me, .int (nI sz), .ref mf, .int (nI od), .int (nI sl), .int (nI t), .int (nI wr), .int (nI pl), .int (nI lo), .long (lN nm), .int vz, .ref mg, .ref mh]))] := hD
      refine W.widen (k := 0) (n := 0) (Nat.le_of_ble_eq_true rfl) (Nat.le_of_ble_eq_true rfl) ?_
      refine lv_i2l (v := lN (uD dg)) hx hb dX7_round_51 (nI_l (by have := uD_ok dg; omega)) ?_
      refine lv_lmul hx hb dX7_round_52 ?_
      obtain ⟨P, hP9⟩ : ∃ z, z = mP v (uD dg) := ⟨_, rfl⟩
      have hu9 := uD_ok dg
      have hPl := mP_lt (v := v) (u := uD dg) hu9.2
      rw [← hP9] at hPl
      refine k_l (show _ = lN P from by rw [hP9, lN_mul]; unfold mP; rw [if_pos (by omega)]) ?_
      refine lv_lstore (lv' := [(4, .long (lN P)), (0, .ref mm), (1, .long (lN v)), (3, .int (nI y))]) hx hb dX7_round_53 hl (by decide) rfl (fun ls hl => ?_)
      refine lv_lload_n hx hb dX7_round_55 rfl (lv_at hl 2 rfl) ?_
      refine k_cl (wr := [(mm, .inr (5, [.int (nI th), .int (nI dg), .int (nI PT), .int (nI PN), .int (nI n), .ref ma, .ref mb, .ref mc, .ref md, .ref me, .int (nI sz), .ref mf, .int (nI od), .int (nI sl), .int (nI t), .int (nI wr), .int (nI pl), .int (nI lo), .long (lN nm), .int vz, .ref mg, .ref mh]))]) (k_rs F (c_M_exponent l D cI cB cJ cS v hv) (va_cwS 1 hts (g_S wd_384 wd_385 wd_373 wd_386) rfl rfl rfl (by decide +kernel) ⟨Nat.le_of_ble_eq_true rfl, Nat.le_of_ble_eq_true rfl⟩) hK hP hD hS hA hZ [] rfl (by decide) rfl hl.1 rfl (Nat.le_of_ble_eq_true rfl) dX7_round_56 ⟨Nat.le_of_ble_eq_true rfl, Nat.le_of_ble_eq_true rfl⟩) hP hD hS hA [] [0] rfl rfl (by decide) (by decide) (fun r u9 H locs hw hP hD hS => ?_)
      subst hw
      have hP : va_P D kCl [(mm, .inr (5, [.int (nI th), .int (nI dg), .int (nI PT), .int (nI PN), .int (nI n), .ref ma, .ref mb, .ref mc, .ref md, .ref me, .int (nI sz), .ref mf, .int (nI od), .int (nI sl), .int (nI t), .int (nI wr), .int (nI pl), .int (nI lo), .long (lN nm), .int vz, .ref mg, .ref mh]))] H := hP
      have hD : va_D A [(mm, .inr (5, [.int (nI th), .int (nI dg), .int (nI PT), .int (nI PN), .int (nI n), .ref ma, .ref mb, .ref mc, .ref md, .ref me, .int (nI sz), .ref mf, .int (nI od), .int (nI sl), .int (nI t), .int (nI wr), .int (nI pl), .int (nI lo), .long (lN nm), .int vz, .ref mg, .ref mh]))] := hD
      refine W.widen (k := 0) (n := 0) (Nat.le_of_ble_eq_true rfl) (Nat.le_of_ble_eq_true rfl) ?_
      refine lv_lconst (v := lN 0) hx hb dX7_round_59 (by decide) ?_
      refine W.lcmp hx hb dX7_round_60 ?_
      refine k_lcmpN_le (tgt := 75) (by omega) (by omega) hx hb dX7_round_61 (by decide) (fun c348 => ?_) (fun c348 => ?_)
      · skip
        exact absurd c348 (by omega)
      · skip
        refine lv_lload_n hx hb dX7_round_64 rfl (lv_at hl 2 rfl) ?_
        refine k_cl (wr := [(mm, .inr (5, [.int (nI th), .int (nI dg), .int (nI PT), .int (nI PN), .int (nI n), .ref ma, .ref mb, .ref mc, .ref md, .ref me, .int (nI sz), .ref mf, .int (nI od), .int (nI sl), .int (nI t), .int (nI wr), .int (nI pl), .int (nI lo), .long (lN nm), .int vz, .ref mg, .ref mh]))]) (k_rs F (c_M_exponent l D cI cB cJ cS v hv) (va_cwS 1 hts (g_S wd_384 wd_385 wd_373 wd_386) rfl rfl rfl (by decide +kernel) ⟨Nat.le_of_ble_eq_true rfl, Nat.le_of_ble_eq_true rfl⟩) hK hP hD hS hA hZ [] rfl (by decide) rfl hl.1 rfl (Nat.le_of_ble_eq_true rfl) dX7_round_65 ⟨Nat.le_of_ble_eq_true rfl, Nat.le_of_ble_eq_true rfl⟩) hP hD hS hA [] [0] rfl rfl (by decide) (by decide) (fun r u9 H locs hw hP hD hS => ?_)
        subst hw
        have hP : va_P D kCl [(mm, .inr (5, [.int (nI th), .int (nI dg), .int (nI PT), .int (nI PN), .int (nI n), .ref ma, .ref mb, .ref mc, .ref md, .ref me, .int (nI sz), .ref mf, .int (nI od), .int (nI sl), .int (nI t), .int (nI wr), .int (nI pl), .int (nI lo), .long (lN nm), .int vz, .ref mg, .ref mh]))] H := hP
        have hD : va_D A [(mm, .inr (5, [.int (nI th), .int (nI dg), .int (nI PT), .int (nI PN), .int (nI n), .ref ma, .ref mb, .ref mc, .ref md, .ref me, .int (nI sz), .ref mf, .int (nI od), .int (nI sl), .int (nI t), .int (nI wr), .int (nI pl), .int (nI lo), .long (lN nm), .int vz, .ref mg, .ref mh]))] := hD
        refine W.widen (k := 0) (n := 0) (Nat.le_of_ble_eq_true rfl) (Nat.le_of_ble_eq_true rfl) ?_
        refine lv_ldc2 (v := lN 1075) hx hb hown (hts (.constantLong RX7 96 (1075)) (List.mem_cons_of_mem _ wd_403)) dX7_round_68 ?_
        refine lv_lsub hx hb dX7_round_71 ?_
        refine k_l (show _ = -lN (1075 - rE v) from ng_sub (by omega)) ?_
        refine lv_goto (tgt := 78) hx hb dX7_round_72 (by decide) ?_
        obtain ⟨h, hh⟩ : ∃ z, z = mH v := ⟨_, rfl⟩
        have hh2 : 1 ≤ h ∧ h ≤ 1075 := by rw [hh]; unfold mH; split <;> omega
        refine k_l (show _ = -lN h from by rw [hh]; unfold mH; rw [if_pos (by omega)]) ?_
        refine lv_lstore (lv' := [(6, .long (-lN h)), (4, .long (lN P)), (0, .ref mm), (1, .long (lN v)), (3, .int (nI y))]) hx hb dX7_round_78 hl (by decide) rfl (fun ls hl => ?_)
        exact jp80 P h _ _ _ (hP9) (hh) (hP.sub [0] rfl) (hD.sub [0] (by decide) rfl) hS (lv_sub hl [2, 3, 4, 1, 0] rfl)
  · skip
    exact absurd c345 (by omega)

