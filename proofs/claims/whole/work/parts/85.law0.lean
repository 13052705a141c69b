/-! THE CLAIM OUT OF ONE WALK OF THE LAW'S BODY. Your part is whole_start (and what it stands on); all else here is the same for every law, but numbers. -/
def R_law : String := "ByteShapesLaw"
def lw_P (b : Addr) (xs : List Int32) (args : Array Value) (s : State) : Prop := args = #[.ref b] ∧ s.IntsAt b xs ∧ xs.length ≤ 3075 ∧ (Jvm.Cond.and given_1 narrow_1).before args s = true
def lw_Q (_ : Array Value) (s : State) (o : Outcome) (t : State) : Prop := o = .returned (some (.int 1)) ∧ Framed s o t [] 601024 7293000
def lw_Z (below : List Frame) (a : Array Value) (s : State) : State → Prop := fun t => ∃ o, t.status = .running ∧ Ended t below o ∧ lw_Q a s o t
/-- the law's own end, with 1 on the stack, nothing written that was there before, its room as the claim has it -/
theorem lw_ret {p : Program} {l : Launch} {e : Env} {s : State} {m : MethodId} {below : List Frame} {meth : Method} {c : Code} {b : Nat} (hx : p.tables.exec = Jvm.exec) (hb : c.code = code) (hr : meth.sig.returnType = ret) (hlocks : meth.locks = false) {pc : Nat} {H : Heap} {ls : Array Slot} (hdg : decode code pc = .ok (.ireturn, 1)) : W p l e room_1 s m #[Value.ref b] below meth c H [] 601024 7293000 (lw_Z below #[Value.ref b] s) (F0 m pc ls [.int 1]) := by
  intro T hT X
  obtain ⟨fs, hret, hrun, hended, hW, hframe⟩ := X.leave (v := some (.int 1)) (hlocks := hlocks) (fun h => by rw [hr] at h; cases h)
  have hmeth' : T.vm.method? m = some meth := X.method'
  refine ⟨T.setFrames fs, ?_, .returned (some (.int 1)), hrun, hended, rfl, ⟨_, rfl⟩, hW, hframe⟩
  jvm_step X.here [X.here.top, hx, hb, hdg, hmeth', hr, ret, narrow_b1]
  (try refine ⟨rfl, ?_⟩); (try refine ⟨rfl, ?_⟩)
  first | (intro acts; rw [hret _ acts rfl rfl rfl]) | rw [hret _ _ rfl rfl rfl]
  exact Steps.refl _
/-- what holds at the law's entry: the machine, the code, the tables' words (any of lw_tbl by 'hts w (by decide +kernel)'), the script of L ints xs at the cell b, what the Statement gives of the start (any of its parts by flat_of_before) -/
def lw_At (p : Program) (s : State) (m : MethodId) (meth : Method) (c : Code) (b L : Nat) (xs : Nat → Int32) : Prop :=
  p.tables.exec = Jvm.exec ∧ c.code = code ∧ meth.sig.returnType = ret ∧ c.maxLocals = 7 ∧ s.vm.findClass R_law = some m.cls ∧ (∀ w ∈ lw_tbl, w.before #[Value.ref b] s = true) ∧ va_X b L xs s s.heap ∧ b < s.heap.size ∧ meth.locks = false ∧ (Jvm.Cond.and given_1 narrow_1).before #[Value.ref b] s = true
theorem bw_ok9 {x z : Nat} (y : Int32) (hxz : x < z) (hz : z < 2 ^ 31) : ∃ P, bw (nI x) y (nI z) = nI P ∧ x ≤ P ∧ P ≤ z := by
  by_cases h1 : nI x ≤ y
  · by_cases h2 : y ≤ nI z
    · have a1 := Int32.le_iff_toInt_le.mp h1
      have a2 := Int32.le_iff_toInt_le.mp h2
      rw [nI_toInt (by omega)] at a1
      rw [nI_toInt (by omega)] at a2
      refine ⟨y.toInt.toNat, ?_, by omega, by omega⟩
      rw [bw_in h1 h2]
      apply Int32.toInt_inj.mp
      rw [nI_toInt (by omega)]
      omega
    · exact ⟨z, bw_hi (nI_lt hxz hz) h2, by omega, Nat.le_refl _⟩
  · exact ⟨x, bw_lo h1 (nI_lt hxz hz), Nat.le_refl _, by omega⟩
section KW
variable {p : Program} {l : Launch} {e : Env} {R : Room} {s : State} {m : MethodId} {args : Array Value} {below : List Frame} {meth : Method} {c : Code} {H : Heap} {locs : List Loc} {cells slots : Nat}
variable {D : va_G} {tys : kTys} {A : Nat → Prop} {ws wc : va_W} {cc bytes : ByteArray} {nL maxL n index pc : Nat} {ret : Option FieldType} {own : String} {y : MethodName} {wy Ts : List Cond} {rm : Room} {As rest st0 : List Value} {ls : Array Slot}
  {Qf : (Nat → Prop) → Array Value → State → Outcome → State → Prop} {hh : List (Nat × Nat × Nat × Nat)}
/-- a static call of a method with a table of what it catches -/
theorem k_rsW (F : CallFix p m c cc nL s args Ts own) (hM : kM l y wy rm D tys As wc Qf) (cw : vx_CSW R s args own index y bytes maxL ret hh wy rm rm.cells rm.slots n) (hK : va_K D kCl tys s) (hP : va_P D kCl ws H) (hD : va_D A ws) (hS : va_S A s.heap H locs) (hA : ∀ q, s.heap.size ≤ q → A q) (hZ : kZ A s s.heap)
    (isC : List Nat) (hC : isC.map (fun i => ws[i]?) = wc.map some) (hnd : va_nd isC = true)
    (hna : As.length = n) (hsize : ls.size = nL) (hst : st0 = As.reverse ++ rest) (hW : (rest.map fun v => v.category).sum ≤ 8) (hdg : decode cc pc = .ok (.invokestatic index, 3)) (hf : cells + rm.cells ≤ R.cells ∧ slots + rm.slots ≤ R.slots) :
    va_Run p l e R s m args below meth c H locs cells slots rm.cells rm.slots (F0 m pc ls st0) rest (Qf (va_A wc H.size) As.toArray) (va_A wc H.size) :=
  vx_runSW (As := As) (rest := rest) F (hM H.size) cw ⟨k_blind, k_pre hK hP hD hS hA hZ isC hC hnd⟩ rfl hna hsize hst (lv_room hW) hdg hf
end KW
/-! the law's loop: the world, what holds of it -/
abbrev lwW (cI cB cJ cS : ClassId) (x sa a ab rs rsb sh0 sn0 sv0 sh1 sn1 sv1 sh2 sn2 sv2 sh3 sn3 sv3 rd jl jd wt mm ma mb mc md me mf mg mh o dg PT PN : Nat) (f : Nat → Option Nat) (n : Nat) (b : Nat → Nat) (sz : Nat) (rb : Nat → Nat) (pn0 vn0 : Nat) (pf0 : Nat → Nat) (fv0 : Nat → Int32) (pn1 vn1 : Nat) (pf1 : Nat → Nat) (fv1 : Nat → Int32) (pn2 vn2 : Nat) (pf2 : Nat → Nat) (fv2 : Nat → Int32) (pn3 vn3 : Nat) (pf3 : Nat → Nat) (fv3 : Nat → Int32) (w tc lc wr pl : Nat) (cl cd : Nat → Nat) (vo wo so ro : Value) (zo zp zq : Int32) (th od sl tm lm nm : Nat) (pm pd pq ok ol : Nat → Nat) (fx : Nat → Int32) (vz : Int32) (fo : Nat → Int64) : va_W := [(x, .inr (4, [.ref sa, .ref a, .ref rs, .ref rd, .ref wt])), (sa, .inl (cS, 4, .inr (.inr (.inr (.inr f))))), (a, .inr (1, [.ref ab, .int (nI n)])), (ab, .inl (cB, 65536, .inl (bF b))), (rs, .inr (1, [.ref rsb, .int (nI sz)])), (rsb, .inl (cB, 65536, .inl (bF rb))), (sh0, .inr (2, [.ref sn0, .ref sv0, .int (nI pn0), .int (nI vn0)])), (sn0, .inl (cI, PN, .inl (iF pf0))), (sv0, .inl (cI, 2 * PT, .inl fv0)), (sh1, .inr (2, [.ref sn1, .ref sv1, .int (nI pn1), .int (nI vn1)])), (sn1, .inl (cI, PN, .inl (iF pf1))), (sv1, .inl (cI, 2 * PT, .inl fv1)), (sh2, .inr (2, [.ref sn2, .ref sv2, .int (nI pn2), .int (nI vn2)])), (sn2, .inl (cI, PN, .inl (iF pf2))), (sv2, .inl (cI, 2 * PT, .inl fv2)), (sh3, .inr (2, [.ref sn3, .ref sv3, .int (nI pn3), .int (nI vn3)])), (sn3, .inl (cI, PN, .inl (iF pf3))), (sv3, .inl (cI, 2 * PT, .inl fv3)), (rd, .inr (0, [.int (nI (uD dg)), .ref jl, .ref jd, .int (nI w), vo, wo, .int (nI tc), .int (nI lc), .int (nI wr), .int (nI pl)])), (jl, .inl (cJ, 54, .inr (.inl (lF cl)))), (jd, .inl (cI, 54, .inl (iF cd))), (wt, .inr (3, [.int (nI (uD dg)), so, ro, .int zo, .int zp, .int zq])), (mm, .inr (5, [.int (nI th), .int (nI dg), .int (nI PT), .int (nI PN), .int (nI n), .ref ma, .ref mb, .ref mc, .ref md, .ref me, .int (nI sz), .ref mf, .int (nI od), .int (nI sl), .int (nI tm), .int (nI wr), .int (nI pl), .int (nI lm), .long (lN nm), .int vz, .ref mg, .ref mh])), (ma, .inl (cI, 65536, .inl (iF b))), (mb, .inl (cI, 16384, .inl (iF pm))), (mc, .inl (cI, 4, .inl (iF pd))), (md, .inl (cI, 32768, .inl fx)), (me, .inl (cI, 4, .inl (iF pq))), (mf, .inl (cI, 131072, .inl (iF rb))), (mg, .inl (cI, 104, .inl (iF ok))), (mh, .inl (cJ, 104, .inr (.inl (lF ol)))), (o, .inl (cJ, 1, .inr (.inl fo)))]
def LI (PN PT : Nat) (n : Nat) (b : Nat → Nat) (sz : Nat) (rb : Nat → Nat) (lc lm wr pl : Nat) (cl ok ol pd pq pm : Nat → Nat) (fx : Nat → Int32) (pn0 vn0 : Nat) (pf0 : Nat → Nat) (fv0 : Nat → Int32) (pn1 vn1 : Nat) (pf1 : Nat → Nat) (fv1 : Nat → Int32) (pn2 vn2 : Nat) (pf2 : Nat → Nat) (fv2 : Nat → Int32) (pn3 vn3 : Nat) (pf3 : Nat → Nat) (fv3 : Nat → Int32) : Prop := (n ≤ 65536) ∧ (∀ j, b j < 256) ∧ (sz ≤ 65536) ∧ (∀ j, rb j < 256) ∧ (lc < 2) ∧ (lm < 2) ∧ (wr ≤ 9) ∧ (pl ≤ 65536) ∧ (∀ i, cl i < 2 ^ 32) ∧ (∀ j, ok j < 2 ^ 31) ∧ (∀ j, ol j < 2 ^ 32) ∧ (Sl 0 PN PT pd pq pm fx pn0 vn0 pf0 fv0) ∧ (Sl 1 PN PT pd pq pm fx pn1 vn1 pf1 fv1) ∧ (Sl 2 PN PT pd pq pm fx pn2 vn2 pf2 fv2) ∧ (Sl 3 PN PT pd pq pm fx pn3 vn3 pf3 fv3)
abbrev vsW : List Cond := Cond.initialized "ByteShapes" :: kAll
def lwC (p : Program) (s : State) (m : MethodId) (meth : Method) (c : Code) (D : va_G) (cI cB cJ cS : ClassId) (A : Nat → Prop) (bs L : Nat) (xs : Nat → Int32) (x sa a ab rs rsb sh0 sn0 sv0 sh1 sn1 sv1 sh2 sn2 sv2 sh3 sn3 sv3 rd jl jd wt mm ma mb mc md me mf mg mh o dg PT PN : Nat) (f : Nat → Option Nat) : Prop := p.tables.exec = Jvm.exec ∧ c.code = cL_law ∧ c.maxLocals = 7 ∧ s.vm.findClass RL = some m.cls ∧ (∀ w ∈ vsW, w.before #[Value.ref bs] s = true) ∧ va_X bs L xs s s.heap ∧ bs < s.heap.size ∧ ¬ A bs ∧ (∀ q : Nat, s.heap.size ≤ q → A q) ∧ meth.locks = false ∧ va_K D kCl (kT cI cB cJ cS) s ∧ kZ A s s.heap ∧ f 0 = some sh0 ∧ f 1 = some sh1 ∧ f 2 = some sh2 ∧ f 3 = some sh3 ∧ PN ≤ 4096 ∧ PT ≤ 4096 ∧ 1 ≤ PT ∧ dg < 4
def lwK (p : Program) (l : Launch) (e : Env) (s : State) (m : MethodId) (below : List Frame) (meth : Method) (c : Code) (D : va_G) (cI cB cJ cS : ClassId) (A : Nat → Prop) (bs : Nat) (x sa a ab rs rsb sh0 sn0 sv0 sh1 sn1 sv1 sh2 sn2 sv2 sh3 sn3 sv3 rd jl jd wt mm ma mb mc md me mf mg mh o dg PT PN : Nat) (f : Nat → Option Nat) (pc i9 C9 S9 : Nat) : Prop := ∀ (n : Nat) (b : Nat → Nat) (sz : Nat) (rb : Nat → Nat) (pn0 vn0 : Nat) (pf0 : Nat → Nat) (fv0 : Nat → Int32) (pn1 vn1 : Nat) (pf1 : Nat → Nat) (fv1 : Nat → Int32) (pn2 vn2 : Nat) (pf2 : Nat → Nat) (fv2 : Nat → Int32) (pn3 vn3 : Nat) (pf3 : Nat → Nat) (fv3 : Nat → Int32) (w tc lc wr pl : Nat) (cl cd : Nat → Nat) (vo wo so ro : Value) (zo zp zq : Int32) (th od sl tm lm nm : Nat) (pm pd pq ok ol : Nat → Nat) (fx : Nat → Int32) (vz : Int32) (fo : Nat → Int64), LI PN PT n b sz rb lc lm wr pl cl ok ol pd pq pm fx pn0 vn0 pf0 fv0 pn1 vn1 pf1 fv1 pn2 vn2 pf2 fv2 pn3 vn3 pf3 fv3 → ∀ (H : Heap) (locs : List Loc) (ls : Array Slot), va_P D kCl (lwW cI cB cJ cS x sa a ab rs rsb sh0 sn0 sv0 sh1 sn1 sv1 sh2 sn2 sv2 sh3 sn3 sv3 rd jl jd wt mm ma mb mc md me mf mg mh o dg PT PN f n b sz rb pn0 vn0 pf0 fv0 pn1 vn1 pf1 fv1 pn2 vn2 pf2 fv2 pn3 vn3 pf3 fv3 w tc lc wr pl cl cd vo wo so ro zo zp zq th od sl tm lm nm pm pd pq ok ol fx vz fo) H → va_D A (lwW cI cB cJ cS x sa a ab rs rsb sh0 sn0 sv0 sh1 sn1 sv1 sh2 sn2 sv2 sh3 sn3 sv3 rd jl jd wt mm ma mb mc md me mf mg mh o dg PT PN f n b sz rb pn0 vn0 pf0 fv0 pn1 vn1 pf1 fv1 pn2 vn2 pf2 fv2 pn3 vn3 pf3 fv3 w tc lc wr pl cl cd vo wo so ro zo zp zq th od sl tm lm nm pm pd pq ok ol fx vz fo) → va_S A s.heap H locs → lv_has ls 7 [(0, .ref bs), (1, .ref x), (2, .ref mm), (3, .ref o), (4, .int (nI i9))] → W p l e room_1 s m #[Value.ref bs] below meth c H locs C9 S9 (lw_Z below #[Value.ref bs] s) (F0 m pc ls [])
set_option maxRecDepth 100000 in
set_option maxHeartbeats 4000000 in
theorem c_L_cell (l : Launch) (bs L : Nat) (xs : Nat → Int32) (k : Nat) (hL : L ≤ 3075) (hk : k < 3) (sz : Nat) (hbs : bs < sz) : Met l yL_cell vsL_cell ({ frames := 0, cells := 0, slots := 0, locals := 0 }) (va_Pc [.ref bs, .int (nI k)] (fun U => U.heap.size = sz ∧ va_X bs L xs U U.heap)) (va_Qi (fun r (_ : Unit) => r = (if k < L then xs k else 0)) (fun _ _ => True) (va_A [] sz)) 0 0 (va_A [] sz) := by
  refine Met.ofW (cc := cL_cell) (maxL := 2) (ret := some .int) (by decide) rfl ?_
  intro p e s m args below meth c s₁ B hml hv
  obtain ⟨rfl, hsz, hX⟩ := hv
  subst hsz
  have hx := B.exec
  have hb : c.code = cL_cell := B.bytes
  have hr := B.returns
  have hlocks := B.notSynchronized
  have hS : va_S (va_A [] s.heap.size) s.heap s.heap [] := va_S.rf
  have hbA : ¬ va_A [] s.heap.size bs := by
    rintro (⟨k, e, h⟩ | h)
    · simp at h
    · omega
  have hl := lv_entry ([.ref bs, .int (nI k)]) (n := 2) (Nat.le_of_ble_eq_true rfl)
  rw [lg_entry_eq]
  generalize (lg_sl ([.ref bs, .int (nI k)]) ++ List.replicate (2 - (lg_sl ([.ref bs, .int (nI k)])).length) Slot.unset).toArray = ls at hl ⊢
  have hl : lv_has ls 2 [(0, .ref bs), (1, .int (nI k))] := hl
  refine lv_iload_n hx hb dL_cell_0 rfl (lv_at hl 1 rfl) ?_
  refine lv_aload_n hx hb dL_cell_1 rfl (lv_at hl 0 rfl) ?_
  refine va_slen hx hb hX hbs hbA hS dL_cell_2 ?_
  refine k_icmp_ge (a := k) (b := L) (tgt := 12) (by omega) (by omega) hx hb dL_cell_3 (by decide) (fun h => ?_) (fun h => ?_)
  · refine lv_iconst (v := nI 0) hx hb dL_cell_12 (by decide) ?_
    exact W.zret hx hb hr (by rfl) (fun t ht hW => ⟨⟨_, (), rfl, (by rw [if_neg (by omega)]; rfl), trivial⟩, hS.F ht⟩) hS.2.2 dL_cell_13 hlocks
  · refine lv_aload_n hx hb dL_cell_6 rfl (lv_at hl 0 rfl) ?_
    refine lv_iload_n hx hb dL_cell_7 rfl (lv_at hl 1 rfl) ?_
    refine va_sld hx hb hX hbs hbA hS (vp_in_nI (by omega) (by omega)) dL_cell_8 ?_
    refine lv_goto (tgt := 13) hx hb dL_cell_9 (by decide) ?_
    exact W.zret hx hb hr (by exact vp_nar_int _) (fun t ht hW => ⟨⟨_, (), rfl, (by rw [if_pos (by omega), nI_clamp (by omega)]), trivial⟩, hS.F ht⟩) hS.2.2 dL_cell_13 hlocks
section KX
variable {p : Program} {l : Launch} {e : Env} {R : Room} {s : State} {m : MethodId} {args : Array Value} {below : List Frame} {meth : Method} {c : Code} {H : Heap} {locs : List Loc} {cells slots : Nat} {Q : State → Prop}
variable {D : va_G} {A : Nat → Prop} {ws : va_W} {cc : ByteArray} {nL index pc : Nat} {own : String} {Ts : List Cond} {rest : List Value} {ls : Array Slot}
theorem k_cell (F : CallFix p m c cc nL s args Ts own) (cw : CallB R s args own index yL_cell cL_cell 2 (some .int) vsL_cell ({ frames := 0, cells := 0, slots := 0, locals := 0 }) 0 0 2 ∧ (Cond.static yL_cell).before args s = true) (hP : va_P D kCl ws H) (hD : va_D A ws) (hS : va_S A s.heap H locs) (hA : ∀ q, s.heap.size ≤ q → A q)
    {bs L : Nat} {xs : Nat → Int32} (k : Nat) (hX : va_X bs L xs s s.heap) (hbl : bs < s.heap.size) (hbA : ¬ A bs) (hL : L ≤ 3075) (hk : k < 3) (hsize : ls.size = nL) (hW : (rest.map fun v => v.category).sum ≤ 8) (hdg : decode cc pc = .ok (.invokestatic index, 3)) (hf : cells + 0 ≤ R.cells ∧ slots + 0 ≤ R.slots)
    (kk : ∀ (H1 : Heap) (locs1 : List Loc), va_P D kCl ws H1 → va_D A ws → va_S A s.heap H1 locs1 → W p l e R s m args below meth c H1 locs1 cells slots Q (F0 m (pc + 3) ls (.int (if k < L then xs k else 0) :: rest))) : W p l e R s m args below meth c H locs cells slots Q (F0 m pc ls (.int (nI k) :: .ref bs :: rest)) := by
  have hFc : ∀ q, va_A [] H.size q → A q := by
    rintro q (⟨k, e, h⟩ | h)
    · simp at h
    · exact hA q (Nat.le_trans hS.1 h)
  refine va_calli (va_runS (As := [.ref bs, .int (nI k)]) (rest := rest) F (c_L_cell l bs L xs k hL hk H.size (Nat.lt_of_lt_of_le hbl hS.1)) cw ⟨fun a U g mk q => ?_, fun U hU hW => ?_⟩ rfl rfl hsize rfl (lv_room hW) hdg hf) hS (fun q _ h => hFc q h) hFc (fun r u t H1 locs1 ht hvm hw hB hz1 hk1 hS1 => ?_)
  · obtain ⟨q0, q1, q2⟩ := q
    exact ⟨q0, q1, va_X.moved (u := U) (U := U.calling g mk a) (Vm.Alike.refl U.vm) q2⟩
  · exact ⟨rfl, by rw [hU], by rw [hU]; exact va_X.moved hW.alike (va_X.kept hX (hS.2.1 bs hbl hbA))⟩
  · have hP1 : va_P D kCl ws H1 := hP.kept (fun k x hx => hk1 x.1 ((hP k x hx).lt) (by
      rintro (⟨_, _, h⟩ | h)
      · simp at h
      · exact absurd (hP k x hx).lt (Nat.not_lt.mpr h)))
    rw [hw]
    exact kk H1 locs1 hP1 hD hS1
end KX

