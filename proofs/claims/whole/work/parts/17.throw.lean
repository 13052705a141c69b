/-! calls that throw; new arrays of a class that is known -/
section KX
def kXC (D : va_G) (tys : kTys) (E : String) (w' : va_W) (A : Nat → Prop) : String → State → State → Prop := vx_X (S := Unit) (fun _ => True) (fun E' _ t => E' = E ∧ kAft D tys A w' t) A
/-- a contract of a call that throws E, and leaves w' -/
def kX (l : Launch) (y : MethodName) (ws : List Cond) (rm : Room) (D : va_G) (tys : kTys) (av : List Value) (w : va_W) (E : String) (w' : va_W) : Prop :=
  ∀ sz, vx_Met l y ws rm (va_Pc av (kPre D tys w sz)) (fun _ _ _ _ => False) (kXC D tys E w' (va_A w sz)) rm.cells rm.slots (va_A w sz)
variable {p : Program} {l : Launch} {e : Env} {R : Room} {s : State} {m : MethodId} {args : Array Value} {below : List Frame} {meth : Method} {c : Code} {H : Heap} {locs : List Loc} {cells slots : Nat} {Q : State → Prop}
variable {D : va_G} {tys : kTys} {A : Nat → Prop} {ws wc wr wo w w' : va_W} {cc bytes : ByteArray} {nL maxL n index mc ms pc : Nat} {ret : Option FieldType} {own C host E : String} {y : MethodName} {wy Ts : List Cond} {rm : Room} {b : Nat} {As rest st0 : List Value} {ls : Array Slot} {a : Array Value}
theorem k_rvX (F : CallFix p m c cc nL s args Ts own) (hM : kX l y wy rm D tys (.ref b :: As) wc E wo) (cw : CallW R s args own C index y bytes maxL ret wy rm rm.cells rm.slots n) (hK : va_K D kCl tys s) (hP : va_P D kCl ws H) (hD : va_D A ws) (hS : va_S A s.heap H locs) (hA : ∀ q, s.heap.size ≤ q → A q) (hZ : kZ A s s.heap)
    (isC : List Nat) (hC : isC.map (fun i => ws[i]?) = wc.map some) (hnd : va_nd isC = true) (q0 : Nat) {ci : Nat} {r : vw_C} {fs : List Value} (he : ws[q0]? = some (b, .inr (ci, fs))) (hc : kCl[ci]? = some r) (hrC : r.1 = C)
    (hna : As.length = n) (hsize : ls.size = nL) (hst : st0 = As.reverse ++ .ref b :: rest) (hW : (rest.map fun v => v.category).sum ≤ 8) (hdg : decode cc pc = .ok (.invokevirtual index, 3)) (hf : cells + rm.cells ≤ R.cells ∧ slots + rm.slots ≤ R.slots) :
    vx_Run p l e R s m args below meth c H locs cells slots rm.cells rm.slots (F0 m pc ls st0) rest (fun _ _ _ => False) (kXC D tys E wo (va_A wc H.size)) (va_A wc H.size) := by
  subst hrC
  exact vx_runV (As := As) (rest := rest) F (hM H.size) cw ⟨k_blind, va_recv hK hP hc he, k_pre hK hP hD hS hA hZ isC hC hnd⟩ rfl hna hsize hst (lv_room hW) hdg hf
theorem k_rsX (F : CallFix p m c cc nL s args Ts own) (hM : kX l y wy rm D tys As wc E wo) (cw : CallB R s args own index y bytes maxL ret wy rm rm.cells rm.slots n ∧ (Cond.static y).before args s = true) (hK : va_K D kCl tys s) (hP : va_P D kCl ws H) (hD : va_D A ws) (hS : va_S A s.heap H locs) (hA : ∀ q, s.heap.size ≤ q → A q) (hZ : kZ A s s.heap)
    (isC : List Nat) (hC : isC.map (fun i => ws[i]?) = wc.map some) (hnd : va_nd isC = true)
    (hna : As.length = n) (hsize : ls.size = nL) (hst : st0 = As.reverse ++ rest) (hW : (rest.map fun v => v.category).sum ≤ 8) (hdg : decode cc pc = .ok (.invokestatic index, 3)) (hf : cells + rm.cells ≤ R.cells ∧ slots + rm.slots ≤ R.slots) :
    vx_Run p l e R s m args below meth c H locs cells slots rm.cells rm.slots (F0 m pc ls st0) rest (fun _ _ _ => False) (kXC D tys E wo (va_A wc H.size)) (va_A wc H.size) :=
  vx_runS (As := As) (rest := rest) F (hM H.size) cw ⟨k_blind, k_pre hK hP hD hS hA hZ isC hC hnd⟩ rfl hna hsize hst (lv_room hW) hdg hf
/-- behind a call that has thrown: the callee's world beside the rest, the exception at q9 -/
theorem k_cx (hr : vx_Run p l e R s m args below meth c H locs cells slots mc ms (F0 m pc ls st0) rest (fun _ _ _ => False) (kXC D tys E wo (va_A wc H.size)) (va_A wc H.size)) (hP : va_P D kCl ws H) (hD : va_D A ws) (hS : va_S A s.heap H locs) (hA : ∀ q, s.heap.size ≤ q → A q)
    (isC isR : List Nat) (hC : isC.map (fun i => ws[i]?) = wc.map some) (hR : isR.map (fun i => ws[i]?) = wr.map some) (hn : va_nd isR = true) (hdis : ∀ i ∈ isR, i ∉ isC)
    (kk : ∀ (q9 : Addr) (ce : Cell) (H1 : Heap) (locs1 : List Loc), va_P D kCl (wr ++ wo) H1 → va_D A (wr ++ wo) → va_S A s.heap H1 locs1 → H1[q9]? = some ce → ce.vm = .none → s.vm.findClass E = some ce.cls → vx_W p l e R s m args below meth c H1 locs1 (cells + mc) (slots + ms) Q (F0 m pc ls rest) q9) : W p l e R s m args below meth c H locs cells slots Q (F0 m pc ls st0) := by
  have hFc := va_free (wc := wc) hD hS hA isC hC
  intro T hT X
  rcases hr T hT X with ⟨v, st₀, t, T', L, h0, X', hL, e1, e2, hF, st⟩ | ⟨q, st₀, t, T', L, E9, ce, h0, X', hL, e1, e2, ⟨u, hp, ⟨hE, hP1, hK1, hD1⟩, hF⟩, hce, hcv, hcl, st⟩
  · exact hF.elim
  · subst hE
    obtain ⟨k1, k2, k3⟩ := vx_keep h0 e1 hS (fun q _ h => hFc q h) hFc hL hF
    rw [← e1] at hP1
    obtain ⟨hP2, hD2⟩ := va_join hP hD isC isR hC hR hn hdis k2 hFc hP1 hD1
    obtain ⟨t2, a1, b1⟩ := kk q ce T'.heap (locs ++ L) hP2 hD2 k3 (by rw [e1]; exact hce) hcv hcl T' rfl X'
    exact ⟨t2, st.trans a1, b1⟩
/-- it goes on to the caller -/
theorem k_out {Qc : Array Value → State → Outcome → State → Prop} {ce : Cell} {q : Addr} (hxt : ∀ x ∈ c.exceptionTable.toList, False) (hlocks : meth.locks = false) (hcell : H[q]? = some ce) (hv : ce.vm = .none) (hcl : s.vm.findClass E = some ce.cls)
    (hK : va_K D kCl tys s) (hP : va_P D kCl w H) (hD : va_D A w) (hS : va_S A s.heap H locs) (hw : w = w') (hc : cells ≤ mc) (hs : slots ≤ ms) :
    vx_W p l e R s m args below meth c H locs cells slots (vx_MQ below Qc (kXC D tys E w' A) args s mc ms A) (F0 m pc ls rest) q := by
  subst hw
  exact vx_out (fun x h => (hxt x h).elim) hlocks hcell hv hcl (fun t ht ha => ⟨(), trivial, ⟨rfl, by rw [ht]; exact hP, va_K.moved ha hK, hD⟩, hS.F ht⟩) hS.2.2 hc hs
/-- 'throw new E("text")' that nobody catches here -/
theorem k_thr {Qc : Array Value → State → Outcome → State → Prop} {text : String} {names : List String} {ik is ic : Nat} (hx : p.tables.exec = Jvm.exec) (hb : c.code = cc) (hl9 : l.stackTraces = false) (hown : s.vm.findClass own = some m.cls) (hE : Bundle.fit E = true) (hnames : ∀ n ∈ names, Bundle.fit n = true)
    (hk : (Cond.classLink own ik E).before args s = true) (hini : (Cond.initialized E).before args s = true) (hstr : ∃ sa : Nat, vk_R own is text sa s) (hat : ∀ w ∈ vx_atS own ic E names, w.before args s = true)
    (hgood : ∀ w ∈ Cond.classLink own ik E :: Cond.initialized E :: vx_atS own ic E names, vx_ot w = true)
    (hZ : kZ A s s.heap) (hK : va_K D kCl tys s) (hP : va_P D kCl w H) (hD : va_D A w) (hS : va_S A s.heap H locs) (hsize : ls.size = c.maxLocals)
    (d0 : decode cc pc = .ok (.new ik, 3)) (d3 : decode cc (pc + 3) = .ok (.dup, 1)) (d4 : decode cc (pc + 4) = .ok (.ldc is, 2)) (d6 : decode cc (pc + 6) = .ok (.invokespecial ic, 3)) (d9 : decode cc (pc + 9) = .ok (.athrow, 1))
    (hxt : ∀ x ∈ c.exceptionTable.toList, False) (hfr : names.length + 3 < R.frames) (hlo : (rest.map fun v => v.category).sum + (13 * (names.length + 1) + 43) ≤ R.locals) (hc : cells + 1 ≤ R.cells) (hs : slots + 6 ≤ R.slots) (hlocks : meth.locks = false) (hw : w = w') (hc2 : cells + 1 ≤ mc) (hs2 : slots + 6 ≤ ms) :
    W p l e R s m args below meth c H locs cells slots (vx_MQ below Qc (kXC D tys E w' A) args s mc ms A) (F0 m pc ls rest) := by
  subst hw
  obtain ⟨sa, hsa⟩ := hstr
  exact vx_throwS (own := own) (cls := E) (names := names) hx hb hl9 hown hE hnames hk hini hsa hat hgood hZ.1 hZ.2.1 hS hsize d0 d3 d4 d6 d9 (fun x h => (hxt x h).elim) hfr hlo hc hs hlocks
    (fun t ha hsz hkk => ⟨(), trivial, ⟨rfl, hP.kept (fun k q hq => hkk q.1 (hP k q hq).lt), va_K.moved ha hK, hD⟩, Nat.le_trans hS.1 hsz, fun q h1 h2 => (hkk q (Nat.lt_of_lt_of_le h1 hS.1)).trans (hS.2.1 q h1 h2)⟩) hS.2.2 hc2 hs2
end KX
/-- a throwing method's walk begins -/
theorem k_ofX {l : Launch} {y : MethodName} {wsy ws' : List Cond} {rm : Room} {D : va_G} {tys : kTys} {av : List Value} {w w' : va_W} {E : String} {cc : ByteArray} {maxL : Nat} {ret : Option FieldType}
    (hy : plainName y.cls = true) (hw : wsy = Cond.code y cc maxL ret :: ws') (hlen : (lg_sl av).length ≤ maxL)
    (body : ∀ (p : Program) (e : Env) (s : State) (m : MethodId) (below : List Frame) (meth : Method) (c : Code) (A : Nat → Prop) (ls : Array Slot), p.tables.exec = Jvm.exec → c.code = cc → meth.sig.returnType = ret → (∀ x ∈ wsy, x.before av.toArray s = true) → s.vm.findClass y.cls = some m.cls → meth.locks = false → meth.name = y.name → c.maxLocals = maxL →
      (∀ q : Nat, s.heap.size ≤ q → A q) → va_P D kCl w s.heap → va_K D kCl tys s → va_D A w → va_S A s.heap s.heap [] → kZ A s s.heap → lv_has ls maxL (lv_args 0 av) → (∀ x ∈ c.exceptionTable.toList, False) →
      W p l e rm s m av.toArray below meth c s.heap [] 0 0 (vx_MQ below (fun _ _ _ _ => False) (kXC D tys E w' A) av.toArray s rm.cells rm.slots A) (F0 m 0 ls [])) : kX l y wsy rm D tys av w E w' := by
  intro sz
  refine vx_ofW (cc := cc) (maxL := maxL) (ret := ret) hy hw ?_
  intro p e s m args below meth c s₁ B hml hxt hv
  obtain ⟨rfl, hsz, hP, hK, hD0, hZ⟩ := hv
  subst hsz
  have hl := lv_entry av (n := maxL) hlen
  rw [lg_entry_eq]
  exact body p e s m below meth c (va_A w s.heap.size) _ B.exec B.bytes B.returns (atoms_spec (ws := wsy) B.pre) (findClass_of_methodNamed B.named) B.notSynchronized (name_of_methodNamed B.named B.method).1 hml (fun q h => Or.inr h) hP hK hD0.self va_S.rf hZ hl hxt
/-- a walk of a method with an exception table, that returns -/
theorem k_ofH {l : Launch} {y : MethodName} {wsy ws' : List Cond} {rm : Room} {D : va_G} {tys : kTys} {av : List Value} {w : va_W} {Qf : (Nat → Prop) → Array Value → State → Outcome → State → Prop} {cc : ByteArray} {maxL : Nat} {ret : Option FieldType} {hh : List (Nat × Nat × Nat × Nat)}
    (hy : plainName y.cls = true) (hw : wsy = Cond.codeWith y cc maxL ret hh :: ws') (hlen : (lg_sl av).length ≤ maxL)
    (body : ∀ (p : Program) (e : Env) (s : State) (m : MethodId) (below : List Frame) (meth : Method) (c : Code) (A : Nat → Prop) (ls : Array Slot), p.tables.exec = Jvm.exec → c.code = cc → meth.sig.returnType = ret → (∀ x ∈ wsy, x.before av.toArray s = true) → s.vm.findClass y.cls = some m.cls → meth.locks = false → meth.name = y.name → c.maxLocals = maxL →
      (∀ q : Nat, s.heap.size ≤ q → A q) → va_P D kCl w s.heap → va_K D kCl tys s → va_D A w → va_S A s.heap s.heap [] → kZ A s s.heap → lv_has ls maxL (lv_args 0 av) → c.exceptionTable.toList = tableOf hh →
      W p l e rm s m av.toArray below meth c s.heap [] 0 0 (MQ below (Qf A) av.toArray s rm.cells rm.slots A) (F0 m 0 ls [])) : kM l y wsy rm D tys av w Qf := by
  intro sz
  refine va_MetW (cc := cc) (maxL := maxL) (ret := ret) hy hw ?_
  intro p e s m args below meth c s₁ B hml hv
  obtain ⟨rfl, hsz, hP, hK, hD0, hZ⟩ := hv
  subst hsz
  have hts := atoms_spec (ws := wsy) B.pre
  have hl := lv_entry av (n := maxL) hlen
  rw [lg_entry_eq]
  exact body p e s m below meth c (va_A w s.heap.size) _ B.exec B.bytes B.returns hts (findClass_of_methodNamed B.named) B.notSynchronized (name_of_methodNamed B.named B.method).1 hml (fun q h => Or.inr h) hP hK hD0.self va_S.rf hZ hl (vx_table (x := y) B (hts _ (by rw [hw]; exact List.mem_cons_self)))
