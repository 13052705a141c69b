/-! own layer over the kit's rows: one shape of contract for every method, one row a call, one row a return -/
section KA
/-- a list of places picks a list of cells -/
theorem k_fm {α β : Type} {f : α → Option β} : ∀ {is : List α} {w : List β}, is.map f = w.map some → is.filterMap f = w
  | [], [], _ => rfl
  | [], _ :: _, h => by cases h
  | _ :: _, [], h => by cases h
  | a :: is, b :: w, h => by
    simp only [List.map_cons, List.cons.injEq] at h
    rw [List.filterMap_cons, h.1]
    simp [k_fm h.2]
abbrev kTys : Type := List (ClassId × FieldType)
/-- a contract's start: the heap's size, the world w, the statics -/
def kPre (D : va_G) (tys : kTys) (w : va_W) (sz : Nat) (U : State) : Prop :=
  U.heap.size = sz ∧ va_P D kCl w U.heap ∧ va_K D kCl tys U ∧ va_D (fun _ => True) w ∧ kZ (va_A w sz) U U.heap
/-- the world behind -/
def kAft (D : va_G) (tys : kTys) (A : Nat → Prop) (w : va_W) (t : State) : Prop := va_P D kCl w t.heap ∧ va_K D kCl tys t ∧ va_D A w
/-- a contract: Qf of the cells that may change -/
def kM (l : Launch) (y : MethodName) (ws : List Cond) (rm : Room) (D : va_G) (tys : kTys) (av : List Value) (w : va_W) (Qf : (Nat → Prop) → Array Value → State → Outcome → State → Prop) : Prop :=
  ∀ sz, Met l y ws rm (va_Pc av (kPre D tys w sz)) (Qf (va_A w sz)) rm.cells rm.slots (va_A w sz)
def kQi {S : Type} (D : va_G) (tys : kTys) (post : Int32 → S → Prop) (wo : S → va_W) (A : Nat → Prop) : Array Value → State → Outcome → State → Prop := va_Qi post (fun u t => kAft D tys A (wo u) t) A
def kQl {S : Type} (D : va_G) (tys : kTys) (post : Int64 → S → Prop) (wo : S → va_W) (A : Nat → Prop) : Array Value → State → Outcome → State → Prop := va_Ql post (fun u t => kAft D tys A (wo u) t) A
def kQv {S : Type} (D : va_G) (tys : kTys) (post : S → Prop) (wo : S → va_W) (A : Nat → Prop) : Array Value → State → Outcome → State → Prop := va_Qv post (fun u t => kAft D tys A (wo u) t) A
def kQr {S : Type} (D : va_G) (tys : kTys) (post : S → Nat → Prop) (wo : S → Nat → va_W) (A : Nat → Prop) : Array Value → State → Outcome → State → Prop := va_Qr (fun _ => True) (fun u a t => post u a ∧ kAft D tys A (wo u a) t) A
theorem k_blind {D : va_G} {tys : kTys} {w : va_W} {sz : Nat} {av : List Value} : FrameBlind (va_Pc av (kPre D tys w sz)) := by
  intro a U g mk q
  obtain ⟨q0, q1, qP, qK, qD, qZ⟩ := q
  exact ⟨q0, q1, qP, va_K.moved (u := U) (U := U.calling g mk a) (Vm.Alike.refl U.vm) qK, qD, kZ.same (u := U) (U := U.calling g mk a) rfl qZ⟩
section KB
variable {p : Program} {l : Launch} {e : Env} {R : Room} {s : State} {m : MethodId} {args : Array Value} {below : List Frame} {meth : Method} {c : Code} {H : Heap} {locs : List Loc} {cells slots : Nat} {Q : State → Prop}
variable {D : va_G} {tys : kTys} {A : Nat → Prop} {ws wc wr : va_W} {cc bytes : ByteArray} {nL maxL n index mc ms pc : Nat} {ret : Option FieldType} {own C host : String} {y : MethodName} {wy Ts : List Cond} {rm : Room} {b : Nat} {As rest st0 : List Value} {ls : Array Slot} {a : Array Value}
  {Qf : (Nat → Prop) → Array Value → State → Outcome → State → Prop}
/-- what a callee's start asks, out of the caller's world -/
theorem k_pre {av : List Value} (hK : va_K D kCl tys s) (hP : va_P D kCl ws H) (hD : va_D A ws) (hS : va_S A s.heap H locs) (hA : ∀ q, s.heap.size ≤ q → A q) (hZ : kZ A s s.heap) (isC : List Nat) (hC : isC.map (fun i => ws[i]?) = wc.map some) (hnd : va_nd isC = true) :
    ∀ U : State, U.heap = H → s.WarmedH U.vm → va_Pc av (kPre D tys wc H.size) av.toArray U := by
  intro U hU hW
  have hFc := va_free (wc := wc) hD hS hA isC hC
  refine ⟨rfl, by rw [hU], by rw [hU]; exact hP.sub isC (k_fm hC), va_K.moved hW.alike hK, (hD.sub isC hnd hC).weaken (fun _ _ _ _ => trivial), ?_⟩
  rw [hU]
  exact kZ.warm hW (kZ.narrow (kZ.kept hZ hS.2.1) hFc)
theorem k_rv (F : CallFix p m c cc nL s args Ts own) (hM : kM l y wy rm D tys (.ref b :: As) wc Qf) (cw : CallW R s args own C index y bytes maxL ret wy rm rm.cells rm.slots n) (hK : va_K D kCl tys s) (hP : va_P D kCl ws H) (hD : va_D A ws) (hS : va_S A s.heap H locs) (hA : ∀ q, s.heap.size ≤ q → A q) (hZ : kZ A s s.heap)
    (isC : List Nat) (hC : isC.map (fun i => ws[i]?) = wc.map some) (hnd : va_nd isC = true) (q0 : Nat) {ci : Nat} {r : vw_C} {fs : List Value} (he : ws[q0]? = some (b, .inr (ci, fs))) (hc : kCl[ci]? = some r) (hrC : r.1 = C)
    (hna : As.length = n) (hsize : ls.size = nL) (hst : st0 = As.reverse ++ .ref b :: rest) (hW : (rest.map fun v => v.category).sum ≤ 8) (hdg : decode cc pc = .ok (.invokevirtual index, 3)) (hf : cells + rm.cells ≤ R.cells ∧ slots + rm.slots ≤ R.slots) :
    va_Run p l e R s m args below meth c H locs cells slots rm.cells rm.slots (F0 m pc ls st0) rest (Qf (va_A wc H.size) (Value.ref b :: As).toArray) (va_A wc H.size) := by
  subst hrC
  exact va_runV (As := As) (rest := rest) F (hM H.size) cw ⟨k_blind, va_recv hK hP hc he, k_pre hK hP hD hS hA hZ isC hC hnd⟩ rfl hna hsize hst (lv_room hW) hdg hf
theorem k_rvN (F : CallFix p m c cc nL s args Ts own) (hM : kM l y wy rm D tys (.ref b :: As) wc Qf) (cw : va_CN R s args own index y host bytes maxL ret wy rm rm.cells rm.slots n ∧ (Cond.instanceMethod y).before args s = true ∧ (Cond.selects C y y).before args s = true) (hK : va_K D kCl tys s) (hP : va_P D kCl ws H) (hD : va_D A ws) (hS : va_S A s.heap H locs) (hA : ∀ q, s.heap.size ≤ q → A q) (hZ : kZ A s s.heap)
    (isC : List Nat) (hC : isC.map (fun i => ws[i]?) = wc.map some) (hnd : va_nd isC = true) (q0 : Nat) {ci : Nat} {r : vw_C} {fs : List Value} (he : ws[q0]? = some (b, .inr (ci, fs))) (hc : kCl[ci]? = some r) (hrC : r.1 = C)
    (hna : As.length = n) (hsize : ls.size = nL) (hst : st0 = As.reverse ++ .ref b :: rest) (hW : (rest.map fun v => v.category).sum ≤ 8) (hdg : decode cc pc = .ok (.invokevirtual index, 3)) (hf : cells + rm.cells ≤ R.cells ∧ slots + rm.slots ≤ R.slots) :
    va_Run p l e R s m args below meth c H locs cells slots rm.cells rm.slots (F0 m pc ls st0) rest (Qf (va_A wc H.size) (Value.ref b :: As).toArray) (va_A wc H.size) := by
  subst hrC
  exact va_runVN (As := As) (rest := rest) F (hM H.size) cw ⟨k_blind, va_recv hK hP hc he, k_pre hK hP hD hS hA hZ isC hC hnd⟩ rfl hna hsize hst (lv_room hW) hdg hf
theorem k_rs (F : CallFix p m c cc nL s args Ts own) (hM : kM l y wy rm D tys As wc Qf) (cw : CallB R s args own index y bytes maxL ret wy rm rm.cells rm.slots n ∧ (Cond.static y).before args s = true) (hK : va_K D kCl tys s) (hP : va_P D kCl ws H) (hD : va_D A ws) (hS : va_S A s.heap H locs) (hA : ∀ q, s.heap.size ≤ q → A q) (hZ : kZ A s s.heap)
    (isC : List Nat) (hC : isC.map (fun i => ws[i]?) = wc.map some) (hnd : va_nd isC = true)
    (hna : As.length = n) (hsize : ls.size = nL) (hst : st0 = As.reverse ++ rest) (hW : (rest.map fun v => v.category).sum ≤ 8) (hdg : decode cc pc = .ok (.invokestatic index, 3)) (hf : cells + rm.cells ≤ R.cells ∧ slots + rm.slots ≤ R.slots) :
    va_Run p l e R s m args below meth c H locs cells slots rm.cells rm.slots (F0 m pc ls st0) rest (Qf (va_A wc H.size) As.toArray) (va_A wc H.size) :=
  va_runS (As := As) (rest := rest) F (hM H.size) cw ⟨k_blind, k_pre hK hP hD hS hA hZ isC hC hnd⟩ rfl hna hsize hst (lv_room hW) hdg hf
theorem k_rsN (F : CallFix p m c cc nL s args Ts own) (hM : kM l y wy rm D tys As wc Qf) (cw : va_CN R s args own index y host bytes maxL ret wy rm rm.cells rm.slots n ∧ (Cond.static y).before args s = true ∧ True) (hK : va_K D kCl tys s) (hP : va_P D kCl ws H) (hD : va_D A ws) (hS : va_S A s.heap H locs) (hA : ∀ q, s.heap.size ≤ q → A q) (hZ : kZ A s s.heap)
    (isC : List Nat) (hC : isC.map (fun i => ws[i]?) = wc.map some) (hnd : va_nd isC = true)
    (hna : As.length = n) (hsize : ls.size = nL) (hst : st0 = As.reverse ++ rest) (hW : (rest.map fun v => v.category).sum ≤ 8) (hdg : decode cc pc = .ok (.invokestatic index, 3)) (hf : cells + rm.cells ≤ R.cells ∧ slots + rm.slots ≤ R.slots) :
    va_Run p l e R s m args below meth c H locs cells slots rm.cells rm.slots (F0 m pc ls st0) rest (Qf (va_A wc H.size) As.toArray) (va_A wc H.size) :=
  va_runSN (As := As) (rest := rest) F (hM H.size) cw ⟨k_blind, k_pre hK hP hD hS hA hZ isC hC hnd⟩ rfl hna hsize hst (lv_room hW) hdg hf
theorem k_ri (F : CallFix p m c cc nL s args Ts own) (hM : kM l y wy rm D tys (.ref b :: As) wc Qf) (cw : CallB R s args own index y bytes maxL none wy rm rm.cells rm.slots n ∧ y.name = "<init>" ∧ (Cond.instanceMethod y).before args s = true) (hK : va_K D kCl tys s) (hP : va_P D kCl ws H) (hD : va_D A ws) (hS : va_S A s.heap H locs) (hA : ∀ q, s.heap.size ≤ q → A q) (hZ : kZ A s s.heap)
    (isC : List Nat) (hC : isC.map (fun i => ws[i]?) = wc.map some) (hnd : va_nd isC = true)
    (hna : As.length = n) (hsize : ls.size = nL) (hst : st0 = As.reverse ++ .ref b :: rest) (hW : (rest.map fun v => v.category).sum ≤ 8) (hdg : decode cc pc = .ok (.invokespecial index, 3)) (hf : cells + rm.cells ≤ R.cells ∧ slots + rm.slots ≤ R.slots) :
    va_Run p l e R s m args below meth c H locs cells slots rm.cells rm.slots (F0 m pc ls st0) rest (Qf (va_A wc H.size) (Value.ref b :: As).toArray) (va_A wc H.size) :=
  va_runI (As := As) (rest := rest) F (hM H.size) cw ⟨k_blind, k_pre hK hP hD hS hA hZ isC hC hnd⟩ rfl hna hsize hst (lv_room hW) hdg hf
/-- behind a call: the callee's world beside the rest -/
theorem k_ci {S : Type} {post : Int32 → S → Prop} {wo : S → va_W} (hr : va_Run p l e R s m args below meth c H locs cells slots mc ms (F0 m pc ls st0) rest (kQi D tys post wo (va_A wc H.size) a) (va_A wc H.size)) (hP : va_P D kCl ws H) (hD : va_D A ws) (hS : va_S A s.heap H locs) (hA : ∀ q, s.heap.size ≤ q → A q)
    (isC isR : List Nat) (hC : isC.map (fun i => ws[i]?) = wc.map some) (hR : isR.map (fun i => ws[i]?) = wr.map some) (hn : va_nd isR = true) (hdis : ∀ i ∈ isR, i ∉ isC)
    (kk : ∀ (r : Int32) (u : S) (H1 : Heap) (locs1 : List Loc), post r u → va_P D kCl (wr ++ wo u) H1 → va_D A (wr ++ wo u) → va_S A s.heap H1 locs1 → W p l e R s m args below meth c H1 locs1 (cells + mc) (slots + ms) Q (F0 m (pc + 3) ls (.int r :: rest))) : W p l e R s m args below meth c H locs cells slots Q (F0 m pc ls st0) := by
  have hFc := va_free (wc := wc) hD hS hA isC hC
  refine va_calli hr hS (fun q _ h => hFc q h) hFc (fun r u t H1 locs1 ht hvm hw hB hz1 hk1 hS1 => ?_)
  obtain ⟨hP1, hK1, hD1⟩ := hB
  rw [ht] at hP1
  obtain ⟨hP2, hD2⟩ := va_join hP hD isC isR hC hR hn hdis hk1 hFc hP1 hD1
  exact kk r u H1 locs1 hw hP2 hD2 hS1
theorem k_cl {S : Type} {post : Int64 → S → Prop} {wo : S → va_W} (hr : va_Run p l e R s m args below meth c H locs cells slots mc ms (F0 m pc ls st0) rest (kQl D tys post wo (va_A wc H.size) a) (va_A wc H.size)) (hP : va_P D kCl ws H) (hD : va_D A ws) (hS : va_S A s.heap H locs) (hA : ∀ q, s.heap.size ≤ q → A q)
    (isC isR : List Nat) (hC : isC.map (fun i => ws[i]?) = wc.map some) (hR : isR.map (fun i => ws[i]?) = wr.map some) (hn : va_nd isR = true) (hdis : ∀ i ∈ isR, i ∉ isC)
    (kk : ∀ (r : Int64) (u : S) (H1 : Heap) (locs1 : List Loc), post r u → va_P D kCl (wr ++ wo u) H1 → va_D A (wr ++ wo u) → va_S A s.heap H1 locs1 → W p l e R s m args below meth c H1 locs1 (cells + mc) (slots + ms) Q (F0 m (pc + 3) ls (.long r :: rest))) : W p l e R s m args below meth c H locs cells slots Q (F0 m pc ls st0) := by
  have hFc := va_free (wc := wc) hD hS hA isC hC
  refine va_calll hr hS (fun q _ h => hFc q h) hFc (fun r u t H1 locs1 ht hvm hw hB hz1 hk1 hS1 => ?_)
  obtain ⟨hP1, hK1, hD1⟩ := hB
  rw [ht] at hP1
  obtain ⟨hP2, hD2⟩ := va_join hP hD isC isR hC hR hn hdis hk1 hFc hP1 hD1
  exact kk r u H1 locs1 hw hP2 hD2 hS1
theorem k_cv {S : Type} {post : S → Prop} {wo : S → va_W} (hr : va_Run p l e R s m args below meth c H locs cells slots mc ms (F0 m pc ls st0) rest (kQv D tys post wo (va_A wc H.size) a) (va_A wc H.size)) (hP : va_P D kCl ws H) (hD : va_D A ws) (hS : va_S A s.heap H locs) (hA : ∀ q, s.heap.size ≤ q → A q)
    (isC isR : List Nat) (hC : isC.map (fun i => ws[i]?) = wc.map some) (hR : isR.map (fun i => ws[i]?) = wr.map some) (hn : va_nd isR = true) (hdis : ∀ i ∈ isR, i ∉ isC)
    (kk : ∀ (u : S) (H1 : Heap) (locs1 : List Loc), post u → va_P D kCl (wr ++ wo u) H1 → va_D A (wr ++ wo u) → va_S A s.heap H1 locs1 → W p l e R s m args below meth c H1 locs1 (cells + mc) (slots + ms) Q (F0 m (pc + 3) ls rest)) : W p l e R s m args below meth c H locs cells slots Q (F0 m pc ls st0) := by
  have hFc := va_free (wc := wc) hD hS hA isC hC
  refine va_callv hr hS (fun q _ h => hFc q h) hFc (fun u t H1 locs1 ht hvm hw hB hz1 hk1 hS1 => ?_)
  obtain ⟨hP1, hK1, hD1⟩ := hB
  rw [ht] at hP1
  obtain ⟨hP2, hD2⟩ := va_join hP hD isC isR hC hR hn hdis hk1 hFc hP1 hD1
  exact kk u H1 locs1 hw hP2 hD2 hS1
theorem k_cr {S : Type} {post : S → Nat → Prop} {wo : S → Nat → va_W} (hr : va_Run p l e R s m args below meth c H locs cells slots mc ms (F0 m pc ls st0) rest (kQr D tys post wo (va_A wc H.size) a) (va_A wc H.size)) (hP : va_P D kCl ws H) (hD : va_D A ws) (hS : va_S A s.heap H locs) (hA : ∀ q, s.heap.size ≤ q → A q)
    (isC isR : List Nat) (hC : isC.map (fun i => ws[i]?) = wc.map some) (hR : isR.map (fun i => ws[i]?) = wr.map some) (hn : va_nd isR = true) (hdis : ∀ i ∈ isR, i ∉ isC)
    (kk : ∀ (q : Nat) (u : S) (H1 : Heap) (locs1 : List Loc), post u q → va_P D kCl (wr ++ wo u q) H1 → va_D A (wr ++ wo u q) → va_S A s.heap H1 locs1 → W p l e R s m args below meth c H1 locs1 (cells + mc) (slots + ms) Q (F0 m (pc + 3) ls (.ref q :: rest))) : W p l e R s m args below meth c H locs cells slots Q (F0 m pc ls st0) := by
  have hFc := va_free (wc := wc) hD hS hA isC hC
  refine va_callr hr hS (fun q _ h => hFc q h) hFc ?_
  intro u q t H1 locs1 ht hvm hw hB hz1 hk1 hS1
  obtain ⟨hw2, hP1, hK1, hD1⟩ := hB
  rw [ht] at hP1
  obtain ⟨hP2, hD2⟩ := va_join hP hD isC isR hC hR hn hdis hk1 hFc hP1 hD1
  exact kk q u H1 locs1 hw2 hP2 hD2 hS1
/-- the ends -/
theorem k_iret {S : Type} {post : Int32 → S → Prop} {wo : S → va_W} {w : va_W} {r : Int32} {ty : FieldType} (u : S) (hx : p.tables.exec = Jvm.exec) (hb : c.code = cc) (hr : meth.sig.returnType = some ty) (hnw : narrow ty (.int r) = .int r) (hlocks : meth.locks = false) (hK : va_K D kCl tys s) (hP : va_P D kCl w H) (hD : va_D A w) (hS : va_S A s.heap H locs) (hw : w = wo u) (hp : post r u) (hc : cells ≤ mc) (hs : slots ≤ ms) (hdg : decode cc pc = .ok (.ireturn, 1)) :
    W p l e R s m args below meth c H locs cells slots (MQ below (kQi D tys post wo A) args s mc ms A) (F0 m pc ls [.int r]) := by
  subst hw
  refine W.widen (k := mc) (n := ms) hc hs ?_
  exact W.zret hx hb hr hnw (fun t ht hW => ⟨⟨r, u, rfl, hp, by rw [ht]; exact hP, va_K.moved hW.alike hK, hD⟩, hS.F ht⟩) hS.2.2 hdg hlocks
theorem k_lret {S : Type} {post : Int64 → S → Prop} {wo : S → va_W} {w : va_W} {r : Int64} (u : S) (hx : p.tables.exec = Jvm.exec) (hb : c.code = cc) (hr : meth.sig.returnType = some .long) (hlocks : meth.locks = false) (hK : va_K D kCl tys s) (hP : va_P D kCl w H) (hD : va_D A w) (hS : va_S A s.heap H locs) (hw : w = wo u) (hp : post r u) (hc : cells ≤ mc) (hs : slots ≤ ms) (hdg : decode cc pc = .ok (.lreturn, 1)) :
    W p l e R s m args below meth c H locs cells slots (MQ below (kQl D tys post wo A) args s mc ms A) (F0 m pc ls [.long r]) := by
  subst hw
  refine W.widen (k := mc) (n := ms) hc hs ?_
  exact W.lret hx hb hr (fun t ht hW => ⟨⟨r, u, rfl, hp, by rw [ht]; exact hP, va_K.moved hW.alike hK, hD⟩, hS.F ht⟩) hS.2.2 hdg hlocks
theorem k_vret {S : Type} {post : S → Prop} {wo : S → va_W} {w : va_W} (u : S) (hx : p.tables.exec = Jvm.exec) (hb : c.code = cc) (hr : meth.sig.returnType = none) (hlocks : meth.locks = false) (hK : va_K D kCl tys s) (hP : va_P D kCl w H) (hD : va_D A w) (hS : va_S A s.heap H locs) (hw : w = wo u) (hp : post u) (hc : cells ≤ mc) (hs : slots ≤ ms) (hdg : decode cc pc = .ok (.return_, 1)) :
    W p l e R s m args below meth c H locs cells slots (MQ below (kQv D tys post wo A) args s mc ms A) (F0 m pc ls []) := by
  subst hw
  refine W.widen (k := mc) (n := ms) hc hs ?_
  exact W.vret hx hb hr (fun t ht hW => ⟨⟨u, rfl, hp, by rw [ht]; exact hP, va_K.moved hW.alike hK, hD⟩, hS.F ht⟩) hS.2.2 hdg hlocks
theorem k_rret {S : Type} {post : S → Nat → Prop} {wo : S → Nat → va_W} {w : va_W} {q : Nat} {rt : FieldType} (u : S) (hx : p.tables.exec = Jvm.exec) (hb : c.code = cc) (hr : meth.sig.returnType = some rt) (hrt : (∃ n, rt = .object n) ∨ ∃ t, rt = .array t) (hlocks : meth.locks = false) (hK : va_K D kCl tys s) (hP : va_P D kCl w H) (hD : va_D A w) (hS : va_S A s.heap H locs) (hw : w = wo u q) (hp : post u q) (hc : cells ≤ mc) (hs : slots ≤ ms) (hdg : decode cc pc = .ok (.areturn, 1)) :
    W p l e R s m args below meth c H locs cells slots (MQ below (kQr D tys post wo A) args s mc ms A) (F0 m pc ls [.ref q]) := by
  subst hw
  refine W.widen (k := mc) (n := ms) hc hs ?_
  exact W.aret hx hb hr hrt (Or.inr ⟨q, rfl⟩) (fun t ht hW => ⟨⟨u, q, rfl, trivial, hp, by rw [ht]; exact hP, va_K.moved hW.alike hK, hD⟩, hS.F ht⟩) hS.2.2 hdg hlocks
/-- the number on top, by another word -/
theorem k_i {x z : Int32} (h : x = z) (k : W p l e R s m args below meth c H locs cells slots Q (F0 m pc ls (.int z :: rest))) : W p l e R s m args below meth c H locs cells slots Q (F0 m pc ls (.int x :: rest)) := h ▸ k
theorem k_l {x z : Int64} (h : x = z) (k : W p l e R s m args below meth c H locs cells slots Q (F0 m pc ls (.long z :: rest))) : W p l e R s m args below meth c H locs cells slots Q (F0 m pc ls (.long x :: rest)) := h ▸ k
end KB
/-- a method's walk begins -/
theorem k_ofW {l : Launch} {y : MethodName} {wsy ws' : List Cond} {rm : Room} {D : va_G} {tys : kTys} {av : List Value} {w : va_W} {Qf : (Nat → Prop) → Array Value → State → Outcome → State → Prop} {cc : ByteArray} {maxL : Nat} {ret : Option FieldType}
    (hy : plainName y.cls = true) (hw : wsy = Cond.code y cc maxL ret :: ws') (hlen : (lg_sl av).length ≤ maxL)
    (body : ∀ (p : Program) (e : Env) (s : State) (m : MethodId) (below : List Frame) (meth : Method) (c : Code) (A : Nat → Prop) (ls : Array Slot), p.tables.exec = Jvm.exec → c.code = cc → meth.sig.returnType = ret → (∀ x ∈ wsy, x.before av.toArray s = true) → s.vm.findClass y.cls = some m.cls → meth.locks = false → meth.name = y.name → c.maxLocals = maxL →
      (∀ q : Nat, s.heap.size ≤ q → A q) → va_P D kCl w s.heap → va_K D kCl tys s → va_D A w → va_S A s.heap s.heap [] → kZ A s s.heap → lv_has ls maxL (lv_args 0 av) →
      W p l e rm s m av.toArray below meth c s.heap [] 0 0 (MQ below (Qf A) av.toArray s rm.cells rm.slots A) (F0 m 0 ls [])) : kM l y wsy rm D tys av w Qf := by
  intro sz
  refine Met.ofW (cc := cc) (maxL := maxL) (ret := ret) hy hw ?_
  intro p e s m args below meth c s₁ B hml hv
  obtain ⟨rfl, hsz, hP, hK, hD0, hZ⟩ := hv
  subst hsz
  have hl := lv_entry av (n := maxL) hlen
  rw [lg_entry_eq]
  exact body p e s m below meth c (va_A w s.heap.size) _ B.exec B.bytes B.returns (atoms_spec (ws := wsy) B.pre) (findClass_of_methodNamed B.named) B.notSynchronized (name_of_methodNamed B.named B.method).1 hml (fun q h => Or.inr h) hP hK hD0.self va_S.rf hZ hl
end KA
