/-! new arrays, of classes that are known -/
section KN
variable {p : Program} {l : Launch} {e : Env} {R : Room} {s : State} {m : MethodId} {args : Array Value} {below : List Frame} {meth : Method} {c : Code} {H : Heap} {locs : List Loc} {cells slots : Nat} {Q : State → Prop}
variable {D : va_G} {A : Nat → Prop} {ws : va_W} {cc : ByteArray} {pc n index : Nat} {own : String} {cI cB cJ cS : ClassId} {rest : List Value} {ls : Array Slot}
theorem k_v {x z : Value} (h : x = z) (k : W p l e R s m args below meth c H locs cells slots Q (F0 m pc ls (z :: rest))) : W p l e R s m args below meth c H locs cells slots Q (F0 m pc ls (x :: rest)) := h ▸ k
theorem k_newI (hx : p.tables.exec = Jvm.exec) (hb : c.code = cc) (harr : (Cond.arrayClass .int).before args s = true) (hK : va_K D kCl (kT cI cB cJ cS) s) (hP : va_P D kCl ws H) (hD : va_D A ws) (hS : va_S A s.heap H locs) (hA : ∀ q, s.heap.size ≤ q → A q)
    (hn : n ≤ 100000000) (hcells : cells + 1 ≤ R.cells) (hslots : slots + n ≤ R.slots) (hdg : decode cc pc = .ok (.newarray .int, 2))
    (kk : ∀ (q : Nat) (H1 : Heap), va_P D kCl (ws ++ [(q, .inl (cI, n, .inl (iF fun _ => 0)))]) H1 → va_D A (ws ++ [(q, .inl (cI, n, .inl (iF fun _ => 0)))]) → va_S A s.heap H1 locs → W p l e R s m args below meth c H1 locs (cells + 1) (slots + n) Q (F0 m (pc + 2) ls (.ref q :: rest))) : W p l e R s m args below meth c H locs cells slots Q (F0 m pc ls (.int (nI n) :: rest)) := by
  refine va_newa (atype := .int) (a0 := (n, .inl (iF fun _ => 0))) (ty := .int) (N' := n) hx hb harr rfl hK hP hD hS hA (fun cA => rfl) (nI_pos (by omega)) (nI_clamp (by omega)) (show n * 4 ≤ 536870912 by omega) hcells hslots hdg ?_
  intro q cA H1 hK2 hP2 hD2 hS2
  have e1 := va_nm_int ((hK2.2 4 (cA, .int) rfl).2)
  have e2 := va_nm_int ((hK.2 0 (cI, .int) rfl).2)
  cases Option.some.inj (e2.symm.trans e1)
  exact kk q H1 hP2 hD2 hS2
theorem k_newB (hx : p.tables.exec = Jvm.exec) (hb : c.code = cc) (harr : (Cond.arrayClass .byte).before args s = true) (hK : va_K D kCl (kT cI cB cJ cS) s) (hP : va_P D kCl ws H) (hD : va_D A ws) (hS : va_S A s.heap H locs) (hA : ∀ q, s.heap.size ≤ q → A q)
    (hn : n ≤ 100000000) (hcells : cells + 1 ≤ R.cells) (hslots : slots + n ≤ R.slots) (hdg : decode cc pc = .ok (.newarray .byte, 2))
    (kk : ∀ (q : Nat) (H1 : Heap), va_P D kCl (ws ++ [(q, .inl (cB, n, .inl (bF fun _ => 0)))]) H1 → va_D A (ws ++ [(q, .inl (cB, n, .inl (bF fun _ => 0)))]) → va_S A s.heap H1 locs → W p l e R s m args below meth c H1 locs (cells + 1) (slots + n) Q (F0 m (pc + 2) ls (.ref q :: rest))) : W p l e R s m args below meth c H locs cells slots Q (F0 m pc ls (.int (nI n) :: rest)) := by
  have h0 : (bF fun _ => 0) = fun _ => (0 : Int32) := funext fun _ => (by decide : sb_b 0 = 0)
  refine va_newa (atype := .byte) (a0 := (n, .inl (bF fun _ => 0))) (ty := .byte) (N' := n) hx hb harr rfl hK hP hD hS hA (fun cA => by rw [h0]; rfl) (nI_pos (by omega)) (nI_clamp (by omega)) (show n * 1 ≤ 536870912 by omega) hcells hslots hdg ?_
  intro q cA H1 hK2 hP2 hD2 hS2
  have e1 := va_nm_byte ((hK2.2 4 (cA, .byte) rfl).2)
  have e2 := va_nm_byte ((hK.2 1 (cB, .byte) rfl).2)
  cases Option.some.inj (e2.symm.trans e1)
  exact kk q H1 hP2 hD2 hS2
theorem k_newJ (hx : p.tables.exec = Jvm.exec) (hb : c.code = cc) (harr : (Cond.arrayClass .long).before args s = true) (hK : va_K D kCl (kT cI cB cJ cS) s) (hP : va_P D kCl ws H) (hD : va_D A ws) (hS : va_S A s.heap H locs) (hA : ∀ q, s.heap.size ≤ q → A q)
    (hn : n ≤ 10000000) (hcells : cells + 1 ≤ R.cells) (hslots : slots + n ≤ R.slots) (hdg : decode cc pc = .ok (.newarray .long, 2))
    (kk : ∀ (q : Nat) (H1 : Heap), va_P D kCl (ws ++ [(q, .inl (cJ, n, .inr (.inl (lF fun _ => 0))))]) H1 → va_D A (ws ++ [(q, .inl (cJ, n, .inr (.inl (lF fun _ => 0))))]) → va_S A s.heap H1 locs → W p l e R s m args below meth c H1 locs (cells + 1) (slots + n) Q (F0 m (pc + 2) ls (.ref q :: rest))) : W p l e R s m args below meth c H locs cells slots Q (F0 m pc ls (.int (nI n) :: rest)) := by
  refine va_newa (atype := .long) (a0 := (n, .inr (.inl (lF fun _ => 0)))) (ty := .long) (N' := n) hx hb harr rfl hK hP hD hS hA (fun cA => rfl) (nI_pos (by omega)) (nI_clamp (by omega)) (show n * 8 ≤ 536870912 by omega) hcells hslots hdg ?_
  intro q cA H1 hK2 hP2 hD2 hS2
  have e1 := va_nm_long ((hK2.2 4 (cA, .long) rfl).2)
  have e2 := va_nm_long ((hK.2 2 (cJ, .long) rfl).2)
  cases Option.some.inj (e2.symm.trans e1)
  exact kk q H1 hP2 hD2 hS2
theorem k_newS (hx : p.tables.exec = Jvm.exec) (hb : c.code = cc) (hown : s.vm.findClass own = some m.cls) (hcl : (Cond.classLink own index "ByteShapes$Shape").before args s = true) (hover : va_AO "ByteShapes$Shape" s) (hK : va_K D kCl (kT cI cB cJ cS) s) (hP : va_P D kCl ws H) (hD : va_D A ws) (hS : va_S A s.heap H locs) (hA : ∀ q, s.heap.size ≤ q → A q)
    (hn : n ≤ 10000000) (hcells : cells + 1 ≤ R.cells) (hslots : slots + n ≤ R.slots) (hdg : decode cc pc = .ok (.anewarray index, 3))
    (kk : ∀ (q : Nat) (H1 : Heap), va_P D kCl (ws ++ [(q, .inl (cS, n, .inr (.inr (.inr (.inr fun _ => none)))))]) H1 → va_D A (ws ++ [(q, .inl (cS, n, .inr (.inr (.inr (.inr fun _ => none)))))]) → va_S A s.heap H1 locs → W p l e R s m args below meth c H1 locs (cells + 1) (slots + n) Q (F0 m (pc + 3) ls (.ref q :: rest))) : W p l e R s m args below meth c H locs cells slots Q (F0 m pc ls (.int (nI n) :: rest)) := by
  refine va_newq (C := "ByteShapes$Shape") (N' := n) hx hb hown hcl hover hK hP hD hS hA (nI_pos (by omega)) (nI_clamp (by omega)) (by omega) hcells hslots hdg ?_
  intro q cA H1 hK2 hP2 hD2 hS2
  obtain ⟨_, _, _, _, _, e1⟩ := (hK2.2 4 (cA, .object "ByteShapes$Shape") rfl).2
  obtain ⟨_, _, _, _, _, e2⟩ := (hK.2 3 (cS, .object "ByteShapes$Shape") rfl).2
  cases Option.some.inj (e2.symm.trans e1)
  exact kk q H1 hP2 hD2 hS2
end KN
