/-! what is carried beside the tables: statics, texts, words that no list of a method holds -/
def kNk (w : Cond) : Bool := match w with
  | .methodLinkNest _ _ _ _ => true
  | .fieldLinkNest _ _ _ _ _ _ => true
  | .declares _ => true
  | .castable _ _ => true
  | _ => false
theorem kNk_warm {w : Cond} (h : kNk w = true) {s U : State} (hW : s.WarmedH U.vm) (hZ : va_Nw w s) : va_Nw w U := by
  unfold kNk at h
  split at h
  · exact va_Nw.warmM hW hZ
  · exact va_Nw.warmF hW hZ
  · exact va_Nw.warmD hW hZ
  · exact va_Nw.warmC hW hZ
  · cases h
theorem kNk_ot {w : Cond} (h : kNk w = true) : w.onTables = true := by
  unfold kNk at h
  split at h <;> first | rfl | cases h
theorem kNws_ok : ∀ w ∈ kNws, kNk w = true := by decide +kernel
def kUn : Nat → Value := fun j => .int (nI ([1, 10, 100, 1000].getD j 0))
def kZ (A : Nat → Prop) (U : State) (H : Heap) : Prop :=
  vx_Zq Bundle.tN "UNASSIGNED_STACK" Bundle.steD A U H ∧ vx_Zq Bundle.tN "SUPPRESSED_SENTINEL" Bundle.listD A U H ∧ (∃ t : Nat, va_Z "ByteShapes" "UNITS" "[I" (.ref t) A U H ∧ va_T .int t 4 kUn A U H) ∧
  (∀ q ∈ kStr, ∃ a : Nat, vk_R q.1 q.2.1 q.2.2 a U) ∧ (∀ w ∈ kNws, va_Nw w U) ∧ (∀ q ∈ kNcs, va_Nc q.1 q.2 U) ∧ va_AO "ByteShapes$Shape" U
theorem kZ.warm {A : Nat → Prop} {s U : State} {H : Heap} (hW : s.WarmedH U.vm) (h : kZ A s H) : kZ A U H := by
  obtain ⟨h1, h2, ⟨t, h3, h4⟩, h5, h6, h7, h8⟩ := h
  refine ⟨vx_Zq.moved hW.alike h1, vx_Zq.moved hW.alike h2, ⟨t, va_Z.moved hW.alike h3, va_T.moved hW.alike h4⟩, fun q hq => ?_, fun w hw => kNk_warm (kNws_ok w hw) hW (h6 w hw), fun q hq => va_Nc.moved hW.alike (h7 q hq), va_AO.moved hW.alike h8⟩
  obtain ⟨a, ha⟩ := h5 q hq
  exact ⟨a, vk_R.warm hW ha⟩
theorem kZ.same {A : Nat → Prop} {u U : State} {H : Heap} (hv : U.vm = u.vm) (h : kZ A u H) : kZ A U H := by
  obtain ⟨h1, h2, ⟨t, h3, h4⟩, h5, h6, h7, h8⟩ := h
  have hal : u.vm.Alike U.vm := by rw [hv]; exact Vm.Alike.refl _
  refine ⟨vx_Zq.moved hal h1, vx_Zq.moved hal h2, ⟨t, va_Z.moved hal h3, va_T.moved hal h4⟩, fun q hq => ?_, fun w hw => va_Nw.same (kNk_ot (kNws_ok w hw)) hv.symm (h6 w hw), fun q hq => va_Nc.moved hal (h7 q hq), va_AO.moved hal h8⟩
  obtain ⟨a, ha⟩ := h5 q hq
  exact ⟨a, vk_R.same hv ha⟩
theorem kZ.kept {A : Nat → Prop} {U : State} {H H1 : Heap} (h : kZ A U H) (hq : ∀ a : Nat, a < H.size → ¬ A a → H1[a]? = H[a]?) : kZ A U H1 := by
  obtain ⟨h1, h2, ⟨t, h3, h4⟩, h5⟩ := h
  exact ⟨h1.kept hq, h2.kept hq, ⟨t, h3.kept hq, h4.kept hq⟩, h5⟩
theorem kZ.narrow {A B : Nat → Prop} {U : State} {H : Heap} (h : kZ A U H) (hAB : ∀ q, B q → A q) : kZ B U H := by
  obtain ⟨h1, h2, ⟨t, h3, h4⟩, h5⟩ := h
  exact ⟨h1.narrow hAB, h2.narrow hAB, ⟨t, h3.narrow hAB, h4.narrow hAB⟩, h5⟩
theorem kZ.str {A : Nat → Prop} {U : State} {H : Heap} (h : kZ A U H) {q : String × Nat × String} (hq : q ∈ kStr) : ∃ a : Nat, vk_R q.1 q.2.1 q.2.2 a U := h.2.2.2.1 q hq
theorem kZ.nw {A : Nat → Prop} {U : State} {H : Heap} (h : kZ A U H) {w : Cond} (hq : w ∈ kNws) : va_Nw w U := h.2.2.2.2.1 w hq
theorem kZ.nc {A : Nat → Prop} {U : State} {H : Heap} (h : kZ A U H) {q : String × String} (hq : q ∈ kNcs) : va_Nc q.1 q.2 U := h.2.2.2.2.2.1 q hq
theorem kZ.ao {A : Nat → Prop} {U : State} {H : Heap} (h : kZ A U H) : va_AO "ByteShapes$Shape" U := h.2.2.2.2.2.2
abbrev kT (cI cB cJ cS : ClassId) : List (ClassId × FieldType) := [(cI, .int), (cB, .byte), (cJ, .long), (cS, .object "ByteShapes$Shape")]
