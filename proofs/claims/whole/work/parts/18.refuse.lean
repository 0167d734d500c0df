/-! refusals: what a method that throws needs, and the throw itself -/
abbrev exN : List String := ["java/lang/RuntimeException", "java/lang/Exception"]
abbrev exS : String := "java/lang/IllegalStateException"
abbrev exA : String := "java/lang/IllegalArgumentException"
abbrev exI : String := "java/lang/IndexOutOfBoundsException"
def exText : List (Nat × String) := [(59, "there are 6 spots"), (70, "both are the same"), (93, "more than 99 grains"), (99, "the spot is not steep"), (121, "there are 4 heaps"), (229, "no such spot"), (235, "no such spot, and not the sink"), (237, "no such heap"), (239, "the moor is not fast"), (241, "not within its bounds")]
def exDecl : List MethodName := [Bundle.initS "java/lang/RuntimeException", Bundle.initS "java/lang/Exception", Bundle.initS Bundle.tN]
/-- the words of a throw that are no good words -/
def exBad (X : String) : List Cond := [.declares (Bundle.initS "java/lang/RuntimeException"), .declares (Bundle.initS "java/lang/Exception"), .declares (Bundle.initS Bundle.tN), .castable X X]
/-- the machine's own things that a throw reads: they lie outside A -/
def EnvX (A : Nat → Prop) (U : State) (H : Heap) : Prop := vx_Zq Bundle.tN "UNASSIGNED_STACK" Bundle.steD A U H ∧ vx_Zq Bundle.tN "SUPPRESSED_SENTINEL" Bundle.listD A U H ∧ (∃ sa : Nat → Nat, ∀ q ∈ exText, vk_R RX4 q.1 q.2 (sa q.1) U) ∧ (∀ x ∈ exDecl, va_Nw (.declares x) U) ∧ va_Nw (.castable exS exS) U ∧ va_Nw (.castable exA exA) U ∧ va_Nw (.castable exI exI) U
theorem EnvX.blind {A : Nat → Prop} {U V : State} {H : Heap} (hv : V.vm = U.vm) (h : EnvX A U H) : EnvX A V H := by
  obtain ⟨h1, h2, ⟨sa, h3⟩, h0, h4, h5, h6⟩ := h
  have ha : U.vm.Alike V.vm := by rw [hv]; exact Vm.Alike.refl U.vm
  exact ⟨h1.moved ha, h2.moved ha, ⟨sa, fun q hq => vk_R.same hv (h3 q hq)⟩, fun x hx => va_Nw.same rfl hv.symm (h0 x hx), va_Nw.same rfl hv.symm h4, va_Nw.same rfl hv.symm h5, va_Nw.same rfl hv.symm h6⟩
theorem EnvX.warm {A : Nat → Prop} {s U : State} {H : Heap} (hW : s.WarmedH U.vm) (h : EnvX A s H) : EnvX A U H := by
  obtain ⟨h1, h2, ⟨sa, h3⟩, h0, h4, h5, h6⟩ := h
  exact ⟨h1.moved hW.alike, h2.moved hW.alike, ⟨sa, fun q hq => vk_R.warm hW (h3 q hq)⟩, fun x hx => va_Nw.warmD hW (h0 x hx), va_Nw.warmC hW h4, va_Nw.warmC hW h5, va_Nw.warmC hW h6⟩
theorem EnvX.kept {A : Nat → Prop} {U : State} {H H1 : Heap} (h : EnvX A U H) (hq : ∀ a : Nat, a < H.size → ¬ A a → H1[a]? = H[a]?) : EnvX A U H1 := ⟨h.1.kept hq, h.2.1.kept hq, h.2.2⟩
theorem EnvX.narrow {A B : Nat → Prop} {U : State} {H : Heap} (h : EnvX A U H) (hAB : ∀ q, B q → A q) : EnvX B U H := ⟨h.1.narrow hAB, h.2.1.narrow hAB, h.2.2⟩
abbrev PREE (D : va_G) (tys : List (ClassId × FieldType)) (ws : va_W) (sz : Nat) : State → Prop := fun U => PRE D tys ws sz U ∧ EnvX (va_A ws sz) U U.heap
theorem kt_blindE {D : va_G} {tys : List (ClassId × FieldType)} {ws : va_W} {sz : Nat} {as : List Value} : FrameBlind (va_Pc as (PREE D tys ws sz)) := fun a U g mk q => by
  obtain ⟨q0, q1, a1⟩ := q
  obtain ⟨q0', q1'⟩ := kt_blind (as := as) a U g mk ⟨q0, q1⟩
  exact ⟨q0', q1', EnvX.blind (U := U) (V := U.calling g mk a) rfl a1⟩
theorem ex_ng_S : (vx_atS RX4 61 exS exN).filter (fun w => !goodWord w) = exBad exS := by decide +kernel
theorem ex_ng_A : (vx_atS RX4 72 exA exN).filter (fun w => !goodWord w) = exBad exA := by decide +kernel
theorem ex_ng_I : (vx_atS RX4 231 exI exN).filter (fun w => !goodWord w) = exBad exI := by decide +kernel
theorem ex_ot_S : ∀ w ∈ Cond.classLink RX4 57 exS :: Cond.initialized exS :: vx_atS RX4 61 exS exN, vx_ot w = true := by decide +kernel
theorem ex_ot_A : ∀ w ∈ Cond.classLink RX4 68 exA :: Cond.initialized exA :: vx_atS RX4 72 exA exN, vx_ot w = true := by decide +kernel
theorem ex_ot_I : ∀ w ∈ Cond.classLink RX4 227 exI :: Cond.initialized exI :: vx_atS RX4 231 exI exN, vx_ot w = true := by decide +kernel
