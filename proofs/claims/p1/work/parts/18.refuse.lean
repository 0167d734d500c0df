/-! refusals: what a method that throws needs, and the throw itself -/
abbrev exN : List String := ["java/lang/RuntimeException", "java/lang/Exception"]
abbrev exS : String := "java/lang/IllegalStateException"
abbrev exA : String := "java/lang/IllegalArgumentException"
abbrev exI : String := "java/lang/IndexOutOfBoundsException"
def exText : List (Nat × String) := [(59, "there are 6 spots"), (70, "both are the same"), (93, "more than 99 grains"), (99, "the spot is not steep"), (121, "there are 4 heaps"), (229, "no such spot"), (235, "no such spot, and not the sink"), (237, "no such heap"), (239, "the moor is not fast"), (241, "not within its bounds")]
def exDecl : List MethodName := [Bundle.initS "java/lang/RuntimeException", Bundle.initS "java/lang/Exception", Bundle.initS Bundle.tN]
/-- the words of a throw that are no good words -/
def exBad (X : String) : List Cond := [.declares (Bundle.initS "java/lang/RuntimeException"), .declares (Bundle.initS "java/lang/Exception"), .declares (Bundle.initS Bundle.tN), .castable X X]
/-- the machine's own things that a throw reads: they lie outside A -/
def EnvX (A : Nat → Prop) (U : State) (H : Heap) : Prop := vx_Zq Bundle.tN "UNASSIGNED_STACK" Bundle.steD A U H ∧ vx_Zq Bundle.tN "SUPPRESSED_SENTINEL" Bundle.listD A U H ∧ (∃ sa : Nat → Nat, ∀ q ∈ exText, vk_R RX4 q.1 q.2 (sa q.1) U) ∧ (∀ x ∈ exDecl, va_Nw (.declares x) U) ∧ va_Nw (.castable exS exS) U ∧ va_Nw (.castable exA exA) U ∧ va_Nw (.castable exI exI) U
theorem EnvX.blind {A : Nat → Prop} {U V : State} {H : Heap} (hv : V.vm = U.vm) (h : EnvX A U H) : EnvX A V H := by
  obtain ⟨h1, h2, ⟨sa, h3⟩, h0, h4, h5, h6⟩ := h
  have ha : U.vm.Alike V.vm := by rw [hv]; exact Vm.Alike.refl U.vm
  exact ⟨h1.moved ha, h2.moved ha, ⟨sa, fun q hq => vk_R.same hv (h3 q hq)⟩, fun x hx => va_Nw.same rfl hv.symm (h0 x hx), va_Nw.same rfl hv.symm h4, va_Nw.same rfl hv.symm h5, va_Nw.same rfl hv.symm h6⟩
theorem EnvX.warm {A : Nat → Prop} {s U : State} {H : Heap} (hW : s.WarmedH U.vm) (h : EnvX A s H) : EnvX A U H := by
  obtain ⟨h1, h2, ⟨sa, h3⟩, h0, h4, h5, h6⟩ := h
  exact ⟨h1.moved hW.alike, h2.moved hW.alike, ⟨sa, fun q hq => vk_R.warm hW (h3 q hq)⟩, fun x hx => va_Nw.warmD hW (h0 x hx), va_Nw.warmC hW h4, va_Nw.warmC hW h5, va_Nw.warmC hW h6⟩
theorem EnvX.kept {A : Nat → Prop} {U : State} {H H1 : Heap} (h : EnvX A U H) (hq : ∀ a : Nat, a < H.size → ¬ A a → H1[a]? = H[a]?) : EnvX A U H1 := ⟨h.1.kept hq, h.2.1.kept hq, h.2.2⟩
theorem EnvX.narrow {A B : Nat → Prop} {U : State} {H : Heap} (h : EnvX A U H) (hAB : ∀ q, B q → A q) : EnvX B U H := ⟨h.1.narrow hAB, h.2.1.narrow hAB, h.2.2⟩
abbrev PREE (D : va_G) (tys : List (ClassId × FieldType)) (ws : va_W) (sz : Nat) : State → Prop := fun U => PRE D tys ws sz U ∧ EnvX (va_A ws sz) U U.heap
theorem kt_blindE {D : va_G} {tys : List (ClassId × FieldType)} {ws : va_W} {sz : Nat} {as : List Value} : FrameBlind (va_Pc as (PREE D tys ws sz)) := fun a U g mk q => by
  obtain ⟨q0, q1, a1⟩ := q
  obtain ⟨q0', q1'⟩ := kt_blind (as := as) a U g mk ⟨q0, q1⟩
  exact ⟨q0', q1', EnvX.blind (U := U) (V := U.calling g mk a) rfl a1⟩
theorem ex_ng_S : (vx_atS RX4 61 exS exN).filter (fun w => !goodWord w) = exBad exS := by decide +kernel
theorem ex_ng_A : (vx_atS RX4 72 exA exN).filter (fun w => !goodWord w) = exBad exA := by decide +kernel
theorem ex_ng_I : (vx_atS RX4 231 exI exN).filter (fun w => !goodWord w) = exBad exI := by decide +kernel
theorem ex_ot_S : ∀ w ∈ Cond.classLink RX4 57 exS :: Cond.initialized exS :: vx_atS RX4 61 exS exN, vx_ot w = true := by decide +kernel
theorem ex_ot_A : ∀ w ∈ Cond.classLink RX4 68 exA :: Cond.initialized exA :: vx_atS RX4 72 exA exN, vx_ot w = true := by decide +kernel
theorem ex_ot_I : ∀ w ∈ Cond.classLink RX4 227 exI :: Cond.initialized exI :: vx_atS RX4 231 exI exN, vx_ot w = true := by decide +kernel
theorem EnvX.castS {A : Nat → Prop} {U : State} {H : Heap} (h : EnvX A U H) : va_Nw (.castable exS exS) U := h.2.2.2.2.1
theorem EnvX.castA {A : Nat → Prop} {U : State} {H : Heap} (h : EnvX A U H) : va_Nw (.castable exA exA) U := h.2.2.2.2.2.1
theorem EnvX.castI {A : Nat → Prop} {U : State} {H : Heap} (h : EnvX A U H) : va_Nw (.castable exI exI) U := h.2.2.2.2.2.2
/-- what holds behind a throw of X -/
abbrev XT (X : String) (D : va_G) (tys : List (ClassId × FieldType)) (W' : va_W) (A : Nat → Prop) : String → State → State → Prop := vx_X (fun (_ : Unit) => True) (fun E _ t => E = X ∧ ATW D tys A W' t) A
section KTX
variable {p : Program} {l : Launch} {e : Env} {R : Room} {s : State} {m : MethodId} {args : Array Value} {below : List Frame} {meth : Method} {c : Code} {H : Heap} {locs : List Loc} {cells slots mc ms : Nat} {A : Nat → Prop} {D : va_G} {tys : List (ClassId × FieldType)} {cc : ByteArray} {pc : Nat} {ls : Array Slot} {Qc : Array Value → State → Outcome → State → Prop}
theorem kt_throw (X : String) (ik is ic : Nat) (text : String) {W' : va_W} {Ts : List Cond} (hx : p.tables.exec = Jvm.exec) (hb : c.code = cc) (hlt : l.stackTraces = false) (hown : s.vm.findClass RX4 = some m.cls) (hX : Bundle.fit X = true)
    (hng : (vx_atS RX4 ic X exN).filter (fun w => !goodWord w) = exBad X) (hot : ∀ w ∈ Cond.classLink RX4 ik X :: Cond.initialized X :: vx_atS RX4 ic X exN, vx_ot w = true)
    (hts : ∀ w ∈ Ts, w.before args s = true) (hin : ∀ w ∈ Cond.classLink RX4 ik X :: Cond.initialized X :: (vx_atS RX4 ic X exN).filter goodWord, w ∈ Ts) (hcast : va_Nw (.castable X X) s) (hE : EnvX A s s.heap) (htx : (is, text) ∈ exText)
    (hP : va_P D vwCl W' H) (hK : va_K D vwCl tys s) (hD : va_D A W') (hS : va_S A s.heap H locs) (hsize : ls.size = c.maxLocals)
    (d0 : decode cc pc = .ok (.new ik, 3)) (d3 : decode cc (pc + 3) = .ok (.dup, 1)) (d4 : decode cc (pc + 4) = .ok (.ldc is, 2)) (d6 : decode cc (pc + 6) = .ok (.invokespecial ic, 3)) (d9 : decode cc (pc + 9) = .ok (.athrow, 1))
    (hout : ∀ x ∈ c.exceptionTable.toList, covers x (pc + 9) = false) (hRf : 6 ≤ R.frames) (hRl : 82 ≤ R.locals) (hRc : cells + 1 ≤ R.cells) (hRs : slots + 6 ≤ R.slots) (hlocks : meth.locks = false) (hc : cells + 1 ≤ mc) (hs : slots + 6 ≤ ms) :
    W p l e R s m args below meth c H locs cells slots (vx_MQ below Qc (XT X D tys W' A) args s mc ms A) (F0 m pc ls []) := by
  obtain ⟨hU, hN, ⟨sa, hsa⟩, hdec, -⟩ := hE
  refine vx_throwS (own := RX4) (cls := X) (text := text) (names := exN) (ik := ik) (is := is) (ic := ic) (sa := sa is) hx hb hlt hown hX (by decide) (hts _ (hin _ List.mem_cons_self)) (hts _ (hin _ (List.mem_cons_of_mem _ List.mem_cons_self))) (hsa (is, text) htx) ?_ hot hU hN hS hsize d0 d3 d4 d6 d9 hout (Nat.lt_of_lt_of_le (by decide) hRf) (Nat.le_trans (by decide) hRl) hRc hRs hlocks ?_ hS.2.2 hc hs
  · refine vx_hat (B := exBad X) (fun w hw => hts _ (hin _ (List.mem_cons_of_mem _ (List.mem_cons_of_mem _ hw)))) (fun w hw => by rw [hng] at hw; exact hw) ?_
    exact vx_c (va_Nw.use rfl (hdec _ (by decide))) (vx_c (va_Nw.use rfl (hdec _ (by decide))) (vx_c (va_Nw.use rfl (hdec _ (by decide))) (vx_c (va_Nw.use rfl hcast) vx_n)))
  · intro t hal hsz hq
    exact ⟨(), trivial, ⟨rfl, hP.kept (fun k q hk => hq _ (hP k q hk).lt), va_K.moved hal hK, hD⟩, Nat.le_trans hS.1 hsz, fun q h1 h2 => (hq q (Nat.lt_of_lt_of_le h1 hS.1)).trans (hS.2.1 q h1 h2)⟩
end KTX
section KTY
variable {p : Program} {l : Launch} {e : Env} {R : Room} {s : State} {m : MethodId} {args : Array Value} {below : List Frame} {meth : Method} {c : Code} {H : Heap} {locs : List Loc} {cells slots : Nat} {Q : State → Prop}
variable {cc bytes : ByteArray} {pc : Nat} {ls : Array Slot} {rest As st0 : List Value} {D : va_G} {A : Nat → Prop} {b : Nat} {tys : List (ClassId × FieldType)} {w wC wC' wR w' : va_W} {H0 : Heap}
variable {nL maxL n index mc ms mc' ms' : Nat} {Ts ws : List Cond} {own C X : String} {y : MethodName} {ret : Option FieldType} {rm : Room} {free : Addr → Prop} {Qc : Array Value → State → Outcome → State → Prop}
theorem EnvX.at {B : Nat → Prop} {U : State} (hE : EnvX A s s.heap) (hS : va_S A s.heap H locs) (hAB : ∀ q, B q → A q) (hU : U.heap = H) (hW : s.WarmedH U.vm) : EnvX B U U.heap := by
  rw [hU]
  exact EnvX.warm hW ((hE.kept hS.2.1).narrow hAB)
theorem kt_preVE {q0 ci : Nat} {q : vw_C} {fs : List Value} (hK : va_K D vwCl tys s) (hP : va_P D vwCl w H) (hD : va_D A w) (hS : va_S A s.heap H locs) (hE : EnvX A s s.heap) (hF : ∀ q, va_A wC H.size q → A q) (isC : List Nat) (hC : isC.map (fun i => w[i]?) = wC.map some) (hnd : va_nd isC = true) (hc : vwCl[ci]? = some q) (hq : q.1 = C) (he : w[q0]? = some (b, .inr (ci, fs))) : PreV s H C b (va_Pc (.ref b :: As) (PREE D tys wC H.size)) As := by
  obtain ⟨-, h2, h3⟩ := kt_preV (As := As) hK hP hD isC hC hnd hc hq he
  refine ⟨kt_blindE, h2, fun U hU hW => ?_⟩
  obtain ⟨a1, a2⟩ := h3 U hU hW
  exact ⟨a1, a2, hE.at hS hF hU hW⟩
theorem kt_preSE (hK : va_K D vwCl tys s) (hP : va_P D vwCl w H) (hD : va_D A w) (hS : va_S A s.heap H locs) (hE : EnvX A s s.heap) (hF : ∀ q, va_A wC H.size q → A q) (isC : List Nat) (hC : isC.map (fun i => w[i]?) = wC.map some) (hnd : va_nd isC = true) : PreS s H (va_Pc As (PREE D tys wC H.size)) As := by
  obtain ⟨-, h3⟩ := kt_preS (As := As) hK hP hD isC hC hnd
  refine ⟨kt_blindE, fun U hU hW => ?_⟩
  obtain ⟨a1, a2⟩ := h3 U hU hW
  exact ⟨a1, a2, hE.at hS hF hU hW⟩
theorem kt_xrun {SX : Type} {px : SX → Prop} {BX : String → SX → State → Prop} {AX A0 : Nat → Prop} (hr : vx_Run p l e R s m args below meth c H locs cells slots mc ms (F0 m pc ls st0) rest (fun _ _ _ => False) (vx_X px BX AX) free) (hS : va_S A0 H0 H locs) (hf : ∀ q, free q → A0 q) (hAX : ∀ q, q < H.size → AX q → A0 q)
    (kx : ∀ (E : String) (ce : Cell) (q9 : Addr) (u : SX) (t : State) (H1 : Heap) (locs1 : List Loc), t.heap = H1 → s.vm.Alike t.vm → px u → BX E u t → H.size ≤ H1.size → (∀ q : Nat, q < H.size → ¬ AX q → H1[q]? = H[q]?) → va_S A0 H0 H1 locs1 → H1[q9]? = some ce → ce.vm = .none → s.vm.findClass E = some ce.cls → vx_W p l e R s m args below meth c H1 locs1 (cells + mc) (slots + ms) Q (F0 m pc ls rest) q9) : W p l e R s m args below meth c H locs cells slots Q (F0 m pc ls st0) := by
  intro T hT X
  rcases hr T hT X with ⟨v, st₀, t, T', L, h0, X', hL, e1, e2, hF, st⟩ | ⟨q, st₀, t, T', L, E, ce, h0, X', hL, e1, e2, ⟨u, hp, hb, hF⟩, hce, hcv, hcl, st⟩
  · exact hF.elim
  · obtain ⟨k1, k2, k3⟩ := vx_keep h0 e1 hS hAX hf hL hF
    obtain ⟨t2, a1, b1⟩ := kx E ce q u t T'.heap (locs ++ L) e1.symm (by rw [← e2]; exact X'.warmed.alike) hp hb k1 k2 k3 (by rw [e1]; exact hce) hcv hcl T' rfl X'
    exact ⟨t2, st.trans a1, b1⟩
theorem kt_xcallv (S : CallFix p m c cc nL s args Ts own) (hM : vx_Met l y ws rm (va_Pc (.ref b :: As) (PREE D tys wC H.size)) (fun _ _ _ _ => False) (XT X D tys wC (va_A wC H.size)) mc ms (va_A wC H.size)) (cw : CallW R s args own C index y bytes maxL ret ws rm mc ms n)
    (hK : va_K D vwCl tys s) (hP : va_P D vwCl w H) (hD : va_D A w) (hS : va_S A s.heap H locs) (hA : ∀ q, s.heap.size ≤ q → A q) (hE : EnvX A s s.heap) (isC : List Nat) (hsw : kt_sw w w isC wC wC) (hndC : va_nd isC = true)
    (q0 ci : Nat) {q : vw_C} {fs : List Value} (hc : vwCl[ci]? = some q) (hq : q.1 = C) (he : w[q0]? = some (b, .inr (ci, fs))) {st : List Value} (hst : st = As.reverse ++ .ref b :: rest) (hn : As.length = n) (hsz : ls.size = nL) (hw : (rest.map fun v => v.category).sum ≤ 8) (hdg : decode cc pc = .ok (.invokevirtual index, 3)) (hcs : cells + mc ≤ R.cells ∧ slots + ms ≤ R.slots)
    (hout : ∀ x ∈ c.exceptionTable.toList, False) (hlocks : meth.locks = false) (hc2 : cells + mc ≤ mc') (hs2 : slots + ms ≤ ms') : W p l e R s m args below meth c H locs cells slots (vx_MQ below Qc (XT X D tys w A) args s mc' ms' A) (F0 m pc ls st) := by
  subst hst
  have hF := va_free (wc := wC) hD hS hA isC hsw.1
  refine kt_xrun (vx_runV (rest := rest) S hM cw (kt_preVE hK hP hD hS hE hF isC hsw.1 hndC hc hq he) rfl hn hsz rfl (lv_room hw) hdg hcs) hS hF (fun q _ h => hF q h) (fun E ce q9 u t H1 locs1 ht hvm _ hB hz hk hS1 hce hcv hcl => ?_)
  obtain ⟨hEX, hP1, hK1, hD1⟩ := hB
  rw [ht] at hP1
  obtain ⟨hP2, hD2⟩ := kt_back hP hD hsw hndC hk hP1 hD1
  exact vx_out (fun x h => (hout x h).elim) hlocks hce hcv hcl (fun t2 ht2 hal2 => ⟨(), trivial, ⟨hEX, by rw [ht2]; exact hP2, va_K.moved hal2 hK, hD2⟩, hS1.F ht2⟩) hS1.2.2 hc2 hs2
theorem kt_xcallS (S : CallFix p m c cc nL s args Ts own) (hM : vx_Met l y ws rm (va_Pc As (PREE D tys wC H.size)) (fun _ _ _ _ => False) (XT X D tys wC (va_A wC H.size)) mc ms (va_A wC H.size)) (cw : CallB R s args own index y bytes maxL ret ws rm mc ms n ∧ (Cond.static y).before args s = true)
    (hK : va_K D vwCl tys s) (hP : va_P D vwCl w H) (hD : va_D A w) (hS : va_S A s.heap H locs) (hA : ∀ q, s.heap.size ≤ q → A q) (hE : EnvX A s s.heap) (isC : List Nat) (hsw : kt_sw w w isC wC wC) (hndC : va_nd isC = true)
    {st : List Value} (hst : st = As.reverse ++ rest) (hn : As.length = n) (hsz : ls.size = nL) (hw : (rest.map fun v => v.category).sum ≤ 8) (hdg : decode cc pc = .ok (.invokestatic index, 3)) (hcs : cells + mc ≤ R.cells ∧ slots + ms ≤ R.slots)
    (hout : ∀ x ∈ c.exceptionTable.toList, False) (hlocks : meth.locks = false) (hc2 : cells + mc ≤ mc') (hs2 : slots + ms ≤ ms') : W p l e R s m args below meth c H locs cells slots (vx_MQ below Qc (XT X D tys w A) args s mc' ms' A) (F0 m pc ls st) := by
  subst hst
  have hF := va_free (wc := wC) hD hS hA isC hsw.1
  refine kt_xrun (vx_runS (rest := rest) S hM cw (kt_preSE hK hP hD hS hE hF isC hsw.1 hndC) rfl hn hsz rfl (lv_room hw) hdg hcs) hS hF (fun q _ h => hF q h) (fun E ce q9 u t H1 locs1 ht hvm _ hB hz hk hS1 hce hcv hcl => ?_)
  obtain ⟨hEX, hP1, hK1, hD1⟩ := hB
  rw [ht] at hP1
  obtain ⟨hP2, hD2⟩ := kt_back hP hD hsw hndC hk hP1 hD1
  exact vx_out (fun x h => (hout x h).elim) hlocks hce hcv hcl (fun t2 ht2 hal2 => ⟨(), trivial, ⟨hEX, by rw [ht2]; exact hP2, va_K.moved hal2 hK, hD2⟩, hS1.F ht2⟩) hS1.2.2 hc2 hs2
end KTY
