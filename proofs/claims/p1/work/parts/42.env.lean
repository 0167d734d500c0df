/-! what the reference's list reads of the machine, and calls that carry it -/
abbrev RObj : String := "java/lang/Object"
abbrev hasNextI : MethodName := ⟨"java/util/Iterator", "hasNext", "()Z"⟩
abbrev sizeN : Cond := .fieldLinkNest RJx35411 28 "java/util/ArrayList" "size" "I" "java/util/ArrayList"
def EnvR (dd : Nat) (A : Nat → Prop) (U : State) (H : Heap) : Prop :=
  va_Z "java/util/ArrayList" "DEFAULTCAPACITY_EMPTY_ELEMENTDATA" "[Ljava/lang/Object;" (.ref dd) A U H ∧ va_T (.object RObj) dd 0 (fun _ => .null) A U H ∧ va_AOA .int U ∧ va_AO RObj U ∧ va_Nw (.castable "[I" RObj) U ∧ va_Nw sizeN U ∧ va_Fw RJx35411 hasNextI yJx35411_hasNext_aae02 U
theorem EnvR.moved {dd : Nat} {A : Nat → Prop} {u U : State} {H : Heap} (hvm : u.vm.Alike U.vm) (hc : va_Nw (.castable "[I" RObj) U) (hn : va_Nw sizeN U) (h : EnvR dd A u H) : EnvR dd A U H := by
  obtain ⟨h1, h2, h3, h4, -, -, h7⟩ := h
  exact ⟨h1.moved hvm, h2.moved hvm, h3.moved hvm, h4.moved hvm, hc, hn, h7.moved ⟨by decide, by decide⟩ hvm⟩
theorem EnvR.blind {dd : Nat} {A : Nat → Prop} {U V : State} {H : Heap} (hv : V.vm = U.vm) (h : EnvR dd A U H) : EnvR dd A V H :=
  EnvR.moved (by rw [hv]; exact Vm.Alike.refl U.vm) (va_Nw.same rfl hv.symm h.2.2.2.2.1) (va_Nw.same rfl hv.symm h.2.2.2.2.2.1) h
theorem EnvR.warm {dd : Nat} {A : Nat → Prop} {s U : State} {H : Heap} (hW : s.WarmedH U.vm) (h : EnvR dd A s H) : EnvR dd A U H :=
  EnvR.moved hW.alike (va_Nw.warmC hW h.2.2.2.2.1) (va_Nw.warmF hW h.2.2.2.2.2.1) h
theorem EnvR.kept {dd : Nat} {A : Nat → Prop} {U : State} {H H1 : Heap} (h : EnvR dd A U H) (hq : ∀ a : Nat, a < H.size → ¬ A a → H1[a]? = H[a]?) : EnvR dd A U H1 := ⟨h.1.kept hq, h.2.1.kept hq, h.2.2⟩
theorem EnvR.narrow {dd : Nat} {A B : Nat → Prop} {U : State} {H : Heap} (h : EnvR dd A U H) (hAB : ∀ q, B q → A q) : EnvR dd B U H := ⟨h.1.narrow hAB, h.2.1.narrow hAB, h.2.2⟩
abbrev PRER (dd : Nat) (D : va_G) (tys : List (ClassId × FieldType)) (ws : va_W) (sz : Nat) : State → Prop := fun U => PRE D tys ws sz U ∧ EnvR dd (va_A ws sz) U U.heap
theorem kt_blindR {dd : Nat} {D : va_G} {tys : List (ClassId × FieldType)} {ws : va_W} {sz : Nat} {as : List Value} : FrameBlind (va_Pc as (PRER dd D tys ws sz)) := fun a U g mk q => by
  obtain ⟨q0, q1, a1⟩ := q
  obtain ⟨q0', q1'⟩ := kt_blind (as := as) a U g mk ⟨q0, q1⟩
  exact ⟨q0', q1', EnvR.blind (U := U) (V := U.calling g mk a) rfl a1⟩
section KTP
variable {p : Program} {l : Launch} {e : Env} {R : Room} {s : State} {m : MethodId} {args : Array Value} {below : List Frame} {meth : Method} {c : Code} {H : Heap} {locs : List Loc} {cells slots : Nat} {Q : State → Prop}
variable {cc bytes : ByteArray} {pc : Nat} {ls : Array Slot} {rest As : List Value} {D : va_G} {A : Nat → Prop} {b : Nat} {tys : List (ClassId × FieldType)} {w wC wC' wR9 w' : va_W} {H0 : Heap} {dd : Nat}
theorem EnvR.at {B : Nat → Prop} {U : State} (hE : EnvR dd A s s.heap) (hS : va_S A s.heap H locs) (hAB : ∀ q, B q → A q) (hU : U.heap = H) (hW : s.WarmedH U.vm) : EnvR dd B U U.heap := by
  rw [hU]
  exact EnvR.warm hW ((hE.kept hS.2.1).narrow hAB)
theorem kt_preVR {C : String} {q0 ci : Nat} {q : vw_C} {fs : List Value} (hK : va_K D vwCl tys s) (hP : va_P D vwCl w H) (hD : va_D A w) (hS : va_S A s.heap H locs) (hE : EnvR dd A s s.heap) (hA : ∀ q, s.heap.size ≤ q → A q) (isC : List Nat) (hC : isC.map (fun i => w[i]?) = wC.map some) (hnd : va_nd isC = true) (hc : vwCl[ci]? = some q) (hq : q.1 = C) (he : w[q0]? = some (b, .inr (ci, fs))) : PreV s H C b (va_Pc (.ref b :: As) (PRER dd D tys wC H.size)) As := by
  have hF := va_free (wc := wC) hD hS hA isC hC
  obtain ⟨-, h2, h3⟩ := kt_preV (As := As) hK hP hD isC hC hnd hc hq he
  refine ⟨kt_blindR, h2, fun U hU hW => ?_⟩
  obtain ⟨a1, a2⟩ := h3 U hU hW
  exact ⟨a1, a2, hE.at hS hF hU hW⟩
theorem kt_preSR (hK : va_K D vwCl tys s) (hP : va_P D vwCl w H) (hD : va_D A w) (hS : va_S A s.heap H locs) (hE : EnvR dd A s s.heap) (hA : ∀ q, s.heap.size ≤ q → A q) (isC : List Nat) (hC : isC.map (fun i => w[i]?) = wC.map some) (hnd : va_nd isC = true) : PreS s H (va_Pc As (PRER dd D tys wC H.size)) As := by
  have hF := va_free (wc := wC) hD hS hA isC hC
  obtain ⟨-, h3⟩ := kt_preS (As := As) hK hP hD isC hC hnd
  refine ⟨kt_blindR, fun U hU hW => ?_⟩
  obtain ⟨a1, a2⟩ := h3 U hU hW
  exact ⟨a1, a2, hE.at hS hF hU hW⟩
/-- a void callee whose cells come back behind the rest -/
theorem kt_backN {wN : va_W} {isC isR : List Nat} {H1 : Heap} (hP : va_P D vwCl w H) (hD : va_D A w) (hS : va_S A H0 H locs) (hA : ∀ q, H0.size ≤ q → A q) (hC : isC.map (fun i => w[i]?) = wC.map some) (hR : isR.map (fun i => w[i]?) = wR9.map some) (hndR : va_nd isR = true) (hdis : ∀ i ∈ isR, i ∉ isC) (hk : ∀ q : Nat, q < H.size → ¬ va_A wC H.size q → H1[q]? = H[q]?) (hP1 : va_P D vwCl wN H1) (hD1 : va_D (va_A wC H.size) wN) : va_P D vwCl (wR9 ++ wN) H1 ∧ va_D A (wR9 ++ wN) :=
  va_join hP hD isC isR hC hR hndR hdis hk (va_free (wc := wC) hD hS hA isC hC) hP1 hD1
variable {S : Type} {wN : S → va_W} {wM : S → Nat → va_W} {mc ms : Nat} {st : List Value} {aa : Array Value}
theorem kt_newV (hr : va_Run p l e R s m args below meth c H locs cells slots mc ms (F0 m pc ls st) rest (va_Qv (fun (_ : S) => True) (fun u t => ATW D tys (va_A wC H.size) (wN u) t) (va_A wC H.size) aa) (va_A wC H.size))
    (hP : va_P D vwCl w H) (hD : va_D A w) (hS : va_S A H0 H locs) (hA : ∀ q, H0.size ≤ q → A q) (isC isR : List Nat) (hC : isC.map (fun i => w[i]?) = wC.map some) (hR : isR.map (fun i => w[i]?) = wR9.map some) (hndR : va_nd isR = true) (hdis : ∀ i ∈ isR, i ∉ isC)
    (kk : ∀ (u : S) (H1 : Heap) (locs1 : List Loc), va_P D vwCl (wR9 ++ wN u) H1 → va_D A (wR9 ++ wN u) → va_S A H0 H1 locs1 → W p l e R s m args below meth c H1 locs1 (cells + mc) (slots + ms) Q (F0 m (pc + 3) ls rest)) : W p l e R s m args below meth c H locs cells slots Q (F0 m pc ls st) :=
  kt_newR hr hP hD hS hA isC isR hC hR hndR hdis kk
theorem kt_newI {r : Int32} (hr : va_Run p l e R s m args below meth c H locs cells slots mc ms (F0 m pc ls st) rest (va_Qi (fun (r' : Int32) (_ : S) => r' = r) (fun u t => ATW D tys (va_A wC H.size) (wN u) t) (va_A wC H.size) aa) (va_A wC H.size))
    (hP : va_P D vwCl w H) (hD : va_D A w) (hS : va_S A H0 H locs) (hA : ∀ q, H0.size ≤ q → A q) (isC isR : List Nat) (hC : isC.map (fun i => w[i]?) = wC.map some) (hR : isR.map (fun i => w[i]?) = wR9.map some) (hndR : va_nd isR = true) (hdis : ∀ i ∈ isR, i ∉ isC)
    (kk : ∀ (u : S) (H1 : Heap) (locs1 : List Loc), va_P D vwCl (wR9 ++ wN u) H1 → va_D A (wR9 ++ wN u) → va_S A H0 H1 locs1 → W p l e R s m args below meth c H1 locs1 (cells + mc) (slots + ms) Q (F0 m (pc + 3) ls (.int r :: rest))) : W p l e R s m args below meth c H locs cells slots Q (F0 m pc ls st) := by
  have hF := va_free (wc := wC) hD hS hA isC hC
  refine va_calli hr hS (fun q _ h => hF q h) hF (fun r' u t H1 locs1 ht hvm hpost hB hz hk hS1 => ?_)
  subst hpost
  obtain ⟨hP1, hK1, hD1⟩ := hB
  rw [ht] at hP1
  obtain ⟨hP2, hD2⟩ := va_join hP hD isC isR hC hR hndR hdis hk hF hP1 hD1
  exact kk u H1 locs1 hP2 hD2 hS1
theorem kt_newL {r : Int64} (hr : va_Run p l e R s m args below meth c H locs cells slots mc ms (F0 m pc ls st) rest (va_Ql (fun (r' : Int64) (_ : S) => r' = r) (fun u t => ATW D tys (va_A wC H.size) (wN u) t) (va_A wC H.size) aa) (va_A wC H.size))
    (hP : va_P D vwCl w H) (hD : va_D A w) (hS : va_S A H0 H locs) (hA : ∀ q, H0.size ≤ q → A q) (isC isR : List Nat) (hC : isC.map (fun i => w[i]?) = wC.map some) (hR : isR.map (fun i => w[i]?) = wR9.map some) (hndR : va_nd isR = true) (hdis : ∀ i ∈ isR, i ∉ isC)
    (kk : ∀ (u : S) (H1 : Heap) (locs1 : List Loc), va_P D vwCl (wR9 ++ wN u) H1 → va_D A (wR9 ++ wN u) → va_S A H0 H1 locs1 → W p l e R s m args below meth c H1 locs1 (cells + mc) (slots + ms) Q (F0 m (pc + 3) ls (.long r :: rest))) : W p l e R s m args below meth c H locs cells slots Q (F0 m pc ls st) := by
  have hF := va_free (wc := wC) hD hS hA isC hC
  refine va_calll hr hS (fun q _ h => hF q h) hF (fun r' u t H1 locs1 ht hvm hpost hB hz hk hS1 => ?_)
  subst hpost
  obtain ⟨hP1, hK1, hD1⟩ := hB
  rw [ht] at hP1
  obtain ⟨hP2, hD2⟩ := va_join hP hD isC isR hC hR hndR hdis hk hF hP1 hD1
  exact kk u H1 locs1 hP2 hD2 hS1
theorem kt_newD {r : UInt64} (hr : va_Run p l e R s m args below meth c H locs cells slots mc ms (F0 m pc ls st) rest (va_Qd (fun (r' : UInt64) (_ : S) => r' = r) (fun u t => ATW D tys (va_A wC H.size) (wN u) t) (va_A wC H.size) aa) (va_A wC H.size))
    (hP : va_P D vwCl w H) (hD : va_D A w) (hS : va_S A H0 H locs) (hA : ∀ q, H0.size ≤ q → A q) (isC isR : List Nat) (hC : isC.map (fun i => w[i]?) = wC.map some) (hR : isR.map (fun i => w[i]?) = wR9.map some) (hndR : va_nd isR = true) (hdis : ∀ i ∈ isR, i ∉ isC)
    (kk : ∀ (u : S) (H1 : Heap) (locs1 : List Loc), va_P D vwCl (wR9 ++ wN u) H1 → va_D A (wR9 ++ wN u) → va_S A H0 H1 locs1 → W p l e R s m args below meth c H1 locs1 (cells + mc) (slots + ms) Q (F0 m (pc + 3) ls (.double r :: rest))) : W p l e R s m args below meth c H locs cells slots Q (F0 m pc ls st) := by
  have hF := va_free (wc := wC) hD hS hA isC hC
  refine va_calld hr hS (fun q _ h => hF q h) hF (fun r' u t H1 locs1 ht hvm hpost hB hz hk hS1 => ?_)
  subst hpost
  obtain ⟨hP1, hK1, hD1⟩ := hB
  rw [ht] at hP1
  obtain ⟨hP2, hD2⟩ := va_join hP hD isC isR hC hR hndR hdis hk hF hP1 hD1
  exact kk u H1 locs1 hP2 hD2 hS1
theorem kt_newA (hr : va_Run p l e R s m args below meth c H locs cells slots mc ms (F0 m pc ls st) rest (va_Qr (fun (_ : S) => True) (fun u a t => ATW D tys (va_A wC H.size) (wM u a) t) (va_A wC H.size) aa) (va_A wC H.size))
    (hP : va_P D vwCl w H) (hD : va_D A w) (hS : va_S A H0 H locs) (hA : ∀ q, H0.size ≤ q → A q) (isC isR : List Nat) (hC : isC.map (fun i => w[i]?) = wC.map some) (hR : isR.map (fun i => w[i]?) = wR9.map some) (hndR : va_nd isR = true) (hdis : ∀ i ∈ isR, i ∉ isC)
    (kk : ∀ (u : S) (a : Nat) (H1 : Heap) (locs1 : List Loc), va_P D vwCl (wR9 ++ wM u a) H1 → va_D A (wR9 ++ wM u a) → va_S A H0 H1 locs1 → W p l e R s m args below meth c H1 locs1 (cells + mc) (slots + ms) Q (F0 m (pc + 3) ls (.ref a :: rest))) : W p l e R s m args below meth c H locs cells slots Q (F0 m pc ls st) := by
  have hF := va_free (wc := wC) hD hS hA isC hC
  refine va_callr hr hS (fun q _ h => hF q h) hF (fun u a t H1 locs1 ht hvm hpost hB hz hk hS1 => ?_)
  obtain ⟨hP1, hK1, hD1⟩ := hB
  rw [ht] at hP1
  obtain ⟨hP2, hD2⟩ := va_join hP hD isC isR hC hR hndR hdis hk hF hP1 hD1
  exact kk u a H1 locs1 hP2 hD2 hS1
/-- the ends of methods whose world is known up to a value -/
theorem kt_iretS (u : S) {v r : Int32} (hx : p.tables.exec = Jvm.exec) (hb : c.code = cc) (hr : meth.sig.returnType = some .int) (hS : va_S A s.heap H locs) (hP : va_P D vwCl (wN u) H) (hK : va_K D vwCl tys s) (hD : va_D A (wN u)) (he : v = r) (hlocks : meth.locks = false) (hdg : decode cc pc = .ok (.ireturn, 1)) : W p l e R s m args below meth c H locs cells slots (MQ below (va_Qi (fun (r' : Int32) (_ : S) => r' = r) (fun u t => ATW D tys A (wN u) t) A) args s cells slots A) (F0 m pc ls [.int v]) :=
  W.iret hx hb hr (fun t ht hW => ⟨⟨v, u, rfl, he, by rw [ht]; exact hP, va_K.moved hW.alike hK, hD⟩, hS.F ht⟩) hS.2.2 hdg hlocks
theorem kt_zretS (u : S) {v r : Int32} (hx : p.tables.exec = Jvm.exec) (hb : c.code = cc) (hr : meth.sig.returnType = some .boolean) (hn : narrow .boolean (.int v) = .int v) (hS : va_S A s.heap H locs) (hP : va_P D vwCl (wN u) H) (hK : va_K D vwCl tys s) (hD : va_D A (wN u)) (he : v = r) (hlocks : meth.locks = false) (hdg : decode cc pc = .ok (.ireturn, 1)) : W p l e R s m args below meth c H locs cells slots (MQ below (va_Qi (fun (r' : Int32) (_ : S) => r' = r) (fun u t => ATW D tys A (wN u) t) A) args s cells slots A) (F0 m pc ls [.int v]) :=
  W.zret hx hb hr hn (fun t ht hW => ⟨⟨v, u, rfl, he, by rw [ht]; exact hP, va_K.moved hW.alike hK, hD⟩, hS.F ht⟩) hS.2.2 hdg hlocks
theorem kt_aretS (u : S) {a : Nat} {rt : FieldType} (hx : p.tables.exec = Jvm.exec) (hb : c.code = cc) (hr : meth.sig.returnType = some rt) (hrt : (∃ n, rt = .object n) ∨ ∃ t, rt = .array t) (hS : va_S A s.heap H locs) (hP : va_P D vwCl (wM u a) H) (hK : va_K D vwCl tys s) (hD : va_D A (wM u a)) (hlocks : meth.locks = false) (hdg : decode cc pc = .ok (.areturn, 1)) : W p l e R s m args below meth c H locs cells slots (MQ below (va_Qr (fun (_ : S) => True) (fun u a t => ATW D tys A (wM u a) t) A) args s cells slots A) (F0 m pc ls [.ref a]) :=
  W.aret hx hb hr hrt (Or.inr ⟨a, rfl⟩) (fun t ht hW => ⟨⟨u, a, rfl, trivial, by rw [ht]; exact hP, va_K.moved hW.alike hK, hD⟩, hS.F ht⟩) hS.2.2 hdg hlocks
theorem kt_newqA (hx : p.tables.exec = Jvm.exec) (hb : c.code = cc) {own : String} {index : Nat} (hown : s.vm.findClass own = some m.cls) (hclink : (Cond.classLink own index "[I").before args s = true) (hover : va_AOA .int s) (hK : va_K D vwCl tys s) (hP : va_P D vwCl w H) (hD : va_D A w) (hS : va_S A H0 H locs) (hA : ∀ q, H0.size ≤ q → A q) (t0 : Nat) {cA : ClassId} (ht : tys[t0]? = some (cA, .array .int)) {N : Nat} (hN : N < 2 ^ 20) (hcells : cells + 1 ≤ R.cells) (hslots : slots + N ≤ R.slots) (hdg : decode cc pc = .ok (.anewarray index, 3))
    (kk : ∀ (q : Nat) (H1 : Heap), va_P D vwCl (w ++ [(q, .inl (cA, N, .inr (.inr (.inr (.inr (fun _ => none))))))]) H1 → va_D A (w ++ [(q, .inl (cA, N, .inr (.inr (.inr (.inr (fun _ => none))))))]) → va_S A H0 H1 locs → W p l e R s m args below meth c H1 locs (cells + 1) (slots + N) Q (F0 m (pc + 3) ls (.ref q :: rest))) : W p l e R s m args below meth c H locs cells slots Q (F0 m pc ls (.int (nI N) :: rest)) := by
  have hcl : (nI N).toNatClampNeg = N := nI_clamp (by omega)
  refine W.anewA (t := .int) hx hb hown hclink (va_AOA.use hover) rfl hdg rfl (nI_pos (by omega)) (by rw [hcl]; omega) hcells (by rw [hcl]; exact hslots) fun cB kA comp f1 f2 f3 f4 => ?_
  have e2 : s.vm.findClass ("[" ++ (FieldType.array .int).toString) = some cA := (hK.2 t0 _ ht).2
  have e : cA = cB := Option.some.inj (e2.symm.trans f1)
  subst e
  rw [hcl]
  generalize hH1 : H.push ({ cls := cA, slots := Array.replicate N .null, vm := .none } : Cell) = H1
  have e1 : H1[H.size]? = some (arrV cA N (fun _ => .null)) := by rw [← hH1, Array.getElem?_push_size, ← arrV_new]
  have o1 : ∀ q : Nat, q < H.size → H1[q]? = H[q]? := fun q hq => by rw [← hH1, Array.getElem?_push, if_neg (Nat.ne_of_lt hq)]
  have z1 : H1.size = H.size + 1 := by rw [← hH1, Array.size_push]
  have hk : ∀ (k : Nat) (x : Nat × va_E), w[k]? = some x → H1[x.1]? = H[x.1]? := fun k x hx => o1 x.1 ((hP k x hx).lt)
  refine kk H.size H1 ((hP.kept hk).app (fun k x hx => ?_)) (hD.push hP rfl (hA _ hS.1)) ⟨Nat.le_trans hS.1 (by omega), fun x h1 h2 => (o1 x (Nat.lt_of_lt_of_le h1 hS.1)).trans (hS.2.1 x h1 h2), hS.2.2⟩
  have hz : k < 1 := (List.getElem?_eq_some_iff.mp hx).1
  rw [show k = 0 by omega] at hx
  cases hx
  show H1[H.size]? = some (vp_cell _ _)
  rw [vp_cell_q]
  exact e1
theorem kt_newqO (hx : p.tables.exec = Jvm.exec) (hb : c.code = cc) {own : String} {index : Nat} (hown : s.vm.findClass own = some m.cls) (hclink : (Cond.classLink own index RObj).before args s = true) (hover : va_AO RObj s) (hK : va_K D vwCl tys s) (hP : va_P D vwCl w H) (hD : va_D A w) (hS : va_S A H0 H locs) (hA : ∀ q, H0.size ≤ q → A q) (t0 : Nat) {cA : ClassId} (ht : tys[t0]? = some (cA, .object RObj)) {N : Nat} (hN : N < 2 ^ 20) (hcells : cells + 1 ≤ R.cells) (hslots : slots + N ≤ R.slots) (hdg : decode cc pc = .ok (.anewarray index, 3))
    (kk : ∀ (q : Nat) (H1 : Heap), va_P D vwCl (w ++ [(q, .inl (cA, N, .inr (.inr (.inr (.inr (fun _ => none))))))]) H1 → va_D A (w ++ [(q, .inl (cA, N, .inr (.inr (.inr (.inr (fun _ => none))))))]) → va_S A H0 H1 locs → W p l e R s m args below meth c H1 locs (cells + 1) (slots + N) Q (F0 m (pc + 3) ls (.ref q :: rest))) : W p l e R s m args below meth c H locs cells slots Q (F0 m pc ls (.int (nI N) :: rest)) := by
  refine va_newq (C := RObj) (N' := N) hx hb hown hclink hover hK hP hD hS hA (nI_pos (by omega)) (nI_clamp (by omega)) (by omega) hcells hslots hdg (fun q cB H1 hK1 hP1 hD1 hS1 => ?_)
  obtain ⟨kA, comp, -, -, -, e1⟩ := (hK.2 t0 _ ht).2
  obtain ⟨kB, comp2, -, -, -, e2⟩ := (hK1.2 tys.length (cB, .object RObj) (by simp)).2
  have e : cA = cB := Option.some.inj (e1.symm.trans e2)
  subst e
  exact kk q H1 hP1 hD1 hS1
theorem kt_callFiP {r : Int32} (hr : va_Run5 p l e R s m args below meth c H locs cells slots mc ms (F0 m pc ls st) rest (va_Qi (fun (r' : Int32) (_ : Unit) => r' = r) (fun _ t => ATW D tys (va_A wC H.size) wC t) (va_A wC H.size) aa) (va_A wC H.size))
    (hP : va_P D vwCl w H) (hD : va_D A w) (hS : va_S A H0 H locs) (hA : ∀ q, H0.size ≤ q → A q) (isC : List Nat) (hsw : kt_sw w w isC wC wC) (hnd : va_nd isC = true)
    (kk : ∀ (H1 : Heap) (locs1 : List Loc), va_P D vwCl w H1 → va_D A w → va_S A H0 H1 locs1 → W p l e R s m args below meth c H1 locs1 (cells + mc) (slots + ms) Q (F0 m (pc + 5) ls (.int r :: rest))) : W p l e R s m args below meth c H locs cells slots Q (F0 m pc ls st) := by
  have hF := va_free (wc := wC) hD hS hA isC hsw.1
  refine va_callFi hr hS (fun q _ h => hF q h) hF (fun r' u t H1 locs1 ht hvm hpost hB hz hk hS1 => ?_)
  subst hpost
  obtain ⟨hP1, hK1, hD1⟩ := hB
  rw [ht] at hP1
  obtain ⟨hP2, hD2⟩ := kt_back hP hD hsw hnd hk hP1 hD1
  exact kk H1 locs1 hP2 hD2 hS1
theorem kt_anyI {q0 t0 : Nat} {cA : ClassId} {n : Nat} {f : Nat → Int32} {a : Nat} (hK : va_K D vwCl tys s) (hP : va_P D vwCl w H) (he : w[q0]? = some (a, .inl (cA, n, .inl f))) (ht : tys[t0]? = some (cA, .int)) (hc : va_Nw (.castable "[I" RObj) s) : va_Any RObj s H a := by
  have h1 : H[a]? = some (vp_cell cA (n, .inl f)) := hP q0 _ he
  obtain ⟨c3, c4, h3, h4, h5⟩ := Cond.castable_spec (args := #[]) (s := s) hc
  have e2 : s.vm.findClass ("[" ++ FieldType.int.toString) = some cA := (hK.2 t0 _ ht).2
  have e3 : s.vm.findClass "[I" = some cA := e2
  obtain ⟨kC, hkC, -⟩ := Vm.findClass_spec e3
  refine ⟨_, h1, rfl, ⟨kC, hkC⟩, fun comp h => ?_⟩
  have e4 : c3 = cA := Option.some.inj (h3.symm.trans e3)
  have e5 : c4 = comp := Option.some.inj (h4.symm.trans h)
  subst e4; subst e5
  exact h5
end KTP
section KTPP
variable {p : Program} {l : Launch} {e : Env} {R : Room} {s : State} {m : MethodId} {args : Array Value} {below : List Frame} {meth : Method} {c : Code} {H : Heap} {locs : List Loc} {cells slots : Nat} {Q : State → Prop}
variable {cc bytes : ByteArray} {pc : Nat} {ls : Array Slot} {rest As : List Value} {D : va_G} {A : Nat → Prop} {b : Nat} {tys : List (ClassId × FieldType)} {w wC wC' wR w' : va_W} {H0 : Heap}
variable {nL maxL n index mc ms : Nat} {Ts ws : List Cond} {own C : String} {y : MethodName} {ret : Option FieldType} {rm : Room}
variable {Pc : Array Value → State → Prop}
theorem kt_calliP {r : Int32} (S : CallFix p m c cc nL s args Ts own) (hM : Met l y ws rm Pc (va_Qi (fun (r' : Int32) (_ : Unit) => r' = r) (fun _ t => ATW D tys (va_A wC H.size) wC' t) (va_A wC H.size)) mc ms (va_A wC H.size)) (cw : CallW R s args own C index y bytes maxL ret ws rm mc ms n)
    (hK : va_K D vwCl tys s) (hP : va_P D vwCl w H) (hD : va_D A w) (hS : va_S A H0 H locs) (hA : ∀ q, H0.size ≤ q → A q) (isC : List Nat) (hsw : kt_sw w w' isC wC wC') (hndC : va_nd isC = true)
    (hpre : PreV s H C b Pc As) {st : List Value} (hst : st = As.reverse ++ .ref b :: rest) (hn : As.length = n) (hsz : ls.size = nL) (hw : (rest.map fun v => v.category).sum ≤ 8) (hdg : decode cc pc = .ok (.invokevirtual index, 3)) (hcs : cells + mc ≤ R.cells ∧ slots + ms ≤ R.slots)
    (kk : ∀ (H1 : Heap) (locs1 : List Loc), va_P D vwCl w' H1 → va_D A w' → va_S A H0 H1 locs1 → W p l e R s m args below meth c H1 locs1 (cells + mc) (slots + ms) Q (F0 m (pc + 3) ls (.int r :: rest))) : W p l e R s m args below meth c H locs cells slots Q (F0 m pc ls st) := by
  subst hst
  have hF := va_free (wc := wC) hD hS hA isC hsw.1
  refine va_calli (va_runV (rest := rest) S hM cw hpre rfl hn hsz rfl (lv_room hw) hdg hcs) hS (fun q _ h => hF q h) hF (fun r' u t H1 locs1 ht hvm hpost hB hz hk hS1 => ?_)
  subst hpost
  obtain ⟨hP1, hK1, hD1⟩ := hB
  rw [ht] at hP1
  obtain ⟨hP2, hD2⟩ := kt_back hP hD hsw hndC hk hP1 hD1
  exact kk H1 locs1 hP2 hD2 hS1
theorem kt_calllP {r : Int64} (S : CallFix p m c cc nL s args Ts own) (hM : Met l y ws rm Pc (va_Ql (fun (r' : Int64) (_ : Unit) => r' = r) (fun _ t => ATW D tys (va_A wC H.size) wC' t) (va_A wC H.size)) mc ms (va_A wC H.size)) (cw : CallW R s args own C index y bytes maxL ret ws rm mc ms n)
    (hK : va_K D vwCl tys s) (hP : va_P D vwCl w H) (hD : va_D A w) (hS : va_S A H0 H locs) (hA : ∀ q, H0.size ≤ q → A q) (isC : List Nat) (hsw : kt_sw w w' isC wC wC') (hndC : va_nd isC = true)
    (hpre : PreV s H C b Pc As) {st : List Value} (hst : st = As.reverse ++ .ref b :: rest) (hn : As.length = n) (hsz : ls.size = nL) (hw : (rest.map fun v => v.category).sum ≤ 8) (hdg : decode cc pc = .ok (.invokevirtual index, 3)) (hcs : cells + mc ≤ R.cells ∧ slots + ms ≤ R.slots)
    (kk : ∀ (H1 : Heap) (locs1 : List Loc), va_P D vwCl w' H1 → va_D A w' → va_S A H0 H1 locs1 → W p l e R s m args below meth c H1 locs1 (cells + mc) (slots + ms) Q (F0 m (pc + 3) ls (.long r :: rest))) : W p l e R s m args below meth c H locs cells slots Q (F0 m pc ls st) := by
  subst hst
  have hF := va_free (wc := wC) hD hS hA isC hsw.1
  refine va_calll (va_runV (rest := rest) S hM cw hpre rfl hn hsz rfl (lv_room hw) hdg hcs) hS (fun q _ h => hF q h) hF (fun r' u t H1 locs1 ht hvm hpost hB hz hk hS1 => ?_)
  subst hpost
  obtain ⟨hP1, hK1, hD1⟩ := hB
  rw [ht] at hP1
  obtain ⟨hP2, hD2⟩ := kt_back hP hD hsw hndC hk hP1 hD1
  exact kk H1 locs1 hP2 hD2 hS1
end KTPP
