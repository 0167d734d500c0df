/-! rows for walks that make cells; the world of the reference as it is when it is new -/
abbrev tyR (cI cII cJ cJJ cZ cO : ClassId) : List (ClassId × FieldType) := [(cI, .int), (cII, .array .int), (cJ, .long), (cJJ, .array .long), (cZ, .boolean), (cO, .object "java/lang/Object")]
abbrev kX5 : Nat := 7
abbrev kAL : Nat := 1
abbrev kIT : Nat := 0
abbrev z0 : Nat → Int32 := fun _ => 0
abbrev wR (th : Int32) (CO : Nat → Int32) (mo eo : Nat) (er : Nat → Nat) (gr av ro co kl dd : Nat) (cI cII : ClassId) : va_W := [(mo, .inr (kX5, [.int th, .int (nI 0), .ref eo, .ref gr, .ref av, .ref ro, .ref co, .ref kl, .int (nI 0), .int (nI 0), .int (nI 0)])), (eo, .inl (cII, 7, .inr (.inr (.inr (.inr (rowF 7 er)))))), (er 0, .inl (cI, 7, .inl z0)), (er 1, .inl (cI, 7, .inl z0)), (er 2, .inl (cI, 7, .inl z0)), (er 3, .inl (cI, 7, .inl z0)), (er 4, .inl (cI, 7, .inl z0)), (er 5, .inl (cI, 7, .inl z0)), (er 6, .inl (cI, 7, .inl z0)), (gr, .inl (cI, 6, .inl z0)), (av, .inl (cI, 6, .inl z0)), (ro, .inl (cI, 6, .inl z0)), (co, .inl (cI, 7, .inl CO)), (kl, .inr (kAL, [.int (nI 0), .ref dd, .int (nI 0)]))]
theorem row_at {x0 x1 : Nat × va_E} {er : Nat → Nat} {z : va_E} {tl : va_W} {j : Nat} (hj : j < 7) : (x0 :: x1 :: (er 0, z) :: (er 1, z) :: (er 2, z) :: (er 3, z) :: (er 4, z) :: (er 5, z) :: (er 6, z) :: tl)[2 + j]? = some (er j, z) := by
  match j, hj with
  | 0, _ => rfl
  | 1, _ => rfl
  | 2, _ => rfl
  | 3, _ => rfl
  | 4, _ => rfl
  | 5, _ => rfl
  | 6, _ => rfl
theorem upd_z0 {k : Nat} (j : Nat) : upd z0 k (nI 0) j = z0 j := by
  unfold upd
  split <;> rfl
theorem kt_mix_none (c : va_W) : ∀ w : va_W, kt_mix c (List.replicate w.length none) w = w
  | [] => rfl
  | x :: w => by
    show x :: kt_mix c (List.replicate w.length none) w = x :: w
    rw [kt_mix_none c w]
theorem kt_sw_nil (w : va_W) : kt_sw w w [] [] [] := by
  refine ⟨rfl, ⟨List.replicate w.length none, kt_mix_none _ w, ?_⟩, rfl⟩
  unfold kt_fit
  rw [List.all_eq_true]
  intro k _
  rw [List.getElem?_replicate]
  split <;> simp_all
theorem sw_R0 {th th' : Int32} {CO CO' : Nat → Int32} {mo eo : Nat} {er : Nat → Nat} {gr av ro co kl dd : Nat} {cI cII : ClassId} : kt_sw (wR th CO mo eo er gr av ro co kl dd cI cII) (wR th' CO' mo eo er gr av ro co kl dd cI cII) (List.range' 0 14) (wR th CO mo eo er gr av ro co kl dd cI cII) (wR th' CO' mo eo er gr av ro co kl dd cI cII) := kt_sw_all rfl (by decide +kernel) rfl
theorem sw_R1 {th th' : Int32} {CO CO' : Nat → Int32} {mo eo : Nat} {er : Nat → Nat} {gr av ro co kl dd : Nat} {cI cII : ClassId} {t : Nat × va_E} : kt_sw ((wR th CO mo eo er gr av ro co kl dd cI cII) ++ [t]) ((wR th' CO' mo eo er gr av ro co kl dd cI cII) ++ [t]) (List.range' 0 14) (wR th CO mo eo er gr av ro co kl dd cI cII) (wR th' CO' mo eo er gr av ro co kl dd cI cII) := ⟨rfl, ⟨[some 0, some 1, some 2, some 3, some 4, some 5, some 6, some 7, some 8, some 9, some 10, some 11, some 12, some 13, none], rfl, by decide +kernel⟩, rfl⟩
theorem sw_R2 {th th' : Int32} {CO CO' : Nat → Int32} {mo eo : Nat} {er : Nat → Nat} {gr av ro co kl dd : Nat} {cI cII : ClassId} {t u : Nat × va_E} : kt_sw ((wR th CO mo eo er gr av ro co kl dd cI cII) ++ [t, u]) ((wR th' CO' mo eo er gr av ro co kl dd cI cII) ++ [t, u]) (List.range' 0 14) (wR th CO mo eo er gr av ro co kl dd cI cII) (wR th' CO' mo eo er gr av ro co kl dd cI cII) := ⟨rfl, ⟨[some 0, some 1, some 2, some 3, some 4, some 5, some 6, some 7, some 8, some 9, some 10, some 11, some 12, some 13, none, none], rfl, by decide +kernel⟩, rfl⟩
section KTM
variable {p : Program} {l : Launch} {e : Env} {R : Room} {s : State} {m : MethodId} {args : Array Value} {below : List Frame} {meth : Method} {c : Code} {H : Heap} {locs : List Loc} {cells slots : Nat} {Q : State → Prop}
variable {cc bytes : ByteArray} {pc : Nat} {ls : Array Slot} {rest As : List Value} {D : va_G} {A : Nat → Prop} {b : Nat} {tys : List (ClassId × FieldType)} {w wC wC' wR w' : va_W} {H0 : Heap}
variable {nL maxL n index mc ms : Nat} {Ts ws : List Cond} {own C : String} {y : MethodName} {ret : Option FieldType} {rm : Room}

theorem kt_calliM {r : Int32} (S : CallFix p m c cc nL s args Ts own) (hM : Met l y ws rm (va_Pc (.ref b :: As) (PRE D tys wC H.size)) (va_Qi (fun (r' : Int32) (_ : Unit) => r' = r) (fun _ t => ATW D tys (va_A wC H.size) wC' t) (va_A wC H.size)) mc ms (va_A wC H.size)) (cw : CallW R s args own C index y bytes maxL ret ws rm mc ms n)
    (hK : va_K D vwCl tys s) (hP : va_P D vwCl w H) (hD : va_D A w) (hS : va_S A H0 H locs) (hA : ∀ q, H0.size ≤ q → A q) (isC : List Nat) (hsw : kt_sw w w' isC wC wC') (hndC : va_nd isC = true)
    (q0 ci : Nat) {q : vw_C} {fs : List Value} (hc : vwCl[ci]? = some q) (hq : q.1 = C) (he : w[q0]? = some (b, .inr (ci, fs))) {st : List Value} (hst : st = As.reverse ++ .ref b :: rest) (hn : As.length = n) (hsz : ls.size = nL) (hw : (rest.map fun v => v.category).sum ≤ 8) (hdg : decode cc pc = .ok (.invokevirtual index, 3)) (hcs : cells + mc ≤ R.cells ∧ slots + ms ≤ R.slots)
    (kk : ∀ (H1 : Heap) (locs1 : List Loc), va_P D vwCl w' H1 → va_D A w' → va_S A H0 H1 locs1 → W p l e R s m args below meth c H1 locs1 (cells + mc) (slots + ms) Q (F0 m (pc + 3) ls (.int r :: rest))) : W p l e R s m args below meth c H locs cells slots Q (F0 m pc ls st) := by
  subst hst
  have hF := va_free (wc := wC) hD hS hA isC hsw.1
  refine va_calli (va_runV (rest := rest) S hM cw (kt_preV hK hP hD isC hsw.1 hndC hc hq he) rfl hn hsz rfl (lv_room hw) hdg hcs) hS (fun q _ h => hF q h) hF (fun r' u t H1 locs1 ht hvm hpost hB hz hk hS1 => ?_)
  subst hpost
  obtain ⟨hP1, hK1, hD1⟩ := hB
  rw [ht] at hP1
  obtain ⟨hP2, hD2⟩ := kt_back hP hD hsw hndC hk hP1 hD1
  exact kk H1 locs1 hP2 hD2 hS1
theorem kt_callSiM {r : Int32} (S : CallFix p m c cc nL s args Ts own) (hM : Met l y ws rm (va_Pc As (PRE D tys wC H.size)) (va_Qi (fun (r' : Int32) (_ : Unit) => r' = r) (fun _ t => ATW D tys (va_A wC H.size) wC' t) (va_A wC H.size)) mc ms (va_A wC H.size)) (cw : CallB R s args own index y bytes maxL ret ws rm mc ms n ∧ (Cond.static y).before args s = true)
    (hK : va_K D vwCl tys s) (hP : va_P D vwCl w H) (hD : va_D A w) (hS : va_S A H0 H locs) (hA : ∀ q, H0.size ≤ q → A q) (isC : List Nat) (hsw : kt_sw w w' isC wC wC') (hndC : va_nd isC = true)
    {st : List Value} (hst : st = As.reverse ++ rest) (hn : As.length = n) (hsz : ls.size = nL) (hw : (rest.map fun v => v.category).sum ≤ 8) (hdg : decode cc pc = .ok (.invokestatic index, 3)) (hcs : cells + mc ≤ R.cells ∧ slots + ms ≤ R.slots)
    (kk : ∀ (H1 : Heap) (locs1 : List Loc), va_P D vwCl w' H1 → va_D A w' → va_S A H0 H1 locs1 → W p l e R s m args below meth c H1 locs1 (cells + mc) (slots + ms) Q (F0 m (pc + 3) ls (.int r :: rest))) : W p l e R s m args below meth c H locs cells slots Q (F0 m pc ls st) := by
  subst hst
  have hF := va_free (wc := wC) hD hS hA isC hsw.1
  refine va_calli (va_runS (rest := rest) S hM cw (kt_preS hK hP hD isC hsw.1 hndC) rfl hn hsz rfl (lv_room hw) hdg hcs) hS (fun q _ h => hF q h) hF (fun r' u t H1 locs1 ht hvm hpost hB hz hk hS1 => ?_)
  subst hpost
  obtain ⟨hP1, hK1, hD1⟩ := hB
  rw [ht] at hP1
  obtain ⟨hP2, hD2⟩ := kt_back hP hD hsw hndC hk hP1 hD1
  exact kk H1 locs1 hP2 hD2 hS1
theorem kt_calllM {r : Int64} (S : CallFix p m c cc nL s args Ts own) (hM : Met l y ws rm (va_Pc (.ref b :: As) (PRE D tys wC H.size)) (va_Ql (fun (r' : Int64) (_ : Unit) => r' = r) (fun _ t => ATW D tys (va_A wC H.size) wC' t) (va_A wC H.size)) mc ms (va_A wC H.size)) (cw : CallW R s args own C index y bytes maxL ret ws rm mc ms n)
    (hK : va_K D vwCl tys s) (hP : va_P D vwCl w H) (hD : va_D A w) (hS : va_S A H0 H locs) (hA : ∀ q, H0.size ≤ q → A q) (isC : List Nat) (hsw : kt_sw w w' isC wC wC') (hndC : va_nd isC = true)
    (q0 ci : Nat) {q : vw_C} {fs : List Value} (hc : vwCl[ci]? = some q) (hq : q.1 = C) (he : w[q0]? = some (b, .inr (ci, fs))) {st : List Value} (hst : st = As.reverse ++ .ref b :: rest) (hn : As.length = n) (hsz : ls.size = nL) (hw : (rest.map fun v => v.category).sum ≤ 8) (hdg : decode cc pc = .ok (.invokevirtual index, 3)) (hcs : cells + mc ≤ R.cells ∧ slots + ms ≤ R.slots)
    (kk : ∀ (H1 : Heap) (locs1 : List Loc), va_P D vwCl w' H1 → va_D A w' → va_S A H0 H1 locs1 → W p l e R s m args below meth c H1 locs1 (cells + mc) (slots + ms) Q (F0 m (pc + 3) ls (.long r :: rest))) : W p l e R s m args below meth c H locs cells slots Q (F0 m pc ls st) := by
  subst hst
  have hF := va_free (wc := wC) hD hS hA isC hsw.1
  refine va_calll (va_runV (rest := rest) S hM cw (kt_preV hK hP hD isC hsw.1 hndC hc hq he) rfl hn hsz rfl (lv_room hw) hdg hcs) hS (fun q _ h => hF q h) hF (fun r' u t H1 locs1 ht hvm hpost hB hz hk hS1 => ?_)
  subst hpost
  obtain ⟨hP1, hK1, hD1⟩ := hB
  rw [ht] at hP1
  obtain ⟨hP2, hD2⟩ := kt_back hP hD hsw hndC hk hP1 hD1
  exact kk H1 locs1 hP2 hD2 hS1
theorem kt_callSlM {r : Int64} (S : CallFix p m c cc nL s args Ts own) (hM : Met l y ws rm (va_Pc As (PRE D tys wC H.size)) (va_Ql (fun (r' : Int64) (_ : Unit) => r' = r) (fun _ t => ATW D tys (va_A wC H.size) wC' t) (va_A wC H.size)) mc ms (va_A wC H.size)) (cw : CallB R s args own index y bytes maxL ret ws rm mc ms n ∧ (Cond.static y).before args s = true)
    (hK : va_K D vwCl tys s) (hP : va_P D vwCl w H) (hD : va_D A w) (hS : va_S A H0 H locs) (hA : ∀ q, H0.size ≤ q → A q) (isC : List Nat) (hsw : kt_sw w w' isC wC wC') (hndC : va_nd isC = true)
    {st : List Value} (hst : st = As.reverse ++ rest) (hn : As.length = n) (hsz : ls.size = nL) (hw : (rest.map fun v => v.category).sum ≤ 8) (hdg : decode cc pc = .ok (.invokestatic index, 3)) (hcs : cells + mc ≤ R.cells ∧ slots + ms ≤ R.slots)
    (kk : ∀ (H1 : Heap) (locs1 : List Loc), va_P D vwCl w' H1 → va_D A w' → va_S A H0 H1 locs1 → W p l e R s m args below meth c H1 locs1 (cells + mc) (slots + ms) Q (F0 m (pc + 3) ls (.long r :: rest))) : W p l e R s m args below meth c H locs cells slots Q (F0 m pc ls st) := by
  subst hst
  have hF := va_free (wc := wC) hD hS hA isC hsw.1
  refine va_calll (va_runS (rest := rest) S hM cw (kt_preS hK hP hD isC hsw.1 hndC) rfl hn hsz rfl (lv_room hw) hdg hcs) hS (fun q _ h => hF q h) hF (fun r' u t H1 locs1 ht hvm hpost hB hz hk hS1 => ?_)
  subst hpost
  obtain ⟨hP1, hK1, hD1⟩ := hB
  rw [ht] at hP1
  obtain ⟨hP2, hD2⟩ := kt_back hP hD hsw hndC hk hP1 hD1
  exact kk H1 locs1 hP2 hD2 hS1
theorem kt_callvM (S : CallFix p m c cc nL s args Ts own) (hM : Met l y ws rm (va_Pc (.ref b :: As) (PRE D tys wC H.size)) (va_Qv (fun (_ : Unit) => True) (fun _ t => ATW D tys (va_A wC H.size) wC' t) (va_A wC H.size)) mc ms (va_A wC H.size)) (cw : CallW R s args own C index y bytes maxL ret ws rm mc ms n)
    (hK : va_K D vwCl tys s) (hP : va_P D vwCl w H) (hD : va_D A w) (hS : va_S A H0 H locs) (hA : ∀ q, H0.size ≤ q → A q) (isC : List Nat) (hsw : kt_sw w w' isC wC wC') (hndC : va_nd isC = true)
    (q0 ci : Nat) {q : vw_C} {fs : List Value} (hc : vwCl[ci]? = some q) (hq : q.1 = C) (he : w[q0]? = some (b, .inr (ci, fs))) {st : List Value} (hst : st = As.reverse ++ .ref b :: rest) (hn : As.length = n) (hsz : ls.size = nL) (hw : (rest.map fun v => v.category).sum ≤ 8) (hdg : decode cc pc = .ok (.invokevirtual index, 3)) (hcs : cells + mc ≤ R.cells ∧ slots + ms ≤ R.slots)
    (kk : ∀ (H1 : Heap) (locs1 : List Loc), va_P D vwCl w' H1 → va_D A w' → va_S A H0 H1 locs1 → W p l e R s m args below meth c H1 locs1 (cells + mc) (slots + ms) Q (F0 m (pc + 3) ls (rest))) : W p l e R s m args below meth c H locs cells slots Q (F0 m pc ls st) := by
  subst hst
  have hF := va_free (wc := wC) hD hS hA isC hsw.1
  refine va_callv (va_runV (rest := rest) S hM cw (kt_preV hK hP hD isC hsw.1 hndC hc hq he) rfl hn hsz rfl (lv_room hw) hdg hcs) hS (fun q _ h => hF q h) hF (fun u t H1 locs1 ht hvm hpost hB hz hk hS1 => ?_)
  obtain ⟨hP1, hK1, hD1⟩ := hB
  rw [ht] at hP1
  obtain ⟨hP2, hD2⟩ := kt_back hP hD hsw hndC hk hP1 hD1
  exact kk H1 locs1 hP2 hD2 hS1
theorem kt_callSvM (S : CallFix p m c cc nL s args Ts own) (hM : Met l y ws rm (va_Pc As (PRE D tys wC H.size)) (va_Qv (fun (_ : Unit) => True) (fun _ t => ATW D tys (va_A wC H.size) wC' t) (va_A wC H.size)) mc ms (va_A wC H.size)) (cw : CallB R s args own index y bytes maxL ret ws rm mc ms n ∧ (Cond.static y).before args s = true)
    (hK : va_K D vwCl tys s) (hP : va_P D vwCl w H) (hD : va_D A w) (hS : va_S A H0 H locs) (hA : ∀ q, H0.size ≤ q → A q) (isC : List Nat) (hsw : kt_sw w w' isC wC wC') (hndC : va_nd isC = true)
    {st : List Value} (hst : st = As.reverse ++ rest) (hn : As.length = n) (hsz : ls.size = nL) (hw : (rest.map fun v => v.category).sum ≤ 8) (hdg : decode cc pc = .ok (.invokestatic index, 3)) (hcs : cells + mc ≤ R.cells ∧ slots + ms ≤ R.slots)
    (kk : ∀ (H1 : Heap) (locs1 : List Loc), va_P D vwCl w' H1 → va_D A w' → va_S A H0 H1 locs1 → W p l e R s m args below meth c H1 locs1 (cells + mc) (slots + ms) Q (F0 m (pc + 3) ls (rest))) : W p l e R s m args below meth c H locs cells slots Q (F0 m pc ls st) := by
  subst hst
  have hF := va_free (wc := wC) hD hS hA isC hsw.1
  refine va_callv (va_runS (rest := rest) S hM cw (kt_preS hK hP hD isC hsw.1 hndC) rfl hn hsz rfl (lv_room hw) hdg hcs) hS (fun q _ h => hF q h) hF (fun u t H1 locs1 ht hvm hpost hB hz hk hS1 => ?_)
  obtain ⟨hP1, hK1, hD1⟩ := hB
  rw [ht] at hP1
  obtain ⟨hP2, hD2⟩ := kt_back hP hD hsw hndC hk hP1 hD1
  exact kk H1 locs1 hP2 hD2 hS1
theorem kt_newz {cl : List vw_C} {w : va_W} (hx : p.tables.exec = Jvm.exec) (hb : c.code = cc) (harr : (Cond.arrayClass .boolean).before args s = true) (hK : va_K D cl tys s) (hP : va_P D cl w H) (hD : va_D A w) (hS : va_S A H0 H locs) (hA : ∀ q, H0.size ≤ q → A q) (t0 : Nat) {cA : ClassId} (ht : tys[t0]? = some (cA, .boolean)) {N : Nat} (hN : N < 2 ^ 20) (hcells : cells + 1 ≤ R.cells) (hslots : slots + N ≤ R.slots) (hdg : decode cc pc = .ok (.newarray .boolean, 2))
    (kk : ∀ (q : Nat) (H1 : Heap), va_P D cl (w ++ [(q, .inl (cA, N, .inl (fun _ => 0)))]) H1 → va_D A (w ++ [(q, .inl (cA, N, .inl (fun _ => 0)))]) → va_S A H0 H1 locs → W p l e R s m args below meth c H1 locs (cells + 1) (slots + N) Q (F0 m (pc + 2) ls (.ref q :: rest))) : W p l e R s m args below meth c H locs cells slots Q (F0 m pc ls (.int (nI N) :: rest)) := by
  refine va_newa (atype := .boolean) (ty := .boolean) (N' := N) hx hb harr rfl hK hP hD hS hA (a0 := (N, .inl (fun _ => 0))) (fun _ => rfl) (nI_pos (by omega)) (nI_clamp (by omega)) (by show N * 1 ≤ 536870912; omega) hcells hslots hdg (fun q cB H1 hK1 hP1 hD1 hS1 => ?_)
  have e1 : s.vm.findClass ("[" ++ FieldType.boolean.toString) = some cA := (hK.2 t0 _ ht).2
  have e2 : s.vm.findClass ("[" ++ FieldType.boolean.toString) = some cB := (hK1.2 tys.length (cB, .boolean) (by simp)).2
  have e : cA = cB := Option.some.inj (e1.symm.trans e2)
  subst e
  exact kk q H1 hP1 hD1 hS1
end KTM
section KTU
variable {p : Program} {l : Launch} {e : Env} {R : Room} {s : State} {m : MethodId} {args : Array Value} {below : List Frame} {meth : Method} {c : Code} {H : Heap} {locs : List Loc} {cells slots : Nat}
variable {cc : ByteArray} {pc : Nat} {ls : Array Slot} {D : va_G} {A : Nat → Prop} {tys : List (ClassId × FieldType)}
abbrev wU (mo : Nat) (th : Int32) (u : List Value) : va_W := [(mo, .inr (kX5, .int th :: u))]
theorem kt_iretU {mo : Nat} {th : Int32} {vs : List Value} {v r : Int32} (hx : p.tables.exec = Jvm.exec) (hb : c.code = cc) (hr : meth.sig.returnType = some .int) (hS : va_S A s.heap H locs) (hP : va_P D vwCl (wU mo th vs) H) (hK : va_K D vwCl tys s) (hD : va_D A (wU mo th vs)) (he : v = r) (hlocks : meth.locks = false) (hdg : decode cc pc = .ok (.ireturn, 1)) : W p l e R s m args below meth c H locs cells slots (MQ below (va_Qi (fun (r' : Int32) (_ : List Value) => r' = r) (fun (u : List Value) t => ATW D tys A (wU mo th u) t) A) args s cells slots A) (F0 m pc ls [.int v]) :=
  W.iret hx hb hr (fun t ht hW => ⟨⟨v, vs, rfl, he, by rw [ht]; exact hP, va_K.moved hW.alike hK, hD⟩, hS.F ht⟩) hS.2.2 hdg hlocks
theorem kt_zretU {mo : Nat} {th : Int32} {vs : List Value} {v r : Int32} (hx : p.tables.exec = Jvm.exec) (hb : c.code = cc) (hr : meth.sig.returnType = some .boolean) (hn : narrow .boolean (.int v) = .int v) (hS : va_S A s.heap H locs) (hP : va_P D vwCl (wU mo th vs) H) (hK : va_K D vwCl tys s) (hD : va_D A (wU mo th vs)) (he : v = r) (hlocks : meth.locks = false) (hdg : decode cc pc = .ok (.ireturn, 1)) : W p l e R s m args below meth c H locs cells slots (MQ below (va_Qi (fun (r' : Int32) (_ : List Value) => r' = r) (fun (u : List Value) t => ATW D tys A (wU mo th u) t) A) args s cells slots A) (F0 m pc ls [.int v]) :=
  W.zret hx hb hr hn (fun t ht hW => ⟨⟨v, vs, rfl, he, by rw [ht]; exact hP, va_K.moved hW.alike hK, hD⟩, hS.F ht⟩) hS.2.2 hdg hlocks
theorem kt_lretU {mo : Nat} {th : Int32} {vs : List Value} {v r : Int64} (hx : p.tables.exec = Jvm.exec) (hb : c.code = cc) (hr : meth.sig.returnType = some .long) (hS : va_S A s.heap H locs) (hP : va_P D vwCl (wU mo th vs) H) (hK : va_K D vwCl tys s) (hD : va_D A (wU mo th vs)) (he : v = r) (hlocks : meth.locks = false) (hdg : decode cc pc = .ok (.lreturn, 1)) : W p l e R s m args below meth c H locs cells slots (MQ below (va_Ql (fun (r' : Int64) (_ : List Value) => r' = r) (fun (u : List Value) t => ATW D tys A (wU mo th u) t) A) args s cells slots A) (F0 m pc ls [.long v]) :=
  W.lret hx hb hr (fun t ht hW => ⟨⟨v, vs, rfl, he, by rw [ht]; exact hP, va_K.moved hW.alike hK, hD⟩, hS.F ht⟩) hS.2.2 hdg hlocks
theorem kt_dretU {mo : Nat} {th : Int32} {vs : List Value} {v r : UInt64} (hx : p.tables.exec = Jvm.exec) (hb : c.code = cc) (hr : meth.sig.returnType = some .double) (hS : va_S A s.heap H locs) (hP : va_P D vwCl (wU mo th vs) H) (hK : va_K D vwCl tys s) (hD : va_D A (wU mo th vs)) (he : v = r) (hlocks : meth.locks = false) (hdg : decode cc pc = .ok (.dreturn, 1)) : W p l e R s m args below meth c H locs cells slots (MQ below (va_Qd (fun (r' : UInt64) (_ : List Value) => r' = r) (fun (u : List Value) t => ATW D tys A (wU mo th u) t) A) args s cells slots A) (F0 m pc ls [.double v]) :=
  W.dret hx hb hr (fun t ht hW => ⟨⟨v, vs, rfl, he, by rw [ht]; exact hP, va_K.moved hW.alike hK, hD⟩, hS.F ht⟩) hS.2.2 hdg hlocks
end KTU
