/-! the law's helpers: bodies with a table of handlers; the world of the class as it is when it is new -/
abbrev wF (tp : Nat) (f : Nat → Nat) (er tr kr : Nat → Nat) (cI cII cJ cJJ : ClassId) : va_W := wTop tp (f 0) (f 1) (f 2) (fun _ => 0) (fun _ => 0) (f 3) (f 4) (f 5) (fun _ => 0) (fun _ => 0) (f 6) (f 7) (f 8) (fun _ => 0) (fun _ => 0) (f 9) (f 10) (f 11) (fun _ => 0) (fun _ => 0) (f 12) kr (fun _ _ => 0) 0 0 0 (f 13) (f 14) (fun _ => 0) 0 (f 15) (f 16) (fun _ => 0) (f 17) (f 18) (f 19) (fun _ => 0) (fun _ => 0) (f 20) (f 21) (f 22) (fun _ => 0) (fun _ => 0) cJ cJJ cI cII (f 23) (f 24) (f 25) (f 26) er 0 (fun _ _ => 0) (fun _ => 0) tr (fun _ _ => 0)
abbrev oZ : Nat → Int64 := fun _ => 0
abbrev wO (cJ : ClassId) (out : Nat) (O : Nat → Int64) : va_W := [(out, .inl (cJ, 1, .inr (.inl O)))]
abbrev PREH (D : va_G) (tys : List (ClassId × FieldType)) (ws : va_W) (sz : Nat) : State → Prop := fun U => PREE D tys ws sz U ∧ va_Nc exA exI U
theorem kt_blindH {D : va_G} {tys : List (ClassId × FieldType)} {ws : va_W} {sz : Nat} {as : List Value} : FrameBlind (va_Pc as (PREH D tys ws sz)) := fun a U g mk q => by
  obtain ⟨q0, q1, a1⟩ := q
  obtain ⟨q0', q1'⟩ := kt_blindE (as := as) a U g mk ⟨q0, q1⟩
  exact ⟨q0', q1', va_Nc.moved (u := U) (U := U.calling g mk a) (Vm.Alike.refl U.vm) a1⟩
theorem kt_ofWH {l : Launch} {y : MethodName} {ws ws' : List Cond} {rm : Room} {Pc : Array Value → State → Prop} {Qc : Array Value → State → Outcome → State → Prop} {mc ms : Nat} {free : Addr → Prop} {cc : ByteArray} {maxL : Nat} {ret : Option FieldType} {hh : List (Nat × Nat × Nat × Nat)}
    (hy : plainName y.cls = true) (hw : ws = Cond.codeWith y cc maxL ret hh :: ws')
    (body : ∀ p e s m args below meth c s₁, BodyLoose p l y (headSpec ws rm) cc maxL ret e s m args below meth c s₁ → c.maxLocals = maxL → Pc args s →
      W p l e (headSpec ws rm).room s m args below meth c s.heap [] 0 0 (MQ below Qc args s mc ms free) (entryFrame m args maxL)) : Met l y ws rm Pc Qc mc ms free := by
  refine MetFree.of_bodyS (code := cc) (maxLocals := maxL) (ret := ret) hy ?_ ?_
  · intro args s m h hn
    obtain ⟨m9, meth, c, hn9, h1, h2, h3, h4, -, h5, h6, -⟩ := Cond.codeWith_spec (atoms_spec (ws := ws) h _ (by rw [hw]; exact List.mem_cons_self))
    cases hn.symm.trans hn9
    exact ⟨meth, c, h1, h2, h3, h4, h5, h6⟩
  · intro p e s m args below meth c s₁ B hml hP _
    have hh0 : s₁.heap = s.heap := by rw [B.state]; rfl
    obtain ⟨t, a1, o, b1, b2, b3⟩ := body p e s m args below meth c s₁ B hml hP s₁ hh0 (Stand.of_body B)
    exact ⟨t, o, a1, b1, b2, b3⟩
section KTH
variable {p : Program} {l : Launch} {e : Env} {R : Room} {s : State} {m : MethodId} {args : Array Value} {below : List Frame} {meth : Method} {c : Code} {H : Heap} {locs : List Loc} {cells slots : Nat} {Q : State → Prop}
variable {cc : ByteArray} {pc : Nat} {ls : Array Slot} {rest As : List Value} {D : va_G} {A : Nat → Prop} {b : Nat} {tys : List (ClassId × FieldType)} {w wC : va_W} {H0 : Heap}
theorem kt_preSH (hK : va_K D vwCl tys s) (hP : va_P D vwCl w H) (hD : va_D A w) (hS : va_S A s.heap H locs) (hE : EnvX A s s.heap) (hnc : va_Nc exA exI s) (hF : ∀ q, va_A wC H.size q → A q) (isC : List Nat) (hC : isC.map (fun i => w[i]?) = wC.map some) (hnd : va_nd isC = true) : PreS s H (va_Pc As (PREH D tys wC H.size)) As := by
  obtain ⟨-, h3⟩ := kt_preSE (As := As) hK hP hD hS hE hF isC hC hnd
  refine ⟨kt_blindH, fun U hU hW => ?_⟩
  obtain ⟨a1, a2⟩ := h3 U hU hW
  exact ⟨a1, a2, hnc.moved hW.alike⟩
theorem kt_nilP {H1 : Heap} : va_P D vwCl [] H1 := fun k q h => by simp at h
theorem kt_nilD : va_D A [] := ⟨fun i j p q h => by simp at h, fun k q h => by simp at h⟩
theorem kt_vpL {k : Int64} : vp_updL oZ 0 k 0 = k := by
  unfold vp_updL
  simp
end KTH
