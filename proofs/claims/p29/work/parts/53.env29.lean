/-! the script beside the worlds; worlds of the law; ends -/
def EnvS (b L : Nat) (xs : Nat → Int32) (A : Nat → Prop) (U : State) (H : Heap) : Prop := va_X b L xs U H ∧ b < H.size ∧ ¬ A b
theorem EnvS.moved {b L : Nat} {xs : Nat → Int32} {A : Nat → Prop} {u U : State} {H : Heap} (hvm : u.vm.Alike U.vm) (h : EnvS b L xs A u H) : EnvS b L xs A U H := ⟨va_X.moved hvm h.1, h.2⟩
theorem EnvS.kept {b L : Nat} {xs : Nat → Int32} {A : Nat → Prop} {U : State} {H H1 : Heap} (h : EnvS b L xs A U H) (hq : ∀ a : Nat, a < H.size → ¬ A a → H1[a]? = H[a]?) : EnvS b L xs A U H1 := by
  have e := hq b h.2.1 h.2.2
  have e2 : H[b]? = some (H[b]'h.2.1) := Array.getElem?_eq_getElem h.2.1
  exact ⟨va_X.kept h.1 e, (Array.getElem?_eq_some_iff.mp (e.trans e2)).1, h.2.2⟩
theorem EnvS.narrow {b L : Nat} {xs : Nat → Int32} {A B : Nat → Prop} {U : State} {H : Heap} (h : EnvS b L xs A U H) (hAB : ∀ q, B q → A q) : EnvS b L xs B U H := ⟨h.1, h.2.1, fun z => h.2.2 (hAB b z)⟩
abbrev PRES (b L : Nat) (xs : Nat → Int32) (D : va_G) (tys : List (ClassId × FieldType)) (ws : va_W) (sz : Nat) : State → Prop := fun U => PREA D tys ws sz U ∧ EnvS b L xs (va_A ws sz) U U.heap
theorem kt_blindS {b L : Nat} {xs : Nat → Int32} {D : va_G} {tys : List (ClassId × FieldType)} {ws : va_W} {sz : Nat} {as : List Value} : FrameBlind (va_Pc as (PRES b L xs D tys ws sz)) := fun a U g mk q => by
  obtain ⟨q0, q1, a1⟩ := q
  obtain ⟨q0', q1'⟩ := kt_blindA (as := as) a U g mk ⟨q0, q1⟩
  exact ⟨q0', q1', EnvS.moved (u := U) (U := U.calling g mk a) (Vm.Alike.refl U.vm) a1⟩
/-- the class's object, its scratch rows empty -/
abbrev wV (tp : Nat) (f : Nat → Nat) (er tr kr : Nat → Nat) (cI cII cJ cJJ : ClassId) (n : Nat) (E : V2) (DG G U : V1) (sw tps : Int32) (C P : V1) : va_W := wTop tp (f 0) (f 1) (f 2) G U (f 3) (f 4) (f 5) (fun _ => 0) (fun _ => 0) (f 6) (f 7) (f 8) (fun _ => 0) (fun _ => 0) (f 9) (f 10) (f 11) (fun _ => 0) (fun _ => 0) (f 12) kr (fun _ _ => 0) 0 sw tps (f 13) (f 14) P 0 (f 15) (f 16) C (f 17) (f 18) (f 19) (fun _ => 0) (fun _ => 0) (f 20) (f 21) (f 22) (fun _ => 0) (fun _ => 0) cJ cJJ cI cII (f 23) (f 24) (f 25) (f 26) er n E DG tr (fun _ _ => 0)
abbrev wMa (cI cII : ClassId) (ma : Nat) (mr : Nat → Nat) (M : V2) : va_W := [(ma, .inl (cII, 7, .inr (.inr (.inr (.inr (rowF 7 mr)))))), (mr 0, .inl (cI, 7, .inl (M 0))), (mr 1, .inl (cI, 7, .inl (M 1))), (mr 2, .inl (cI, 7, .inl (M 2))), (mr 3, .inl (cI, 7, .inl (M 3))), (mr 4, .inl (cI, 7, .inl (M 4))), (mr 5, .inl (cI, 7, .inl (M 5))), (mr 6, .inl (cI, 7, .inl (M 6)))]
theorem row_Ma {cI cII : ClassId} {ma : Nat} {mr : Nat → Nat} {M : V2} {tl : va_W} {j : Nat} (hj : j < 7) : (wMa cI cII ma mr M ++ tl)[1 + j]? = some (mr j, .inl (cI, 7, .inl (M j))) := by
  match j, hj with
  | 0, _ => rfl
  | 1, _ => rfl
  | 2, _ => rfl
  | 3, _ => rfl
  | 4, _ => rfl
  | 5, _ => rfl
  | 6, _ => rfl
theorem set_Ma {cI cII : ClassId} {ma : Nat} {mr : Nat → Nat} {M : V2} {F : V1} {tl : va_W} {j : Nat} (hj : j < 7) : (wMa cI cII ma mr M ++ tl).set (1 + j) (mr j, .inl (cI, 7, .inl F)) = wMa cI cII ma mr (updR M j F) ++ tl := by
  match j, hj with
  | 0, _ => rfl
  | 1, _ => rfl
  | 2, _ => rfl
  | 3, _ => rfl
  | 4, _ => rfl
  | 5, _ => rfl
  | 6, _ => rfl
section KTS9
variable {p : Program} {l : Launch} {e : Env} {R : Room} {s : State} {m : MethodId} {args : Array Value} {below : List Frame} {meth : Method} {c : Code} {H : Heap} {locs : List Loc} {cells slots : Nat} {Q : State → Prop}
variable {cc : ByteArray} {pc : Nat} {ls : Array Slot} {rest As st : List Value} {D : va_G} {A : Nat → Prop} {b L : Nat} {xs : Nat → Int32} {tys : List (ClassId × FieldType)} {w wC wR9 : va_W} {H0 : Heap} {S : Type} {wN : S → va_W} {wM : S → Nat → va_W} {mc ms : Nat} {aa : Array Value}
theorem EnvS.at {B : Nat → Prop} {U : State} (hE : EnvS b L xs A s s.heap) (hS : va_S A s.heap H locs) (hAB : ∀ q, B q → A q) (hU : U.heap = H) (hW : s.WarmedH U.vm) : EnvS b L xs B U U.heap := by
  rw [hU]
  exact EnvS.moved hW.alike ((hE.kept hS.2.1).narrow hAB)
theorem kt_preSS (hK : va_K D vwCl tys s) (hP : va_P D vwCl w H) (hD : va_D A w) (hS : va_S A s.heap H locs) (hE : EnvS b L xs A s s.heap) (hA : ∀ q, s.heap.size ≤ q → A q) (haI : va_AOA .int s) (haL : va_AOA .long s) (isC : List Nat) (hC : isC.map (fun i => w[i]?) = wC.map some) (hnd : va_nd isC = true) : PreS s H (va_Pc As (PRES b L xs D tys wC H.size)) As := by
  have hF := va_free (wc := wC) hD hS hA isC hC
  obtain ⟨-, h3⟩ := kt_preS2 (As := As) hK hP hD isC hC hnd haI haL
  refine ⟨kt_blindS, fun U hU hW => ?_⟩
  obtain ⟨a1, a2⟩ := h3 U hU hW
  exact ⟨a1, a2, hE.at hS hF hU hW⟩
theorem kt_newI {r : Int32} (hr : va_Run p l e R s m args below meth c H locs cells slots mc ms (F0 m pc ls st) rest (va_Qi (fun (r' : Int32) (_ : S) => r' = r) (fun u t => ATW D tys (va_A wC H.size) (wN u) t) (va_A wC H.size) aa) (va_A wC H.size))
    (hP : va_P D vwCl w H) (hD : va_D A w) (hS : va_S A H0 H locs) (hA : ∀ q, H0.size ≤ q → A q) (isC isR : List Nat) (hC : isC.map (fun i => w[i]?) = wC.map some) (hR : isR.map (fun i => w[i]?) = wR9.map some) (hndR : va_nd isR = true) (hdis : ∀ i ∈ isR, i ∉ isC)
    (kk : ∀ (u : S) (H1 : Heap) (locs1 : List Loc), va_P D vwCl (wR9 ++ wN u) H1 → va_D A (wR9 ++ wN u) → va_S A H0 H1 locs1 → W p l e R s m args below meth c H1 locs1 (cells + mc) (slots + ms) Q (F0 m (pc + 3) ls (.int r :: rest))) : W p l e R s m args below meth c H locs cells slots Q (F0 m pc ls st) := by
  have hF := va_free (wc := wC) hD hS hA isC hC
  refine va_calli hr hS (fun q _ h => hF q h) hF (fun r' u t H1 locs1 ht hvm hpost hB hz hk hS1 => ?_)
  subst hpost
  obtain ⟨hP1, hK1, hD1⟩ := hB
  rw [ht] at hP1
  obtain ⟨hP2, hD2⟩ := va_join hP hD isC isR hC hR hndR hdis hk hF hP1 hD1
  exact kk u H1 locs1 hP2 hD2 hS1
theorem kt_newL {r : Int64} (hr : va_Run p l e R s m args below meth c H locs cells slots mc ms (F0 m pc ls st) rest (va_Ql (fun (r' : Int64) (_ : S) => r' = r) (fun u t => ATW D tys (va_A wC H.size) (wN u) t) (va_A wC H.size) aa) (va_A wC H.size))
    (hP : va_P D vwCl w H) (hD : va_D A w) (hS : va_S A H0 H locs) (hA : ∀ q, H0.size ≤ q → A q) (isC isR : List Nat) (hC : isC.map (fun i => w[i]?) = wC.map some) (hR : isR.map (fun i => w[i]?) = wR9.map some) (hndR : va_nd isR = true) (hdis : ∀ i ∈ isR, i ∉ isC)
    (kk : ∀ (u : S) (H1 : Heap) (locs1 : List Loc), va_P D vwCl (wR9 ++ wN u) H1 → va_D A (wR9 ++ wN u) → va_S A H0 H1 locs1 → W p l e R s m args below meth c H1 locs1 (cells + mc) (slots + ms) Q (F0 m (pc + 3) ls (.long r :: rest))) : W p l e R s m args below meth c H locs cells slots Q (F0 m pc ls st) := by
  have hF := va_free (wc := wC) hD hS hA isC hC
  refine va_calll hr hS (fun q _ h => hF q h) hF (fun r' u t H1 locs1 ht hvm hpost hB hz hk hS1 => ?_)
  subst hpost
  obtain ⟨hP1, hK1, hD1⟩ := hB
  rw [ht] at hP1
  obtain ⟨hP2, hD2⟩ := va_join hP hD isC isR hC hR hndR hdis hk hF hP1 hD1
  exact kk u H1 locs1 hP2 hD2 hS1
theorem kt_newA (hr : va_Run p l e R s m args below meth c H locs cells slots mc ms (F0 m pc ls st) rest (va_Qr (fun (_ : S) => True) (fun u a t => ATW D tys (va_A wC H.size) (wM u a) t) (va_A wC H.size) aa) (va_A wC H.size))
    (hP : va_P D vwCl w H) (hD : va_D A w) (hS : va_S A H0 H locs) (hA : ∀ q, H0.size ≤ q → A q) (isC isR : List Nat) (hC : isC.map (fun i => w[i]?) = wC.map some) (hR : isR.map (fun i => w[i]?) = wR9.map some) (hndR : va_nd isR = true) (hdis : ∀ i ∈ isR, i ∉ isC)
    (kk : ∀ (u : S) (a : Nat) (H1 : Heap) (locs1 : List Loc), va_P D vwCl (wR9 ++ wM u a) H1 → va_D A (wR9 ++ wM u a) → va_S A H0 H1 locs1 → W p l e R s m args below meth c H1 locs1 (cells + mc) (slots + ms) Q (F0 m (pc + 3) ls (.ref a :: rest))) : W p l e R s m args below meth c H locs cells slots Q (F0 m pc ls st) := by
  have hF := va_free (wc := wC) hD hS hA isC hC
  refine va_callr hr hS (fun q _ h => hF q h) hF (fun u a t H1 locs1 ht hvm hpost hB hz hk hS1 => ?_)
  obtain ⟨hP1, hK1, hD1⟩ := hB
  rw [ht] at hP1
  obtain ⟨hP2, hD2⟩ := va_join hP hD isC isR hC hR hndR hdis hk hF hP1 hD1
  exact kk u a H1 locs1 hP2 hD2 hS1
theorem kt_iretS (u : S) {v r : Int32} (hx : p.tables.exec = Jvm.exec) (hb : c.code = cc) (hr : meth.sig.returnType = some .int) (hS : va_S A s.heap H locs) (hP : va_P D vwCl (wN u) H) (hK : va_K D vwCl tys s) (hD : va_D A (wN u)) (he : v = r) (hlocks : meth.locks = false) (hdg : decode cc pc = .ok (.ireturn, 1)) : W p l e R s m args below meth c H locs cells slots (MQ below (va_Qi (fun (r' : Int32) (_ : S) => r' = r) (fun u t => ATW D tys A (wN u) t) A) args s cells slots A) (F0 m pc ls [.int v]) :=
  W.iret hx hb hr (fun t ht hW => ⟨⟨v, u, rfl, he, by rw [ht]; exact hP, va_K.moved hW.alike hK, hD⟩, hS.F ht⟩) hS.2.2 hdg hlocks
theorem kt_zretS (u : S) {v r : Int32} (hx : p.tables.exec = Jvm.exec) (hb : c.code = cc) (hr : meth.sig.returnType = some .boolean) (hn : narrow .boolean (.int v) = .int v) (hS : va_S A s.heap H locs) (hP : va_P D vwCl (wN u) H) (hK : va_K D vwCl tys s) (hD : va_D A (wN u)) (he : v = r) (hlocks : meth.locks = false) (hdg : decode cc pc = .ok (.ireturn, 1)) : W p l e R s m args below meth c H locs cells slots (MQ below (va_Qi (fun (r' : Int32) (_ : S) => r' = r) (fun u t => ATW D tys A (wN u) t) A) args s cells slots A) (F0 m pc ls [.int v]) :=
  W.zret hx hb hr hn (fun t ht hW => ⟨⟨v, u, rfl, he, by rw [ht]; exact hP, va_K.moved hW.alike hK, hD⟩, hS.F ht⟩) hS.2.2 hdg hlocks
theorem kt_aretS (u : S) {a : Nat} {rt : FieldType} (hx : p.tables.exec = Jvm.exec) (hb : c.code = cc) (hr : meth.sig.returnType = some rt) (hrt : (∃ n, rt = .object n) ∨ ∃ t, rt = .array t) (hS : va_S A s.heap H locs) (hP : va_P D vwCl (wM u a) H) (hK : va_K D vwCl tys s) (hD : va_D A (wM u a)) (hlocks : meth.locks = false) (hdg : decode cc pc = .ok (.areturn, 1)) : W p l e R s m args below meth c H locs cells slots (MQ below (va_Qr (fun (_ : S) => True) (fun u a t => ATW D tys A (wM u a) t) A) args s cells slots A) (F0 m pc ls [.ref a]) :=
  W.aret hx hb hr hrt (Or.inr ⟨a, rfl⟩) (fun t ht hW => ⟨⟨u, a, rfl, trivial, by rw [ht]; exact hP, va_K.moved hW.alike hK, hD⟩, hS.F ht⟩) hS.2.2 hdg hlocks
theorem kt_nilP {H1 : Heap} : va_P D vwCl [] H1 := fun k q h => by simp at h
theorem kt_nilD : va_D A [] := ⟨fun i j p q h => by simp at h, fun k q h => by simp at h⟩
end KTS9
theorem kt_mix_none (c : va_W) : ∀ w : va_W, kt_mix c (List.replicate w.length none) w = w
  | [] => rfl
  | x :: w => by
    show x :: kt_mix c (List.replicate w.length none) w = x :: w
    rw [kt_mix_none c w]
theorem kt_sw_nil (w : va_W) : kt_sw w w [] [] [] := by
  refine ⟨rfl, ⟨List.replicate w.length none, kt_mix_none _ w, ?_⟩, rfl⟩
  unfold kt_fit
  rw [List.all_eq_true]
  intro k _
  rw [List.getElem?_replicate]
  split <;> simp_all
