/-! constructors: arrays and objects made, and their calls -/
abbrev PREA (D : va_G) (tys : List (ClassId × FieldType)) (ws : va_W) (sz : Nat) : State → Prop := fun U => PRE D tys ws sz U ∧ va_AOA .int U ∧ va_AOA .long U
theorem kt_blindA {D : va_G} {tys : List (ClassId × FieldType)} {ws : va_W} {sz : Nat} {as : List Value} : FrameBlind (va_Pc as (PREA D tys ws sz)) := fun a U g mk q => by
  obtain ⟨q0, q1, a1, a2⟩ := q
  obtain ⟨q0', q1'⟩ := kt_blind (as := as) a U g mk ⟨q0, q1⟩
  exact ⟨q0', q1', va_AOA.moved (u := U) (U := U.calling g mk a) (Vm.Alike.refl U.vm) a1, va_AOA.moved (u := U) (U := U.calling g mk a) (Vm.Alike.refl U.vm) a2⟩
abbrev nestW : Cond := .methodLinkNest RX4 9 yX2_init "Topplemoor"
abbrev PREN (D : va_G) (tys : List (ClassId × FieldType)) (ws : va_W) (sz : Nat) : State → Prop := fun U => PREA D tys ws sz U ∧ va_Nw nestW U
theorem kt_blindN {D : va_G} {tys : List (ClassId × FieldType)} {ws : va_W} {sz : Nat} {as : List Value} : FrameBlind (va_Pc as (PREN D tys ws sz)) := fun a U g mk q => by
  obtain ⟨q0, q1, a1⟩ := q
  obtain ⟨q0', q1'⟩ := kt_blindA (as := as) a U g mk ⟨q0, q1⟩
  exact ⟨q0', q1', va_Nw.same rfl rfl a1⟩
def adL (l : List Nat) (k : Nat) : Nat := l.getD k 0
section KTN
variable {p : Program} {l : Launch} {e : Env} {R : Room} {s : State} {m : MethodId} {args : Array Value} {below : List Frame} {meth : Method} {c : Code} {H : Heap} {locs : List Loc} {cells slots : Nat} {Q : State → Prop}
variable {cc : ByteArray} {pc : Nat} {ls : Array Slot} {rest st : List Value} {D : va_G} {cl : List vw_C} {A : Nat → Prop} {b : Nat} {tys : List (ClassId × FieldType)} {w wC wR : va_W} {H0 : Heap} {mc ms : Nat}
theorem kt_preS2 {As : List Value} (hK : va_K D vwCl tys s) (hP : va_P D vwCl w H) (hD : va_D A w) (isC : List Nat) (hC : isC.map (fun i => w[i]?) = wC.map some) (hnd : va_nd isC = true) (ha : va_AOA .int s) (hb : va_AOA .long s) : PreS s H (va_Pc As (PREA D tys wC H.size)) As := by
  refine ⟨kt_blindA, fun U hU hW => ?_⟩
  obtain ⟨q0, q1⟩ := (kt_preS (As := As) hK hP hD isC hC hnd).2 U hU hW
  exact ⟨q0, q1, va_AOA.moved hW.alike ha, va_AOA.moved hW.alike hb⟩
theorem kt_newR {S : Type} {wN : S → va_W} {a : Array Value} (hr : va_Run p l e R s m args below meth c H locs cells slots mc ms (F0 m pc ls st) rest (va_Qv (fun (_ : S) => True) (fun u t => ATW D tys (va_A wC H.size) (wN u) t) (va_A wC H.size) a) (va_A wC H.size))
    (hP : va_P D vwCl w H) (hD : va_D A w) (hS : va_S A H0 H locs) (hA : ∀ q, H0.size ≤ q → A q) (isC isR : List Nat) (hC : isC.map (fun i => w[i]?) = wC.map some) (hR : isR.map (fun i => w[i]?) = wR.map some) (hndR : va_nd isR = true) (hdis : ∀ i ∈ isR, i ∉ isC)
    (kk : ∀ (u : S) (H1 : Heap) (locs1 : List Loc), va_P D vwCl (wR ++ wN u) H1 → va_D A (wR ++ wN u) → va_S A H0 H1 locs1 → W p l e R s m args below meth c H1 locs1 (cells + mc) (slots + ms) Q (F0 m (pc + 3) ls rest)) : W p l e R s m args below meth c H locs cells slots Q (F0 m pc ls st) := by
  have hF := va_free (wc := wC) hD hS hA isC hC
  refine va_callv hr hS (fun q _ h => hF q h) hF (fun u t H1 locs1 ht hvm hpost hB hz hk hS1 => ?_)
  obtain ⟨hP1, hK1, hD1⟩ := hB
  rw [ht] at hP1
  obtain ⟨hP2, hD2⟩ := va_join hP hD isC isR hC hR hndR hdis hk hF hP1 hD1
  exact kk u H1 locs1 hP2 hD2 hS1
theorem kt_newi (hx : p.tables.exec = Jvm.exec) (hb : c.code = cc) (harr : (Cond.arrayClass .int).before args s = true) (hK : va_K D cl tys s) (hP : va_P D cl w H) (hD : va_D A w) (hS : va_S A H0 H locs) (hA : ∀ q, H0.size ≤ q → A q) (t0 : Nat) {cA : ClassId} (ht : tys[t0]? = some (cA, .int)) {N : Nat} (hN : N < 2 ^ 20) (hcells : cells + 1 ≤ R.cells) (hslots : slots + N ≤ R.slots) (hdg : decode cc pc = .ok (.newarray .int, 2))
    (kk : ∀ (q : Nat) (H1 : Heap), va_P D cl (w ++ [(q, .inl (cA, N, .inl (fun _ => 0)))]) H1 → va_D A (w ++ [(q, .inl (cA, N, .inl (fun _ => 0)))]) → va_S A H0 H1 locs → W p l e R s m args below meth c H1 locs (cells + 1) (slots + N) Q (F0 m (pc + 2) ls (.ref q :: rest))) : W p l e R s m args below meth c H locs cells slots Q (F0 m pc ls (.int (nI N) :: rest)) := by
  refine va_newa (atype := .int) (ty := .int) (N' := N) hx hb harr rfl hK hP hD hS hA (a0 := (N, .inl (fun _ => 0))) (fun _ => rfl) (nI_pos (by omega)) (nI_clamp (by omega)) (by show N * 4 ≤ 536870912; omega) hcells hslots hdg (fun q cB H1 hK1 hP1 hD1 hS1 => ?_)
  have e1 : s.vm.findClass ("[" ++ FieldType.int.toString) = some cA := (hK.2 t0 _ ht).2
  have e2 : s.vm.findClass ("[" ++ FieldType.int.toString) = some cB := (hK1.2 tys.length (cB, .int) (by simp)).2
  have e : cA = cB := Option.some.inj (e1.symm.trans e2)
  subst e
  exact kk q H1 hP1 hD1 hS1
theorem kt_mna {ty : FieldType} {own : String} {index : Nat} (hx : p.tables.exec = Jvm.exec) (hb : c.code = cc) (hown : s.vm.findClass own = some m.cls) (hclink : (Cond.classLink own index ("[" ++ (FieldType.array ty).toString)).before args s = true) (hover : va_AOA ty s) (harr : (Cond.arrayClass ty).before args s = true)
    (hK : va_K D cl tys s) (hP : va_P D cl w H) (hD : va_D A w) (hS : va_S A H0 H locs) (hA : ∀ q, H0.size ≤ q → A q) (t0 t1 : Nat) {cI cII : ClassId} (ht0 : tys[t0]? = some (cI, ty)) (hno : ∀ C, ty ≠ .object C) (ht1 : tys[t1]? = some (cII, .array ty)) {N M : Nat} (z : vp_A) (hN : N < 2 ^ 10) (hM : M < 2 ^ 10) (hby : componentBytes ty ≤ 8) (hdf : fits ty (defaultValue ty) = true) (hdd : (defaultValue ty).isDefault = true) (hz : ∀ c : ClassId, Jvm.Free.Multi.innerC c M (defaultValue ty) = vp_cell c z)
    (hcells : cells + (1 + N) ≤ R.cells) (hslots : slots + (N + N * M) ≤ R.slots) (hdg : decode cc pc = .ok (.multianewarray index 2, 4))
    (kk : ∀ (q : Nat) (r : Nat → Nat) (H1 : Heap), va_P D cl (w ++ [(q, .inl (cII, N, .inr (.inr (.inr (.inr (rowF N r))))))] ++ (List.range N).map (fun i => (r i, .inl (cI, z)))) H1 → va_D A (w ++ [(q, .inl (cII, N, .inr (.inr (.inr (.inr (rowF N r))))))] ++ (List.range N).map (fun i => (r i, .inl (cI, z)))) → va_S A H0 H1 locs → W p l e R s m args below meth c H1 locs (cells + 1 + N) (slots + N + N * M) Q (F0 m (pc + 4) ls (.ref q :: rest))) : W p l e R s m args below meth c H locs cells slots Q (F0 m pc ls (.int (nI M) :: .int (nI N) :: rest)) := by
  have hcy : s.vm.findClass (FieldType.array ty).toString = some cI := by
    have h := (hK.2 t0 _ ht0).2
    have e : (FieldType.array ty).toString = "[" ++ ty.toString := rfl
    rw [e]
    cases ty with
    | object C => exact absurd rfl (hno C)
    | _ => exact h
  have hb2 : M * componentBytes ty ≤ 536870912 := Nat.le_trans (Nat.mul_le_mul (Nat.le_of_lt hM) hby) (by decide)
  have hP' : va_P D cl (w ++ va_pl [] (fun _ => .inl (cI, z))) H := by simpa [va_pl] using hP
  have hD' : va_D A (w ++ va_pl [] (fun _ => .inl (cI, z))) := by simpa [va_pl] using hD
  refine va_mna (X := w) (L := []) (f := fun _ => .inl (cI, z)) (cy := cI) (N' := N) (K' := M) (z := z) hx hb hown hclink hover harr hcy hK hP' hD' hS hA (nI_pos (by omega)) (nI_pos (by omega)) (nI_clamp (by omega)) (nI_clamp (by omega)) (by omega) hb2 (by omega) hdf hdd hcells hslots hz hdg (fun q r cB H1 hinj hnl hK1 hP1 hD1 hS1 => ?_)
  have e1 : s.vm.findClass ("[" ++ (FieldType.array ty).toString) = some cII := (hK.2 t1 _ ht1).2
  have e2 : s.vm.findClass ("[" ++ (FieldType.array ty).toString) = some cB := (hK1.2 tys.length (cB, .array ty) (by simp)).2
  have e : cII = cB := Option.some.inj (e1.symm.trans e2)
  subst e
  have er : va_pl ([] ++ (List.range N).map r) (vr_up (fun _ => .inl (cI, z)) ((List.range N).map r) (.inl (cI, z))) = (List.range N).map (fun i => (r i, .inl (cI, z))) := by
    unfold va_pl
    rw [List.nil_append, List.map_map]
    apply List.map_congr_left
    intro i hi
    show (r i, vr_up _ _ _ (r i)) = _
    rw [vr_up_in (List.mem_map.mpr ⟨i, hi, rfl⟩)]
  rw [er] at hP1 hD1
  exact kk q r H1 hP1 hD1 hS1
theorem kt_vretS {S : Type} {wN : S → va_W} (u : S) (hx : p.tables.exec = Jvm.exec) (hb : c.code = cc) (hr : meth.sig.returnType = none) (hS : va_S A s.heap H locs) (hP : va_P D vwCl (wN u) H) (hK : va_K D vwCl tys s) (hD : va_D A (wN u)) (hlocks : meth.locks = false) (hdg : decode cc pc = .ok (.return_, 1)) : W p l e R s m args below meth c H locs cells slots (MQ below (va_Qv (fun (_ : S) => True) (fun u t => ATW D tys A (wN u) t) A) args s cells slots A) (F0 m pc ls []) :=
  W.vret hx hb hr (fun t ht hW => ⟨⟨u, rfl, trivial, by rw [ht]; exact hP, va_K.moved hW.alike hK, hD⟩, hS.F ht⟩) hS.2.2 hdg hlocks
end KTN
theorem kt_cpyR {f g : V1} {j : Nat} (hj : j < 6) : va_cpy f g (Int32.toNatClampNeg 0) (Int32.toNatClampNeg 0) (Int32.toNatClampNeg 6) j = f j := kt_cpy hj
