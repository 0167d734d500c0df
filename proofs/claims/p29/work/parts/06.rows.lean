/-! rows of my own over the kit's: numbered places, whole calls, ends -/
/-- the outer cells of an array of n rows -/
def rowF (n : Nat) (r : Nat → Nat) : Nat → Option Nat := fun i => if i < n then some (r i) else none
/-- n steps from s on -/
def it {σ : Type} (f : Nat → σ → σ) : Nat → σ → σ
  | 0, s => s
  | k + 1, s => f k (it f k s)
def sumN (f : Nat → Int32) : Nat → Int32
  | 0 => 0
  | k + 1 => sumN f k + f k
def allN (p : Nat → Bool) : Nat → Bool
  | 0 => true
  | k + 1 => allN p k && p k
theorem allN_false {p : Nat → Bool} {n i : Nat} (hi : i < n) (h : p i = false) : allN p n = false := by
  induction n with
  | zero => omega
  | succ n ih =>
    show (allN p n && p n) = false
    rcases Nat.lt_or_ge i n with q | q
    · rw [ih q]; rfl
    · rw [show n = i by omega, h, Bool.and_false]
theorem allN_iff {p : Nat → Bool} {n : Nat} : allN p n = true ↔ ∀ i, i < n → p i = true := by
  induction n with
  | zero => exact ⟨fun _ i h => absurd h (Nat.not_lt_zero i), fun _ => rfl⟩
  | succ n ih =>
    show (allN p n && p n) = true ↔ _
    rw [Bool.and_eq_true, ih]
    constructor
    · intro h i hi
      rcases Nat.lt_or_ge i n with q | q
      · exact h.1 i q
      · rw [show i = n by omega]; exact h.2
    · intro h
      exact ⟨fun i hi => h i (by omega), h n (by omega)⟩
def b2i (b : Bool) : Int32 := if b then 1 else 0
abbrev PRE (D : va_G) (tys : List (ClassId × FieldType)) (ws : va_W) (sz : Nat) : State → Prop := fun U => U.heap.size = sz ∧ va_P D vwCl ws U.heap ∧ va_K D vwCl tys U ∧ va_D (fun _ => True) ws
abbrev ATW (D : va_G) (tys : List (ClassId × FieldType)) (A : Nat → Prop) (ws : va_W) (t : State) : Prop := va_P D vwCl ws t.heap ∧ va_K D vwCl tys t ∧ va_D A ws
theorem kt_blind {D : va_G} {tys : List (ClassId × FieldType)} {ws : va_W} {sz : Nat} {as : List Value} : FrameBlind (va_Pc as (PRE D tys ws sz)) := fun a U g mk q => by
  obtain ⟨q0, q1, qP, qK, qD⟩ := q
  exact ⟨q0, q1, qP, va_K.moved (u := U) (U := U.calling g mk a) (Vm.Alike.refl U.vm) qK, qD⟩
theorem vp_congr_i {cA : ClassId} {n : Nat} {f g : Nat → Int32} (h : ∀ j, j < n → f j = g j) : vp_cell cA (n, .inl f) = vp_cell cA (n, .inl g) := by
  rw [vp_cell_i, vp_cell_i]
  unfold arrV
  congr 2
  funext j
  simp [h j j.2]
theorem kt_inc (i : Nat) : nI i + Int32.ofInt 1 = nI (i + 1) := by
  rw [show (Int32.ofInt 1) = (1 : Int32) from rfl]
  exact nI_1 i
section KTR
variable {p : Program} {l : Launch} {e : Env} {R : Room} {s : State} {m : MethodId} {args : Array Value} {below : List Frame} {meth : Method} {c : Code} {H : Heap} {locs : List Loc} {cells slots : Nat} {Q : State → Prop}
variable {cc : ByteArray} {pc : Nat} {ls : Array Slot} {rest : List Value} {D : va_G} {cl : List vw_C} {A : Nat → Prop} {a : Nat} {tys : List (ClassId × FieldType)} {ws : va_W} {H0 : Heap}
theorem kt_iald (hx : p.tables.exec = Jvm.exec) (hb : c.code = cc) (hK : va_K D cl tys s) (hP : va_P D cl ws H) (q0 t0 : Nat) {cA : ClassId} {n j : Nat} {f : Nat → Int32} (ha : ws[q0]? = some (a, .inl (cA, n, .inl f))) (ht : tys[t0]? = some (cA, .int)) (hj : j < n) (hn : n < 2 ^ 31) (hdg : decode cc pc = .ok (.iaload, 1)) (kk : W p l e R s m args below meth c H locs cells slots Q (F0 m (pc + 1) ls (.int (f j) :: rest))) : W p l e R s m args below meth c H locs cells slots Q (F0 m pc ls (.int (nI j) :: .ref a :: rest)) :=
  va_iald hx hb hK hP q0 t0 ha ht (vp_in_nI hj hn) hdg (by rw [nI_clamp (Nat.lt_trans hj hn)]; exact kk)
theorem kt_iast (hx : p.tables.exec = Jvm.exec) (hb : c.code = cc) (hK : va_K D cl tys s) (hP : va_P D cl ws H) (hD : va_D A ws) (hS : va_S A H0 H locs) (q0 t0 : Nat) {cA : ClassId} {n j : Nat} {f : Nat → Int32} {x : Int32} (ha : ws[q0]? = some (a, .inl (cA, n, .inl f))) (ht : tys[t0]? = some (cA, .int)) (hj : j < n) (hn : n < 2 ^ 31) (hdg : decode cc pc = .ok (.iastore, 1))
    (kk : ∀ (H1 : Heap) (locs1 : List Loc), va_P D cl (ws.set q0 (a, .inl (cA, n, .inl (upd f j x)))) H1 → va_D A (ws.set q0 (a, .inl (cA, n, .inl (upd f j x)))) → va_S A H0 H1 locs1 → W p l e R s m args below meth c H1 locs1 cells slots Q (F0 m (pc + 1) ls rest)) : W p l e R s m args below meth c H locs cells slots Q (F0 m pc ls (.int x :: .int (nI j) :: .ref a :: rest)) :=
  va_iast hx hb hK hP hD hS q0 t0 ha ht (vp_in_nI hj hn) hdg (by rw [nI_clamp (Nat.lt_trans hj hn)]; exact kk)
theorem kt_lald (hx : p.tables.exec = Jvm.exec) (hb : c.code = cc) (hK : va_K D cl tys s) (hP : va_P D cl ws H) (q0 t0 : Nat) {cA : ClassId} {n j : Nat} {f : Nat → Int64} (ha : ws[q0]? = some (a, .inl (cA, n, .inr (.inl f)))) (ht : tys[t0]? = some (cA, .long)) (hj : j < n) (hn : n < 2 ^ 31) (hdg : decode cc pc = .ok (.laload, 1)) (kk : W p l e R s m args below meth c H locs cells slots Q (F0 m (pc + 1) ls (.long (f j) :: rest))) : W p l e R s m args below meth c H locs cells slots Q (F0 m pc ls (.int (nI j) :: .ref a :: rest)) :=
  va_lald hx hb hK hP q0 t0 ha ht (vp_in_nI hj hn) hdg (by rw [nI_clamp (Nat.lt_trans hj hn)]; exact kk)
theorem kt_last (hx : p.tables.exec = Jvm.exec) (hb : c.code = cc) (hK : va_K D cl tys s) (hP : va_P D cl ws H) (hD : va_D A ws) (hS : va_S A H0 H locs) (q0 t0 : Nat) {cA : ClassId} {n j : Nat} {f : Nat → Int64} {x : Int64} (ha : ws[q0]? = some (a, .inl (cA, n, .inr (.inl f)))) (ht : tys[t0]? = some (cA, .long)) (hj : j < n) (hn : n < 2 ^ 31) (hdg : decode cc pc = .ok (.lastore, 1))
    (kk : ∀ (H1 : Heap) (locs1 : List Loc), va_P D cl (ws.set q0 (a, .inl (cA, n, .inr (.inl (vp_updL f j x))))) H1 → va_D A (ws.set q0 (a, .inl (cA, n, .inr (.inl (vp_updL f j x))))) → va_S A H0 H1 locs1 → W p l e R s m args below meth c H1 locs1 cells slots Q (F0 m (pc + 1) ls rest)) : W p l e R s m args below meth c H locs cells slots Q (F0 m pc ls (.long x :: .int (nI j) :: .ref a :: rest)) :=
  va_last hx hb hK hP hD hS q0 t0 ha ht (vp_in_nI hj hn) hdg (by rw [nI_clamp (Nat.lt_trans hj hn)]; exact kk)
theorem kt_aald (hx : p.tables.exec = Jvm.exec) (hb : c.code = cc) (hK : va_K D cl tys s) (hP : va_P D cl ws H) (q0 t0 : Nat) {cA : ClassId} {n j : Nat} {r : Nat → Nat} {ty : FieldType} (ha : ws[q0]? = some (a, .inl (cA, n, .inr (.inr (.inr (.inr (rowF n r))))))) (ht : tys[t0]? = some (cA, .array ty)) (hj : j < n) (hn : n < 2 ^ 31) (hdg : decode cc pc = .ok (.aaload, 1)) (kk : W p l e R s m args below meth c H locs cells slots Q (F0 m (pc + 1) ls (.ref (r j) :: rest))) : W p l e R s m args below meth c H locs cells slots Q (F0 m pc ls (.int (nI j) :: .ref a :: rest)) := by
  have hc : (nI j).toNatClampNeg = j := nI_clamp (Nat.lt_trans hj hn)
  have hin : vp_in (nI j) n := vp_in_nI hj hn
  have hv : va_rf (rowF n r j) = .ref (r j) := by simp [rowF, hj, va_rf]
  exact W.aald (v := .ref (r j)) (ty := .array ty) hx hb (hP q0 _ ha) ((hK.2 t0 _ ht).1 n (fun j => va_rf (rowF n r j))) rfl (fun q => by cases q) (by show ¬ (nI j < 0 ∨ (arrV _ _ _).slots.size ≤ _); rw [arrV_size]; exact hin) (by show (arrV _ _ _).slots[_]? = _; rw [hc, arrV_read _ _ hj, hv]) rfl rfl hdg kk
theorem kt_ige (hx : p.tables.exec = Jvm.exec) (hb : c.code = cc) {i n : Nat} {off : Int} {tgt : Nat} (hi : i < 2 ^ 31) (hn : n < 2 ^ 31) (hdg : decode cc pc = .ok (.if_icmp .ge off, 3)) (ht : (pc : Int) + off = (tgt : Int)) (kt : n ≤ i → W p l e R s m args below meth c H locs cells slots Q (F0 m tgt ls rest)) (kf : i < n → W p l e R s m args below meth c H locs cells slots Q (F0 m (pc + 3) ls rest)) : W p l e R s m args below meth c H locs cells slots Q (F0 m pc ls (.int (nI n) :: .int (nI i) :: rest)) :=
  lv_icmp_ge hx hb hdg ht (fun q => kt ((nI_leI hn hi).mp q)) (fun q => kf (Nat.lt_of_not_le fun z => q ((nI_leI hn hi).mpr z)))
theorem kt_ilt (hx : p.tables.exec = Jvm.exec) (hb : c.code = cc) {i n : Nat} {off : Int} {tgt : Nat} (hi : i < 2 ^ 31) (hn : n < 2 ^ 31) (hdg : decode cc pc = .ok (.if_icmp .lt off, 3)) (ht : (pc : Int) + off = (tgt : Int)) (kt : i < n → W p l e R s m args below meth c H locs cells slots Q (F0 m tgt ls rest)) (kf : n ≤ i → W p l e R s m args below meth c H locs cells slots Q (F0 m (pc + 3) ls rest)) : W p l e R s m args below meth c H locs cells slots Q (F0 m pc ls (.int (nI n) :: .int (nI i) :: rest)) :=
  lv_icmp_lt hx hb hdg ht (fun q => kt ((nI_ltI hi hn).mp q)) (fun q => kf (Nat.le_of_not_lt fun z => q ((nI_ltI hi hn).mpr z)))
theorem kt_igt (hx : p.tables.exec = Jvm.exec) (hb : c.code = cc) {i n : Nat} {off : Int} {tgt : Nat} (hi : i < 2 ^ 31) (hn : n < 2 ^ 31) (hdg : decode cc pc = .ok (.if_icmp .gt off, 3)) (ht : (pc : Int) + off = (tgt : Int)) (kt : n < i → W p l e R s m args below meth c H locs cells slots Q (F0 m tgt ls rest)) (kf : i ≤ n → W p l e R s m args below meth c H locs cells slots Q (F0 m (pc + 3) ls rest)) : W p l e R s m args below meth c H locs cells slots Q (F0 m pc ls (.int (nI n) :: .int (nI i) :: rest)) :=
  lv_icmp_gt hx hb hdg ht (fun q => kt ((nI_ltI hn hi).mp q)) (fun q => kf (Nat.le_of_not_lt fun z => q ((nI_ltI hn hi).mpr z)))
theorem kt_iadd (hx : p.tables.exec = Jvm.exec) (hb : c.code = cc) {x y : Nat} (hdg : decode cc pc = .ok (.iadd, 1)) (kk : W p l e R s m args below meth c H locs cells slots Q (F0 m (pc + 1) ls (.int (nI (x + y)) :: rest))) : W p l e R s m args below meth c H locs cells slots Q (F0 m pc ls (.int (nI y) :: .int (nI x) :: rest)) :=
  lv_iadd hx hb hdg (by rw [nI_add]; exact kk)
theorem kt_iret {W' : va_W} {v r : Int32} (hx : p.tables.exec = Jvm.exec) (hb : c.code = cc) (hr : meth.sig.returnType = some .int) (hS : va_S A s.heap H locs) (hP : va_P D vwCl W' H) (hK : va_K D vwCl tys s) (hD : va_D A W') (he : v = r) (hlocks : meth.locks = false) (hdg : decode cc pc = .ok (.ireturn, 1)) : W p l e R s m args below meth c H locs cells slots (MQ below (va_Qi (fun (r' : Int32) (_ : Unit) => r' = r) (fun _ t => ATW D tys A W' t) A) args s cells slots A) (F0 m pc ls [.int v]) :=
  W.iret hx hb hr (fun t ht hW => ⟨⟨v, (), rfl, he, by rw [ht]; exact hP, va_K.moved hW.alike hK, hD⟩, hS.F ht⟩) hS.2.2 hdg hlocks
theorem kt_zret {W' : va_W} {v r : Int32} (hx : p.tables.exec = Jvm.exec) (hb : c.code = cc) (hr : meth.sig.returnType = some .boolean) (hn : narrow .boolean (.int v) = .int v) (hS : va_S A s.heap H locs) (hP : va_P D vwCl W' H) (hK : va_K D vwCl tys s) (hD : va_D A W') (he : v = r) (hlocks : meth.locks = false) (hdg : decode cc pc = .ok (.ireturn, 1)) : W p l e R s m args below meth c H locs cells slots (MQ below (va_Qi (fun (r' : Int32) (_ : Unit) => r' = r) (fun _ t => ATW D tys A W' t) A) args s cells slots A) (F0 m pc ls [.int v]) :=
  W.zret hx hb hr hn (fun t ht hW => ⟨⟨v, (), rfl, he, by rw [ht]; exact hP, va_K.moved hW.alike hK, hD⟩, hS.F ht⟩) hS.2.2 hdg hlocks
theorem kt_lret {W' : va_W} {v r : Int64} (hx : p.tables.exec = Jvm.exec) (hb : c.code = cc) (hr : meth.sig.returnType = some .long) (hS : va_S A s.heap H locs) (hP : va_P D vwCl W' H) (hK : va_K D vwCl tys s) (hD : va_D A W') (he : v = r) (hlocks : meth.locks = false) (hdg : decode cc pc = .ok (.lreturn, 1)) : W p l e R s m args below meth c H locs cells slots (MQ below (va_Ql (fun (r' : Int64) (_ : Unit) => r' = r) (fun _ t => ATW D tys A W' t) A) args s cells slots A) (F0 m pc ls [.long v]) :=
  W.lret hx hb hr (fun t ht hW => ⟨⟨v, (), rfl, he, by rw [ht]; exact hP, va_K.moved hW.alike hK, hD⟩, hS.F ht⟩) hS.2.2 hdg hlocks
theorem kt_vret {W' : va_W} (hx : p.tables.exec = Jvm.exec) (hb : c.code = cc) (hr : meth.sig.returnType = none) (hS : va_S A s.heap H locs) (hP : va_P D vwCl W' H) (hK : va_K D vwCl tys s) (hD : va_D A W') (hlocks : meth.locks = false) (hdg : decode cc pc = .ok (.return_, 1)) : W p l e R s m args below meth c H locs cells slots (MQ below (va_Qv (fun (_ : Unit) => True) (fun _ t => ATW D tys A W' t) A) args s cells slots A) (F0 m pc ls []) :=
  W.vret hx hb hr (fun t ht hW => ⟨⟨(), rfl, trivial, by rw [ht]; exact hP, va_K.moved hW.alike hK, hD⟩, hS.F ht⟩) hS.2.2 hdg hlocks
end KTR
/-- those of w that stand at the places -/
def kt_pick (w : va_W) (is : List Nat) : va_W := is.filterMap (fun i => w[i]?)
theorem kt_sub {D : va_G} {cl : List vw_C} {w wC : va_W} {H : Heap} (hP : va_P D cl w H) (isC : List Nat) (hC : isC.map (fun i => w[i]?) = wC.map some) : va_P D cl wC H := by
  intro k x hk
  have h1 : (isC.map (fun i => w[i]?))[k]? = some (some x) := by rw [hC, List.getElem?_map, hk]; rfl
  rw [List.getElem?_map] at h1
  cases hi : isC[k]? with
  | none => rw [hi] at h1; cases h1
  | some i => rw [hi] at h1; exact hP i x (Option.some.inj h1)
section KTL
variable {p : Program} {l : Launch} {e : Env} {R : Room} {s : State} {m : MethodId} {args : Array Value} {below : List Frame} {meth : Method} {c : Code} {H : Heap} {locs : List Loc} {cells slots : Nat} {Q : State → Prop}
variable {ls : Array Slot} {D : va_G} {cl : List vw_C} {A : Nat → Prop} {H0 : Heap}
/-- a loop by a measure -/
theorem kt_loop {σ : Type} (μ : σ → Nat) (I : σ → Prop) (WD : σ → va_W) (LV : σ → List (Nat × Value)) (nL hd : Nat)
    (body : ∀ x : σ, I x → (∀ (y : σ) (H : Heap) (locs : List Loc) (ls : Array Slot), μ y < μ x → I y → va_P D cl (WD y) H → va_D A (WD y) → va_S A H0 H locs → lv_has ls nL (LV y) → W p l e R s m args below meth c H locs cells slots Q (F0 m hd ls [])) → ∀ (H : Heap) (locs : List Loc) (ls : Array Slot), va_P D cl (WD x) H → va_D A (WD x) → va_S A H0 H locs → lv_has ls nL (LV x) → W p l e R s m args below meth c H locs cells slots Q (F0 m hd ls []))
    (x0 : σ) (hI : I x0) (hP : va_P D cl (WD x0) H) (hD : va_D A (WD x0)) (hS : va_S A H0 H locs) (hl : lv_has ls nL (LV x0)) : W p l e R s m args below meth c H locs cells slots Q (F0 m hd ls []) := by
  have key : ∀ (k : Nat) (x : σ), μ x < k → I x → ∀ (H : Heap) (locs : List Loc) (ls : Array Slot), va_P D cl (WD x) H → va_D A (WD x) → va_S A H0 H locs → lv_has ls nL (LV x) → W p l e R s m args below meth c H locs cells slots Q (F0 m hd ls []) := by
    intro k
    induction k with
    | zero => intro x h; omega
    | succ k ih => intro x hk hI; exact body x hI (fun y H locs ls hy hIy => ih y (by omega) hIy H locs ls)
  exact key (μ x0 + 1) x0 (by omega) hI H locs ls hP hD hS hl
/-- a loop that counts to n -/
theorem kt_for {n : Nat} (WD : Nat → va_W) (LV : Nat → List (Nat × Value)) (nL hd : Nat)
    (body : ∀ i : Nat, i ≤ n → (∀ (H : Heap) (locs : List Loc) (ls : Array Slot), i < n → va_P D cl (WD (i + 1)) H → va_D A (WD (i + 1)) → va_S A H0 H locs → lv_has ls nL (LV (i + 1)) → W p l e R s m args below meth c H locs cells slots Q (F0 m hd ls [])) → ∀ (H : Heap) (locs : List Loc) (ls : Array Slot), va_P D cl (WD i) H → va_D A (WD i) → va_S A H0 H locs → lv_has ls nL (LV i) → W p l e R s m args below meth c H locs cells slots Q (F0 m hd ls []))
    (hP : va_P D cl (WD 0) H) (hD : va_D A (WD 0)) (hS : va_S A H0 H locs) (hl : lv_has ls nL (LV 0)) : W p l e R s m args below meth c H locs cells slots Q (F0 m hd ls []) :=
  kt_loop (σ := Nat) (fun i => n - i) (fun i => i ≤ n) WD LV nL hd (fun i hi ih => body i hi (fun H locs ls hlt hP hD hS hl => ih (i + 1) H locs ls (by omega) (by omega) hP hD hS hl)) 0 (Nat.zero_le n) hP hD hS hl
theorem kt_forq {n : Nat} (q : Nat → Prop) (WD : Nat → va_W) (LV : Nat → List (Nat × Value)) (nL hd : Nat)
    (body : ∀ i : Nat, i ≤ n → q i → (∀ (H : Heap) (locs : List Loc) (ls : Array Slot), i < n → q (i + 1) → va_P D cl (WD (i + 1)) H → va_D A (WD (i + 1)) → va_S A H0 H locs → lv_has ls nL (LV (i + 1)) → W p l e R s m args below meth c H locs cells slots Q (F0 m hd ls [])) → ∀ (H : Heap) (locs : List Loc) (ls : Array Slot), va_P D cl (WD i) H → va_D A (WD i) → va_S A H0 H locs → lv_has ls nL (LV i) → W p l e R s m args below meth c H locs cells slots Q (F0 m hd ls []))
    (q0 : q 0) (hP : va_P D cl (WD 0) H) (hD : va_D A (WD 0)) (hS : va_S A H0 H locs) (hl : lv_has ls nL (LV 0)) : W p l e R s m args below meth c H locs cells slots Q (F0 m hd ls []) :=
  kt_loop (σ := Nat) (fun i => n - i) (fun i => i ≤ n ∧ q i) WD LV nL hd (fun i hi ih => body i hi.1 hi.2 (fun H locs ls hlt hq hP hD hS hl => ih (i + 1) H locs ls (by omega) ⟨by omega, hq⟩ hP hD hS hl)) 0 ⟨Nat.zero_le n, q0⟩ hP hD hS hl
end KTL
theorem b2i_eq0 {b : Bool} : b2i b = 0 ↔ b = false := by cases b <;> simp [b2i]
theorem b2i_ne0 {b : Bool} : ¬ b2i b = 0 ↔ b = true := by cases b <;> simp [b2i]
/-- w, but where the mask says j the cell j of c -/
def kt_mix (c : va_W) : List (Option Nat) → va_W → va_W
  | o :: os, x :: xs => (match o with | none => x | some j => c.getD j x) :: kt_mix c os xs
  | _, _ => []
/-- the mask and the places say the same -/
def kt_fit (mask : List (Option Nat)) (isC : List Nat) : Bool :=
  (List.range mask.length).all (fun k => match mask[k]? with
    | some (some j) => decide (isC[j]? = some k)
    | _ => !isC.contains k)
/-- a callee's world stands in w at the places isC; behind it w is w1 -/
def kt_sw (w w1 : va_W) (isC : List Nat) (wC wC1 : va_W) : Prop := isC.map (fun i => w[i]?) = wC.map some ∧ (∃ mask : List (Option Nat), kt_mix wC1 mask w = w1 ∧ kt_fit mask isC = true) ∧ wC1.map (fun q => q.1) = wC.map (fun q => q.1)
theorem kt_mix_cases : ∀ (mask : List (Option Nat)) (c w : va_W) (k : Nat) (q : Nat × va_E), (kt_mix c mask w)[k]? = some q → ∃ (o : Option Nat) (x : Nat × va_E), mask[k]? = some o ∧ w[k]? = some x ∧ q = (match o with | none => x | some j => c.getD j x)
  | [], c, w, k, q, h => by simp [kt_mix] at h
  | o :: os, c, [], k, q, h => by simp [kt_mix] at h
  | o :: os, c, x :: xs, 0, q, h => ⟨o, x, rfl, rfl, (Option.some.inj h).symm⟩
  | o :: os, c, x :: xs, k + 1, q, h => by
    have h1 : (kt_mix c os xs)[k]? = some q := h
    obtain ⟨o2, x2, a, b, e⟩ := kt_mix_cases os c xs k q h1
    exact ⟨o2, x2, a, b, e⟩
theorem kt_put_cases {mask : List (Option Nat)} {is : List Nat} {c w : va_W} {k : Nat} {q : Nat × va_E} (hl : is.length = c.length) (hf : kt_fit mask is = true) (h : (kt_mix c mask w)[k]? = some q) : (∃ j : Nat, is[j]? = some k ∧ c[j]? = some q) ∨ (w[k]? = some q ∧ k ∉ is) := by
  obtain ⟨o, x, a, b, e⟩ := kt_mix_cases mask c w k q h
  have hk : k < mask.length := (List.getElem?_eq_some_iff.mp a).1
  have hf := List.all_eq_true.mp hf k (List.mem_range.mpr hk)
  rw [a] at hf
  cases o with
  | none =>
    subst e
    refine Or.inr ⟨b, fun z => ?_⟩
    simp at hf
    exact hf z
  | some j =>
    have hj : is[j]? = some k := by simpa using hf
    have hlt : j < c.length := by rw [← hl]; exact (List.getElem?_eq_some_iff.mp hj).1
    refine Or.inl ⟨j, hj, ?_⟩
    rw [e]
    simp [List.getD, hlt]
theorem kt_get_all : ∀ (w pre : va_W), (List.range' pre.length w.length).map (fun i => (pre ++ w)[i]?) = w.map some
  | [], pre => rfl
  | x :: w, pre => by
    show (pre ++ x :: w)[pre.length]? :: (List.range' (pre.length + 1) w.length).map (fun i => (pre ++ x :: w)[i]?) = some x :: w.map some
    have e2 : pre.length + 1 = (pre ++ [x]).length := by simp
    have e : pre ++ x :: w = (pre ++ [x]) ++ w := by simp
    rw [e2, e, kt_get_all w (pre ++ [x])]
    congr 1
    simp
theorem kt_mix_all : ∀ (w w1 pre : va_W), w.length = w1.length → kt_mix (pre ++ w1) ((List.range' pre.length w.length).map some) w = w1
  | [], [], pre, _ => rfl
  | [], x :: w1, pre, h => by simp at h
  | x :: w, [], pre, h => by simp at h
  | x :: w, y :: w1, pre, h => by
    show (pre ++ y :: w1).getD pre.length x :: kt_mix (pre ++ y :: w1) ((List.range' (pre.length + 1) w.length).map some) w = y :: w1
    have e2 : pre.length + 1 = (pre ++ [y]).length := by simp
    have e : pre ++ y :: w1 = (pre ++ [y]) ++ w1 := by simp
    have e3 : (pre ++ y :: w1).getD pre.length x = y := by simp [List.getD]
    rw [e3, e2, e, kt_mix_all w w1 (pre ++ [y]) (by simpa using h)]
theorem kt_sw_all {w w1 : va_W} {n : Nat} (hn : w.length = n) (hf : kt_fit ((List.range' 0 n).map some) (List.range' 0 n) = true) (hadr : w1.map (fun q => q.1) = w.map (fun q => q.1)) : kt_sw w w1 (List.range' 0 n) w w1 := by
  subst hn
  have hl : w.length = w1.length := by
    have := congrArg List.length hadr
    simp at this
    exact this.symm
  exact ⟨kt_get_all w [], ⟨_, kt_mix_all w w1 [] hl, hf⟩, hadr⟩
theorem kt_back {A0 : Nat → Prop} {D : va_G} {cl : List vw_C} {w w1 wC wC1 : va_W} {H H1 : Heap} {isC : List Nat} (hP : va_P D cl w H) (hD : va_D A0 w) (hsw : kt_sw w w1 isC wC wC1) (hnd : va_nd isC = true)
    (hk : ∀ q : Nat, q < H.size → ¬ va_A wC H.size q → H1[q]? = H[q]?) (hP1 : va_P D cl wC1 H1) (hD1 : va_D (va_A wC H.size) wC1) : va_P D cl w1 H1 ∧ va_D A0 w1 := by
  obtain ⟨hC, ⟨mask, rfl, hfit⟩, hadr⟩ := hsw
  have hlen : isC.length = wC1.length := by
    have e1 := congrArg List.length hC
    have e2 := congrArg List.length hadr
    simp at e1 e2
    omega
  have at' : ∀ (k : Nat) (q : Nat × va_E), wC[k]? = some q → ∃ i, isC[k]? = some i ∧ w[i]? = some q := by
    intro k q hq
    have h1 : (isC.map (fun i => w[i]?))[k]? = some (some q) := by rw [hC, List.getElem?_map, hq]; rfl
    rw [List.getElem?_map] at h1
    cases hi : isC[k]? with
    | none => rw [hi] at h1; cases h1
    | some i => rw [hi] at h1; exact ⟨i, rfl, Option.some.inj h1⟩
  have old : ∀ (j k : Nat) (q : Nat × va_E), isC[j]? = some k → wC1[j]? = some q → ∃ q2 : Nat × va_E, w[k]? = some q2 ∧ q2.1 = q.1 := by
    intro j k q hj hq
    have h1 : (wC1.map (fun q => q.1))[j]? = some q.1 := by rw [List.getElem?_map, hq]; rfl
    rw [hadr, List.getElem?_map] at h1
    cases hi : wC[j]? with
    | none => rw [hi] at h1; cases h1
    | some q2 =>
      rw [hi] at h1
      obtain ⟨i, a, b⟩ := at' j q2 hi
      have : i = k := Option.some.inj (a.symm.trans hj)
      subst this
      exact ⟨q2, b, Option.some.inj h1⟩
  refine ⟨fun k q hq => ?_, fun i j x y hx hy hxy => ?_, fun k q hq => ?_⟩
  · rcases kt_put_cases hlen hfit hq with ⟨j, a, b⟩ | ⟨a, b⟩
    · exact hP1 j q b
    · have hl := (hP k q a).lt
      refine (hP k q a).kept (hk q.1 hl (fun h => ?_))
      rcases h with ⟨k2, e, h⟩ | h
      · obtain ⟨i, h3, h4⟩ := at' k2 (q.1, e) h
        have hij := hD.1 k i q (q.1, e) a h4 rfl
        subst hij
        exact b (List.mem_of_getElem? h3)
      · omega
  · rcases kt_put_cases hlen hfit hx with ⟨j1, a1, b1⟩ | ⟨a1, b1⟩
    · rcases kt_put_cases hlen hfit hy with ⟨j2, a2, b2⟩ | ⟨a2, b2⟩
      · have := hD1.1 j1 j2 x y b1 b2 hxy
        subst this
        exact Option.some.inj (a1.symm.trans a2)
      · obtain ⟨q2, h3, h4⟩ := old j1 i x a1 b1
        exact hD.1 i j q2 y h3 a2 (h4.trans hxy)
    · rcases kt_put_cases hlen hfit hy with ⟨j2, a2, b2⟩ | ⟨a2, b2⟩
      · obtain ⟨q2, h3, h4⟩ := old j2 j y a2 b2
        exact hD.1 i j x q2 a1 h3 (hxy.trans h4.symm)
      · exact hD.1 i j x y a1 a2 hxy
  · rcases kt_put_cases hlen hfit hq with ⟨j, a, b⟩ | ⟨a, b⟩
    · obtain ⟨q2, h3, h4⟩ := old j k q a b
      rw [← h4]
      exact hD.2 k q2 h3
    · exact hD.2 k q a
section KTC
variable {p : Program} {l : Launch} {e : Env} {R : Room} {s : State} {m : MethodId} {args : Array Value} {below : List Frame} {meth : Method} {c : Code} {H : Heap} {locs : List Loc} {cells slots : Nat} {Q : State → Prop}
variable {cc bytes : ByteArray} {pc : Nat} {ls : Array Slot} {rest As : List Value} {D : va_G} {A : Nat → Prop} {b : Nat} {tys : List (ClassId × FieldType)} {w wC wC' wR w' : va_W} {H0 : Heap}
variable {nL maxL n index mc ms : Nat} {Ts ws : List Cond} {own C : String} {y : MethodName} {ret : Option FieldType} {rm : Room}
/-- what a caller hands to a callee of an instance method -/
theorem kt_preV {q0 ci : Nat} {q : vw_C} {fs : List Value} (hK : va_K D vwCl tys s) (hP : va_P D vwCl w H) (hD : va_D A w) (isC : List Nat) (hC : isC.map (fun i => w[i]?) = wC.map some) (hnd : va_nd isC = true) (hc : vwCl[ci]? = some q) (hq : q.1 = C) (he : w[q0]? = some (b, .inr (ci, fs))) : PreV s H C b (va_Pc (.ref b :: As) (PRE D tys wC H.size)) As := by
  have hDc : va_D A wC := hD.sub isC hnd hC
  have hPc : va_P D vwCl wC H := by
    intro k x hk
    have h1 : (isC.map (fun i => w[i]?))[k]? = some (some x) := by rw [hC, List.getElem?_map, hk]; rfl
    rw [List.getElem?_map] at h1
    cases hi : isC[k]? with
    | none => rw [hi] at h1; cases h1
    | some i => rw [hi] at h1; exact hP i x (Option.some.inj h1)
  refine ⟨kt_blind, ?_, fun U hU hW => ⟨rfl, by rw [hU], by rw [hU]; exact hPc, va_K.moved hW.alike hK, hDc.weaken (fun _ _ _ _ => trivial)⟩⟩
  rw [← hq]
  exact va_recv hK hP hc he
theorem kt_preS (hK : va_K D vwCl tys s) (hP : va_P D vwCl w H) (hD : va_D A w) (isC : List Nat) (hC : isC.map (fun i => w[i]?) = wC.map some) (hnd : va_nd isC = true) : PreS s H (va_Pc As (PRE D tys wC H.size)) As := by
  have hDc : va_D A wC := hD.sub isC hnd hC
  have hPc : va_P D vwCl wC H := by
    intro k x hk
    have h1 : (isC.map (fun i => w[i]?))[k]? = some (some x) := by rw [hC, List.getElem?_map, hk]; rfl
    rw [List.getElem?_map] at h1
    cases hi : isC[k]? with
    | none => rw [hi] at h1; cases h1
    | some i => rw [hi] at h1; exact hP i x (Option.some.inj h1)
  exact ⟨kt_blind, fun U hU hW => ⟨rfl, by rw [hU], by rw [hU]; exact hPc, va_K.moved hW.alike hK, hDc.weaken (fun _ _ _ _ => trivial)⟩⟩
theorem kt_calli {r : Int32} (S : CallFix p m c cc nL s args Ts own) (hM : Met l y ws rm (va_Pc (.ref b :: As) (PRE D tys wC H.size)) (va_Qi (fun (r' : Int32) (_ : Unit) => r' = r) (fun _ t => ATW D tys (va_A wC H.size) wC' t) (va_A wC H.size)) 0 0 (va_A wC H.size)) (cw : CallW R s args own C index y bytes maxL ret ws rm 0 0 n)
    (hK : va_K D vwCl tys s) (hP : va_P D vwCl w H) (hD : va_D A w) (hS : va_S A H0 H locs) (hA : ∀ q, H0.size ≤ q → A q) (isC : List Nat) (hsw : kt_sw w w' isC wC wC') (hndC : va_nd isC = true)
    (q0 ci : Nat) {q : vw_C} {fs : List Value} (hc : vwCl[ci]? = some q) (hq : q.1 = C) (he : w[q0]? = some (b, .inr (ci, fs))) {st : List Value} (hst : st = As.reverse ++ .ref b :: rest) (hn : As.length = n) (hsz : ls.size = nL) (hw : (rest.map fun v => v.category).sum ≤ 8) (hdg : decode cc pc = .ok (.invokevirtual index, 3)) (hcs : cells ≤ R.cells ∧ slots ≤ R.slots)
    (kk : ∀ (H1 : Heap) (locs1 : List Loc), va_P D vwCl w' H1 → va_D A w' → va_S A H0 H1 locs1 → W p l e R s m args below meth c H1 locs1 cells slots Q (F0 m (pc + 3) ls (.int r :: rest))) : W p l e R s m args below meth c H locs cells slots Q (F0 m pc ls st) := by
  subst hst
  have hF := va_free (wc := wC) hD hS hA isC hsw.1
  refine va_calli (va_runV (rest := rest) S hM cw (kt_preV hK hP hD isC hsw.1 hndC hc hq he) rfl hn hsz rfl (lv_room hw) hdg ⟨by omega, by omega⟩) hS (fun q _ h => hF q h) hF (fun r' u t H1 locs1 ht hvm hpost hB hz hk hS1 => ?_)
  subst hpost
  obtain ⟨hP1, hK1, hD1⟩ := hB
  rw [ht] at hP1
  obtain ⟨hP2, hD2⟩ := kt_back hP hD hsw hndC hk hP1 hD1
  exact kk H1 locs1 hP2 hD2 hS1
theorem kt_callSi {r : Int32} (S : CallFix p m c cc nL s args Ts own) (hM : Met l y ws rm (va_Pc As (PRE D tys wC H.size)) (va_Qi (fun (r' : Int32) (_ : Unit) => r' = r) (fun _ t => ATW D tys (va_A wC H.size) wC' t) (va_A wC H.size)) 0 0 (va_A wC H.size)) (cw : CallB R s args own index y bytes maxL ret ws rm 0 0 n ∧ (Cond.static y).before args s = true)
    (hK : va_K D vwCl tys s) (hP : va_P D vwCl w H) (hD : va_D A w) (hS : va_S A H0 H locs) (hA : ∀ q, H0.size ≤ q → A q) (isC : List Nat) (hsw : kt_sw w w' isC wC wC') (hndC : va_nd isC = true)
    {st : List Value} (hst : st = As.reverse ++ rest) (hn : As.length = n) (hsz : ls.size = nL) (hw : (rest.map fun v => v.category).sum ≤ 8) (hdg : decode cc pc = .ok (.invokestatic index, 3)) (hcs : cells ≤ R.cells ∧ slots ≤ R.slots)
    (kk : ∀ (H1 : Heap) (locs1 : List Loc), va_P D vwCl w' H1 → va_D A w' → va_S A H0 H1 locs1 → W p l e R s m args below meth c H1 locs1 cells slots Q (F0 m (pc + 3) ls (.int r :: rest))) : W p l e R s m args below meth c H locs cells slots Q (F0 m pc ls st) := by
  subst hst
  have hF := va_free (wc := wC) hD hS hA isC hsw.1
  refine va_calli (va_runS (rest := rest) S hM cw (kt_preS hK hP hD isC hsw.1 hndC) rfl hn hsz rfl (lv_room hw) hdg ⟨by omega, by omega⟩) hS (fun q _ h => hF q h) hF (fun r' u t H1 locs1 ht hvm hpost hB hz hk hS1 => ?_)
  subst hpost
  obtain ⟨hP1, hK1, hD1⟩ := hB
  rw [ht] at hP1
  obtain ⟨hP2, hD2⟩ := kt_back hP hD hsw hndC hk hP1 hD1
  exact kk H1 locs1 hP2 hD2 hS1
theorem kt_calll {r : Int64} (S : CallFix p m c cc nL s args Ts own) (hM : Met l y ws rm (va_Pc (.ref b :: As) (PRE D tys wC H.size)) (va_Ql (fun (r' : Int64) (_ : Unit) => r' = r) (fun _ t => ATW D tys (va_A wC H.size) wC' t) (va_A wC H.size)) 0 0 (va_A wC H.size)) (cw : CallW R s args own C index y bytes maxL ret ws rm 0 0 n)
    (hK : va_K D vwCl tys s) (hP : va_P D vwCl w H) (hD : va_D A w) (hS : va_S A H0 H locs) (hA : ∀ q, H0.size ≤ q → A q) (isC : List Nat) (hsw : kt_sw w w' isC wC wC') (hndC : va_nd isC = true)
    (q0 ci : Nat) {q : vw_C} {fs : List Value} (hc : vwCl[ci]? = some q) (hq : q.1 = C) (he : w[q0]? = some (b, .inr (ci, fs))) {st : List Value} (hst : st = As.reverse ++ .ref b :: rest) (hn : As.length = n) (hsz : ls.size = nL) (hw : (rest.map fun v => v.category).sum ≤ 8) (hdg : decode cc pc = .ok (.invokevirtual index, 3)) (hcs : cells ≤ R.cells ∧ slots ≤ R.slots)
    (kk : ∀ (H1 : Heap) (locs1 : List Loc), va_P D vwCl w' H1 → va_D A w' → va_S A H0 H1 locs1 → W p l e R s m args below meth c H1 locs1 cells slots Q (F0 m (pc + 3) ls (.long r :: rest))) : W p l e R s m args below meth c H locs cells slots Q (F0 m pc ls st) := by
  subst hst
  have hF := va_free (wc := wC) hD hS hA isC hsw.1
  refine va_calll (va_runV (rest := rest) S hM cw (kt_preV hK hP hD isC hsw.1 hndC hc hq he) rfl hn hsz rfl (lv_room hw) hdg ⟨by omega, by omega⟩) hS (fun q _ h => hF q h) hF (fun r' u t H1 locs1 ht hvm hpost hB hz hk hS1 => ?_)
  subst hpost
  obtain ⟨hP1, hK1, hD1⟩ := hB
  rw [ht] at hP1
  obtain ⟨hP2, hD2⟩ := kt_back hP hD hsw hndC hk hP1 hD1
  exact kk H1 locs1 hP2 hD2 hS1
theorem kt_callSl {r : Int64} (S : CallFix p m c cc nL s args Ts own) (hM : Met l y ws rm (va_Pc As (PRE D tys wC H.size)) (va_Ql (fun (r' : Int64) (_ : Unit) => r' = r) (fun _ t => ATW D tys (va_A wC H.size) wC' t) (va_A wC H.size)) 0 0 (va_A wC H.size)) (cw : CallB R s args own index y bytes maxL ret ws rm 0 0 n ∧ (Cond.static y).before args s = true)
    (hK : va_K D vwCl tys s) (hP : va_P D vwCl w H) (hD : va_D A w) (hS : va_S A H0 H locs) (hA : ∀ q, H0.size ≤ q → A q) (isC : List Nat) (hsw : kt_sw w w' isC wC wC') (hndC : va_nd isC = true)
    {st : List Value} (hst : st = As.reverse ++ rest) (hn : As.length = n) (hsz : ls.size = nL) (hw : (rest.map fun v => v.category).sum ≤ 8) (hdg : decode cc pc = .ok (.invokestatic index, 3)) (hcs : cells ≤ R.cells ∧ slots ≤ R.slots)
    (kk : ∀ (H1 : Heap) (locs1 : List Loc), va_P D vwCl w' H1 → va_D A w' → va_S A H0 H1 locs1 → W p l e R s m args below meth c H1 locs1 cells slots Q (F0 m (pc + 3) ls (.long r :: rest))) : W p l e R s m args below meth c H locs cells slots Q (F0 m pc ls st) := by
  subst hst
  have hF := va_free (wc := wC) hD hS hA isC hsw.1
  refine va_calll (va_runS (rest := rest) S hM cw (kt_preS hK hP hD isC hsw.1 hndC) rfl hn hsz rfl (lv_room hw) hdg ⟨by omega, by omega⟩) hS (fun q _ h => hF q h) hF (fun r' u t H1 locs1 ht hvm hpost hB hz hk hS1 => ?_)
  subst hpost
  obtain ⟨hP1, hK1, hD1⟩ := hB
  rw [ht] at hP1
  obtain ⟨hP2, hD2⟩ := kt_back hP hD hsw hndC hk hP1 hD1
  exact kk H1 locs1 hP2 hD2 hS1
theorem kt_callv (S : CallFix p m c cc nL s args Ts own) (hM : Met l y ws rm (va_Pc (.ref b :: As) (PRE D tys wC H.size)) (va_Qv (fun (_ : Unit) => True) (fun _ t => ATW D tys (va_A wC H.size) wC' t) (va_A wC H.size)) 0 0 (va_A wC H.size)) (cw : CallW R s args own C index y bytes maxL ret ws rm 0 0 n)
    (hK : va_K D vwCl tys s) (hP : va_P D vwCl w H) (hD : va_D A w) (hS : va_S A H0 H locs) (hA : ∀ q, H0.size ≤ q → A q) (isC : List Nat) (hsw : kt_sw w w' isC wC wC') (hndC : va_nd isC = true)
    (q0 ci : Nat) {q : vw_C} {fs : List Value} (hc : vwCl[ci]? = some q) (hq : q.1 = C) (he : w[q0]? = some (b, .inr (ci, fs))) {st : List Value} (hst : st = As.reverse ++ .ref b :: rest) (hn : As.length = n) (hsz : ls.size = nL) (hw : (rest.map fun v => v.category).sum ≤ 8) (hdg : decode cc pc = .ok (.invokevirtual index, 3)) (hcs : cells ≤ R.cells ∧ slots ≤ R.slots)
    (kk : ∀ (H1 : Heap) (locs1 : List Loc), va_P D vwCl w' H1 → va_D A w' → va_S A H0 H1 locs1 → W p l e R s m args below meth c H1 locs1 cells slots Q (F0 m (pc + 3) ls (rest))) : W p l e R s m args below meth c H locs cells slots Q (F0 m pc ls st) := by
  subst hst
  have hF := va_free (wc := wC) hD hS hA isC hsw.1
  refine va_callv (va_runV (rest := rest) S hM cw (kt_preV hK hP hD isC hsw.1 hndC hc hq he) rfl hn hsz rfl (lv_room hw) hdg ⟨by omega, by omega⟩) hS (fun q _ h => hF q h) hF (fun u t H1 locs1 ht hvm hpost hB hz hk hS1 => ?_)
  obtain ⟨hP1, hK1, hD1⟩ := hB
  rw [ht] at hP1
  obtain ⟨hP2, hD2⟩ := kt_back hP hD hsw hndC hk hP1 hD1
  exact kk H1 locs1 hP2 hD2 hS1
theorem kt_callSv (S : CallFix p m c cc nL s args Ts own) (hM : Met l y ws rm (va_Pc As (PRE D tys wC H.size)) (va_Qv (fun (_ : Unit) => True) (fun _ t => ATW D tys (va_A wC H.size) wC' t) (va_A wC H.size)) 0 0 (va_A wC H.size)) (cw : CallB R s args own index y bytes maxL ret ws rm 0 0 n ∧ (Cond.static y).before args s = true)
    (hK : va_K D vwCl tys s) (hP : va_P D vwCl w H) (hD : va_D A w) (hS : va_S A H0 H locs) (hA : ∀ q, H0.size ≤ q → A q) (isC : List Nat) (hsw : kt_sw w w' isC wC wC') (hndC : va_nd isC = true)
    {st : List Value} (hst : st = As.reverse ++ rest) (hn : As.length = n) (hsz : ls.size = nL) (hw : (rest.map fun v => v.category).sum ≤ 8) (hdg : decode cc pc = .ok (.invokestatic index, 3)) (hcs : cells ≤ R.cells ∧ slots ≤ R.slots)
    (kk : ∀ (H1 : Heap) (locs1 : List Loc), va_P D vwCl w' H1 → va_D A w' → va_S A H0 H1 locs1 → W p l e R s m args below meth c H1 locs1 cells slots Q (F0 m (pc + 3) ls (rest))) : W p l e R s m args below meth c H locs cells slots Q (F0 m pc ls st) := by
  subst hst
  have hF := va_free (wc := wC) hD hS hA isC hsw.1
  refine va_callv (va_runS (rest := rest) S hM cw (kt_preS hK hP hD isC hsw.1 hndC) rfl hn hsz rfl (lv_room hw) hdg ⟨by omega, by omega⟩) hS (fun q _ h => hF q h) hF (fun u t H1 locs1 ht hvm hpost hB hz hk hS1 => ?_)
  obtain ⟨hP1, hK1, hD1⟩ := hB
  rw [ht] at hP1
  obtain ⟨hP2, hD2⟩ := kt_back hP hD hsw hndC hk hP1 hD1
  exact kk H1 locs1 hP2 hD2 hS1
end KTC
