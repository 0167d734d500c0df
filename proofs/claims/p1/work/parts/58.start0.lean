/-! the start: what the Statement gives of it -/
theorem st_arr {ty : FieldType} {args : Array Value} {s : State} (h : (Cond.arrayClass ty).before args s = true) (hno : ∀ C, ty ≠ .object C) : ∃ cA : ClassId, ArrOfT s cA ty ∧ va_RA s cA ty := by
  obtain ⟨c, k, comp, h1, h2, h3⟩ := Cond.arrayClass_spec h
  refine ⟨c, fun n z => ⟨fun k h => (by cases h), k, h2, comp, h3⟩, ?_⟩
  cases ty with
  | object C => exact absurd rfl (hno C)
  | _ => exact h1
theorem st_arrA {t : FieldType} {args : Array Value} {s : State} (h : (Cond.arrayOver (.array t)).before args s = true) : ∃ cA : ClassId, ArrOfT s cA (.array t) ∧ va_RA s cA (.array t) := by
  obtain ⟨comp, c, k, h1, h2, h3, h4, h5⟩ := arrayOverA_spec h
  exact ⟨c, fun n z => ⟨fun k h => (by cases h), k, h3, comp, h4⟩, h5⟩
theorem st_arrO {C : String} {args : Array Value} {s : State} (h : (Cond.arrayOver (.object C)).before args s = true) : ∃ cA : ClassId, ArrOfT s cA (.object C) ∧ va_RA s cA (.object C) := by
  obtain ⟨comp, c, k, h1, h2, h3, h4, h5⟩ := Cond.arrayOver_spec h
  exact ⟨c, fun n z => ⟨fun k h => (by cases h), k, h3, comp, h4⟩, ⟨k, comp, h3, h4, h1, h5⟩⟩
def stSa (s : State) (k : Nat) : Nat := match (Term.string RX4 k).eval #[] s none [] s with
  | some (.ref a) => a
  | _ => 0
theorem st_vk {k : Nat} {tx : String} {args : Array Value} {s : State} (h1 : (Cond.stringRef RX4 k tx).before args s = true) (h2 : (Cond.exactly (.string RX4 k) "java/lang/String").before args s = true) : vk_R RX4 k tx (stSa s k) s := by
  obtain ⟨a, c, cell, kk, h3, -⟩ := Cond.exactly_spec h2
  have h4 : (Term.string RX4 k).eval #[] s none [] s = some (.ref a) := h3
  have h5 : stSa s k = a := by
    unfold stSa
    rw [h4]
  rw [h5]
  exact vk_R.of h1 h3
section ST
variable {s : State} {b : Nat}
theorem st_K (hts : ∀ w ∈ lw_tbl, w.before #[Value.ref b] s = true) : ∃ (dC : Nat → ClassId) (dI : Nat → Nat → Nat) (cI cII cJ cJJ cZ cO : ClassId), va_K (dC, dI) vwCl (tyR cI cII cJ cJJ cZ cO) s := by
  obtain ⟨c0, i0, hK0⟩ := u_known (C := RJx35411) (T := TJx35411) (N := 4) (n := 4) hts inJx35411 (hts (.instantiable RJx35411 4) (by decide +kernel))
  obtain ⟨c1, i1, hK1⟩ := u_known (C := RJx4a65c) (T := TJx4a65c) (N := 3) (n := 3) hts inJx4a65c (hts (.instantiable RJx4a65c 3) (by decide +kernel))
  obtain ⟨c2, i2, hK2⟩ := u_known (C := RX0) (T := TX0) (N := 3) (n := 3) hts inX0 (hts (.instantiable RX0 3) (by decide +kernel))
  obtain ⟨c3, i3, hK3⟩ := u_known (C := RX1) (T := TX1) (N := 4) (n := 4) hts inX1 (hts (.instantiable RX1 4) (by decide +kernel))
  obtain ⟨c4, i4, hK4⟩ := u_known (C := RX2) (T := TX2) (N := 4) (n := 4) hts inX2 (hts (.instantiable RX2 4) (by decide +kernel))
  obtain ⟨c5, i5, hK5⟩ := u_known (C := RX3) (T := TX3) (N := 3) (n := 3) hts inX3 (hts (.instantiable RX3 3) (by decide +kernel))
  obtain ⟨c6, i6, hK6⟩ := u_known (C := RX4) (T := TX4) (N := 11) (n := 11) hts inX4 (hts (.instantiable RX4 11) (by decide +kernel))
  obtain ⟨c7, i7, hK7⟩ := u_known (C := RX5) (T := TX5) (N := 11) (n := 11) hts inX5 (hts (.instantiable RX5 11) (by decide +kernel))
  obtain ⟨cI, aI⟩ := st_arr (hts (.arrayClass .int) (by decide +kernel)) (fun _ h => by cases h)
  obtain ⟨cII, aII⟩ := st_arrA (hts (.arrayOver (.array .int)) (by decide +kernel))
  obtain ⟨cJ, aJ⟩ := st_arr (hts (.arrayClass .long) (by decide +kernel)) (fun _ h => by cases h)
  obtain ⟨cJJ, aJJ⟩ := st_arrA (hts (.arrayOver (.array .long)) (by decide +kernel))
  obtain ⟨cZ, aZ⟩ := st_arr (hts (.arrayClass .boolean) (by decide +kernel)) (fun _ h => by cases h)
  obtain ⟨cO, aO⟩ := st_arrO (hts (.arrayOver (.object RObj)) (by decide +kernel))
  refine ⟨fun k => match k with | 0 => c0 | 1 => c1 | 2 => c2 | 3 => c3 | 4 => c4 | 5 => c5 | 6 => c6 | _ => c7, fun k => match k with | 0 => i0 | 1 => i1 | 2 => i2 | 3 => i3 | 4 => i4 | 5 => i5 | 6 => i6 | _ => i7, cI, cII, cJ, cJJ, cZ, cO, fun k q hq => ?_, fun k q hq => ?_⟩
  · match k, hq with
    | 0, hq => cases hq; exact hK0
    | 1, hq => cases hq; exact hK1
    | 2, hq => cases hq; exact hK2
    | 3, hq => cases hq; exact hK3
    | 4, hq => cases hq; exact hK4
    | 5, hq => cases hq; exact hK5
    | 6, hq => cases hq; exact hK6
    | 7, hq => cases hq; exact hK7
    | k + 8, hq => exact absurd hq (by simp [vwCl])
  · match k, hq with
    | 0, hq => cases hq; exact aI
    | 1, hq => cases hq; exact aII
    | 2, hq => cases hq; exact aJ
    | 3, hq => cases hq; exact aJJ
    | 4, hq => cases hq; exact aZ
    | 5, hq => cases hq; exact aO
    | k + 6, hq => exact absurd hq (by simp [tyR])
theorem st_X {A : Nat → Prop} (hA : ∀ a : Nat, a < s.heap.size → ¬ A a) (hts : ∀ w ∈ lw_tbl, w.before #[Value.ref b] s = true) (hs : ∀ w ∈ flatC (Jvm.Cond.and given_1 narrow_1), w.before #[Value.ref b] s = true) : EnvX A s s.heap := by
  refine ⟨vx_Zqof (hts (.laysStatic Bundle.tN "UNASSIGNED_STACK" Bundle.steD) (by decide +kernel)) (hts (.initialized Bundle.tN) (by decide +kernel)) (hs (.isRef (.static Bundle.tN "UNASSIGNED_STACK" Bundle.steD)) (by decide +kernel)) hA, vx_Zqof (hts (.laysStatic Bundle.tN "SUPPRESSED_SENTINEL" Bundle.listD) (by decide +kernel)) (hts (.initialized Bundle.tN) (by decide +kernel)) (hs (.isRef (.static Bundle.tN "SUPPRESSED_SENTINEL" Bundle.listD)) (by decide +kernel)) hA, ⟨stSa s, ?_⟩, ?_, ?_, ?_, ?_⟩
  · intro q hq
    have h : q = (59, "there are 6 spots") ∨ q = (70, "both are the same") ∨ q = (93, "more than 99 grains") ∨ q = (99, "the spot is not steep") ∨ q = (121, "there are 4 heaps") ∨ q = (229, "no such spot") ∨ q = (235, "no such spot, and not the sink") ∨ q = (237, "no such heap") ∨ q = (239, "the moor is not fast") ∨ q = (241, "not within its bounds") := by simpa [exText] using hq
    rcases h with rfl | rfl | rfl | rfl | rfl | rfl | rfl | rfl | rfl | rfl
    · exact st_vk (hts (.stringRef RX4 59 "there are 6 spots") (by decide +kernel)) (hs (.exactly (.string RX4 59) "java/lang/String") (by decide +kernel))
    · exact st_vk (hts (.stringRef RX4 70 "both are the same") (by decide +kernel)) (hs (.exactly (.string RX4 70) "java/lang/String") (by decide +kernel))
    · exact st_vk (hts (.stringRef RX4 93 "more than 99 grains") (by decide +kernel)) (hs (.exactly (.string RX4 93) "java/lang/String") (by decide +kernel))
    · exact st_vk (hts (.stringRef RX4 99 "the spot is not steep") (by decide +kernel)) (hs (.exactly (.string RX4 99) "java/lang/String") (by decide +kernel))
    · exact st_vk (hts (.stringRef RX4 121 "there are 4 heaps") (by decide +kernel)) (hs (.exactly (.string RX4 121) "java/lang/String") (by decide +kernel))
    · exact st_vk (hts (.stringRef RX4 229 "no such spot") (by decide +kernel)) (hs (.exactly (.string RX4 229) "java/lang/String") (by decide +kernel))
    · exact st_vk (hts (.stringRef RX4 235 "no such spot, and not the sink") (by decide +kernel)) (hs (.exactly (.string RX4 235) "java/lang/String") (by decide +kernel))
    · exact st_vk (hts (.stringRef RX4 237 "no such heap") (by decide +kernel)) (hs (.exactly (.string RX4 237) "java/lang/String") (by decide +kernel))
    · exact st_vk (hts (.stringRef RX4 239 "the moor is not fast") (by decide +kernel)) (hs (.exactly (.string RX4 239) "java/lang/String") (by decide +kernel))
    · exact st_vk (hts (.stringRef RX4 241 "not within its bounds") (by decide +kernel)) (hs (.exactly (.string RX4 241) "java/lang/String") (by decide +kernel))
  · intro x hx
    have h : x = Bundle.initS "java/lang/RuntimeException" ∨ x = Bundle.initS "java/lang/Exception" ∨ x = Bundle.initS Bundle.tN := by simpa [exDecl] using hx
    rcases h with rfl | rfl | rfl
    · exact va_Nw.of rfl (hts (.declares (Bundle.initS "java/lang/RuntimeException")) (by decide +kernel))
    · exact va_Nw.of rfl (hts (.declares (Bundle.initS "java/lang/Exception")) (by decide +kernel))
    · exact va_Nw.of rfl (hts (.declares (Bundle.initS Bundle.tN)) (by decide +kernel))
  · exact va_Nw.of rfl (hts (.castable exS exS) (by decide +kernel))
  · exact va_Nw.of rfl (hts (.castable exA exA) (by decide +kernel))
  · exact va_Nw.of rfl (hts (.castable exI exI) (by decide +kernel))
theorem st_R {A : Nat → Prop} (hA : ∀ a : Nat, a < s.heap.size → ¬ A a) (hts : ∀ w ∈ lw_tbl, w.before #[Value.ref b] s = true) (hs : ∀ w ∈ flatC (Jvm.Cond.and given_1 narrow_1), w.before #[Value.ref b] s = true) : ∃ dd : Nat, EnvR dd A s s.heap := by
  have hl : (Cond.eq (.length (.static "java/util/ArrayList" "DEFAULTCAPACITY_EMPTY_ELEMENTDATA" "[Ljava/lang/Object;")) (.int 0)).before #[Value.ref b] s = true := hs _ (by decide +kernel)
  have hlen := Cond.eq_int (n := 0) hl rfl
  obtain ⟨dd, h1, h2⟩ := va_Tof (ty := .object RObj) (N := 0) (f := fun _ => .null) (A := A) (by decide) (hs (.arrayOf (.static "java/util/ArrayList" "DEFAULTCAPACITY_EMPTY_ELEMENTDATA" "[Ljava/lang/Object;") (.object RObj)) (by decide +kernel)) hlen (fun j h => absurd h (Nat.not_lt_zero j)) hA
  exact ⟨dd, va_Zof (hts (.laysStatic "java/util/ArrayList" "DEFAULTCAPACITY_EMPTY_ELEMENTDATA" "[Ljava/lang/Object;") (by decide +kernel)) (hts (.initialized "java/util/ArrayList") (by decide +kernel)) h1 hA, h2, va_AOA.of (hts (.arrayOver (.array .int)) (by decide +kernel)), va_AO.of (hts (.arrayOver (.object RObj)) (by decide +kernel)), va_Nw.of rfl (hts (.castable "[I" RObj) (by decide +kernel)), va_Nw.of rfl (hts sizeN (by decide +kernel)), va_Fw.of (hts (.declares hasNextI) (by decide +kernel)) (hts (.interfaceMethod "java/util/Iterator" "java/util/Iterator" "hasNext" "()Z") (by decide +kernel)) (hts (.publicMethod yJx35411_hasNext_aae02) (by decide +kernel)) (hts (.unhidden RJx35411 "hasNext" "()Z") (by decide +kernel)) (hts (.castable RJx35411 "java/util/Iterator") (by decide +kernel))⟩
end ST
section KTS
variable {p : Program} {l : Launch} {e : Env} {R : Room} {s : State} {m : MethodId} {args : Array Value} {below : List Frame} {meth : Method} {c : Code} {H : Heap} {locs : List Loc} {cells slots : Nat} {Q : State → Prop}
variable {cc : ByteArray} {pc : Nat} {ls : Array Slot} {rest As : List Value} {D : va_G} {A : Nat → Prop} {tys : List (ClassId × FieldType)} {w wC : va_W} {H0 : Heap}
theorem kt_preSN (hK : va_K D vwCl tys s) (hP : va_P D vwCl w H) (hD : va_D A w) (isC : List Nat) (hC : isC.map (fun i => w[i]?) = wC.map some) (hnd : va_nd isC = true) (ha : va_AOA .int s) (hb : va_AOA .long s) (hn : va_Nw nestW s) : PreS s H (va_Pc As (PREN D tys wC H.size)) As := by
  refine ⟨kt_blindN, fun U hU hW => ?_⟩
  obtain ⟨q0, q1⟩ := (kt_preS2 (As := As) hK hP hD isC hC hnd ha hb).2 U hU hW
  exact ⟨q0, q1, va_Nw.warmM hW hn⟩
theorem kt_newl (hx : p.tables.exec = Jvm.exec) (hb : c.code = cc) (harr : (Cond.arrayClass .long).before args s = true) (hK : va_K D vwCl tys s) (hP : va_P D vwCl w H) (hD : va_D A w) (hS : va_S A H0 H locs) (hA : ∀ q, H0.size ≤ q → A q) (t0 : Nat) {cA : ClassId} (ht : tys[t0]? = some (cA, .long)) {N : Nat} (hN : N < 2 ^ 20) (hcells : cells + 1 ≤ R.cells) (hslots : slots + N ≤ R.slots) (hdg : decode cc pc = .ok (.newarray .long, 2))
    (kk : ∀ (q : Nat) (H1 : Heap), va_P D vwCl (w ++ [(q, .inl (cA, N, .inr (.inl (fun _ => 0))))]) H1 → va_D A (w ++ [(q, .inl (cA, N, .inr (.inl (fun _ => 0))))]) → va_S A H0 H1 locs → W p l e R s m args below meth c H1 locs (cells + 1) (slots + N) Q (F0 m (pc + 2) ls (.ref q :: rest))) : W p l e R s m args below meth c H locs cells slots Q (F0 m pc ls (.int (nI N) :: rest)) := by
  refine va_newa (atype := .long) (ty := .long) (N' := N) hx hb harr rfl hK hP hD hS hA (a0 := (N, .inr (.inl (fun _ => 0)))) (fun _ => rfl) (nI_pos (by omega)) (nI_clamp (by omega)) (by show N * 8 ≤ 536870912; omega) hcells hslots hdg (fun q cB H1 hK1 hP1 hD1 hS1 => ?_)
  have e1 : s.vm.findClass ("[" ++ FieldType.long.toString) = some cA := (hK.2 t0 _ ht).2
  have e2 : s.vm.findClass ("[" ++ FieldType.long.toString) = some cB := (hK1.2 tys.length (cB, .long) (by simp)).2
  have e : cA = cB := Option.some.inj (e1.symm.trans e2)
  subst e
  exact kk q H1 hP1 hD1 hS1
end KTS
