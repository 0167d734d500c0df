/-! the law's helpers -/
set_option maxRecDepth 100000 in
theorem sw_V1 {cI cII cJ cJJ : ClassId} {tp : Nat} {f : Nat → Nat} {er : Nat → Nat} {tr : Nat → Nat} {kr : Nat → Nat} {n : Nat} {E : V2} {DG : V1} {G : V1} {U : V1} {sw : Int32} {tps : Int32} {C : V1} {P : V1} {n' : Nat} {E' : V2} {DG' : V1} {G' : V1} {U' : V1} {sw' : Int32} {tps' : Int32} {C' : V1} {P' : V1} {tp2 : Nat} {f2 : Nat → Nat} {er2 : Nat → Nat} {tr2 : Nat → Nat} {kr2 : Nat → Nat} {n2 : Nat} {E2 : V2} {DG2 : V1} {G2 : V1} {U2 : V1} {sw2 : Int32} {tps2 : Int32} {C2 : V1} {P2 : V1} : kt_sw (wV tp f er tr kr cI cII cJ cJJ n E DG G U sw tps C P ++ wV tp2 f2 er2 tr2 kr2 cI cII cJ cJJ n2 E2 DG2 G2 U2 sw2 tps2 C2 P2) (wV tp f er tr kr cI cII cJ cJJ n' E' DG' G' U' sw' tps' C' P' ++ wV tp2 f2 er2 tr2 kr2 cI cII cJ cJJ n2 E2 DG2 G2 U2 sw2 tps2 C2 P2) (List.range' 0 45) (wV tp f er tr kr cI cII cJ cJJ n E DG G U sw tps C P) (wV tp f er tr kr cI cII cJ cJJ n' E' DG' G' U' sw' tps' C' P') := ⟨rfl, ⟨[some 0, some 1, some 2, some 3, some 4, some 5, some 6, some 7, some 8, some 9, some 10, some 11, some 12, some 13, some 14, some 15, some 16, some 17, some 18, some 19, some 20, some 21, some 22, some 23, some 24, some 25, some 26, some 27, some 28, some 29, some 30, some 31, some 32, some 33, some 34, some 35, some 36, some 37, some 38, some 39, some 40, some 41, some 42, some 43, some 44, none, none, none, none, none, none, none, none, none, none, none, none, none, none, none, none, none, none, none, none, none, none, none, none, none, none, none, none, none, none, none, none, none, none, none, none, none, none, none, none, none, none, none, none, none], rfl, by decide +kernel⟩, rfl⟩
set_option maxRecDepth 100000 in
theorem sw_V2 {cI cII cJ cJJ : ClassId} {tp : Nat} {f : Nat → Nat} {er : Nat → Nat} {tr : Nat → Nat} {kr : Nat → Nat} {n : Nat} {E : V2} {DG : V1} {G : V1} {U : V1} {sw : Int32} {tps : Int32} {C : V1} {P : V1} {tp2 : Nat} {f2 : Nat → Nat} {er2 : Nat → Nat} {tr2 : Nat → Nat} {kr2 : Nat → Nat} {n2 : Nat} {E2 : V2} {DG2 : V1} {G2 : V1} {U2 : V1} {sw2 : Int32} {tps2 : Int32} {C2 : V1} {P2 : V1} {n2' : Nat} {E2' : V2} {DG2' : V1} {G2' : V1} {U2' : V1} {sw2' : Int32} {tps2' : Int32} {C2' : V1} {P2' : V1} : kt_sw (wV tp f er tr kr cI cII cJ cJJ n E DG G U sw tps C P ++ wV tp2 f2 er2 tr2 kr2 cI cII cJ cJJ n2 E2 DG2 G2 U2 sw2 tps2 C2 P2) (wV tp f er tr kr cI cII cJ cJJ n E DG G U sw tps C P ++ wV tp2 f2 er2 tr2 kr2 cI cII cJ cJJ n2' E2' DG2' G2' U2' sw2' tps2' C2' P2') (List.range' 45 45) (wV tp2 f2 er2 tr2 kr2 cI cII cJ cJJ n2 E2 DG2 G2 U2 sw2 tps2 C2 P2) (wV tp2 f2 er2 tr2 kr2 cI cII cJ cJJ n2' E2' DG2' G2' U2' sw2' tps2' C2' P2') := ⟨rfl, ⟨[none, none, none, none, none, none, none, none, none, none, none, none, none, none, none, none, none, none, none, none, none, none, none, none, none, none, none, none, none, none, none, none, none, none, none, none, none, none, none, none, none, none, none, none, none, some 0, some 1, some 2, some 3, some 4, some 5, some 6, some 7, some 8, some 9, some 10, some 11, some 12, some 13, some 14, some 15, some 16, some 17, some 18, some 19, some 20, some 21, some 22, some 23, some 24, some 25, some 26, some 27, some 28, some 29, some 30, some 31, some 32, some 33, some 34, some 35, some 36, some 37, some 38, some 39, some 40, some 41, some 42, some 43, some 44], rfl, by decide +kernel⟩, rfl⟩
set_option maxRecDepth 100000 in
theorem sw_VM {cI cII cJ cJJ : ClassId} {tp : Nat} {f : Nat → Nat} {er : Nat → Nat} {tr : Nat → Nat} {kr : Nat → Nat} {n : Nat} {E : V2} {DG : V1} {G : V1} {U : V1} {sw : Int32} {tps : Int32} {C : V1} {P : V1} {n' : Nat} {E' : V2} {DG' : V1} {G' : V1} {U' : V1} {sw' : Int32} {tps' : Int32} {C' : V1} {P' : V1} {ma : Nat} {mr : Nat → Nat} {M : V2} : kt_sw (wV tp f er tr kr cI cII cJ cJJ n E DG G U sw tps C P ++ wMa cI cII ma mr M) (wV tp f er tr kr cI cII cJ cJJ n' E' DG' G' U' sw' tps' C' P' ++ wMa cI cII ma mr M) (List.range' 0 45) (wV tp f er tr kr cI cII cJ cJJ n E DG G U sw tps C P) (wV tp f er tr kr cI cII cJ cJJ n' E' DG' G' U' sw' tps' C' P') := ⟨rfl, ⟨[some 0, some 1, some 2, some 3, some 4, some 5, some 6, some 7, some 8, some 9, some 10, some 11, some 12, some 13, some 14, some 15, some 16, some 17, some 18, some 19, some 20, some 21, some 22, some 23, some 24, some 25, some 26, some 27, some 28, some 29, some 30, some 31, some 32, some 33, some 34, some 35, some 36, some 37, some 38, some 39, some 40, some 41, some 42, some 43, some 44, none, none, none, none, none, none, none, none], rfl, by decide +kernel⟩, rfl⟩
def layM (M : V2) (a b : Nat) (q : Int32) : V2 := updR (updR M a (upd (M a) b q)) b (upd (updR M a (upd (M a) b q) b) a q)
theorem row_MaN {cI cII : ClassId} {ma : Nat} {mr : Nat → Nat} {M : V2} {j : Nat} (hj : j < 7) : (wMa cI cII ma mr M)[1 + j]? = some (mr j, .inl (cI, 7, .inl (M j))) := by
  have h := row_Ma (cI := cI) (cII := cII) (ma := ma) (mr := mr) (M := M) (tl := []) hj
  rwa [List.append_nil] at h
theorem row_VM {V : va_W} {cI cII : ClassId} {ma : Nat} {mr : Nat → Nat} {M : V2} (hV : V.length = 45) {j : Nat} (hj : j < 7) : (V ++ wMa cI cII ma mr M)[45 + (1 + j)]? = some (mr j, .inl (cI, 7, .inl (M j))) := by
  rw [List.getElem?_append_right (by omega), hV, Nat.add_sub_cancel_left]
  exact row_MaN hj
theorem set_VM {V : va_W} {cI cII : ClassId} {ma : Nat} {mr : Nat → Nat} {M : V2} {F : V1} (hV : V.length = 45) {j : Nat} (hj : j < 7) : (V ++ wMa cI cII ma mr M).set (45 + (1 + j)) (mr j, .inl (cI, 7, .inl F)) = V ++ wMa cI cII ma mr (updR M j F) := by
  rw [List.set_append_right _ _ (by omega), hV, Nat.add_sub_cancel_left]
  have h := set_Ma (cI := cI) (cII := cII) (ma := ma) (mr := mr) (M := M) (F := F) (tl := []) hj
  rw [List.append_nil, List.append_nil] at h
  rw [h]
theorem nI_injN {a b : Nat} (ha : a < 2 ^ 31) (hb : b < 2 ^ 31) (h : nI a = nI b) : a = b := by
  have h1 := congrArg Int32.toInt h
  rw [nI_toInt ha, nI_toInt hb] at h1
  omega
theorem t1F_a {x : Int32} {k : Nat} (hk : k < 2 ^ 31) (h : nI k = 0) : nI 6 = nI (t1F x k) := by
  unfold t1F
  rw [if_pos (nI_injN (b := 0) hk (by omega) h)]
theorem t1F_b {x : Int32} {k : Nat} (h : belowF x (nI 3) = 0) : nI 6 = nI (t1F x k) := by
  unfold t1F
  rw [if_pos h]
  split <;> rfl
theorem t1F_c {x : Int32} {k : Nat} (h0 : 0 < k) (h1 : k < 2 ^ 31) (h : ¬ nI k = 0) (h2 : ¬ belowF x (nI 3) = 0) : belowF (x >>> (nI 2 &&& 31)) (nI k) = nI (t1F x k) := by
  unfold t1F
  rw [if_neg (by omega), if_neg h2]
  obtain ⟨j, hj, e⟩ := belowF_spec (x >>> (nI 2 &&& 31)) h0 h1
  rw [e, nI_clamp (by omega)]
theorem t1F_b7 {x : Int32} {k n : Nat} (hk : k < 6) (hn : k < n) : t1F x k < n ∨ t1F x k = 6 := (t1F_lt x hk).imp (fun h => by omega) id
theorem t1F_ne {x : Int32} {k : Nat} (hk : k < 6) : ¬ k = t1F x k := by
  have := t1F_lt x hk
  omega
theorem q_0 {q : Int32} (h : 1 ≤ q.toInt ∧ q.toInt ≤ 3) : ¬ q < 0 := fun z => by
  rw [Int32.lt_iff_toInt_lt] at z
  have : (0 : Int32).toInt = 0 := rfl
  omega
theorem q_3 {q : Int32} (h : 1 ≤ q.toInt ∧ q.toInt ≤ 3) : q ≤ 3 := by
  rw [Int32.le_iff_toInt_le]
  have : (3 : Int32).toInt = 3 := rfl
  omega
theorem q1F_0 (x : Int32) : ¬ q1F x < 0 := q_0 (q1F_in x)
theorem q1F_3 (x : Int32) : q1F x ≤ 3 := q_3 (q1F_in x)
theorem q2F_0 (x : Int32) : ¬ q2F x < 0 := q_0 (q2F_in x)
theorem q2F_3 (x : Int32) : q2F x ≤ 3 := q_3 (q2F_in x)
theorem o2F_eq {x : Int32} {n : Nat} (hn : n ≤ 6) : belowF (x >>> (nI 3 &&& 31)) (nI (n + 1)) = nI (o2F n x) := by
  unfold o2F
  obtain ⟨j, hj, e⟩ := belowF_spec (x >>> (nI 3 &&& 31)) (show 0 < n + 1 by omega) (by omega)
  rw [e, nI_clamp (by omega)]
theorem t2F_a {x : Int32} {n : Nat} (h : ¬ nI (o2F n x) = nI n) : nI (o2F n x) = nI (t2F n x) := by
  unfold t2F
  rw [if_neg (fun z => h (congrArg nI z))]
theorem t2F_b {x : Int32} {n : Nat} (hn : n ≤ 6) (h : nI (o2F n x) = nI n) : nI 6 = nI (t2F n x) := by
  have := o2F_lt n x hn
  unfold t2F
  rw [if_pos (nI_injN (by omega) (by omega) h)]
theorem kt_join {p : Program} {l : Launch} {e : Env} {R : Room} {s : State} {m : MethodId} {args : Array Value} {below : List Frame} {meth : Method} {c : Code} {H : Heap} {locs : List Loc} {cells slots : Nat} {Q : State → Prop} {D : va_G} {A : Nat → Prop} {H0 : Heap} {ls : Array Slot} {pc : Nat} {st : List Value} (w : va_W) (lv : List (Nat × Value)) (nL pc2 : Nat) (st2 : List Value)
    (J : ∀ (H : Heap) (locs : List Loc) (ls : Array Slot), va_P D vwCl w H → va_D A w → va_S A H0 H locs → lv_has ls nL lv → W p l e R s m args below meth c H locs cells slots Q (F0 m pc2 ls st2))
    (k : (∀ (H : Heap) (locs : List Loc) (ls : Array Slot), va_P D vwCl w H → va_D A w → va_S A H0 H locs → lv_has ls nL lv → W p l e R s m args below meth c H locs cells slots Q (F0 m pc2 ls st2)) → W p l e R s m args below meth c H locs cells slots Q (F0 m pc ls st)) : W p l e R s m args below meth c H locs cells slots Q (F0 m pc ls st) := k J

set_option maxHeartbeats 4000000 in
set_option maxRecDepth 100000 in
/-- below -/
theorem c_L_below (l : Launch) (dC : Nat → ClassId) (dI : Nat → Nat → Nat) (cI cII cJ cJJ : ClassId) (v : Int32) (n : Nat) (sz : Nat) (h0 : 0 < n) (hn : n < 2 ^ 31) : Met l yL_below wsL_below ({ frames := 0, cells := 0, slots := 0, locals := 0 }) (va_Pc [.int v, .int (nI n)] (PRE (dC, dI) (tyL cI cII cJ cJJ) (([] : va_W)) sz)) (va_Qi (fun (r' : Int32) (_ : Unit) => r' = belowF v (nI n)) (fun (_ : Unit) tS => ATW (dC, dI) (tyL cI cII cJ cJJ) (va_A (([] : va_W)) sz) (([] : va_W)) tS) (va_A (([] : va_W)) sz)) 0 0 (va_A (([] : va_W)) sz) := by
  refine Met.ofW (cc := cL_below) (maxL := 2) (ret := (some .int)) (by decide) rfl ?_
  intro p e s m args below meth c s₁ B hml hv
  obtain ⟨rfl, hsz, hP, hK, hD0⟩ := hv
  have hx := B.exec
  have hb := B.bytes
  have hr := B.returns
  have hlocks := B.notSynchronized
  have hts := atoms_spec (ws := wsL_below) B.pre
  have hown : s.vm.findClass RL = some m.cls := findClass_of_methodNamed B.named
  subst hsz
  have hD := hD0.self (sz := s.heap.size)
  generalize hAe : va_A (([] : va_W)) s.heap.size = A at hD ⊢
  have hA : ∀ q : Nat, s.heap.size ≤ q → A q := fun q h => by rw [← hAe]; exact Or.inr h
  have hS : va_S A s.heap s.heap [] := va_S.rf
  have hl := lv_entry ([.int v, .int (nI n)]) (n := 2) (Nat.le_of_ble_eq_true rfl)
  rw [lg_entry_eq]
  generalize (lg_sl ([.int v, .int (nI n)]) ++ List.replicate (2 - (lg_sl ([.int v, .int (nI n)])).length) Slot.unset).toArray = ls at hl ⊢
  have hl : lv_has ls 2 [(0, .int v), (1, .int (nI n))] := hl
  have hc_7 := hts (.constant RL 7 (2147483647)) (by decide +kernel)
  refine lv_iload_n hx hb dL_below_0 rfl (lv_at hl 0 rfl) ?_
  refine lv_ldc hx hb hown hc_7 dL_below_1 ?_
  refine lv_iand hx hb dL_below_3 ?_
  refine lv_iload_n hx hb dL_below_4 rfl (lv_at hl 1 rfl) ?_
  refine lv_irem hx hb dL_below_5 (nI_ne0 h0 hn) ?_
  exact kt_iret hx hb hr hS hP hK hD rfl hlocks dL_below_6

set_option maxHeartbeats 4000000 in
set_option maxRecDepth 100000 in
/-- cell -/
theorem c_L_cell (l : Launch) (dC : Nat → ClassId) (dI : Nat → Nat → Nat) (cI cII cJ cJJ : ClassId) (b L : Nat) (xs : Nat → Int32) (k : Nat) (sz : Nat) (hL : L < 2 ^ 31) (hk : k < 2 ^ 31) : Met l yL_cell wsL_cell ({ frames := 0, cells := 0, slots := 0, locals := 0 }) (va_Pc [.ref b, .int (nI k)] (PRES b L xs (dC, dI) (tyL cI cII cJ cJJ) (([] : va_W)) sz)) (va_Qi (fun (r' : Int32) (_ : Unit) => r' = cellF xs L k) (fun (_ : Unit) tS => ATW (dC, dI) (tyL cI cII cJ cJJ) (va_A (([] : va_W)) sz) (([] : va_W)) tS) (va_A (([] : va_W)) sz)) 0 0 (va_A (([] : va_W)) sz) := by
  refine Met.ofW (cc := cL_cell) (maxL := 2) (ret := (some .int)) (by decide) rfl ?_
  intro p e s m args below meth c s₁ B hml hv
  obtain ⟨rfl, ⟨⟨hsz, hP, hK, hD0⟩, haI, haL⟩, hE⟩ := hv
  have hx := B.exec
  have hb := B.bytes
  have hr := B.returns
  have hlocks := B.notSynchronized
  have hts := atoms_spec (ws := wsL_cell) B.pre
  have hown : s.vm.findClass RL = some m.cls := findClass_of_methodNamed B.named
  subst hsz
  have hD := hD0.self (sz := s.heap.size)
  generalize hAe : va_A (([] : va_W)) s.heap.size = A at hD hE ⊢
  have hA : ∀ q : Nat, s.heap.size ≤ q → A q := fun q h => by rw [← hAe]; exact Or.inr h
  have hS : va_S A s.heap s.heap [] := va_S.rf
  obtain ⟨hX, hbl, hbA⟩ := id hE
  have hl := lv_entry ([.ref b, .int (nI k)]) (n := 2) (Nat.le_of_ble_eq_true rfl)
  rw [lg_entry_eq]
  generalize (lg_sl ([.ref b, .int (nI k)]) ++ List.replicate (2 - (lg_sl ([.ref b, .int (nI k)])).length) Slot.unset).toArray = ls at hl ⊢
  have hl : lv_has ls 2 [(0, .ref b), (1, .int (nI k))] := hl
  have hc_8 := hts (.constant RL 8 (790386105)) (by decide +kernel)
  refine lv_iload_n hx hb dL_cell_0 rfl (lv_at hl 1 rfl) ?_
  refine lv_aload_n hx hb dL_cell_1 rfl (lv_at hl 0 rfl) ?_
  refine va_slen hx hb hX hbl hbA hS dL_cell_2 ?_
  refine kt_ige (i := k) (n := L) (tgt := 12) hx hb (by omega) (by omega) dL_cell_3 (by decide) (fun hc => ?_) (fun hc => ?_)
  · skip
    refine lv_ldc hx hb hown hc_8 dL_cell_12 ?_
    refine lv_iload_n hx hb dL_cell_14 rfl (lv_at hl 1 rfl) ?_
    refine lv_iconst (v := nI 3) hx hb dL_cell_15 (by decide) ?_
    refine lv_iadd hx hb dL_cell_16 ?_
    refine lv_imul hx hb dL_cell_17 ?_
    exact kt_iretS (wN := fun (_ : Unit) => ([] : va_W)) () hx hb hr hS hP hK hD (by unfold cellF; rw [if_neg (Nat.not_lt.mpr hc)]) hlocks dL_cell_18
  · skip
    refine lv_aload_n hx hb dL_cell_6 rfl (lv_at hl 0 rfl) ?_
    refine lv_iload_n hx hb dL_cell_7 rfl (lv_at hl 1 rfl) ?_
    refine va_sld hx hb hX hbl hbA hS (vp_in_nI (by omega) (by omega)) dL_cell_8 ?_
    refine lv_goto (tgt := 18) hx hb dL_cell_9 (by decide) ?_
    exact kt_iretS (wN := fun (_ : Unit) => ([] : va_W)) () hx hb hr hS hP hK hD (by unfold cellF; rw [if_pos hc, nI_clamp (by omega)]) hlocks dL_cell_18

set_option maxHeartbeats 4000000 in
set_option maxRecDepth 100000 in
/-- lay -/
theorem c_L_lay (l : Launch) (dC : Nat → ClassId) (dI : Nat → Nat → Nat) (cI cII cJ cJJ : ClassId) (tp : Nat) (f : Nat → Nat) (er : Nat → Nat) (tr : Nat → Nat) (kr : Nat → Nat) (n : Nat) (E : V2) (DG : V1) (G : V1) (U : V1) (sw : Int32) (tps : Int32) (C : V1) (P : V1) (ma : Nat) (mr : Nat → Nat) (M : V2) (a b : Nat) (q : Int32) (sz : Nat) (hn : n ≤ 6) (ha : a < n ∨ a = 6) (hb7 : b < n ∨ b = 6) (hne : ¬ a = b) (hq0 : ¬ q < 0) (hq3 : q ≤ 3) : Met l yL_lay wsL_lay ({ frames := 4, cells := 0, slots := 0, locals := 87 }) (va_Pc [.ref tp, .ref ma, .int (nI a), .int (nI b), .int q] (PRE (dC, dI) (tyL cI cII cJ cJJ) (wV tp f er tr kr cI cII cJ cJJ n E DG G U sw tps C P ++ wMa cI cII ma mr M) sz)) (va_Qv (fun (_ : Unit) => True) (fun _ tS => ATW (dC, dI) (tyL cI cII cJ cJJ) (va_A (wV tp f er tr kr cI cII cJ cJJ n E DG G U sw tps C P ++ wMa cI cII ma mr M) sz) (wV tp f er tr kr cI cII cJ cJJ n (layE E a b q) (layD E DG a b q) G U sw tps C (resetP n b (resetP n a P)) ++ wMa cI cII ma mr (layM M a b q)) tS) (va_A (wV tp f er tr kr cI cII cJ cJJ n E DG G U sw tps C P ++ wMa cI cII ma mr M) sz)) 0 0 (va_A (wV tp f er tr kr cI cII cJ cJJ n E DG G U sw tps C P ++ wMa cI cII ma mr M) sz) := by
  refine Met.ofW (cc := cL_lay) (maxL := 5) (ret := none) (by decide) rfl ?_
  intro p e s m args below meth c s₁ B hml hv
  obtain ⟨rfl, hsz, hP, hK, hD0⟩ := hv
  have hx := B.exec
  have hb := B.bytes
  have hr := B.returns
  have hlocks := B.notSynchronized
  have hts := atoms_spec (ws := wsL_lay) B.pre
  have hown : s.vm.findClass RL = some m.cls := findClass_of_methodNamed B.named
  subst hsz
  have hD := hD0.self (sz := s.heap.size)
  generalize hAe : va_A (wV tp f er tr kr cI cII cJ cJJ n E DG G U sw tps C P ++ wMa cI cII ma mr M) s.heap.size = A at hD ⊢
  have hA : ∀ q : Nat, s.heap.size ≤ q → A q := fun q h => by rw [← hAe]; exact Or.inr h
  have hS : va_S A s.heap s.heap [] := va_S.rf
  have hl := lv_entry ([.ref tp, .ref ma, .int (nI a), .int (nI b), .int q]) (n := 5) (Nat.le_of_ble_eq_true rfl)
  rw [lg_entry_eq]
  generalize (lg_sl ([.ref tp, .ref ma, .int (nI a), .int (nI b), .int q]) ++ List.replicate (5 - (lg_sl ([.ref tp, .ref ma, .int (nI a), .int (nI b), .int q])).length) Slot.unset).toArray = ls at hl ⊢
  have hl : lv_has ls 5 [(0, .ref tp), (1, .ref ma), (2, .int (nI a)), (3, .int (nI b)), (4, .int q)] := hl
  refine lv_aload_n hx hb dL_lay_0 rfl (lv_at hl 0 rfl) ?_
  refine lv_iload_n hx hb dL_lay_1 rfl (lv_at hl 2 rfl) ?_
  refine lv_iload_n hx hb dL_lay_2 rfl (lv_at hl 3 rfl) ?_
  refine lv_iload hx hb dL_lay_3 (lv_at hl 4 rfl) ?_
  refine kt_calli (w' := wV tp f er tr kr cI cII cJ cJJ n (layE E a b q) (layD E DG a b q) G U sw tps C (resetP n b (resetP n a P)) ++ wMa cI cII ma mr M) (rest := []) (As := [.int (nI a), .int (nI b), .int q]) ⟨hx, hb, hml, hown, hts⟩ (c_X4_edge l dC dI cI cII cJ cJJ tp (f 0) (f 1) (f 2) G U (f 3) (f 4) (f 5) (fun _ => 0) (fun _ => 0) (f 6) (f 7) (f 8) (fun _ => 0) (fun _ => 0) (f 9) (f 10) (f 11) (fun _ => 0) (fun _ => 0) (f 12) kr (fun _ _ => 0) 0 sw tps (f 13) (f 14) P 0 (f 15) (f 16) C (f 17) (f 18) (f 19) (fun _ => 0) (fun _ => 0) (f 20) (f 21) (f 22) (fun _ => 0) (fun _ => 0) (f 23) (f 24) (f 25) (f 26) er n E DG tr (fun _ _ => 0) a b q _ (hn) (ha) (hb7) (hne) (hq0) (hq3)) (cwV 3 hts gL_lay_X4_edge rfl rfl rfl (by decide +kernel) ⟨Nat.le_of_ble_eq_true rfl, Nat.le_of_ble_eq_true rfl⟩) hK hP hD hS hA (List.range' 0 45) (by exact sw_VM) rfl 0 kX4 rfl rfl rfl rfl rfl hl.1 (Nat.le_of_ble_eq_true rfl) dL_lay_5 ⟨Nat.le_of_ble_eq_true rfl, Nat.le_of_ble_eq_true rfl⟩ (fun H locs hP hD hS => ?_)
  have hP : va_P (dC, dI) vwCl (wV tp f er tr kr cI cII cJ cJJ n (layE E a b q) (layD E DG a b q) G U sw tps C (resetP n b (resetP n a P)) ++ wMa cI cII ma mr M) H := hP
  have hD : va_D A (wV tp f er tr kr cI cII cJ cJJ n (layE E a b q) (layD E DG a b q) G U sw tps C (resetP n b (resetP n a P)) ++ wMa cI cII ma mr M) := hD
  refine lv_pop hx hb dL_lay_8 rfl ?_
  refine lv_aload_n hx hb dL_lay_9 rfl (lv_at hl 1 rfl) ?_
  refine lv_iload_n hx hb dL_lay_10 rfl (lv_at hl 2 rfl) ?_
  refine kt_aald hx hb hK hP 45 1 rfl rfl (by omega) (by decide) dL_lay_11 ?_
  refine lv_iload_n hx hb dL_lay_12 rfl (lv_at hl 3 rfl) ?_
  refine lv_iload hx hb dL_lay_13 (lv_at hl 4 rfl) ?_
  refine kt_iast hx hb hK hP hD hS (45 + (1 + a)) 0 (row_VM rfl (by omega)) rfl (by omega) (by decide) dL_lay_15 (fun H locs hP hD hS => ?_)
  rw [set_VM (V := wV tp f er tr kr cI cII cJ cJJ n (layE E a b q) (layD E DG a b q) G U sw tps C (resetP n b (resetP n a P))) rfl (show a < 7 by omega)] at hP hD
  have hP : va_P (dC, dI) vwCl (wV tp f er tr kr cI cII cJ cJJ n (layE E a b q) (layD E DG a b q) G U sw tps C (resetP n b (resetP n a P)) ++ wMa cI cII ma mr (updR M a (upd (M a) b q))) H := hP
  have hD : va_D A (wV tp f er tr kr cI cII cJ cJJ n (layE E a b q) (layD E DG a b q) G U sw tps C (resetP n b (resetP n a P)) ++ wMa cI cII ma mr (updR M a (upd (M a) b q))) := hD
  refine lv_aload_n hx hb dL_lay_16 rfl (lv_at hl 1 rfl) ?_
  refine lv_iload_n hx hb dL_lay_17 rfl (lv_at hl 3 rfl) ?_
  refine kt_aald hx hb hK hP 45 1 rfl rfl (by omega) (by decide) dL_lay_18 ?_
  refine lv_iload_n hx hb dL_lay_19 rfl (lv_at hl 2 rfl) ?_
  refine lv_iload hx hb dL_lay_20 (lv_at hl 4 rfl) ?_
  refine kt_iast hx hb hK hP hD hS (45 + (1 + b)) 0 (row_VM rfl (by omega)) rfl (by omega) (by decide) dL_lay_22 (fun H locs hP hD hS => ?_)
  rw [set_VM (V := wV tp f er tr kr cI cII cJ cJJ n (layE E a b q) (layD E DG a b q) G U sw tps C (resetP n b (resetP n a P))) rfl (show b < 7 by omega)] at hP hD
  have hP : va_P (dC, dI) vwCl (wV tp f er tr kr cI cII cJ cJJ n (layE E a b q) (layD E DG a b q) G U sw tps C (resetP n b (resetP n a P)) ++ wMa cI cII ma mr (updR (updR M a (upd (M a) b q)) b (upd ((updR M a (upd (M a) b q)) b) a q))) H := hP
  have hD : va_D A (wV tp f er tr kr cI cII cJ cJJ n (layE E a b q) (layD E DG a b q) G U sw tps C (resetP n b (resetP n a P)) ++ wMa cI cII ma mr (updR (updR M a (upd (M a) b q)) b (upd ((updR M a (upd (M a) b q)) b) a q))) := hD
  exact kt_vret (W' := wV tp f er tr kr cI cII cJ cJJ n (layE E a b q) (layD E DG a b q) G U sw tps C (resetP n b (resetP n a P)) ++ wMa cI cII ma mr (layM M a b q)) hx hb hr hS hP hK hD hlocks dL_lay_23

set_option maxHeartbeats 4000000 in
set_option maxRecDepth 100000 in
/-- moor -/
theorem c_L_moor (l : Launch) (dC : Nat → ClassId) (dI : Nat → Nat → Nat) (cI cII cJ cJJ : ClassId) (tp : Nat) (f : Nat → Nat) (er : Nat → Nat) (tr : Nat → Nat) (kr : Nat → Nat) (b L : Nat) (xs : Nat → Int32) (n : Nat) (sz : Nat) (hn0 : 0 < n) (hn : n ≤ 5) (hL : L < 2 ^ 31) : Met l yL_moor wsL_moor ({ frames := 5, cells := 8, slots := 56, locals := 111 }) (va_Pc [.ref tp, .ref b, .int (nI 3), .int (nI n)] (PRES b L xs (dC, dI) (tyL cI cII cJ cJJ) (wV tp f er tr kr cI cII cJ cJJ 0 (fun _ _ => 0) (fun _ => 0) (fun _ => 0) (fun _ => 0) 0 0 (fun _ => 0) (fun _ => 0)) sz)) (va_Qr (fun (_ : Unit) => True) (fun (_ : Unit) (_ : Nat) tS => ATW (dC, dI) (tyL cI cII cJ cJJ) (va_A (wV tp f er tr kr cI cII cJ cJJ 0 (fun _ _ => 0) (fun _ => 0) (fun _ => 0) (fun _ => 0) 0 0 (fun _ => 0) (fun _ => 0)) sz) (wV tp f er tr kr cI cII cJ cJJ n ((moorX n xs L n).1) ((moorX n xs L n).2.1) (fun _ => 0) (fun _ => 0) 0 0 (fun _ => 0) ((moorX n xs L n).2.2)) tS) (va_A (wV tp f er tr kr cI cII cJ cJJ 0 (fun _ _ => 0) (fun _ => 0) (fun _ => 0) (fun _ => 0) 0 0 (fun _ => 0) (fun _ => 0)) sz)) 8 56 (va_A (wV tp f er tr kr cI cII cJ cJJ 0 (fun _ _ => 0) (fun _ => 0) (fun _ => 0) (fun _ => 0) 0 0 (fun _ => 0) (fun _ => 0)) sz) := by
  refine Met.ofW (cc := cL_moor) (maxL := 8) (ret := (some (.array (.array .int)))) (by decide) rfl ?_
  intro p e s m args below meth c s₁ B hml hv
  obtain ⟨rfl, ⟨⟨hsz, hP, hK, hD0⟩, haI, haL⟩, hE⟩ := hv
  have hx := B.exec
  have hb := B.bytes
  have hr := B.returns
  have hlocks := B.notSynchronized
  have hts := atoms_spec (ws := wsL_moor) B.pre
  have hown : s.vm.findClass RL = some m.cls := findClass_of_methodNamed B.named
  subst hsz
  have hD := hD0.self (sz := s.heap.size)
  generalize hAe : va_A (wV tp f er tr kr cI cII cJ cJJ 0 (fun _ _ => 0) (fun _ => 0) (fun _ => 0) (fun _ => 0) 0 0 (fun _ => 0) (fun _ => 0)) s.heap.size = A at hD hE ⊢
  have hA : ∀ q : Nat, s.heap.size ≤ q → A q := fun q h => by rw [← hAe]; exact Or.inr h
  have hS : va_S A s.heap s.heap [] := va_S.rf
  obtain ⟨hX, hbl, hbA⟩ := id hE
  have hl := lv_entry ([.ref tp, .ref b, .int (nI 3), .int (nI n)]) (n := 8) (Nat.le_of_ble_eq_true rfl)
  rw [lg_entry_eq]
  generalize (lg_sl ([.ref tp, .ref b, .int (nI 3), .int (nI n)]) ++ List.replicate (8 - (lg_sl ([.ref tp, .ref b, .int (nI 3), .int (nI n)])).length) Slot.unset).toArray = ls at hl ⊢
  have hl : lv_has ls 8 [(0, .ref tp), (1, .ref b), (2, .int (nI 3)), (3, .int (nI n))] := hl
  have hq_l := hts (.methodLink RL 31 Lib.Math.max.name) (by decide +kernel)
  have hq_s := hts (.static Lib.Math.max.name) (by decide +kernel)
  have hq_i := hts (.initialized "java/lang/Math") (by decide +kernel)
  have hq_c := hts (.code Lib.Math.max.name Lib.Math.max.code 2 (some .int)) (by decide +kernel)
  refine lv_bipush (v := nI 7) hx hb dL_moor_0 (by decide) ?_
  refine lv_bipush (v := nI 7) hx hb dL_moor_2 (by decide) ?_
  refine kt_mna (ty := .int) hx hb hown (hts (.classLink RL 9 "[[I") (by decide +kernel)) haI (hts (.arrayClass .int) (by decide +kernel)) hK hP hD hS hA 0 1 rfl (fun _ h => by cases h) rfl (N := 7) (M := 7) (7, .inl (fun _ => 0)) (by omega) (by omega) (by decide) (by decide) (by decide) (fun _ => arrV_new _ _ _) (Nat.le_of_ble_eq_true rfl) (Nat.le_of_ble_eq_true rfl) dL_moor_4 (fun ma mr H hP hD hS => ?_)
  have hP : va_P (dC, dI) vwCl (wV tp f er tr kr cI cII cJ cJJ 0 (fun _ _ => 0) (fun _ => 0) (fun _ => 0) (fun _ => 0) 0 0 (fun _ => 0) (fun _ => 0) ++ wMa cI cII ma mr (fun _ _ => 0)) H := hP
  have hD : va_D A (wV tp f er tr kr cI cII cJ cJJ 0 (fun _ _ => 0) (fun _ => 0) (fun _ => 0) (fun _ => 0) 0 0 (fun _ => 0) (fun _ => 0) ++ wMa cI cII ma mr (fun _ _ => 0)) := hD
  refine W.widen (k := 8) (n := 56) (by omega) (by omega) ?_
  refine lv_astore (lv' := [(4, .ref ma), (0, .ref tp), (1, .ref b), (2, .int (nI 3)), (3, .int (nI n))]) hx hb dL_moor_8 hl (by decide) rfl (fun ls hl => ?_)
  refine lv_iconst (v := nI 0) hx hb dL_moor_10 (by decide) ?_
  refine lv_istore (lv' := [(5, .int (nI 0)), (4, .ref ma), (0, .ref tp), (1, .ref b), (2, .int (nI 3)), (3, .int (nI n))]) hx hb dL_moor_11 hl (by decide) rfl (fun ls hl => ?_)
  refine kt_for (n := n) (WD := fun (i : Nat) => wV tp f er tr kr cI cII cJ cJJ i (fun _ _ => 0) (fun _ => 0) (fun _ => 0) (fun _ => 0) 0 0 (fun _ => 0) (fun _ => 0) ++ wMa cI cII ma mr (fun _ _ => 0)) (LV := fun (i : Nat) => [(5, .int (nI i)), (4, .ref ma), (0, .ref tp), (1, .ref b), (2, .int (nI 3)), (3, .int (nI n))]) (nL := 8) (hd := 13) ?_ hP hD hS (lv_sub hl [0, 1, 2, 3, 4, 5] rfl)
  intro i hi ih H locs ls hP hD hS hl
  have hP : va_P (dC, dI) vwCl (wV tp f er tr kr cI cII cJ cJJ i (fun _ _ => 0) (fun _ => 0) (fun _ => 0) (fun _ => 0) 0 0 (fun _ => 0) (fun _ => 0) ++ wMa cI cII ma mr (fun _ _ => 0)) H := hP
  have hD : va_D A (wV tp f er tr kr cI cII cJ cJJ i (fun _ _ => 0) (fun _ => 0) (fun _ => 0) (fun _ => 0) 0 0 (fun _ => 0) (fun _ => 0) ++ wMa cI cII ma mr (fun _ _ => 0)) := hD
  have hl : lv_has ls 8 [(5, .int (nI i)), (4, .ref ma), (0, .ref tp), (1, .ref b), (2, .int (nI 3)), (3, .int (nI n))] := hl
  refine lv_iload hx hb dL_moor_13 (lv_at hl 0 rfl) ?_
  refine lv_iload_n hx hb dL_moor_15 rfl (lv_at hl 5 rfl) ?_
  refine kt_ige (i := i) (n := n) (tgt := 30) hx hb (by omega) (by omega) dL_moor_16 (by decide) (fun ci => ?_) (fun ci => ?_)
  · skip
    have ei : n = i := by omega
    subst ei
    refine lv_iconst (v := nI 0) hx hb dL_moor_30 (by decide) ?_
    refine lv_istore (lv' := [(5, .int (nI 0)), (4, .ref ma), (0, .ref tp), (1, .ref b), (2, .int (nI 3)), (3, .int (nI n))]) hx hb dL_moor_31 hl (by decide) rfl (fun ls hl => ?_)
    refine kt_loop (σ := Nat × V2) (μ := fun x => n - x.1) (I := fun x => x.1 ≤ n) (WD := fun x => wV tp f er tr kr cI cII cJ cJJ n ((moorX n xs L x.1).1) ((moorX n xs L x.1).2.1) (fun _ => 0) (fun _ => 0) 0 0 (fun _ => 0) ((moorX n xs L x.1).2.2) ++ wMa cI cII ma mr x.2) (LV := fun x => [(5, .int (nI x.1)), (4, .ref ma), (0, .ref tp), (1, .ref b), (2, .int (nI 3)), (3, .int (nI n))]) (nL := 8) (hd := 33) ?_ (0, fun _ _ => 0) (Nat.zero_le n) hP hD hS (lv_sub hl [0, 1, 2, 3, 4, 5] rfl)
    intro x hI ih2 H locs ls hP hD hS hl
    obtain ⟨k, M⟩ := x
    have hk : k ≤ n := hI
    have hP : va_P (dC, dI) vwCl (wV tp f er tr kr cI cII cJ cJJ n ((moorX n xs L k).1) ((moorX n xs L k).2.1) (fun _ => 0) (fun _ => 0) 0 0 (fun _ => 0) ((moorX n xs L k).2.2) ++ wMa cI cII ma mr M) H := hP
    have hD : va_D A (wV tp f er tr kr cI cII cJ cJJ n ((moorX n xs L k).1) ((moorX n xs L k).2.1) (fun _ => 0) (fun _ => 0) 0 0 (fun _ => 0) ((moorX n xs L k).2.2) ++ wMa cI cII ma mr M) := hD
    have hl : lv_has ls 8 [(5, .int (nI k)), (4, .ref ma), (0, .ref tp), (1, .ref b), (2, .int (nI 3)), (3, .int (nI n))] := hl
    refine lv_iload hx hb dL_moor_33 (lv_at hl 0 rfl) ?_
    refine lv_iload_n hx hb dL_moor_35 rfl (lv_at hl 5 rfl) ?_
    refine kt_ige (i := k) (n := n) (tgt := 170) hx hb (by omega) (by omega) dL_moor_36 (by decide) (fun ck => ?_) (fun ck => ?_)
    · skip
      have ek : k = n := by omega
      rw [ek] at hP hD
      refine lv_aload hx hb dL_moor_170 (lv_at hl 1 rfl) ?_
      have hP := kt_sub (wC := wV tp f er tr kr cI cII cJ cJJ n ((moorX n xs L n).1) ((moorX n xs L n).2.1) (fun _ => 0) (fun _ => 0) 0 0 (fun _ => 0) ((moorX n xs L n).2.2)) hP (List.range' 0 45) rfl
      have hD := hD.sub (ws' := wV tp f er tr kr cI cII cJ cJJ n ((moorX n xs L n).1) ((moorX n xs L n).2.1) (fun _ => 0) (fun _ => 0) 0 0 (fun _ => 0) ((moorX n xs L n).2.2)) (List.range' 0 45) rfl rfl
      exact kt_aretS (wM := fun (_ : Unit) (_ : Nat) => wV tp f er tr kr cI cII cJ cJJ n ((moorX n xs L n).1) ((moorX n xs L n).2.1) (fun _ => 0) (fun _ => 0) 0 0 (fun _ => 0) ((moorX n xs L n).2.2)) () hx hb hr (Or.inr ⟨_, rfl⟩) hS hP hK hD hlocks dL_moor_172
    · skip
      refine lv_aload_n hx hb dL_moor_39 rfl (lv_at hl 3 rfl) ?_
      refine lv_iload_n hx hb dL_moor_40 rfl (lv_at hl 4 rfl) ?_
      refine lv_iload hx hb dL_moor_41 (lv_at hl 0 rfl) ?_
      refine kt_iadd hx hb dL_moor_43 ?_
      refine kt_newI (wC := ([] : va_W)) (wR9 := wV tp f er tr kr cI cII cJ cJJ n ((moorX n xs L k).1) ((moorX n xs L k).2.1) (fun _ => 0) (fun _ => 0) 0 0 (fun _ => 0) ((moorX n xs L k).2.2) ++ wMa cI cII ma mr M) (wN := fun (_ : Unit) => ([] : va_W)) (tys := (tyL cI cII cJ cJJ)) (va_runS (As := [.ref b, .int (nI (3 + k))]) (rest := []) ⟨hx, hb, hml, hown, hts⟩ (c_L_cell l dC dI cI cII cJ cJJ b L xs (3 + k) _ (hL) (by omega)) (va_cwS 2 hts gL_moor_L_cell rfl rfl rfl (by decide +kernel) ⟨Nat.le_of_ble_eq_true rfl, Nat.le_of_ble_eq_true rfl⟩) (kt_preSS hK hP hD hS hE hA haI haL [] rfl rfl) rfl rfl hl.1 rfl (lv_room (Nat.le_of_ble_eq_true rfl)) dL_moor_44 ⟨Nat.le_of_ble_eq_true rfl, Nat.le_of_ble_eq_true rfl⟩) hP hD hS hA [] (List.range' 0 53) rfl rfl rfl (by decide) (fun _ H locs hP hD hS => ?_)
      rw [List.append_nil] at hP hD
      have hP : va_P (dC, dI) vwCl (wV tp f er tr kr cI cII cJ cJJ n ((moorX n xs L k).1) ((moorX n xs L k).2.1) (fun _ => 0) (fun _ => 0) 0 0 (fun _ => 0) ((moorX n xs L k).2.2) ++ wMa cI cII ma mr M) H := hP
      have hD : va_D A (wV tp f er tr kr cI cII cJ cJJ n ((moorX n xs L k).1) ((moorX n xs L k).2.1) (fun _ => 0) (fun _ => 0) 0 0 (fun _ => 0) ((moorX n xs L k).2.2) ++ wMa cI cII ma mr M) := hD
      refine W.widen (k := 8) (n := 56) (by omega) (by omega) ?_
      refine lv_iconst (v := nI 5) hx hb dL_moor_47 (by decide) ?_
      refine lv_iload hx hb dL_moor_48 (lv_at hl 0 rfl) ?_
      refine lv_imul hx hb dL_moor_50 ?_
      refine lv_iadd hx hb dL_moor_51 ?_
      refine lv_topi (fun z1 ez1 => ?_)
      have ez1 : z1 = xF xs L k := ez1.trans (rfl)
      subst ez1
      refine lv_istore (lv' := [(6, .int (xF xs L k)), (5, .int (nI k)), (4, .ref ma), (0, .ref tp), (1, .ref b), (2, .int (nI 3)), (3, .int (nI n))]) hx hb dL_moor_52 hl (by decide) rfl (fun ls hl => ?_)
      refine lv_aload_n hx hb dL_moor_54 rfl (lv_at hl 3 rfl) ?_
      refine lv_aload hx hb dL_moor_55 (lv_at hl 2 rfl) ?_
      refine lv_iload hx hb dL_moor_57 (lv_at hl 1 rfl) ?_
      refine lv_iload hx hb dL_moor_59 (lv_at hl 1 rfl) ?_
      refine kt_join (A := A) (H0 := s.heap) (D := (dC, dI)) (wV tp f er tr kr cI cII cJ cJJ n ((moorX n xs L k).1) ((moorX n xs L k).2.1) (fun _ => 0) (fun _ => 0) 0 0 (fun _ => 0) ((moorX n xs L k).2.2) ++ wMa cI cII ma mr M) [(6, .int (xF xs L k)), (5, .int (nI k)), (4, .ref ma), (0, .ref tp), (1, .ref b), (2, .int (nI 3)), (3, .int (nI n))] 8 87 [.int (nI (t1F (xF xs L k) k)), .int (nI k), .ref ma, .ref tp] (fun H locs ls hP hD hS hl => ?_) (fun J87 => ?_)
      · skip
        refine lv_iconst (v := nI 1) hx hb dL_moor_87 (by decide) ?_
        refine lv_iload hx hb dL_moor_88 (lv_at hl 0 rfl) ?_
        refine lv_iconst (v := nI 4) hx hb dL_moor_90 (by decide) ?_
        refine lv_ishr hx hb dL_moor_91 ?_
        refine lv_iconst (v := nI 3) hx hb dL_moor_92 (by decide) ?_
        refine kt_callSi (w' := wV tp f er tr kr cI cII cJ cJJ n ((moorX n xs L k).1) ((moorX n xs L k).2.1) (fun _ => 0) (fun _ => 0) 0 0 (fun _ => 0) ((moorX n xs L k).2.2) ++ wMa cI cII ma mr M) (rest := [.int (nI 1), .int (nI (t1F (xF xs L k) k)), .int (nI k), .ref ma, .ref tp]) (As := [.int ((xF xs L k) >>> ((nI 4) &&& 31)), .int (nI 3)]) ⟨hx, hb, hml, hown, hts⟩ (c_L_below l dC dI cI cII cJ cJJ ((xF xs L k) >>> ((nI 4) &&& 31)) 3 _ (by omega) (by omega)) (va_cwS 2 hts gL_moor_L_below rfl rfl rfl (by decide +kernel) ⟨Nat.le_of_ble_eq_true rfl, Nat.le_of_ble_eq_true rfl⟩) hK hP hD hS hA [] (kt_sw_nil _) rfl rfl rfl hl.1 (Nat.le_of_ble_eq_true rfl) dL_moor_93 ⟨Nat.le_of_ble_eq_true rfl, Nat.le_of_ble_eq_true rfl⟩ (fun H locs hP hD hS => ?_)
        refine lv_iadd hx hb dL_moor_96 ?_
        refine lv_topi (fun z2 ez2 => ?_)
        have ez2 : z2 = q1F (xF xs L k) := ez2.trans (rfl)
        subst ez2
        refine kt_callSv (w' := wV tp f er tr kr cI cII cJ cJJ n (layE ((moorX n xs L k).1) k (t1F (xF xs L k) k) (q1F (xF xs L k))) (layD ((moorX n xs L k).1) ((moorX n xs L k).2.1) k (t1F (xF xs L k) k) (q1F (xF xs L k))) (fun _ => 0) (fun _ => 0) 0 0 (fun _ => 0) (resetP n (t1F (xF xs L k) k) (resetP n k ((moorX n xs L k).2.2))) ++ wMa cI cII ma mr (layM M k (t1F (xF xs L k) k) (q1F (xF xs L k)))) (rest := []) (As := [.ref tp, .ref ma, .int (nI k), .int (nI (t1F (xF xs L k) k)), .int (q1F (xF xs L k))]) ⟨hx, hb, hml, hown, hts⟩ (c_L_lay l dC dI cI cII cJ cJJ tp f er tr kr n ((moorX n xs L k).1) ((moorX n xs L k).2.1) (fun _ => 0) (fun _ => 0) 0 0 (fun _ => 0) ((moorX n xs L k).2.2) ma mr M k (t1F (xF xs L k) k) (q1F (xF xs L k)) _ (by omega) (Or.inl (by omega)) (t1F_b7 (by omega) (by omega)) (t1F_ne (by omega)) (q1F_0 _) (q1F_3 _)) (va_cwS 5 hts gL_moor_L_lay rfl rfl rfl (by decide +kernel) ⟨Nat.le_of_ble_eq_true rfl, Nat.le_of_ble_eq_true rfl⟩) hK hP hD hS hA (List.range' 0 53) (kt_sw_all rfl (by decide +kernel) rfl) rfl rfl rfl hl.1 (Nat.le_of_ble_eq_true rfl) dL_moor_97 ⟨Nat.le_of_ble_eq_true rfl, Nat.le_of_ble_eq_true rfl⟩ (fun H locs hP hD hS => ?_)
        have hP : va_P (dC, dI) vwCl (wV tp f er tr kr cI cII cJ cJJ n (layE ((moorX n xs L k).1) k (t1F (xF xs L k) k) (q1F (xF xs L k))) (layD ((moorX n xs L k).1) ((moorX n xs L k).2.1) k (t1F (xF xs L k) k) (q1F (xF xs L k))) (fun _ => 0) (fun _ => 0) 0 0 (fun _ => 0) (resetP n (t1F (xF xs L k) k) (resetP n k ((moorX n xs L k).2.2))) ++ wMa cI cII ma mr (layM M k (t1F (xF xs L k) k) (q1F (xF xs L k)))) H := hP
        have hD : va_D A (wV tp f er tr kr cI cII cJ cJJ n (layE ((moorX n xs L k).1) k (t1F (xF xs L k) k) (q1F (xF xs L k))) (layD ((moorX n xs L k).1) ((moorX n xs L k).2.1) k (t1F (xF xs L k) k) (q1F (xF xs L k))) (fun _ => 0) (fun _ => 0) 0 0 (fun _ => 0) (resetP n (t1F (xF xs L k) k) (resetP n k ((moorX n xs L k).2.2))) ++ wMa cI cII ma mr (layM M k (t1F (xF xs L k) k) (q1F (xF xs L k)))) := hD
        refine lv_iload hx hb dL_moor_100 (lv_at hl 0 rfl) ?_
        refine lv_iconst (v := nI 3) hx hb dL_moor_102 (by decide) ?_
        refine lv_ishr hx hb dL_moor_103 ?_
        refine lv_iload_n hx hb dL_moor_104 rfl (lv_at hl 6 rfl) ?_
        refine lv_iconst (v := nI 1) hx hb dL_moor_105 (by decide) ?_
        refine kt_iadd hx hb dL_moor_106 ?_
        refine kt_callSi (w' := wV tp f er tr kr cI cII cJ cJJ n (layE ((moorX n xs L k).1) k (t1F (xF xs L k) k) (q1F (xF xs L k))) (layD ((moorX n xs L k).1) ((moorX n xs L k).2.1) k (t1F (xF xs L k) k) (q1F (xF xs L k))) (fun _ => 0) (fun _ => 0) 0 0 (fun _ => 0) (resetP n (t1F (xF xs L k) k) (resetP n k ((moorX n xs L k).2.2))) ++ wMa cI cII ma mr (layM M k (t1F (xF xs L k) k) (q1F (xF xs L k)))) (rest := []) (As := [.int ((xF xs L k) >>> ((nI 3) &&& 31)), .int (nI (n + 1))]) ⟨hx, hb, hml, hown, hts⟩ (c_L_below l dC dI cI cII cJ cJJ ((xF xs L k) >>> ((nI 3) &&& 31)) (n + 1) _ (by omega) (by omega)) (va_cwS 2 hts gL_moor_L_below rfl rfl rfl (by decide +kernel) ⟨Nat.le_of_ble_eq_true rfl, Nat.le_of_ble_eq_true rfl⟩) hK hP hD hS hA [] (kt_sw_nil _) rfl rfl rfl hl.1 (Nat.le_of_ble_eq_true rfl) dL_moor_107 ⟨Nat.le_of_ble_eq_true rfl, Nat.le_of_ble_eq_true rfl⟩ (fun H locs hP hD hS => ?_)
        refine lv_topi (fun z3 ez3 => ?_)
        have ez3 : z3 = nI (o2F n (xF xs L k)) := ez3.trans (o2F_eq (by omega))
        subst ez3
        refine lv_istore (lv' := [(7, .int (nI (o2F n (xF xs L k)))), (6, .int (xF xs L k)), (5, .int (nI k)), (4, .ref ma), (0, .ref tp), (1, .ref b), (2, .int (nI 3)), (3, .int (nI n))]) hx hb dL_moor_110 hl (by decide) rfl (fun ls hl => ?_)
        refine lv_iload hx hb dL_moor_112 (lv_at hl 0 rfl) ?_
        refine lv_iload hx hb dL_moor_114 (lv_at hl 2 rfl) ?_
        refine lv_icmp_eq (tgt := 164) hx hb dL_moor_116 (by decide) (fun c116 => ?_) (fun c116 => ?_)
        · have c116 : o2F n (xF xs L k) = k := nI_injN (by have := o2F_lt n (xF xs L k) (by omega); omega) (by omega) c116
          have eM : moorX n xs L (k + 1) = layX n k (t1F (xF xs L k) k) (q1F (xF xs L k)) (moorX n xs L k) := by
            show stepM n xs L k (moorX n xs L k) = _
            unfold stepM
            rw [if_pos c116]
          refine lv_iinc (v := nI (k + 1)) (lv' := [(5, .int (nI (k + 1))), (7, .int (nI (o2F n (xF xs L k)))), (6, .int (xF xs L k)), (4, .ref ma), (0, .ref tp), (1, .ref b), (2, .int (nI 3)), (3, .int (nI n))]) hx hb dL_moor_164 hl (k := 2) rfl (kt_inc k) (by decide) rfl (fun ls hl => ?_)
          refine lv_goto (tgt := 33) hx hb dL_moor_167 (by decide) ?_
          have hP : va_P (dC, dI) vwCl (wV tp f er tr kr cI cII cJ cJJ n ((moorX n xs L (k + 1)).1) ((moorX n xs L (k + 1)).2.1) (fun _ => 0) (fun _ => 0) 0 0 (fun _ => 0) ((moorX n xs L (k + 1)).2.2) ++ wMa cI cII ma mr (layM M k (t1F (xF xs L k) k) (q1F (xF xs L k)))) H := by rw [eM]; exact hP
          have hD : va_D A (wV tp f er tr kr cI cII cJ cJJ n ((moorX n xs L (k + 1)).1) ((moorX n xs L (k + 1)).2.1) (fun _ => 0) (fun _ => 0) 0 0 (fun _ => 0) ((moorX n xs L (k + 1)).2.2) ++ wMa cI cII ma mr (layM M k (t1F (xF xs L k) k) (q1F (xF xs L k)))) := by rw [eM]; exact hD
          exact ih2 (k + 1, layM M k (t1F (xF xs L k) k) (q1F (xF xs L k))) H locs ls (by show n - (k + 1) < n - k; omega) (by show k + 1 ≤ n; omega) hP hD hS (lv_sub hl [0, 3, 4, 5, 6, 7] rfl)
        · have c116 : ¬ o2F n (xF xs L k) = k := fun z => c116 (congrArg nI z)
          refine lv_iload hx hb dL_moor_119 (lv_at hl 1 rfl) ?_
          refine lv_bipush (v := nI 6) hx hb dL_moor_121 (by decide) ?_
          refine lv_ishr hx hb dL_moor_123 ?_
          refine lv_iconst (v := nI 2) hx hb dL_moor_124 (by decide) ?_
          refine kt_callSi (w' := wV tp f er tr kr cI cII cJ cJJ n (layE ((moorX n xs L k).1) k (t1F (xF xs L k) k) (q1F (xF xs L k))) (layD ((moorX n xs L k).1) ((moorX n xs L k).2.1) k (t1F (xF xs L k) k) (q1F (xF xs L k))) (fun _ => 0) (fun _ => 0) 0 0 (fun _ => 0) (resetP n (t1F (xF xs L k) k) (resetP n k ((moorX n xs L k).2.2))) ++ wMa cI cII ma mr (layM M k (t1F (xF xs L k) k) (q1F (xF xs L k)))) (rest := []) (As := [.int ((xF xs L k) >>> ((nI 6) &&& 31)), .int (nI 2)]) ⟨hx, hb, hml, hown, hts⟩ (c_L_below l dC dI cI cII cJ cJJ ((xF xs L k) >>> ((nI 6) &&& 31)) 2 _ (by omega) (by omega)) (va_cwS 2 hts gL_moor_L_below rfl rfl rfl (by decide +kernel) ⟨Nat.le_of_ble_eq_true rfl, Nat.le_of_ble_eq_true rfl⟩) hK hP hD hS hA [] (kt_sw_nil _) rfl rfl rfl hl.1 (Nat.le_of_ble_eq_true rfl) dL_moor_125 ⟨Nat.le_of_ble_eq_true rfl, Nat.le_of_ble_eq_true rfl⟩ (fun H locs hP hD hS => ?_)
          refine lv_if_ne (tgt := 164) hx hb dL_moor_128 (by decide) (fun c128 => ?_) (fun c128 => ?_)
          · skip
            have eM : moorX n xs L (k + 1) = layX n k (t1F (xF xs L k) k) (q1F (xF xs L k)) (moorX n xs L k) := by
              show stepM n xs L k (moorX n xs L k) = _
              unfold stepM
              rw [if_neg c116, if_neg c128]
            refine lv_iinc (v := nI (k + 1)) (lv' := [(5, .int (nI (k + 1))), (7, .int (nI (o2F n (xF xs L k)))), (6, .int (xF xs L k)), (4, .ref ma), (0, .ref tp), (1, .ref b), (2, .int (nI 3)), (3, .int (nI n))]) hx hb dL_moor_164 hl (k := 2) rfl (kt_inc k) (by decide) rfl (fun ls hl => ?_)
            refine lv_goto (tgt := 33) hx hb dL_moor_167 (by decide) ?_
            have hP : va_P (dC, dI) vwCl (wV tp f er tr kr cI cII cJ cJJ n ((moorX n xs L (k + 1)).1) ((moorX n xs L (k + 1)).2.1) (fun _ => 0) (fun _ => 0) 0 0 (fun _ => 0) ((moorX n xs L (k + 1)).2.2) ++ wMa cI cII ma mr (layM M k (t1F (xF xs L k) k) (q1F (xF xs L k)))) H := by rw [eM]; exact hP
            have hD : va_D A (wV tp f er tr kr cI cII cJ cJJ n ((moorX n xs L (k + 1)).1) ((moorX n xs L (k + 1)).2.1) (fun _ => 0) (fun _ => 0) 0 0 (fun _ => 0) ((moorX n xs L (k + 1)).2.2) ++ wMa cI cII ma mr (layM M k (t1F (xF xs L k) k) (q1F (xF xs L k)))) := by rw [eM]; exact hD
            exact ih2 (k + 1, layM M k (t1F (xF xs L k) k) (q1F (xF xs L k))) H locs ls (by show n - (k + 1) < n - k; omega) (by show k + 1 ≤ n; omega) hP hD hS (lv_sub hl [0, 3, 4, 5, 6, 7] rfl)
          · skip
            refine lv_aload_n hx hb dL_moor_131 rfl (lv_at hl 4 rfl) ?_
            refine lv_aload hx hb dL_moor_132 (lv_at hl 3 rfl) ?_
            refine lv_iload hx hb dL_moor_134 (lv_at hl 2 rfl) ?_
            refine lv_iload hx hb dL_moor_136 (lv_at hl 0 rfl) ?_
            refine lv_iload_n hx hb dL_moor_138 rfl (lv_at hl 7 rfl) ?_
            refine kt_join (A := A) (H0 := s.heap) (D := (dC, dI)) (wV tp f er tr kr cI cII cJ cJJ n (layE ((moorX n xs L k).1) k (t1F (xF xs L k) k) (q1F (xF xs L k))) (layD ((moorX n xs L k).1) ((moorX n xs L k).2.1) k (t1F (xF xs L k) k) (q1F (xF xs L k))) (fun _ => 0) (fun _ => 0) 0 0 (fun _ => 0) (resetP n (t1F (xF xs L k) k) (resetP n k ((moorX n xs L k).2.2))) ++ wMa cI cII ma mr (layM M k (t1F (xF xs L k) k) (q1F (xF xs L k)))) [(7, .int (nI (o2F n (xF xs L k)))), (6, .int (xF xs L k)), (5, .int (nI k)), (4, .ref ma), (0, .ref tp), (1, .ref b), (2, .int (nI 3)), (3, .int (nI n))] 8 149 [.int (nI (t2F n (xF xs L k))), .int (nI k), .ref ma, .ref tp] (fun H locs ls hP hD hS hl => ?_) (fun J149 => ?_)
            · skip
              refine lv_iconst (v := nI 1) hx hb dL_moor_149 (by decide) ?_
              refine lv_iload hx hb dL_moor_150 (lv_at hl 1 rfl) ?_
              refine lv_iconst (v := nI 5) hx hb dL_moor_152 (by decide) ?_
              refine lv_ishr hx hb dL_moor_153 ?_
              refine lv_iconst (v := nI 4) hx hb dL_moor_154 (by decide) ?_
              refine kt_callSi (w' := wV tp f er tr kr cI cII cJ cJJ n (layE ((moorX n xs L k).1) k (t1F (xF xs L k) k) (q1F (xF xs L k))) (layD ((moorX n xs L k).1) ((moorX n xs L k).2.1) k (t1F (xF xs L k) k) (q1F (xF xs L k))) (fun _ => 0) (fun _ => 0) 0 0 (fun _ => 0) (resetP n (t1F (xF xs L k) k) (resetP n k ((moorX n xs L k).2.2))) ++ wMa cI cII ma mr (layM M k (t1F (xF xs L k) k) (q1F (xF xs L k)))) (rest := [.int (nI 1), .int (nI (t2F n (xF xs L k))), .int (nI k), .ref ma, .ref tp]) (As := [.int ((xF xs L k) >>> ((nI 5) &&& 31)), .int (nI 4)]) ⟨hx, hb, hml, hown, hts⟩ (c_L_below l dC dI cI cII cJ cJJ ((xF xs L k) >>> ((nI 5) &&& 31)) 4 _ (by omega) (by omega)) (va_cwS 2 hts gL_moor_L_below rfl rfl rfl (by decide +kernel) ⟨Nat.le_of_ble_eq_true rfl, Nat.le_of_ble_eq_true rfl⟩) hK hP hD hS hA [] (kt_sw_nil _) rfl rfl rfl hl.1 (Nat.le_of_ble_eq_true rfl) dL_moor_155 ⟨Nat.le_of_ble_eq_true rfl, Nat.le_of_ble_eq_true rfl⟩ (fun H locs hP hD hS => ?_)
              refine va_mmax hx hb (by rw [hml]; exact hl.1.symm) hown hq_l hq_s hq_i hq_c (Nat.le_of_ble_eq_true rfl) (Nat.le_of_ble_eq_true rfl) (Nat.le_of_ble_eq_true rfl) (Nat.le_of_ble_eq_true rfl) dL_moor_158 ?_
              refine lv_topi (fun z4 ez4 => ?_)
              have ez4 : z4 = q2F (xF xs L k) := ez4.trans (rfl)
              subst ez4
              refine kt_callSv (w' := wV tp f er tr kr cI cII cJ cJJ n (layE (layE ((moorX n xs L k).1) k (t1F (xF xs L k) k) (q1F (xF xs L k))) k (t2F n (xF xs L k)) (q2F (xF xs L k))) (layD (layE ((moorX n xs L k).1) k (t1F (xF xs L k) k) (q1F (xF xs L k))) (layD ((moorX n xs L k).1) ((moorX n xs L k).2.1) k (t1F (xF xs L k) k) (q1F (xF xs L k))) k (t2F n (xF xs L k)) (q2F (xF xs L k))) (fun _ => 0) (fun _ => 0) 0 0 (fun _ => 0) (resetP n (t2F n (xF xs L k)) (resetP n k (resetP n (t1F (xF xs L k) k) (resetP n k ((moorX n xs L k).2.2))))) ++ wMa cI cII ma mr (layM (layM M k (t1F (xF xs L k) k) (q1F (xF xs L k))) k (t2F n (xF xs L k)) (q2F (xF xs L k)))) (rest := []) (As := [.ref tp, .ref ma, .int (nI k), .int (nI (t2F n (xF xs L k))), .int (q2F (xF xs L k))]) ⟨hx, hb, hml, hown, hts⟩ (c_L_lay l dC dI cI cII cJ cJJ tp f er tr kr n (layE ((moorX n xs L k).1) k (t1F (xF xs L k) k) (q1F (xF xs L k))) (layD ((moorX n xs L k).1) ((moorX n xs L k).2.1) k (t1F (xF xs L k) k) (q1F (xF xs L k))) (fun _ => 0) (fun _ => 0) 0 0 (fun _ => 0) (resetP n (t1F (xF xs L k) k) (resetP n k ((moorX n xs L k).2.2))) ma mr (layM M k (t1F (xF xs L k) k) (q1F (xF xs L k))) k (t2F n (xF xs L k)) (q2F (xF xs L k)) _ (by omega) (Or.inl (by omega)) ((t2F_in (by omega) (by omega) c116).1) ((t2F_in (by omega) (by omega) c116).2) (q2F_0 _) (q2F_3 _)) (va_cwS 5 hts gL_moor_L_lay rfl rfl rfl (by decide +kernel) ⟨Nat.le_of_ble_eq_true rfl, Nat.le_of_ble_eq_true rfl⟩) hK hP hD hS hA (List.range' 0 53) (kt_sw_all rfl (by decide +kernel) rfl) rfl rfl rfl hl.1 (Nat.le_of_ble_eq_true rfl) dL_moor_161 ⟨Nat.le_of_ble_eq_true rfl, Nat.le_of_ble_eq_true rfl⟩ (fun H locs hP hD hS => ?_)
              have hP : va_P (dC, dI) vwCl (wV tp f er tr kr cI cII cJ cJJ n (layE (layE ((moorX n xs L k).1) k (t1F (xF xs L k) k) (q1F (xF xs L k))) k (t2F n (xF xs L k)) (q2F (xF xs L k))) (layD (layE ((moorX n xs L k).1) k (t1F (xF xs L k) k) (q1F (xF xs L k))) (layD ((moorX n xs L k).1) ((moorX n xs L k).2.1) k (t1F (xF xs L k) k) (q1F (xF xs L k))) k (t2F n (xF xs L k)) (q2F (xF xs L k))) (fun _ => 0) (fun _ => 0) 0 0 (fun _ => 0) (resetP n (t2F n (xF xs L k)) (resetP n k (resetP n (t1F (xF xs L k) k) (resetP n k ((moorX n xs L k).2.2))))) ++ wMa cI cII ma mr (layM (layM M k (t1F (xF xs L k) k) (q1F (xF xs L k))) k (t2F n (xF xs L k)) (q2F (xF xs L k)))) H := hP
              have hD : va_D A (wV tp f er tr kr cI cII cJ cJJ n (layE (layE ((moorX n xs L k).1) k (t1F (xF xs L k) k) (q1F (xF xs L k))) k (t2F n (xF xs L k)) (q2F (xF xs L k))) (layD (layE ((moorX n xs L k).1) k (t1F (xF xs L k) k) (q1F (xF xs L k))) (layD ((moorX n xs L k).1) ((moorX n xs L k).2.1) k (t1F (xF xs L k) k) (q1F (xF xs L k))) k (t2F n (xF xs L k)) (q2F (xF xs L k))) (fun _ => 0) (fun _ => 0) 0 0 (fun _ => 0) (resetP n (t2F n (xF xs L k)) (resetP n k (resetP n (t1F (xF xs L k) k) (resetP n k ((moorX n xs L k).2.2))))) ++ wMa cI cII ma mr (layM (layM M k (t1F (xF xs L k) k) (q1F (xF xs L k))) k (t2F n (xF xs L k)) (q2F (xF xs L k)))) := hD
              have eM : moorX n xs L (k + 1) = layX n k (t2F n (xF xs L k)) (q2F (xF xs L k)) (layX n k (t1F (xF xs L k) k) (q1F (xF xs L k)) (moorX n xs L k)) := by
                show stepM n xs L k (moorX n xs L k) = _
                unfold stepM
                rw [if_neg c116, if_pos c128]
              refine lv_iinc (v := nI (k + 1)) (lv' := [(5, .int (nI (k + 1))), (7, .int (nI (o2F n (xF xs L k)))), (6, .int (xF xs L k)), (4, .ref ma), (0, .ref tp), (1, .ref b), (2, .int (nI 3)), (3, .int (nI n))]) hx hb dL_moor_164 hl (k := 2) rfl (kt_inc k) (by decide) rfl (fun ls hl => ?_)
              refine lv_goto (tgt := 33) hx hb dL_moor_167 (by decide) ?_
              have hP : va_P (dC, dI) vwCl (wV tp f er tr kr cI cII cJ cJJ n ((moorX n xs L (k + 1)).1) ((moorX n xs L (k + 1)).2.1) (fun _ => 0) (fun _ => 0) 0 0 (fun _ => 0) ((moorX n xs L (k + 1)).2.2) ++ wMa cI cII ma mr (layM (layM M k (t1F (xF xs L k) k) (q1F (xF xs L k))) k (t2F n (xF xs L k)) (q2F (xF xs L k)))) H := by rw [eM]; exact hP
              have hD : va_D A (wV tp f er tr kr cI cII cJ cJJ n ((moorX n xs L (k + 1)).1) ((moorX n xs L (k + 1)).2.1) (fun _ => 0) (fun _ => 0) 0 0 (fun _ => 0) ((moorX n xs L (k + 1)).2.2) ++ wMa cI cII ma mr (layM (layM M k (t1F (xF xs L k) k) (q1F (xF xs L k))) k (t2F n (xF xs L k)) (q2F (xF xs L k)))) := by rw [eM]; exact hD
              exact ih2 (k + 1, layM (layM M k (t1F (xF xs L k) k) (q1F (xF xs L k))) k (t2F n (xF xs L k)) (q2F (xF xs L k))) H locs ls (by show n - (k + 1) < n - k; omega) (by show k + 1 ≤ n; omega) hP hD hS (lv_sub hl [0, 3, 4, 5, 6, 7] rfl)
            · skip
              refine lv_icmp_ne (tgt := 147) hx hb dL_moor_139 (by decide) (fun c139 => ?_) (fun c139 => ?_)
              · skip
                refine lv_iload hx hb dL_moor_147 (lv_at hl 0 rfl) ?_
                refine lv_topi (fun z5 ez5 => ?_)
                have ez5 : z5 = nI (t2F n (xF xs L k)) := ez5.trans (t2F_a c139)
                subst ez5
                exact J149 H locs ls hP hD hS hl
              · skip
                refine lv_bipush (v := nI 6) hx hb dL_moor_142 (by decide) ?_
                refine lv_goto (tgt := 149) hx hb dL_moor_144 (by decide) ?_
                refine lv_topi (fun z6 ez6 => ?_)
                have ez6 : z6 = nI (t2F n (xF xs L k)) := ez6.trans (t2F_b (by omega) c139)
                subst ez6
                exact J149 H locs ls hP hD hS hl
      · skip
        refine lv_if_eq (tgt := 73) hx hb dL_moor_61 (by decide) (fun c61 => ?_) (fun c61 => ?_)
        · skip
          refine lv_bipush (v := nI 6) hx hb dL_moor_73 (by decide) ?_
          refine lv_goto (tgt := 87) hx hb dL_moor_75 (by decide) ?_
          refine lv_topi (fun z7 ez7 => ?_)
          have ez7 : z7 = nI (t1F (xF xs L k) k) := ez7.trans (t1F_a (by omega) c61)
          subst ez7
          exact J87 H locs ls hP hD hS (lv_sub hl [0, 1, 2, 3, 4, 5, 6] rfl)
        · have hk0 : 0 < k := Nat.pos_of_ne_zero (fun z => c61 (by rw [z]; rfl))
          refine lv_iload hx hb dL_moor_64 (lv_at hl 0 rfl) ?_
          refine lv_iconst (v := nI 3) hx hb dL_moor_66 (by decide) ?_
          refine kt_callSi (w' := wV tp f er tr kr cI cII cJ cJJ n ((moorX n xs L k).1) ((moorX n xs L k).2.1) (fun _ => 0) (fun _ => 0) 0 0 (fun _ => 0) ((moorX n xs L k).2.2) ++ wMa cI cII ma mr M) (rest := [.int (nI k), .ref ma, .ref tp]) (As := [.int (xF xs L k), .int (nI 3)]) ⟨hx, hb, hml, hown, hts⟩ (c_L_below l dC dI cI cII cJ cJJ (xF xs L k) 3 _ (by omega) (by omega)) (va_cwS 2 hts gL_moor_L_below rfl rfl rfl (by decide +kernel) ⟨Nat.le_of_ble_eq_true rfl, Nat.le_of_ble_eq_true rfl⟩) hK hP hD hS hA [] (kt_sw_nil _) rfl rfl rfl hl.1 (Nat.le_of_ble_eq_true rfl) dL_moor_67 ⟨Nat.le_of_ble_eq_true rfl, Nat.le_of_ble_eq_true rfl⟩ (fun H locs hP hD hS => ?_)
          refine lv_if_ne (tgt := 78) hx hb dL_moor_70 (by decide) (fun c70 => ?_) (fun c70 => ?_)
          · skip
            refine lv_iload hx hb dL_moor_78 (lv_at hl 0 rfl) ?_
            refine lv_iconst (v := nI 2) hx hb dL_moor_80 (by decide) ?_
            refine lv_ishr hx hb dL_moor_81 ?_
            refine lv_iload hx hb dL_moor_82 (lv_at hl 1 rfl) ?_
            refine kt_callSi (w' := wV tp f er tr kr cI cII cJ cJJ n ((moorX n xs L k).1) ((moorX n xs L k).2.1) (fun _ => 0) (fun _ => 0) 0 0 (fun _ => 0) ((moorX n xs L k).2.2) ++ wMa cI cII ma mr M) (rest := [.int (nI k), .ref ma, .ref tp]) (As := [.int ((xF xs L k) >>> ((nI 2) &&& 31)), .int (nI k)]) ⟨hx, hb, hml, hown, hts⟩ (c_L_below l dC dI cI cII cJ cJJ ((xF xs L k) >>> ((nI 2) &&& 31)) k _ (hk0) (by omega)) (va_cwS 2 hts gL_moor_L_below rfl rfl rfl (by decide +kernel) ⟨Nat.le_of_ble_eq_true rfl, Nat.le_of_ble_eq_true rfl⟩) hK hP hD hS hA [] (kt_sw_nil _) rfl rfl rfl hl.1 (Nat.le_of_ble_eq_true rfl) dL_moor_84 ⟨Nat.le_of_ble_eq_true rfl, Nat.le_of_ble_eq_true rfl⟩ (fun H locs hP hD hS => ?_)
            refine lv_topi (fun z8 ez8 => ?_)
            have ez8 : z8 = nI (t1F (xF xs L k) k) := ez8.trans (t1F_c (by omega) (by omega) c61 c70)
            subst ez8
            exact J87 H locs ls hP hD hS (lv_sub hl [0, 1, 2, 3, 4, 5, 6] rfl)
          · skip
            refine lv_bipush (v := nI 6) hx hb dL_moor_73 (by decide) ?_
            refine lv_goto (tgt := 87) hx hb dL_moor_75 (by decide) ?_
            refine lv_topi (fun z9 ez9 => ?_)
            have ez9 : z9 = nI (t1F (xF xs L k) k) := ez9.trans (t1F_b c70)
            subst ez9
            exact J87 H locs ls hP hD hS (lv_sub hl [0, 1, 2, 3, 4, 5, 6] rfl)
  · skip
    refine lv_aload_n hx hb dL_moor_19 rfl (lv_at hl 2 rfl) ?_
    refine kt_calli (w' := wV tp f er tr kr cI cII cJ cJJ (i + 1) (fun _ _ => 0) (fun _ => 0) (fun _ => 0) (fun _ => 0) 0 0 (fun _ => 0) (fun _ => 0) ++ wMa cI cII ma mr (fun _ _ => 0)) (rest := []) (As := []) ⟨hx, hb, hml, hown, hts⟩ (c_X4_spot l dC dI cI cII cJ cJJ tp (f 0) (f 1) (f 2) (fun _ => 0) (fun _ => 0) (f 3) (f 4) (f 5) (fun _ => 0) (fun _ => 0) (f 6) (f 7) (f 8) (fun _ => 0) (fun _ => 0) (f 9) (f 10) (f 11) (fun _ => 0) (fun _ => 0) (f 12) kr (fun _ _ => 0) 0 0 0 (f 13) (f 14) (fun _ => 0) 0 (f 15) (f 16) (fun _ => 0) (f 17) (f 18) (f 19) (fun _ => 0) (fun _ => 0) (f 20) (f 21) (f 22) (fun _ => 0) (fun _ => 0) (f 23) (f 24) (f 25) (f 26) er i (fun _ _ => 0) (fun _ => 0) tr (fun _ _ => 0) _ (by omega)) (cwV 0 hts gL_moor_X4_spot rfl rfl rfl (by decide +kernel) ⟨Nat.le_of_ble_eq_true rfl, Nat.le_of_ble_eq_true rfl⟩) hK hP hD hS hA (List.range' 0 45) (by exact sw_VM) rfl 0 kX4 rfl rfl rfl rfl rfl hl.1 (Nat.le_of_ble_eq_true rfl) dL_moor_20 ⟨Nat.le_of_ble_eq_true rfl, Nat.le_of_ble_eq_true rfl⟩ (fun H locs hP hD hS => ?_)
    have hP : va_P (dC, dI) vwCl (wV tp f er tr kr cI cII cJ cJJ (i + 1) (fun _ _ => 0) (fun _ => 0) (fun _ => 0) (fun _ => 0) 0 0 (fun _ => 0) (fun _ => 0) ++ wMa cI cII ma mr (fun _ _ => 0)) H := hP
    have hD : va_D A (wV tp f er tr kr cI cII cJ cJJ (i + 1) (fun _ _ => 0) (fun _ => 0) (fun _ => 0) (fun _ => 0) 0 0 (fun _ => 0) (fun _ => 0) ++ wMa cI cII ma mr (fun _ _ => 0)) := hD
    refine lv_pop hx hb dL_moor_23 rfl ?_
    refine lv_iinc (v := nI (i + 1)) (lv' := [(5, .int (nI (i + 1))), (4, .ref ma), (0, .ref tp), (1, .ref b), (2, .int (nI 3)), (3, .int (nI n))]) hx hb dL_moor_24 hl (k := 0) rfl (kt_inc i) (by decide) rfl (fun ls hl => ?_)
    refine lv_goto (tgt := 13) hx hb dL_moor_27 (by decide) ?_
    exact ih H locs ls (by omega) hP hD hS (lv_sub hl [0, 1, 2, 3, 4, 5] rfl)

theorem kt_joinP {α : Type} {p : Program} {l : Launch} {e : Env} {R : Room} {s : State} {m : MethodId} {args : Array Value} {below : List Frame} {meth : Method} {c : Code} {H : Heap} {locs : List Loc} {cells slots : Nat} {Q : State → Prop} {D : va_G} {A : Nat → Prop} {H0 : Heap} {ls : Array Slot} {pc : Nat} {st : List Value} (w : α → va_W) (lv : List (Nat × Value)) (nL pc2 : Nat) (st2 : List Value)
    (J : ∀ (x : α) (H : Heap) (locs : List Loc) (ls : Array Slot), va_P D vwCl (w x) H → va_D A (w x) → va_S A H0 H locs → lv_has ls nL lv → W p l e R s m args below meth c H locs cells slots Q (F0 m pc2 ls st2))
    (k : (∀ (x : α) (H : Heap) (locs : List Loc) (ls : Array Slot), va_P D vwCl (w x) H → va_D A (w x) → va_S A H0 H locs → lv_has ls nL lv → W p l e R s m args below meth c H locs cells slots Q (F0 m pc2 ls st2)) → W p l e R s m args below meth c H locs cells slots Q (F0 m pc ls st)) : W p l e R s m args below meth c H locs cells slots Q (F0 m pc ls st) := k J
theorem count_not {n : Nat} {E : V2} {DG : V1} {T : L2} {n1 : Int64} {P : Prop} (h : n1 = (treeF n E DG T).2) (M9 : MOK n n E DG) (hn : n ≤ 5) (hn0 : 0 < n) (hc : lg_cmp n1 1 < 0) : P := by
  obtain ⟨X, K⟩ := mok_moor M9 (show n ≤ 6 by omega)
  have h1 := count_pos (T := T) X K hn (fun i hi => (mok_deg M9 (by omega) hi).2) (fun i j hi hj => by
    have h2 : (E i j).toInt ≤ 3 := (M9.2.2.1 i j (by omega) (by omega)).2
    show (E i j).toInt ≤ 18
    omega)
  rw [← h] at h1
  have h2 := (lg_cmp_lt _ _).mp hc
  rw [Int64.lt_iff_toInt_lt] at h2
  have : (1 : Int64).toInt = 1 := rfl
  omega
theorem dig_same {n : Nat} {E : V2} {DG LYG LYT P C TLG TLT NEG LG TLG' TLT' NEG' LG' : V1} {sw tps st : Int32} {km : Nat} {KH : V2} {T T' : L2} {d1 d2 : Int64} (h2 : d2 = fastD n E DG LYG TLG' TLT' NEG' C LG' (dig4 n E DG LYG LYT P C sw tps st km KH T')) (h1 : d1 = fastD n E DG LYG TLG TLT NEG C LG (dig4 n E DG LYG LYT P C sw tps st km KH T)) : d2 = d1 := by
  rw [h1, h2]
  unfold dig4
  rw [treeF_same T' T]
  exact fastD_same
theorem neu_any {n : Nat} {E : V2} {DG G0 : V1} {c : Z1} (h : Cfg n (neutF n E DG G0).1 c) (G : V1) : Cfg n (neutF n E DG G).1 c := fun i hi => by
  rw [(neutF_agr (E := E) (DG := DG) G G0).1 i hi]
  exact h i hi
theorem neu_18 {n : Nat} {E : V2} {DG : V1} {c : Z1} {k : Nat} (h : Neu n E DG c) (hk : k < n) : 0 ≤ c k ∧ c k ≤ 18 := by
  have := h.1 k hk
  omega
theorem neu_zero {n : Nat} {E : V2} {DG : V1} {c : Z1} {k : Nat} {q : Int32} (h : Neu n E DG c) (hk : k < n) (hq : q.toInt = c k) (hle : q ≤ 0) : c k = 0 := by
  have := neu_18 h hk
  rw [Int32.le_iff_toInt_le] at hle
  have : (0 : Int32).toInt = 0 := rfl
  omega

set_option maxHeartbeats 4000000 in
set_option maxRecDepth 100000 in
/-- isAsked -/
theorem c_L_isAsked (l : Launch) (dC : Nat → ClassId) (dI : Nat → Nat → Nat) (cI cII cJ cJJ : ClassId) (tp : Nat) (f : Nat → Nat) (er : Nat → Nat) (tr : Nat → Nat) (kr : Nat → Nat) (n : Nat) (E : V2) (DG : V1) (G : V1) (U : V1) (sw : Int32) (tps : Int32) (C : V1) (P : V1) (sz : Nat) (M9 : MOK n n E DG) (hn0 : 0 < n) (hn : n ≤ 5) (hC : -300 ≤ (sumN C 7).toInt) : Met l yL_isAsked wsL_isAsked ({ frames := 7, cells := 0, slots := 0, locals := 162 }) (va_Pc [.ref tp, .int (nI n)] (PRE (dC, dI) (tyL cI cII cJ cJJ) (wV tp f er tr kr cI cII cJ cJJ n E DG G U sw tps C P) sz)) (va_Qi (fun (r' : Int32) (_ : Unit) => r' = nI 1) (fun (_ : Unit) tS => ATW (dC, dI) (tyL cI cII cJ cJJ) (va_A (wV tp f er tr kr cI cII cJ cJJ n E DG G U sw tps C P) sz) (([] : va_W)) tS) (va_A (wV tp f er tr kr cI cII cJ cJJ n E DG G U sw tps C P) sz)) 0 0 (va_A (wV tp f er tr kr cI cII cJ cJJ n E DG G U sw tps C P) sz) := by
  refine Met.ofW (cc := cL_isAsked) (maxL := 6) (ret := (some .boolean)) (by decide) rfl ?_
  intro p e s m args below meth c s₁ B hml hv
  obtain ⟨rfl, hsz, hP, hK, hD0⟩ := hv
  have hx := B.exec
  have hb := B.bytes
  have hr := B.returns
  have hlocks := B.notSynchronized
  have hts := atoms_spec (ws := wsL_isAsked) B.pre
  have hown : s.vm.findClass RL = some m.cls := findClass_of_methodNamed B.named
  subst hsz
  have hD := hD0.self (sz := s.heap.size)
  generalize hAe : va_A (wV tp f er tr kr cI cII cJ cJJ n E DG G U sw tps C P) s.heap.size = A at hD ⊢
  have hA : ∀ q : Nat, s.heap.size ≤ q → A q := fun q h => by rw [← hAe]; exact Or.inr h
  have hS : va_S A s.heap s.heap [] := va_S.rf
  have hl := lv_entry ([.ref tp, .int (nI n)]) (n := 6) (Nat.le_of_ble_eq_true rfl)
  rw [lg_entry_eq]
  generalize (lg_sl ([.ref tp, .int (nI n)]) ++ List.replicate (6 - (lg_sl ([.ref tp, .int (nI n)])).length) Slot.unset).toArray = ls at hl ⊢
  have hl : lv_has ls 6 [(0, .ref tp), (1, .int (nI n))] := hl
  have hf : fastB n E = true := mok_fast M9 (by omega) hn0
  have hP : va_P (dC, dI) vwCl (wTop tp (f 0) (f 1) (f 2) G U (f 3) (f 4) (f 5) (fun _ => 0) (fun _ => 0) (f 6) (f 7) (f 8) (fun _ => 0) (fun _ => 0) (f 9) (f 10) (f 11) (fun _ => 0) (fun _ => 0) (f 12) kr (fun _ _ => 0) 0 sw tps (f 13) (f 14) P 0 (f 15) (f 16) C (f 17) (f 18) (f 19) (fun _ => 0) (fun _ => 0) (f 20) (f 21) (f 22) (fun _ => 0) (fun _ => 0) cJ cJJ cI cII (f 23) (f 24) (f 25) (f 26) er n E DG tr (fun _ _ => 0)) s.heap := hP
  have hD : va_D A (wTop tp (f 0) (f 1) (f 2) G U (f 3) (f 4) (f 5) (fun _ => 0) (fun _ => 0) (f 6) (f 7) (f 8) (fun _ => 0) (fun _ => 0) (f 9) (f 10) (f 11) (fun _ => 0) (fun _ => 0) (f 12) kr (fun _ _ => 0) 0 sw tps (f 13) (f 14) P 0 (f 15) (f 16) C (f 17) (f 18) (f 19) (fun _ => 0) (fun _ => 0) (f 20) (f 21) (f 22) (fun _ => 0) (fun _ => 0) cJ cJJ cI cII (f 23) (f 24) (f 25) (f 26) er n E DG tr (fun _ _ => 0)) := hD
  refine lv_aload_n hx hb dL_isAsked_0 rfl (lv_at hl 0 rfl) ?_
  refine kt_calli (w' := wTop tp (f 0) (f 1) (f 2) ((rollF n E DG G).1) ((rollF n E DG G).2) (f 3) (f 4) (f 5) (fun _ => 0) (fun _ => 0) (f 6) (f 7) (f 8) (fun _ => 0) (fun _ => 0) (f 9) (f 10) (f 11) (fun _ => 0) (fun _ => 0) (f 12) kr (fun _ _ => 0) 0 (sw + sumN (fun k => (rollF n E DG G).2 k * E k 6) n) (tps + sumN (rollF n E DG G).2 n) (f 13) (f 14) P 0 (f 15) (f 16) C (f 17) (f 18) (f 19) (fun _ => 0) (fun _ => 0) (f 20) (f 21) (f 22) (fun _ => 0) (fun _ => 0) cJ cJJ cI cII (f 23) (f 24) (f 25) (f 26) er n E DG tr (fun _ _ => 0)) (rest := []) (As := []) ⟨hx, hb, hml, hown, hts⟩ (c_X4_settle l dC dI cI cII cJ cJJ tp (f 0) (f 1) (f 2) G U (f 3) (f 4) (f 5) (fun _ => 0) (fun _ => 0) (f 6) (f 7) (f 8) (fun _ => 0) (fun _ => 0) (f 9) (f 10) (f 11) (fun _ => 0) (fun _ => 0) (f 12) kr (fun _ _ => 0) 0 sw tps (f 13) (f 14) P 0 (f 15) (f 16) C (f 17) (f 18) (f 19) (fun _ => 0) (fun _ => 0) (f 20) (f 21) (f 22) (fun _ => 0) (fun _ => 0) (f 23) (f 24) (f 25) (f 26) er n E DG tr (fun _ _ => 0) _ (by omega) (hf)) (cwV 0 hts gL_isAsked_X4_settle rfl rfl rfl (by decide +kernel) ⟨Nat.le_of_ble_eq_true rfl, Nat.le_of_ble_eq_true rfl⟩) hK hP hD hS hA (List.range' 0 45) (kt_sw_all rfl (by decide +kernel) rfl) rfl 0 kX4 rfl rfl rfl rfl rfl hl.1 (Nat.le_of_ble_eq_true rfl) dL_isAsked_1 ⟨Nat.le_of_ble_eq_true rfl, Nat.le_of_ble_eq_true rfl⟩ (fun H locs hP hD hS => ?_)
  have hP : va_P (dC, dI) vwCl (wTop tp (f 0) (f 1) (f 2) ((rollF n E DG G).1) ((rollF n E DG G).2) (f 3) (f 4) (f 5) (fun _ => 0) (fun _ => 0) (f 6) (f 7) (f 8) (fun _ => 0) (fun _ => 0) (f 9) (f 10) (f 11) (fun _ => 0) (fun _ => 0) (f 12) kr (fun _ _ => 0) 0 (sw + sumN (fun k => (rollF n E DG G).2 k * E k 6) n) (tps + sumN (rollF n E DG G).2 n) (f 13) (f 14) P 0 (f 15) (f 16) C (f 17) (f 18) (f 19) (fun _ => 0) (fun _ => 0) (f 20) (f 21) (f 22) (fun _ => 0) (fun _ => 0) cJ cJJ cI cII (f 23) (f 24) (f 25) (f 26) er n E DG tr (fun _ _ => 0)) H := hP
  have hD : va_D A (wTop tp (f 0) (f 1) (f 2) ((rollF n E DG G).1) ((rollF n E DG G).2) (f 3) (f 4) (f 5) (fun _ => 0) (fun _ => 0) (f 6) (f 7) (f 8) (fun _ => 0) (fun _ => 0) (f 9) (f 10) (f 11) (fun _ => 0) (fun _ => 0) (f 12) kr (fun _ _ => 0) 0 (sw + sumN (fun k => (rollF n E DG G).2 k * E k 6) n) (tps + sumN (rollF n E DG G).2 n) (f 13) (f 14) P 0 (f 15) (f 16) C (f 17) (f 18) (f 19) (fun _ => 0) (fun _ => 0) (f 20) (f 21) (f 22) (fun _ => 0) (fun _ => 0) cJ cJJ cI cII (f 23) (f 24) (f 25) (f 26) er n E DG tr (fun _ _ => 0)) := hD
  obtain ⟨sw_1, esw_1⟩ : ∃ z : Int32, z = (sw + sumN (fun k => (rollF n E DG G).2 k * E k 6) n) := ⟨_, rfl⟩
  rw [← esw_1] at hP hD
  obtain ⟨tps_1, etps_1⟩ : ∃ z : Int32, z = (tps + sumN (rollF n E DG G).2 n) := ⟨_, rfl⟩
  rw [← etps_1] at hP hD
  obtain ⟨LYG_1, eLYG_1⟩ : ∃ z : V1, z = ((rollF n E DG G).1) := ⟨_, rfl⟩
  rw [← eLYG_1] at hP hD
  obtain ⟨LYT_1, eLYT_1⟩ : ∃ z : V1, z = ((rollF n E DG G).2) := ⟨_, rfl⟩
  rw [← eLYT_1] at hP hD
  have hP : va_P (dC, dI) vwCl (wTop tp (f 0) (f 1) (f 2) LYG_1 LYT_1 (f 3) (f 4) (f 5) (fun _ => 0) (fun _ => 0) (f 6) (f 7) (f 8) (fun _ => 0) (fun _ => 0) (f 9) (f 10) (f 11) (fun _ => 0) (fun _ => 0) (f 12) kr (fun _ _ => 0) 0 sw_1 tps_1 (f 13) (f 14) P 0 (f 15) (f 16) C (f 17) (f 18) (f 19) (fun _ => 0) (fun _ => 0) (f 20) (f 21) (f 22) (fun _ => 0) (fun _ => 0) cJ cJJ cI cII (f 23) (f 24) (f 25) (f 26) er n E DG tr (fun _ _ => 0)) H := hP
  have hD : va_D A (wTop tp (f 0) (f 1) (f 2) LYG_1 LYT_1 (f 3) (f 4) (f 5) (fun _ => 0) (fun _ => 0) (f 6) (f 7) (f 8) (fun _ => 0) (fun _ => 0) (f 9) (f 10) (f 11) (fun _ => 0) (fun _ => 0) (f 12) kr (fun _ _ => 0) 0 sw_1 tps_1 (f 13) (f 14) P 0 (f 15) (f 16) C (f 17) (f 18) (f 19) (fun _ => 0) (fun _ => 0) (f 20) (f 21) (f 22) (fun _ => 0) (fun _ => 0) cJ cJJ cI cII (f 23) (f 24) (f 25) (f 26) er n E DG tr (fun _ _ => 0)) := hD
  refine lv_pop hx hb dL_isAsked_4 rfl ?_
  refine lv_aload_n hx hb dL_isAsked_5 rfl (lv_at hl 0 rfl) ?_
  refine kt_calll (w' := wTop tp (f 0) (f 1) (f 2) LYG_1 LYT_1 (f 3) (f 4) (f 5) ((fastX n E DG LYG_1 (fun _ => 0) (fun _ => 0) (fun _ => 0) (dig4 n E DG LYG_1 LYT_1 P C sw_1 tps_1 0 0 (fun _ _ => 0) (fun _ _ => 0))).2.1) ((fastX n E DG LYG_1 (fun _ => 0) (fun _ => 0) (fun _ => 0) (dig4 n E DG LYG_1 LYT_1 P C sw_1 tps_1 0 0 (fun _ _ => 0) (fun _ _ => 0))).2.2) (f 6) (f 7) (f 8) ((neutF n E DG (fun _ => 0)).1) ((neutF n E DG (fun _ => 0)).2) (f 9) (f 10) (f 11) (fun _ => 0) (fun _ => 0) (f 12) kr (fun _ _ => 0) 0 sw_1 tps_1 (f 13) (f 14) P 0 (f 15) (f 16) C (f 17) (f 18) (f 19) ((findF n E DG C (findF n E DG C (fun _ => 0)).1).1) ((findF n E DG C (findF n E DG C (fun _ => 0)).1).2) (f 20) (f 21) (f 22) ((poorX n E DG C (findF n E DG C (fun _ => 0)).1 (fun _ => 0) (fun _ => 0)).1) ((poorX n E DG C (findF n E DG C (fun _ => 0)).1 (fun _ => 0) (fun _ => 0)).2) cJ cJJ cI cII (f 23) (f 24) (f 25) (f 26) er n E DG tr ((treeF n E DG (fun _ _ => 0)).1)) (rest := []) (As := []) ⟨hx, hb, hml, hown, hts⟩ (c_X4_digest l dC dI cI cII cJ cJJ tp (f 0) (f 1) (f 2) LYG_1 LYT_1 (f 3) (f 4) (f 5) (fun _ => 0) (fun _ => 0) (f 6) (f 7) (f 8) (fun _ => 0) (fun _ => 0) (f 9) (f 10) (f 11) (fun _ => 0) (fun _ => 0) (f 12) kr (fun _ _ => 0) 0 sw_1 tps_1 (f 13) (f 14) P 0 (f 15) (f 16) C (f 17) (f 18) (f 19) (fun _ => 0) (fun _ => 0) (f 20) (f 21) (f 22) (fun _ => 0) (fun _ => 0) (f 23) (f 24) (f 25) (f 26) er n E DG tr (fun _ _ => 0) _ (by omega) (Nat.zero_le 4) (hf)) (cwV 0 hts gL_isAsked_X4_digest rfl rfl rfl (by decide +kernel) ⟨Nat.le_of_ble_eq_true rfl, Nat.le_of_ble_eq_true rfl⟩) hK hP hD hS hA (List.range' 0 45) (kt_sw_all rfl (by decide +kernel) rfl) rfl 0 kX4 rfl rfl rfl rfl rfl hl.1 (Nat.le_of_ble_eq_true rfl) dL_isAsked_6 ⟨Nat.le_of_ble_eq_true rfl, Nat.le_of_ble_eq_true rfl⟩ (fun H locs hP hD hS => ?_)
  have hP : va_P (dC, dI) vwCl (wTop tp (f 0) (f 1) (f 2) LYG_1 LYT_1 (f 3) (f 4) (f 5) ((fastX n E DG LYG_1 (fun _ => 0) (fun _ => 0) (fun _ => 0) (dig4 n E DG LYG_1 LYT_1 P C sw_1 tps_1 0 0 (fun _ _ => 0) (fun _ _ => 0))).2.1) ((fastX n E DG LYG_1 (fun _ => 0) (fun _ => 0) (fun _ => 0) (dig4 n E DG LYG_1 LYT_1 P C sw_1 tps_1 0 0 (fun _ _ => 0) (fun _ _ => 0))).2.2) (f 6) (f 7) (f 8) ((neutF n E DG (fun _ => 0)).1) ((neutF n E DG (fun _ => 0)).2) (f 9) (f 10) (f 11) (fun _ => 0) (fun _ => 0) (f 12) kr (fun _ _ => 0) 0 sw_1 tps_1 (f 13) (f 14) P 0 (f 15) (f 16) C (f 17) (f 18) (f 19) ((findF n E DG C (findF n E DG C (fun _ => 0)).1).1) ((findF n E DG C (findF n E DG C (fun _ => 0)).1).2) (f 20) (f 21) (f 22) ((poorX n E DG C (findF n E DG C (fun _ => 0)).1 (fun _ => 0) (fun _ => 0)).1) ((poorX n E DG C (findF n E DG C (fun _ => 0)).1 (fun _ => 0) (fun _ => 0)).2) cJ cJJ cI cII (f 23) (f 24) (f 25) (f 26) er n E DG tr ((treeF n E DG (fun _ _ => 0)).1)) H := hP
  have hD : va_D A (wTop tp (f 0) (f 1) (f 2) LYG_1 LYT_1 (f 3) (f 4) (f 5) ((fastX n E DG LYG_1 (fun _ => 0) (fun _ => 0) (fun _ => 0) (dig4 n E DG LYG_1 LYT_1 P C sw_1 tps_1 0 0 (fun _ _ => 0) (fun _ _ => 0))).2.1) ((fastX n E DG LYG_1 (fun _ => 0) (fun _ => 0) (fun _ => 0) (dig4 n E DG LYG_1 LYT_1 P C sw_1 tps_1 0 0 (fun _ _ => 0) (fun _ _ => 0))).2.2) (f 6) (f 7) (f 8) ((neutF n E DG (fun _ => 0)).1) ((neutF n E DG (fun _ => 0)).2) (f 9) (f 10) (f 11) (fun _ => 0) (fun _ => 0) (f 12) kr (fun _ _ => 0) 0 sw_1 tps_1 (f 13) (f 14) P 0 (f 15) (f 16) C (f 17) (f 18) (f 19) ((findF n E DG C (findF n E DG C (fun _ => 0)).1).1) ((findF n E DG C (findF n E DG C (fun _ => 0)).1).2) (f 20) (f 21) (f 22) ((poorX n E DG C (findF n E DG C (fun _ => 0)).1 (fun _ => 0) (fun _ => 0)).1) ((poorX n E DG C (findF n E DG C (fun _ => 0)).1 (fun _ => 0) (fun _ => 0)).2) cJ cJJ cI cII (f 23) (f 24) (f 25) (f 26) er n E DG tr ((treeF n E DG (fun _ _ => 0)).1)) := hD
  obtain ⟨TLG_2, eTLG_2⟩ : ∃ z : V1, z = ((fastX n E DG LYG_1 (fun _ => 0) (fun _ => 0) (fun _ => 0) (dig4 n E DG LYG_1 LYT_1 P C sw_1 tps_1 0 0 (fun _ _ => 0) (fun _ _ => 0))).2.1) := ⟨_, rfl⟩
  rw [← eTLG_2] at hP hD
  obtain ⟨TLT_2, eTLT_2⟩ : ∃ z : V1, z = ((fastX n E DG LYG_1 (fun _ => 0) (fun _ => 0) (fun _ => 0) (dig4 n E DG LYG_1 LYT_1 P C sw_1 tps_1 0 0 (fun _ _ => 0) (fun _ _ => 0))).2.2) := ⟨_, rfl⟩
  rw [← eTLT_2] at hP hD
  obtain ⟨OG_2, eOG_2⟩ : ∃ z : V1, z = ((poorX n E DG C (findF n E DG C (fun _ => 0)).1 (fun _ => 0) (fun _ => 0)).1) := ⟨_, rfl⟩
  rw [← eOG_2] at hP hD
  obtain ⟨OT_2, eOT_2⟩ : ∃ z : V1, z = ((poorX n E DG C (findF n E DG C (fun _ => 0)).1 (fun _ => 0) (fun _ => 0)).2) := ⟨_, rfl⟩
  rw [← eOT_2] at hP hD
  obtain ⟨LG_2, eLG_2⟩ : ∃ z : V1, z = ((findF n E DG C (findF n E DG C (fun _ => 0)).1).1) := ⟨_, rfl⟩
  rw [← eLG_2] at hP hD
  obtain ⟨LT_2, eLT_2⟩ : ∃ z : V1, z = ((findF n E DG C (findF n E DG C (fun _ => 0)).1).2) := ⟨_, rfl⟩
  rw [← eLT_2] at hP hD
  obtain ⟨T_2, eT_2⟩ : ∃ z : L2, z = ((treeF n E DG (fun _ _ => 0)).1) := ⟨_, rfl⟩
  rw [← eT_2] at hP hD
  obtain ⟨NEG_2, eNEG_2⟩ : ∃ z : V1, z = ((neutF n E DG (fun _ => 0)).1) := ⟨_, rfl⟩
  rw [← eNEG_2] at hP hD
  obtain ⟨NET_2, eNET_2⟩ : ∃ z : V1, z = ((neutF n E DG (fun _ => 0)).2) := ⟨_, rfl⟩
  rw [← eNET_2] at hP hD
  have hP : va_P (dC, dI) vwCl (wTop tp (f 0) (f 1) (f 2) LYG_1 LYT_1 (f 3) (f 4) (f 5) TLG_2 TLT_2 (f 6) (f 7) (f 8) NEG_2 NET_2 (f 9) (f 10) (f 11) (fun _ => 0) (fun _ => 0) (f 12) kr (fun _ _ => 0) 0 sw_1 tps_1 (f 13) (f 14) P 0 (f 15) (f 16) C (f 17) (f 18) (f 19) LG_2 LT_2 (f 20) (f 21) (f 22) OG_2 OT_2 cJ cJJ cI cII (f 23) (f 24) (f 25) (f 26) er n E DG tr T_2) H := hP
  have hD : va_D A (wTop tp (f 0) (f 1) (f 2) LYG_1 LYT_1 (f 3) (f 4) (f 5) TLG_2 TLT_2 (f 6) (f 7) (f 8) NEG_2 NET_2 (f 9) (f 10) (f 11) (fun _ => 0) (fun _ => 0) (f 12) kr (fun _ _ => 0) 0 sw_1 tps_1 (f 13) (f 14) P 0 (f 15) (f 16) C (f 17) (f 18) (f 19) LG_2 LT_2 (f 20) (f 21) (f 22) OG_2 OT_2 cJ cJJ cI cII (f 23) (f 24) (f 25) (f 26) er n E DG tr T_2) := hD
  refine lv_topl (fun d1 ed1 => ?_)
  refine lv_lstore_n (lv' := [(2, .long d1), (0, .ref tp), (1, .int (nI n))]) hx hb dL_isAsked_9 rfl hl (by decide) rfl (fun ls hl => ?_)
  refine lv_aload_n hx hb dL_isAsked_10 rfl (lv_at hl 1 rfl) ?_
  refine kt_calli (w' := wTop tp (f 0) (f 1) (f 2) LYG_1 LYT_1 (f 3) (f 4) (f 5) ((rollF n E DG LYG_1).1) ((rollF n E DG LYG_1).2) (f 6) (f 7) (f 8) ((neutF n E DG NEG_2).1) ((neutF n E DG NEG_2).2) (f 9) (f 10) (f 11) ((ordX n E DG (rollF n E DG LYG_1).1 (neutF n E DG NEG_2).1 (fun _ => 0)).1) ((ordX n E DG (rollF n E DG LYG_1).1 (neutF n E DG NEG_2).1 (fun _ => 0)).2) (f 12) kr (fun _ _ => 0) 0 sw_1 tps_1 (f 13) (f 14) P 0 (f 15) (f 16) C (f 17) (f 18) (f 19) LG_2 LT_2 (f 20) (f 21) (f 22) OG_2 OT_2 cJ cJJ cI cII (f 23) (f 24) (f 25) (f 26) er n E DG tr T_2) (rest := []) (As := []) ⟨hx, hb, hml, hown, hts⟩ (c_X4_order l dC dI cI cII cJ cJJ tp (f 0) (f 1) (f 2) LYG_1 LYT_1 (f 3) (f 4) (f 5) TLG_2 TLT_2 (f 6) (f 7) (f 8) NEG_2 NET_2 (f 9) (f 10) (f 11) (fun _ => 0) (fun _ => 0) (f 12) kr (fun _ _ => 0) 0 sw_1 tps_1 (f 13) (f 14) P 0 (f 15) (f 16) C (f 17) (f 18) (f 19) LG_2 LT_2 (f 20) (f 21) (f 22) OG_2 OT_2 (f 23) (f 24) (f 25) (f 26) er n E DG tr T_2 _ (by omega) (hf)) (cwV 0 hts gL_isAsked_X4_order rfl rfl rfl (by decide +kernel) ⟨Nat.le_of_ble_eq_true rfl, Nat.le_of_ble_eq_true rfl⟩) hK hP hD hS hA (List.range' 0 45) (kt_sw_all rfl (by decide +kernel) rfl) rfl 0 kX4 rfl rfl rfl rfl rfl hl.1 (Nat.le_of_ble_eq_true rfl) dL_isAsked_11 ⟨Nat.le_of_ble_eq_true rfl, Nat.le_of_ble_eq_true rfl⟩ (fun H locs hP hD hS => ?_)
  have hP : va_P (dC, dI) vwCl (wTop tp (f 0) (f 1) (f 2) LYG_1 LYT_1 (f 3) (f 4) (f 5) ((rollF n E DG LYG_1).1) ((rollF n E DG LYG_1).2) (f 6) (f 7) (f 8) ((neutF n E DG NEG_2).1) ((neutF n E DG NEG_2).2) (f 9) (f 10) (f 11) ((ordX n E DG (rollF n E DG LYG_1).1 (neutF n E DG NEG_2).1 (fun _ => 0)).1) ((ordX n E DG (rollF n E DG LYG_1).1 (neutF n E DG NEG_2).1 (fun _ => 0)).2) (f 12) kr (fun _ _ => 0) 0 sw_1 tps_1 (f 13) (f 14) P 0 (f 15) (f 16) C (f 17) (f 18) (f 19) LG_2 LT_2 (f 20) (f 21) (f 22) OG_2 OT_2 cJ cJJ cI cII (f 23) (f 24) (f 25) (f 26) er n E DG tr T_2) H := hP
  have hD : va_D A (wTop tp (f 0) (f 1) (f 2) LYG_1 LYT_1 (f 3) (f 4) (f 5) ((rollF n E DG LYG_1).1) ((rollF n E DG LYG_1).2) (f 6) (f 7) (f 8) ((neutF n E DG NEG_2).1) ((neutF n E DG NEG_2).2) (f 9) (f 10) (f 11) ((ordX n E DG (rollF n E DG LYG_1).1 (neutF n E DG NEG_2).1 (fun _ => 0)).1) ((ordX n E DG (rollF n E DG LYG_1).1 (neutF n E DG NEG_2).1 (fun _ => 0)).2) (f 12) kr (fun _ _ => 0) 0 sw_1 tps_1 (f 13) (f 14) P 0 (f 15) (f 16) C (f 17) (f 18) (f 19) LG_2 LT_2 (f 20) (f 21) (f 22) OG_2 OT_2 cJ cJJ cI cII (f 23) (f 24) (f 25) (f 26) er n E DG tr T_2) := hD
  obtain ⟨SUG_3, eSUG_3⟩ : ∃ z : V1, z = ((ordX n E DG (rollF n E DG LYG_1).1 (neutF n E DG NEG_2).1 (fun _ => 0)).1) := ⟨_, rfl⟩
  rw [← eSUG_3] at hP hD
  obtain ⟨SUT_3, eSUT_3⟩ : ∃ z : V1, z = ((ordX n E DG (rollF n E DG LYG_1).1 (neutF n E DG NEG_2).1 (fun _ => 0)).2) := ⟨_, rfl⟩
  rw [← eSUT_3] at hP hD
  obtain ⟨TLG_3, eTLG_3⟩ : ∃ z : V1, z = ((rollF n E DG LYG_1).1) := ⟨_, rfl⟩
  rw [← eTLG_3] at hP hD
  obtain ⟨TLT_3, eTLT_3⟩ : ∃ z : V1, z = ((rollF n E DG LYG_1).2) := ⟨_, rfl⟩
  rw [← eTLT_3] at hP hD
  obtain ⟨NEG_3, eNEG_3⟩ : ∃ z : V1, z = ((neutF n E DG NEG_2).1) := ⟨_, rfl⟩
  rw [← eNEG_3] at hP hD
  obtain ⟨NET_3, eNET_3⟩ : ∃ z : V1, z = ((neutF n E DG NEG_2).2) := ⟨_, rfl⟩
  rw [← eNET_3] at hP hD
  have hP : va_P (dC, dI) vwCl (wTop tp (f 0) (f 1) (f 2) LYG_1 LYT_1 (f 3) (f 4) (f 5) TLG_3 TLT_3 (f 6) (f 7) (f 8) NEG_3 NET_3 (f 9) (f 10) (f 11) SUG_3 SUT_3 (f 12) kr (fun _ _ => 0) 0 sw_1 tps_1 (f 13) (f 14) P 0 (f 15) (f 16) C (f 17) (f 18) (f 19) LG_2 LT_2 (f 20) (f 21) (f 22) OG_2 OT_2 cJ cJJ cI cII (f 23) (f 24) (f 25) (f 26) er n E DG tr T_2) H := hP
  have hD : va_D A (wTop tp (f 0) (f 1) (f 2) LYG_1 LYT_1 (f 3) (f 4) (f 5) TLG_3 TLT_3 (f 6) (f 7) (f 8) NEG_3 NET_3 (f 9) (f 10) (f 11) SUG_3 SUT_3 (f 12) kr (fun _ _ => 0) 0 sw_1 tps_1 (f 13) (f 14) P 0 (f 15) (f 16) C (f 17) (f 18) (f 19) LG_2 LT_2 (f 20) (f 21) (f 22) OG_2 OT_2 cJ cJJ cI cII (f 23) (f 24) (f 25) (f 26) er n E DG tr T_2) := hD
  refine lv_topi (fun o1 eo1 => ?_)
  obtain ⟨ho1, ho2, ho3⟩ : ¬ o1 = 0 ∧ ¬ o1 < -1 ∧ ¬ nI 100 < o1 := by rw [eo1]; exact ordF_ok
  refine lv_istore (lv' := [(4, .int o1), (2, .long d1), (0, .ref tp), (1, .int (nI n))]) hx hb dL_isAsked_14 hl (by decide) rfl (fun ls hl => ?_)
  refine lv_iload hx hb dL_isAsked_16 (lv_at hl 0 rfl) ?_
  refine lv_if_eq (tgt := 58) hx hb dL_isAsked_18 (by decide) (fun c18 => ?_) (fun c18 => ?_)
  · exact absurd c18 ho1
  · skip
    refine lv_iload hx hb dL_isAsked_21 (lv_at hl 0 rfl) ?_
    refine lv_iconst (v := (-1)) hx hb dL_isAsked_23 (by decide) ?_
    refine lv_icmp_lt (tgt := 58) hx hb dL_isAsked_24 (by decide) (fun c24 => ?_) (fun c24 => ?_)
    · exact absurd c24 ho2
    · skip
      refine lv_iload hx hb dL_isAsked_27 (lv_at hl 0 rfl) ?_
      refine lv_bipush (v := nI 100) hx hb dL_isAsked_29 (by decide) ?_
      refine lv_icmp_gt (tgt := 58) hx hb dL_isAsked_31 (by decide) (fun c31 => ?_) (fun c31 => ?_)
      · exact absurd c31 ho3
      · skip
        refine lv_aload_n hx hb dL_isAsked_34 rfl (lv_at hl 2 rfl) ?_
        refine kt_calll (w' := wTop tp (f 0) (f 1) (f 2) LYG_1 LYT_1 (f 3) (f 4) (f 5) TLG_3 TLT_3 (f 6) (f 7) (f 8) NEG_3 NET_3 (f 9) (f 10) (f 11) SUG_3 SUT_3 (f 12) kr (fun _ _ => 0) 0 sw_1 tps_1 (f 13) (f 14) P 0 (f 15) (f 16) C (f 17) (f 18) (f 19) LG_2 LT_2 (f 20) (f 21) (f 22) OG_2 OT_2 cJ cJJ cI cII (f 23) (f 24) (f 25) (f 26) er n E DG tr ((treeF n E DG T_2).1)) (rest := []) (As := []) ⟨hx, hb, hml, hown, hts⟩ (c_X4_count l dC dI cI cII cJ cJJ tp (f 0) (f 1) (f 2) LYG_1 LYT_1 (f 3) (f 4) (f 5) TLG_3 TLT_3 (f 6) (f 7) (f 8) NEG_3 NET_3 (f 9) (f 10) (f 11) SUG_3 SUT_3 (f 12) kr (fun _ _ => 0) 0 sw_1 tps_1 (f 13) (f 14) P 0 (f 15) (f 16) C (f 17) (f 18) (f 19) LG_2 LT_2 (f 20) (f 21) (f 22) OG_2 OT_2 (f 23) (f 24) (f 25) (f 26) er n E DG tr T_2 _ (by omega)) (cwV 0 hts gL_isAsked_X4_count rfl rfl rfl (by decide +kernel) ⟨Nat.le_of_ble_eq_true rfl, Nat.le_of_ble_eq_true rfl⟩) hK hP hD hS hA (List.range' 0 45) (kt_sw_all rfl (by decide +kernel) rfl) rfl 0 kX4 rfl rfl rfl rfl rfl hl.1 (Nat.le_of_ble_eq_true rfl) dL_isAsked_35 ⟨Nat.le_of_ble_eq_true rfl, Nat.le_of_ble_eq_true rfl⟩ (fun H locs hP hD hS => ?_)
        have hP : va_P (dC, dI) vwCl (wTop tp (f 0) (f 1) (f 2) LYG_1 LYT_1 (f 3) (f 4) (f 5) TLG_3 TLT_3 (f 6) (f 7) (f 8) NEG_3 NET_3 (f 9) (f 10) (f 11) SUG_3 SUT_3 (f 12) kr (fun _ _ => 0) 0 sw_1 tps_1 (f 13) (f 14) P 0 (f 15) (f 16) C (f 17) (f 18) (f 19) LG_2 LT_2 (f 20) (f 21) (f 22) OG_2 OT_2 cJ cJJ cI cII (f 23) (f 24) (f 25) (f 26) er n E DG tr ((treeF n E DG T_2).1)) H := hP
        have hD : va_D A (wTop tp (f 0) (f 1) (f 2) LYG_1 LYT_1 (f 3) (f 4) (f 5) TLG_3 TLT_3 (f 6) (f 7) (f 8) NEG_3 NET_3 (f 9) (f 10) (f 11) SUG_3 SUT_3 (f 12) kr (fun _ _ => 0) 0 sw_1 tps_1 (f 13) (f 14) P 0 (f 15) (f 16) C (f 17) (f 18) (f 19) LG_2 LT_2 (f 20) (f 21) (f 22) OG_2 OT_2 cJ cJJ cI cII (f 23) (f 24) (f 25) (f 26) er n E DG tr ((treeF n E DG T_2).1)) := hD
        obtain ⟨T_4, eT_4⟩ : ∃ z : L2, z = ((treeF n E DG T_2).1) := ⟨_, rfl⟩
        rw [← eT_4] at hP hD
        have hP : va_P (dC, dI) vwCl (wTop tp (f 0) (f 1) (f 2) LYG_1 LYT_1 (f 3) (f 4) (f 5) TLG_3 TLT_3 (f 6) (f 7) (f 8) NEG_3 NET_3 (f 9) (f 10) (f 11) SUG_3 SUT_3 (f 12) kr (fun _ _ => 0) 0 sw_1 tps_1 (f 13) (f 14) P 0 (f 15) (f 16) C (f 17) (f 18) (f 19) LG_2 LT_2 (f 20) (f 21) (f 22) OG_2 OT_2 cJ cJJ cI cII (f 23) (f 24) (f 25) (f 26) er n E DG tr T_4) H := hP
        have hD : va_D A (wTop tp (f 0) (f 1) (f 2) LYG_1 LYT_1 (f 3) (f 4) (f 5) TLG_3 TLT_3 (f 6) (f 7) (f 8) NEG_3 NET_3 (f 9) (f 10) (f 11) SUG_3 SUT_3 (f 12) kr (fun _ _ => 0) 0 sw_1 tps_1 (f 13) (f 14) P 0 (f 15) (f 16) C (f 17) (f 18) (f 19) LG_2 LT_2 (f 20) (f 21) (f 22) OG_2 OT_2 cJ cJJ cI cII (f 23) (f 24) (f 25) (f 26) er n E DG tr T_4) := hD
        refine lv_topl (fun n1 en1 => ?_)
        refine lv_lconst (v := 1) hx hb dL_isAsked_38 (by decide) ?_
        refine W.lcmp hx hb dL_isAsked_39 ?_
        refine lv_if_lt (tgt := 58) hx hb dL_isAsked_40 (by decide) (fun c40 => ?_) (fun c40 => ?_)
        · exact count_not en1 M9 hn hn0 c40
        · skip
          refine lv_aload_n hx hb dL_isAsked_43 rfl (lv_at hl 2 rfl) ?_
          refine kt_calli (w' := wTop tp (f 0) (f 1) (f 2) LYG_1 LYT_1 (f 3) (f 4) (f 5) TLG_3 TLT_3 (f 6) (f 7) (f 8) NEG_3 NET_3 (f 9) (f 10) (f 11) SUG_3 SUT_3 (f 12) kr (fun _ _ => 0) 0 sw_1 tps_1 (f 13) (f 14) P 0 (f 15) (f 16) C (f 17) (f 18) (f 19) ((findF n E DG C LG_2).1) ((findF n E DG C LG_2).2) (f 20) (f 21) (f 22) ((poorX n E DG C LG_2 OG_2 OT_2).1) ((poorX n E DG C LG_2 OG_2 OT_2).2) cJ cJJ cI cII (f 23) (f 24) (f 25) (f 26) er n E DG tr T_4) (rest := []) (As := []) ⟨hx, hb, hml, hown, hts⟩ (c_X4_weakest l dC dI cI cII cJ cJJ tp (f 0) (f 1) (f 2) LYG_1 LYT_1 (f 3) (f 4) (f 5) TLG_3 TLT_3 (f 6) (f 7) (f 8) NEG_3 NET_3 (f 9) (f 10) (f 11) SUG_3 SUT_3 (f 12) kr (fun _ _ => 0) 0 sw_1 tps_1 (f 13) (f 14) P 0 (f 15) (f 16) C (f 17) (f 18) (f 19) LG_2 LT_2 (f 20) (f 21) (f 22) OG_2 OT_2 (f 23) (f 24) (f 25) (f 26) er n E DG tr T_4 _ (by omega) (hf)) (cwV 0 hts gL_isAsked_X4_weakest rfl rfl rfl (by decide +kernel) ⟨Nat.le_of_ble_eq_true rfl, Nat.le_of_ble_eq_true rfl⟩) hK hP hD hS hA (List.range' 0 45) (kt_sw_all rfl (by decide +kernel) rfl) rfl 0 kX4 rfl rfl rfl rfl rfl hl.1 (Nat.le_of_ble_eq_true rfl) dL_isAsked_44 ⟨Nat.le_of_ble_eq_true rfl, Nat.le_of_ble_eq_true rfl⟩ (fun H locs hP hD hS => ?_)
          have hP : va_P (dC, dI) vwCl (wTop tp (f 0) (f 1) (f 2) LYG_1 LYT_1 (f 3) (f 4) (f 5) TLG_3 TLT_3 (f 6) (f 7) (f 8) NEG_3 NET_3 (f 9) (f 10) (f 11) SUG_3 SUT_3 (f 12) kr (fun _ _ => 0) 0 sw_1 tps_1 (f 13) (f 14) P 0 (f 15) (f 16) C (f 17) (f 18) (f 19) ((findF n E DG C LG_2).1) ((findF n E DG C LG_2).2) (f 20) (f 21) (f 22) ((poorX n E DG C LG_2 OG_2 OT_2).1) ((poorX n E DG C LG_2 OG_2 OT_2).2) cJ cJJ cI cII (f 23) (f 24) (f 25) (f 26) er n E DG tr T_4) H := hP
          have hD : va_D A (wTop tp (f 0) (f 1) (f 2) LYG_1 LYT_1 (f 3) (f 4) (f 5) TLG_3 TLT_3 (f 6) (f 7) (f 8) NEG_3 NET_3 (f 9) (f 10) (f 11) SUG_3 SUT_3 (f 12) kr (fun _ _ => 0) 0 sw_1 tps_1 (f 13) (f 14) P 0 (f 15) (f 16) C (f 17) (f 18) (f 19) ((findF n E DG C LG_2).1) ((findF n E DG C LG_2).2) (f 20) (f 21) (f 22) ((poorX n E DG C LG_2 OG_2 OT_2).1) ((poorX n E DG C LG_2 OG_2 OT_2).2) cJ cJJ cI cII (f 23) (f 24) (f 25) (f 26) er n E DG tr T_4) := hD
          obtain ⟨OG_5, eOG_5⟩ : ∃ z : V1, z = ((poorX n E DG C LG_2 OG_2 OT_2).1) := ⟨_, rfl⟩
          rw [← eOG_5] at hP hD
          obtain ⟨OT_5, eOT_5⟩ : ∃ z : V1, z = ((poorX n E DG C LG_2 OG_2 OT_2).2) := ⟨_, rfl⟩
          rw [← eOT_5] at hP hD
          obtain ⟨LG_5, eLG_5⟩ : ∃ z : V1, z = ((findF n E DG C LG_2).1) := ⟨_, rfl⟩
          rw [← eLG_5] at hP hD
          obtain ⟨LT_5, eLT_5⟩ : ∃ z : V1, z = ((findF n E DG C LG_2).2) := ⟨_, rfl⟩
          rw [← eLT_5] at hP hD
          have hP : va_P (dC, dI) vwCl (wTop tp (f 0) (f 1) (f 2) LYG_1 LYT_1 (f 3) (f 4) (f 5) TLG_3 TLT_3 (f 6) (f 7) (f 8) NEG_3 NET_3 (f 9) (f 10) (f 11) SUG_3 SUT_3 (f 12) kr (fun _ _ => 0) 0 sw_1 tps_1 (f 13) (f 14) P 0 (f 15) (f 16) C (f 17) (f 18) (f 19) LG_5 LT_5 (f 20) (f 21) (f 22) OG_5 OT_5 cJ cJJ cI cII (f 23) (f 24) (f 25) (f 26) er n E DG tr T_4) H := hP
          have hD : va_D A (wTop tp (f 0) (f 1) (f 2) LYG_1 LYT_1 (f 3) (f 4) (f 5) TLG_3 TLT_3 (f 6) (f 7) (f 8) NEG_3 NET_3 (f 9) (f 10) (f 11) SUG_3 SUT_3 (f 12) kr (fun _ _ => 0) 0 sw_1 tps_1 (f 13) (f 14) P 0 (f 15) (f 16) C (f 17) (f 18) (f 19) LG_5 LT_5 (f 20) (f 21) (f 22) OG_5 OT_5 cJ cJJ cI cII (f 23) (f 24) (f 25) (f 26) er n E DG tr T_4) := hD
          refine lv_topi (fun w1 ew1 => ?_)
          refine lv_iconst (v := (-1)) hx hb dL_isAsked_47 (by decide) ?_
          refine kt_joinP (α := V1 × V1) (A := A) (H0 := s.heap) (D := (dC, dI)) (fun x => wTop tp (f 0) (f 1) (f 2) LYG_1 LYT_1 (f 3) (f 4) (f 5) TLG_3 TLT_3 (f 6) (f 7) (f 8) NEG_3 NET_3 (f 9) (f 10) (f 11) SUG_3 SUT_3 (f 12) kr (fun _ _ => 0) 0 sw_1 tps_1 (f 13) (f 14) P 0 (f 15) (f 16) C (f 17) (f 18) (f 19) x.1 x.2 (f 20) (f 21) (f 22) OG_5 OT_5 cJ cJJ cI cII (f 23) (f 24) (f 25) (f 26) er n E DG tr T_4) [(4, .int o1), (2, .long d1), (0, .ref tp), (1, .int (nI n))] 6 60 [] (fun x H locs ls hP hD hS hl => ?_) (fun J60 => ?_)
          · obtain ⟨LGx, LTx⟩ := x
            have hP : va_P (dC, dI) vwCl (wTop tp (f 0) (f 1) (f 2) LYG_1 LYT_1 (f 3) (f 4) (f 5) TLG_3 TLT_3 (f 6) (f 7) (f 8) NEG_3 NET_3 (f 9) (f 10) (f 11) SUG_3 SUT_3 (f 12) kr (fun _ _ => 0) 0 sw_1 tps_1 (f 13) (f 14) P 0 (f 15) (f 16) C (f 17) (f 18) (f 19) LGx LTx (f 20) (f 21) (f 22) OG_5 OT_5 cJ cJJ cI cII (f 23) (f 24) (f 25) (f 26) er n E DG tr T_4) H := hP
            have hD : va_D A (wTop tp (f 0) (f 1) (f 2) LYG_1 LYT_1 (f 3) (f 4) (f 5) TLG_3 TLT_3 (f 6) (f 7) (f 8) NEG_3 NET_3 (f 9) (f 10) (f 11) SUG_3 SUT_3 (f 12) kr (fun _ _ => 0) 0 sw_1 tps_1 (f 13) (f 14) P 0 (f 15) (f 16) C (f 17) (f 18) (f 19) LGx LTx (f 20) (f 21) (f 22) OG_5 OT_5 cJ cJJ cI cII (f 23) (f 24) (f 25) (f 26) er n E DG tr T_4) := hD
            refine lv_aload_n hx hb dL_isAsked_60 rfl (lv_at hl 2 rfl) ?_
            refine kt_calll (w' := wTop tp (f 0) (f 1) (f 2) LYG_1 LYT_1 (f 3) (f 4) (f 5) ((fastX n E DG LYG_1 TLG_3 TLT_3 NEG_3 (dig4 n E DG LYG_1 LYT_1 P C sw_1 tps_1 0 0 (fun _ _ => 0) T_4)).2.1) ((fastX n E DG LYG_1 TLG_3 TLT_3 NEG_3 (dig4 n E DG LYG_1 LYT_1 P C sw_1 tps_1 0 0 (fun _ _ => 0) T_4)).2.2) (f 6) (f 7) (f 8) ((neutF n E DG NEG_3).1) ((neutF n E DG NEG_3).2) (f 9) (f 10) (f 11) SUG_3 SUT_3 (f 12) kr (fun _ _ => 0) 0 sw_1 tps_1 (f 13) (f 14) P 0 (f 15) (f 16) C (f 17) (f 18) (f 19) ((findF n E DG C (findF n E DG C LGx).1).1) ((findF n E DG C (findF n E DG C LGx).1).2) (f 20) (f 21) (f 22) ((poorX n E DG C (findF n E DG C LGx).1 OG_5 OT_5).1) ((poorX n E DG C (findF n E DG C LGx).1 OG_5 OT_5).2) cJ cJJ cI cII (f 23) (f 24) (f 25) (f 26) er n E DG tr ((treeF n E DG T_4).1)) (rest := []) (As := []) ⟨hx, hb, hml, hown, hts⟩ (c_X4_digest l dC dI cI cII cJ cJJ tp (f 0) (f 1) (f 2) LYG_1 LYT_1 (f 3) (f 4) (f 5) TLG_3 TLT_3 (f 6) (f 7) (f 8) NEG_3 NET_3 (f 9) (f 10) (f 11) SUG_3 SUT_3 (f 12) kr (fun _ _ => 0) 0 sw_1 tps_1 (f 13) (f 14) P 0 (f 15) (f 16) C (f 17) (f 18) (f 19) LGx LTx (f 20) (f 21) (f 22) OG_5 OT_5 (f 23) (f 24) (f 25) (f 26) er n E DG tr T_4 _ (by omega) (Nat.zero_le 4) (hf)) (cwV 0 hts gL_isAsked_X4_digest rfl rfl rfl (by decide +kernel) ⟨Nat.le_of_ble_eq_true rfl, Nat.le_of_ble_eq_true rfl⟩) hK hP hD hS hA (List.range' 0 45) (kt_sw_all rfl (by decide +kernel) rfl) rfl 0 kX4 rfl rfl rfl rfl rfl hl.1 (Nat.le_of_ble_eq_true rfl) dL_isAsked_61 ⟨Nat.le_of_ble_eq_true rfl, Nat.le_of_ble_eq_true rfl⟩ (fun H locs hP hD hS => ?_)
            have hP : va_P (dC, dI) vwCl (wTop tp (f 0) (f 1) (f 2) LYG_1 LYT_1 (f 3) (f 4) (f 5) ((fastX n E DG LYG_1 TLG_3 TLT_3 NEG_3 (dig4 n E DG LYG_1 LYT_1 P C sw_1 tps_1 0 0 (fun _ _ => 0) T_4)).2.1) ((fastX n E DG LYG_1 TLG_3 TLT_3 NEG_3 (dig4 n E DG LYG_1 LYT_1 P C sw_1 tps_1 0 0 (fun _ _ => 0) T_4)).2.2) (f 6) (f 7) (f 8) ((neutF n E DG NEG_3).1) ((neutF n E DG NEG_3).2) (f 9) (f 10) (f 11) SUG_3 SUT_3 (f 12) kr (fun _ _ => 0) 0 sw_1 tps_1 (f 13) (f 14) P 0 (f 15) (f 16) C (f 17) (f 18) (f 19) ((findF n E DG C (findF n E DG C LGx).1).1) ((findF n E DG C (findF n E DG C LGx).1).2) (f 20) (f 21) (f 22) ((poorX n E DG C (findF n E DG C LGx).1 OG_5 OT_5).1) ((poorX n E DG C (findF n E DG C LGx).1 OG_5 OT_5).2) cJ cJJ cI cII (f 23) (f 24) (f 25) (f 26) er n E DG tr ((treeF n E DG T_4).1)) H := hP
            have hD : va_D A (wTop tp (f 0) (f 1) (f 2) LYG_1 LYT_1 (f 3) (f 4) (f 5) ((fastX n E DG LYG_1 TLG_3 TLT_3 NEG_3 (dig4 n E DG LYG_1 LYT_1 P C sw_1 tps_1 0 0 (fun _ _ => 0) T_4)).2.1) ((fastX n E DG LYG_1 TLG_3 TLT_3 NEG_3 (dig4 n E DG LYG_1 LYT_1 P C sw_1 tps_1 0 0 (fun _ _ => 0) T_4)).2.2) (f 6) (f 7) (f 8) ((neutF n E DG NEG_3).1) ((neutF n E DG NEG_3).2) (f 9) (f 10) (f 11) SUG_3 SUT_3 (f 12) kr (fun _ _ => 0) 0 sw_1 tps_1 (f 13) (f 14) P 0 (f 15) (f 16) C (f 17) (f 18) (f 19) ((findF n E DG C (findF n E DG C LGx).1).1) ((findF n E DG C (findF n E DG C LGx).1).2) (f 20) (f 21) (f 22) ((poorX n E DG C (findF n E DG C LGx).1 OG_5 OT_5).1) ((poorX n E DG C (findF n E DG C LGx).1 OG_5 OT_5).2) cJ cJJ cI cII (f 23) (f 24) (f 25) (f 26) er n E DG tr ((treeF n E DG T_4).1)) := hD
            obtain ⟨TLG_6, eTLG_6⟩ : ∃ z : V1, z = ((fastX n E DG LYG_1 TLG_3 TLT_3 NEG_3 (dig4 n E DG LYG_1 LYT_1 P C sw_1 tps_1 0 0 (fun _ _ => 0) T_4)).2.1) := ⟨_, rfl⟩
            rw [← eTLG_6] at hP hD
            obtain ⟨TLT_6, eTLT_6⟩ : ∃ z : V1, z = ((fastX n E DG LYG_1 TLG_3 TLT_3 NEG_3 (dig4 n E DG LYG_1 LYT_1 P C sw_1 tps_1 0 0 (fun _ _ => 0) T_4)).2.2) := ⟨_, rfl⟩
            rw [← eTLT_6] at hP hD
            obtain ⟨OG_6, eOG_6⟩ : ∃ z : V1, z = ((poorX n E DG C (findF n E DG C LGx).1 OG_5 OT_5).1) := ⟨_, rfl⟩
            rw [← eOG_6] at hP hD
            obtain ⟨OT_6, eOT_6⟩ : ∃ z : V1, z = ((poorX n E DG C (findF n E DG C LGx).1 OG_5 OT_5).2) := ⟨_, rfl⟩
            rw [← eOT_6] at hP hD
            obtain ⟨LG_6, eLG_6⟩ : ∃ z : V1, z = ((findF n E DG C (findF n E DG C LGx).1).1) := ⟨_, rfl⟩
            rw [← eLG_6] at hP hD
            obtain ⟨LT_6, eLT_6⟩ : ∃ z : V1, z = ((findF n E DG C (findF n E DG C LGx).1).2) := ⟨_, rfl⟩
            rw [← eLT_6] at hP hD
            obtain ⟨NEG_6, eNEG_6⟩ : ∃ z : V1, z = ((neutF n E DG NEG_3).1) := ⟨_, rfl⟩
            rw [← eNEG_6] at hP hD
            obtain ⟨NET_6, eNET_6⟩ : ∃ z : V1, z = ((neutF n E DG NEG_3).2) := ⟨_, rfl⟩
            rw [← eNET_6] at hP hD
            obtain ⟨T_6, eT_6⟩ : ∃ z : L2, z = ((treeF n E DG T_4).1) := ⟨_, rfl⟩
            rw [← eT_6] at hP hD
            have hP : va_P (dC, dI) vwCl (wTop tp (f 0) (f 1) (f 2) LYG_1 LYT_1 (f 3) (f 4) (f 5) TLG_6 TLT_6 (f 6) (f 7) (f 8) NEG_6 NET_6 (f 9) (f 10) (f 11) SUG_3 SUT_3 (f 12) kr (fun _ _ => 0) 0 sw_1 tps_1 (f 13) (f 14) P 0 (f 15) (f 16) C (f 17) (f 18) (f 19) LG_6 LT_6 (f 20) (f 21) (f 22) OG_6 OT_6 cJ cJJ cI cII (f 23) (f 24) (f 25) (f 26) er n E DG tr T_6) H := hP
            have hD : va_D A (wTop tp (f 0) (f 1) (f 2) LYG_1 LYT_1 (f 3) (f 4) (f 5) TLG_6 TLT_6 (f 6) (f 7) (f 8) NEG_6 NET_6 (f 9) (f 10) (f 11) SUG_3 SUT_3 (f 12) kr (fun _ _ => 0) 0 sw_1 tps_1 (f 13) (f 14) P 0 (f 15) (f 16) C (f 17) (f 18) (f 19) LG_6 LT_6 (f 20) (f 21) (f 22) OG_6 OT_6 cJ cJJ cI cII (f 23) (f 24) (f 25) (f 26) er n E DG tr T_6) := hD
            refine lv_topl (fun d2 ed2 => ?_)
            refine lv_lload_n hx hb dL_isAsked_64 rfl (lv_at hl 1 rfl) ?_
            refine W.lcmp hx hb dL_isAsked_65 ?_
            refine lv_if_eq (tgt := 71) hx hb dL_isAsked_66 (by decide) (fun c66 => ?_) (fun c66 => ?_)
            · skip
              refine lv_aload_n hx hb dL_isAsked_71 rfl (lv_at hl 2 rfl) ?_
              refine kt_calli (w' := wTop tp (f 0) (f 1) (f 2) (fun _ => 0) LYT_1 (f 3) (f 4) (f 5) TLG_6 TLT_6 (f 6) (f 7) (f 8) NEG_6 NET_6 (f 9) (f 10) (f 11) SUG_3 SUT_3 (f 12) kr (fun _ _ => 0) 0 sw_1 tps_1 (f 13) (f 14) P 0 (f 15) (f 16) C (f 17) (f 18) (f 19) LG_6 LT_6 (f 20) (f 21) (f 22) OG_6 OT_6 cJ cJJ cI cII (f 23) (f 24) (f 25) (f 26) er n E DG tr T_6) (rest := []) (As := []) ⟨hx, hb, hml, hown, hts⟩ (c_X4_sweep l dC dI cI cII cJ cJJ tp (f 0) (f 1) (f 2) LYG_1 LYT_1 (f 3) (f 4) (f 5) TLG_6 TLT_6 (f 6) (f 7) (f 8) NEG_6 NET_6 (f 9) (f 10) (f 11) SUG_3 SUT_3 (f 12) kr (fun _ _ => 0) 0 sw_1 tps_1 (f 13) (f 14) P 0 (f 15) (f 16) C (f 17) (f 18) (f 19) LG_6 LT_6 (f 20) (f 21) (f 22) OG_6 OT_6 (f 23) (f 24) (f 25) (f 26) er n E DG tr T_6 _ (by omega)) (cwV 0 hts gL_isAsked_X4_sweep rfl rfl rfl (by decide +kernel) ⟨Nat.le_of_ble_eq_true rfl, Nat.le_of_ble_eq_true rfl⟩) hK hP hD hS hA (List.range' 0 45) (kt_sw_all rfl (by decide +kernel) rfl) rfl 0 kX4 rfl rfl rfl rfl rfl hl.1 (Nat.le_of_ble_eq_true rfl) dL_isAsked_72 ⟨Nat.le_of_ble_eq_true rfl, Nat.le_of_ble_eq_true rfl⟩ (fun H locs hP hD hS => ?_)
              have hP : va_P (dC, dI) vwCl (wTop tp (f 0) (f 1) (f 2) (fun _ => 0) LYT_1 (f 3) (f 4) (f 5) TLG_6 TLT_6 (f 6) (f 7) (f 8) NEG_6 NET_6 (f 9) (f 10) (f 11) SUG_3 SUT_3 (f 12) kr (fun _ _ => 0) 0 sw_1 tps_1 (f 13) (f 14) P 0 (f 15) (f 16) C (f 17) (f 18) (f 19) LG_6 LT_6 (f 20) (f 21) (f 22) OG_6 OT_6 cJ cJJ cI cII (f 23) (f 24) (f 25) (f 26) er n E DG tr T_6) H := hP
              have hD : va_D A (wTop tp (f 0) (f 1) (f 2) (fun _ => 0) LYT_1 (f 3) (f 4) (f 5) TLG_6 TLT_6 (f 6) (f 7) (f 8) NEG_6 NET_6 (f 9) (f 10) (f 11) SUG_3 SUT_3 (f 12) kr (fun _ _ => 0) 0 sw_1 tps_1 (f 13) (f 14) P 0 (f 15) (f 16) C (f 17) (f 18) (f 19) LG_6 LT_6 (f 20) (f 21) (f 22) OG_6 OT_6 cJ cJJ cI cII (f 23) (f 24) (f 25) (f 26) er n E DG tr T_6) := hD
              have hP : va_P (dC, dI) vwCl (wTop tp (f 0) (f 1) (f 2) (fun _ => 0) LYT_1 (f 3) (f 4) (f 5) TLG_6 TLT_6 (f 6) (f 7) (f 8) NEG_6 NET_6 (f 9) (f 10) (f 11) SUG_3 SUT_3 (f 12) kr (fun _ _ => 0) 0 sw_1 tps_1 (f 13) (f 14) P 0 (f 15) (f 16) C (f 17) (f 18) (f 19) LG_6 LT_6 (f 20) (f 21) (f 22) OG_6 OT_6 cJ cJJ cI cII (f 23) (f 24) (f 25) (f 26) er n E DG tr T_6) H := hP
              have hD : va_D A (wTop tp (f 0) (f 1) (f 2) (fun _ => 0) LYT_1 (f 3) (f 4) (f 5) TLG_6 TLT_6 (f 6) (f 7) (f 8) NEG_6 NET_6 (f 9) (f 10) (f 11) SUG_3 SUT_3 (f 12) kr (fun _ _ => 0) 0 sw_1 tps_1 (f 13) (f 14) P 0 (f 15) (f 16) C (f 17) (f 18) (f 19) LG_6 LT_6 (f 20) (f 21) (f 22) OG_6 OT_6 cJ cJJ cI cII (f 23) (f 24) (f 25) (f 26) er n E DG tr T_6) := hD
              refine lv_pop hx hb dL_isAsked_75 rfl ?_
              refine lv_iconst (v := nI 0) hx hb dL_isAsked_76 (by decide) ?_
              refine lv_istore (lv' := [(5, .int (nI 0)), (4, .int o1), (2, .long d1), (0, .ref tp), (1, .int (nI n))]) hx hb dL_isAsked_77 hl (by decide) rfl (fun ls hl => ?_)
              obtain ⟨c, hNc, hc0⟩ := neut_spec M9 (by omega) NEG_6
              have hcN : ∀ G : V1, Cfg n (neutF n E DG G).1 c := fun G => neu_any hc0 G
              refine kt_loop (σ := Nat × V1 × V1 × V1) (μ := fun x => n - x.1) (I := fun x => x.1 ≤ n ∧ Put n c x.1 x.2.1) (WD := fun x => wTop tp (f 0) (f 1) (f 2) x.2.1 LYT_1 (f 3) (f 4) (f 5) TLG_6 TLT_6 (f 6) (f 7) (f 8) x.2.2.1 x.2.2.2 (f 9) (f 10) (f 11) SUG_3 SUT_3 (f 12) kr (fun _ _ => 0) 0 sw_1 tps_1 (f 13) (f 14) P 0 (f 15) (f 16) C (f 17) (f 18) (f 19) LG_6 LT_6 (f 20) (f 21) (f 22) OG_6 OT_6 cJ cJJ cI cII (f 23) (f 24) (f 25) (f 26) er n E DG tr T_6) (LV := fun x => [(5, .int (nI x.1)), (0, .ref tp), (1, .int (nI n))]) (nL := 6) (hd := 79) ?_ (0, fun _ => 0, NEG_6, NET_6) ⟨Nat.zero_le n, put_zero c⟩ hP hD hS (lv_sub hl [0, 3, 4] rfl)
              intro x hI ihk H locs ls hP hD hS hl
              obtain ⟨k, Gk, NEk, NTk⟩ := x
              obtain ⟨hk, hput⟩ : k ≤ n ∧ Put n c k Gk := hI
              have hP : va_P (dC, dI) vwCl (wTop tp (f 0) (f 1) (f 2) Gk LYT_1 (f 3) (f 4) (f 5) TLG_6 TLT_6 (f 6) (f 7) (f 8) NEk NTk (f 9) (f 10) (f 11) SUG_3 SUT_3 (f 12) kr (fun _ _ => 0) 0 sw_1 tps_1 (f 13) (f 14) P 0 (f 15) (f 16) C (f 17) (f 18) (f 19) LG_6 LT_6 (f 20) (f 21) (f 22) OG_6 OT_6 cJ cJJ cI cII (f 23) (f 24) (f 25) (f 26) er n E DG tr T_6) H := hP
              have hD : va_D A (wTop tp (f 0) (f 1) (f 2) Gk LYT_1 (f 3) (f 4) (f 5) TLG_6 TLT_6 (f 6) (f 7) (f 8) NEk NTk (f 9) (f 10) (f 11) SUG_3 SUT_3 (f 12) kr (fun _ _ => 0) 0 sw_1 tps_1 (f 13) (f 14) P 0 (f 15) (f 16) C (f 17) (f 18) (f 19) LG_6 LT_6 (f 20) (f 21) (f 22) OG_6 OT_6 cJ cJJ cI cII (f 23) (f 24) (f 25) (f 26) er n E DG tr T_6) := hD
              have hl : lv_has ls 6 [(5, .int (nI k)), (0, .ref tp), (1, .int (nI n))] := hl
              refine lv_iload hx hb dL_isAsked_79 (lv_at hl 0 rfl) ?_
              refine lv_iload_n hx hb dL_isAsked_81 rfl (lv_at hl 2 rfl) ?_
              refine kt_ige (i := k) (n := n) (tgt := 113) hx hb (by omega) (by omega) dL_isAsked_82 (by decide) (fun ck => ?_) (fun ck => ?_)
              · skip
                have ek : k = n := by omega
                rw [ek] at hput
                have hGc : Cfg n Gk c := put_all hput
                have hXK := mok_moor M9 (show n ≤ 6 by omega)
                refine lv_aload_n hx hb dL_isAsked_113 rfl (lv_at hl 1 rfl) ?_
                refine kt_calli (w' := wTop tp (f 0) (f 1) (f 2) Gk LYT_1 (f 3) (f 4) (f 5) ((lieX n E DG Gk TLG_6 TLT_6).1) ((lieX n E DG Gk TLG_6 TLT_6).2) (f 6) (f 7) (f 8) NEk NTk (f 9) (f 10) (f 11) SUG_3 SUT_3 (f 12) kr (fun _ _ => 0) 0 sw_1 tps_1 (f 13) (f 14) P 0 (f 15) (f 16) C (f 17) (f 18) (f 19) LG_6 LT_6 (f 20) (f 21) (f 22) OG_6 OT_6 cJ cJJ cI cII (f 23) (f 24) (f 25) (f 26) er n E DG tr T_6) (rest := []) (As := []) ⟨hx, hb, hml, hown, hts⟩ (c_X4_isLasting l dC dI cI cII cJ cJJ tp (f 0) (f 1) (f 2) Gk LYT_1 (f 3) (f 4) (f 5) TLG_6 TLT_6 (f 6) (f 7) (f 8) NEk NTk (f 9) (f 10) (f 11) SUG_3 SUT_3 (f 12) kr (fun _ _ => 0) 0 sw_1 tps_1 (f 13) (f 14) P 0 (f 15) (f 16) C (f 17) (f 18) (f 19) LG_6 LT_6 (f 20) (f 21) (f 22) OG_6 OT_6 (f 23) (f 24) (f 25) (f 26) er n E DG tr T_6 _ (by omega) (hf)) (cwV 0 hts gL_isAsked_X4_isLasting rfl rfl rfl (by decide +kernel) ⟨Nat.le_of_ble_eq_true rfl, Nat.le_of_ble_eq_true rfl⟩) hK hP hD hS hA (List.range' 0 45) (kt_sw_all rfl (by decide +kernel) rfl) rfl 0 kX4 rfl rfl rfl rfl rfl hl.1 (Nat.le_of_ble_eq_true rfl) dL_isAsked_114 ⟨Nat.le_of_ble_eq_true rfl, Nat.le_of_ble_eq_true rfl⟩ (fun H locs hP hD hS => ?_)
                have hP : va_P (dC, dI) vwCl (wTop tp (f 0) (f 1) (f 2) Gk LYT_1 (f 3) (f 4) (f 5) ((lieX n E DG Gk TLG_6 TLT_6).1) ((lieX n E DG Gk TLG_6 TLT_6).2) (f 6) (f 7) (f 8) NEk NTk (f 9) (f 10) (f 11) SUG_3 SUT_3 (f 12) kr (fun _ _ => 0) 0 sw_1 tps_1 (f 13) (f 14) P 0 (f 15) (f 16) C (f 17) (f 18) (f 19) LG_6 LT_6 (f 20) (f 21) (f 22) OG_6 OT_6 cJ cJJ cI cII (f 23) (f 24) (f 25) (f 26) er n E DG tr T_6) H := hP
                have hD : va_D A (wTop tp (f 0) (f 1) (f 2) Gk LYT_1 (f 3) (f 4) (f 5) ((lieX n E DG Gk TLG_6 TLT_6).1) ((lieX n E DG Gk TLG_6 TLT_6).2) (f 6) (f 7) (f 8) NEk NTk (f 9) (f 10) (f 11) SUG_3 SUT_3 (f 12) kr (fun _ _ => 0) 0 sw_1 tps_1 (f 13) (f 14) P 0 (f 15) (f 16) C (f 17) (f 18) (f 19) LG_6 LT_6 (f 20) (f 21) (f 22) OG_6 OT_6 cJ cJJ cI cII (f 23) (f 24) (f 25) (f 26) er n E DG tr T_6) := hD
                obtain ⟨TLG_8, eTLG_8⟩ : ∃ z : V1, z = ((lieX n E DG Gk TLG_6 TLT_6).1) := ⟨_, rfl⟩
                rw [← eTLG_8] at hP hD
                obtain ⟨TLT_8, eTLT_8⟩ : ∃ z : V1, z = ((lieX n E DG Gk TLG_6 TLT_6).2) := ⟨_, rfl⟩
                rw [← eTLT_8] at hP hD
                have hP : va_P (dC, dI) vwCl (wTop tp (f 0) (f 1) (f 2) Gk LYT_1 (f 3) (f 4) (f 5) TLG_8 TLT_8 (f 6) (f 7) (f 8) NEk NTk (f 9) (f 10) (f 11) SUG_3 SUT_3 (f 12) kr (fun _ _ => 0) 0 sw_1 tps_1 (f 13) (f 14) P 0 (f 15) (f 16) C (f 17) (f 18) (f 19) LG_6 LT_6 (f 20) (f 21) (f 22) OG_6 OT_6 cJ cJJ cI cII (f 23) (f 24) (f 25) (f 26) er n E DG tr T_6) H := hP
                have hD : va_D A (wTop tp (f 0) (f 1) (f 2) Gk LYT_1 (f 3) (f 4) (f 5) TLG_8 TLT_8 (f 6) (f 7) (f 8) NEk NTk (f 9) (f 10) (f 11) SUG_3 SUT_3 (f 12) kr (fun _ _ => 0) 0 sw_1 tps_1 (f 13) (f 14) P 0 (f 15) (f 16) C (f 17) (f 18) (f 19) LG_6 LT_6 (f 20) (f 21) (f 22) OG_6 OT_6 cJ cJJ cI cII (f 23) (f 24) (f 25) (f 26) er n E DG tr T_6) := hD
                refine lv_if_eq (tgt := 141) hx hb dL_isAsked_117 (by decide) (fun c117 => ?_) (fun c117 => ?_)
                · exact absurd c117 (b2i_ne0.mpr (neu_lies hXK.1 hXK.2 (by omega) hNc hGc).2)
                · skip
                  refine lv_aload_n hx hb dL_isAsked_120 rfl (lv_at hl 1 rfl) ?_
                  refine kt_calli (w' := wTop tp (f 0) (f 1) (f 2) Gk LYT_1 (f 3) (f 4) (f 5) ((rollF n E DG Gk).1) ((rollF n E DG Gk).2) (f 6) (f 7) (f 8) ((neutF n E DG NEk).1) ((neutF n E DG NEk).2) (f 9) (f 10) (f 11) ((ordX n E DG (rollF n E DG Gk).1 (neutF n E DG NEk).1 SUT_3).1) ((ordX n E DG (rollF n E DG Gk).1 (neutF n E DG NEk).1 SUT_3).2) (f 12) kr (fun _ _ => 0) 0 sw_1 tps_1 (f 13) (f 14) P 0 (f 15) (f 16) C (f 17) (f 18) (f 19) LG_6 LT_6 (f 20) (f 21) (f 22) OG_6 OT_6 cJ cJJ cI cII (f 23) (f 24) (f 25) (f 26) er n E DG tr T_6) (rest := []) (As := []) ⟨hx, hb, hml, hown, hts⟩ (c_X4_order l dC dI cI cII cJ cJJ tp (f 0) (f 1) (f 2) Gk LYT_1 (f 3) (f 4) (f 5) TLG_8 TLT_8 (f 6) (f 7) (f 8) NEk NTk (f 9) (f 10) (f 11) SUG_3 SUT_3 (f 12) kr (fun _ _ => 0) 0 sw_1 tps_1 (f 13) (f 14) P 0 (f 15) (f 16) C (f 17) (f 18) (f 19) LG_6 LT_6 (f 20) (f 21) (f 22) OG_6 OT_6 (f 23) (f 24) (f 25) (f 26) er n E DG tr T_6 _ (by omega) (hf)) (cwV 0 hts gL_isAsked_X4_order rfl rfl rfl (by decide +kernel) ⟨Nat.le_of_ble_eq_true rfl, Nat.le_of_ble_eq_true rfl⟩) hK hP hD hS hA (List.range' 0 45) (kt_sw_all rfl (by decide +kernel) rfl) rfl 0 kX4 rfl rfl rfl rfl rfl hl.1 (Nat.le_of_ble_eq_true rfl) dL_isAsked_121 ⟨Nat.le_of_ble_eq_true rfl, Nat.le_of_ble_eq_true rfl⟩ (fun H locs hP hD hS => ?_)
                  have hP : va_P (dC, dI) vwCl (wTop tp (f 0) (f 1) (f 2) Gk LYT_1 (f 3) (f 4) (f 5) ((rollF n E DG Gk).1) ((rollF n E DG Gk).2) (f 6) (f 7) (f 8) ((neutF n E DG NEk).1) ((neutF n E DG NEk).2) (f 9) (f 10) (f 11) ((ordX n E DG (rollF n E DG Gk).1 (neutF n E DG NEk).1 SUT_3).1) ((ordX n E DG (rollF n E DG Gk).1 (neutF n E DG NEk).1 SUT_3).2) (f 12) kr (fun _ _ => 0) 0 sw_1 tps_1 (f 13) (f 14) P 0 (f 15) (f 16) C (f 17) (f 18) (f 19) LG_6 LT_6 (f 20) (f 21) (f 22) OG_6 OT_6 cJ cJJ cI cII (f 23) (f 24) (f 25) (f 26) er n E DG tr T_6) H := hP
                  have hD : va_D A (wTop tp (f 0) (f 1) (f 2) Gk LYT_1 (f 3) (f 4) (f 5) ((rollF n E DG Gk).1) ((rollF n E DG Gk).2) (f 6) (f 7) (f 8) ((neutF n E DG NEk).1) ((neutF n E DG NEk).2) (f 9) (f 10) (f 11) ((ordX n E DG (rollF n E DG Gk).1 (neutF n E DG NEk).1 SUT_3).1) ((ordX n E DG (rollF n E DG Gk).1 (neutF n E DG NEk).1 SUT_3).2) (f 12) kr (fun _ _ => 0) 0 sw_1 tps_1 (f 13) (f 14) P 0 (f 15) (f 16) C (f 17) (f 18) (f 19) LG_6 LT_6 (f 20) (f 21) (f 22) OG_6 OT_6 cJ cJJ cI cII (f 23) (f 24) (f 25) (f 26) er n E DG tr T_6) := hD
                  obtain ⟨SUG_9, eSUG_9⟩ : ∃ z : V1, z = ((ordX n E DG (rollF n E DG Gk).1 (neutF n E DG NEk).1 SUT_3).1) := ⟨_, rfl⟩
                  rw [← eSUG_9] at hP hD
                  obtain ⟨SUT_9, eSUT_9⟩ : ∃ z : V1, z = ((ordX n E DG (rollF n E DG Gk).1 (neutF n E DG NEk).1 SUT_3).2) := ⟨_, rfl⟩
                  rw [← eSUT_9] at hP hD
                  obtain ⟨NEG_9, eNEG_9⟩ : ∃ z : V1, z = ((neutF n E DG NEk).1) := ⟨_, rfl⟩
                  rw [← eNEG_9] at hP hD
                  obtain ⟨NET_9, eNET_9⟩ : ∃ z : V1, z = ((neutF n E DG NEk).2) := ⟨_, rfl⟩
                  rw [← eNET_9] at hP hD
                  obtain ⟨TLG_9, eTLG_9⟩ : ∃ z : V1, z = ((rollF n E DG Gk).1) := ⟨_, rfl⟩
                  rw [← eTLG_9] at hP hD
                  obtain ⟨TLT_9, eTLT_9⟩ : ∃ z : V1, z = ((rollF n E DG Gk).2) := ⟨_, rfl⟩
                  rw [← eTLT_9] at hP hD
                  have hP : va_P (dC, dI) vwCl (wTop tp (f 0) (f 1) (f 2) Gk LYT_1 (f 3) (f 4) (f 5) TLG_9 TLT_9 (f 6) (f 7) (f 8) NEG_9 NET_9 (f 9) (f 10) (f 11) SUG_9 SUT_9 (f 12) kr (fun _ _ => 0) 0 sw_1 tps_1 (f 13) (f 14) P 0 (f 15) (f 16) C (f 17) (f 18) (f 19) LG_6 LT_6 (f 20) (f 21) (f 22) OG_6 OT_6 cJ cJJ cI cII (f 23) (f 24) (f 25) (f 26) er n E DG tr T_6) H := hP
                  have hD : va_D A (wTop tp (f 0) (f 1) (f 2) Gk LYT_1 (f 3) (f 4) (f 5) TLG_9 TLT_9 (f 6) (f 7) (f 8) NEG_9 NET_9 (f 9) (f 10) (f 11) SUG_9 SUT_9 (f 12) kr (fun _ _ => 0) 0 sw_1 tps_1 (f 13) (f 14) P 0 (f 15) (f 16) C (f 17) (f 18) (f 19) LG_6 LT_6 (f 20) (f 21) (f 22) OG_6 OT_6 cJ cJJ cI cII (f 23) (f 24) (f 25) (f 26) er n E DG tr T_6) := hD
                  refine lv_iconst (v := nI 1) hx hb dL_isAsked_124 (by decide) ?_
                  refine lv_icmp_ne (tgt := 141) hx hb dL_isAsked_125 (by decide) (fun c125 => ?_) (fun c125 => ?_)
                  · exact absurd (neu_order hXK.1 hXK.2 (by omega) hNc hGc (hcN _)) c125
                  · skip
                    refine lv_aload_n hx hb dL_isAsked_128 rfl (lv_at hl 1 rfl) ?_
                    refine lv_bipush (v := nI 6) hx hb dL_isAsked_129 (by decide) ?_
                    refine kt_calli (w' := wTop tp (f 0) (f 1) (f 2) Gk LYT_1 (f 3) (f 4) (f 5) TLG_9 TLT_9 (f 6) (f 7) (f 8) NEG_9 NET_9 (f 9) (f 10) (f 11) SUG_9 SUT_9 (f 12) kr (fun _ _ => 0) 0 sw_1 tps_1 (f 13) (f 14) P 0 (f 15) (f 16) C (f 17) (f 18) (f 19) LG_6 LT_6 (f 20) (f 21) (f 22) OG_6 OT_6 cJ cJJ cI cII (f 23) (f 24) (f 25) (f 26) er n E DG tr T_6) (rest := []) (As := [.int (nI 6)]) ⟨hx, hb, hml, hown, hts⟩ (c_X4_many l dC dI cI cII cJ cJJ tp (f 0) (f 1) (f 2) Gk LYT_1 (f 3) (f 4) (f 5) TLG_9 TLT_9 (f 6) (f 7) (f 8) NEG_9 NET_9 (f 9) (f 10) (f 11) SUG_9 SUT_9 (f 12) kr (fun _ _ => 0) 0 sw_1 tps_1 (f 13) (f 14) P 0 (f 15) (f 16) C (f 17) (f 18) (f 19) LG_6 LT_6 (f 20) (f 21) (f 22) OG_6 OT_6 (f 23) (f 24) (f 25) (f 26) er n E DG tr T_6 6 _ (by omega) (by omega)) (cwV 1 hts gL_isAsked_X4_many rfl rfl rfl (by decide +kernel) ⟨Nat.le_of_ble_eq_true rfl, Nat.le_of_ble_eq_true rfl⟩) hK hP hD hS hA (List.range' 0 45) (kt_sw_all rfl (by decide +kernel) rfl) rfl 0 kX4 rfl rfl rfl rfl rfl hl.1 (Nat.le_of_ble_eq_true rfl) dL_isAsked_131 ⟨Nat.le_of_ble_eq_true rfl, Nat.le_of_ble_eq_true rfl⟩ (fun H locs hP hD hS => ?_)
                    have hP : va_P (dC, dI) vwCl (wTop tp (f 0) (f 1) (f 2) Gk LYT_1 (f 3) (f 4) (f 5) TLG_9 TLT_9 (f 6) (f 7) (f 8) NEG_9 NET_9 (f 9) (f 10) (f 11) SUG_9 SUT_9 (f 12) kr (fun _ _ => 0) 0 sw_1 tps_1 (f 13) (f 14) P 0 (f 15) (f 16) C (f 17) (f 18) (f 19) LG_6 LT_6 (f 20) (f 21) (f 22) OG_6 OT_6 cJ cJJ cI cII (f 23) (f 24) (f 25) (f 26) er n E DG tr T_6) H := hP
                    have hD : va_D A (wTop tp (f 0) (f 1) (f 2) Gk LYT_1 (f 3) (f 4) (f 5) TLG_9 TLT_9 (f 6) (f 7) (f 8) NEG_9 NET_9 (f 9) (f 10) (f 11) SUG_9 SUT_9 (f 12) kr (fun _ _ => 0) 0 sw_1 tps_1 (f 13) (f 14) P 0 (f 15) (f 16) C (f 17) (f 18) (f 19) LG_6 LT_6 (f 20) (f 21) (f 22) OG_6 OT_6 cJ cJJ cI cII (f 23) (f 24) (f 25) (f 26) er n E DG tr T_6) := hD
                    have hP : va_P (dC, dI) vwCl (wTop tp (f 0) (f 1) (f 2) Gk LYT_1 (f 3) (f 4) (f 5) TLG_9 TLT_9 (f 6) (f 7) (f 8) NEG_9 NET_9 (f 9) (f 10) (f 11) SUG_9 SUT_9 (f 12) kr (fun _ _ => 0) 0 sw_1 tps_1 (f 13) (f 14) P 0 (f 15) (f 16) C (f 17) (f 18) (f 19) LG_6 LT_6 (f 20) (f 21) (f 22) OG_6 OT_6 cJ cJJ cI cII (f 23) (f 24) (f 25) (f 26) er n E DG tr T_6) H := hP
                    have hD : va_D A (wTop tp (f 0) (f 1) (f 2) Gk LYT_1 (f 3) (f 4) (f 5) TLG_9 TLT_9 (f 6) (f 7) (f 8) NEG_9 NET_9 (f 9) (f 10) (f 11) SUG_9 SUT_9 (f 12) kr (fun _ _ => 0) 0 sw_1 tps_1 (f 13) (f 14) P 0 (f 15) (f 16) C (f 17) (f 18) (f 19) LG_6 LT_6 (f 20) (f 21) (f 22) OG_6 OT_6 cJ cJJ cI cII (f 23) (f 24) (f 25) (f 26) er n E DG tr T_6) := hD
                    refine lv_if_ne (tgt := 141) hx hb dL_isAsked_134 (by decide) (fun c134 => ?_) (fun c134 => ?_)
                    · exact absurd (neu_lies hXK.1 hXK.2 (by omega) hNc hGc).1 c134
                    · skip
                      refine lv_iconst (v := nI 1) hx hb dL_isAsked_137 (by decide) ?_
                      refine lv_goto (tgt := 142) hx hb dL_isAsked_138 (by decide) ?_
                      exact kt_zretS (wN := fun (_ : Unit) => ([] : va_W)) () hx hb hr (by decide) hS kt_nilP hK kt_nilD rfl hlocks dL_isAsked_142
              · skip
                refine lv_aload_n hx hb dL_isAsked_85 rfl (lv_at hl 1 rfl) ?_
                refine lv_iload hx hb dL_isAsked_86 (lv_at hl 0 rfl) ?_
                refine kt_calli (w' := wTop tp (f 0) (f 1) (f 2) Gk LYT_1 (f 3) (f 4) (f 5) TLG_6 TLT_6 (f 6) (f 7) (f 8) ((neutF n E DG NEk).1) ((neutF n E DG NEk).2) (f 9) (f 10) (f 11) SUG_3 SUT_3 (f 12) kr (fun _ _ => 0) 0 sw_1 tps_1 (f 13) (f 14) P 0 (f 15) (f 16) C (f 17) (f 18) (f 19) LG_6 LT_6 (f 20) (f 21) (f 22) OG_6 OT_6 cJ cJJ cI cII (f 23) (f 24) (f 25) (f 26) er n E DG tr T_6) (rest := []) (As := [.int (nI k)]) ⟨hx, hb, hml, hown, hts⟩ (c_X4_neutral l dC dI cI cII cJ cJJ tp (f 0) (f 1) (f 2) Gk LYT_1 (f 3) (f 4) (f 5) TLG_6 TLT_6 (f 6) (f 7) (f 8) NEk NTk (f 9) (f 10) (f 11) SUG_3 SUT_3 (f 12) kr (fun _ _ => 0) 0 sw_1 tps_1 (f 13) (f 14) P 0 (f 15) (f 16) C (f 17) (f 18) (f 19) LG_6 LT_6 (f 20) (f 21) (f 22) OG_6 OT_6 (f 23) (f 24) (f 25) (f 26) er n E DG tr T_6 k _ (by omega) (by omega) (hf)) (cwV 1 hts gL_isAsked_X4_neutral rfl rfl rfl (by decide +kernel) ⟨Nat.le_of_ble_eq_true rfl, Nat.le_of_ble_eq_true rfl⟩) hK hP hD hS hA (List.range' 0 45) (kt_sw_all rfl (by decide +kernel) rfl) rfl 0 kX4 rfl rfl rfl rfl rfl hl.1 (Nat.le_of_ble_eq_true rfl) dL_isAsked_88 ⟨Nat.le_of_ble_eq_true rfl, Nat.le_of_ble_eq_true rfl⟩ (fun H locs hP hD hS => ?_)
                have hP : va_P (dC, dI) vwCl (wTop tp (f 0) (f 1) (f 2) Gk LYT_1 (f 3) (f 4) (f 5) TLG_6 TLT_6 (f 6) (f 7) (f 8) ((neutF n E DG NEk).1) ((neutF n E DG NEk).2) (f 9) (f 10) (f 11) SUG_3 SUT_3 (f 12) kr (fun _ _ => 0) 0 sw_1 tps_1 (f 13) (f 14) P 0 (f 15) (f 16) C (f 17) (f 18) (f 19) LG_6 LT_6 (f 20) (f 21) (f 22) OG_6 OT_6 cJ cJJ cI cII (f 23) (f 24) (f 25) (f 26) er n E DG tr T_6) H := hP
                have hD : va_D A (wTop tp (f 0) (f 1) (f 2) Gk LYT_1 (f 3) (f 4) (f 5) TLG_6 TLT_6 (f 6) (f 7) (f 8) ((neutF n E DG NEk).1) ((neutF n E DG NEk).2) (f 9) (f 10) (f 11) SUG_3 SUT_3 (f 12) kr (fun _ _ => 0) 0 sw_1 tps_1 (f 13) (f 14) P 0 (f 15) (f 16) C (f 17) (f 18) (f 19) LG_6 LT_6 (f 20) (f 21) (f 22) OG_6 OT_6 cJ cJJ cI cII (f 23) (f 24) (f 25) (f 26) er n E DG tr T_6) := hD
                obtain ⟨NEG_11, eNEG_11⟩ : ∃ z : V1, z = ((neutF n E DG NEk).1) := ⟨_, rfl⟩
                rw [← eNEG_11] at hP hD
                obtain ⟨NET_11, eNET_11⟩ : ∃ z : V1, z = ((neutF n E DG NEk).2) := ⟨_, rfl⟩
                rw [← eNET_11] at hP hD
                have hP : va_P (dC, dI) vwCl (wTop tp (f 0) (f 1) (f 2) Gk LYT_1 (f 3) (f 4) (f 5) TLG_6 TLT_6 (f 6) (f 7) (f 8) NEG_11 NET_11 (f 9) (f 10) (f 11) SUG_3 SUT_3 (f 12) kr (fun _ _ => 0) 0 sw_1 tps_1 (f 13) (f 14) P 0 (f 15) (f 16) C (f 17) (f 18) (f 19) LG_6 LT_6 (f 20) (f 21) (f 22) OG_6 OT_6 cJ cJJ cI cII (f 23) (f 24) (f 25) (f 26) er n E DG tr T_6) H := hP
                have hD : va_D A (wTop tp (f 0) (f 1) (f 2) Gk LYT_1 (f 3) (f 4) (f 5) TLG_6 TLT_6 (f 6) (f 7) (f 8) NEG_11 NET_11 (f 9) (f 10) (f 11) SUG_3 SUT_3 (f 12) kr (fun _ _ => 0) 0 sw_1 tps_1 (f 13) (f 14) P 0 (f 15) (f 16) C (f 17) (f 18) (f 19) LG_6 LT_6 (f 20) (f 21) (f 22) OG_6 OT_6 cJ cJJ cI cII (f 23) (f 24) (f 25) (f 26) er n E DG tr T_6) := hD
                refine lv_topi (fun q1 eq1 => ?_)
                have hq1 : q1.toInt = c k := by rw [eq1]; exact hcN _ k ck
                refine lv_if_le (tgt := 107) hx hb dL_isAsked_91 (by decide) (fun c91 => ?_) (fun c91 => ?_)
                · have hc0k : c k = 0 := neu_zero hNc ck hq1 c91
                  refine lv_iinc (v := nI (k + 1)) (lv' := [(5, .int (nI (k + 1))), (0, .ref tp), (1, .int (nI n))]) hx hb dL_isAsked_107 hl (k := 0) rfl (kt_inc k) (by decide) rfl (fun ls hl => ?_)
                  refine lv_goto (tgt := 79) hx hb dL_isAsked_110 (by decide) ?_
                  exact ihk (k + 1, Gk, NEG_11, NET_11) H locs ls (by show n - (k + 1) < n - k; omega) ⟨by show k + 1 ≤ n; omega, put_skip hput hc0k⟩ hP hD hS (lv_sub hl [0, 1, 2] rfl)
                · skip
                  refine lv_aload_n hx hb dL_isAsked_94 rfl (lv_at hl 1 rfl) ?_
                  refine lv_iload hx hb dL_isAsked_95 (lv_at hl 0 rfl) ?_
                  refine lv_aload_n hx hb dL_isAsked_97 rfl (lv_at hl 1 rfl) ?_
                  refine lv_iload hx hb dL_isAsked_98 (lv_at hl 0 rfl) ?_
                  refine kt_calli (w' := wTop tp (f 0) (f 1) (f 2) Gk LYT_1 (f 3) (f 4) (f 5) TLG_6 TLT_6 (f 6) (f 7) (f 8) ((neutF n E DG NEG_11).1) ((neutF n E DG NEG_11).2) (f 9) (f 10) (f 11) SUG_3 SUT_3 (f 12) kr (fun _ _ => 0) 0 sw_1 tps_1 (f 13) (f 14) P 0 (f 15) (f 16) C (f 17) (f 18) (f 19) LG_6 LT_6 (f 20) (f 21) (f 22) OG_6 OT_6 cJ cJJ cI cII (f 23) (f 24) (f 25) (f 26) er n E DG tr T_6) (rest := [.int (nI k), .ref tp]) (As := [.int (nI k)]) ⟨hx, hb, hml, hown, hts⟩ (c_X4_neutral l dC dI cI cII cJ cJJ tp (f 0) (f 1) (f 2) Gk LYT_1 (f 3) (f 4) (f 5) TLG_6 TLT_6 (f 6) (f 7) (f 8) NEG_11 NET_11 (f 9) (f 10) (f 11) SUG_3 SUT_3 (f 12) kr (fun _ _ => 0) 0 sw_1 tps_1 (f 13) (f 14) P 0 (f 15) (f 16) C (f 17) (f 18) (f 19) LG_6 LT_6 (f 20) (f 21) (f 22) OG_6 OT_6 (f 23) (f 24) (f 25) (f 26) er n E DG tr T_6 k _ (by omega) (by omega) (hf)) (cwV 1 hts gL_isAsked_X4_neutral rfl rfl rfl (by decide +kernel) ⟨Nat.le_of_ble_eq_true rfl, Nat.le_of_ble_eq_true rfl⟩) hK hP hD hS hA (List.range' 0 45) (kt_sw_all rfl (by decide +kernel) rfl) rfl 0 kX4 rfl rfl rfl rfl rfl hl.1 (Nat.le_of_ble_eq_true rfl) dL_isAsked_100 ⟨Nat.le_of_ble_eq_true rfl, Nat.le_of_ble_eq_true rfl⟩ (fun H locs hP hD hS => ?_)
                  have hP : va_P (dC, dI) vwCl (wTop tp (f 0) (f 1) (f 2) Gk LYT_1 (f 3) (f 4) (f 5) TLG_6 TLT_6 (f 6) (f 7) (f 8) ((neutF n E DG NEG_11).1) ((neutF n E DG NEG_11).2) (f 9) (f 10) (f 11) SUG_3 SUT_3 (f 12) kr (fun _ _ => 0) 0 sw_1 tps_1 (f 13) (f 14) P 0 (f 15) (f 16) C (f 17) (f 18) (f 19) LG_6 LT_6 (f 20) (f 21) (f 22) OG_6 OT_6 cJ cJJ cI cII (f 23) (f 24) (f 25) (f 26) er n E DG tr T_6) H := hP
                  have hD : va_D A (wTop tp (f 0) (f 1) (f 2) Gk LYT_1 (f 3) (f 4) (f 5) TLG_6 TLT_6 (f 6) (f 7) (f 8) ((neutF n E DG NEG_11).1) ((neutF n E DG NEG_11).2) (f 9) (f 10) (f 11) SUG_3 SUT_3 (f 12) kr (fun _ _ => 0) 0 sw_1 tps_1 (f 13) (f 14) P 0 (f 15) (f 16) C (f 17) (f 18) (f 19) LG_6 LT_6 (f 20) (f 21) (f 22) OG_6 OT_6 cJ cJJ cI cII (f 23) (f 24) (f 25) (f 26) er n E DG tr T_6) := hD
                  obtain ⟨NEG_12, eNEG_12⟩ : ∃ z : V1, z = ((neutF n E DG NEG_11).1) := ⟨_, rfl⟩
                  rw [← eNEG_12] at hP hD
                  obtain ⟨NET_12, eNET_12⟩ : ∃ z : V1, z = ((neutF n E DG NEG_11).2) := ⟨_, rfl⟩
                  rw [← eNET_12] at hP hD
                  have hP : va_P (dC, dI) vwCl (wTop tp (f 0) (f 1) (f 2) Gk LYT_1 (f 3) (f 4) (f 5) TLG_6 TLT_6 (f 6) (f 7) (f 8) NEG_12 NET_12 (f 9) (f 10) (f 11) SUG_3 SUT_3 (f 12) kr (fun _ _ => 0) 0 sw_1 tps_1 (f 13) (f 14) P 0 (f 15) (f 16) C (f 17) (f 18) (f 19) LG_6 LT_6 (f 20) (f 21) (f 22) OG_6 OT_6 cJ cJJ cI cII (f 23) (f 24) (f 25) (f 26) er n E DG tr T_6) H := hP
                  have hD : va_D A (wTop tp (f 0) (f 1) (f 2) Gk LYT_1 (f 3) (f 4) (f 5) TLG_6 TLT_6 (f 6) (f 7) (f 8) NEG_12 NET_12 (f 9) (f 10) (f 11) SUG_3 SUT_3 (f 12) kr (fun _ _ => 0) 0 sw_1 tps_1 (f 13) (f 14) P 0 (f 15) (f 16) C (f 17) (f 18) (f 19) LG_6 LT_6 (f 20) (f 21) (f 22) OG_6 OT_6 cJ cJJ cI cII (f 23) (f 24) (f 25) (f 26) er n E DG tr T_6) := hD
                  refine lv_topi (fun q2 eq2 => ?_)
                  have hq2 : q2.toInt = c k := by rw [eq2]; exact hcN _ k ck
                  have hq12 : q2 = q1 := Int32.toInt_inj.mp (hq2.trans hq1.symm)
                  have hck : 0 ≤ c k ∧ c k ≤ 18 := neu_18 hNc ck
                  obtain ⟨hd1, hd2, hd3⟩ := put_ok hput ck hq2 hck (by rw [hq12]; exact c91)
                  refine kt_calli (w' := wTop tp (f 0) (f 1) (f 2) (upd Gk k (Gk k + q2)) LYT_1 (f 3) (f 4) (f 5) TLG_6 TLT_6 (f 6) (f 7) (f 8) NEG_12 NET_12 (f 9) (f 10) (f 11) SUG_3 SUT_3 (f 12) kr (fun _ _ => 0) 0 sw_1 tps_1 (f 13) (f 14) P 0 (f 15) (f 16) C (f 17) (f 18) (f 19) LG_6 LT_6 (f 20) (f 21) (f 22) OG_6 OT_6 cJ cJJ cI cII (f 23) (f 24) (f 25) (f 26) er n E DG tr T_6) (rest := []) (As := [.int (nI k), .int q2]) ⟨hx, hb, hml, hown, hts⟩ (c_X4_drop l dC dI cI cII cJ cJJ tp (f 0) (f 1) (f 2) Gk LYT_1 (f 3) (f 4) (f 5) TLG_6 TLT_6 (f 6) (f 7) (f 8) NEG_12 NET_12 (f 9) (f 10) (f 11) SUG_3 SUT_3 (f 12) kr (fun _ _ => 0) 0 sw_1 tps_1 (f 13) (f 14) P 0 (f 15) (f 16) C (f 17) (f 18) (f 19) LG_6 LT_6 (f 20) (f 21) (f 22) OG_6 OT_6 (f 23) (f 24) (f 25) (f 26) er n E DG tr T_6 k q2 _ (by omega) (by omega) (hd1) (hd2) (hd3)) (cwV 2 hts gL_isAsked_X4_drop rfl rfl rfl (by decide +kernel) ⟨Nat.le_of_ble_eq_true rfl, Nat.le_of_ble_eq_true rfl⟩) hK hP hD hS hA (List.range' 0 45) (kt_sw_all rfl (by decide +kernel) rfl) rfl 0 kX4 rfl rfl rfl rfl rfl hl.1 (Nat.le_of_ble_eq_true rfl) dL_isAsked_103 ⟨Nat.le_of_ble_eq_true rfl, Nat.le_of_ble_eq_true rfl⟩ (fun H locs hP hD hS => ?_)
                  have hP : va_P (dC, dI) vwCl (wTop tp (f 0) (f 1) (f 2) (upd Gk k (Gk k + q2)) LYT_1 (f 3) (f 4) (f 5) TLG_6 TLT_6 (f 6) (f 7) (f 8) NEG_12 NET_12 (f 9) (f 10) (f 11) SUG_3 SUT_3 (f 12) kr (fun _ _ => 0) 0 sw_1 tps_1 (f 13) (f 14) P 0 (f 15) (f 16) C (f 17) (f 18) (f 19) LG_6 LT_6 (f 20) (f 21) (f 22) OG_6 OT_6 cJ cJJ cI cII (f 23) (f 24) (f 25) (f 26) er n E DG tr T_6) H := hP
                  have hD : va_D A (wTop tp (f 0) (f 1) (f 2) (upd Gk k (Gk k + q2)) LYT_1 (f 3) (f 4) (f 5) TLG_6 TLT_6 (f 6) (f 7) (f 8) NEG_12 NET_12 (f 9) (f 10) (f 11) SUG_3 SUT_3 (f 12) kr (fun _ _ => 0) 0 sw_1 tps_1 (f 13) (f 14) P 0 (f 15) (f 16) C (f 17) (f 18) (f 19) LG_6 LT_6 (f 20) (f 21) (f 22) OG_6 OT_6 cJ cJJ cI cII (f 23) (f 24) (f 25) (f 26) er n E DG tr T_6) := hD
                  obtain ⟨LYG_13, eLYG_13⟩ : ∃ z : V1, z = (upd Gk k (Gk k + q2)) := ⟨_, rfl⟩
                  rw [← eLYG_13] at hP hD
                  have hP : va_P (dC, dI) vwCl (wTop tp (f 0) (f 1) (f 2) LYG_13 LYT_1 (f 3) (f 4) (f 5) TLG_6 TLT_6 (f 6) (f 7) (f 8) NEG_12 NET_12 (f 9) (f 10) (f 11) SUG_3 SUT_3 (f 12) kr (fun _ _ => 0) 0 sw_1 tps_1 (f 13) (f 14) P 0 (f 15) (f 16) C (f 17) (f 18) (f 19) LG_6 LT_6 (f 20) (f 21) (f 22) OG_6 OT_6 cJ cJJ cI cII (f 23) (f 24) (f 25) (f 26) er n E DG tr T_6) H := hP
                  have hD : va_D A (wTop tp (f 0) (f 1) (f 2) LYG_13 LYT_1 (f 3) (f 4) (f 5) TLG_6 TLT_6 (f 6) (f 7) (f 8) NEG_12 NET_12 (f 9) (f 10) (f 11) SUG_3 SUT_3 (f 12) kr (fun _ _ => 0) 0 sw_1 tps_1 (f 13) (f 14) P 0 (f 15) (f 16) C (f 17) (f 18) (f 19) LG_6 LT_6 (f 20) (f 21) (f 22) OG_6 OT_6 cJ cJJ cI cII (f 23) (f 24) (f 25) (f 26) er n E DG tr T_6) := hD
                  rw [eLYG_13] at hP hD
                  refine lv_pop hx hb dL_isAsked_106 rfl ?_
                  refine lv_iinc (v := nI (k + 1)) (lv' := [(5, .int (nI (k + 1))), (0, .ref tp), (1, .int (nI n))]) hx hb dL_isAsked_107 hl (k := 0) rfl (kt_inc k) (by decide) rfl (fun ls hl => ?_)
                  refine lv_goto (tgt := 79) hx hb dL_isAsked_110 (by decide) ?_
                  exact ihk (k + 1, upd Gk k (Gk k + q2), NEG_12, NET_12) H locs ls (by show n - (k + 1) < n - k; omega) ⟨by show k + 1 ≤ n; omega, put_drop hput ck hq2 hck⟩ hP hD hS (lv_sub hl [0, 1, 2] rfl)
            · exact absurd ((lg_cmp_eq _ _).mpr (dig_same ed2 ed1)) c66
          · refine lv_icmp_ne (tgt := 60) hx hb dL_isAsked_48 (by decide) (fun c48 => ?_) (fun c48 => ?_)
            · exact J60 (LG_5, LT_5) H locs ls hP hD hS hl
            · skip
              refine lv_aload_n hx hb dL_isAsked_51 rfl (lv_at hl 2 rfl) ?_
              refine kt_calli (w' := wTop tp (f 0) (f 1) (f 2) LYG_1 LYT_1 (f 3) (f 4) (f 5) TLG_3 TLT_3 (f 6) (f 7) (f 8) NEG_3 NET_3 (f 9) (f 10) (f 11) SUG_3 SUT_3 (f 12) kr (fun _ _ => 0) 0 sw_1 tps_1 (f 13) (f 14) P 0 (f 15) (f 16) C (f 17) (f 18) (f 19) ((findF n E DG C LG_5).1) ((findF n E DG C LG_5).2) (f 20) (f 21) (f 22) OG_5 OT_5 cJ cJJ cI cII (f 23) (f 24) (f 25) (f 26) er n E DG tr T_4) (rest := []) (As := []) ⟨hx, hb, hml, hown, hts⟩ (c_X4_canPay l dC dI cI cII cJ cJJ tp (f 0) (f 1) (f 2) LYG_1 LYT_1 (f 3) (f 4) (f 5) TLG_3 TLT_3 (f 6) (f 7) (f 8) NEG_3 NET_3 (f 9) (f 10) (f 11) SUG_3 SUT_3 (f 12) kr (fun _ _ => 0) 0 sw_1 tps_1 (f 13) (f 14) P 0 (f 15) (f 16) C (f 17) (f 18) (f 19) LG_5 LT_5 (f 20) (f 21) (f 22) OG_5 OT_5 (f 23) (f 24) (f 25) (f 26) er n E DG tr T_4 _ (by omega) (hf)) (cwV 0 hts gL_isAsked_X4_canPay rfl rfl rfl (by decide +kernel) ⟨Nat.le_of_ble_eq_true rfl, Nat.le_of_ble_eq_true rfl⟩) hK hP hD hS hA (List.range' 0 45) (kt_sw_all rfl (by decide +kernel) rfl) rfl 0 kX4 rfl rfl rfl rfl rfl hl.1 (Nat.le_of_ble_eq_true rfl) dL_isAsked_52 ⟨Nat.le_of_ble_eq_true rfl, Nat.le_of_ble_eq_true rfl⟩ (fun H locs hP hD hS => ?_)
              have hP : va_P (dC, dI) vwCl (wTop tp (f 0) (f 1) (f 2) LYG_1 LYT_1 (f 3) (f 4) (f 5) TLG_3 TLT_3 (f 6) (f 7) (f 8) NEG_3 NET_3 (f 9) (f 10) (f 11) SUG_3 SUT_3 (f 12) kr (fun _ _ => 0) 0 sw_1 tps_1 (f 13) (f 14) P 0 (f 15) (f 16) C (f 17) (f 18) (f 19) ((findF n E DG C LG_5).1) ((findF n E DG C LG_5).2) (f 20) (f 21) (f 22) OG_5 OT_5 cJ cJJ cI cII (f 23) (f 24) (f 25) (f 26) er n E DG tr T_4) H := hP
              have hD : va_D A (wTop tp (f 0) (f 1) (f 2) LYG_1 LYT_1 (f 3) (f 4) (f 5) TLG_3 TLT_3 (f 6) (f 7) (f 8) NEG_3 NET_3 (f 9) (f 10) (f 11) SUG_3 SUT_3 (f 12) kr (fun _ _ => 0) 0 sw_1 tps_1 (f 13) (f 14) P 0 (f 15) (f 16) C (f 17) (f 18) (f 19) ((findF n E DG C LG_5).1) ((findF n E DG C LG_5).2) (f 20) (f 21) (f 22) OG_5 OT_5 cJ cJJ cI cII (f 23) (f 24) (f 25) (f 26) er n E DG tr T_4) := hD
              obtain ⟨LG_14, eLG_14⟩ : ∃ z : V1, z = ((findF n E DG C LG_5).1) := ⟨_, rfl⟩
              rw [← eLG_14] at hP hD
              obtain ⟨LT_14, eLT_14⟩ : ∃ z : V1, z = ((findF n E DG C LG_5).2) := ⟨_, rfl⟩
              rw [← eLT_14] at hP hD
              have hP : va_P (dC, dI) vwCl (wTop tp (f 0) (f 1) (f 2) LYG_1 LYT_1 (f 3) (f 4) (f 5) TLG_3 TLT_3 (f 6) (f 7) (f 8) NEG_3 NET_3 (f 9) (f 10) (f 11) SUG_3 SUT_3 (f 12) kr (fun _ _ => 0) 0 sw_1 tps_1 (f 13) (f 14) P 0 (f 15) (f 16) C (f 17) (f 18) (f 19) LG_14 LT_14 (f 20) (f 21) (f 22) OG_5 OT_5 cJ cJJ cI cII (f 23) (f 24) (f 25) (f 26) er n E DG tr T_4) H := hP
              have hD : va_D A (wTop tp (f 0) (f 1) (f 2) LYG_1 LYT_1 (f 3) (f 4) (f 5) TLG_3 TLT_3 (f 6) (f 7) (f 8) NEG_3 NET_3 (f 9) (f 10) (f 11) SUG_3 SUT_3 (f 12) kr (fun _ _ => 0) 0 sw_1 tps_1 (f 13) (f 14) P 0 (f 15) (f 16) C (f 17) (f 18) (f 19) LG_14 LT_14 (f 20) (f 21) (f 22) OG_5 OT_5 cJ cJJ cI cII (f 23) (f 24) (f 25) (f 26) er n E DG tr T_4) := hD
              refine lv_if_ne (tgt := 60) hx hb dL_isAsked_55 (by decide) (fun c55 => ?_) (fun c55 => ?_)
              · exact J60 (LG_14, LT_14) H locs ls hP hD hS hl
              · exact absurd (weak_pay (by omega) (ew1.symm.trans c48) hC) (fun z => b2i_ne0.mpr z c55)

