/-! the helpers of the law on a fresh object (printed by wip/gen/law.py) -/
theorem no_spotB (v : Int32) : isSpotB 0 v = false := by
  unfold isSpotB
  rcases Int32.lt_or_le v 0 with h | h
  · rw [decide_eq_true h]; rfl
  · rw [show decide (nI 0 ≤ v) = true from decide_eq_true h, Bool.not_true, Bool.and_false]
theorem no_nodeB {v : Int32} (h : ¬ v = nI 6) : isNodeB 0 v = false := by
  unfold isNodeB
  rw [no_spotB, show decide (v = 6) = false from decide_eq_false h]; rfl
theorem no_heapB (v : Int32) : v < 0 ∨ nI 0 ≤ v := (Int32.lt_or_le v 0).imp id id
theorem slow0 : fastB 0 (fun _ _ => 0) = false := by decide +kernel
set_option maxHeartbeats 4000000 in
set_option maxRecDepth 100000 in
theorem h_edge_a (l : Launch) (hlt : l.stackTraces = false) (dC : Nat → ClassId) (dI : Nat → Nat → Nat) (cI cII cJ cJJ : ClassId) (tp : Nat) (f : Nat → Nat) (er tr kr : Nat → Nat) (out : Nat) (a : Int32) (b : Int32) (q : Int32) (sz : Nat) (h : ¬ a = nI 6) : Met l yL_edge wsL_edge ({ frames := 9, cells := 1, slots := 6, locals := 134 }) (va_Pc [.ref tp, .int a, .int b, .int q, .ref out] (PREH (dC, dI) (tyL cI cII cJ cJJ) (wF tp f er tr kr cI cII cJ cJJ ++ wO cJ out oZ) sz)) (va_Qi (fun (r' : Int32) (_ : Unit) => r' = nI 1) (fun (_ : Unit) tS => ATW (dC, dI) (tyL cI cII cJ cJJ) (va_A (wF tp f er tr kr cI cII cJ cJJ ++ wO cJ out oZ) sz) (([] : va_W)) tS) (va_A (wF tp f er tr kr cI cII cJ cJJ ++ wO cJ out oZ) sz)) 1 6 (va_A (wF tp f er tr kr cI cII cJ cJJ ++ wO cJ out oZ) sz) := by
  refine kt_ofWH (cc := cL_edge) (maxL := 6) (ret := some .int) (by decide) rfl ?_
  intro p e s m args below meth c s₁ B hml hv
  obtain ⟨rfl, ⟨⟨hsz, hP, hK, hD0⟩, hE⟩, hnc⟩ := hv
  have hx := B.exec
  have hb := B.bytes
  have hr := B.returns
  have hlocks := B.notSynchronized
  have hts := atoms_spec (ws := wsL_edge) B.pre
  have hown : s.vm.findClass RL = some m.cls := findClass_of_methodNamed B.named
  have htab := vx_table (x := yL_edge) B (hts _ List.mem_cons_self)
  subst hsz
  have hD := hD0.self (sz := s.heap.size)
  generalize hAe : va_A (wF tp f er tr kr cI cII cJ cJJ ++ wO cJ out oZ) s.heap.size = A at hD hE ⊢
  have hA : ∀ q : Nat, s.heap.size ≤ q → A q := fun q h => by rw [← hAe]; exact Or.inr h
  have hS : va_S A s.heap s.heap [] := va_S.rf
  have hl := lv_entry ([.ref tp, .int a, .int b, .int q, .ref out]) (n := 6) (Nat.le_of_ble_eq_true rfl)
  rw [lg_entry_eq]
  generalize (lg_sl ([.ref tp, .int a, .int b, .int q, .ref out]) ++ List.replicate (6 - (lg_sl ([.ref tp, .int a, .int b, .int q, .ref out])).length) Slot.unset).toArray = ls at hl ⊢
  have hl : lv_has ls 6 [(0, .ref tp), (1, .int a), (2, .int b), (3, .int q), (4, .ref out)] := hl
  refine lv_aload hx hb dL_edge_0 (lv_at hl 4 rfl) ?_
  refine lv_iconst (v := nI 0) hx hb dL_edge_2 (by decide) ?_
  refine lv_aload_n hx hb dL_edge_3 rfl (lv_at hl 0 rfl) ?_
  refine lv_iload_n hx hb dL_edge_4 rfl (lv_at hl 1 rfl) ?_
  refine lv_iload_n hx hb dL_edge_5 rfl (lv_at hl 2 rfl) ?_
  refine lv_iload_n hx hb dL_edge_6 rfl (lv_at hl 3 rfl) ?_
  have hF9 := va_free (wc := wF tp f er tr kr cI cII cJ cJJ) hD hS hA (List.range' 0 45) rfl
  refine kt_xrun (vx_runV (As := [.int a, .int b, .int q]) (rest := [.int (nI 0), .ref out]) ⟨hx, hb, hml, hown, hts⟩ (x_X4_edge_a l dC dI cI cII cJ cJJ tp (f 0) (f 1) (f 2) (fun _ => 0) (fun _ => 0) (f 3) (f 4) (f 5) (fun _ => 0) (fun _ => 0) (f 6) (f 7) (f 8) (fun _ => 0) (fun _ => 0) (f 9) (f 10) (f 11) (fun _ => 0) (fun _ => 0) (f 12) kr (fun _ _ => 0) 0 0 0 (f 13) (f 14) (fun _ => 0) 0 (f 15) (f 16) (fun _ => 0) (f 17) (f 18) (f 19) (fun _ => 0) (fun _ => 0) (f 20) (f 21) (f 22) (fun _ => 0) (fun _ => 0) (f 23) (f 24) (f 25) (f 26) er 0 (fun _ _ => 0) (fun _ => 0) tr (fun _ _ => 0) hlt a b q _ (by decide) (no_nodeB h)) (cwV 3 hts gL_edge_X4_edge rfl rfl rfl (by decide +kernel) ⟨Nat.le_of_ble_eq_true rfl, Nat.le_of_ble_eq_true rfl⟩) (kt_preVE (q0 := 0) (ci := kX4) hK hP hD hS hE hF9 (List.range' 0 45) rfl rfl rfl rfl rfl) rfl rfl hl.1 rfl (lv_room (Nat.le_of_ble_eq_true rfl)) dL_edge_7 ⟨Nat.le_of_ble_eq_true rfl, Nat.le_of_ble_eq_true rfl⟩) hS hF9 (fun q _ h => hF9 q h) (fun E9 ce q9 u t H locs ht hvm _ hB hz hk hS hce hcv hcl => ?_)
  obtain ⟨rfl, -⟩ := hB
  refine vx_catch (name := exI) hown [] ⟨0, 12, 15, 19⟩ [⟨0, 12, 19, 21⟩] (htab.trans rfl) (fun z hz => absurd hz List.not_mem_nil) rfl (by decide) (hts (.classLink RL 19 exI) (by decide +kernel)) (va_Nw.use rfl hE.castI) hce hcv hcl ?_
  have hP : va_P (dC, dI) vwCl [] H := kt_nilP
  have hD : va_D A [] := kt_nilD
  refine W.widen (k := 1) (n := 6) (by omega) (by omega) ?_
  refine lv_astore (lv' := [(5, .ref q9), (0, .ref tp), (1, .int a), (2, .int b), (3, .int q), (4, .ref out)]) hx hb dL_edge_15 hl (by decide) rfl (fun ls hl => ?_)
  refine lv_iconst (v := nI 1) hx hb dL_edge_17 (by decide) ?_
  refine W.widen (k := 1) (n := 6) (by omega) (by omega) ?_
  exact kt_iretS (wN := fun (_ : Unit) => ([] : va_W)) () hx hb hr hS hP hK hD (by decide) hlocks dL_edge_18

set_option maxHeartbeats 4000000 in
set_option maxRecDepth 100000 in
theorem h_edge_b (l : Launch) (hlt : l.stackTraces = false) (dC : Nat → ClassId) (dI : Nat → Nat → Nat) (cI cII cJ cJJ : ClassId) (tp : Nat) (f : Nat → Nat) (er tr kr : Nat → Nat) (out : Nat) (b : Int32) (q : Int32) (sz : Nat) (h : ¬ b = nI 6) : Met l yL_edge wsL_edge ({ frames := 9, cells := 1, slots := 6, locals := 134 }) (va_Pc [.ref tp, .int (nI 6), .int b, .int q, .ref out] (PREH (dC, dI) (tyL cI cII cJ cJJ) (wF tp f er tr kr cI cII cJ cJJ ++ wO cJ out oZ) sz)) (va_Qi (fun (r' : Int32) (_ : Unit) => r' = nI 1) (fun (_ : Unit) tS => ATW (dC, dI) (tyL cI cII cJ cJJ) (va_A (wF tp f er tr kr cI cII cJ cJJ ++ wO cJ out oZ) sz) (([] : va_W)) tS) (va_A (wF tp f er tr kr cI cII cJ cJJ ++ wO cJ out oZ) sz)) 1 6 (va_A (wF tp f er tr kr cI cII cJ cJJ ++ wO cJ out oZ) sz) := by
  refine kt_ofWH (cc := cL_edge) (maxL := 6) (ret := some .int) (by decide) rfl ?_
  intro p e s m args below meth c s₁ B hml hv
  obtain ⟨rfl, ⟨⟨hsz, hP, hK, hD0⟩, hE⟩, hnc⟩ := hv
  have hx := B.exec
  have hb := B.bytes
  have hr := B.returns
  have hlocks := B.notSynchronized
  have hts := atoms_spec (ws := wsL_edge) B.pre
  have hown : s.vm.findClass RL = some m.cls := findClass_of_methodNamed B.named
  have htab := vx_table (x := yL_edge) B (hts _ List.mem_cons_self)
  subst hsz
  have hD := hD0.self (sz := s.heap.size)
  generalize hAe : va_A (wF tp f er tr kr cI cII cJ cJJ ++ wO cJ out oZ) s.heap.size = A at hD hE ⊢
  have hA : ∀ q : Nat, s.heap.size ≤ q → A q := fun q h => by rw [← hAe]; exact Or.inr h
  have hS : va_S A s.heap s.heap [] := va_S.rf
  have hl := lv_entry ([.ref tp, .int (nI 6), .int b, .int q, .ref out]) (n := 6) (Nat.le_of_ble_eq_true rfl)
  rw [lg_entry_eq]
  generalize (lg_sl ([.ref tp, .int (nI 6), .int b, .int q, .ref out]) ++ List.replicate (6 - (lg_sl ([.ref tp, .int (nI 6), .int b, .int q, .ref out])).length) Slot.unset).toArray = ls at hl ⊢
  have hl : lv_has ls 6 [(0, .ref tp), (1, .int (nI 6)), (2, .int b), (3, .int q), (4, .ref out)] := hl
  refine lv_aload hx hb dL_edge_0 (lv_at hl 4 rfl) ?_
  refine lv_iconst (v := nI 0) hx hb dL_edge_2 (by decide) ?_
  refine lv_aload_n hx hb dL_edge_3 rfl (lv_at hl 0 rfl) ?_
  refine lv_iload_n hx hb dL_edge_4 rfl (lv_at hl 1 rfl) ?_
  refine lv_iload_n hx hb dL_edge_5 rfl (lv_at hl 2 rfl) ?_
  refine lv_iload_n hx hb dL_edge_6 rfl (lv_at hl 3 rfl) ?_
  have hF9 := va_free (wc := wF tp f er tr kr cI cII cJ cJJ) hD hS hA (List.range' 0 45) rfl
  refine kt_xrun (vx_runV (As := [.int (nI 6), .int b, .int q]) (rest := [.int (nI 0), .ref out]) ⟨hx, hb, hml, hown, hts⟩ (x_X4_edge_b l dC dI cI cII cJ cJJ tp (f 0) (f 1) (f 2) (fun _ => 0) (fun _ => 0) (f 3) (f 4) (f 5) (fun _ => 0) (fun _ => 0) (f 6) (f 7) (f 8) (fun _ => 0) (fun _ => 0) (f 9) (f 10) (f 11) (fun _ => 0) (fun _ => 0) (f 12) kr (fun _ _ => 0) 0 0 0 (f 13) (f 14) (fun _ => 0) 0 (f 15) (f 16) (fun _ => 0) (f 17) (f 18) (f 19) (fun _ => 0) (fun _ => 0) (f 20) (f 21) (f 22) (fun _ => 0) (fun _ => 0) (f 23) (f 24) (f 25) (f 26) er 0 (fun _ _ => 0) (fun _ => 0) tr (fun _ _ => 0) hlt 6 b q _ (by decide) (Or.inr rfl) (no_nodeB h)) (cwV 3 hts gL_edge_X4_edge rfl rfl rfl (by decide +kernel) ⟨Nat.le_of_ble_eq_true rfl, Nat.le_of_ble_eq_true rfl⟩) (kt_preVE (q0 := 0) (ci := kX4) hK hP hD hS hE hF9 (List.range' 0 45) rfl rfl rfl rfl rfl) rfl rfl hl.1 rfl (lv_room (Nat.le_of_ble_eq_true rfl)) dL_edge_7 ⟨Nat.le_of_ble_eq_true rfl, Nat.le_of_ble_eq_true rfl⟩) hS hF9 (fun q _ h => hF9 q h) (fun E9 ce q9 u t H locs ht hvm _ hB hz hk hS hce hcv hcl => ?_)
  obtain ⟨rfl, -⟩ := hB
  refine vx_catch (name := exI) hown [] ⟨0, 12, 15, 19⟩ [⟨0, 12, 19, 21⟩] (htab.trans rfl) (fun z hz => absurd hz List.not_mem_nil) rfl (by decide) (hts (.classLink RL 19 exI) (by decide +kernel)) (va_Nw.use rfl hE.castI) hce hcv hcl ?_
  have hP : va_P (dC, dI) vwCl [] H := kt_nilP
  have hD : va_D A [] := kt_nilD
  refine W.widen (k := 1) (n := 6) (by omega) (by omega) ?_
  refine lv_astore (lv' := [(5, .ref q9), (0, .ref tp), (1, .int (nI 6)), (2, .int b), (3, .int q), (4, .ref out)]) hx hb dL_edge_15 hl (by decide) rfl (fun ls hl => ?_)
  refine lv_iconst (v := nI 1) hx hb dL_edge_17 (by decide) ?_
  refine W.widen (k := 1) (n := 6) (by omega) (by omega) ?_
  exact kt_iretS (wN := fun (_ : Unit) => ([] : va_W)) () hx hb hr hS hP hK hD (by decide) hlocks dL_edge_18

set_option maxHeartbeats 4000000 in
set_option maxRecDepth 100000 in
theorem h_edge_c (l : Launch) (hlt : l.stackTraces = false) (dC : Nat → ClassId) (dI : Nat → Nat → Nat) (cI cII cJ cJJ : ClassId) (tp : Nat) (f : Nat → Nat) (er tr kr : Nat → Nat) (out : Nat) (q : Int32) (sz : Nat)  : Met l yL_edge wsL_edge ({ frames := 9, cells := 1, slots := 6, locals := 134 }) (va_Pc [.ref tp, .int (nI 6), .int (nI 6), .int q, .ref out] (PREH (dC, dI) (tyL cI cII cJ cJJ) (wF tp f er tr kr cI cII cJ cJJ ++ wO cJ out oZ) sz)) (va_Qi (fun (r' : Int32) (_ : Unit) => r' = nI 2) (fun (_ : Unit) tS => ATW (dC, dI) (tyL cI cII cJ cJJ) (va_A (wF tp f er tr kr cI cII cJ cJJ ++ wO cJ out oZ) sz) (([] : va_W)) tS) (va_A (wF tp f er tr kr cI cII cJ cJJ ++ wO cJ out oZ) sz)) 1 6 (va_A (wF tp f er tr kr cI cII cJ cJJ ++ wO cJ out oZ) sz) := by
  refine kt_ofWH (cc := cL_edge) (maxL := 6) (ret := some .int) (by decide) rfl ?_
  intro p e s m args below meth c s₁ B hml hv
  obtain ⟨rfl, ⟨⟨hsz, hP, hK, hD0⟩, hE⟩, hnc⟩ := hv
  have hx := B.exec
  have hb := B.bytes
  have hr := B.returns
  have hlocks := B.notSynchronized
  have hts := atoms_spec (ws := wsL_edge) B.pre
  have hown : s.vm.findClass RL = some m.cls := findClass_of_methodNamed B.named
  have htab := vx_table (x := yL_edge) B (hts _ List.mem_cons_self)
  subst hsz
  have hD := hD0.self (sz := s.heap.size)
  generalize hAe : va_A (wF tp f er tr kr cI cII cJ cJJ ++ wO cJ out oZ) s.heap.size = A at hD hE ⊢
  have hA : ∀ q : Nat, s.heap.size ≤ q → A q := fun q h => by rw [← hAe]; exact Or.inr h
  have hS : va_S A s.heap s.heap [] := va_S.rf
  have hl := lv_entry ([.ref tp, .int (nI 6), .int (nI 6), .int q, .ref out]) (n := 6) (Nat.le_of_ble_eq_true rfl)
  rw [lg_entry_eq]
  generalize (lg_sl ([.ref tp, .int (nI 6), .int (nI 6), .int q, .ref out]) ++ List.replicate (6 - (lg_sl ([.ref tp, .int (nI 6), .int (nI 6), .int q, .ref out])).length) Slot.unset).toArray = ls at hl ⊢
  have hl : lv_has ls 6 [(0, .ref tp), (1, .int (nI 6)), (2, .int (nI 6)), (3, .int q), (4, .ref out)] := hl
  refine lv_aload hx hb dL_edge_0 (lv_at hl 4 rfl) ?_
  refine lv_iconst (v := nI 0) hx hb dL_edge_2 (by decide) ?_
  refine lv_aload_n hx hb dL_edge_3 rfl (lv_at hl 0 rfl) ?_
  refine lv_iload_n hx hb dL_edge_4 rfl (lv_at hl 1 rfl) ?_
  refine lv_iload_n hx hb dL_edge_5 rfl (lv_at hl 2 rfl) ?_
  refine lv_iload_n hx hb dL_edge_6 rfl (lv_at hl 3 rfl) ?_
  have hF9 := va_free (wc := wF tp f er tr kr cI cII cJ cJJ) hD hS hA (List.range' 0 45) rfl
  refine kt_xrun (vx_runV (As := [.int (nI 6), .int (nI 6), .int q]) (rest := [.int (nI 0), .ref out]) ⟨hx, hb, hml, hown, hts⟩ (x_X4_edge_same l dC dI cI cII cJ cJJ tp (f 0) (f 1) (f 2) (fun _ => 0) (fun _ => 0) (f 3) (f 4) (f 5) (fun _ => 0) (fun _ => 0) (f 6) (f 7) (f 8) (fun _ => 0) (fun _ => 0) (f 9) (f 10) (f 11) (fun _ => 0) (fun _ => 0) (f 12) kr (fun _ _ => 0) 0 0 0 (f 13) (f 14) (fun _ => 0) 0 (f 15) (f 16) (fun _ => 0) (f 17) (f 18) (f 19) (fun _ => 0) (fun _ => 0) (f 20) (f 21) (f 22) (fun _ => 0) (fun _ => 0) (f 23) (f 24) (f 25) (f 26) er 0 (fun _ _ => 0) (fun _ => 0) tr (fun _ _ => 0) hlt 6 6 q _ (by decide) (Or.inr rfl) (Or.inr rfl) (rfl)) (cwV 3 hts gL_edge_X4_edge rfl rfl rfl (by decide +kernel) ⟨Nat.le_of_ble_eq_true rfl, Nat.le_of_ble_eq_true rfl⟩) (kt_preVE (q0 := 0) (ci := kX4) hK hP hD hS hE hF9 (List.range' 0 45) rfl rfl rfl rfl rfl) rfl rfl hl.1 rfl (lv_room (Nat.le_of_ble_eq_true rfl)) dL_edge_7 ⟨Nat.le_of_ble_eq_true rfl, Nat.le_of_ble_eq_true rfl⟩) hS hF9 (fun q _ h => hF9 q h) (fun E9 ce q9 u t H locs ht hvm _ hB hz hk hS hce hcv hcl => ?_)
  obtain ⟨rfl, -⟩ := hB
  refine vx_catch (name := exA) hown [⟨0, 12, 15, 19⟩] ⟨0, 12, 19, 21⟩ [] (htab.trans rfl) (fun z hz => by rcases List.mem_singleton.mp hz with rfl; exact Or.inr ⟨by decide, exI, hts (.classLink RL 19 exI) (by decide +kernel), hnc⟩) rfl (by decide) (hts (.classLink RL 21 exA) (by decide +kernel)) (va_Nw.use rfl hE.castA) hce hcv hcl ?_
  have hP : va_P (dC, dI) vwCl [] H := kt_nilP
  have hD : va_D A [] := kt_nilD
  refine W.widen (k := 1) (n := 6) (by omega) (by omega) ?_
  refine lv_astore (lv' := [(5, .ref q9), (0, .ref tp), (1, .int (nI 6)), (2, .int (nI 6)), (3, .int q), (4, .ref out)]) hx hb dL_edge_19 hl (by decide) rfl (fun ls hl => ?_)
  refine lv_iconst (v := nI 2) hx hb dL_edge_21 (by decide) ?_
  refine W.widen (k := 1) (n := 6) (by omega) (by omega) ?_
  exact kt_iretS (wN := fun (_ : Unit) => ([] : va_W)) () hx hb hr hS hP hK hD (by decide) hlocks dL_edge_22

set_option maxHeartbeats 4000000 in
set_option maxRecDepth 100000 in
theorem h_drop (l : Launch) (hlt : l.stackTraces = false) (dC : Nat → ClassId) (dI : Nat → Nat → Nat) (cI cII cJ cJJ : ClassId) (tp : Nat) (f : Nat → Nat) (er tr kr : Nat → Nat) (out : Nat) (v : Int32) (q : Int32) (sz : Nat)  : Met l yL_drop wsL_drop ({ frames := 9, cells := 1, slots := 6, locals := 132 }) (va_Pc [.ref tp, .int v, .int q, .ref out] (PREH (dC, dI) (tyL cI cII cJ cJJ) (wF tp f er tr kr cI cII cJ cJJ ++ wO cJ out oZ) sz)) (va_Qi (fun (r' : Int32) (_ : Unit) => r' = nI 1) (fun (_ : Unit) tS => ATW (dC, dI) (tyL cI cII cJ cJJ) (va_A (wF tp f er tr kr cI cII cJ cJJ ++ wO cJ out oZ) sz) (([] : va_W)) tS) (va_A (wF tp f er tr kr cI cII cJ cJJ ++ wO cJ out oZ) sz)) 1 6 (va_A (wF tp f er tr kr cI cII cJ cJJ ++ wO cJ out oZ) sz) := by
  refine kt_ofWH (cc := cL_drop) (maxL := 5) (ret := some .int) (by decide) rfl ?_
  intro p e s m args below meth c s₁ B hml hv
  obtain ⟨rfl, ⟨⟨hsz, hP, hK, hD0⟩, hE⟩, hnc⟩ := hv
  have hx := B.exec
  have hb := B.bytes
  have hr := B.returns
  have hlocks := B.notSynchronized
  have hts := atoms_spec (ws := wsL_drop) B.pre
  have hown : s.vm.findClass RL = some m.cls := findClass_of_methodNamed B.named
  have htab := vx_table (x := yL_drop) B (hts _ List.mem_cons_self)
  subst hsz
  have hD := hD0.self (sz := s.heap.size)
  generalize hAe : va_A (wF tp f er tr kr cI cII cJ cJJ ++ wO cJ out oZ) s.heap.size = A at hD hE ⊢
  have hA : ∀ q : Nat, s.heap.size ≤ q → A q := fun q h => by rw [← hAe]; exact Or.inr h
  have hS : va_S A s.heap s.heap [] := va_S.rf
  have hl := lv_entry ([.ref tp, .int v, .int q, .ref out]) (n := 5) (Nat.le_of_ble_eq_true rfl)
  rw [lg_entry_eq]
  generalize (lg_sl ([.ref tp, .int v, .int q, .ref out]) ++ List.replicate (5 - (lg_sl ([.ref tp, .int v, .int q, .ref out])).length) Slot.unset).toArray = ls at hl ⊢
  have hl : lv_has ls 5 [(0, .ref tp), (1, .int v), (2, .int q), (3, .ref out)] := hl
  refine lv_aload_n hx hb dL_drop_0 rfl (lv_at hl 3 rfl) ?_
  refine lv_iconst (v := nI 0) hx hb dL_drop_1 (by decide) ?_
  refine lv_aload_n hx hb dL_drop_2 rfl (lv_at hl 0 rfl) ?_
  refine lv_iload_n hx hb dL_drop_3 rfl (lv_at hl 1 rfl) ?_
  refine lv_iload_n hx hb dL_drop_4 rfl (lv_at hl 2 rfl) ?_
  have hF9 := va_free (wc := wF tp f er tr kr cI cII cJ cJJ) hD hS hA (List.range' 0 45) rfl
  refine kt_xrun (vx_runV (As := [.int v, .int q]) (rest := [.int (nI 0), .ref out]) ⟨hx, hb, hml, hown, hts⟩ (x_X4_drop_spot l dC dI cI cII cJ cJJ tp (f 0) (f 1) (f 2) (fun _ => 0) (fun _ => 0) (f 3) (f 4) (f 5) (fun _ => 0) (fun _ => 0) (f 6) (f 7) (f 8) (fun _ => 0) (fun _ => 0) (f 9) (f 10) (f 11) (fun _ => 0) (fun _ => 0) (f 12) kr (fun _ _ => 0) 0 0 0 (f 13) (f 14) (fun _ => 0) 0 (f 15) (f 16) (fun _ => 0) (f 17) (f 18) (f 19) (fun _ => 0) (fun _ => 0) (f 20) (f 21) (f 22) (fun _ => 0) (fun _ => 0) (f 23) (f 24) (f 25) (f 26) er 0 (fun _ _ => 0) (fun _ => 0) tr (fun _ _ => 0) hlt v q _ (by decide) (no_spotB v)) (cwV 2 hts gL_drop_X4_drop rfl rfl rfl (by decide +kernel) ⟨Nat.le_of_ble_eq_true rfl, Nat.le_of_ble_eq_true rfl⟩) (kt_preVE (q0 := 0) (ci := kX4) hK hP hD hS hE hF9 (List.range' 0 45) rfl rfl rfl rfl rfl) rfl rfl hl.1 rfl (lv_room (Nat.le_of_ble_eq_true rfl)) dL_drop_5 ⟨Nat.le_of_ble_eq_true rfl, Nat.le_of_ble_eq_true rfl⟩) hS hF9 (fun q _ h => hF9 q h) (fun E9 ce q9 u t H locs ht hvm _ hB hz hk hS hce hcv hcl => ?_)
  obtain ⟨rfl, -⟩ := hB
  refine vx_catch (name := exI) hown [] ⟨0, 10, 13, 19⟩ [⟨0, 10, 17, 21⟩, ⟨0, 10, 21, 13⟩] (htab.trans rfl) (fun z hz => absurd hz List.not_mem_nil) rfl (by decide) (hts (.classLink RL 19 exI) (by decide +kernel)) (va_Nw.use rfl hE.castI) hce hcv hcl ?_
  have hP : va_P (dC, dI) vwCl [] H := kt_nilP
  have hD : va_D A [] := kt_nilD
  refine W.widen (k := 1) (n := 6) (by omega) (by omega) ?_
  refine lv_astore (lv' := [(4, .ref q9), (0, .ref tp), (1, .int v), (2, .int q), (3, .ref out)]) hx hb dL_drop_13 hl (by decide) rfl (fun ls hl => ?_)
  refine lv_iconst (v := nI 1) hx hb dL_drop_15 (by decide) ?_
  refine W.widen (k := 1) (n := 6) (by omega) (by omega) ?_
  exact kt_iretS (wN := fun (_ : Unit) => ([] : va_W)) () hx hb hr hS hP hK hD (by decide) hlocks dL_drop_16

set_option maxHeartbeats 4000000 in
set_option maxRecDepth 100000 in
theorem h_topple (l : Launch) (hlt : l.stackTraces = false) (dC : Nat → ClassId) (dI : Nat → Nat → Nat) (cI cII cJ cJJ : ClassId) (tp : Nat) (f : Nat → Nat) (er tr kr : Nat → Nat) (out : Nat) (v : Int32) (sz : Nat)  : Met l yL_topple wsL_topple ({ frames := 9, cells := 1, slots := 6, locals := 131 }) (va_Pc [.ref tp, .int v, .ref out] (PREH (dC, dI) (tyL cI cII cJ cJJ) (wF tp f er tr kr cI cII cJ cJJ ++ wO cJ out oZ) sz)) (va_Qi (fun (r' : Int32) (_ : Unit) => r' = nI 1) (fun (_ : Unit) tS => ATW (dC, dI) (tyL cI cII cJ cJJ) (va_A (wF tp f er tr kr cI cII cJ cJJ ++ wO cJ out oZ) sz) (([] : va_W)) tS) (va_A (wF tp f er tr kr cI cII cJ cJJ ++ wO cJ out oZ) sz)) 1 6 (va_A (wF tp f er tr kr cI cII cJ cJJ ++ wO cJ out oZ) sz) := by
  refine kt_ofWH (cc := cL_topple) (maxL := 4) (ret := some .int) (by decide) rfl ?_
  intro p e s m args below meth c s₁ B hml hv
  obtain ⟨rfl, ⟨⟨hsz, hP, hK, hD0⟩, hE⟩, hnc⟩ := hv
  have hx := B.exec
  have hb := B.bytes
  have hr := B.returns
  have hlocks := B.notSynchronized
  have hts := atoms_spec (ws := wsL_topple) B.pre
  have hown : s.vm.findClass RL = some m.cls := findClass_of_methodNamed B.named
  have htab := vx_table (x := yL_topple) B (hts _ List.mem_cons_self)
  subst hsz
  have hD := hD0.self (sz := s.heap.size)
  generalize hAe : va_A (wF tp f er tr kr cI cII cJ cJJ ++ wO cJ out oZ) s.heap.size = A at hD hE ⊢
  have hA : ∀ q : Nat, s.heap.size ≤ q → A q := fun q h => by rw [← hAe]; exact Or.inr h
  have hS : va_S A s.heap s.heap [] := va_S.rf
  have hl := lv_entry ([.ref tp, .int v, .ref out]) (n := 4) (Nat.le_of_ble_eq_true rfl)
  rw [lg_entry_eq]
  generalize (lg_sl ([.ref tp, .int v, .ref out]) ++ List.replicate (4 - (lg_sl ([.ref tp, .int v, .ref out])).length) Slot.unset).toArray = ls at hl ⊢
  have hl : lv_has ls 4 [(0, .ref tp), (1, .int v), (2, .ref out)] := hl
  refine lv_aload_n hx hb dL_topple_0 rfl (lv_at hl 2 rfl) ?_
  refine lv_iconst (v := nI 0) hx hb dL_topple_1 (by decide) ?_
  refine lv_aload_n hx hb dL_topple_2 rfl (lv_at hl 0 rfl) ?_
  refine lv_iload_n hx hb dL_topple_3 rfl (lv_at hl 1 rfl) ?_
  have hF9 := va_free (wc := wF tp f er tr kr cI cII cJ cJJ) hD hS hA (List.range' 0 45) rfl
  refine kt_xrun (vx_runV (As := [.int v]) (rest := [.int (nI 0), .ref out]) ⟨hx, hb, hml, hown, hts⟩ (x_X4_topple_spot l dC dI cI cII cJ cJJ tp (f 0) (f 1) (f 2) (fun _ => 0) (fun _ => 0) (f 3) (f 4) (f 5) (fun _ => 0) (fun _ => 0) (f 6) (f 7) (f 8) (fun _ => 0) (fun _ => 0) (f 9) (f 10) (f 11) (fun _ => 0) (fun _ => 0) (f 12) kr (fun _ _ => 0) 0 0 0 (f 13) (f 14) (fun _ => 0) 0 (f 15) (f 16) (fun _ => 0) (f 17) (f 18) (f 19) (fun _ => 0) (fun _ => 0) (f 20) (f 21) (f 22) (fun _ => 0) (fun _ => 0) (f 23) (f 24) (f 25) (f 26) er 0 (fun _ _ => 0) (fun _ => 0) tr (fun _ _ => 0) hlt v _ (by decide) (no_spotB v)) (cwV 1 hts gL_topple_X4_topple rfl rfl rfl (by decide +kernel) ⟨Nat.le_of_ble_eq_true rfl, Nat.le_of_ble_eq_true rfl⟩) (kt_preVE (q0 := 0) (ci := kX4) hK hP hD hS hE hF9 (List.range' 0 45) rfl rfl rfl rfl rfl) rfl rfl hl.1 rfl (lv_room (Nat.le_of_ble_eq_true rfl)) dL_topple_4 ⟨Nat.le_of_ble_eq_true rfl, Nat.le_of_ble_eq_true rfl⟩) hS hF9 (fun q _ h => hF9 q h) (fun E9 ce q9 u t H locs ht hvm _ hB hz hk hS hce hcv hcl => ?_)
  obtain ⟨rfl, -⟩ := hB
  refine vx_catch (name := exI) hown [] ⟨0, 9, 12, 19⟩ [⟨0, 9, 15, 13⟩] (htab.trans rfl) (fun z hz => absurd hz List.not_mem_nil) rfl (by decide) (hts (.classLink RL 19 exI) (by decide +kernel)) (va_Nw.use rfl hE.castI) hce hcv hcl ?_
  have hP : va_P (dC, dI) vwCl [] H := kt_nilP
  have hD : va_D A [] := kt_nilD
  refine W.widen (k := 1) (n := 6) (by omega) (by omega) ?_
  refine lv_astore_n (lv' := [(3, .ref q9), (0, .ref tp), (1, .int v), (2, .ref out)]) hx hb dL_topple_12 rfl hl (by decide) rfl (fun ls hl => ?_)
  refine lv_iconst (v := nI 1) hx hb dL_topple_13 (by decide) ?_
  refine W.widen (k := 1) (n := 6) (by omega) (by omega) ?_
  exact kt_iretS (wN := fun (_ : Unit) => ([] : va_W)) () hx hb hr hS hP hK hD (by decide) hlocks dL_topple_14

set_option maxHeartbeats 4000000 in
set_option maxRecDepth 100000 in
theorem h_settle (l : Launch) (hlt : l.stackTraces = false) (dC : Nat → ClassId) (dI : Nat → Nat → Nat) (cI cII cJ cJJ : ClassId) (tp : Nat) (f : Nat → Nat) (er tr kr : Nat → Nat) (out : Nat)  (sz : Nat)  : Met l yL_settle wsL_settle ({ frames := 9, cells := 1, slots := 6, locals := 130 }) (va_Pc [.ref tp, .ref out] (PREH (dC, dI) (tyL cI cII cJ cJJ) (wF tp f er tr kr cI cII cJ cJJ ++ wO cJ out oZ) sz)) (va_Qi (fun (r' : Int32) (_ : Unit) => r' = nI 1) (fun (_ : Unit) tS => ATW (dC, dI) (tyL cI cII cJ cJJ) (va_A (wF tp f er tr kr cI cII cJ cJJ ++ wO cJ out oZ) sz) (([] : va_W)) tS) (va_A (wF tp f er tr kr cI cII cJ cJJ ++ wO cJ out oZ) sz)) 1 6 (va_A (wF tp f er tr kr cI cII cJ cJJ ++ wO cJ out oZ) sz) := by
  refine kt_ofWH (cc := cL_settle) (maxL := 3) (ret := some .int) (by decide) rfl ?_
  intro p e s m args below meth c s₁ B hml hv
  obtain ⟨rfl, ⟨⟨hsz, hP, hK, hD0⟩, hE⟩, hnc⟩ := hv
  have hx := B.exec
  have hb := B.bytes
  have hr := B.returns
  have hlocks := B.notSynchronized
  have hts := atoms_spec (ws := wsL_settle) B.pre
  have hown : s.vm.findClass RL = some m.cls := findClass_of_methodNamed B.named
  have htab := vx_table (x := yL_settle) B (hts _ List.mem_cons_self)
  subst hsz
  have hD := hD0.self (sz := s.heap.size)
  generalize hAe : va_A (wF tp f er tr kr cI cII cJ cJJ ++ wO cJ out oZ) s.heap.size = A at hD hE ⊢
  have hA : ∀ q : Nat, s.heap.size ≤ q → A q := fun q h => by rw [← hAe]; exact Or.inr h
  have hS : va_S A s.heap s.heap [] := va_S.rf
  have hl := lv_entry ([.ref tp, .ref out]) (n := 3) (Nat.le_of_ble_eq_true rfl)
  rw [lg_entry_eq]
  generalize (lg_sl ([.ref tp, .ref out]) ++ List.replicate (3 - (lg_sl ([.ref tp, .ref out])).length) Slot.unset).toArray = ls at hl ⊢
  have hl : lv_has ls 3 [(0, .ref tp), (1, .ref out)] := hl
  refine lv_aload_n hx hb dL_settle_0 rfl (lv_at hl 1 rfl) ?_
  refine lv_iconst (v := nI 0) hx hb dL_settle_1 (by decide) ?_
  refine lv_aload_n hx hb dL_settle_2 rfl (lv_at hl 0 rfl) ?_
  have hF9 := va_free (wc := wF tp f er tr kr cI cII cJ cJJ) hD hS hA (List.range' 0 45) rfl
  refine kt_xrun (vx_runV (As := []) (rest := [.int (nI 0), .ref out]) ⟨hx, hb, hml, hown, hts⟩ (x_X4_settle_fast l dC dI cI cII cJ cJJ tp (f 0) (f 1) (f 2) (fun _ => 0) (fun _ => 0) (f 3) (f 4) (f 5) (fun _ => 0) (fun _ => 0) (f 6) (f 7) (f 8) (fun _ => 0) (fun _ => 0) (f 9) (f 10) (f 11) (fun _ => 0) (fun _ => 0) (f 12) kr (fun _ _ => 0) 0 0 0 (f 13) (f 14) (fun _ => 0) 0 (f 15) (f 16) (fun _ => 0) (f 17) (f 18) (f 19) (fun _ => 0) (fun _ => 0) (f 20) (f 21) (f 22) (fun _ => 0) (fun _ => 0) (f 23) (f 24) (f 25) (f 26) er 0 (fun _ _ => 0) (fun _ => 0) tr (fun _ _ => 0) hlt _ (by decide) (slow0)) (cwV 0 hts gL_settle_X4_settle rfl rfl rfl (by decide +kernel) ⟨Nat.le_of_ble_eq_true rfl, Nat.le_of_ble_eq_true rfl⟩) (kt_preVE (q0 := 0) (ci := kX4) hK hP hD hS hE hF9 (List.range' 0 45) rfl rfl rfl rfl rfl) rfl rfl hl.1 rfl (lv_room (Nat.le_of_ble_eq_true rfl)) dL_settle_3 ⟨Nat.le_of_ble_eq_true rfl, Nat.le_of_ble_eq_true rfl⟩) hS hF9 (fun q _ h => hF9 q h) (fun E9 ce q9 u t H locs ht hvm _ hB hz hk hS hce hcv hcl => ?_)
  obtain ⟨rfl, -⟩ := hB
  refine vx_catch (name := exS) hown [] ⟨0, 8, 11, 13⟩ [] (htab.trans rfl) (fun z hz => absurd hz List.not_mem_nil) rfl (by decide) (hts (.classLink RL 13 exS) (by decide +kernel)) (va_Nw.use rfl hE.castS) hce hcv hcl ?_
  have hP : va_P (dC, dI) vwCl [] H := kt_nilP
  have hD : va_D A [] := kt_nilD
  refine W.widen (k := 1) (n := 6) (by omega) (by omega) ?_
  refine lv_astore_n (lv' := [(2, .ref q9), (0, .ref tp), (1, .ref out)]) hx hb dL_settle_11 rfl hl (by decide) rfl (fun ls hl => ?_)
  refine lv_iconst (v := nI 1) hx hb dL_settle_12 (by decide) ?_
  refine W.widen (k := 1) (n := 6) (by omega) (by omega) ?_
  exact kt_iretS (wN := fun (_ : Unit) => ([] : va_W)) () hx hb hr hS hP hK hD (by decide) hlocks dL_settle_13

set_option maxHeartbeats 4000000 in
set_option maxRecDepth 100000 in
theorem h_add (l : Launch) (hlt : l.stackTraces = false) (dC : Nat → ClassId) (dI : Nat → Nat → Nat) (cI cII cJ cJJ : ClassId) (tp : Nat) (f : Nat → Nat) (er tr kr : Nat → Nat) (out : Nat) (v : Int32) (sz : Nat)  : Met l yL_add wsL_add ({ frames := 9, cells := 1, slots := 6, locals := 132 }) (va_Pc [.ref tp, .int v, .ref out] (PREH (dC, dI) (tyL cI cII cJ cJJ) (wF tp f er tr kr cI cII cJ cJJ ++ wO cJ out oZ) sz)) (va_Qi (fun (r' : Int32) (_ : Unit) => r' = nI 1) (fun (_ : Unit) tS => ATW (dC, dI) (tyL cI cII cJ cJJ) (va_A (wF tp f er tr kr cI cII cJ cJJ ++ wO cJ out oZ) sz) (([] : va_W)) tS) (va_A (wF tp f er tr kr cI cII cJ cJJ ++ wO cJ out oZ) sz)) 1 6 (va_A (wF tp f er tr kr cI cII cJ cJJ ++ wO cJ out oZ) sz) := by
  refine kt_ofWH (cc := cL_add) (maxL := 4) (ret := some .int) (by decide) rfl ?_
  intro p e s m args below meth c s₁ B hml hv
  obtain ⟨rfl, ⟨⟨hsz, hP, hK, hD0⟩, hE⟩, hnc⟩ := hv
  have hx := B.exec
  have hb := B.bytes
  have hr := B.returns
  have hlocks := B.notSynchronized
  have hts := atoms_spec (ws := wsL_add) B.pre
  have hown : s.vm.findClass RL = some m.cls := findClass_of_methodNamed B.named
  have htab := vx_table (x := yL_add) B (hts _ List.mem_cons_self)
  subst hsz
  have hD := hD0.self (sz := s.heap.size)
  generalize hAe : va_A (wF tp f er tr kr cI cII cJ cJJ ++ wO cJ out oZ) s.heap.size = A at hD hE ⊢
  have hA : ∀ q : Nat, s.heap.size ≤ q → A q := fun q h => by rw [← hAe]; exact Or.inr h
  have hS : va_S A s.heap s.heap [] := va_S.rf
  have hl := lv_entry ([.ref tp, .int v, .ref out]) (n := 4) (Nat.le_of_ble_eq_true rfl)
  rw [lg_entry_eq]
  generalize (lg_sl ([.ref tp, .int v, .ref out]) ++ List.replicate (4 - (lg_sl ([.ref tp, .int v, .ref out])).length) Slot.unset).toArray = ls at hl ⊢
  have hl : lv_has ls 4 [(0, .ref tp), (1, .int v), (2, .ref out)] := hl
  refine lv_aload_n hx hb dL_add_0 rfl (lv_at hl 2 rfl) ?_
  refine lv_iconst (v := nI 0) hx hb dL_add_1 (by decide) ?_
  refine lv_aload_n hx hb dL_add_2 rfl (lv_at hl 0 rfl) ?_
  refine lv_iload_n hx hb dL_add_3 rfl (lv_at hl 1 rfl) ?_
  have hF9 := va_free (wc := wF tp f er tr kr cI cII cJ cJJ) hD hS hA (List.range' 0 45) rfl
  refine kt_xrun (vx_runV (As := [.int v]) (rest := [.int (nI 0), .ref out]) ⟨hx, hb, hml, hown, hts⟩ (x_X4_add_heap l dC dI cI cII cJ cJJ tp (f 0) (f 1) (f 2) (fun _ => 0) (fun _ => 0) (f 3) (f 4) (f 5) (fun _ => 0) (fun _ => 0) (f 6) (f 7) (f 8) (fun _ => 0) (fun _ => 0) (f 9) (f 10) (f 11) (fun _ => 0) (fun _ => 0) (f 12) kr (fun _ _ => 0) 0 0 0 (f 13) (f 14) (fun _ => 0) 0 (f 15) (f 16) (fun _ => 0) (f 17) (f 18) (f 19) (fun _ => 0) (fun _ => 0) (f 20) (f 21) (f 22) (fun _ => 0) (fun _ => 0) (f 23) (f 24) (f 25) (f 26) er 0 (fun _ _ => 0) (fun _ => 0) tr (fun _ _ => 0) hlt v _ (no_heapB v)) (cwV 1 hts gL_add_X4_add rfl rfl rfl (by decide +kernel) ⟨Nat.le_of_ble_eq_true rfl, Nat.le_of_ble_eq_true rfl⟩) (kt_preVE (q0 := 0) (ci := kX4) hK hP hD hS hE hF9 (List.range' 0 45) rfl rfl rfl rfl rfl) rfl rfl hl.1 rfl (lv_room (Nat.le_of_ble_eq_true rfl)) dL_add_4 ⟨Nat.le_of_ble_eq_true rfl, Nat.le_of_ble_eq_true rfl⟩) hS hF9 (fun q _ h => hF9 q h) (fun E9 ce q9 u t H locs ht hvm _ hB hz hk hS hce hcv hcl => ?_)
  obtain ⟨rfl, -⟩ := hB
  refine vx_catch (name := exI) hown [] ⟨0, 9, 12, 19⟩ [⟨0, 9, 15, 13⟩] (htab.trans rfl) (fun z hz => absurd hz List.not_mem_nil) rfl (by decide) (hts (.classLink RL 19 exI) (by decide +kernel)) (va_Nw.use rfl hE.castI) hce hcv hcl ?_
  have hP : va_P (dC, dI) vwCl [] H := kt_nilP
  have hD : va_D A [] := kt_nilD
  refine W.widen (k := 1) (n := 6) (by omega) (by omega) ?_
  refine lv_astore_n (lv' := [(3, .ref q9), (0, .ref tp), (1, .int v), (2, .ref out)]) hx hb dL_add_12 rfl hl (by decide) rfl (fun ls hl => ?_)
  refine lv_iconst (v := nI 1) hx hb dL_add_13 (by decide) ?_
  refine W.widen (k := 1) (n := 6) (by omega) (by omega) ?_
  exact kt_iretS (wN := fun (_ : Unit) => ([] : va_W)) () hx hb hr hS hP hK hD (by decide) hlocks dL_add_14

set_option maxHeartbeats 4000000 in
set_option maxRecDepth 100000 in
theorem h_walk (l : Launch) (hlt : l.stackTraces = false) (dC : Nat → ClassId) (dI : Nat → Nat → Nat) (cI cII cJ cJJ : ClassId) (tp : Nat) (f : Nat → Nat) (er tr kr : Nat → Nat) (out : Nat) (v : Int32) (sz : Nat)  : Met l yL_walk wsL_walk ({ frames := 9, cells := 1, slots := 6, locals := 131 }) (va_Pc [.ref tp, .int v, .ref out] (PREH (dC, dI) (tyL cI cII cJ cJJ) (wF tp f er tr kr cI cII cJ cJJ ++ wO cJ out oZ) sz)) (va_Qi (fun (r' : Int32) (_ : Unit) => r' = nI 1) (fun (_ : Unit) tS => ATW (dC, dI) (tyL cI cII cJ cJJ) (va_A (wF tp f er tr kr cI cII cJ cJJ ++ wO cJ out oZ) sz) (([] : va_W)) tS) (va_A (wF tp f er tr kr cI cII cJ cJJ ++ wO cJ out oZ) sz)) 1 6 (va_A (wF tp f er tr kr cI cII cJ cJJ ++ wO cJ out oZ) sz) := by
  refine kt_ofWH (cc := cL_walk) (maxL := 4) (ret := some .int) (by decide) rfl ?_
  intro p e s m args below meth c s₁ B hml hv
  obtain ⟨rfl, ⟨⟨hsz, hP, hK, hD0⟩, hE⟩, hnc⟩ := hv
  have hx := B.exec
  have hb := B.bytes
  have hr := B.returns
  have hlocks := B.notSynchronized
  have hts := atoms_spec (ws := wsL_walk) B.pre
  have hown : s.vm.findClass RL = some m.cls := findClass_of_methodNamed B.named
  have htab := vx_table (x := yL_walk) B (hts _ List.mem_cons_self)
  subst hsz
  have hD := hD0.self (sz := s.heap.size)
  generalize hAe : va_A (wF tp f er tr kr cI cII cJ cJJ ++ wO cJ out oZ) s.heap.size = A at hD hE ⊢
  have hA : ∀ q : Nat, s.heap.size ≤ q → A q := fun q h => by rw [← hAe]; exact Or.inr h
  have hS : va_S A s.heap s.heap [] := va_S.rf
  have hl := lv_entry ([.ref tp, .int v, .ref out]) (n := 4) (Nat.le_of_ble_eq_true rfl)
  rw [lg_entry_eq]
  generalize (lg_sl ([.ref tp, .int v, .ref out]) ++ List.replicate (4 - (lg_sl ([.ref tp, .int v, .ref out])).length) Slot.unset).toArray = ls at hl ⊢
  have hl : lv_has ls 4 [(0, .ref tp), (1, .int v), (2, .ref out)] := hl
  refine lv_aload_n hx hb dL_walk_0 rfl (lv_at hl 2 rfl) ?_
  refine lv_iconst (v := nI 0) hx hb dL_walk_1 (by decide) ?_
  refine lv_aload_n hx hb dL_walk_2 rfl (lv_at hl 0 rfl) ?_
  refine lv_iload_n hx hb dL_walk_3 rfl (lv_at hl 1 rfl) ?_
  have hF9 := va_free (wc := wF tp f er tr kr cI cII cJ cJJ) hD hS hA (List.range' 0 45) rfl
  refine kt_xrun (vx_runV (As := [.int v]) (rest := [.int (nI 0), .ref out]) ⟨hx, hb, hml, hown, hts⟩ (x_X4_walk_spot l dC dI cI cII cJ cJJ tp (f 0) (f 1) (f 2) (fun _ => 0) (fun _ => 0) (f 3) (f 4) (f 5) (fun _ => 0) (fun _ => 0) (f 6) (f 7) (f 8) (fun _ => 0) (fun _ => 0) (f 9) (f 10) (f 11) (fun _ => 0) (fun _ => 0) (f 12) kr (fun _ _ => 0) 0 0 0 (f 13) (f 14) (fun _ => 0) 0 (f 15) (f 16) (fun _ => 0) (f 17) (f 18) (f 19) (fun _ => 0) (fun _ => 0) (f 20) (f 21) (f 22) (fun _ => 0) (fun _ => 0) (f 23) (f 24) (f 25) (f 26) er 0 (fun _ _ => 0) (fun _ => 0) tr (fun _ _ => 0) hlt v _ (by decide) (no_spotB v)) (cwV 1 hts gL_walk_X4_walk rfl rfl rfl (by decide +kernel) ⟨Nat.le_of_ble_eq_true rfl, Nat.le_of_ble_eq_true rfl⟩) (kt_preVE (q0 := 0) (ci := kX4) hK hP hD hS hE hF9 (List.range' 0 45) rfl rfl rfl rfl rfl) rfl rfl hl.1 rfl (lv_room (Nat.le_of_ble_eq_true rfl)) dL_walk_4 ⟨Nat.le_of_ble_eq_true rfl, Nat.le_of_ble_eq_true rfl⟩) hS hF9 (fun q _ h => hF9 q h) (fun E9 ce q9 u t H locs ht hvm _ hB hz hk hS hce hcv hcl => ?_)
  obtain ⟨rfl, -⟩ := hB
  refine vx_catch (name := exI) hown [] ⟨0, 9, 12, 19⟩ [⟨0, 9, 15, 13⟩] (htab.trans rfl) (fun z hz => absurd hz List.not_mem_nil) rfl (by decide) (hts (.classLink RL 19 exI) (by decide +kernel)) (va_Nw.use rfl hE.castI) hce hcv hcl ?_
  have hP : va_P (dC, dI) vwCl [] H := kt_nilP
  have hD : va_D A [] := kt_nilD
  refine W.widen (k := 1) (n := 6) (by omega) (by omega) ?_
  refine lv_astore_n (lv' := [(3, .ref q9), (0, .ref tp), (1, .int v), (2, .ref out)]) hx hb dL_walk_12 rfl hl (by decide) rfl (fun ls hl => ?_)
  refine lv_iconst (v := nI 1) hx hb dL_walk_13 (by decide) ?_
  refine W.widen (k := 1) (n := 6) (by omega) (by omega) ?_
  exact kt_iretS (wN := fun (_ : Unit) => ([] : va_W)) () hx hb hr hS hP hK hD (by decide) hlocks dL_walk_14

set_option maxHeartbeats 4000000 in
set_option maxRecDepth 100000 in
theorem h_pay_node (l : Launch) (hlt : l.stackTraces = false) (dC : Nat → ClassId) (dI : Nat → Nat → Nat) (cI cII cJ cJJ : ClassId) (tp : Nat) (f : Nat → Nat) (er tr kr : Nat → Nat) (out : Nat) (v : Int32) (q : Int32) (sz : Nat) (h : ¬ v = nI 6) : Met l yL_pay wsL_pay ({ frames := 9, cells := 1, slots := 6, locals := 132 }) (va_Pc [.ref tp, .int v, .int q, .ref out] (PREH (dC, dI) (tyL cI cII cJ cJJ) (wF tp f er tr kr cI cII cJ cJJ ++ wO cJ out oZ) sz)) (va_Qi (fun (r' : Int32) (_ : Unit) => r' = nI 1) (fun (_ : Unit) tS => ATW (dC, dI) (tyL cI cII cJ cJJ) (va_A (wF tp f er tr kr cI cII cJ cJJ ++ wO cJ out oZ) sz) (([] : va_W)) tS) (va_A (wF tp f er tr kr cI cII cJ cJJ ++ wO cJ out oZ) sz)) 1 6 (va_A (wF tp f er tr kr cI cII cJ cJJ ++ wO cJ out oZ) sz) := by
  refine kt_ofWH (cc := cL_pay) (maxL := 5) (ret := some .int) (by decide) rfl ?_
  intro p e s m args below meth c s₁ B hml hv
  obtain ⟨rfl, ⟨⟨hsz, hP, hK, hD0⟩, hE⟩, hnc⟩ := hv
  have hx := B.exec
  have hb := B.bytes
  have hr := B.returns
  have hlocks := B.notSynchronized
  have hts := atoms_spec (ws := wsL_pay) B.pre
  have hown : s.vm.findClass RL = some m.cls := findClass_of_methodNamed B.named
  have htab := vx_table (x := yL_pay) B (hts _ List.mem_cons_self)
  subst hsz
  have hD := hD0.self (sz := s.heap.size)
  generalize hAe : va_A (wF tp f er tr kr cI cII cJ cJJ ++ wO cJ out oZ) s.heap.size = A at hD hE ⊢
  have hA : ∀ q : Nat, s.heap.size ≤ q → A q := fun q h => by rw [← hAe]; exact Or.inr h
  have hS : va_S A s.heap s.heap [] := va_S.rf
  have hl := lv_entry ([.ref tp, .int v, .int q, .ref out]) (n := 5) (Nat.le_of_ble_eq_true rfl)
  rw [lg_entry_eq]
  generalize (lg_sl ([.ref tp, .int v, .int q, .ref out]) ++ List.replicate (5 - (lg_sl ([.ref tp, .int v, .int q, .ref out])).length) Slot.unset).toArray = ls at hl ⊢
  have hl : lv_has ls 5 [(0, .ref tp), (1, .int v), (2, .int q), (3, .ref out)] := hl
  refine lv_aload_n hx hb dL_pay_0 rfl (lv_at hl 3 rfl) ?_
  refine lv_iconst (v := nI 0) hx hb dL_pay_1 (by decide) ?_
  refine lv_aload_n hx hb dL_pay_2 rfl (lv_at hl 0 rfl) ?_
  refine lv_iload_n hx hb dL_pay_3 rfl (lv_at hl 1 rfl) ?_
  refine lv_iload_n hx hb dL_pay_4 rfl (lv_at hl 2 rfl) ?_
  have hF9 := va_free (wc := wF tp f er tr kr cI cII cJ cJJ) hD hS hA (List.range' 0 45) rfl
  refine kt_xrun (vx_runV (As := [.int v, .int q]) (rest := [.int (nI 0), .ref out]) ⟨hx, hb, hml, hown, hts⟩ (x_X4_pay_node l dC dI cI cII cJ cJJ tp (f 0) (f 1) (f 2) (fun _ => 0) (fun _ => 0) (f 3) (f 4) (f 5) (fun _ => 0) (fun _ => 0) (f 6) (f 7) (f 8) (fun _ => 0) (fun _ => 0) (f 9) (f 10) (f 11) (fun _ => 0) (fun _ => 0) (f 12) kr (fun _ _ => 0) 0 0 0 (f 13) (f 14) (fun _ => 0) 0 (f 15) (f 16) (fun _ => 0) (f 17) (f 18) (f 19) (fun _ => 0) (fun _ => 0) (f 20) (f 21) (f 22) (fun _ => 0) (fun _ => 0) (f 23) (f 24) (f 25) (f 26) er 0 (fun _ _ => 0) (fun _ => 0) tr (fun _ _ => 0) hlt v q _ (by decide) (no_nodeB h)) (cwV 2 hts gL_pay_X4_pay rfl rfl rfl (by decide +kernel) ⟨Nat.le_of_ble_eq_true rfl, Nat.le_of_ble_eq_true rfl⟩) (kt_preVE (q0 := 0) (ci := kX4) hK hP hD hS hE hF9 (List.range' 0 45) rfl rfl rfl rfl rfl) rfl rfl hl.1 rfl (lv_room (Nat.le_of_ble_eq_true rfl)) dL_pay_5 ⟨Nat.le_of_ble_eq_true rfl, Nat.le_of_ble_eq_true rfl⟩) hS hF9 (fun q _ h => hF9 q h) (fun E9 ce q9 u t H locs ht hvm _ hB hz hk hS hce hcv hcl => ?_)
  obtain ⟨rfl, -⟩ := hB
  refine vx_catch (name := exI) hown [] ⟨0, 10, 13, 19⟩ [⟨0, 10, 17, 21⟩] (htab.trans rfl) (fun z hz => absurd hz List.not_mem_nil) rfl (by decide) (hts (.classLink RL 19 exI) (by decide +kernel)) (va_Nw.use rfl hE.castI) hce hcv hcl ?_
  have hP : va_P (dC, dI) vwCl [] H := kt_nilP
  have hD : va_D A [] := kt_nilD
  refine W.widen (k := 1) (n := 6) (by omega) (by omega) ?_
  refine lv_astore (lv' := [(4, .ref q9), (0, .ref tp), (1, .int v), (2, .int q), (3, .ref out)]) hx hb dL_pay_13 hl (by decide) rfl (fun ls hl => ?_)
  refine lv_iconst (v := nI 1) hx hb dL_pay_15 (by decide) ?_
  refine W.widen (k := 1) (n := 6) (by omega) (by omega) ?_
  exact kt_iretS (wN := fun (_ : Unit) => ([] : va_W)) () hx hb hr hS hP hK hD (by decide) hlocks dL_pay_16

set_option maxHeartbeats 4000000 in
set_option maxRecDepth 100000 in
theorem h_pay_within (l : Launch) (hlt : l.stackTraces = false) (dC : Nat → ClassId) (dI : Nat → Nat → Nat) (cI cII cJ cJJ : ClassId) (tp : Nat) (f : Nat → Nat) (er tr kr : Nat → Nat) (out : Nat) (q : Int32) (sz : Nat) (h : q < -9 ∨ ¬ q ≤ 9) : Met l yL_pay wsL_pay ({ frames := 9, cells := 1, slots := 6, locals := 132 }) (va_Pc [.ref tp, .int (nI 6), .int q, .ref out] (PREH (dC, dI) (tyL cI cII cJ cJJ) (wF tp f er tr kr cI cII cJ cJJ ++ wO cJ out oZ) sz)) (va_Qi (fun (r' : Int32) (_ : Unit) => r' = nI 2) (fun (_ : Unit) tS => ATW (dC, dI) (tyL cI cII cJ cJJ) (va_A (wF tp f er tr kr cI cII cJ cJJ ++ wO cJ out oZ) sz) (([] : va_W)) tS) (va_A (wF tp f er tr kr cI cII cJ cJJ ++ wO cJ out oZ) sz)) 1 6 (va_A (wF tp f er tr kr cI cII cJ cJJ ++ wO cJ out oZ) sz) := by
  refine kt_ofWH (cc := cL_pay) (maxL := 5) (ret := some .int) (by decide) rfl ?_
  intro p e s m args below meth c s₁ B hml hv
  obtain ⟨rfl, ⟨⟨hsz, hP, hK, hD0⟩, hE⟩, hnc⟩ := hv
  have hx := B.exec
  have hb := B.bytes
  have hr := B.returns
  have hlocks := B.notSynchronized
  have hts := atoms_spec (ws := wsL_pay) B.pre
  have hown : s.vm.findClass RL = some m.cls := findClass_of_methodNamed B.named
  have htab := vx_table (x := yL_pay) B (hts _ List.mem_cons_self)
  subst hsz
  have hD := hD0.self (sz := s.heap.size)
  generalize hAe : va_A (wF tp f er tr kr cI cII cJ cJJ ++ wO cJ out oZ) s.heap.size = A at hD hE ⊢
  have hA : ∀ q : Nat, s.heap.size ≤ q → A q := fun q h => by rw [← hAe]; exact Or.inr h
  have hS : va_S A s.heap s.heap [] := va_S.rf
  have hl := lv_entry ([.ref tp, .int (nI 6), .int q, .ref out]) (n := 5) (Nat.le_of_ble_eq_true rfl)
  rw [lg_entry_eq]
  generalize (lg_sl ([.ref tp, .int (nI 6), .int q, .ref out]) ++ List.replicate (5 - (lg_sl ([.ref tp, .int (nI 6), .int q, .ref out])).length) Slot.unset).toArray = ls at hl ⊢
  have hl : lv_has ls 5 [(0, .ref tp), (1, .int (nI 6)), (2, .int q), (3, .ref out)] := hl
  refine lv_aload_n hx hb dL_pay_0 rfl (lv_at hl 3 rfl) ?_
  refine lv_iconst (v := nI 0) hx hb dL_pay_1 (by decide) ?_
  refine lv_aload_n hx hb dL_pay_2 rfl (lv_at hl 0 rfl) ?_
  refine lv_iload_n hx hb dL_pay_3 rfl (lv_at hl 1 rfl) ?_
  refine lv_iload_n hx hb dL_pay_4 rfl (lv_at hl 2 rfl) ?_
  have hF9 := va_free (wc := wF tp f er tr kr cI cII cJ cJJ) hD hS hA (List.range' 0 45) rfl
  refine kt_xrun (vx_runV (As := [.int (nI 6), .int q]) (rest := [.int (nI 0), .ref out]) ⟨hx, hb, hml, hown, hts⟩ (x_X4_pay_within l dC dI cI cII cJ cJJ tp (f 0) (f 1) (f 2) (fun _ => 0) (fun _ => 0) (f 3) (f 4) (f 5) (fun _ => 0) (fun _ => 0) (f 6) (f 7) (f 8) (fun _ => 0) (fun _ => 0) (f 9) (f 10) (f 11) (fun _ => 0) (fun _ => 0) (f 12) kr (fun _ _ => 0) 0 0 0 (f 13) (f 14) (fun _ => 0) 0 (f 15) (f 16) (fun _ => 0) (f 17) (f 18) (f 19) (fun _ => 0) (fun _ => 0) (f 20) (f 21) (f 22) (fun _ => 0) (fun _ => 0) (f 23) (f 24) (f 25) (f 26) er 0 (fun _ _ => 0) (fun _ => 0) tr (fun _ _ => 0) hlt 6 q _ (by decide) (Or.inr rfl) (h)) (cwV 2 hts gL_pay_X4_pay rfl rfl rfl (by decide +kernel) ⟨Nat.le_of_ble_eq_true rfl, Nat.le_of_ble_eq_true rfl⟩) (kt_preVE (q0 := 0) (ci := kX4) hK hP hD hS hE hF9 (List.range' 0 45) rfl rfl rfl rfl rfl) rfl rfl hl.1 rfl (lv_room (Nat.le_of_ble_eq_true rfl)) dL_pay_5 ⟨Nat.le_of_ble_eq_true rfl, Nat.le_of_ble_eq_true rfl⟩) hS hF9 (fun q _ h => hF9 q h) (fun E9 ce q9 u t H locs ht hvm _ hB hz hk hS hce hcv hcl => ?_)
  obtain ⟨rfl, -⟩ := hB
  refine vx_catch (name := exA) hown [⟨0, 10, 13, 19⟩] ⟨0, 10, 17, 21⟩ [] (htab.trans rfl) (fun z hz => by rcases List.mem_singleton.mp hz with rfl; exact Or.inr ⟨by decide, exI, hts (.classLink RL 19 exI) (by decide +kernel), hnc⟩) rfl (by decide) (hts (.classLink RL 21 exA) (by decide +kernel)) (va_Nw.use rfl hE.castA) hce hcv hcl ?_
  have hP : va_P (dC, dI) vwCl [] H := kt_nilP
  have hD : va_D A [] := kt_nilD
  refine W.widen (k := 1) (n := 6) (by omega) (by omega) ?_
  refine lv_astore (lv' := [(4, .ref q9), (0, .ref tp), (1, .int (nI 6)), (2, .int q), (3, .ref out)]) hx hb dL_pay_17 hl (by decide) rfl (fun ls hl => ?_)
  refine lv_iconst (v := nI 2) hx hb dL_pay_19 (by decide) ?_
  refine W.widen (k := 1) (n := 6) (by omega) (by omega) ?_
  exact kt_iretS (wN := fun (_ : Unit) => ([] : va_W)) () hx hb hr hS hP hK hD (by decide) hlocks dL_pay_20

set_option maxHeartbeats 4000000 in
set_option maxRecDepth 100000 in
theorem h_lend_node (l : Launch) (hlt : l.stackTraces = false) (dC : Nat → ClassId) (dI : Nat → Nat → Nat) (cI cII cJ cJJ : ClassId) (tp : Nat) (f : Nat → Nat) (er tr kr : Nat → Nat) (out : Nat) (v : Int32) (q : Int32) (sz : Nat) (h : ¬ v = nI 6) : Met l yL_lend wsL_lend ({ frames := 9, cells := 1, slots := 6, locals := 132 }) (va_Pc [.ref tp, .int v, .int q, .ref out] (PREH (dC, dI) (tyL cI cII cJ cJJ) (wF tp f er tr kr cI cII cJ cJJ ++ wO cJ out oZ) sz)) (va_Qi (fun (r' : Int32) (_ : Unit) => r' = nI 1) (fun (_ : Unit) tS => ATW (dC, dI) (tyL cI cII cJ cJJ) (va_A (wF tp f er tr kr cI cII cJ cJJ ++ wO cJ out oZ) sz) (([] : va_W)) tS) (va_A (wF tp f er tr kr cI cII cJ cJJ ++ wO cJ out oZ) sz)) 1 6 (va_A (wF tp f er tr kr cI cII cJ cJJ ++ wO cJ out oZ) sz) := by
  refine kt_ofWH (cc := cL_lend) (maxL := 5) (ret := some .int) (by decide) rfl ?_
  intro p e s m args below meth c s₁ B hml hv
  obtain ⟨rfl, ⟨⟨hsz, hP, hK, hD0⟩, hE⟩, hnc⟩ := hv
  have hx := B.exec
  have hb := B.bytes
  have hr := B.returns
  have hlocks := B.notSynchronized
  have hts := atoms_spec (ws := wsL_lend) B.pre
  have hown : s.vm.findClass RL = some m.cls := findClass_of_methodNamed B.named
  have htab := vx_table (x := yL_lend) B (hts _ List.mem_cons_self)
  subst hsz
  have hD := hD0.self (sz := s.heap.size)
  generalize hAe : va_A (wF tp f er tr kr cI cII cJ cJJ ++ wO cJ out oZ) s.heap.size = A at hD hE ⊢
  have hA : ∀ q : Nat, s.heap.size ≤ q → A q := fun q h => by rw [← hAe]; exact Or.inr h
  have hS : va_S A s.heap s.heap [] := va_S.rf
  have hl := lv_entry ([.ref tp, .int v, .int q, .ref out]) (n := 5) (Nat.le_of_ble_eq_true rfl)
  rw [lg_entry_eq]
  generalize (lg_sl ([.ref tp, .int v, .int q, .ref out]) ++ List.replicate (5 - (lg_sl ([.ref tp, .int v, .int q, .ref out])).length) Slot.unset).toArray = ls at hl ⊢
  have hl : lv_has ls 5 [(0, .ref tp), (1, .int v), (2, .int q), (3, .ref out)] := hl
  refine lv_aload_n hx hb dL_lend_0 rfl (lv_at hl 3 rfl) ?_
  refine lv_iconst (v := nI 0) hx hb dL_lend_1 (by decide) ?_
  refine lv_aload_n hx hb dL_lend_2 rfl (lv_at hl 0 rfl) ?_
  refine lv_iload_n hx hb dL_lend_3 rfl (lv_at hl 1 rfl) ?_
  refine lv_iload_n hx hb dL_lend_4 rfl (lv_at hl 2 rfl) ?_
  have hF9 := va_free (wc := wF tp f er tr kr cI cII cJ cJJ) hD hS hA (List.range' 0 45) rfl
  refine kt_xrun (vx_runV (As := [.int v, .int q]) (rest := [.int (nI 0), .ref out]) ⟨hx, hb, hml, hown, hts⟩ (x_X4_lend_node l dC dI cI cII cJ cJJ tp (f 0) (f 1) (f 2) (fun _ => 0) (fun _ => 0) (f 3) (f 4) (f 5) (fun _ => 0) (fun _ => 0) (f 6) (f 7) (f 8) (fun _ => 0) (fun _ => 0) (f 9) (f 10) (f 11) (fun _ => 0) (fun _ => 0) (f 12) kr (fun _ _ => 0) 0 0 0 (f 13) (f 14) (fun _ => 0) 0 (f 15) (f 16) (fun _ => 0) (f 17) (f 18) (f 19) (fun _ => 0) (fun _ => 0) (f 20) (f 21) (f 22) (fun _ => 0) (fun _ => 0) (f 23) (f 24) (f 25) (f 26) er 0 (fun _ _ => 0) (fun _ => 0) tr (fun _ _ => 0) hlt v q _ (by decide) (no_nodeB h)) (cwV 2 hts gL_lend_X4_lend rfl rfl rfl (by decide +kernel) ⟨Nat.le_of_ble_eq_true rfl, Nat.le_of_ble_eq_true rfl⟩) (kt_preVE (q0 := 0) (ci := kX4) hK hP hD hS hE hF9 (List.range' 0 45) rfl rfl rfl rfl rfl) rfl rfl hl.1 rfl (lv_room (Nat.le_of_ble_eq_true rfl)) dL_lend_5 ⟨Nat.le_of_ble_eq_true rfl, Nat.le_of_ble_eq_true rfl⟩) hS hF9 (fun q _ h => hF9 q h) (fun E9 ce q9 u t H locs ht hvm _ hB hz hk hS hce hcv hcl => ?_)
  obtain ⟨rfl, -⟩ := hB
  refine vx_catch (name := exI) hown [] ⟨0, 10, 13, 19⟩ [] (htab.trans rfl) (fun z hz => absurd hz List.not_mem_nil) rfl (by decide) (hts (.classLink RL 19 exI) (by decide +kernel)) (va_Nw.use rfl hE.castI) hce hcv hcl ?_
  have hP : va_P (dC, dI) vwCl [] H := kt_nilP
  have hD : va_D A [] := kt_nilD
  refine W.widen (k := 1) (n := 6) (by omega) (by omega) ?_
  refine lv_astore (lv' := [(4, .ref q9), (0, .ref tp), (1, .int v), (2, .int q), (3, .ref out)]) hx hb dL_lend_13 hl (by decide) rfl (fun ls hl => ?_)
  refine lv_iconst (v := nI 1) hx hb dL_lend_15 (by decide) ?_
  refine W.widen (k := 1) (n := 6) (by omega) (by omega) ?_
  exact kt_iretS (wN := fun (_ : Unit) => ([] : va_W)) () hx hb hr hS hP hK hD (by decide) hlocks dL_lend_16

set_option maxHeartbeats 4000000 in
set_option maxRecDepth 100000 in
theorem h_ofSpot (l : Launch) (hlt : l.stackTraces = false) (dC : Nat → ClassId) (dI : Nat → Nat → Nat) (cI cII cJ cJJ : ClassId) (tp : Nat) (f : Nat → Nat) (er tr kr : Nat → Nat) (out : Nat) (v : Int32) (q : Int32) (sz : Nat)  : Met l yL_ofSpot wsL_ofSpot ({ frames := 9, cells := 1, slots := 6, locals := 132 }) (va_Pc [.ref tp, .int v, .int q, .ref out] (PREH (dC, dI) (tyL cI cII cJ cJJ) (wF tp f er tr kr cI cII cJ cJJ ++ wO cJ out oZ) sz)) (va_Qi (fun (r' : Int32) (_ : Unit) => r' = nI 1) (fun (_ : Unit) tS => ATW (dC, dI) (tyL cI cII cJ cJJ) (va_A (wF tp f er tr kr cI cII cJ cJJ ++ wO cJ out oZ) sz) (([] : va_W)) tS) (va_A (wF tp f er tr kr cI cII cJ cJJ ++ wO cJ out oZ) sz)) 1 6 (va_A (wF tp f er tr kr cI cII cJ cJJ ++ wO cJ out oZ) sz) := by
  refine kt_ofWH (cc := cL_ofSpot) (maxL := 5) (ret := some .int) (by decide) rfl ?_
  intro p e s m args below meth c s₁ B hml hv
  obtain ⟨rfl, ⟨⟨hsz, hP, hK, hD0⟩, hE⟩, hnc⟩ := hv
  have hx := B.exec
  have hb := B.bytes
  have hr := B.returns
  have hlocks := B.notSynchronized
  have hts := atoms_spec (ws := wsL_ofSpot) B.pre
  have hown : s.vm.findClass RL = some m.cls := findClass_of_methodNamed B.named
  have htab := vx_table (x := yL_ofSpot) B (hts _ List.mem_cons_self)
  subst hsz
  have hD := hD0.self (sz := s.heap.size)
  generalize hAe : va_A (wF tp f er tr kr cI cII cJ cJJ ++ wO cJ out oZ) s.heap.size = A at hD hE ⊢
  have hA : ∀ q : Nat, s.heap.size ≤ q → A q := fun q h => by rw [← hAe]; exact Or.inr h
  have hS : va_S A s.heap s.heap [] := va_S.rf
  have hl := lv_entry ([.ref tp, .int v, .int q, .ref out]) (n := 5) (Nat.le_of_ble_eq_true rfl)
  rw [lg_entry_eq]
  generalize (lg_sl ([.ref tp, .int v, .int q, .ref out]) ++ List.replicate (5 - (lg_sl ([.ref tp, .int v, .int q, .ref out])).length) Slot.unset).toArray = ls at hl ⊢
  have hl : lv_has ls 5 [(0, .ref tp), (1, .int v), (2, .int q), (3, .ref out)] := hl
  refine lv_aload_n hx hb dL_ofSpot_0 rfl (lv_at hl 3 rfl) ?_
  refine lv_iconst (v := nI 0) hx hb dL_ofSpot_1 (by decide) ?_
  refine lv_aload_n hx hb dL_ofSpot_2 rfl (lv_at hl 0 rfl) ?_
  refine lv_iload_n hx hb dL_ofSpot_3 rfl (lv_at hl 1 rfl) ?_
  refine lv_iload_n hx hb dL_ofSpot_4 rfl (lv_at hl 2 rfl) ?_
  have hF9 := va_free (wc := wF tp f er tr kr cI cII cJ cJJ) hD hS hA (List.range' 0 45) rfl
  refine kt_xrun (vx_runV (As := [.int v, .int q]) (rest := [.int (nI 0), .ref out]) ⟨hx, hb, hml, hown, hts⟩ (x_X4_ofSpot_spot l dC dI cI cII cJ cJJ tp (f 0) (f 1) (f 2) (fun _ => 0) (fun _ => 0) (f 3) (f 4) (f 5) (fun _ => 0) (fun _ => 0) (f 6) (f 7) (f 8) (fun _ => 0) (fun _ => 0) (f 9) (f 10) (f 11) (fun _ => 0) (fun _ => 0) (f 12) kr (fun _ _ => 0) 0 0 0 (f 13) (f 14) (fun _ => 0) 0 (f 15) (f 16) (fun _ => 0) (f 17) (f 18) (f 19) (fun _ => 0) (fun _ => 0) (f 20) (f 21) (f 22) (fun _ => 0) (fun _ => 0) (f 23) (f 24) (f 25) (f 26) er 0 (fun _ _ => 0) (fun _ => 0) tr (fun _ _ => 0) hlt v q _ (by decide) (no_spotB v)) (cwV 2 hts gL_ofSpot_X4_ofSpot rfl rfl rfl (by decide +kernel) ⟨Nat.le_of_ble_eq_true rfl, Nat.le_of_ble_eq_true rfl⟩) (kt_preVE (q0 := 0) (ci := kX4) hK hP hD hS hE hF9 (List.range' 0 45) rfl rfl rfl rfl rfl) rfl rfl hl.1 rfl (lv_room (Nat.le_of_ble_eq_true rfl)) dL_ofSpot_5 ⟨Nat.le_of_ble_eq_true rfl, Nat.le_of_ble_eq_true rfl⟩) hS hF9 (fun q _ h => hF9 q h) (fun E9 ce q9 u t H locs ht hvm _ hB hz hk hS hce hcv hcl => ?_)
  obtain ⟨rfl, -⟩ := hB
  refine vx_catch (name := exI) hown [] ⟨0, 10, 13, 19⟩ [⟨0, 10, 17, 21⟩] (htab.trans rfl) (fun z hz => absurd hz List.not_mem_nil) rfl (by decide) (hts (.classLink RL 19 exI) (by decide +kernel)) (va_Nw.use rfl hE.castI) hce hcv hcl ?_
  have hP : va_P (dC, dI) vwCl [] H := kt_nilP
  have hD : va_D A [] := kt_nilD
  refine W.widen (k := 1) (n := 6) (by omega) (by omega) ?_
  refine lv_astore (lv' := [(4, .ref q9), (0, .ref tp), (1, .int v), (2, .int q), (3, .ref out)]) hx hb dL_ofSpot_13 hl (by decide) rfl (fun ls hl => ?_)
  refine lv_iconst (v := nI 1) hx hb dL_ofSpot_15 (by decide) ?_
  refine W.widen (k := 1) (n := 6) (by omega) (by omega) ?_
  exact kt_iretS (wN := fun (_ : Unit) => ([] : va_W)) () hx hb hr hS hP hK hD (by decide) hlocks dL_ofSpot_16

set_option maxHeartbeats 4000000 in
set_option maxRecDepth 100000 in
theorem h_between_a (l : Launch) (hlt : l.stackTraces = false) (dC : Nat → ClassId) (dI : Nat → Nat → Nat) (cI cII cJ cJJ : ClassId) (tp : Nat) (f : Nat → Nat) (er tr kr : Nat → Nat) (out : Nat) (v : Int32) (q : Int32) (sz : Nat) (h : ¬ v = nI 6) : Met l yL_between wsL_between ({ frames := 9, cells := 1, slots := 6, locals := 132 }) (va_Pc [.ref tp, .int v, .int q, .ref out] (PREH (dC, dI) (tyL cI cII cJ cJJ) (wF tp f er tr kr cI cII cJ cJJ ++ wO cJ out oZ) sz)) (va_Qi (fun (r' : Int32) (_ : Unit) => r' = nI 1) (fun (_ : Unit) tS => ATW (dC, dI) (tyL cI cII cJ cJJ) (va_A (wF tp f er tr kr cI cII cJ cJJ ++ wO cJ out oZ) sz) (([] : va_W)) tS) (va_A (wF tp f er tr kr cI cII cJ cJJ ++ wO cJ out oZ) sz)) 1 6 (va_A (wF tp f er tr kr cI cII cJ cJJ ++ wO cJ out oZ) sz) := by
  refine kt_ofWH (cc := cL_between) (maxL := 5) (ret := some .int) (by decide) rfl ?_
  intro p e s m args below meth c s₁ B hml hv
  obtain ⟨rfl, ⟨⟨hsz, hP, hK, hD0⟩, hE⟩, hnc⟩ := hv
  have hx := B.exec
  have hb := B.bytes
  have hr := B.returns
  have hlocks := B.notSynchronized
  have hts := atoms_spec (ws := wsL_between) B.pre
  have hown : s.vm.findClass RL = some m.cls := findClass_of_methodNamed B.named
  have htab := vx_table (x := yL_between) B (hts _ List.mem_cons_self)
  subst hsz
  have hD := hD0.self (sz := s.heap.size)
  generalize hAe : va_A (wF tp f er tr kr cI cII cJ cJJ ++ wO cJ out oZ) s.heap.size = A at hD hE ⊢
  have hA : ∀ q : Nat, s.heap.size ≤ q → A q := fun q h => by rw [← hAe]; exact Or.inr h
  have hS : va_S A s.heap s.heap [] := va_S.rf
  have hl := lv_entry ([.ref tp, .int v, .int q, .ref out]) (n := 5) (Nat.le_of_ble_eq_true rfl)
  rw [lg_entry_eq]
  generalize (lg_sl ([.ref tp, .int v, .int q, .ref out]) ++ List.replicate (5 - (lg_sl ([.ref tp, .int v, .int q, .ref out])).length) Slot.unset).toArray = ls at hl ⊢
  have hl : lv_has ls 5 [(0, .ref tp), (1, .int v), (2, .int q), (3, .ref out)] := hl
  refine lv_aload_n hx hb dL_between_0 rfl (lv_at hl 3 rfl) ?_
  refine lv_iconst (v := nI 0) hx hb dL_between_1 (by decide) ?_
  refine lv_aload_n hx hb dL_between_2 rfl (lv_at hl 0 rfl) ?_
  refine lv_iload_n hx hb dL_between_3 rfl (lv_at hl 1 rfl) ?_
  refine lv_iload_n hx hb dL_between_4 rfl (lv_at hl 2 rfl) ?_
  have hF9 := va_free (wc := wF tp f er tr kr cI cII cJ cJJ) hD hS hA (List.range' 0 45) rfl
  refine kt_xrun (vx_runV (As := [.int v, .int q]) (rest := [.int (nI 0), .ref out]) ⟨hx, hb, hml, hown, hts⟩ (x_X4_between_a l dC dI cI cII cJ cJJ tp (f 0) (f 1) (f 2) (fun _ => 0) (fun _ => 0) (f 3) (f 4) (f 5) (fun _ => 0) (fun _ => 0) (f 6) (f 7) (f 8) (fun _ => 0) (fun _ => 0) (f 9) (f 10) (f 11) (fun _ => 0) (fun _ => 0) (f 12) kr (fun _ _ => 0) 0 0 0 (f 13) (f 14) (fun _ => 0) 0 (f 15) (f 16) (fun _ => 0) (f 17) (f 18) (f 19) (fun _ => 0) (fun _ => 0) (f 20) (f 21) (f 22) (fun _ => 0) (fun _ => 0) (f 23) (f 24) (f 25) (f 26) er 0 (fun _ _ => 0) (fun _ => 0) tr (fun _ _ => 0) hlt v q _ (by decide) (no_nodeB h)) (cwV 2 hts gL_between_X4_between rfl rfl rfl (by decide +kernel) ⟨Nat.le_of_ble_eq_true rfl, Nat.le_of_ble_eq_true rfl⟩) (kt_preVE (q0 := 0) (ci := kX4) hK hP hD hS hE hF9 (List.range' 0 45) rfl rfl rfl rfl rfl) rfl rfl hl.1 rfl (lv_room (Nat.le_of_ble_eq_true rfl)) dL_between_5 ⟨Nat.le_of_ble_eq_true rfl, Nat.le_of_ble_eq_true rfl⟩) hS hF9 (fun q _ h => hF9 q h) (fun E9 ce q9 u t H locs ht hvm _ hB hz hk hS hce hcv hcl => ?_)
  obtain ⟨rfl, -⟩ := hB
  refine vx_catch (name := exI) hown [] ⟨0, 10, 13, 19⟩ [] (htab.trans rfl) (fun z hz => absurd hz List.not_mem_nil) rfl (by decide) (hts (.classLink RL 19 exI) (by decide +kernel)) (va_Nw.use rfl hE.castI) hce hcv hcl ?_
  have hP : va_P (dC, dI) vwCl [] H := kt_nilP
  have hD : va_D A [] := kt_nilD
  refine W.widen (k := 1) (n := 6) (by omega) (by omega) ?_
  refine lv_astore (lv' := [(4, .ref q9), (0, .ref tp), (1, .int v), (2, .int q), (3, .ref out)]) hx hb dL_between_13 hl (by decide) rfl (fun ls hl => ?_)
  refine lv_iconst (v := nI 1) hx hb dL_between_15 (by decide) ?_
  refine W.widen (k := 1) (n := 6) (by omega) (by omega) ?_
  exact kt_iretS (wN := fun (_ : Unit) => ([] : va_W)) () hx hb hr hS hP hK hD (by decide) hlocks dL_between_16

set_option maxHeartbeats 4000000 in
set_option maxRecDepth 100000 in
theorem h_between_b (l : Launch) (hlt : l.stackTraces = false) (dC : Nat → ClassId) (dI : Nat → Nat → Nat) (cI cII cJ cJJ : ClassId) (tp : Nat) (f : Nat → Nat) (er tr kr : Nat → Nat) (out : Nat) (q : Int32) (sz : Nat) (h : ¬ q = nI 6) : Met l yL_between wsL_between ({ frames := 9, cells := 1, slots := 6, locals := 132 }) (va_Pc [.ref tp, .int (nI 6), .int q, .ref out] (PREH (dC, dI) (tyL cI cII cJ cJJ) (wF tp f er tr kr cI cII cJ cJJ ++ wO cJ out oZ) sz)) (va_Qi (fun (r' : Int32) (_ : Unit) => r' = nI 1) (fun (_ : Unit) tS => ATW (dC, dI) (tyL cI cII cJ cJJ) (va_A (wF tp f er tr kr cI cII cJ cJJ ++ wO cJ out oZ) sz) (([] : va_W)) tS) (va_A (wF tp f er tr kr cI cII cJ cJJ ++ wO cJ out oZ) sz)) 1 6 (va_A (wF tp f er tr kr cI cII cJ cJJ ++ wO cJ out oZ) sz) := by
  refine kt_ofWH (cc := cL_between) (maxL := 5) (ret := some .int) (by decide) rfl ?_
  intro p e s m args below meth c s₁ B hml hv
  obtain ⟨rfl, ⟨⟨hsz, hP, hK, hD0⟩, hE⟩, hnc⟩ := hv
  have hx := B.exec
  have hb := B.bytes
  have hr := B.returns
  have hlocks := B.notSynchronized
  have hts := atoms_spec (ws := wsL_between) B.pre
  have hown : s.vm.findClass RL = some m.cls := findClass_of_methodNamed B.named
  have htab := vx_table (x := yL_between) B (hts _ List.mem_cons_self)
  subst hsz
  have hD := hD0.self (sz := s.heap.size)
  generalize hAe : va_A (wF tp f er tr kr cI cII cJ cJJ ++ wO cJ out oZ) s.heap.size = A at hD hE ⊢
  have hA : ∀ q : Nat, s.heap.size ≤ q → A q := fun q h => by rw [← hAe]; exact Or.inr h
  have hS : va_S A s.heap s.heap [] := va_S.rf
  have hl := lv_entry ([.ref tp, .int (nI 6), .int q, .ref out]) (n := 5) (Nat.le_of_ble_eq_true rfl)
  rw [lg_entry_eq]
  generalize (lg_sl ([.ref tp, .int (nI 6), .int q, .ref out]) ++ List.replicate (5 - (lg_sl ([.ref tp, .int (nI 6), .int q, .ref out])).length) Slot.unset).toArray = ls at hl ⊢
  have hl : lv_has ls 5 [(0, .ref tp), (1, .int (nI 6)), (2, .int q), (3, .ref out)] := hl
  refine lv_aload_n hx hb dL_between_0 rfl (lv_at hl 3 rfl) ?_
  refine lv_iconst (v := nI 0) hx hb dL_between_1 (by decide) ?_
  refine lv_aload_n hx hb dL_between_2 rfl (lv_at hl 0 rfl) ?_
  refine lv_iload_n hx hb dL_between_3 rfl (lv_at hl 1 rfl) ?_
  refine lv_iload_n hx hb dL_between_4 rfl (lv_at hl 2 rfl) ?_
  have hF9 := va_free (wc := wF tp f er tr kr cI cII cJ cJJ) hD hS hA (List.range' 0 45) rfl
  refine kt_xrun (vx_runV (As := [.int (nI 6), .int q]) (rest := [.int (nI 0), .ref out]) ⟨hx, hb, hml, hown, hts⟩ (x_X4_between_b l dC dI cI cII cJ cJJ tp (f 0) (f 1) (f 2) (fun _ => 0) (fun _ => 0) (f 3) (f 4) (f 5) (fun _ => 0) (fun _ => 0) (f 6) (f 7) (f 8) (fun _ => 0) (fun _ => 0) (f 9) (f 10) (f 11) (fun _ => 0) (fun _ => 0) (f 12) kr (fun _ _ => 0) 0 0 0 (f 13) (f 14) (fun _ => 0) 0 (f 15) (f 16) (fun _ => 0) (f 17) (f 18) (f 19) (fun _ => 0) (fun _ => 0) (f 20) (f 21) (f 22) (fun _ => 0) (fun _ => 0) (f 23) (f 24) (f 25) (f 26) er 0 (fun _ _ => 0) (fun _ => 0) tr (fun _ _ => 0) hlt 6 q _ (by decide) (Or.inr rfl) (no_nodeB h)) (cwV 2 hts gL_between_X4_between rfl rfl rfl (by decide +kernel) ⟨Nat.le_of_ble_eq_true rfl, Nat.le_of_ble_eq_true rfl⟩) (kt_preVE (q0 := 0) (ci := kX4) hK hP hD hS hE hF9 (List.range' 0 45) rfl rfl rfl rfl rfl) rfl rfl hl.1 rfl (lv_room (Nat.le_of_ble_eq_true rfl)) dL_between_5 ⟨Nat.le_of_ble_eq_true rfl, Nat.le_of_ble_eq_true rfl⟩) hS hF9 (fun q _ h => hF9 q h) (fun E9 ce q9 u t H locs ht hvm _ hB hz hk hS hce hcv hcl => ?_)
  obtain ⟨rfl, -⟩ := hB
  refine vx_catch (name := exI) hown [] ⟨0, 10, 13, 19⟩ [] (htab.trans rfl) (fun z hz => absurd hz List.not_mem_nil) rfl (by decide) (hts (.classLink RL 19 exI) (by decide +kernel)) (va_Nw.use rfl hE.castI) hce hcv hcl ?_
  have hP : va_P (dC, dI) vwCl [] H := kt_nilP
  have hD : va_D A [] := kt_nilD
  refine W.widen (k := 1) (n := 6) (by omega) (by omega) ?_
  refine lv_astore (lv' := [(4, .ref q9), (0, .ref tp), (1, .int (nI 6)), (2, .int q), (3, .ref out)]) hx hb dL_between_13 hl (by decide) rfl (fun ls hl => ?_)
  refine lv_iconst (v := nI 1) hx hb dL_between_15 (by decide) ?_
  refine W.widen (k := 1) (n := 6) (by omega) (by omega) ?_
  exact kt_iretS (wN := fun (_ : Unit) => ([] : va_W)) () hx hb hr hS hP hK hD (by decide) hlocks dL_between_16

set_option maxHeartbeats 4000000 in
set_option maxRecDepth 100000 in
theorem h_coins_node (l : Launch) (hlt : l.stackTraces = false) (dC : Nat → ClassId) (dI : Nat → Nat → Nat) (cI cII cJ cJJ : ClassId) (tp : Nat) (f : Nat → Nat) (er tr kr : Nat → Nat) (out : Nat) (v : Int32) (sz : Nat) (h : ¬ v = nI 6) : Met l yL_coins wsL_coins ({ frames := 9, cells := 1, slots := 6, locals := 131 }) (va_Pc [.ref tp, .int v, .ref out] (PREH (dC, dI) (tyL cI cII cJ cJJ) (wF tp f er tr kr cI cII cJ cJJ ++ wO cJ out oZ) sz)) (va_Qi (fun (r' : Int32) (_ : Unit) => r' = nI 1) (fun (_ : Unit) tS => ATW (dC, dI) (tyL cI cII cJ cJJ) (va_A (wF tp f er tr kr cI cII cJ cJJ ++ wO cJ out oZ) sz) (([] : va_W)) tS) (va_A (wF tp f er tr kr cI cII cJ cJJ ++ wO cJ out oZ) sz)) 1 6 (va_A (wF tp f er tr kr cI cII cJ cJJ ++ wO cJ out oZ) sz) := by
  refine kt_ofWH (cc := cL_coins) (maxL := 4) (ret := some .int) (by decide) rfl ?_
  intro p e s m args below meth c s₁ B hml hv
  obtain ⟨rfl, ⟨⟨hsz, hP, hK, hD0⟩, hE⟩, hnc⟩ := hv
  have hx := B.exec
  have hb := B.bytes
  have hr := B.returns
  have hlocks := B.notSynchronized
  have hts := atoms_spec (ws := wsL_coins) B.pre
  have hown : s.vm.findClass RL = some m.cls := findClass_of_methodNamed B.named
  have htab := vx_table (x := yL_coins) B (hts _ List.mem_cons_self)
  subst hsz
  have hD := hD0.self (sz := s.heap.size)
  generalize hAe : va_A (wF tp f er tr kr cI cII cJ cJJ ++ wO cJ out oZ) s.heap.size = A at hD hE ⊢
  have hA : ∀ q : Nat, s.heap.size ≤ q → A q := fun q h => by rw [← hAe]; exact Or.inr h
  have hS : va_S A s.heap s.heap [] := va_S.rf
  have hl := lv_entry ([.ref tp, .int v, .ref out]) (n := 4) (Nat.le_of_ble_eq_true rfl)
  rw [lg_entry_eq]
  generalize (lg_sl ([.ref tp, .int v, .ref out]) ++ List.replicate (4 - (lg_sl ([.ref tp, .int v, .ref out])).length) Slot.unset).toArray = ls at hl ⊢
  have hl : lv_has ls 4 [(0, .ref tp), (1, .int v), (2, .ref out)] := hl
  refine lv_aload_n hx hb dL_coins_0 rfl (lv_at hl 2 rfl) ?_
  refine lv_iconst (v := nI 0) hx hb dL_coins_1 (by decide) ?_
  refine lv_aload_n hx hb dL_coins_2 rfl (lv_at hl 0 rfl) ?_
  refine lv_iload_n hx hb dL_coins_3 rfl (lv_at hl 1 rfl) ?_
  have hF9 := va_free (wc := wF tp f er tr kr cI cII cJ cJJ) hD hS hA (List.range' 0 45) rfl
  refine kt_xrun (vx_runV (As := [.int v]) (rest := [.int (nI 0), .ref out]) ⟨hx, hb, hml, hown, hts⟩ (x_X4_coins_node l dC dI cI cII cJ cJJ tp (f 0) (f 1) (f 2) (fun _ => 0) (fun _ => 0) (f 3) (f 4) (f 5) (fun _ => 0) (fun _ => 0) (f 6) (f 7) (f 8) (fun _ => 0) (fun _ => 0) (f 9) (f 10) (f 11) (fun _ => 0) (fun _ => 0) (f 12) kr (fun _ _ => 0) 0 0 0 (f 13) (f 14) (fun _ => 0) 0 (f 15) (f 16) (fun _ => 0) (f 17) (f 18) (f 19) (fun _ => 0) (fun _ => 0) (f 20) (f 21) (f 22) (fun _ => 0) (fun _ => 0) (f 23) (f 24) (f 25) (f 26) er 0 (fun _ _ => 0) (fun _ => 0) tr (fun _ _ => 0) hlt v _ (by decide) (no_nodeB h)) (cwV 1 hts gL_coins_X4_coins rfl rfl rfl (by decide +kernel) ⟨Nat.le_of_ble_eq_true rfl, Nat.le_of_ble_eq_true rfl⟩) (kt_preVE (q0 := 0) (ci := kX4) hK hP hD hS hE hF9 (List.range' 0 45) rfl rfl rfl rfl rfl) rfl rfl hl.1 rfl (lv_room (Nat.le_of_ble_eq_true rfl)) dL_coins_4 ⟨Nat.le_of_ble_eq_true rfl, Nat.le_of_ble_eq_true rfl⟩) hS hF9 (fun q _ h => hF9 q h) (fun E9 ce q9 u t H locs ht hvm _ hB hz hk hS hce hcv hcl => ?_)
  obtain ⟨rfl, -⟩ := hB
  refine vx_catch (name := exI) hown [] ⟨0, 9, 12, 19⟩ [] (htab.trans rfl) (fun z hz => absurd hz List.not_mem_nil) rfl (by decide) (hts (.classLink RL 19 exI) (by decide +kernel)) (va_Nw.use rfl hE.castI) hce hcv hcl ?_
  have hP : va_P (dC, dI) vwCl [] H := kt_nilP
  have hD : va_D A [] := kt_nilD
  refine W.widen (k := 1) (n := 6) (by omega) (by omega) ?_
  refine lv_astore_n (lv' := [(3, .ref q9), (0, .ref tp), (1, .int v), (2, .ref out)]) hx hb dL_coins_12 rfl hl (by decide) rfl (fun ls hl => ?_)
  refine lv_iconst (v := nI 1) hx hb dL_coins_13 (by decide) ?_
  refine W.widen (k := 1) (n := 6) (by omega) (by omega) ?_
  exact kt_iretS (wN := fun (_ : Unit) => ([] : va_W)) () hx hb hr hS hP hK hD (by decide) hlocks dL_coins_14

set_option maxHeartbeats 4000000 in
set_option maxRecDepth 100000 in
theorem h_kept (l : Launch) (hlt : l.stackTraces = false) (dC : Nat → ClassId) (dI : Nat → Nat → Nat) (cI cII cJ cJJ : ClassId) (tp : Nat) (f : Nat → Nat) (er tr kr : Nat → Nat) (out : Nat) (v : Int32) (q : Int32) (sz : Nat)  : Met l yL_kept wsL_kept ({ frames := 9, cells := 1, slots := 6, locals := 132 }) (va_Pc [.ref tp, .int v, .int q, .ref out] (PREH (dC, dI) (tyL cI cII cJ cJJ) (wF tp f er tr kr cI cII cJ cJJ ++ wO cJ out oZ) sz)) (va_Qi (fun (r' : Int32) (_ : Unit) => r' = nI 1) (fun (_ : Unit) tS => ATW (dC, dI) (tyL cI cII cJ cJJ) (va_A (wF tp f er tr kr cI cII cJ cJJ ++ wO cJ out oZ) sz) (([] : va_W)) tS) (va_A (wF tp f er tr kr cI cII cJ cJJ ++ wO cJ out oZ) sz)) 1 6 (va_A (wF tp f er tr kr cI cII cJ cJJ ++ wO cJ out oZ) sz) := by
  refine kt_ofWH (cc := cL_kept) (maxL := 5) (ret := some .int) (by decide) rfl ?_
  intro p e s m args below meth c s₁ B hml hv
  obtain ⟨rfl, ⟨⟨hsz, hP, hK, hD0⟩, hE⟩, hnc⟩ := hv
  have hx := B.exec
  have hb := B.bytes
  have hr := B.returns
  have hlocks := B.notSynchronized
  have hts := atoms_spec (ws := wsL_kept) B.pre
  have hown : s.vm.findClass RL = some m.cls := findClass_of_methodNamed B.named
  have htab := vx_table (x := yL_kept) B (hts _ List.mem_cons_self)
  subst hsz
  have hD := hD0.self (sz := s.heap.size)
  generalize hAe : va_A (wF tp f er tr kr cI cII cJ cJJ ++ wO cJ out oZ) s.heap.size = A at hD hE ⊢
  have hA : ∀ q : Nat, s.heap.size ≤ q → A q := fun q h => by rw [← hAe]; exact Or.inr h
  have hS : va_S A s.heap s.heap [] := va_S.rf
  have hl := lv_entry ([.ref tp, .int v, .int q, .ref out]) (n := 5) (Nat.le_of_ble_eq_true rfl)
  rw [lg_entry_eq]
  generalize (lg_sl ([.ref tp, .int v, .int q, .ref out]) ++ List.replicate (5 - (lg_sl ([.ref tp, .int v, .int q, .ref out])).length) Slot.unset).toArray = ls at hl ⊢
  have hl : lv_has ls 5 [(0, .ref tp), (1, .int v), (2, .int q), (3, .ref out)] := hl
  refine lv_aload_n hx hb dL_kept_0 rfl (lv_at hl 3 rfl) ?_
  refine lv_iconst (v := nI 0) hx hb dL_kept_1 (by decide) ?_
  refine lv_aload_n hx hb dL_kept_2 rfl (lv_at hl 0 rfl) ?_
  refine lv_iload_n hx hb dL_kept_3 rfl (lv_at hl 1 rfl) ?_
  refine lv_iload_n hx hb dL_kept_4 rfl (lv_at hl 2 rfl) ?_
  have hF9 := va_free (wc := wF tp f er tr kr cI cII cJ cJJ) hD hS hA (List.range' 0 45) rfl
  refine kt_xrun (vx_runV (As := [.int v, .int q]) (rest := [.int (nI 0), .ref out]) ⟨hx, hb, hml, hown, hts⟩ (x_X4_kept_heap l dC dI cI cII cJ cJJ tp (f 0) (f 1) (f 2) (fun _ => 0) (fun _ => 0) (f 3) (f 4) (f 5) (fun _ => 0) (fun _ => 0) (f 6) (f 7) (f 8) (fun _ => 0) (fun _ => 0) (f 9) (f 10) (f 11) (fun _ => 0) (fun _ => 0) (f 12) kr (fun _ _ => 0) 0 0 0 (f 13) (f 14) (fun _ => 0) 0 (f 15) (f 16) (fun _ => 0) (f 17) (f 18) (f 19) (fun _ => 0) (fun _ => 0) (f 20) (f 21) (f 22) (fun _ => 0) (fun _ => 0) (f 23) (f 24) (f 25) (f 26) er 0 (fun _ _ => 0) (fun _ => 0) tr (fun _ _ => 0) hlt v q _ (no_heapB v)) (cwV 2 hts gL_kept_X4_kept rfl rfl rfl (by decide +kernel) ⟨Nat.le_of_ble_eq_true rfl, Nat.le_of_ble_eq_true rfl⟩) (kt_preVE (q0 := 0) (ci := kX4) hK hP hD hS hE hF9 (List.range' 0 45) rfl rfl rfl rfl rfl) rfl rfl hl.1 rfl (lv_room (Nat.le_of_ble_eq_true rfl)) dL_kept_5 ⟨Nat.le_of_ble_eq_true rfl, Nat.le_of_ble_eq_true rfl⟩) hS hF9 (fun q _ h => hF9 q h) (fun E9 ce q9 u t H locs ht hvm _ hB hz hk hS hce hcv hcl => ?_)
  obtain ⟨rfl, -⟩ := hB
  refine vx_catch (name := exI) hown [] ⟨0, 10, 13, 19⟩ [] (htab.trans rfl) (fun z hz => absurd hz List.not_mem_nil) rfl (by decide) (hts (.classLink RL 19 exI) (by decide +kernel)) (va_Nw.use rfl hE.castI) hce hcv hcl ?_
  have hP : va_P (dC, dI) vwCl [] H := kt_nilP
  have hD : va_D A [] := kt_nilD
  refine W.widen (k := 1) (n := 6) (by omega) (by omega) ?_
  refine lv_astore (lv' := [(4, .ref q9), (0, .ref tp), (1, .int v), (2, .int q), (3, .ref out)]) hx hb dL_kept_13 hl (by decide) rfl (fun ls hl => ?_)
  refine lv_iconst (v := nI 1) hx hb dL_kept_15 (by decide) ?_
  refine W.widen (k := 1) (n := 6) (by omega) (by omega) ?_
  exact kt_iretS (wN := fun (_ : Unit) => ([] : va_W)) () hx hb hr hS hP hK hD (by decide) hlocks dL_kept_16

set_option maxHeartbeats 4000000 in
set_option maxRecDepth 100000 in
theorem h_many_within (l : Launch) (hlt : l.stackTraces = false) (dC : Nat → ClassId) (dI : Nat → Nat → Nat) (cI cII cJ cJJ : ClassId) (tp : Nat) (f : Nat → Nat) (er tr kr : Nat → Nat) (out : Nat) (v : Int32) (sz : Nat) (h : v < 0 ∨ ¬ v ≤ 13) : Met l yL_many wsL_many ({ frames := 9, cells := 1, slots := 6, locals := 131 }) (va_Pc [.ref tp, .int v, .ref out] (PREH (dC, dI) (tyL cI cII cJ cJJ) (wF tp f er tr kr cI cII cJ cJJ ++ wO cJ out oZ) sz)) (va_Qi (fun (r' : Int32) (_ : Unit) => r' = nI 1) (fun (_ : Unit) tS => ATW (dC, dI) (tyL cI cII cJ cJJ) (va_A (wF tp f er tr kr cI cII cJ cJJ ++ wO cJ out oZ) sz) (([] : va_W)) tS) (va_A (wF tp f er tr kr cI cII cJ cJJ ++ wO cJ out oZ) sz)) 1 6 (va_A (wF tp f er tr kr cI cII cJ cJJ ++ wO cJ out oZ) sz) := by
  refine kt_ofWH (cc := cL_many) (maxL := 4) (ret := some .int) (by decide) rfl ?_
  intro p e s m args below meth c s₁ B hml hv
  obtain ⟨rfl, ⟨⟨hsz, hP, hK, hD0⟩, hE⟩, hnc⟩ := hv
  have hx := B.exec
  have hb := B.bytes
  have hr := B.returns
  have hlocks := B.notSynchronized
  have hts := atoms_spec (ws := wsL_many) B.pre
  have hown : s.vm.findClass RL = some m.cls := findClass_of_methodNamed B.named
  have htab := vx_table (x := yL_many) B (hts _ List.mem_cons_self)
  subst hsz
  have hD := hD0.self (sz := s.heap.size)
  generalize hAe : va_A (wF tp f er tr kr cI cII cJ cJJ ++ wO cJ out oZ) s.heap.size = A at hD hE ⊢
  have hA : ∀ q : Nat, s.heap.size ≤ q → A q := fun q h => by rw [← hAe]; exact Or.inr h
  have hS : va_S A s.heap s.heap [] := va_S.rf
  have hl := lv_entry ([.ref tp, .int v, .ref out]) (n := 4) (Nat.le_of_ble_eq_true rfl)
  rw [lg_entry_eq]
  generalize (lg_sl ([.ref tp, .int v, .ref out]) ++ List.replicate (4 - (lg_sl ([.ref tp, .int v, .ref out])).length) Slot.unset).toArray = ls at hl ⊢
  have hl : lv_has ls 4 [(0, .ref tp), (1, .int v), (2, .ref out)] := hl
  refine lv_aload_n hx hb dL_many_0 rfl (lv_at hl 2 rfl) ?_
  refine lv_iconst (v := nI 0) hx hb dL_many_1 (by decide) ?_
  refine lv_aload_n hx hb dL_many_2 rfl (lv_at hl 0 rfl) ?_
  refine lv_iload_n hx hb dL_many_3 rfl (lv_at hl 1 rfl) ?_
  have hF9 := va_free (wc := wF tp f er tr kr cI cII cJ cJJ) hD hS hA (List.range' 0 45) rfl
  refine kt_xrun (vx_runV (As := [.int v]) (rest := [.int (nI 0), .ref out]) ⟨hx, hb, hml, hown, hts⟩ (x_X4_many_within l dC dI cI cII cJ cJJ tp (f 0) (f 1) (f 2) (fun _ => 0) (fun _ => 0) (f 3) (f 4) (f 5) (fun _ => 0) (fun _ => 0) (f 6) (f 7) (f 8) (fun _ => 0) (fun _ => 0) (f 9) (f 10) (f 11) (fun _ => 0) (fun _ => 0) (f 12) kr (fun _ _ => 0) 0 0 0 (f 13) (f 14) (fun _ => 0) 0 (f 15) (f 16) (fun _ => 0) (f 17) (f 18) (f 19) (fun _ => 0) (fun _ => 0) (f 20) (f 21) (f 22) (fun _ => 0) (fun _ => 0) (f 23) (f 24) (f 25) (f 26) er 0 (fun _ _ => 0) (fun _ => 0) tr (fun _ _ => 0) hlt v _ (h)) (cwV 1 hts gL_many_X4_many rfl rfl rfl (by decide +kernel) ⟨Nat.le_of_ble_eq_true rfl, Nat.le_of_ble_eq_true rfl⟩) (kt_preVE (q0 := 0) (ci := kX4) hK hP hD hS hE hF9 (List.range' 0 45) rfl rfl rfl rfl rfl) rfl rfl hl.1 rfl (lv_room (Nat.le_of_ble_eq_true rfl)) dL_many_4 ⟨Nat.le_of_ble_eq_true rfl, Nat.le_of_ble_eq_true rfl⟩) hS hF9 (fun q _ h => hF9 q h) (fun E9 ce q9 u t H locs ht hvm _ hB hz hk hS hce hcv hcl => ?_)
  obtain ⟨rfl, -⟩ := hB
  refine vx_catch (name := exA) hown [] ⟨0, 9, 12, 21⟩ [] (htab.trans rfl) (fun z hz => absurd hz List.not_mem_nil) rfl (by decide) (hts (.classLink RL 21 exA) (by decide +kernel)) (va_Nw.use rfl hE.castA) hce hcv hcl ?_
  have hP : va_P (dC, dI) vwCl [] H := kt_nilP
  have hD : va_D A [] := kt_nilD
  refine W.widen (k := 1) (n := 6) (by omega) (by omega) ?_
  refine lv_astore_n (lv' := [(3, .ref q9), (0, .ref tp), (1, .int v), (2, .ref out)]) hx hb dL_many_12 rfl hl (by decide) rfl (fun ls hl => ?_)
  refine lv_iconst (v := nI 1) hx hb dL_many_13 (by decide) ?_
  refine W.widen (k := 1) (n := 6) (by omega) (by omega) ?_
  exact kt_iretS (wN := fun (_ : Unit) => ([] : va_W)) () hx hb hr hS hP hK hD (by decide) hlocks dL_many_14

set_option maxHeartbeats 4000000 in
set_option maxRecDepth 100000 in
theorem h_would (l : Launch) (hlt : l.stackTraces = false) (dC : Nat → ClassId) (dI : Nat → Nat → Nat) (cI cII cJ cJJ : ClassId) (tp : Nat) (f : Nat → Nat) (er tr kr : Nat → Nat) (out : Nat) (v : Int32) (q : Int32) (x : Int32) (sz : Nat)  : Met l yL_would wsL_would ({ frames := 9, cells := 1, slots := 6, locals := 133 }) (va_Pc [.ref tp, .int v, .int q, .int x, .ref out] (PREH (dC, dI) (tyL cI cII cJ cJJ) (wF tp f er tr kr cI cII cJ cJJ ++ wO cJ out oZ) sz)) (va_Qi (fun (r' : Int32) (_ : Unit) => r' = nI 1) (fun (_ : Unit) tS => ATW (dC, dI) (tyL cI cII cJ cJJ) (va_A (wF tp f er tr kr cI cII cJ cJJ ++ wO cJ out oZ) sz) (([] : va_W)) tS) (va_A (wF tp f er tr kr cI cII cJ cJJ ++ wO cJ out oZ) sz)) 1 6 (va_A (wF tp f er tr kr cI cII cJ cJJ ++ wO cJ out oZ) sz) := by
  refine kt_ofWH (cc := cL_would) (maxL := 6) (ret := some .int) (by decide) rfl ?_
  intro p e s m args below meth c s₁ B hml hv
  obtain ⟨rfl, ⟨⟨hsz, hP, hK, hD0⟩, hE⟩, hnc⟩ := hv
  have hx := B.exec
  have hb := B.bytes
  have hr := B.returns
  have hlocks := B.notSynchronized
  have hts := atoms_spec (ws := wsL_would) B.pre
  have hown : s.vm.findClass RL = some m.cls := findClass_of_methodNamed B.named
  have htab := vx_table (x := yL_would) B (hts _ List.mem_cons_self)
  subst hsz
  have hD := hD0.self (sz := s.heap.size)
  generalize hAe : va_A (wF tp f er tr kr cI cII cJ cJJ ++ wO cJ out oZ) s.heap.size = A at hD hE ⊢
  have hA : ∀ q : Nat, s.heap.size ≤ q → A q := fun q h => by rw [← hAe]; exact Or.inr h
  have hS : va_S A s.heap s.heap [] := va_S.rf
  have hl := lv_entry ([.ref tp, .int v, .int q, .int x, .ref out]) (n := 6) (Nat.le_of_ble_eq_true rfl)
  rw [lg_entry_eq]
  generalize (lg_sl ([.ref tp, .int v, .int q, .int x, .ref out]) ++ List.replicate (6 - (lg_sl ([.ref tp, .int v, .int q, .int x, .ref out])).length) Slot.unset).toArray = ls at hl ⊢
  have hl : lv_has ls 6 [(0, .ref tp), (1, .int v), (2, .int q), (3, .int x), (4, .ref out)] := hl
  refine lv_aload hx hb dL_would_0 (lv_at hl 4 rfl) ?_
  refine lv_iconst (v := nI 0) hx hb dL_would_2 (by decide) ?_
  refine lv_aload_n hx hb dL_would_3 rfl (lv_at hl 0 rfl) ?_
  refine lv_iload_n hx hb dL_would_4 rfl (lv_at hl 1 rfl) ?_
  refine lv_iload_n hx hb dL_would_5 rfl (lv_at hl 2 rfl) ?_
  refine lv_iload_n hx hb dL_would_6 rfl (lv_at hl 3 rfl) ?_
  have hF9 := va_free (wc := wF tp f er tr kr cI cII cJ cJJ) hD hS hA (List.range' 0 45) rfl
  refine kt_xrun (vx_runV (As := [.int v, .int q, .int x]) (rest := [.int (nI 0), .ref out]) ⟨hx, hb, hml, hown, hts⟩ (x_X4_would_spot l dC dI cI cII cJ cJJ tp (f 0) (f 1) (f 2) (fun _ => 0) (fun _ => 0) (f 3) (f 4) (f 5) (fun _ => 0) (fun _ => 0) (f 6) (f 7) (f 8) (fun _ => 0) (fun _ => 0) (f 9) (f 10) (f 11) (fun _ => 0) (fun _ => 0) (f 12) kr (fun _ _ => 0) 0 0 0 (f 13) (f 14) (fun _ => 0) 0 (f 15) (f 16) (fun _ => 0) (f 17) (f 18) (f 19) (fun _ => 0) (fun _ => 0) (f 20) (f 21) (f 22) (fun _ => 0) (fun _ => 0) (f 23) (f 24) (f 25) (f 26) er 0 (fun _ _ => 0) (fun _ => 0) tr (fun _ _ => 0) hlt v q x _ (by decide) (no_spotB v)) (cwV 3 hts gL_would_X4_would rfl rfl rfl (by decide +kernel) ⟨Nat.le_of_ble_eq_true rfl, Nat.le_of_ble_eq_true rfl⟩) (kt_preVE (q0 := 0) (ci := kX4) hK hP hD hS hE hF9 (List.range' 0 45) rfl rfl rfl rfl rfl) rfl rfl hl.1 rfl (lv_room (Nat.le_of_ble_eq_true rfl)) dL_would_7 ⟨Nat.le_of_ble_eq_true rfl, Nat.le_of_ble_eq_true rfl⟩) hS hF9 (fun q _ h => hF9 q h) (fun E9 ce q9 u t H locs ht hvm _ hB hz hk hS hce hcv hcl => ?_)
  obtain ⟨rfl, -⟩ := hB
  refine vx_catch (name := exI) hown [] ⟨0, 12, 15, 19⟩ [⟨0, 12, 19, 21⟩, ⟨0, 12, 23, 13⟩] (htab.trans rfl) (fun z hz => absurd hz List.not_mem_nil) rfl (by decide) (hts (.classLink RL 19 exI) (by decide +kernel)) (va_Nw.use rfl hE.castI) hce hcv hcl ?_
  have hP : va_P (dC, dI) vwCl [] H := kt_nilP
  have hD : va_D A [] := kt_nilD
  refine W.widen (k := 1) (n := 6) (by omega) (by omega) ?_
  refine lv_astore (lv' := [(5, .ref q9), (0, .ref tp), (1, .int v), (2, .int q), (3, .int x), (4, .ref out)]) hx hb dL_would_15 hl (by decide) rfl (fun ls hl => ?_)
  refine lv_iconst (v := nI 1) hx hb dL_would_17 (by decide) ?_
  refine W.widen (k := 1) (n := 6) (by omega) (by omega) ?_
  exact kt_iretS (wN := fun (_ : Unit) => ([] : va_W)) () hx hb hr hS hP hK hD (by decide) hlocks dL_would_18

set_option maxHeartbeats 4000000 in
set_option maxRecDepth 100000 in
theorem h_isLasting (l : Launch) (hlt : l.stackTraces = false) (dC : Nat → ClassId) (dI : Nat → Nat → Nat) (cI cII cJ cJJ : ClassId) (tp : Nat) (f : Nat → Nat) (er tr kr : Nat → Nat) (out : Nat)  (sz : Nat)  : Met l yL_isLasting wsL_isLasting ({ frames := 9, cells := 1, slots := 6, locals := 130 }) (va_Pc [.ref tp, .ref out] (PREH (dC, dI) (tyL cI cII cJ cJJ) (wF tp f er tr kr cI cII cJ cJJ ++ wO cJ out oZ) sz)) (va_Qi (fun (r' : Int32) (_ : Unit) => r' = nI 1) (fun (_ : Unit) tS => ATW (dC, dI) (tyL cI cII cJ cJJ) (va_A (wF tp f er tr kr cI cII cJ cJJ ++ wO cJ out oZ) sz) (([] : va_W)) tS) (va_A (wF tp f er tr kr cI cII cJ cJJ ++ wO cJ out oZ) sz)) 1 6 (va_A (wF tp f er tr kr cI cII cJ cJJ ++ wO cJ out oZ) sz) := by
  refine kt_ofWH (cc := cL_isLasting) (maxL := 3) (ret := some .int) (by decide) rfl ?_
  intro p e s m args below meth c s₁ B hml hv
  obtain ⟨rfl, ⟨⟨hsz, hP, hK, hD0⟩, hE⟩, hnc⟩ := hv
  have hx := B.exec
  have hb := B.bytes
  have hr := B.returns
  have hlocks := B.notSynchronized
  have hts := atoms_spec (ws := wsL_isLasting) B.pre
  have hown : s.vm.findClass RL = some m.cls := findClass_of_methodNamed B.named
  have htab := vx_table (x := yL_isLasting) B (hts _ List.mem_cons_self)
  subst hsz
  have hD := hD0.self (sz := s.heap.size)
  generalize hAe : va_A (wF tp f er tr kr cI cII cJ cJJ ++ wO cJ out oZ) s.heap.size = A at hD hE ⊢
  have hA : ∀ q : Nat, s.heap.size ≤ q → A q := fun q h => by rw [← hAe]; exact Or.inr h
  have hS : va_S A s.heap s.heap [] := va_S.rf
  have hl := lv_entry ([.ref tp, .ref out]) (n := 3) (Nat.le_of_ble_eq_true rfl)
  rw [lg_entry_eq]
  generalize (lg_sl ([.ref tp, .ref out]) ++ List.replicate (3 - (lg_sl ([.ref tp, .ref out])).length) Slot.unset).toArray = ls at hl ⊢
  have hl : lv_has ls 3 [(0, .ref tp), (1, .ref out)] := hl
  refine lv_aload_n hx hb dL_isLasting_0 rfl (lv_at hl 1 rfl) ?_
  refine lv_iconst (v := nI 0) hx hb dL_isLasting_1 (by decide) ?_
  refine lv_aload_n hx hb dL_isLasting_2 rfl (lv_at hl 0 rfl) ?_
  have hF9 := va_free (wc := wF tp f er tr kr cI cII cJ cJJ) hD hS hA (List.range' 0 45) rfl
  refine kt_xrun (vx_runV (As := []) (rest := [.int (nI 0), .ref out]) ⟨hx, hb, hml, hown, hts⟩ (x_X4_isLasting_fast l dC dI cI cII cJ cJJ tp (f 0) (f 1) (f 2) (fun _ => 0) (fun _ => 0) (f 3) (f 4) (f 5) (fun _ => 0) (fun _ => 0) (f 6) (f 7) (f 8) (fun _ => 0) (fun _ => 0) (f 9) (f 10) (f 11) (fun _ => 0) (fun _ => 0) (f 12) kr (fun _ _ => 0) 0 0 0 (f 13) (f 14) (fun _ => 0) 0 (f 15) (f 16) (fun _ => 0) (f 17) (f 18) (f 19) (fun _ => 0) (fun _ => 0) (f 20) (f 21) (f 22) (fun _ => 0) (fun _ => 0) (f 23) (f 24) (f 25) (f 26) er 0 (fun _ _ => 0) (fun _ => 0) tr (fun _ _ => 0) hlt _ (by decide) (slow0)) (cwV 0 hts gL_isLasting_X4_isLasting rfl rfl rfl (by decide +kernel) ⟨Nat.le_of_ble_eq_true rfl, Nat.le_of_ble_eq_true rfl⟩) (kt_preVE (q0 := 0) (ci := kX4) hK hP hD hS hE hF9 (List.range' 0 45) rfl rfl rfl rfl rfl) rfl rfl hl.1 rfl (lv_room (Nat.le_of_ble_eq_true rfl)) dL_isLasting_3 ⟨Nat.le_of_ble_eq_true rfl, Nat.le_of_ble_eq_true rfl⟩) hS hF9 (fun q _ h => hF9 q h) (fun E9 ce q9 u t H locs ht hvm _ hB hz hk hS hce hcv hcl => ?_)
  obtain ⟨rfl, -⟩ := hB
  refine vx_catch (name := exS) hown [] ⟨0, 15, 18, 13⟩ [] (htab.trans rfl) (fun z hz => absurd hz List.not_mem_nil) rfl (by decide) (hts (.classLink RL 13 exS) (by decide +kernel)) (va_Nw.use rfl hE.castS) hce hcv hcl ?_
  have hP : va_P (dC, dI) vwCl [] H := kt_nilP
  have hD : va_D A [] := kt_nilD
  refine W.widen (k := 1) (n := 6) (by omega) (by omega) ?_
  refine lv_astore_n (lv' := [(2, .ref q9), (0, .ref tp), (1, .ref out)]) hx hb dL_isLasting_18 rfl hl (by decide) rfl (fun ls hl => ?_)
  refine lv_iconst (v := nI 1) hx hb dL_isLasting_19 (by decide) ?_
  refine W.widen (k := 1) (n := 6) (by omega) (by omega) ?_
  exact kt_iretS (wN := fun (_ : Unit) => ([] : va_W)) () hx hb hr hS hP hK hD (by decide) hlocks dL_isLasting_20

set_option maxHeartbeats 4000000 in
set_option maxRecDepth 100000 in
theorem h_neutral (l : Launch) (hlt : l.stackTraces = false) (dC : Nat → ClassId) (dI : Nat → Nat → Nat) (cI cII cJ cJJ : ClassId) (tp : Nat) (f : Nat → Nat) (er tr kr : Nat → Nat) (out : Nat) (v : Int32) (sz : Nat)  : Met l yL_neutral wsL_neutral ({ frames := 9, cells := 1, slots := 6, locals := 131 }) (va_Pc [.ref tp, .int v, .ref out] (PREH (dC, dI) (tyL cI cII cJ cJJ) (wF tp f er tr kr cI cII cJ cJJ ++ wO cJ out oZ) sz)) (va_Qi (fun (r' : Int32) (_ : Unit) => r' = nI 1) (fun (_ : Unit) tS => ATW (dC, dI) (tyL cI cII cJ cJJ) (va_A (wF tp f er tr kr cI cII cJ cJJ ++ wO cJ out oZ) sz) (([] : va_W)) tS) (va_A (wF tp f er tr kr cI cII cJ cJJ ++ wO cJ out oZ) sz)) 1 6 (va_A (wF tp f er tr kr cI cII cJ cJJ ++ wO cJ out oZ) sz) := by
  refine kt_ofWH (cc := cL_neutral) (maxL := 4) (ret := some .int) (by decide) rfl ?_
  intro p e s m args below meth c s₁ B hml hv
  obtain ⟨rfl, ⟨⟨hsz, hP, hK, hD0⟩, hE⟩, hnc⟩ := hv
  have hx := B.exec
  have hb := B.bytes
  have hr := B.returns
  have hlocks := B.notSynchronized
  have hts := atoms_spec (ws := wsL_neutral) B.pre
  have hown : s.vm.findClass RL = some m.cls := findClass_of_methodNamed B.named
  have htab := vx_table (x := yL_neutral) B (hts _ List.mem_cons_self)
  subst hsz
  have hD := hD0.self (sz := s.heap.size)
  generalize hAe : va_A (wF tp f er tr kr cI cII cJ cJJ ++ wO cJ out oZ) s.heap.size = A at hD hE ⊢
  have hA : ∀ q : Nat, s.heap.size ≤ q → A q := fun q h => by rw [← hAe]; exact Or.inr h
  have hS : va_S A s.heap s.heap [] := va_S.rf
  have hl := lv_entry ([.ref tp, .int v, .ref out]) (n := 4) (Nat.le_of_ble_eq_true rfl)
  rw [lg_entry_eq]
  generalize (lg_sl ([.ref tp, .int v, .ref out]) ++ List.replicate (4 - (lg_sl ([.ref tp, .int v, .ref out])).length) Slot.unset).toArray = ls at hl ⊢
  have hl : lv_has ls 4 [(0, .ref tp), (1, .int v), (2, .ref out)] := hl
  refine lv_aload_n hx hb dL_neutral_0 rfl (lv_at hl 2 rfl) ?_
  refine lv_iconst (v := nI 0) hx hb dL_neutral_1 (by decide) ?_
  refine lv_aload_n hx hb dL_neutral_2 rfl (lv_at hl 0 rfl) ?_
  refine lv_iload_n hx hb dL_neutral_3 rfl (lv_at hl 1 rfl) ?_
  have hF9 := va_free (wc := wF tp f er tr kr cI cII cJ cJJ) hD hS hA (List.range' 0 45) rfl
  refine kt_xrun (vx_runV (As := [.int v]) (rest := [.int (nI 0), .ref out]) ⟨hx, hb, hml, hown, hts⟩ (x_X4_neutral_spot l dC dI cI cII cJ cJJ tp (f 0) (f 1) (f 2) (fun _ => 0) (fun _ => 0) (f 3) (f 4) (f 5) (fun _ => 0) (fun _ => 0) (f 6) (f 7) (f 8) (fun _ => 0) (fun _ => 0) (f 9) (f 10) (f 11) (fun _ => 0) (fun _ => 0) (f 12) kr (fun _ _ => 0) 0 0 0 (f 13) (f 14) (fun _ => 0) 0 (f 15) (f 16) (fun _ => 0) (f 17) (f 18) (f 19) (fun _ => 0) (fun _ => 0) (f 20) (f 21) (f 22) (fun _ => 0) (fun _ => 0) (f 23) (f 24) (f 25) (f 26) er 0 (fun _ _ => 0) (fun _ => 0) tr (fun _ _ => 0) hlt v _ (by decide) (no_spotB v)) (cwV 1 hts gL_neutral_X4_neutral rfl rfl rfl (by decide +kernel) ⟨Nat.le_of_ble_eq_true rfl, Nat.le_of_ble_eq_true rfl⟩) (kt_preVE (q0 := 0) (ci := kX4) hK hP hD hS hE hF9 (List.range' 0 45) rfl rfl rfl rfl rfl) rfl rfl hl.1 rfl (lv_room (Nat.le_of_ble_eq_true rfl)) dL_neutral_4 ⟨Nat.le_of_ble_eq_true rfl, Nat.le_of_ble_eq_true rfl⟩) hS hF9 (fun q _ h => hF9 q h) (fun E9 ce q9 u t H locs ht hvm _ hB hz hk hS hce hcv hcl => ?_)
  obtain ⟨rfl, -⟩ := hB
  refine vx_catch (name := exI) hown [] ⟨0, 9, 12, 19⟩ [⟨0, 9, 15, 13⟩] (htab.trans rfl) (fun z hz => absurd hz List.not_mem_nil) rfl (by decide) (hts (.classLink RL 19 exI) (by decide +kernel)) (va_Nw.use rfl hE.castI) hce hcv hcl ?_
  have hP : va_P (dC, dI) vwCl [] H := kt_nilP
  have hD : va_D A [] := kt_nilD
  refine W.widen (k := 1) (n := 6) (by omega) (by omega) ?_
  refine lv_astore_n (lv' := [(3, .ref q9), (0, .ref tp), (1, .int v), (2, .ref out)]) hx hb dL_neutral_12 rfl hl (by decide) rfl (fun ls hl => ?_)
  refine lv_iconst (v := nI 1) hx hb dL_neutral_13 (by decide) ?_
  refine W.widen (k := 1) (n := 6) (by omega) (by omega) ?_
  exact kt_iretS (wN := fun (_ : Unit) => ([] : va_W)) () hx hb hr hS hP hK hD (by decide) hlocks dL_neutral_14

set_option maxHeartbeats 4000000 in
set_option maxRecDepth 100000 in
theorem h_order (l : Launch) (hlt : l.stackTraces = false) (dC : Nat → ClassId) (dI : Nat → Nat → Nat) (cI cII cJ cJJ : ClassId) (tp : Nat) (f : Nat → Nat) (er tr kr : Nat → Nat) (out : Nat)  (sz : Nat)  : Met l yL_order wsL_order ({ frames := 9, cells := 1, slots := 6, locals := 131 }) (va_Pc [.ref tp, .ref out] (PREH (dC, dI) (tyL cI cII cJ cJJ) (wF tp f er tr kr cI cII cJ cJJ ++ wO cJ out oZ) sz)) (va_Qi (fun (r' : Int32) (_ : Unit) => r' = nI 1) (fun (_ : Unit) tS => ATW (dC, dI) (tyL cI cII cJ cJJ) (va_A (wF tp f er tr kr cI cII cJ cJJ ++ wO cJ out oZ) sz) (([] : va_W)) tS) (va_A (wF tp f er tr kr cI cII cJ cJJ ++ wO cJ out oZ) sz)) 1 6 (va_A (wF tp f er tr kr cI cII cJ cJJ ++ wO cJ out oZ) sz) := by
  refine kt_ofWH (cc := cL_order) (maxL := 3) (ret := some .int) (by decide) rfl ?_
  intro p e s m args below meth c s₁ B hml hv
  obtain ⟨rfl, ⟨⟨hsz, hP, hK, hD0⟩, hE⟩, hnc⟩ := hv
  have hx := B.exec
  have hb := B.bytes
  have hr := B.returns
  have hlocks := B.notSynchronized
  have hts := atoms_spec (ws := wsL_order) B.pre
  have hown : s.vm.findClass RL = some m.cls := findClass_of_methodNamed B.named
  have htab := vx_table (x := yL_order) B (hts _ List.mem_cons_self)
  subst hsz
  have hD := hD0.self (sz := s.heap.size)
  generalize hAe : va_A (wF tp f er tr kr cI cII cJ cJJ ++ wO cJ out oZ) s.heap.size = A at hD hE ⊢
  have hA : ∀ q : Nat, s.heap.size ≤ q → A q := fun q h => by rw [← hAe]; exact Or.inr h
  have hS : va_S A s.heap s.heap [] := va_S.rf
  have hl := lv_entry ([.ref tp, .ref out]) (n := 3) (Nat.le_of_ble_eq_true rfl)
  rw [lg_entry_eq]
  generalize (lg_sl ([.ref tp, .ref out]) ++ List.replicate (3 - (lg_sl ([.ref tp, .ref out])).length) Slot.unset).toArray = ls at hl ⊢
  have hl : lv_has ls 3 [(0, .ref tp), (1, .ref out)] := hl
  refine lv_aload_n hx hb dL_order_0 rfl (lv_at hl 1 rfl) ?_
  refine lv_iconst (v := nI 0) hx hb dL_order_1 (by decide) ?_
  refine lv_aload_n hx hb dL_order_2 rfl (lv_at hl 0 rfl) ?_
  have hF9 := va_free (wc := wF tp f er tr kr cI cII cJ cJJ) hD hS hA (List.range' 0 45) rfl
  refine kt_xrun (vx_runV (As := []) (rest := [.int (nI 0), .ref out]) ⟨hx, hb, hml, hown, hts⟩ (x_X4_order_fast l dC dI cI cII cJ cJJ tp (f 0) (f 1) (f 2) (fun _ => 0) (fun _ => 0) (f 3) (f 4) (f 5) (fun _ => 0) (fun _ => 0) (f 6) (f 7) (f 8) (fun _ => 0) (fun _ => 0) (f 9) (f 10) (f 11) (fun _ => 0) (fun _ => 0) (f 12) kr (fun _ _ => 0) 0 0 0 (f 13) (f 14) (fun _ => 0) 0 (f 15) (f 16) (fun _ => 0) (f 17) (f 18) (f 19) (fun _ => 0) (fun _ => 0) (f 20) (f 21) (f 22) (fun _ => 0) (fun _ => 0) (f 23) (f 24) (f 25) (f 26) er 0 (fun _ _ => 0) (fun _ => 0) tr (fun _ _ => 0) hlt _ (by decide) (slow0)) (cwV 0 hts gL_order_X4_order rfl rfl rfl (by decide +kernel) ⟨Nat.le_of_ble_eq_true rfl, Nat.le_of_ble_eq_true rfl⟩) (kt_preVE (q0 := 0) (ci := kX4) hK hP hD hS hE hF9 (List.range' 0 45) rfl rfl rfl rfl rfl) rfl rfl hl.1 rfl (lv_room (Nat.le_of_ble_eq_true rfl)) dL_order_3 ⟨Nat.le_of_ble_eq_true rfl, Nat.le_of_ble_eq_true rfl⟩) hS hF9 (fun q _ h => hF9 q h) (fun E9 ce q9 u t H locs ht hvm _ hB hz hk hS hce hcv hcl => ?_)
  obtain ⟨rfl, -⟩ := hB
  refine vx_catch (name := exS) hown [] ⟨0, 8, 11, 13⟩ [] (htab.trans rfl) (fun z hz => absurd hz List.not_mem_nil) rfl (by decide) (hts (.classLink RL 13 exS) (by decide +kernel)) (va_Nw.use rfl hE.castS) hce hcv hcl ?_
  have hP : va_P (dC, dI) vwCl [] H := kt_nilP
  have hD : va_D A [] := kt_nilD
  refine W.widen (k := 1) (n := 6) (by omega) (by omega) ?_
  refine lv_astore_n (lv' := [(2, .ref q9), (0, .ref tp), (1, .ref out)]) hx hb dL_order_11 rfl hl (by decide) rfl (fun ls hl => ?_)
  refine lv_iconst (v := nI 1) hx hb dL_order_12 (by decide) ?_
  refine W.widen (k := 1) (n := 6) (by omega) (by omega) ?_
  exact kt_iretS (wN := fun (_ : Unit) => ([] : va_W)) () hx hb hr hS hP hK hD (by decide) hlocks dL_order_13

set_option maxHeartbeats 4000000 in
set_option maxRecDepth 100000 in
theorem h_canPay (l : Launch) (hlt : l.stackTraces = false) (dC : Nat → ClassId) (dI : Nat → Nat → Nat) (cI cII cJ cJJ : ClassId) (tp : Nat) (f : Nat → Nat) (er tr kr : Nat → Nat) (out : Nat)  (sz : Nat)  : Met l yL_canPay wsL_canPay ({ frames := 9, cells := 1, slots := 6, locals := 130 }) (va_Pc [.ref tp, .ref out] (PREH (dC, dI) (tyL cI cII cJ cJJ) (wF tp f er tr kr cI cII cJ cJJ ++ wO cJ out oZ) sz)) (va_Qi (fun (r' : Int32) (_ : Unit) => r' = nI 1) (fun (_ : Unit) tS => ATW (dC, dI) (tyL cI cII cJ cJJ) (va_A (wF tp f er tr kr cI cII cJ cJJ ++ wO cJ out oZ) sz) (([] : va_W)) tS) (va_A (wF tp f er tr kr cI cII cJ cJJ ++ wO cJ out oZ) sz)) 1 6 (va_A (wF tp f er tr kr cI cII cJ cJJ ++ wO cJ out oZ) sz) := by
  refine kt_ofWH (cc := cL_canPay) (maxL := 3) (ret := some .int) (by decide) rfl ?_
  intro p e s m args below meth c s₁ B hml hv
  obtain ⟨rfl, ⟨⟨hsz, hP, hK, hD0⟩, hE⟩, hnc⟩ := hv
  have hx := B.exec
  have hb := B.bytes
  have hr := B.returns
  have hlocks := B.notSynchronized
  have hts := atoms_spec (ws := wsL_canPay) B.pre
  have hown : s.vm.findClass RL = some m.cls := findClass_of_methodNamed B.named
  have htab := vx_table (x := yL_canPay) B (hts _ List.mem_cons_self)
  subst hsz
  have hD := hD0.self (sz := s.heap.size)
  generalize hAe : va_A (wF tp f er tr kr cI cII cJ cJJ ++ wO cJ out oZ) s.heap.size = A at hD hE ⊢
  have hA : ∀ q : Nat, s.heap.size ≤ q → A q := fun q h => by rw [← hAe]; exact Or.inr h
  have hS : va_S A s.heap s.heap [] := va_S.rf
  have hl := lv_entry ([.ref tp, .ref out]) (n := 3) (Nat.le_of_ble_eq_true rfl)
  rw [lg_entry_eq]
  generalize (lg_sl ([.ref tp, .ref out]) ++ List.replicate (3 - (lg_sl ([.ref tp, .ref out])).length) Slot.unset).toArray = ls at hl ⊢
  have hl : lv_has ls 3 [(0, .ref tp), (1, .ref out)] := hl
  refine lv_aload_n hx hb dL_canPay_0 rfl (lv_at hl 1 rfl) ?_
  refine lv_iconst (v := nI 0) hx hb dL_canPay_1 (by decide) ?_
  refine lv_aload_n hx hb dL_canPay_2 rfl (lv_at hl 0 rfl) ?_
  have hF9 := va_free (wc := wF tp f er tr kr cI cII cJ cJJ) hD hS hA (List.range' 0 45) rfl
  refine kt_xrun (vx_runV (As := []) (rest := [.int (nI 0), .ref out]) ⟨hx, hb, hml, hown, hts⟩ (x_X4_canPay_fast l dC dI cI cII cJ cJJ tp (f 0) (f 1) (f 2) (fun _ => 0) (fun _ => 0) (f 3) (f 4) (f 5) (fun _ => 0) (fun _ => 0) (f 6) (f 7) (f 8) (fun _ => 0) (fun _ => 0) (f 9) (f 10) (f 11) (fun _ => 0) (fun _ => 0) (f 12) kr (fun _ _ => 0) 0 0 0 (f 13) (f 14) (fun _ => 0) 0 (f 15) (f 16) (fun _ => 0) (f 17) (f 18) (f 19) (fun _ => 0) (fun _ => 0) (f 20) (f 21) (f 22) (fun _ => 0) (fun _ => 0) (f 23) (f 24) (f 25) (f 26) er 0 (fun _ _ => 0) (fun _ => 0) tr (fun _ _ => 0) hlt _ (by decide) (slow0)) (cwV 0 hts gL_canPay_X4_canPay rfl rfl rfl (by decide +kernel) ⟨Nat.le_of_ble_eq_true rfl, Nat.le_of_ble_eq_true rfl⟩) (kt_preVE (q0 := 0) (ci := kX4) hK hP hD hS hE hF9 (List.range' 0 45) rfl rfl rfl rfl rfl) rfl rfl hl.1 rfl (lv_room (Nat.le_of_ble_eq_true rfl)) dL_canPay_3 ⟨Nat.le_of_ble_eq_true rfl, Nat.le_of_ble_eq_true rfl⟩) hS hF9 (fun q _ h => hF9 q h) (fun E9 ce q9 u t H locs ht hvm _ hB hz hk hS hce hcv hcl => ?_)
  obtain ⟨rfl, -⟩ := hB
  refine vx_catch (name := exS) hown [] ⟨0, 15, 18, 13⟩ [] (htab.trans rfl) (fun z hz => absurd hz List.not_mem_nil) rfl (by decide) (hts (.classLink RL 13 exS) (by decide +kernel)) (va_Nw.use rfl hE.castS) hce hcv hcl ?_
  have hP : va_P (dC, dI) vwCl [] H := kt_nilP
  have hD : va_D A [] := kt_nilD
  refine W.widen (k := 1) (n := 6) (by omega) (by omega) ?_
  refine lv_astore_n (lv' := [(2, .ref q9), (0, .ref tp), (1, .ref out)]) hx hb dL_canPay_18 rfl hl (by decide) rfl (fun ls hl => ?_)
  refine lv_iconst (v := nI 1) hx hb dL_canPay_19 (by decide) ?_
  refine W.widen (k := 1) (n := 6) (by omega) (by omega) ?_
  exact kt_iretS (wN := fun (_ : Unit) => ([] : va_W)) () hx hb hr hS hP hK hD (by decide) hlocks dL_canPay_20

set_option maxHeartbeats 4000000 in
set_option maxRecDepth 100000 in
theorem h_weakest (l : Launch) (hlt : l.stackTraces = false) (dC : Nat → ClassId) (dI : Nat → Nat → Nat) (cI cII cJ cJJ : ClassId) (tp : Nat) (f : Nat → Nat) (er tr kr : Nat → Nat) (out : Nat)  (sz : Nat)  : Met l yL_weakest wsL_weakest ({ frames := 9, cells := 1, slots := 6, locals := 130 }) (va_Pc [.ref tp, .ref out] (PREH (dC, dI) (tyL cI cII cJ cJJ) (wF tp f er tr kr cI cII cJ cJJ ++ wO cJ out oZ) sz)) (va_Qi (fun (r' : Int32) (_ : Unit) => r' = nI 1) (fun (_ : Unit) tS => ATW (dC, dI) (tyL cI cII cJ cJJ) (va_A (wF tp f er tr kr cI cII cJ cJJ ++ wO cJ out oZ) sz) (([] : va_W)) tS) (va_A (wF tp f er tr kr cI cII cJ cJJ ++ wO cJ out oZ) sz)) 1 6 (va_A (wF tp f er tr kr cI cII cJ cJJ ++ wO cJ out oZ) sz) := by
  refine kt_ofWH (cc := cL_weakest) (maxL := 3) (ret := some .int) (by decide) rfl ?_
  intro p e s m args below meth c s₁ B hml hv
  obtain ⟨rfl, ⟨⟨hsz, hP, hK, hD0⟩, hE⟩, hnc⟩ := hv
  have hx := B.exec
  have hb := B.bytes
  have hr := B.returns
  have hlocks := B.notSynchronized
  have hts := atoms_spec (ws := wsL_weakest) B.pre
  have hown : s.vm.findClass RL = some m.cls := findClass_of_methodNamed B.named
  have htab := vx_table (x := yL_weakest) B (hts _ List.mem_cons_self)
  subst hsz
  have hD := hD0.self (sz := s.heap.size)
  generalize hAe : va_A (wF tp f er tr kr cI cII cJ cJJ ++ wO cJ out oZ) s.heap.size = A at hD hE ⊢
  have hA : ∀ q : Nat, s.heap.size ≤ q → A q := fun q h => by rw [← hAe]; exact Or.inr h
  have hS : va_S A s.heap s.heap [] := va_S.rf
  have hl := lv_entry ([.ref tp, .ref out]) (n := 3) (Nat.le_of_ble_eq_true rfl)
  rw [lg_entry_eq]
  generalize (lg_sl ([.ref tp, .ref out]) ++ List.replicate (3 - (lg_sl ([.ref tp, .ref out])).length) Slot.unset).toArray = ls at hl ⊢
  have hl : lv_has ls 3 [(0, .ref tp), (1, .ref out)] := hl
  refine lv_aload_n hx hb dL_weakest_0 rfl (lv_at hl 1 rfl) ?_
  refine lv_iconst (v := nI 0) hx hb dL_weakest_1 (by decide) ?_
  refine lv_aload_n hx hb dL_weakest_2 rfl (lv_at hl 0 rfl) ?_
  have hF9 := va_free (wc := wF tp f er tr kr cI cII cJ cJJ) hD hS hA (List.range' 0 45) rfl
  refine kt_xrun (vx_runV (As := []) (rest := [.int (nI 0), .ref out]) ⟨hx, hb, hml, hown, hts⟩ (x_X4_weakest_fast l dC dI cI cII cJ cJJ tp (f 0) (f 1) (f 2) (fun _ => 0) (fun _ => 0) (f 3) (f 4) (f 5) (fun _ => 0) (fun _ => 0) (f 6) (f 7) (f 8) (fun _ => 0) (fun _ => 0) (f 9) (f 10) (f 11) (fun _ => 0) (fun _ => 0) (f 12) kr (fun _ _ => 0) 0 0 0 (f 13) (f 14) (fun _ => 0) 0 (f 15) (f 16) (fun _ => 0) (f 17) (f 18) (f 19) (fun _ => 0) (fun _ => 0) (f 20) (f 21) (f 22) (fun _ => 0) (fun _ => 0) (f 23) (f 24) (f 25) (f 26) er 0 (fun _ _ => 0) (fun _ => 0) tr (fun _ _ => 0) hlt _ (by decide) (slow0)) (cwV 0 hts gL_weakest_X4_weakest rfl rfl rfl (by decide +kernel) ⟨Nat.le_of_ble_eq_true rfl, Nat.le_of_ble_eq_true rfl⟩) (kt_preVE (q0 := 0) (ci := kX4) hK hP hD hS hE hF9 (List.range' 0 45) rfl rfl rfl rfl rfl) rfl rfl hl.1 rfl (lv_room (Nat.le_of_ble_eq_true rfl)) dL_weakest_3 ⟨Nat.le_of_ble_eq_true rfl, Nat.le_of_ble_eq_true rfl⟩) hS hF9 (fun q _ h => hF9 q h) (fun E9 ce q9 u t H locs ht hvm _ hB hz hk hS hce hcv hcl => ?_)
  obtain ⟨rfl, -⟩ := hB
  refine vx_catch (name := exS) hown [] ⟨0, 8, 11, 13⟩ [] (htab.trans rfl) (fun z hz => absurd hz List.not_mem_nil) rfl (by decide) (hts (.classLink RL 13 exS) (by decide +kernel)) (va_Nw.use rfl hE.castS) hce hcv hcl ?_
  have hP : va_P (dC, dI) vwCl [] H := kt_nilP
  have hD : va_D A [] := kt_nilD
  refine W.widen (k := 1) (n := 6) (by omega) (by omega) ?_
  refine lv_astore_n (lv' := [(2, .ref q9), (0, .ref tp), (1, .ref out)]) hx hb dL_weakest_11 rfl hl (by decide) rfl (fun ls hl => ?_)
  refine lv_iconst (v := nI 1) hx hb dL_weakest_12 (by decide) ?_
  refine W.widen (k := 1) (n := 6) (by omega) (by omega) ?_
  exact kt_iretS (wN := fun (_ : Unit) => ([] : va_W)) () hx hb hr hS hP hK hD (by decide) hlocks dL_weakest_13

set_option maxHeartbeats 4000000 in
set_option maxRecDepth 100000 in
theorem h_spot (l : Launch) (hlt : l.stackTraces = false) (dC : Nat → ClassId) (dI : Nat → Nat → Nat) (cI cII cJ cJJ : ClassId) (tp : Nat) (f : Nat → Nat) (er tr kr : Nat → Nat) (out : Nat)  (sz : Nat)  : Met l yL_spot wsL_spot ({ frames := 1, cells := 0, slots := 0, locals := 20 }) (va_Pc [.ref tp, .ref out] (PREH (dC, dI) (tyL cI cII cJ cJJ) (wF tp f er tr kr cI cII cJ cJJ ++ wO cJ out oZ) sz)) (va_Qi (fun (r' : Int32) (_ : Unit) => r' = nI 0) (fun (_ : Unit) tS => ATW (dC, dI) (tyL cI cII cJ cJJ) (va_A (wF tp f er tr kr cI cII cJ cJJ ++ wO cJ out oZ) sz) (wO cJ out (vp_updL oZ 0 (Int32.toInt64 (nI 0)))) tS) (va_A (wF tp f er tr kr cI cII cJ cJJ ++ wO cJ out oZ) sz)) 0 0 (va_A (wF tp f er tr kr cI cII cJ cJJ ++ wO cJ out oZ) sz) := by
  refine kt_ofWH (cc := cL_spot) (maxL := 3) (ret := some .int) (by decide) rfl ?_
  intro p e s m args below meth c s₁ B hml hv
  obtain ⟨rfl, ⟨⟨hsz, hP, hK, hD0⟩, hE⟩, hnc⟩ := hv
  have hx := B.exec
  have hb := B.bytes
  have hr := B.returns
  have hlocks := B.notSynchronized
  have hts := atoms_spec (ws := wsL_spot) B.pre
  have hown : s.vm.findClass RL = some m.cls := findClass_of_methodNamed B.named
  have htab := vx_table (x := yL_spot) B (hts _ List.mem_cons_self)
  subst hsz
  have hD := hD0.self (sz := s.heap.size)
  generalize hAe : va_A (wF tp f er tr kr cI cII cJ cJJ ++ wO cJ out oZ) s.heap.size = A at hD hE ⊢
  have hA : ∀ q : Nat, s.heap.size ≤ q → A q := fun q h => by rw [← hAe]; exact Or.inr h
  have hS : va_S A s.heap s.heap [] := va_S.rf
  have hl := lv_entry ([.ref tp, .ref out]) (n := 3) (Nat.le_of_ble_eq_true rfl)
  rw [lg_entry_eq]
  generalize (lg_sl ([.ref tp, .ref out]) ++ List.replicate (3 - (lg_sl ([.ref tp, .ref out])).length) Slot.unset).toArray = ls at hl ⊢
  have hl : lv_has ls 3 [(0, .ref tp), (1, .ref out)] := hl
  refine lv_aload_n hx hb dL_spot_0 rfl (lv_at hl 1 rfl) ?_
  refine lv_iconst (v := nI 0) hx hb dL_spot_1 (by decide) ?_
  refine lv_aload_n hx hb dL_spot_2 rfl (lv_at hl 0 rfl) ?_
  refine kt_newI (wC := wF tp f er tr kr cI cII cJ cJJ) (wR9 := wO cJ out oZ) (wN := fun (_ : Unit) => wTop tp (f 0) (f 1) (f 2) (fun _ => 0) (fun _ => 0) (f 3) (f 4) (f 5) (fun _ => 0) (fun _ => 0) (f 6) (f 7) (f 8) (fun _ => 0) (fun _ => 0) (f 9) (f 10) (f 11) (fun _ => 0) (fun _ => 0) (f 12) kr (fun _ _ => 0) 0 0 0 (f 13) (f 14) (fun _ => 0) 0 (f 15) (f 16) (fun _ => 0) (f 17) (f 18) (f 19) (fun _ => 0) (fun _ => 0) (f 20) (f 21) (f 22) (fun _ => 0) (fun _ => 0) cJ cJJ cI cII (f 23) (f 24) (f 25) (f 26) er (0 + 1) (fun _ _ => 0) (fun _ => 0) tr (fun _ _ => 0)) (va_runV (As := []) (rest := [.int (nI 0), .ref out]) ⟨hx, hb, hml, hown, hts⟩ (c_X4_spot l dC dI cI cII cJ cJJ tp (f 0) (f 1) (f 2) (fun _ => 0) (fun _ => 0) (f 3) (f 4) (f 5) (fun _ => 0) (fun _ => 0) (f 6) (f 7) (f 8) (fun _ => 0) (fun _ => 0) (f 9) (f 10) (f 11) (fun _ => 0) (fun _ => 0) (f 12) kr (fun _ _ => 0) 0 0 0 (f 13) (f 14) (fun _ => 0) 0 (f 15) (f 16) (fun _ => 0) (f 17) (f 18) (f 19) (fun _ => 0) (fun _ => 0) (f 20) (f 21) (f 22) (fun _ => 0) (fun _ => 0) (f 23) (f 24) (f 25) (f 26) er 0 (fun _ _ => 0) (fun _ => 0) tr (fun _ _ => 0) _ (by omega)) (cwV 0 hts gL_spot_X4_spot rfl rfl rfl (by decide +kernel) ⟨Nat.le_of_ble_eq_true rfl, Nat.le_of_ble_eq_true rfl⟩) (kt_preV (q0 := 0) (ci := kX4) hK hP hD (List.range' 0 45) rfl rfl rfl rfl rfl) rfl rfl hl.1 rfl (lv_room (Nat.le_of_ble_eq_true rfl)) dL_spot_3 ⟨Nat.le_of_ble_eq_true rfl, Nat.le_of_ble_eq_true rfl⟩) hP hD hS hA (List.range' 0 45) [45] rfl rfl rfl (by decide) (fun u H locs hP hD hS => ?_)
  have hP := kt_sub (wC := wO cJ out oZ) hP [0] rfl
  have hD := hD.sub (ws' := wO cJ out oZ) [0] rfl rfl
  have hP : va_P (dC, dI) vwCl (wO cJ out oZ) H := hP
  have hD : va_D A (wO cJ out oZ) := hD
  refine lv_i2l (v := Int32.toInt64 (nI 0)) hx hb dL_spot_6 rfl ?_
  refine kt_last hx hb hK hP hD hS 0 2 rfl rfl (by omega) (by decide) dL_spot_7 (fun H locs hP hD hS => ?_)
  have hP : va_P (dC, dI) vwCl (wO cJ out (vp_updL oZ 0 (Int32.toInt64 (nI 0)))) H := hP
  have hD : va_D A (wO cJ out (vp_updL oZ 0 (Int32.toInt64 (nI 0)))) := hD
  refine lv_goto (tgt := 14) hx hb dL_spot_8 (by decide) ?_
  refine lv_iconst (v := nI 0) hx hb dL_spot_14 (by decide) ?_
  refine W.widen (k := 0) (n := 0) (by omega) (by omega) ?_
  exact kt_iretS (wN := fun (_ : Unit) => wO cJ out (vp_updL oZ 0 (Int32.toInt64 (nI 0)))) () hx hb hr hS hP hK hD (by decide) hlocks dL_spot_15

set_option maxHeartbeats 4000000 in
set_option maxRecDepth 100000 in
theorem h_keep (l : Launch) (hlt : l.stackTraces = false) (dC : Nat → ClassId) (dI : Nat → Nat → Nat) (cI cII cJ cJJ : ClassId) (tp : Nat) (f : Nat → Nat) (er tr kr : Nat → Nat) (out : Nat)  (sz : Nat)  : Met l yL_keep wsL_keep ({ frames := 2, cells := 0, slots := 0, locals := 38 }) (va_Pc [.ref tp, .ref out] (PREH (dC, dI) (tyL cI cII cJ cJJ) (wF tp f er tr kr cI cII cJ cJJ ++ wO cJ out oZ) sz)) (va_Qi (fun (r' : Int32) (_ : Unit) => r' = nI 0) (fun (_ : Unit) tS => ATW (dC, dI) (tyL cI cII cJ cJJ) (va_A (wF tp f er tr kr cI cII cJ cJJ ++ wO cJ out oZ) sz) (wO cJ out (vp_updL oZ 0 (Int32.toInt64 (nI 0)))) tS) (va_A (wF tp f er tr kr cI cII cJ cJJ ++ wO cJ out oZ) sz)) 0 0 (va_A (wF tp f er tr kr cI cII cJ cJJ ++ wO cJ out oZ) sz) := by
  refine kt_ofWH (cc := cL_keep) (maxL := 3) (ret := some .int) (by decide) rfl ?_
  intro p e s m args below meth c s₁ B hml hv
  obtain ⟨rfl, ⟨⟨hsz, hP, hK, hD0⟩, hE⟩, hnc⟩ := hv
  have hx := B.exec
  have hb := B.bytes
  have hr := B.returns
  have hlocks := B.notSynchronized
  have hts := atoms_spec (ws := wsL_keep) B.pre
  have hown : s.vm.findClass RL = some m.cls := findClass_of_methodNamed B.named
  have htab := vx_table (x := yL_keep) B (hts _ List.mem_cons_self)
  subst hsz
  have hD := hD0.self (sz := s.heap.size)
  generalize hAe : va_A (wF tp f er tr kr cI cII cJ cJJ ++ wO cJ out oZ) s.heap.size = A at hD hE ⊢
  have hA : ∀ q : Nat, s.heap.size ≤ q → A q := fun q h => by rw [← hAe]; exact Or.inr h
  have hS : va_S A s.heap s.heap [] := va_S.rf
  have hl := lv_entry ([.ref tp, .ref out]) (n := 3) (Nat.le_of_ble_eq_true rfl)
  rw [lg_entry_eq]
  generalize (lg_sl ([.ref tp, .ref out]) ++ List.replicate (3 - (lg_sl ([.ref tp, .ref out])).length) Slot.unset).toArray = ls at hl ⊢
  have hl : lv_has ls 3 [(0, .ref tp), (1, .ref out)] := hl
  refine lv_aload_n hx hb dL_keep_0 rfl (lv_at hl 1 rfl) ?_
  refine lv_iconst (v := nI 0) hx hb dL_keep_1 (by decide) ?_
  refine lv_aload_n hx hb dL_keep_2 rfl (lv_at hl 0 rfl) ?_
  refine kt_newI (wC := wF tp f er tr kr cI cII cJ cJJ) (wR9 := wO cJ out oZ) (wN := fun (_ : Unit) => wTop tp (f 0) (f 1) (f 2) (fun _ => 0) (fun _ => 0) (f 3) (f 4) (f 5) (fun _ => 0) (fun _ => 0) (f 6) (f 7) (f 8) (fun _ => 0) (fun _ => 0) (f 9) (f 10) (f 11) (fun _ => 0) (fun _ => 0) (f 12) kr (updR (fun _ _ => 0) 0 (fun _ => 0)) (0 + 1) 0 0 (f 13) (f 14) (fun _ => 0) 0 (f 15) (f 16) (fun _ => 0) (f 17) (f 18) (f 19) (fun _ => 0) (fun _ => 0) (f 20) (f 21) (f 22) (fun _ => 0) (fun _ => 0) cJ cJJ cI cII (f 23) (f 24) (f 25) (f 26) er 0 (fun _ _ => 0) (fun _ => 0) tr (fun _ _ => 0)) (va_runV (As := []) (rest := [.int (nI 0), .ref out]) ⟨hx, hb, hml, hown, hts⟩ (c_X4_keep l dC dI cI cII cJ cJJ tp (f 0) (f 1) (f 2) (fun _ => 0) (fun _ => 0) (f 3) (f 4) (f 5) (fun _ => 0) (fun _ => 0) (f 6) (f 7) (f 8) (fun _ => 0) (fun _ => 0) (f 9) (f 10) (f 11) (fun _ => 0) (fun _ => 0) (f 12) kr (fun _ _ => 0) 0 0 0 (f 13) (f 14) (fun _ => 0) 0 (f 15) (f 16) (fun _ => 0) (f 17) (f 18) (f 19) (fun _ => 0) (fun _ => 0) (f 20) (f 21) (f 22) (fun _ => 0) (fun _ => 0) (f 23) (f 24) (f 25) (f 26) er 0 (fun _ _ => 0) (fun _ => 0) tr (fun _ _ => 0) _ (by omega)) (cwV 0 hts gL_keep_X4_keep rfl rfl rfl (by decide +kernel) ⟨Nat.le_of_ble_eq_true rfl, Nat.le_of_ble_eq_true rfl⟩) (kt_preV (q0 := 0) (ci := kX4) hK hP hD (List.range' 0 45) rfl rfl rfl rfl rfl) rfl rfl hl.1 rfl (lv_room (Nat.le_of_ble_eq_true rfl)) dL_keep_3 ⟨Nat.le_of_ble_eq_true rfl, Nat.le_of_ble_eq_true rfl⟩) hP hD hS hA (List.range' 0 45) [45] rfl rfl rfl (by decide) (fun u H locs hP hD hS => ?_)
  have hP := kt_sub (wC := wO cJ out oZ) hP [0] rfl
  have hD := hD.sub (ws' := wO cJ out oZ) [0] rfl rfl
  have hP : va_P (dC, dI) vwCl (wO cJ out oZ) H := hP
  have hD : va_D A (wO cJ out oZ) := hD
  refine lv_i2l (v := Int32.toInt64 (nI 0)) hx hb dL_keep_6 rfl ?_
  refine kt_last hx hb hK hP hD hS 0 2 rfl rfl (by omega) (by decide) dL_keep_7 (fun H locs hP hD hS => ?_)
  have hP : va_P (dC, dI) vwCl (wO cJ out (vp_updL oZ 0 (Int32.toInt64 (nI 0)))) H := hP
  have hD : va_D A (wO cJ out (vp_updL oZ 0 (Int32.toInt64 (nI 0)))) := hD
  refine lv_goto (tgt := 14) hx hb dL_keep_8 (by decide) ?_
  refine lv_iconst (v := nI 0) hx hb dL_keep_14 (by decide) ?_
  refine W.widen (k := 0) (n := 0) (by omega) (by omega) ?_
  exact kt_iretS (wN := fun (_ : Unit) => wO cJ out (vp_updL oZ 0 (Int32.toInt64 (nI 0)))) () hx hb hr hS hP hK hD (by decide) hlocks dL_keep_15

set_option maxHeartbeats 4000000 in
set_option maxRecDepth 100000 in
theorem h_pay (l : Launch) (hlt : l.stackTraces = false) (dC : Nat → ClassId) (dI : Nat → Nat → Nat) (cI cII cJ cJJ : ClassId) (tp : Nat) (f : Nat → Nat) (er tr kr : Nat → Nat) (out : Nat) (q : Int32) (sz : Nat) (h1 : ¬ q < -9) (h2 : q ≤ 9) : Met l yL_pay wsL_pay ({ frames := 4, cells := 0, slots := 0, locals := 85 }) (va_Pc [.ref tp, .int (nI 6), .int q, .ref out] (PREH (dC, dI) (tyL cI cII cJ cJJ) (wF tp f er tr kr cI cII cJ cJJ ++ wO cJ out oZ) sz)) (va_Qi (fun (r' : Int32) (_ : Unit) => r' = nI 0) (fun (_ : Unit) tS => ATW (dC, dI) (tyL cI cII cJ cJJ) (va_A (wF tp f er tr kr cI cII cJ cJJ ++ wO cJ out oZ) sz) (wO cJ out (vp_updL oZ 0 (Int32.toInt64 ((fun _ => 0) 6 + q)))) tS) (va_A (wF tp f er tr kr cI cII cJ cJJ ++ wO cJ out oZ) sz)) 0 0 (va_A (wF tp f er tr kr cI cII cJ cJJ ++ wO cJ out oZ) sz) := by
  refine kt_ofWH (cc := cL_pay) (maxL := 5) (ret := some .int) (by decide) rfl ?_
  intro p e s m args below meth c s₁ B hml hv
  obtain ⟨rfl, ⟨⟨hsz, hP, hK, hD0⟩, hE⟩, hnc⟩ := hv
  have hx := B.exec
  have hb := B.bytes
  have hr := B.returns
  have hlocks := B.notSynchronized
  have hts := atoms_spec (ws := wsL_pay) B.pre
  have hown : s.vm.findClass RL = some m.cls := findClass_of_methodNamed B.named
  have htab := vx_table (x := yL_pay) B (hts _ List.mem_cons_self)
  subst hsz
  have hD := hD0.self (sz := s.heap.size)
  generalize hAe : va_A (wF tp f er tr kr cI cII cJ cJJ ++ wO cJ out oZ) s.heap.size = A at hD hE ⊢
  have hA : ∀ q : Nat, s.heap.size ≤ q → A q := fun q h => by rw [← hAe]; exact Or.inr h
  have hS : va_S A s.heap s.heap [] := va_S.rf
  have hl := lv_entry ([.ref tp, .int (nI 6), .int q, .ref out]) (n := 5) (Nat.le_of_ble_eq_true rfl)
  rw [lg_entry_eq]
  generalize (lg_sl ([.ref tp, .int (nI 6), .int q, .ref out]) ++ List.replicate (5 - (lg_sl ([.ref tp, .int (nI 6), .int q, .ref out])).length) Slot.unset).toArray = ls at hl ⊢
  have hl : lv_has ls 5 [(0, .ref tp), (1, .int (nI 6)), (2, .int q), (3, .ref out)] := hl
  refine lv_aload_n hx hb dL_pay_0 rfl (lv_at hl 3 rfl) ?_
  refine lv_iconst (v := nI 0) hx hb dL_pay_1 (by decide) ?_
  refine lv_aload_n hx hb dL_pay_2 rfl (lv_at hl 0 rfl) ?_
  refine lv_iload_n hx hb dL_pay_3 rfl (lv_at hl 1 rfl) ?_
  refine lv_iload_n hx hb dL_pay_4 rfl (lv_at hl 2 rfl) ?_
  refine kt_newI (wC := wF tp f er tr kr cI cII cJ cJJ) (wR9 := wO cJ out oZ) (wN := fun (_ : Unit) => wTop tp (f 0) (f 1) (f 2) (fun _ => 0) (fun _ => 0) (f 3) (f 4) (f 5) (fun _ => 0) (fun _ => 0) (f 6) (f 7) (f 8) (fun _ => 0) (fun _ => 0) (f 9) (f 10) (f 11) (fun _ => 0) (fun _ => 0) (f 12) kr (fun _ _ => 0) 0 0 0 (f 13) (f 14) (fun _ => 0) 0 (f 15) (f 16) (upd (fun _ => 0) 6 ((fun _ => 0) 6 + q)) (f 17) (f 18) (f 19) (fun _ => 0) (fun _ => 0) (f 20) (f 21) (f 22) (fun _ => 0) (fun _ => 0) cJ cJJ cI cII (f 23) (f 24) (f 25) (f 26) er 0 (fun _ _ => 0) (fun _ => 0) tr (fun _ _ => 0)) (va_runV (As := [.int (nI 6), .int q]) (rest := [.int (nI 0), .ref out]) ⟨hx, hb, hml, hown, hts⟩ (c_X4_pay l dC dI cI cII cJ cJJ tp (f 0) (f 1) (f 2) (fun _ => 0) (fun _ => 0) (f 3) (f 4) (f 5) (fun _ => 0) (fun _ => 0) (f 6) (f 7) (f 8) (fun _ => 0) (fun _ => 0) (f 9) (f 10) (f 11) (fun _ => 0) (fun _ => 0) (f 12) kr (fun _ _ => 0) 0 0 0 (f 13) (f 14) (fun _ => 0) 0 (f 15) (f 16) (fun _ => 0) (f 17) (f 18) (f 19) (fun _ => 0) (fun _ => 0) (f 20) (f 21) (f 22) (fun _ => 0) (fun _ => 0) (f 23) (f 24) (f 25) (f 26) er 0 (fun _ _ => 0) (fun _ => 0) tr (fun _ _ => 0) 6 q _ (by decide) (Or.inr rfl) (h1) (h2)) (cwV 2 hts gL_pay_X4_pay rfl rfl rfl (by decide +kernel) ⟨Nat.le_of_ble_eq_true rfl, Nat.le_of_ble_eq_true rfl⟩) (kt_preV (q0 := 0) (ci := kX4) hK hP hD (List.range' 0 45) rfl rfl rfl rfl rfl) rfl rfl hl.1 rfl (lv_room (Nat.le_of_ble_eq_true rfl)) dL_pay_5 ⟨Nat.le_of_ble_eq_true rfl, Nat.le_of_ble_eq_true rfl⟩) hP hD hS hA (List.range' 0 45) [45] rfl rfl rfl (by decide) (fun u H locs hP hD hS => ?_)
  have hP := kt_sub (wC := wO cJ out oZ) hP [0] rfl
  have hD := hD.sub (ws' := wO cJ out oZ) [0] rfl rfl
  have hP : va_P (dC, dI) vwCl (wO cJ out oZ) H := hP
  have hD : va_D A (wO cJ out oZ) := hD
  refine lv_i2l (v := Int32.toInt64 ((fun _ => 0) 6 + q)) hx hb dL_pay_8 rfl ?_
  refine kt_last hx hb hK hP hD hS 0 2 rfl rfl (by omega) (by decide) dL_pay_9 (fun H locs hP hD hS => ?_)
  have hP : va_P (dC, dI) vwCl (wO cJ out (vp_updL oZ 0 (Int32.toInt64 ((fun _ => 0) 6 + q)))) H := hP
  have hD : va_D A (wO cJ out (vp_updL oZ 0 (Int32.toInt64 ((fun _ => 0) 6 + q)))) := hD
  refine lv_goto (tgt := 21) hx hb dL_pay_10 (by decide) ?_
  refine lv_iconst (v := nI 0) hx hb dL_pay_21 (by decide) ?_
  refine W.widen (k := 0) (n := 0) (by omega) (by omega) ?_
  exact kt_iretS (wN := fun (_ : Unit) => wO cJ out (vp_updL oZ 0 (Int32.toInt64 ((fun _ => 0) 6 + q)))) () hx hb hr hS hP hK hD (by decide) hlocks dL_pay_22

set_option maxHeartbeats 4000000 in
set_option maxRecDepth 100000 in
theorem h_lend (l : Launch) (hlt : l.stackTraces = false) (dC : Nat → ClassId) (dI : Nat → Nat → Nat) (cI cII cJ cJJ : ClassId) (tp : Nat) (f : Nat → Nat) (er tr kr : Nat → Nat) (out : Nat) (q : Int32) (sz : Nat)  : Met l yL_lend wsL_lend ({ frames := 4, cells := 0, slots := 0, locals := 85 }) (va_Pc [.ref tp, .int (nI 6), .int q, .ref out] (PREH (dC, dI) (tyL cI cII cJ cJJ) (wF tp f er tr kr cI cII cJ cJJ ++ wO cJ out oZ) sz)) (va_Qi (fun (r' : Int32) (_ : Unit) => r' = nI 0) (fun (_ : Unit) tS => ATW (dC, dI) (tyL cI cII cJ cJJ) (va_A (wF tp f er tr kr cI cII cJ cJJ ++ wO cJ out oZ) sz) (wO cJ out (vp_updL oZ 0 (Int32.toInt64 (giveC (fun _ _ => 0) (fun _ => 0) 6 (if q = 0 then 1 else -1) (fun _ => 0) 6)))) tS) (va_A (wF tp f er tr kr cI cII cJ cJJ ++ wO cJ out oZ) sz)) 0 0 (va_A (wF tp f er tr kr cI cII cJ cJJ ++ wO cJ out oZ) sz) := by
  refine kt_ofWH (cc := cL_lend) (maxL := 5) (ret := some .int) (by decide) rfl ?_
  intro p e s m args below meth c s₁ B hml hv
  obtain ⟨rfl, ⟨⟨hsz, hP, hK, hD0⟩, hE⟩, hnc⟩ := hv
  have hx := B.exec
  have hb := B.bytes
  have hr := B.returns
  have hlocks := B.notSynchronized
  have hts := atoms_spec (ws := wsL_lend) B.pre
  have hown : s.vm.findClass RL = some m.cls := findClass_of_methodNamed B.named
  have htab := vx_table (x := yL_lend) B (hts _ List.mem_cons_self)
  subst hsz
  have hD := hD0.self (sz := s.heap.size)
  generalize hAe : va_A (wF tp f er tr kr cI cII cJ cJJ ++ wO cJ out oZ) s.heap.size = A at hD hE ⊢
  have hA : ∀ q : Nat, s.heap.size ≤ q → A q := fun q h => by rw [← hAe]; exact Or.inr h
  have hS : va_S A s.heap s.heap [] := va_S.rf
  have hl := lv_entry ([.ref tp, .int (nI 6), .int q, .ref out]) (n := 5) (Nat.le_of_ble_eq_true rfl)
  rw [lg_entry_eq]
  generalize (lg_sl ([.ref tp, .int (nI 6), .int q, .ref out]) ++ List.replicate (5 - (lg_sl ([.ref tp, .int (nI 6), .int q, .ref out])).length) Slot.unset).toArray = ls at hl ⊢
  have hl : lv_has ls 5 [(0, .ref tp), (1, .int (nI 6)), (2, .int q), (3, .ref out)] := hl
  refine lv_aload_n hx hb dL_lend_0 rfl (lv_at hl 3 rfl) ?_
  refine lv_iconst (v := nI 0) hx hb dL_lend_1 (by decide) ?_
  refine lv_aload_n hx hb dL_lend_2 rfl (lv_at hl 0 rfl) ?_
  refine lv_iload_n hx hb dL_lend_3 rfl (lv_at hl 1 rfl) ?_
  refine lv_iload_n hx hb dL_lend_4 rfl (lv_at hl 2 rfl) ?_
  refine kt_newI (wC := wF tp f er tr kr cI cII cJ cJJ) (wR9 := wO cJ out oZ) (wN := fun (_ : Unit) => wTop tp (f 0) (f 1) (f 2) (fun _ => 0) (fun _ => 0) (f 3) (f 4) (f 5) (fun _ => 0) (fun _ => 0) (f 6) (f 7) (f 8) (fun _ => 0) (fun _ => 0) (f 9) (f 10) (f 11) (fun _ => 0) (fun _ => 0) (f 12) kr (fun _ _ => 0) 0 0 0 (f 13) (f 14) (fun _ => 0) 0 (f 15) (f 16) (giveC (fun _ _ => 0) (fun _ => 0) 6 (if q = 0 then 1 else -1) (fun _ => 0)) (f 17) (f 18) (f 19) (fun _ => 0) (fun _ => 0) (f 20) (f 21) (f 22) (fun _ => 0) (fun _ => 0) cJ cJJ cI cII (f 23) (f 24) (f 25) (f 26) er 0 (fun _ _ => 0) (fun _ => 0) tr (fun _ _ => 0)) (va_runV (As := [.int (nI 6), .int q]) (rest := [.int (nI 0), .ref out]) ⟨hx, hb, hml, hown, hts⟩ (c_X4_lend l dC dI cI cII cJ cJJ tp (f 0) (f 1) (f 2) (fun _ => 0) (fun _ => 0) (f 3) (f 4) (f 5) (fun _ => 0) (fun _ => 0) (f 6) (f 7) (f 8) (fun _ => 0) (fun _ => 0) (f 9) (f 10) (f 11) (fun _ => 0) (fun _ => 0) (f 12) kr (fun _ _ => 0) 0 0 0 (f 13) (f 14) (fun _ => 0) 0 (f 15) (f 16) (fun _ => 0) (f 17) (f 18) (f 19) (fun _ => 0) (fun _ => 0) (f 20) (f 21) (f 22) (fun _ => 0) (fun _ => 0) (f 23) (f 24) (f 25) (f 26) er 0 (fun _ _ => 0) (fun _ => 0) tr (fun _ _ => 0) 6 q _ (by decide) (Or.inr rfl)) (cwV 2 hts gL_lend_X4_lend rfl rfl rfl (by decide +kernel) ⟨Nat.le_of_ble_eq_true rfl, Nat.le_of_ble_eq_true rfl⟩) (kt_preV (q0 := 0) (ci := kX4) hK hP hD (List.range' 0 45) rfl rfl rfl rfl rfl) rfl rfl hl.1 rfl (lv_room (Nat.le_of_ble_eq_true rfl)) dL_lend_5 ⟨Nat.le_of_ble_eq_true rfl, Nat.le_of_ble_eq_true rfl⟩) hP hD hS hA (List.range' 0 45) [45] rfl rfl rfl (by decide) (fun u H locs hP hD hS => ?_)
  have hP := kt_sub (wC := wO cJ out oZ) hP [0] rfl
  have hD := hD.sub (ws' := wO cJ out oZ) [0] rfl rfl
  have hP : va_P (dC, dI) vwCl (wO cJ out oZ) H := hP
  have hD : va_D A (wO cJ out oZ) := hD
  refine lv_i2l (v := Int32.toInt64 (giveC (fun _ _ => 0) (fun _ => 0) 6 (if q = 0 then 1 else -1) (fun _ => 0) 6)) hx hb dL_lend_8 rfl ?_
  refine kt_last hx hb hK hP hD hS 0 2 rfl rfl (by omega) (by decide) dL_lend_9 (fun H locs hP hD hS => ?_)
  have hP : va_P (dC, dI) vwCl (wO cJ out (vp_updL oZ 0 (Int32.toInt64 (giveC (fun _ _ => 0) (fun _ => 0) 6 (if q = 0 then 1 else -1) (fun _ => 0) 6)))) H := hP
  have hD : va_D A (wO cJ out (vp_updL oZ 0 (Int32.toInt64 (giveC (fun _ _ => 0) (fun _ => 0) 6 (if q = 0 then 1 else -1) (fun _ => 0) 6)))) := hD
  refine lv_goto (tgt := 17) hx hb dL_lend_10 (by decide) ?_
  refine lv_iconst (v := nI 0) hx hb dL_lend_17 (by decide) ?_
  refine W.widen (k := 0) (n := 0) (by omega) (by omega) ?_
  exact kt_iretS (wN := fun (_ : Unit) => wO cJ out (vp_updL oZ 0 (Int32.toInt64 (giveC (fun _ _ => 0) (fun _ => 0) 6 (if q = 0 then 1 else -1) (fun _ => 0) 6)))) () hx hb hr hS hP hK hD (by decide) hlocks dL_lend_18

set_option maxHeartbeats 4000000 in
set_option maxRecDepth 100000 in
theorem h_between (l : Launch) (hlt : l.stackTraces = false) (dC : Nat → ClassId) (dI : Nat → Nat → Nat) (cI cII cJ cJJ : ClassId) (tp : Nat) (f : Nat → Nat) (er tr kr : Nat → Nat) (out : Nat)  (sz : Nat)  : Met l yL_between wsL_between ({ frames := 4, cells := 0, slots := 0, locals := 85 }) (va_Pc [.ref tp, .int (nI 6), .int (nI 6), .ref out] (PREH (dC, dI) (tyL cI cII cJ cJJ) (wF tp f er tr kr cI cII cJ cJJ ++ wO cJ out oZ) sz)) (va_Qi (fun (r' : Int32) (_ : Unit) => r' = nI 0) (fun (_ : Unit) tS => ATW (dC, dI) (tyL cI cII cJ cJJ) (va_A (wF tp f er tr kr cI cII cJ cJJ ++ wO cJ out oZ) sz) (wO cJ out (vp_updL oZ 0 (Int32.toInt64 ((fun _ _ => 0) 6 6)))) tS) (va_A (wF tp f er tr kr cI cII cJ cJJ ++ wO cJ out oZ) sz)) 0 0 (va_A (wF tp f er tr kr cI cII cJ cJJ ++ wO cJ out oZ) sz) := by
  refine kt_ofWH (cc := cL_between) (maxL := 5) (ret := some .int) (by decide) rfl ?_
  intro p e s m args below meth c s₁ B hml hv
  obtain ⟨rfl, ⟨⟨hsz, hP, hK, hD0⟩, hE⟩, hnc⟩ := hv
  have hx := B.exec
  have hb := B.bytes
  have hr := B.returns
  have hlocks := B.notSynchronized
  have hts := atoms_spec (ws := wsL_between) B.pre
  have hown : s.vm.findClass RL = some m.cls := findClass_of_methodNamed B.named
  have htab := vx_table (x := yL_between) B (hts _ List.mem_cons_self)
  subst hsz
  have hD := hD0.self (sz := s.heap.size)
  generalize hAe : va_A (wF tp f er tr kr cI cII cJ cJJ ++ wO cJ out oZ) s.heap.size = A at hD hE ⊢
  have hA : ∀ q : Nat, s.heap.size ≤ q → A q := fun q h => by rw [← hAe]; exact Or.inr h
  have hS : va_S A s.heap s.heap [] := va_S.rf
  have hl := lv_entry ([.ref tp, .int (nI 6), .int (nI 6), .ref out]) (n := 5) (Nat.le_of_ble_eq_true rfl)
  rw [lg_entry_eq]
  generalize (lg_sl ([.ref tp, .int (nI 6), .int (nI 6), .ref out]) ++ List.replicate (5 - (lg_sl ([.ref tp, .int (nI 6), .int (nI 6), .ref out])).length) Slot.unset).toArray = ls at hl ⊢
  have hl : lv_has ls 5 [(0, .ref tp), (1, .int (nI 6)), (2, .int (nI 6)), (3, .ref out)] := hl
  refine lv_aload_n hx hb dL_between_0 rfl (lv_at hl 3 rfl) ?_
  refine lv_iconst (v := nI 0) hx hb dL_between_1 (by decide) ?_
  refine lv_aload_n hx hb dL_between_2 rfl (lv_at hl 0 rfl) ?_
  refine lv_iload_n hx hb dL_between_3 rfl (lv_at hl 1 rfl) ?_
  refine lv_iload_n hx hb dL_between_4 rfl (lv_at hl 2 rfl) ?_
  refine kt_newI (wC := wF tp f er tr kr cI cII cJ cJJ) (wR9 := wO cJ out oZ) (wN := fun (_ : Unit) => wTop tp (f 0) (f 1) (f 2) (fun _ => 0) (fun _ => 0) (f 3) (f 4) (f 5) (fun _ => 0) (fun _ => 0) (f 6) (f 7) (f 8) (fun _ => 0) (fun _ => 0) (f 9) (f 10) (f 11) (fun _ => 0) (fun _ => 0) (f 12) kr (fun _ _ => 0) 0 0 0 (f 13) (f 14) (fun _ => 0) 0 (f 15) (f 16) (fun _ => 0) (f 17) (f 18) (f 19) (fun _ => 0) (fun _ => 0) (f 20) (f 21) (f 22) (fun _ => 0) (fun _ => 0) cJ cJJ cI cII (f 23) (f 24) (f 25) (f 26) er 0 (fun _ _ => 0) (fun _ => 0) tr (fun _ _ => 0)) (va_runV (As := [.int (nI 6), .int (nI 6)]) (rest := [.int (nI 0), .ref out]) ⟨hx, hb, hml, hown, hts⟩ (c_X4_between l dC dI cI cII cJ cJJ tp (f 0) (f 1) (f 2) (fun _ => 0) (fun _ => 0) (f 3) (f 4) (f 5) (fun _ => 0) (fun _ => 0) (f 6) (f 7) (f 8) (fun _ => 0) (fun _ => 0) (f 9) (f 10) (f 11) (fun _ => 0) (fun _ => 0) (f 12) kr (fun _ _ => 0) 0 0 0 (f 13) (f 14) (fun _ => 0) 0 (f 15) (f 16) (fun _ => 0) (f 17) (f 18) (f 19) (fun _ => 0) (fun _ => 0) (f 20) (f 21) (f 22) (fun _ => 0) (fun _ => 0) (f 23) (f 24) (f 25) (f 26) er 0 (fun _ _ => 0) (fun _ => 0) tr (fun _ _ => 0) 6 6 _ (by decide) (Or.inr rfl) (Or.inr rfl)) (cwV 2 hts gL_between_X4_between rfl rfl rfl (by decide +kernel) ⟨Nat.le_of_ble_eq_true rfl, Nat.le_of_ble_eq_true rfl⟩) (kt_preV (q0 := 0) (ci := kX4) hK hP hD (List.range' 0 45) rfl rfl rfl rfl rfl) rfl rfl hl.1 rfl (lv_room (Nat.le_of_ble_eq_true rfl)) dL_between_5 ⟨Nat.le_of_ble_eq_true rfl, Nat.le_of_ble_eq_true rfl⟩) hP hD hS hA (List.range' 0 45) [45] rfl rfl rfl (by decide) (fun u H locs hP hD hS => ?_)
  have hP := kt_sub (wC := wO cJ out oZ) hP [0] rfl
  have hD := hD.sub (ws' := wO cJ out oZ) [0] rfl rfl
  have hP : va_P (dC, dI) vwCl (wO cJ out oZ) H := hP
  have hD : va_D A (wO cJ out oZ) := hD
  refine lv_i2l (v := Int32.toInt64 ((fun _ _ => 0) 6 6)) hx hb dL_between_8 rfl ?_
  refine kt_last hx hb hK hP hD hS 0 2 rfl rfl (by omega) (by decide) dL_between_9 (fun H locs hP hD hS => ?_)
  have hP : va_P (dC, dI) vwCl (wO cJ out (vp_updL oZ 0 (Int32.toInt64 ((fun _ _ => 0) 6 6)))) H := hP
  have hD : va_D A (wO cJ out (vp_updL oZ 0 (Int32.toInt64 ((fun _ _ => 0) 6 6)))) := hD
  refine lv_goto (tgt := 17) hx hb dL_between_10 (by decide) ?_
  refine lv_iconst (v := nI 0) hx hb dL_between_17 (by decide) ?_
  refine W.widen (k := 0) (n := 0) (by omega) (by omega) ?_
  exact kt_iretS (wN := fun (_ : Unit) => wO cJ out (vp_updL oZ 0 (Int32.toInt64 ((fun _ _ => 0) 6 6)))) () hx hb hr hS hP hK hD (by decide) hlocks dL_between_18

set_option maxHeartbeats 4000000 in
set_option maxRecDepth 100000 in
theorem h_coins (l : Launch) (hlt : l.stackTraces = false) (dC : Nat → ClassId) (dI : Nat → Nat → Nat) (cI cII cJ cJJ : ClassId) (tp : Nat) (f : Nat → Nat) (er tr kr : Nat → Nat) (out : Nat)  (sz : Nat)  : Met l yL_coins wsL_coins ({ frames := 4, cells := 0, slots := 0, locals := 84 }) (va_Pc [.ref tp, .int (nI 6), .ref out] (PREH (dC, dI) (tyL cI cII cJ cJJ) (wF tp f er tr kr cI cII cJ cJJ ++ wO cJ out oZ) sz)) (va_Qi (fun (r' : Int32) (_ : Unit) => r' = nI 0) (fun (_ : Unit) tS => ATW (dC, dI) (tyL cI cII cJ cJJ) (va_A (wF tp f er tr kr cI cII cJ cJJ ++ wO cJ out oZ) sz) (wO cJ out (vp_updL oZ 0 (Int32.toInt64 ((fun _ => 0) 6)))) tS) (va_A (wF tp f er tr kr cI cII cJ cJJ ++ wO cJ out oZ) sz)) 0 0 (va_A (wF tp f er tr kr cI cII cJ cJJ ++ wO cJ out oZ) sz) := by
  refine kt_ofWH (cc := cL_coins) (maxL := 4) (ret := some .int) (by decide) rfl ?_
  intro p e s m args below meth c s₁ B hml hv
  obtain ⟨rfl, ⟨⟨hsz, hP, hK, hD0⟩, hE⟩, hnc⟩ := hv
  have hx := B.exec
  have hb := B.bytes
  have hr := B.returns
  have hlocks := B.notSynchronized
  have hts := atoms_spec (ws := wsL_coins) B.pre
  have hown : s.vm.findClass RL = some m.cls := findClass_of_methodNamed B.named
  have htab := vx_table (x := yL_coins) B (hts _ List.mem_cons_self)
  subst hsz
  have hD := hD0.self (sz := s.heap.size)
  generalize hAe : va_A (wF tp f er tr kr cI cII cJ cJJ ++ wO cJ out oZ) s.heap.size = A at hD hE ⊢
  have hA : ∀ q : Nat, s.heap.size ≤ q → A q := fun q h => by rw [← hAe]; exact Or.inr h
  have hS : va_S A s.heap s.heap [] := va_S.rf
  have hl := lv_entry ([.ref tp, .int (nI 6), .ref out]) (n := 4) (Nat.le_of_ble_eq_true rfl)
  rw [lg_entry_eq]
  generalize (lg_sl ([.ref tp, .int (nI 6), .ref out]) ++ List.replicate (4 - (lg_sl ([.ref tp, .int (nI 6), .ref out])).length) Slot.unset).toArray = ls at hl ⊢
  have hl : lv_has ls 4 [(0, .ref tp), (1, .int (nI 6)), (2, .ref out)] := hl
  refine lv_aload_n hx hb dL_coins_0 rfl (lv_at hl 2 rfl) ?_
  refine lv_iconst (v := nI 0) hx hb dL_coins_1 (by decide) ?_
  refine lv_aload_n hx hb dL_coins_2 rfl (lv_at hl 0 rfl) ?_
  refine lv_iload_n hx hb dL_coins_3 rfl (lv_at hl 1 rfl) ?_
  refine kt_newI (wC := wF tp f er tr kr cI cII cJ cJJ) (wR9 := wO cJ out oZ) (wN := fun (_ : Unit) => wTop tp (f 0) (f 1) (f 2) (fun _ => 0) (fun _ => 0) (f 3) (f 4) (f 5) (fun _ => 0) (fun _ => 0) (f 6) (f 7) (f 8) (fun _ => 0) (fun _ => 0) (f 9) (f 10) (f 11) (fun _ => 0) (fun _ => 0) (f 12) kr (fun _ _ => 0) 0 0 0 (f 13) (f 14) (fun _ => 0) 0 (f 15) (f 16) (fun _ => 0) (f 17) (f 18) (f 19) (fun _ => 0) (fun _ => 0) (f 20) (f 21) (f 22) (fun _ => 0) (fun _ => 0) cJ cJJ cI cII (f 23) (f 24) (f 25) (f 26) er 0 (fun _ _ => 0) (fun _ => 0) tr (fun _ _ => 0)) (va_runV (As := [.int (nI 6)]) (rest := [.int (nI 0), .ref out]) ⟨hx, hb, hml, hown, hts⟩ (c_X4_coins l dC dI cI cII cJ cJJ tp (f 0) (f 1) (f 2) (fun _ => 0) (fun _ => 0) (f 3) (f 4) (f 5) (fun _ => 0) (fun _ => 0) (f 6) (f 7) (f 8) (fun _ => 0) (fun _ => 0) (f 9) (f 10) (f 11) (fun _ => 0) (fun _ => 0) (f 12) kr (fun _ _ => 0) 0 0 0 (f 13) (f 14) (fun _ => 0) 0 (f 15) (f 16) (fun _ => 0) (f 17) (f 18) (f 19) (fun _ => 0) (fun _ => 0) (f 20) (f 21) (f 22) (fun _ => 0) (fun _ => 0) (f 23) (f 24) (f 25) (f 26) er 0 (fun _ _ => 0) (fun _ => 0) tr (fun _ _ => 0) 6 _ (by decide) (Or.inr rfl)) (cwV 1 hts gL_coins_X4_coins rfl rfl rfl (by decide +kernel) ⟨Nat.le_of_ble_eq_true rfl, Nat.le_of_ble_eq_true rfl⟩) (kt_preV (q0 := 0) (ci := kX4) hK hP hD (List.range' 0 45) rfl rfl rfl rfl rfl) rfl rfl hl.1 rfl (lv_room (Nat.le_of_ble_eq_true rfl)) dL_coins_4 ⟨Nat.le_of_ble_eq_true rfl, Nat.le_of_ble_eq_true rfl⟩) hP hD hS hA (List.range' 0 45) [45] rfl rfl rfl (by decide) (fun u H locs hP hD hS => ?_)
  have hP := kt_sub (wC := wO cJ out oZ) hP [0] rfl
  have hD := hD.sub (ws' := wO cJ out oZ) [0] rfl rfl
  have hP : va_P (dC, dI) vwCl (wO cJ out oZ) H := hP
  have hD : va_D A (wO cJ out oZ) := hD
  refine lv_i2l (v := Int32.toInt64 ((fun _ => 0) 6)) hx hb dL_coins_7 rfl ?_
  refine kt_last hx hb hK hP hD hS 0 2 rfl rfl (by omega) (by decide) dL_coins_8 (fun H locs hP hD hS => ?_)
  have hP : va_P (dC, dI) vwCl (wO cJ out (vp_updL oZ 0 (Int32.toInt64 ((fun _ => 0) 6)))) H := hP
  have hD : va_D A (wO cJ out (vp_updL oZ 0 (Int32.toInt64 ((fun _ => 0) 6)))) := hD
  refine lv_goto (tgt := 15) hx hb dL_coins_9 (by decide) ?_
  refine lv_iconst (v := nI 0) hx hb dL_coins_15 (by decide) ?_
  refine W.widen (k := 0) (n := 0) (by omega) (by omega) ?_
  exact kt_iretS (wN := fun (_ : Unit) => wO cJ out (vp_updL oZ 0 (Int32.toInt64 ((fun _ => 0) 6)))) () hx hb hr hS hP hK hD (by decide) hlocks dL_coins_16

set_option maxHeartbeats 4000000 in
set_option maxRecDepth 100000 in
theorem h_many (l : Launch) (hlt : l.stackTraces = false) (dC : Nat → ClassId) (dI : Nat → Nat → Nat) (cI cII cJ cJJ : ClassId) (tp : Nat) (f : Nat → Nat) (er tr kr : Nat → Nat) (out : Nat) (w : Nat) (sz : Nat) (hw : w < 14) : Met l yL_many wsL_many ({ frames := 6, cells := 0, slots := 0, locals := 131 }) (va_Pc [.ref tp, .int (nI w), .ref out] (PREH (dC, dI) (tyL cI cII cJ cJJ) (wF tp f er tr kr cI cII cJ cJJ ++ wO cJ out oZ) sz)) (va_Qi (fun (r' : Int32) (_ : Unit) => r' = nI 0) (fun (_ : Unit) tS => ATW (dC, dI) (tyL cI cII cJ cJJ) (va_A (wF tp f er tr kr cI cII cJ cJJ ++ wO cJ out oZ) sz) (wO cJ out (vp_updL oZ 0 (Int32.toInt64 (manyF 0 (fun _ _ => 0) (fun _ => 0) (fun _ => 0) (fun _ => 0) (fun _ => 0) (fun _ => 0) 0 0 0 0 w)))) tS) (va_A (wF tp f er tr kr cI cII cJ cJJ ++ wO cJ out oZ) sz)) 0 0 (va_A (wF tp f er tr kr cI cII cJ cJJ ++ wO cJ out oZ) sz) := by
  refine kt_ofWH (cc := cL_many) (maxL := 4) (ret := some .int) (by decide) rfl ?_
  intro p e s m args below meth c s₁ B hml hv
  obtain ⟨rfl, ⟨⟨hsz, hP, hK, hD0⟩, hE⟩, hnc⟩ := hv
  have hx := B.exec
  have hb := B.bytes
  have hr := B.returns
  have hlocks := B.notSynchronized
  have hts := atoms_spec (ws := wsL_many) B.pre
  have hown : s.vm.findClass RL = some m.cls := findClass_of_methodNamed B.named
  have htab := vx_table (x := yL_many) B (hts _ List.mem_cons_self)
  subst hsz
  have hD := hD0.self (sz := s.heap.size)
  generalize hAe : va_A (wF tp f er tr kr cI cII cJ cJJ ++ wO cJ out oZ) s.heap.size = A at hD hE ⊢
  have hA : ∀ q : Nat, s.heap.size ≤ q → A q := fun q h => by rw [← hAe]; exact Or.inr h
  have hS : va_S A s.heap s.heap [] := va_S.rf
  have hl := lv_entry ([.ref tp, .int (nI w), .ref out]) (n := 4) (Nat.le_of_ble_eq_true rfl)
  rw [lg_entry_eq]
  generalize (lg_sl ([.ref tp, .int (nI w), .ref out]) ++ List.replicate (4 - (lg_sl ([.ref tp, .int (nI w), .ref out])).length) Slot.unset).toArray = ls at hl ⊢
  have hl : lv_has ls 4 [(0, .ref tp), (1, .int (nI w)), (2, .ref out)] := hl
  refine lv_aload_n hx hb dL_many_0 rfl (lv_at hl 2 rfl) ?_
  refine lv_iconst (v := nI 0) hx hb dL_many_1 (by decide) ?_
  refine lv_aload_n hx hb dL_many_2 rfl (lv_at hl 0 rfl) ?_
  refine lv_iload_n hx hb dL_many_3 rfl (lv_at hl 1 rfl) ?_
  refine kt_newI (wC := wF tp f er tr kr cI cII cJ cJJ) (wR9 := wO cJ out oZ) (wN := fun (_ : Unit) => wTop tp (f 0) (f 1) (f 2) (fun _ => 0) (fun _ => 0) (f 3) (f 4) (f 5) (fun _ => 0) (fun _ => 0) (f 6) (f 7) (f 8) (fun _ => 0) (fun _ => 0) (f 9) (f 10) (f 11) (fun _ => 0) (fun _ => 0) (f 12) kr (fun _ _ => 0) 0 0 0 (f 13) (f 14) (fun _ => 0) 0 (f 15) (f 16) (fun _ => 0) (f 17) (f 18) (f 19) (fun _ => 0) (fun _ => 0) (f 20) (f 21) (f 22) (fun _ => 0) (fun _ => 0) cJ cJJ cI cII (f 23) (f 24) (f 25) (f 26) er 0 (fun _ _ => 0) (fun _ => 0) tr (fun _ _ => 0)) (va_runV (As := [.int (nI w)]) (rest := [.int (nI 0), .ref out]) ⟨hx, hb, hml, hown, hts⟩ (c_X4_many l dC dI cI cII cJ cJJ tp (f 0) (f 1) (f 2) (fun _ => 0) (fun _ => 0) (f 3) (f 4) (f 5) (fun _ => 0) (fun _ => 0) (f 6) (f 7) (f 8) (fun _ => 0) (fun _ => 0) (f 9) (f 10) (f 11) (fun _ => 0) (fun _ => 0) (f 12) kr (fun _ _ => 0) 0 0 0 (f 13) (f 14) (fun _ => 0) 0 (f 15) (f 16) (fun _ => 0) (f 17) (f 18) (f 19) (fun _ => 0) (fun _ => 0) (f 20) (f 21) (f 22) (fun _ => 0) (fun _ => 0) (f 23) (f 24) (f 25) (f 26) er 0 (fun _ _ => 0) (fun _ => 0) tr (fun _ _ => 0) w _ (by decide) (hw)) (cwV 1 hts gL_many_X4_many rfl rfl rfl (by decide +kernel) ⟨Nat.le_of_ble_eq_true rfl, Nat.le_of_ble_eq_true rfl⟩) (kt_preV (q0 := 0) (ci := kX4) hK hP hD (List.range' 0 45) rfl rfl rfl rfl rfl) rfl rfl hl.1 rfl (lv_room (Nat.le_of_ble_eq_true rfl)) dL_many_4 ⟨Nat.le_of_ble_eq_true rfl, Nat.le_of_ble_eq_true rfl⟩) hP hD hS hA (List.range' 0 45) [45] rfl rfl rfl (by decide) (fun u H locs hP hD hS => ?_)
  have hP := kt_sub (wC := wO cJ out oZ) hP [0] rfl
  have hD := hD.sub (ws' := wO cJ out oZ) [0] rfl rfl
  have hP : va_P (dC, dI) vwCl (wO cJ out oZ) H := hP
  have hD : va_D A (wO cJ out oZ) := hD
  refine lv_i2l (v := Int32.toInt64 (manyF 0 (fun _ _ => 0) (fun _ => 0) (fun _ => 0) (fun _ => 0) (fun _ => 0) (fun _ => 0) 0 0 0 0 w)) hx hb dL_many_7 rfl ?_
  refine kt_last hx hb hK hP hD hS 0 2 rfl rfl (by omega) (by decide) dL_many_8 (fun H locs hP hD hS => ?_)
  have hP : va_P (dC, dI) vwCl (wO cJ out (vp_updL oZ 0 (Int32.toInt64 (manyF 0 (fun _ _ => 0) (fun _ => 0) (fun _ => 0) (fun _ => 0) (fun _ => 0) (fun _ => 0) 0 0 0 0 w)))) H := hP
  have hD : va_D A (wO cJ out (vp_updL oZ 0 (Int32.toInt64 (manyF 0 (fun _ _ => 0) (fun _ => 0) (fun _ => 0) (fun _ => 0) (fun _ => 0) (fun _ => 0) 0 0 0 0 w)))) := hD
  refine lv_goto (tgt := 15) hx hb dL_many_9 (by decide) ?_
  refine lv_iconst (v := nI 0) hx hb dL_many_15 (by decide) ?_
  refine W.widen (k := 0) (n := 0) (by omega) (by omega) ?_
  exact kt_iretS (wN := fun (_ : Unit) => wO cJ out (vp_updL oZ 0 (Int32.toInt64 (manyF 0 (fun _ _ => 0) (fun _ => 0) (fun _ => 0) (fun _ => 0) (fun _ => 0) (fun _ => 0) 0 0 0 0 w)))) () hx hb hr hS hP hK hD (by decide) hlocks dL_many_16
