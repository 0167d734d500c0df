set_option maxHeartbeats 4000000 in
set_option maxRecDepth 100000 in
theorem c_J7_fill_53178 (l : Launch) (dC : Nat → ClassId) (dI : Nat → Nat → Nat) (cI cII cJ cJJ : ClassId) (a : Nat) (F : V1) (v : Int32) (sz : Nat)  : Met l yJ7_fill_53178 wsJ7_fill_53178 ({ frames := 0, cells := 0, slots := 0, locals := 0 }) (va_Pc [.ref a, .int v] (PRE (dC, dI) (tyL cI cII cJ cJJ) (wA cI a F) sz)) (va_Qv (fun (_ : Unit) => True) (fun _ tS => ATW (dC, dI) (tyL cI cII cJ cJJ) (va_A (wA cI a F) sz) (wA cI a (it (fillS v) 6 F)) tS) (va_A (wA cI a F) sz)) 0 0 (va_A (wA cI a F) sz) := by
  refine Met.ofW (cc := cJ7_fill_53178) (maxL := 4) (ret := none) (by decide) rfl ?_
  intro p e s m args below meth c s₁ B hml hv
  obtain ⟨rfl, hsz, hP, hK, hD0⟩ := hv
  have hx := B.exec
  have hb := B.bytes
  have hr := B.returns
  have hlocks := B.notSynchronized
  have hts := atoms_spec (ws := wsJ7_fill_53178) B.pre
  have hown : s.vm.findClass RJ7 = some m.cls := findClass_of_methodNamed B.named
  subst hsz
  have hD := hD0.self (sz := s.heap.size)
  generalize hAe : va_A (wA cI a F) s.heap.size = A at hD ⊢
  have hA : ∀ q : Nat, s.heap.size ≤ q → A q := fun q h => by rw [← hAe]; exact Or.inr h
  have hS : va_S A s.heap s.heap [] := va_S.rf
  have hl := lv_entry ([.ref a, .int v]) (n := 4) (Nat.le_of_ble_eq_true rfl)
  rw [lg_entry_eq]
  generalize (lg_sl ([.ref a, .int v]) ++ List.replicate (4 - (lg_sl ([.ref a, .int v])).length) Slot.unset).toArray = ls at hl ⊢
  have hl : lv_has ls 4 [(0, .ref a), (1, .int v)] := hl
  refine lv_iconst (v := nI 0) hx hb dJ7_fill_53178_0 (by decide) ?_
  refine lv_istore_n (lv' := [(2, .int (nI 0)), (0, .ref a), (1, .int v)]) hx hb dJ7_fill_53178_1 rfl hl (by decide) rfl (fun ls hl => ?_)
  refine lv_aload_n hx hb dJ7_fill_53178_2 rfl (lv_at hl 1 rfl) ?_
  refine va_alen hx hb hK hP 0 0 rfl rfl (v := nI 6) rfl dJ7_fill_53178_3 ?_
  refine lv_istore_n (lv' := [(3, .int (nI 6)), (2, .int (nI 0)), (0, .ref a), (1, .int v)]) hx hb dJ7_fill_53178_4 rfl hl (by decide) rfl (fun ls hl => ?_)
  refine kt_for (n := 6) (WD := fun (i : Nat) => wA cI a (it (fillS v) i F)) (LV := fun (i : Nat) => [(0, .ref a), (1, .int v), (2, .int (nI i)), (3, .int (nI 6))]) (nL := 4) (hd := 5) ?_ hP hD hS (lv_sub hl [2, 3, 1, 0] rfl)
  intro i hle_i ih_i H locs ls hP hD hS hl
  have hP : va_P (dC, dI) vwCl (wA cI a (it (fillS v) i F)) H := hP
  have hD : va_D A (wA cI a (it (fillS v) i F)) := hD
  have hl : lv_has ls 4 [(0, .ref a), (1, .int v), (2, .int (nI i)), (3, .int (nI 6))] := hl
  refine lv_iload_n hx hb dJ7_fill_53178_5 rfl (lv_at hl 2 rfl) ?_
  refine lv_iload_n hx hb dJ7_fill_53178_6 rfl (lv_at hl 3 rfl) ?_
  refine kt_ige (tgt := 20) hx hb (by omega) (by omega) dJ7_fill_53178_7 (by decide) (fun hge_i => ?_) (fun hlt_i => ?_)
  · have e_i : 6 = i := by omega
    subst e_i
    exact kt_vret (W' := wA cI a (it (fillS v) 6 F)) hx hb hr hS hP hK hD hlocks dJ7_fill_53178_20
  · skip
    refine lv_aload_n hx hb dJ7_fill_53178_10 rfl (lv_at hl 0 rfl) ?_
    refine lv_iload_n hx hb dJ7_fill_53178_11 rfl (lv_at hl 2 rfl) ?_
    refine lv_iload_n hx hb dJ7_fill_53178_12 rfl (lv_at hl 1 rfl) ?_
    refine kt_iast hx hb hK hP hD hS 0 0 rfl rfl (by omega) (by decide) dJ7_fill_53178_13 (fun H locs hP hD hS => ?_)
    have hP : va_P (dC, dI) vwCl (wA cI a (upd (it (fillS v) i F) i v)) H := hP
    have hD : va_D A (wA cI a (upd (it (fillS v) i F) i v)) := hD
    refine lv_iinc (v := nI (i + 1)) (lv' := [(2, .int (nI (i + 1))), (0, .ref a), (1, .int v), (3, .int (nI 6))]) hx hb dJ7_fill_53178_14 hl (k := 2) rfl (kt_inc _) (by decide) rfl (fun ls hl => ?_)
    refine lv_goto (tgt := 5) hx hb dJ7_fill_53178_17 (by decide) ?_
    exact ih_i H locs ls hlt_i hP hD hS (lv_sub hl [1, 2, 0, 3] rfl)

set_option maxHeartbeats 4000000 in
set_option maxRecDepth 100000 in
theorem c_X0_addRow (l : Launch) (dC : Nat → ClassId) (dI : Nat → Nat → Nat) (cI cII cJ cJJ : ClassId) (h : Nat) (g : Nat) (t : Nat) (G : Nat → Int32) (T : Nat → Int32) (ro : Nat) (RO : Nat → Int32) (mo : Nat) (eo : Nat) (dg : Nat) (to : Nat) (er : Nat → Nat) (n : Nat) (E : Nat → Nat → Int32) (DG : Nat → Int32) (sz : Nat) (hn : n ≤ 6) : Met l yX0_addRow wsX0_addRow ({ frames := 0, cells := 0, slots := 0, locals := 0 }) (va_Pc [.ref h, .ref ro] (PRE (dC, dI) (tyL cI cII cJ cJJ) (wHMr h g t G T ro RO cI cII mo eo dg to er n E DG) sz)) (va_Qv (fun (_ : Unit) => True) (fun _ tS => ATW (dC, dI) (tyL cI cII cJ cJJ) (va_A (wHMr h g t G T ro RO cI cII mo eo dg to er n E DG) sz) (wHMr h g t (it (addS RO) n G) T ro RO cI cII mo eo dg to er n E DG) tS) (va_A (wHMr h g t G T ro RO cI cII mo eo dg to er n E DG) sz)) 0 0 (va_A (wHMr h g t G T ro RO cI cII mo eo dg to er n E DG) sz) := by
  refine Met.ofW (cc := cX0_addRow) (maxL := 3) (ret := none) (by decide) rfl ?_
  intro p e s m args below meth c s₁ B hml hv
  obtain ⟨rfl, hsz, hP, hK, hD0⟩ := hv
  have hx := B.exec
  have hb := B.bytes
  have hr := B.returns
  have hlocks := B.notSynchronized
  have hts := atoms_spec (ws := wsX0_addRow) B.pre
  have hown : s.vm.findClass RX0 = some m.cls := findClass_of_methodNamed B.named
  subst hsz
  have hD := hD0.self (sz := s.heap.size)
  generalize hAe : va_A (wHMr h g t G T ro RO cI cII mo eo dg to er n E DG) s.heap.size = A at hD ⊢
  have hA : ∀ q : Nat, s.heap.size ≤ q → A q := fun q h => by rw [← hAe]; exact Or.inr h
  have hS : va_S A s.heap s.heap [] := va_S.rf
  have hl := lv_entry ([.ref h, .ref ro]) (n := 3) (Nat.le_of_ble_eq_true rfl)
  rw [lg_entry_eq]
  generalize (lg_sl ([.ref h, .ref ro]) ++ List.replicate (3 - (lg_sl ([.ref h, .ref ro])).length) Slot.unset).toArray = ls at hl ⊢
  have hl : lv_has ls 3 [(0, .ref h), (1, .ref ro)] := hl
  have hi_X0 : ∀ w ∈ u_ws RX0 TX0 3, w ∈ wsX0_addRow := by decide +kernel
  have hf_18 := hts (.fieldLink RX0 18 "Topplemoor$Heap" "moor" "LTopplemoor$Moor;") (by decide +kernel)
  have hi_X2 : ∀ w ∈ u_ws RX2 TX2 4, w ∈ wsX0_addRow := by decide +kernel
  have hf_28 := hts (.fieldLink RX0 28 "Topplemoor$Moor" "spots" "I") (by decide +kernel)
  have hf_9 := hts (.fieldLink RX0 9 "Topplemoor$Heap" "grains" "[I") (by decide +kernel)
  refine lv_iconst (v := nI 0) hx hb dX0_addRow_0 (by decide) ?_
  refine lv_istore_n (lv' := [(2, .int (nI 0)), (0, .ref h), (1, .ref ro)]) hx hb dX0_addRow_1 rfl hl (by decide) rfl (fun ls hl => ?_)
  refine kt_for (n := n) (WD := fun (i : Nat) => wHMr h g t (it (addS RO) i G) T ro RO cI cII mo eo dg to er n E DG) (LV := fun (i : Nat) => [(0, .ref h), (1, .ref ro), (2, .int (nI i))]) (nL := 3) (hd := 2) ?_ hP hD hS (lv_sub hl [1, 2, 0] rfl)
  intro i hle_i ih_i H locs ls hP hD hS hl
  have hP : va_P (dC, dI) vwCl (wHMr h g t (it (addS RO) i G) T ro RO cI cII mo eo dg to er n E DG) H := hP
  have hD : va_D A (wHMr h g t (it (addS RO) i G) T ro RO cI cII mo eo dg to er n E DG) := hD
  have hl : lv_has ls 3 [(0, .ref h), (1, .ref ro), (2, .int (nI i))] := hl
  refine lv_iload_n hx hb dX0_addRow_2 rfl (lv_at hl 2 rfl) ?_
  refine lv_aload_n hx hb dX0_addRow_3 rfl (lv_at hl 0 rfl) ?_
  refine va_get (D := (dC, dI)) (ci := kX0) (v := .ref mo) (C := RX0) (T := TX0) (N := 3) hx hb hts hi_X0 hown hK hP 0 rfl rfl 2 (by decide) hf_18 (fun _ h9 => h9) rfl dX0_addRow_4 ?_
  refine va_get (D := (dC, dI)) (ci := kX2) (v := .int (nI n)) (C := RX2) (T := TX2) (N := 4) hx hb hts hi_X2 hown hK hP 4 rfl rfl 0 (by decide) hf_28 (fun _ h9 => h9) rfl dX0_addRow_7 ?_
  refine kt_ige (tgt := 31) hx hb (by omega) (by omega) dX0_addRow_10 (by decide) (fun hge_i => ?_) (fun hlt_i => ?_)
  · have e_i : n = i := by omega
    subst e_i
    exact kt_vret (W' := wHMr h g t (it (addS RO) n G) T ro RO cI cII mo eo dg to er n E DG) hx hb hr hS hP hK hD hlocks dX0_addRow_31
  · skip
    refine lv_aload_n hx hb dX0_addRow_13 rfl (lv_at hl 0 rfl) ?_
    refine va_get (D := (dC, dI)) (ci := kX0) (v := .ref g) (C := RX0) (T := TX0) (N := 3) hx hb hts hi_X0 hown hK hP 0 rfl rfl 0 (by decide) hf_9 (fun _ h9 => h9) rfl dX0_addRow_14 ?_
    refine lv_iload_n hx hb dX0_addRow_17 rfl (lv_at hl 2 rfl) ?_
    refine lv_dup2_11 hx hb dX0_addRow_18 rfl rfl ?_
    refine kt_iald hx hb hK hP 1 0 rfl rfl (by omega) (by decide) dX0_addRow_19 ?_
    refine lv_aload_n hx hb dX0_addRow_20 rfl (lv_at hl 1 rfl) ?_
    refine lv_iload_n hx hb dX0_addRow_21 rfl (lv_at hl 2 rfl) ?_
    refine kt_iald hx hb hK hP 3 0 rfl rfl (by omega) (by decide) dX0_addRow_22 ?_
    refine lv_iadd hx hb dX0_addRow_23 ?_
    refine kt_iast hx hb hK hP hD hS 1 0 rfl rfl (by omega) (by decide) dX0_addRow_24 (fun H locs hP hD hS => ?_)
    have hP : va_P (dC, dI) vwCl (wHMr h g t (upd (it (addS RO) i G) i (((it (addS RO) i G) i) + (RO i))) T ro RO cI cII mo eo dg to er n E DG) H := hP
    have hD : va_D A (wHMr h g t (upd (it (addS RO) i G) i (((it (addS RO) i G) i) + (RO i))) T ro RO cI cII mo eo dg to er n E DG) := hD
    refine lv_iinc (v := nI (i + 1)) (lv' := [(2, .int (nI (i + 1))), (0, .ref h), (1, .ref ro)]) hx hb dX0_addRow_25 hl (k := 2) rfl (kt_inc _) (by decide) rfl (fun ls hl => ?_)
    refine lv_goto (tgt := 2) hx hb dX0_addRow_28 (by decide) ?_
    exact ih_i H locs ls hlt_i hP hD hS (lv_sub hl [1, 2, 0] rfl)

set_option maxHeartbeats 4000000 in
set_option maxRecDepth 100000 in
theorem c_X0_addFromSink (l : Launch) (dC : Nat → ClassId) (dI : Nat → Nat → Nat) (cI cII cJ cJJ : ClassId) (h : Nat) (g : Nat) (t : Nat) (G : Nat → Int32) (T : Nat → Int32) (mo : Nat) (eo : Nat) (dg : Nat) (to : Nat) (er : Nat → Nat) (n : Nat) (E : Nat → Nat → Int32) (DG : Nat → Int32) (sz : Nat) (hn : n ≤ 6) : Met l yX0_addFromSink wsX0_addFromSink ({ frames := 0, cells := 0, slots := 0, locals := 0 }) (va_Pc [.ref h] (PRE (dC, dI) (tyL cI cII cJ cJJ) (wHM h g t G T cI cII mo eo dg to er n E DG) sz)) (va_Qv (fun (_ : Unit) => True) (fun _ tS => ATW (dC, dI) (tyL cI cII cJ cJJ) (va_A (wHM h g t G T cI cII mo eo dg to er n E DG) sz) (wHM h g t (it (sinkS E) n G) T cI cII mo eo dg to er n E DG) tS) (va_A (wHM h g t G T cI cII mo eo dg to er n E DG) sz)) 0 0 (va_A (wHM h g t G T cI cII mo eo dg to er n E DG) sz) := by
  refine Met.ofW (cc := cX0_addFromSink) (maxL := 2) (ret := none) (by decide) rfl ?_
  intro p e s m args below meth c s₁ B hml hv
  obtain ⟨rfl, hsz, hP, hK, hD0⟩ := hv
  have hx := B.exec
  have hb := B.bytes
  have hr := B.returns
  have hlocks := B.notSynchronized
  have hts := atoms_spec (ws := wsX0_addFromSink) B.pre
  have hown : s.vm.findClass RX0 = some m.cls := findClass_of_methodNamed B.named
  subst hsz
  have hD := hD0.self (sz := s.heap.size)
  generalize hAe : va_A (wHM h g t G T cI cII mo eo dg to er n E DG) s.heap.size = A at hD ⊢
  have hA : ∀ q : Nat, s.heap.size ≤ q → A q := fun q h => by rw [← hAe]; exact Or.inr h
  have hS : va_S A s.heap s.heap [] := va_S.rf
  have hl := lv_entry ([.ref h]) (n := 2) (Nat.le_of_ble_eq_true rfl)
  rw [lg_entry_eq]
  generalize (lg_sl ([.ref h]) ++ List.replicate (2 - (lg_sl ([.ref h])).length) Slot.unset).toArray = ls at hl ⊢
  have hl : lv_has ls 2 [(0, .ref h)] := hl
  have hi_X0 : ∀ w ∈ u_ws RX0 TX0 3, w ∈ wsX0_addFromSink := by decide +kernel
  have hf_18 := hts (.fieldLink RX0 18 "Topplemoor$Heap" "moor" "LTopplemoor$Moor;") (by decide +kernel)
  have hi_X2 : ∀ w ∈ u_ws RX2 TX2 4, w ∈ wsX0_addFromSink := by decide +kernel
  have hf_28 := hts (.fieldLink RX0 28 "Topplemoor$Moor" "spots" "I") (by decide +kernel)
  have hf_9 := hts (.fieldLink RX0 9 "Topplemoor$Heap" "grains" "[I") (by decide +kernel)
  have hf_34 := hts (.fieldLink RX0 34 "Topplemoor$Moor" "edges" "[[I") (by decide +kernel)
  refine lv_iconst (v := nI 0) hx hb dX0_addFromSink_0 (by decide) ?_
  refine lv_istore_n (lv' := [(1, .int (nI 0)), (0, .ref h)]) hx hb dX0_addFromSink_1 rfl hl (by decide) rfl (fun ls hl => ?_)
  refine kt_for (n := n) (WD := fun (i : Nat) => wHM h g t (it (sinkS E) i G) T cI cII mo eo dg to er n E DG) (LV := fun (i : Nat) => [(0, .ref h), (1, .int (nI i))]) (nL := 2) (hd := 2) ?_ hP hD hS (lv_sub hl [1, 0] rfl)
  intro i hle_i ih_i H locs ls hP hD hS hl
  have hP : va_P (dC, dI) vwCl (wHM h g t (it (sinkS E) i G) T cI cII mo eo dg to er n E DG) H := hP
  have hD : va_D A (wHM h g t (it (sinkS E) i G) T cI cII mo eo dg to er n E DG) := hD
  have hl : lv_has ls 2 [(0, .ref h), (1, .int (nI i))] := hl
  refine lv_iload_n hx hb dX0_addFromSink_2 rfl (lv_at hl 1 rfl) ?_
  refine lv_aload_n hx hb dX0_addFromSink_3 rfl (lv_at hl 0 rfl) ?_
  refine va_get (D := (dC, dI)) (ci := kX0) (v := .ref mo) (C := RX0) (T := TX0) (N := 3) hx hb hts hi_X0 hown hK hP 0 rfl rfl 2 (by decide) hf_18 (fun _ h9 => h9) rfl dX0_addFromSink_4 ?_
  refine va_get (D := (dC, dI)) (ci := kX2) (v := .int (nI n)) (C := RX2) (T := TX2) (N := 4) hx hb hts hi_X2 hown hK hP 3 rfl rfl 0 (by decide) hf_28 (fun _ h9 => h9) rfl dX0_addFromSink_7 ?_
  refine kt_ige (tgt := 40) hx hb (by omega) (by omega) dX0_addFromSink_10 (by decide) (fun hge_i => ?_) (fun hlt_i => ?_)
  · have e_i : n = i := by omega
    subst e_i
    exact kt_vret (W' := wHM h g t (it (sinkS E) n G) T cI cII mo eo dg to er n E DG) hx hb hr hS hP hK hD hlocks dX0_addFromSink_40
  · skip
    refine lv_aload_n hx hb dX0_addFromSink_13 rfl (lv_at hl 0 rfl) ?_
    refine va_get (D := (dC, dI)) (ci := kX0) (v := .ref g) (C := RX0) (T := TX0) (N := 3) hx hb hts hi_X0 hown hK hP 0 rfl rfl 0 (by decide) hf_9 (fun _ h9 => h9) rfl dX0_addFromSink_14 ?_
    refine lv_iload_n hx hb dX0_addFromSink_17 rfl (lv_at hl 1 rfl) ?_
    refine lv_dup2_11 hx hb dX0_addFromSink_18 rfl rfl ?_
    refine kt_iald hx hb hK hP 1 0 rfl rfl (by omega) (by decide) dX0_addFromSink_19 ?_
    refine lv_aload_n hx hb dX0_addFromSink_20 rfl (lv_at hl 0 rfl) ?_
    refine va_get (D := (dC, dI)) (ci := kX0) (v := .ref mo) (C := RX0) (T := TX0) (N := 3) hx hb hts hi_X0 hown hK hP 0 rfl rfl 2 (by decide) hf_18 (fun _ h9 => h9) rfl dX0_addFromSink_21 ?_
    refine va_get (D := (dC, dI)) (ci := kX2) (v := .ref eo) (C := RX2) (T := TX2) (N := 4) hx hb hts hi_X2 hown hK hP 3 rfl rfl 1 (by decide) hf_34 (fun _ h9 => h9) rfl dX0_addFromSink_24 ?_
    refine lv_iload_n hx hb dX0_addFromSink_27 rfl (lv_at hl 1 rfl) ?_
    refine kt_aald hx hb hK hP 4 1 rfl rfl (by omega) (by decide) dX0_addFromSink_28 ?_
    refine lv_bipush (v := nI 6) hx hb dX0_addFromSink_29 (by decide) ?_
    refine kt_iald hx hb hK hP (5 + i) 0 (row_wHM_er (by omega)) rfl (by omega) (by decide) dX0_addFromSink_31 ?_
    refine lv_iadd hx hb dX0_addFromSink_32 ?_
    refine kt_iast hx hb hK hP hD hS 1 0 rfl rfl (by omega) (by decide) dX0_addFromSink_33 (fun H locs hP hD hS => ?_)
    have hP : va_P (dC, dI) vwCl (wHM h g t (upd (it (sinkS E) i G) i (((it (sinkS E) i G) i) + (E i 6))) T cI cII mo eo dg to er n E DG) H := hP
    have hD : va_D A (wHM h g t (upd (it (sinkS E) i G) i (((it (sinkS E) i G) i) + (E i 6))) T cI cII mo eo dg to er n E DG) := hD
    refine lv_iinc (v := nI (i + 1)) (lv' := [(1, .int (nI (i + 1))), (0, .ref h)]) hx hb dX0_addFromSink_34 hl (k := 1) rfl (kt_inc _) (by decide) rfl (fun ls hl => ?_)
    refine lv_goto (tgt := 2) hx hb dX0_addFromSink_37 (by decide) ?_
    exact ih_i H locs ls hlt_i hP hD hS (lv_sub hl [1, 0] rfl)

set_option maxHeartbeats 4000000 in
set_option maxRecDepth 100000 in
theorem c_X0_isLike (l : Launch) (dC : Nat → ClassId) (dI : Nat → Nat → Nat) (cI cII cJ cJJ : ClassId) (h : Nat) (g : Nat) (t : Nat) (G : Nat → Int32) (T : Nat → Int32) (ro : Nat) (RO : Nat → Int32) (mo : Nat) (eo : Nat) (dg : Nat) (to : Nat) (er : Nat → Nat) (n : Nat) (E : Nat → Nat → Int32) (DG : Nat → Int32) (sz : Nat) (hn : n ≤ 6) : Met l yX0_isLike wsX0_isLike ({ frames := 0, cells := 0, slots := 0, locals := 0 }) (va_Pc [.ref h, .ref ro] (PRE (dC, dI) (tyL cI cII cJ cJJ) (wHMr h g t G T ro RO cI cII mo eo dg to er n E DG) sz)) (va_Qi (fun (r' : Int32) (_ : Unit) => r' = b2i (allN (likeB G RO) n)) (fun _ tS => ATW (dC, dI) (tyL cI cII cJ cJJ) (va_A (wHMr h g t G T ro RO cI cII mo eo dg to er n E DG) sz) (wHMr h g t G T ro RO cI cII mo eo dg to er n E DG) tS) (va_A (wHMr h g t G T ro RO cI cII mo eo dg to er n E DG) sz)) 0 0 (va_A (wHMr h g t G T ro RO cI cII mo eo dg to er n E DG) sz) := by
  refine Met.ofW (cc := cX0_isLike) (maxL := 3) (ret := (some .boolean)) (by decide) rfl ?_
  intro p e s m args below meth c s₁ B hml hv
  obtain ⟨rfl, hsz, hP, hK, hD0⟩ := hv
  have hx := B.exec
  have hb := B.bytes
  have hr := B.returns
  have hlocks := B.notSynchronized
  have hts := atoms_spec (ws := wsX0_isLike) B.pre
  have hown : s.vm.findClass RX0 = some m.cls := findClass_of_methodNamed B.named
  subst hsz
  have hD := hD0.self (sz := s.heap.size)
  generalize hAe : va_A (wHMr h g t G T ro RO cI cII mo eo dg to er n E DG) s.heap.size = A at hD ⊢
  have hA : ∀ q : Nat, s.heap.size ≤ q → A q := fun q h => by rw [← hAe]; exact Or.inr h
  have hS : va_S A s.heap s.heap [] := va_S.rf
  have hl := lv_entry ([.ref h, .ref ro]) (n := 3) (Nat.le_of_ble_eq_true rfl)
  rw [lg_entry_eq]
  generalize (lg_sl ([.ref h, .ref ro]) ++ List.replicate (3 - (lg_sl ([.ref h, .ref ro])).length) Slot.unset).toArray = ls at hl ⊢
  have hl : lv_has ls 3 [(0, .ref h), (1, .ref ro)] := hl
  have hi_X0 : ∀ w ∈ u_ws RX0 TX0 3, w ∈ wsX0_isLike := by decide +kernel
  have hf_18 := hts (.fieldLink RX0 18 "Topplemoor$Heap" "moor" "LTopplemoor$Moor;") (by decide +kernel)
  have hi_X2 : ∀ w ∈ u_ws RX2 TX2 4, w ∈ wsX0_isLike := by decide +kernel
  have hf_28 := hts (.fieldLink RX0 28 "Topplemoor$Moor" "spots" "I") (by decide +kernel)
  have hf_9 := hts (.fieldLink RX0 9 "Topplemoor$Heap" "grains" "[I") (by decide +kernel)
  refine lv_iconst (v := nI 0) hx hb dX0_isLike_0 (by decide) ?_
  refine lv_istore_n (lv' := [(2, .int (nI 0)), (0, .ref h), (1, .ref ro)]) hx hb dX0_isLike_1 rfl hl (by decide) rfl (fun ls hl => ?_)
  refine kt_forq (n := n) (q := fun (i : Nat) => (allN (likeB G RO) i = true)) (WD := fun (i : Nat) => wHMr h g t G T ro RO cI cII mo eo dg to er n E DG) (LV := fun (i : Nat) => [(0, .ref h), (1, .ref ro), (2, .int (nI i))]) (nL := 3) (hd := 2) ?_ (rfl) hP hD hS (lv_sub hl [1, 2, 0] rfl)
  intro i hle_i hq_i ih_i H locs ls hP hD hS hl
  have hq_i : (allN (likeB G RO) i = true) := hq_i
  have hq := hq_i
  have hP : va_P (dC, dI) vwCl (wHMr h g t G T ro RO cI cII mo eo dg to er n E DG) H := hP
  have hD : va_D A (wHMr h g t G T ro RO cI cII mo eo dg to er n E DG) := hD
  have hl : lv_has ls 3 [(0, .ref h), (1, .ref ro), (2, .int (nI i))] := hl
  refine lv_iload_n hx hb dX0_isLike_2 rfl (lv_at hl 2 rfl) ?_
  refine lv_aload_n hx hb dX0_isLike_3 rfl (lv_at hl 0 rfl) ?_
  refine va_get (D := (dC, dI)) (ci := kX0) (v := .ref mo) (C := RX0) (T := TX0) (N := 3) hx hb hts hi_X0 hown hK hP 0 rfl rfl 2 (by decide) hf_18 (fun _ h9 => h9) rfl dX0_isLike_4 ?_
  refine va_get (D := (dC, dI)) (ci := kX2) (v := .int (nI n)) (C := RX2) (T := TX2) (N := 4) hx hb hts hi_X2 hown hK hP 4 rfl rfl 0 (by decide) hf_28 (fun _ h9 => h9) rfl dX0_isLike_7 ?_
  refine kt_ige (tgt := 33) hx hb (by omega) (by omega) dX0_isLike_10 (by decide) (fun hge_i => ?_) (fun hlt_i => ?_)
  · have e_i : n = i := by omega
    subst e_i
    refine lv_iconst (v := 1) hx hb dX0_isLike_33 (by decide) ?_
    exact kt_zret (W' := wHMr h g t G T ro RO cI cII mo eo dg to er n E DG) hx hb hr (rfl) hS hP hK hD (by rw [hq]; rfl) hlocks dX0_isLike_34
  · skip
    refine lv_aload_n hx hb dX0_isLike_13 rfl (lv_at hl 0 rfl) ?_
    refine va_get (D := (dC, dI)) (ci := kX0) (v := .ref g) (C := RX0) (T := TX0) (N := 3) hx hb hts hi_X0 hown hK hP 0 rfl rfl 0 (by decide) hf_9 (fun _ h9 => h9) rfl dX0_isLike_14 ?_
    refine lv_iload_n hx hb dX0_isLike_17 rfl (lv_at hl 2 rfl) ?_
    refine kt_iald hx hb hK hP 1 0 rfl rfl (by omega) (by decide) dX0_isLike_18 ?_
    refine lv_aload_n hx hb dX0_isLike_19 rfl (lv_at hl 1 rfl) ?_
    refine lv_iload_n hx hb dX0_isLike_20 rfl (lv_at hl 2 rfl) ?_
    refine kt_iald hx hb hK hP 3 0 rfl rfl (by omega) (by decide) dX0_isLike_21 ?_
    refine lv_icmp_eq (tgt := 27) hx hb dX0_isLike_22 (by decide) (fun c22 => ?_) (fun c22 => ?_)
    · skip
      refine lv_iinc (v := nI (i + 1)) (lv' := [(2, .int (nI (i + 1))), (0, .ref h), (1, .ref ro)]) hx hb dX0_isLike_27 hl (k := 2) rfl (kt_inc _) (by decide) rfl (fun ls hl => ?_)
      refine lv_goto (tgt := 2) hx hb dX0_isLike_30 (by decide) ?_
      exact ih_i H locs ls hlt_i (by simp_all [allN, likeB, onceB]) hP hD hS (lv_sub hl [1, 2, 0] rfl)
    · skip
      refine lv_iconst (v := 0) hx hb dX0_isLike_25 (by decide) ?_
      exact kt_zret (W' := wHMr h g t G T ro RO cI cII mo eo dg to er n E DG) hx hb hr (rfl) hS hP hK hD (by rw [allN_false hlt_i (by simp [likeB, c22])]; rfl) hlocks dX0_isLike_26

set_option maxHeartbeats 4000000 in
set_option maxRecDepth 100000 in
theorem c_X0_allGrains (l : Launch) (dC : Nat → ClassId) (dI : Nat → Nat → Nat) (cI cII cJ cJJ : ClassId) (h : Nat) (g : Nat) (t : Nat) (G : Nat → Int32) (T : Nat → Int32) (mo : Nat) (eo : Nat) (dg : Nat) (to : Nat) (er : Nat → Nat) (n : Nat) (E : Nat → Nat → Int32) (DG : Nat → Int32) (sz : Nat) (hn : n ≤ 6) : Met l yX0_allGrains wsX0_allGrains ({ frames := 0, cells := 0, slots := 0, locals := 0 }) (va_Pc [.ref h] (PRE (dC, dI) (tyL cI cII cJ cJJ) (wHM h g t G T cI cII mo eo dg to er n E DG) sz)) (va_Qi (fun (r' : Int32) (_ : Unit) => r' = sumN G n) (fun _ tS => ATW (dC, dI) (tyL cI cII cJ cJJ) (va_A (wHM h g t G T cI cII mo eo dg to er n E DG) sz) (wHM h g t G T cI cII mo eo dg to er n E DG) tS) (va_A (wHM h g t G T cI cII mo eo dg to er n E DG) sz)) 0 0 (va_A (wHM h g t G T cI cII mo eo dg to er n E DG) sz) := by
  refine Met.ofW (cc := cX0_allGrains) (maxL := 3) (ret := (some .int)) (by decide) rfl ?_
  intro p e s m args below meth c s₁ B hml hv
  obtain ⟨rfl, hsz, hP, hK, hD0⟩ := hv
  have hx := B.exec
  have hb := B.bytes
  have hr := B.returns
  have hlocks := B.notSynchronized
  have hts := atoms_spec (ws := wsX0_allGrains) B.pre
  have hown : s.vm.findClass RX0 = some m.cls := findClass_of_methodNamed B.named
  subst hsz
  have hD := hD0.self (sz := s.heap.size)
  generalize hAe : va_A (wHM h g t G T cI cII mo eo dg to er n E DG) s.heap.size = A at hD ⊢
  have hA : ∀ q : Nat, s.heap.size ≤ q → A q := fun q h => by rw [← hAe]; exact Or.inr h
  have hS : va_S A s.heap s.heap [] := va_S.rf
  have hl := lv_entry ([.ref h]) (n := 3) (Nat.le_of_ble_eq_true rfl)
  rw [lg_entry_eq]
  generalize (lg_sl ([.ref h]) ++ List.replicate (3 - (lg_sl ([.ref h])).length) Slot.unset).toArray = ls at hl ⊢
  have hl : lv_has ls 3 [(0, .ref h)] := hl
  have hi_X0 : ∀ w ∈ u_ws RX0 TX0 3, w ∈ wsX0_allGrains := by decide +kernel
  have hf_18 := hts (.fieldLink RX0 18 "Topplemoor$Heap" "moor" "LTopplemoor$Moor;") (by decide +kernel)
  have hi_X2 : ∀ w ∈ u_ws RX2 TX2 4, w ∈ wsX0_allGrains := by decide +kernel
  have hf_28 := hts (.fieldLink RX0 28 "Topplemoor$Moor" "spots" "I") (by decide +kernel)
  have hf_9 := hts (.fieldLink RX0 9 "Topplemoor$Heap" "grains" "[I") (by decide +kernel)
  refine lv_iconst (v := nI 0) hx hb dX0_allGrains_0 (by decide) ?_
  refine lv_istore_n (lv' := [(1, .int (nI 0)), (0, .ref h)]) hx hb dX0_allGrains_1 rfl hl (by decide) rfl (fun ls hl => ?_)
  refine lv_iconst (v := nI 0) hx hb dX0_allGrains_2 (by decide) ?_
  refine lv_istore_n (lv' := [(2, .int (nI 0)), (1, .int (nI 0)), (0, .ref h)]) hx hb dX0_allGrains_3 rfl hl (by decide) rfl (fun ls hl => ?_)
  refine kt_for (n := n) (WD := fun (i : Nat) => wHM h g t G T cI cII mo eo dg to er n E DG) (LV := fun (i : Nat) => [(0, .ref h), (1, .int (sumN G i)), (2, .int (nI i))]) (nL := 3) (hd := 4) ?_ hP hD hS (lv_sub hl [2, 1, 0] rfl)
  intro i hle_i ih_i H locs ls hP hD hS hl
  have hP : va_P (dC, dI) vwCl (wHM h g t G T cI cII mo eo dg to er n E DG) H := hP
  have hD : va_D A (wHM h g t G T cI cII mo eo dg to er n E DG) := hD
  have hl : lv_has ls 3 [(0, .ref h), (1, .int (sumN G i)), (2, .int (nI i))] := hl
  refine lv_iload_n hx hb dX0_allGrains_4 rfl (lv_at hl 2 rfl) ?_
  refine lv_aload_n hx hb dX0_allGrains_5 rfl (lv_at hl 0 rfl) ?_
  refine va_get (D := (dC, dI)) (ci := kX0) (v := .ref mo) (C := RX0) (T := TX0) (N := 3) hx hb hts hi_X0 hown hK hP 0 rfl rfl 2 (by decide) hf_18 (fun _ h9 => h9) rfl dX0_allGrains_6 ?_
  refine va_get (D := (dC, dI)) (ci := kX2) (v := .int (nI n)) (C := RX2) (T := TX2) (N := 4) hx hb hts hi_X2 hown hK hP 3 rfl rfl 0 (by decide) hf_28 (fun _ h9 => h9) rfl dX0_allGrains_9 ?_
  refine kt_ige (tgt := 30) hx hb (by omega) (by omega) dX0_allGrains_12 (by decide) (fun hge_i => ?_) (fun hlt_i => ?_)
  · have e_i : n = i := by omega
    subst e_i
    refine lv_iload_n hx hb dX0_allGrains_30 rfl (lv_at hl 1 rfl) ?_
    exact kt_iret (W' := wHM h g t G T cI cII mo eo dg to er n E DG) hx hb hr hS hP hK hD (rfl) hlocks dX0_allGrains_31
  · skip
    refine lv_iload_n hx hb dX0_allGrains_15 rfl (lv_at hl 1 rfl) ?_
    refine lv_aload_n hx hb dX0_allGrains_16 rfl (lv_at hl 0 rfl) ?_
    refine va_get (D := (dC, dI)) (ci := kX0) (v := .ref g) (C := RX0) (T := TX0) (N := 3) hx hb hts hi_X0 hown hK hP 0 rfl rfl 0 (by decide) hf_9 (fun _ h9 => h9) rfl dX0_allGrains_17 ?_
    refine lv_iload_n hx hb dX0_allGrains_20 rfl (lv_at hl 2 rfl) ?_
    refine kt_iald hx hb hK hP 1 0 rfl rfl (by omega) (by decide) dX0_allGrains_21 ?_
    refine lv_iadd hx hb dX0_allGrains_22 ?_
    refine lv_istore_n (lv' := [(1, .int ((sumN G i) + (G i))), (0, .ref h), (2, .int (nI i))]) hx hb dX0_allGrains_23 rfl hl (by decide) rfl (fun ls hl => ?_)
    refine lv_iinc (v := nI (i + 1)) (lv' := [(2, .int (nI (i + 1))), (1, .int ((sumN G i) + (G i))), (0, .ref h)]) hx hb dX0_allGrains_24 hl (k := 2) rfl (kt_inc _) (by decide) rfl (fun ls hl => ?_)
    refine lv_goto (tgt := 4) hx hb dX0_allGrains_27 (by decide) ?_
    exact ih_i H locs ls hlt_i hP hD hS (lv_sub hl [2, 1, 0] rfl)

set_option maxHeartbeats 4000000 in
set_option maxRecDepth 100000 in
theorem c_X0_isSteep (l : Launch) (dC : Nat → ClassId) (dI : Nat → Nat → Nat) (cI cII cJ cJJ : ClassId) (h : Nat) (g : Nat) (t : Nat) (G : Nat → Int32) (T : Nat → Int32) (mo : Nat) (eo : Nat) (dg : Nat) (to : Nat) (er : Nat → Nat) (n : Nat) (E : Nat → Nat → Int32) (DG : Nat → Int32) (j : Nat) (sz : Nat) (hj : j < 6) : Met l yX0_isSteep wsX0_isSteep ({ frames := 0, cells := 0, slots := 0, locals := 0 }) (va_Pc [.ref h, .int (nI j)] (PRE (dC, dI) (tyL cI cII cJ cJJ) (wHM h g t G T cI cII mo eo dg to er n E DG) sz)) (va_Qi (fun (r' : Int32) (_ : Unit) => r' = b2i (steepB DG G j)) (fun _ tS => ATW (dC, dI) (tyL cI cII cJ cJJ) (va_A (wHM h g t G T cI cII mo eo dg to er n E DG) sz) (wHM h g t G T cI cII mo eo dg to er n E DG) tS) (va_A (wHM h g t G T cI cII mo eo dg to er n E DG) sz)) 0 0 (va_A (wHM h g t G T cI cII mo eo dg to er n E DG) sz) := by
  refine Met.ofW (cc := cX0_isSteep) (maxL := 2) (ret := (some .boolean)) (by decide) rfl ?_
  intro p e s m args below meth c s₁ B hml hv
  obtain ⟨rfl, hsz, hP, hK, hD0⟩ := hv
  have hx := B.exec
  have hb := B.bytes
  have hr := B.returns
  have hlocks := B.notSynchronized
  have hts := atoms_spec (ws := wsX0_isSteep) B.pre
  have hown : s.vm.findClass RX0 = some m.cls := findClass_of_methodNamed B.named
  subst hsz
  have hD := hD0.self (sz := s.heap.size)
  generalize hAe : va_A (wHM h g t G T cI cII mo eo dg to er n E DG) s.heap.size = A at hD ⊢
  have hA : ∀ q : Nat, s.heap.size ≤ q → A q := fun q h => by rw [← hAe]; exact Or.inr h
  have hS : va_S A s.heap s.heap [] := va_S.rf
  have hl := lv_entry ([.ref h, .int (nI j)]) (n := 2) (Nat.le_of_ble_eq_true rfl)
  rw [lg_entry_eq]
  generalize (lg_sl ([.ref h, .int (nI j)]) ++ List.replicate (2 - (lg_sl ([.ref h, .int (nI j)])).length) Slot.unset).toArray = ls at hl ⊢
  have hl : lv_has ls 2 [(0, .ref h), (1, .int (nI j))] := hl
  have hi_X0 : ∀ w ∈ u_ws RX0 TX0 3, w ∈ wsX0_isSteep := by decide +kernel
  have hf_18 := hts (.fieldLink RX0 18 "Topplemoor$Heap" "moor" "LTopplemoor$Moor;") (by decide +kernel)
  have hi_X2 : ∀ w ∈ u_ws RX2 TX2 4, w ∈ wsX0_isSteep := by decide +kernel
  have hf_38 := hts (.fieldLink RX0 38 "Topplemoor$Moor" "degrees" "[I") (by decide +kernel)
  have hf_9 := hts (.fieldLink RX0 9 "Topplemoor$Heap" "grains" "[I") (by decide +kernel)
  refine lv_aload_n hx hb dX0_isSteep_0 rfl (lv_at hl 0 rfl) ?_
  refine va_get (D := (dC, dI)) (ci := kX0) (v := .ref mo) (C := RX0) (T := TX0) (N := 3) hx hb hts hi_X0 hown hK hP 0 rfl rfl 2 (by decide) hf_18 (fun _ h9 => h9) rfl dX0_isSteep_1 ?_
  refine va_get (D := (dC, dI)) (ci := kX2) (v := .ref dg) (C := RX2) (T := TX2) (N := 4) hx hb hts hi_X2 hown hK hP 3 rfl rfl 2 (by decide) hf_38 (fun _ h9 => h9) rfl dX0_isSteep_4 ?_
  refine lv_iload_n hx hb dX0_isSteep_7 rfl (lv_at hl 1 rfl) ?_
  refine kt_iald hx hb hK hP 12 0 rfl rfl (by omega) (by decide) dX0_isSteep_8 ?_
  refine lv_if_le (tgt := 34) hx hb dX0_isSteep_9 (by decide) (fun cA => ?_) (fun cA => ?_)
  · skip
    refine lv_iconst (v := 0) hx hb dX0_isSteep_34 (by decide) ?_
    exact kt_zret (W' := wHM h g t G T cI cII mo eo dg to er n E DG) hx hb hr (rfl) hS hP hK hD (by first | (simp [b2i, steepB, cA]; done) | (simp [b2i, steepB, cA, c27]; done)) hlocks dX0_isSteep_35
  · skip
    refine lv_aload_n hx hb dX0_isSteep_12 rfl (lv_at hl 0 rfl) ?_
    refine va_get (D := (dC, dI)) (ci := kX0) (v := .ref g) (C := RX0) (T := TX0) (N := 3) hx hb hts hi_X0 hown hK hP 0 rfl rfl 0 (by decide) hf_9 (fun _ h9 => h9) rfl dX0_isSteep_13 ?_
    refine lv_iload_n hx hb dX0_isSteep_16 rfl (lv_at hl 1 rfl) ?_
    refine kt_iald hx hb hK hP 1 0 rfl rfl (by omega) (by decide) dX0_isSteep_17 ?_
    refine lv_aload_n hx hb dX0_isSteep_18 rfl (lv_at hl 0 rfl) ?_
    refine va_get (D := (dC, dI)) (ci := kX0) (v := .ref mo) (C := RX0) (T := TX0) (N := 3) hx hb hts hi_X0 hown hK hP 0 rfl rfl 2 (by decide) hf_18 (fun _ h9 => h9) rfl dX0_isSteep_19 ?_
    refine va_get (D := (dC, dI)) (ci := kX2) (v := .ref dg) (C := RX2) (T := TX2) (N := 4) hx hb hts hi_X2 hown hK hP 3 rfl rfl 2 (by decide) hf_38 (fun _ h9 => h9) rfl dX0_isSteep_22 ?_
    refine lv_iload_n hx hb dX0_isSteep_25 rfl (lv_at hl 1 rfl) ?_
    refine kt_iald hx hb hK hP 12 0 rfl rfl (by omega) (by decide) dX0_isSteep_26 ?_
    refine lv_icmp_lt (tgt := 34) hx hb dX0_isSteep_27 (by decide) (fun c27 => ?_) (fun c27 => ?_)
    · skip
      refine lv_iconst (v := 0) hx hb dX0_isSteep_34 (by decide) ?_
      exact kt_zret (W' := wHM h g t G T cI cII mo eo dg to er n E DG) hx hb hr (rfl) hS hP hK hD (by first | (simp [b2i, steepB, cA]; done) | (simp [b2i, steepB, cA, c27]; done)) hlocks dX0_isSteep_35
    · skip
      refine lv_iconst (v := 1) hx hb dX0_isSteep_30 (by decide) ?_
      refine lv_goto (tgt := 35) hx hb dX0_isSteep_31 (by decide) ?_
      exact kt_zret (W' := wHM h g t G T cI cII mo eo dg to er n E DG) hx hb hr (rfl) hS hP hK hD (by first | (simp [b2i, steepB, cA]; done) | (simp [b2i, steepB, cA, c27]; done)) hlocks dX0_isSteep_35

theorem sw_wHM_wHM_0 {h : Nat} {g : Nat} {t : Nat} {G : Nat → Int32} {T : Nat → Int32} {cI : ClassId} {cII : ClassId} {mo : Nat} {eo : Nat} {dg : Nat} {to : Nat} {er : Nat → Nat} {n : Nat} {E : Nat → Nat → Int32} {DG : Nat → Int32} {G' : Nat → Int32} {T' : Nat → Int32} {n' : Nat} {E' : Nat → Nat → Int32} {DG' : Nat → Int32} : kt_sw (wHM h g t G T cI cII mo eo dg to er n E DG) (wHM h g t G' T' cI cII mo eo dg to er n' E' DG') (List.range' 0 13) (wHM h g t G T cI cII mo eo dg to er n E DG) (wHM h g t G' T' cI cII mo eo dg to er n' E' DG') := kt_sw_all rfl (by decide +kernel) rfl
set_option maxHeartbeats 4000000 in
set_option maxRecDepth 100000 in
theorem c_X0_steepSet (l : Launch) (dC : Nat → ClassId) (dI : Nat → Nat → Nat) (cI cII cJ cJJ : ClassId) (h : Nat) (g : Nat) (t : Nat) (G : Nat → Int32) (T : Nat → Int32) (mo : Nat) (eo : Nat) (dg : Nat) (to : Nat) (er : Nat → Nat) (n : Nat) (E : Nat → Nat → Int32) (DG : Nat → Int32) (sz : Nat) (hn : n ≤ 6) : Met l yX0_steepSet wsX0_steepSet ({ frames := 1, cells := 0, slots := 0, locals := 21 }) (va_Pc [.ref h] (PRE (dC, dI) (tyL cI cII cJ cJJ) (wHM h g t G T cI cII mo eo dg to er n E DG) sz)) (va_Qi (fun (r' : Int32) (_ : Unit) => r' = it (setS (steepB DG G)) n 0) (fun _ tS => ATW (dC, dI) (tyL cI cII cJ cJJ) (va_A (wHM h g t G T cI cII mo eo dg to er n E DG) sz) (wHM h g t G T cI cII mo eo dg to er n E DG) tS) (va_A (wHM h g t G T cI cII mo eo dg to er n E DG) sz)) 0 0 (va_A (wHM h g t G T cI cII mo eo dg to er n E DG) sz) := by
  refine Met.ofW (cc := cX0_steepSet) (maxL := 3) (ret := (some .int)) (by decide) rfl ?_
  intro p e s m args below meth c s₁ B hml hv
  obtain ⟨rfl, hsz, hP, hK, hD0⟩ := hv
  have hx := B.exec
  have hb := B.bytes
  have hr := B.returns
  have hlocks := B.notSynchronized
  have hts := atoms_spec (ws := wsX0_steepSet) B.pre
  have hown : s.vm.findClass RX0 = some m.cls := findClass_of_methodNamed B.named
  subst hsz
  have hD := hD0.self (sz := s.heap.size)
  generalize hAe : va_A (wHM h g t G T cI cII mo eo dg to er n E DG) s.heap.size = A at hD ⊢
  have hA : ∀ q : Nat, s.heap.size ≤ q → A q := fun q h => by rw [← hAe]; exact Or.inr h
  have hS : va_S A s.heap s.heap [] := va_S.rf
  have hl := lv_entry ([.ref h]) (n := 3) (Nat.le_of_ble_eq_true rfl)
  rw [lg_entry_eq]
  generalize (lg_sl ([.ref h]) ++ List.replicate (3 - (lg_sl ([.ref h])).length) Slot.unset).toArray = ls at hl ⊢
  have hl : lv_has ls 3 [(0, .ref h)] := hl
  have hi_X0 : ∀ w ∈ u_ws RX0 TX0 3, w ∈ wsX0_steepSet := by decide +kernel
  have hf_18 := hts (.fieldLink RX0 18 "Topplemoor$Heap" "moor" "LTopplemoor$Moor;") (by decide +kernel)
  have hi_X2 : ∀ w ∈ u_ws RX2 TX2 4, w ∈ wsX0_steepSet := by decide +kernel
  have hf_28 := hts (.fieldLink RX0 28 "Topplemoor$Moor" "spots" "I") (by decide +kernel)
  refine lv_iconst (v := nI 0) hx hb dX0_steepSet_0 (by decide) ?_
  refine lv_istore_n (lv' := [(1, .int (nI 0)), (0, .ref h)]) hx hb dX0_steepSet_1 rfl hl (by decide) rfl (fun ls hl => ?_)
  refine lv_iconst (v := nI 0) hx hb dX0_steepSet_2 (by decide) ?_
  refine lv_istore_n (lv' := [(2, .int (nI 0)), (1, .int (nI 0)), (0, .ref h)]) hx hb dX0_steepSet_3 rfl hl (by decide) rfl (fun ls hl => ?_)
  refine kt_for (n := n) (WD := fun (i : Nat) => wHM h g t G T cI cII mo eo dg to er n E DG) (LV := fun (i : Nat) => [(0, .ref h), (1, .int (it (setS (steepB DG G)) i 0)), (2, .int (nI i))]) (nL := 3) (hd := 4) ?_ hP hD hS (lv_sub hl [2, 1, 0] rfl)
  intro i hle_i ih_i H locs ls hP hD hS hl
  have hP : va_P (dC, dI) vwCl (wHM h g t G T cI cII mo eo dg to er n E DG) H := hP
  have hD : va_D A (wHM h g t G T cI cII mo eo dg to er n E DG) := hD
  have hl : lv_has ls 3 [(0, .ref h), (1, .int (it (setS (steepB DG G)) i 0)), (2, .int (nI i))] := hl
  refine lv_iload_n hx hb dX0_steepSet_4 rfl (lv_at hl 2 rfl) ?_
  refine lv_aload_n hx hb dX0_steepSet_5 rfl (lv_at hl 0 rfl) ?_
  refine va_get (D := (dC, dI)) (ci := kX0) (v := .ref mo) (C := RX0) (T := TX0) (N := 3) hx hb hts hi_X0 hown hK hP 0 rfl rfl 2 (by decide) hf_18 (fun _ h9 => h9) rfl dX0_steepSet_6 ?_
  refine va_get (D := (dC, dI)) (ci := kX2) (v := .int (nI n)) (C := RX2) (T := TX2) (N := 4) hx hb hts hi_X2 hown hK hP 3 rfl rfl 0 (by decide) hf_28 (fun _ h9 => h9) rfl dX0_steepSet_9 ?_
  refine kt_ige (tgt := 35) hx hb (by omega) (by omega) dX0_steepSet_12 (by decide) (fun hge_i => ?_) (fun hlt_i => ?_)
  · have e_i : n = i := by omega
    subst e_i
    refine lv_iload_n hx hb dX0_steepSet_35 rfl (lv_at hl 1 rfl) ?_
    exact kt_iret (W' := wHM h g t G T cI cII mo eo dg to er n E DG) hx hb hr hS hP hK hD (rfl) hlocks dX0_steepSet_36
  · skip
    refine lv_aload_n hx hb dX0_steepSet_15 rfl (lv_at hl 0 rfl) ?_
    refine lv_iload_n hx hb dX0_steepSet_16 rfl (lv_at hl 2 rfl) ?_
    refine kt_calli (w' := wHM h g t G T cI cII mo eo dg to er n E DG) (rest := []) (As := [.int (nI i)]) ⟨hx, hb, hml, hown, hts⟩ (c_X0_isSteep l dC dI cI cII cJ cJJ h g t G T mo eo dg to er n E DG i _ (by omega)) (cwV 1 hts gX0_steepSet_X0_isSteep rfl rfl rfl (by decide +kernel) ⟨Nat.le_of_ble_eq_true rfl, Nat.le_of_ble_eq_true rfl⟩) hK hP hD hS hA (List.range' 0 13) sw_wHM_wHM_0 rfl 0 kX0 rfl rfl rfl rfl rfl hl.1 (Nat.le_of_ble_eq_true rfl) dX0_steepSet_17 ⟨Nat.zero_le _, Nat.zero_le _⟩ (fun H locs hP hD hS => ?_)
    refine lv_if_eq (tgt := 29) hx hb dX0_steepSet_20 (by decide) (fun c20 => ?_) (fun c20 => ?_)
    · skip
      refine lv_iinc (v := nI (i + 1)) (lv' := [(2, .int (nI (i + 1))), (0, .ref h), (1, .int (it (setS (steepB DG G)) i 0))]) hx hb dX0_steepSet_29 hl (k := 2) rfl (kt_inc _) (by decide) rfl (fun ls hl => ?_)
      refine lv_goto (tgt := 4) hx hb dX0_steepSet_32 (by decide) ?_
      have eq0 : it (setS (steepB DG G)) (i + 1) 0 = it (setS (steepB DG G)) i 0 := by show setS (steepB DG G) i (it (setS (steepB DG G)) i 0) = _; first | (have z := b2i_eq0.mp c20; simp [setS, z]; done) | (have z := b2i_ne0.mp c20; simp [setS, z]; done)
      exact ih_i H locs ls hlt_i (by show va_P (dC, dI) vwCl (wHM h g t G T cI cII mo eo dg to er n E DG) H; first | exact hP | (rw [eq0]; exact hP)) (by show va_D A (wHM h g t G T cI cII mo eo dg to er n E DG); first | exact hD | (rw [eq0]; exact hD)) hS (by show lv_has ls 3 [(0, .ref h), (1, .int (it (setS (steepB DG G)) (i + 1) 0)), (2, .int (nI (i + 1)))]; first | exact lv_sub hl [1, 2, 0] rfl | (rw [eq0]; exact lv_sub hl [1, 2, 0] rfl))
    · skip
      refine lv_iload_n hx hb dX0_steepSet_23 rfl (lv_at hl 1 rfl) ?_
      refine lv_iconst (v := 1) hx hb dX0_steepSet_24 (by decide) ?_
      refine lv_iload_n hx hb dX0_steepSet_25 rfl (lv_at hl 2 rfl) ?_
      refine lv_ishl hx hb dX0_steepSet_26 ?_
      refine lv_ior hx hb dX0_steepSet_27 ?_
      refine lv_istore_n (lv' := [(1, .int ((it (setS (steepB DG G)) i 0) ||| (1 <<< (nI i &&& 31)))), (0, .ref h), (2, .int (nI i))]) hx hb dX0_steepSet_28 rfl hl (by decide) rfl (fun ls hl => ?_)
      refine lv_iinc (v := nI (i + 1)) (lv' := [(2, .int (nI (i + 1))), (1, .int ((it (setS (steepB DG G)) i 0) ||| (1 <<< (nI i &&& 31)))), (0, .ref h)]) hx hb dX0_steepSet_29 hl (k := 2) rfl (kt_inc _) (by decide) rfl (fun ls hl => ?_)
      refine lv_goto (tgt := 4) hx hb dX0_steepSet_32 (by decide) ?_
      have eq0 : it (setS (steepB DG G)) (i + 1) 0 = (it (setS (steepB DG G)) i 0) ||| (1 <<< (nI i &&& 31)) := by show setS (steepB DG G) i (it (setS (steepB DG G)) i 0) = _; first | (have z := b2i_eq0.mp c20; simp [setS, z]; done) | (have z := b2i_ne0.mp c20; simp [setS, z]; done)
      exact ih_i H locs ls hlt_i (by show va_P (dC, dI) vwCl (wHM h g t G T cI cII mo eo dg to er n E DG) H; first | exact hP | (rw [eq0]; exact hP)) (by show va_D A (wHM h g t G T cI cII mo eo dg to er n E DG); first | exact hD | (rw [eq0]; exact hD)) hS (by show lv_has ls 3 [(0, .ref h), (1, .int (it (setS (steepB DG G)) (i + 1) 0)), (2, .int (nI (i + 1)))]; first | exact lv_sub hl [2, 1, 0] rfl | (rw [eq0]; exact lv_sub hl [2, 1, 0] rfl))

set_option maxHeartbeats 4000000 in
set_option maxRecDepth 100000 in
theorem c_X0_tip (l : Launch) (dC : Nat → ClassId) (dI : Nat → Nat → Nat) (cI cII cJ cJJ : ClassId) (h : Nat) (g : Nat) (t : Nat) (G : Nat → Int32) (T : Nat → Int32) (mo : Nat) (eo : Nat) (dg : Nat) (to : Nat) (er : Nat → Nat) (n : Nat) (E : Nat → Nat → Int32) (DG : Nat → Int32) (fr : Nat) (q : Int32) (sz : Nat) (hn : n ≤ 6) (hfr : fr < 6) : Met l yX0_tip wsX0_tip ({ frames := 0, cells := 0, slots := 0, locals := 0 }) (va_Pc [.ref h, .int (nI fr), .int q] (PRE (dC, dI) (tyL cI cII cJ cJJ) (wHM h g t G T cI cII mo eo dg to er n E DG) sz)) (va_Qv (fun (_ : Unit) => True) (fun _ tS => ATW (dC, dI) (tyL cI cII cJ cJJ) (va_A (wHM h g t G T cI cII mo eo dg to er n E DG) sz) (wHM h g t (tipG n E DG fr q G) T cI cII mo eo dg to er n E DG) tS) (va_A (wHM h g t G T cI cII mo eo dg to er n E DG) sz)) 0 0 (va_A (wHM h g t G T cI cII mo eo dg to er n E DG) sz) := by
  refine Met.ofW (cc := cX0_tip) (maxL := 4) (ret := none) (by decide) rfl ?_
  intro p e s m args below meth c s₁ B hml hv
  obtain ⟨rfl, hsz, hP, hK, hD0⟩ := hv
  have hx := B.exec
  have hb := B.bytes
  have hr := B.returns
  have hlocks := B.notSynchronized
  have hts := atoms_spec (ws := wsX0_tip) B.pre
  have hown : s.vm.findClass RX0 = some m.cls := findClass_of_methodNamed B.named
  subst hsz
  have hD := hD0.self (sz := s.heap.size)
  generalize hAe : va_A (wHM h g t G T cI cII mo eo dg to er n E DG) s.heap.size = A at hD ⊢
  have hA : ∀ q : Nat, s.heap.size ≤ q → A q := fun q h => by rw [← hAe]; exact Or.inr h
  have hS : va_S A s.heap s.heap [] := va_S.rf
  have hl := lv_entry ([.ref h, .int (nI fr), .int q]) (n := 4) (Nat.le_of_ble_eq_true rfl)
  rw [lg_entry_eq]
  generalize (lg_sl ([.ref h, .int (nI fr), .int q]) ++ List.replicate (4 - (lg_sl ([.ref h, .int (nI fr), .int q])).length) Slot.unset).toArray = ls at hl ⊢
  have hl : lv_has ls 4 [(0, .ref h), (1, .int (nI fr)), (2, .int q)] := hl
  have hi_X0 : ∀ w ∈ u_ws RX0 TX0 3, w ∈ wsX0_tip := by decide +kernel
  have hf_9 := hts (.fieldLink RX0 9 "Topplemoor$Heap" "grains" "[I") (by decide +kernel)
  have hf_18 := hts (.fieldLink RX0 18 "Topplemoor$Heap" "moor" "LTopplemoor$Moor;") (by decide +kernel)
  have hi_X2 : ∀ w ∈ u_ws RX2 TX2 4, w ∈ wsX0_tip := by decide +kernel
  have hf_38 := hts (.fieldLink RX0 38 "Topplemoor$Moor" "degrees" "[I") (by decide +kernel)
  have hf_28 := hts (.fieldLink RX0 28 "Topplemoor$Moor" "spots" "I") (by decide +kernel)
  have hf_34 := hts (.fieldLink RX0 34 "Topplemoor$Moor" "edges" "[[I") (by decide +kernel)
  refine lv_aload_n hx hb dX0_tip_0 rfl (lv_at hl 0 rfl) ?_
  refine va_get (D := (dC, dI)) (ci := kX0) (v := .ref g) (C := RX0) (T := TX0) (N := 3) hx hb hts hi_X0 hown hK hP 0 rfl rfl 0 (by decide) hf_9 (fun _ h9 => h9) rfl dX0_tip_1 ?_
  refine lv_iload_n hx hb dX0_tip_4 rfl (lv_at hl 1 rfl) ?_
  refine lv_dup2_11 hx hb dX0_tip_5 rfl rfl ?_
  refine kt_iald hx hb hK hP 1 0 rfl rfl (by omega) (by decide) dX0_tip_6 ?_
  refine lv_iload_n hx hb dX0_tip_7 rfl (lv_at hl 2 rfl) ?_
  refine lv_aload_n hx hb dX0_tip_8 rfl (lv_at hl 0 rfl) ?_
  refine va_get (D := (dC, dI)) (ci := kX0) (v := .ref mo) (C := RX0) (T := TX0) (N := 3) hx hb hts hi_X0 hown hK hP 0 rfl rfl 2 (by decide) hf_18 (fun _ h9 => h9) rfl dX0_tip_9 ?_
  refine va_get (D := (dC, dI)) (ci := kX2) (v := .ref dg) (C := RX2) (T := TX2) (N := 4) hx hb hts hi_X2 hown hK hP 3 rfl rfl 2 (by decide) hf_38 (fun _ h9 => h9) rfl dX0_tip_12 ?_
  refine lv_iload_n hx hb dX0_tip_15 rfl (lv_at hl 1 rfl) ?_
  refine kt_iald hx hb hK hP 12 0 rfl rfl (by omega) (by decide) dX0_tip_16 ?_
  refine lv_imul hx hb dX0_tip_17 ?_
  refine lv_isub hx hb dX0_tip_18 ?_
  refine kt_iast hx hb hK hP hD hS 1 0 rfl rfl (by omega) (by decide) dX0_tip_19 (fun H locs hP hD hS => ?_)
  have hP : va_P (dC, dI) vwCl (wHM h g t (upd G fr ((G fr) - (q * (DG fr)))) T cI cII mo eo dg to er n E DG) H := hP
  have hD : va_D A (wHM h g t (upd G fr ((G fr) - (q * (DG fr)))) T cI cII mo eo dg to er n E DG) := hD
  refine lv_iconst (v := nI 0) hx hb dX0_tip_20 (by decide) ?_
  refine lv_istore_n (lv' := [(3, .int (nI 0)), (0, .ref h), (1, .int (nI fr)), (2, .int q)]) hx hb dX0_tip_21 rfl hl (by decide) rfl (fun ls hl => ?_)
  refine kt_for (n := n) (WD := fun (i : Nat) => wHM h g t (it (tipS E fr q) i (upd G fr (G fr - q * DG fr))) T cI cII mo eo dg to er n E DG) (LV := fun (i : Nat) => [(0, .ref h), (1, .int (nI fr)), (2, .int q), (3, .int (nI i))]) (nL := 4) (hd := 22) ?_ hP hD hS (lv_sub hl [1, 2, 3, 0] rfl)
  intro i hle_i ih_i H locs ls hP hD hS hl
  have hP : va_P (dC, dI) vwCl (wHM h g t (it (tipS E fr q) i (upd G fr (G fr - q * DG fr))) T cI cII mo eo dg to er n E DG) H := hP
  have hD : va_D A (wHM h g t (it (tipS E fr q) i (upd G fr (G fr - q * DG fr))) T cI cII mo eo dg to er n E DG) := hD
  have hl : lv_has ls 4 [(0, .ref h), (1, .int (nI fr)), (2, .int q), (3, .int (nI i))] := hl
  refine lv_iload_n hx hb dX0_tip_22 rfl (lv_at hl 3 rfl) ?_
  refine lv_aload_n hx hb dX0_tip_23 rfl (lv_at hl 0 rfl) ?_
  refine va_get (D := (dC, dI)) (ci := kX0) (v := .ref mo) (C := RX0) (T := TX0) (N := 3) hx hb hts hi_X0 hown hK hP 0 rfl rfl 2 (by decide) hf_18 (fun _ h9 => h9) rfl dX0_tip_24 ?_
  refine va_get (D := (dC, dI)) (ci := kX2) (v := .int (nI n)) (C := RX2) (T := TX2) (N := 4) hx hb hts hi_X2 hown hK hP 3 rfl rfl 0 (by decide) hf_28 (fun _ h9 => h9) rfl dX0_tip_27 ?_
  refine kt_ige (tgt := 61) hx hb (by omega) (by omega) dX0_tip_30 (by decide) (fun hge_i => ?_) (fun hlt_i => ?_)
  · have e_i : n = i := by omega
    subst e_i
    exact kt_vret (W' := wHM h g t (tipG n E DG fr q G) T cI cII mo eo dg to er n E DG) hx hb hr hS hP hK hD hlocks dX0_tip_61
  · skip
    refine lv_aload_n hx hb dX0_tip_33 rfl (lv_at hl 0 rfl) ?_
    refine va_get (D := (dC, dI)) (ci := kX0) (v := .ref g) (C := RX0) (T := TX0) (N := 3) hx hb hts hi_X0 hown hK hP 0 rfl rfl 0 (by decide) hf_9 (fun _ h9 => h9) rfl dX0_tip_34 ?_
    refine lv_iload_n hx hb dX0_tip_37 rfl (lv_at hl 3 rfl) ?_
    refine lv_dup2_11 hx hb dX0_tip_38 rfl rfl ?_
    refine kt_iald hx hb hK hP 1 0 rfl rfl (by omega) (by decide) dX0_tip_39 ?_
    refine lv_iload_n hx hb dX0_tip_40 rfl (lv_at hl 2 rfl) ?_
    refine lv_aload_n hx hb dX0_tip_41 rfl (lv_at hl 0 rfl) ?_
    refine va_get (D := (dC, dI)) (ci := kX0) (v := .ref mo) (C := RX0) (T := TX0) (N := 3) hx hb hts hi_X0 hown hK hP 0 rfl rfl 2 (by decide) hf_18 (fun _ h9 => h9) rfl dX0_tip_42 ?_
    refine va_get (D := (dC, dI)) (ci := kX2) (v := .ref eo) (C := RX2) (T := TX2) (N := 4) hx hb hts hi_X2 hown hK hP 3 rfl rfl 1 (by decide) hf_34 (fun _ h9 => h9) rfl dX0_tip_45 ?_
    refine lv_iload_n hx hb dX0_tip_48 rfl (lv_at hl 1 rfl) ?_
    refine kt_aald hx hb hK hP 4 1 rfl rfl (by omega) (by decide) dX0_tip_49 ?_
    refine lv_iload_n hx hb dX0_tip_50 rfl (lv_at hl 3 rfl) ?_
    refine kt_iald hx hb hK hP (5 + fr) 0 (row_wHM_er (by omega)) rfl (by omega) (by decide) dX0_tip_51 ?_
    refine lv_imul hx hb dX0_tip_52 ?_
    refine lv_iadd hx hb dX0_tip_53 ?_
    refine kt_iast hx hb hK hP hD hS 1 0 rfl rfl (by omega) (by decide) dX0_tip_54 (fun H locs hP hD hS => ?_)
    have hP : va_P (dC, dI) vwCl (wHM h g t (upd (it (tipS E fr q) i (upd G fr (G fr - q * DG fr))) i (((it (tipS E fr q) i (upd G fr (G fr - q * DG fr))) i) + (q * (E fr i)))) T cI cII mo eo dg to er n E DG) H := hP
    have hD : va_D A (wHM h g t (upd (it (tipS E fr q) i (upd G fr (G fr - q * DG fr))) i (((it (tipS E fr q) i (upd G fr (G fr - q * DG fr))) i) + (q * (E fr i)))) T cI cII mo eo dg to er n E DG) := hD
    refine lv_iinc (v := nI (i + 1)) (lv' := [(3, .int (nI (i + 1))), (0, .ref h), (1, .int (nI fr)), (2, .int q)]) hx hb dX0_tip_55 hl (k := 3) rfl (kt_inc _) (by decide) rfl (fun ls hl => ?_)
    refine lv_goto (tgt := 22) hx hb dX0_tip_58 (by decide) ?_
    exact ih_i H locs ls hlt_i hP hD hS (lv_sub hl [1, 2, 3, 0] rfl)

set_option maxHeartbeats 4000000 in
set_option maxRecDepth 100000 in
theorem c_X0_rollRound (l : Launch) (dC : Nat → ClassId) (dI : Nat → Nat → Nat) (cI cII cJ cJJ : ClassId) (h : Nat) (g : Nat) (t : Nat) (G : Nat → Int32) (T : Nat → Int32) (mo : Nat) (eo : Nat) (dg : Nat) (to : Nat) (er : Nat → Nat) (n : Nat) (E : Nat → Nat → Int32) (DG : Nat → Int32) (sz : Nat) (hn : n ≤ 6) : Met l yX0_rollRound wsX0_rollRound ({ frames := 1, cells := 0, slots := 0, locals := 23 }) (va_Pc [.ref h] (PRE (dC, dI) (tyL cI cII cJ cJJ) (wHM h g t G T cI cII mo eo dg to er n E DG) sz)) (va_Qi (fun (r' : Int32) (_ : Unit) => r' = (rr n E DG G T n).2.2) (fun _ tS => ATW (dC, dI) (tyL cI cII cJ cJJ) (va_A (wHM h g t G T cI cII mo eo dg to er n E DG) sz) (wHM h g t ((rr n E DG G T n).1) ((rr n E DG G T n).2.1) cI cII mo eo dg to er n E DG) tS) (va_A (wHM h g t G T cI cII mo eo dg to er n E DG) sz)) 0 0 (va_A (wHM h g t G T cI cII mo eo dg to er n E DG) sz) := by
  refine Met.ofW (cc := cX0_rollRound) (maxL := 5) (ret := (some .boolean)) (by decide) rfl ?_
  intro p e s m args below meth c s₁ B hml hv
  obtain ⟨rfl, hsz, hP, hK, hD0⟩ := hv
  have hx := B.exec
  have hb := B.bytes
  have hr := B.returns
  have hlocks := B.notSynchronized
  have hts := atoms_spec (ws := wsX0_rollRound) B.pre
  have hown : s.vm.findClass RX0 = some m.cls := findClass_of_methodNamed B.named
  subst hsz
  have hD := hD0.self (sz := s.heap.size)
  generalize hAe : va_A (wHM h g t G T cI cII mo eo dg to er n E DG) s.heap.size = A at hD ⊢
  have hA : ∀ q : Nat, s.heap.size ≤ q → A q := fun q h => by rw [← hAe]; exact Or.inr h
  have hS : va_S A s.heap s.heap [] := va_S.rf
  have hl := lv_entry ([.ref h]) (n := 5) (Nat.le_of_ble_eq_true rfl)
  rw [lg_entry_eq]
  generalize (lg_sl ([.ref h]) ++ List.replicate (5 - (lg_sl ([.ref h])).length) Slot.unset).toArray = ls at hl ⊢
  have hl : lv_has ls 5 [(0, .ref h)] := hl
  have hi_X0 : ∀ w ∈ u_ws RX0 TX0 3, w ∈ wsX0_rollRound := by decide +kernel
  have hf_18 := hts (.fieldLink RX0 18 "Topplemoor$Heap" "moor" "LTopplemoor$Moor;") (by decide +kernel)
  have hi_X2 : ∀ w ∈ u_ws RX2 TX2 4, w ∈ wsX0_rollRound := by decide +kernel
  have hf_28 := hts (.fieldLink RX0 28 "Topplemoor$Moor" "spots" "I") (by decide +kernel)
  have hf_38 := hts (.fieldLink RX0 38 "Topplemoor$Moor" "degrees" "[I") (by decide +kernel)
  have hf_9 := hts (.fieldLink RX0 9 "Topplemoor$Heap" "grains" "[I") (by decide +kernel)
  have hf_15 := hts (.fieldLink RX0 15 "Topplemoor$Heap" "times" "[I") (by decide +kernel)
  refine lv_iconst (v := nI 0) hx hb dX0_rollRound_0 (by decide) ?_
  refine lv_istore_n (lv' := [(1, .int (nI 0)), (0, .ref h)]) hx hb dX0_rollRound_1 rfl hl (by decide) rfl (fun ls hl => ?_)
  refine lv_iconst (v := nI 0) hx hb dX0_rollRound_2 (by decide) ?_
  refine lv_istore_n (lv' := [(2, .int (nI 0)), (1, .int (nI 0)), (0, .ref h)]) hx hb dX0_rollRound_3 rfl hl (by decide) rfl (fun ls hl => ?_)
  refine kt_for (n := n) (WD := fun (i : Nat) => wHM h g t ((rr n E DG G T i).1) ((rr n E DG G T i).2.1) cI cII mo eo dg to er n E DG) (LV := fun (i : Nat) => [(0, .ref h), (1, .int ((rr n E DG G T i).2.2)), (2, .int (nI i))]) (nL := 5) (hd := 4) ?_ hP hD hS (lv_sub hl [2, 1, 0] rfl)
  intro i hle_i ih_i H locs ls hP hD hS hl
  have hP : va_P (dC, dI) vwCl (wHM h g t ((rr n E DG G T i).1) ((rr n E DG G T i).2.1) cI cII mo eo dg to er n E DG) H := hP
  have hD : va_D A (wHM h g t ((rr n E DG G T i).1) ((rr n E DG G T i).2.1) cI cII mo eo dg to er n E DG) := hD
  have hl : lv_has ls 5 [(0, .ref h), (1, .int ((rr n E DG G T i).2.2)), (2, .int (nI i))] := hl
  refine lv_iload_n hx hb dX0_rollRound_4 rfl (lv_at hl 2 rfl) ?_
  refine lv_aload_n hx hb dX0_rollRound_5 rfl (lv_at hl 0 rfl) ?_
  refine va_get (D := (dC, dI)) (ci := kX0) (v := .ref mo) (C := RX0) (T := TX0) (N := 3) hx hb hts hi_X0 hown hK hP 0 rfl rfl 2 (by decide) hf_18 (fun _ h9 => h9) rfl dX0_rollRound_6 ?_
  refine va_get (D := (dC, dI)) (ci := kX2) (v := .int (nI n)) (C := RX2) (T := TX2) (N := 4) hx hb hts hi_X2 hown hK hP 3 rfl rfl 0 (by decide) hf_28 (fun _ h9 => h9) rfl dX0_rollRound_9 ?_
  refine kt_ige (tgt := 75) hx hb (by omega) (by omega) dX0_rollRound_12 (by decide) (fun hge_i => ?_) (fun hlt_i => ?_)
  · have e_i : n = i := by omega
    subst e_i
    refine lv_iload_n hx hb dX0_rollRound_75 rfl (lv_at hl 1 rfl) ?_
    exact kt_zret (W' := wHM h g t ((rr n E DG G T n).1) ((rr n E DG G T n).2.1) cI cII mo eo dg to er n E DG) hx hb hr (nar_bool (rr_bool n E DG G T n)) hS hP hK hD (rfl) hlocks dX0_rollRound_76
  · skip
    refine lv_aload_n hx hb dX0_rollRound_15 rfl (lv_at hl 0 rfl) ?_
    refine va_get (D := (dC, dI)) (ci := kX0) (v := .ref mo) (C := RX0) (T := TX0) (N := 3) hx hb hts hi_X0 hown hK hP 0 rfl rfl 2 (by decide) hf_18 (fun _ h9 => h9) rfl dX0_rollRound_16 ?_
    refine va_get (D := (dC, dI)) (ci := kX2) (v := .ref dg) (C := RX2) (T := TX2) (N := 4) hx hb hts hi_X2 hown hK hP 3 rfl rfl 2 (by decide) hf_38 (fun _ h9 => h9) rfl dX0_rollRound_19 ?_
    refine lv_iload_n hx hb dX0_rollRound_22 rfl (lv_at hl 2 rfl) ?_
    refine kt_iald hx hb hK hP 12 0 rfl rfl (by omega) (by decide) dX0_rollRound_23 ?_
    refine lv_istore_n (lv' := [(3, .int (DG i)), (0, .ref h), (1, .int ((rr n E DG G T i).2.2)), (2, .int (nI i))]) hx hb dX0_rollRound_24 rfl hl (by decide) rfl (fun ls hl => ?_)
    refine lv_iload_n hx hb dX0_rollRound_25 rfl (lv_at hl 0 rfl) ?_
    refine lv_if_le (tgt := 69) hx hb dX0_rollRound_26 (by decide) (fun c26 => ?_) (fun c26 => ?_)
    · skip
      refine lv_iinc (v := nI (i + 1)) (lv' := [(2, .int (nI (i + 1))), (3, .int (DG i)), (0, .ref h), (1, .int ((rr n E DG G T i).2.2))]) hx hb dX0_rollRound_69 hl (k := 3) rfl (kt_inc _) (by decide) rfl (fun ls hl => ?_)
      refine lv_goto (tgt := 4) hx hb dX0_rollRound_72 (by decide) ?_
      have eq0 : rr n E DG G T (i + 1) = ((rr n E DG G T i).1, (rr n E DG G T i).2.1, (rr n E DG G T i).2.2) := by exact (show rrS n E DG i (rr n E DG G T i) = _ by first | exact if_pos c26 | exact (if_neg c26).trans (if_pos c36) | exact (if_neg c26).trans (if_neg c36))
      exact ih_i H locs ls hlt_i (by show va_P (dC, dI) vwCl (wHM h g t ((rr n E DG G T (i + 1)).1) ((rr n E DG G T (i + 1)).2.1) cI cII mo eo dg to er n E DG) H; first | exact hP | (rw [eq0]; exact hP)) (by show va_D A (wHM h g t ((rr n E DG G T (i + 1)).1) ((rr n E DG G T (i + 1)).2.1) cI cII mo eo dg to er n E DG); first | exact hD | (rw [eq0]; exact hD)) hS (by show lv_has ls 5 [(0, .ref h), (1, .int ((rr n E DG G T (i + 1)).2.2)), (2, .int (nI (i + 1)))]; first | exact lv_sub hl [2, 3, 0] rfl | (rw [eq0]; exact lv_sub hl [2, 3, 0] rfl))
    · skip
      refine lv_aload_n hx hb dX0_rollRound_29 rfl (lv_at hl 1 rfl) ?_
      refine va_get (D := (dC, dI)) (ci := kX0) (v := .ref g) (C := RX0) (T := TX0) (N := 3) hx hb hts hi_X0 hown hK hP 0 rfl rfl 0 (by decide) hf_9 (fun _ h9 => h9) rfl dX0_rollRound_30 ?_
      refine lv_iload_n hx hb dX0_rollRound_33 rfl (lv_at hl 3 rfl) ?_
      refine kt_iald hx hb hK hP 1 0 rfl rfl (by omega) (by decide) dX0_rollRound_34 ?_
      refine lv_iload_n hx hb dX0_rollRound_35 rfl (lv_at hl 0 rfl) ?_
      refine lv_icmp_lt (tgt := 69) hx hb dX0_rollRound_36 (by decide) (fun c36 => ?_) (fun c36 => ?_)
      · skip
        refine lv_iinc (v := nI (i + 1)) (lv' := [(2, .int (nI (i + 1))), (3, .int (DG i)), (0, .ref h), (1, .int ((rr n E DG G T i).2.2))]) hx hb dX0_rollRound_69 hl (k := 3) rfl (kt_inc _) (by decide) rfl (fun ls hl => ?_)
        refine lv_goto (tgt := 4) hx hb dX0_rollRound_72 (by decide) ?_
        have eq0 : rr n E DG G T (i + 1) = ((rr n E DG G T i).1, (rr n E DG G T i).2.1, (rr n E DG G T i).2.2) := by exact (show rrS n E DG i (rr n E DG G T i) = _ by first | exact if_pos c26 | exact (if_neg c26).trans (if_pos c36) | exact (if_neg c26).trans (if_neg c36))
        exact ih_i H locs ls hlt_i (by show va_P (dC, dI) vwCl (wHM h g t ((rr n E DG G T (i + 1)).1) ((rr n E DG G T (i + 1)).2.1) cI cII mo eo dg to er n E DG) H; first | exact hP | (rw [eq0]; exact hP)) (by show va_D A (wHM h g t ((rr n E DG G T (i + 1)).1) ((rr n E DG G T (i + 1)).2.1) cI cII mo eo dg to er n E DG); first | exact hD | (rw [eq0]; exact hD)) hS (by show lv_has ls 5 [(0, .ref h), (1, .int ((rr n E DG G T (i + 1)).2.2)), (2, .int (nI (i + 1)))]; first | exact lv_sub hl [2, 3, 0] rfl | (rw [eq0]; exact lv_sub hl [2, 3, 0] rfl))
      · skip
        refine lv_aload_n hx hb dX0_rollRound_39 rfl (lv_at hl 1 rfl) ?_
        refine va_get (D := (dC, dI)) (ci := kX0) (v := .ref g) (C := RX0) (T := TX0) (N := 3) hx hb hts hi_X0 hown hK hP 0 rfl rfl 0 (by decide) hf_9 (fun _ h9 => h9) rfl dX0_rollRound_40 ?_
        refine lv_iload_n hx hb dX0_rollRound_43 rfl (lv_at hl 3 rfl) ?_
        refine kt_iald hx hb hK hP 1 0 rfl rfl (by omega) (by decide) dX0_rollRound_44 ?_
        refine lv_iload_n hx hb dX0_rollRound_45 rfl (lv_at hl 0 rfl) ?_
        refine lv_idiv hx hb dX0_rollRound_46 (fun z => c26 (by rw [z]; decide)) ?_
        refine lv_istore (lv' := [(4, .int ((((rr n E DG G T i).1) i) / (DG i))), (3, .int (DG i)), (0, .ref h), (1, .int ((rr n E DG G T i).2.2)), (2, .int (nI i))]) hx hb dX0_rollRound_47 hl (by decide) rfl (fun ls hl => ?_)
        refine lv_aload_n hx hb dX0_rollRound_49 rfl (lv_at hl 2 rfl) ?_
        refine lv_iload_n hx hb dX0_rollRound_50 rfl (lv_at hl 4 rfl) ?_
        refine lv_iload hx hb dX0_rollRound_51 (lv_at hl 0 rfl) ?_
        refine kt_callv (w' := wHM h g t (tipG n E DG i ((((rr n E DG G T i).1) i) / (DG i)) ((rr n E DG G T i).1)) ((rr n E DG G T i).2.1) cI cII mo eo dg to er n E DG) (rest := []) (As := [.int (nI i), .int ((((rr n E DG G T i).1) i) / (DG i))]) ⟨hx, hb, hml, hown, hts⟩ (c_X0_tip l dC dI cI cII cJ cJJ h g t ((rr n E DG G T i).1) ((rr n E DG G T i).2.1) mo eo dg to er n E DG i ((((rr n E DG G T i).1) i) / (DG i)) _ (hn) (by omega)) (cwV 2 hts gX0_rollRound_X0_tip rfl rfl rfl (by decide +kernel) ⟨Nat.le_of_ble_eq_true rfl, Nat.le_of_ble_eq_true rfl⟩) hK hP hD hS hA (List.range' 0 13) sw_wHM_wHM_0 rfl 0 kX0 rfl rfl rfl rfl rfl hl.1 (Nat.le_of_ble_eq_true rfl) dX0_rollRound_53 ⟨Nat.zero_le _, Nat.zero_le _⟩ (fun H locs hP hD hS => ?_)
        refine lv_aload_n hx hb dX0_rollRound_56 rfl (lv_at hl 2 rfl) ?_
        refine va_get (D := (dC, dI)) (ci := kX0) (v := .ref t) (C := RX0) (T := TX0) (N := 3) hx hb hts hi_X0 hown hK hP 0 rfl rfl 1 (by decide) hf_15 (fun _ h9 => h9) rfl dX0_rollRound_57 ?_
        refine lv_iload_n hx hb dX0_rollRound_60 rfl (lv_at hl 4 rfl) ?_
        refine lv_dup2_11 hx hb dX0_rollRound_61 rfl rfl ?_
        refine kt_iald hx hb hK hP 2 0 rfl rfl (by omega) (by decide) dX0_rollRound_62 ?_
        refine lv_iload hx hb dX0_rollRound_63 (lv_at hl 0 rfl) ?_
        refine lv_iadd hx hb dX0_rollRound_65 ?_
        refine kt_iast hx hb hK hP hD hS 2 0 rfl rfl (by omega) (by decide) dX0_rollRound_66 (fun H locs hP hD hS => ?_)
        have hP : va_P (dC, dI) vwCl (wHM h g t (tipG n E DG i ((((rr n E DG G T i).1) i) / (DG i)) ((rr n E DG G T i).1)) (upd ((rr n E DG G T i).2.1) i ((((rr n E DG G T i).2.1) i) + ((((rr n E DG G T i).1) i) / (DG i)))) cI cII mo eo dg to er n E DG) H := hP
        have hD : va_D A (wHM h g t (tipG n E DG i ((((rr n E DG G T i).1) i) / (DG i)) ((rr n E DG G T i).1)) (upd ((rr n E DG G T i).2.1) i ((((rr n E DG G T i).2.1) i) + ((((rr n E DG G T i).1) i) / (DG i)))) cI cII mo eo dg to er n E DG) := hD
        refine lv_iconst (v := nI 1) hx hb dX0_rollRound_67 (by decide) ?_
        refine lv_istore_n (lv' := [(1, .int (nI 1)), (4, .int ((((rr n E DG G T i).1) i) / (DG i))), (3, .int (DG i)), (0, .ref h), (2, .int (nI i))]) hx hb dX0_rollRound_68 rfl hl (by decide) rfl (fun ls hl => ?_)
        refine lv_iinc (v := nI (i + 1)) (lv' := [(2, .int (nI (i + 1))), (1, .int (nI 1)), (4, .int ((((rr n E DG G T i).1) i) / (DG i))), (3, .int (DG i)), (0, .ref h)]) hx hb dX0_rollRound_69 hl (k := 4) rfl (kt_inc _) (by decide) rfl (fun ls hl => ?_)
        refine lv_goto (tgt := 4) hx hb dX0_rollRound_72 (by decide) ?_
        have eq0 : rr n E DG G T (i + 1) = (tipG n E DG i ((((rr n E DG G T i).1) i) / (DG i)) ((rr n E DG G T i).1), upd ((rr n E DG G T i).2.1) i ((((rr n E DG G T i).2.1) i) + ((((rr n E DG G T i).1) i) / (DG i))), nI 1) := by exact (show rrS n E DG i (rr n E DG G T i) = _ by first | exact if_pos c26 | exact (if_neg c26).trans (if_pos c36) | exact (if_neg c26).trans (if_neg c36))
        exact ih_i H locs ls hlt_i (by show va_P (dC, dI) vwCl (wHM h g t ((rr n E DG G T (i + 1)).1) ((rr n E DG G T (i + 1)).2.1) cI cII mo eo dg to er n E DG) H; first | exact hP | (rw [eq0]; exact hP)) (by show va_D A (wHM h g t ((rr n E DG G T (i + 1)).1) ((rr n E DG G T (i + 1)).2.1) cI cII mo eo dg to er n E DG); first | exact hD | (rw [eq0]; exact hD)) hS (by show lv_has ls 5 [(0, .ref h), (1, .int ((rr n E DG G T (i + 1)).2.2)), (2, .int (nI (i + 1)))]; first | exact lv_sub hl [4, 1, 0] rfl | (rw [eq0]; exact lv_sub hl [4, 1, 0] rfl))

set_option maxHeartbeats 4000000 in
set_option maxRecDepth 100000 in
theorem c_X0_allTimes (l : Launch) (dC : Nat → ClassId) (dI : Nat → Nat → Nat) (cI cII cJ cJJ : ClassId) (h : Nat) (g : Nat) (t : Nat) (G : Nat → Int32) (T : Nat → Int32) (mo : Nat) (eo : Nat) (dg : Nat) (to : Nat) (er : Nat → Nat) (n : Nat) (E : Nat → Nat → Int32) (DG : Nat → Int32) (sz : Nat) (hn : n ≤ 6) : Met l yX0_allTimes wsX0_allTimes ({ frames := 0, cells := 0, slots := 0, locals := 0 }) (va_Pc [.ref h] (PRE (dC, dI) (tyL cI cII cJ cJJ) (wHM h g t G T cI cII mo eo dg to er n E DG) sz)) (va_Qi (fun (r' : Int32) (_ : Unit) => r' = sumN T n) (fun _ tS => ATW (dC, dI) (tyL cI cII cJ cJJ) (va_A (wHM h g t G T cI cII mo eo dg to er n E DG) sz) (wHM h g t G T cI cII mo eo dg to er n E DG) tS) (va_A (wHM h g t G T cI cII mo eo dg to er n E DG) sz)) 0 0 (va_A (wHM h g t G T cI cII mo eo dg to er n E DG) sz) := by
  refine Met.ofW (cc := cX0_allTimes) (maxL := 3) (ret := (some .int)) (by decide) rfl ?_
  intro p e s m args below meth c s₁ B hml hv
  obtain ⟨rfl, hsz, hP, hK, hD0⟩ := hv
  have hx := B.exec
  have hb := B.bytes
  have hr := B.returns
  have hlocks := B.notSynchronized
  have hts := atoms_spec (ws := wsX0_allTimes) B.pre
  have hown : s.vm.findClass RX0 = some m.cls := findClass_of_methodNamed B.named
  subst hsz
  have hD := hD0.self (sz := s.heap.size)
  generalize hAe : va_A (wHM h g t G T cI cII mo eo dg to er n E DG) s.heap.size = A at hD ⊢
  have hA : ∀ q : Nat, s.heap.size ≤ q → A q := fun q h => by rw [← hAe]; exact Or.inr h
  have hS : va_S A s.heap s.heap [] := va_S.rf
  have hl := lv_entry ([.ref h]) (n := 3) (Nat.le_of_ble_eq_true rfl)
  rw [lg_entry_eq]
  generalize (lg_sl ([.ref h]) ++ List.replicate (3 - (lg_sl ([.ref h])).length) Slot.unset).toArray = ls at hl ⊢
  have hl : lv_has ls 3 [(0, .ref h)] := hl
  have hi_X0 : ∀ w ∈ u_ws RX0 TX0 3, w ∈ wsX0_allTimes := by decide +kernel
  have hf_18 := hts (.fieldLink RX0 18 "Topplemoor$Heap" "moor" "LTopplemoor$Moor;") (by decide +kernel)
  have hi_X2 : ∀ w ∈ u_ws RX2 TX2 4, w ∈ wsX0_allTimes := by decide +kernel
  have hf_28 := hts (.fieldLink RX0 28 "Topplemoor$Moor" "spots" "I") (by decide +kernel)
  have hf_15 := hts (.fieldLink RX0 15 "Topplemoor$Heap" "times" "[I") (by decide +kernel)
  refine lv_iconst (v := nI 0) hx hb dX0_allTimes_0 (by decide) ?_
  refine lv_istore_n (lv' := [(1, .int (nI 0)), (0, .ref h)]) hx hb dX0_allTimes_1 rfl hl (by decide) rfl (fun ls hl => ?_)
  refine lv_iconst (v := nI 0) hx hb dX0_allTimes_2 (by decide) ?_
  refine lv_istore_n (lv' := [(2, .int (nI 0)), (1, .int (nI 0)), (0, .ref h)]) hx hb dX0_allTimes_3 rfl hl (by decide) rfl (fun ls hl => ?_)
  refine kt_for (n := n) (WD := fun (i : Nat) => wHM h g t G T cI cII mo eo dg to er n E DG) (LV := fun (i : Nat) => [(0, .ref h), (1, .int (sumN T i)), (2, .int (nI i))]) (nL := 3) (hd := 4) ?_ hP hD hS (lv_sub hl [2, 1, 0] rfl)
  intro i hle_i ih_i H locs ls hP hD hS hl
  have hP : va_P (dC, dI) vwCl (wHM h g t G T cI cII mo eo dg to er n E DG) H := hP
  have hD : va_D A (wHM h g t G T cI cII mo eo dg to er n E DG) := hD
  have hl : lv_has ls 3 [(0, .ref h), (1, .int (sumN T i)), (2, .int (nI i))] := hl
  refine lv_iload_n hx hb dX0_allTimes_4 rfl (lv_at hl 2 rfl) ?_
  refine lv_aload_n hx hb dX0_allTimes_5 rfl (lv_at hl 0 rfl) ?_
  refine va_get (D := (dC, dI)) (ci := kX0) (v := .ref mo) (C := RX0) (T := TX0) (N := 3) hx hb hts hi_X0 hown hK hP 0 rfl rfl 2 (by decide) hf_18 (fun _ h9 => h9) rfl dX0_allTimes_6 ?_
  refine va_get (D := (dC, dI)) (ci := kX2) (v := .int (nI n)) (C := RX2) (T := TX2) (N := 4) hx hb hts hi_X2 hown hK hP 3 rfl rfl 0 (by decide) hf_28 (fun _ h9 => h9) rfl dX0_allTimes_9 ?_
  refine kt_ige (tgt := 30) hx hb (by omega) (by omega) dX0_allTimes_12 (by decide) (fun hge_i => ?_) (fun hlt_i => ?_)
  · have e_i : n = i := by omega
    subst e_i
    refine lv_iload_n hx hb dX0_allTimes_30 rfl (lv_at hl 1 rfl) ?_
    exact kt_iret (W' := wHM h g t G T cI cII mo eo dg to er n E DG) hx hb hr hS hP hK hD (rfl) hlocks dX0_allTimes_31
  · skip
    refine lv_iload_n hx hb dX0_allTimes_15 rfl (lv_at hl 1 rfl) ?_
    refine lv_aload_n hx hb dX0_allTimes_16 rfl (lv_at hl 0 rfl) ?_
    refine va_get (D := (dC, dI)) (ci := kX0) (v := .ref t) (C := RX0) (T := TX0) (N := 3) hx hb hts hi_X0 hown hK hP 0 rfl rfl 1 (by decide) hf_15 (fun _ h9 => h9) rfl dX0_allTimes_17 ?_
    refine lv_iload_n hx hb dX0_allTimes_20 rfl (lv_at hl 2 rfl) ?_
    refine kt_iald hx hb hK hP 2 0 rfl rfl (by omega) (by decide) dX0_allTimes_21 ?_
    refine lv_iadd hx hb dX0_allTimes_22 ?_
    refine lv_istore_n (lv' := [(1, .int ((sumN T i) + (T i))), (0, .ref h), (2, .int (nI i))]) hx hb dX0_allTimes_23 rfl hl (by decide) rfl (fun ls hl => ?_)
    refine lv_iinc (v := nI (i + 1)) (lv' := [(2, .int (nI (i + 1))), (1, .int ((sumN T i) + (T i))), (0, .ref h)]) hx hb dX0_allTimes_24 hl (k := 2) rfl (kt_inc _) (by decide) rfl (fun ls hl => ?_)
    refine lv_goto (tgt := 4) hx hb dX0_allTimes_27 (by decide) ?_
    exact ih_i H locs ls hlt_i hP hD hS (lv_sub hl [2, 1, 0] rfl)

set_option maxHeartbeats 4000000 in
set_option maxRecDepth 100000 in
theorem c_X0_swallowedByRoll (l : Launch) (dC : Nat → ClassId) (dI : Nat → Nat → Nat) (cI cII cJ cJJ : ClassId) (h : Nat) (g : Nat) (t : Nat) (G : Nat → Int32) (T : Nat → Int32) (mo : Nat) (eo : Nat) (dg : Nat) (to : Nat) (er : Nat → Nat) (n : Nat) (E : Nat → Nat → Int32) (DG : Nat → Int32) (sz : Nat) (hn : n ≤ 6) : Met l yX0_swallowedByRoll wsX0_swallowedByRoll ({ frames := 0, cells := 0, slots := 0, locals := 0 }) (va_Pc [.ref h] (PRE (dC, dI) (tyL cI cII cJ cJJ) (wHM h g t G T cI cII mo eo dg to er n E DG) sz)) (va_Qi (fun (r' : Int32) (_ : Unit) => r' = sumN (fun k => T k * E k 6) n) (fun _ tS => ATW (dC, dI) (tyL cI cII cJ cJJ) (va_A (wHM h g t G T cI cII mo eo dg to er n E DG) sz) (wHM h g t G T cI cII mo eo dg to er n E DG) tS) (va_A (wHM h g t G T cI cII mo eo dg to er n E DG) sz)) 0 0 (va_A (wHM h g t G T cI cII mo eo dg to er n E DG) sz) := by
  refine Met.ofW (cc := cX0_swallowedByRoll) (maxL := 3) (ret := (some .int)) (by decide) rfl ?_
  intro p e s m args below meth c s₁ B hml hv
  obtain ⟨rfl, hsz, hP, hK, hD0⟩ := hv
  have hx := B.exec
  have hb := B.bytes
  have hr := B.returns
  have hlocks := B.notSynchronized
  have hts := atoms_spec (ws := wsX0_swallowedByRoll) B.pre
  have hown : s.vm.findClass RX0 = some m.cls := findClass_of_methodNamed B.named
  subst hsz
  have hD := hD0.self (sz := s.heap.size)
  generalize hAe : va_A (wHM h g t G T cI cII mo eo dg to er n E DG) s.heap.size = A at hD ⊢
  have hA : ∀ q : Nat, s.heap.size ≤ q → A q := fun q h => by rw [← hAe]; exact Or.inr h
  have hS : va_S A s.heap s.heap [] := va_S.rf
  have hl := lv_entry ([.ref h]) (n := 3) (Nat.le_of_ble_eq_true rfl)
  rw [lg_entry_eq]
  generalize (lg_sl ([.ref h]) ++ List.replicate (3 - (lg_sl ([.ref h])).length) Slot.unset).toArray = ls at hl ⊢
  have hl : lv_has ls 3 [(0, .ref h)] := hl
  have hi_X0 : ∀ w ∈ u_ws RX0 TX0 3, w ∈ wsX0_swallowedByRoll := by decide +kernel
  have hf_18 := hts (.fieldLink RX0 18 "Topplemoor$Heap" "moor" "LTopplemoor$Moor;") (by decide +kernel)
  have hi_X2 : ∀ w ∈ u_ws RX2 TX2 4, w ∈ wsX0_swallowedByRoll := by decide +kernel
  have hf_28 := hts (.fieldLink RX0 28 "Topplemoor$Moor" "spots" "I") (by decide +kernel)
  have hf_15 := hts (.fieldLink RX0 15 "Topplemoor$Heap" "times" "[I") (by decide +kernel)
  have hf_34 := hts (.fieldLink RX0 34 "Topplemoor$Moor" "edges" "[[I") (by decide +kernel)
  refine lv_iconst (v := nI 0) hx hb dX0_swallowedByRoll_0 (by decide) ?_
  refine lv_istore_n (lv' := [(1, .int (nI 0)), (0, .ref h)]) hx hb dX0_swallowedByRoll_1 rfl hl (by decide) rfl (fun ls hl => ?_)
  refine lv_iconst (v := nI 0) hx hb dX0_swallowedByRoll_2 (by decide) ?_
  refine lv_istore_n (lv' := [(2, .int (nI 0)), (1, .int (nI 0)), (0, .ref h)]) hx hb dX0_swallowedByRoll_3 rfl hl (by decide) rfl (fun ls hl => ?_)
  refine kt_for (n := n) (WD := fun (i : Nat) => wHM h g t G T cI cII mo eo dg to er n E DG) (LV := fun (i : Nat) => [(0, .ref h), (1, .int (sumN (fun k => T k * E k 6) i)), (2, .int (nI i))]) (nL := 3) (hd := 4) ?_ hP hD hS (lv_sub hl [2, 1, 0] rfl)
  intro i hle_i ih_i H locs ls hP hD hS hl
  have hP : va_P (dC, dI) vwCl (wHM h g t G T cI cII mo eo dg to er n E DG) H := hP
  have hD : va_D A (wHM h g t G T cI cII mo eo dg to er n E DG) := hD
  have hl : lv_has ls 3 [(0, .ref h), (1, .int (sumN (fun k => T k * E k 6) i)), (2, .int (nI i))] := hl
  refine lv_iload_n hx hb dX0_swallowedByRoll_4 rfl (lv_at hl 2 rfl) ?_
  refine lv_aload_n hx hb dX0_swallowedByRoll_5 rfl (lv_at hl 0 rfl) ?_
  refine va_get (D := (dC, dI)) (ci := kX0) (v := .ref mo) (C := RX0) (T := TX0) (N := 3) hx hb hts hi_X0 hown hK hP 0 rfl rfl 2 (by decide) hf_18 (fun _ h9 => h9) rfl dX0_swallowedByRoll_6 ?_
  refine va_get (D := (dC, dI)) (ci := kX2) (v := .int (nI n)) (C := RX2) (T := TX2) (N := 4) hx hb hts hi_X2 hown hK hP 3 rfl rfl 0 (by decide) hf_28 (fun _ h9 => h9) rfl dX0_swallowedByRoll_9 ?_
  refine kt_ige (tgt := 43) hx hb (by omega) (by omega) dX0_swallowedByRoll_12 (by decide) (fun hge_i => ?_) (fun hlt_i => ?_)
  · have e_i : n = i := by omega
    subst e_i
    refine lv_iload_n hx hb dX0_swallowedByRoll_43 rfl (lv_at hl 1 rfl) ?_
    exact kt_iret (W' := wHM h g t G T cI cII mo eo dg to er n E DG) hx hb hr hS hP hK hD (rfl) hlocks dX0_swallowedByRoll_44
  · skip
    refine lv_iload_n hx hb dX0_swallowedByRoll_15 rfl (lv_at hl 1 rfl) ?_
    refine lv_aload_n hx hb dX0_swallowedByRoll_16 rfl (lv_at hl 0 rfl) ?_
    refine va_get (D := (dC, dI)) (ci := kX0) (v := .ref t) (C := RX0) (T := TX0) (N := 3) hx hb hts hi_X0 hown hK hP 0 rfl rfl 1 (by decide) hf_15 (fun _ h9 => h9) rfl dX0_swallowedByRoll_17 ?_
    refine lv_iload_n hx hb dX0_swallowedByRoll_20 rfl (lv_at hl 2 rfl) ?_
    refine kt_iald hx hb hK hP 2 0 rfl rfl (by omega) (by decide) dX0_swallowedByRoll_21 ?_
    refine lv_aload_n hx hb dX0_swallowedByRoll_22 rfl (lv_at hl 0 rfl) ?_
    refine va_get (D := (dC, dI)) (ci := kX0) (v := .ref mo) (C := RX0) (T := TX0) (N := 3) hx hb hts hi_X0 hown hK hP 0 rfl rfl 2 (by decide) hf_18 (fun _ h9 => h9) rfl dX0_swallowedByRoll_23 ?_
    refine va_get (D := (dC, dI)) (ci := kX2) (v := .ref eo) (C := RX2) (T := TX2) (N := 4) hx hb hts hi_X2 hown hK hP 3 rfl rfl 1 (by decide) hf_34 (fun _ h9 => h9) rfl dX0_swallowedByRoll_26 ?_
    refine lv_iload_n hx hb dX0_swallowedByRoll_29 rfl (lv_at hl 2 rfl) ?_
    refine kt_aald hx hb hK hP 4 1 rfl rfl (by omega) (by decide) dX0_swallowedByRoll_30 ?_
    refine lv_bipush (v := nI 6) hx hb dX0_swallowedByRoll_31 (by decide) ?_
    refine kt_iald hx hb hK hP (5 + i) 0 (row_wHM_er (by omega)) rfl (by omega) (by decide) dX0_swallowedByRoll_33 ?_
    refine lv_imul hx hb dX0_swallowedByRoll_34 ?_
    refine lv_iadd hx hb dX0_swallowedByRoll_35 ?_
    refine lv_istore_n (lv' := [(1, .int ((sumN (fun k => T k * E k 6) i) + ((T i) * (E i 6)))), (0, .ref h), (2, .int (nI i))]) hx hb dX0_swallowedByRoll_36 rfl hl (by decide) rfl (fun ls hl => ?_)
    refine lv_iinc (v := nI (i + 1)) (lv' := [(2, .int (nI (i + 1))), (1, .int ((sumN (fun k => T k * E k 6) i) + ((T i) * (E i 6)))), (0, .ref h)]) hx hb dX0_swallowedByRoll_37 hl (k := 2) rfl (kt_inc _) (by decide) rfl (fun ls hl => ?_)
    refine lv_goto (tgt := 4) hx hb dX0_swallowedByRoll_40 (by decide) ?_
    exact ih_i H locs ls hlt_i hP hD hS (lv_sub hl [2, 1, 0] rfl)

set_option maxHeartbeats 4000000 in
set_option maxRecDepth 100000 in
theorem c_X0_hasEachToppledOnce (l : Launch) (dC : Nat → ClassId) (dI : Nat → Nat → Nat) (cI cII cJ cJJ : ClassId) (h : Nat) (g : Nat) (t : Nat) (G : Nat → Int32) (T : Nat → Int32) (mo : Nat) (eo : Nat) (dg : Nat) (to : Nat) (er : Nat → Nat) (n : Nat) (E : Nat → Nat → Int32) (DG : Nat → Int32) (sz : Nat) (hn : n ≤ 6) : Met l yX0_hasEachToppledOnce wsX0_hasEachToppledOnce ({ frames := 0, cells := 0, slots := 0, locals := 0 }) (va_Pc [.ref h] (PRE (dC, dI) (tyL cI cII cJ cJJ) (wHM h g t G T cI cII mo eo dg to er n E DG) sz)) (va_Qi (fun (r' : Int32) (_ : Unit) => r' = b2i (allN (onceB T) n)) (fun _ tS => ATW (dC, dI) (tyL cI cII cJ cJJ) (va_A (wHM h g t G T cI cII mo eo dg to er n E DG) sz) (wHM h g t G T cI cII mo eo dg to er n E DG) tS) (va_A (wHM h g t G T cI cII mo eo dg to er n E DG) sz)) 0 0 (va_A (wHM h g t G T cI cII mo eo dg to er n E DG) sz) := by
  refine Met.ofW (cc := cX0_hasEachToppledOnce) (maxL := 2) (ret := (some .boolean)) (by decide) rfl ?_
  intro p e s m args below meth c s₁ B hml hv
  obtain ⟨rfl, hsz, hP, hK, hD0⟩ := hv
  have hx := B.exec
  have hb := B.bytes
  have hr := B.returns
  have hlocks := B.notSynchronized
  have hts := atoms_spec (ws := wsX0_hasEachToppledOnce) B.pre
  have hown : s.vm.findClass RX0 = some m.cls := findClass_of_methodNamed B.named
  subst hsz
  have hD := hD0.self (sz := s.heap.size)
  generalize hAe : va_A (wHM h g t G T cI cII mo eo dg to er n E DG) s.heap.size = A at hD ⊢
  have hA : ∀ q : Nat, s.heap.size ≤ q → A q := fun q h => by rw [← hAe]; exact Or.inr h
  have hS : va_S A s.heap s.heap [] := va_S.rf
  have hl := lv_entry ([.ref h]) (n := 2) (Nat.le_of_ble_eq_true rfl)
  rw [lg_entry_eq]
  generalize (lg_sl ([.ref h]) ++ List.replicate (2 - (lg_sl ([.ref h])).length) Slot.unset).toArray = ls at hl ⊢
  have hl : lv_has ls 2 [(0, .ref h)] := hl
  have hi_X0 : ∀ w ∈ u_ws RX0 TX0 3, w ∈ wsX0_hasEachToppledOnce := by decide +kernel
  have hf_18 := hts (.fieldLink RX0 18 "Topplemoor$Heap" "moor" "LTopplemoor$Moor;") (by decide +kernel)
  have hi_X2 : ∀ w ∈ u_ws RX2 TX2 4, w ∈ wsX0_hasEachToppledOnce := by decide +kernel
  have hf_28 := hts (.fieldLink RX0 28 "Topplemoor$Moor" "spots" "I") (by decide +kernel)
  have hf_15 := hts (.fieldLink RX0 15 "Topplemoor$Heap" "times" "[I") (by decide +kernel)
  refine lv_iconst (v := nI 0) hx hb dX0_hasEachToppledOnce_0 (by decide) ?_
  refine lv_istore_n (lv' := [(1, .int (nI 0)), (0, .ref h)]) hx hb dX0_hasEachToppledOnce_1 rfl hl (by decide) rfl (fun ls hl => ?_)
  refine kt_forq (n := n) (q := fun (i : Nat) => (allN (onceB T) i = true)) (WD := fun (i : Nat) => wHM h g t G T cI cII mo eo dg to er n E DG) (LV := fun (i : Nat) => [(0, .ref h), (1, .int (nI i))]) (nL := 2) (hd := 2) ?_ (rfl) hP hD hS (lv_sub hl [1, 0] rfl)
  intro i hle_i hq_i ih_i H locs ls hP hD hS hl
  have hq_i : (allN (onceB T) i = true) := hq_i
  have hq := hq_i
  have hP : va_P (dC, dI) vwCl (wHM h g t G T cI cII mo eo dg to er n E DG) H := hP
  have hD : va_D A (wHM h g t G T cI cII mo eo dg to er n E DG) := hD
  have hl : lv_has ls 2 [(0, .ref h), (1, .int (nI i))] := hl
  refine lv_iload_n hx hb dX0_hasEachToppledOnce_2 rfl (lv_at hl 1 rfl) ?_
  refine lv_aload_n hx hb dX0_hasEachToppledOnce_3 rfl (lv_at hl 0 rfl) ?_
  refine va_get (D := (dC, dI)) (ci := kX0) (v := .ref mo) (C := RX0) (T := TX0) (N := 3) hx hb hts hi_X0 hown hK hP 0 rfl rfl 2 (by decide) hf_18 (fun _ h9 => h9) rfl dX0_hasEachToppledOnce_4 ?_
  refine va_get (D := (dC, dI)) (ci := kX2) (v := .int (nI n)) (C := RX2) (T := TX2) (N := 4) hx hb hts hi_X2 hown hK hP 3 rfl rfl 0 (by decide) hf_28 (fun _ h9 => h9) rfl dX0_hasEachToppledOnce_7 ?_
  refine kt_ige (tgt := 31) hx hb (by omega) (by omega) dX0_hasEachToppledOnce_10 (by decide) (fun hge_i => ?_) (fun hlt_i => ?_)
  · have e_i : n = i := by omega
    subst e_i
    refine lv_iconst (v := 1) hx hb dX0_hasEachToppledOnce_31 (by decide) ?_
    exact kt_zret (W' := wHM h g t G T cI cII mo eo dg to er n E DG) hx hb hr (rfl) hS hP hK hD (by rw [hq]; rfl) hlocks dX0_hasEachToppledOnce_32
  · skip
    refine lv_aload_n hx hb dX0_hasEachToppledOnce_13 rfl (lv_at hl 0 rfl) ?_
    refine va_get (D := (dC, dI)) (ci := kX0) (v := .ref t) (C := RX0) (T := TX0) (N := 3) hx hb hts hi_X0 hown hK hP 0 rfl rfl 1 (by decide) hf_15 (fun _ h9 => h9) rfl dX0_hasEachToppledOnce_14 ?_
    refine lv_iload_n hx hb dX0_hasEachToppledOnce_17 rfl (lv_at hl 1 rfl) ?_
    refine kt_iald hx hb hK hP 2 0 rfl rfl (by omega) (by decide) dX0_hasEachToppledOnce_18 ?_
    refine lv_iconst (v := 1) hx hb dX0_hasEachToppledOnce_19 (by decide) ?_
    refine lv_icmp_eq (tgt := 25) hx hb dX0_hasEachToppledOnce_20 (by decide) (fun c20 => ?_) (fun c20 => ?_)
    · skip
      refine lv_iinc (v := nI (i + 1)) (lv' := [(1, .int (nI (i + 1))), (0, .ref h)]) hx hb dX0_hasEachToppledOnce_25 hl (k := 1) rfl (kt_inc _) (by decide) rfl (fun ls hl => ?_)
      refine lv_goto (tgt := 2) hx hb dX0_hasEachToppledOnce_28 (by decide) ?_
      exact ih_i H locs ls hlt_i (by simp_all [allN, likeB, onceB]) hP hD hS (lv_sub hl [1, 0] rfl)
    · skip
      refine lv_iconst (v := 0) hx hb dX0_hasEachToppledOnce_23 (by decide) ?_
      exact kt_zret (W' := wHM h g t G T cI cII mo eo dg to er n E DG) hx hb hr (rfl) hS hP hK hD (by rw [allN_false hlt_i (by simp [onceB, c20])]; rfl) hlocks dX0_hasEachToppledOnce_24

set_option maxHeartbeats 4000000 in
set_option maxRecDepth 100000 in
theorem c_X0_copyRow (l : Launch) (dC : Nat → ClassId) (dI : Nat → Nat → Nat) (cI cII cJ cJJ : ClassId) (h : Nat) (g : Nat) (t : Nat) (G : Nat → Int32) (T : Nat → Int32) (ro : Nat) (RO : Nat → Int32) (mo : Nat) (eo : Nat) (dg : Nat) (to : Nat) (er : Nat → Nat) (n : Nat) (E : Nat → Nat → Int32) (DG : Nat → Int32) (sz : Nat)  : Met l yX0_copyRow wsX0_copyRow ({ frames := 1, cells := 0, slots := 0, locals := 18 }) (va_Pc [.ref h, .ref ro] (PRE (dC, dI) (tyL cI cII cJ cJJ) (wHMr h g t G T ro RO cI cII mo eo dg to er n E DG) sz)) (va_Qv (fun (_ : Unit) => True) (fun _ tS => ATW (dC, dI) (tyL cI cII cJ cJJ) (va_A (wHMr h g t G T ro RO cI cII mo eo dg to er n E DG) sz) (wHMr h g t RO T ro RO cI cII mo eo dg to er n E DG) tS) (va_A (wHMr h g t G T ro RO cI cII mo eo dg to er n E DG) sz)) 0 0 (va_A (wHMr h g t G T ro RO cI cII mo eo dg to er n E DG) sz) := by
  refine Met.ofW (cc := cX0_copyRow) (maxL := 2) (ret := none) (by decide) rfl ?_
  intro p e s m args below meth c s₁ B hml hv
  obtain ⟨rfl, hsz, hP, hK, hD0⟩ := hv
  have hx := B.exec
  have hb := B.bytes
  have hr := B.returns
  have hlocks := B.notSynchronized
  have hts := atoms_spec (ws := wsX0_copyRow) B.pre
  have hown : s.vm.findClass RX0 = some m.cls := findClass_of_methodNamed B.named
  subst hsz
  have hD := hD0.self (sz := s.heap.size)
  generalize hAe : va_A (wHMr h g t G T ro RO cI cII mo eo dg to er n E DG) s.heap.size = A at hD ⊢
  have hA : ∀ q : Nat, s.heap.size ≤ q → A q := fun q h => by rw [← hAe]; exact Or.inr h
  have hS : va_S A s.heap s.heap [] := va_S.rf
  have hl := lv_entry ([.ref h, .ref ro]) (n := 2) (Nat.le_of_ble_eq_true rfl)
  rw [lg_entry_eq]
  generalize (lg_sl ([.ref h, .ref ro]) ++ List.replicate (2 - (lg_sl ([.ref h, .ref ro])).length) Slot.unset).toArray = ls at hl ⊢
  have hl : lv_has ls 2 [(0, .ref h), (1, .ref ro)] := hl
  have hi_X0 : ∀ w ∈ u_ws RX0 TX0 3, w ∈ wsX0_copyRow := by decide +kernel
  have hf_9 := hts (.fieldLink RX0 9 "Topplemoor$Heap" "grains" "[I") (by decide +kernel)
  have hm_l := hts (.methodLink RX0 22 arraycopyName) (by decide +kernel)
  have hm_n := hts (.native arraycopyName) (by decide +kernel)
  have hm_s := hts (.static arraycopyName) (by decide +kernel)
  have hm_i := hts (.initialized "java/lang/System") (by decide +kernel)
  refine lv_aload_n hx hb dX0_copyRow_0 rfl (lv_at hl 1 rfl) ?_
  refine lv_iconst (v := 0) hx hb dX0_copyRow_1 (by decide) ?_
  refine lv_aload_n hx hb dX0_copyRow_2 rfl (lv_at hl 0 rfl) ?_
  refine va_get (D := (dC, dI)) (ci := kX0) (v := .ref g) (C := RX0) (T := TX0) (N := 3) hx hb hts hi_X0 hown hK hP 0 rfl rfl 0 (by decide) hf_9 (fun _ h9 => h9) rfl dX0_copyRow_3 ?_
  refine lv_iconst (v := 0) hx hb dX0_copyRow_6 (by decide) ?_
  refine lv_bipush (v := 6) hx hb dX0_copyRow_7 (by decide) ?_
  refine va_copyi hx hb (by rw [hml]; exact hl.1.symm) hown hm_l hm_n hm_s hm_i hK hP hD hS 3 1 0 0 rfl rfl rfl rfl rfl (by decide) (by decide) (by decide) (by decide) (by decide) (fun _ _ => rfl) (by decide) (by decide) dX0_copyRow_9 (fun H locs hP hD hS => ?_)
  obtain ⟨hP, hD⟩ := kt_chg (RO) hP hD 1 (by rfl) (fun j hj => kt_cpy hj)
  have hP : va_P (dC, dI) vwCl (wHMr h g t RO T ro RO cI cII mo eo dg to er n E DG) H := hP
  have hD : va_D A (wHMr h g t RO T ro RO cI cII mo eo dg to er n E DG) := hD
  exact kt_vret (W' := wHMr h g t RO T ro RO cI cII mo eo dg to er n E DG) hx hb hr hS hP hK hD hlocks dX0_copyRow_12

theorem sw_wHM_wA_0 {h : Nat} {g : Nat} {t : Nat} {G : Nat → Int32} {T : Nat → Int32} {cI : ClassId} {cII : ClassId} {mo : Nat} {eo : Nat} {dg : Nat} {to : Nat} {er : Nat → Nat} {n : Nat} {E : Nat → Nat → Int32} {DG : Nat → Int32} {T' : Nat → Int32} : kt_sw (wHM h g t G T cI cII mo eo dg to er n E DG) (wHM h g t G T' cI cII mo eo dg to er n E DG) [2] (wA cI t T) (wA cI t T') := ⟨rfl, ⟨[none, none, some 0, none, none, none, none, none, none, none, none, none, none], rfl, by decide +kernel⟩, rfl⟩
set_option maxHeartbeats 4000000 in
set_option maxRecDepth 100000 in
theorem c_X0_roll (l : Launch) (dC : Nat → ClassId) (dI : Nat → Nat → Nat) (cI cII cJ cJJ : ClassId) (h : Nat) (g : Nat) (t : Nat) (G : Nat → Int32) (T : Nat → Int32) (mo : Nat) (eo : Nat) (dg : Nat) (to : Nat) (er : Nat → Nat) (n : Nat) (E : Nat → Nat → Int32) (DG : Nat → Int32) (sz : Nat) (hn : n ≤ 6) : Met l yX0_roll wsX0_roll ({ frames := 2, cells := 0, slots := 0, locals := 47 }) (va_Pc [.ref h] (PRE (dC, dI) (tyL cI cII cJ cJJ) (wHM h g t G T cI cII mo eo dg to er n E DG) sz)) (va_Qv (fun (_ : Unit) => True) (fun _ tS => ATW (dC, dI) (tyL cI cII cJ cJJ) (va_A (wHM h g t G T cI cII mo eo dg to er n E DG) sz) (wHM h g t ((rollF n E DG G).1) ((rollF n E DG G).2) cI cII mo eo dg to er n E DG) tS) (va_A (wHM h g t G T cI cII mo eo dg to er n E DG) sz)) 0 0 (va_A (wHM h g t G T cI cII mo eo dg to er n E DG) sz) := by
  refine Met.ofW (cc := cX0_roll) (maxL := 3) (ret := none) (by decide) rfl ?_
  intro p e s m args below meth c s₁ B hml hv
  obtain ⟨rfl, hsz, hP, hK, hD0⟩ := hv
  have hx := B.exec
  have hb := B.bytes
  have hr := B.returns
  have hlocks := B.notSynchronized
  have hts := atoms_spec (ws := wsX0_roll) B.pre
  have hown : s.vm.findClass RX0 = some m.cls := findClass_of_methodNamed B.named
  subst hsz
  have hD := hD0.self (sz := s.heap.size)
  generalize hAe : va_A (wHM h g t G T cI cII mo eo dg to er n E DG) s.heap.size = A at hD ⊢
  have hA : ∀ q : Nat, s.heap.size ≤ q → A q := fun q h => by rw [← hAe]; exact Or.inr h
  have hS : va_S A s.heap s.heap [] := va_S.rf
  have hl := lv_entry ([.ref h]) (n := 3) (Nat.le_of_ble_eq_true rfl)
  rw [lg_entry_eq]
  generalize (lg_sl ([.ref h]) ++ List.replicate (3 - (lg_sl ([.ref h])).length) Slot.unset).toArray = ls at hl ⊢
  have hl : lv_has ls 3 [(0, .ref h)] := hl
  have hi_X0 : ∀ w ∈ u_ws RX0 TX0 3, w ∈ wsX0_roll := by decide +kernel
  have hf_15 := hts (.fieldLink RX0 15 "Topplemoor$Heap" "times" "[I") (by decide +kernel)
  have hc_51 := hts (.constant RX0 51 (1000000)) (by decide +kernel)
  refine lv_aload_n hx hb dX0_roll_0 rfl (lv_at hl 0 rfl) ?_
  refine va_get (D := (dC, dI)) (ci := kX0) (v := .ref t) (C := RX0) (T := TX0) (N := 3) hx hb hts hi_X0 hown hK hP 0 rfl rfl 1 (by decide) hf_15 (fun _ h9 => h9) rfl dX0_roll_1 ?_
  refine lv_iconst (v := 0) hx hb dX0_roll_4 (by decide) ?_
  refine kt_callSv (w' := wHM h g t G (it (fillS 0) 6 T) cI cII mo eo dg to er n E DG) (rest := []) (As := [.ref t, .int 0]) ⟨hx, hb, hml, hown, hts⟩ (c_J7_fill_53178 l dC dI cI cII cJ cJJ t T 0 _ ) (va_cwS 2 hts gX0_roll_J7_fill_53178 rfl rfl rfl (by decide +kernel) ⟨Nat.le_of_ble_eq_true rfl, Nat.le_of_ble_eq_true rfl⟩) hK hP hD hS hA [2] sw_wHM_wA_0 rfl rfl rfl hl.1 (Nat.le_of_ble_eq_true rfl) dX0_roll_5 ⟨Nat.zero_le _, Nat.zero_le _⟩ (fun H locs hP hD hS => ?_)
  obtain ⟨hP, hD⟩ := kt_chg (fun _ => 0) hP hD 2 rfl (fun j hj => fill_at 0 T 6 j hj)
  have hP : va_P (dC, dI) vwCl (wHM h g t G (fun _ => 0) cI cII mo eo dg to er n E DG) H := hP
  have hD : va_D A (wHM h g t G (fun _ => 0) cI cII mo eo dg to er n E DG) := hD
  refine lv_iconst (v := nI 1) hx hb dX0_roll_8 (by decide) ?_
  refine lv_istore_n (lv' := [(1, .int (nI 1)), (0, .ref h)]) hx hb dX0_roll_9 rfl hl (by decide) rfl (fun ls hl => ?_)
  refine lv_iconst (v := nI 0) hx hb dX0_roll_10 (by decide) ?_
  refine lv_istore_n (lv' := [(2, .int (nI 0)), (1, .int (nI 1)), (0, .ref h)]) hx hb dX0_roll_11 rfl hl (by decide) rfl (fun ls hl => ?_)
  refine kt_loop (σ := Nat × S3) (μ := fun x => rounds - x.1) (I := fun x => x.1 ≤ rounds ∧ rollR n E DG (rounds - x.1) x.2 = rollF n E DG G) (WD := fun x => wHM h g t x.2.1 x.2.2.1 cI cII mo eo dg to er n E DG) (LV := fun x => [(0, .ref h), (1, .int x.2.2.2), (2, .int (nI x.1))]) (nL := 3) (hd := 12) ?_ (⟨0, (G, (fun _ => 0), 1)⟩) (⟨Nat.zero_le _, rfl⟩) hP hD hS (lv_sub hl [2, 1, 0] rfl)
  intro x hI ih_r H locs ls hP hD hS hl
  obtain ⟨r, X⟩ := x
  have hI : r ≤ rounds ∧ rollR n E DG (rounds - r) X = rollF n E DG G := hI
  have hP : va_P (dC, dI) vwCl (wHM h g t X.1 X.2.1 cI cII mo eo dg to er n E DG) H := hP
  have hD : va_D A (wHM h g t X.1 X.2.1 cI cII mo eo dg to er n E DG) := hD
  have hl : lv_has ls 3 [(0, .ref h), (1, .int X.2.2), (2, .int (nI r))] := hl
  have hR := rounds_eq
  have hI1 := hI.1
  refine lv_iload_n hx hb dX0_roll_12 rfl (lv_at hl 1 rfl) ?_
  refine lv_if_eq (tgt := 33) hx hb dX0_roll_13 (by decide) (fun c13 => ?_) (fun c13 => ?_)
  · skip
    have e : rollF n E DG G = (X.1, X.2.1) := by first | (rw [← hI.2]; exact rollR_0 c13 _) | (rw [← hI.2, show rounds - r = 0 by omega]; rfl)
    exact kt_vret (W' := wHM h g t ((rollF n E DG G).1) ((rollF n E DG G).2) cI cII mo eo dg to er n E DG) hx hb hr hS (by rw [e]; exact hP) hK (by rw [e]; exact hD) hlocks dX0_roll_33
  · skip
    refine lv_iload_n hx hb dX0_roll_16 rfl (lv_at hl 2 rfl) ?_
    refine lv_ldc (v := nI 1000000) hx hb hown hc_51 dX0_roll_17 ?_
    refine kt_ige (i := r) (n := 1000000) (tgt := 33) hx hb (by omega) (by omega) dX0_roll_19 (by decide) (fun cg => ?_) (fun cg => ?_)
    · skip
      have e : rollF n E DG G = (X.1, X.2.1) := by first | (rw [← hI.2]; exact rollR_0 c13 _) | (rw [← hI.2, show rounds - r = 0 by omega]; rfl)
      exact kt_vret (W' := wHM h g t ((rollF n E DG G).1) ((rollF n E DG G).2) cI cII mo eo dg to er n E DG) hx hb hr hS (by rw [e]; exact hP) hK (by rw [e]; exact hD) hlocks dX0_roll_33
    · skip
      refine lv_aload_n hx hb dX0_roll_22 rfl (lv_at hl 0 rfl) ?_
      refine kt_calli (w' := wHM h g t ((rr n E DG X.1 X.2.1 n).1) ((rr n E DG X.1 X.2.1 n).2.1) cI cII mo eo dg to er n E DG) (rest := []) (As := []) ⟨hx, hb, hml, hown, hts⟩ (c_X0_rollRound l dC dI cI cII cJ cJJ h g t X.1 X.2.1 mo eo dg to er n E DG _ (hn)) (cwV 0 hts gX0_roll_X0_rollRound rfl rfl rfl (by decide +kernel) ⟨Nat.le_of_ble_eq_true rfl, Nat.le_of_ble_eq_true rfl⟩) hK hP hD hS hA (List.range' 0 13) sw_wHM_wHM_0 rfl 0 kX0 rfl rfl rfl rfl rfl hl.1 (Nat.le_of_ble_eq_true rfl) dX0_roll_23 ⟨Nat.zero_le _, Nat.zero_le _⟩ (fun H locs hP hD hS => ?_)
      refine lv_istore_n (lv' := [(1, .int ((rr n E DG X.1 X.2.1 n).2.2)), (0, .ref h), (2, .int (nI r))]) hx hb dX0_roll_26 rfl hl (by decide) rfl (fun ls hl => ?_)
      refine lv_iinc (v := nI (r + 1)) (lv' := [(2, .int (nI (r + 1))), (1, .int ((rr n E DG X.1 X.2.1 n).2.2)), (0, .ref h)]) hx hb dX0_roll_27 hl (k := 2) rfl (kt_inc _) (by decide) rfl (fun ls hl => ?_)
      refine lv_goto (tgt := 12) hx hb dX0_roll_30 (by decide) ?_
      exact ih_r ⟨r + 1, rr n E DG X.1 X.2.1 n⟩ H locs ls (by show rounds - (r + 1) < rounds - r; omega) (⟨by omega, by show rollR n E DG (rounds - (r + 1)) _ = _; rw [show rounds - (r + 1) = rounds - r - 1 by omega, ← rollR_1 c13 (by omega)]; exact hI.2⟩) hP hD hS (lv_sub hl [2, 1, 0] rfl)

set_option maxHeartbeats 4000000 in
set_option maxRecDepth 100000 in
theorem c_X0_becomeNeutral (l : Launch) (dC : Nat → ClassId) (dI : Nat → Nat → Nat) (cI cII cJ cJJ : ClassId) (h : Nat) (g : Nat) (t : Nat) (G : Nat → Int32) (T : Nat → Int32) (mo : Nat) (eo : Nat) (dg : Nat) (to : Nat) (er : Nat → Nat) (n : Nat) (E : Nat → Nat → Int32) (DG : Nat → Int32) (sz : Nat) (hn : n ≤ 6) : Met l yX0_becomeNeutral wsX0_becomeNeutral ({ frames := 3, cells := 0, slots := 0, locals := 69 }) (va_Pc [.ref h] (PRE (dC, dI) (tyL cI cII cJ cJJ) (wHM h g t G T cI cII mo eo dg to er n E DG) sz)) (va_Qv (fun (_ : Unit) => True) (fun _ tS => ATW (dC, dI) (tyL cI cII cJ cJJ) (va_A (wHM h g t G T cI cII mo eo dg to er n E DG) sz) (wHM h g t ((neutF n E DG G).1) ((neutF n E DG G).2) cI cII mo eo dg to er n E DG) tS) (va_A (wHM h g t G T cI cII mo eo dg to er n E DG) sz)) 0 0 (va_A (wHM h g t G T cI cII mo eo dg to er n E DG) sz) := by
  refine Met.ofW (cc := cX0_becomeNeutral) (maxL := 2) (ret := none) (by decide) rfl ?_
  intro p e s m args below meth c s₁ B hml hv
  obtain ⟨rfl, hsz, hP, hK, hD0⟩ := hv
  have hx := B.exec
  have hb := B.bytes
  have hr := B.returns
  have hlocks := B.notSynchronized
  have hts := atoms_spec (ws := wsX0_becomeNeutral) B.pre
  have hown : s.vm.findClass RX0 = some m.cls := findClass_of_methodNamed B.named
  subst hsz
  have hD := hD0.self (sz := s.heap.size)
  generalize hAe : va_A (wHM h g t G T cI cII mo eo dg to er n E DG) s.heap.size = A at hD ⊢
  have hA : ∀ q : Nat, s.heap.size ≤ q → A q := fun q h => by rw [← hAe]; exact Or.inr h
  have hS : va_S A s.heap s.heap [] := va_S.rf
  have hl := lv_entry ([.ref h]) (n := 2) (Nat.le_of_ble_eq_true rfl)
  rw [lg_entry_eq]
  generalize (lg_sl ([.ref h]) ++ List.replicate (2 - (lg_sl ([.ref h])).length) Slot.unset).toArray = ls at hl ⊢
  have hl : lv_has ls 2 [(0, .ref h)] := hl
  have hi_X0 : ∀ w ∈ u_ws RX0 TX0 3, w ∈ wsX0_becomeNeutral := by decide +kernel
  have hf_18 := hts (.fieldLink RX0 18 "Topplemoor$Heap" "moor" "LTopplemoor$Moor;") (by decide +kernel)
  have hi_X2 : ∀ w ∈ u_ws RX2 TX2 4, w ∈ wsX0_becomeNeutral := by decide +kernel
  have hf_28 := hts (.fieldLink RX0 28 "Topplemoor$Moor" "spots" "I") (by decide +kernel)
  have hf_9 := hts (.fieldLink RX0 9 "Topplemoor$Heap" "grains" "[I") (by decide +kernel)
  have hf_38 := hts (.fieldLink RX0 38 "Topplemoor$Moor" "degrees" "[I") (by decide +kernel)
  refine lv_iconst (v := nI 0) hx hb dX0_becomeNeutral_0 (by decide) ?_
  refine lv_istore_n (lv' := [(1, .int (nI 0)), (0, .ref h)]) hx hb dX0_becomeNeutral_1 rfl hl (by decide) rfl (fun ls hl => ?_)
  refine kt_for (n := n) (WD := fun (i : Nat) => wHM h g t (it (maxS DG) i G) T cI cII mo eo dg to er n E DG) (LV := fun (i : Nat) => [(0, .ref h), (1, .int (nI i))]) (nL := 2) (hd := 2) ?_ hP hD hS (lv_sub hl [1, 0] rfl)
  intro i hle_i ih_i H locs ls hP hD hS hl
  have hP : va_P (dC, dI) vwCl (wHM h g t (it (maxS DG) i G) T cI cII mo eo dg to er n E DG) H := hP
  have hD : va_D A (wHM h g t (it (maxS DG) i G) T cI cII mo eo dg to er n E DG) := hD
  have hl : lv_has ls 2 [(0, .ref h), (1, .int (nI i))] := hl
  refine lv_iload_n hx hb dX0_becomeNeutral_2 rfl (lv_at hl 1 rfl) ?_
  refine lv_aload_n hx hb dX0_becomeNeutral_3 rfl (lv_at hl 0 rfl) ?_
  refine va_get (D := (dC, dI)) (ci := kX0) (v := .ref mo) (C := RX0) (T := TX0) (N := 3) hx hb hts hi_X0 hown hK hP 0 rfl rfl 2 (by decide) hf_18 (fun _ h9 => h9) rfl dX0_becomeNeutral_4 ?_
  refine va_get (D := (dC, dI)) (ci := kX2) (v := .int (nI n)) (C := RX2) (T := TX2) (N := 4) hx hb hts hi_X2 hown hK hP 3 rfl rfl 0 (by decide) hf_28 (fun _ h9 => h9) rfl dX0_becomeNeutral_7 ?_
  refine kt_ige (tgt := 38) hx hb (by omega) (by omega) dX0_becomeNeutral_10 (by decide) (fun hge_i => ?_) (fun hlt_i => ?_)
  · have e_i : n = i := by omega
    subst e_i
    refine lv_aload_n hx hb dX0_becomeNeutral_38 rfl (lv_at hl 0 rfl) ?_
    refine kt_callv (w' := wHM h g t ((rollF n E DG (it (maxS DG) n G)).1) ((rollF n E DG (it (maxS DG) n G)).2) cI cII mo eo dg to er n E DG) (rest := []) (As := []) ⟨hx, hb, hml, hown, hts⟩ (c_X0_roll l dC dI cI cII cJ cJJ h g t (it (maxS DG) n G) T mo eo dg to er n E DG _ (hn)) (cwV 0 hts gX0_becomeNeutral_X0_roll rfl rfl rfl (by decide +kernel) ⟨Nat.le_of_ble_eq_true rfl, Nat.le_of_ble_eq_true rfl⟩) hK hP hD hS hA (List.range' 0 13) sw_wHM_wHM_0 rfl 0 kX0 rfl rfl rfl rfl rfl hl.1 (Nat.le_of_ble_eq_true rfl) dX0_becomeNeutral_39 ⟨Nat.zero_le _, Nat.zero_le _⟩ (fun H locs hP hD hS => ?_)
    refine lv_iconst (v := nI 0) hx hb dX0_becomeNeutral_42 (by decide) ?_
    refine lv_istore_n (lv' := [(1, .int (nI 0)), (0, .ref h)]) hx hb dX0_becomeNeutral_43 rfl hl (by decide) rfl (fun ls hl => ?_)
    refine kt_for (n := n) (WD := fun (i : Nat) => wHM h g t (it (offS DG) i (rollF n E DG (it (maxS DG) n G)).1) ((rollF n E DG (it (maxS DG) n G)).2) cI cII mo eo dg to er n E DG) (LV := fun (i : Nat) => [(0, .ref h), (1, .int (nI i))]) (nL := 2) (hd := 44) ?_ hP hD hS (lv_sub hl [1, 0] rfl)
    intro i hle_i ih_i H locs ls hP hD hS hl
    have hP : va_P (dC, dI) vwCl (wHM h g t (it (offS DG) i (rollF n E DG (it (maxS DG) n G)).1) ((rollF n E DG (it (maxS DG) n G)).2) cI cII mo eo dg to er n E DG) H := hP
    have hD : va_D A (wHM h g t (it (offS DG) i (rollF n E DG (it (maxS DG) n G)).1) ((rollF n E DG (it (maxS DG) n G)).2) cI cII mo eo dg to er n E DG) := hD
    have hl : lv_has ls 2 [(0, .ref h), (1, .int (nI i))] := hl
    refine lv_iload_n hx hb dX0_becomeNeutral_44 rfl (lv_at hl 1 rfl) ?_
    refine lv_aload_n hx hb dX0_becomeNeutral_45 rfl (lv_at hl 0 rfl) ?_
    refine va_get (D := (dC, dI)) (ci := kX0) (v := .ref mo) (C := RX0) (T := TX0) (N := 3) hx hb hts hi_X0 hown hK hP 0 rfl rfl 2 (by decide) hf_18 (fun _ h9 => h9) rfl dX0_becomeNeutral_46 ?_
    refine va_get (D := (dC, dI)) (ci := kX2) (v := .int (nI n)) (C := RX2) (T := TX2) (N := 4) hx hb hts hi_X2 hown hK hP 3 rfl rfl 0 (by decide) hf_28 (fun _ h9 => h9) rfl dX0_becomeNeutral_49 ?_
    refine kt_ige (tgt := 87) hx hb (by omega) (by omega) dX0_becomeNeutral_52 (by decide) (fun hge_i => ?_) (fun hlt_i => ?_)
    · have e_i : n = i := by omega
      subst e_i
      refine lv_aload_n hx hb dX0_becomeNeutral_87 rfl (lv_at hl 0 rfl) ?_
      refine kt_callv (w' := wHM h g t ((rollF n E DG (it (offS DG) n (rollF n E DG (it (maxS DG) n G)).1)).1) ((rollF n E DG (it (offS DG) n (rollF n E DG (it (maxS DG) n G)).1)).2) cI cII mo eo dg to er n E DG) (rest := []) (As := []) ⟨hx, hb, hml, hown, hts⟩ (c_X0_roll l dC dI cI cII cJ cJJ h g t (it (offS DG) n (rollF n E DG (it (maxS DG) n G)).1) ((rollF n E DG (it (maxS DG) n G)).2) mo eo dg to er n E DG _ (hn)) (cwV 0 hts gX0_becomeNeutral_X0_roll rfl rfl rfl (by decide +kernel) ⟨Nat.le_of_ble_eq_true rfl, Nat.le_of_ble_eq_true rfl⟩) hK hP hD hS hA (List.range' 0 13) sw_wHM_wHM_0 rfl 0 kX0 rfl rfl rfl rfl rfl hl.1 (Nat.le_of_ble_eq_true rfl) dX0_becomeNeutral_88 ⟨Nat.zero_le _, Nat.zero_le _⟩ (fun H locs hP hD hS => ?_)
      exact kt_vret (W' := wHM h g t ((neutF n E DG G).1) ((neutF n E DG G).2) cI cII mo eo dg to er n E DG) hx hb hr hS hP hK hD hlocks dX0_becomeNeutral_91
    · skip
      refine lv_aload_n hx hb dX0_becomeNeutral_55 rfl (lv_at hl 0 rfl) ?_
      refine va_get (D := (dC, dI)) (ci := kX0) (v := .ref g) (C := RX0) (T := TX0) (N := 3) hx hb hts hi_X0 hown hK hP 0 rfl rfl 0 (by decide) hf_9 (fun _ h9 => h9) rfl dX0_becomeNeutral_56 ?_
      refine lv_iload_n hx hb dX0_becomeNeutral_59 rfl (lv_at hl 1 rfl) ?_
      refine lv_iconst (v := 2) hx hb dX0_becomeNeutral_60 (by decide) ?_
      refine lv_aload_n hx hb dX0_becomeNeutral_61 rfl (lv_at hl 0 rfl) ?_
      refine va_get (D := (dC, dI)) (ci := kX0) (v := .ref mo) (C := RX0) (T := TX0) (N := 3) hx hb hts hi_X0 hown hK hP 0 rfl rfl 2 (by decide) hf_18 (fun _ h9 => h9) rfl dX0_becomeNeutral_62 ?_
      refine va_get (D := (dC, dI)) (ci := kX2) (v := .ref dg) (C := RX2) (T := TX2) (N := 4) hx hb hts hi_X2 hown hK hP 3 rfl rfl 2 (by decide) hf_38 (fun _ h9 => h9) rfl dX0_becomeNeutral_65 ?_
      refine lv_iload_n hx hb dX0_becomeNeutral_68 rfl (lv_at hl 1 rfl) ?_
      refine kt_iald hx hb hK hP 12 0 rfl rfl (by omega) (by decide) dX0_becomeNeutral_69 ?_
      refine lv_iconst (v := 1) hx hb dX0_becomeNeutral_70 (by decide) ?_
      refine lv_isub hx hb dX0_becomeNeutral_71 ?_
      refine lv_imul hx hb dX0_becomeNeutral_72 ?_
      refine lv_aload_n hx hb dX0_becomeNeutral_73 rfl (lv_at hl 0 rfl) ?_
      refine va_get (D := (dC, dI)) (ci := kX0) (v := .ref g) (C := RX0) (T := TX0) (N := 3) hx hb hts hi_X0 hown hK hP 0 rfl rfl 0 (by decide) hf_9 (fun _ h9 => h9) rfl dX0_becomeNeutral_74 ?_
      refine lv_iload_n hx hb dX0_becomeNeutral_77 rfl (lv_at hl 1 rfl) ?_
      refine kt_iald hx hb hK hP 1 0 rfl rfl (by omega) (by decide) dX0_becomeNeutral_78 ?_
      refine lv_isub hx hb dX0_becomeNeutral_79 ?_
      refine kt_iast hx hb hK hP hD hS 1 0 rfl rfl (by omega) (by decide) dX0_becomeNeutral_80 (fun H locs hP hD hS => ?_)
      have hP : va_P (dC, dI) vwCl (wHM h g t (upd (it (offS DG) i (rollF n E DG (it (maxS DG) n G)).1) i ((2 * ((DG i) - 1)) - ((it (offS DG) i (rollF n E DG (it (maxS DG) n G)).1) i))) ((rollF n E DG (it (maxS DG) n G)).2) cI cII mo eo dg to er n E DG) H := hP
      have hD : va_D A (wHM h g t (upd (it (offS DG) i (rollF n E DG (it (maxS DG) n G)).1) i ((2 * ((DG i) - 1)) - ((it (offS DG) i (rollF n E DG (it (maxS DG) n G)).1) i))) ((rollF n E DG (it (maxS DG) n G)).2) cI cII mo eo dg to er n E DG) := hD
      refine lv_iinc (v := nI (i + 1)) (lv' := [(1, .int (nI (i + 1))), (0, .ref h)]) hx hb dX0_becomeNeutral_81 hl (k := 1) rfl (kt_inc _) (by decide) rfl (fun ls hl => ?_)
      refine lv_goto (tgt := 44) hx hb dX0_becomeNeutral_84 (by decide) ?_
      exact ih_i H locs ls hlt_i hP hD hS (lv_sub hl [1, 0] rfl)
  · skip
    refine lv_aload_n hx hb dX0_becomeNeutral_13 rfl (lv_at hl 0 rfl) ?_
    refine va_get (D := (dC, dI)) (ci := kX0) (v := .ref g) (C := RX0) (T := TX0) (N := 3) hx hb hts hi_X0 hown hK hP 0 rfl rfl 0 (by decide) hf_9 (fun _ h9 => h9) rfl dX0_becomeNeutral_14 ?_
    refine lv_iload_n hx hb dX0_becomeNeutral_17 rfl (lv_at hl 1 rfl) ?_
    refine lv_iconst (v := 2) hx hb dX0_becomeNeutral_18 (by decide) ?_
    refine lv_aload_n hx hb dX0_becomeNeutral_19 rfl (lv_at hl 0 rfl) ?_
    refine va_get (D := (dC, dI)) (ci := kX0) (v := .ref mo) (C := RX0) (T := TX0) (N := 3) hx hb hts hi_X0 hown hK hP 0 rfl rfl 2 (by decide) hf_18 (fun _ h9 => h9) rfl dX0_becomeNeutral_20 ?_
    refine va_get (D := (dC, dI)) (ci := kX2) (v := .ref dg) (C := RX2) (T := TX2) (N := 4) hx hb hts hi_X2 hown hK hP 3 rfl rfl 2 (by decide) hf_38 (fun _ h9 => h9) rfl dX0_becomeNeutral_23 ?_
    refine lv_iload_n hx hb dX0_becomeNeutral_26 rfl (lv_at hl 1 rfl) ?_
    refine kt_iald hx hb hK hP 12 0 rfl rfl (by omega) (by decide) dX0_becomeNeutral_27 ?_
    refine lv_iconst (v := 1) hx hb dX0_becomeNeutral_28 (by decide) ?_
    refine lv_isub hx hb dX0_becomeNeutral_29 ?_
    refine lv_imul hx hb dX0_becomeNeutral_30 ?_
    refine kt_iast hx hb hK hP hD hS 1 0 rfl rfl (by omega) (by decide) dX0_becomeNeutral_31 (fun H locs hP hD hS => ?_)
    have hP : va_P (dC, dI) vwCl (wHM h g t (upd (it (maxS DG) i G) i (2 * ((DG i) - 1))) T cI cII mo eo dg to er n E DG) H := hP
    have hD : va_D A (wHM h g t (upd (it (maxS DG) i G) i (2 * ((DG i) - 1))) T cI cII mo eo dg to er n E DG) := hD
    refine lv_iinc (v := nI (i + 1)) (lv' := [(1, .int (nI (i + 1))), (0, .ref h)]) hx hb dX0_becomeNeutral_32 hl (k := 1) rfl (kt_inc _) (by decide) rfl (fun ls hl => ?_)
    refine lv_goto (tgt := 2) hx hb dX0_becomeNeutral_35 (by decide) ?_
    exact ih_i H locs ls hlt_i hP hD hS (lv_sub hl [1, 0] rfl)
