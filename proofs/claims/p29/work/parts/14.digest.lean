set_option maxHeartbeats 4000000 in
set_option maxRecDepth 100000 in
theorem c_X4_rollTrialWith (l : Launch) (dC : Nat → ClassId) (dI : Nat → Nat → Nat) (cI cII cJ cJJ : ClassId) (tp : Nat) (ly : Nat) (lyg : Nat) (lyt : Nat) (LYG : Nat → Int32) (LYT : Nat → Int32) (tl : Nat) (tlg : Nat) (tlt : Nat) (TLG : Nat → Int32) (TLT : Nat → Int32) (ne : Nat) (neg : Nat) (net : Nat) (NEG : Nat → Int32) (NET : Nat → Int32) (su : Nat) (sug : Nat) (sut : Nat) (SUG : Nat → Int32) (SUT : Nat → Int32) (kp : Nat) (kr : Nat → Nat) (KH : Nat → Nat → Int32) (km : Nat) (sw : Int32) (tps : Int32) (rt : Nat) (pl : Nat) (P : Nat → Int32) (st : Int32) (my : Nat) (co : Nat) (C : Nat → Int32) (la : Nat) (lag : Nat) (lat : Nat) (LG : Nat → Int32) (LT : Nat → Int32) (po : Nat) (pog : Nat) (pot : Nat) (OG : Nat → Int32) (OT : Nat → Int32) (mo : Nat) (eo : Nat) (dg : Nat) (to : Nat) (er : Nat → Nat) (n : Nat) (E : Nat → Nat → Int32) (DG : Nat → Int32) (tr : Nat → Nat) (T : Nat → Nat → Int64) (j : Nat) (q : Int32) (sz : Nat) (hn : n ≤ 6) (hj : j < n) : Met l yX4_rollTrialWith wsX4_rollTrialWith ({ frames := 3, cells := 0, slots := 0, locals := 69 }) (va_Pc [.ref tp, .int (nI j), .int q] (PRE (dC, dI) (tyL cI cII cJ cJJ) (wTop tp ly lyg lyt LYG LYT tl tlg tlt TLG TLT ne neg net NEG NET su sug sut SUG SUT kp kr KH km sw tps rt pl P st my co C la lag lat LG LT po pog pot OG OT cJ cJJ cI cII mo eo dg to er n E DG tr T) sz)) (va_Qv (fun (_ : Unit) => True) (fun _ tS => ATW (dC, dI) (tyL cI cII cJ cJJ) (va_A (wTop tp ly lyg lyt LYG LYT tl tlg tlt TLG TLT ne neg net NEG NET su sug sut SUG SUT kp kr KH km sw tps rt pl P st my co C la lag lat LG LT po pog pot OG OT cJ cJJ cI cII mo eo dg to er n E DG tr T) sz) (wTop tp ly lyg lyt LYG LYT tl tlg tlt ((wouldR n E DG LYG j q).1) ((wouldR n E DG LYG j q).2) ne neg net NEG NET su sug sut SUG SUT kp kr KH km sw tps rt pl P st my co C la lag lat LG LT po pog pot OG OT cJ cJJ cI cII mo eo dg to er n E DG tr T) tS) (va_A (wTop tp ly lyg lyt LYG LYT tl tlg tlt TLG TLT ne neg net NEG NET su sug sut SUG SUT kp kr KH km sw tps rt pl P st my co C la lag lat LG LT po pog pot OG OT cJ cJJ cI cII mo eo dg to er n E DG tr T) sz)) 0 0 (va_A (wTop tp ly lyg lyt LYG LYT tl tlg tlt TLG TLT ne neg net NEG NET su sug sut SUG SUT kp kr KH km sw tps rt pl P st my co C la lag lat LG LT po pog pot OG OT cJ cJJ cI cII mo eo dg to er n E DG tr T) sz) := by
  refine Met.ofW (cc := cX4_rollTrialWith) (maxL := 3) (ret := none) (by decide) rfl ?_
  intro p e s m args below meth c s₁ B hml hv
  obtain ⟨rfl, hsz, hP, hK, hD0⟩ := hv
  have hx := B.exec
  have hb := B.bytes
  have hr := B.returns
  have hlocks := B.notSynchronized
  have hts := atoms_spec (ws := wsX4_rollTrialWith) B.pre
  have hown : s.vm.findClass RX4 = some m.cls := findClass_of_methodNamed B.named
  subst hsz
  have hD := hD0.self (sz := s.heap.size)
  generalize hAe : va_A (wTop tp ly lyg lyt LYG LYT tl tlg tlt TLG TLT ne neg net NEG NET su sug sut SUG SUT kp kr KH km sw tps rt pl P st my co C la lag lat LG LT po pog pot OG OT cJ cJJ cI cII mo eo dg to er n E DG tr T) s.heap.size = A at hD ⊢
  have hA : ∀ q : Nat, s.heap.size ≤ q → A q := fun q h => by rw [← hAe]; exact Or.inr h
  have hS : va_S A s.heap s.heap [] := va_S.rf
  have hl := lv_entry ([.ref tp, .int (nI j), .int q]) (n := 3) (Nat.le_of_ble_eq_true rfl)
  rw [lg_entry_eq]
  generalize (lg_sl ([.ref tp, .int (nI j), .int q]) ++ List.replicate (3 - (lg_sl ([.ref tp, .int (nI j), .int q])).length) Slot.unset).toArray = ls at hl ⊢
  have hl : lv_has ls 3 [(0, .ref tp), (1, .int (nI j)), (2, .int q)] := hl
  have hi_X4 : ∀ w ∈ u_ws RX4 TX4 11, w ∈ wsX4_rollTrialWith := by decide +kernel
  have hf_25 := hts (.fieldLink RX4 25 "Topplemoor" "trial" "LTopplemoor$Heap;") (by decide +kernel)
  have hf_21 := hts (.fieldLink RX4 21 "Topplemoor" "lying" "LTopplemoor$Heap;") (by decide +kernel)
  have hi_X0 : ∀ w ∈ u_ws RX0 TX0 3, w ∈ wsX4_rollTrialWith := by decide +kernel
  have hf_89 := hts (.fieldLink RX4 89 "Topplemoor$Heap" "grains" "[I") (by decide +kernel)
  refine lv_aload_n hx hb dX4_rollTrialWith_0 rfl (lv_at hl 0 rfl) ?_
  refine va_get (D := (dC, dI)) (ci := kX4) (v := .ref tl) (C := RX4) (T := TX4) (N := 11) hx hb hts hi_X4 hown hK hP 0 rfl rfl 2 (by decide) hf_25 (fun _ h9 => h9) rfl dX4_rollTrialWith_1 ?_
  refine lv_aload_n hx hb dX4_rollTrialWith_4 rfl (lv_at hl 0 rfl) ?_
  refine va_get (D := (dC, dI)) (ci := kX4) (v := .ref ly) (C := RX4) (T := TX4) (N := 11) hx hb hts hi_X4 hown hK hP 0 rfl rfl 1 (by decide) hf_21 (fun _ h9 => h9) rfl dX4_rollTrialWith_5 ?_
  refine va_get (D := (dC, dI)) (ci := kX0) (v := .ref lyg) (C := RX0) (T := TX0) (N := 3) hx hb hts hi_X0 hown hK hP 1 rfl rfl 0 (by decide) hf_89 (fun _ h9 => h9) rfl dX4_rollTrialWith_8 ?_
  refine kt_callv (w' := wTop tp ly lyg lyt LYG LYT tl tlg tlt LYG TLT ne neg net NEG NET su sug sut SUG SUT kp kr KH km sw tps rt pl P st my co C la lag lat LG LT po pog pot OG OT cJ cJJ cI cII mo eo dg to er n E DG tr T) (rest := []) (As := [.ref lyg]) ⟨hx, hb, hml, hown, hts⟩ (c_X0_copyRow l dC dI cI cII cJ cJJ tl tlg tlt TLG TLT lyg LYG mo eo dg to er n E DG _ ) (cwV 1 hts gX4_rollTrialWith_X0_copyRow rfl rfl rfl (by decide +kernel) ⟨Nat.le_of_ble_eq_true rfl, Nat.le_of_ble_eq_true rfl⟩) hK hP hD hS hA [4, 5, 6, 2, 28, 29, 30, 31, 32, 33, 34, 35, 36, 37] sw_wTop_wHMr_0 rfl 4 kX0 rfl rfl rfl rfl rfl hl.1 (Nat.le_of_ble_eq_true rfl) dX4_rollTrialWith_11 ⟨Nat.zero_le _, Nat.zero_le _⟩ (fun H locs hP hD hS => ?_)
  refine lv_aload_n hx hb dX4_rollTrialWith_14 rfl (lv_at hl 0 rfl) ?_
  refine va_get (D := (dC, dI)) (ci := kX4) (v := .ref tl) (C := RX4) (T := TX4) (N := 11) hx hb hts hi_X4 hown hK hP 0 rfl rfl 2 (by decide) hf_25 (fun _ h9 => h9) rfl dX4_rollTrialWith_15 ?_
  refine va_get (D := (dC, dI)) (ci := kX0) (v := .ref tlg) (C := RX0) (T := TX0) (N := 3) hx hb hts hi_X0 hown hK hP 4 rfl rfl 0 (by decide) hf_89 (fun _ h9 => h9) rfl dX4_rollTrialWith_18 ?_
  refine lv_iload_n hx hb dX4_rollTrialWith_21 rfl (lv_at hl 1 rfl) ?_
  refine lv_dup2_11 hx hb dX4_rollTrialWith_22 rfl rfl ?_
  refine kt_iald hx hb hK hP 5 0 rfl rfl (by omega) (by decide) dX4_rollTrialWith_23 ?_
  refine lv_iload_n hx hb dX4_rollTrialWith_24 rfl (lv_at hl 2 rfl) ?_
  refine lv_iadd hx hb dX4_rollTrialWith_25 ?_
  refine kt_iast hx hb hK hP hD hS 5 0 rfl rfl (by omega) (by decide) dX4_rollTrialWith_26 (fun H locs hP hD hS => ?_)
  have hP : va_P (dC, dI) vwCl (wTop tp ly lyg lyt LYG LYT tl tlg tlt (upd LYG j ((LYG j) + q)) TLT ne neg net NEG NET su sug sut SUG SUT kp kr KH km sw tps rt pl P st my co C la lag lat LG LT po pog pot OG OT cJ cJJ cI cII mo eo dg to er n E DG tr T) H := hP
  have hD : va_D A (wTop tp ly lyg lyt LYG LYT tl tlg tlt (upd LYG j ((LYG j) + q)) TLT ne neg net NEG NET su sug sut SUG SUT kp kr KH km sw tps rt pl P st my co C la lag lat LG LT po pog pot OG OT cJ cJJ cI cII mo eo dg to er n E DG tr T) := hD
  refine lv_aload_n hx hb dX4_rollTrialWith_27 rfl (lv_at hl 0 rfl) ?_
  refine va_get (D := (dC, dI)) (ci := kX4) (v := .ref tl) (C := RX4) (T := TX4) (N := 11) hx hb hts hi_X4 hown hK hP 0 rfl rfl 2 (by decide) hf_25 (fun _ h9 => h9) rfl dX4_rollTrialWith_28 ?_
  refine kt_callv (w' := wTop tp ly lyg lyt LYG LYT tl tlg tlt ((rollF n E DG (upd LYG j ((LYG j) + q))).1) ((rollF n E DG (upd LYG j ((LYG j) + q))).2) ne neg net NEG NET su sug sut SUG SUT kp kr KH km sw tps rt pl P st my co C la lag lat LG LT po pog pot OG OT cJ cJJ cI cII mo eo dg to er n E DG tr T) (rest := []) (As := []) ⟨hx, hb, hml, hown, hts⟩ (c_X0_roll l dC dI cI cII cJ cJJ tl tlg tlt (upd LYG j ((LYG j) + q)) TLT mo eo dg to er n E DG _ (hn)) (cwV 0 hts gX4_rollTrialWith_X0_roll rfl rfl rfl (by decide +kernel) ⟨Nat.le_of_ble_eq_true rfl, Nat.le_of_ble_eq_true rfl⟩) hK hP hD hS hA [4, 5, 6, 28, 29, 30, 31, 32, 33, 34, 35, 36, 37] sw_wTop_wHM_1 rfl 4 kX0 rfl rfl rfl rfl rfl hl.1 (Nat.le_of_ble_eq_true rfl) dX4_rollTrialWith_31 ⟨Nat.zero_le _, Nat.zero_le _⟩ (fun H locs hP hD hS => ?_)
  exact kt_vret (W' := wTop tp ly lyg lyt LYG LYT tl tlg tlt ((wouldR n E DG LYG j q).1) ((wouldR n E DG LYG j q).2) ne neg net NEG NET su sug sut SUG SUT kp kr KH km sw tps rt pl P st my co C la lag lat LG LT po pog pot OG OT cJ cJJ cI cII mo eo dg to er n E DG tr T) hx hb hr hS hP hK hD hlocks dX4_rollTrialWith_34

set_option maxHeartbeats 4000000 in
set_option maxRecDepth 100000 in
theorem c_X4_digestNode (l : Launch) (dC : Nat → ClassId) (dI : Nat → Nat → Nat) (cI cII cJ cJJ : ClassId) (tp : Nat) (ly : Nat) (lyg : Nat) (lyt : Nat) (LYG : Nat → Int32) (LYT : Nat → Int32) (tl : Nat) (tlg : Nat) (tlt : Nat) (TLG : Nat → Int32) (TLT : Nat → Int32) (ne : Nat) (neg : Nat) (net : Nat) (NEG : Nat → Int32) (NET : Nat → Int32) (su : Nat) (sug : Nat) (sut : Nat) (SUG : Nat → Int32) (SUT : Nat → Int32) (kp : Nat) (kr : Nat → Nat) (KH : Nat → Nat → Int32) (km : Nat) (sw : Int32) (tps : Int32) (rt : Nat) (pl : Nat) (P : Nat → Int32) (st : Int32) (my : Nat) (co : Nat) (C : Nat → Int32) (la : Nat) (lag : Nat) (lat : Nat) (LG : Nat → Int32) (LT : Nat → Int32) (po : Nat) (pog : Nat) (pot : Nat) (OG : Nat → Int32) (OT : Nat → Int32) (mo : Nat) (eo : Nat) (dg : Nat) (to : Nat) (er : Nat → Nat) (n : Nat) (E : Nat → Nat → Int32) (DG : Nat → Int32) (tr : Nat → Nat) (T : Nat → Nat → Int64) (d : Int64) (nd : Nat) (sz : Nat) (hn : n ≤ 6) (hnd : nd < 7) : Met l yX4_digestNode wsX4_digestNode ({ frames := 0, cells := 0, slots := 0, locals := 0 }) (va_Pc [.ref tp, .long d, .int (nI nd)] (PRE (dC, dI) (tyL cI cII cJ cJJ) (wTop tp ly lyg lyt LYG LYT tl tlg tlt TLG TLT ne neg net NEG NET su sug sut SUG SUT kp kr KH km sw tps rt pl P st my co C la lag lat LG LT po pog pot OG OT cJ cJJ cI cII mo eo dg to er n E DG tr T) sz)) (va_Ql (fun (r' : Int64) (_ : Unit) => r' = nodeD n E C nd d) (fun _ tS => ATW (dC, dI) (tyL cI cII cJ cJJ) (va_A (wTop tp ly lyg lyt LYG LYT tl tlg tlt TLG TLT ne neg net NEG NET su sug sut SUG SUT kp kr KH km sw tps rt pl P st my co C la lag lat LG LT po pog pot OG OT cJ cJJ cI cII mo eo dg to er n E DG tr T) sz) (wTop tp ly lyg lyt LYG LYT tl tlg tlt TLG TLT ne neg net NEG NET su sug sut SUG SUT kp kr KH km sw tps rt pl P st my co C la lag lat LG LT po pog pot OG OT cJ cJJ cI cII mo eo dg to er n E DG tr T) tS) (va_A (wTop tp ly lyg lyt LYG LYT tl tlg tlt TLG TLT ne neg net NEG NET su sug sut SUG SUT kp kr KH km sw tps rt pl P st my co C la lag lat LG LT po pog pot OG OT cJ cJJ cI cII mo eo dg to er n E DG tr T) sz)) 0 0 (va_A (wTop tp ly lyg lyt LYG LYT tl tlg tlt TLG TLT ne neg net NEG NET su sug sut SUG SUT kp kr KH km sw tps rt pl P st my co C la lag lat LG LT po pog pot OG OT cJ cJJ cI cII mo eo dg to er n E DG tr T) sz) := by
  refine Met.ofW (cc := cX4_digestNode) (maxL := 7) (ret := (some .long)) (by decide) rfl ?_
  intro p e s m args below meth c s₁ B hml hv
  obtain ⟨rfl, hsz, hP, hK, hD0⟩ := hv
  have hx := B.exec
  have hb := B.bytes
  have hr := B.returns
  have hlocks := B.notSynchronized
  have hts := atoms_spec (ws := wsX4_digestNode) B.pre
  have hown : s.vm.findClass RX4 = some m.cls := findClass_of_methodNamed B.named
  subst hsz
  have hD := hD0.self (sz := s.heap.size)
  generalize hAe : va_A (wTop tp ly lyg lyt LYG LYT tl tlg tlt TLG TLT ne neg net NEG NET su sug sut SUG SUT kp kr KH km sw tps rt pl P st my co C la lag lat LG LT po pog pot OG OT cJ cJJ cI cII mo eo dg to er n E DG tr T) s.heap.size = A at hD ⊢
  have hA : ∀ q : Nat, s.heap.size ≤ q → A q := fun q h => by rw [← hAe]; exact Or.inr h
  have hS : va_S A s.heap s.heap [] := va_S.rf
  have hl := lv_entry ([.ref tp, .long d, .int (nI nd)]) (n := 7) (Nat.le_of_ble_eq_true rfl)
  rw [lg_entry_eq]
  generalize (lg_sl ([.ref tp, .long d, .int (nI nd)]) ++ List.replicate (7 - (lg_sl ([.ref tp, .long d, .int (nI nd)])).length) Slot.unset).toArray = ls at hl ⊢
  have hl : lv_has ls 7 [(0, .ref tp), (1, .long d), (3, .int (nI nd))] := hl
  have hc_208 := hts (.constantLong RX4 208 (31)) (by decide +kernel)
  have hi_X4 : ∀ w ∈ u_ws RX4 TX4 11, w ∈ wsX4_digestNode := by decide +kernel
  have hf_44 := hts (.fieldLink RX4 44 "Topplemoor" "money" "LTopplemoor$Money;") (by decide +kernel)
  have hi_X1 : ∀ w ∈ u_ws RX1 TX1 4, w ∈ wsX4_digestNode := by decide +kernel
  have hf_149 := hts (.fieldLink RX4 149 "Topplemoor$Money" "coins" "[I") (by decide +kernel)
  have hf_10 := hts (.fieldLink RX4 10 "Topplemoor" "moor" "LTopplemoor$Moor;") (by decide +kernel)
  have hi_X2 : ∀ w ∈ u_ws RX2 TX2 4, w ∈ wsX4_digestNode := by decide +kernel
  have hf_53 := hts (.fieldLink RX4 53 "Topplemoor$Moor" "spots" "I") (by decide +kernel)
  have hf_77 := hts (.fieldLink RX4 77 "Topplemoor$Moor" "edges" "[[I") (by decide +kernel)
  refine lv_lload_n hx hb dX4_digestNode_0 rfl (lv_at hl 1 rfl) ?_
  refine lv_ldc2 hx hb hown hc_208 dX4_digestNode_1 ?_
  refine lv_lmul hx hb dX4_digestNode_4 ?_
  refine lv_aload_n hx hb dX4_digestNode_5 rfl (lv_at hl 0 rfl) ?_
  refine va_get (D := (dC, dI)) (ci := kX4) (v := .ref my) (C := RX4) (T := TX4) (N := 11) hx hb hts hi_X4 hown hK hP 0 rfl rfl 6 (by decide) hf_44 (fun _ h9 => h9) rfl dX4_digestNode_6 ?_
  refine va_get (D := (dC, dI)) (ci := kX1) (v := .ref co) (C := RX1) (T := TX1) (N := 4) hx hb hts hi_X1 hown hK hP 20 rfl rfl 0 (by decide) hf_149 (fun _ h9 => h9) rfl dX4_digestNode_9 ?_
  refine lv_iload_n hx hb dX4_digestNode_12 rfl (lv_at hl 2 rfl) ?_
  refine kt_iald hx hb hK hP 21 0 rfl rfl (by omega) (by decide) dX4_digestNode_13 ?_
  refine lv_i2l (v := Int32.toInt64 (C nd)) hx hb dX4_digestNode_14 rfl ?_
  refine lv_ladd hx hb dX4_digestNode_15 ?_
  refine lv_lstore (lv' := [(4, .long ((d * 31) + (Int32.toInt64 (C nd)))), (0, .ref tp), (1, .long d), (3, .int (nI nd))]) hx hb dX4_digestNode_16 hl (by decide) rfl (fun ls hl => ?_)
  refine lv_iconst (v := nI 0) hx hb dX4_digestNode_18 (by decide) ?_
  refine lv_istore (lv' := [(6, .int (nI 0)), (4, .long ((d * 31) + (Int32.toInt64 (C nd)))), (0, .ref tp), (1, .long d), (3, .int (nI nd))]) hx hb dX4_digestNode_19 hl (by decide) rfl (fun ls hl => ?_)
  refine kt_for (n := n) (WD := fun (i : Nat) => wTop tp ly lyg lyt LYG LYT tl tlg tlt TLG TLT ne neg net NEG NET su sug sut SUG SUT kp kr KH km sw tps rt pl P st my co C la lag lat LG LT po pog pot OG OT cJ cJJ cI cII mo eo dg to er n E DG tr T) (LV := fun (i : Nat) => [(0, .ref tp), (3, .int (nI nd)), (4, .long (it (rowD E nd) i (d * 31 + Int32.toInt64 (C nd)))), (6, .int (nI i))]) (nL := 7) (hd := 21) ?_ hP hD hS (lv_sub hl [2, 4, 1, 0] rfl)
  intro i hle_i ih_i H locs ls hP hD hS hl
  have hP : va_P (dC, dI) vwCl (wTop tp ly lyg lyt LYG LYT tl tlg tlt TLG TLT ne neg net NEG NET su sug sut SUG SUT kp kr KH km sw tps rt pl P st my co C la lag lat LG LT po pog pot OG OT cJ cJJ cI cII mo eo dg to er n E DG tr T) H := hP
  have hD : va_D A (wTop tp ly lyg lyt LYG LYT tl tlg tlt TLG TLT ne neg net NEG NET su sug sut SUG SUT kp kr KH km sw tps rt pl P st my co C la lag lat LG LT po pog pot OG OT cJ cJJ cI cII mo eo dg to er n E DG tr T) := hD
  have hl : lv_has ls 7 [(0, .ref tp), (3, .int (nI nd)), (4, .long (it (rowD E nd) i (d * 31 + Int32.toInt64 (C nd)))), (6, .int (nI i))] := hl
  refine lv_iload hx hb dX4_digestNode_21 (lv_at hl 3 rfl) ?_
  refine lv_aload_n hx hb dX4_digestNode_23 rfl (lv_at hl 0 rfl) ?_
  refine va_get (D := (dC, dI)) (ci := kX4) (v := .ref mo) (C := RX4) (T := TX4) (N := 11) hx hb hts hi_X4 hown hK hP 0 rfl rfl 0 (by decide) hf_10 (fun _ h9 => h9) rfl dX4_digestNode_24 ?_
  refine va_get (D := (dC, dI)) (ci := kX2) (v := .int (nI n)) (C := RX2) (T := TX2) (N := 4) hx hb hts hi_X2 hown hK hP 28 rfl rfl 0 (by decide) hf_53 (fun _ h9 => h9) rfl dX4_digestNode_27 ?_
  refine kt_ige (tgt := 61) hx hb (by omega) (by omega) dX4_digestNode_30 (by decide) (fun hge_i => ?_) (fun hlt_i => ?_)
  · have e_i : n = i := by omega
    subst e_i
    refine lv_lload hx hb dX4_digestNode_61 (lv_at hl 2 rfl) ?_
    refine lv_ldc2 hx hb hown hc_208 dX4_digestNode_63 ?_
    refine lv_lmul hx hb dX4_digestNode_66 ?_
    refine lv_aload_n hx hb dX4_digestNode_67 rfl (lv_at hl 0 rfl) ?_
    refine va_get (D := (dC, dI)) (ci := kX4) (v := .ref mo) (C := RX4) (T := TX4) (N := 11) hx hb hts hi_X4 hown hK hP 0 rfl rfl 0 (by decide) hf_10 (fun _ h9 => h9) rfl dX4_digestNode_68 ?_
    refine va_get (D := (dC, dI)) (ci := kX2) (v := .ref eo) (C := RX2) (T := TX2) (N := 4) hx hb hts hi_X2 hown hK hP 28 rfl rfl 1 (by decide) hf_77 (fun _ h9 => h9) rfl dX4_digestNode_71 ?_
    refine lv_iload_n hx hb dX4_digestNode_74 rfl (lv_at hl 1 rfl) ?_
    refine kt_aald hx hb hK hP 29 1 rfl rfl (by omega) (by decide) dX4_digestNode_75 ?_
    refine lv_bipush (v := nI 6) hx hb dX4_digestNode_76 (by decide) ?_
    refine kt_iald hx hb hK hP (30 + nd) 0 (row_wTop_er (by omega)) rfl (by omega) (by decide) dX4_digestNode_78 ?_
    refine lv_i2l (v := Int32.toInt64 (E nd 6)) hx hb dX4_digestNode_79 rfl ?_
    refine lv_ladd hx hb dX4_digestNode_80 ?_
    exact kt_lret (W' := wTop tp ly lyg lyt LYG LYT tl tlg tlt TLG TLT ne neg net NEG NET su sug sut SUG SUT kp kr KH km sw tps rt pl P st my co C la lag lat LG LT po pog pot OG OT cJ cJJ cI cII mo eo dg to er n E DG tr T) hx hb hr hS hP hK hD (rfl) hlocks dX4_digestNode_81
  · skip
    refine lv_lload hx hb dX4_digestNode_33 (lv_at hl 2 rfl) ?_
    refine lv_ldc2 hx hb hown hc_208 dX4_digestNode_35 ?_
    refine lv_lmul hx hb dX4_digestNode_38 ?_
    refine lv_aload_n hx hb dX4_digestNode_39 rfl (lv_at hl 0 rfl) ?_
    refine va_get (D := (dC, dI)) (ci := kX4) (v := .ref mo) (C := RX4) (T := TX4) (N := 11) hx hb hts hi_X4 hown hK hP 0 rfl rfl 0 (by decide) hf_10 (fun _ h9 => h9) rfl dX4_digestNode_40 ?_
    refine va_get (D := (dC, dI)) (ci := kX2) (v := .ref eo) (C := RX2) (T := TX2) (N := 4) hx hb hts hi_X2 hown hK hP 28 rfl rfl 1 (by decide) hf_77 (fun _ h9 => h9) rfl dX4_digestNode_43 ?_
    refine lv_iload_n hx hb dX4_digestNode_46 rfl (lv_at hl 1 rfl) ?_
    refine kt_aald hx hb hK hP 29 1 rfl rfl (by omega) (by decide) dX4_digestNode_47 ?_
    refine lv_iload hx hb dX4_digestNode_48 (lv_at hl 3 rfl) ?_
    refine kt_iald hx hb hK hP (30 + nd) 0 (row_wTop_er (by omega)) rfl (by omega) (by decide) dX4_digestNode_50 ?_
    refine lv_i2l (v := Int32.toInt64 (E nd i)) hx hb dX4_digestNode_51 rfl ?_
    refine lv_ladd hx hb dX4_digestNode_52 ?_
    refine lv_lstore (lv' := [(4, .long (((it (rowD E nd) i (d * 31 + Int32.toInt64 (C nd))) * 31) + (Int32.toInt64 (E nd i)))), (0, .ref tp), (3, .int (nI nd)), (6, .int (nI i))]) hx hb dX4_digestNode_53 hl (by decide) rfl (fun ls hl => ?_)
    refine lv_iinc (v := nI (i + 1)) (lv' := [(6, .int (nI (i + 1))), (4, .long (((it (rowD E nd) i (d * 31 + Int32.toInt64 (C nd))) * 31) + (Int32.toInt64 (E nd i)))), (0, .ref tp), (3, .int (nI nd))]) hx hb dX4_digestNode_55 hl (k := 3) rfl (kt_inc _) (by decide) rfl (fun ls hl => ?_)
    refine lv_goto (tgt := 21) hx hb dX4_digestNode_58 (by decide) ?_
    exact ih_i H locs ls hlt_i hP hD hS (lv_sub hl [2, 3, 1, 0] rfl)

set_option maxHeartbeats 4000000 in
set_option maxRecDepth 100000 in
theorem c_X4_digestKept (l : Launch) (dC : Nat → ClassId) (dI : Nat → Nat → Nat) (cI cII cJ cJJ : ClassId) (tp : Nat) (ly : Nat) (lyg : Nat) (lyt : Nat) (LYG : Nat → Int32) (LYT : Nat → Int32) (tl : Nat) (tlg : Nat) (tlt : Nat) (TLG : Nat → Int32) (TLT : Nat → Int32) (ne : Nat) (neg : Nat) (net : Nat) (NEG : Nat → Int32) (NET : Nat → Int32) (su : Nat) (sug : Nat) (sut : Nat) (SUG : Nat → Int32) (SUT : Nat → Int32) (kp : Nat) (kr : Nat → Nat) (KH : Nat → Nat → Int32) (km : Nat) (sw : Int32) (tps : Int32) (rt : Nat) (pl : Nat) (P : Nat → Int32) (st : Int32) (my : Nat) (co : Nat) (C : Nat → Int32) (la : Nat) (lag : Nat) (lat : Nat) (LG : Nat → Int32) (LT : Nat → Int32) (po : Nat) (pog : Nat) (pot : Nat) (OG : Nat → Int32) (OT : Nat → Int32) (mo : Nat) (eo : Nat) (dg : Nat) (to : Nat) (er : Nat → Nat) (n : Nat) (E : Nat → Nat → Int32) (DG : Nat → Int32) (tr : Nat → Nat) (T : Nat → Nat → Int64) (d : Int64) (sz : Nat) (hn : n ≤ 6) (hkm : km ≤ 4) : Met l yX4_digestKept wsX4_digestKept ({ frames := 0, cells := 0, slots := 0, locals := 0 }) (va_Pc [.ref tp, .long d] (PRE (dC, dI) (tyL cI cII cJ cJJ) (wTop tp ly lyg lyt LYG LYT tl tlg tlt TLG TLT ne neg net NEG NET su sug sut SUG SUT kp kr KH km sw tps rt pl P st my co C la lag lat LG LT po pog pot OG OT cJ cJJ cI cII mo eo dg to er n E DG tr T) sz)) (va_Ql (fun (r' : Int64) (_ : Unit) => r' = keptD n km KH d) (fun _ tS => ATW (dC, dI) (tyL cI cII cJ cJJ) (va_A (wTop tp ly lyg lyt LYG LYT tl tlg tlt TLG TLT ne neg net NEG NET su sug sut SUG SUT kp kr KH km sw tps rt pl P st my co C la lag lat LG LT po pog pot OG OT cJ cJJ cI cII mo eo dg to er n E DG tr T) sz) (wTop tp ly lyg lyt LYG LYT tl tlg tlt TLG TLT ne neg net NEG NET su sug sut SUG SUT kp kr KH km sw tps rt pl P st my co C la lag lat LG LT po pog pot OG OT cJ cJJ cI cII mo eo dg to er n E DG tr T) tS) (va_A (wTop tp ly lyg lyt LYG LYT tl tlg tlt TLG TLT ne neg net NEG NET su sug sut SUG SUT kp kr KH km sw tps rt pl P st my co C la lag lat LG LT po pog pot OG OT cJ cJJ cI cII mo eo dg to er n E DG tr T) sz)) 0 0 (va_A (wTop tp ly lyg lyt LYG LYT tl tlg tlt TLG TLT ne neg net NEG NET su sug sut SUG SUT kp kr KH km sw tps rt pl P st my co C la lag lat LG LT po pog pot OG OT cJ cJJ cI cII mo eo dg to er n E DG tr T) sz) := by
  refine Met.ofW (cc := cX4_digestKept) (maxL := 7) (ret := (some .long)) (by decide) rfl ?_
  intro p e s m args below meth c s₁ B hml hv
  obtain ⟨rfl, hsz, hP, hK, hD0⟩ := hv
  have hx := B.exec
  have hb := B.bytes
  have hr := B.returns
  have hlocks := B.notSynchronized
  have hts := atoms_spec (ws := wsX4_digestKept) B.pre
  have hown : s.vm.findClass RX4 = some m.cls := findClass_of_methodNamed B.named
  subst hsz
  have hD := hD0.self (sz := s.heap.size)
  generalize hAe : va_A (wTop tp ly lyg lyt LYG LYT tl tlg tlt TLG TLT ne neg net NEG NET su sug sut SUG SUT kp kr KH km sw tps rt pl P st my co C la lag lat LG LT po pog pot OG OT cJ cJJ cI cII mo eo dg to er n E DG tr T) s.heap.size = A at hD ⊢
  have hA : ∀ q : Nat, s.heap.size ≤ q → A q := fun q h => by rw [← hAe]; exact Or.inr h
  have hS : va_S A s.heap s.heap [] := va_S.rf
  have hl := lv_entry ([.ref tp, .long d]) (n := 7) (Nat.le_of_ble_eq_true rfl)
  rw [lg_entry_eq]
  generalize (lg_sl ([.ref tp, .long d]) ++ List.replicate (7 - (lg_sl ([.ref tp, .long d])).length) Slot.unset).toArray = ls at hl ⊢
  have hl : lv_has ls 7 [(0, .ref tp), (1, .long d)] := hl
  have hi_X4 : ∀ w ∈ u_ws RX4 TX4 11, w ∈ wsX4_digestKept := by decide +kernel
  have hf_118 := hts (.fieldLink RX4 118 "Topplemoor" "keptMany" "I") (by decide +kernel)
  have hf_10 := hts (.fieldLink RX4 10 "Topplemoor" "moor" "LTopplemoor$Moor;") (by decide +kernel)
  have hi_X2 : ∀ w ∈ u_ws RX2 TX2 4, w ∈ wsX4_digestKept := by decide +kernel
  have hf_53 := hts (.fieldLink RX4 53 "Topplemoor$Moor" "spots" "I") (by decide +kernel)
  have hc_208 := hts (.constantLong RX4 208 (31)) (by decide +kernel)
  have hf_50 := hts (.fieldLink RX4 50 "Topplemoor" "keptHeaps" "[[I") (by decide +kernel)
  refine lv_lload_n hx hb dX4_digestKept_0 rfl (lv_at hl 1 rfl) ?_
  refine lv_lstore_n (lv' := [(3, .long d), (0, .ref tp), (1, .long d)]) hx hb dX4_digestKept_1 rfl hl (by decide) rfl (fun ls hl => ?_)
  refine lv_iconst (v := nI 0) hx hb dX4_digestKept_2 (by decide) ?_
  refine lv_istore (lv' := [(5, .int (nI 0)), (3, .long d), (0, .ref tp), (1, .long d)]) hx hb dX4_digestKept_3 hl (by decide) rfl (fun ls hl => ?_)
  refine kt_for (n := km) (WD := fun (i : Nat) => wTop tp ly lyg lyt LYG LYT tl tlg tlt TLG TLT ne neg net NEG NET su sug sut SUG SUT kp kr KH km sw tps rt pl P st my co C la lag lat LG LT po pog pot OG OT cJ cJJ cI cII mo eo dg to er n E DG tr T) (LV := fun (i : Nat) => [(0, .ref tp), (3, .long (it (keptE n KH) i d)), (5, .int (nI i))]) (nL := 7) (hd := 5) ?_ hP hD hS (lv_sub hl [2, 1, 0] rfl)
  intro i hle_i ih_i H locs ls hP hD hS hl
  have hP : va_P (dC, dI) vwCl (wTop tp ly lyg lyt LYG LYT tl tlg tlt TLG TLT ne neg net NEG NET su sug sut SUG SUT kp kr KH km sw tps rt pl P st my co C la lag lat LG LT po pog pot OG OT cJ cJJ cI cII mo eo dg to er n E DG tr T) H := hP
  have hD : va_D A (wTop tp ly lyg lyt LYG LYT tl tlg tlt TLG TLT ne neg net NEG NET su sug sut SUG SUT kp kr KH km sw tps rt pl P st my co C la lag lat LG LT po pog pot OG OT cJ cJJ cI cII mo eo dg to er n E DG tr T) := hD
  have hl : lv_has ls 7 [(0, .ref tp), (3, .long (it (keptE n KH) i d)), (5, .int (nI i))] := hl
  refine lv_iload hx hb dX4_digestKept_5 (lv_at hl 2 rfl) ?_
  refine lv_aload_n hx hb dX4_digestKept_7 rfl (lv_at hl 0 rfl) ?_
  refine va_get (D := (dC, dI)) (ci := kX4) (v := .int (nI km)) (C := RX4) (T := TX4) (N := 11) hx hb hts hi_X4 hown hK hP 0 rfl rfl 8 (by decide) hf_118 (fun _ h9 => h9) rfl dX4_digestKept_8 ?_
  refine kt_ige (tgt := 59) hx hb (by omega) (by omega) dX4_digestKept_11 (by decide) (fun hge_i => ?_) (fun hlt_i => ?_)
  · have e_i : km = i := by omega
    subst e_i
    refine lv_lload_n hx hb dX4_digestKept_59 rfl (lv_at hl 1 rfl) ?_
    exact kt_lret (W' := wTop tp ly lyg lyt LYG LYT tl tlg tlt TLG TLT ne neg net NEG NET su sug sut SUG SUT kp kr KH km sw tps rt pl P st my co C la lag lat LG LT po pog pot OG OT cJ cJJ cI cII mo eo dg to er n E DG tr T) hx hb hr hS hP hK hD (rfl) hlocks dX4_digestKept_60
  · skip
    refine lv_iconst (v := nI 0) hx hb dX4_digestKept_14 (by decide) ?_
    refine lv_istore (lv' := [(6, .int (nI 0)), (0, .ref tp), (3, .long (it (keptE n KH) i d)), (5, .int (nI i))]) hx hb dX4_digestKept_15 hl (by decide) rfl (fun ls hl => ?_)
    refine kt_for (n := n) (WD := fun (k : Nat) => wTop tp ly lyg lyt LYG LYT tl tlg tlt TLG TLT ne neg net NEG NET su sug sut SUG SUT kp kr KH km sw tps rt pl P st my co C la lag lat LG LT po pog pot OG OT cJ cJJ cI cII mo eo dg to er n E DG tr T) (LV := fun (k : Nat) => [(0, .ref tp), (3, .long (it (rowD KH i) k (it (keptE n KH) i d))), (5, .int (nI i)), (6, .int (nI k))]) (nL := 7) (hd := 17) ?_ hP hD hS (lv_sub hl [1, 2, 3, 0] rfl)
    intro k hle_k ih_k H locs ls hP hD hS hl
    have hP : va_P (dC, dI) vwCl (wTop tp ly lyg lyt LYG LYT tl tlg tlt TLG TLT ne neg net NEG NET su sug sut SUG SUT kp kr KH km sw tps rt pl P st my co C la lag lat LG LT po pog pot OG OT cJ cJJ cI cII mo eo dg to er n E DG tr T) H := hP
    have hD : va_D A (wTop tp ly lyg lyt LYG LYT tl tlg tlt TLG TLT ne neg net NEG NET su sug sut SUG SUT kp kr KH km sw tps rt pl P st my co C la lag lat LG LT po pog pot OG OT cJ cJJ cI cII mo eo dg to er n E DG tr T) := hD
    have hl : lv_has ls 7 [(0, .ref tp), (3, .long (it (rowD KH i) k (it (keptE n KH) i d))), (5, .int (nI i)), (6, .int (nI k))] := hl
    refine lv_iload hx hb dX4_digestKept_17 (lv_at hl 3 rfl) ?_
    refine lv_aload_n hx hb dX4_digestKept_19 rfl (lv_at hl 0 rfl) ?_
    refine va_get (D := (dC, dI)) (ci := kX4) (v := .ref mo) (C := RX4) (T := TX4) (N := 11) hx hb hts hi_X4 hown hK hP 0 rfl rfl 0 (by decide) hf_10 (fun _ h9 => h9) rfl dX4_digestKept_20 ?_
    refine va_get (D := (dC, dI)) (ci := kX2) (v := .int (nI n)) (C := RX2) (T := TX2) (N := 4) hx hb hts hi_X2 hown hK hP 28 rfl rfl 0 (by decide) hf_53 (fun _ h9 => h9) rfl dX4_digestKept_23 ?_
    refine kt_ige (tgt := 53) hx hb (by omega) (by omega) dX4_digestKept_26 (by decide) (fun hge_k => ?_) (fun hlt_k => ?_)
    · have e_k : n = k := by omega
      subst e_k
      refine lv_iinc (v := nI (i + 1)) (lv' := [(5, .int (nI (i + 1))), (0, .ref tp), (3, .long (it (rowD KH i) n (it (keptE n KH) i d))), (6, .int (nI n))]) hx hb dX4_digestKept_53 hl (k := 2) rfl (kt_inc _) (by decide) rfl (fun ls hl => ?_)
      refine lv_goto (tgt := 5) hx hb dX4_digestKept_56 (by decide) ?_
      exact ih_i H locs ls hlt_i hP hD hS (lv_sub hl [1, 2, 0] rfl)
    · skip
      refine lv_lload_n hx hb dX4_digestKept_29 rfl (lv_at hl 1 rfl) ?_
      refine lv_ldc2 hx hb hown hc_208 dX4_digestKept_30 ?_
      refine lv_lmul hx hb dX4_digestKept_33 ?_
      refine lv_aload_n hx hb dX4_digestKept_34 rfl (lv_at hl 0 rfl) ?_
      refine va_get (D := (dC, dI)) (ci := kX4) (v := .ref kp) (C := RX4) (T := TX4) (N := 11) hx hb hts hi_X4 hown hK hP 0 rfl rfl 7 (by decide) hf_50 (fun _ h9 => h9) rfl dX4_digestKept_35 ?_
      refine lv_iload hx hb dX4_digestKept_38 (lv_at hl 2 rfl) ?_
      refine kt_aald hx hb hK hP 13 1 rfl rfl (by omega) (by decide) dX4_digestKept_40 ?_
      refine lv_iload hx hb dX4_digestKept_41 (lv_at hl 3 rfl) ?_
      refine kt_iald hx hb hK hP (14 + i) 0 (row_wTop_kr (by omega)) rfl (by omega) (by decide) dX4_digestKept_43 ?_
      refine lv_i2l (v := Int32.toInt64 (KH i k)) hx hb dX4_digestKept_44 rfl ?_
      refine lv_ladd hx hb dX4_digestKept_45 ?_
      refine lv_lstore_n (lv' := [(3, .long (((it (rowD KH i) k (it (keptE n KH) i d)) * 31) + (Int32.toInt64 (KH i k)))), (0, .ref tp), (5, .int (nI i)), (6, .int (nI k))]) hx hb dX4_digestKept_46 rfl hl (by decide) rfl (fun ls hl => ?_)
      refine lv_iinc (v := nI (k + 1)) (lv' := [(6, .int (nI (k + 1))), (3, .long (((it (rowD KH i) k (it (keptE n KH) i d)) * 31) + (Int32.toInt64 (KH i k)))), (0, .ref tp), (5, .int (nI i))]) hx hb dX4_digestKept_47 hl (k := 3) rfl (kt_inc _) (by decide) rfl (fun ls hl => ?_)
      refine lv_goto (tgt := 17) hx hb dX4_digestKept_50 (by decide) ?_
      exact ih_k H locs ls hlt_k hP hD hS (lv_sub hl [2, 1, 3, 0] rfl)

set_option maxHeartbeats 4000000 in
set_option maxRecDepth 100000 in
theorem c_X4_digestFast (l : Launch) (dC : Nat → ClassId) (dI : Nat → Nat → Nat) (cI cII cJ cJJ : ClassId) (tp : Nat) (ly : Nat) (lyg : Nat) (lyt : Nat) (LYG : Nat → Int32) (LYT : Nat → Int32) (tl : Nat) (tlg : Nat) (tlt : Nat) (TLG : Nat → Int32) (TLT : Nat → Int32) (ne : Nat) (neg : Nat) (net : Nat) (NEG : Nat → Int32) (NET : Nat → Int32) (su : Nat) (sug : Nat) (sut : Nat) (SUG : Nat → Int32) (SUT : Nat → Int32) (kp : Nat) (kr : Nat → Nat) (KH : Nat → Nat → Int32) (km : Nat) (sw : Int32) (tps : Int32) (rt : Nat) (pl : Nat) (P : Nat → Int32) (st : Int32) (my : Nat) (co : Nat) (C : Nat → Int32) (la : Nat) (lag : Nat) (lat : Nat) (LG : Nat → Int32) (LT : Nat → Int32) (po : Nat) (pog : Nat) (pot : Nat) (OG : Nat → Int32) (OT : Nat → Int32) (mo : Nat) (eo : Nat) (dg : Nat) (to : Nat) (er : Nat → Nat) (n : Nat) (E : Nat → Nat → Int32) (DG : Nat → Int32) (tr : Nat → Nat) (T : Nat → Nat → Int64) (d : Int64) (sz : Nat) (hn : n ≤ 6) (hfast : fastB n E = true) : Met l yX4_digestFast wsX4_digestFast ({ frames := 5, cells := 0, slots := 0, locals := 113 }) (va_Pc [.ref tp, .long d] (PRE (dC, dI) (tyL cI cII cJ cJJ) (wTop tp ly lyg lyt LYG LYT tl tlg tlt TLG TLT ne neg net NEG NET su sug sut SUG SUT kp kr KH km sw tps rt pl P st my co C la lag lat LG LT po pog pot OG OT cJ cJJ cI cII mo eo dg to er n E DG tr T) sz)) (va_Ql (fun (r' : Int64) (_ : Unit) => r' = fastD n E DG LYG TLG TLT NEG C LG d) (fun _ tS => ATW (dC, dI) (tyL cI cII cJ cJJ) (va_A (wTop tp ly lyg lyt LYG LYT tl tlg tlt TLG TLT ne neg net NEG NET su sug sut SUG SUT kp kr KH km sw tps rt pl P st my co C la lag lat LG LT po pog pot OG OT cJ cJJ cI cII mo eo dg to er n E DG tr T) sz) (wTop tp ly lyg lyt LYG LYT tl tlg tlt ((fastX n E DG LYG TLG TLT NEG d).2.1) ((fastX n E DG LYG TLG TLT NEG d).2.2) ne neg net ((neutF n E DG NEG).1) ((neutF n E DG NEG).2) su sug sut SUG SUT kp kr KH km sw tps rt pl P st my co C la lag lat ((findF n E DG C (findF n E DG C LG).1).1) ((findF n E DG C (findF n E DG C LG).1).2) po pog pot ((poorX n E DG C (findF n E DG C LG).1 OG OT).1) ((poorX n E DG C (findF n E DG C LG).1 OG OT).2) cJ cJJ cI cII mo eo dg to er n E DG tr T) tS) (va_A (wTop tp ly lyg lyt LYG LYT tl tlg tlt TLG TLT ne neg net NEG NET su sug sut SUG SUT kp kr KH km sw tps rt pl P st my co C la lag lat LG LT po pog pot OG OT cJ cJJ cI cII mo eo dg to er n E DG tr T) sz)) 0 0 (va_A (wTop tp ly lyg lyt LYG LYT tl tlg tlt TLG TLT ne neg net NEG NET su sug sut SUG SUT kp kr KH km sw tps rt pl P st my co C la lag lat LG LT po pog pot OG OT cJ cJJ cI cII mo eo dg to er n E DG tr T) sz) := by
  refine Met.ofW (cc := cX4_digestFast) (maxL := 6) (ret := (some .long)) (by decide) rfl ?_
  intro p e s m args below meth c s₁ B hml hv
  obtain ⟨rfl, hsz, hP, hK, hD0⟩ := hv
  have hx := B.exec
  have hb := B.bytes
  have hr := B.returns
  have hlocks := B.notSynchronized
  have hts := atoms_spec (ws := wsX4_digestFast) B.pre
  have hown : s.vm.findClass RX4 = some m.cls := findClass_of_methodNamed B.named
  subst hsz
  have hD := hD0.self (sz := s.heap.size)
  generalize hAe : va_A (wTop tp ly lyg lyt LYG LYT tl tlg tlt TLG TLT ne neg net NEG NET su sug sut SUG SUT kp kr KH km sw tps rt pl P st my co C la lag lat LG LT po pog pot OG OT cJ cJJ cI cII mo eo dg to er n E DG tr T) s.heap.size = A at hD ⊢
  have hA : ∀ q : Nat, s.heap.size ≤ q → A q := fun q h => by rw [← hAe]; exact Or.inr h
  have hS : va_S A s.heap s.heap [] := va_S.rf
  have hl := lv_entry ([.ref tp, .long d]) (n := 6) (Nat.le_of_ble_eq_true rfl)
  rw [lg_entry_eq]
  generalize (lg_sl ([.ref tp, .long d]) ++ List.replicate (6 - (lg_sl ([.ref tp, .long d])).length) Slot.unset).toArray = ls at hl ⊢
  have hl : lv_has ls 6 [(0, .ref tp), (1, .long d)] := hl
  have hc_208 := hts (.constantLong RX4 208 (31)) (by decide +kernel)
  have hi_X4 : ∀ w ∈ u_ws RX4 TX4 11, w ∈ wsX4_digestFast := by decide +kernel
  have hf_28 := hts (.fieldLink RX4 28 "Topplemoor" "neutralHeap" "LTopplemoor$Heap;") (by decide +kernel)
  have hf_10 := hts (.fieldLink RX4 10 "Topplemoor" "moor" "LTopplemoor$Moor;") (by decide +kernel)
  have hi_X2 : ∀ w ∈ u_ws RX2 TX2 4, w ∈ wsX4_digestFast := by decide +kernel
  have hf_53 := hts (.fieldLink RX4 53 "Topplemoor$Moor" "spots" "I") (by decide +kernel)
  have hf_44 := hts (.fieldLink RX4 44 "Topplemoor" "money" "LTopplemoor$Money;") (by decide +kernel)
  have hi_X0 : ∀ w ∈ u_ws RX0 TX0 3, w ∈ wsX4_digestFast := by decide +kernel
  have hf_89 := hts (.fieldLink RX4 89 "Topplemoor$Heap" "grains" "[I") (by decide +kernel)
  have hf_25 := hts (.fieldLink RX4 25 "Topplemoor" "trial" "LTopplemoor$Heap;") (by decide +kernel)
  refine lv_lload_n hx hb dX4_digestFast_0 rfl (lv_at hl 1 rfl) ?_
  refine lv_ldc2 hx hb hown hc_208 dX4_digestFast_1 ?_
  refine lv_lmul hx hb dX4_digestFast_4 ?_
  refine lv_aload_n hx hb dX4_digestFast_5 rfl (lv_at hl 0 rfl) ?_
  refine kt_calli (w' := wTop tp ly lyg lyt LYG LYT tl tlg tlt ((lieX n E DG LYG TLG TLT).1) ((lieX n E DG LYG TLG TLT).2) ne neg net NEG NET su sug sut SUG SUT kp kr KH km sw tps rt pl P st my co C la lag lat LG LT po pog pot OG OT cJ cJJ cI cII mo eo dg to er n E DG tr T) (rest := [.long (d * 31)]) (As := []) ⟨hx, hb, hml, hown, hts⟩ (c_X4_liesLasting l dC dI cI cII cJ cJJ tp ly lyg lyt LYG LYT tl tlg tlt TLG TLT ne neg net NEG NET su sug sut SUG SUT kp kr KH km sw tps rt pl P st my co C la lag lat LG LT po pog pot OG OT mo eo dg to er n E DG tr T _ (hn)) (cwV 0 hts gX4_digestFast_X4_liesLasting rfl rfl rfl (by decide +kernel) ⟨Nat.le_of_ble_eq_true rfl, Nat.le_of_ble_eq_true rfl⟩) hK hP hD hS hA (List.range' 0 45) sw_wTop_wTop_0 rfl 0 kX4 rfl rfl rfl rfl rfl hl.1 (Nat.le_of_ble_eq_true rfl) dX4_digestFast_6 ⟨Nat.zero_le _, Nat.zero_le _⟩ (fun H locs hP hD hS => ?_)
  refine lv_if_eq (tgt := 16) hx hb dX4_digestFast_9 (by decide) (fun c9 => ?_) (fun c9 => ?_)
  · skip
    refine lv_iconst (v := 0) hx hb dX4_digestFast_16 (by decide) ?_
    refine lv_i2l (v := Int32.toInt64 (0)) hx hb dX4_digestFast_17 rfl ?_
    refine lv_ladd hx hb dX4_digestFast_18 ?_
    refine lv_topl (fun v1 e_v1 => ?_)
    have f_v1 : v1 = d * 31 + Int32.toInt64 (b2i (lieB n E DG LYG)) := e_v1.trans (by first | (rw [b2i_eq0.mp c9]; rfl) | (rw [b2i_ne0.mp c9]; rfl))
    subst f_v1
    refine lv_lstore_n (lv' := [(3, .long (d * 31 + Int32.toInt64 (b2i (lieB n E DG LYG)))), (0, .ref tp), (1, .long d)]) hx hb dX4_digestFast_19 rfl hl (by decide) rfl (fun ls hl => ?_)
    refine lv_aload_n hx hb dX4_digestFast_20 rfl (lv_at hl 1 rfl) ?_
    refine va_get (D := (dC, dI)) (ci := kX4) (v := .ref ne) (C := RX4) (T := TX4) (N := 11) hx hb hts hi_X4 hown hK hP 0 rfl rfl 3 (by decide) hf_28 (fun _ h9 => h9) rfl dX4_digestFast_21 ?_
    refine kt_callv (w' := wTop tp ly lyg lyt LYG LYT tl tlg tlt ((lieX n E DG LYG TLG TLT).1) ((lieX n E DG LYG TLG TLT).2) ne neg net ((neutF n E DG NEG).1) ((neutF n E DG NEG).2) su sug sut SUG SUT kp kr KH km sw tps rt pl P st my co C la lag lat LG LT po pog pot OG OT cJ cJJ cI cII mo eo dg to er n E DG tr T) (rest := []) (As := []) ⟨hx, hb, hml, hown, hts⟩ (c_X0_becomeNeutral l dC dI cI cII cJ cJJ ne neg net NEG NET mo eo dg to er n E DG _ (hn)) (cwV 0 hts gX4_digestFast_X0_becomeNeutral rfl rfl rfl (by decide +kernel) ⟨Nat.le_of_ble_eq_true rfl, Nat.le_of_ble_eq_true rfl⟩) hK hP hD hS hA [7, 8, 9, 28, 29, 30, 31, 32, 33, 34, 35, 36, 37] sw_wTop_wHM_2 rfl 7 kX0 rfl rfl rfl rfl rfl hl.1 (Nat.le_of_ble_eq_true rfl) dX4_digestFast_24 ⟨Nat.zero_le _, Nat.zero_le _⟩ (fun H locs hP hD hS => ?_)
    refine lv_iconst (v := nI 0) hx hb dX4_digestFast_27 (by decide) ?_
    refine lv_istore (lv' := [(5, .int (nI 0)), (3, .long (d * 31 + Int32.toInt64 (b2i (lieB n E DG LYG)))), (0, .ref tp), (1, .long d)]) hx hb dX4_digestFast_28 hl (by decide) rfl (fun ls hl => ?_)
    refine kt_for (n := n) (WD := fun (i : Nat) => wTop tp ly lyg lyt LYG LYT tl tlg tlt ((it (fastS n E DG LYG (neutF n E DG NEG).1) i (d * 31 + Int32.toInt64 (b2i (lieB n E DG LYG)), lieX n E DG LYG TLG TLT)).2.1) ((it (fastS n E DG LYG (neutF n E DG NEG).1) i (d * 31 + Int32.toInt64 (b2i (lieB n E DG LYG)), lieX n E DG LYG TLG TLT)).2.2) ne neg net ((neutF n E DG NEG).1) ((neutF n E DG NEG).2) su sug sut SUG SUT kp kr KH km sw tps rt pl P st my co C la lag lat LG LT po pog pot OG OT cJ cJJ cI cII mo eo dg to er n E DG tr T) (LV := fun (i : Nat) => [(0, .ref tp), (3, .long ((it (fastS n E DG LYG (neutF n E DG NEG).1) i (d * 31 + Int32.toInt64 (b2i (lieB n E DG LYG)), lieX n E DG LYG TLG TLT)).1)), (5, .int (nI i))]) (nL := 6) (hd := 30) ?_ hP hD hS (lv_sub hl [2, 1, 0] rfl)
    intro i hle_i ih_i H locs ls hP hD hS hl
    have hP : va_P (dC, dI) vwCl (wTop tp ly lyg lyt LYG LYT tl tlg tlt ((it (fastS n E DG LYG (neutF n E DG NEG).1) i (d * 31 + Int32.toInt64 (b2i (lieB n E DG LYG)), lieX n E DG LYG TLG TLT)).2.1) ((it (fastS n E DG LYG (neutF n E DG NEG).1) i (d * 31 + Int32.toInt64 (b2i (lieB n E DG LYG)), lieX n E DG LYG TLG TLT)).2.2) ne neg net ((neutF n E DG NEG).1) ((neutF n E DG NEG).2) su sug sut SUG SUT kp kr KH km sw tps rt pl P st my co C la lag lat LG LT po pog pot OG OT cJ cJJ cI cII mo eo dg to er n E DG tr T) H := hP
    have hD : va_D A (wTop tp ly lyg lyt LYG LYT tl tlg tlt ((it (fastS n E DG LYG (neutF n E DG NEG).1) i (d * 31 + Int32.toInt64 (b2i (lieB n E DG LYG)), lieX n E DG LYG TLG TLT)).2.1) ((it (fastS n E DG LYG (neutF n E DG NEG).1) i (d * 31 + Int32.toInt64 (b2i (lieB n E DG LYG)), lieX n E DG LYG TLG TLT)).2.2) ne neg net ((neutF n E DG NEG).1) ((neutF n E DG NEG).2) su sug sut SUG SUT kp kr KH km sw tps rt pl P st my co C la lag lat LG LT po pog pot OG OT cJ cJJ cI cII mo eo dg to er n E DG tr T) := hD
    have hl : lv_has ls 6 [(0, .ref tp), (3, .long ((it (fastS n E DG LYG (neutF n E DG NEG).1) i (d * 31 + Int32.toInt64 (b2i (lieB n E DG LYG)), lieX n E DG LYG TLG TLT)).1)), (5, .int (nI i))] := hl
    refine lv_iload hx hb dX4_digestFast_30 (lv_at hl 2 rfl) ?_
    refine lv_aload_n hx hb dX4_digestFast_32 rfl (lv_at hl 0 rfl) ?_
    refine va_get (D := (dC, dI)) (ci := kX4) (v := .ref mo) (C := RX4) (T := TX4) (N := 11) hx hb hts hi_X4 hown hK hP 0 rfl rfl 0 (by decide) hf_10 (fun _ h9 => h9) rfl dX4_digestFast_33 ?_
    refine va_get (D := (dC, dI)) (ci := kX2) (v := .int (nI n)) (C := RX2) (T := TX2) (N := 4) hx hb hts hi_X2 hown hK hP 28 rfl rfl 0 (by decide) hf_53 (fun _ h9 => h9) rfl dX4_digestFast_36 ?_
    refine kt_ige (tgt := 88) hx hb (by omega) (by omega) dX4_digestFast_39 (by decide) (fun hge_i => ?_) (fun hlt_i => ?_)
    · have e_i : n = i := by omega
      subst e_i
      refine lv_lload_n hx hb dX4_digestFast_88 rfl (lv_at hl 1 rfl) ?_
      refine lv_ldc2 hx hb hown hc_208 dX4_digestFast_89 ?_
      refine lv_lmul hx hb dX4_digestFast_92 ?_
      refine lv_aload_n hx hb dX4_digestFast_93 rfl (lv_at hl 0 rfl) ?_
      refine va_get (D := (dC, dI)) (ci := kX4) (v := .ref my) (C := RX4) (T := TX4) (N := 11) hx hb hts hi_X4 hown hK hP 0 rfl rfl 6 (by decide) hf_44 (fun _ h9 => h9) rfl dX4_digestFast_94 ?_
      refine kt_calli (w' := wTop tp ly lyg lyt LYG LYT tl tlg tlt ((it (fastS n E DG LYG (neutF n E DG NEG).1) n (d * 31 + Int32.toInt64 (b2i (lieB n E DG LYG)), lieX n E DG LYG TLG TLT)).2.1) ((it (fastS n E DG LYG (neutF n E DG NEG).1) n (d * 31 + Int32.toInt64 (b2i (lieB n E DG LYG)), lieX n E DG LYG TLG TLT)).2.2) ne neg net ((neutF n E DG NEG).1) ((neutF n E DG NEG).2) su sug sut SUG SUT kp kr KH km sw tps rt pl P st my co C la lag lat ((findF n E DG C LG).1) ((findF n E DG C LG).2) po pog pot OG OT cJ cJJ cI cII mo eo dg to er n E DG tr T) (rest := [.long (((it (fastS n E DG LYG (neutF n E DG NEG).1) n (d * 31 + Int32.toInt64 (b2i (lieB n E DG LYG)), lieX n E DG LYG TLG TLT)).1) * 31)]) (As := []) ⟨hx, hb, hml, hown, hts⟩ (c_X1_isPayable l dC dI cI cII cJ cJJ my co C la lag lat LG LT po pog pot OG OT mo eo dg to er n E DG _ (hn)) (cwV 0 hts gX4_digestFast_X1_isPayable rfl rfl rfl (by decide +kernel) ⟨Nat.le_of_ble_eq_true rfl, Nat.le_of_ble_eq_true rfl⟩) hK hP hD hS hA [20, 21, 22, 23, 24, 25, 26, 27, 28, 29, 30, 31, 32, 33, 34, 35, 36, 37] sw_wTop_wYM_0 rfl 20 kX1 rfl rfl rfl rfl rfl hl.1 (Nat.le_of_ble_eq_true rfl) dX4_digestFast_97 ⟨Nat.zero_le _, Nat.zero_le _⟩ (fun H locs hP hD hS => ?_)
      refine lv_if_eq (tgt := 107) hx hb dX4_digestFast_100 (by decide) (fun c100 => ?_) (fun c100 => ?_)
      · skip
        refine lv_iconst (v := 0) hx hb dX4_digestFast_107 (by decide) ?_
        refine lv_i2l (v := Int32.toInt64 (0)) hx hb dX4_digestFast_108 rfl ?_
        refine lv_ladd hx hb dX4_digestFast_109 ?_
        refine lv_topl (fun v2 e_v2 => ?_)
        have f_v2 : v2 = (fastX n E DG LYG TLG TLT NEG d).1 * 31 + Int32.toInt64 (b2i (payB n E DG C LG)) := e_v2.trans (by first | (rw [b2i_eq0.mp c100]; rfl) | (rw [b2i_ne0.mp c100]; rfl))
        subst f_v2
        refine lv_lstore_n (lv' := [(3, .long ((fastX n E DG LYG TLG TLT NEG d).1 * 31 + Int32.toInt64 (b2i (payB n E DG C LG)))), (0, .ref tp), (5, .int (nI n))]) hx hb dX4_digestFast_110 rfl hl (by decide) rfl (fun ls hl => ?_)
        refine lv_lload_n hx hb dX4_digestFast_111 rfl (lv_at hl 0 rfl) ?_
        refine lv_ldc2 hx hb hown hc_208 dX4_digestFast_112 ?_
        refine lv_lmul hx hb dX4_digestFast_115 ?_
        refine lv_aload_n hx hb dX4_digestFast_116 rfl (lv_at hl 1 rfl) ?_
        refine va_get (D := (dC, dI)) (ci := kX4) (v := .ref my) (C := RX4) (T := TX4) (N := 11) hx hb hts hi_X4 hown hK hP 0 rfl rfl 6 (by decide) hf_44 (fun _ h9 => h9) rfl dX4_digestFast_117 ?_
        refine kt_calli (w' := wTop tp ly lyg lyt LYG LYT tl tlg tlt ((it (fastS n E DG LYG (neutF n E DG NEG).1) n (d * 31 + Int32.toInt64 (b2i (lieB n E DG LYG)), lieX n E DG LYG TLG TLT)).2.1) ((it (fastS n E DG LYG (neutF n E DG NEG).1) n (d * 31 + Int32.toInt64 (b2i (lieB n E DG LYG)), lieX n E DG LYG TLG TLT)).2.2) ne neg net ((neutF n E DG NEG).1) ((neutF n E DG NEG).2) su sug sut SUG SUT kp kr KH km sw tps rt pl P st my co C la lag lat ((findF n E DG C ((findF n E DG C LG).1)).1) ((findF n E DG C ((findF n E DG C LG).1)).2) po pog pot ((poorX n E DG C ((findF n E DG C LG).1) OG OT).1) ((poorX n E DG C ((findF n E DG C LG).1) OG OT).2) cJ cJJ cI cII mo eo dg to er n E DG tr T) (rest := [.long (((fastX n E DG LYG TLG TLT NEG d).1 * 31 + Int32.toInt64 (b2i (payB n E DG C LG))) * 31)]) (As := []) ⟨hx, hb, hml, hown, hts⟩ (c_X1_weakestNode l dC dI cI cII cJ cJJ my co C la lag lat ((findF n E DG C LG).1) ((findF n E DG C LG).2) po pog pot OG OT mo eo dg to er n E DG _ (hn)) (cwV 0 hts gX4_digestFast_X1_weakestNode rfl rfl rfl (by decide +kernel) ⟨Nat.le_of_ble_eq_true rfl, Nat.le_of_ble_eq_true rfl⟩) hK hP hD hS hA [20, 21, 22, 23, 24, 25, 26, 27, 28, 29, 30, 31, 32, 33, 34, 35, 36, 37] sw_wTop_wYM_0 rfl 20 kX1 rfl rfl rfl rfl rfl hl.1 (Nat.le_of_ble_eq_true rfl) dX4_digestFast_120 ⟨Nat.zero_le _, Nat.zero_le _⟩ (fun H locs hP hD hS => ?_)
        refine lv_i2l (v := Int32.toInt64 (weakF n E DG C ((findF n E DG C LG).1))) hx hb dX4_digestFast_123 rfl ?_
        refine lv_ladd hx hb dX4_digestFast_124 ?_
        exact kt_lret (W' := wTop tp ly lyg lyt LYG LYT tl tlg tlt ((fastX n E DG LYG TLG TLT NEG d).2.1) ((fastX n E DG LYG TLG TLT NEG d).2.2) ne neg net ((neutF n E DG NEG).1) ((neutF n E DG NEG).2) su sug sut SUG SUT kp kr KH km sw tps rt pl P st my co C la lag lat ((findF n E DG C (findF n E DG C LG).1).1) ((findF n E DG C (findF n E DG C LG).1).2) po pog pot ((poorX n E DG C (findF n E DG C LG).1 OG OT).1) ((poorX n E DG C (findF n E DG C LG).1 OG OT).2) cJ cJJ cI cII mo eo dg to er n E DG tr T) hx hb hr hS hP hK hD (rfl) hlocks dX4_digestFast_125
      · skip
        refine lv_iconst (v := 1) hx hb dX4_digestFast_103 (by decide) ?_
        refine lv_goto (tgt := 108) hx hb dX4_digestFast_104 (by decide) ?_
        refine lv_i2l (v := Int32.toInt64 (1)) hx hb dX4_digestFast_108 rfl ?_
        refine lv_ladd hx hb dX4_digestFast_109 ?_
        refine lv_topl (fun v3 e_v3 => ?_)
        have f_v3 : v3 = (fastX n E DG LYG TLG TLT NEG d).1 * 31 + Int32.toInt64 (b2i (payB n E DG C LG)) := e_v3.trans (by first | (rw [b2i_eq0.mp c100]; rfl) | (rw [b2i_ne0.mp c100]; rfl))
        subst f_v3
        refine lv_lstore_n (lv' := [(3, .long ((fastX n E DG LYG TLG TLT NEG d).1 * 31 + Int32.toInt64 (b2i (payB n E DG C LG)))), (0, .ref tp), (5, .int (nI n))]) hx hb dX4_digestFast_110 rfl hl (by decide) rfl (fun ls hl => ?_)
        refine lv_lload_n hx hb dX4_digestFast_111 rfl (lv_at hl 0 rfl) ?_
        refine lv_ldc2 hx hb hown hc_208 dX4_digestFast_112 ?_
        refine lv_lmul hx hb dX4_digestFast_115 ?_
        refine lv_aload_n hx hb dX4_digestFast_116 rfl (lv_at hl 1 rfl) ?_
        refine va_get (D := (dC, dI)) (ci := kX4) (v := .ref my) (C := RX4) (T := TX4) (N := 11) hx hb hts hi_X4 hown hK hP 0 rfl rfl 6 (by decide) hf_44 (fun _ h9 => h9) rfl dX4_digestFast_117 ?_
        refine kt_calli (w' := wTop tp ly lyg lyt LYG LYT tl tlg tlt ((it (fastS n E DG LYG (neutF n E DG NEG).1) n (d * 31 + Int32.toInt64 (b2i (lieB n E DG LYG)), lieX n E DG LYG TLG TLT)).2.1) ((it (fastS n E DG LYG (neutF n E DG NEG).1) n (d * 31 + Int32.toInt64 (b2i (lieB n E DG LYG)), lieX n E DG LYG TLG TLT)).2.2) ne neg net ((neutF n E DG NEG).1) ((neutF n E DG NEG).2) su sug sut SUG SUT kp kr KH km sw tps rt pl P st my co C la lag lat ((findF n E DG C ((findF n E DG C LG).1)).1) ((findF n E DG C ((findF n E DG C LG).1)).2) po pog pot ((poorX n E DG C ((findF n E DG C LG).1) OG OT).1) ((poorX n E DG C ((findF n E DG C LG).1) OG OT).2) cJ cJJ cI cII mo eo dg to er n E DG tr T) (rest := [.long (((fastX n E DG LYG TLG TLT NEG d).1 * 31 + Int32.toInt64 (b2i (payB n E DG C LG))) * 31)]) (As := []) ⟨hx, hb, hml, hown, hts⟩ (c_X1_weakestNode l dC dI cI cII cJ cJJ my co C la lag lat ((findF n E DG C LG).1) ((findF n E DG C LG).2) po pog pot OG OT mo eo dg to er n E DG _ (hn)) (cwV 0 hts gX4_digestFast_X1_weakestNode rfl rfl rfl (by decide +kernel) ⟨Nat.le_of_ble_eq_true rfl, Nat.le_of_ble_eq_true rfl⟩) hK hP hD hS hA [20, 21, 22, 23, 24, 25, 26, 27, 28, 29, 30, 31, 32, 33, 34, 35, 36, 37] sw_wTop_wYM_0 rfl 20 kX1 rfl rfl rfl rfl rfl hl.1 (Nat.le_of_ble_eq_true rfl) dX4_digestFast_120 ⟨Nat.zero_le _, Nat.zero_le _⟩ (fun H locs hP hD hS => ?_)
        refine lv_i2l (v := Int32.toInt64 (weakF n E DG C ((findF n E DG C LG).1))) hx hb dX4_digestFast_123 rfl ?_
        refine lv_ladd hx hb dX4_digestFast_124 ?_
        exact kt_lret (W' := wTop tp ly lyg lyt LYG LYT tl tlg tlt ((fastX n E DG LYG TLG TLT NEG d).2.1) ((fastX n E DG LYG TLG TLT NEG d).2.2) ne neg net ((neutF n E DG NEG).1) ((neutF n E DG NEG).2) su sug sut SUG SUT kp kr KH km sw tps rt pl P st my co C la lag lat ((findF n E DG C (findF n E DG C LG).1).1) ((findF n E DG C (findF n E DG C LG).1).2) po pog pot ((poorX n E DG C (findF n E DG C LG).1 OG OT).1) ((poorX n E DG C (findF n E DG C LG).1 OG OT).2) cJ cJJ cI cII mo eo dg to er n E DG tr T) hx hb hr hS hP hK hD (rfl) hlocks dX4_digestFast_125
    · skip
      refine lv_lload_n hx hb dX4_digestFast_42 rfl (lv_at hl 1 rfl) ?_
      refine lv_ldc2 hx hb hown hc_208 dX4_digestFast_43 ?_
      refine lv_lmul hx hb dX4_digestFast_46 ?_
      refine lv_aload_n hx hb dX4_digestFast_47 rfl (lv_at hl 0 rfl) ?_
      refine va_get (D := (dC, dI)) (ci := kX4) (v := .ref ne) (C := RX4) (T := TX4) (N := 11) hx hb hts hi_X4 hown hK hP 0 rfl rfl 3 (by decide) hf_28 (fun _ h9 => h9) rfl dX4_digestFast_48 ?_
      refine va_get (D := (dC, dI)) (ci := kX0) (v := .ref neg) (C := RX0) (T := TX0) (N := 3) hx hb hts hi_X0 hown hK hP 7 rfl rfl 0 (by decide) hf_89 (fun _ h9 => h9) rfl dX4_digestFast_51 ?_
      refine lv_iload hx hb dX4_digestFast_54 (lv_at hl 2 rfl) ?_
      refine kt_iald hx hb hK hP 8 0 rfl rfl (by omega) (by decide) dX4_digestFast_56 ?_
      refine lv_i2l (v := Int32.toInt64 (((neutF n E DG NEG).1) i)) hx hb dX4_digestFast_57 rfl ?_
      refine lv_ladd hx hb dX4_digestFast_58 ?_
      refine lv_lstore_n (lv' := [(3, .long ((((it (fastS n E DG LYG (neutF n E DG NEG).1) i (d * 31 + Int32.toInt64 (b2i (lieB n E DG LYG)), lieX n E DG LYG TLG TLT)).1) * 31) + (Int32.toInt64 (((neutF n E DG NEG).1) i)))), (0, .ref tp), (5, .int (nI i))]) hx hb dX4_digestFast_59 rfl hl (by decide) rfl (fun ls hl => ?_)
      refine lv_aload_n hx hb dX4_digestFast_60 rfl (lv_at hl 1 rfl) ?_
      refine lv_iload hx hb dX4_digestFast_61 (lv_at hl 2 rfl) ?_
      refine lv_iconst (v := 1) hx hb dX4_digestFast_63 (by decide) ?_
      refine kt_callv (w' := wTop tp ly lyg lyt LYG LYT tl tlg tlt ((wouldR n E DG LYG i 1).1) ((wouldR n E DG LYG i 1).2) ne neg net ((neutF n E DG NEG).1) ((neutF n E DG NEG).2) su sug sut SUG SUT kp kr KH km sw tps rt pl P st my co C la lag lat LG LT po pog pot OG OT cJ cJJ cI cII mo eo dg to er n E DG tr T) (rest := []) (As := [.int (nI i), .int 1]) ⟨hx, hb, hml, hown, hts⟩ (c_X4_rollTrialWith l dC dI cI cII cJ cJJ tp ly lyg lyt LYG LYT tl tlg tlt ((it (fastS n E DG LYG (neutF n E DG NEG).1) i (d * 31 + Int32.toInt64 (b2i (lieB n E DG LYG)), lieX n E DG LYG TLG TLT)).2.1) ((it (fastS n E DG LYG (neutF n E DG NEG).1) i (d * 31 + Int32.toInt64 (b2i (lieB n E DG LYG)), lieX n E DG LYG TLG TLT)).2.2) ne neg net ((neutF n E DG NEG).1) ((neutF n E DG NEG).2) su sug sut SUG SUT kp kr KH km sw tps rt pl P st my co C la lag lat LG LT po pog pot OG OT mo eo dg to er n E DG tr T i 1 _ (hn) (by omega)) (cwV 2 hts gX4_digestFast_X4_rollTrialWith rfl rfl rfl (by decide +kernel) ⟨Nat.le_of_ble_eq_true rfl, Nat.le_of_ble_eq_true rfl⟩) hK hP hD hS hA (List.range' 0 45) sw_wTop_wTop_0 rfl 0 kX4 rfl rfl rfl rfl rfl hl.1 (Nat.le_of_ble_eq_true rfl) dX4_digestFast_64 ⟨Nat.zero_le _, Nat.zero_le _⟩ (fun H locs hP hD hS => ?_)
      refine lv_lload_n hx hb dX4_digestFast_67 rfl (lv_at hl 0 rfl) ?_
      refine lv_ldc2 hx hb hown hc_208 dX4_digestFast_68 ?_
      refine lv_lmul hx hb dX4_digestFast_71 ?_
      refine lv_aload_n hx hb dX4_digestFast_72 rfl (lv_at hl 1 rfl) ?_
      refine va_get (D := (dC, dI)) (ci := kX4) (v := .ref tl) (C := RX4) (T := TX4) (N := 11) hx hb hts hi_X4 hown hK hP 0 rfl rfl 2 (by decide) hf_25 (fun _ h9 => h9) rfl dX4_digestFast_73 ?_
      refine kt_calli (w' := wTop tp ly lyg lyt LYG LYT tl tlg tlt ((wouldR n E DG LYG i 1).1) ((wouldR n E DG LYG i 1).2) ne neg net ((neutF n E DG NEG).1) ((neutF n E DG NEG).2) su sug sut SUG SUT kp kr KH km sw tps rt pl P st my co C la lag lat LG LT po pog pot OG OT cJ cJJ cI cII mo eo dg to er n E DG tr T) (rest := [.long (((((it (fastS n E DG LYG (neutF n E DG NEG).1) i (d * 31 + Int32.toInt64 (b2i (lieB n E DG LYG)), lieX n E DG LYG TLG TLT)).1) * 31) + (Int32.toInt64 (((neutF n E DG NEG).1) i))) * 31)]) (As := []) ⟨hx, hb, hml, hown, hts⟩ (c_X0_allTimes l dC dI cI cII cJ cJJ tl tlg tlt ((wouldR n E DG LYG i 1).1) ((wouldR n E DG LYG i 1).2) mo eo dg to er n E DG _ (hn)) (cwV 0 hts gX4_digestFast_X0_allTimes rfl rfl rfl (by decide +kernel) ⟨Nat.le_of_ble_eq_true rfl, Nat.le_of_ble_eq_true rfl⟩) hK hP hD hS hA [4, 5, 6, 28, 29, 30, 31, 32, 33, 34, 35, 36, 37] sw_wTop_wHM_1 rfl 4 kX0 rfl rfl rfl rfl rfl hl.1 (Nat.le_of_ble_eq_true rfl) dX4_digestFast_76 ⟨Nat.zero_le _, Nat.zero_le _⟩ (fun H locs hP hD hS => ?_)
      refine lv_i2l (v := Int32.toInt64 (sumN ((wouldR n E DG LYG i 1).2) n)) hx hb dX4_digestFast_79 rfl ?_
      refine lv_ladd hx hb dX4_digestFast_80 ?_
      refine lv_lstore_n (lv' := [(3, .long ((((((it (fastS n E DG LYG (neutF n E DG NEG).1) i (d * 31 + Int32.toInt64 (b2i (lieB n E DG LYG)), lieX n E DG LYG TLG TLT)).1) * 31) + (Int32.toInt64 (((neutF n E DG NEG).1) i))) * 31) + (Int32.toInt64 (sumN ((wouldR n E DG LYG i 1).2) n)))), (0, .ref tp), (5, .int (nI i))]) hx hb dX4_digestFast_81 rfl hl (by decide) rfl (fun ls hl => ?_)
      refine lv_iinc (v := nI (i + 1)) (lv' := [(5, .int (nI (i + 1))), (3, .long ((((((it (fastS n E DG LYG (neutF n E DG NEG).1) i (d * 31 + Int32.toInt64 (b2i (lieB n E DG LYG)), lieX n E DG LYG TLG TLT)).1) * 31) + (Int32.toInt64 (((neutF n E DG NEG).1) i))) * 31) + (Int32.toInt64 (sumN ((wouldR n E DG LYG i 1).2) n)))), (0, .ref tp)]) hx hb dX4_digestFast_82 hl (k := 2) rfl (kt_inc _) (by decide) rfl (fun ls hl => ?_)
      refine lv_goto (tgt := 30) hx hb dX4_digestFast_85 (by decide) ?_
      exact ih_i H locs ls hlt_i hP hD hS (lv_sub hl [2, 1, 0] rfl)
  · skip
    refine lv_iconst (v := 1) hx hb dX4_digestFast_12 (by decide) ?_
    refine lv_goto (tgt := 17) hx hb dX4_digestFast_13 (by decide) ?_
    refine lv_i2l (v := Int32.toInt64 (1)) hx hb dX4_digestFast_17 rfl ?_
    refine lv_ladd hx hb dX4_digestFast_18 ?_
    refine lv_topl (fun v4 e_v4 => ?_)
    have f_v4 : v4 = d * 31 + Int32.toInt64 (b2i (lieB n E DG LYG)) := e_v4.trans (by first | (rw [b2i_eq0.mp c9]; rfl) | (rw [b2i_ne0.mp c9]; rfl))
    subst f_v4
    refine lv_lstore_n (lv' := [(3, .long (d * 31 + Int32.toInt64 (b2i (lieB n E DG LYG)))), (0, .ref tp), (1, .long d)]) hx hb dX4_digestFast_19 rfl hl (by decide) rfl (fun ls hl => ?_)
    refine lv_aload_n hx hb dX4_digestFast_20 rfl (lv_at hl 1 rfl) ?_
    refine va_get (D := (dC, dI)) (ci := kX4) (v := .ref ne) (C := RX4) (T := TX4) (N := 11) hx hb hts hi_X4 hown hK hP 0 rfl rfl 3 (by decide) hf_28 (fun _ h9 => h9) rfl dX4_digestFast_21 ?_
    refine kt_callv (w' := wTop tp ly lyg lyt LYG LYT tl tlg tlt ((lieX n E DG LYG TLG TLT).1) ((lieX n E DG LYG TLG TLT).2) ne neg net ((neutF n E DG NEG).1) ((neutF n E DG NEG).2) su sug sut SUG SUT kp kr KH km sw tps rt pl P st my co C la lag lat LG LT po pog pot OG OT cJ cJJ cI cII mo eo dg to er n E DG tr T) (rest := []) (As := []) ⟨hx, hb, hml, hown, hts⟩ (c_X0_becomeNeutral l dC dI cI cII cJ cJJ ne neg net NEG NET mo eo dg to er n E DG _ (hn)) (cwV 0 hts gX4_digestFast_X0_becomeNeutral rfl rfl rfl (by decide +kernel) ⟨Nat.le_of_ble_eq_true rfl, Nat.le_of_ble_eq_true rfl⟩) hK hP hD hS hA [7, 8, 9, 28, 29, 30, 31, 32, 33, 34, 35, 36, 37] sw_wTop_wHM_2 rfl 7 kX0 rfl rfl rfl rfl rfl hl.1 (Nat.le_of_ble_eq_true rfl) dX4_digestFast_24 ⟨Nat.zero_le _, Nat.zero_le _⟩ (fun H locs hP hD hS => ?_)
    refine lv_iconst (v := nI 0) hx hb dX4_digestFast_27 (by decide) ?_
    refine lv_istore (lv' := [(5, .int (nI 0)), (3, .long (d * 31 + Int32.toInt64 (b2i (lieB n E DG LYG)))), (0, .ref tp), (1, .long d)]) hx hb dX4_digestFast_28 hl (by decide) rfl (fun ls hl => ?_)
    refine kt_for (n := n) (WD := fun (i : Nat) => wTop tp ly lyg lyt LYG LYT tl tlg tlt ((it (fastS n E DG LYG (neutF n E DG NEG).1) i (d * 31 + Int32.toInt64 (b2i (lieB n E DG LYG)), lieX n E DG LYG TLG TLT)).2.1) ((it (fastS n E DG LYG (neutF n E DG NEG).1) i (d * 31 + Int32.toInt64 (b2i (lieB n E DG LYG)), lieX n E DG LYG TLG TLT)).2.2) ne neg net ((neutF n E DG NEG).1) ((neutF n E DG NEG).2) su sug sut SUG SUT kp kr KH km sw tps rt pl P st my co C la lag lat LG LT po pog pot OG OT cJ cJJ cI cII mo eo dg to er n E DG tr T) (LV := fun (i : Nat) => [(0, .ref tp), (3, .long ((it (fastS n E DG LYG (neutF n E DG NEG).1) i (d * 31 + Int32.toInt64 (b2i (lieB n E DG LYG)), lieX n E DG LYG TLG TLT)).1)), (5, .int (nI i))]) (nL := 6) (hd := 30) ?_ hP hD hS (lv_sub hl [2, 1, 0] rfl)
    intro i hle_i ih_i H locs ls hP hD hS hl
    have hP : va_P (dC, dI) vwCl (wTop tp ly lyg lyt LYG LYT tl tlg tlt ((it (fastS n E DG LYG (neutF n E DG NEG).1) i (d * 31 + Int32.toInt64 (b2i (lieB n E DG LYG)), lieX n E DG LYG TLG TLT)).2.1) ((it (fastS n E DG LYG (neutF n E DG NEG).1) i (d * 31 + Int32.toInt64 (b2i (lieB n E DG LYG)), lieX n E DG LYG TLG TLT)).2.2) ne neg net ((neutF n E DG NEG).1) ((neutF n E DG NEG).2) su sug sut SUG SUT kp kr KH km sw tps rt pl P st my co C la lag lat LG LT po pog pot OG OT cJ cJJ cI cII mo eo dg to er n E DG tr T) H := hP
    have hD : va_D A (wTop tp ly lyg lyt LYG LYT tl tlg tlt ((it (fastS n E DG LYG (neutF n E DG NEG).1) i (d * 31 + Int32.toInt64 (b2i (lieB n E DG LYG)), lieX n E DG LYG TLG TLT)).2.1) ((it (fastS n E DG LYG (neutF n E DG NEG).1) i (d * 31 + Int32.toInt64 (b2i (lieB n E DG LYG)), lieX n E DG LYG TLG TLT)).2.2) ne neg net ((neutF n E DG NEG).1) ((neutF n E DG NEG).2) su sug sut SUG SUT kp kr KH km sw tps rt pl P st my co C la lag lat LG LT po pog pot OG OT cJ cJJ cI cII mo eo dg to er n E DG tr T) := hD
    have hl : lv_has ls 6 [(0, .ref tp), (3, .long ((it (fastS n E DG LYG (neutF n E DG NEG).1) i (d * 31 + Int32.toInt64 (b2i (lieB n E DG LYG)), lieX n E DG LYG TLG TLT)).1)), (5, .int (nI i))] := hl
    refine lv_iload hx hb dX4_digestFast_30 (lv_at hl 2 rfl) ?_
    refine lv_aload_n hx hb dX4_digestFast_32 rfl (lv_at hl 0 rfl) ?_
    refine va_get (D := (dC, dI)) (ci := kX4) (v := .ref mo) (C := RX4) (T := TX4) (N := 11) hx hb hts hi_X4 hown hK hP 0 rfl rfl 0 (by decide) hf_10 (fun _ h9 => h9) rfl dX4_digestFast_33 ?_
    refine va_get (D := (dC, dI)) (ci := kX2) (v := .int (nI n)) (C := RX2) (T := TX2) (N := 4) hx hb hts hi_X2 hown hK hP 28 rfl rfl 0 (by decide) hf_53 (fun _ h9 => h9) rfl dX4_digestFast_36 ?_
    refine kt_ige (tgt := 88) hx hb (by omega) (by omega) dX4_digestFast_39 (by decide) (fun hge_i => ?_) (fun hlt_i => ?_)
    · have e_i : n = i := by omega
      subst e_i
      refine lv_lload_n hx hb dX4_digestFast_88 rfl (lv_at hl 1 rfl) ?_
      refine lv_ldc2 hx hb hown hc_208 dX4_digestFast_89 ?_
      refine lv_lmul hx hb dX4_digestFast_92 ?_
      refine lv_aload_n hx hb dX4_digestFast_93 rfl (lv_at hl 0 rfl) ?_
      refine va_get (D := (dC, dI)) (ci := kX4) (v := .ref my) (C := RX4) (T := TX4) (N := 11) hx hb hts hi_X4 hown hK hP 0 rfl rfl 6 (by decide) hf_44 (fun _ h9 => h9) rfl dX4_digestFast_94 ?_
      refine kt_calli (w' := wTop tp ly lyg lyt LYG LYT tl tlg tlt ((it (fastS n E DG LYG (neutF n E DG NEG).1) n (d * 31 + Int32.toInt64 (b2i (lieB n E DG LYG)), lieX n E DG LYG TLG TLT)).2.1) ((it (fastS n E DG LYG (neutF n E DG NEG).1) n (d * 31 + Int32.toInt64 (b2i (lieB n E DG LYG)), lieX n E DG LYG TLG TLT)).2.2) ne neg net ((neutF n E DG NEG).1) ((neutF n E DG NEG).2) su sug sut SUG SUT kp kr KH km sw tps rt pl P st my co C la lag lat ((findF n E DG C LG).1) ((findF n E DG C LG).2) po pog pot OG OT cJ cJJ cI cII mo eo dg to er n E DG tr T) (rest := [.long (((it (fastS n E DG LYG (neutF n E DG NEG).1) n (d * 31 + Int32.toInt64 (b2i (lieB n E DG LYG)), lieX n E DG LYG TLG TLT)).1) * 31)]) (As := []) ⟨hx, hb, hml, hown, hts⟩ (c_X1_isPayable l dC dI cI cII cJ cJJ my co C la lag lat LG LT po pog pot OG OT mo eo dg to er n E DG _ (hn)) (cwV 0 hts gX4_digestFast_X1_isPayable rfl rfl rfl (by decide +kernel) ⟨Nat.le_of_ble_eq_true rfl, Nat.le_of_ble_eq_true rfl⟩) hK hP hD hS hA [20, 21, 22, 23, 24, 25, 26, 27, 28, 29, 30, 31, 32, 33, 34, 35, 36, 37] sw_wTop_wYM_0 rfl 20 kX1 rfl rfl rfl rfl rfl hl.1 (Nat.le_of_ble_eq_true rfl) dX4_digestFast_97 ⟨Nat.zero_le _, Nat.zero_le _⟩ (fun H locs hP hD hS => ?_)
      refine lv_if_eq (tgt := 107) hx hb dX4_digestFast_100 (by decide) (fun c100 => ?_) (fun c100 => ?_)
      · skip
        refine lv_iconst (v := 0) hx hb dX4_digestFast_107 (by decide) ?_
        refine lv_i2l (v := Int32.toInt64 (0)) hx hb dX4_digestFast_108 rfl ?_
        refine lv_ladd hx hb dX4_digestFast_109 ?_
        refine lv_topl (fun v5 e_v5 => ?_)
        have f_v5 : v5 = (fastX n E DG LYG TLG TLT NEG d).1 * 31 + Int32.toInt64 (b2i (payB n E DG C LG)) := e_v5.trans (by first | (rw [b2i_eq0.mp c100]; rfl) | (rw [b2i_ne0.mp c100]; rfl))
        subst f_v5
        refine lv_lstore_n (lv' := [(3, .long ((fastX n E DG LYG TLG TLT NEG d).1 * 31 + Int32.toInt64 (b2i (payB n E DG C LG)))), (0, .ref tp), (5, .int (nI n))]) hx hb dX4_digestFast_110 rfl hl (by decide) rfl (fun ls hl => ?_)
        refine lv_lload_n hx hb dX4_digestFast_111 rfl (lv_at hl 0 rfl) ?_
        refine lv_ldc2 hx hb hown hc_208 dX4_digestFast_112 ?_
        refine lv_lmul hx hb dX4_digestFast_115 ?_
        refine lv_aload_n hx hb dX4_digestFast_116 rfl (lv_at hl 1 rfl) ?_
        refine va_get (D := (dC, dI)) (ci := kX4) (v := .ref my) (C := RX4) (T := TX4) (N := 11) hx hb hts hi_X4 hown hK hP 0 rfl rfl 6 (by decide) hf_44 (fun _ h9 => h9) rfl dX4_digestFast_117 ?_
        refine kt_calli (w' := wTop tp ly lyg lyt LYG LYT tl tlg tlt ((it (fastS n E DG LYG (neutF n E DG NEG).1) n (d * 31 + Int32.toInt64 (b2i (lieB n E DG LYG)), lieX n E DG LYG TLG TLT)).2.1) ((it (fastS n E DG LYG (neutF n E DG NEG).1) n (d * 31 + Int32.toInt64 (b2i (lieB n E DG LYG)), lieX n E DG LYG TLG TLT)).2.2) ne neg net ((neutF n E DG NEG).1) ((neutF n E DG NEG).2) su sug sut SUG SUT kp kr KH km sw tps rt pl P st my co C la lag lat ((findF n E DG C ((findF n E DG C LG).1)).1) ((findF n E DG C ((findF n E DG C LG).1)).2) po pog pot ((poorX n E DG C ((findF n E DG C LG).1) OG OT).1) ((poorX n E DG C ((findF n E DG C LG).1) OG OT).2) cJ cJJ cI cII mo eo dg to er n E DG tr T) (rest := [.long (((fastX n E DG LYG TLG TLT NEG d).1 * 31 + Int32.toInt64 (b2i (payB n E DG C LG))) * 31)]) (As := []) ⟨hx, hb, hml, hown, hts⟩ (c_X1_weakestNode l dC dI cI cII cJ cJJ my co C la lag lat ((findF n E DG C LG).1) ((findF n E DG C LG).2) po pog pot OG OT mo eo dg to er n E DG _ (hn)) (cwV 0 hts gX4_digestFast_X1_weakestNode rfl rfl rfl (by decide +kernel) ⟨Nat.le_of_ble_eq_true rfl, Nat.le_of_ble_eq_true rfl⟩) hK hP hD hS hA [20, 21, 22, 23, 24, 25, 26, 27, 28, 29, 30, 31, 32, 33, 34, 35, 36, 37] sw_wTop_wYM_0 rfl 20 kX1 rfl rfl rfl rfl rfl hl.1 (Nat.le_of_ble_eq_true rfl) dX4_digestFast_120 ⟨Nat.zero_le _, Nat.zero_le _⟩ (fun H locs hP hD hS => ?_)
        refine lv_i2l (v := Int32.toInt64 (weakF n E DG C ((findF n E DG C LG).1))) hx hb dX4_digestFast_123 rfl ?_
        refine lv_ladd hx hb dX4_digestFast_124 ?_
        exact kt_lret (W' := wTop tp ly lyg lyt LYG LYT tl tlg tlt ((fastX n E DG LYG TLG TLT NEG d).2.1) ((fastX n E DG LYG TLG TLT NEG d).2.2) ne neg net ((neutF n E DG NEG).1) ((neutF n E DG NEG).2) su sug sut SUG SUT kp kr KH km sw tps rt pl P st my co C la lag lat ((findF n E DG C (findF n E DG C LG).1).1) ((findF n E DG C (findF n E DG C LG).1).2) po pog pot ((poorX n E DG C (findF n E DG C LG).1 OG OT).1) ((poorX n E DG C (findF n E DG C LG).1 OG OT).2) cJ cJJ cI cII mo eo dg to er n E DG tr T) hx hb hr hS hP hK hD (rfl) hlocks dX4_digestFast_125
      · skip
        refine lv_iconst (v := 1) hx hb dX4_digestFast_103 (by decide) ?_
        refine lv_goto (tgt := 108) hx hb dX4_digestFast_104 (by decide) ?_
        refine lv_i2l (v := Int32.toInt64 (1)) hx hb dX4_digestFast_108 rfl ?_
        refine lv_ladd hx hb dX4_digestFast_109 ?_
        refine lv_topl (fun v6 e_v6 => ?_)
        have f_v6 : v6 = (fastX n E DG LYG TLG TLT NEG d).1 * 31 + Int32.toInt64 (b2i (payB n E DG C LG)) := e_v6.trans (by first | (rw [b2i_eq0.mp c100]; rfl) | (rw [b2i_ne0.mp c100]; rfl))
        subst f_v6
        refine lv_lstore_n (lv' := [(3, .long ((fastX n E DG LYG TLG TLT NEG d).1 * 31 + Int32.toInt64 (b2i (payB n E DG C LG)))), (0, .ref tp), (5, .int (nI n))]) hx hb dX4_digestFast_110 rfl hl (by decide) rfl (fun ls hl => ?_)
        refine lv_lload_n hx hb dX4_digestFast_111 rfl (lv_at hl 0 rfl) ?_
        refine lv_ldc2 hx hb hown hc_208 dX4_digestFast_112 ?_
        refine lv_lmul hx hb dX4_digestFast_115 ?_
        refine lv_aload_n hx hb dX4_digestFast_116 rfl (lv_at hl 1 rfl) ?_
        refine va_get (D := (dC, dI)) (ci := kX4) (v := .ref my) (C := RX4) (T := TX4) (N := 11) hx hb hts hi_X4 hown hK hP 0 rfl rfl 6 (by decide) hf_44 (fun _ h9 => h9) rfl dX4_digestFast_117 ?_
        refine kt_calli (w' := wTop tp ly lyg lyt LYG LYT tl tlg tlt ((it (fastS n E DG LYG (neutF n E DG NEG).1) n (d * 31 + Int32.toInt64 (b2i (lieB n E DG LYG)), lieX n E DG LYG TLG TLT)).2.1) ((it (fastS n E DG LYG (neutF n E DG NEG).1) n (d * 31 + Int32.toInt64 (b2i (lieB n E DG LYG)), lieX n E DG LYG TLG TLT)).2.2) ne neg net ((neutF n E DG NEG).1) ((neutF n E DG NEG).2) su sug sut SUG SUT kp kr KH km sw tps rt pl P st my co C la lag lat ((findF n E DG C ((findF n E DG C LG).1)).1) ((findF n E DG C ((findF n E DG C LG).1)).2) po pog pot ((poorX n E DG C ((findF n E DG C LG).1) OG OT).1) ((poorX n E DG C ((findF n E DG C LG).1) OG OT).2) cJ cJJ cI cII mo eo dg to er n E DG tr T) (rest := [.long (((fastX n E DG LYG TLG TLT NEG d).1 * 31 + Int32.toInt64 (b2i (payB n E DG C LG))) * 31)]) (As := []) ⟨hx, hb, hml, hown, hts⟩ (c_X1_weakestNode l dC dI cI cII cJ cJJ my co C la lag lat ((findF n E DG C LG).1) ((findF n E DG C LG).2) po pog pot OG OT mo eo dg to er n E DG _ (hn)) (cwV 0 hts gX4_digestFast_X1_weakestNode rfl rfl rfl (by decide +kernel) ⟨Nat.le_of_ble_eq_true rfl, Nat.le_of_ble_eq_true rfl⟩) hK hP hD hS hA [20, 21, 22, 23, 24, 25, 26, 27, 28, 29, 30, 31, 32, 33, 34, 35, 36, 37] sw_wTop_wYM_0 rfl 20 kX1 rfl rfl rfl rfl rfl hl.1 (Nat.le_of_ble_eq_true rfl) dX4_digestFast_120 ⟨Nat.zero_le _, Nat.zero_le _⟩ (fun H locs hP hD hS => ?_)
        refine lv_i2l (v := Int32.toInt64 (weakF n E DG C ((findF n E DG C LG).1))) hx hb dX4_digestFast_123 rfl ?_
        refine lv_ladd hx hb dX4_digestFast_124 ?_
        exact kt_lret (W' := wTop tp ly lyg lyt LYG LYT tl tlg tlt ((fastX n E DG LYG TLG TLT NEG d).2.1) ((fastX n E DG LYG TLG TLT NEG d).2.2) ne neg net ((neutF n E DG NEG).1) ((neutF n E DG NEG).2) su sug sut SUG SUT kp kr KH km sw tps rt pl P st my co C la lag lat ((findF n E DG C (findF n E DG C LG).1).1) ((findF n E DG C (findF n E DG C LG).1).2) po pog pot ((poorX n E DG C (findF n E DG C LG).1 OG OT).1) ((poorX n E DG C (findF n E DG C LG).1 OG OT).2) cJ cJJ cI cII mo eo dg to er n E DG tr T) hx hb hr hS hP hK hD (rfl) hlocks dX4_digestFast_125
    · skip
      refine lv_lload_n hx hb dX4_digestFast_42 rfl (lv_at hl 1 rfl) ?_
      refine lv_ldc2 hx hb hown hc_208 dX4_digestFast_43 ?_
      refine lv_lmul hx hb dX4_digestFast_46 ?_
      refine lv_aload_n hx hb dX4_digestFast_47 rfl (lv_at hl 0 rfl) ?_
      refine va_get (D := (dC, dI)) (ci := kX4) (v := .ref ne) (C := RX4) (T := TX4) (N := 11) hx hb hts hi_X4 hown hK hP 0 rfl rfl 3 (by decide) hf_28 (fun _ h9 => h9) rfl dX4_digestFast_48 ?_
      refine va_get (D := (dC, dI)) (ci := kX0) (v := .ref neg) (C := RX0) (T := TX0) (N := 3) hx hb hts hi_X0 hown hK hP 7 rfl rfl 0 (by decide) hf_89 (fun _ h9 => h9) rfl dX4_digestFast_51 ?_
      refine lv_iload hx hb dX4_digestFast_54 (lv_at hl 2 rfl) ?_
      refine kt_iald hx hb hK hP 8 0 rfl rfl (by omega) (by decide) dX4_digestFast_56 ?_
      refine lv_i2l (v := Int32.toInt64 (((neutF n E DG NEG).1) i)) hx hb dX4_digestFast_57 rfl ?_
      refine lv_ladd hx hb dX4_digestFast_58 ?_
      refine lv_lstore_n (lv' := [(3, .long ((((it (fastS n E DG LYG (neutF n E DG NEG).1) i (d * 31 + Int32.toInt64 (b2i (lieB n E DG LYG)), lieX n E DG LYG TLG TLT)).1) * 31) + (Int32.toInt64 (((neutF n E DG NEG).1) i)))), (0, .ref tp), (5, .int (nI i))]) hx hb dX4_digestFast_59 rfl hl (by decide) rfl (fun ls hl => ?_)
      refine lv_aload_n hx hb dX4_digestFast_60 rfl (lv_at hl 1 rfl) ?_
      refine lv_iload hx hb dX4_digestFast_61 (lv_at hl 2 rfl) ?_
      refine lv_iconst (v := 1) hx hb dX4_digestFast_63 (by decide) ?_
      refine kt_callv (w' := wTop tp ly lyg lyt LYG LYT tl tlg tlt ((wouldR n E DG LYG i 1).1) ((wouldR n E DG LYG i 1).2) ne neg net ((neutF n E DG NEG).1) ((neutF n E DG NEG).2) su sug sut SUG SUT kp kr KH km sw tps rt pl P st my co C la lag lat LG LT po pog pot OG OT cJ cJJ cI cII mo eo dg to er n E DG tr T) (rest := []) (As := [.int (nI i), .int 1]) ⟨hx, hb, hml, hown, hts⟩ (c_X4_rollTrialWith l dC dI cI cII cJ cJJ tp ly lyg lyt LYG LYT tl tlg tlt ((it (fastS n E DG LYG (neutF n E DG NEG).1) i (d * 31 + Int32.toInt64 (b2i (lieB n E DG LYG)), lieX n E DG LYG TLG TLT)).2.1) ((it (fastS n E DG LYG (neutF n E DG NEG).1) i (d * 31 + Int32.toInt64 (b2i (lieB n E DG LYG)), lieX n E DG LYG TLG TLT)).2.2) ne neg net ((neutF n E DG NEG).1) ((neutF n E DG NEG).2) su sug sut SUG SUT kp kr KH km sw tps rt pl P st my co C la lag lat LG LT po pog pot OG OT mo eo dg to er n E DG tr T i 1 _ (hn) (by omega)) (cwV 2 hts gX4_digestFast_X4_rollTrialWith rfl rfl rfl (by decide +kernel) ⟨Nat.le_of_ble_eq_true rfl, Nat.le_of_ble_eq_true rfl⟩) hK hP hD hS hA (List.range' 0 45) sw_wTop_wTop_0 rfl 0 kX4 rfl rfl rfl rfl rfl hl.1 (Nat.le_of_ble_eq_true rfl) dX4_digestFast_64 ⟨Nat.zero_le _, Nat.zero_le _⟩ (fun H locs hP hD hS => ?_)
      refine lv_lload_n hx hb dX4_digestFast_67 rfl (lv_at hl 0 rfl) ?_
      refine lv_ldc2 hx hb hown hc_208 dX4_digestFast_68 ?_
      refine lv_lmul hx hb dX4_digestFast_71 ?_
      refine lv_aload_n hx hb dX4_digestFast_72 rfl (lv_at hl 1 rfl) ?_
      refine va_get (D := (dC, dI)) (ci := kX4) (v := .ref tl) (C := RX4) (T := TX4) (N := 11) hx hb hts hi_X4 hown hK hP 0 rfl rfl 2 (by decide) hf_25 (fun _ h9 => h9) rfl dX4_digestFast_73 ?_
      refine kt_calli (w' := wTop tp ly lyg lyt LYG LYT tl tlg tlt ((wouldR n E DG LYG i 1).1) ((wouldR n E DG LYG i 1).2) ne neg net ((neutF n E DG NEG).1) ((neutF n E DG NEG).2) su sug sut SUG SUT kp kr KH km sw tps rt pl P st my co C la lag lat LG LT po pog pot OG OT cJ cJJ cI cII mo eo dg to er n E DG tr T) (rest := [.long (((((it (fastS n E DG LYG (neutF n E DG NEG).1) i (d * 31 + Int32.toInt64 (b2i (lieB n E DG LYG)), lieX n E DG LYG TLG TLT)).1) * 31) + (Int32.toInt64 (((neutF n E DG NEG).1) i))) * 31)]) (As := []) ⟨hx, hb, hml, hown, hts⟩ (c_X0_allTimes l dC dI cI cII cJ cJJ tl tlg tlt ((wouldR n E DG LYG i 1).1) ((wouldR n E DG LYG i 1).2) mo eo dg to er n E DG _ (hn)) (cwV 0 hts gX4_digestFast_X0_allTimes rfl rfl rfl (by decide +kernel) ⟨Nat.le_of_ble_eq_true rfl, Nat.le_of_ble_eq_true rfl⟩) hK hP hD hS hA [4, 5, 6, 28, 29, 30, 31, 32, 33, 34, 35, 36, 37] sw_wTop_wHM_1 rfl 4 kX0 rfl rfl rfl rfl rfl hl.1 (Nat.le_of_ble_eq_true rfl) dX4_digestFast_76 ⟨Nat.zero_le _, Nat.zero_le _⟩ (fun H locs hP hD hS => ?_)
      refine lv_i2l (v := Int32.toInt64 (sumN ((wouldR n E DG LYG i 1).2) n)) hx hb dX4_digestFast_79 rfl ?_
      refine lv_ladd hx hb dX4_digestFast_80 ?_
      refine lv_lstore_n (lv' := [(3, .long ((((((it (fastS n E DG LYG (neutF n E DG NEG).1) i (d * 31 + Int32.toInt64 (b2i (lieB n E DG LYG)), lieX n E DG LYG TLG TLT)).1) * 31) + (Int32.toInt64 (((neutF n E DG NEG).1) i))) * 31) + (Int32.toInt64 (sumN ((wouldR n E DG LYG i 1).2) n)))), (0, .ref tp), (5, .int (nI i))]) hx hb dX4_digestFast_81 rfl hl (by decide) rfl (fun ls hl => ?_)
      refine lv_iinc (v := nI (i + 1)) (lv' := [(5, .int (nI (i + 1))), (3, .long ((((((it (fastS n E DG LYG (neutF n E DG NEG).1) i (d * 31 + Int32.toInt64 (b2i (lieB n E DG LYG)), lieX n E DG LYG TLG TLT)).1) * 31) + (Int32.toInt64 (((neutF n E DG NEG).1) i))) * 31) + (Int32.toInt64 (sumN ((wouldR n E DG LYG i 1).2) n)))), (0, .ref tp)]) hx hb dX4_digestFast_82 hl (k := 2) rfl (kt_inc _) (by decide) rfl (fun ls hl => ?_)
      refine lv_goto (tgt := 30) hx hb dX4_digestFast_85 (by decide) ?_
      exact ih_i H locs ls hlt_i hP hD hS (lv_sub hl [2, 1, 0] rfl)

set_option maxHeartbeats 4000000 in
set_option maxRecDepth 100000 in
theorem c_X4_digest (l : Launch) (dC : Nat → ClassId) (dI : Nat → Nat → Nat) (cI cII cJ cJJ : ClassId) (tp : Nat) (ly : Nat) (lyg : Nat) (lyt : Nat) (LYG : Nat → Int32) (LYT : Nat → Int32) (tl : Nat) (tlg : Nat) (tlt : Nat) (TLG : Nat → Int32) (TLT : Nat → Int32) (ne : Nat) (neg : Nat) (net : Nat) (NEG : Nat → Int32) (NET : Nat → Int32) (su : Nat) (sug : Nat) (sut : Nat) (SUG : Nat → Int32) (SUT : Nat → Int32) (kp : Nat) (kr : Nat → Nat) (KH : Nat → Nat → Int32) (km : Nat) (sw : Int32) (tps : Int32) (rt : Nat) (pl : Nat) (P : Nat → Int32) (st : Int32) (my : Nat) (co : Nat) (C : Nat → Int32) (la : Nat) (lag : Nat) (lat : Nat) (LG : Nat → Int32) (LT : Nat → Int32) (po : Nat) (pog : Nat) (pot : Nat) (OG : Nat → Int32) (OT : Nat → Int32) (mo : Nat) (eo : Nat) (dg : Nat) (to : Nat) (er : Nat → Nat) (n : Nat) (E : Nat → Nat → Int32) (DG : Nat → Int32) (tr : Nat → Nat) (T : Nat → Nat → Int64) (sz : Nat) (hn : n ≤ 6) (hkm : km ≤ 4) (hfast : fastB n E = true) : Met l yX4_digest wsX4_digest ({ frames := 6, cells := 0, slots := 0, locals := 138 }) (va_Pc [.ref tp] (PRE (dC, dI) (tyL cI cII cJ cJJ) (wTop tp ly lyg lyt LYG LYT tl tlg tlt TLG TLT ne neg net NEG NET su sug sut SUG SUT kp kr KH km sw tps rt pl P st my co C la lag lat LG LT po pog pot OG OT cJ cJJ cI cII mo eo dg to er n E DG tr T) sz)) (va_Ql (fun (r' : Int64) (_ : Unit) => r' = fastD n E DG LYG TLG TLT NEG C LG (dig4 n E DG LYG LYT P C sw tps st km KH T)) (fun _ tS => ATW (dC, dI) (tyL cI cII cJ cJJ) (va_A (wTop tp ly lyg lyt LYG LYT tl tlg tlt TLG TLT ne neg net NEG NET su sug sut SUG SUT kp kr KH km sw tps rt pl P st my co C la lag lat LG LT po pog pot OG OT cJ cJJ cI cII mo eo dg to er n E DG tr T) sz) (wTop tp ly lyg lyt LYG LYT tl tlg tlt ((fastX n E DG LYG TLG TLT NEG (dig4 n E DG LYG LYT P C sw tps st km KH T)).2.1) ((fastX n E DG LYG TLG TLT NEG (dig4 n E DG LYG LYT P C sw tps st km KH T)).2.2) ne neg net ((neutF n E DG NEG).1) ((neutF n E DG NEG).2) su sug sut SUG SUT kp kr KH km sw tps rt pl P st my co C la lag lat ((findF n E DG C (findF n E DG C LG).1).1) ((findF n E DG C (findF n E DG C LG).1).2) po pog pot ((poorX n E DG C (findF n E DG C LG).1 OG OT).1) ((poorX n E DG C (findF n E DG C LG).1 OG OT).2) cJ cJJ cI cII mo eo dg to er n E DG tr ((treeF n E DG T).1)) tS) (va_A (wTop tp ly lyg lyt LYG LYT tl tlg tlt TLG TLT ne neg net NEG NET su sug sut SUG SUT kp kr KH km sw tps rt pl P st my co C la lag lat LG LT po pog pot OG OT cJ cJJ cI cII mo eo dg to er n E DG tr T) sz)) 0 0 (va_A (wTop tp ly lyg lyt LYG LYT tl tlg tlt TLG TLT ne neg net NEG NET su sug sut SUG SUT kp kr KH km sw tps rt pl P st my co C la lag lat LG LT po pog pot OG OT cJ cJJ cI cII mo eo dg to er n E DG tr T) sz) := by
  refine Met.ofW (cc := cX4_digest) (maxL := 5) (ret := (some .long)) (by decide) rfl ?_
  intro p e s m args below meth c s₁ B hml hv
  obtain ⟨rfl, hsz, hP, hK, hD0⟩ := hv
  have hx := B.exec
  have hb := B.bytes
  have hr := B.returns
  have hlocks := B.notSynchronized
  have hts := atoms_spec (ws := wsX4_digest) B.pre
  have hown : s.vm.findClass RX4 = some m.cls := findClass_of_methodNamed B.named
  subst hsz
  have hD := hD0.self (sz := s.heap.size)
  generalize hAe : va_A (wTop tp ly lyg lyt LYG LYT tl tlg tlt TLG TLT ne neg net NEG NET su sug sut SUG SUT kp kr KH km sw tps rt pl P st my co C la lag lat LG LT po pog pot OG OT cJ cJJ cI cII mo eo dg to er n E DG tr T) s.heap.size = A at hD ⊢
  have hA : ∀ q : Nat, s.heap.size ≤ q → A q := fun q h => by rw [← hAe]; exact Or.inr h
  have hS : va_S A s.heap s.heap [] := va_S.rf
  have hl := lv_entry ([.ref tp]) (n := 5) (Nat.le_of_ble_eq_true rfl)
  rw [lg_entry_eq]
  generalize (lg_sl ([.ref tp]) ++ List.replicate (5 - (lg_sl ([.ref tp])).length) Slot.unset).toArray = ls at hl ⊢
  have hl : lv_has ls 5 [(0, .ref tp)] := hl
  have hc_206 := hts (.constantLong RX4 206 (58310)) (by decide +kernel)
  have hi_X4 : ∀ w ∈ u_ws RX4 TX4 11, w ∈ wsX4_digest := by decide +kernel
  have hf_10 := hts (.fieldLink RX4 10 "Topplemoor" "moor" "LTopplemoor$Moor;") (by decide +kernel)
  have hi_X2 : ∀ w ∈ u_ws RX2 TX2 4, w ∈ wsX4_digest := by decide +kernel
  have hf_53 := hts (.fieldLink RX4 53 "Topplemoor$Moor" "spots" "I") (by decide +kernel)
  have hc_208 := hts (.constantLong RX4 208 (31)) (by decide +kernel)
  have hf_21 := hts (.fieldLink RX4 21 "Topplemoor" "lying" "LTopplemoor$Heap;") (by decide +kernel)
  refine lv_ldc2 hx hb hown hc_206 dX4_digest_0 ?_
  refine lv_lstore_n (lv' := [(1, .long 58310), (0, .ref tp)]) hx hb dX4_digest_3 rfl hl (by decide) rfl (fun ls hl => ?_)
  refine lv_iconst (v := nI 0) hx hb dX4_digest_4 (by decide) ?_
  refine lv_istore_n (lv' := [(3, .int (nI 0)), (1, .long 58310), (0, .ref tp)]) hx hb dX4_digest_5 rfl hl (by decide) rfl (fun ls hl => ?_)
  refine kt_for (n := 14) (WD := fun (i : Nat) => wTop tp ly lyg lyt LYG LYT tl tlg tlt TLG TLT ne neg net NEG NET su sug sut SUG SUT kp kr KH km sw tps rt pl P st my co C la lag lat LG LT po pog pot OG OT cJ cJJ cI cII mo eo dg to er n E DG tr T) (LV := fun (i : Nat) => [(0, .ref tp), (1, .long (it (manyD n E DG LYG LYT P C sw tps st km) i 58310)), (3, .int (nI i))]) (nL := 5) (hd := 6) ?_ hP hD hS (lv_sub hl [2, 1, 0] rfl)
  intro i hle_i ih_i H locs ls hP hD hS hl
  have hP : va_P (dC, dI) vwCl (wTop tp ly lyg lyt LYG LYT tl tlg tlt TLG TLT ne neg net NEG NET su sug sut SUG SUT kp kr KH km sw tps rt pl P st my co C la lag lat LG LT po pog pot OG OT cJ cJJ cI cII mo eo dg to er n E DG tr T) H := hP
  have hD : va_D A (wTop tp ly lyg lyt LYG LYT tl tlg tlt TLG TLT ne neg net NEG NET su sug sut SUG SUT kp kr KH km sw tps rt pl P st my co C la lag lat LG LT po pog pot OG OT cJ cJJ cI cII mo eo dg to er n E DG tr T) := hD
  have hl : lv_has ls 5 [(0, .ref tp), (1, .long (it (manyD n E DG LYG LYT P C sw tps st km) i 58310)), (3, .int (nI i))] := hl
  refine lv_iload_n hx hb dX4_digest_6 rfl (lv_at hl 2 rfl) ?_
  refine lv_bipush (v := nI 14) hx hb dX4_digest_7 (by decide) ?_
  refine kt_ige (tgt := 31) hx hb (by omega) (by omega) dX4_digest_9 (by decide) (fun hge_i => ?_) (fun hlt_i => ?_)
  · have e_i : 14 = i := by omega
    subst e_i
    obtain ⟨g1, hg1⟩ : ∃ g : Int64, g = it (manyD n E DG LYG LYT P C sw tps st km) 14 58310 := ⟨_, rfl⟩
    rw [← hg1] at hl
    refine lv_iconst (v := nI 0) hx hb dX4_digest_31 (by decide) ?_
    refine lv_istore_n (lv' := [(3, .int (nI 0)), (0, .ref tp), (1, .long g1)]) hx hb dX4_digest_32 rfl hl (by decide) rfl (fun ls hl => ?_)
    refine kt_for (n := n) (WD := fun (i : Nat) => wTop tp ly lyg lyt LYG LYT tl tlg tlt TLG TLT ne neg net NEG NET su sug sut SUG SUT kp kr KH km sw tps rt pl P st my co C la lag lat LG LT po pog pot OG OT cJ cJJ cI cII mo eo dg to er n E DG tr T) (LV := fun (i : Nat) => [(0, .ref tp), (1, .long (it (spotE E DG LYG LYT P) i g1)), (3, .int (nI i))]) (nL := 5) (hd := 33) ?_ hP hD hS (lv_sub hl [1, 2, 0] rfl)
    intro i hle_i ih_i H locs ls hP hD hS hl
    have hP : va_P (dC, dI) vwCl (wTop tp ly lyg lyt LYG LYT tl tlg tlt TLG TLT ne neg net NEG NET su sug sut SUG SUT kp kr KH km sw tps rt pl P st my co C la lag lat LG LT po pog pot OG OT cJ cJJ cI cII mo eo dg to er n E DG tr T) H := hP
    have hD : va_D A (wTop tp ly lyg lyt LYG LYT tl tlg tlt TLG TLT ne neg net NEG NET su sug sut SUG SUT kp kr KH km sw tps rt pl P st my co C la lag lat LG LT po pog pot OG OT cJ cJJ cI cII mo eo dg to er n E DG tr T) := hD
    have hl : lv_has ls 5 [(0, .ref tp), (1, .long (it (spotE E DG LYG LYT P) i g1)), (3, .int (nI i))] := hl
    refine lv_iload_n hx hb dX4_digest_33 rfl (lv_at hl 2 rfl) ?_
    refine lv_aload_n hx hb dX4_digest_34 rfl (lv_at hl 0 rfl) ?_
    refine va_get (D := (dC, dI)) (ci := kX4) (v := .ref mo) (C := RX4) (T := TX4) (N := 11) hx hb hts hi_X4 hown hK hP 0 rfl rfl 0 (by decide) hf_10 (fun _ h9 => h9) rfl dX4_digest_35 ?_
    refine va_get (D := (dC, dI)) (ci := kX2) (v := .int (nI n)) (C := RX2) (T := TX2) (N := 4) hx hb hts hi_X2 hown hK hP 28 rfl rfl 0 (by decide) hf_53 (fun _ h9 => h9) rfl dX4_digest_38 ?_
    refine kt_ige (tgt := 81) hx hb (by omega) (by omega) dX4_digest_41 (by decide) (fun hge_i => ?_) (fun hlt_i => ?_)
    · have e_i : n = i := by omega
      subst e_i
      obtain ⟨g2, hg2⟩ : ∃ g : Int64, g = it (spotE E DG LYG LYT P) n g1 := ⟨_, rfl⟩
      rw [← hg2] at hl
      refine lv_iconst (v := nI 0) hx hb dX4_digest_81 (by decide) ?_
      refine lv_istore_n (lv' := [(3, .int (nI 0)), (0, .ref tp), (1, .long g2)]) hx hb dX4_digest_82 rfl hl (by decide) rfl (fun ls hl => ?_)
      refine kt_for (n := n) (WD := fun (i : Nat) => wTop tp ly lyg lyt LYG LYT tl tlg tlt TLG TLT ne neg net NEG NET su sug sut SUG SUT kp kr KH km sw tps rt pl P st my co C la lag lat LG LT po pog pot OG OT cJ cJJ cI cII mo eo dg to er n E DG tr T) (LV := fun (i : Nat) => [(0, .ref tp), (1, .long (it (nodeD n E C) i g2)), (3, .int (nI i))]) (nL := 5) (hd := 83) ?_ hP hD hS (lv_sub hl [1, 2, 0] rfl)
      intro i hle_i ih_i H locs ls hP hD hS hl
      have hP : va_P (dC, dI) vwCl (wTop tp ly lyg lyt LYG LYT tl tlg tlt TLG TLT ne neg net NEG NET su sug sut SUG SUT kp kr KH km sw tps rt pl P st my co C la lag lat LG LT po pog pot OG OT cJ cJJ cI cII mo eo dg to er n E DG tr T) H := hP
      have hD : va_D A (wTop tp ly lyg lyt LYG LYT tl tlg tlt TLG TLT ne neg net NEG NET su sug sut SUG SUT kp kr KH km sw tps rt pl P st my co C la lag lat LG LT po pog pot OG OT cJ cJJ cI cII mo eo dg to er n E DG tr T) := hD
      have hl : lv_has ls 5 [(0, .ref tp), (1, .long (it (nodeD n E C) i g2)), (3, .int (nI i))] := hl
      refine lv_iload_n hx hb dX4_digest_83 rfl (lv_at hl 2 rfl) ?_
      refine lv_aload_n hx hb dX4_digest_84 rfl (lv_at hl 0 rfl) ?_
      refine va_get (D := (dC, dI)) (ci := kX4) (v := .ref mo) (C := RX4) (T := TX4) (N := 11) hx hb hts hi_X4 hown hK hP 0 rfl rfl 0 (by decide) hf_10 (fun _ h9 => h9) rfl dX4_digest_85 ?_
      refine va_get (D := (dC, dI)) (ci := kX2) (v := .int (nI n)) (C := RX2) (T := TX2) (N := 4) hx hb hts hi_X2 hown hK hP 28 rfl rfl 0 (by decide) hf_53 (fun _ h9 => h9) rfl dX4_digest_88 ?_
      refine kt_ige (tgt := 107) hx hb (by omega) (by omega) dX4_digest_91 (by decide) (fun hge_i => ?_) (fun hlt_i => ?_)
      · have e_i : n = i := by omega
        subst e_i
        refine lv_aload_n hx hb dX4_digest_107 rfl (lv_at hl 0 rfl) ?_
        refine lv_lload_n hx hb dX4_digest_108 rfl (lv_at hl 1 rfl) ?_
        refine lv_bipush (v := nI 6) hx hb dX4_digest_109 (by decide) ?_
        refine kt_calll (w' := wTop tp ly lyg lyt LYG LYT tl tlg tlt TLG TLT ne neg net NEG NET su sug sut SUG SUT kp kr KH km sw tps rt pl P st my co C la lag lat LG LT po pog pot OG OT cJ cJJ cI cII mo eo dg to er n E DG tr T) (rest := []) (As := [.long (it (nodeD n E C) n g2), .int (nI 6)]) ⟨hx, hb, hml, hown, hts⟩ (c_X4_digestNode l dC dI cI cII cJ cJJ tp ly lyg lyt LYG LYT tl tlg tlt TLG TLT ne neg net NEG NET su sug sut SUG SUT kp kr KH km sw tps rt pl P st my co C la lag lat LG LT po pog pot OG OT mo eo dg to er n E DG tr T (it (nodeD n E C) n g2) 6 _ (hn) (by omega)) (cwV 2 hts gX4_digest_X4_digestNode rfl rfl rfl (by decide +kernel) ⟨Nat.le_of_ble_eq_true rfl, Nat.le_of_ble_eq_true rfl⟩) hK hP hD hS hA (List.range' 0 45) sw_wTop_wTop_0 rfl 0 kX4 rfl rfl rfl rfl rfl hl.1 (Nat.le_of_ble_eq_true rfl) dX4_digest_111 ⟨Nat.zero_le _, Nat.zero_le _⟩ (fun H locs hP hD hS => ?_)
        refine lv_lstore_n (lv' := [(1, .long (nodeD n E C 6 (it (nodeD n E C) n g2))), (0, .ref tp), (3, .int (nI n))]) hx hb dX4_digest_114 rfl hl (by decide) rfl (fun ls hl => ?_)
        refine lv_aload_n hx hb dX4_digest_115 rfl (lv_at hl 1 rfl) ?_
        refine lv_lload_n hx hb dX4_digest_116 rfl (lv_at hl 0 rfl) ?_
        refine kt_calll (w' := wTop tp ly lyg lyt LYG LYT tl tlg tlt TLG TLT ne neg net NEG NET su sug sut SUG SUT kp kr KH km sw tps rt pl P st my co C la lag lat LG LT po pog pot OG OT cJ cJJ cI cII mo eo dg to er n E DG tr T) (rest := []) (As := [.long (nodeD n E C 6 (it (nodeD n E C) n g2))]) ⟨hx, hb, hml, hown, hts⟩ (c_X4_digestKept l dC dI cI cII cJ cJJ tp ly lyg lyt LYG LYT tl tlg tlt TLG TLT ne neg net NEG NET su sug sut SUG SUT kp kr KH km sw tps rt pl P st my co C la lag lat LG LT po pog pot OG OT mo eo dg to er n E DG tr T (nodeD n E C 6 (it (nodeD n E C) n g2)) _ (hn) (hkm)) (cwV 1 hts gX4_digest_X4_digestKept rfl rfl rfl (by decide +kernel) ⟨Nat.le_of_ble_eq_true rfl, Nat.le_of_ble_eq_true rfl⟩) hK hP hD hS hA (List.range' 0 45) sw_wTop_wTop_0 rfl 0 kX4 rfl rfl rfl rfl rfl hl.1 (Nat.le_of_ble_eq_true rfl) dX4_digest_117 ⟨Nat.zero_le _, Nat.zero_le _⟩ (fun H locs hP hD hS => ?_)
        refine lv_lstore_n (lv' := [(1, .long (keptD n km KH (nodeD n E C 6 (it (nodeD n E C) n g2)))), (0, .ref tp), (3, .int (nI n))]) hx hb dX4_digest_120 rfl hl (by decide) rfl (fun ls hl => ?_)
        refine lv_lload_n hx hb dX4_digest_121 rfl (lv_at hl 0 rfl) ?_
        refine lv_ldc2 hx hb hown hc_208 dX4_digest_122 ?_
        refine lv_lmul hx hb dX4_digest_125 ?_
        refine lv_aload_n hx hb dX4_digest_126 rfl (lv_at hl 1 rfl) ?_
        refine va_get (D := (dC, dI)) (ci := kX4) (v := .ref mo) (C := RX4) (T := TX4) (N := 11) hx hb hts hi_X4 hown hK hP 0 rfl rfl 0 (by decide) hf_10 (fun _ h9 => h9) rfl dX4_digest_127 ?_
        refine kt_calll (w' := wTop tp ly lyg lyt LYG LYT tl tlg tlt TLG TLT ne neg net NEG NET su sug sut SUG SUT kp kr KH km sw tps rt pl P st my co C la lag lat LG LT po pog pot OG OT cJ cJJ cI cII mo eo dg to er n E DG tr ((treeF n E DG T).1)) (rest := [.long ((keptD n km KH (nodeD n E C 6 (it (nodeD n E C) n g2))) * 31)]) (As := []) ⟨hx, hb, hml, hown, hts⟩ (c_X2_trees l dC dI cI cII cJ cJJ mo eo dg to er n E DG tr T _ (hn)) (cwV 0 hts gX4_digest_X2_trees rfl rfl rfl (by decide +kernel) ⟨Nat.le_of_ble_eq_true rfl, Nat.le_of_ble_eq_true rfl⟩) hK hP hD hS hA [28, 29, 30, 31, 32, 33, 34, 35, 36, 37, 38, 39, 40, 41, 42, 43, 44] sw_wTop_wMT_0 rfl 28 kX2 rfl rfl rfl rfl rfl hl.1 (Nat.le_of_ble_eq_true rfl) dX4_digest_130 ⟨Nat.zero_le _, Nat.zero_le _⟩ (fun H locs hP hD hS => ?_)
        refine lv_ladd hx hb dX4_digest_133 ?_
        refine lv_lstore_n (lv' := [(1, .long (((keptD n km KH (nodeD n E C 6 (it (nodeD n E C) n g2))) * 31) + ((treeF n E DG T).2))), (0, .ref tp), (3, .int (nI n))]) hx hb dX4_digest_134 rfl hl (by decide) rfl (fun ls hl => ?_)
        refine lv_lload_n hx hb dX4_digest_135 rfl (lv_at hl 0 rfl) ?_
        refine lv_ldc2 hx hb hown hc_208 dX4_digest_136 ?_
        refine lv_lmul hx hb dX4_digest_139 ?_
        refine lv_aload_n hx hb dX4_digest_140 rfl (lv_at hl 1 rfl) ?_
        refine va_get (D := (dC, dI)) (ci := kX4) (v := .ref ly) (C := RX4) (T := TX4) (N := 11) hx hb hts hi_X4 hown hK hP 0 rfl rfl 1 (by decide) hf_21 (fun _ h9 => h9) rfl dX4_digest_141 ?_
        refine kt_calli (w' := wTop tp ly lyg lyt LYG LYT tl tlg tlt TLG TLT ne neg net NEG NET su sug sut SUG SUT kp kr KH km sw tps rt pl P st my co C la lag lat LG LT po pog pot OG OT cJ cJJ cI cII mo eo dg to er n E DG tr ((treeF n E DG T).1)) (rest := [.long ((((keptD n km KH (nodeD n E C 6 (it (nodeD n E C) n g2))) * 31) + ((treeF n E DG T).2)) * 31)]) (As := []) ⟨hx, hb, hml, hown, hts⟩ (c_X0_burningOrder l dC dI cI cII cJ cJJ ly lyg lyt LYG LYT mo eo dg to er n E DG _ (hn)) (cwV 0 hts gX4_digest_X0_burningOrder rfl rfl rfl (by decide +kernel) ⟨Nat.le_of_ble_eq_true rfl, Nat.le_of_ble_eq_true rfl⟩) hK hP hD hS hA [1, 2, 3, 28, 29, 30, 31, 32, 33, 34, 35, 36, 37] sw_wTop_wHM_0 rfl 1 kX0 rfl rfl rfl rfl rfl hl.1 (Nat.le_of_ble_eq_true rfl) dX4_digest_144 ⟨Nat.zero_le _, Nat.zero_le _⟩ (fun H locs hP hD hS => ?_)
        refine lv_i2l (v := Int32.toInt64 (fireF n E LYG)) hx hb dX4_digest_147 rfl ?_
        refine lv_ladd hx hb dX4_digest_148 ?_
        refine lv_lstore_n (lv' := [(1, .long (((((keptD n km KH (nodeD n E C 6 (it (nodeD n E C) n g2))) * 31) + ((treeF n E DG T).2)) * 31) + (Int32.toInt64 (fireF n E LYG)))), (0, .ref tp), (3, .int (nI n))]) hx hb dX4_digest_149 rfl hl (by decide) rfl (fun ls hl => ?_)
        refine lv_aload_n hx hb dX4_digest_150 rfl (lv_at hl 1 rfl) ?_
        refine va_get (D := (dC, dI)) (ci := kX4) (v := .ref mo) (C := RX4) (T := TX4) (N := 11) hx hb hts hi_X4 hown hK hP 0 rfl rfl 0 (by decide) hf_10 (fun _ h9 => h9) rfl dX4_digest_151 ?_
        refine kt_calli (w' := wTop tp ly lyg lyt LYG LYT tl tlg tlt TLG TLT ne neg net NEG NET su sug sut SUG SUT kp kr KH km sw tps rt pl P st my co C la lag lat LG LT po pog pot OG OT cJ cJJ cI cII mo eo dg to er n E DG tr ((treeF n E DG T).1)) (rest := []) (As := []) ⟨hx, hb, hml, hown, hts⟩ (c_X2_isFast l dC dI cI cII cJ cJJ mo eo dg to er n E DG _ (hn)) (cwV 0 hts gX4_digest_X2_isFast rfl rfl rfl (by decide +kernel) ⟨Nat.le_of_ble_eq_true rfl, Nat.le_of_ble_eq_true rfl⟩) hK hP hD hS hA [28, 29, 30, 31, 32, 33, 34, 35, 36, 37] sw_wTop_wM_0 rfl 28 kX2 rfl rfl rfl rfl rfl hl.1 (Nat.le_of_ble_eq_true rfl) dX4_digest_154 ⟨Nat.zero_le _, Nat.zero_le _⟩ (fun H locs hP hD hS => ?_)
        refine lv_if_eq (tgt := 168) hx hb dX4_digest_157 (by decide) (fun c157 => ?_) (fun c157 => ?_)
        · exact absurd (show False by rw [hfast] at c157; exact absurd c157 (by decide)) id
        · skip
          refine lv_aload_n hx hb dX4_digest_160 rfl (lv_at hl 1 rfl) ?_
          refine lv_lload_n hx hb dX4_digest_161 rfl (lv_at hl 0 rfl) ?_
          refine kt_calll (w' := wTop tp ly lyg lyt LYG LYT tl tlg tlt ((fastX n E DG LYG TLG TLT NEG (((((keptD n km KH (nodeD n E C 6 (it (nodeD n E C) n g2))) * 31) + ((treeF n E DG T).2)) * 31) + (Int32.toInt64 (fireF n E LYG)))).2.1) ((fastX n E DG LYG TLG TLT NEG (((((keptD n km KH (nodeD n E C 6 (it (nodeD n E C) n g2))) * 31) + ((treeF n E DG T).2)) * 31) + (Int32.toInt64 (fireF n E LYG)))).2.2) ne neg net ((neutF n E DG NEG).1) ((neutF n E DG NEG).2) su sug sut SUG SUT kp kr KH km sw tps rt pl P st my co C la lag lat ((findF n E DG C (findF n E DG C LG).1).1) ((findF n E DG C (findF n E DG C LG).1).2) po pog pot ((poorX n E DG C (findF n E DG C LG).1 OG OT).1) ((poorX n E DG C (findF n E DG C LG).1 OG OT).2) cJ cJJ cI cII mo eo dg to er n E DG tr ((treeF n E DG T).1)) (rest := []) (As := [.long (((((keptD n km KH (nodeD n E C 6 (it (nodeD n E C) n g2))) * 31) + ((treeF n E DG T).2)) * 31) + (Int32.toInt64 (fireF n E LYG)))]) ⟨hx, hb, hml, hown, hts⟩ (c_X4_digestFast l dC dI cI cII cJ cJJ tp ly lyg lyt LYG LYT tl tlg tlt TLG TLT ne neg net NEG NET su sug sut SUG SUT kp kr KH km sw tps rt pl P st my co C la lag lat LG LT po pog pot OG OT mo eo dg to er n E DG tr ((treeF n E DG T).1) (((((keptD n km KH (nodeD n E C 6 (it (nodeD n E C) n g2))) * 31) + ((treeF n E DG T).2)) * 31) + (Int32.toInt64 (fireF n E LYG))) _ (hn) (hfast)) (cwV 1 hts gX4_digest_X4_digestFast rfl rfl rfl (by decide +kernel) ⟨Nat.le_of_ble_eq_true rfl, Nat.le_of_ble_eq_true rfl⟩) hK hP hD hS hA (List.range' 0 45) sw_wTop_wTop_0 rfl 0 kX4 rfl rfl rfl rfl rfl hl.1 (Nat.le_of_ble_eq_true rfl) dX4_digest_162 ⟨Nat.zero_le _, Nat.zero_le _⟩ (fun H locs hP hD hS => ?_)
          refine lv_goto (tgt := 169) hx hb dX4_digest_165 (by decide) ?_
          subst hg2
          subst hg1
          exact kt_lret (W' := wTop tp ly lyg lyt LYG LYT tl tlg tlt ((fastX n E DG LYG TLG TLT NEG (dig4 n E DG LYG LYT P C sw tps st km KH T)).2.1) ((fastX n E DG LYG TLG TLT NEG (dig4 n E DG LYG LYT P C sw tps st km KH T)).2.2) ne neg net ((neutF n E DG NEG).1) ((neutF n E DG NEG).2) su sug sut SUG SUT kp kr KH km sw tps rt pl P st my co C la lag lat ((findF n E DG C (findF n E DG C LG).1).1) ((findF n E DG C (findF n E DG C LG).1).2) po pog pot ((poorX n E DG C (findF n E DG C LG).1 OG OT).1) ((poorX n E DG C (findF n E DG C LG).1 OG OT).2) cJ cJJ cI cII mo eo dg to er n E DG tr ((treeF n E DG T).1)) hx hb hr hS hP hK hD (rfl) hlocks dX4_digest_169
      · skip
        refine lv_aload_n hx hb dX4_digest_94 rfl (lv_at hl 0 rfl) ?_
        refine lv_lload_n hx hb dX4_digest_95 rfl (lv_at hl 1 rfl) ?_
        refine lv_iload_n hx hb dX4_digest_96 rfl (lv_at hl 2 rfl) ?_
        refine kt_calll (w' := wTop tp ly lyg lyt LYG LYT tl tlg tlt TLG TLT ne neg net NEG NET su sug sut SUG SUT kp kr KH km sw tps rt pl P st my co C la lag lat LG LT po pog pot OG OT cJ cJJ cI cII mo eo dg to er n E DG tr T) (rest := []) (As := [.long (it (nodeD n E C) i g2), .int (nI i)]) ⟨hx, hb, hml, hown, hts⟩ (c_X4_digestNode l dC dI cI cII cJ cJJ tp ly lyg lyt LYG LYT tl tlg tlt TLG TLT ne neg net NEG NET su sug sut SUG SUT kp kr KH km sw tps rt pl P st my co C la lag lat LG LT po pog pot OG OT mo eo dg to er n E DG tr T (it (nodeD n E C) i g2) i _ (hn) (by omega)) (cwV 2 hts gX4_digest_X4_digestNode rfl rfl rfl (by decide +kernel) ⟨Nat.le_of_ble_eq_true rfl, Nat.le_of_ble_eq_true rfl⟩) hK hP hD hS hA (List.range' 0 45) sw_wTop_wTop_0 rfl 0 kX4 rfl rfl rfl rfl rfl hl.1 (Nat.le_of_ble_eq_true rfl) dX4_digest_97 ⟨Nat.zero_le _, Nat.zero_le _⟩ (fun H locs hP hD hS => ?_)
        refine lv_lstore_n (lv' := [(1, .long (nodeD n E C i (it (nodeD n E C) i g2))), (0, .ref tp), (3, .int (nI i))]) hx hb dX4_digest_100 rfl hl (by decide) rfl (fun ls hl => ?_)
        refine lv_iinc (v := nI (i + 1)) (lv' := [(3, .int (nI (i + 1))), (1, .long (nodeD n E C i (it (nodeD n E C) i g2))), (0, .ref tp)]) hx hb dX4_digest_101 hl (k := 2) rfl (kt_inc _) (by decide) rfl (fun ls hl => ?_)
        refine lv_goto (tgt := 83) hx hb dX4_digest_104 (by decide) ?_
        exact ih_i H locs ls hlt_i hP hD hS (lv_sub hl [2, 1, 0] rfl)
    · skip
      obtain ⟨g3, hg3⟩ : ∃ g : Int64, g = it (spotE E DG LYG LYT P) i g1 := ⟨_, rfl⟩
      rw [← hg3] at hl
      refine lv_iconst (v := nI 0) hx hb dX4_digest_44 (by decide) ?_
      refine lv_istore (lv' := [(4, .int (nI 0)), (0, .ref tp), (1, .long g3), (3, .int (nI i))]) hx hb dX4_digest_45 hl (by decide) rfl (fun ls hl => ?_)
      refine kt_for (n := 7) (WD := fun (k : Nat) => wTop tp ly lyg lyt LYG LYT tl tlg tlt TLG TLT ne neg net NEG NET su sug sut SUG SUT kp kr KH km sw tps rt pl P st my co C la lag lat LG LT po pog pot OG OT cJ cJJ cI cII mo eo dg to er n E DG tr T) (LV := fun (k : Nat) => [(0, .ref tp), (1, .long (it (spotD E DG LYG LYT P i) k g3)), (3, .int (nI i)), (4, .int (nI k))]) (nL := 5) (hd := 47) ?_ hP hD hS (lv_sub hl [1, 2, 3, 0] rfl)
      intro k hle_k ih_k H locs ls hP hD hS hl
      have hP : va_P (dC, dI) vwCl (wTop tp ly lyg lyt LYG LYT tl tlg tlt TLG TLT ne neg net NEG NET su sug sut SUG SUT kp kr KH km sw tps rt pl P st my co C la lag lat LG LT po pog pot OG OT cJ cJJ cI cII mo eo dg to er n E DG tr T) H := hP
      have hD : va_D A (wTop tp ly lyg lyt LYG LYT tl tlg tlt TLG TLT ne neg net NEG NET su sug sut SUG SUT kp kr KH km sw tps rt pl P st my co C la lag lat LG LT po pog pot OG OT cJ cJJ cI cII mo eo dg to er n E DG tr T) := hD
      have hl : lv_has ls 5 [(0, .ref tp), (1, .long (it (spotD E DG LYG LYT P i) k g3)), (3, .int (nI i)), (4, .int (nI k))] := hl
      refine lv_iload hx hb dX4_digest_47 (lv_at hl 3 rfl) ?_
      refine lv_bipush (v := nI 7) hx hb dX4_digest_49 (by decide) ?_
      refine kt_ige (tgt := 75) hx hb (by omega) (by omega) dX4_digest_51 (by decide) (fun hge_k => ?_) (fun hlt_k => ?_)
      · have e_k : 7 = k := by omega
        subst e_k
        refine lv_iinc (v := nI (i + 1)) (lv' := [(3, .int (nI (i + 1))), (0, .ref tp), (1, .long (it (spotD E DG LYG LYT P i) 7 g3)), (4, .int (nI 7))]) hx hb dX4_digest_75 hl (k := 2) rfl (kt_inc _) (by decide) rfl (fun ls hl => ?_)
        refine lv_goto (tgt := 33) hx hb dX4_digest_78 (by decide) ?_
        have eq0 : it (spotE E DG LYG LYT P) (i + 1) g1 = it (spotD E DG LYG LYT P i) 7 g3 := by rw [spotE_succ, ← hg3]
        exact ih_i H locs ls hlt_i hP hD hS (by show lv_has ls 5 [(0, .ref tp), (1, .long (it (spotE E DG LYG LYT P) (i + 1) g1)), (3, .int (nI (i + 1)))]; rw [eq0]; exact lv_sub hl [1, 2, 0] rfl)
      · skip
        refine lv_lload_n hx hb dX4_digest_54 rfl (lv_at hl 1 rfl) ?_
        refine lv_ldc2 hx hb hown hc_208 dX4_digest_55 ?_
        refine lv_lmul hx hb dX4_digest_58 ?_
        refine lv_aload_n hx hb dX4_digest_59 rfl (lv_at hl 0 rfl) ?_
        refine lv_iload_n hx hb dX4_digest_60 rfl (lv_at hl 2 rfl) ?_
        refine lv_iload hx hb dX4_digest_61 (lv_at hl 3 rfl) ?_
        refine kt_calli (w' := wTop tp ly lyg lyt LYG LYT tl tlg tlt TLG TLT ne neg net NEG NET su sug sut SUG SUT kp kr KH km sw tps rt pl P st my co C la lag lat LG LT po pog pot OG OT cJ cJJ cI cII mo eo dg to er n E DG tr T) (rest := [.long ((it (spotD E DG LYG LYT P i) k g3) * 31)]) (As := [.int (nI i), .int (nI k)]) ⟨hx, hb, hml, hown, hts⟩ (c_X4_spotValue l dC dI cI cII cJ cJJ tp ly lyg lyt LYG LYT tl tlg tlt TLG TLT ne neg net NEG NET su sug sut SUG SUT kp kr KH km sw tps rt pl P st my co C la lag lat LG LT po pog pot OG OT mo eo dg to er n E DG tr T i k _ (hn) (by omega) (by omega)) (cwV 2 hts gX4_digest_X4_spotValue rfl rfl rfl (by decide +kernel) ⟨Nat.le_of_ble_eq_true rfl, Nat.le_of_ble_eq_true rfl⟩) hK hP hD hS hA (List.range' 0 45) sw_wTop_wTop_0 rfl 0 kX4 rfl rfl rfl rfl rfl hl.1 (Nat.le_of_ble_eq_true rfl) dX4_digest_63 ⟨Nat.zero_le _, Nat.zero_le _⟩ (fun H locs hP hD hS => ?_)
        refine lv_i2l (v := Int32.toInt64 (spotF E DG LYG LYT P i k)) hx hb dX4_digest_66 rfl ?_
        refine lv_ladd hx hb dX4_digest_67 ?_
        refine lv_lstore_n (lv' := [(1, .long (((it (spotD E DG LYG LYT P i) k g3) * 31) + (Int32.toInt64 (spotF E DG LYG LYT P i k)))), (0, .ref tp), (3, .int (nI i)), (4, .int (nI k))]) hx hb dX4_digest_68 rfl hl (by decide) rfl (fun ls hl => ?_)
        refine lv_iinc (v := nI (k + 1)) (lv' := [(4, .int (nI (k + 1))), (1, .long (((it (spotD E DG LYG LYT P i) k g3) * 31) + (Int32.toInt64 (spotF E DG LYG LYT P i k)))), (0, .ref tp), (3, .int (nI i))]) hx hb dX4_digest_69 hl (k := 3) rfl (kt_inc _) (by decide) rfl (fun ls hl => ?_)
        refine lv_goto (tgt := 47) hx hb dX4_digest_72 (by decide) ?_
        exact ih_k H locs ls hlt_k hP hD hS (lv_sub hl [2, 1, 3, 0] rfl)
  · skip
    refine lv_lload_n hx hb dX4_digest_12 rfl (lv_at hl 1 rfl) ?_
    refine lv_ldc2 hx hb hown hc_208 dX4_digest_13 ?_
    refine lv_lmul hx hb dX4_digest_16 ?_
    refine lv_aload_n hx hb dX4_digest_17 rfl (lv_at hl 0 rfl) ?_
    refine lv_iload_n hx hb dX4_digest_18 rfl (lv_at hl 2 rfl) ?_
    refine kt_calli (w' := wTop tp ly lyg lyt LYG LYT tl tlg tlt TLG TLT ne neg net NEG NET su sug sut SUG SUT kp kr KH km sw tps rt pl P st my co C la lag lat LG LT po pog pot OG OT cJ cJJ cI cII mo eo dg to er n E DG tr T) (rest := [.long ((it (manyD n E DG LYG LYT P C sw tps st km) i 58310) * 31)]) (As := [.int (nI i)]) ⟨hx, hb, hml, hown, hts⟩ (c_X4_manyValue l dC dI cI cII cJ cJJ tp ly lyg lyt LYG LYT tl tlg tlt TLG TLT ne neg net NEG NET su sug sut SUG SUT kp kr KH km sw tps rt pl P st my co C la lag lat LG LT po pog pot OG OT mo eo dg to er n E DG tr T i _ (hn) (by omega)) (cwV 1 hts gX4_digest_X4_manyValue rfl rfl rfl (by decide +kernel) ⟨Nat.le_of_ble_eq_true rfl, Nat.le_of_ble_eq_true rfl⟩) hK hP hD hS hA (List.range' 0 45) sw_wTop_wTop_0 rfl 0 kX4 rfl rfl rfl rfl rfl hl.1 (Nat.le_of_ble_eq_true rfl) dX4_digest_19 ⟨Nat.zero_le _, Nat.zero_le _⟩ (fun H locs hP hD hS => ?_)
    refine lv_i2l (v := Int32.toInt64 (manyF n E DG LYG LYT P C sw tps st km i)) hx hb dX4_digest_22 rfl ?_
    refine lv_ladd hx hb dX4_digest_23 ?_
    refine lv_lstore_n (lv' := [(1, .long (((it (manyD n E DG LYG LYT P C sw tps st km) i 58310) * 31) + (Int32.toInt64 (manyF n E DG LYG LYT P C sw tps st km i)))), (0, .ref tp), (3, .int (nI i))]) hx hb dX4_digest_24 rfl hl (by decide) rfl (fun ls hl => ?_)
    refine lv_iinc (v := nI (i + 1)) (lv' := [(3, .int (nI (i + 1))), (1, .long (((it (manyD n E DG LYG LYT P C sw tps st km) i 58310) * 31) + (Int32.toInt64 (manyF n E DG LYG LYT P C sw tps st km i)))), (0, .ref tp)]) hx hb dX4_digest_25 hl (k := 2) rfl (kt_inc _) (by decide) rfl (fun ls hl => ?_)
    refine lv_goto (tgt := 6) hx hb dX4_digest_28 (by decide) ?_
    exact ih_i H locs ls hlt_i hP hD hS (lv_sub hl [2, 1, 0] rfl)
