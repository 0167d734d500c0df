theorem sw_wRM_wM_0 {rt : Nat} {pl : Nat} {P : Nat → Int32} {st : Int32} {cI : ClassId} {cII : ClassId} {mo : Nat} {eo : Nat} {dg : Nat} {to : Nat} {er : Nat → Nat} {n : Nat} {E : Nat → Nat → Int32} {DG : Nat → Int32} {n' : Nat} {E' : Nat → Nat → Int32} {DG' : Nat → Int32} : kt_sw (wRM rt pl P st cI cII mo eo dg to er n E DG) (wRM rt pl P st cI cII mo eo dg to er n' E' DG') [2, 3, 4, 5, 6, 7, 8, 9, 10, 11] (wM cI cII mo eo dg to er n E DG) (wM cI cII mo eo dg to er n' E' DG') := ⟨rfl, ⟨[none, none, some 0, some 1, some 2, some 3, some 4, some 5, some 6, some 7, some 8, some 9], rfl, by decide +kernel⟩, rfl⟩
set_option maxHeartbeats 4000000 in
set_option maxRecDepth 100000 in
theorem c_X3_reset (l : Launch) (dC : Nat → ClassId) (dI : Nat → Nat → Nat) (cI cII cJ cJJ : ClassId) (rt : Nat) (pl : Nat) (P : Nat → Int32) (st : Int32) (mo : Nat) (eo : Nat) (dg : Nat) (to : Nat) (er : Nat → Nat) (n : Nat) (E : Nat → Nat → Int32) (DG : Nat → Int32) (a : Nat) (sz : Nat) (hn : n ≤ 6) (ha : a < 7) : Met l yX3_reset wsX3_reset ({ frames := 1, cells := 0, slots := 0, locals := 21 }) (va_Pc [.ref rt, .int (nI a)] (PRE (dC, dI) (tyL cI cII cJ cJJ) (wRM rt pl P st cI cII mo eo dg to er n E DG) sz)) (va_Qv (fun (_ : Unit) => True) (fun _ tS => ATW (dC, dI) (tyL cI cII cJ cJJ) (va_A (wRM rt pl P st cI cII mo eo dg to er n E DG) sz) (wRM rt pl (resetP n a P) st cI cII mo eo dg to er n E DG) tS) (va_A (wRM rt pl P st cI cII mo eo dg to er n E DG) sz)) 0 0 (va_A (wRM rt pl P st cI cII mo eo dg to er n E DG) sz) := by
  refine Met.ofW (cc := cX3_reset) (maxL := 2) (ret := none) (by decide) rfl ?_
  intro p e s m args below meth c s₁ B hml hv
  obtain ⟨rfl, hsz, hP, hK, hD0⟩ := hv
  have hx := B.exec
  have hb := B.bytes
  have hr := B.returns
  have hlocks := B.notSynchronized
  have hts := atoms_spec (ws := wsX3_reset) B.pre
  have hown : s.vm.findClass RX3 = some m.cls := findClass_of_methodNamed B.named
  subst hsz
  have hD := hD0.self (sz := s.heap.size)
  generalize hAe : va_A (wRM rt pl P st cI cII mo eo dg to er n E DG) s.heap.size = A at hD ⊢
  have hA : ∀ q : Nat, s.heap.size ≤ q → A q := fun q h => by rw [← hAe]; exact Or.inr h
  have hS : va_S A s.heap s.heap [] := va_S.rf
  have hl := lv_entry ([.ref rt, .int (nI a)]) (n := 2) (Nat.le_of_ble_eq_true rfl)
  rw [lg_entry_eq]
  generalize (lg_sl ([.ref rt, .int (nI a)]) ++ List.replicate (2 - (lg_sl ([.ref rt, .int (nI a)])).length) Slot.unset).toArray = ls at hl ⊢
  have hl : lv_has ls 2 [(0, .ref rt), (1, .int (nI a))] := hl
  have hi_X3 : ∀ w ∈ u_ws RX3 TX3 3, w ∈ wsX3_reset := by decide +kernel
  have hf_15 := hts (.fieldLink RX3 15 "Topplemoor$Rotors" "moor" "LTopplemoor$Moor;") (by decide +kernel)
  have hf_9 := hts (.fieldLink RX3 9 "Topplemoor$Rotors" "places" "[I") (by decide +kernel)
  refine lv_aload_n hx hb dX3_reset_0 rfl (lv_at hl 0 rfl) ?_
  refine va_get (D := (dC, dI)) (ci := kX3) (v := .ref mo) (C := RX3) (T := TX3) (N := 3) hx hb hts hi_X3 hown hK hP 0 rfl rfl 2 (by decide) hf_15 (fun _ h9 => h9) rfl dX3_reset_1 ?_
  refine lv_iload_n hx hb dX3_reset_4 rfl (lv_at hl 1 rfl) ?_
  refine kt_calli (w' := wRM rt pl P st cI cII mo eo dg to er n E DG) (rest := []) (As := [.int (nI a)]) ⟨hx, hb, hml, hown, hts⟩ (c_X2_isSpot l dC dI cI cII cJ cJJ mo eo dg to er n E DG (nI a) _ (hn)) (cwV 1 hts gX3_reset_X2_isSpot rfl rfl rfl (by decide +kernel) ⟨Nat.le_of_ble_eq_true rfl, Nat.le_of_ble_eq_true rfl⟩) hK hP hD hS hA [2, 3, 4, 5, 6, 7, 8, 9, 10, 11] sw_wRM_wM_0 rfl 2 kX2 rfl rfl rfl rfl rfl hl.1 (Nat.le_of_ble_eq_true rfl) dX3_reset_5 ⟨Nat.zero_le _, Nat.zero_le _⟩ (fun H locs hP hD hS => ?_)
  refine lv_if_eq (tgt := 18) hx hb dX3_reset_8 (by decide) (fun c8 => ?_) (fun c8 => ?_)
  · skip
    have z := b2i_eq0.mp c8
    rw [isSpotB_nI (by omega) (by omega)] at z
    have e : resetP n a P = P := by first | exact if_neg (of_decide_eq_false z) | exact if_pos za
    exact kt_vret (W' := wRM rt pl (resetP n a P) st cI cII mo eo dg to er n E DG) hx hb hr hS (by rw [e]; exact hP) hK (by rw [e]; exact hD) hlocks dX3_reset_18
  · skip
    have z := b2i_ne0.mp c8
    rw [isSpotB_nI (by omega) (by omega)] at z
    have za : a < n := of_decide_eq_true z
    refine lv_aload_n hx hb dX3_reset_11 rfl (lv_at hl 0 rfl) ?_
    refine va_get (D := (dC, dI)) (ci := kX3) (v := .ref pl) (C := RX3) (T := TX3) (N := 3) hx hb hts hi_X3 hown hK hP 0 rfl rfl 0 (by decide) hf_9 (fun _ h9 => h9) rfl dX3_reset_12 ?_
    refine lv_iload_n hx hb dX3_reset_15 rfl (lv_at hl 1 rfl) ?_
    refine lv_iconst (v := 0) hx hb dX3_reset_16 (by decide) ?_
    refine kt_iast hx hb hK hP hD hS 1 0 rfl rfl (by omega) (by decide) dX3_reset_17 (fun H locs hP hD hS => ?_)
    have hP : va_P (dC, dI) vwCl (wRM rt pl (upd P a 0) st cI cII mo eo dg to er n E DG) H := hP
    have hD : va_D A (wRM rt pl (upd P a 0) st cI cII mo eo dg to er n E DG) := hD
    have e : resetP n a P = upd P a 0 := by first | exact if_neg (of_decide_eq_false z) | exact if_pos za
    exact kt_vret (W' := wRM rt pl (resetP n a P) st cI cII mo eo dg to er n E DG) hx hb hr hS (by rw [e]; exact hP) hK (by rw [e]; exact hD) hlocks dX3_reset_18

set_option maxHeartbeats 4000000 in
set_option maxRecDepth 100000 in
theorem c_X3_pointedFrom (l : Launch) (dC : Nat → ClassId) (dI : Nat → Nat → Nat) (cI cII cJ cJJ : ClassId) (rt : Nat) (pl : Nat) (P : Nat → Int32) (st : Int32) (mo : Nat) (eo : Nat) (dg : Nat) (to : Nat) (er : Nat → Nat) (n : Nat) (E : Nat → Nat → Int32) (DG : Nat → Int32) (sp : Nat) (sz : Nat) (hsp : sp < 6) : Met l yX3_pointedFrom wsX3_pointedFrom ({ frames := 1, cells := 0, slots := 0, locals := 24 }) (va_Pc [.ref rt, .int (nI sp)] (PRE (dC, dI) (tyL cI cII cJ cJJ) (wRM rt pl P st cI cII mo eo dg to er n E DG) sz)) (va_Qi (fun (r' : Int32) (_ : Unit) => r' = optI (ptF E P sp)) (fun _ tS => ATW (dC, dI) (tyL cI cII cJ cJJ) (va_A (wRM rt pl P st cI cII mo eo dg to er n E DG) sz) (wRM rt pl P st cI cII mo eo dg to er n E DG) tS) (va_A (wRM rt pl P st cI cII mo eo dg to er n E DG) sz)) 0 0 (va_A (wRM rt pl P st cI cII mo eo dg to er n E DG) sz) := by
  refine Met.ofW (cc := cX3_pointedFrom) (maxL := 2) (ret := (some .int)) (by decide) rfl ?_
  intro p e s m args below meth c s₁ B hml hv
  obtain ⟨rfl, hsz, hP, hK, hD0⟩ := hv
  have hx := B.exec
  have hb := B.bytes
  have hr := B.returns
  have hlocks := B.notSynchronized
  have hts := atoms_spec (ws := wsX3_pointedFrom) B.pre
  have hown : s.vm.findClass RX3 = some m.cls := findClass_of_methodNamed B.named
  subst hsz
  have hD := hD0.self (sz := s.heap.size)
  generalize hAe : va_A (wRM rt pl P st cI cII mo eo dg to er n E DG) s.heap.size = A at hD ⊢
  have hA : ∀ q : Nat, s.heap.size ≤ q → A q := fun q h => by rw [← hAe]; exact Or.inr h
  have hS : va_S A s.heap s.heap [] := va_S.rf
  have hl := lv_entry ([.ref rt, .int (nI sp)]) (n := 2) (Nat.le_of_ble_eq_true rfl)
  rw [lg_entry_eq]
  generalize (lg_sl ([.ref rt, .int (nI sp)]) ++ List.replicate (2 - (lg_sl ([.ref rt, .int (nI sp)])).length) Slot.unset).toArray = ls at hl ⊢
  have hl : lv_has ls 2 [(0, .ref rt), (1, .int (nI sp))] := hl
  have hi_X3 : ∀ w ∈ u_ws RX3 TX3 3, w ∈ wsX3_pointedFrom := by decide +kernel
  have hf_15 := hts (.fieldLink RX3 15 "Topplemoor$Rotors" "moor" "LTopplemoor$Moor;") (by decide +kernel)
  have hf_9 := hts (.fieldLink RX3 9 "Topplemoor$Rotors" "places" "[I") (by decide +kernel)
  refine lv_aload_n hx hb dX3_pointedFrom_0 rfl (lv_at hl 0 rfl) ?_
  refine va_get (D := (dC, dI)) (ci := kX3) (v := .ref mo) (C := RX3) (T := TX3) (N := 3) hx hb hts hi_X3 hown hK hP 0 rfl rfl 2 (by decide) hf_15 (fun _ h9 => h9) rfl dX3_pointedFrom_1 ?_
  refine lv_iload_n hx hb dX3_pointedFrom_4 rfl (lv_at hl 1 rfl) ?_
  refine lv_aload_n hx hb dX3_pointedFrom_5 rfl (lv_at hl 0 rfl) ?_
  refine va_get (D := (dC, dI)) (ci := kX3) (v := .ref pl) (C := RX3) (T := TX3) (N := 3) hx hb hts hi_X3 hown hK hP 0 rfl rfl 0 (by decide) hf_9 (fun _ h9 => h9) rfl dX3_pointedFrom_6 ?_
  refine lv_iload_n hx hb dX3_pointedFrom_9 rfl (lv_at hl 1 rfl) ?_
  refine kt_iald hx hb hK hP 1 0 rfl rfl (by omega) (by decide) dX3_pointedFrom_10 ?_
  refine kt_calli (w' := wRM rt pl P st cI cII mo eo dg to er n E DG) (rest := []) (As := [.int (nI sp), .int (P sp)]) ⟨hx, hb, hml, hown, hts⟩ (c_X2_neighbourAt l dC dI cI cII cJ cJJ mo eo dg to er n E DG sp (P sp) _ (by omega)) (cwV 2 hts gX3_pointedFrom_X2_neighbourAt rfl rfl rfl (by decide +kernel) ⟨Nat.le_of_ble_eq_true rfl, Nat.le_of_ble_eq_true rfl⟩) hK hP hD hS hA [2, 3, 4, 5, 6, 7, 8, 9, 10, 11] sw_wRM_wM_0 rfl 2 kX2 rfl rfl rfl rfl rfl hl.1 (Nat.le_of_ble_eq_true rfl) dX3_pointedFrom_11 ⟨Nat.zero_le _, Nat.zero_le _⟩ (fun H locs hP hD hS => ?_)
  exact kt_iret (W' := wRM rt pl P st cI cII mo eo dg to er n E DG) hx hb hr hS hP hK hD (rfl) hlocks dX3_pointedFrom_14

theorem sw_wRM_wRM_0 {rt : Nat} {pl : Nat} {P : Nat → Int32} {st : Int32} {cI : ClassId} {cII : ClassId} {mo : Nat} {eo : Nat} {dg : Nat} {to : Nat} {er : Nat → Nat} {n : Nat} {E : Nat → Nat → Int32} {DG : Nat → Int32} {st' : Int32} {P' : Nat → Int32} {n' : Nat} {E' : Nat → Nat → Int32} {DG' : Nat → Int32} : kt_sw (wRM rt pl P st cI cII mo eo dg to er n E DG) (wRM rt pl P' st' cI cII mo eo dg to er n' E' DG') (List.range' 0 12) (wRM rt pl P st cI cII mo eo dg to er n E DG) (wRM rt pl P' st' cI cII mo eo dg to er n' E' DG') := kt_sw_all rfl (by decide +kernel) rfl
set_option maxHeartbeats 4000000 in
set_option maxRecDepth 100000 in
theorem c_X3_leadsToSink (l : Launch) (dC : Nat → ClassId) (dI : Nat → Nat → Nat) (cI cII cJ cJJ : ClassId) (rt : Nat) (pl : Nat) (P : Nat → Int32) (st : Int32) (mo : Nat) (eo : Nat) (dg : Nat) (to : Nat) (er : Nat → Nat) (n : Nat) (E : Nat → Nat → Int32) (DG : Nat → Int32) (sp : Nat) (sz : Nat) (hn : n ≤ 6) (hsp : sp < n) : Met l yX3_leadsToSink wsX3_leadsToSink ({ frames := 2, cells := 0, slots := 0, locals := 45 }) (va_Pc [.ref rt, .int (nI sp)] (PRE (dC, dI) (tyL cI cII cJ cJJ) (wRM rt pl P st cI cII mo eo dg to er n E DG) sz)) (va_Qi (fun (r' : Int32) (_ : Unit) => r' = b2i (leadB n E P sp)) (fun _ tS => ATW (dC, dI) (tyL cI cII cJ cJJ) (va_A (wRM rt pl P st cI cII mo eo dg to er n E DG) sz) (wRM rt pl P st cI cII mo eo dg to er n E DG) tS) (va_A (wRM rt pl P st cI cII mo eo dg to er n E DG) sz)) 0 0 (va_A (wRM rt pl P st cI cII mo eo dg to er n E DG) sz) := by
  refine Met.ofW (cc := cX3_leadsToSink) (maxL := 4) (ret := (some .boolean)) (by decide) rfl ?_
  intro p e s m args below meth c s₁ B hml hv
  obtain ⟨rfl, hsz, hP, hK, hD0⟩ := hv
  have hx := B.exec
  have hb := B.bytes
  have hr := B.returns
  have hlocks := B.notSynchronized
  have hts := atoms_spec (ws := wsX3_leadsToSink) B.pre
  have hown : s.vm.findClass RX3 = some m.cls := findClass_of_methodNamed B.named
  subst hsz
  have hD := hD0.self (sz := s.heap.size)
  generalize hAe : va_A (wRM rt pl P st cI cII mo eo dg to er n E DG) s.heap.size = A at hD ⊢
  have hA : ∀ q : Nat, s.heap.size ≤ q → A q := fun q h => by rw [← hAe]; exact Or.inr h
  have hS : va_S A s.heap s.heap [] := va_S.rf
  have hl := lv_entry ([.ref rt, .int (nI sp)]) (n := 4) (Nat.le_of_ble_eq_true rfl)
  rw [lg_entry_eq]
  generalize (lg_sl ([.ref rt, .int (nI sp)]) ++ List.replicate (4 - (lg_sl ([.ref rt, .int (nI sp)])).length) Slot.unset).toArray = ls at hl ⊢
  have hl : lv_has ls 4 [(0, .ref rt), (1, .int (nI sp))] := hl
  have hi_X3 : ∀ w ∈ u_ws RX3 TX3 3, w ∈ wsX3_leadsToSink := by decide +kernel
  have hf_15 := hts (.fieldLink RX3 15 "Topplemoor$Rotors" "moor" "LTopplemoor$Moor;") (by decide +kernel)
  have hi_X2 : ∀ w ∈ u_ws RX2 TX2 4, w ∈ wsX3_leadsToSink := by decide +kernel
  have hf_45 := hts (.fieldLink RX3 45 "Topplemoor$Moor" "spots" "I") (by decide +kernel)
  refine lv_iload_n hx hb dX3_leadsToSink_0 rfl (lv_at hl 1 rfl) ?_
  refine lv_istore_n (lv' := [(2, .int (nI sp)), (0, .ref rt), (1, .int (nI sp))]) hx hb dX3_leadsToSink_1 rfl hl (by decide) rfl (fun ls hl => ?_)
  refine lv_iconst (v := nI 0) hx hb dX3_leadsToSink_2 (by decide) ?_
  refine lv_istore_n (lv' := [(3, .int (nI 0)), (2, .int (nI sp)), (0, .ref rt), (1, .int (nI sp))]) hx hb dX3_leadsToSink_3 rfl hl (by decide) rfl (fun ls hl => ?_)
  refine kt_forq (n := n) (q := fun (i : Nat) => (∀ j, it (fun _ o => leadS n E P o) i (some sp) = some j → j < 7)) (WD := fun (i : Nat) => wRM rt pl P st cI cII mo eo dg to er n E DG) (LV := fun (i : Nat) => [(0, .ref rt), (1, .int (nI sp)), (2, .int (optI (it (fun _ o => leadS n E P o) i (some sp)))), (3, .int (nI i))]) (nL := 4) (hd := 4) ?_ (fun j h => by cases h; omega) hP hD hS (lv_sub hl [2, 3, 1, 0] rfl)
  intro i hle_i hq_i ih_i H locs ls hP hD hS hl
  have hq_i : (∀ j, it (fun _ o => leadS n E P o) i (some sp) = some j → j < 7) := hq_i
  have hq := hq_i
  have hP : va_P (dC, dI) vwCl (wRM rt pl P st cI cII mo eo dg to er n E DG) H := hP
  have hD : va_D A (wRM rt pl P st cI cII mo eo dg to er n E DG) := hD
  have hl : lv_has ls 4 [(0, .ref rt), (1, .int (nI sp)), (2, .int (optI (it (fun _ o => leadS n E P o) i (some sp)))), (3, .int (nI i))] := hl
  refine lv_iload_n hx hb dX3_leadsToSink_4 rfl (lv_at hl 3 rfl) ?_
  refine lv_aload_n hx hb dX3_leadsToSink_5 rfl (lv_at hl 0 rfl) ?_
  refine va_get (D := (dC, dI)) (ci := kX3) (v := .ref mo) (C := RX3) (T := TX3) (N := 3) hx hb hts hi_X3 hown hK hP 0 rfl rfl 2 (by decide) hf_15 (fun _ h9 => h9) rfl dX3_leadsToSink_6 ?_
  refine va_get (D := (dC, dI)) (ci := kX2) (v := .int (nI n)) (C := RX2) (T := TX2) (N := 4) hx hb hts hi_X2 hown hK hP 2 rfl rfl 0 (by decide) hf_45 (fun _ h9 => h9) rfl dX3_leadsToSink_9 ?_
  refine kt_ige (tgt := 38) hx hb (by omega) (by omega) dX3_leadsToSink_12 (by decide) (fun hge_i => ?_) (fun hlt_i => ?_)
  · have e_i : n = i := by omega
    subst e_i
    have hEo : it (fun _ o => leadS n E P o) n (some sp) = it (fun _ o => leadS n E P o) n (some sp) := rfl
    refine lv_iload_n hx hb dX3_leadsToSink_38 rfl (lv_at hl 2 rfl) ?_
    refine lv_bipush (v := 6) hx hb dX3_leadsToSink_39 (by decide) ?_
    refine lv_icmp_ne (tgt := 48) hx hb dX3_leadsToSink_41 (by decide) (fun c41 => ?_) (fun c41 => ?_)
    · skip
      refine lv_iconst (v := 0) hx hb dX3_leadsToSink_48 (by decide) ?_
      exact kt_zret (W' := wRM rt pl P st cI cII mo eo dg to er n E DG) hx hb hr (rfl) hS hP hK hD (by unfold leadB; rw [hEo]; first | (rw [decide_eq_true (lead_t c41 hq)]; rfl) | (rw [decide_eq_false (lead_f c41)]; rfl)) hlocks dX3_leadsToSink_49
    · skip
      refine lv_iconst (v := 1) hx hb dX3_leadsToSink_44 (by decide) ?_
      refine lv_goto (tgt := 49) hx hb dX3_leadsToSink_45 (by decide) ?_
      exact kt_zret (W' := wRM rt pl P st cI cII mo eo dg to er n E DG) hx hb hr (rfl) hS hP hK hD (by unfold leadB; rw [hEo]; first | (rw [decide_eq_true (lead_t c41 hq)]; rfl) | (rw [decide_eq_false (lead_f c41)]; rfl)) hlocks dX3_leadsToSink_49
  · skip
    refine lv_aload_n hx hb dX3_leadsToSink_15 rfl (lv_at hl 0 rfl) ?_
    refine va_get (D := (dC, dI)) (ci := kX3) (v := .ref mo) (C := RX3) (T := TX3) (N := 3) hx hb hts hi_X3 hown hK hP 0 rfl rfl 2 (by decide) hf_15 (fun _ h9 => h9) rfl dX3_leadsToSink_16 ?_
    refine lv_iload_n hx hb dX3_leadsToSink_19 rfl (lv_at hl 2 rfl) ?_
    refine kt_calli (w' := wRM rt pl P st cI cII mo eo dg to er n E DG) (rest := []) (As := [.int (optI (it (fun _ o => leadS n E P o) i (some sp)))]) ⟨hx, hb, hml, hown, hts⟩ (c_X2_isSpot l dC dI cI cII cJ cJJ mo eo dg to er n E DG (optI (it (fun _ o => leadS n E P o) i (some sp))) _ (hn)) (cwV 1 hts gX3_leadsToSink_X2_isSpot rfl rfl rfl (by decide +kernel) ⟨Nat.le_of_ble_eq_true rfl, Nat.le_of_ble_eq_true rfl⟩) hK hP hD hS hA [2, 3, 4, 5, 6, 7, 8, 9, 10, 11] sw_wRM_wM_0 rfl 2 kX2 rfl rfl rfl rfl rfl hl.1 (Nat.le_of_ble_eq_true rfl) dX3_leadsToSink_20 ⟨Nat.zero_le _, Nat.zero_le _⟩ (fun H locs hP hD hS => ?_)
    refine lv_if_eq (tgt := 38) hx hb dX3_leadsToSink_23 (by decide) (fun c23 => ?_) (fun c23 => ?_)
    · skip
      have z := b2i_eq0.mp c23
      have hEo : it (fun _ o => leadS n E P o) n (some sp) = it (fun _ o => leadS n E P o) i (some sp) := it_stable (fun k _ => leadS_stop hn z hq) hle_i
      refine lv_iload_n hx hb dX3_leadsToSink_38 rfl (lv_at hl 2 rfl) ?_
      refine lv_bipush (v := 6) hx hb dX3_leadsToSink_39 (by decide) ?_
      refine lv_icmp_ne (tgt := 48) hx hb dX3_leadsToSink_41 (by decide) (fun c41 => ?_) (fun c41 => ?_)
      · skip
        refine lv_iconst (v := 0) hx hb dX3_leadsToSink_48 (by decide) ?_
        exact kt_zret (W' := wRM rt pl P st cI cII mo eo dg to er n E DG) hx hb hr (rfl) hS hP hK hD (by unfold leadB; rw [hEo]; first | (rw [decide_eq_true (lead_t c41 hq)]; rfl) | (rw [decide_eq_false (lead_f c41)]; rfl)) hlocks dX3_leadsToSink_49
      · skip
        refine lv_iconst (v := 1) hx hb dX3_leadsToSink_44 (by decide) ?_
        refine lv_goto (tgt := 49) hx hb dX3_leadsToSink_45 (by decide) ?_
        exact kt_zret (W' := wRM rt pl P st cI cII mo eo dg to er n E DG) hx hb hr (rfl) hS hP hK hD (by unfold leadB; rw [hEo]; first | (rw [decide_eq_true (lead_t c41 hq)]; rfl) | (rw [decide_eq_false (lead_f c41)]; rfl)) hlocks dX3_leadsToSink_49
    · skip
      have z := b2i_ne0.mp c23
      obtain ⟨j, hj, ej⟩ := spot_of hn z hq
      have hl : lv_has ls 4 [(0, .ref rt), (1, .int (nI sp)), (2, .int (nI j)), (3, .int (nI i))] := by rw [ej] at hl; exact hl
      refine lv_aload_n hx hb dX3_leadsToSink_26 rfl (lv_at hl 0 rfl) ?_
      refine lv_iload_n hx hb dX3_leadsToSink_27 rfl (lv_at hl 2 rfl) ?_
      refine kt_calli (w' := wRM rt pl P st cI cII mo eo dg to er n E DG) (rest := []) (As := [.int (nI j)]) ⟨hx, hb, hml, hown, hts⟩ (c_X3_pointedFrom l dC dI cI cII cJ cJJ rt pl P st mo eo dg to er n E DG j _ (by omega)) (cwV 1 hts gX3_leadsToSink_X3_pointedFrom rfl rfl rfl (by decide +kernel) ⟨Nat.le_of_ble_eq_true rfl, Nat.le_of_ble_eq_true rfl⟩) hK hP hD hS hA (List.range' 0 12) sw_wRM_wRM_0 rfl 0 kX3 rfl rfl rfl rfl rfl hl.1 (Nat.le_of_ble_eq_true rfl) dX3_leadsToSink_28 ⟨Nat.zero_le _, Nat.zero_le _⟩ (fun H locs hP hD hS => ?_)
      refine lv_istore_n (lv' := [(2, .int (optI (ptF E P j))), (0, .ref rt), (1, .int (nI sp)), (3, .int (nI i))]) hx hb dX3_leadsToSink_31 rfl hl (by decide) rfl (fun ls hl => ?_)
      refine lv_iinc (v := nI (i + 1)) (lv' := [(3, .int (nI (i + 1))), (2, .int (optI (ptF E P j))), (0, .ref rt), (1, .int (nI sp))]) hx hb dX3_leadsToSink_32 hl (k := 3) rfl (kt_inc _) (by decide) rfl (fun ls hl => ?_)
      refine lv_goto (tgt := 4) hx hb dX3_leadsToSink_35 (by decide) ?_
      have eq0 : it (fun _ o => leadS n E P o) (i + 1) (some sp) = ptF E P j := by show leadS n E P (it (fun _ o => leadS n E P o) i (some sp)) = _; rw [ej]; exact if_pos hj
      exact ih_i H locs ls hlt_i (fun j9 h9 => by rw [eq0] at h9; exact ptF_lt h9) (by show va_P (dC, dI) vwCl (wRM rt pl P st cI cII mo eo dg to er n E DG) H; first | exact hP | (rw [eq0]; exact hP)) (by show va_D A (wRM rt pl P st cI cII mo eo dg to er n E DG); first | exact hD | (rw [eq0]; exact hD)) hS (by show lv_has ls 4 [(0, .ref rt), (1, .int (nI sp)), (2, .int (optI (it (fun _ o => leadS n E P o) (i + 1) (some sp)))), (3, .int (nI (i + 1)))]; first | exact lv_sub hl [2, 3, 1, 0] rfl | (rw [eq0]; exact lv_sub hl [2, 3, 1, 0] rfl))

set_option maxHeartbeats 4000000 in
set_option maxRecDepth 100000 in
theorem c_X3_areTree (l : Launch) (dC : Nat → ClassId) (dI : Nat → Nat → Nat) (cI cII cJ cJJ : ClassId) (rt : Nat) (pl : Nat) (P : Nat → Int32) (st : Int32) (mo : Nat) (eo : Nat) (dg : Nat) (to : Nat) (er : Nat → Nat) (n : Nat) (E : Nat → Nat → Int32) (DG : Nat → Int32) (sz : Nat) (hn : n ≤ 6) : Met l yX3_areTree wsX3_areTree ({ frames := 3, cells := 0, slots := 0, locals := 68 }) (va_Pc [.ref rt] (PRE (dC, dI) (tyL cI cII cJ cJJ) (wRM rt pl P st cI cII mo eo dg to er n E DG) sz)) (va_Qi (fun (r' : Int32) (_ : Unit) => r' = b2i (allN (leadB n E P) n)) (fun _ tS => ATW (dC, dI) (tyL cI cII cJ cJJ) (va_A (wRM rt pl P st cI cII mo eo dg to er n E DG) sz) (wRM rt pl P st cI cII mo eo dg to er n E DG) tS) (va_A (wRM rt pl P st cI cII mo eo dg to er n E DG) sz)) 0 0 (va_A (wRM rt pl P st cI cII mo eo dg to er n E DG) sz) := by
  refine Met.ofW (cc := cX3_areTree) (maxL := 2) (ret := (some .boolean)) (by decide) rfl ?_
  intro p e s m args below meth c s₁ B hml hv
  obtain ⟨rfl, hsz, hP, hK, hD0⟩ := hv
  have hx := B.exec
  have hb := B.bytes
  have hr := B.returns
  have hlocks := B.notSynchronized
  have hts := atoms_spec (ws := wsX3_areTree) B.pre
  have hown : s.vm.findClass RX3 = some m.cls := findClass_of_methodNamed B.named
  subst hsz
  have hD := hD0.self (sz := s.heap.size)
  generalize hAe : va_A (wRM rt pl P st cI cII mo eo dg to er n E DG) s.heap.size = A at hD ⊢
  have hA : ∀ q : Nat, s.heap.size ≤ q → A q := fun q h => by rw [← hAe]; exact Or.inr h
  have hS : va_S A s.heap s.heap [] := va_S.rf
  have hl := lv_entry ([.ref rt]) (n := 2) (Nat.le_of_ble_eq_true rfl)
  rw [lg_entry_eq]
  generalize (lg_sl ([.ref rt]) ++ List.replicate (2 - (lg_sl ([.ref rt])).length) Slot.unset).toArray = ls at hl ⊢
  have hl : lv_has ls 2 [(0, .ref rt)] := hl
  have hi_X3 : ∀ w ∈ u_ws RX3 TX3 3, w ∈ wsX3_areTree := by decide +kernel
  have hf_15 := hts (.fieldLink RX3 15 "Topplemoor$Rotors" "moor" "LTopplemoor$Moor;") (by decide +kernel)
  have hi_X2 : ∀ w ∈ u_ws RX2 TX2 4, w ∈ wsX3_areTree := by decide +kernel
  have hf_45 := hts (.fieldLink RX3 45 "Topplemoor$Moor" "spots" "I") (by decide +kernel)
  refine lv_iconst (v := nI 0) hx hb dX3_areTree_0 (by decide) ?_
  refine lv_istore_n (lv' := [(1, .int (nI 0)), (0, .ref rt)]) hx hb dX3_areTree_1 rfl hl (by decide) rfl (fun ls hl => ?_)
  refine kt_forq (n := n) (q := fun (i : Nat) => (allN (leadB n E P) i = true)) (WD := fun (i : Nat) => wRM rt pl P st cI cII mo eo dg to er n E DG) (LV := fun (i : Nat) => [(0, .ref rt), (1, .int (nI i))]) (nL := 2) (hd := 2) ?_ (rfl) hP hD hS (lv_sub hl [1, 0] rfl)
  intro i hle_i hq_i ih_i H locs ls hP hD hS hl
  have hq_i : (allN (leadB n E P) i = true) := hq_i
  have hq := hq_i
  have hP : va_P (dC, dI) vwCl (wRM rt pl P st cI cII mo eo dg to er n E DG) H := hP
  have hD : va_D A (wRM rt pl P st cI cII mo eo dg to er n E DG) := hD
  have hl : lv_has ls 2 [(0, .ref rt), (1, .int (nI i))] := hl
  refine lv_iload_n hx hb dX3_areTree_2 rfl (lv_at hl 1 rfl) ?_
  refine lv_aload_n hx hb dX3_areTree_3 rfl (lv_at hl 0 rfl) ?_
  refine va_get (D := (dC, dI)) (ci := kX3) (v := .ref mo) (C := RX3) (T := TX3) (N := 3) hx hb hts hi_X3 hown hK hP 0 rfl rfl 2 (by decide) hf_15 (fun _ h9 => h9) rfl dX3_areTree_4 ?_
  refine va_get (D := (dC, dI)) (ci := kX2) (v := .int (nI n)) (C := RX2) (T := TX2) (N := 4) hx hb hts hi_X2 hown hK hP 2 rfl rfl 0 (by decide) hf_45 (fun _ h9 => h9) rfl dX3_areTree_7 ?_
  refine kt_ige (tgt := 29) hx hb (by omega) (by omega) dX3_areTree_10 (by decide) (fun hge_i => ?_) (fun hlt_i => ?_)
  · have e_i : n = i := by omega
    subst e_i
    refine lv_iconst (v := 1) hx hb dX3_areTree_29 (by decide) ?_
    exact kt_zret (W' := wRM rt pl P st cI cII mo eo dg to er n E DG) hx hb hr (rfl) hS hP hK hD (by rw [hq]; rfl) hlocks dX3_areTree_30
  · skip
    refine lv_aload_n hx hb dX3_areTree_13 rfl (lv_at hl 0 rfl) ?_
    refine lv_iload_n hx hb dX3_areTree_14 rfl (lv_at hl 1 rfl) ?_
    refine kt_calli (w' := wRM rt pl P st cI cII mo eo dg to er n E DG) (rest := []) (As := [.int (nI i)]) ⟨hx, hb, hml, hown, hts⟩ (c_X3_leadsToSink l dC dI cI cII cJ cJJ rt pl P st mo eo dg to er n E DG i _ (hn) (by omega)) (cwV 1 hts gX3_areTree_X3_leadsToSink rfl rfl rfl (by decide +kernel) ⟨Nat.le_of_ble_eq_true rfl, Nat.le_of_ble_eq_true rfl⟩) hK hP hD hS hA (List.range' 0 12) sw_wRM_wRM_0 rfl 0 kX3 rfl rfl rfl rfl rfl hl.1 (Nat.le_of_ble_eq_true rfl) dX3_areTree_15 ⟨Nat.zero_le _, Nat.zero_le _⟩ (fun H locs hP hD hS => ?_)
    refine lv_if_ne (tgt := 23) hx hb dX3_areTree_18 (by decide) (fun c18 => ?_) (fun c18 => ?_)
    · skip
      refine lv_iinc (v := nI (i + 1)) (lv' := [(1, .int (nI (i + 1))), (0, .ref rt)]) hx hb dX3_areTree_23 hl (k := 1) rfl (kt_inc _) (by decide) rfl (fun ls hl => ?_)
      refine lv_goto (tgt := 2) hx hb dX3_areTree_26 (by decide) ?_
      exact ih_i H locs ls hlt_i (by show (allN (leadB n E P) i && leadB n E P i) = true; rw [hq, b2i_ne0.mp c18]; rfl) hP hD hS (lv_sub hl [1, 0] rfl)
    · skip
      refine lv_iconst (v := 0) hx hb dX3_areTree_21 (by decide) ?_
      exact kt_zret (W' := wRM rt pl P st cI cII mo eo dg to er n E DG) hx hb hr (rfl) hS hP hK hD (by rw [allN_false hlt_i (b2i_eq0.mp c18)]; rfl) hlocks dX3_areTree_22

set_option maxHeartbeats 4000000 in
set_option maxRecDepth 100000 in
theorem c_X1_give (l : Launch) (dC : Nat → ClassId) (dI : Nat → Nat → Nat) (cI cII cJ cJJ : ClassId) (my : Nat) (co : Nat) (C : Nat → Int32) (la : Nat) (po : Nat) (mo : Nat) (eo : Nat) (dg : Nat) (to : Nat) (er : Nat → Nat) (n : Nat) (E : Nat → Nat → Int32) (DG : Nat → Int32) (fr : Nat) (q : Int32) (sz : Nat) (hfr : fr < 7) : Met l yX1_give wsX1_give ({ frames := 0, cells := 0, slots := 0, locals := 0 }) (va_Pc [.ref my, .int (nI fr), .int q] (PRE (dC, dI) (tyL cI cII cJ cJJ) (wYc my co C la po cI cII mo eo dg to er n E DG) sz)) (va_Qv (fun (_ : Unit) => True) (fun _ tS => ATW (dC, dI) (tyL cI cII cJ cJJ) (va_A (wYc my co C la po cI cII mo eo dg to er n E DG) sz) (wYc my co (giveC E DG fr q C) la po cI cII mo eo dg to er n E DG) tS) (va_A (wYc my co C la po cI cII mo eo dg to er n E DG) sz)) 0 0 (va_A (wYc my co C la po cI cII mo eo dg to er n E DG) sz) := by
  refine Met.ofW (cc := cX1_give) (maxL := 4) (ret := none) (by decide) rfl ?_
  intro p e s m args below meth c s₁ B hml hv
  obtain ⟨rfl, hsz, hP, hK, hD0⟩ := hv
  have hx := B.exec
  have hb := B.bytes
  have hr := B.returns
  have hlocks := B.notSynchronized
  have hts := atoms_spec (ws := wsX1_give) B.pre
  have hown : s.vm.findClass RX1 = some m.cls := findClass_of_methodNamed B.named
  subst hsz
  have hD := hD0.self (sz := s.heap.size)
  generalize hAe : va_A (wYc my co C la po cI cII mo eo dg to er n E DG) s.heap.size = A at hD ⊢
  have hA : ∀ q : Nat, s.heap.size ≤ q → A q := fun q h => by rw [← hAe]; exact Or.inr h
  have hS : va_S A s.heap s.heap [] := va_S.rf
  have hl := lv_entry ([.ref my, .int (nI fr), .int q]) (n := 4) (Nat.le_of_ble_eq_true rfl)
  rw [lg_entry_eq]
  generalize (lg_sl ([.ref my, .int (nI fr), .int q]) ++ List.replicate (4 - (lg_sl ([.ref my, .int (nI fr), .int q])).length) Slot.unset).toArray = ls at hl ⊢
  have hl : lv_has ls 4 [(0, .ref my), (1, .int (nI fr)), (2, .int q)] := hl
  have hi_X1 : ∀ w ∈ u_ws RX1 TX1 4, w ∈ wsX1_give := by decide +kernel
  have hf_9 := hts (.fieldLink RX1 9 "Topplemoor$Money" "coins" "[I") (by decide +kernel)
  have hf_15 := hts (.fieldLink RX1 15 "Topplemoor$Money" "moor" "LTopplemoor$Moor;") (by decide +kernel)
  have hi_X2 : ∀ w ∈ u_ws RX2 TX2 4, w ∈ wsX1_give := by decide +kernel
  have hf_31 := hts (.fieldLink RX1 31 "Topplemoor$Moor" "degrees" "[I") (by decide +kernel)
  have hf_36 := hts (.fieldLink RX1 36 "Topplemoor$Moor" "edges" "[[I") (by decide +kernel)
  refine lv_aload_n hx hb dX1_give_0 rfl (lv_at hl 0 rfl) ?_
  refine va_get (D := (dC, dI)) (ci := kX1) (v := .ref co) (C := RX1) (T := TX1) (N := 4) hx hb hts hi_X1 hown hK hP 0 rfl rfl 0 (by decide) hf_9 (fun _ h9 => h9) rfl dX1_give_1 ?_
  refine lv_iload_n hx hb dX1_give_4 rfl (lv_at hl 1 rfl) ?_
  refine lv_dup2_11 hx hb dX1_give_5 rfl rfl ?_
  refine kt_iald hx hb hK hP 1 0 rfl rfl (by omega) (by decide) dX1_give_6 ?_
  refine lv_iload_n hx hb dX1_give_7 rfl (lv_at hl 2 rfl) ?_
  refine lv_aload_n hx hb dX1_give_8 rfl (lv_at hl 0 rfl) ?_
  refine va_get (D := (dC, dI)) (ci := kX1) (v := .ref mo) (C := RX1) (T := TX1) (N := 4) hx hb hts hi_X1 hown hK hP 0 rfl rfl 1 (by decide) hf_15 (fun _ h9 => h9) rfl dX1_give_9 ?_
  refine va_get (D := (dC, dI)) (ci := kX2) (v := .ref dg) (C := RX2) (T := TX2) (N := 4) hx hb hts hi_X2 hown hK hP 2 rfl rfl 2 (by decide) hf_31 (fun _ h9 => h9) rfl dX1_give_12 ?_
  refine lv_iload_n hx hb dX1_give_15 rfl (lv_at hl 1 rfl) ?_
  refine kt_iald hx hb hK hP 11 0 rfl rfl (by omega) (by decide) dX1_give_16 ?_
  refine lv_imul hx hb dX1_give_17 ?_
  refine lv_isub hx hb dX1_give_18 ?_
  refine kt_iast hx hb hK hP hD hS 1 0 rfl rfl (by omega) (by decide) dX1_give_19 (fun H locs hP hD hS => ?_)
  have hP : va_P (dC, dI) vwCl (wYc my co (upd C fr ((C fr) - (q * (DG fr)))) la po cI cII mo eo dg to er n E DG) H := hP
  have hD : va_D A (wYc my co (upd C fr ((C fr) - (q * (DG fr)))) la po cI cII mo eo dg to er n E DG) := hD
  refine lv_iconst (v := nI 0) hx hb dX1_give_20 (by decide) ?_
  refine lv_istore_n (lv' := [(3, .int (nI 0)), (0, .ref my), (1, .int (nI fr)), (2, .int q)]) hx hb dX1_give_21 rfl hl (by decide) rfl (fun ls hl => ?_)
  refine kt_for (n := 7) (WD := fun (i : Nat) => wYc my co (it (tipS E fr q) i (upd C fr (C fr - q * DG fr))) la po cI cII mo eo dg to er n E DG) (LV := fun (i : Nat) => [(0, .ref my), (1, .int (nI fr)), (2, .int q), (3, .int (nI i))]) (nL := 4) (hd := 22) ?_ hP hD hS (lv_sub hl [1, 2, 3, 0] rfl)
  intro i hle_i ih_i H locs ls hP hD hS hl
  have hP : va_P (dC, dI) vwCl (wYc my co (it (tipS E fr q) i (upd C fr (C fr - q * DG fr))) la po cI cII mo eo dg to er n E DG) H := hP
  have hD : va_D A (wYc my co (it (tipS E fr q) i (upd C fr (C fr - q * DG fr))) la po cI cII mo eo dg to er n E DG) := hD
  have hl : lv_has ls 4 [(0, .ref my), (1, .int (nI fr)), (2, .int q), (3, .int (nI i))] := hl
  refine lv_iload_n hx hb dX1_give_22 rfl (lv_at hl 3 rfl) ?_
  refine lv_bipush (v := nI 7) hx hb dX1_give_23 (by decide) ?_
  refine kt_ige (tgt := 56) hx hb (by omega) (by omega) dX1_give_25 (by decide) (fun hge_i => ?_) (fun hlt_i => ?_)
  · have e_i : 7 = i := by omega
    subst e_i
    exact kt_vret (W' := wYc my co (giveC E DG fr q C) la po cI cII mo eo dg to er n E DG) hx hb hr hS hP hK hD hlocks dX1_give_56
  · skip
    refine lv_aload_n hx hb dX1_give_28 rfl (lv_at hl 0 rfl) ?_
    refine va_get (D := (dC, dI)) (ci := kX1) (v := .ref co) (C := RX1) (T := TX1) (N := 4) hx hb hts hi_X1 hown hK hP 0 rfl rfl 0 (by decide) hf_9 (fun _ h9 => h9) rfl dX1_give_29 ?_
    refine lv_iload_n hx hb dX1_give_32 rfl (lv_at hl 3 rfl) ?_
    refine lv_dup2_11 hx hb dX1_give_33 rfl rfl ?_
    refine kt_iald hx hb hK hP 1 0 rfl rfl (by omega) (by decide) dX1_give_34 ?_
    refine lv_iload_n hx hb dX1_give_35 rfl (lv_at hl 2 rfl) ?_
    refine lv_aload_n hx hb dX1_give_36 rfl (lv_at hl 0 rfl) ?_
    refine va_get (D := (dC, dI)) (ci := kX1) (v := .ref mo) (C := RX1) (T := TX1) (N := 4) hx hb hts hi_X1 hown hK hP 0 rfl rfl 1 (by decide) hf_15 (fun _ h9 => h9) rfl dX1_give_37 ?_
    refine va_get (D := (dC, dI)) (ci := kX2) (v := .ref eo) (C := RX2) (T := TX2) (N := 4) hx hb hts hi_X2 hown hK hP 2 rfl rfl 1 (by decide) hf_36 (fun _ h9 => h9) rfl dX1_give_40 ?_
    refine lv_iload_n hx hb dX1_give_43 rfl (lv_at hl 1 rfl) ?_
    refine kt_aald hx hb hK hP 3 1 rfl rfl (by omega) (by decide) dX1_give_44 ?_
    refine lv_iload_n hx hb dX1_give_45 rfl (lv_at hl 3 rfl) ?_
    refine kt_iald hx hb hK hP (4 + fr) 0 (row_wYc_er (by omega)) rfl (by omega) (by decide) dX1_give_46 ?_
    refine lv_imul hx hb dX1_give_47 ?_
    refine lv_iadd hx hb dX1_give_48 ?_
    refine kt_iast hx hb hK hP hD hS 1 0 rfl rfl (by omega) (by decide) dX1_give_49 (fun H locs hP hD hS => ?_)
    have hP : va_P (dC, dI) vwCl (wYc my co (upd (it (tipS E fr q) i (upd C fr (C fr - q * DG fr))) i (((it (tipS E fr q) i (upd C fr (C fr - q * DG fr))) i) + (q * (E fr i)))) la po cI cII mo eo dg to er n E DG) H := hP
    have hD : va_D A (wYc my co (upd (it (tipS E fr q) i (upd C fr (C fr - q * DG fr))) i (((it (tipS E fr q) i (upd C fr (C fr - q * DG fr))) i) + (q * (E fr i)))) la po cI cII mo eo dg to er n E DG) := hD
    refine lv_iinc (v := nI (i + 1)) (lv' := [(3, .int (nI (i + 1))), (0, .ref my), (1, .int (nI fr)), (2, .int q)]) hx hb dX1_give_50 hl (k := 3) rfl (kt_inc _) (by decide) rfl (fun ls hl => ?_)
    refine lv_goto (tgt := 22) hx hb dX1_give_53 (by decide) ?_
    exact ih_i H locs ls hlt_i hP hD hS (lv_sub hl [1, 2, 3, 0] rfl)

set_option maxHeartbeats 4000000 in
set_option maxRecDepth 100000 in
theorem c_X1_allCoins (l : Launch) (dC : Nat → ClassId) (dI : Nat → Nat → Nat) (cI cII cJ cJJ : ClassId) (my : Nat) (co : Nat) (C : Nat → Int32) (la : Nat) (po : Nat) (mo : Nat) (eo : Nat) (dg : Nat) (to : Nat) (er : Nat → Nat) (n : Nat) (E : Nat → Nat → Int32) (DG : Nat → Int32) (sz : Nat)  : Met l yX1_allCoins wsX1_allCoins ({ frames := 0, cells := 0, slots := 0, locals := 0 }) (va_Pc [.ref my] (PRE (dC, dI) (tyL cI cII cJ cJJ) (wYc my co C la po cI cII mo eo dg to er n E DG) sz)) (va_Qi (fun (r' : Int32) (_ : Unit) => r' = sumN C 7) (fun _ tS => ATW (dC, dI) (tyL cI cII cJ cJJ) (va_A (wYc my co C la po cI cII mo eo dg to er n E DG) sz) (wYc my co C la po cI cII mo eo dg to er n E DG) tS) (va_A (wYc my co C la po cI cII mo eo dg to er n E DG) sz)) 0 0 (va_A (wYc my co C la po cI cII mo eo dg to er n E DG) sz) := by
  refine Met.ofW (cc := cX1_allCoins) (maxL := 3) (ret := (some .int)) (by decide) rfl ?_
  intro p e s m args below meth c s₁ B hml hv
  obtain ⟨rfl, hsz, hP, hK, hD0⟩ := hv
  have hx := B.exec
  have hb := B.bytes
  have hr := B.returns
  have hlocks := B.notSynchronized
  have hts := atoms_spec (ws := wsX1_allCoins) B.pre
  have hown : s.vm.findClass RX1 = some m.cls := findClass_of_methodNamed B.named
  subst hsz
  have hD := hD0.self (sz := s.heap.size)
  generalize hAe : va_A (wYc my co C la po cI cII mo eo dg to er n E DG) s.heap.size = A at hD ⊢
  have hA : ∀ q : Nat, s.heap.size ≤ q → A q := fun q h => by rw [← hAe]; exact Or.inr h
  have hS : va_S A s.heap s.heap [] := va_S.rf
  have hl := lv_entry ([.ref my]) (n := 3) (Nat.le_of_ble_eq_true rfl)
  rw [lg_entry_eq]
  generalize (lg_sl ([.ref my]) ++ List.replicate (3 - (lg_sl ([.ref my])).length) Slot.unset).toArray = ls at hl ⊢
  have hl : lv_has ls 3 [(0, .ref my)] := hl
  have hi_X1 : ∀ w ∈ u_ws RX1 TX1 4, w ∈ wsX1_allCoins := by decide +kernel
  have hf_9 := hts (.fieldLink RX1 9 "Topplemoor$Money" "coins" "[I") (by decide +kernel)
  refine lv_iconst (v := nI 0) hx hb dX1_allCoins_0 (by decide) ?_
  refine lv_istore_n (lv' := [(1, .int (nI 0)), (0, .ref my)]) hx hb dX1_allCoins_1 rfl hl (by decide) rfl (fun ls hl => ?_)
  refine lv_iconst (v := nI 0) hx hb dX1_allCoins_2 (by decide) ?_
  refine lv_istore_n (lv' := [(2, .int (nI 0)), (1, .int (nI 0)), (0, .ref my)]) hx hb dX1_allCoins_3 rfl hl (by decide) rfl (fun ls hl => ?_)
  refine kt_for (n := 7) (WD := fun (i : Nat) => wYc my co C la po cI cII mo eo dg to er n E DG) (LV := fun (i : Nat) => [(0, .ref my), (1, .int (sumN C i)), (2, .int (nI i))]) (nL := 3) (hd := 4) ?_ hP hD hS (lv_sub hl [2, 1, 0] rfl)
  intro i hle_i ih_i H locs ls hP hD hS hl
  have hP : va_P (dC, dI) vwCl (wYc my co C la po cI cII mo eo dg to er n E DG) H := hP
  have hD : va_D A (wYc my co C la po cI cII mo eo dg to er n E DG) := hD
  have hl : lv_has ls 3 [(0, .ref my), (1, .int (sumN C i)), (2, .int (nI i))] := hl
  refine lv_iload_n hx hb dX1_allCoins_4 rfl (lv_at hl 2 rfl) ?_
  refine lv_bipush (v := nI 7) hx hb dX1_allCoins_5 (by decide) ?_
  refine kt_ige (tgt := 25) hx hb (by omega) (by omega) dX1_allCoins_7 (by decide) (fun hge_i => ?_) (fun hlt_i => ?_)
  · have e_i : 7 = i := by omega
    subst e_i
    refine lv_iload_n hx hb dX1_allCoins_25 rfl (lv_at hl 1 rfl) ?_
    exact kt_iret (W' := wYc my co C la po cI cII mo eo dg to er n E DG) hx hb hr hS hP hK hD (rfl) hlocks dX1_allCoins_26
  · skip
    refine lv_iload_n hx hb dX1_allCoins_10 rfl (lv_at hl 1 rfl) ?_
    refine lv_aload_n hx hb dX1_allCoins_11 rfl (lv_at hl 0 rfl) ?_
    refine va_get (D := (dC, dI)) (ci := kX1) (v := .ref co) (C := RX1) (T := TX1) (N := 4) hx hb hts hi_X1 hown hK hP 0 rfl rfl 0 (by decide) hf_9 (fun _ h9 => h9) rfl dX1_allCoins_12 ?_
    refine lv_iload_n hx hb dX1_allCoins_15 rfl (lv_at hl 2 rfl) ?_
    refine kt_iald hx hb hK hP 1 0 rfl rfl (by omega) (by decide) dX1_allCoins_16 ?_
    refine lv_iadd hx hb dX1_allCoins_17 ?_
    refine lv_istore_n (lv' := [(1, .int ((sumN C i) + (C i))), (0, .ref my), (2, .int (nI i))]) hx hb dX1_allCoins_18 rfl hl (by decide) rfl (fun ls hl => ?_)
    refine lv_iinc (v := nI (i + 1)) (lv' := [(2, .int (nI (i + 1))), (1, .int ((sumN C i) + (C i))), (0, .ref my)]) hx hb dX1_allCoins_19 hl (k := 2) rfl (kt_inc _) (by decide) rfl (fun ls hl => ?_)
    refine lv_goto (tgt := 4) hx hb dX1_allCoins_22 (by decide) ?_
    exact ih_i H locs ls hlt_i hP hD hS (lv_sub hl [2, 1, 0] rfl)

set_option maxHeartbeats 4000000 in
set_option maxRecDepth 100000 in
theorem c_X1_debtors (l : Launch) (dC : Nat → ClassId) (dI : Nat → Nat → Nat) (cI cII cJ cJJ : ClassId) (my : Nat) (co : Nat) (C : Nat → Int32) (la : Nat) (po : Nat) (mo : Nat) (eo : Nat) (dg : Nat) (to : Nat) (er : Nat → Nat) (n : Nat) (E : Nat → Nat → Int32) (DG : Nat → Int32) (sz : Nat)  : Met l yX1_debtors wsX1_debtors ({ frames := 0, cells := 0, slots := 0, locals := 0 }) (va_Pc [.ref my] (PRE (dC, dI) (tyL cI cII cJ cJJ) (wYc my co C la po cI cII mo eo dg to er n E DG) sz)) (va_Qi (fun (r' : Int32) (_ : Unit) => r' = it (debtS C) 7 0) (fun _ tS => ATW (dC, dI) (tyL cI cII cJ cJJ) (va_A (wYc my co C la po cI cII mo eo dg to er n E DG) sz) (wYc my co C la po cI cII mo eo dg to er n E DG) tS) (va_A (wYc my co C la po cI cII mo eo dg to er n E DG) sz)) 0 0 (va_A (wYc my co C la po cI cII mo eo dg to er n E DG) sz) := by
  refine Met.ofW (cc := cX1_debtors) (maxL := 3) (ret := (some .int)) (by decide) rfl ?_
  intro p e s m args below meth c s₁ B hml hv
  obtain ⟨rfl, hsz, hP, hK, hD0⟩ := hv
  have hx := B.exec
  have hb := B.bytes
  have hr := B.returns
  have hlocks := B.notSynchronized
  have hts := atoms_spec (ws := wsX1_debtors) B.pre
  have hown : s.vm.findClass RX1 = some m.cls := findClass_of_methodNamed B.named
  subst hsz
  have hD := hD0.self (sz := s.heap.size)
  generalize hAe : va_A (wYc my co C la po cI cII mo eo dg to er n E DG) s.heap.size = A at hD ⊢
  have hA : ∀ q : Nat, s.heap.size ≤ q → A q := fun q h => by rw [← hAe]; exact Or.inr h
  have hS : va_S A s.heap s.heap [] := va_S.rf
  have hl := lv_entry ([.ref my]) (n := 3) (Nat.le_of_ble_eq_true rfl)
  rw [lg_entry_eq]
  generalize (lg_sl ([.ref my]) ++ List.replicate (3 - (lg_sl ([.ref my])).length) Slot.unset).toArray = ls at hl ⊢
  have hl : lv_has ls 3 [(0, .ref my)] := hl
  have hi_X1 : ∀ w ∈ u_ws RX1 TX1 4, w ∈ wsX1_debtors := by decide +kernel
  have hf_9 := hts (.fieldLink RX1 9 "Topplemoor$Money" "coins" "[I") (by decide +kernel)
  refine lv_iconst (v := nI 0) hx hb dX1_debtors_0 (by decide) ?_
  refine lv_istore_n (lv' := [(1, .int (nI 0)), (0, .ref my)]) hx hb dX1_debtors_1 rfl hl (by decide) rfl (fun ls hl => ?_)
  refine lv_iconst (v := nI 0) hx hb dX1_debtors_2 (by decide) ?_
  refine lv_istore_n (lv' := [(2, .int (nI 0)), (1, .int (nI 0)), (0, .ref my)]) hx hb dX1_debtors_3 rfl hl (by decide) rfl (fun ls hl => ?_)
  refine kt_for (n := 7) (WD := fun (i : Nat) => wYc my co C la po cI cII mo eo dg to er n E DG) (LV := fun (i : Nat) => [(0, .ref my), (1, .int (it (debtS C) i 0)), (2, .int (nI i))]) (nL := 3) (hd := 4) ?_ hP hD hS (lv_sub hl [2, 1, 0] rfl)
  intro i hle_i ih_i H locs ls hP hD hS hl
  have hP : va_P (dC, dI) vwCl (wYc my co C la po cI cII mo eo dg to er n E DG) H := hP
  have hD : va_D A (wYc my co C la po cI cII mo eo dg to er n E DG) := hD
  have hl : lv_has ls 3 [(0, .ref my), (1, .int (it (debtS C) i 0)), (2, .int (nI i))] := hl
  refine lv_iload_n hx hb dX1_debtors_4 rfl (lv_at hl 2 rfl) ?_
  refine lv_bipush (v := nI 7) hx hb dX1_debtors_5 (by decide) ?_
  refine kt_ige (tgt := 28) hx hb (by omega) (by omega) dX1_debtors_7 (by decide) (fun hge_i => ?_) (fun hlt_i => ?_)
  · have e_i : 7 = i := by omega
    subst e_i
    refine lv_iload_n hx hb dX1_debtors_28 rfl (lv_at hl 1 rfl) ?_
    exact kt_iret (W' := wYc my co C la po cI cII mo eo dg to er n E DG) hx hb hr hS hP hK hD (rfl) hlocks dX1_debtors_29
  · skip
    refine lv_aload_n hx hb dX1_debtors_10 rfl (lv_at hl 0 rfl) ?_
    refine va_get (D := (dC, dI)) (ci := kX1) (v := .ref co) (C := RX1) (T := TX1) (N := 4) hx hb hts hi_X1 hown hK hP 0 rfl rfl 0 (by decide) hf_9 (fun _ h9 => h9) rfl dX1_debtors_11 ?_
    refine lv_iload_n hx hb dX1_debtors_14 rfl (lv_at hl 2 rfl) ?_
    refine kt_iald hx hb hK hP 1 0 rfl rfl (by omega) (by decide) dX1_debtors_15 ?_
    refine lv_if_ge (tgt := 22) hx hb dX1_debtors_16 (by decide) (fun c16 => ?_) (fun c16 => ?_)
    · skip
      refine lv_iinc (v := nI (i + 1)) (lv' := [(2, .int (nI (i + 1))), (0, .ref my), (1, .int (it (debtS C) i 0))]) hx hb dX1_debtors_22 hl (k := 2) rfl (kt_inc _) (by decide) rfl (fun ls hl => ?_)
      refine lv_goto (tgt := 4) hx hb dX1_debtors_25 (by decide) ?_
      have eq0 : it (debtS C) (i + 1) 0 = it (debtS C) i 0 := by show debtS C i (it (debtS C) i 0) = _; first | exact if_pos c16 | exact if_neg c16
      exact ih_i H locs ls hlt_i (by show va_P (dC, dI) vwCl (wYc my co C la po cI cII mo eo dg to er n E DG) H; first | exact hP | (rw [eq0]; exact hP)) (by show va_D A (wYc my co C la po cI cII mo eo dg to er n E DG); first | exact hD | (rw [eq0]; exact hD)) hS (by show lv_has ls 3 [(0, .ref my), (1, .int (it (debtS C) (i + 1) 0)), (2, .int (nI (i + 1)))]; first | exact lv_sub hl [1, 2, 0] rfl | (rw [eq0]; exact lv_sub hl [1, 2, 0] rfl))
    · skip
      refine lv_iinc (v := (it (debtS C) i 0) + 1) (lv' := [(1, .int ((it (debtS C) i 0) + 1)), (0, .ref my), (2, .int (nI i))]) hx hb dX1_debtors_19 hl (k := 1) rfl (rfl) (by decide) rfl (fun ls hl => ?_)
      refine lv_iinc (v := nI (i + 1)) (lv' := [(2, .int (nI (i + 1))), (1, .int ((it (debtS C) i 0) + 1)), (0, .ref my)]) hx hb dX1_debtors_22 hl (k := 2) rfl (kt_inc _) (by decide) rfl (fun ls hl => ?_)
      refine lv_goto (tgt := 4) hx hb dX1_debtors_25 (by decide) ?_
      have eq0 : it (debtS C) (i + 1) 0 = (it (debtS C) i 0) + 1 := by show debtS C i (it (debtS C) i 0) = _; first | exact if_pos c16 | exact if_neg c16
      exact ih_i H locs ls hlt_i (by show va_P (dC, dI) vwCl (wYc my co C la po cI cII mo eo dg to er n E DG) H; first | exact hP | (rw [eq0]; exact hP)) (by show va_D A (wYc my co C la po cI cII mo eo dg to er n E DG); first | exact hD | (rw [eq0]; exact hD)) hS (by show lv_has ls 3 [(0, .ref my), (1, .int (it (debtS C) (i + 1) 0)), (2, .int (nI (i + 1)))]; first | exact lv_sub hl [2, 1, 0] rfl | (rw [eq0]; exact lv_sub hl [2, 1, 0] rfl))

set_option maxHeartbeats 4000000 in
set_option maxRecDepth 100000 in
theorem c_X1_readOtherWay (l : Launch) (dC : Nat → ClassId) (dI : Nat → Nat → Nat) (cI cII cJ cJJ : ClassId) (my : Nat) (co : Nat) (po : Nat) (h : Nat) (g : Nat) (t : Nat) (G : Nat → Int32) (T : Nat → Int32) (mo : Nat) (eo : Nat) (dg : Nat) (to : Nat) (er : Nat → Nat) (n : Nat) (E : Nat → Nat → Int32) (DG : Nat → Int32) (sz : Nat) (hn : n ≤ 6) : Met l yX1_readOtherWay wsX1_readOtherWay ({ frames := 0, cells := 0, slots := 0, locals := 0 }) (va_Pc [.ref my] (PRE (dC, dI) (tyL cI cII cJ cJJ) (wYh my co h po h g t G T cI cII mo eo dg to er n E DG) sz)) (va_Qv (fun (_ : Unit) => True) (fun _ tS => ATW (dC, dI) (tyL cI cII cJ cJJ) (va_A (wYh my co h po h g t G T cI cII mo eo dg to er n E DG) sz) (wYh my co h po h g t (othF n DG G) T cI cII mo eo dg to er n E DG) tS) (va_A (wYh my co h po h g t G T cI cII mo eo dg to er n E DG) sz)) 0 0 (va_A (wYh my co h po h g t G T cI cII mo eo dg to er n E DG) sz) := by
  refine Met.ofW (cc := cX1_readOtherWay) (maxL := 2) (ret := none) (by decide) rfl ?_
  intro p e s m args below meth c s₁ B hml hv
  obtain ⟨rfl, hsz, hP, hK, hD0⟩ := hv
  have hx := B.exec
  have hb := B.bytes
  have hr := B.returns
  have hlocks := B.notSynchronized
  have hts := atoms_spec (ws := wsX1_readOtherWay) B.pre
  have hown : s.vm.findClass RX1 = some m.cls := findClass_of_methodNamed B.named
  subst hsz
  have hD := hD0.self (sz := s.heap.size)
  generalize hAe : va_A (wYh my co h po h g t G T cI cII mo eo dg to er n E DG) s.heap.size = A at hD ⊢
  have hA : ∀ q : Nat, s.heap.size ≤ q → A q := fun q h => by rw [← hAe]; exact Or.inr h
  have hS : va_S A s.heap s.heap [] := va_S.rf
  have hl := lv_entry ([.ref my]) (n := 2) (Nat.le_of_ble_eq_true rfl)
  rw [lg_entry_eq]
  generalize (lg_sl ([.ref my]) ++ List.replicate (2 - (lg_sl ([.ref my])).length) Slot.unset).toArray = ls at hl ⊢
  have hl : lv_has ls 2 [(0, .ref my)] := hl
  have hi_X1 : ∀ w ∈ u_ws RX1 TX1 4, w ∈ wsX1_readOtherWay := by decide +kernel
  have hf_15 := hts (.fieldLink RX1 15 "Topplemoor$Money" "moor" "LTopplemoor$Moor;") (by decide +kernel)
  have hi_X2 : ∀ w ∈ u_ws RX2 TX2 4, w ∈ wsX1_readOtherWay := by decide +kernel
  have hf_51 := hts (.fieldLink RX1 51 "Topplemoor$Moor" "spots" "I") (by decide +kernel)
  have hf_24 := hts (.fieldLink RX1 24 "Topplemoor$Money" "lasting" "LTopplemoor$Heap;") (by decide +kernel)
  have hi_X0 : ∀ w ∈ u_ws RX0 TX0 3, w ∈ wsX1_readOtherWay := by decide +kernel
  have hf_55 := hts (.fieldLink RX1 55 "Topplemoor$Heap" "grains" "[I") (by decide +kernel)
  have hf_31 := hts (.fieldLink RX1 31 "Topplemoor$Moor" "degrees" "[I") (by decide +kernel)
  refine lv_iconst (v := nI 0) hx hb dX1_readOtherWay_0 (by decide) ?_
  refine lv_istore_n (lv' := [(1, .int (nI 0)), (0, .ref my)]) hx hb dX1_readOtherWay_1 rfl hl (by decide) rfl (fun ls hl => ?_)
  refine kt_for (n := n) (WD := fun (i : Nat) => wYh my co h po h g t (it (otherS DG) i G) T cI cII mo eo dg to er n E DG) (LV := fun (i : Nat) => [(0, .ref my), (1, .int (nI i))]) (nL := 2) (hd := 2) ?_ hP hD hS (lv_sub hl [1, 0] rfl)
  intro i hle_i ih_i H locs ls hP hD hS hl
  have hP : va_P (dC, dI) vwCl (wYh my co h po h g t (it (otherS DG) i G) T cI cII mo eo dg to er n E DG) H := hP
  have hD : va_D A (wYh my co h po h g t (it (otherS DG) i G) T cI cII mo eo dg to er n E DG) := hD
  have hl : lv_has ls 2 [(0, .ref my), (1, .int (nI i))] := hl
  refine lv_iload_n hx hb dX1_readOtherWay_2 rfl (lv_at hl 1 rfl) ?_
  refine lv_aload_n hx hb dX1_readOtherWay_3 rfl (lv_at hl 0 rfl) ?_
  refine va_get (D := (dC, dI)) (ci := kX1) (v := .ref mo) (C := RX1) (T := TX1) (N := 4) hx hb hts hi_X1 hown hK hP 0 rfl rfl 1 (by decide) hf_15 (fun _ h9 => h9) rfl dX1_readOtherWay_4 ?_
  refine va_get (D := (dC, dI)) (ci := kX2) (v := .int (nI n)) (C := RX2) (T := TX2) (N := 4) hx hb hts hi_X2 hown hK hP 4 rfl rfl 0 (by decide) hf_51 (fun _ h9 => h9) rfl dX1_readOtherWay_7 ?_
  refine kt_ige (tgt := 49) hx hb (by omega) (by omega) dX1_readOtherWay_10 (by decide) (fun hge_i => ?_) (fun hlt_i => ?_)
  · have e_i : n = i := by omega
    subst e_i
    exact kt_vret (W' := wYh my co h po h g t (othF n DG G) T cI cII mo eo dg to er n E DG) hx hb hr hS hP hK hD hlocks dX1_readOtherWay_49
  · skip
    refine lv_aload_n hx hb dX1_readOtherWay_13 rfl (lv_at hl 0 rfl) ?_
    refine va_get (D := (dC, dI)) (ci := kX1) (v := .ref h) (C := RX1) (T := TX1) (N := 4) hx hb hts hi_X1 hown hK hP 0 rfl rfl 2 (by decide) hf_24 (fun _ h9 => h9) rfl dX1_readOtherWay_14 ?_
    refine va_get (D := (dC, dI)) (ci := kX0) (v := .ref g) (C := RX0) (T := TX0) (N := 3) hx hb hts hi_X0 hown hK hP 1 rfl rfl 0 (by decide) hf_55 (fun _ h9 => h9) rfl dX1_readOtherWay_17 ?_
    refine lv_iload_n hx hb dX1_readOtherWay_20 rfl (lv_at hl 1 rfl) ?_
    refine lv_aload_n hx hb dX1_readOtherWay_21 rfl (lv_at hl 0 rfl) ?_
    refine va_get (D := (dC, dI)) (ci := kX1) (v := .ref mo) (C := RX1) (T := TX1) (N := 4) hx hb hts hi_X1 hown hK hP 0 rfl rfl 1 (by decide) hf_15 (fun _ h9 => h9) rfl dX1_readOtherWay_22 ?_
    refine va_get (D := (dC, dI)) (ci := kX2) (v := .ref dg) (C := RX2) (T := TX2) (N := 4) hx hb hts hi_X2 hown hK hP 4 rfl rfl 2 (by decide) hf_31 (fun _ h9 => h9) rfl dX1_readOtherWay_25 ?_
    refine lv_iload_n hx hb dX1_readOtherWay_28 rfl (lv_at hl 1 rfl) ?_
    refine kt_iald hx hb hK hP 13 0 rfl rfl (by omega) (by decide) dX1_readOtherWay_29 ?_
    refine lv_iconst (v := 1) hx hb dX1_readOtherWay_30 (by decide) ?_
    refine lv_isub hx hb dX1_readOtherWay_31 ?_
    refine lv_aload_n hx hb dX1_readOtherWay_32 rfl (lv_at hl 0 rfl) ?_
    refine va_get (D := (dC, dI)) (ci := kX1) (v := .ref h) (C := RX1) (T := TX1) (N := 4) hx hb hts hi_X1 hown hK hP 0 rfl rfl 2 (by decide) hf_24 (fun _ h9 => h9) rfl dX1_readOtherWay_33 ?_
    refine va_get (D := (dC, dI)) (ci := kX0) (v := .ref g) (C := RX0) (T := TX0) (N := 3) hx hb hts hi_X0 hown hK hP 1 rfl rfl 0 (by decide) hf_55 (fun _ h9 => h9) rfl dX1_readOtherWay_36 ?_
    refine lv_iload_n hx hb dX1_readOtherWay_39 rfl (lv_at hl 1 rfl) ?_
    refine kt_iald hx hb hK hP 2 0 rfl rfl (by omega) (by decide) dX1_readOtherWay_40 ?_
    refine lv_isub hx hb dX1_readOtherWay_41 ?_
    refine kt_iast hx hb hK hP hD hS 2 0 rfl rfl (by omega) (by decide) dX1_readOtherWay_42 (fun H locs hP hD hS => ?_)
    have hP : va_P (dC, dI) vwCl (wYh my co h po h g t (upd (it (otherS DG) i G) i (((DG i) - 1) - ((it (otherS DG) i G) i))) T cI cII mo eo dg to er n E DG) H := hP
    have hD : va_D A (wYh my co h po h g t (upd (it (otherS DG) i G) i (((DG i) - 1) - ((it (otherS DG) i G) i))) T cI cII mo eo dg to er n E DG) := hD
    refine lv_iinc (v := nI (i + 1)) (lv' := [(1, .int (nI (i + 1))), (0, .ref my)]) hx hb dX1_readOtherWay_43 hl (k := 1) rfl (kt_inc _) (by decide) rfl (fun ls hl => ?_)
    refine lv_goto (tgt := 2) hx hb dX1_readOtherWay_46 (by decide) ?_
    exact ih_i H locs ls hlt_i hP hD hS (lv_sub hl [1, 0] rfl)

set_option maxHeartbeats 4000000 in
set_option maxRecDepth 100000 in
theorem c_X1_leastNeeded (l : Launch) (dC : Nat → ClassId) (dI : Nat → Nat → Nat) (cI cII cJ cJJ : ClassId) (my : Nat) (co : Nat) (la : Nat) (po : Nat) (h : Nat) (g : Nat) (t : Nat) (G : Nat → Int32) (T : Nat → Int32) (mo : Nat) (eo : Nat) (dg : Nat) (to : Nat) (er : Nat → Nat) (n : Nat) (E : Nat → Nat → Int32) (DG : Nat → Int32) (sz : Nat) (hn : n ≤ 6) : Met l yX1_leastNeeded wsX1_leastNeeded ({ frames := 0, cells := 0, slots := 0, locals := 0 }) (va_Pc [.ref my, .ref h] (PRE (dC, dI) (tyL cI cII cJ cJJ) (wYh my co la po h g t G T cI cII mo eo dg to er n E DG) sz)) (va_Qi (fun (r' : Int32) (_ : Unit) => r' = leastF n DG G) (fun _ tS => ATW (dC, dI) (tyL cI cII cJ cJJ) (va_A (wYh my co la po h g t G T cI cII mo eo dg to er n E DG) sz) (wYh my co la po h g t G T cI cII mo eo dg to er n E DG) tS) (va_A (wYh my co la po h g t G T cI cII mo eo dg to er n E DG) sz)) 0 0 (va_A (wYh my co la po h g t G T cI cII mo eo dg to er n E DG) sz) := by
  refine Met.ofW (cc := cX1_leastNeeded) (maxL := 4) (ret := (some .int)) (by decide) rfl ?_
  intro p e s m args below meth c s₁ B hml hv
  obtain ⟨rfl, hsz, hP, hK, hD0⟩ := hv
  have hx := B.exec
  have hb := B.bytes
  have hr := B.returns
  have hlocks := B.notSynchronized
  have hts := atoms_spec (ws := wsX1_leastNeeded) B.pre
  have hown : s.vm.findClass RX1 = some m.cls := findClass_of_methodNamed B.named
  subst hsz
  have hD := hD0.self (sz := s.heap.size)
  generalize hAe : va_A (wYh my co la po h g t G T cI cII mo eo dg to er n E DG) s.heap.size = A at hD ⊢
  have hA : ∀ q : Nat, s.heap.size ≤ q → A q := fun q h => by rw [← hAe]; exact Or.inr h
  have hS : va_S A s.heap s.heap [] := va_S.rf
  have hl := lv_entry ([.ref my, .ref h]) (n := 4) (Nat.le_of_ble_eq_true rfl)
  rw [lg_entry_eq]
  generalize (lg_sl ([.ref my, .ref h]) ++ List.replicate (4 - (lg_sl ([.ref my, .ref h])).length) Slot.unset).toArray = ls at hl ⊢
  have hl : lv_has ls 4 [(0, .ref my), (1, .ref h)] := hl
  have hi_X1 : ∀ w ∈ u_ws RX1 TX1 4, w ∈ wsX1_leastNeeded := by decide +kernel
  have hf_15 := hts (.fieldLink RX1 15 "Topplemoor$Money" "moor" "LTopplemoor$Moor;") (by decide +kernel)
  have hi_X2 : ∀ w ∈ u_ws RX2 TX2 4, w ∈ wsX1_leastNeeded := by decide +kernel
  have hf_51 := hts (.fieldLink RX1 51 "Topplemoor$Moor" "spots" "I") (by decide +kernel)
  have hf_31 := hts (.fieldLink RX1 31 "Topplemoor$Moor" "degrees" "[I") (by decide +kernel)
  have hi_X0 : ∀ w ∈ u_ws RX0 TX0 3, w ∈ wsX1_leastNeeded := by decide +kernel
  have hf_55 := hts (.fieldLink RX1 55 "Topplemoor$Heap" "grains" "[I") (by decide +kernel)
  refine lv_iconst (v := nI 0) hx hb dX1_leastNeeded_0 (by decide) ?_
  refine lv_istore_n (lv' := [(2, .int (nI 0)), (0, .ref my), (1, .ref h)]) hx hb dX1_leastNeeded_1 rfl hl (by decide) rfl (fun ls hl => ?_)
  refine lv_iconst (v := nI 0) hx hb dX1_leastNeeded_2 (by decide) ?_
  refine lv_istore_n (lv' := [(3, .int (nI 0)), (2, .int (nI 0)), (0, .ref my), (1, .ref h)]) hx hb dX1_leastNeeded_3 rfl hl (by decide) rfl (fun ls hl => ?_)
  refine kt_for (n := n) (WD := fun (i : Nat) => wYh my co la po h g t G T cI cII mo eo dg to er n E DG) (LV := fun (i : Nat) => [(0, .ref my), (1, .ref h), (2, .int (leastF i DG G)), (3, .int (nI i))]) (nL := 4) (hd := 4) ?_ hP hD hS (lv_sub hl [2, 3, 1, 0] rfl)
  intro i hle_i ih_i H locs ls hP hD hS hl
  have hP : va_P (dC, dI) vwCl (wYh my co la po h g t G T cI cII mo eo dg to er n E DG) H := hP
  have hD : va_D A (wYh my co la po h g t G T cI cII mo eo dg to er n E DG) := hD
  have hl : lv_has ls 4 [(0, .ref my), (1, .ref h), (2, .int (leastF i DG G)), (3, .int (nI i))] := hl
  refine lv_iload_n hx hb dX1_leastNeeded_4 rfl (lv_at hl 3 rfl) ?_
  refine lv_aload_n hx hb dX1_leastNeeded_5 rfl (lv_at hl 0 rfl) ?_
  refine va_get (D := (dC, dI)) (ci := kX1) (v := .ref mo) (C := RX1) (T := TX1) (N := 4) hx hb hts hi_X1 hown hK hP 0 rfl rfl 1 (by decide) hf_15 (fun _ h9 => h9) rfl dX1_leastNeeded_6 ?_
  refine va_get (D := (dC, dI)) (ci := kX2) (v := .int (nI n)) (C := RX2) (T := TX2) (N := 4) hx hb hts hi_X2 hown hK hP 4 rfl rfl 0 (by decide) hf_51 (fun _ h9 => h9) rfl dX1_leastNeeded_9 ?_
  refine kt_ige (tgt := 42) hx hb (by omega) (by omega) dX1_leastNeeded_12 (by decide) (fun hge_i => ?_) (fun hlt_i => ?_)
  · have e_i : n = i := by omega
    subst e_i
    refine lv_iload_n hx hb dX1_leastNeeded_42 rfl (lv_at hl 2 rfl) ?_
    exact kt_iret (W' := wYh my co la po h g t G T cI cII mo eo dg to er n E DG) hx hb hr hS hP hK hD (rfl) hlocks dX1_leastNeeded_43
  · skip
    refine lv_iload_n hx hb dX1_leastNeeded_15 rfl (lv_at hl 2 rfl) ?_
    refine lv_aload_n hx hb dX1_leastNeeded_16 rfl (lv_at hl 0 rfl) ?_
    refine va_get (D := (dC, dI)) (ci := kX1) (v := .ref mo) (C := RX1) (T := TX1) (N := 4) hx hb hts hi_X1 hown hK hP 0 rfl rfl 1 (by decide) hf_15 (fun _ h9 => h9) rfl dX1_leastNeeded_17 ?_
    refine va_get (D := (dC, dI)) (ci := kX2) (v := .ref dg) (C := RX2) (T := TX2) (N := 4) hx hb hts hi_X2 hown hK hP 4 rfl rfl 2 (by decide) hf_31 (fun _ h9 => h9) rfl dX1_leastNeeded_20 ?_
    refine lv_iload_n hx hb dX1_leastNeeded_23 rfl (lv_at hl 3 rfl) ?_
    refine kt_iald hx hb hK hP 13 0 rfl rfl (by omega) (by decide) dX1_leastNeeded_24 ?_
    refine lv_iconst (v := 1) hx hb dX1_leastNeeded_25 (by decide) ?_
    refine lv_isub hx hb dX1_leastNeeded_26 ?_
    refine lv_aload_n hx hb dX1_leastNeeded_27 rfl (lv_at hl 1 rfl) ?_
    refine va_get (D := (dC, dI)) (ci := kX0) (v := .ref g) (C := RX0) (T := TX0) (N := 3) hx hb hts hi_X0 hown hK hP 1 rfl rfl 0 (by decide) hf_55 (fun _ h9 => h9) rfl dX1_leastNeeded_28 ?_
    refine lv_iload_n hx hb dX1_leastNeeded_31 rfl (lv_at hl 3 rfl) ?_
    refine kt_iald hx hb hK hP 2 0 rfl rfl (by omega) (by decide) dX1_leastNeeded_32 ?_
    refine lv_isub hx hb dX1_leastNeeded_33 ?_
    refine lv_iadd hx hb dX1_leastNeeded_34 ?_
    refine lv_istore_n (lv' := [(2, .int ((leastF i DG G) + (((DG i) - 1) - (G i)))), (0, .ref my), (1, .ref h), (3, .int (nI i))]) hx hb dX1_leastNeeded_35 rfl hl (by decide) rfl (fun ls hl => ?_)
    refine lv_iinc (v := nI (i + 1)) (lv' := [(3, .int (nI (i + 1))), (2, .int ((leastF i DG G) + (((DG i) - 1) - (G i)))), (0, .ref my), (1, .ref h)]) hx hb dX1_leastNeeded_36 hl (k := 3) rfl (kt_inc _) (by decide) rfl (fun ls hl => ?_)
    refine lv_goto (tgt := 4) hx hb dX1_leastNeeded_39 (by decide) ?_
    exact ih_i H locs ls hlt_i hP hD hS (lv_sub hl [2, 3, 1, 0] rfl)

theorem sw_wYM_wYh_0 {my : Nat} {co : Nat} {C : Nat → Int32} {la : Nat} {lag : Nat} {lat : Nat} {LG : Nat → Int32} {LT : Nat → Int32} {po : Nat} {pog : Nat} {pot : Nat} {OG : Nat → Int32} {OT : Nat → Int32} {cI : ClassId} {cII : ClassId} {mo : Nat} {eo : Nat} {dg : Nat} {to : Nat} {er : Nat → Nat} {n : Nat} {E : Nat → Nat → Int32} {DG : Nat → Int32} {LG' : Nat → Int32} {LT' : Nat → Int32} {n' : Nat} {E' : Nat → Nat → Int32} {DG' : Nat → Int32} : kt_sw (wYM my co C la lag lat LG LT po pog pot OG OT cI cII mo eo dg to er n E DG) (wYM my co C la lag lat LG' LT' po pog pot OG OT cI cII mo eo dg to er n' E' DG') [0, 2, 3, 4, 8, 9, 10, 11, 12, 13, 14, 15, 16, 17] (wYh my co la po la lag lat LG LT cI cII mo eo dg to er n E DG) (wYh my co la po la lag lat LG' LT' cI cII mo eo dg to er n' E' DG') := ⟨rfl, ⟨[some 0, none, some 1, some 2, some 3, none, none, none, some 4, some 5, some 6, some 7, some 8, some 9, some 10, some 11, some 12, some 13], rfl, by decide +kernel⟩, rfl⟩
theorem sw_wYM_wHM_0 {my : Nat} {co : Nat} {C : Nat → Int32} {la : Nat} {lag : Nat} {lat : Nat} {LG : Nat → Int32} {LT : Nat → Int32} {po : Nat} {pog : Nat} {pot : Nat} {OG : Nat → Int32} {OT : Nat → Int32} {cI : ClassId} {cII : ClassId} {mo : Nat} {eo : Nat} {dg : Nat} {to : Nat} {er : Nat → Nat} {n : Nat} {E : Nat → Nat → Int32} {DG : Nat → Int32} {LG' : Nat → Int32} {LT' : Nat → Int32} {n' : Nat} {E' : Nat → Nat → Int32} {DG' : Nat → Int32} : kt_sw (wYM my co C la lag lat LG LT po pog pot OG OT cI cII mo eo dg to er n E DG) (wYM my co C la lag lat LG' LT' po pog pot OG OT cI cII mo eo dg to er n' E' DG') [2, 3, 4, 8, 9, 10, 11, 12, 13, 14, 15, 16, 17] (wHM la lag lat LG LT cI cII mo eo dg to er n E DG) (wHM la lag lat LG' LT' cI cII mo eo dg to er n' E' DG') := ⟨rfl, ⟨[none, none, some 0, some 1, some 2, none, none, none, some 3, some 4, some 5, some 6, some 7, some 8, some 9, some 10, some 11, some 12], rfl, by decide +kernel⟩, rfl⟩
set_option maxHeartbeats 4000000 in
set_option maxRecDepth 100000 in
theorem c_X1_findLasting (l : Launch) (dC : Nat → ClassId) (dI : Nat → Nat → Nat) (cI cII cJ cJJ : ClassId) (my : Nat) (co : Nat) (C : Nat → Int32) (la : Nat) (lag : Nat) (lat : Nat) (LG : Nat → Int32) (LT : Nat → Int32) (po : Nat) (pog : Nat) (pot : Nat) (OG : Nat → Int32) (OT : Nat → Int32) (mo : Nat) (eo : Nat) (dg : Nat) (to : Nat) (er : Nat → Nat) (n : Nat) (E : Nat → Nat → Int32) (DG : Nat → Int32) (sz : Nat) (hn : n ≤ 6) : Met l yX1_findLasting wsX1_findLasting ({ frames := 3, cells := 0, slots := 0, locals := 69 }) (va_Pc [.ref my] (PRE (dC, dI) (tyL cI cII cJ cJJ) (wYM my co C la lag lat LG LT po pog pot OG OT cI cII mo eo dg to er n E DG) sz)) (va_Qv (fun (_ : Unit) => True) (fun _ tS => ATW (dC, dI) (tyL cI cII cJ cJJ) (va_A (wYM my co C la lag lat LG LT po pog pot OG OT cI cII mo eo dg to er n E DG) sz) (wYM my co C la lag lat ((findF n E DG C LG).1) ((findF n E DG C LG).2) po pog pot OG OT cI cII mo eo dg to er n E DG) tS) (va_A (wYM my co C la lag lat LG LT po pog pot OG OT cI cII mo eo dg to er n E DG) sz)) 0 0 (va_A (wYM my co C la lag lat LG LT po pog pot OG OT cI cII mo eo dg to er n E DG) sz) := by
  refine Met.ofW (cc := cX1_findLasting) (maxL := 3) (ret := none) (by decide) rfl ?_
  intro p e s m args below meth c s₁ B hml hv
  obtain ⟨rfl, hsz, hP, hK, hD0⟩ := hv
  have hx := B.exec
  have hb := B.bytes
  have hr := B.returns
  have hlocks := B.notSynchronized
  have hts := atoms_spec (ws := wsX1_findLasting) B.pre
  have hown : s.vm.findClass RX1 = some m.cls := findClass_of_methodNamed B.named
  subst hsz
  have hD := hD0.self (sz := s.heap.size)
  generalize hAe : va_A (wYM my co C la lag lat LG LT po pog pot OG OT cI cII mo eo dg to er n E DG) s.heap.size = A at hD ⊢
  have hA : ∀ q : Nat, s.heap.size ≤ q → A q := fun q h => by rw [← hAe]; exact Or.inr h
  have hS : va_S A s.heap s.heap [] := va_S.rf
  have hl := lv_entry ([.ref my]) (n := 3) (Nat.le_of_ble_eq_true rfl)
  rw [lg_entry_eq]
  generalize (lg_sl ([.ref my]) ++ List.replicate (3 - (lg_sl ([.ref my])).length) Slot.unset).toArray = ls at hl ⊢
  have hl : lv_has ls 3 [(0, .ref my)] := hl
  have hi_X1 : ∀ w ∈ u_ws RX1 TX1 4, w ∈ wsX1_findLasting := by decide +kernel
  have hf_15 := hts (.fieldLink RX1 15 "Topplemoor$Money" "moor" "LTopplemoor$Moor;") (by decide +kernel)
  have hi_X2 : ∀ w ∈ u_ws RX2 TX2 4, w ∈ wsX1_findLasting := by decide +kernel
  have hf_51 := hts (.fieldLink RX1 51 "Topplemoor$Moor" "spots" "I") (by decide +kernel)
  have hf_24 := hts (.fieldLink RX1 24 "Topplemoor$Money" "lasting" "LTopplemoor$Heap;") (by decide +kernel)
  have hc_68 := hts (.constant RX1 68 (1000000)) (by decide +kernel)
  have hi_X0 : ∀ w ∈ u_ws RX0 TX0 3, w ∈ wsX1_findLasting := by decide +kernel
  have hf_55 := hts (.fieldLink RX1 55 "Topplemoor$Heap" "grains" "[I") (by decide +kernel)
  have hf_9 := hts (.fieldLink RX1 9 "Topplemoor$Money" "coins" "[I") (by decide +kernel)
  refine lv_iconst (v := nI 0) hx hb dX1_findLasting_0 (by decide) ?_
  refine lv_istore_n (lv' := [(1, .int (nI 0)), (0, .ref my)]) hx hb dX1_findLasting_1 rfl hl (by decide) rfl (fun ls hl => ?_)
  refine kt_for (n := n) (WD := fun (i : Nat) => wYM my co C la lag lat (it (copyS C) i LG) LT po pog pot OG OT cI cII mo eo dg to er n E DG) (LV := fun (i : Nat) => [(0, .ref my), (1, .int (nI i))]) (nL := 3) (hd := 2) ?_ hP hD hS (lv_sub hl [1, 0] rfl)
  intro i hle_i ih_i H locs ls hP hD hS hl
  have hP : va_P (dC, dI) vwCl (wYM my co C la lag lat (it (copyS C) i LG) LT po pog pot OG OT cI cII mo eo dg to er n E DG) H := hP
  have hD : va_D A (wYM my co C la lag lat (it (copyS C) i LG) LT po pog pot OG OT cI cII mo eo dg to er n E DG) := hD
  have hl : lv_has ls 3 [(0, .ref my), (1, .int (nI i))] := hl
  refine lv_iload_n hx hb dX1_findLasting_2 rfl (lv_at hl 1 rfl) ?_
  refine lv_aload_n hx hb dX1_findLasting_3 rfl (lv_at hl 0 rfl) ?_
  refine va_get (D := (dC, dI)) (ci := kX1) (v := .ref mo) (C := RX1) (T := TX1) (N := 4) hx hb hts hi_X1 hown hK hP 0 rfl rfl 1 (by decide) hf_15 (fun _ h9 => h9) rfl dX1_findLasting_4 ?_
  refine va_get (D := (dC, dI)) (ci := kX2) (v := .int (nI n)) (C := RX2) (T := TX2) (N := 4) hx hb hts hi_X2 hown hK hP 8 rfl rfl 0 (by decide) hf_51 (fun _ h9 => h9) rfl dX1_findLasting_7 ?_
  refine kt_ige (tgt := 34) hx hb (by omega) (by omega) dX1_findLasting_10 (by decide) (fun hge_i => ?_) (fun hlt_i => ?_)
  · have e_i : n = i := by omega
    subst e_i
    refine lv_aload_n hx hb dX1_findLasting_34 rfl (lv_at hl 0 rfl) ?_
    refine kt_callv (w' := wYM my co C la lag lat (othF n DG (it (copyS C) n LG)) LT po pog pot OG OT cI cII mo eo dg to er n E DG) (rest := []) (As := []) ⟨hx, hb, hml, hown, hts⟩ (c_X1_readOtherWay l dC dI cI cII cJ cJJ my co po la lag lat (it (copyS C) n LG) LT mo eo dg to er n E DG _ (hn)) (cwV 0 hts gX1_findLasting_X1_readOtherWay rfl rfl rfl (by decide +kernel) ⟨Nat.le_of_ble_eq_true rfl, Nat.le_of_ble_eq_true rfl⟩) hK hP hD hS hA [0, 2, 3, 4, 8, 9, 10, 11, 12, 13, 14, 15, 16, 17] sw_wYM_wYh_0 rfl 0 kX1 rfl rfl rfl rfl rfl hl.1 (Nat.le_of_ble_eq_true rfl) dX1_findLasting_35 ⟨Nat.zero_le _, Nat.zero_le _⟩ (fun H locs hP hD hS => ?_)
    refine lv_aload_n hx hb dX1_findLasting_38 rfl (lv_at hl 0 rfl) ?_
    refine va_get (D := (dC, dI)) (ci := kX1) (v := .ref la) (C := RX1) (T := TX1) (N := 4) hx hb hts hi_X1 hown hK hP 0 rfl rfl 2 (by decide) hf_24 (fun _ h9 => h9) rfl dX1_findLasting_39 ?_
    refine kt_callv (w' := wYM my co C la lag lat ((rollF n E DG (othF n DG (it (copyS C) n LG))).1) ((rollF n E DG (othF n DG (it (copyS C) n LG))).2) po pog pot OG OT cI cII mo eo dg to er n E DG) (rest := []) (As := []) ⟨hx, hb, hml, hown, hts⟩ (c_X0_roll l dC dI cI cII cJ cJJ la lag lat (othF n DG (it (copyS C) n LG)) LT mo eo dg to er n E DG _ (hn)) (cwV 0 hts gX1_findLasting_X0_roll rfl rfl rfl (by decide +kernel) ⟨Nat.le_of_ble_eq_true rfl, Nat.le_of_ble_eq_true rfl⟩) hK hP hD hS hA [2, 3, 4, 8, 9, 10, 11, 12, 13, 14, 15, 16, 17] sw_wYM_wHM_0 rfl 2 kX0 rfl rfl rfl rfl rfl hl.1 (Nat.le_of_ble_eq_true rfl) dX1_findLasting_42 ⟨Nat.zero_le _, Nat.zero_le _⟩ (fun H locs hP hD hS => ?_)
    refine lv_aload_n hx hb dX1_findLasting_45 rfl (lv_at hl 0 rfl) ?_
    refine kt_callv (w' := wYM my co C la lag lat (othF n DG ((rollF n E DG (othF n DG (it (copyS C) n LG))).1)) ((rollF n E DG (othF n DG (it (copyS C) n LG))).2) po pog pot OG OT cI cII mo eo dg to er n E DG) (rest := []) (As := []) ⟨hx, hb, hml, hown, hts⟩ (c_X1_readOtherWay l dC dI cI cII cJ cJJ my co po la lag lat ((rollF n E DG (othF n DG (it (copyS C) n LG))).1) ((rollF n E DG (othF n DG (it (copyS C) n LG))).2) mo eo dg to er n E DG _ (hn)) (cwV 0 hts gX1_findLasting_X1_readOtherWay rfl rfl rfl (by decide +kernel) ⟨Nat.le_of_ble_eq_true rfl, Nat.le_of_ble_eq_true rfl⟩) hK hP hD hS hA [0, 2, 3, 4, 8, 9, 10, 11, 12, 13, 14, 15, 16, 17] sw_wYM_wYh_0 rfl 0 kX1 rfl rfl rfl rfl rfl hl.1 (Nat.le_of_ble_eq_true rfl) dX1_findLasting_46 ⟨Nat.zero_le _, Nat.zero_le _⟩ (fun H locs hP hD hS => ?_)
    refine lv_aload_n hx hb dX1_findLasting_49 rfl (lv_at hl 0 rfl) ?_
    refine va_get (D := (dC, dI)) (ci := kX1) (v := .ref la) (C := RX1) (T := TX1) (N := 4) hx hb hts hi_X1 hown hK hP 0 rfl rfl 2 (by decide) hf_24 (fun _ h9 => h9) rfl dX1_findLasting_50 ?_
    refine kt_callv (w' := wYM my co C la lag lat ((rollF n E DG (othF n DG ((rollF n E DG (othF n DG (it (copyS C) n LG))).1))).1) ((rollF n E DG (othF n DG ((rollF n E DG (othF n DG (it (copyS C) n LG))).1))).2) po pog pot OG OT cI cII mo eo dg to er n E DG) (rest := []) (As := []) ⟨hx, hb, hml, hown, hts⟩ (c_X0_roll l dC dI cI cII cJ cJJ la lag lat (othF n DG ((rollF n E DG (othF n DG (it (copyS C) n LG))).1)) ((rollF n E DG (othF n DG (it (copyS C) n LG))).2) mo eo dg to er n E DG _ (hn)) (cwV 0 hts gX1_findLasting_X0_roll rfl rfl rfl (by decide +kernel) ⟨Nat.le_of_ble_eq_true rfl, Nat.le_of_ble_eq_true rfl⟩) hK hP hD hS hA [2, 3, 4, 8, 9, 10, 11, 12, 13, 14, 15, 16, 17] sw_wYM_wHM_0 rfl 2 kX0 rfl rfl rfl rfl rfl hl.1 (Nat.le_of_ble_eq_true rfl) dX1_findLasting_53 ⟨Nat.zero_le _, Nat.zero_le _⟩ (fun H locs hP hD hS => ?_)
    refine lv_aload_n hx hb dX1_findLasting_56 rfl (lv_at hl 0 rfl) ?_
    refine kt_callv (w' := wYM my co C la lag lat (othF n DG ((rollF n E DG (othF n DG ((rollF n E DG (othF n DG (it (copyS C) n LG))).1))).1)) ((rollF n E DG (othF n DG ((rollF n E DG (othF n DG (it (copyS C) n LG))).1))).2) po pog pot OG OT cI cII mo eo dg to er n E DG) (rest := []) (As := []) ⟨hx, hb, hml, hown, hts⟩ (c_X1_readOtherWay l dC dI cI cII cJ cJJ my co po la lag lat ((rollF n E DG (othF n DG ((rollF n E DG (othF n DG (it (copyS C) n LG))).1))).1) ((rollF n E DG (othF n DG ((rollF n E DG (othF n DG (it (copyS C) n LG))).1))).2) mo eo dg to er n E DG _ (hn)) (cwV 0 hts gX1_findLasting_X1_readOtherWay rfl rfl rfl (by decide +kernel) ⟨Nat.le_of_ble_eq_true rfl, Nat.le_of_ble_eq_true rfl⟩) hK hP hD hS hA [0, 2, 3, 4, 8, 9, 10, 11, 12, 13, 14, 15, 16, 17] sw_wYM_wYh_0 rfl 0 kX1 rfl rfl rfl rfl rfl hl.1 (Nat.le_of_ble_eq_true rfl) dX1_findLasting_57 ⟨Nat.zero_le _, Nat.zero_le _⟩ (fun H locs hP hD hS => ?_)
    refine lv_iconst (v := nI 0) hx hb dX1_findLasting_60 (by decide) ?_
    refine lv_istore_n (lv' := [(1, .int (nI 0)), (0, .ref my)]) hx hb dX1_findLasting_61 rfl hl (by decide) rfl (fun ls hl => ?_)
    refine lv_iconst (v := nI 0) hx hb dX1_findLasting_62 (by decide) ?_
    refine lv_istore_n (lv' := [(2, .int (nI 0)), (1, .int (nI 0)), (0, .ref my)]) hx hb dX1_findLasting_63 rfl hl (by decide) rfl (fun ls hl => ?_)
    refine kt_loop (σ := Nat × S3) (μ := fun x => rounds - x.1) (I := fun x => x.1 ≤ rounds ∧ lastR n E DG (rounds - x.1) x.2 = findF n E DG C LG) (WD := fun x => wYM my co C la lag lat x.2.1 x.2.2.1 po pog pot OG OT cI cII mo eo dg to er n E DG) (LV := fun x => [(0, .ref my), (1, .int x.2.2.2), (2, .int (nI x.1))]) (nL := 3) (hd := 64) ?_ (⟨0, (othF n DG (fl2 n E DG C LG).1, (fl2 n E DG C LG).2, 0)⟩) (⟨Nat.zero_le _, rfl⟩) hP hD hS (lv_sub hl [2, 1, 0] rfl)
    intro x hI ih_r H locs ls hP hD hS hl
    obtain ⟨r, X⟩ := x
    have hI : r ≤ rounds ∧ lastR n E DG (rounds - r) X = findF n E DG C LG := hI
    have hP : va_P (dC, dI) vwCl (wYM my co C la lag lat X.1 X.2.1 po pog pot OG OT cI cII mo eo dg to er n E DG) H := hP
    have hD : va_D A (wYM my co C la lag lat X.1 X.2.1 po pog pot OG OT cI cII mo eo dg to er n E DG) := hD
    have hl : lv_has ls 3 [(0, .ref my), (1, .int X.2.2), (2, .int (nI r))] := hl
    have hR := rounds_eq
    have hI1 := hI.1
    refine lv_iload_n hx hb dX1_findLasting_64 rfl (lv_at hl 1 rfl) ?_
    refine lv_if_ne (tgt := 102) hx hb dX1_findLasting_65 (by decide) (fun c65 => ?_) (fun c65 => ?_)
    · skip
      have e : findF n E DG C LG = (X.1, X.2.1) := by first | (rw [← hI.2]; exact lastR_0 c65 _) | (rw [← hI.2, show rounds - r = 0 by omega]; rfl)
      exact kt_vret (W' := wYM my co C la lag lat ((findF n E DG C LG).1) ((findF n E DG C LG).2) po pog pot OG OT cI cII mo eo dg to er n E DG) hx hb hr hS (by rw [e]; exact hP) hK (by rw [e]; exact hD) hlocks dX1_findLasting_102
    · skip
      refine lv_iload_n hx hb dX1_findLasting_68 rfl (lv_at hl 2 rfl) ?_
      refine lv_ldc (v := nI 1000000) hx hb hown hc_68 dX1_findLasting_69 ?_
      refine kt_ige (i := r) (n := 1000000) (tgt := 102) hx hb (by omega) (by omega) dX1_findLasting_71 (by decide) (fun cg => ?_) (fun cg => ?_)
      · skip
        have e : findF n E DG C LG = (X.1, X.2.1) := by first | (rw [← hI.2]; exact lastR_0 c65 _) | (rw [← hI.2, show rounds - r = 0 by omega]; rfl)
        exact kt_vret (W' := wYM my co C la lag lat ((findF n E DG C LG).1) ((findF n E DG C LG).2) po pog pot OG OT cI cII mo eo dg to er n E DG) hx hb hr hS (by rw [e]; exact hP) hK (by rw [e]; exact hD) hlocks dX1_findLasting_102
      · skip
        refine lv_aload_n hx hb dX1_findLasting_74 rfl (lv_at hl 0 rfl) ?_
        refine va_get (D := (dC, dI)) (ci := kX1) (v := .ref la) (C := RX1) (T := TX1) (N := 4) hx hb hts hi_X1 hown hK hP 0 rfl rfl 2 (by decide) hf_24 (fun _ h9 => h9) rfl dX1_findLasting_75 ?_
        refine kt_callv (w' := wYM my co C la lag lat (it (sinkS E) n X.1) X.2.1 po pog pot OG OT cI cII mo eo dg to er n E DG) (rest := []) (As := []) ⟨hx, hb, hml, hown, hts⟩ (c_X0_addFromSink l dC dI cI cII cJ cJJ la lag lat X.1 X.2.1 mo eo dg to er n E DG _ (hn)) (cwV 0 hts gX1_findLasting_X0_addFromSink rfl rfl rfl (by decide +kernel) ⟨Nat.le_of_ble_eq_true rfl, Nat.le_of_ble_eq_true rfl⟩) hK hP hD hS hA [2, 3, 4, 8, 9, 10, 11, 12, 13, 14, 15, 16, 17] sw_wYM_wHM_0 rfl 2 kX0 rfl rfl rfl rfl rfl hl.1 (Nat.le_of_ble_eq_true rfl) dX1_findLasting_78 ⟨Nat.zero_le _, Nat.zero_le _⟩ (fun H locs hP hD hS => ?_)
        refine lv_aload_n hx hb dX1_findLasting_81 rfl (lv_at hl 0 rfl) ?_
        refine va_get (D := (dC, dI)) (ci := kX1) (v := .ref la) (C := RX1) (T := TX1) (N := 4) hx hb hts hi_X1 hown hK hP 0 rfl rfl 2 (by decide) hf_24 (fun _ h9 => h9) rfl dX1_findLasting_82 ?_
        refine kt_callv (w' := wYM my co C la lag lat ((rollF n E DG (it (sinkS E) n X.1)).1) ((rollF n E DG (it (sinkS E) n X.1)).2) po pog pot OG OT cI cII mo eo dg to er n E DG) (rest := []) (As := []) ⟨hx, hb, hml, hown, hts⟩ (c_X0_roll l dC dI cI cII cJ cJJ la lag lat (it (sinkS E) n X.1) X.2.1 mo eo dg to er n E DG _ (hn)) (cwV 0 hts gX1_findLasting_X0_roll rfl rfl rfl (by decide +kernel) ⟨Nat.le_of_ble_eq_true rfl, Nat.le_of_ble_eq_true rfl⟩) hK hP hD hS hA [2, 3, 4, 8, 9, 10, 11, 12, 13, 14, 15, 16, 17] sw_wYM_wHM_0 rfl 2 kX0 rfl rfl rfl rfl rfl hl.1 (Nat.le_of_ble_eq_true rfl) dX1_findLasting_85 ⟨Nat.zero_le _, Nat.zero_le _⟩ (fun H locs hP hD hS => ?_)
        refine lv_aload_n hx hb dX1_findLasting_88 rfl (lv_at hl 0 rfl) ?_
        refine va_get (D := (dC, dI)) (ci := kX1) (v := .ref la) (C := RX1) (T := TX1) (N := 4) hx hb hts hi_X1 hown hK hP 0 rfl rfl 2 (by decide) hf_24 (fun _ h9 => h9) rfl dX1_findLasting_89 ?_
        refine kt_calli (w' := wYM my co C la lag lat ((rollF n E DG (it (sinkS E) n X.1)).1) ((rollF n E DG (it (sinkS E) n X.1)).2) po pog pot OG OT cI cII mo eo dg to er n E DG) (rest := []) (As := []) ⟨hx, hb, hml, hown, hts⟩ (c_X0_hasEachToppledOnce l dC dI cI cII cJ cJJ la lag lat ((rollF n E DG (it (sinkS E) n X.1)).1) ((rollF n E DG (it (sinkS E) n X.1)).2) mo eo dg to er n E DG _ (hn)) (cwV 0 hts gX1_findLasting_X0_hasEachToppledOnce rfl rfl rfl (by decide +kernel) ⟨Nat.le_of_ble_eq_true rfl, Nat.le_of_ble_eq_true rfl⟩) hK hP hD hS hA [2, 3, 4, 8, 9, 10, 11, 12, 13, 14, 15, 16, 17] sw_wYM_wHM_0 rfl 2 kX0 rfl rfl rfl rfl rfl hl.1 (Nat.le_of_ble_eq_true rfl) dX1_findLasting_92 ⟨Nat.zero_le _, Nat.zero_le _⟩ (fun H locs hP hD hS => ?_)
        refine lv_istore_n (lv' := [(1, .int (b2i (allN (onceB ((rollF n E DG (it (sinkS E) n X.1)).2)) n))), (0, .ref my), (2, .int (nI r))]) hx hb dX1_findLasting_95 rfl hl (by decide) rfl (fun ls hl => ?_)
        refine lv_iinc (v := nI (r + 1)) (lv' := [(2, .int (nI (r + 1))), (1, .int (b2i (allN (onceB ((rollF n E DG (it (sinkS E) n X.1)).2)) n))), (0, .ref my)]) hx hb dX1_findLasting_96 hl (k := 2) rfl (kt_inc _) (by decide) rfl (fun ls hl => ?_)
        refine lv_goto (tgt := 64) hx hb dX1_findLasting_99 (by decide) ?_
        exact ih_r ⟨r + 1, lastS n E DG X⟩ H locs ls (by show rounds - (r + 1) < rounds - r; omega) (⟨by omega, by show lastR n E DG (rounds - (r + 1)) _ = _; rw [show rounds - (r + 1) = rounds - r - 1 by omega, ← lastR_1 c65 (by omega)]; exact hI.2⟩) hP hD hS (lv_sub hl [2, 1, 0] rfl)
  · skip
    refine lv_aload_n hx hb dX1_findLasting_13 rfl (lv_at hl 0 rfl) ?_
    refine va_get (D := (dC, dI)) (ci := kX1) (v := .ref la) (C := RX1) (T := TX1) (N := 4) hx hb hts hi_X1 hown hK hP 0 rfl rfl 2 (by decide) hf_24 (fun _ h9 => h9) rfl dX1_findLasting_14 ?_
    refine va_get (D := (dC, dI)) (ci := kX0) (v := .ref lag) (C := RX0) (T := TX0) (N := 3) hx hb hts hi_X0 hown hK hP 2 rfl rfl 0 (by decide) hf_55 (fun _ h9 => h9) rfl dX1_findLasting_17 ?_
    refine lv_iload_n hx hb dX1_findLasting_20 rfl (lv_at hl 1 rfl) ?_
    refine lv_aload_n hx hb dX1_findLasting_21 rfl (lv_at hl 0 rfl) ?_
    refine va_get (D := (dC, dI)) (ci := kX1) (v := .ref co) (C := RX1) (T := TX1) (N := 4) hx hb hts hi_X1 hown hK hP 0 rfl rfl 0 (by decide) hf_9 (fun _ h9 => h9) rfl dX1_findLasting_22 ?_
    refine lv_iload_n hx hb dX1_findLasting_25 rfl (lv_at hl 1 rfl) ?_
    refine kt_iald hx hb hK hP 1 0 rfl rfl (by omega) (by decide) dX1_findLasting_26 ?_
    refine kt_iast hx hb hK hP hD hS 3 0 rfl rfl (by omega) (by decide) dX1_findLasting_27 (fun H locs hP hD hS => ?_)
    have hP : va_P (dC, dI) vwCl (wYM my co C la lag lat (upd (it (copyS C) i LG) i (C i)) LT po pog pot OG OT cI cII mo eo dg to er n E DG) H := hP
    have hD : va_D A (wYM my co C la lag lat (upd (it (copyS C) i LG) i (C i)) LT po pog pot OG OT cI cII mo eo dg to er n E DG) := hD
    refine lv_iinc (v := nI (i + 1)) (lv' := [(1, .int (nI (i + 1))), (0, .ref my)]) hx hb dX1_findLasting_28 hl (k := 1) rfl (kt_inc _) (by decide) rfl (fun ls hl => ?_)
    refine lv_goto (tgt := 2) hx hb dX1_findLasting_31 (by decide) ?_
    exact ih_i H locs ls hlt_i hP hD hS (lv_sub hl [1, 0] rfl)

theorem sw_wYM_wYM_0 {my : Nat} {co : Nat} {C : Nat → Int32} {la : Nat} {lag : Nat} {lat : Nat} {LG : Nat → Int32} {LT : Nat → Int32} {po : Nat} {pog : Nat} {pot : Nat} {OG : Nat → Int32} {OT : Nat → Int32} {cI : ClassId} {cII : ClassId} {mo : Nat} {eo : Nat} {dg : Nat} {to : Nat} {er : Nat → Nat} {n : Nat} {E : Nat → Nat → Int32} {DG : Nat → Int32} {C' : Nat → Int32} {LG' : Nat → Int32} {LT' : Nat → Int32} {OG' : Nat → Int32} {OT' : Nat → Int32} {n' : Nat} {E' : Nat → Nat → Int32} {DG' : Nat → Int32} : kt_sw (wYM my co C la lag lat LG LT po pog pot OG OT cI cII mo eo dg to er n E DG) (wYM my co C' la lag lat LG' LT' po pog pot OG' OT' cI cII mo eo dg to er n' E' DG') (List.range' 0 18) (wYM my co C la lag lat LG LT po pog pot OG OT cI cII mo eo dg to er n E DG) (wYM my co C' la lag lat LG' LT' po pog pot OG' OT' cI cII mo eo dg to er n' E' DG') := kt_sw_all rfl (by decide +kernel) rfl
theorem sw_wYM_wYc_0 {my : Nat} {co : Nat} {C : Nat → Int32} {la : Nat} {lag : Nat} {lat : Nat} {LG : Nat → Int32} {LT : Nat → Int32} {po : Nat} {pog : Nat} {pot : Nat} {OG : Nat → Int32} {OT : Nat → Int32} {cI : ClassId} {cII : ClassId} {mo : Nat} {eo : Nat} {dg : Nat} {to : Nat} {er : Nat → Nat} {n : Nat} {E : Nat → Nat → Int32} {DG : Nat → Int32} {C' : Nat → Int32} {n' : Nat} {E' : Nat → Nat → Int32} {DG' : Nat → Int32} : kt_sw (wYM my co C la lag lat LG LT po pog pot OG OT cI cII mo eo dg to er n E DG) (wYM my co C' la lag lat LG LT po pog pot OG OT cI cII mo eo dg to er n' E' DG') [0, 1, 8, 9, 10, 11, 12, 13, 14, 15, 16, 17] (wYc my co C la po cI cII mo eo dg to er n E DG) (wYc my co C' la po cI cII mo eo dg to er n' E' DG') := ⟨rfl, ⟨[some 0, some 1, none, none, none, none, none, none, some 2, some 3, some 4, some 5, some 6, some 7, some 8, some 9, some 10, some 11], rfl, by decide +kernel⟩, rfl⟩
set_option maxHeartbeats 4000000 in
set_option maxRecDepth 100000 in
theorem c_X1_isPayable (l : Launch) (dC : Nat → ClassId) (dI : Nat → Nat → Nat) (cI cII cJ cJJ : ClassId) (my : Nat) (co : Nat) (C : Nat → Int32) (la : Nat) (lag : Nat) (lat : Nat) (LG : Nat → Int32) (LT : Nat → Int32) (po : Nat) (pog : Nat) (pot : Nat) (OG : Nat → Int32) (OT : Nat → Int32) (mo : Nat) (eo : Nat) (dg : Nat) (to : Nat) (er : Nat → Nat) (n : Nat) (E : Nat → Nat → Int32) (DG : Nat → Int32) (sz : Nat) (hn : n ≤ 6) : Met l yX1_isPayable wsX1_isPayable ({ frames := 4, cells := 0, slots := 0, locals := 91 }) (va_Pc [.ref my] (PRE (dC, dI) (tyL cI cII cJ cJJ) (wYM my co C la lag lat LG LT po pog pot OG OT cI cII mo eo dg to er n E DG) sz)) (va_Qi (fun (r' : Int32) (_ : Unit) => r' = b2i (payB n E DG C LG)) (fun _ tS => ATW (dC, dI) (tyL cI cII cJ cJJ) (va_A (wYM my co C la lag lat LG LT po pog pot OG OT cI cII mo eo dg to er n E DG) sz) (wYM my co C la lag lat ((findF n E DG C LG).1) ((findF n E DG C LG).2) po pog pot OG OT cI cII mo eo dg to er n E DG) tS) (va_A (wYM my co C la lag lat LG LT po pog pot OG OT cI cII mo eo dg to er n E DG) sz)) 0 0 (va_A (wYM my co C la lag lat LG LT po pog pot OG OT cI cII mo eo dg to er n E DG) sz) := by
  refine Met.ofW (cc := cX1_isPayable) (maxL := 1) (ret := (some .boolean)) (by decide) rfl ?_
  intro p e s m args below meth c s₁ B hml hv
  obtain ⟨rfl, hsz, hP, hK, hD0⟩ := hv
  have hx := B.exec
  have hb := B.bytes
  have hr := B.returns
  have hlocks := B.notSynchronized
  have hts := atoms_spec (ws := wsX1_isPayable) B.pre
  have hown : s.vm.findClass RX1 = some m.cls := findClass_of_methodNamed B.named
  subst hsz
  have hD := hD0.self (sz := s.heap.size)
  generalize hAe : va_A (wYM my co C la lag lat LG LT po pog pot OG OT cI cII mo eo dg to er n E DG) s.heap.size = A at hD ⊢
  have hA : ∀ q : Nat, s.heap.size ≤ q → A q := fun q h => by rw [← hAe]; exact Or.inr h
  have hS : va_S A s.heap s.heap [] := va_S.rf
  have hl := lv_entry ([.ref my]) (n := 1) (Nat.le_of_ble_eq_true rfl)
  rw [lg_entry_eq]
  generalize (lg_sl ([.ref my]) ++ List.replicate (1 - (lg_sl ([.ref my])).length) Slot.unset).toArray = ls at hl ⊢
  have hl : lv_has ls 1 [(0, .ref my)] := hl
  have hi_X1 : ∀ w ∈ u_ws RX1 TX1 4, w ∈ wsX1_isPayable := by decide +kernel
  have hf_24 := hts (.fieldLink RX1 24 "Topplemoor$Money" "lasting" "LTopplemoor$Heap;") (by decide +kernel)
  refine lv_aload_n hx hb dX1_isPayable_0 rfl (lv_at hl 0 rfl) ?_
  refine kt_callv (w' := wYM my co C la lag lat ((findF n E DG C LG).1) ((findF n E DG C LG).2) po pog pot OG OT cI cII mo eo dg to er n E DG) (rest := []) (As := []) ⟨hx, hb, hml, hown, hts⟩ (c_X1_findLasting l dC dI cI cII cJ cJJ my co C la lag lat LG LT po pog pot OG OT mo eo dg to er n E DG _ (hn)) (cwV 0 hts gX1_isPayable_X1_findLasting rfl rfl rfl (by decide +kernel) ⟨Nat.le_of_ble_eq_true rfl, Nat.le_of_ble_eq_true rfl⟩) hK hP hD hS hA (List.range' 0 18) sw_wYM_wYM_0 rfl 0 kX1 rfl rfl rfl rfl rfl hl.1 (Nat.le_of_ble_eq_true rfl) dX1_isPayable_1 ⟨Nat.zero_le _, Nat.zero_le _⟩ (fun H locs hP hD hS => ?_)
  refine lv_aload_n hx hb dX1_isPayable_4 rfl (lv_at hl 0 rfl) ?_
  refine kt_calli (w' := wYM my co C la lag lat ((findF n E DG C LG).1) ((findF n E DG C LG).2) po pog pot OG OT cI cII mo eo dg to er n E DG) (rest := []) (As := []) ⟨hx, hb, hml, hown, hts⟩ (c_X1_allCoins l dC dI cI cII cJ cJJ my co C la po mo eo dg to er n E DG _ ) (cwV 0 hts gX1_isPayable_X1_allCoins rfl rfl rfl (by decide +kernel) ⟨Nat.le_of_ble_eq_true rfl, Nat.le_of_ble_eq_true rfl⟩) hK hP hD hS hA [0, 1, 8, 9, 10, 11, 12, 13, 14, 15, 16, 17] sw_wYM_wYc_0 rfl 0 kX1 rfl rfl rfl rfl rfl hl.1 (Nat.le_of_ble_eq_true rfl) dX1_isPayable_5 ⟨Nat.zero_le _, Nat.zero_le _⟩ (fun H locs hP hD hS => ?_)
  refine lv_aload_n hx hb dX1_isPayable_8 rfl (lv_at hl 0 rfl) ?_
  refine lv_aload_n hx hb dX1_isPayable_9 rfl (lv_at hl 0 rfl) ?_
  refine va_get (D := (dC, dI)) (ci := kX1) (v := .ref la) (C := RX1) (T := TX1) (N := 4) hx hb hts hi_X1 hown hK hP 0 rfl rfl 2 (by decide) hf_24 (fun _ h9 => h9) rfl dX1_isPayable_10 ?_
  refine kt_calli (w' := wYM my co C la lag lat ((findF n E DG C LG).1) ((findF n E DG C LG).2) po pog pot OG OT cI cII mo eo dg to er n E DG) (rest := [.int (sumN C 7)]) (As := [.ref la]) ⟨hx, hb, hml, hown, hts⟩ (c_X1_leastNeeded l dC dI cI cII cJ cJJ my co la po la lag lat ((findF n E DG C LG).1) ((findF n E DG C LG).2) mo eo dg to er n E DG _ (hn)) (cwV 1 hts gX1_isPayable_X1_leastNeeded rfl rfl rfl (by decide +kernel) ⟨Nat.le_of_ble_eq_true rfl, Nat.le_of_ble_eq_true rfl⟩) hK hP hD hS hA [0, 2, 3, 4, 8, 9, 10, 11, 12, 13, 14, 15, 16, 17] sw_wYM_wYh_0 rfl 0 kX1 rfl rfl rfl rfl rfl hl.1 (Nat.le_of_ble_eq_true rfl) dX1_isPayable_13 ⟨Nat.zero_le _, Nat.zero_le _⟩ (fun H locs hP hD hS => ?_)
  refine lv_icmp_lt (tgt := 23) hx hb dX1_isPayable_16 (by decide) (fun c16 => ?_) (fun c16 => ?_)
  · skip
    refine lv_iconst (v := 0) hx hb dX1_isPayable_23 (by decide) ?_
    exact kt_zret (W' := wYM my co C la lag lat ((findF n E DG C LG).1) ((findF n E DG C LG).2) po pog pot OG OT cI cII mo eo dg to er n E DG) hx hb hr (rfl) hS hP hK hD (by first | (simp only [b2i, payB, c16]; rfl) | (unfold payB; rw [decide_eq_true c16]; rfl) | (unfold payB; rw [decide_eq_false c16]; rfl)) hlocks dX1_isPayable_24
  · skip
    refine lv_iconst (v := 1) hx hb dX1_isPayable_19 (by decide) ?_
    refine lv_goto (tgt := 24) hx hb dX1_isPayable_20 (by decide) ?_
    exact kt_zret (W' := wYM my co C la lag lat ((findF n E DG C LG).1) ((findF n E DG C LG).2) po pog pot OG OT cI cII mo eo dg to er n E DG) hx hb hr (rfl) hS hP hK hD (by first | (simp only [b2i, payB, c16]; rfl) | (unfold payB; rw [decide_eq_true c16]; rfl) | (unfold payB; rw [decide_eq_false c16]; rfl)) hlocks dX1_isPayable_24

theorem sw_wYM_wHMr_0 {my : Nat} {co : Nat} {C : Nat → Int32} {la : Nat} {lag : Nat} {lat : Nat} {LG : Nat → Int32} {LT : Nat → Int32} {po : Nat} {pog : Nat} {pot : Nat} {OG : Nat → Int32} {OT : Nat → Int32} {cI : ClassId} {cII : ClassId} {mo : Nat} {eo : Nat} {dg : Nat} {to : Nat} {er : Nat → Nat} {n : Nat} {E : Nat → Nat → Int32} {DG : Nat → Int32} {OG' : Nat → Int32} {OT' : Nat → Int32} {LG' : Nat → Int32} {n' : Nat} {E' : Nat → Nat → Int32} {DG' : Nat → Int32} : kt_sw (wYM my co C la lag lat LG LT po pog pot OG OT cI cII mo eo dg to er n E DG) (wYM my co C la lag lat LG' LT po pog pot OG' OT' cI cII mo eo dg to er n' E' DG') [5, 6, 7, 3, 8, 9, 10, 11, 12, 13, 14, 15, 16, 17] (wHMr po pog pot OG OT lag LG cI cII mo eo dg to er n E DG) (wHMr po pog pot OG' OT' lag LG' cI cII mo eo dg to er n' E' DG') := ⟨rfl, ⟨[none, none, none, some 3, none, some 0, some 1, some 2, some 4, some 5, some 6, some 7, some 8, some 9, some 10, some 11, some 12, some 13], rfl, by decide +kernel⟩, rfl⟩
theorem sw_wYM_wHM_1 {my : Nat} {co : Nat} {C : Nat → Int32} {la : Nat} {lag : Nat} {lat : Nat} {LG : Nat → Int32} {LT : Nat → Int32} {po : Nat} {pog : Nat} {pot : Nat} {OG : Nat → Int32} {OT : Nat → Int32} {cI : ClassId} {cII : ClassId} {mo : Nat} {eo : Nat} {dg : Nat} {to : Nat} {er : Nat → Nat} {n : Nat} {E : Nat → Nat → Int32} {DG : Nat → Int32} {OG' : Nat → Int32} {OT' : Nat → Int32} {n' : Nat} {E' : Nat → Nat → Int32} {DG' : Nat → Int32} : kt_sw (wYM my co C la lag lat LG LT po pog pot OG OT cI cII mo eo dg to er n E DG) (wYM my co C la lag lat LG LT po pog pot OG' OT' cI cII mo eo dg to er n' E' DG') [5, 6, 7, 8, 9, 10, 11, 12, 13, 14, 15, 16, 17] (wHM po pog pot OG OT cI cII mo eo dg to er n E DG) (wHM po pog pot OG' OT' cI cII mo eo dg to er n' E' DG') := ⟨rfl, ⟨[none, none, none, none, none, some 0, some 1, some 2, some 3, some 4, some 5, some 6, some 7, some 8, some 9, some 10, some 11, some 12], rfl, by decide +kernel⟩, rfl⟩
theorem sw_wYM_wYh_1 {my : Nat} {co : Nat} {C : Nat → Int32} {la : Nat} {lag : Nat} {lat : Nat} {LG : Nat → Int32} {LT : Nat → Int32} {po : Nat} {pog : Nat} {pot : Nat} {OG : Nat → Int32} {OT : Nat → Int32} {cI : ClassId} {cII : ClassId} {mo : Nat} {eo : Nat} {dg : Nat} {to : Nat} {er : Nat → Nat} {n : Nat} {E : Nat → Nat → Int32} {DG : Nat → Int32} {OG' : Nat → Int32} {OT' : Nat → Int32} {n' : Nat} {E' : Nat → Nat → Int32} {DG' : Nat → Int32} : kt_sw (wYM my co C la lag lat LG LT po pog pot OG OT cI cII mo eo dg to er n E DG) (wYM my co C la lag lat LG LT po pog pot OG' OT' cI cII mo eo dg to er n' E' DG') [0, 5, 6, 7, 8, 9, 10, 11, 12, 13, 14, 15, 16, 17] (wYh my co la po po pog pot OG OT cI cII mo eo dg to er n E DG) (wYh my co la po po pog pot OG' OT' cI cII mo eo dg to er n' E' DG') := ⟨rfl, ⟨[some 0, none, none, none, none, some 1, some 2, some 3, some 4, some 5, some 6, some 7, some 8, some 9, some 10, some 11, some 12, some 13], rfl, by decide +kernel⟩, rfl⟩
set_option maxHeartbeats 4000000 in
set_option maxRecDepth 100000 in
theorem c_X1_weakestNode (l : Launch) (dC : Nat → ClassId) (dI : Nat → Nat → Nat) (cI cII cJ cJJ : ClassId) (my : Nat) (co : Nat) (C : Nat → Int32) (la : Nat) (lag : Nat) (lat : Nat) (LG : Nat → Int32) (LT : Nat → Int32) (po : Nat) (pog : Nat) (pot : Nat) (OG : Nat → Int32) (OT : Nat → Int32) (mo : Nat) (eo : Nat) (dg : Nat) (to : Nat) (er : Nat → Nat) (n : Nat) (E : Nat → Nat → Int32) (DG : Nat → Int32) (sz : Nat) (hn : n ≤ 6) : Met l yX1_weakestNode wsX1_weakestNode ({ frames := 4, cells := 0, slots := 0, locals := 91 }) (va_Pc [.ref my] (PRE (dC, dI) (tyL cI cII cJ cJJ) (wYM my co C la lag lat LG LT po pog pot OG OT cI cII mo eo dg to er n E DG) sz)) (va_Qi (fun (r' : Int32) (_ : Unit) => r' = weakF n E DG C LG) (fun _ tS => ATW (dC, dI) (tyL cI cII cJ cJJ) (va_A (wYM my co C la lag lat LG LT po pog pot OG OT cI cII mo eo dg to er n E DG) sz) (wYM my co C la lag lat ((findF n E DG C LG).1) ((findF n E DG C LG).2) po pog pot ((poorX n E DG C LG OG OT).1) ((poorX n E DG C LG OG OT).2) cI cII mo eo dg to er n E DG) tS) (va_A (wYM my co C la lag lat LG LT po pog pot OG OT cI cII mo eo dg to er n E DG) sz)) 0 0 (va_A (wYM my co C la lag lat LG LT po pog pot OG OT cI cII mo eo dg to er n E DG) sz) := by
  refine Met.ofW (cc := cX1_weakestNode) (maxL := 3) (ret := (some .int)) (by decide) rfl ?_
  intro p e s m args below meth c s₁ B hml hv
  obtain ⟨rfl, hsz, hP, hK, hD0⟩ := hv
  have hx := B.exec
  have hb := B.bytes
  have hr := B.returns
  have hlocks := B.notSynchronized
  have hts := atoms_spec (ws := wsX1_weakestNode) B.pre
  have hown : s.vm.findClass RX1 = some m.cls := findClass_of_methodNamed B.named
  subst hsz
  have hD := hD0.self (sz := s.heap.size)
  generalize hAe : va_A (wYM my co C la lag lat LG LT po pog pot OG OT cI cII mo eo dg to er n E DG) s.heap.size = A at hD ⊢
  have hA : ∀ q : Nat, s.heap.size ≤ q → A q := fun q h => by rw [← hAe]; exact Or.inr h
  have hS : va_S A s.heap s.heap [] := va_S.rf
  have hl := lv_entry ([.ref my]) (n := 3) (Nat.le_of_ble_eq_true rfl)
  rw [lg_entry_eq]
  generalize (lg_sl ([.ref my]) ++ List.replicate (3 - (lg_sl ([.ref my])).length) Slot.unset).toArray = ls at hl ⊢
  have hl : lv_has ls 3 [(0, .ref my)] := hl
  have hi_X1 : ∀ w ∈ u_ws RX1 TX1 4, w ∈ wsX1_weakestNode := by decide +kernel
  have hf_15 := hts (.fieldLink RX1 15 "Topplemoor$Money" "moor" "LTopplemoor$Moor;") (by decide +kernel)
  have hi_X2 : ∀ w ∈ u_ws RX2 TX2 4, w ∈ wsX1_weakestNode := by decide +kernel
  have hf_51 := hts (.fieldLink RX1 51 "Topplemoor$Moor" "spots" "I") (by decide +kernel)
  have hf_24 := hts (.fieldLink RX1 24 "Topplemoor$Money" "lasting" "LTopplemoor$Heap;") (by decide +kernel)
  have hf_28 := hts (.fieldLink RX1 28 "Topplemoor$Money" "poorer" "LTopplemoor$Heap;") (by decide +kernel)
  have hi_X0 : ∀ w ∈ u_ws RX0 TX0 3, w ∈ wsX1_weakestNode := by decide +kernel
  have hf_55 := hts (.fieldLink RX1 55 "Topplemoor$Heap" "grains" "[I") (by decide +kernel)
  refine lv_aload_n hx hb dX1_weakestNode_0 rfl (lv_at hl 0 rfl) ?_
  refine kt_callv (w' := wYM my co C la lag lat ((findF n E DG C LG).1) ((findF n E DG C LG).2) po pog pot OG OT cI cII mo eo dg to er n E DG) (rest := []) (As := []) ⟨hx, hb, hml, hown, hts⟩ (c_X1_findLasting l dC dI cI cII cJ cJJ my co C la lag lat LG LT po pog pot OG OT mo eo dg to er n E DG _ (hn)) (cwV 0 hts gX1_weakestNode_X1_findLasting rfl rfl rfl (by decide +kernel) ⟨Nat.le_of_ble_eq_true rfl, Nat.le_of_ble_eq_true rfl⟩) hK hP hD hS hA (List.range' 0 18) sw_wYM_wYM_0 rfl 0 kX1 rfl rfl rfl rfl rfl hl.1 (Nat.le_of_ble_eq_true rfl) dX1_weakestNode_1 ⟨Nat.zero_le _, Nat.zero_le _⟩ (fun H locs hP hD hS => ?_)
  refine lv_aload_n hx hb dX1_weakestNode_4 rfl (lv_at hl 0 rfl) ?_
  refine kt_calli (w' := wYM my co C la lag lat ((findF n E DG C LG).1) ((findF n E DG C LG).2) po pog pot OG OT cI cII mo eo dg to er n E DG) (rest := []) (As := []) ⟨hx, hb, hml, hown, hts⟩ (c_X1_allCoins l dC dI cI cII cJ cJJ my co C la po mo eo dg to er n E DG _ ) (cwV 0 hts gX1_weakestNode_X1_allCoins rfl rfl rfl (by decide +kernel) ⟨Nat.le_of_ble_eq_true rfl, Nat.le_of_ble_eq_true rfl⟩) hK hP hD hS hA [0, 1, 8, 9, 10, 11, 12, 13, 14, 15, 16, 17] sw_wYM_wYc_0 rfl 0 kX1 rfl rfl rfl rfl rfl hl.1 (Nat.le_of_ble_eq_true rfl) dX1_weakestNode_5 ⟨Nat.zero_le _, Nat.zero_le _⟩ (fun H locs hP hD hS => ?_)
  refine lv_iconst (v := 1) hx hb dX1_weakestNode_8 (by decide) ?_
  refine lv_isub hx hb dX1_weakestNode_9 ?_
  refine lv_istore_n (lv' := [(1, .int ((sumN C 7) - 1)), (0, .ref my)]) hx hb dX1_weakestNode_10 rfl hl (by decide) rfl (fun ls hl => ?_)
  refine lv_iconst (v := nI 0) hx hb dX1_weakestNode_11 (by decide) ?_
  refine lv_istore_n (lv' := [(2, .int (nI 0)), (1, .int ((sumN C 7) - 1)), (0, .ref my)]) hx hb dX1_weakestNode_12 rfl hl (by decide) rfl (fun ls hl => ?_)
  refine kt_forq (n := n) (q := fun (i : Nat) => (fstO (poorB n E DG C (findF n E DG C LG).1) i = none)) (WD := fun (i : Nat) => wYM my co C la lag lat ((findF n E DG C LG).1) ((findF n E DG C LG).2) po pog pot ((it (poorS n E DG (findF n E DG C LG).1) i (OG, OT)).1) ((it (poorS n E DG (findF n E DG C LG).1) i (OG, OT)).2) cI cII mo eo dg to er n E DG) (LV := fun (i : Nat) => [(0, .ref my), (1, .int (sumN C 7 - 1)), (2, .int (nI i))]) (nL := 3) (hd := 13) ?_ (rfl) hP hD hS (lv_sub hl [2, 1, 0] rfl)
  intro i hle_i hq_i ih_i H locs ls hP hD hS hl
  have hq_i : (fstO (poorB n E DG C (findF n E DG C LG).1) i = none) := hq_i
  have hq := hq_i
  have hP : va_P (dC, dI) vwCl (wYM my co C la lag lat ((findF n E DG C LG).1) ((findF n E DG C LG).2) po pog pot ((it (poorS n E DG (findF n E DG C LG).1) i (OG, OT)).1) ((it (poorS n E DG (findF n E DG C LG).1) i (OG, OT)).2) cI cII mo eo dg to er n E DG) H := hP
  have hD : va_D A (wYM my co C la lag lat ((findF n E DG C LG).1) ((findF n E DG C LG).2) po pog pot ((it (poorS n E DG (findF n E DG C LG).1) i (OG, OT)).1) ((it (poorS n E DG (findF n E DG C LG).1) i (OG, OT)).2) cI cII mo eo dg to er n E DG) := hD
  have hl : lv_has ls 3 [(0, .ref my), (1, .int (sumN C 7 - 1)), (2, .int (nI i))] := hl
  refine lv_iload_n hx hb dX1_weakestNode_13 rfl (lv_at hl 2 rfl) ?_
  refine lv_aload_n hx hb dX1_weakestNode_14 rfl (lv_at hl 0 rfl) ?_
  refine va_get (D := (dC, dI)) (ci := kX1) (v := .ref mo) (C := RX1) (T := TX1) (N := 4) hx hb hts hi_X1 hown hK hP 0 rfl rfl 1 (by decide) hf_15 (fun _ h9 => h9) rfl dX1_weakestNode_15 ?_
  refine va_get (D := (dC, dI)) (ci := kX2) (v := .int (nI n)) (C := RX2) (T := TX2) (N := 4) hx hb hts hi_X2 hown hK hP 8 rfl rfl 0 (by decide) hf_51 (fun _ h9 => h9) rfl dX1_weakestNode_18 ?_
  refine kt_ige (tgt := 78) hx hb (by omega) (by omega) dX1_weakestNode_21 (by decide) (fun hge_i => ?_) (fun hlt_i => ?_)
  · have e_i : n = i := by omega
    subst e_i
    refine lv_iload_n hx hb dX1_weakestNode_78 rfl (lv_at hl 1 rfl) ?_
    refine lv_aload_n hx hb dX1_weakestNode_79 rfl (lv_at hl 0 rfl) ?_
    refine lv_aload_n hx hb dX1_weakestNode_80 rfl (lv_at hl 0 rfl) ?_
    refine va_get (D := (dC, dI)) (ci := kX1) (v := .ref la) (C := RX1) (T := TX1) (N := 4) hx hb hts hi_X1 hown hK hP 0 rfl rfl 2 (by decide) hf_24 (fun _ h9 => h9) rfl dX1_weakestNode_81 ?_
    refine kt_calli (w' := wYM my co C la lag lat ((findF n E DG C LG).1) ((findF n E DG C LG).2) po pog pot ((it (poorS n E DG (findF n E DG C LG).1) n (OG, OT)).1) ((it (poorS n E DG (findF n E DG C LG).1) n (OG, OT)).2) cI cII mo eo dg to er n E DG) (rest := [.int (sumN C 7 - 1)]) (As := [.ref la]) ⟨hx, hb, hml, hown, hts⟩ (c_X1_leastNeeded l dC dI cI cII cJ cJJ my co la po la lag lat ((findF n E DG C LG).1) ((findF n E DG C LG).2) mo eo dg to er n E DG _ (hn)) (cwV 1 hts gX1_weakestNode_X1_leastNeeded rfl rfl rfl (by decide +kernel) ⟨Nat.le_of_ble_eq_true rfl, Nat.le_of_ble_eq_true rfl⟩) hK hP hD hS hA [0, 2, 3, 4, 8, 9, 10, 11, 12, 13, 14, 15, 16, 17] sw_wYM_wYh_0 rfl 0 kX1 rfl rfl rfl rfl rfl hl.1 (Nat.le_of_ble_eq_true rfl) dX1_weakestNode_84 ⟨Nat.zero_le _, Nat.zero_le _⟩ (fun H locs hP hD hS => ?_)
    refine lv_icmp_ge (tgt := 95) hx hb dX1_weakestNode_87 (by decide) (fun c87 => ?_) (fun c87 => ?_)
    · skip
      refine lv_iconst (v := (-1)) hx hb dX1_weakestNode_95 (by decide) ?_
      have e : poorX n E DG C LG OG OT = it (poorS n E DG (findF n E DG C LG).1) n (OG, OT) := by unfold poorX; rw [hq]
      exact kt_iret (W' := wYM my co C la lag lat ((findF n E DG C LG).1) ((findF n E DG C LG).2) po pog pot ((poorX n E DG C LG OG OT).1) ((poorX n E DG C LG OG OT).2) cI cII mo eo dg to er n E DG) hx hb hr hS (by rw [e]; exact hP) hK (by rw [e]; exact hD) (by unfold weakF; rw [hq]; first | exact (if_neg (Int32.not_lt.mpr c87)).symm | exact (if_pos (Int32.not_le.mp c87)).symm) hlocks dX1_weakestNode_96
    · skip
      refine lv_bipush (v := 6) hx hb dX1_weakestNode_90 (by decide) ?_
      refine lv_goto (tgt := 96) hx hb dX1_weakestNode_92 (by decide) ?_
      have e : poorX n E DG C LG OG OT = it (poorS n E DG (findF n E DG C LG).1) n (OG, OT) := by unfold poorX; rw [hq]
      exact kt_iret (W' := wYM my co C la lag lat ((findF n E DG C LG).1) ((findF n E DG C LG).2) po pog pot ((poorX n E DG C LG OG OT).1) ((poorX n E DG C LG OG OT).2) cI cII mo eo dg to er n E DG) hx hb hr hS (by rw [e]; exact hP) hK (by rw [e]; exact hD) (by unfold weakF; rw [hq]; first | exact (if_neg (Int32.not_lt.mpr c87)).symm | exact (if_pos (Int32.not_le.mp c87)).symm) hlocks dX1_weakestNode_96
  · skip
    refine lv_aload_n hx hb dX1_weakestNode_24 rfl (lv_at hl 0 rfl) ?_
    refine va_get (D := (dC, dI)) (ci := kX1) (v := .ref po) (C := RX1) (T := TX1) (N := 4) hx hb hts hi_X1 hown hK hP 0 rfl rfl 3 (by decide) hf_28 (fun _ h9 => h9) rfl dX1_weakestNode_25 ?_
    refine lv_aload_n hx hb dX1_weakestNode_28 rfl (lv_at hl 0 rfl) ?_
    refine va_get (D := (dC, dI)) (ci := kX1) (v := .ref la) (C := RX1) (T := TX1) (N := 4) hx hb hts hi_X1 hown hK hP 0 rfl rfl 2 (by decide) hf_24 (fun _ h9 => h9) rfl dX1_weakestNode_29 ?_
    refine va_get (D := (dC, dI)) (ci := kX0) (v := .ref lag) (C := RX0) (T := TX0) (N := 3) hx hb hts hi_X0 hown hK hP 2 rfl rfl 0 (by decide) hf_55 (fun _ h9 => h9) rfl dX1_weakestNode_32 ?_
    refine kt_callv (w' := wYM my co C la lag lat ((findF n E DG C LG).1) ((findF n E DG C LG).2) po pog pot ((findF n E DG C LG).1) ((it (poorS n E DG (findF n E DG C LG).1) i (OG, OT)).2) cI cII mo eo dg to er n E DG) (rest := []) (As := [.ref lag]) ⟨hx, hb, hml, hown, hts⟩ (c_X0_copyRow l dC dI cI cII cJ cJJ po pog pot ((it (poorS n E DG (findF n E DG C LG).1) i (OG, OT)).1) ((it (poorS n E DG (findF n E DG C LG).1) i (OG, OT)).2) lag ((findF n E DG C LG).1) mo eo dg to er n E DG _ ) (cwV 1 hts gX1_weakestNode_X0_copyRow rfl rfl rfl (by decide +kernel) ⟨Nat.le_of_ble_eq_true rfl, Nat.le_of_ble_eq_true rfl⟩) hK hP hD hS hA [5, 6, 7, 3, 8, 9, 10, 11, 12, 13, 14, 15, 16, 17] sw_wYM_wHMr_0 rfl 5 kX0 rfl rfl rfl rfl rfl hl.1 (Nat.le_of_ble_eq_true rfl) dX1_weakestNode_35 ⟨Nat.zero_le _, Nat.zero_le _⟩ (fun H locs hP hD hS => ?_)
    refine lv_aload_n hx hb dX1_weakestNode_38 rfl (lv_at hl 0 rfl) ?_
    refine va_get (D := (dC, dI)) (ci := kX1) (v := .ref po) (C := RX1) (T := TX1) (N := 4) hx hb hts hi_X1 hown hK hP 0 rfl rfl 3 (by decide) hf_28 (fun _ h9 => h9) rfl dX1_weakestNode_39 ?_
    refine va_get (D := (dC, dI)) (ci := kX0) (v := .ref pog) (C := RX0) (T := TX0) (N := 3) hx hb hts hi_X0 hown hK hP 5 rfl rfl 0 (by decide) hf_55 (fun _ h9 => h9) rfl dX1_weakestNode_42 ?_
    refine lv_iload_n hx hb dX1_weakestNode_45 rfl (lv_at hl 2 rfl) ?_
    refine lv_dup2_11 hx hb dX1_weakestNode_46 rfl rfl ?_
    refine kt_iald hx hb hK hP 6 0 rfl rfl (by omega) (by decide) dX1_weakestNode_47 ?_
    refine lv_iconst (v := 1) hx hb dX1_weakestNode_48 (by decide) ?_
    refine lv_iadd hx hb dX1_weakestNode_49 ?_
    refine kt_iast hx hb hK hP hD hS 6 0 rfl rfl (by omega) (by decide) dX1_weakestNode_50 (fun H locs hP hD hS => ?_)
    have hP : va_P (dC, dI) vwCl (wYM my co C la lag lat ((findF n E DG C LG).1) ((findF n E DG C LG).2) po pog pot (upd ((findF n E DG C LG).1) i ((((findF n E DG C LG).1) i) + 1)) ((it (poorS n E DG (findF n E DG C LG).1) i (OG, OT)).2) cI cII mo eo dg to er n E DG) H := hP
    have hD : va_D A (wYM my co C la lag lat ((findF n E DG C LG).1) ((findF n E DG C LG).2) po pog pot (upd ((findF n E DG C LG).1) i ((((findF n E DG C LG).1) i) + 1)) ((it (poorS n E DG (findF n E DG C LG).1) i (OG, OT)).2) cI cII mo eo dg to er n E DG) := hD
    refine lv_aload_n hx hb dX1_weakestNode_51 rfl (lv_at hl 0 rfl) ?_
    refine va_get (D := (dC, dI)) (ci := kX1) (v := .ref po) (C := RX1) (T := TX1) (N := 4) hx hb hts hi_X1 hown hK hP 0 rfl rfl 3 (by decide) hf_28 (fun _ h9 => h9) rfl dX1_weakestNode_52 ?_
    refine kt_callv (w' := wYM my co C la lag lat ((findF n E DG C LG).1) ((findF n E DG C LG).2) po pog pot ((rollF n E DG (upd ((findF n E DG C LG).1) i ((((findF n E DG C LG).1) i) + 1))).1) ((rollF n E DG (upd ((findF n E DG C LG).1) i ((((findF n E DG C LG).1) i) + 1))).2) cI cII mo eo dg to er n E DG) (rest := []) (As := []) ⟨hx, hb, hml, hown, hts⟩ (c_X0_roll l dC dI cI cII cJ cJJ po pog pot (upd ((findF n E DG C LG).1) i ((((findF n E DG C LG).1) i) + 1)) ((it (poorS n E DG (findF n E DG C LG).1) i (OG, OT)).2) mo eo dg to er n E DG _ (hn)) (cwV 0 hts gX1_weakestNode_X0_roll rfl rfl rfl (by decide +kernel) ⟨Nat.le_of_ble_eq_true rfl, Nat.le_of_ble_eq_true rfl⟩) hK hP hD hS hA [5, 6, 7, 8, 9, 10, 11, 12, 13, 14, 15, 16, 17] sw_wYM_wHM_1 rfl 5 kX0 rfl rfl rfl rfl rfl hl.1 (Nat.le_of_ble_eq_true rfl) dX1_weakestNode_55 ⟨Nat.zero_le _, Nat.zero_le _⟩ (fun H locs hP hD hS => ?_)
    refine lv_iload_n hx hb dX1_weakestNode_58 rfl (lv_at hl 1 rfl) ?_
    refine lv_aload_n hx hb dX1_weakestNode_59 rfl (lv_at hl 0 rfl) ?_
    refine lv_aload_n hx hb dX1_weakestNode_60 rfl (lv_at hl 0 rfl) ?_
    refine va_get (D := (dC, dI)) (ci := kX1) (v := .ref po) (C := RX1) (T := TX1) (N := 4) hx hb hts hi_X1 hown hK hP 0 rfl rfl 3 (by decide) hf_28 (fun _ h9 => h9) rfl dX1_weakestNode_61 ?_
    refine kt_calli (w' := wYM my co C la lag lat ((findF n E DG C LG).1) ((findF n E DG C LG).2) po pog pot ((rollF n E DG (upd ((findF n E DG C LG).1) i ((((findF n E DG C LG).1) i) + 1))).1) ((rollF n E DG (upd ((findF n E DG C LG).1) i ((((findF n E DG C LG).1) i) + 1))).2) cI cII mo eo dg to er n E DG) (rest := [.int (sumN C 7 - 1)]) (As := [.ref po]) ⟨hx, hb, hml, hown, hts⟩ (c_X1_leastNeeded l dC dI cI cII cJ cJJ my co la po po pog pot ((rollF n E DG (upd ((findF n E DG C LG).1) i ((((findF n E DG C LG).1) i) + 1))).1) ((rollF n E DG (upd ((findF n E DG C LG).1) i ((((findF n E DG C LG).1) i) + 1))).2) mo eo dg to er n E DG _ (hn)) (cwV 1 hts gX1_weakestNode_X1_leastNeeded rfl rfl rfl (by decide +kernel) ⟨Nat.le_of_ble_eq_true rfl, Nat.le_of_ble_eq_true rfl⟩) hK hP hD hS hA [0, 5, 6, 7, 8, 9, 10, 11, 12, 13, 14, 15, 16, 17] sw_wYM_wYh_1 rfl 0 kX1 rfl rfl rfl rfl rfl hl.1 (Nat.le_of_ble_eq_true rfl) dX1_weakestNode_64 ⟨Nat.zero_le _, Nat.zero_le _⟩ (fun H locs hP hD hS => ?_)
    refine lv_icmp_ge (tgt := 72) hx hb dX1_weakestNode_67 (by decide) (fun c67 => ?_) (fun c67 => ?_)
    · skip
      refine lv_iinc (v := nI (i + 1)) (lv' := [(2, .int (nI (i + 1))), (0, .ref my), (1, .int (sumN C 7 - 1))]) hx hb dX1_weakestNode_72 hl (k := 2) rfl (kt_inc _) (by decide) rfl (fun ls hl => ?_)
      refine lv_goto (tgt := 13) hx hb dX1_weakestNode_75 (by decide) ?_
      exact ih_i H locs ls hlt_i ((fstO_succ hq).trans (if_neg (fun z => absurd (of_decide_eq_true z) (Int32.not_lt.mpr c67)))) hP hD hS (lv_sub hl [1, 2, 0] rfl)
    · skip
      refine lv_iload_n hx hb dX1_weakestNode_70 rfl (lv_at hl 2 rfl) ?_
      have e0 : fstO (poorB n E DG C (findF n E DG C LG).1) n = some i := fstO_some hlt_i hq (decide_eq_true (Int32.not_le.mp c67))
      have e : poorX n E DG C LG OG OT = rollF n E DG (upd (findF n E DG C LG).1 i ((findF n E DG C LG).1 i + 1)) := by unfold poorX; rw [e0]
      exact kt_iret (W' := wYM my co C la lag lat ((findF n E DG C LG).1) ((findF n E DG C LG).2) po pog pot ((poorX n E DG C LG OG OT).1) ((poorX n E DG C LG OG OT).2) cI cII mo eo dg to er n E DG) hx hb hr hS (by rw [e]; exact hP) hK (by rw [e]; exact hD) (by unfold weakF; rw [e0]) hlocks dX1_weakestNode_71
