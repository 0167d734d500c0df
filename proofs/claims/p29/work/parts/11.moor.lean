set_option maxHeartbeats 4000000 in
set_option maxRecDepth 100000 in
theorem c_J6_bitCount_0f7a4 (l : Launch) (dC : Nat → ClassId) (dI : Nat → Nat → Nat) (cI cII cJ cJJ : ClassId) (x : Int32) (sz : Nat)  : Met l yJ6_bitCount_0f7a4 wsJ6_bitCount_0f7a4 ({ frames := 0, cells := 0, slots := 0, locals := 0 }) (va_Pc [.int x] (PRE (dC, dI) (tyL cI cII cJ cJJ) (wE ) sz)) (va_Qi (fun (r' : Int32) (_ : Unit) => r' = bitC x) (fun _ tS => ATW (dC, dI) (tyL cI cII cJ cJJ) (va_A (wE ) sz) (wE ) tS) (va_A (wE ) sz)) 0 0 (va_A (wE ) sz) := by
  refine Met.ofW (cc := cJ6_bitCount_0f7a4) (maxL := 1) (ret := (some .int)) (by decide) rfl ?_
  intro p e s m args below meth c s₁ B hml hv
  obtain ⟨rfl, hsz, hP, hK, hD0⟩ := hv
  have hx := B.exec
  have hb := B.bytes
  have hr := B.returns
  have hlocks := B.notSynchronized
  have hts := atoms_spec (ws := wsJ6_bitCount_0f7a4) B.pre
  have hown : s.vm.findClass RJ6 = some m.cls := findClass_of_methodNamed B.named
  subst hsz
  have hD := hD0.self (sz := s.heap.size)
  generalize hAe : va_A (wE ) s.heap.size = A at hD ⊢
  have hA : ∀ q : Nat, s.heap.size ≤ q → A q := fun q h => by rw [← hAe]; exact Or.inr h
  have hS : va_S A s.heap s.heap [] := va_S.rf
  have hl := lv_entry ([.int x]) (n := 1) (Nat.le_of_ble_eq_true rfl)
  rw [lg_entry_eq]
  generalize (lg_sl ([.int x]) ++ List.replicate (1 - (lg_sl ([.int x])).length) Slot.unset).toArray = ls at hl ⊢
  have hl : lv_has ls 1 [(0, .int x)] := hl
  have hc_265 := hts (.constant RJ6 265 (1431655765)) (by decide +kernel)
  have hc_266 := hts (.constant RJ6 266 (858993459)) (by decide +kernel)
  have hc_267 := hts (.constant RJ6 267 (252645135)) (by decide +kernel)
  refine lv_iload_n hx hb dJ6_bitCount_0f7a4_0 rfl (lv_at hl 0 rfl) ?_
  refine lv_iload_n hx hb dJ6_bitCount_0f7a4_1 rfl (lv_at hl 0 rfl) ?_
  refine lv_iconst (v := 1) hx hb dJ6_bitCount_0f7a4_2 (by decide) ?_
  refine lv_iushr (v := (Int32.toUInt32 (x) >>> (Int32.toUInt32 (1) &&& Int32.toUInt32 31)).toInt32) hx hb dJ6_bitCount_0f7a4_3 rfl ?_
  refine lv_ldcw hx hb hown hc_265 dJ6_bitCount_0f7a4_4 ?_
  refine lv_iand hx hb dJ6_bitCount_0f7a4_7 ?_
  refine lv_isub hx hb dJ6_bitCount_0f7a4_8 ?_
  refine lv_topi (fun x1 e_x1 => ?_)
  refine lv_istore_n (lv' := [(0, .int x1)]) hx hb dJ6_bitCount_0f7a4_9 rfl hl (by decide) rfl (fun ls hl => ?_)
  refine lv_iload_n hx hb dJ6_bitCount_0f7a4_10 rfl (lv_at hl 0 rfl) ?_
  refine lv_ldcw hx hb hown hc_266 dJ6_bitCount_0f7a4_11 ?_
  refine lv_iand hx hb dJ6_bitCount_0f7a4_14 ?_
  refine lv_iload_n hx hb dJ6_bitCount_0f7a4_15 rfl (lv_at hl 0 rfl) ?_
  refine lv_iconst (v := 2) hx hb dJ6_bitCount_0f7a4_16 (by decide) ?_
  refine lv_iushr (v := (Int32.toUInt32 (x1) >>> (Int32.toUInt32 (2) &&& Int32.toUInt32 31)).toInt32) hx hb dJ6_bitCount_0f7a4_17 rfl ?_
  refine lv_ldcw hx hb hown hc_266 dJ6_bitCount_0f7a4_18 ?_
  refine lv_iand hx hb dJ6_bitCount_0f7a4_21 ?_
  refine lv_iadd hx hb dJ6_bitCount_0f7a4_22 ?_
  refine lv_topi (fun x2 e_x2 => ?_)
  refine lv_istore_n (lv' := [(0, .int x2)]) hx hb dJ6_bitCount_0f7a4_23 rfl hl (by decide) rfl (fun ls hl => ?_)
  refine lv_iload_n hx hb dJ6_bitCount_0f7a4_24 rfl (lv_at hl 0 rfl) ?_
  refine lv_iload_n hx hb dJ6_bitCount_0f7a4_25 rfl (lv_at hl 0 rfl) ?_
  refine lv_iconst (v := 4) hx hb dJ6_bitCount_0f7a4_26 (by decide) ?_
  refine lv_iushr (v := (Int32.toUInt32 (x2) >>> (Int32.toUInt32 (4) &&& Int32.toUInt32 31)).toInt32) hx hb dJ6_bitCount_0f7a4_27 rfl ?_
  refine lv_iadd hx hb dJ6_bitCount_0f7a4_28 ?_
  refine lv_ldcw hx hb hown hc_267 dJ6_bitCount_0f7a4_29 ?_
  refine lv_iand hx hb dJ6_bitCount_0f7a4_32 ?_
  refine lv_topi (fun x3 e_x3 => ?_)
  refine lv_istore_n (lv' := [(0, .int x3)]) hx hb dJ6_bitCount_0f7a4_33 rfl hl (by decide) rfl (fun ls hl => ?_)
  refine lv_iload_n hx hb dJ6_bitCount_0f7a4_34 rfl (lv_at hl 0 rfl) ?_
  refine lv_iload_n hx hb dJ6_bitCount_0f7a4_35 rfl (lv_at hl 0 rfl) ?_
  refine lv_bipush (v := 8) hx hb dJ6_bitCount_0f7a4_36 (by decide) ?_
  refine lv_iushr (v := (Int32.toUInt32 (x3) >>> (Int32.toUInt32 (8) &&& Int32.toUInt32 31)).toInt32) hx hb dJ6_bitCount_0f7a4_38 rfl ?_
  refine lv_iadd hx hb dJ6_bitCount_0f7a4_39 ?_
  refine lv_topi (fun x4 e_x4 => ?_)
  refine lv_istore_n (lv' := [(0, .int x4)]) hx hb dJ6_bitCount_0f7a4_40 rfl hl (by decide) rfl (fun ls hl => ?_)
  refine lv_iload_n hx hb dJ6_bitCount_0f7a4_41 rfl (lv_at hl 0 rfl) ?_
  refine lv_iload_n hx hb dJ6_bitCount_0f7a4_42 rfl (lv_at hl 0 rfl) ?_
  refine lv_bipush (v := 16) hx hb dJ6_bitCount_0f7a4_43 (by decide) ?_
  refine lv_iushr (v := (Int32.toUInt32 (x4) >>> (Int32.toUInt32 (16) &&& Int32.toUInt32 31)).toInt32) hx hb dJ6_bitCount_0f7a4_45 rfl ?_
  refine lv_iadd hx hb dJ6_bitCount_0f7a4_46 ?_
  refine lv_topi (fun x5 e_x5 => ?_)
  refine lv_istore_n (lv' := [(0, .int x5)]) hx hb dJ6_bitCount_0f7a4_47 rfl hl (by decide) rfl (fun ls hl => ?_)
  refine lv_iload_n hx hb dJ6_bitCount_0f7a4_48 rfl (lv_at hl 0 rfl) ?_
  refine lv_bipush (v := 63) hx hb dJ6_bitCount_0f7a4_49 (by decide) ?_
  refine lv_iand hx hb dJ6_bitCount_0f7a4_51 ?_
  subst e_x5 e_x4 e_x3 e_x2 e_x1
  exact kt_iret (W' := wE ) hx hb hr hS hP hK hD (by unfold bitC bc5 bc4 bc3 bc2 bc1 ushr; rfl) hlocks dJ6_bitCount_0f7a4_52

set_option maxHeartbeats 4000000 in
set_option maxRecDepth 100000 in
theorem c_X2_isSpot (l : Launch) (dC : Nat → ClassId) (dI : Nat → Nat → Nat) (cI cII cJ cJJ : ClassId) (mo : Nat) (eo : Nat) (dg : Nat) (to : Nat) (er : Nat → Nat) (n : Nat) (E : Nat → Nat → Int32) (DG : Nat → Int32) (pp : Int32) (sz : Nat) (hn : n ≤ 6) : Met l yX2_isSpot wsX2_isSpot ({ frames := 0, cells := 0, slots := 0, locals := 0 }) (va_Pc [.ref mo, .int pp] (PRE (dC, dI) (tyL cI cII cJ cJJ) (wM cI cII mo eo dg to er n E DG) sz)) (va_Qi (fun (r' : Int32) (_ : Unit) => r' = b2i (isSpotB n pp)) (fun _ tS => ATW (dC, dI) (tyL cI cII cJ cJJ) (va_A (wM cI cII mo eo dg to er n E DG) sz) (wM cI cII mo eo dg to er n E DG) tS) (va_A (wM cI cII mo eo dg to er n E DG) sz)) 0 0 (va_A (wM cI cII mo eo dg to er n E DG) sz) := by
  refine Met.ofW (cc := cX2_isSpot) (maxL := 2) (ret := (some .boolean)) (by decide) rfl ?_
  intro p e s m args below meth c s₁ B hml hv
  obtain ⟨rfl, hsz, hP, hK, hD0⟩ := hv
  have hx := B.exec
  have hb := B.bytes
  have hr := B.returns
  have hlocks := B.notSynchronized
  have hts := atoms_spec (ws := wsX2_isSpot) B.pre
  have hown : s.vm.findClass RX2 = some m.cls := findClass_of_methodNamed B.named
  subst hsz
  have hD := hD0.self (sz := s.heap.size)
  generalize hAe : va_A (wM cI cII mo eo dg to er n E DG) s.heap.size = A at hD ⊢
  have hA : ∀ q : Nat, s.heap.size ≤ q → A q := fun q h => by rw [← hAe]; exact Or.inr h
  have hS : va_S A s.heap s.heap [] := va_S.rf
  have hl := lv_entry ([.ref mo, .int pp]) (n := 2) (Nat.le_of_ble_eq_true rfl)
  rw [lg_entry_eq]
  generalize (lg_sl ([.ref mo, .int pp]) ++ List.replicate (2 - (lg_sl ([.ref mo, .int pp])).length) Slot.unset).toArray = ls at hl ⊢
  have hl : lv_has ls 2 [(0, .ref mo), (1, .int pp)] := hl
  have hi_X2 : ∀ w ∈ u_ws RX2 TX2 4, w ∈ wsX2_isSpot := by decide +kernel
  have hf_25 := hts (.fieldLink RX2 25 "Topplemoor$Moor" "spots" "I") (by decide +kernel)
  refine lv_iload_n hx hb dX2_isSpot_0 rfl (lv_at hl 1 rfl) ?_
  refine lv_if_lt (tgt := 16) hx hb dX2_isSpot_1 (by decide) (fun c1 => ?_) (fun c1 => ?_)
  · skip
    refine lv_iconst (v := 0) hx hb dX2_isSpot_16 (by decide) ?_
    exact kt_zret (W' := wM cI cII mo eo dg to er n E DG) hx hb hr (rfl) hS hP hK hD (by first | (simp [b2i, isSpotB, c1]; done) | (simp [b2i, isSpotB, c1, c9]; done)) hlocks dX2_isSpot_17
  · skip
    refine lv_iload_n hx hb dX2_isSpot_4 rfl (lv_at hl 1 rfl) ?_
    refine lv_aload_n hx hb dX2_isSpot_5 rfl (lv_at hl 0 rfl) ?_
    refine va_get (D := (dC, dI)) (ci := kX2) (v := .int (nI n)) (C := RX2) (T := TX2) (N := 4) hx hb hts hi_X2 hown hK hP 0 rfl rfl 0 (by decide) hf_25 (fun _ h9 => h9) rfl dX2_isSpot_6 ?_
    refine lv_icmp_ge (tgt := 16) hx hb dX2_isSpot_9 (by decide) (fun c9 => ?_) (fun c9 => ?_)
    · skip
      refine lv_iconst (v := 0) hx hb dX2_isSpot_16 (by decide) ?_
      exact kt_zret (W' := wM cI cII mo eo dg to er n E DG) hx hb hr (rfl) hS hP hK hD (by first | (simp [b2i, isSpotB, c1]; done) | (simp [b2i, isSpotB, c1, c9]; done)) hlocks dX2_isSpot_17
    · skip
      refine lv_iconst (v := 1) hx hb dX2_isSpot_12 (by decide) ?_
      refine lv_goto (tgt := 17) hx hb dX2_isSpot_13 (by decide) ?_
      exact kt_zret (W' := wM cI cII mo eo dg to er n E DG) hx hb hr (rfl) hS hP hK hD (by first | (simp [b2i, isSpotB, c1]; done) | (simp [b2i, isSpotB, c1, c9]; done)) hlocks dX2_isSpot_17

theorem sw_wM_wM_0 {cI : ClassId} {cII : ClassId} {mo : Nat} {eo : Nat} {dg : Nat} {to : Nat} {er : Nat → Nat} {n : Nat} {E : Nat → Nat → Int32} {DG : Nat → Int32} {n' : Nat} {E' : Nat → Nat → Int32} {DG' : Nat → Int32} : kt_sw (wM cI cII mo eo dg to er n E DG) (wM cI cII mo eo dg to er n' E' DG') (List.range' 0 10) (wM cI cII mo eo dg to er n E DG) (wM cI cII mo eo dg to er n' E' DG') := kt_sw_all rfl (by decide +kernel) rfl
set_option maxHeartbeats 4000000 in
set_option maxRecDepth 100000 in
theorem c_X2_isNode (l : Launch) (dC : Nat → ClassId) (dI : Nat → Nat → Nat) (cI cII cJ cJJ : ClassId) (mo : Nat) (eo : Nat) (dg : Nat) (to : Nat) (er : Nat → Nat) (n : Nat) (E : Nat → Nat → Int32) (DG : Nat → Int32) (pp : Int32) (sz : Nat) (hn : n ≤ 6) : Met l yX2_isNode wsX2_isNode ({ frames := 1, cells := 0, slots := 0, locals := 21 }) (va_Pc [.ref mo, .int pp] (PRE (dC, dI) (tyL cI cII cJ cJJ) (wM cI cII mo eo dg to er n E DG) sz)) (va_Qi (fun (r' : Int32) (_ : Unit) => r' = b2i (isNodeB n pp)) (fun _ tS => ATW (dC, dI) (tyL cI cII cJ cJJ) (va_A (wM cI cII mo eo dg to er n E DG) sz) (wM cI cII mo eo dg to er n E DG) tS) (va_A (wM cI cII mo eo dg to er n E DG) sz)) 0 0 (va_A (wM cI cII mo eo dg to er n E DG) sz) := by
  refine Met.ofW (cc := cX2_isNode) (maxL := 2) (ret := (some .boolean)) (by decide) rfl ?_
  intro p e s m args below meth c s₁ B hml hv
  obtain ⟨rfl, hsz, hP, hK, hD0⟩ := hv
  have hx := B.exec
  have hb := B.bytes
  have hr := B.returns
  have hlocks := B.notSynchronized
  have hts := atoms_spec (ws := wsX2_isNode) B.pre
  have hown : s.vm.findClass RX2 = some m.cls := findClass_of_methodNamed B.named
  subst hsz
  have hD := hD0.self (sz := s.heap.size)
  generalize hAe : va_A (wM cI cII mo eo dg to er n E DG) s.heap.size = A at hD ⊢
  have hA : ∀ q : Nat, s.heap.size ≤ q → A q := fun q h => by rw [← hAe]; exact Or.inr h
  have hS : va_S A s.heap s.heap [] := va_S.rf
  have hl := lv_entry ([.ref mo, .int pp]) (n := 2) (Nat.le_of_ble_eq_true rfl)
  rw [lg_entry_eq]
  generalize (lg_sl ([.ref mo, .int pp]) ++ List.replicate (2 - (lg_sl ([.ref mo, .int pp])).length) Slot.unset).toArray = ls at hl ⊢
  have hl : lv_has ls 2 [(0, .ref mo), (1, .int pp)] := hl
  refine lv_iload_n hx hb dX2_isNode_0 rfl (lv_at hl 1 rfl) ?_
  refine lv_bipush (v := 6) hx hb dX2_isNode_1 (by decide) ?_
  refine lv_icmp_eq (tgt := 14) hx hb dX2_isNode_3 (by decide) (fun c3 => ?_) (fun c3 => ?_)
  · skip
    refine lv_iconst (v := 1) hx hb dX2_isNode_14 (by decide) ?_
    refine lv_goto (tgt := 19) hx hb dX2_isNode_15 (by decide) ?_
    exact kt_zret (W' := wM cI cII mo eo dg to er n E DG) hx hb hr (rfl) hS hP hK hD (by first | (simp [b2i, isNodeB, c3]; done) | (have z := b2i_eq0.mp c11; simp [b2i, isNodeB, c3, z]; done) | (have z := b2i_ne0.mp c11; simp [b2i, isNodeB, c3, z]; done)) hlocks dX2_isNode_19
  · skip
    refine lv_aload_n hx hb dX2_isNode_6 rfl (lv_at hl 0 rfl) ?_
    refine lv_iload_n hx hb dX2_isNode_7 rfl (lv_at hl 1 rfl) ?_
    refine kt_calli (w' := wM cI cII mo eo dg to er n E DG) (rest := []) (As := [.int pp]) ⟨hx, hb, hml, hown, hts⟩ (c_X2_isSpot l dC dI cI cII cJ cJJ mo eo dg to er n E DG pp _ (hn)) (cwV 1 hts gX2_isNode_X2_isSpot rfl rfl rfl (by decide +kernel) ⟨Nat.le_of_ble_eq_true rfl, Nat.le_of_ble_eq_true rfl⟩) hK hP hD hS hA (List.range' 0 10) sw_wM_wM_0 rfl 0 kX2 rfl rfl rfl rfl rfl hl.1 (Nat.le_of_ble_eq_true rfl) dX2_isNode_8 ⟨Nat.zero_le _, Nat.zero_le _⟩ (fun H locs hP hD hS => ?_)
    refine lv_if_eq (tgt := 18) hx hb dX2_isNode_11 (by decide) (fun c11 => ?_) (fun c11 => ?_)
    · skip
      refine lv_iconst (v := 0) hx hb dX2_isNode_18 (by decide) ?_
      exact kt_zret (W' := wM cI cII mo eo dg to er n E DG) hx hb hr (rfl) hS hP hK hD (by first | (simp [b2i, isNodeB, c3]; done) | (have z := b2i_eq0.mp c11; simp [b2i, isNodeB, c3, z]; done) | (have z := b2i_ne0.mp c11; simp [b2i, isNodeB, c3, z]; done)) hlocks dX2_isNode_19
    · skip
      refine lv_iconst (v := 1) hx hb dX2_isNode_14 (by decide) ?_
      refine lv_goto (tgt := 19) hx hb dX2_isNode_15 (by decide) ?_
      exact kt_zret (W' := wM cI cII mo eo dg to er n E DG) hx hb hr (rfl) hS hP hK hD (by first | (simp [b2i, isNodeB, c3]; done) | (have z := b2i_eq0.mp c11; simp [b2i, isNodeB, c3, z]; done) | (have z := b2i_ne0.mp c11; simp [b2i, isNodeB, c3, z]; done)) hlocks dX2_isNode_19

set_option maxHeartbeats 4000000 in
set_option maxRecDepth 100000 in
theorem c_X2_lay (l : Launch) (dC : Nat → ClassId) (dI : Nat → Nat → Nat) (cI cII cJ cJJ : ClassId) (mo : Nat) (eo : Nat) (dg : Nat) (to : Nat) (er : Nat → Nat) (n : Nat) (E : Nat → Nat → Int32) (DG : Nat → Int32) (a : Nat) (b : Nat) (q : Int32) (sz : Nat) (ha : a < 7) (hb7 : b < 7) : Met l yX2_lay wsX2_lay ({ frames := 0, cells := 0, slots := 0, locals := 0 }) (va_Pc [.ref mo, .int (nI a), .int (nI b), .int q] (PRE (dC, dI) (tyL cI cII cJ cJJ) (wM cI cII mo eo dg to er n E DG) sz)) (va_Qv (fun (_ : Unit) => True) (fun _ tS => ATW (dC, dI) (tyL cI cII cJ cJJ) (va_A (wM cI cII mo eo dg to er n E DG) sz) (wM cI cII mo eo dg to er n (layE E a b q) (layD E DG a b q)) tS) (va_A (wM cI cII mo eo dg to er n E DG) sz)) 0 0 (va_A (wM cI cII mo eo dg to er n E DG) sz) := by
  refine Met.ofW (cc := cX2_lay) (maxL := 5) (ret := none) (by decide) rfl ?_
  intro p e s m args below meth c s₁ B hml hv
  obtain ⟨rfl, hsz, hP, hK, hD0⟩ := hv
  have hx := B.exec
  have hb := B.bytes
  have hr := B.returns
  have hlocks := B.notSynchronized
  have hts := atoms_spec (ws := wsX2_lay) B.pre
  have hown : s.vm.findClass RX2 = some m.cls := findClass_of_methodNamed B.named
  subst hsz
  have hD := hD0.self (sz := s.heap.size)
  generalize hAe : va_A (wM cI cII mo eo dg to er n E DG) s.heap.size = A at hD ⊢
  have hA : ∀ q : Nat, s.heap.size ≤ q → A q := fun q h => by rw [← hAe]; exact Or.inr h
  have hS : va_S A s.heap s.heap [] := va_S.rf
  have hl := lv_entry ([.ref mo, .int (nI a), .int (nI b), .int q]) (n := 5) (Nat.le_of_ble_eq_true rfl)
  rw [lg_entry_eq]
  generalize (lg_sl ([.ref mo, .int (nI a), .int (nI b), .int q]) ++ List.replicate (5 - (lg_sl ([.ref mo, .int (nI a), .int (nI b), .int q])).length) Slot.unset).toArray = ls at hl ⊢
  have hl : lv_has ls 5 [(0, .ref mo), (1, .int (nI a)), (2, .int (nI b)), (3, .int q)] := hl
  have hi_X2 : ∀ w ∈ u_ws RX2 TX2 4, w ∈ wsX2_lay := by decide +kernel
  have hf_11 := hts (.fieldLink RX2 11 "Topplemoor$Moor" "edges" "[[I") (by decide +kernel)
  have hf_16 := hts (.fieldLink RX2 16 "Topplemoor$Moor" "degrees" "[I") (by decide +kernel)
  refine lv_iload_n hx hb dX2_lay_0 rfl (lv_at hl 3 rfl) ?_
  refine lv_aload_n hx hb dX2_lay_1 rfl (lv_at hl 0 rfl) ?_
  refine va_get (D := (dC, dI)) (ci := kX2) (v := .ref eo) (C := RX2) (T := TX2) (N := 4) hx hb hts hi_X2 hown hK hP 0 rfl rfl 1 (by decide) hf_11 (fun _ h9 => h9) rfl dX2_lay_2 ?_
  refine lv_iload_n hx hb dX2_lay_5 rfl (lv_at hl 1 rfl) ?_
  refine kt_aald hx hb hK hP 1 1 rfl rfl (by omega) (by decide) dX2_lay_6 ?_
  refine lv_iload_n hx hb dX2_lay_7 rfl (lv_at hl 2 rfl) ?_
  refine kt_iald hx hb hK hP (2 + a) 0 (row_wM_er (by omega)) rfl (by omega) (by decide) dX2_lay_8 ?_
  refine lv_isub hx hb dX2_lay_9 ?_
  refine lv_istore (lv' := [(4, .int (q - (E a b))), (0, .ref mo), (1, .int (nI a)), (2, .int (nI b)), (3, .int q)]) hx hb dX2_lay_10 hl (by decide) rfl (fun ls hl => ?_)
  refine lv_aload_n hx hb dX2_lay_12 rfl (lv_at hl 1 rfl) ?_
  refine va_get (D := (dC, dI)) (ci := kX2) (v := .ref eo) (C := RX2) (T := TX2) (N := 4) hx hb hts hi_X2 hown hK hP 0 rfl rfl 1 (by decide) hf_11 (fun _ h9 => h9) rfl dX2_lay_13 ?_
  refine lv_iload_n hx hb dX2_lay_16 rfl (lv_at hl 2 rfl) ?_
  refine kt_aald hx hb hK hP 1 1 rfl rfl (by omega) (by decide) dX2_lay_17 ?_
  refine lv_iload_n hx hb dX2_lay_18 rfl (lv_at hl 3 rfl) ?_
  refine lv_iload_n hx hb dX2_lay_19 rfl (lv_at hl 4 rfl) ?_
  refine kt_iast hx hb hK hP hD hS (2 + a) 0 (row_wM_er (by omega)) rfl (by omega) (by decide) dX2_lay_20 (fun H locs hP hD hS => ?_)
  rw [set_wM_er (by omega)] at hP hD
  have hP : va_P (dC, dI) vwCl (wM cI cII mo eo dg to er n (updR E a (upd (E a) b q)) DG) H := hP
  have hD : va_D A (wM cI cII mo eo dg to er n (updR E a (upd (E a) b q)) DG) := hD
  refine lv_aload_n hx hb dX2_lay_21 rfl (lv_at hl 1 rfl) ?_
  refine va_get (D := (dC, dI)) (ci := kX2) (v := .ref eo) (C := RX2) (T := TX2) (N := 4) hx hb hts hi_X2 hown hK hP 0 rfl rfl 1 (by decide) hf_11 (fun _ h9 => h9) rfl dX2_lay_22 ?_
  refine lv_iload_n hx hb dX2_lay_25 rfl (lv_at hl 3 rfl) ?_
  refine kt_aald hx hb hK hP 1 1 rfl rfl (by omega) (by decide) dX2_lay_26 ?_
  refine lv_iload_n hx hb dX2_lay_27 rfl (lv_at hl 2 rfl) ?_
  refine lv_iload_n hx hb dX2_lay_28 rfl (lv_at hl 4 rfl) ?_
  refine kt_iast hx hb hK hP hD hS (2 + b) 0 (row_wM_er (by omega)) rfl (by omega) (by decide) dX2_lay_29 (fun H locs hP hD hS => ?_)
  rw [set_wM_er (by omega)] at hP hD
  have hP : va_P (dC, dI) vwCl (wM cI cII mo eo dg to er n (updR (updR E a (upd (E a) b q)) b (upd ((updR E a (upd (E a) b q)) b) a q)) DG) H := hP
  have hD : va_D A (wM cI cII mo eo dg to er n (updR (updR E a (upd (E a) b q)) b (upd ((updR E a (upd (E a) b q)) b) a q)) DG) := hD
  refine lv_aload_n hx hb dX2_lay_30 rfl (lv_at hl 1 rfl) ?_
  refine va_get (D := (dC, dI)) (ci := kX2) (v := .ref dg) (C := RX2) (T := TX2) (N := 4) hx hb hts hi_X2 hown hK hP 0 rfl rfl 2 (by decide) hf_16 (fun _ h9 => h9) rfl dX2_lay_31 ?_
  refine lv_iload_n hx hb dX2_lay_34 rfl (lv_at hl 2 rfl) ?_
  refine lv_dup2_11 hx hb dX2_lay_35 rfl rfl ?_
  refine kt_iald hx hb hK hP 9 0 rfl rfl (by omega) (by decide) dX2_lay_36 ?_
  refine lv_iload hx hb dX2_lay_37 (lv_at hl 0 rfl) ?_
  refine lv_iadd hx hb dX2_lay_39 ?_
  refine kt_iast hx hb hK hP hD hS 9 0 rfl rfl (by omega) (by decide) dX2_lay_40 (fun H locs hP hD hS => ?_)
  have hP : va_P (dC, dI) vwCl (wM cI cII mo eo dg to er n (updR (updR E a (upd (E a) b q)) b (upd ((updR E a (upd (E a) b q)) b) a q)) (upd DG a ((DG a) + (q - (E a b))))) H := hP
  have hD : va_D A (wM cI cII mo eo dg to er n (updR (updR E a (upd (E a) b q)) b (upd ((updR E a (upd (E a) b q)) b) a q)) (upd DG a ((DG a) + (q - (E a b))))) := hD
  refine lv_aload_n hx hb dX2_lay_41 rfl (lv_at hl 1 rfl) ?_
  refine va_get (D := (dC, dI)) (ci := kX2) (v := .ref dg) (C := RX2) (T := TX2) (N := 4) hx hb hts hi_X2 hown hK hP 0 rfl rfl 2 (by decide) hf_16 (fun _ h9 => h9) rfl dX2_lay_42 ?_
  refine lv_iload_n hx hb dX2_lay_45 rfl (lv_at hl 3 rfl) ?_
  refine lv_dup2_11 hx hb dX2_lay_46 rfl rfl ?_
  refine kt_iald hx hb hK hP 9 0 rfl rfl (by omega) (by decide) dX2_lay_47 ?_
  refine lv_iload hx hb dX2_lay_48 (lv_at hl 0 rfl) ?_
  refine lv_iadd hx hb dX2_lay_50 ?_
  refine kt_iast hx hb hK hP hD hS 9 0 rfl rfl (by omega) (by decide) dX2_lay_51 (fun H locs hP hD hS => ?_)
  have hP : va_P (dC, dI) vwCl (wM cI cII mo eo dg to er n (updR (updR E a (upd (E a) b q)) b (upd ((updR E a (upd (E a) b q)) b) a q)) (upd (upd DG a ((DG a) + (q - (E a b)))) b (((upd DG a ((DG a) + (q - (E a b)))) b) + (q - (E a b))))) H := hP
  have hD : va_D A (wM cI cII mo eo dg to er n (updR (updR E a (upd (E a) b q)) b (upd ((updR E a (upd (E a) b q)) b) a q)) (upd (upd DG a ((DG a) + (q - (E a b)))) b (((upd DG a ((DG a) + (q - (E a b)))) b) + (q - (E a b))))) := hD
  exact kt_vret (W' := wM cI cII mo eo dg to er n (layE E a b q) (layD E DG a b q)) hx hb hr hS hP hK hD hlocks dX2_lay_52

set_option maxHeartbeats 4000000 in
set_option maxRecDepth 100000 in
theorem c_X2_allEdges (l : Launch) (dC : Nat → ClassId) (dI : Nat → Nat → Nat) (cI cII cJ cJJ : ClassId) (mo : Nat) (eo : Nat) (dg : Nat) (to : Nat) (er : Nat → Nat) (n : Nat) (E : Nat → Nat → Int32) (DG : Nat → Int32) (sz : Nat)  : Met l yX2_allEdges wsX2_allEdges ({ frames := 0, cells := 0, slots := 0, locals := 0 }) (va_Pc [.ref mo] (PRE (dC, dI) (tyL cI cII cJ cJJ) (wM cI cII mo eo dg to er n E DG) sz)) (va_Qi (fun (r' : Int32) (_ : Unit) => r' = sumN DG 7 / 2) (fun _ tS => ATW (dC, dI) (tyL cI cII cJ cJJ) (va_A (wM cI cII mo eo dg to er n E DG) sz) (wM cI cII mo eo dg to er n E DG) tS) (va_A (wM cI cII mo eo dg to er n E DG) sz)) 0 0 (va_A (wM cI cII mo eo dg to er n E DG) sz) := by
  refine Met.ofW (cc := cX2_allEdges) (maxL := 3) (ret := (some .int)) (by decide) rfl ?_
  intro p e s m args below meth c s₁ B hml hv
  obtain ⟨rfl, hsz, hP, hK, hD0⟩ := hv
  have hx := B.exec
  have hb := B.bytes
  have hr := B.returns
  have hlocks := B.notSynchronized
  have hts := atoms_spec (ws := wsX2_allEdges) B.pre
  have hown : s.vm.findClass RX2 = some m.cls := findClass_of_methodNamed B.named
  subst hsz
  have hD := hD0.self (sz := s.heap.size)
  generalize hAe : va_A (wM cI cII mo eo dg to er n E DG) s.heap.size = A at hD ⊢
  have hA : ∀ q : Nat, s.heap.size ≤ q → A q := fun q h => by rw [← hAe]; exact Or.inr h
  have hS : va_S A s.heap s.heap [] := va_S.rf
  have hl := lv_entry ([.ref mo]) (n := 3) (Nat.le_of_ble_eq_true rfl)
  rw [lg_entry_eq]
  generalize (lg_sl ([.ref mo]) ++ List.replicate (3 - (lg_sl ([.ref mo])).length) Slot.unset).toArray = ls at hl ⊢
  have hl : lv_has ls 3 [(0, .ref mo)] := hl
  have hi_X2 : ∀ w ∈ u_ws RX2 TX2 4, w ∈ wsX2_allEdges := by decide +kernel
  have hf_16 := hts (.fieldLink RX2 16 "Topplemoor$Moor" "degrees" "[I") (by decide +kernel)
  refine lv_iconst (v := nI 0) hx hb dX2_allEdges_0 (by decide) ?_
  refine lv_istore_n (lv' := [(1, .int (nI 0)), (0, .ref mo)]) hx hb dX2_allEdges_1 rfl hl (by decide) rfl (fun ls hl => ?_)
  refine lv_iconst (v := nI 0) hx hb dX2_allEdges_2 (by decide) ?_
  refine lv_istore_n (lv' := [(2, .int (nI 0)), (1, .int (nI 0)), (0, .ref mo)]) hx hb dX2_allEdges_3 rfl hl (by decide) rfl (fun ls hl => ?_)
  refine kt_for (n := 7) (WD := fun (i : Nat) => wM cI cII mo eo dg to er n E DG) (LV := fun (i : Nat) => [(0, .ref mo), (1, .int (sumN DG i)), (2, .int (nI i))]) (nL := 3) (hd := 4) ?_ hP hD hS (lv_sub hl [2, 1, 0] rfl)
  intro i hle_i ih_i H locs ls hP hD hS hl
  have hP : va_P (dC, dI) vwCl (wM cI cII mo eo dg to er n E DG) H := hP
  have hD : va_D A (wM cI cII mo eo dg to er n E DG) := hD
  have hl : lv_has ls 3 [(0, .ref mo), (1, .int (sumN DG i)), (2, .int (nI i))] := hl
  refine lv_iload_n hx hb dX2_allEdges_4 rfl (lv_at hl 2 rfl) ?_
  refine lv_bipush (v := nI 7) hx hb dX2_allEdges_5 (by decide) ?_
  refine kt_ige (tgt := 25) hx hb (by omega) (by omega) dX2_allEdges_7 (by decide) (fun hge_i => ?_) (fun hlt_i => ?_)
  · have e_i : 7 = i := by omega
    subst e_i
    refine lv_iload_n hx hb dX2_allEdges_25 rfl (lv_at hl 1 rfl) ?_
    refine lv_iconst (v := 2) hx hb dX2_allEdges_26 (by decide) ?_
    refine lv_idiv hx hb dX2_allEdges_27 (by decide) ?_
    exact kt_iret (W' := wM cI cII mo eo dg to er n E DG) hx hb hr hS hP hK hD (rfl) hlocks dX2_allEdges_28
  · skip
    refine lv_iload_n hx hb dX2_allEdges_10 rfl (lv_at hl 1 rfl) ?_
    refine lv_aload_n hx hb dX2_allEdges_11 rfl (lv_at hl 0 rfl) ?_
    refine va_get (D := (dC, dI)) (ci := kX2) (v := .ref dg) (C := RX2) (T := TX2) (N := 4) hx hb hts hi_X2 hown hK hP 0 rfl rfl 2 (by decide) hf_16 (fun _ h9 => h9) rfl dX2_allEdges_12 ?_
    refine lv_iload_n hx hb dX2_allEdges_15 rfl (lv_at hl 2 rfl) ?_
    refine kt_iald hx hb hK hP 9 0 rfl rfl (by omega) (by decide) dX2_allEdges_16 ?_
    refine lv_iadd hx hb dX2_allEdges_17 ?_
    refine lv_istore_n (lv' := [(1, .int ((sumN DG i) + (DG i))), (0, .ref mo), (2, .int (nI i))]) hx hb dX2_allEdges_18 rfl hl (by decide) rfl (fun ls hl => ?_)
    refine lv_iinc (v := nI (i + 1)) (lv' := [(2, .int (nI (i + 1))), (1, .int ((sumN DG i) + (DG i))), (0, .ref mo)]) hx hb dX2_allEdges_19 hl (k := 2) rfl (kt_inc _) (by decide) rfl (fun ls hl => ?_)
    refine lv_goto (tgt := 4) hx hb dX2_allEdges_22 (by decide) ?_
    exact ih_i H locs ls hlt_i hP hD hS (lv_sub hl [2, 1, 0] rfl)

set_option maxHeartbeats 4000000 in
set_option maxRecDepth 100000 in
theorem c_X2_edgesInto (l : Launch) (dC : Nat → ClassId) (dI : Nat → Nat → Nat) (cI cII cJ cJJ : ClassId) (mo : Nat) (eo : Nat) (dg : Nat) (to : Nat) (er : Nat → Nat) (n : Nat) (E : Nat → Nat → Int32) (DG : Nat → Int32) (sp : Nat) (set : Int32) (sz : Nat) (hsp : sp < 7) : Met l yX2_edgesInto wsX2_edgesInto ({ frames := 0, cells := 0, slots := 0, locals := 0 }) (va_Pc [.ref mo, .int (nI sp), .int set] (PRE (dC, dI) (tyL cI cII cJ cJJ) (wM cI cII mo eo dg to er n E DG) sz)) (va_Qi (fun (r' : Int32) (_ : Unit) => r' = intoF E sp set) (fun _ tS => ATW (dC, dI) (tyL cI cII cJ cJJ) (va_A (wM cI cII mo eo dg to er n E DG) sz) (wM cI cII mo eo dg to er n E DG) tS) (va_A (wM cI cII mo eo dg to er n E DG) sz)) 0 0 (va_A (wM cI cII mo eo dg to er n E DG) sz) := by
  refine Met.ofW (cc := cX2_edgesInto) (maxL := 5) (ret := (some .int)) (by decide) rfl ?_
  intro p e s m args below meth c s₁ B hml hv
  obtain ⟨rfl, hsz, hP, hK, hD0⟩ := hv
  have hx := B.exec
  have hb := B.bytes
  have hr := B.returns
  have hlocks := B.notSynchronized
  have hts := atoms_spec (ws := wsX2_edgesInto) B.pre
  have hown : s.vm.findClass RX2 = some m.cls := findClass_of_methodNamed B.named
  subst hsz
  have hD := hD0.self (sz := s.heap.size)
  generalize hAe : va_A (wM cI cII mo eo dg to er n E DG) s.heap.size = A at hD ⊢
  have hA : ∀ q : Nat, s.heap.size ≤ q → A q := fun q h => by rw [← hAe]; exact Or.inr h
  have hS : va_S A s.heap s.heap [] := va_S.rf
  have hl := lv_entry ([.ref mo, .int (nI sp), .int set]) (n := 5) (Nat.le_of_ble_eq_true rfl)
  rw [lg_entry_eq]
  generalize (lg_sl ([.ref mo, .int (nI sp), .int set]) ++ List.replicate (5 - (lg_sl ([.ref mo, .int (nI sp), .int set])).length) Slot.unset).toArray = ls at hl ⊢
  have hl : lv_has ls 5 [(0, .ref mo), (1, .int (nI sp)), (2, .int set)] := hl
  have hi_X2 : ∀ w ∈ u_ws RX2 TX2 4, w ∈ wsX2_edgesInto := by decide +kernel
  have hf_11 := hts (.fieldLink RX2 11 "Topplemoor$Moor" "edges" "[[I") (by decide +kernel)
  refine lv_iconst (v := nI 0) hx hb dX2_edgesInto_0 (by decide) ?_
  refine lv_istore_n (lv' := [(3, .int (nI 0)), (0, .ref mo), (1, .int (nI sp)), (2, .int set)]) hx hb dX2_edgesInto_1 rfl hl (by decide) rfl (fun ls hl => ?_)
  refine lv_iconst (v := nI 0) hx hb dX2_edgesInto_2 (by decide) ?_
  refine lv_istore (lv' := [(4, .int (nI 0)), (3, .int (nI 0)), (0, .ref mo), (1, .int (nI sp)), (2, .int set)]) hx hb dX2_edgesInto_3 hl (by decide) rfl (fun ls hl => ?_)
  refine kt_for (n := 7) (WD := fun (i : Nat) => wM cI cII mo eo dg to er n E DG) (LV := fun (i : Nat) => [(0, .ref mo), (1, .int (nI sp)), (2, .int set), (3, .int (it (intoS E sp set) i 0)), (4, .int (nI i))]) (nL := 5) (hd := 5) ?_ hP hD hS (lv_sub hl [2, 3, 4, 1, 0] rfl)
  intro i hle_i ih_i H locs ls hP hD hS hl
  have hP : va_P (dC, dI) vwCl (wM cI cII mo eo dg to er n E DG) H := hP
  have hD : va_D A (wM cI cII mo eo dg to er n E DG) := hD
  have hl : lv_has ls 5 [(0, .ref mo), (1, .int (nI sp)), (2, .int set), (3, .int (it (intoS E sp set) i 0)), (4, .int (nI i))] := hl
  refine lv_iload hx hb dX2_edgesInto_5 (lv_at hl 4 rfl) ?_
  refine lv_bipush (v := nI 7) hx hb dX2_edgesInto_7 (by decide) ?_
  refine kt_ige (tgt := 39) hx hb (by omega) (by omega) dX2_edgesInto_9 (by decide) (fun hge_i => ?_) (fun hlt_i => ?_)
  · have e_i : 7 = i := by omega
    subst e_i
    refine lv_iload_n hx hb dX2_edgesInto_39 rfl (lv_at hl 3 rfl) ?_
    exact kt_iret (W' := wM cI cII mo eo dg to er n E DG) hx hb hr hS hP hK hD (rfl) hlocks dX2_edgesInto_40
  · skip
    refine lv_iload_n hx hb dX2_edgesInto_12 rfl (lv_at hl 2 rfl) ?_
    refine lv_iload hx hb dX2_edgesInto_13 (lv_at hl 4 rfl) ?_
    refine lv_ishr hx hb dX2_edgesInto_15 ?_
    refine lv_iconst (v := 1) hx hb dX2_edgesInto_16 (by decide) ?_
    refine lv_iand hx hb dX2_edgesInto_17 ?_
    refine lv_if_eq (tgt := 33) hx hb dX2_edgesInto_18 (by decide) (fun c18 => ?_) (fun c18 => ?_)
    · skip
      refine lv_iinc (v := nI (i + 1)) (lv' := [(4, .int (nI (i + 1))), (0, .ref mo), (1, .int (nI sp)), (2, .int set), (3, .int (it (intoS E sp set) i 0))]) hx hb dX2_edgesInto_33 hl (k := 4) rfl (kt_inc _) (by decide) rfl (fun ls hl => ?_)
      refine lv_goto (tgt := 5) hx hb dX2_edgesInto_36 (by decide) ?_
      have eq0 : it (intoS E sp set) (i + 1) 0 = it (intoS E sp set) i 0 := by show intoS E sp set i (it (intoS E sp set) i 0) = _; first | (rw [intoS, if_neg (by simp [bitB, c18])]; done) | (rw [intoS, if_pos (by simp [bitB, c18])]; done)
      exact ih_i H locs ls hlt_i (by show va_P (dC, dI) vwCl (wM cI cII mo eo dg to er n E DG) H; first | exact hP | (rw [eq0]; exact hP)) (by show va_D A (wM cI cII mo eo dg to er n E DG); first | exact hD | (rw [eq0]; exact hD)) hS (by show lv_has ls 5 [(0, .ref mo), (1, .int (nI sp)), (2, .int set), (3, .int (it (intoS E sp set) (i + 1) 0)), (4, .int (nI (i + 1)))]; first | exact lv_sub hl [1, 2, 3, 4, 0] rfl | (rw [eq0]; exact lv_sub hl [1, 2, 3, 4, 0] rfl))
    · skip
      refine lv_iload_n hx hb dX2_edgesInto_21 rfl (lv_at hl 3 rfl) ?_
      refine lv_aload_n hx hb dX2_edgesInto_22 rfl (lv_at hl 0 rfl) ?_
      refine va_get (D := (dC, dI)) (ci := kX2) (v := .ref eo) (C := RX2) (T := TX2) (N := 4) hx hb hts hi_X2 hown hK hP 0 rfl rfl 1 (by decide) hf_11 (fun _ h9 => h9) rfl dX2_edgesInto_23 ?_
      refine lv_iload_n hx hb dX2_edgesInto_26 rfl (lv_at hl 1 rfl) ?_
      refine kt_aald hx hb hK hP 1 1 rfl rfl (by omega) (by decide) dX2_edgesInto_27 ?_
      refine lv_iload hx hb dX2_edgesInto_28 (lv_at hl 4 rfl) ?_
      refine kt_iald hx hb hK hP (2 + sp) 0 (row_wM_er (by omega)) rfl (by omega) (by decide) dX2_edgesInto_30 ?_
      refine lv_iadd hx hb dX2_edgesInto_31 ?_
      refine lv_istore_n (lv' := [(3, .int ((it (intoS E sp set) i 0) + (E sp i))), (0, .ref mo), (1, .int (nI sp)), (2, .int set), (4, .int (nI i))]) hx hb dX2_edgesInto_32 rfl hl (by decide) rfl (fun ls hl => ?_)
      refine lv_iinc (v := nI (i + 1)) (lv' := [(4, .int (nI (i + 1))), (3, .int ((it (intoS E sp set) i 0) + (E sp i))), (0, .ref mo), (1, .int (nI sp)), (2, .int set)]) hx hb dX2_edgesInto_33 hl (k := 4) rfl (kt_inc _) (by decide) rfl (fun ls hl => ?_)
      refine lv_goto (tgt := 5) hx hb dX2_edgesInto_36 (by decide) ?_
      have eq0 : it (intoS E sp set) (i + 1) 0 = (it (intoS E sp set) i 0) + (E sp i) := by show intoS E sp set i (it (intoS E sp set) i 0) = _; first | (rw [intoS, if_neg (by simp [bitB, c18])]; done) | (rw [intoS, if_pos (by simp [bitB, c18])]; done)
      exact ih_i H locs ls hlt_i (by show va_P (dC, dI) vwCl (wM cI cII mo eo dg to er n E DG) H; first | exact hP | (rw [eq0]; exact hP)) (by show va_D A (wM cI cII mo eo dg to er n E DG); first | exact hD | (rw [eq0]; exact hD)) hS (by show lv_has ls 5 [(0, .ref mo), (1, .int (nI sp)), (2, .int set), (3, .int (it (intoS E sp set) (i + 1) 0)), (4, .int (nI (i + 1)))]; first | exact lv_sub hl [2, 3, 4, 1, 0] rfl | (rw [eq0]; exact lv_sub hl [2, 3, 4, 1, 0] rfl))

theorem sw_wM_wE_0 {cI : ClassId} {cII : ClassId} {mo : Nat} {eo : Nat} {dg : Nat} {to : Nat} {er : Nat → Nat} {n : Nat} {E : Nat → Nat → Int32} {DG : Nat → Int32} : kt_sw (wM cI cII mo eo dg to er n E DG) (wM cI cII mo eo dg to er n E DG) [] (wE ) (wE ) := ⟨rfl, ⟨[none, none, none, none, none, none, none, none, none, none], rfl, by decide +kernel⟩, rfl⟩
set_option maxHeartbeats 4000000 in
set_option maxRecDepth 100000 in
theorem c_X2_isFast (l : Launch) (dC : Nat → ClassId) (dI : Nat → Nat → Nat) (cI cII cJ cJJ : ClassId) (mo : Nat) (eo : Nat) (dg : Nat) (to : Nat) (er : Nat → Nat) (n : Nat) (E : Nat → Nat → Int32) (DG : Nat → Int32) (sz : Nat) (hn : n ≤ 6) : Met l yX2_isFast wsX2_isFast ({ frames := 1, cells := 0, slots := 0, locals := 24 }) (va_Pc [.ref mo] (PRE (dC, dI) (tyL cI cII cJ cJJ) (wM cI cII mo eo dg to er n E DG) sz)) (va_Qi (fun (r' : Int32) (_ : Unit) => r' = b2i (fastB n E)) (fun _ tS => ATW (dC, dI) (tyL cI cII cJ cJJ) (va_A (wM cI cII mo eo dg to er n E DG) sz) (wM cI cII mo eo dg to er n E DG) tS) (va_A (wM cI cII mo eo dg to er n E DG) sz)) 0 0 (va_A (wM cI cII mo eo dg to er n E DG) sz) := by
  refine Met.ofW (cc := cX2_isFast) (maxL := 4) (ret := (some .boolean)) (by decide) rfl ?_
  intro p e s m args below meth c s₁ B hml hv
  obtain ⟨rfl, hsz, hP, hK, hD0⟩ := hv
  have hx := B.exec
  have hb := B.bytes
  have hr := B.returns
  have hlocks := B.notSynchronized
  have hts := atoms_spec (ws := wsX2_isFast) B.pre
  have hown : s.vm.findClass RX2 = some m.cls := findClass_of_methodNamed B.named
  subst hsz
  have hD := hD0.self (sz := s.heap.size)
  generalize hAe : va_A (wM cI cII mo eo dg to er n E DG) s.heap.size = A at hD ⊢
  have hA : ∀ q : Nat, s.heap.size ≤ q → A q := fun q h => by rw [← hAe]; exact Or.inr h
  have hS : va_S A s.heap s.heap [] := va_S.rf
  have hl := lv_entry ([.ref mo]) (n := 4) (Nat.le_of_ble_eq_true rfl)
  rw [lg_entry_eq]
  generalize (lg_sl ([.ref mo]) ++ List.replicate (4 - (lg_sl ([.ref mo])).length) Slot.unset).toArray = ls at hl ⊢
  have hl : lv_has ls 4 [(0, .ref mo)] := hl
  have hi_X2 : ∀ w ∈ u_ws RX2 TX2 4, w ∈ wsX2_isFast := by decide +kernel
  have hf_25 := hts (.fieldLink RX2 25 "Topplemoor$Moor" "spots" "I") (by decide +kernel)
  refine lv_bipush (v := nI 64) hx hb dX2_isFast_0 (by decide) ?_
  refine lv_istore_n (lv' := [(1, .int (nI 64)), (0, .ref mo)]) hx hb dX2_isFast_2 rfl hl (by decide) rfl (fun ls hl => ?_)
  refine lv_iconst (v := nI 0) hx hb dX2_isFast_3 (by decide) ?_
  refine lv_istore_n (lv' := [(2, .int (nI 0)), (1, .int (nI 64)), (0, .ref mo)]) hx hb dX2_isFast_4 rfl hl (by decide) rfl (fun ls hl => ?_)
  refine kt_for (n := n) (WD := fun (i : Nat) => wM cI cII mo eo dg to er n E DG) (LV := fun (i : Nat) => [(0, .ref mo), (1, .int (it (fun _ r => it (reachS E) n r) i 64)), (2, .int (nI i))]) (nL := 4) (hd := 5) ?_ hP hD hS (lv_sub hl [2, 1, 0] rfl)
  intro i hle_i ih_i H locs ls hP hD hS hl
  have hP : va_P (dC, dI) vwCl (wM cI cII mo eo dg to er n E DG) H := hP
  have hD : va_D A (wM cI cII mo eo dg to er n E DG) := hD
  have hl : lv_has ls 4 [(0, .ref mo), (1, .int (it (fun _ r => it (reachS E) n r) i 64)), (2, .int (nI i))] := hl
  refine lv_iload_n hx hb dX2_isFast_5 rfl (lv_at hl 2 rfl) ?_
  refine lv_aload_n hx hb dX2_isFast_6 rfl (lv_at hl 0 rfl) ?_
  refine va_get (D := (dC, dI)) (ci := kX2) (v := .int (nI n)) (C := RX2) (T := TX2) (N := 4) hx hb hts hi_X2 hown hK hP 0 rfl rfl 0 (by decide) hf_25 (fun _ h9 => h9) rfl dX2_isFast_7 ?_
  refine kt_ige (tgt := 50) hx hb (by omega) (by omega) dX2_isFast_10 (by decide) (fun hge_i => ?_) (fun hlt_i => ?_)
  · have e_i : n = i := by omega
    subst e_i
    refine lv_aload_n hx hb dX2_isFast_50 rfl (lv_at hl 0 rfl) ?_
    refine va_get (D := (dC, dI)) (ci := kX2) (v := .int (nI n)) (C := RX2) (T := TX2) (N := 4) hx hb hts hi_X2 hown hK hP 0 rfl rfl 0 (by decide) hf_25 (fun _ h9 => h9) rfl dX2_isFast_51 ?_
    refine lv_if_le (tgt := 74) hx hb dX2_isFast_54 (by decide) (fun c54 => ?_) (fun c54 => ?_)
    · skip
      refine lv_iconst (v := 0) hx hb dX2_isFast_74 (by decide) ?_
      exact kt_zret (W' := wM cI cII mo eo dg to er n E DG) hx hb hr (rfl) hS hP hK hD (by first | (simp [b2i, fastB, c54]; done) | (simp [b2i, fastB, reachF, c54, c67]; done)) hlocks dX2_isFast_75
    · skip
      refine lv_iload_n hx hb dX2_isFast_57 rfl (lv_at hl 1 rfl) ?_
      refine kt_callSi (w' := wM cI cII mo eo dg to er n E DG) (rest := []) (As := [.int (it (fun _ r => it (reachS E) n r) n 64)]) ⟨hx, hb, hml, hown, hts⟩ (c_J6_bitCount_0f7a4 l dC dI cI cII cJ cJJ (it (fun _ r => it (reachS E) n r) n 64) _ ) (va_cwS 1 hts gX2_isFast_J6_bitCount_0f7a4 rfl rfl rfl (by decide +kernel) ⟨Nat.le_of_ble_eq_true rfl, Nat.le_of_ble_eq_true rfl⟩) hK hP hD hS hA [] sw_wM_wE_0 rfl rfl rfl hl.1 (Nat.le_of_ble_eq_true rfl) dX2_isFast_58 ⟨Nat.zero_le _, Nat.zero_le _⟩ (fun H locs hP hD hS => ?_)
      refine lv_aload_n hx hb dX2_isFast_61 rfl (lv_at hl 0 rfl) ?_
      refine va_get (D := (dC, dI)) (ci := kX2) (v := .int (nI n)) (C := RX2) (T := TX2) (N := 4) hx hb hts hi_X2 hown hK hP 0 rfl rfl 0 (by decide) hf_25 (fun _ h9 => h9) rfl dX2_isFast_62 ?_
      refine lv_iconst (v := 1) hx hb dX2_isFast_65 (by decide) ?_
      refine lv_iadd hx hb dX2_isFast_66 ?_
      refine lv_icmp_ne (tgt := 74) hx hb dX2_isFast_67 (by decide) (fun c67 => ?_) (fun c67 => ?_)
      · skip
        refine lv_iconst (v := 0) hx hb dX2_isFast_74 (by decide) ?_
        exact kt_zret (W' := wM cI cII mo eo dg to er n E DG) hx hb hr (rfl) hS hP hK hD (by first | (simp [b2i, fastB, c54]; done) | (simp [b2i, fastB, reachF, c54, c67]; done)) hlocks dX2_isFast_75
      · skip
        refine lv_iconst (v := 1) hx hb dX2_isFast_70 (by decide) ?_
        refine lv_goto (tgt := 75) hx hb dX2_isFast_71 (by decide) ?_
        exact kt_zret (W' := wM cI cII mo eo dg to er n E DG) hx hb hr (rfl) hS hP hK hD (by first | (simp [b2i, fastB, c54]; done) | (simp [b2i, fastB, reachF, c54, c67]; done)) hlocks dX2_isFast_75
  · skip
    refine lv_iconst (v := nI 0) hx hb dX2_isFast_13 (by decide) ?_
    refine lv_istore_n (lv' := [(3, .int (nI 0)), (0, .ref mo), (1, .int (it (fun _ r => it (reachS E) n r) i 64)), (2, .int (nI i))]) hx hb dX2_isFast_14 rfl hl (by decide) rfl (fun ls hl => ?_)
    refine kt_for (n := n) (WD := fun (k : Nat) => wM cI cII mo eo dg to er n E DG) (LV := fun (k : Nat) => [(0, .ref mo), (1, .int (it (reachS E) k (it (fun _ r => it (reachS E) n r) i 64))), (2, .int (nI i)), (3, .int (nI k))]) (nL := 4) (hd := 15) ?_ hP hD hS (lv_sub hl [1, 2, 3, 0] rfl)
    intro k hle_k ih_k H locs ls hP hD hS hl
    have hP : va_P (dC, dI) vwCl (wM cI cII mo eo dg to er n E DG) H := hP
    have hD : va_D A (wM cI cII mo eo dg to er n E DG) := hD
    have hl : lv_has ls 4 [(0, .ref mo), (1, .int (it (reachS E) k (it (fun _ r => it (reachS E) n r) i 64))), (2, .int (nI i)), (3, .int (nI k))] := hl
    refine lv_iload_n hx hb dX2_isFast_15 rfl (lv_at hl 3 rfl) ?_
    refine lv_aload_n hx hb dX2_isFast_16 rfl (lv_at hl 0 rfl) ?_
    refine va_get (D := (dC, dI)) (ci := kX2) (v := .int (nI n)) (C := RX2) (T := TX2) (N := 4) hx hb hts hi_X2 hown hK hP 0 rfl rfl 0 (by decide) hf_25 (fun _ h9 => h9) rfl dX2_isFast_17 ?_
    refine kt_ige (tgt := 44) hx hb (by omega) (by omega) dX2_isFast_20 (by decide) (fun hge_k => ?_) (fun hlt_k => ?_)
    · have e_k : n = k := by omega
      subst e_k
      refine lv_iinc (v := nI (i + 1)) (lv' := [(2, .int (nI (i + 1))), (0, .ref mo), (1, .int (it (reachS E) n (it (fun _ r => it (reachS E) n r) i 64))), (3, .int (nI n))]) hx hb dX2_isFast_44 hl (k := 2) rfl (kt_inc _) (by decide) rfl (fun ls hl => ?_)
      refine lv_goto (tgt := 5) hx hb dX2_isFast_47 (by decide) ?_
      exact ih_i H locs ls hlt_i hP hD hS (lv_sub hl [1, 2, 0] rfl)
    · skip
      refine lv_aload_n hx hb dX2_isFast_23 rfl (lv_at hl 0 rfl) ?_
      refine lv_iload_n hx hb dX2_isFast_24 rfl (lv_at hl 3 rfl) ?_
      refine lv_iload_n hx hb dX2_isFast_25 rfl (lv_at hl 1 rfl) ?_
      refine kt_calli (w' := wM cI cII mo eo dg to er n E DG) (rest := []) (As := [.int (nI k), .int (it (reachS E) k (it (fun _ r => it (reachS E) n r) i 64))]) ⟨hx, hb, hml, hown, hts⟩ (c_X2_edgesInto l dC dI cI cII cJ cJJ mo eo dg to er n E DG k (it (reachS E) k (it (fun _ r => it (reachS E) n r) i 64)) _ (by omega)) (cwV 2 hts gX2_isFast_X2_edgesInto rfl rfl rfl (by decide +kernel) ⟨Nat.le_of_ble_eq_true rfl, Nat.le_of_ble_eq_true rfl⟩) hK hP hD hS hA (List.range' 0 10) sw_wM_wM_0 rfl 0 kX2 rfl rfl rfl rfl rfl hl.1 (Nat.le_of_ble_eq_true rfl) dX2_isFast_26 ⟨Nat.zero_le _, Nat.zero_le _⟩ (fun H locs hP hD hS => ?_)
      refine lv_if_le (tgt := 38) hx hb dX2_isFast_29 (by decide) (fun c29 => ?_) (fun c29 => ?_)
      · skip
        refine lv_iinc (v := nI (k + 1)) (lv' := [(3, .int (nI (k + 1))), (0, .ref mo), (1, .int (it (reachS E) k (it (fun _ r => it (reachS E) n r) i 64))), (2, .int (nI i))]) hx hb dX2_isFast_38 hl (k := 3) rfl (kt_inc _) (by decide) rfl (fun ls hl => ?_)
        refine lv_goto (tgt := 15) hx hb dX2_isFast_41 (by decide) ?_
        have eq0 : it (reachS E) (k + 1) (it (fun _ r => it (reachS E) n r) i 64) = it (reachS E) k (it (fun _ r => it (reachS E) n r) i 64) := by show reachS E k (it (reachS E) k (it (fun _ r => it (reachS E) n r) i 64)) = _; first | (rw [reachS, if_neg (by rw [Int32.not_lt]; exact c29)]; done) | (rw [reachS, if_pos (Int32.not_le.mp c29)]; done)
        exact ih_k H locs ls hlt_k (by show va_P (dC, dI) vwCl (wM cI cII mo eo dg to er n E DG) H; first | exact hP | (rw [eq0]; exact hP)) (by show va_D A (wM cI cII mo eo dg to er n E DG); first | exact hD | (rw [eq0]; exact hD)) hS (by show lv_has ls 4 [(0, .ref mo), (1, .int (it (reachS E) (k + 1) (it (fun _ r => it (reachS E) n r) i 64))), (2, .int (nI i)), (3, .int (nI (k + 1)))]; first | exact lv_sub hl [1, 2, 3, 0] rfl | (rw [eq0]; exact lv_sub hl [1, 2, 3, 0] rfl))
      · skip
        refine lv_iload_n hx hb dX2_isFast_32 rfl (lv_at hl 1 rfl) ?_
        refine lv_iconst (v := 1) hx hb dX2_isFast_33 (by decide) ?_
        refine lv_iload_n hx hb dX2_isFast_34 rfl (lv_at hl 3 rfl) ?_
        refine lv_ishl hx hb dX2_isFast_35 ?_
        refine lv_ior hx hb dX2_isFast_36 ?_
        refine lv_istore_n (lv' := [(1, .int ((it (reachS E) k (it (fun _ r => it (reachS E) n r) i 64)) ||| (1 <<< (nI k &&& 31)))), (0, .ref mo), (2, .int (nI i)), (3, .int (nI k))]) hx hb dX2_isFast_37 rfl hl (by decide) rfl (fun ls hl => ?_)
        refine lv_iinc (v := nI (k + 1)) (lv' := [(3, .int (nI (k + 1))), (1, .int ((it (reachS E) k (it (fun _ r => it (reachS E) n r) i 64)) ||| (1 <<< (nI k &&& 31)))), (0, .ref mo), (2, .int (nI i))]) hx hb dX2_isFast_38 hl (k := 3) rfl (kt_inc _) (by decide) rfl (fun ls hl => ?_)
        refine lv_goto (tgt := 15) hx hb dX2_isFast_41 (by decide) ?_
        have eq0 : it (reachS E) (k + 1) (it (fun _ r => it (reachS E) n r) i 64) = (it (reachS E) k (it (fun _ r => it (reachS E) n r) i 64)) ||| (1 <<< (nI k &&& 31)) := by show reachS E k (it (reachS E) k (it (fun _ r => it (reachS E) n r) i 64)) = _; first | (rw [reachS, if_neg (by rw [Int32.not_lt]; exact c29)]; done) | (rw [reachS, if_pos (Int32.not_le.mp c29)]; done)
        exact ih_k H locs ls hlt_k (by show va_P (dC, dI) vwCl (wM cI cII mo eo dg to er n E DG) H; first | exact hP | (rw [eq0]; exact hP)) (by show va_D A (wM cI cII mo eo dg to er n E DG); first | exact hD | (rw [eq0]; exact hD)) hS (by show lv_has ls 4 [(0, .ref mo), (1, .int (it (reachS E) (k + 1) (it (fun _ r => it (reachS E) n r) i 64))), (2, .int (nI i)), (3, .int (nI (k + 1)))]; first | exact lv_sub hl [2, 1, 3, 0] rfl | (rw [eq0]; exact lv_sub hl [2, 1, 3, 0] rfl))

set_option maxHeartbeats 4000000 in
set_option maxRecDepth 100000 in
theorem c_X2_neighbourAt (l : Launch) (dC : Nat → ClassId) (dI : Nat → Nat → Nat) (cI cII cJ cJJ : ClassId) (mo : Nat) (eo : Nat) (dg : Nat) (to : Nat) (er : Nat → Nat) (n : Nat) (E : Nat → Nat → Int32) (DG : Nat → Int32) (sp : Nat) (pl : Int32) (sz : Nat) (hsp : sp < 7) : Met l yX2_neighbourAt wsX2_neighbourAt ({ frames := 0, cells := 0, slots := 0, locals := 0 }) (va_Pc [.ref mo, .int (nI sp), .int pl] (PRE (dC, dI) (tyL cI cII cJ cJJ) (wM cI cII mo eo dg to er n E DG) sz)) (va_Qi (fun (r' : Int32) (_ : Unit) => r' = nbF E sp pl) (fun _ tS => ATW (dC, dI) (tyL cI cII cJ cJJ) (va_A (wM cI cII mo eo dg to er n E DG) sz) (wM cI cII mo eo dg to er n E DG) tS) (va_A (wM cI cII mo eo dg to er n E DG) sz)) 0 0 (va_A (wM cI cII mo eo dg to er n E DG) sz) := by
  refine Met.ofW (cc := cX2_neighbourAt) (maxL := 5) (ret := (some .int)) (by decide) rfl ?_
  intro p e s m args below meth c s₁ B hml hv
  obtain ⟨rfl, hsz, hP, hK, hD0⟩ := hv
  have hx := B.exec
  have hb := B.bytes
  have hr := B.returns
  have hlocks := B.notSynchronized
  have hts := atoms_spec (ws := wsX2_neighbourAt) B.pre
  have hown : s.vm.findClass RX2 = some m.cls := findClass_of_methodNamed B.named
  subst hsz
  have hD := hD0.self (sz := s.heap.size)
  generalize hAe : va_A (wM cI cII mo eo dg to er n E DG) s.heap.size = A at hD ⊢
  have hA : ∀ q : Nat, s.heap.size ≤ q → A q := fun q h => by rw [← hAe]; exact Or.inr h
  have hS : va_S A s.heap s.heap [] := va_S.rf
  have hl := lv_entry ([.ref mo, .int (nI sp), .int pl]) (n := 5) (Nat.le_of_ble_eq_true rfl)
  rw [lg_entry_eq]
  generalize (lg_sl ([.ref mo, .int (nI sp), .int pl]) ++ List.replicate (5 - (lg_sl ([.ref mo, .int (nI sp), .int pl])).length) Slot.unset).toArray = ls at hl ⊢
  have hl : lv_has ls 5 [(0, .ref mo), (1, .int (nI sp)), (2, .int pl)] := hl
  have hi_X2 : ∀ w ∈ u_ws RX2 TX2 4, w ∈ wsX2_neighbourAt := by decide +kernel
  have hf_11 := hts (.fieldLink RX2 11 "Topplemoor$Moor" "edges" "[[I") (by decide +kernel)
  refine lv_iload_n hx hb dX2_neighbourAt_0 rfl (lv_at hl 2 rfl) ?_
  refine lv_istore_n (lv' := [(3, .int pl), (0, .ref mo), (1, .int (nI sp)), (2, .int pl)]) hx hb dX2_neighbourAt_1 rfl hl (by decide) rfl (fun ls hl => ?_)
  refine lv_iconst (v := nI 0) hx hb dX2_neighbourAt_2 (by decide) ?_
  refine lv_istore (lv' := [(4, .int (nI 0)), (3, .int pl), (0, .ref mo), (1, .int (nI sp)), (2, .int pl)]) hx hb dX2_neighbourAt_3 hl (by decide) rfl (fun ls hl => ?_)
  refine kt_forq (n := 7) (q := fun (i : Nat) => (fstO (fun k => decide (leftF E sp pl (k + 1) < 0)) i = none)) (WD := fun (i : Nat) => wM cI cII mo eo dg to er n E DG) (LV := fun (i : Nat) => [(0, .ref mo), (1, .int (nI sp)), (2, .int pl), (3, .int (leftF E sp pl i)), (4, .int (nI i))]) (nL := 5) (hd := 5) ?_ (rfl) hP hD hS (lv_sub hl [2, 3, 4, 1, 0] rfl)
  intro i hle_i hq_i ih_i H locs ls hP hD hS hl
  have hq_i : (fstO (fun k => decide (leftF E sp pl (k + 1) < 0)) i = none) := hq_i
  have hq := hq_i
  have hP : va_P (dC, dI) vwCl (wM cI cII mo eo dg to er n E DG) H := hP
  have hD : va_D A (wM cI cII mo eo dg to er n E DG) := hD
  have hl : lv_has ls 5 [(0, .ref mo), (1, .int (nI sp)), (2, .int pl), (3, .int (leftF E sp pl i)), (4, .int (nI i))] := hl
  refine lv_iload hx hb dX2_neighbourAt_5 (lv_at hl 4 rfl) ?_
  refine lv_bipush (v := nI 7) hx hb dX2_neighbourAt_7 (by decide) ?_
  refine kt_ige (tgt := 37) hx hb (by omega) (by omega) dX2_neighbourAt_9 (by decide) (fun hge_i => ?_) (fun hlt_i => ?_)
  · have e_i : 7 = i := by omega
    subst e_i
    refine lv_iconst (v := (-1)) hx hb dX2_neighbourAt_37 (by decide) ?_
    exact kt_iret (W' := wM cI cII mo eo dg to er n E DG) hx hb hr hS hP hK hD (by unfold nbF; rw [hq]; rfl) hlocks dX2_neighbourAt_38
  · skip
    refine lv_iload_n hx hb dX2_neighbourAt_12 rfl (lv_at hl 3 rfl) ?_
    refine lv_aload_n hx hb dX2_neighbourAt_13 rfl (lv_at hl 0 rfl) ?_
    refine va_get (D := (dC, dI)) (ci := kX2) (v := .ref eo) (C := RX2) (T := TX2) (N := 4) hx hb hts hi_X2 hown hK hP 0 rfl rfl 1 (by decide) hf_11 (fun _ h9 => h9) rfl dX2_neighbourAt_14 ?_
    refine lv_iload_n hx hb dX2_neighbourAt_17 rfl (lv_at hl 1 rfl) ?_
    refine kt_aald hx hb hK hP 1 1 rfl rfl (by omega) (by decide) dX2_neighbourAt_18 ?_
    refine lv_iload hx hb dX2_neighbourAt_19 (lv_at hl 4 rfl) ?_
    refine kt_iald hx hb hK hP (2 + sp) 0 (row_wM_er (by omega)) rfl (by omega) (by decide) dX2_neighbourAt_21 ?_
    refine lv_isub hx hb dX2_neighbourAt_22 ?_
    refine lv_istore_n (lv' := [(3, .int ((leftF E sp pl i) - (E sp i))), (0, .ref mo), (1, .int (nI sp)), (2, .int pl), (4, .int (nI i))]) hx hb dX2_neighbourAt_23 rfl hl (by decide) rfl (fun ls hl => ?_)
    refine lv_iload_n hx hb dX2_neighbourAt_24 rfl (lv_at hl 0 rfl) ?_
    refine lv_if_ge (tgt := 31) hx hb dX2_neighbourAt_25 (by decide) (fun c25 => ?_) (fun c25 => ?_)
    · skip
      refine lv_iinc (v := nI (i + 1)) (lv' := [(4, .int (nI (i + 1))), (3, .int ((leftF E sp pl i) - (E sp i))), (0, .ref mo), (1, .int (nI sp)), (2, .int pl)]) hx hb dX2_neighbourAt_31 hl (k := 4) rfl (kt_inc _) (by decide) rfl (fun ls hl => ?_)
      refine lv_goto (tgt := 5) hx hb dX2_neighbourAt_34 (by decide) ?_
      exact ih_i H locs ls hlt_i ((fstO_succ hq).trans (if_neg (fun z => absurd (of_decide_eq_true z) (Int32.not_lt.mpr c25)))) hP hD hS (lv_sub hl [2, 3, 4, 1, 0] rfl)
    · skip
      refine lv_iload hx hb dX2_neighbourAt_28 (lv_at hl 4 rfl) ?_
      exact kt_iret (W' := wM cI cII mo eo dg to er n E DG) hx hb hr hS hP hK hD (by unfold nbF; rw [fstO_some hlt_i hq (decide_eq_true (Int32.not_le.mp c25))]; rfl) hlocks dX2_neighbourAt_30

set_option maxHeartbeats 4000000 in
set_option maxRecDepth 100000 in
theorem c_X2_fillTable (l : Launch) (dC : Nat → ClassId) (dI : Nat → Nat → Nat) (cI cII cJ cJJ : ClassId) (mo : Nat) (eo : Nat) (dg : Nat) (to : Nat) (er : Nat → Nat) (n : Nat) (E : Nat → Nat → Int32) (DG : Nat → Int32) (tr : Nat → Nat) (T : Nat → Nat → Int64) (sz : Nat) (hn : n ≤ 6) : Met l yX2_fillTable wsX2_fillTable ({ frames := 0, cells := 0, slots := 0, locals := 0 }) (va_Pc [.ref mo] (PRE (dC, dI) (tyL cI cII cJ cJJ) (wMT cJ cJJ cI cII mo eo dg to er n E DG tr T) sz)) (va_Qv (fun (_ : Unit) => True) (fun _ tS => ATW (dC, dI) (tyL cI cII cJ cJJ) (va_A (wMT cJ cJJ cI cII mo eo dg to er n E DG tr T) sz) (wMT cJ cJJ cI cII mo eo dg to er n E DG tr (it (fillR n E DG) n T)) tS) (va_A (wMT cJ cJJ cI cII mo eo dg to er n E DG tr T) sz)) 0 0 (va_A (wMT cJ cJJ cI cII mo eo dg to er n E DG tr T) sz) := by
  refine Met.ofW (cc := cX2_fillTable) (maxL := 3) (ret := none) (by decide) rfl ?_
  intro p e s m args below meth c s₁ B hml hv
  obtain ⟨rfl, hsz, hP, hK, hD0⟩ := hv
  have hx := B.exec
  have hb := B.bytes
  have hr := B.returns
  have hlocks := B.notSynchronized
  have hts := atoms_spec (ws := wsX2_fillTable) B.pre
  have hown : s.vm.findClass RX2 = some m.cls := findClass_of_methodNamed B.named
  subst hsz
  have hD := hD0.self (sz := s.heap.size)
  generalize hAe : va_A (wMT cJ cJJ cI cII mo eo dg to er n E DG tr T) s.heap.size = A at hD ⊢
  have hA : ∀ q : Nat, s.heap.size ≤ q → A q := fun q h => by rw [← hAe]; exact Or.inr h
  have hS : va_S A s.heap s.heap [] := va_S.rf
  have hl := lv_entry ([.ref mo]) (n := 3) (Nat.le_of_ble_eq_true rfl)
  rw [lg_entry_eq]
  generalize (lg_sl ([.ref mo]) ++ List.replicate (3 - (lg_sl ([.ref mo])).length) Slot.unset).toArray = ls at hl ⊢
  have hl : lv_has ls 3 [(0, .ref mo)] := hl
  have hi_X2 : ∀ w ∈ u_ws RX2 TX2 4, w ∈ wsX2_fillTable := by decide +kernel
  have hf_25 := hts (.fieldLink RX2 25 "Topplemoor$Moor" "spots" "I") (by decide +kernel)
  have hf_22 := hts (.fieldLink RX2 22 "Topplemoor$Moor" "table" "[[J") (by decide +kernel)
  have hf_11 := hts (.fieldLink RX2 11 "Topplemoor$Moor" "edges" "[[I") (by decide +kernel)
  have hf_16 := hts (.fieldLink RX2 16 "Topplemoor$Moor" "degrees" "[I") (by decide +kernel)
  refine lv_iconst (v := nI 0) hx hb dX2_fillTable_0 (by decide) ?_
  refine lv_istore_n (lv' := [(1, .int (nI 0)), (0, .ref mo)]) hx hb dX2_fillTable_1 rfl hl (by decide) rfl (fun ls hl => ?_)
  refine kt_for (n := n) (WD := fun (i : Nat) => wMT cJ cJJ cI cII mo eo dg to er n E DG tr (it (fillR n E DG) i T)) (LV := fun (i : Nat) => [(0, .ref mo), (1, .int (nI i))]) (nL := 3) (hd := 2) ?_ hP hD hS (lv_sub hl [1, 0] rfl)
  intro i hle_i ih_i H locs ls hP hD hS hl
  have hP : va_P (dC, dI) vwCl (wMT cJ cJJ cI cII mo eo dg to er n E DG tr (it (fillR n E DG) i T)) H := hP
  have hD : va_D A (wMT cJ cJJ cI cII mo eo dg to er n E DG tr (it (fillR n E DG) i T)) := hD
  have hl : lv_has ls 3 [(0, .ref mo), (1, .int (nI i))] := hl
  refine lv_iload_n hx hb dX2_fillTable_2 rfl (lv_at hl 1 rfl) ?_
  refine lv_aload_n hx hb dX2_fillTable_3 rfl (lv_at hl 0 rfl) ?_
  refine va_get (D := (dC, dI)) (ci := kX2) (v := .int (nI n)) (C := RX2) (T := TX2) (N := 4) hx hb hts hi_X2 hown hK hP 0 rfl rfl 0 (by decide) hf_25 (fun _ h9 => h9) rfl dX2_fillTable_4 ?_
  refine kt_ige (tgt := 65) hx hb (by omega) (by omega) dX2_fillTable_7 (by decide) (fun hge_i => ?_) (fun hlt_i => ?_)
  · have e_i : n = i := by omega
    subst e_i
    exact kt_vret (W' := wMT cJ cJJ cI cII mo eo dg to er n E DG tr (it (fillR n E DG) n T)) hx hb hr hS hP hK hD hlocks dX2_fillTable_65
  · skip
    refine lv_iconst (v := nI 0) hx hb dX2_fillTable_10 (by decide) ?_
    refine lv_istore_n (lv' := [(2, .int (nI 0)), (0, .ref mo), (1, .int (nI i))]) hx hb dX2_fillTable_11 rfl hl (by decide) rfl (fun ls hl => ?_)
    refine kt_for (n := n) (WD := fun (k : Nat) => wMT cJ cJJ cI cII mo eo dg to er n E DG tr (it (fillC E DG i) k (it (fillR n E DG) i T))) (LV := fun (k : Nat) => [(0, .ref mo), (1, .int (nI i)), (2, .int (nI k))]) (nL := 3) (hd := 12) ?_ hP hD hS (lv_sub hl [1, 2, 0] rfl)
    intro k hle_k ih_k H locs ls hP hD hS hl
    have hP : va_P (dC, dI) vwCl (wMT cJ cJJ cI cII mo eo dg to er n E DG tr (it (fillC E DG i) k (it (fillR n E DG) i T))) H := hP
    have hD : va_D A (wMT cJ cJJ cI cII mo eo dg to er n E DG tr (it (fillC E DG i) k (it (fillR n E DG) i T))) := hD
    have hl : lv_has ls 3 [(0, .ref mo), (1, .int (nI i)), (2, .int (nI k))] := hl
    refine lv_iload_n hx hb dX2_fillTable_12 rfl (lv_at hl 2 rfl) ?_
    refine lv_aload_n hx hb dX2_fillTable_13 rfl (lv_at hl 0 rfl) ?_
    refine va_get (D := (dC, dI)) (ci := kX2) (v := .int (nI n)) (C := RX2) (T := TX2) (N := 4) hx hb hts hi_X2 hown hK hP 0 rfl rfl 0 (by decide) hf_25 (fun _ h9 => h9) rfl dX2_fillTable_14 ?_
    refine kt_ige (tgt := 59) hx hb (by omega) (by omega) dX2_fillTable_17 (by decide) (fun hge_k => ?_) (fun hlt_k => ?_)
    · have e_k : n = k := by omega
      subst e_k
      refine lv_iinc (v := nI (i + 1)) (lv' := [(1, .int (nI (i + 1))), (0, .ref mo), (2, .int (nI n))]) hx hb dX2_fillTable_59 hl (k := 1) rfl (kt_inc _) (by decide) rfl (fun ls hl => ?_)
      refine lv_goto (tgt := 2) hx hb dX2_fillTable_62 (by decide) ?_
      exact ih_i H locs ls hlt_i hP hD hS (lv_sub hl [1, 0] rfl)
    · skip
      refine lv_aload_n hx hb dX2_fillTable_20 rfl (lv_at hl 0 rfl) ?_
      refine va_get (D := (dC, dI)) (ci := kX2) (v := .ref to) (C := RX2) (T := TX2) (N := 4) hx hb hts hi_X2 hown hK hP 0 rfl rfl 3 (by decide) hf_22 (fun _ h9 => h9) rfl dX2_fillTable_21 ?_
      refine lv_iload_n hx hb dX2_fillTable_24 rfl (lv_at hl 1 rfl) ?_
      refine kt_aald hx hb hK hP 10 3 rfl rfl (by omega) (by decide) dX2_fillTable_25 ?_
      refine lv_iload_n hx hb dX2_fillTable_26 rfl (lv_at hl 2 rfl) ?_
      refine lv_iload_n hx hb dX2_fillTable_27 rfl (lv_at hl 1 rfl) ?_
      refine lv_iload_n hx hb dX2_fillTable_28 rfl (lv_at hl 2 rfl) ?_
      refine lv_icmp_ne (tgt := 42) hx hb dX2_fillTable_29 (by decide) (fun c29 => ?_) (fun c29 => ?_)
      · skip
        refine lv_aload_n hx hb dX2_fillTable_42 rfl (lv_at hl 0 rfl) ?_
        refine va_get (D := (dC, dI)) (ci := kX2) (v := .ref eo) (C := RX2) (T := TX2) (N := 4) hx hb hts hi_X2 hown hK hP 0 rfl rfl 1 (by decide) hf_11 (fun _ h9 => h9) rfl dX2_fillTable_43 ?_
        refine lv_iload_n hx hb dX2_fillTable_46 rfl (lv_at hl 1 rfl) ?_
        refine kt_aald hx hb hK hP 1 1 rfl rfl (by omega) (by decide) dX2_fillTable_47 ?_
        refine lv_iload_n hx hb dX2_fillTable_48 rfl (lv_at hl 2 rfl) ?_
        refine kt_iald hx hb hK hP (2 + i) 0 (row_wMT_er (by omega)) rfl (by omega) (by decide) dX2_fillTable_49 ?_
        refine lv_ineg hx hb dX2_fillTable_50 ?_
        refine lv_i2l (v := Int32.toInt64 (-(E i k))) hx hb dX2_fillTable_51 rfl ?_
        refine kt_last hx hb hK hP hD hS (11 + i) 2 (row_wMT_tr (by omega)) rfl (by omega) (by decide) dX2_fillTable_52 (fun H locs hP hD hS => ?_)
        rw [set_wMT_tr (by omega)] at hP hD
        have hP : va_P (dC, dI) vwCl (wMT cJ cJJ cI cII mo eo dg to er n E DG tr (updR (it (fillC E DG i) k (it (fillR n E DG) i T)) i (vp_updL ((it (fillC E DG i) k (it (fillR n E DG) i T)) i) k (Int32.toInt64 (-(E i k)))))) H := hP
        have hD : va_D A (wMT cJ cJJ cI cII mo eo dg to er n E DG tr (updR (it (fillC E DG i) k (it (fillR n E DG) i T)) i (vp_updL ((it (fillC E DG i) k (it (fillR n E DG) i T)) i) k (Int32.toInt64 (-(E i k)))))) := hD
        refine lv_iinc (v := nI (k + 1)) (lv' := [(2, .int (nI (k + 1))), (0, .ref mo), (1, .int (nI i))]) hx hb dX2_fillTable_53 hl (k := 2) rfl (kt_inc _) (by decide) rfl (fun ls hl => ?_)
        refine lv_goto (tgt := 12) hx hb dX2_fillTable_56 (by decide) ?_
        have eq0 : it (fillC E DG i) (k + 1) (it (fillR n E DG) i T) = updR (it (fillC E DG i) k (it (fillR n E DG) i T)) i (vp_updL ((it (fillC E DG i) k (it (fillR n E DG) i T)) i) k (Int32.toInt64 (-(E i k)))) := by show fillC E DG i k (it (fillC E DG i) k (it (fillR n E DG) i T)) = _; first | (rw [fillC, if_neg (fun z => c29 (by rw [z]))]; done) | (rw [fillC, if_pos ((nI_eq (by omega) (by omega)).mp c29)]; done)
        exact ih_k H locs ls hlt_k (by show va_P (dC, dI) vwCl (wMT cJ cJJ cI cII mo eo dg to er n E DG tr (it (fillC E DG i) (k + 1) (it (fillR n E DG) i T))) H; first | exact hP | (rw [eq0]; exact hP)) (by show va_D A (wMT cJ cJJ cI cII mo eo dg to er n E DG tr (it (fillC E DG i) (k + 1) (it (fillR n E DG) i T))); first | exact hD | (rw [eq0]; exact hD)) hS (by show lv_has ls 3 [(0, .ref mo), (1, .int (nI i)), (2, .int (nI (k + 1)))]; first | exact lv_sub hl [1, 2, 0] rfl | (rw [eq0]; exact lv_sub hl [1, 2, 0] rfl))
      · skip
        refine lv_aload_n hx hb dX2_fillTable_32 rfl (lv_at hl 0 rfl) ?_
        refine va_get (D := (dC, dI)) (ci := kX2) (v := .ref dg) (C := RX2) (T := TX2) (N := 4) hx hb hts hi_X2 hown hK hP 0 rfl rfl 2 (by decide) hf_16 (fun _ h9 => h9) rfl dX2_fillTable_33 ?_
        refine lv_iload_n hx hb dX2_fillTable_36 rfl (lv_at hl 1 rfl) ?_
        refine kt_iald hx hb hK hP 9 0 rfl rfl (by omega) (by decide) dX2_fillTable_37 ?_
        refine lv_i2l (v := Int32.toInt64 (DG i)) hx hb dX2_fillTable_38 rfl ?_
        refine lv_goto (tgt := 52) hx hb dX2_fillTable_39 (by decide) ?_
        refine kt_last hx hb hK hP hD hS (11 + i) 2 (row_wMT_tr (by omega)) rfl (by omega) (by decide) dX2_fillTable_52 (fun H locs hP hD hS => ?_)
        rw [set_wMT_tr (by omega)] at hP hD
        have hP : va_P (dC, dI) vwCl (wMT cJ cJJ cI cII mo eo dg to er n E DG tr (updR (it (fillC E DG i) k (it (fillR n E DG) i T)) i (vp_updL ((it (fillC E DG i) k (it (fillR n E DG) i T)) i) k (Int32.toInt64 (DG i))))) H := hP
        have hD : va_D A (wMT cJ cJJ cI cII mo eo dg to er n E DG tr (updR (it (fillC E DG i) k (it (fillR n E DG) i T)) i (vp_updL ((it (fillC E DG i) k (it (fillR n E DG) i T)) i) k (Int32.toInt64 (DG i))))) := hD
        refine lv_iinc (v := nI (k + 1)) (lv' := [(2, .int (nI (k + 1))), (0, .ref mo), (1, .int (nI i))]) hx hb dX2_fillTable_53 hl (k := 2) rfl (kt_inc _) (by decide) rfl (fun ls hl => ?_)
        refine lv_goto (tgt := 12) hx hb dX2_fillTable_56 (by decide) ?_
        have eq0 : it (fillC E DG i) (k + 1) (it (fillR n E DG) i T) = updR (it (fillC E DG i) k (it (fillR n E DG) i T)) i (vp_updL ((it (fillC E DG i) k (it (fillR n E DG) i T)) i) k (Int32.toInt64 (DG i))) := by show fillC E DG i k (it (fillC E DG i) k (it (fillR n E DG) i T)) = _; first | (rw [fillC, if_neg (fun z => c29 (by rw [z]))]; done) | (rw [fillC, if_pos ((nI_eq (by omega) (by omega)).mp c29)]; done)
        exact ih_k H locs ls hlt_k (by show va_P (dC, dI) vwCl (wMT cJ cJJ cI cII mo eo dg to er n E DG tr (it (fillC E DG i) (k + 1) (it (fillR n E DG) i T))) H; first | exact hP | (rw [eq0]; exact hP)) (by show va_D A (wMT cJ cJJ cI cII mo eo dg to er n E DG tr (it (fillC E DG i) (k + 1) (it (fillR n E DG) i T))); first | exact hD | (rw [eq0]; exact hD)) hS (by show lv_has ls 3 [(0, .ref mo), (1, .int (nI i)), (2, .int (nI (k + 1)))]; first | exact lv_sub hl [1, 2, 0] rfl | (rw [eq0]; exact lv_sub hl [1, 2, 0] rfl))

set_option maxHeartbeats 4000000 in
set_option maxRecDepth 100000 in
theorem c_X2_eliminate (l : Launch) (dC : Nat → ClassId) (dI : Nat → Nat → Nat) (cI cII cJ cJJ : ClassId) (mo : Nat) (eo : Nat) (dg : Nat) (to : Nat) (er : Nat → Nat) (n : Nat) (E : Nat → Nat → Int32) (DG : Nat → Int32) (tr : Nat → Nat) (T : Nat → Nat → Int64) (st : Nat) (pb : Int64) (sz : Nat) (hn : n ≤ 6) (hst : st < n) (hpb : ¬ pb = 0) : Met l yX2_eliminate wsX2_eliminate ({ frames := 0, cells := 0, slots := 0, locals := 0 }) (va_Pc [.ref mo, .int (nI st), .long pb] (PRE (dC, dI) (tyL cI cII cJ cJJ) (wMT cJ cJJ cI cII mo eo dg to er n E DG tr T) sz)) (va_Qv (fun (_ : Unit) => True) (fun _ tS => ATW (dC, dI) (tyL cI cII cJ cJJ) (va_A (wMT cJ cJJ cI cII mo eo dg to er n E DG tr T) sz) (wMT cJ cJJ cI cII mo eo dg to er n E DG tr (elimT n st pb T)) tS) (va_A (wMT cJ cJJ cI cII mo eo dg to er n E DG tr T) sz)) 0 0 (va_A (wMT cJ cJJ cI cII mo eo dg to er n E DG tr T) sz) := by
  refine Met.ofW (cc := cX2_eliminate) (maxL := 10) (ret := none) (by decide) rfl ?_
  intro p e s m args below meth c s₁ B hml hv
  obtain ⟨rfl, hsz, hP, hK, hD0⟩ := hv
  have hx := B.exec
  have hb := B.bytes
  have hr := B.returns
  have hlocks := B.notSynchronized
  have hts := atoms_spec (ws := wsX2_eliminate) B.pre
  have hown : s.vm.findClass RX2 = some m.cls := findClass_of_methodNamed B.named
  subst hsz
  have hD := hD0.self (sz := s.heap.size)
  generalize hAe : va_A (wMT cJ cJJ cI cII mo eo dg to er n E DG tr T) s.heap.size = A at hD ⊢
  have hA : ∀ q : Nat, s.heap.size ≤ q → A q := fun q h => by rw [← hAe]; exact Or.inr h
  have hS : va_S A s.heap s.heap [] := va_S.rf
  have hl := lv_entry ([.ref mo, .int (nI st), .long pb]) (n := 10) (Nat.le_of_ble_eq_true rfl)
  rw [lg_entry_eq]
  generalize (lg_sl ([.ref mo, .int (nI st), .long pb]) ++ List.replicate (10 - (lg_sl ([.ref mo, .int (nI st), .long pb])).length) Slot.unset).toArray = ls at hl ⊢
  have hl : lv_has ls 10 [(0, .ref mo), (1, .int (nI st)), (2, .long pb)] := hl
  have hi_X2 : ∀ w ∈ u_ws RX2 TX2 4, w ∈ wsX2_eliminate := by decide +kernel
  have hf_22 := hts (.fieldLink RX2 22 "Topplemoor$Moor" "table" "[[J") (by decide +kernel)
  have hf_25 := hts (.fieldLink RX2 25 "Topplemoor$Moor" "spots" "I") (by decide +kernel)
  refine lv_lload_n hx hb dX2_eliminate_0 rfl (lv_at hl 2 rfl) ?_
  refine lv_lconst (v := 0) hx hb dX2_eliminate_1 (by decide) ?_
  refine W.lcmp hx hb dX2_eliminate_2 ?_
  refine lv_if_ne (tgt := 7) hx hb dX2_eliminate_3 (by decide) (fun c3 => ?_) (fun c3 => ?_)
  · skip
    refine lv_aload_n hx hb dX2_eliminate_7 rfl (lv_at hl 0 rfl) ?_
    refine va_get (D := (dC, dI)) (ci := kX2) (v := .ref to) (C := RX2) (T := TX2) (N := 4) hx hb hts hi_X2 hown hK hP 0 rfl rfl 3 (by decide) hf_22 (fun _ h9 => h9) rfl dX2_eliminate_8 ?_
    refine lv_iload_n hx hb dX2_eliminate_11 rfl (lv_at hl 1 rfl) ?_
    refine kt_aald hx hb hK hP 10 3 rfl rfl (by omega) (by decide) dX2_eliminate_12 ?_
    refine lv_iload_n hx hb dX2_eliminate_13 rfl (lv_at hl 1 rfl) ?_
    refine kt_lald hx hb hK hP (11 + st) 2 (row_wMT_tr (by omega)) rfl (by omega) (by decide) dX2_eliminate_14 ?_
    refine lv_lstore (lv' := [(4, .long (T st st)), (0, .ref mo), (1, .int (nI st)), (2, .long pb)]) hx hb dX2_eliminate_15 hl (by decide) rfl (fun ls hl => ?_)
    refine lv_iload_n hx hb dX2_eliminate_17 rfl (lv_at hl 2 rfl) ?_
    refine lv_iconst (v := nI 1) hx hb dX2_eliminate_18 (by decide) ?_
    refine kt_iadd hx hb dX2_eliminate_19 ?_
    refine lv_istore (lv' := [(6, .int (nI (st + 1))), (4, .long (T st st)), (0, .ref mo), (1, .int (nI st)), (2, .long pb)]) hx hb dX2_eliminate_20 hl (by decide) rfl (fun ls hl => ?_)
    refine kt_for (n := (n - (st + 1))) (WD := fun (i : Nat) => wMT cJ cJJ cI cII mo eo dg to er n E DG tr (it (elimR st pb (T st st) n) i T)) (LV := fun (i : Nat) => [(0, .ref mo), (1, .int (nI st)), (2, .long pb), (4, .long (T st st)), (6, .int (nI (st + 1 + i)))]) (nL := 10) (hd := 22) ?_ hP hD hS (lv_sub hl [2, 3, 4, 1, 0] rfl)
    intro i hle_i ih_i H locs ls hP hD hS hl
    have hP : va_P (dC, dI) vwCl (wMT cJ cJJ cI cII mo eo dg to er n E DG tr (it (elimR st pb (T st st) n) i T)) H := hP
    have hD : va_D A (wMT cJ cJJ cI cII mo eo dg to er n E DG tr (it (elimR st pb (T st st) n) i T)) := hD
    have hl : lv_has ls 10 [(0, .ref mo), (1, .int (nI st)), (2, .long pb), (4, .long (T st st)), (6, .int (nI (st + 1 + i)))] := hl
    refine lv_iload hx hb dX2_eliminate_22 (lv_at hl 4 rfl) ?_
    refine lv_aload_n hx hb dX2_eliminate_24 rfl (lv_at hl 0 rfl) ?_
    refine va_get (D := (dC, dI)) (ci := kX2) (v := .int (nI n)) (C := RX2) (T := TX2) (N := 4) hx hb hts hi_X2 hown hK hP 0 rfl rfl 0 (by decide) hf_25 (fun _ h9 => h9) rfl dX2_eliminate_25 ?_
    refine kt_ige (tgt := 106) hx hb (by omega) (by omega) dX2_eliminate_28 (by decide) (fun hge_i => ?_) (fun hlt0_i => ?_)
    · have e_i : (n - (st + 1)) = i := by omega
      subst e_i
      exact kt_vret (W' := wMT cJ cJJ cI cII mo eo dg to er n E DG tr (elimT n st pb T)) hx hb hr hS hP hK hD hlocks dX2_eliminate_106
    · skip
      have hlt_i : i < (n - (st + 1)) := by omega
      refine lv_iload_n hx hb dX2_eliminate_31 rfl (lv_at hl 1 rfl) ?_
      refine lv_iconst (v := nI 1) hx hb dX2_eliminate_32 (by decide) ?_
      refine kt_iadd hx hb dX2_eliminate_33 ?_
      refine lv_istore (lv' := [(7, .int (nI (st + 1))), (0, .ref mo), (1, .int (nI st)), (2, .long pb), (4, .long (T st st)), (6, .int (nI (st + 1 + i)))]) hx hb dX2_eliminate_34 hl (by decide) rfl (fun ls hl => ?_)
      refine kt_for (n := (n - (st + 1))) (WD := fun (k : Nat) => wMT cJ cJJ cI cII mo eo dg to er n E DG tr (it (elimC st pb (T st st) (st + 1 + i)) k (it (elimR st pb (T st st) n) i T))) (LV := fun (k : Nat) => [(0, .ref mo), (1, .int (nI st)), (2, .long pb), (4, .long (T st st)), (6, .int (nI (st + 1 + i))), (7, .int (nI (st + 1 + k)))]) (nL := 10) (hd := 36) ?_ hP hD hS (lv_sub hl [1, 2, 3, 4, 5, 0] rfl)
      intro k hle_k ih_k H locs ls hP hD hS hl
      have hP : va_P (dC, dI) vwCl (wMT cJ cJJ cI cII mo eo dg to er n E DG tr (it (elimC st pb (T st st) (st + 1 + i)) k (it (elimR st pb (T st st) n) i T))) H := hP
      have hD : va_D A (wMT cJ cJJ cI cII mo eo dg to er n E DG tr (it (elimC st pb (T st st) (st + 1 + i)) k (it (elimR st pb (T st st) n) i T))) := hD
      have hl : lv_has ls 10 [(0, .ref mo), (1, .int (nI st)), (2, .long pb), (4, .long (T st st)), (6, .int (nI (st + 1 + i))), (7, .int (nI (st + 1 + k)))] := hl
      refine lv_iload hx hb dX2_eliminate_36 (lv_at hl 5 rfl) ?_
      refine lv_aload_n hx hb dX2_eliminate_38 rfl (lv_at hl 0 rfl) ?_
      refine va_get (D := (dC, dI)) (ci := kX2) (v := .int (nI n)) (C := RX2) (T := TX2) (N := 4) hx hb hts hi_X2 hown hK hP 0 rfl rfl 0 (by decide) hf_25 (fun _ h9 => h9) rfl dX2_eliminate_39 ?_
      refine kt_ige (tgt := 100) hx hb (by omega) (by omega) dX2_eliminate_42 (by decide) (fun hge_k => ?_) (fun hlt0_k => ?_)
      · have e_k : (n - (st + 1)) = k := by omega
        subst e_k
        refine lv_iinc (v := nI (st + 1 + i + 1)) (lv' := [(6, .int (nI ((st + 1 + i) + 1))), (0, .ref mo), (1, .int (nI st)), (2, .long pb), (4, .long (T st st)), (7, .int (nI (st + 1 + (n - (st + 1)))))]) hx hb dX2_eliminate_100 hl (k := 4) rfl (kt_inc _) (by decide) rfl (fun ls hl => ?_)
        refine lv_goto (tgt := 22) hx hb dX2_eliminate_103 (by decide) ?_
        exact ih_i H locs ls hlt_i hP hD hS (lv_sub hl [1, 2, 3, 4, 0] rfl)
      · skip
        have hlt_k : k < (n - (st + 1)) := by omega
        refine lv_aload_n hx hb dX2_eliminate_45 rfl (lv_at hl 0 rfl) ?_
        refine va_get (D := (dC, dI)) (ci := kX2) (v := .ref to) (C := RX2) (T := TX2) (N := 4) hx hb hts hi_X2 hown hK hP 0 rfl rfl 3 (by decide) hf_22 (fun _ h9 => h9) rfl dX2_eliminate_46 ?_
        refine lv_iload hx hb dX2_eliminate_49 (lv_at hl 4 rfl) ?_
        refine kt_aald hx hb hK hP 10 3 rfl rfl (by omega) (by decide) dX2_eliminate_51 ?_
        refine lv_iload hx hb dX2_eliminate_52 (lv_at hl 5 rfl) ?_
        refine kt_lald hx hb hK hP (11 + (st + 1 + i)) 2 (row_wMT_tr (by omega)) rfl (by omega) (by decide) dX2_eliminate_54 ?_
        refine lv_lload hx hb dX2_eliminate_55 (lv_at hl 3 rfl) ?_
        refine lv_lmul hx hb dX2_eliminate_57 ?_
        refine lv_aload_n hx hb dX2_eliminate_58 rfl (lv_at hl 0 rfl) ?_
        refine va_get (D := (dC, dI)) (ci := kX2) (v := .ref to) (C := RX2) (T := TX2) (N := 4) hx hb hts hi_X2 hown hK hP 0 rfl rfl 3 (by decide) hf_22 (fun _ h9 => h9) rfl dX2_eliminate_59 ?_
        refine lv_iload hx hb dX2_eliminate_62 (lv_at hl 4 rfl) ?_
        refine kt_aald hx hb hK hP 10 3 rfl rfl (by omega) (by decide) dX2_eliminate_64 ?_
        refine lv_iload_n hx hb dX2_eliminate_65 rfl (lv_at hl 1 rfl) ?_
        refine kt_lald hx hb hK hP (11 + (st + 1 + i)) 2 (row_wMT_tr (by omega)) rfl (by omega) (by decide) dX2_eliminate_66 ?_
        refine lv_aload_n hx hb dX2_eliminate_67 rfl (lv_at hl 0 rfl) ?_
        refine va_get (D := (dC, dI)) (ci := kX2) (v := .ref to) (C := RX2) (T := TX2) (N := 4) hx hb hts hi_X2 hown hK hP 0 rfl rfl 3 (by decide) hf_22 (fun _ h9 => h9) rfl dX2_eliminate_68 ?_
        refine lv_iload_n hx hb dX2_eliminate_71 rfl (lv_at hl 1 rfl) ?_
        refine kt_aald hx hb hK hP 10 3 rfl rfl (by omega) (by decide) dX2_eliminate_72 ?_
        refine lv_iload hx hb dX2_eliminate_73 (lv_at hl 5 rfl) ?_
        refine kt_lald hx hb hK hP (11 + st) 2 (row_wMT_tr (by omega)) rfl (by omega) (by decide) dX2_eliminate_75 ?_
        refine lv_lmul hx hb dX2_eliminate_76 ?_
        refine lv_lsub hx hb dX2_eliminate_77 ?_
        refine lv_lstore (lv' := [(8, .long ((((it (elimC st pb (T st st) (st + 1 + i)) k (it (elimR st pb (T st st) n) i T)) (st + 1 + i) (st + 1 + k)) * (T st st)) - (((it (elimC st pb (T st st) (st + 1 + i)) k (it (elimR st pb (T st st) n) i T)) (st + 1 + i) st) * ((it (elimC st pb (T st st) (st + 1 + i)) k (it (elimR st pb (T st st) n) i T)) st (st + 1 + k))))), (0, .ref mo), (1, .int (nI st)), (2, .long pb), (4, .long (T st st)), (6, .int (nI (st + 1 + i))), (7, .int (nI (st + 1 + k)))]) hx hb dX2_eliminate_78 hl (by decide) rfl (fun ls hl => ?_)
        refine lv_aload_n hx hb dX2_eliminate_80 rfl (lv_at hl 1 rfl) ?_
        refine va_get (D := (dC, dI)) (ci := kX2) (v := .ref to) (C := RX2) (T := TX2) (N := 4) hx hb hts hi_X2 hown hK hP 0 rfl rfl 3 (by decide) hf_22 (fun _ h9 => h9) rfl dX2_eliminate_81 ?_
        refine lv_iload hx hb dX2_eliminate_84 (lv_at hl 5 rfl) ?_
        refine kt_aald hx hb hK hP 10 3 rfl rfl (by omega) (by decide) dX2_eliminate_86 ?_
        refine lv_iload hx hb dX2_eliminate_87 (lv_at hl 6 rfl) ?_
        refine lv_lload hx hb dX2_eliminate_89 (lv_at hl 0 rfl) ?_
        refine lv_lload_n hx hb dX2_eliminate_91 rfl (lv_at hl 3 rfl) ?_
        refine lv_ldiv hx hb dX2_eliminate_92 (hpb) ?_
        refine kt_last hx hb hK hP hD hS (11 + (st + 1 + i)) 2 (row_wMT_tr (by omega)) rfl (by omega) (by decide) dX2_eliminate_93 (fun H locs hP hD hS => ?_)
        rw [set_wMT_tr (by omega)] at hP hD
        have hP : va_P (dC, dI) vwCl (wMT cJ cJJ cI cII mo eo dg to er n E DG tr (updR (it (elimC st pb (T st st) (st + 1 + i)) k (it (elimR st pb (T st st) n) i T)) (st + 1 + i) (vp_updL ((it (elimC st pb (T st st) (st + 1 + i)) k (it (elimR st pb (T st st) n) i T)) (st + 1 + i)) (st + 1 + k) (((((it (elimC st pb (T st st) (st + 1 + i)) k (it (elimR st pb (T st st) n) i T)) (st + 1 + i) (st + 1 + k)) * (T st st)) - (((it (elimC st pb (T st st) (st + 1 + i)) k (it (elimR st pb (T st st) n) i T)) (st + 1 + i) st) * ((it (elimC st pb (T st st) (st + 1 + i)) k (it (elimR st pb (T st st) n) i T)) st (st + 1 + k)))) / pb)))) H := hP
        have hD : va_D A (wMT cJ cJJ cI cII mo eo dg to er n E DG tr (updR (it (elimC st pb (T st st) (st + 1 + i)) k (it (elimR st pb (T st st) n) i T)) (st + 1 + i) (vp_updL ((it (elimC st pb (T st st) (st + 1 + i)) k (it (elimR st pb (T st st) n) i T)) (st + 1 + i)) (st + 1 + k) (((((it (elimC st pb (T st st) (st + 1 + i)) k (it (elimR st pb (T st st) n) i T)) (st + 1 + i) (st + 1 + k)) * (T st st)) - (((it (elimC st pb (T st st) (st + 1 + i)) k (it (elimR st pb (T st st) n) i T)) (st + 1 + i) st) * ((it (elimC st pb (T st st) (st + 1 + i)) k (it (elimR st pb (T st st) n) i T)) st (st + 1 + k)))) / pb)))) := hD
        refine lv_iinc (v := nI (st + 1 + k + 1)) (lv' := [(7, .int (nI ((st + 1 + k) + 1))), (8, .long ((((it (elimC st pb (T st st) (st + 1 + i)) k (it (elimR st pb (T st st) n) i T)) (st + 1 + i) (st + 1 + k)) * (T st st)) - (((it (elimC st pb (T st st) (st + 1 + i)) k (it (elimR st pb (T st st) n) i T)) (st + 1 + i) st) * ((it (elimC st pb (T st st) (st + 1 + i)) k (it (elimR st pb (T st st) n) i T)) st (st + 1 + k))))), (0, .ref mo), (1, .int (nI st)), (2, .long pb), (4, .long (T st st)), (6, .int (nI (st + 1 + i)))]) hx hb dX2_eliminate_94 hl (k := 6) rfl (kt_inc _) (by decide) rfl (fun ls hl => ?_)
        refine lv_goto (tgt := 36) hx hb dX2_eliminate_97 (by decide) ?_
        exact ih_k H locs ls hlt_k hP hD hS (lv_sub hl [2, 3, 4, 5, 6, 0] rfl)
  · exact absurd ((lg_cmp_eq _ _).mp c3) hpb

theorem sw_wMT_wMT_0 {cJ : ClassId} {cJJ : ClassId} {cI : ClassId} {cII : ClassId} {mo : Nat} {eo : Nat} {dg : Nat} {to : Nat} {er : Nat → Nat} {n : Nat} {E : Nat → Nat → Int32} {DG : Nat → Int32} {tr : Nat → Nat} {T : Nat → Nat → Int64} {n' : Nat} {E' : Nat → Nat → Int32} {DG' : Nat → Int32} {T' : Nat → Nat → Int64} : kt_sw (wMT cJ cJJ cI cII mo eo dg to er n E DG tr T) (wMT cJ cJJ cI cII mo eo dg to er n' E' DG' tr T') (List.range' 0 17) (wMT cJ cJJ cI cII mo eo dg to er n E DG tr T) (wMT cJ cJJ cI cII mo eo dg to er n' E' DG' tr T') := kt_sw_all rfl (by decide +kernel) rfl
set_option maxHeartbeats 4000000 in
set_option maxRecDepth 100000 in
theorem c_X2_trees (l : Launch) (dC : Nat → ClassId) (dI : Nat → Nat → Nat) (cI cII cJ cJJ : ClassId) (mo : Nat) (eo : Nat) (dg : Nat) (to : Nat) (er : Nat → Nat) (n : Nat) (E : Nat → Nat → Int32) (DG : Nat → Int32) (tr : Nat → Nat) (T : Nat → Nat → Int64) (sz : Nat) (hn : n ≤ 6) : Met l yX2_trees wsX2_trees ({ frames := 1, cells := 0, slots := 0, locals := 29 }) (va_Pc [.ref mo] (PRE (dC, dI) (tyL cI cII cJ cJJ) (wMT cJ cJJ cI cII mo eo dg to er n E DG tr T) sz)) (va_Ql (fun (r' : Int64) (_ : Unit) => r' = (treeF n E DG T).2) (fun _ tS => ATW (dC, dI) (tyL cI cII cJ cJJ) (va_A (wMT cJ cJJ cI cII mo eo dg to er n E DG tr T) sz) (wMT cJ cJJ cI cII mo eo dg to er n E DG tr ((treeF n E DG T).1)) tS) (va_A (wMT cJ cJJ cI cII mo eo dg to er n E DG tr T) sz)) 0 0 (va_A (wMT cJ cJJ cI cII mo eo dg to er n E DG tr T) sz) := by
  refine Met.ofW (cc := cX2_trees) (maxL := 4) (ret := (some .long)) (by decide) rfl ?_
  intro p e s m args below meth c s₁ B hml hv
  obtain ⟨rfl, hsz, hP, hK, hD0⟩ := hv
  have hx := B.exec
  have hb := B.bytes
  have hr := B.returns
  have hlocks := B.notSynchronized
  have hts := atoms_spec (ws := wsX2_trees) B.pre
  have hown : s.vm.findClass RX2 = some m.cls := findClass_of_methodNamed B.named
  subst hsz
  have hD := hD0.self (sz := s.heap.size)
  generalize hAe : va_A (wMT cJ cJJ cI cII mo eo dg to er n E DG tr T) s.heap.size = A at hD ⊢
  have hA : ∀ q : Nat, s.heap.size ≤ q → A q := fun q h => by rw [← hAe]; exact Or.inr h
  have hS : va_S A s.heap s.heap [] := va_S.rf
  have hl := lv_entry ([.ref mo]) (n := 4) (Nat.le_of_ble_eq_true rfl)
  rw [lg_entry_eq]
  generalize (lg_sl ([.ref mo]) ++ List.replicate (4 - (lg_sl ([.ref mo])).length) Slot.unset).toArray = ls at hl ⊢
  have hl : lv_has ls 4 [(0, .ref mo)] := hl
  have hi_X2 : ∀ w ∈ u_ws RX2 TX2 4, w ∈ wsX2_trees := by decide +kernel
  have hf_25 := hts (.fieldLink RX2 25 "Topplemoor$Moor" "spots" "I") (by decide +kernel)
  have hf_22 := hts (.fieldLink RX2 22 "Topplemoor$Moor" "table" "[[J") (by decide +kernel)
  refine lv_aload_n hx hb dX2_trees_0 rfl (lv_at hl 0 rfl) ?_
  refine kt_callv (w' := wMT cJ cJJ cI cII mo eo dg to er n E DG tr (it (fillR n E DG) n T)) (rest := []) (As := []) ⟨hx, hb, hml, hown, hts⟩ (c_X2_fillTable l dC dI cI cII cJ cJJ mo eo dg to er n E DG tr T _ (hn)) (cwV 0 hts gX2_trees_X2_fillTable rfl rfl rfl (by decide +kernel) ⟨Nat.le_of_ble_eq_true rfl, Nat.le_of_ble_eq_true rfl⟩) hK hP hD hS hA (List.range' 0 17) sw_wMT_wMT_0 rfl 0 kX2 rfl rfl rfl rfl rfl hl.1 (Nat.le_of_ble_eq_true rfl) dX2_trees_1 ⟨Nat.zero_le _, Nat.zero_le _⟩ (fun H locs hP hD hS => ?_)
  refine lv_lconst (v := 1) hx hb dX2_trees_4 (by decide) ?_
  refine lv_lstore_n (lv' := [(1, .long 1), (0, .ref mo)]) hx hb dX2_trees_5 rfl hl (by decide) rfl (fun ls hl => ?_)
  refine lv_iconst (v := nI 0) hx hb dX2_trees_6 (by decide) ?_
  refine lv_istore_n (lv' := [(3, .int (nI 0)), (1, .long 1), (0, .ref mo)]) hx hb dX2_trees_7 rfl hl (by decide) rfl (fun ls hl => ?_)
  refine kt_for (n := n) (WD := fun (i : Nat) => wMT cJ cJJ cI cII mo eo dg to er n E DG tr ((it (treeS n) i (it (fillR n E DG) n T, 1)).1)) (LV := fun (i : Nat) => [(0, .ref mo), (1, .long ((it (treeS n) i (it (fillR n E DG) n T, 1)).2)), (3, .int (nI i))]) (nL := 4) (hd := 8) ?_ hP hD hS (lv_sub hl [2, 1, 0] rfl)
  intro i hle_i ih_i H locs ls hP hD hS hl
  have hP : va_P (dC, dI) vwCl (wMT cJ cJJ cI cII mo eo dg to er n E DG tr ((it (treeS n) i (it (fillR n E DG) n T, 1)).1)) H := hP
  have hD : va_D A (wMT cJ cJJ cI cII mo eo dg to er n E DG tr ((it (treeS n) i (it (fillR n E DG) n T, 1)).1)) := hD
  have hl : lv_has ls 4 [(0, .ref mo), (1, .long ((it (treeS n) i (it (fillR n E DG) n T, 1)).2)), (3, .int (nI i))] := hl
  refine lv_iload_n hx hb dX2_trees_8 rfl (lv_at hl 2 rfl) ?_
  refine lv_aload_n hx hb dX2_trees_9 rfl (lv_at hl 0 rfl) ?_
  refine va_get (D := (dC, dI)) (ci := kX2) (v := .int (nI n)) (C := RX2) (T := TX2) (N := 4) hx hb hts hi_X2 hown hK hP 0 rfl rfl 0 (by decide) hf_25 (fun _ h9 => h9) rfl dX2_trees_10 ?_
  refine kt_ige (tgt := 45) hx hb (by omega) (by omega) dX2_trees_13 (by decide) (fun hge_i => ?_) (fun hlt_i => ?_)
  · have e_i : n = i := by omega
    subst e_i
    refine lv_lload_n hx hb dX2_trees_45 rfl (lv_at hl 1 rfl) ?_
    exact kt_lret (W' := wMT cJ cJJ cI cII mo eo dg to er n E DG tr ((treeF n E DG T).1)) hx hb hr hS hP hK hD (rfl) hlocks dX2_trees_46
  · skip
    refine lv_lload_n hx hb dX2_trees_16 rfl (lv_at hl 1 rfl) ?_
    refine lv_lconst (v := 0) hx hb dX2_trees_17 (by decide) ?_
    refine W.lcmp hx hb dX2_trees_18 ?_
    refine lv_if_ne (tgt := 24) hx hb dX2_trees_19 (by decide) (fun c19 => ?_) (fun c19 => ?_)
    · skip
      refine lv_aload_n hx hb dX2_trees_24 rfl (lv_at hl 0 rfl) ?_
      refine lv_iload_n hx hb dX2_trees_25 rfl (lv_at hl 2 rfl) ?_
      refine lv_lload_n hx hb dX2_trees_26 rfl (lv_at hl 1 rfl) ?_
      refine kt_callv (w' := wMT cJ cJJ cI cII mo eo dg to er n E DG tr (elimT n i ((it (treeS n) i (it (fillR n E DG) n T, 1)).2) ((it (treeS n) i (it (fillR n E DG) n T, 1)).1))) (rest := []) (As := [.int (nI i), .long ((it (treeS n) i (it (fillR n E DG) n T, 1)).2)]) ⟨hx, hb, hml, hown, hts⟩ (c_X2_eliminate l dC dI cI cII cJ cJJ mo eo dg to er n E DG tr ((it (treeS n) i (it (fillR n E DG) n T, 1)).1) i ((it (treeS n) i (it (fillR n E DG) n T, 1)).2) _ (hn) (hlt_i) (fun z => c19 ((lg_cmp_eq _ _).mpr z))) (cwV 2 hts gX2_trees_X2_eliminate rfl rfl rfl (by decide +kernel) ⟨Nat.le_of_ble_eq_true rfl, Nat.le_of_ble_eq_true rfl⟩) hK hP hD hS hA (List.range' 0 17) sw_wMT_wMT_0 rfl 0 kX2 rfl rfl rfl rfl rfl hl.1 (Nat.le_of_ble_eq_true rfl) dX2_trees_27 ⟨Nat.zero_le _, Nat.zero_le _⟩ (fun H locs hP hD hS => ?_)
      refine lv_aload_n hx hb dX2_trees_30 rfl (lv_at hl 0 rfl) ?_
      refine va_get (D := (dC, dI)) (ci := kX2) (v := .ref to) (C := RX2) (T := TX2) (N := 4) hx hb hts hi_X2 hown hK hP 0 rfl rfl 3 (by decide) hf_22 (fun _ h9 => h9) rfl dX2_trees_31 ?_
      refine lv_iload_n hx hb dX2_trees_34 rfl (lv_at hl 2 rfl) ?_
      refine kt_aald hx hb hK hP 10 3 rfl rfl (by omega) (by decide) dX2_trees_35 ?_
      refine lv_iload_n hx hb dX2_trees_36 rfl (lv_at hl 2 rfl) ?_
      refine kt_lald hx hb hK hP (11 + i) 2 (row_wMT_tr (by omega)) rfl (by omega) (by decide) dX2_trees_37 ?_
      refine lv_lstore_n (lv' := [(1, .long ((elimT n i ((it (treeS n) i (it (fillR n E DG) n T, 1)).2) ((it (treeS n) i (it (fillR n E DG) n T, 1)).1)) i i)), (0, .ref mo), (3, .int (nI i))]) hx hb dX2_trees_38 rfl hl (by decide) rfl (fun ls hl => ?_)
      refine lv_iinc (v := nI (i + 1)) (lv' := [(3, .int (nI (i + 1))), (1, .long ((elimT n i ((it (treeS n) i (it (fillR n E DG) n T, 1)).2) ((it (treeS n) i (it (fillR n E DG) n T, 1)).1)) i i)), (0, .ref mo)]) hx hb dX2_trees_39 hl (k := 2) rfl (kt_inc _) (by decide) rfl (fun ls hl => ?_)
      refine lv_goto (tgt := 8) hx hb dX2_trees_42 (by decide) ?_
      have eq0 : it (treeS n) (i + 1) (it (fillR n E DG) n T, 1) = (elimT n i ((it (treeS n) i (it (fillR n E DG) n T, 1)).2) ((it (treeS n) i (it (fillR n E DG) n T, 1)).1), (elimT n i ((it (treeS n) i (it (fillR n E DG) n T, 1)).2) ((it (treeS n) i (it (fillR n E DG) n T, 1)).1)) i i) := by exact if_neg (fun z => c19 ((lg_cmp_eq _ _).mpr z))
      exact ih_i H locs ls hlt_i (by show va_P (dC, dI) vwCl (wMT cJ cJJ cI cII mo eo dg to er n E DG tr ((it (treeS n) (i + 1) (it (fillR n E DG) n T, 1)).1)) H; first | exact hP | (rw [eq0]; exact hP)) (by show va_D A (wMT cJ cJJ cI cII mo eo dg to er n E DG tr ((it (treeS n) (i + 1) (it (fillR n E DG) n T, 1)).1)); first | exact hD | (rw [eq0]; exact hD)) hS (by show lv_has ls 4 [(0, .ref mo), (1, .long ((it (treeS n) (i + 1) (it (fillR n E DG) n T, 1)).2)), (3, .int (nI (i + 1)))]; first | exact lv_sub hl [2, 1, 0] rfl | (rw [eq0]; exact lv_sub hl [2, 1, 0] rfl))
    · skip
      refine lv_lconst (v := 0) hx hb dX2_trees_22 (by decide) ?_
      have z := (lg_cmp_eq _ _).mp c19
      have e : treeF n E DG T = it (treeS n) i (it (fillR n E DG) n T, 1) := it_stable (fun k _ => if_pos z) hle_i
      exact kt_lret (W' := wMT cJ cJJ cI cII mo eo dg to er n E DG tr ((treeF n E DG T).1)) hx hb hr hS (by rw [e]; exact hP) hK (by rw [e]; exact hD) (by rw [e]; exact z.symm) hlocks dX2_trees_23

theorem sw_wHM_wM_0 {h : Nat} {g : Nat} {t : Nat} {G : Nat → Int32} {T : Nat → Int32} {cI : ClassId} {cII : ClassId} {mo : Nat} {eo : Nat} {dg : Nat} {to : Nat} {er : Nat → Nat} {n : Nat} {E : Nat → Nat → Int32} {DG : Nat → Int32} {n' : Nat} {E' : Nat → Nat → Int32} {DG' : Nat → Int32} : kt_sw (wHM h g t G T cI cII mo eo dg to er n E DG) (wHM h g t G T cI cII mo eo dg to er n' E' DG') [3, 4, 5, 6, 7, 8, 9, 10, 11, 12] (wM cI cII mo eo dg to er n E DG) (wM cI cII mo eo dg to er n' E' DG') := ⟨rfl, ⟨[none, none, none, some 0, some 1, some 2, some 3, some 4, some 5, some 6, some 7, some 8, some 9], rfl, by decide +kernel⟩, rfl⟩
set_option maxHeartbeats 4000000 in
set_option maxRecDepth 100000 in
theorem c_X0_nextToBurn (l : Launch) (dC : Nat → ClassId) (dI : Nat → Nat → Nat) (cI cII cJ cJJ : ClassId) (h : Nat) (g : Nat) (t : Nat) (G : Nat → Int32) (T : Nat → Int32) (mo : Nat) (eo : Nat) (dg : Nat) (to : Nat) (er : Nat → Nat) (n : Nat) (E : Nat → Nat → Int32) (DG : Nat → Int32) (b : Int32) (sz : Nat) (hn : n ≤ 6) : Met l yX0_nextToBurn wsX0_nextToBurn ({ frames := 1, cells := 0, slots := 0, locals := 24 }) (va_Pc [.ref h, .int b] (PRE (dC, dI) (tyL cI cII cJ cJJ) (wHM h g t G T cI cII mo eo dg to er n E DG) sz)) (va_Qi (fun (r' : Int32) (_ : Unit) => r' = nextF n E G b) (fun _ tS => ATW (dC, dI) (tyL cI cII cJ cJJ) (va_A (wHM h g t G T cI cII mo eo dg to er n E DG) sz) (wHM h g t G T cI cII mo eo dg to er n E DG) tS) (va_A (wHM h g t G T cI cII mo eo dg to er n E DG) sz)) 0 0 (va_A (wHM h g t G T cI cII mo eo dg to er n E DG) sz) := by
  refine Met.ofW (cc := cX0_nextToBurn) (maxL := 4) (ret := (some .int)) (by decide) rfl ?_
  intro p e s m args below meth c s₁ B hml hv
  obtain ⟨rfl, hsz, hP, hK, hD0⟩ := hv
  have hx := B.exec
  have hb := B.bytes
  have hr := B.returns
  have hlocks := B.notSynchronized
  have hts := atoms_spec (ws := wsX0_nextToBurn) B.pre
  have hown : s.vm.findClass RX0 = some m.cls := findClass_of_methodNamed B.named
  subst hsz
  have hD := hD0.self (sz := s.heap.size)
  generalize hAe : va_A (wHM h g t G T cI cII mo eo dg to er n E DG) s.heap.size = A at hD ⊢
  have hA : ∀ q : Nat, s.heap.size ≤ q → A q := fun q h => by rw [← hAe]; exact Or.inr h
  have hS : va_S A s.heap s.heap [] := va_S.rf
  have hl := lv_entry ([.ref h, .int b]) (n := 4) (Nat.le_of_ble_eq_true rfl)
  rw [lg_entry_eq]
  generalize (lg_sl ([.ref h, .int b]) ++ List.replicate (4 - (lg_sl ([.ref h, .int b])).length) Slot.unset).toArray = ls at hl ⊢
  have hl : lv_has ls 4 [(0, .ref h), (1, .int b)] := hl
  have hi_X0 : ∀ w ∈ u_ws RX0 TX0 3, w ∈ wsX0_nextToBurn := by decide +kernel
  have hf_18 := hts (.fieldLink RX0 18 "Topplemoor$Heap" "moor" "LTopplemoor$Moor;") (by decide +kernel)
  have hi_X2 : ∀ w ∈ u_ws RX2 TX2 4, w ∈ wsX0_nextToBurn := by decide +kernel
  have hf_28 := hts (.fieldLink RX0 28 "Topplemoor$Moor" "spots" "I") (by decide +kernel)
  have hf_9 := hts (.fieldLink RX0 9 "Topplemoor$Heap" "grains" "[I") (by decide +kernel)
  refine lv_iconst (v := nI 0) hx hb dX0_nextToBurn_0 (by decide) ?_
  refine lv_istore_n (lv' := [(2, .int (nI 0)), (0, .ref h), (1, .int b)]) hx hb dX0_nextToBurn_1 rfl hl (by decide) rfl (fun ls hl => ?_)
  refine kt_forq (n := n) (q := fun (i : Nat) => (fstO (burnB E G b) i = none)) (WD := fun (i : Nat) => wHM h g t G T cI cII mo eo dg to er n E DG) (LV := fun (i : Nat) => [(0, .ref h), (1, .int b), (2, .int (nI i))]) (nL := 4) (hd := 2) ?_ (rfl) hP hD hS (lv_sub hl [1, 2, 0] rfl)
  intro i hle_i hq_i ih_i H locs ls hP hD hS hl
  have hq_i : (fstO (burnB E G b) i = none) := hq_i
  have hq := hq_i
  have hP : va_P (dC, dI) vwCl (wHM h g t G T cI cII mo eo dg to er n E DG) H := hP
  have hD : va_D A (wHM h g t G T cI cII mo eo dg to er n E DG) := hD
  have hl : lv_has ls 4 [(0, .ref h), (1, .int b), (2, .int (nI i))] := hl
  refine lv_iload_n hx hb dX0_nextToBurn_2 rfl (lv_at hl 2 rfl) ?_
  refine lv_aload_n hx hb dX0_nextToBurn_3 rfl (lv_at hl 0 rfl) ?_
  refine va_get (D := (dC, dI)) (ci := kX0) (v := .ref mo) (C := RX0) (T := TX0) (N := 3) hx hb hts hi_X0 hown hK hP 0 rfl rfl 2 (by decide) hf_18 (fun _ h9 => h9) rfl dX0_nextToBurn_4 ?_
  refine va_get (D := (dC, dI)) (ci := kX2) (v := .int (nI n)) (C := RX2) (T := TX2) (N := 4) hx hb hts hi_X2 hown hK hP 3 rfl rfl 0 (by decide) hf_28 (fun _ h9 => h9) rfl dX0_nextToBurn_7 ?_
  refine kt_ige (tgt := 57) hx hb (by omega) (by omega) dX0_nextToBurn_10 (by decide) (fun hge_i => ?_) (fun hlt_i => ?_)
  · have e_i : n = i := by omega
    subst e_i
    refine lv_iconst (v := (-1)) hx hb dX0_nextToBurn_57 (by decide) ?_
    exact kt_iret (W' := wHM h g t G T cI cII mo eo dg to er n E DG) hx hb hr hS hP hK hD (by unfold nextF; rw [hq]; rfl) hlocks dX0_nextToBurn_58
  · skip
    refine lv_iload_n hx hb dX0_nextToBurn_13 rfl (lv_at hl 1 rfl) ?_
    refine lv_iload_n hx hb dX0_nextToBurn_14 rfl (lv_at hl 2 rfl) ?_
    refine lv_ishr hx hb dX0_nextToBurn_15 ?_
    refine lv_iconst (v := 1) hx hb dX0_nextToBurn_16 (by decide) ?_
    refine lv_iand hx hb dX0_nextToBurn_17 ?_
    refine lv_if_eq (tgt := 25) hx hb dX0_nextToBurn_18 (by decide) (fun c18 => ?_) (fun c18 => ?_)
    · skip
      refine lv_iconst (v := nI 0) hx hb dX0_nextToBurn_25 (by decide) ?_
      refine lv_istore_n (lv' := [(3, .int (nI 0)), (0, .ref h), (1, .int b), (2, .int (nI i))]) hx hb dX0_nextToBurn_26 rfl hl (by decide) rfl (fun ls hl => ?_)
      refine lv_iload_n hx hb dX0_nextToBurn_27 rfl (lv_at hl 0 rfl) ?_
      refine lv_if_ne (tgt := 51) hx hb dX0_nextToBurn_28 (by decide) (fun c28 => ?_) (fun c28 => ?_)
      · exact absurd c28 (by decide)
      · skip
        refine lv_aload_n hx hb dX0_nextToBurn_31 rfl (lv_at hl 1 rfl) ?_
        refine va_get (D := (dC, dI)) (ci := kX0) (v := .ref mo) (C := RX0) (T := TX0) (N := 3) hx hb hts hi_X0 hown hK hP 0 rfl rfl 2 (by decide) hf_18 (fun _ h9 => h9) rfl dX0_nextToBurn_32 ?_
        refine lv_iload_n hx hb dX0_nextToBurn_35 rfl (lv_at hl 3 rfl) ?_
        refine lv_iload_n hx hb dX0_nextToBurn_36 rfl (lv_at hl 2 rfl) ?_
        refine kt_calli (w' := wHM h g t G T cI cII mo eo dg to er n E DG) (rest := []) (As := [.int (nI i), .int b]) ⟨hx, hb, hml, hown, hts⟩ (c_X2_edgesInto l dC dI cI cII cJ cJJ mo eo dg to er n E DG i b _ (by omega)) (cwV 2 hts gX0_nextToBurn_X2_edgesInto rfl rfl rfl (by decide +kernel) ⟨Nat.le_of_ble_eq_true rfl, Nat.le_of_ble_eq_true rfl⟩) hK hP hD hS hA [3, 4, 5, 6, 7, 8, 9, 10, 11, 12] sw_wHM_wM_0 rfl 3 kX2 rfl rfl rfl rfl rfl hl.1 (Nat.le_of_ble_eq_true rfl) dX0_nextToBurn_37 ⟨Nat.zero_le _, Nat.zero_le _⟩ (fun H locs hP hD hS => ?_)
        refine lv_aload_n hx hb dX0_nextToBurn_40 rfl (lv_at hl 1 rfl) ?_
        refine va_get (D := (dC, dI)) (ci := kX0) (v := .ref g) (C := RX0) (T := TX0) (N := 3) hx hb hts hi_X0 hown hK hP 0 rfl rfl 0 (by decide) hf_9 (fun _ h9 => h9) rfl dX0_nextToBurn_41 ?_
        refine lv_iload_n hx hb dX0_nextToBurn_44 rfl (lv_at hl 3 rfl) ?_
        refine kt_iald hx hb hK hP 1 0 rfl rfl (by omega) (by decide) dX0_nextToBurn_45 ?_
        refine lv_icmp_le (tgt := 51) hx hb dX0_nextToBurn_46 (by decide) (fun c46 => ?_) (fun c46 => ?_)
        · skip
          refine lv_iinc (v := nI (i + 1)) (lv' := [(2, .int (nI (i + 1))), (3, .int (nI 0)), (0, .ref h), (1, .int b)]) hx hb dX0_nextToBurn_51 hl (k := 3) rfl (kt_inc _) (by decide) rfl (fun ls hl => ?_)
          refine lv_goto (tgt := 2) hx hb dX0_nextToBurn_54 (by decide) ?_
          exact ih_i H locs ls hlt_i (by rw [fstO_succ hq, if_neg (by first | (simp [burnB, bitB, c18]; done) | (simp [burnB, c46]; done))]) hP hD hS (lv_sub hl [2, 3, 0] rfl)
        · skip
          refine lv_iload_n hx hb dX0_nextToBurn_49 rfl (lv_at hl 3 rfl) ?_
          exact kt_iret (W' := wHM h g t G T cI cII mo eo dg to er n E DG) hx hb hr hS hP hK hD (by unfold nextF; rw [fstO_some hlt_i hq (by simp [burnB, bitB, c18, c46])]; rfl) hlocks dX0_nextToBurn_50
    · skip
      refine lv_iconst (v := 1) hx hb dX0_nextToBurn_21 (by decide) ?_
      refine lv_goto (tgt := 26) hx hb dX0_nextToBurn_22 (by decide) ?_
      refine lv_istore_n (lv' := [(3, .int 1), (0, .ref h), (1, .int b), (2, .int (nI i))]) hx hb dX0_nextToBurn_26 rfl hl (by decide) rfl (fun ls hl => ?_)
      refine lv_iload_n hx hb dX0_nextToBurn_27 rfl (lv_at hl 0 rfl) ?_
      refine lv_if_ne (tgt := 51) hx hb dX0_nextToBurn_28 (by decide) (fun c28 => ?_) (fun c28 => ?_)
      · skip
        refine lv_iinc (v := nI (i + 1)) (lv' := [(2, .int (nI (i + 1))), (3, .int 1), (0, .ref h), (1, .int b)]) hx hb dX0_nextToBurn_51 hl (k := 3) rfl (kt_inc _) (by decide) rfl (fun ls hl => ?_)
        refine lv_goto (tgt := 2) hx hb dX0_nextToBurn_54 (by decide) ?_
        exact ih_i H locs ls hlt_i (by rw [fstO_succ hq, if_neg (by first | (simp [burnB, bitB, c18]; done) | (simp [burnB, c46]; done))]) hP hD hS (lv_sub hl [2, 3, 0] rfl)
      · exact absurd c28 (by decide)

set_option maxHeartbeats 4000000 in
set_option maxRecDepth 100000 in
theorem c_X0_burningOrder (l : Launch) (dC : Nat → ClassId) (dI : Nat → Nat → Nat) (cI cII cJ cJJ : ClassId) (h : Nat) (g : Nat) (t : Nat) (G : Nat → Int32) (T : Nat → Int32) (mo : Nat) (eo : Nat) (dg : Nat) (to : Nat) (er : Nat → Nat) (n : Nat) (E : Nat → Nat → Int32) (DG : Nat → Int32) (sz : Nat) (hn : n ≤ 6) : Met l yX0_burningOrder wsX0_burningOrder ({ frames := 2, cells := 0, slots := 0, locals := 47 }) (va_Pc [.ref h] (PRE (dC, dI) (tyL cI cII cJ cJJ) (wHM h g t G T cI cII mo eo dg to er n E DG) sz)) (va_Qi (fun (r' : Int32) (_ : Unit) => r' = fireF n E G) (fun _ tS => ATW (dC, dI) (tyL cI cII cJ cJJ) (va_A (wHM h g t G T cI cII mo eo dg to er n E DG) sz) (wHM h g t G T cI cII mo eo dg to er n E DG) tS) (va_A (wHM h g t G T cI cII mo eo dg to er n E DG) sz)) 0 0 (va_A (wHM h g t G T cI cII mo eo dg to er n E DG) sz) := by
  refine Met.ofW (cc := cX0_burningOrder) (maxL := 5) (ret := (some .int)) (by decide) rfl ?_
  intro p e s m args below meth c s₁ B hml hv
  obtain ⟨rfl, hsz, hP, hK, hD0⟩ := hv
  have hx := B.exec
  have hb := B.bytes
  have hr := B.returns
  have hlocks := B.notSynchronized
  have hts := atoms_spec (ws := wsX0_burningOrder) B.pre
  have hown : s.vm.findClass RX0 = some m.cls := findClass_of_methodNamed B.named
  subst hsz
  have hD := hD0.self (sz := s.heap.size)
  generalize hAe : va_A (wHM h g t G T cI cII mo eo dg to er n E DG) s.heap.size = A at hD ⊢
  have hA : ∀ q : Nat, s.heap.size ≤ q → A q := fun q h => by rw [← hAe]; exact Or.inr h
  have hS : va_S A s.heap s.heap [] := va_S.rf
  have hl := lv_entry ([.ref h]) (n := 5) (Nat.le_of_ble_eq_true rfl)
  rw [lg_entry_eq]
  generalize (lg_sl ([.ref h]) ++ List.replicate (5 - (lg_sl ([.ref h])).length) Slot.unset).toArray = ls at hl ⊢
  have hl : lv_has ls 5 [(0, .ref h)] := hl
  have hi_X0 : ∀ w ∈ u_ws RX0 TX0 3, w ∈ wsX0_burningOrder := by decide +kernel
  have hf_18 := hts (.fieldLink RX0 18 "Topplemoor$Heap" "moor" "LTopplemoor$Moor;") (by decide +kernel)
  have hi_X2 : ∀ w ∈ u_ws RX2 TX2 4, w ∈ wsX0_burningOrder := by decide +kernel
  have hf_28 := hts (.fieldLink RX0 28 "Topplemoor$Moor" "spots" "I") (by decide +kernel)
  refine lv_bipush (v := nI 64) hx hb dX0_burningOrder_0 (by decide) ?_
  refine lv_istore_n (lv' := [(1, .int (nI 64)), (0, .ref h)]) hx hb dX0_burningOrder_2 rfl hl (by decide) rfl (fun ls hl => ?_)
  refine lv_iconst (v := nI 0) hx hb dX0_burningOrder_3 (by decide) ?_
  refine lv_istore_n (lv' := [(2, .int (nI 0)), (1, .int (nI 64)), (0, .ref h)]) hx hb dX0_burningOrder_4 rfl hl (by decide) rfl (fun ls hl => ?_)
  refine lv_iconst (v := nI 0) hx hb dX0_burningOrder_5 (by decide) ?_
  refine lv_istore_n (lv' := [(3, .int (nI 0)), (2, .int (nI 0)), (1, .int (nI 64)), (0, .ref h)]) hx hb dX0_burningOrder_6 rfl hl (by decide) rfl (fun ls hl => ?_)
  refine kt_for (n := n) (WD := fun (i : Nat) => wHM h g t G T cI cII mo eo dg to er n E DG) (LV := fun (i : Nat) => [(0, .ref h), (1, .int ((it (fireS n E G) i (64, 0)).1)), (2, .int ((it (fireS n E G) i (64, 0)).2)), (3, .int (nI i))]) (nL := 5) (hd := 7) ?_ hP hD hS (lv_sub hl [3, 2, 1, 0] rfl)
  intro i hle_i ih_i H locs ls hP hD hS hl
  have hP : va_P (dC, dI) vwCl (wHM h g t G T cI cII mo eo dg to er n E DG) H := hP
  have hD : va_D A (wHM h g t G T cI cII mo eo dg to er n E DG) := hD
  have hl : lv_has ls 5 [(0, .ref h), (1, .int ((it (fireS n E G) i (64, 0)).1)), (2, .int ((it (fireS n E G) i (64, 0)).2)), (3, .int (nI i))] := hl
  refine lv_iload_n hx hb dX0_burningOrder_7 rfl (lv_at hl 3 rfl) ?_
  refine lv_aload_n hx hb dX0_burningOrder_8 rfl (lv_at hl 0 rfl) ?_
  refine va_get (D := (dC, dI)) (ci := kX0) (v := .ref mo) (C := RX0) (T := TX0) (N := 3) hx hb hts hi_X0 hown hK hP 0 rfl rfl 2 (by decide) hf_18 (fun _ h9 => h9) rfl dX0_burningOrder_9 ?_
  refine va_get (D := (dC, dI)) (ci := kX2) (v := .int (nI n)) (C := RX2) (T := TX2) (N := 4) hx hb hts hi_X2 hown hK hP 3 rfl rfl 0 (by decide) hf_28 (fun _ h9 => h9) rfl dX0_burningOrder_12 ?_
  refine kt_ige (tgt := 56) hx hb (by omega) (by omega) dX0_burningOrder_15 (by decide) (fun hge_i => ?_) (fun hlt_i => ?_)
  · have e_i : n = i := by omega
    subst e_i
    refine lv_iload_n hx hb dX0_burningOrder_56 rfl (lv_at hl 2 rfl) ?_
    exact kt_iret (W' := wHM h g t G T cI cII mo eo dg to er n E DG) hx hb hr hS hP hK hD (rfl) hlocks dX0_burningOrder_57
  · skip
    refine lv_aload_n hx hb dX0_burningOrder_18 rfl (lv_at hl 0 rfl) ?_
    refine lv_iload_n hx hb dX0_burningOrder_19 rfl (lv_at hl 1 rfl) ?_
    refine kt_calli (w' := wHM h g t G T cI cII mo eo dg to er n E DG) (rest := []) (As := [.int ((it (fireS n E G) i (64, 0)).1)]) ⟨hx, hb, hml, hown, hts⟩ (c_X0_nextToBurn l dC dI cI cII cJ cJJ h g t G T mo eo dg to er n E DG ((it (fireS n E G) i (64, 0)).1) _ (hn)) (cwV 1 hts gX0_burningOrder_X0_nextToBurn rfl rfl rfl (by decide +kernel) ⟨Nat.le_of_ble_eq_true rfl, Nat.le_of_ble_eq_true rfl⟩) hK hP hD hS hA (List.range' 0 13) sw_wHM_wHM_0 rfl 0 kX0 rfl rfl rfl rfl rfl hl.1 (Nat.le_of_ble_eq_true rfl) dX0_burningOrder_20 ⟨Nat.zero_le _, Nat.zero_le _⟩ (fun H locs hP hD hS => ?_)
    refine lv_istore (lv' := [(4, .int (nextF n E G ((it (fireS n E G) i (64, 0)).1))), (0, .ref h), (1, .int ((it (fireS n E G) i (64, 0)).1)), (2, .int ((it (fireS n E G) i (64, 0)).2)), (3, .int (nI i))]) hx hb dX0_burningOrder_23 hl (by decide) rfl (fun ls hl => ?_)
    refine lv_iload hx hb dX0_burningOrder_25 (lv_at hl 0 rfl) ?_
    refine lv_iconst (v := (-1)) hx hb dX0_burningOrder_27 (by decide) ?_
    refine lv_icmp_ne (tgt := 33) hx hb dX0_burningOrder_28 (by decide) (fun c28 => ?_) (fun c28 => ?_)
    · skip
      refine lv_iload_n hx hb dX0_burningOrder_33 rfl (lv_at hl 2 rfl) ?_
      refine lv_iconst (v := 1) hx hb dX0_burningOrder_34 (by decide) ?_
      refine lv_iload hx hb dX0_burningOrder_35 (lv_at hl 0 rfl) ?_
      refine lv_ishl hx hb dX0_burningOrder_37 ?_
      refine lv_ior hx hb dX0_burningOrder_38 ?_
      refine lv_istore_n (lv' := [(1, .int (((it (fireS n E G) i (64, 0)).1) ||| (1 <<< (nextF n E G ((it (fireS n E G) i (64, 0)).1) &&& 31)))), (4, .int (nextF n E G ((it (fireS n E G) i (64, 0)).1))), (0, .ref h), (2, .int ((it (fireS n E G) i (64, 0)).2)), (3, .int (nI i))]) hx hb dX0_burningOrder_39 rfl hl (by decide) rfl (fun ls hl => ?_)
      refine lv_iload_n hx hb dX0_burningOrder_40 rfl (lv_at hl 3 rfl) ?_
      refine lv_bipush (v := 10) hx hb dX0_burningOrder_41 (by decide) ?_
      refine lv_imul hx hb dX0_burningOrder_43 ?_
      refine lv_iload hx hb dX0_burningOrder_44 (lv_at hl 1 rfl) ?_
      refine lv_iadd hx hb dX0_burningOrder_46 ?_
      refine lv_iconst (v := 1) hx hb dX0_burningOrder_47 (by decide) ?_
      refine lv_iadd hx hb dX0_burningOrder_48 ?_
      refine lv_istore_n (lv' := [(2, .int (((((it (fireS n E G) i (64, 0)).2) * 10) + (nextF n E G ((it (fireS n E G) i (64, 0)).1))) + 1)), (1, .int (((it (fireS n E G) i (64, 0)).1) ||| (1 <<< (nextF n E G ((it (fireS n E G) i (64, 0)).1) &&& 31)))), (4, .int (nextF n E G ((it (fireS n E G) i (64, 0)).1))), (0, .ref h), (3, .int (nI i))]) hx hb dX0_burningOrder_49 rfl hl (by decide) rfl (fun ls hl => ?_)
      refine lv_iinc (v := nI (i + 1)) (lv' := [(3, .int (nI (i + 1))), (2, .int (((((it (fireS n E G) i (64, 0)).2) * 10) + (nextF n E G ((it (fireS n E G) i (64, 0)).1))) + 1)), (1, .int (((it (fireS n E G) i (64, 0)).1) ||| (1 <<< (nextF n E G ((it (fireS n E G) i (64, 0)).1) &&& 31)))), (4, .int (nextF n E G ((it (fireS n E G) i (64, 0)).1))), (0, .ref h)]) hx hb dX0_burningOrder_50 hl (k := 4) rfl (kt_inc _) (by decide) rfl (fun ls hl => ?_)
      refine lv_goto (tgt := 7) hx hb dX0_burningOrder_53 (by decide) ?_
      have eq0 : it (fireS n E G) (i + 1) (64, 0) = (((it (fireS n E G) i (64, 0)).1) ||| (1 <<< (nextF n E G ((it (fireS n E G) i (64, 0)).1) &&& 31)), ((((it (fireS n E G) i (64, 0)).2) * 10) + (nextF n E G ((it (fireS n E G) i (64, 0)).1))) + 1) := by exact if_neg c28
      exact ih_i H locs ls hlt_i (by show va_P (dC, dI) vwCl (wHM h g t G T cI cII mo eo dg to er n E DG) H; first | exact hP | (rw [eq0]; exact hP)) (by show va_D A (wHM h g t G T cI cII mo eo dg to er n E DG); first | exact hD | (rw [eq0]; exact hD)) hS (by show lv_has ls 5 [(0, .ref h), (1, .int ((it (fireS n E G) (i + 1) (64, 0)).1)), (2, .int ((it (fireS n E G) (i + 1) (64, 0)).2)), (3, .int (nI (i + 1)))]; first | exact lv_sub hl [4, 2, 1, 0] rfl | (rw [eq0]; exact lv_sub hl [4, 2, 1, 0] rfl))
    · skip
      refine lv_iload_n hx hb dX0_burningOrder_31 rfl (lv_at hl 3 rfl) ?_
      exact kt_iret (W' := wHM h g t G T cI cII mo eo dg to er n E DG) hx hb hr hS hP hK hD ((congrArg Prod.snd (it_stable (f := fireS n E G) (fun k _ => if_pos (by simpa using c28)) hle_i)).symm) hlocks dX0_burningOrder_32
