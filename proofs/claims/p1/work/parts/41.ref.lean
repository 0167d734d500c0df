/-! the reference on a fresh object (printed by wip/gen/refspec.py) -/
theorem no_spot (v : Int32) : v < nI 0 ∨ (-1) < v := by
  rcases Int32.lt_or_le v (nI 0) with h | h
  · exact Or.inl h
  · refine Or.inr (Int32.lt_of_lt_of_le (by decide) h)
theorem zero_add32 (q : Int32) : nI 0 + q = q := Int32.zero_add q
theorem nI_ngt {w : Nat} (h : w < 14) : ¬ nI 13 < nI w := by
  have hw : w = 0 ∨ w = 1 ∨ w = 2 ∨ w = 3 ∨ w = 4 ∨ w = 5 ∨ w = 6 ∨ w = 7 ∨ w = 8 ∨ w = 9 ∨ w = 10 ∨ w = 11 ∨ w = 12 ∨ w = 13 := by omega
  rcases hw with rfl | rfl | rfl | rfl | rfl | rfl | rfl | rfl | rfl | rfl | rfl | rfl | rfl | rfl <;> decide
set_option maxHeartbeats 4000000 in
set_option maxRecDepth 100000 in
theorem c_X5_refuse_001 (l : Launch) (dC : Nat → ClassId) (dI : Nat → Nat → Nat) (cI cII cJ cJJ cZ cO : ClassId) (mo : Nat) (eo : Nat) (er : Nat → Nat) (gr : Nat) (av : Nat) (ro : Nat) (co : Nat) (kl : Nat) (dd : Nat) (sz : Nat)  : Met l yX5_refuse wsX5_refuse ({ frames := 0, cells := 0, slots := 0, locals := 0 }) (va_Pc [.ref mo, .int (nI 0), .int (nI 1)] (PRE (dC, dI) (tyR cI cII cJ cJJ cZ cO) (wR (nI 0) z0 mo eo er gr av ro co kl dd cI cII) sz)) (va_Qi (fun (r' : Int32) (_ : Unit) => r' = nI 0) (fun _ tS => ATW (dC, dI) (tyR cI cII cJ cJJ cZ cO) (va_A (wR (nI 0) z0 mo eo er gr av ro co kl dd cI cII) sz) (wR (nI 0) z0 mo eo er gr av ro co kl dd cI cII) tS) (va_A (wR (nI 0) z0 mo eo er gr av ro co kl dd cI cII) sz)) 0 0 (va_A (wR (nI 0) z0 mo eo er gr av ro co kl dd cI cII) sz) := by
  refine Met.ofW (cc := cX5_refuse) (maxL := 3) (ret := (some .boolean)) (by decide) rfl ?_
  intro p e s m args below meth c s₁ B hml hv
  obtain ⟨rfl, hsz, hP, hK, hD0⟩ := hv
  have hx := B.exec
  have hb := B.bytes
  have hr := B.returns
  have hlocks := B.notSynchronized
  have hts := atoms_spec (ws := wsX5_refuse) B.pre
  have hown : s.vm.findClass RX5 = some m.cls := findClass_of_methodNamed B.named
  subst hsz
  have hD := hD0.self (sz := s.heap.size)
  generalize hAe : va_A (wR (nI 0) z0 mo eo er gr av ro co kl dd cI cII) s.heap.size = A at hD ⊢
  have hA : ∀ q : Nat, s.heap.size ≤ q → A q := fun q h => by rw [← hAe]; exact Or.inr h
  have hS : va_S A s.heap s.heap [] := va_S.rf
  have hl := lv_entry ([.ref mo, .int (nI 0), .int (nI 1)]) (n := 3) (Nat.le_of_ble_eq_true rfl)
  rw [lg_entry_eq]
  generalize (lg_sl ([.ref mo, .int (nI 0), .int (nI 1)]) ++ List.replicate (3 - (lg_sl ([.ref mo, .int (nI 0), .int (nI 1)])).length) Slot.unset).toArray = ls at hl ⊢
  have hl : lv_has ls 3 [(0, .ref mo), (1, .int (nI 0)), (2, .int (nI 1))] := hl
  have hi_X5 : ∀ w ∈ u_ws RX5 TX5 11, w ∈ wsX5_refuse := by decide +kernel
  have hf_34 := hts (.fieldLink RX5 34 "TopplemoorModel" "thrown" "I") (by decide +kernel)
  refine lv_iload_n hx hb dX5_refuse_0 rfl (lv_at hl 1 rfl) ?_
  refine lv_if_eq (tgt := 16) hx hb dX5_refuse_1 (by decide) (fun c1 => ?_) (fun c1 => ?_)
  · skip
    refine lv_aload_n hx hb dX5_refuse_16 rfl (lv_at hl 0 rfl) ?_
    refine va_get (D := (dC, dI)) (ci := kX5) (v := .int (nI 0)) (C := RX5) (T := TX5) (N := 11) hx hb hts hi_X5 hown hK hP 0 rfl rfl 0 (by decide) hf_34 (fun _ h9 => h9) rfl dX5_refuse_17 ?_
    refine lv_if_le (tgt := 27) hx hb dX5_refuse_20 (by decide) (fun c2 => ?_) (fun c2 => ?_)
    · skip
      refine lv_iconst (v := nI 0) hx hb dX5_refuse_27 (by decide) ?_
      refine W.widen (k := 0) (n := 0) (by omega) (by omega) ?_
      exact kt_zret (W' := wR (nI 0) z0 mo eo er gr av ro co kl dd cI cII) hx hb hr (rfl) hS hP hK hD (by decide) hlocks dX5_refuse_28
    · first | exact absurd c2 (by decide) | exact (c2 (by decide)).elim
  · first | exact absurd c1 (by decide) | exact (c1 (by decide)).elim

set_option maxHeartbeats 4000000 in
set_option maxRecDepth 100000 in
theorem c_X5_refuse_101 (l : Launch) (dC : Nat → ClassId) (dI : Nat → Nat → Nat) (cI cII cJ cJJ cZ cO : ClassId) (mo : Nat) (eo : Nat) (er : Nat → Nat) (gr : Nat) (av : Nat) (ro : Nat) (co : Nat) (kl : Nat) (dd : Nat) (sz : Nat)  : Met l yX5_refuse wsX5_refuse ({ frames := 0, cells := 0, slots := 0, locals := 0 }) (va_Pc [.ref mo, .int (nI 1), .int (nI 1)] (PRE (dC, dI) (tyR cI cII cJ cJJ cZ cO) (wR (nI 0) z0 mo eo er gr av ro co kl dd cI cII) sz)) (va_Qi (fun (r' : Int32) (_ : Unit) => r' = nI 1) (fun _ tS => ATW (dC, dI) (tyR cI cII cJ cJJ cZ cO) (va_A (wR (nI 0) z0 mo eo er gr av ro co kl dd cI cII) sz) (wR (nI 1) z0 mo eo er gr av ro co kl dd cI cII) tS) (va_A (wR (nI 0) z0 mo eo er gr av ro co kl dd cI cII) sz)) 0 0 (va_A (wR (nI 0) z0 mo eo er gr av ro co kl dd cI cII) sz) := by
  refine Met.ofW (cc := cX5_refuse) (maxL := 3) (ret := (some .boolean)) (by decide) rfl ?_
  intro p e s m args below meth c s₁ B hml hv
  obtain ⟨rfl, hsz, hP, hK, hD0⟩ := hv
  have hx := B.exec
  have hb := B.bytes
  have hr := B.returns
  have hlocks := B.notSynchronized
  have hts := atoms_spec (ws := wsX5_refuse) B.pre
  have hown : s.vm.findClass RX5 = some m.cls := findClass_of_methodNamed B.named
  subst hsz
  have hD := hD0.self (sz := s.heap.size)
  generalize hAe : va_A (wR (nI 0) z0 mo eo er gr av ro co kl dd cI cII) s.heap.size = A at hD ⊢
  have hA : ∀ q : Nat, s.heap.size ≤ q → A q := fun q h => by rw [← hAe]; exact Or.inr h
  have hS : va_S A s.heap s.heap [] := va_S.rf
  have hl := lv_entry ([.ref mo, .int (nI 1), .int (nI 1)]) (n := 3) (Nat.le_of_ble_eq_true rfl)
  rw [lg_entry_eq]
  generalize (lg_sl ([.ref mo, .int (nI 1), .int (nI 1)]) ++ List.replicate (3 - (lg_sl ([.ref mo, .int (nI 1), .int (nI 1)])).length) Slot.unset).toArray = ls at hl ⊢
  have hl : lv_has ls 3 [(0, .ref mo), (1, .int (nI 1)), (2, .int (nI 1))] := hl
  have hi_X5 : ∀ w ∈ u_ws RX5 TX5 11, w ∈ wsX5_refuse := by decide +kernel
  have hf_34 := hts (.fieldLink RX5 34 "TopplemoorModel" "thrown" "I") (by decide +kernel)
  refine lv_iload_n hx hb dX5_refuse_0 rfl (lv_at hl 1 rfl) ?_
  refine lv_if_eq (tgt := 16) hx hb dX5_refuse_1 (by decide) (fun c1 => ?_) (fun c1 => ?_)
  · first | exact absurd c1 (by decide) | exact (c1 (by decide)).elim
  · skip
    refine lv_aload_n hx hb dX5_refuse_4 rfl (lv_at hl 0 rfl) ?_
    refine va_get (D := (dC, dI)) (ci := kX5) (v := .int (nI 0)) (C := RX5) (T := TX5) (N := 11) hx hb hts hi_X5 hown hK hP 0 rfl rfl 0 (by decide) hf_34 (fun _ h9 => h9) rfl dX5_refuse_5 ?_
    refine lv_if_ne (tgt := 16) hx hb dX5_refuse_8 (by decide) (fun c2 => ?_) (fun c2 => ?_)
    · first | exact absurd c2 (by decide) | exact (c2 (by decide)).elim
    · skip
      refine lv_aload_n hx hb dX5_refuse_11 rfl (lv_at hl 0 rfl) ?_
      refine lv_iload_n hx hb dX5_refuse_12 rfl (lv_at hl 2 rfl) ?_
      refine va_put (D := (dC, dI)) (ci := kX5) (v := .int (nI 1)) (ty := .int) (C := RX5) (T := TX5) (N := 11) hx hb hts hi_X5 tyX5 tyX5_ok nmX5 hown hK hP hD hS 0 rfl rfl 0 (by decide) hf_34 (fun _ h9 => h9) rfl (by decide +kernel) rfl rfl (Nat.le_of_ble_eq_true rfl) dX5_refuse_13 (fun H locs hP hD hS => ?_)
      have hP : va_P (dC, dI) vwCl (wR (nI 1) z0 mo eo er gr av ro co kl dd cI cII) H := hP
      have hD : va_D A (wR (nI 1) z0 mo eo er gr av ro co kl dd cI cII) := hD
      refine lv_aload_n hx hb dX5_refuse_16 rfl (lv_at hl 0 rfl) ?_
      refine va_get (D := (dC, dI)) (ci := kX5) (v := .int (nI 1)) (C := RX5) (T := TX5) (N := 11) hx hb hts hi_X5 hown hK hP 0 rfl rfl 0 (by decide) hf_34 (fun _ h9 => h9) rfl dX5_refuse_17 ?_
      refine lv_if_le (tgt := 27) hx hb dX5_refuse_20 (by decide) (fun c3 => ?_) (fun c3 => ?_)
      · first | exact absurd c3 (by decide) | exact (c3 (by decide)).elim
      · skip
        refine lv_iconst (v := nI 1) hx hb dX5_refuse_23 (by decide) ?_
        refine lv_goto (tgt := 28) hx hb dX5_refuse_24 (by decide) ?_
        refine W.widen (k := 0) (n := 0) (by omega) (by omega) ?_
        exact kt_zret (W' := wR (nI 1) z0 mo eo er gr av ro co kl dd cI cII) hx hb hr (rfl) hS hP hK hD (by decide) hlocks dX5_refuse_28

set_option maxHeartbeats 4000000 in
set_option maxRecDepth 100000 in
theorem c_X5_refuse_102 (l : Launch) (dC : Nat → ClassId) (dI : Nat → Nat → Nat) (cI cII cJ cJJ cZ cO : ClassId) (mo : Nat) (eo : Nat) (er : Nat → Nat) (gr : Nat) (av : Nat) (ro : Nat) (co : Nat) (kl : Nat) (dd : Nat) (sz : Nat)  : Met l yX5_refuse wsX5_refuse ({ frames := 0, cells := 0, slots := 0, locals := 0 }) (va_Pc [.ref mo, .int (nI 1), .int (nI 2)] (PRE (dC, dI) (tyR cI cII cJ cJJ cZ cO) (wR (nI 0) z0 mo eo er gr av ro co kl dd cI cII) sz)) (va_Qi (fun (r' : Int32) (_ : Unit) => r' = nI 1) (fun _ tS => ATW (dC, dI) (tyR cI cII cJ cJJ cZ cO) (va_A (wR (nI 0) z0 mo eo er gr av ro co kl dd cI cII) sz) (wR (nI 2) z0 mo eo er gr av ro co kl dd cI cII) tS) (va_A (wR (nI 0) z0 mo eo er gr av ro co kl dd cI cII) sz)) 0 0 (va_A (wR (nI 0) z0 mo eo er gr av ro co kl dd cI cII) sz) := by
  refine Met.ofW (cc := cX5_refuse) (maxL := 3) (ret := (some .boolean)) (by decide) rfl ?_
  intro p e s m args below meth c s₁ B hml hv
  obtain ⟨rfl, hsz, hP, hK, hD0⟩ := hv
  have hx := B.exec
  have hb := B.bytes
  have hr := B.returns
  have hlocks := B.notSynchronized
  have hts := atoms_spec (ws := wsX5_refuse) B.pre
  have hown : s.vm.findClass RX5 = some m.cls := findClass_of_methodNamed B.named
  subst hsz
  have hD := hD0.self (sz := s.heap.size)
  generalize hAe : va_A (wR (nI 0) z0 mo eo er gr av ro co kl dd cI cII) s.heap.size = A at hD ⊢
  have hA : ∀ q : Nat, s.heap.size ≤ q → A q := fun q h => by rw [← hAe]; exact Or.inr h
  have hS : va_S A s.heap s.heap [] := va_S.rf
  have hl := lv_entry ([.ref mo, .int (nI 1), .int (nI 2)]) (n := 3) (Nat.le_of_ble_eq_true rfl)
  rw [lg_entry_eq]
  generalize (lg_sl ([.ref mo, .int (nI 1), .int (nI 2)]) ++ List.replicate (3 - (lg_sl ([.ref mo, .int (nI 1), .int (nI 2)])).length) Slot.unset).toArray = ls at hl ⊢
  have hl : lv_has ls 3 [(0, .ref mo), (1, .int (nI 1)), (2, .int (nI 2))] := hl
  have hi_X5 : ∀ w ∈ u_ws RX5 TX5 11, w ∈ wsX5_refuse := by decide +kernel
  have hf_34 := hts (.fieldLink RX5 34 "TopplemoorModel" "thrown" "I") (by decide +kernel)
  refine lv_iload_n hx hb dX5_refuse_0 rfl (lv_at hl 1 rfl) ?_
  refine lv_if_eq (tgt := 16) hx hb dX5_refuse_1 (by decide) (fun c1 => ?_) (fun c1 => ?_)
  · first | exact absurd c1 (by decide) | exact (c1 (by decide)).elim
  · skip
    refine lv_aload_n hx hb dX5_refuse_4 rfl (lv_at hl 0 rfl) ?_
    refine va_get (D := (dC, dI)) (ci := kX5) (v := .int (nI 0)) (C := RX5) (T := TX5) (N := 11) hx hb hts hi_X5 hown hK hP 0 rfl rfl 0 (by decide) hf_34 (fun _ h9 => h9) rfl dX5_refuse_5 ?_
    refine lv_if_ne (tgt := 16) hx hb dX5_refuse_8 (by decide) (fun c2 => ?_) (fun c2 => ?_)
    · first | exact absurd c2 (by decide) | exact (c2 (by decide)).elim
    · skip
      refine lv_aload_n hx hb dX5_refuse_11 rfl (lv_at hl 0 rfl) ?_
      refine lv_iload_n hx hb dX5_refuse_12 rfl (lv_at hl 2 rfl) ?_
      refine va_put (D := (dC, dI)) (ci := kX5) (v := .int (nI 2)) (ty := .int) (C := RX5) (T := TX5) (N := 11) hx hb hts hi_X5 tyX5 tyX5_ok nmX5 hown hK hP hD hS 0 rfl rfl 0 (by decide) hf_34 (fun _ h9 => h9) rfl (by decide +kernel) rfl rfl (Nat.le_of_ble_eq_true rfl) dX5_refuse_13 (fun H locs hP hD hS => ?_)
      have hP : va_P (dC, dI) vwCl (wR (nI 2) z0 mo eo er gr av ro co kl dd cI cII) H := hP
      have hD : va_D A (wR (nI 2) z0 mo eo er gr av ro co kl dd cI cII) := hD
      refine lv_aload_n hx hb dX5_refuse_16 rfl (lv_at hl 0 rfl) ?_
      refine va_get (D := (dC, dI)) (ci := kX5) (v := .int (nI 2)) (C := RX5) (T := TX5) (N := 11) hx hb hts hi_X5 hown hK hP 0 rfl rfl 0 (by decide) hf_34 (fun _ h9 => h9) rfl dX5_refuse_17 ?_
      refine lv_if_le (tgt := 27) hx hb dX5_refuse_20 (by decide) (fun c3 => ?_) (fun c3 => ?_)
      · first | exact absurd c3 (by decide) | exact (c3 (by decide)).elim
      · skip
        refine lv_iconst (v := nI 1) hx hb dX5_refuse_23 (by decide) ?_
        refine lv_goto (tgt := 28) hx hb dX5_refuse_24 (by decide) ?_
        refine W.widen (k := 0) (n := 0) (by omega) (by omega) ?_
        exact kt_zret (W' := wR (nI 2) z0 mo eo er gr av ro co kl dd cI cII) hx hb hr (rfl) hS hP hK hD (by decide) hlocks dX5_refuse_28

set_option maxHeartbeats 4000000 in
set_option maxRecDepth 100000 in
theorem c_X5_refuse_002 (l : Launch) (dC : Nat → ClassId) (dI : Nat → Nat → Nat) (cI cII cJ cJJ cZ cO : ClassId) (mo : Nat) (eo : Nat) (er : Nat → Nat) (gr : Nat) (av : Nat) (ro : Nat) (co : Nat) (kl : Nat) (dd : Nat) (sz : Nat)  : Met l yX5_refuse wsX5_refuse ({ frames := 0, cells := 0, slots := 0, locals := 0 }) (va_Pc [.ref mo, .int (nI 0), .int (nI 2)] (PRE (dC, dI) (tyR cI cII cJ cJJ cZ cO) (wR (nI 0) z0 mo eo er gr av ro co kl dd cI cII) sz)) (va_Qi (fun (r' : Int32) (_ : Unit) => r' = nI 0) (fun _ tS => ATW (dC, dI) (tyR cI cII cJ cJJ cZ cO) (va_A (wR (nI 0) z0 mo eo er gr av ro co kl dd cI cII) sz) (wR (nI 0) z0 mo eo er gr av ro co kl dd cI cII) tS) (va_A (wR (nI 0) z0 mo eo er gr av ro co kl dd cI cII) sz)) 0 0 (va_A (wR (nI 0) z0 mo eo er gr av ro co kl dd cI cII) sz) := by
  refine Met.ofW (cc := cX5_refuse) (maxL := 3) (ret := (some .boolean)) (by decide) rfl ?_
  intro p e s m args below meth c s₁ B hml hv
  obtain ⟨rfl, hsz, hP, hK, hD0⟩ := hv
  have hx := B.exec
  have hb := B.bytes
  have hr := B.returns
  have hlocks := B.notSynchronized
  have hts := atoms_spec (ws := wsX5_refuse) B.pre
  have hown : s.vm.findClass RX5 = some m.cls := findClass_of_methodNamed B.named
  subst hsz
  have hD := hD0.self (sz := s.heap.size)
  generalize hAe : va_A (wR (nI 0) z0 mo eo er gr av ro co kl dd cI cII) s.heap.size = A at hD ⊢
  have hA : ∀ q : Nat, s.heap.size ≤ q → A q := fun q h => by rw [← hAe]; exact Or.inr h
  have hS : va_S A s.heap s.heap [] := va_S.rf
  have hl := lv_entry ([.ref mo, .int (nI 0), .int (nI 2)]) (n := 3) (Nat.le_of_ble_eq_true rfl)
  rw [lg_entry_eq]
  generalize (lg_sl ([.ref mo, .int (nI 0), .int (nI 2)]) ++ List.replicate (3 - (lg_sl ([.ref mo, .int (nI 0), .int (nI 2)])).length) Slot.unset).toArray = ls at hl ⊢
  have hl : lv_has ls 3 [(0, .ref mo), (1, .int (nI 0)), (2, .int (nI 2))] := hl
  have hi_X5 : ∀ w ∈ u_ws RX5 TX5 11, w ∈ wsX5_refuse := by decide +kernel
  have hf_34 := hts (.fieldLink RX5 34 "TopplemoorModel" "thrown" "I") (by decide +kernel)
  refine lv_iload_n hx hb dX5_refuse_0 rfl (lv_at hl 1 rfl) ?_
  refine lv_if_eq (tgt := 16) hx hb dX5_refuse_1 (by decide) (fun c1 => ?_) (fun c1 => ?_)
  · skip
    refine lv_aload_n hx hb dX5_refuse_16 rfl (lv_at hl 0 rfl) ?_
    refine va_get (D := (dC, dI)) (ci := kX5) (v := .int (nI 0)) (C := RX5) (T := TX5) (N := 11) hx hb hts hi_X5 hown hK hP 0 rfl rfl 0 (by decide) hf_34 (fun _ h9 => h9) rfl dX5_refuse_17 ?_
    refine lv_if_le (tgt := 27) hx hb dX5_refuse_20 (by decide) (fun c2 => ?_) (fun c2 => ?_)
    · skip
      refine lv_iconst (v := nI 0) hx hb dX5_refuse_27 (by decide) ?_
      refine W.widen (k := 0) (n := 0) (by omega) (by omega) ?_
      exact kt_zret (W' := wR (nI 0) z0 mo eo er gr av ro co kl dd cI cII) hx hb hr (rfl) hS hP hK hD (by decide) hlocks dX5_refuse_28
    · first | exact absurd c2 (by decide) | exact (c2 (by decide)).elim
  · first | exact absurd c1 (by decide) | exact (c1 (by decide)).elim

set_option maxHeartbeats 4000000 in
set_option maxRecDepth 100000 in
theorem c_X5_start_0 (l : Launch) (dC : Nat → ClassId) (dI : Nat → Nat → Nat) (cI cII cJ cJJ cZ cO : ClassId) (mo : Nat) (eo : Nat) (er : Nat → Nat) (gr : Nat) (av : Nat) (ro : Nat) (co : Nat) (kl : Nat) (dd : Nat) (sz : Nat)  : Met l yX5_start wsX5_start ({ frames := 1, cells := 0, slots := 0, locals := 22 }) (va_Pc [.ref mo, .int (nI 0), .int (nI 1)] (PRE (dC, dI) (tyR cI cII cJ cJJ cZ cO) (wR (nI 0) z0 mo eo er gr av ro co kl dd cI cII) sz)) (va_Qi (fun (r' : Int32) (_ : Unit) => r' = nI 0) (fun _ tS => ATW (dC, dI) (tyR cI cII cJ cJJ cZ cO) (va_A (wR (nI 0) z0 mo eo er gr av ro co kl dd cI cII) sz) (wR (nI 0) z0 mo eo er gr av ro co kl dd cI cII) tS) (va_A (wR (nI 0) z0 mo eo er gr av ro co kl dd cI cII) sz)) 0 0 (va_A (wR (nI 0) z0 mo eo er gr av ro co kl dd cI cII) sz) := by
  refine Met.ofW (cc := cX5_start) (maxL := 3) (ret := (some .boolean)) (by decide) rfl ?_
  intro p e s m args below meth c s₁ B hml hv
  obtain ⟨rfl, hsz, hP, hK, hD0⟩ := hv
  have hx := B.exec
  have hb := B.bytes
  have hr := B.returns
  have hlocks := B.notSynchronized
  have hts := atoms_spec (ws := wsX5_start) B.pre
  have hown : s.vm.findClass RX5 = some m.cls := findClass_of_methodNamed B.named
  subst hsz
  have hD := hD0.self (sz := s.heap.size)
  generalize hAe : va_A (wR (nI 0) z0 mo eo er gr av ro co kl dd cI cII) s.heap.size = A at hD ⊢
  have hA : ∀ q : Nat, s.heap.size ≤ q → A q := fun q h => by rw [← hAe]; exact Or.inr h
  have hS : va_S A s.heap s.heap [] := va_S.rf
  have hl := lv_entry ([.ref mo, .int (nI 0), .int (nI 1)]) (n := 3) (Nat.le_of_ble_eq_true rfl)
  rw [lg_entry_eq]
  generalize (lg_sl ([.ref mo, .int (nI 0), .int (nI 1)]) ++ List.replicate (3 - (lg_sl ([.ref mo, .int (nI 0), .int (nI 1)])).length) Slot.unset).toArray = ls at hl ⊢
  have hl : lv_has ls 3 [(0, .ref mo), (1, .int (nI 0)), (2, .int (nI 1))] := hl
  have hi_X5 : ∀ w ∈ u_ws RX5 TX5 11, w ∈ wsX5_start := by decide +kernel
  have hf_34 := hts (.fieldLink RX5 34 "TopplemoorModel" "thrown" "I") (by decide +kernel)
  refine lv_aload_n hx hb dX5_start_0 rfl (lv_at hl 0 rfl) ?_
  refine lv_iconst (v := nI 0) hx hb dX5_start_1 (by decide) ?_
  refine va_put (D := (dC, dI)) (ci := kX5) (v := .int (nI 0)) (ty := .int) (C := RX5) (T := TX5) (N := 11) hx hb hts hi_X5 tyX5 tyX5_ok nmX5 hown hK hP hD hS 0 rfl rfl 0 (by decide) hf_34 (fun _ h9 => h9) rfl (by decide +kernel) rfl rfl (Nat.le_of_ble_eq_true rfl) dX5_start_2 (fun H locs hP hD hS => ?_)
  have hP : va_P (dC, dI) vwCl (wR (nI 0) z0 mo eo er gr av ro co kl dd cI cII) H := hP
  have hD : va_D A (wR (nI 0) z0 mo eo er gr av ro co kl dd cI cII) := hD
  refine lv_aload_n hx hb dX5_start_5 rfl (lv_at hl 0 rfl) ?_
  refine lv_iload_n hx hb dX5_start_6 rfl (lv_at hl 1 rfl) ?_
  refine lv_iload_n hx hb dX5_start_7 rfl (lv_at hl 2 rfl) ?_
  refine kt_calliM (w' := wR (nI 0) z0 mo eo er gr av ro co kl dd cI cII) (rest := []) (As := [.int (nI 0), .int (nI 1)]) ⟨hx, hb, hml, hown, hts⟩ (c_X5_refuse_001 l dC dI cI cII cJ cJJ cZ cO mo eo er gr av ro co kl dd _ ) (cwV 2 hts gX5_start_X5_refuse rfl rfl rfl (by decide +kernel) ⟨Nat.le_of_ble_eq_true rfl, Nat.le_of_ble_eq_true rfl⟩) hK hP hD hS hA (List.range' 0 14) sw_R0 rfl 0 kX5 rfl rfl rfl rfl rfl hl.1 (Nat.le_of_ble_eq_true rfl) dX5_start_8 ⟨Nat.le_of_ble_eq_true rfl, Nat.le_of_ble_eq_true rfl⟩ (fun H locs hP hD hS => ?_)
  have hP : va_P (dC, dI) vwCl (wR (nI 0) z0 mo eo er gr av ro co kl dd cI cII) H := hP
  have hD : va_D A (wR (nI 0) z0 mo eo er gr av ro co kl dd cI cII) := hD
  refine W.widen (k := 0) (n := 0) (by omega) (by omega) ?_
  exact kt_zret (W' := wR (nI 0) z0 mo eo er gr av ro co kl dd cI cII) hx hb hr (rfl) hS hP hK hD (by decide) hlocks dX5_start_11

set_option maxHeartbeats 4000000 in
set_option maxRecDepth 100000 in
theorem c_X5_start_1 (l : Launch) (dC : Nat → ClassId) (dI : Nat → Nat → Nat) (cI cII cJ cJJ cZ cO : ClassId) (mo : Nat) (eo : Nat) (er : Nat → Nat) (gr : Nat) (av : Nat) (ro : Nat) (co : Nat) (kl : Nat) (dd : Nat) (sz : Nat)  : Met l yX5_start wsX5_start ({ frames := 1, cells := 0, slots := 0, locals := 22 }) (va_Pc [.ref mo, .int (nI 1), .int (nI 1)] (PRE (dC, dI) (tyR cI cII cJ cJJ cZ cO) (wR (nI 0) z0 mo eo er gr av ro co kl dd cI cII) sz)) (va_Qi (fun (r' : Int32) (_ : Unit) => r' = nI 1) (fun _ tS => ATW (dC, dI) (tyR cI cII cJ cJJ cZ cO) (va_A (wR (nI 0) z0 mo eo er gr av ro co kl dd cI cII) sz) (wR (nI 1) z0 mo eo er gr av ro co kl dd cI cII) tS) (va_A (wR (nI 0) z0 mo eo er gr av ro co kl dd cI cII) sz)) 0 0 (va_A (wR (nI 0) z0 mo eo er gr av ro co kl dd cI cII) sz) := by
  refine Met.ofW (cc := cX5_start) (maxL := 3) (ret := (some .boolean)) (by decide) rfl ?_
  intro p e s m args below meth c s₁ B hml hv
  obtain ⟨rfl, hsz, hP, hK, hD0⟩ := hv
  have hx := B.exec
  have hb := B.bytes
  have hr := B.returns
  have hlocks := B.notSynchronized
  have hts := atoms_spec (ws := wsX5_start) B.pre
  have hown : s.vm.findClass RX5 = some m.cls := findClass_of_methodNamed B.named
  subst hsz
  have hD := hD0.self (sz := s.heap.size)
  generalize hAe : va_A (wR (nI 0) z0 mo eo er gr av ro co kl dd cI cII) s.heap.size = A at hD ⊢
  have hA : ∀ q : Nat, s.heap.size ≤ q → A q := fun q h => by rw [← hAe]; exact Or.inr h
  have hS : va_S A s.heap s.heap [] := va_S.rf
  have hl := lv_entry ([.ref mo, .int (nI 1), .int (nI 1)]) (n := 3) (Nat.le_of_ble_eq_true rfl)
  rw [lg_entry_eq]
  generalize (lg_sl ([.ref mo, .int (nI 1), .int (nI 1)]) ++ List.replicate (3 - (lg_sl ([.ref mo, .int (nI 1), .int (nI 1)])).length) Slot.unset).toArray = ls at hl ⊢
  have hl : lv_has ls 3 [(0, .ref mo), (1, .int (nI 1)), (2, .int (nI 1))] := hl
  have hi_X5 : ∀ w ∈ u_ws RX5 TX5 11, w ∈ wsX5_start := by decide +kernel
  have hf_34 := hts (.fieldLink RX5 34 "TopplemoorModel" "thrown" "I") (by decide +kernel)
  refine lv_aload_n hx hb dX5_start_0 rfl (lv_at hl 0 rfl) ?_
  refine lv_iconst (v := nI 0) hx hb dX5_start_1 (by decide) ?_
  refine va_put (D := (dC, dI)) (ci := kX5) (v := .int (nI 0)) (ty := .int) (C := RX5) (T := TX5) (N := 11) hx hb hts hi_X5 tyX5 tyX5_ok nmX5 hown hK hP hD hS 0 rfl rfl 0 (by decide) hf_34 (fun _ h9 => h9) rfl (by decide +kernel) rfl rfl (Nat.le_of_ble_eq_true rfl) dX5_start_2 (fun H locs hP hD hS => ?_)
  have hP : va_P (dC, dI) vwCl (wR (nI 0) z0 mo eo er gr av ro co kl dd cI cII) H := hP
  have hD : va_D A (wR (nI 0) z0 mo eo er gr av ro co kl dd cI cII) := hD
  refine lv_aload_n hx hb dX5_start_5 rfl (lv_at hl 0 rfl) ?_
  refine lv_iload_n hx hb dX5_start_6 rfl (lv_at hl 1 rfl) ?_
  refine lv_iload_n hx hb dX5_start_7 rfl (lv_at hl 2 rfl) ?_
  refine kt_calliM (w' := wR (nI 1) z0 mo eo er gr av ro co kl dd cI cII) (rest := []) (As := [.int (nI 1), .int (nI 1)]) ⟨hx, hb, hml, hown, hts⟩ (c_X5_refuse_101 l dC dI cI cII cJ cJJ cZ cO mo eo er gr av ro co kl dd _ ) (cwV 2 hts gX5_start_X5_refuse rfl rfl rfl (by decide +kernel) ⟨Nat.le_of_ble_eq_true rfl, Nat.le_of_ble_eq_true rfl⟩) hK hP hD hS hA (List.range' 0 14) sw_R0 rfl 0 kX5 rfl rfl rfl rfl rfl hl.1 (Nat.le_of_ble_eq_true rfl) dX5_start_8 ⟨Nat.le_of_ble_eq_true rfl, Nat.le_of_ble_eq_true rfl⟩ (fun H locs hP hD hS => ?_)
  have hP : va_P (dC, dI) vwCl (wR (nI 1) z0 mo eo er gr av ro co kl dd cI cII) H := hP
  have hD : va_D A (wR (nI 1) z0 mo eo er gr av ro co kl dd cI cII) := hD
  refine W.widen (k := 0) (n := 0) (by omega) (by omega) ?_
  exact kt_zret (W' := wR (nI 1) z0 mo eo er gr av ro co kl dd cI cII) hx hb hr (rfl) hS hP hK hD (by decide) hlocks dX5_start_11

set_option maxHeartbeats 4000000 in
set_option maxRecDepth 100000 in
theorem c_X5_isIn_y (l : Launch) (dC : Nat → ClassId) (dI : Nat → Nat → Nat) (cI cII cJ cJJ cZ cO : ClassId) (v : Int32) (lo : Int32) (hi : Int32) (sz : Nat) (h1 : ¬ v < lo) (h2 : ¬ hi < v) : Met l yX5_isIn wsX5_isIn ({ frames := 0, cells := 0, slots := 0, locals := 0 }) (va_Pc [.int v, .int lo, .int hi] (PRE (dC, dI) (tyR cI cII cJ cJJ cZ cO) ([]) sz)) (va_Qi (fun (r' : Int32) (_ : Unit) => r' = nI 1) (fun _ tS => ATW (dC, dI) (tyR cI cII cJ cJJ cZ cO) (va_A ([]) sz) ([]) tS) (va_A ([]) sz)) 0 0 (va_A ([]) sz) := by
  refine Met.ofW (cc := cX5_isIn) (maxL := 3) (ret := (some .boolean)) (by decide) rfl ?_
  intro p e s m args below meth c s₁ B hml hv
  obtain ⟨rfl, hsz, hP, hK, hD0⟩ := hv
  have hx := B.exec
  have hb := B.bytes
  have hr := B.returns
  have hlocks := B.notSynchronized
  have hts := atoms_spec (ws := wsX5_isIn) B.pre
  have hown : s.vm.findClass RX5 = some m.cls := findClass_of_methodNamed B.named
  subst hsz
  have hD := hD0.self (sz := s.heap.size)
  generalize hAe : va_A ([]) s.heap.size = A at hD ⊢
  have hA : ∀ q : Nat, s.heap.size ≤ q → A q := fun q h => by rw [← hAe]; exact Or.inr h
  have hS : va_S A s.heap s.heap [] := va_S.rf
  have hl := lv_entry ([.int v, .int lo, .int hi]) (n := 3) (Nat.le_of_ble_eq_true rfl)
  rw [lg_entry_eq]
  generalize (lg_sl ([.int v, .int lo, .int hi]) ++ List.replicate (3 - (lg_sl ([.int v, .int lo, .int hi])).length) Slot.unset).toArray = ls at hl ⊢
  have hl : lv_has ls 3 [(0, .int v), (1, .int lo), (2, .int hi)] := hl
  refine lv_iload_n hx hb dX5_isIn_0 rfl (lv_at hl 0 rfl) ?_
  refine lv_iload_n hx hb dX5_isIn_1 rfl (lv_at hl 1 rfl) ?_
  refine lv_icmp_lt (tgt := 14) hx hb dX5_isIn_2 (by decide) (fun c1 => ?_) (fun c1 => ?_)
  · exact absurd c1 h1
  · skip
    refine lv_iload_n hx hb dX5_isIn_5 rfl (lv_at hl 0 rfl) ?_
    refine lv_iload_n hx hb dX5_isIn_6 rfl (lv_at hl 2 rfl) ?_
    refine lv_icmp_gt (tgt := 14) hx hb dX5_isIn_7 (by decide) (fun c2 => ?_) (fun c2 => ?_)
    · exact absurd c2 h2
    · skip
      refine lv_iconst (v := nI 1) hx hb dX5_isIn_10 (by decide) ?_
      refine lv_goto (tgt := 15) hx hb dX5_isIn_11 (by decide) ?_
      refine W.widen (k := 0) (n := 0) (by omega) (by omega) ?_
      exact kt_zret (W' := []) hx hb hr (rfl) hS hP hK hD (by decide) hlocks dX5_isIn_15

set_option maxHeartbeats 4000000 in
set_option maxRecDepth 100000 in
theorem c_X5_isIn_n (l : Launch) (dC : Nat → ClassId) (dI : Nat → Nat → Nat) (cI cII cJ cJJ cZ cO : ClassId) (v : Int32) (lo : Int32) (hi : Int32) (sz : Nat) (h : v < lo ∨ hi < v) : Met l yX5_isIn wsX5_isIn ({ frames := 0, cells := 0, slots := 0, locals := 0 }) (va_Pc [.int v, .int lo, .int hi] (PRE (dC, dI) (tyR cI cII cJ cJJ cZ cO) ([]) sz)) (va_Qi (fun (r' : Int32) (_ : Unit) => r' = nI 0) (fun _ tS => ATW (dC, dI) (tyR cI cII cJ cJJ cZ cO) (va_A ([]) sz) ([]) tS) (va_A ([]) sz)) 0 0 (va_A ([]) sz) := by
  refine Met.ofW (cc := cX5_isIn) (maxL := 3) (ret := (some .boolean)) (by decide) rfl ?_
  intro p e s m args below meth c s₁ B hml hv
  obtain ⟨rfl, hsz, hP, hK, hD0⟩ := hv
  have hx := B.exec
  have hb := B.bytes
  have hr := B.returns
  have hlocks := B.notSynchronized
  have hts := atoms_spec (ws := wsX5_isIn) B.pre
  have hown : s.vm.findClass RX5 = some m.cls := findClass_of_methodNamed B.named
  subst hsz
  have hD := hD0.self (sz := s.heap.size)
  generalize hAe : va_A ([]) s.heap.size = A at hD ⊢
  have hA : ∀ q : Nat, s.heap.size ≤ q → A q := fun q h => by rw [← hAe]; exact Or.inr h
  have hS : va_S A s.heap s.heap [] := va_S.rf
  have hl := lv_entry ([.int v, .int lo, .int hi]) (n := 3) (Nat.le_of_ble_eq_true rfl)
  rw [lg_entry_eq]
  generalize (lg_sl ([.int v, .int lo, .int hi]) ++ List.replicate (3 - (lg_sl ([.int v, .int lo, .int hi])).length) Slot.unset).toArray = ls at hl ⊢
  have hl : lv_has ls 3 [(0, .int v), (1, .int lo), (2, .int hi)] := hl
  refine lv_iload_n hx hb dX5_isIn_0 rfl (lv_at hl 0 rfl) ?_
  refine lv_iload_n hx hb dX5_isIn_1 rfl (lv_at hl 1 rfl) ?_
  refine lv_icmp_lt (tgt := 14) hx hb dX5_isIn_2 (by decide) (fun c1 => ?_) (fun c1 => ?_)
  · skip
    refine lv_iconst (v := nI 0) hx hb dX5_isIn_14 (by decide) ?_
    refine W.widen (k := 0) (n := 0) (by omega) (by omega) ?_
    exact kt_zret (W' := []) hx hb hr (rfl) hS hP hK hD (by decide) hlocks dX5_isIn_15
  · skip
    refine lv_iload_n hx hb dX5_isIn_5 rfl (lv_at hl 0 rfl) ?_
    refine lv_iload_n hx hb dX5_isIn_6 rfl (lv_at hl 2 rfl) ?_
    refine lv_icmp_gt (tgt := 14) hx hb dX5_isIn_7 (by decide) (fun c2 => ?_) (fun c2 => ?_)
    · skip
      refine lv_iconst (v := nI 0) hx hb dX5_isIn_14 (by decide) ?_
      refine W.widen (k := 0) (n := 0) (by omega) (by omega) ?_
      exact kt_zret (W' := []) hx hb hr (rfl) hS hP hK hD (by decide) hlocks dX5_isIn_15
    · exact absurd h (fun z => z.elim (by assumption) c2)

set_option maxHeartbeats 4000000 in
set_option maxRecDepth 100000 in
theorem c_X5_one_0 (l : Launch) (dC : Nat → ClassId) (dI : Nat → Nat → Nat) (cI cII cJ cJJ cZ cO : ClassId)  (sz : Nat)  : Met l yX5_one wsX5_one ({ frames := 0, cells := 0, slots := 0, locals := 0 }) (va_Pc [.int (nI 0)] (PRE (dC, dI) (tyR cI cII cJ cJJ cZ cO) ([]) sz)) (va_Qi (fun (r' : Int32) (_ : Unit) => r' = nI 0) (fun _ tS => ATW (dC, dI) (tyR cI cII cJ cJJ cZ cO) (va_A ([]) sz) ([]) tS) (va_A ([]) sz)) 0 0 (va_A ([]) sz) := by
  refine Met.ofW (cc := cX5_one) (maxL := 1) (ret := (some .int)) (by decide) rfl ?_
  intro p e s m args below meth c s₁ B hml hv
  obtain ⟨rfl, hsz, hP, hK, hD0⟩ := hv
  have hx := B.exec
  have hb := B.bytes
  have hr := B.returns
  have hlocks := B.notSynchronized
  have hts := atoms_spec (ws := wsX5_one) B.pre
  have hown : s.vm.findClass RX5 = some m.cls := findClass_of_methodNamed B.named
  subst hsz
  have hD := hD0.self (sz := s.heap.size)
  generalize hAe : va_A ([]) s.heap.size = A at hD ⊢
  have hA : ∀ q : Nat, s.heap.size ≤ q → A q := fun q h => by rw [← hAe]; exact Or.inr h
  have hS : va_S A s.heap s.heap [] := va_S.rf
  have hl := lv_entry ([.int (nI 0)]) (n := 1) (Nat.le_of_ble_eq_true rfl)
  rw [lg_entry_eq]
  generalize (lg_sl ([.int (nI 0)]) ++ List.replicate (1 - (lg_sl ([.int (nI 0)])).length) Slot.unset).toArray = ls at hl ⊢
  have hl : lv_has ls 1 [(0, .int (nI 0))] := hl
  refine lv_iload_n hx hb dX5_one_0 rfl (lv_at hl 0 rfl) ?_
  refine lv_if_eq (tgt := 8) hx hb dX5_one_1 (by decide) (fun c1 => ?_) (fun c1 => ?_)
  · skip
    refine lv_iconst (v := nI 0) hx hb dX5_one_8 (by decide) ?_
    refine W.widen (k := 0) (n := 0) (by omega) (by omega) ?_
    exact kt_iret (W' := []) hx hb hr hS hP hK hD (by decide) hlocks dX5_one_9
  · first | exact absurd c1 (by decide) | exact (c1 (by decide)).elim

set_option maxHeartbeats 4000000 in
set_option maxRecDepth 100000 in
theorem c_X5_one_1 (l : Launch) (dC : Nat → ClassId) (dI : Nat → Nat → Nat) (cI cII cJ cJJ cZ cO : ClassId)  (sz : Nat)  : Met l yX5_one wsX5_one ({ frames := 0, cells := 0, slots := 0, locals := 0 }) (va_Pc [.int (nI 1)] (PRE (dC, dI) (tyR cI cII cJ cJJ cZ cO) ([]) sz)) (va_Qi (fun (r' : Int32) (_ : Unit) => r' = nI 1) (fun _ tS => ATW (dC, dI) (tyR cI cII cJ cJJ cZ cO) (va_A ([]) sz) ([]) tS) (va_A ([]) sz)) 0 0 (va_A ([]) sz) := by
  refine Met.ofW (cc := cX5_one) (maxL := 1) (ret := (some .int)) (by decide) rfl ?_
  intro p e s m args below meth c s₁ B hml hv
  obtain ⟨rfl, hsz, hP, hK, hD0⟩ := hv
  have hx := B.exec
  have hb := B.bytes
  have hr := B.returns
  have hlocks := B.notSynchronized
  have hts := atoms_spec (ws := wsX5_one) B.pre
  have hown : s.vm.findClass RX5 = some m.cls := findClass_of_methodNamed B.named
  subst hsz
  have hD := hD0.self (sz := s.heap.size)
  generalize hAe : va_A ([]) s.heap.size = A at hD ⊢
  have hA : ∀ q : Nat, s.heap.size ≤ q → A q := fun q h => by rw [← hAe]; exact Or.inr h
  have hS : va_S A s.heap s.heap [] := va_S.rf
  have hl := lv_entry ([.int (nI 1)]) (n := 1) (Nat.le_of_ble_eq_true rfl)
  rw [lg_entry_eq]
  generalize (lg_sl ([.int (nI 1)]) ++ List.replicate (1 - (lg_sl ([.int (nI 1)])).length) Slot.unset).toArray = ls at hl ⊢
  have hl : lv_has ls 1 [(0, .int (nI 1))] := hl
  refine lv_iload_n hx hb dX5_one_0 rfl (lv_at hl 0 rfl) ?_
  refine lv_if_eq (tgt := 8) hx hb dX5_one_1 (by decide) (fun c1 => ?_) (fun c1 => ?_)
  · first | exact absurd c1 (by decide) | exact (c1 (by decide)).elim
  · skip
    refine lv_iconst (v := nI 1) hx hb dX5_one_4 (by decide) ?_
    refine lv_goto (tgt := 9) hx hb dX5_one_5 (by decide) ?_
    refine W.widen (k := 0) (n := 0) (by omega) (by omega) ?_
    exact kt_iret (W' := []) hx hb hr hS hP hK hD (by decide) hlocks dX5_one_9

set_option maxHeartbeats 4000000 in
set_option maxRecDepth 100000 in
theorem c_X5_isNoSpot (l : Launch) (dC : Nat → ClassId) (dI : Nat → Nat → Nat) (cI cII cJ cJJ cZ cO : ClassId) (mo : Nat) (eo : Nat) (er : Nat → Nat) (gr : Nat) (av : Nat) (ro : Nat) (co : Nat) (kl : Nat) (dd : Nat) (v : Int32) (th : Int32) (sz : Nat)  : Met l yX5_isNoSpot wsX5_isNoSpot ({ frames := 1, cells := 0, slots := 0, locals := 22 }) (va_Pc [.ref mo, .int v] (PRE (dC, dI) (tyR cI cII cJ cJJ cZ cO) (wR th z0 mo eo er gr av ro co kl dd cI cII) sz)) (va_Qi (fun (r' : Int32) (_ : Unit) => r' = nI 1) (fun _ tS => ATW (dC, dI) (tyR cI cII cJ cJJ cZ cO) (va_A (wR th z0 mo eo er gr av ro co kl dd cI cII) sz) (wR th z0 mo eo er gr av ro co kl dd cI cII) tS) (va_A (wR th z0 mo eo er gr av ro co kl dd cI cII) sz)) 0 0 (va_A (wR th z0 mo eo er gr av ro co kl dd cI cII) sz) := by
  refine Met.ofW (cc := cX5_isNoSpot) (maxL := 2) (ret := (some .boolean)) (by decide) rfl ?_
  intro p e s m args below meth c s₁ B hml hv
  obtain ⟨rfl, hsz, hP, hK, hD0⟩ := hv
  have hx := B.exec
  have hb := B.bytes
  have hr := B.returns
  have hlocks := B.notSynchronized
  have hts := atoms_spec (ws := wsX5_isNoSpot) B.pre
  have hown : s.vm.findClass RX5 = some m.cls := findClass_of_methodNamed B.named
  subst hsz
  have hD := hD0.self (sz := s.heap.size)
  generalize hAe : va_A (wR th z0 mo eo er gr av ro co kl dd cI cII) s.heap.size = A at hD ⊢
  have hA : ∀ q : Nat, s.heap.size ≤ q → A q := fun q h => by rw [← hAe]; exact Or.inr h
  have hS : va_S A s.heap s.heap [] := va_S.rf
  have hl := lv_entry ([.ref mo, .int v]) (n := 2) (Nat.le_of_ble_eq_true rfl)
  rw [lg_entry_eq]
  generalize (lg_sl ([.ref mo, .int v]) ++ List.replicate (2 - (lg_sl ([.ref mo, .int v])).length) Slot.unset).toArray = ls at hl ⊢
  have hl : lv_has ls 2 [(0, .ref mo), (1, .int v)] := hl
  have hi_X5 : ∀ w ∈ u_ws RX5 TX5 11, w ∈ wsX5_isNoSpot := by decide +kernel
  have hf_42 := hts (.fieldLink RX5 42 "TopplemoorModel" "spots" "I") (by decide +kernel)
  refine lv_iload_n hx hb dX5_isNoSpot_0 rfl (lv_at hl 1 rfl) ?_
  refine lv_iconst (v := nI 0) hx hb dX5_isNoSpot_1 (by decide) ?_
  refine lv_aload_n hx hb dX5_isNoSpot_2 rfl (lv_at hl 0 rfl) ?_
  refine va_get (D := (dC, dI)) (ci := kX5) (v := .int (nI 0)) (C := RX5) (T := TX5) (N := 11) hx hb hts hi_X5 hown hK hP 0 rfl rfl 1 (by decide) hf_42 (fun _ h9 => h9) rfl dX5_isNoSpot_3 ?_
  refine lv_iconst (v := nI 1) hx hb dX5_isNoSpot_6 (by decide) ?_
  refine lv_isub hx hb dX5_isNoSpot_7 ?_
  refine lv_topi (fun z1 ez1 => ?_)
  have ez1 : z1 = (-1) := ez1.trans (by decide)
  subst ez1
  refine kt_callSiM (w' := wR th z0 mo eo er gr av ro co kl dd cI cII) (rest := []) (As := [.int v, .int (nI 0), .int (-1)]) ⟨hx, hb, hml, hown, hts⟩ (c_X5_isIn_n l dC dI cI cII cJ cJJ cZ cO v (nI 0) (-1) _ (no_spot v)) (va_cwS 3 hts gX5_isNoSpot_X5_isIn rfl rfl rfl (by decide +kernel) ⟨Nat.le_of_ble_eq_true rfl, Nat.le_of_ble_eq_true rfl⟩) hK hP hD hS hA [] (kt_sw_nil _) rfl rfl rfl hl.1 (Nat.le_of_ble_eq_true rfl) dX5_isNoSpot_8 ⟨Nat.le_of_ble_eq_true rfl, Nat.le_of_ble_eq_true rfl⟩ (fun H locs hP hD hS => ?_)
  have hP : va_P (dC, dI) vwCl (wR th z0 mo eo er gr av ro co kl dd cI cII) H := hP
  have hD : va_D A (wR th z0 mo eo er gr av ro co kl dd cI cII) := hD
  refine lv_if_ne (tgt := 18) hx hb dX5_isNoSpot_11 (by decide) (fun c2 => ?_) (fun c2 => ?_)
  · first | exact absurd c2 (by decide) | exact (c2 (by decide)).elim
  · skip
    refine lv_iconst (v := nI 1) hx hb dX5_isNoSpot_14 (by decide) ?_
    refine lv_goto (tgt := 19) hx hb dX5_isNoSpot_15 (by decide) ?_
    refine W.widen (k := 0) (n := 0) (by omega) (by omega) ?_
    exact kt_zret (W' := wR th z0 mo eo er gr av ro co kl dd cI cII) hx hb hr (rfl) hS hP hK hD (by decide) hlocks dX5_isNoSpot_19

set_option maxHeartbeats 4000000 in
set_option maxRecDepth 100000 in
theorem c_X5_isNoNode_y (l : Launch) (dC : Nat → ClassId) (dI : Nat → Nat → Nat) (cI cII cJ cJJ cZ cO : ClassId) (mo : Nat) (eo : Nat) (er : Nat → Nat) (gr : Nat) (av : Nat) (ro : Nat) (co : Nat) (kl : Nat) (dd : Nat) (v : Int32) (th : Int32) (sz : Nat) (h : ¬ v = nI 6) : Met l yX5_isNoNode wsX5_isNoNode ({ frames := 2, cells := 0, slots := 0, locals := 43 }) (va_Pc [.ref mo, .int v] (PRE (dC, dI) (tyR cI cII cJ cJJ cZ cO) (wR th z0 mo eo er gr av ro co kl dd cI cII) sz)) (va_Qi (fun (r' : Int32) (_ : Unit) => r' = nI 1) (fun _ tS => ATW (dC, dI) (tyR cI cII cJ cJJ cZ cO) (va_A (wR th z0 mo eo er gr av ro co kl dd cI cII) sz) (wR th z0 mo eo er gr av ro co kl dd cI cII) tS) (va_A (wR th z0 mo eo er gr av ro co kl dd cI cII) sz)) 0 0 (va_A (wR th z0 mo eo er gr av ro co kl dd cI cII) sz) := by
  refine Met.ofW (cc := cX5_isNoNode) (maxL := 2) (ret := (some .boolean)) (by decide) rfl ?_
  intro p e s m args below meth c s₁ B hml hv
  obtain ⟨rfl, hsz, hP, hK, hD0⟩ := hv
  have hx := B.exec
  have hb := B.bytes
  have hr := B.returns
  have hlocks := B.notSynchronized
  have hts := atoms_spec (ws := wsX5_isNoNode) B.pre
  have hown : s.vm.findClass RX5 = some m.cls := findClass_of_methodNamed B.named
  subst hsz
  have hD := hD0.self (sz := s.heap.size)
  generalize hAe : va_A (wR th z0 mo eo er gr av ro co kl dd cI cII) s.heap.size = A at hD ⊢
  have hA : ∀ q : Nat, s.heap.size ≤ q → A q := fun q h => by rw [← hAe]; exact Or.inr h
  have hS : va_S A s.heap s.heap [] := va_S.rf
  have hl := lv_entry ([.ref mo, .int v]) (n := 2) (Nat.le_of_ble_eq_true rfl)
  rw [lg_entry_eq]
  generalize (lg_sl ([.ref mo, .int v]) ++ List.replicate (2 - (lg_sl ([.ref mo, .int v])).length) Slot.unset).toArray = ls at hl ⊢
  have hl : lv_has ls 2 [(0, .ref mo), (1, .int v)] := hl
  refine lv_iload_n hx hb dX5_isNoNode_0 rfl (lv_at hl 1 rfl) ?_
  refine lv_bipush (v := nI 6) hx hb dX5_isNoNode_1 (by decide) ?_
  refine lv_icmp_eq (tgt := 18) hx hb dX5_isNoNode_3 (by decide) (fun c1 => ?_) (fun c1 => ?_)
  · exact absurd c1 h
  · skip
    refine lv_aload_n hx hb dX5_isNoNode_6 rfl (lv_at hl 0 rfl) ?_
    refine lv_iload_n hx hb dX5_isNoNode_7 rfl (lv_at hl 1 rfl) ?_
    refine kt_calliM (w' := wR th z0 mo eo er gr av ro co kl dd cI cII) (rest := []) (As := [.int v]) ⟨hx, hb, hml, hown, hts⟩ (c_X5_isNoSpot l dC dI cI cII cJ cJJ cZ cO mo eo er gr av ro co kl dd v th _ ) (cwV 1 hts gX5_isNoNode_X5_isNoSpot rfl rfl rfl (by decide +kernel) ⟨Nat.le_of_ble_eq_true rfl, Nat.le_of_ble_eq_true rfl⟩) hK hP hD hS hA (List.range' 0 14) sw_R0 rfl 0 kX5 rfl rfl rfl rfl rfl hl.1 (Nat.le_of_ble_eq_true rfl) dX5_isNoNode_8 ⟨Nat.le_of_ble_eq_true rfl, Nat.le_of_ble_eq_true rfl⟩ (fun H locs hP hD hS => ?_)
    have hP : va_P (dC, dI) vwCl (wR th z0 mo eo er gr av ro co kl dd cI cII) H := hP
    have hD : va_D A (wR th z0 mo eo er gr av ro co kl dd cI cII) := hD
    refine lv_if_eq (tgt := 18) hx hb dX5_isNoNode_11 (by decide) (fun c2 => ?_) (fun c2 => ?_)
    · first | exact absurd c2 (by decide) | exact (c2 (by decide)).elim
    · skip
      refine lv_iconst (v := nI 1) hx hb dX5_isNoNode_14 (by decide) ?_
      refine lv_goto (tgt := 19) hx hb dX5_isNoNode_15 (by decide) ?_
      refine W.widen (k := 0) (n := 0) (by omega) (by omega) ?_
      exact kt_zret (W' := wR th z0 mo eo er gr av ro co kl dd cI cII) hx hb hr (rfl) hS hP hK hD (by decide) hlocks dX5_isNoNode_19

set_option maxHeartbeats 4000000 in
set_option maxRecDepth 100000 in
theorem c_X5_isNoNode_n (l : Launch) (dC : Nat → ClassId) (dI : Nat → Nat → Nat) (cI cII cJ cJJ cZ cO : ClassId) (mo : Nat) (eo : Nat) (er : Nat → Nat) (gr : Nat) (av : Nat) (ro : Nat) (co : Nat) (kl : Nat) (dd : Nat) (th : Int32) (sz : Nat)  : Met l yX5_isNoNode wsX5_isNoNode ({ frames := 0, cells := 0, slots := 0, locals := 0 }) (va_Pc [.ref mo, .int (nI 6)] (PRE (dC, dI) (tyR cI cII cJ cJJ cZ cO) (wR th z0 mo eo er gr av ro co kl dd cI cII) sz)) (va_Qi (fun (r' : Int32) (_ : Unit) => r' = nI 0) (fun _ tS => ATW (dC, dI) (tyR cI cII cJ cJJ cZ cO) (va_A (wR th z0 mo eo er gr av ro co kl dd cI cII) sz) (wR th z0 mo eo er gr av ro co kl dd cI cII) tS) (va_A (wR th z0 mo eo er gr av ro co kl dd cI cII) sz)) 0 0 (va_A (wR th z0 mo eo er gr av ro co kl dd cI cII) sz) := by
  refine Met.ofW (cc := cX5_isNoNode) (maxL := 2) (ret := (some .boolean)) (by decide) rfl ?_
  intro p e s m args below meth c s₁ B hml hv
  obtain ⟨rfl, hsz, hP, hK, hD0⟩ := hv
  have hx := B.exec
  have hb := B.bytes
  have hr := B.returns
  have hlocks := B.notSynchronized
  have hts := atoms_spec (ws := wsX5_isNoNode) B.pre
  have hown : s.vm.findClass RX5 = some m.cls := findClass_of_methodNamed B.named
  subst hsz
  have hD := hD0.self (sz := s.heap.size)
  generalize hAe : va_A (wR th z0 mo eo er gr av ro co kl dd cI cII) s.heap.size = A at hD ⊢
  have hA : ∀ q : Nat, s.heap.size ≤ q → A q := fun q h => by rw [← hAe]; exact Or.inr h
  have hS : va_S A s.heap s.heap [] := va_S.rf
  have hl := lv_entry ([.ref mo, .int (nI 6)]) (n := 2) (Nat.le_of_ble_eq_true rfl)
  rw [lg_entry_eq]
  generalize (lg_sl ([.ref mo, .int (nI 6)]) ++ List.replicate (2 - (lg_sl ([.ref mo, .int (nI 6)])).length) Slot.unset).toArray = ls at hl ⊢
  have hl : lv_has ls 2 [(0, .ref mo), (1, .int (nI 6))] := hl
  refine lv_iload_n hx hb dX5_isNoNode_0 rfl (lv_at hl 1 rfl) ?_
  refine lv_bipush (v := nI 6) hx hb dX5_isNoNode_1 (by decide) ?_
  refine lv_icmp_eq (tgt := 18) hx hb dX5_isNoNode_3 (by decide) (fun c1 => ?_) (fun c1 => ?_)
  · skip
    refine lv_iconst (v := nI 0) hx hb dX5_isNoNode_18 (by decide) ?_
    refine W.widen (k := 0) (n := 0) (by omega) (by omega) ?_
    exact kt_zret (W' := wR th z0 mo eo er gr av ro co kl dd cI cII) hx hb hr (rfl) hS hP hK hD (by decide) hlocks dX5_isNoNode_19
  · first | exact absurd c1 (by decide) | exact (c1 (by decide)).elim

set_option maxHeartbeats 4000000 in
set_option maxRecDepth 100000 in
theorem c_X5_degree (l : Launch) (dC : Nat → ClassId) (dI : Nat → Nat → Nat) (cI cII cJ cJJ cZ cO : ClassId) (mo : Nat) (eo : Nat) (er : Nat → Nat) (gr : Nat) (av : Nat) (ro : Nat) (co : Nat) (kl : Nat) (dd : Nat) (j : Nat) (th : Int32) (CO : Nat → Int32) (sz : Nat) (hj : j < 7) : Met l yX5_degree wsX5_degree ({ frames := 0, cells := 0, slots := 0, locals := 0 }) (va_Pc [.ref mo, .int (nI j)] (PRE (dC, dI) (tyR cI cII cJ cJJ cZ cO) (wR th CO mo eo er gr av ro co kl dd cI cII) sz)) (va_Qi (fun (r' : Int32) (_ : Unit) => r' = nI 0) (fun _ tS => ATW (dC, dI) (tyR cI cII cJ cJJ cZ cO) (va_A (wR th CO mo eo er gr av ro co kl dd cI cII) sz) (wR th CO mo eo er gr av ro co kl dd cI cII) tS) (va_A (wR th CO mo eo er gr av ro co kl dd cI cII) sz)) 0 0 (va_A (wR th CO mo eo er gr av ro co kl dd cI cII) sz) := by
  refine Met.ofW (cc := cX5_degree) (maxL := 7) (ret := (some .int)) (by decide) rfl ?_
  intro p e s m args below meth c s₁ B hml hv
  obtain ⟨rfl, hsz, hP, hK, hD0⟩ := hv
  have hx := B.exec
  have hb := B.bytes
  have hr := B.returns
  have hlocks := B.notSynchronized
  have hts := atoms_spec (ws := wsX5_degree) B.pre
  have hown : s.vm.findClass RX5 = some m.cls := findClass_of_methodNamed B.named
  subst hsz
  have hD := hD0.self (sz := s.heap.size)
  generalize hAe : va_A (wR th CO mo eo er gr av ro co kl dd cI cII) s.heap.size = A at hD ⊢
  have hA : ∀ q : Nat, s.heap.size ≤ q → A q := fun q h => by rw [← hAe]; exact Or.inr h
  have hS : va_S A s.heap s.heap [] := va_S.rf
  have hl := lv_entry ([.ref mo, .int (nI j)]) (n := 7) (Nat.le_of_ble_eq_true rfl)
  rw [lg_entry_eq]
  generalize (lg_sl ([.ref mo, .int (nI j)]) ++ List.replicate (7 - (lg_sl ([.ref mo, .int (nI j)])).length) Slot.unset).toArray = ls at hl ⊢
  have hl : lv_has ls 7 [(0, .ref mo), (1, .int (nI j))] := hl
  have hi_X5 : ∀ w ∈ u_ws RX5 TX5 11, w ∈ wsX5_degree := by decide +kernel
  have hf_11 := hts (.fieldLink RX5 11 "TopplemoorModel" "edges" "[[I") (by decide +kernel)
  refine lv_iconst (v := nI 0) hx hb dX5_degree_0 (by decide) ?_
  refine lv_istore_n (lv' := [(2, .int (nI 0)), (0, .ref mo), (1, .int (nI j))]) hx hb dX5_degree_1 rfl hl (by decide) rfl (fun ls hl => ?_)
  refine lv_aload_n hx hb dX5_degree_2 rfl (lv_at hl 1 rfl) ?_
  refine va_get (D := (dC, dI)) (ci := kX5) (v := .ref eo) (C := RX5) (T := TX5) (N := 11) hx hb hts hi_X5 hown hK hP 0 rfl rfl 2 (by decide) hf_11 (fun _ h9 => h9) rfl dX5_degree_3 ?_
  refine lv_iload_n hx hb dX5_degree_6 rfl (lv_at hl 2 rfl) ?_
  refine kt_aald hx hb hK hP 1 1 rfl rfl (by omega) (by decide) dX5_degree_7 ?_
  refine lv_astore_n (lv' := [(3, .ref (er j)), (2, .int (nI 0)), (0, .ref mo), (1, .int (nI j))]) hx hb dX5_degree_8 rfl hl (by decide) rfl (fun ls hl => ?_)
  refine lv_aload_n hx hb dX5_degree_9 rfl (lv_at hl 0 rfl) ?_
  refine va_alen hx hb hK hP (2 + j) 0 (row_at (by omega)) rfl (v := nI 7) rfl dX5_degree_10 ?_
  refine lv_istore (lv' := [(4, .int (nI 7)), (3, .ref (er j)), (2, .int (nI 0)), (0, .ref mo), (1, .int (nI j))]) hx hb dX5_degree_11 hl (by decide) rfl (fun ls hl => ?_)
  refine lv_iconst (v := nI 0) hx hb dX5_degree_13 (by decide) ?_
  refine lv_istore (lv' := [(5, .int (nI 0)), (4, .int (nI 7)), (3, .ref (er j)), (2, .int (nI 0)), (0, .ref mo), (1, .int (nI j))]) hx hb dX5_degree_14 hl (by decide) rfl (fun ls hl => ?_)
  refine lv_iload hx hb dX5_degree_16 (lv_at hl 0 rfl) ?_
  refine lv_iload hx hb dX5_degree_18 (lv_at hl 1 rfl) ?_
  refine lv_icmp_ge (tgt := 40) hx hb dX5_degree_20 (by decide) (fun c1 => ?_) (fun c1 => ?_)
  · first | exact absurd c1 (by decide) | exact (c1 (by decide)).elim
  · skip
    refine lv_aload_n hx hb dX5_degree_23 rfl (lv_at hl 2 rfl) ?_
    refine lv_iload hx hb dX5_degree_24 (lv_at hl 0 rfl) ?_
    refine kt_iald hx hb hK hP (2 + j) 0 (row_at (by omega)) rfl (by omega) (by decide) dX5_degree_26 ?_
    refine lv_topi (fun z2 ez2 => ?_)
    have ez2 : z2 = nI 0 := ez2.trans rfl
    subst ez2
    refine lv_istore (lv' := [(6, .int (nI 0)), (5, .int (nI 0)), (4, .int (nI 7)), (3, .ref (er j)), (2, .int (nI 0)), (0, .ref mo), (1, .int (nI j))]) hx hb dX5_degree_27 hl (by decide) rfl (fun ls hl => ?_)
    refine lv_iload_n hx hb dX5_degree_29 rfl (lv_at hl 4 rfl) ?_
    refine lv_iload hx hb dX5_degree_30 (lv_at hl 0 rfl) ?_
    refine lv_iadd hx hb dX5_degree_32 ?_
    refine lv_topi (fun z3 ez3 => ?_)
    have ez3 : z3 = nI 0 := ez3.trans (by decide)
    subst ez3
    refine lv_istore_n (lv' := [(2, .int (nI 0)), (6, .int (nI 0)), (5, .int (nI 0)), (4, .int (nI 7)), (3, .ref (er j)), (0, .ref mo), (1, .int (nI j))]) hx hb dX5_degree_33 rfl hl (by decide) rfl (fun ls hl => ?_)
    refine lv_iinc (v := nI 1) (lv' := [(5, .int (nI 1)), (2, .int (nI 0)), (6, .int (nI 0)), (4, .int (nI 7)), (3, .ref (er j)), (0, .ref mo), (1, .int (nI j))]) hx hb dX5_degree_34 hl (k := 2) rfl (kt_inc 0) (by decide) rfl (fun ls hl => ?_)
    refine lv_goto (tgt := 16) hx hb dX5_degree_37 (by decide) ?_
    refine lv_iload hx hb dX5_degree_16 (lv_at hl 0 rfl) ?_
    refine lv_iload hx hb dX5_degree_18 (lv_at hl 3 rfl) ?_
    refine lv_icmp_ge (tgt := 40) hx hb dX5_degree_20 (by decide) (fun c4 => ?_) (fun c4 => ?_)
    · first | exact absurd c4 (by decide) | exact (c4 (by decide)).elim
    · skip
      refine lv_aload_n hx hb dX5_degree_23 rfl (lv_at hl 4 rfl) ?_
      refine lv_iload hx hb dX5_degree_24 (lv_at hl 0 rfl) ?_
      refine kt_iald hx hb hK hP (2 + j) 0 (row_at (by omega)) rfl (by omega) (by decide) dX5_degree_26 ?_
      refine lv_topi (fun z5 ez5 => ?_)
      have ez5 : z5 = nI 0 := ez5.trans rfl
      subst ez5
      refine lv_istore (lv' := [(6, .int (nI 0)), (5, .int (nI 1)), (2, .int (nI 0)), (4, .int (nI 7)), (3, .ref (er j)), (0, .ref mo), (1, .int (nI j))]) hx hb dX5_degree_27 hl (by decide) rfl (fun ls hl => ?_)
      refine lv_iload_n hx hb dX5_degree_29 rfl (lv_at hl 2 rfl) ?_
      refine lv_iload hx hb dX5_degree_30 (lv_at hl 0 rfl) ?_
      refine lv_iadd hx hb dX5_degree_32 ?_
      refine lv_topi (fun z6 ez6 => ?_)
      have ez6 : z6 = nI 0 := ez6.trans (by decide)
      subst ez6
      refine lv_istore_n (lv' := [(2, .int (nI 0)), (6, .int (nI 0)), (5, .int (nI 1)), (4, .int (nI 7)), (3, .ref (er j)), (0, .ref mo), (1, .int (nI j))]) hx hb dX5_degree_33 rfl hl (by decide) rfl (fun ls hl => ?_)
      refine lv_iinc (v := nI 2) (lv' := [(5, .int (nI 2)), (2, .int (nI 0)), (6, .int (nI 0)), (4, .int (nI 7)), (3, .ref (er j)), (0, .ref mo), (1, .int (nI j))]) hx hb dX5_degree_34 hl (k := 2) rfl (kt_inc 1) (by decide) rfl (fun ls hl => ?_)
      refine lv_goto (tgt := 16) hx hb dX5_degree_37 (by decide) ?_
      refine lv_iload hx hb dX5_degree_16 (lv_at hl 0 rfl) ?_
      refine lv_iload hx hb dX5_degree_18 (lv_at hl 3 rfl) ?_
      refine lv_icmp_ge (tgt := 40) hx hb dX5_degree_20 (by decide) (fun c7 => ?_) (fun c7 => ?_)
      · first | exact absurd c7 (by decide) | exact (c7 (by decide)).elim
      · skip
        refine lv_aload_n hx hb dX5_degree_23 rfl (lv_at hl 4 rfl) ?_
        refine lv_iload hx hb dX5_degree_24 (lv_at hl 0 rfl) ?_
        refine kt_iald hx hb hK hP (2 + j) 0 (row_at (by omega)) rfl (by omega) (by decide) dX5_degree_26 ?_
        refine lv_topi (fun z8 ez8 => ?_)
        have ez8 : z8 = nI 0 := ez8.trans rfl
        subst ez8
        refine lv_istore (lv' := [(6, .int (nI 0)), (5, .int (nI 2)), (2, .int (nI 0)), (4, .int (nI 7)), (3, .ref (er j)), (0, .ref mo), (1, .int (nI j))]) hx hb dX5_degree_27 hl (by decide) rfl (fun ls hl => ?_)
        refine lv_iload_n hx hb dX5_degree_29 rfl (lv_at hl 2 rfl) ?_
        refine lv_iload hx hb dX5_degree_30 (lv_at hl 0 rfl) ?_
        refine lv_iadd hx hb dX5_degree_32 ?_
        refine lv_topi (fun z9 ez9 => ?_)
        have ez9 : z9 = nI 0 := ez9.trans (by decide)
        subst ez9
        refine lv_istore_n (lv' := [(2, .int (nI 0)), (6, .int (nI 0)), (5, .int (nI 2)), (4, .int (nI 7)), (3, .ref (er j)), (0, .ref mo), (1, .int (nI j))]) hx hb dX5_degree_33 rfl hl (by decide) rfl (fun ls hl => ?_)
        refine lv_iinc (v := nI 3) (lv' := [(5, .int (nI 3)), (2, .int (nI 0)), (6, .int (nI 0)), (4, .int (nI 7)), (3, .ref (er j)), (0, .ref mo), (1, .int (nI j))]) hx hb dX5_degree_34 hl (k := 2) rfl (kt_inc 2) (by decide) rfl (fun ls hl => ?_)
        refine lv_goto (tgt := 16) hx hb dX5_degree_37 (by decide) ?_
        refine lv_iload hx hb dX5_degree_16 (lv_at hl 0 rfl) ?_
        refine lv_iload hx hb dX5_degree_18 (lv_at hl 3 rfl) ?_
        refine lv_icmp_ge (tgt := 40) hx hb dX5_degree_20 (by decide) (fun c10 => ?_) (fun c10 => ?_)
        · first | exact absurd c10 (by decide) | exact (c10 (by decide)).elim
        · skip
          refine lv_aload_n hx hb dX5_degree_23 rfl (lv_at hl 4 rfl) ?_
          refine lv_iload hx hb dX5_degree_24 (lv_at hl 0 rfl) ?_
          refine kt_iald hx hb hK hP (2 + j) 0 (row_at (by omega)) rfl (by omega) (by decide) dX5_degree_26 ?_
          refine lv_topi (fun z11 ez11 => ?_)
          have ez11 : z11 = nI 0 := ez11.trans rfl
          subst ez11
          refine lv_istore (lv' := [(6, .int (nI 0)), (5, .int (nI 3)), (2, .int (nI 0)), (4, .int (nI 7)), (3, .ref (er j)), (0, .ref mo), (1, .int (nI j))]) hx hb dX5_degree_27 hl (by decide) rfl (fun ls hl => ?_)
          refine lv_iload_n hx hb dX5_degree_29 rfl (lv_at hl 2 rfl) ?_
          refine lv_iload hx hb dX5_degree_30 (lv_at hl 0 rfl) ?_
          refine lv_iadd hx hb dX5_degree_32 ?_
          refine lv_topi (fun z12 ez12 => ?_)
          have ez12 : z12 = nI 0 := ez12.trans (by decide)
          subst ez12
          refine lv_istore_n (lv' := [(2, .int (nI 0)), (6, .int (nI 0)), (5, .int (nI 3)), (4, .int (nI 7)), (3, .ref (er j)), (0, .ref mo), (1, .int (nI j))]) hx hb dX5_degree_33 rfl hl (by decide) rfl (fun ls hl => ?_)
          refine lv_iinc (v := nI 4) (lv' := [(5, .int (nI 4)), (2, .int (nI 0)), (6, .int (nI 0)), (4, .int (nI 7)), (3, .ref (er j)), (0, .ref mo), (1, .int (nI j))]) hx hb dX5_degree_34 hl (k := 2) rfl (kt_inc 3) (by decide) rfl (fun ls hl => ?_)
          refine lv_goto (tgt := 16) hx hb dX5_degree_37 (by decide) ?_
          refine lv_iload hx hb dX5_degree_16 (lv_at hl 0 rfl) ?_
          refine lv_iload hx hb dX5_degree_18 (lv_at hl 3 rfl) ?_
          refine lv_icmp_ge (tgt := 40) hx hb dX5_degree_20 (by decide) (fun c13 => ?_) (fun c13 => ?_)
          · first | exact absurd c13 (by decide) | exact (c13 (by decide)).elim
          · skip
            refine lv_aload_n hx hb dX5_degree_23 rfl (lv_at hl 4 rfl) ?_
            refine lv_iload hx hb dX5_degree_24 (lv_at hl 0 rfl) ?_
            refine kt_iald hx hb hK hP (2 + j) 0 (row_at (by omega)) rfl (by omega) (by decide) dX5_degree_26 ?_
            refine lv_topi (fun z14 ez14 => ?_)
            have ez14 : z14 = nI 0 := ez14.trans rfl
            subst ez14
            refine lv_istore (lv' := [(6, .int (nI 0)), (5, .int (nI 4)), (2, .int (nI 0)), (4, .int (nI 7)), (3, .ref (er j)), (0, .ref mo), (1, .int (nI j))]) hx hb dX5_degree_27 hl (by decide) rfl (fun ls hl => ?_)
            refine lv_iload_n hx hb dX5_degree_29 rfl (lv_at hl 2 rfl) ?_
            refine lv_iload hx hb dX5_degree_30 (lv_at hl 0 rfl) ?_
            refine lv_iadd hx hb dX5_degree_32 ?_
            refine lv_topi (fun z15 ez15 => ?_)
            have ez15 : z15 = nI 0 := ez15.trans (by decide)
            subst ez15
            refine lv_istore_n (lv' := [(2, .int (nI 0)), (6, .int (nI 0)), (5, .int (nI 4)), (4, .int (nI 7)), (3, .ref (er j)), (0, .ref mo), (1, .int (nI j))]) hx hb dX5_degree_33 rfl hl (by decide) rfl (fun ls hl => ?_)
            refine lv_iinc (v := nI 5) (lv' := [(5, .int (nI 5)), (2, .int (nI 0)), (6, .int (nI 0)), (4, .int (nI 7)), (3, .ref (er j)), (0, .ref mo), (1, .int (nI j))]) hx hb dX5_degree_34 hl (k := 2) rfl (kt_inc 4) (by decide) rfl (fun ls hl => ?_)
            refine lv_goto (tgt := 16) hx hb dX5_degree_37 (by decide) ?_
            refine lv_iload hx hb dX5_degree_16 (lv_at hl 0 rfl) ?_
            refine lv_iload hx hb dX5_degree_18 (lv_at hl 3 rfl) ?_
            refine lv_icmp_ge (tgt := 40) hx hb dX5_degree_20 (by decide) (fun c16 => ?_) (fun c16 => ?_)
            · first | exact absurd c16 (by decide) | exact (c16 (by decide)).elim
            · skip
              refine lv_aload_n hx hb dX5_degree_23 rfl (lv_at hl 4 rfl) ?_
              refine lv_iload hx hb dX5_degree_24 (lv_at hl 0 rfl) ?_
              refine kt_iald hx hb hK hP (2 + j) 0 (row_at (by omega)) rfl (by omega) (by decide) dX5_degree_26 ?_
              refine lv_topi (fun z17 ez17 => ?_)
              have ez17 : z17 = nI 0 := ez17.trans rfl
              subst ez17
              refine lv_istore (lv' := [(6, .int (nI 0)), (5, .int (nI 5)), (2, .int (nI 0)), (4, .int (nI 7)), (3, .ref (er j)), (0, .ref mo), (1, .int (nI j))]) hx hb dX5_degree_27 hl (by decide) rfl (fun ls hl => ?_)
              refine lv_iload_n hx hb dX5_degree_29 rfl (lv_at hl 2 rfl) ?_
              refine lv_iload hx hb dX5_degree_30 (lv_at hl 0 rfl) ?_
              refine lv_iadd hx hb dX5_degree_32 ?_
              refine lv_topi (fun z18 ez18 => ?_)
              have ez18 : z18 = nI 0 := ez18.trans (by decide)
              subst ez18
              refine lv_istore_n (lv' := [(2, .int (nI 0)), (6, .int (nI 0)), (5, .int (nI 5)), (4, .int (nI 7)), (3, .ref (er j)), (0, .ref mo), (1, .int (nI j))]) hx hb dX5_degree_33 rfl hl (by decide) rfl (fun ls hl => ?_)
              refine lv_iinc (v := nI 6) (lv' := [(5, .int (nI 6)), (2, .int (nI 0)), (6, .int (nI 0)), (4, .int (nI 7)), (3, .ref (er j)), (0, .ref mo), (1, .int (nI j))]) hx hb dX5_degree_34 hl (k := 2) rfl (kt_inc 5) (by decide) rfl (fun ls hl => ?_)
              refine lv_goto (tgt := 16) hx hb dX5_degree_37 (by decide) ?_
              refine lv_iload hx hb dX5_degree_16 (lv_at hl 0 rfl) ?_
              refine lv_iload hx hb dX5_degree_18 (lv_at hl 3 rfl) ?_
              refine lv_icmp_ge (tgt := 40) hx hb dX5_degree_20 (by decide) (fun c19 => ?_) (fun c19 => ?_)
              · first | exact absurd c19 (by decide) | exact (c19 (by decide)).elim
              · skip
                refine lv_aload_n hx hb dX5_degree_23 rfl (lv_at hl 4 rfl) ?_
                refine lv_iload hx hb dX5_degree_24 (lv_at hl 0 rfl) ?_
                refine kt_iald hx hb hK hP (2 + j) 0 (row_at (by omega)) rfl (by omega) (by decide) dX5_degree_26 ?_
                refine lv_topi (fun z20 ez20 => ?_)
                have ez20 : z20 = nI 0 := ez20.trans rfl
                subst ez20
                refine lv_istore (lv' := [(6, .int (nI 0)), (5, .int (nI 6)), (2, .int (nI 0)), (4, .int (nI 7)), (3, .ref (er j)), (0, .ref mo), (1, .int (nI j))]) hx hb dX5_degree_27 hl (by decide) rfl (fun ls hl => ?_)
                refine lv_iload_n hx hb dX5_degree_29 rfl (lv_at hl 2 rfl) ?_
                refine lv_iload hx hb dX5_degree_30 (lv_at hl 0 rfl) ?_
                refine lv_iadd hx hb dX5_degree_32 ?_
                refine lv_topi (fun z21 ez21 => ?_)
                have ez21 : z21 = nI 0 := ez21.trans (by decide)
                subst ez21
                refine lv_istore_n (lv' := [(2, .int (nI 0)), (6, .int (nI 0)), (5, .int (nI 6)), (4, .int (nI 7)), (3, .ref (er j)), (0, .ref mo), (1, .int (nI j))]) hx hb dX5_degree_33 rfl hl (by decide) rfl (fun ls hl => ?_)
                refine lv_iinc (v := nI 7) (lv' := [(5, .int (nI 7)), (2, .int (nI 0)), (6, .int (nI 0)), (4, .int (nI 7)), (3, .ref (er j)), (0, .ref mo), (1, .int (nI j))]) hx hb dX5_degree_34 hl (k := 2) rfl (kt_inc 6) (by decide) rfl (fun ls hl => ?_)
                refine lv_goto (tgt := 16) hx hb dX5_degree_37 (by decide) ?_
                refine lv_iload hx hb dX5_degree_16 (lv_at hl 0 rfl) ?_
                refine lv_iload hx hb dX5_degree_18 (lv_at hl 3 rfl) ?_
                refine lv_icmp_ge (tgt := 40) hx hb dX5_degree_20 (by decide) (fun c22 => ?_) (fun c22 => ?_)
                · skip
                  refine lv_iload_n hx hb dX5_degree_40 rfl (lv_at hl 1 rfl) ?_
                  refine W.widen (k := 0) (n := 0) (by omega) (by omega) ?_
                  exact kt_iret (W' := wR th CO mo eo er gr av ro co kl dd cI cII) hx hb hr hS hP hK hD (by decide) hlocks dX5_degree_41
                · first | exact absurd c22 (by decide) | exact (c22 (by decide)).elim

set_option maxHeartbeats 4000000 in
set_option maxRecDepth 100000 in
theorem c_X5_sum_6 (l : Launch) (dC : Nat → ClassId) (dI : Nat → Nat → Nat) (cI cII cJ cJJ cZ cO : ClassId) (a : Nat) (sz : Nat)  : Met l yX5_sum wsX5_sum ({ frames := 0, cells := 0, slots := 0, locals := 0 }) (va_Pc [.ref a] (PRE (dC, dI) (tyR cI cII cJ cJJ cZ cO) ([(a, .inl (cI, 6, .inl z0))]) sz)) (va_Qi (fun (r' : Int32) (_ : Unit) => r' = nI 0) (fun _ tS => ATW (dC, dI) (tyR cI cII cJ cJJ cZ cO) (va_A ([(a, .inl (cI, 6, .inl z0))]) sz) ([(a, .inl (cI, 6, .inl z0))]) tS) (va_A ([(a, .inl (cI, 6, .inl z0))]) sz)) 0 0 (va_A ([(a, .inl (cI, 6, .inl z0))]) sz) := by
  refine Met.ofW (cc := cX5_sum) (maxL := 6) (ret := (some .int)) (by decide) rfl ?_
  intro p e s m args below meth c s₁ B hml hv
  obtain ⟨rfl, hsz, hP, hK, hD0⟩ := hv
  have hx := B.exec
  have hb := B.bytes
  have hr := B.returns
  have hlocks := B.notSynchronized
  have hts := atoms_spec (ws := wsX5_sum) B.pre
  have hown : s.vm.findClass RX5 = some m.cls := findClass_of_methodNamed B.named
  subst hsz
  have hD := hD0.self (sz := s.heap.size)
  generalize hAe : va_A ([(a, .inl (cI, 6, .inl z0))]) s.heap.size = A at hD ⊢
  have hA : ∀ q : Nat, s.heap.size ≤ q → A q := fun q h => by rw [← hAe]; exact Or.inr h
  have hS : va_S A s.heap s.heap [] := va_S.rf
  have hl := lv_entry ([.ref a]) (n := 6) (Nat.le_of_ble_eq_true rfl)
  rw [lg_entry_eq]
  generalize (lg_sl ([.ref a]) ++ List.replicate (6 - (lg_sl ([.ref a])).length) Slot.unset).toArray = ls at hl ⊢
  have hl : lv_has ls 6 [(0, .ref a)] := hl
  refine lv_iconst (v := nI 0) hx hb dX5_sum_0 (by decide) ?_
  refine lv_istore_n (lv' := [(1, .int (nI 0)), (0, .ref a)]) hx hb dX5_sum_1 rfl hl (by decide) rfl (fun ls hl => ?_)
  refine lv_aload_n hx hb dX5_sum_2 rfl (lv_at hl 1 rfl) ?_
  refine lv_astore_n (lv' := [(2, .ref a), (1, .int (nI 0)), (0, .ref a)]) hx hb dX5_sum_3 rfl hl (by decide) rfl (fun ls hl => ?_)
  refine lv_aload_n hx hb dX5_sum_4 rfl (lv_at hl 0 rfl) ?_
  refine va_alen hx hb hK hP 0 0 rfl rfl (v := nI 6) rfl dX5_sum_5 ?_
  refine lv_istore_n (lv' := [(3, .int (nI 6)), (2, .ref a), (1, .int (nI 0)), (0, .ref a)]) hx hb dX5_sum_6 rfl hl (by decide) rfl (fun ls hl => ?_)
  refine lv_iconst (v := nI 0) hx hb dX5_sum_7 (by decide) ?_
  refine lv_istore (lv' := [(4, .int (nI 0)), (3, .int (nI 6)), (2, .ref a), (1, .int (nI 0)), (0, .ref a)]) hx hb dX5_sum_8 hl (by decide) rfl (fun ls hl => ?_)
  refine lv_iload hx hb dX5_sum_10 (lv_at hl 0 rfl) ?_
  refine lv_iload_n hx hb dX5_sum_12 rfl (lv_at hl 1 rfl) ?_
  refine lv_icmp_ge (tgt := 33) hx hb dX5_sum_13 (by decide) (fun c1 => ?_) (fun c1 => ?_)
  · first | exact absurd c1 (by decide) | exact (c1 (by decide)).elim
  · skip
    refine lv_aload_n hx hb dX5_sum_16 rfl (lv_at hl 2 rfl) ?_
    refine lv_iload hx hb dX5_sum_17 (lv_at hl 0 rfl) ?_
    refine kt_iald hx hb hK hP 0 0 rfl rfl (by omega) (by decide) dX5_sum_19 ?_
    refine lv_topi (fun z2 ez2 => ?_)
    have ez2 : z2 = nI 0 := ez2.trans rfl
    subst ez2
    refine lv_istore (lv' := [(5, .int (nI 0)), (4, .int (nI 0)), (3, .int (nI 6)), (2, .ref a), (1, .int (nI 0)), (0, .ref a)]) hx hb dX5_sum_20 hl (by decide) rfl (fun ls hl => ?_)
    refine lv_iload_n hx hb dX5_sum_22 rfl (lv_at hl 4 rfl) ?_
    refine lv_iload hx hb dX5_sum_23 (lv_at hl 0 rfl) ?_
    refine lv_iadd hx hb dX5_sum_25 ?_
    refine lv_topi (fun z3 ez3 => ?_)
    have ez3 : z3 = nI 0 := ez3.trans (by decide)
    subst ez3
    refine lv_istore_n (lv' := [(1, .int (nI 0)), (5, .int (nI 0)), (4, .int (nI 0)), (3, .int (nI 6)), (2, .ref a), (0, .ref a)]) hx hb dX5_sum_26 rfl hl (by decide) rfl (fun ls hl => ?_)
    refine lv_iinc (v := nI 1) (lv' := [(4, .int (nI 1)), (1, .int (nI 0)), (5, .int (nI 0)), (3, .int (nI 6)), (2, .ref a), (0, .ref a)]) hx hb dX5_sum_27 hl (k := 2) rfl (kt_inc 0) (by decide) rfl (fun ls hl => ?_)
    refine lv_goto (tgt := 10) hx hb dX5_sum_30 (by decide) ?_
    refine lv_iload hx hb dX5_sum_10 (lv_at hl 0 rfl) ?_
    refine lv_iload_n hx hb dX5_sum_12 rfl (lv_at hl 3 rfl) ?_
    refine lv_icmp_ge (tgt := 33) hx hb dX5_sum_13 (by decide) (fun c4 => ?_) (fun c4 => ?_)
    · first | exact absurd c4 (by decide) | exact (c4 (by decide)).elim
    · skip
      refine lv_aload_n hx hb dX5_sum_16 rfl (lv_at hl 4 rfl) ?_
      refine lv_iload hx hb dX5_sum_17 (lv_at hl 0 rfl) ?_
      refine kt_iald hx hb hK hP 0 0 rfl rfl (by omega) (by decide) dX5_sum_19 ?_
      refine lv_topi (fun z5 ez5 => ?_)
      have ez5 : z5 = nI 0 := ez5.trans rfl
      subst ez5
      refine lv_istore (lv' := [(5, .int (nI 0)), (4, .int (nI 1)), (1, .int (nI 0)), (3, .int (nI 6)), (2, .ref a), (0, .ref a)]) hx hb dX5_sum_20 hl (by decide) rfl (fun ls hl => ?_)
      refine lv_iload_n hx hb dX5_sum_22 rfl (lv_at hl 2 rfl) ?_
      refine lv_iload hx hb dX5_sum_23 (lv_at hl 0 rfl) ?_
      refine lv_iadd hx hb dX5_sum_25 ?_
      refine lv_topi (fun z6 ez6 => ?_)
      have ez6 : z6 = nI 0 := ez6.trans (by decide)
      subst ez6
      refine lv_istore_n (lv' := [(1, .int (nI 0)), (5, .int (nI 0)), (4, .int (nI 1)), (3, .int (nI 6)), (2, .ref a), (0, .ref a)]) hx hb dX5_sum_26 rfl hl (by decide) rfl (fun ls hl => ?_)
      refine lv_iinc (v := nI 2) (lv' := [(4, .int (nI 2)), (1, .int (nI 0)), (5, .int (nI 0)), (3, .int (nI 6)), (2, .ref a), (0, .ref a)]) hx hb dX5_sum_27 hl (k := 2) rfl (kt_inc 1) (by decide) rfl (fun ls hl => ?_)
      refine lv_goto (tgt := 10) hx hb dX5_sum_30 (by decide) ?_
      refine lv_iload hx hb dX5_sum_10 (lv_at hl 0 rfl) ?_
      refine lv_iload_n hx hb dX5_sum_12 rfl (lv_at hl 3 rfl) ?_
      refine lv_icmp_ge (tgt := 33) hx hb dX5_sum_13 (by decide) (fun c7 => ?_) (fun c7 => ?_)
      · first | exact absurd c7 (by decide) | exact (c7 (by decide)).elim
      · skip
        refine lv_aload_n hx hb dX5_sum_16 rfl (lv_at hl 4 rfl) ?_
        refine lv_iload hx hb dX5_sum_17 (lv_at hl 0 rfl) ?_
        refine kt_iald hx hb hK hP 0 0 rfl rfl (by omega) (by decide) dX5_sum_19 ?_
        refine lv_topi (fun z8 ez8 => ?_)
        have ez8 : z8 = nI 0 := ez8.trans rfl
        subst ez8
        refine lv_istore (lv' := [(5, .int (nI 0)), (4, .int (nI 2)), (1, .int (nI 0)), (3, .int (nI 6)), (2, .ref a), (0, .ref a)]) hx hb dX5_sum_20 hl (by decide) rfl (fun ls hl => ?_)
        refine lv_iload_n hx hb dX5_sum_22 rfl (lv_at hl 2 rfl) ?_
        refine lv_iload hx hb dX5_sum_23 (lv_at hl 0 rfl) ?_
        refine lv_iadd hx hb dX5_sum_25 ?_
        refine lv_topi (fun z9 ez9 => ?_)
        have ez9 : z9 = nI 0 := ez9.trans (by decide)
        subst ez9
        refine lv_istore_n (lv' := [(1, .int (nI 0)), (5, .int (nI 0)), (4, .int (nI 2)), (3, .int (nI 6)), (2, .ref a), (0, .ref a)]) hx hb dX5_sum_26 rfl hl (by decide) rfl (fun ls hl => ?_)
        refine lv_iinc (v := nI 3) (lv' := [(4, .int (nI 3)), (1, .int (nI 0)), (5, .int (nI 0)), (3, .int (nI 6)), (2, .ref a), (0, .ref a)]) hx hb dX5_sum_27 hl (k := 2) rfl (kt_inc 2) (by decide) rfl (fun ls hl => ?_)
        refine lv_goto (tgt := 10) hx hb dX5_sum_30 (by decide) ?_
        refine lv_iload hx hb dX5_sum_10 (lv_at hl 0 rfl) ?_
        refine lv_iload_n hx hb dX5_sum_12 rfl (lv_at hl 3 rfl) ?_
        refine lv_icmp_ge (tgt := 33) hx hb dX5_sum_13 (by decide) (fun c10 => ?_) (fun c10 => ?_)
        · first | exact absurd c10 (by decide) | exact (c10 (by decide)).elim
        · skip
          refine lv_aload_n hx hb dX5_sum_16 rfl (lv_at hl 4 rfl) ?_
          refine lv_iload hx hb dX5_sum_17 (lv_at hl 0 rfl) ?_
          refine kt_iald hx hb hK hP 0 0 rfl rfl (by omega) (by decide) dX5_sum_19 ?_
          refine lv_topi (fun z11 ez11 => ?_)
          have ez11 : z11 = nI 0 := ez11.trans rfl
          subst ez11
          refine lv_istore (lv' := [(5, .int (nI 0)), (4, .int (nI 3)), (1, .int (nI 0)), (3, .int (nI 6)), (2, .ref a), (0, .ref a)]) hx hb dX5_sum_20 hl (by decide) rfl (fun ls hl => ?_)
          refine lv_iload_n hx hb dX5_sum_22 rfl (lv_at hl 2 rfl) ?_
          refine lv_iload hx hb dX5_sum_23 (lv_at hl 0 rfl) ?_
          refine lv_iadd hx hb dX5_sum_25 ?_
          refine lv_topi (fun z12 ez12 => ?_)
          have ez12 : z12 = nI 0 := ez12.trans (by decide)
          subst ez12
          refine lv_istore_n (lv' := [(1, .int (nI 0)), (5, .int (nI 0)), (4, .int (nI 3)), (3, .int (nI 6)), (2, .ref a), (0, .ref a)]) hx hb dX5_sum_26 rfl hl (by decide) rfl (fun ls hl => ?_)
          refine lv_iinc (v := nI 4) (lv' := [(4, .int (nI 4)), (1, .int (nI 0)), (5, .int (nI 0)), (3, .int (nI 6)), (2, .ref a), (0, .ref a)]) hx hb dX5_sum_27 hl (k := 2) rfl (kt_inc 3) (by decide) rfl (fun ls hl => ?_)
          refine lv_goto (tgt := 10) hx hb dX5_sum_30 (by decide) ?_
          refine lv_iload hx hb dX5_sum_10 (lv_at hl 0 rfl) ?_
          refine lv_iload_n hx hb dX5_sum_12 rfl (lv_at hl 3 rfl) ?_
          refine lv_icmp_ge (tgt := 33) hx hb dX5_sum_13 (by decide) (fun c13 => ?_) (fun c13 => ?_)
          · first | exact absurd c13 (by decide) | exact (c13 (by decide)).elim
          · skip
            refine lv_aload_n hx hb dX5_sum_16 rfl (lv_at hl 4 rfl) ?_
            refine lv_iload hx hb dX5_sum_17 (lv_at hl 0 rfl) ?_
            refine kt_iald hx hb hK hP 0 0 rfl rfl (by omega) (by decide) dX5_sum_19 ?_
            refine lv_topi (fun z14 ez14 => ?_)
            have ez14 : z14 = nI 0 := ez14.trans rfl
            subst ez14
            refine lv_istore (lv' := [(5, .int (nI 0)), (4, .int (nI 4)), (1, .int (nI 0)), (3, .int (nI 6)), (2, .ref a), (0, .ref a)]) hx hb dX5_sum_20 hl (by decide) rfl (fun ls hl => ?_)
            refine lv_iload_n hx hb dX5_sum_22 rfl (lv_at hl 2 rfl) ?_
            refine lv_iload hx hb dX5_sum_23 (lv_at hl 0 rfl) ?_
            refine lv_iadd hx hb dX5_sum_25 ?_
            refine lv_topi (fun z15 ez15 => ?_)
            have ez15 : z15 = nI 0 := ez15.trans (by decide)
            subst ez15
            refine lv_istore_n (lv' := [(1, .int (nI 0)), (5, .int (nI 0)), (4, .int (nI 4)), (3, .int (nI 6)), (2, .ref a), (0, .ref a)]) hx hb dX5_sum_26 rfl hl (by decide) rfl (fun ls hl => ?_)
            refine lv_iinc (v := nI 5) (lv' := [(4, .int (nI 5)), (1, .int (nI 0)), (5, .int (nI 0)), (3, .int (nI 6)), (2, .ref a), (0, .ref a)]) hx hb dX5_sum_27 hl (k := 2) rfl (kt_inc 4) (by decide) rfl (fun ls hl => ?_)
            refine lv_goto (tgt := 10) hx hb dX5_sum_30 (by decide) ?_
            refine lv_iload hx hb dX5_sum_10 (lv_at hl 0 rfl) ?_
            refine lv_iload_n hx hb dX5_sum_12 rfl (lv_at hl 3 rfl) ?_
            refine lv_icmp_ge (tgt := 33) hx hb dX5_sum_13 (by decide) (fun c16 => ?_) (fun c16 => ?_)
            · first | exact absurd c16 (by decide) | exact (c16 (by decide)).elim
            · skip
              refine lv_aload_n hx hb dX5_sum_16 rfl (lv_at hl 4 rfl) ?_
              refine lv_iload hx hb dX5_sum_17 (lv_at hl 0 rfl) ?_
              refine kt_iald hx hb hK hP 0 0 rfl rfl (by omega) (by decide) dX5_sum_19 ?_
              refine lv_topi (fun z17 ez17 => ?_)
              have ez17 : z17 = nI 0 := ez17.trans rfl
              subst ez17
              refine lv_istore (lv' := [(5, .int (nI 0)), (4, .int (nI 5)), (1, .int (nI 0)), (3, .int (nI 6)), (2, .ref a), (0, .ref a)]) hx hb dX5_sum_20 hl (by decide) rfl (fun ls hl => ?_)
              refine lv_iload_n hx hb dX5_sum_22 rfl (lv_at hl 2 rfl) ?_
              refine lv_iload hx hb dX5_sum_23 (lv_at hl 0 rfl) ?_
              refine lv_iadd hx hb dX5_sum_25 ?_
              refine lv_topi (fun z18 ez18 => ?_)
              have ez18 : z18 = nI 0 := ez18.trans (by decide)
              subst ez18
              refine lv_istore_n (lv' := [(1, .int (nI 0)), (5, .int (nI 0)), (4, .int (nI 5)), (3, .int (nI 6)), (2, .ref a), (0, .ref a)]) hx hb dX5_sum_26 rfl hl (by decide) rfl (fun ls hl => ?_)
              refine lv_iinc (v := nI 6) (lv' := [(4, .int (nI 6)), (1, .int (nI 0)), (5, .int (nI 0)), (3, .int (nI 6)), (2, .ref a), (0, .ref a)]) hx hb dX5_sum_27 hl (k := 2) rfl (kt_inc 5) (by decide) rfl (fun ls hl => ?_)
              refine lv_goto (tgt := 10) hx hb dX5_sum_30 (by decide) ?_
              refine lv_iload hx hb dX5_sum_10 (lv_at hl 0 rfl) ?_
              refine lv_iload_n hx hb dX5_sum_12 rfl (lv_at hl 3 rfl) ?_
              refine lv_icmp_ge (tgt := 33) hx hb dX5_sum_13 (by decide) (fun c19 => ?_) (fun c19 => ?_)
              · skip
                refine lv_iload_n hx hb dX5_sum_33 rfl (lv_at hl 1 rfl) ?_
                refine W.widen (k := 0) (n := 0) (by omega) (by omega) ?_
                exact kt_iret (W' := [(a, .inl (cI, 6, .inl z0))]) hx hb hr hS hP hK hD (by decide) hlocks dX5_sum_34
              · first | exact absurd c19 (by decide) | exact (c19 (by decide)).elim

set_option maxHeartbeats 4000000 in
set_option maxRecDepth 100000 in
theorem c_X5_sum_7 (l : Launch) (dC : Nat → ClassId) (dI : Nat → Nat → Nat) (cI cII cJ cJJ cZ cO : ClassId) (a : Nat) (sz : Nat)  : Met l yX5_sum wsX5_sum ({ frames := 0, cells := 0, slots := 0, locals := 0 }) (va_Pc [.ref a] (PRE (dC, dI) (tyR cI cII cJ cJJ cZ cO) ([(a, .inl (cI, 7, .inl z0))]) sz)) (va_Qi (fun (r' : Int32) (_ : Unit) => r' = nI 0) (fun _ tS => ATW (dC, dI) (tyR cI cII cJ cJJ cZ cO) (va_A ([(a, .inl (cI, 7, .inl z0))]) sz) ([(a, .inl (cI, 7, .inl z0))]) tS) (va_A ([(a, .inl (cI, 7, .inl z0))]) sz)) 0 0 (va_A ([(a, .inl (cI, 7, .inl z0))]) sz) := by
  refine Met.ofW (cc := cX5_sum) (maxL := 6) (ret := (some .int)) (by decide) rfl ?_
  intro p e s m args below meth c s₁ B hml hv
  obtain ⟨rfl, hsz, hP, hK, hD0⟩ := hv
  have hx := B.exec
  have hb := B.bytes
  have hr := B.returns
  have hlocks := B.notSynchronized
  have hts := atoms_spec (ws := wsX5_sum) B.pre
  have hown : s.vm.findClass RX5 = some m.cls := findClass_of_methodNamed B.named
  subst hsz
  have hD := hD0.self (sz := s.heap.size)
  generalize hAe : va_A ([(a, .inl (cI, 7, .inl z0))]) s.heap.size = A at hD ⊢
  have hA : ∀ q : Nat, s.heap.size ≤ q → A q := fun q h => by rw [← hAe]; exact Or.inr h
  have hS : va_S A s.heap s.heap [] := va_S.rf
  have hl := lv_entry ([.ref a]) (n := 6) (Nat.le_of_ble_eq_true rfl)
  rw [lg_entry_eq]
  generalize (lg_sl ([.ref a]) ++ List.replicate (6 - (lg_sl ([.ref a])).length) Slot.unset).toArray = ls at hl ⊢
  have hl : lv_has ls 6 [(0, .ref a)] := hl
  refine lv_iconst (v := nI 0) hx hb dX5_sum_0 (by decide) ?_
  refine lv_istore_n (lv' := [(1, .int (nI 0)), (0, .ref a)]) hx hb dX5_sum_1 rfl hl (by decide) rfl (fun ls hl => ?_)
  refine lv_aload_n hx hb dX5_sum_2 rfl (lv_at hl 1 rfl) ?_
  refine lv_astore_n (lv' := [(2, .ref a), (1, .int (nI 0)), (0, .ref a)]) hx hb dX5_sum_3 rfl hl (by decide) rfl (fun ls hl => ?_)
  refine lv_aload_n hx hb dX5_sum_4 rfl (lv_at hl 0 rfl) ?_
  refine va_alen hx hb hK hP 0 0 rfl rfl (v := nI 7) rfl dX5_sum_5 ?_
  refine lv_istore_n (lv' := [(3, .int (nI 7)), (2, .ref a), (1, .int (nI 0)), (0, .ref a)]) hx hb dX5_sum_6 rfl hl (by decide) rfl (fun ls hl => ?_)
  refine lv_iconst (v := nI 0) hx hb dX5_sum_7 (by decide) ?_
  refine lv_istore (lv' := [(4, .int (nI 0)), (3, .int (nI 7)), (2, .ref a), (1, .int (nI 0)), (0, .ref a)]) hx hb dX5_sum_8 hl (by decide) rfl (fun ls hl => ?_)
  refine lv_iload hx hb dX5_sum_10 (lv_at hl 0 rfl) ?_
  refine lv_iload_n hx hb dX5_sum_12 rfl (lv_at hl 1 rfl) ?_
  refine lv_icmp_ge (tgt := 33) hx hb dX5_sum_13 (by decide) (fun c1 => ?_) (fun c1 => ?_)
  · first | exact absurd c1 (by decide) | exact (c1 (by decide)).elim
  · skip
    refine lv_aload_n hx hb dX5_sum_16 rfl (lv_at hl 2 rfl) ?_
    refine lv_iload hx hb dX5_sum_17 (lv_at hl 0 rfl) ?_
    refine kt_iald hx hb hK hP 0 0 rfl rfl (by omega) (by decide) dX5_sum_19 ?_
    refine lv_topi (fun z2 ez2 => ?_)
    have ez2 : z2 = nI 0 := ez2.trans rfl
    subst ez2
    refine lv_istore (lv' := [(5, .int (nI 0)), (4, .int (nI 0)), (3, .int (nI 7)), (2, .ref a), (1, .int (nI 0)), (0, .ref a)]) hx hb dX5_sum_20 hl (by decide) rfl (fun ls hl => ?_)
    refine lv_iload_n hx hb dX5_sum_22 rfl (lv_at hl 4 rfl) ?_
    refine lv_iload hx hb dX5_sum_23 (lv_at hl 0 rfl) ?_
    refine lv_iadd hx hb dX5_sum_25 ?_
    refine lv_topi (fun z3 ez3 => ?_)
    have ez3 : z3 = nI 0 := ez3.trans (by decide)
    subst ez3
    refine lv_istore_n (lv' := [(1, .int (nI 0)), (5, .int (nI 0)), (4, .int (nI 0)), (3, .int (nI 7)), (2, .ref a), (0, .ref a)]) hx hb dX5_sum_26 rfl hl (by decide) rfl (fun ls hl => ?_)
    refine lv_iinc (v := nI 1) (lv' := [(4, .int (nI 1)), (1, .int (nI 0)), (5, .int (nI 0)), (3, .int (nI 7)), (2, .ref a), (0, .ref a)]) hx hb dX5_sum_27 hl (k := 2) rfl (kt_inc 0) (by decide) rfl (fun ls hl => ?_)
    refine lv_goto (tgt := 10) hx hb dX5_sum_30 (by decide) ?_
    refine lv_iload hx hb dX5_sum_10 (lv_at hl 0 rfl) ?_
    refine lv_iload_n hx hb dX5_sum_12 rfl (lv_at hl 3 rfl) ?_
    refine lv_icmp_ge (tgt := 33) hx hb dX5_sum_13 (by decide) (fun c4 => ?_) (fun c4 => ?_)
    · first | exact absurd c4 (by decide) | exact (c4 (by decide)).elim
    · skip
      refine lv_aload_n hx hb dX5_sum_16 rfl (lv_at hl 4 rfl) ?_
      refine lv_iload hx hb dX5_sum_17 (lv_at hl 0 rfl) ?_
      refine kt_iald hx hb hK hP 0 0 rfl rfl (by omega) (by decide) dX5_sum_19 ?_
      refine lv_topi (fun z5 ez5 => ?_)
      have ez5 : z5 = nI 0 := ez5.trans rfl
      subst ez5
      refine lv_istore (lv' := [(5, .int (nI 0)), (4, .int (nI 1)), (1, .int (nI 0)), (3, .int (nI 7)), (2, .ref a), (0, .ref a)]) hx hb dX5_sum_20 hl (by decide) rfl (fun ls hl => ?_)
      refine lv_iload_n hx hb dX5_sum_22 rfl (lv_at hl 2 rfl) ?_
      refine lv_iload hx hb dX5_sum_23 (lv_at hl 0 rfl) ?_
      refine lv_iadd hx hb dX5_sum_25 ?_
      refine lv_topi (fun z6 ez6 => ?_)
      have ez6 : z6 = nI 0 := ez6.trans (by decide)
      subst ez6
      refine lv_istore_n (lv' := [(1, .int (nI 0)), (5, .int (nI 0)), (4, .int (nI 1)), (3, .int (nI 7)), (2, .ref a), (0, .ref a)]) hx hb dX5_sum_26 rfl hl (by decide) rfl (fun ls hl => ?_)
      refine lv_iinc (v := nI 2) (lv' := [(4, .int (nI 2)), (1, .int (nI 0)), (5, .int (nI 0)), (3, .int (nI 7)), (2, .ref a), (0, .ref a)]) hx hb dX5_sum_27 hl (k := 2) rfl (kt_inc 1) (by decide) rfl (fun ls hl => ?_)
      refine lv_goto (tgt := 10) hx hb dX5_sum_30 (by decide) ?_
      refine lv_iload hx hb dX5_sum_10 (lv_at hl 0 rfl) ?_
      refine lv_iload_n hx hb dX5_sum_12 rfl (lv_at hl 3 rfl) ?_
      refine lv_icmp_ge (tgt := 33) hx hb dX5_sum_13 (by decide) (fun c7 => ?_) (fun c7 => ?_)
      · first | exact absurd c7 (by decide) | exact (c7 (by decide)).elim
      · skip
        refine lv_aload_n hx hb dX5_sum_16 rfl (lv_at hl 4 rfl) ?_
        refine lv_iload hx hb dX5_sum_17 (lv_at hl 0 rfl) ?_
        refine kt_iald hx hb hK hP 0 0 rfl rfl (by omega) (by decide) dX5_sum_19 ?_
        refine lv_topi (fun z8 ez8 => ?_)
        have ez8 : z8 = nI 0 := ez8.trans rfl
        subst ez8
        refine lv_istore (lv' := [(5, .int (nI 0)), (4, .int (nI 2)), (1, .int (nI 0)), (3, .int (nI 7)), (2, .ref a), (0, .ref a)]) hx hb dX5_sum_20 hl (by decide) rfl (fun ls hl => ?_)
        refine lv_iload_n hx hb dX5_sum_22 rfl (lv_at hl 2 rfl) ?_
        refine lv_iload hx hb dX5_sum_23 (lv_at hl 0 rfl) ?_
        refine lv_iadd hx hb dX5_sum_25 ?_
        refine lv_topi (fun z9 ez9 => ?_)
        have ez9 : z9 = nI 0 := ez9.trans (by decide)
        subst ez9
        refine lv_istore_n (lv' := [(1, .int (nI 0)), (5, .int (nI 0)), (4, .int (nI 2)), (3, .int (nI 7)), (2, .ref a), (0, .ref a)]) hx hb dX5_sum_26 rfl hl (by decide) rfl (fun ls hl => ?_)
        refine lv_iinc (v := nI 3) (lv' := [(4, .int (nI 3)), (1, .int (nI 0)), (5, .int (nI 0)), (3, .int (nI 7)), (2, .ref a), (0, .ref a)]) hx hb dX5_sum_27 hl (k := 2) rfl (kt_inc 2) (by decide) rfl (fun ls hl => ?_)
        refine lv_goto (tgt := 10) hx hb dX5_sum_30 (by decide) ?_
        refine lv_iload hx hb dX5_sum_10 (lv_at hl 0 rfl) ?_
        refine lv_iload_n hx hb dX5_sum_12 rfl (lv_at hl 3 rfl) ?_
        refine lv_icmp_ge (tgt := 33) hx hb dX5_sum_13 (by decide) (fun c10 => ?_) (fun c10 => ?_)
        · first | exact absurd c10 (by decide) | exact (c10 (by decide)).elim
        · skip
          refine lv_aload_n hx hb dX5_sum_16 rfl (lv_at hl 4 rfl) ?_
          refine lv_iload hx hb dX5_sum_17 (lv_at hl 0 rfl) ?_
          refine kt_iald hx hb hK hP 0 0 rfl rfl (by omega) (by decide) dX5_sum_19 ?_
          refine lv_topi (fun z11 ez11 => ?_)
          have ez11 : z11 = nI 0 := ez11.trans rfl
          subst ez11
          refine lv_istore (lv' := [(5, .int (nI 0)), (4, .int (nI 3)), (1, .int (nI 0)), (3, .int (nI 7)), (2, .ref a), (0, .ref a)]) hx hb dX5_sum_20 hl (by decide) rfl (fun ls hl => ?_)
          refine lv_iload_n hx hb dX5_sum_22 rfl (lv_at hl 2 rfl) ?_
          refine lv_iload hx hb dX5_sum_23 (lv_at hl 0 rfl) ?_
          refine lv_iadd hx hb dX5_sum_25 ?_
          refine lv_topi (fun z12 ez12 => ?_)
          have ez12 : z12 = nI 0 := ez12.trans (by decide)
          subst ez12
          refine lv_istore_n (lv' := [(1, .int (nI 0)), (5, .int (nI 0)), (4, .int (nI 3)), (3, .int (nI 7)), (2, .ref a), (0, .ref a)]) hx hb dX5_sum_26 rfl hl (by decide) rfl (fun ls hl => ?_)
          refine lv_iinc (v := nI 4) (lv' := [(4, .int (nI 4)), (1, .int (nI 0)), (5, .int (nI 0)), (3, .int (nI 7)), (2, .ref a), (0, .ref a)]) hx hb dX5_sum_27 hl (k := 2) rfl (kt_inc 3) (by decide) rfl (fun ls hl => ?_)
          refine lv_goto (tgt := 10) hx hb dX5_sum_30 (by decide) ?_
          refine lv_iload hx hb dX5_sum_10 (lv_at hl 0 rfl) ?_
          refine lv_iload_n hx hb dX5_sum_12 rfl (lv_at hl 3 rfl) ?_
          refine lv_icmp_ge (tgt := 33) hx hb dX5_sum_13 (by decide) (fun c13 => ?_) (fun c13 => ?_)
          · first | exact absurd c13 (by decide) | exact (c13 (by decide)).elim
          · skip
            refine lv_aload_n hx hb dX5_sum_16 rfl (lv_at hl 4 rfl) ?_
            refine lv_iload hx hb dX5_sum_17 (lv_at hl 0 rfl) ?_
            refine kt_iald hx hb hK hP 0 0 rfl rfl (by omega) (by decide) dX5_sum_19 ?_
            refine lv_topi (fun z14 ez14 => ?_)
            have ez14 : z14 = nI 0 := ez14.trans rfl
            subst ez14
            refine lv_istore (lv' := [(5, .int (nI 0)), (4, .int (nI 4)), (1, .int (nI 0)), (3, .int (nI 7)), (2, .ref a), (0, .ref a)]) hx hb dX5_sum_20 hl (by decide) rfl (fun ls hl => ?_)
            refine lv_iload_n hx hb dX5_sum_22 rfl (lv_at hl 2 rfl) ?_
            refine lv_iload hx hb dX5_sum_23 (lv_at hl 0 rfl) ?_
            refine lv_iadd hx hb dX5_sum_25 ?_
            refine lv_topi (fun z15 ez15 => ?_)
            have ez15 : z15 = nI 0 := ez15.trans (by decide)
            subst ez15
            refine lv_istore_n (lv' := [(1, .int (nI 0)), (5, .int (nI 0)), (4, .int (nI 4)), (3, .int (nI 7)), (2, .ref a), (0, .ref a)]) hx hb dX5_sum_26 rfl hl (by decide) rfl (fun ls hl => ?_)
            refine lv_iinc (v := nI 5) (lv' := [(4, .int (nI 5)), (1, .int (nI 0)), (5, .int (nI 0)), (3, .int (nI 7)), (2, .ref a), (0, .ref a)]) hx hb dX5_sum_27 hl (k := 2) rfl (kt_inc 4) (by decide) rfl (fun ls hl => ?_)
            refine lv_goto (tgt := 10) hx hb dX5_sum_30 (by decide) ?_
            refine lv_iload hx hb dX5_sum_10 (lv_at hl 0 rfl) ?_
            refine lv_iload_n hx hb dX5_sum_12 rfl (lv_at hl 3 rfl) ?_
            refine lv_icmp_ge (tgt := 33) hx hb dX5_sum_13 (by decide) (fun c16 => ?_) (fun c16 => ?_)
            · first | exact absurd c16 (by decide) | exact (c16 (by decide)).elim
            · skip
              refine lv_aload_n hx hb dX5_sum_16 rfl (lv_at hl 4 rfl) ?_
              refine lv_iload hx hb dX5_sum_17 (lv_at hl 0 rfl) ?_
              refine kt_iald hx hb hK hP 0 0 rfl rfl (by omega) (by decide) dX5_sum_19 ?_
              refine lv_topi (fun z17 ez17 => ?_)
              have ez17 : z17 = nI 0 := ez17.trans rfl
              subst ez17
              refine lv_istore (lv' := [(5, .int (nI 0)), (4, .int (nI 5)), (1, .int (nI 0)), (3, .int (nI 7)), (2, .ref a), (0, .ref a)]) hx hb dX5_sum_20 hl (by decide) rfl (fun ls hl => ?_)
              refine lv_iload_n hx hb dX5_sum_22 rfl (lv_at hl 2 rfl) ?_
              refine lv_iload hx hb dX5_sum_23 (lv_at hl 0 rfl) ?_
              refine lv_iadd hx hb dX5_sum_25 ?_
              refine lv_topi (fun z18 ez18 => ?_)
              have ez18 : z18 = nI 0 := ez18.trans (by decide)
              subst ez18
              refine lv_istore_n (lv' := [(1, .int (nI 0)), (5, .int (nI 0)), (4, .int (nI 5)), (3, .int (nI 7)), (2, .ref a), (0, .ref a)]) hx hb dX5_sum_26 rfl hl (by decide) rfl (fun ls hl => ?_)
              refine lv_iinc (v := nI 6) (lv' := [(4, .int (nI 6)), (1, .int (nI 0)), (5, .int (nI 0)), (3, .int (nI 7)), (2, .ref a), (0, .ref a)]) hx hb dX5_sum_27 hl (k := 2) rfl (kt_inc 5) (by decide) rfl (fun ls hl => ?_)
              refine lv_goto (tgt := 10) hx hb dX5_sum_30 (by decide) ?_
              refine lv_iload hx hb dX5_sum_10 (lv_at hl 0 rfl) ?_
              refine lv_iload_n hx hb dX5_sum_12 rfl (lv_at hl 3 rfl) ?_
              refine lv_icmp_ge (tgt := 33) hx hb dX5_sum_13 (by decide) (fun c19 => ?_) (fun c19 => ?_)
              · first | exact absurd c19 (by decide) | exact (c19 (by decide)).elim
              · skip
                refine lv_aload_n hx hb dX5_sum_16 rfl (lv_at hl 4 rfl) ?_
                refine lv_iload hx hb dX5_sum_17 (lv_at hl 0 rfl) ?_
                refine kt_iald hx hb hK hP 0 0 rfl rfl (by omega) (by decide) dX5_sum_19 ?_
                refine lv_topi (fun z20 ez20 => ?_)
                have ez20 : z20 = nI 0 := ez20.trans rfl
                subst ez20
                refine lv_istore (lv' := [(5, .int (nI 0)), (4, .int (nI 6)), (1, .int (nI 0)), (3, .int (nI 7)), (2, .ref a), (0, .ref a)]) hx hb dX5_sum_20 hl (by decide) rfl (fun ls hl => ?_)
                refine lv_iload_n hx hb dX5_sum_22 rfl (lv_at hl 2 rfl) ?_
                refine lv_iload hx hb dX5_sum_23 (lv_at hl 0 rfl) ?_
                refine lv_iadd hx hb dX5_sum_25 ?_
                refine lv_topi (fun z21 ez21 => ?_)
                have ez21 : z21 = nI 0 := ez21.trans (by decide)
                subst ez21
                refine lv_istore_n (lv' := [(1, .int (nI 0)), (5, .int (nI 0)), (4, .int (nI 6)), (3, .int (nI 7)), (2, .ref a), (0, .ref a)]) hx hb dX5_sum_26 rfl hl (by decide) rfl (fun ls hl => ?_)
                refine lv_iinc (v := nI 7) (lv' := [(4, .int (nI 7)), (1, .int (nI 0)), (5, .int (nI 0)), (3, .int (nI 7)), (2, .ref a), (0, .ref a)]) hx hb dX5_sum_27 hl (k := 2) rfl (kt_inc 6) (by decide) rfl (fun ls hl => ?_)
                refine lv_goto (tgt := 10) hx hb dX5_sum_30 (by decide) ?_
                refine lv_iload hx hb dX5_sum_10 (lv_at hl 0 rfl) ?_
                refine lv_iload_n hx hb dX5_sum_12 rfl (lv_at hl 3 rfl) ?_
                refine lv_icmp_ge (tgt := 33) hx hb dX5_sum_13 (by decide) (fun c22 => ?_) (fun c22 => ?_)
                · skip
                  refine lv_iload_n hx hb dX5_sum_33 rfl (lv_at hl 1 rfl) ?_
                  refine W.widen (k := 0) (n := 0) (by omega) (by omega) ?_
                  exact kt_iret (W' := [(a, .inl (cI, 7, .inl z0))]) hx hb hr hS hP hK hD (by decide) hlocks dX5_sum_34
                · first | exact absurd c22 (by decide) | exact (c22 (by decide)).elim

set_option maxHeartbeats 4000000 in
set_option maxRecDepth 100000 in
theorem c_X5_isFast (l : Launch) (dC : Nat → ClassId) (dI : Nat → Nat → Nat) (cI cII cJ cJJ cZ cO : ClassId) (mo : Nat) (eo : Nat) (er : Nat → Nat) (gr : Nat) (av : Nat) (ro : Nat) (co : Nat) (kl : Nat) (dd : Nat) (th : Int32) (sz : Nat)  : Met l yX5_isFast wsX5_isFast ({ frames := 0, cells := 1, slots := 7, locals := 0 }) (va_Pc [.ref mo] (PRE (dC, dI) (tyR cI cII cJ cJJ cZ cO) (wR th z0 mo eo er gr av ro co kl dd cI cII) sz)) (va_Qi (fun (r' : Int32) (_ : Unit) => r' = nI 0) (fun _ tS => ATW (dC, dI) (tyR cI cII cJ cJJ cZ cO) (va_A (wR th z0 mo eo er gr av ro co kl dd cI cII) sz) (wR th z0 mo eo er gr av ro co kl dd cI cII) tS) (va_A (wR th z0 mo eo er gr av ro co kl dd cI cII) sz)) 1 7 (va_A (wR th z0 mo eo er gr av ro co kl dd cI cII) sz) := by
  refine Met.ofW (cc := cX5_isFast) (maxL := 5) (ret := (some .boolean)) (by decide) rfl ?_
  intro p e s m args below meth c s₁ B hml hv
  obtain ⟨rfl, hsz, hP, hK, hD0⟩ := hv
  have hx := B.exec
  have hb := B.bytes
  have hr := B.returns
  have hlocks := B.notSynchronized
  have hts := atoms_spec (ws := wsX5_isFast) B.pre
  have hown : s.vm.findClass RX5 = some m.cls := findClass_of_methodNamed B.named
  subst hsz
  have hD := hD0.self (sz := s.heap.size)
  generalize hAe : va_A (wR th z0 mo eo er gr av ro co kl dd cI cII) s.heap.size = A at hD ⊢
  have hA : ∀ q : Nat, s.heap.size ≤ q → A q := fun q h => by rw [← hAe]; exact Or.inr h
  have hS : va_S A s.heap s.heap [] := va_S.rf
  have hl := lv_entry ([.ref mo]) (n := 5) (Nat.le_of_ble_eq_true rfl)
  rw [lg_entry_eq]
  generalize (lg_sl ([.ref mo]) ++ List.replicate (5 - (lg_sl ([.ref mo])).length) Slot.unset).toArray = ls at hl ⊢
  have hl : lv_has ls 5 [(0, .ref mo)] := hl
  have hi_X5 : ∀ w ∈ u_ws RX5 TX5 11, w ∈ wsX5_isFast := by decide +kernel
  have hf_42 := hts (.fieldLink RX5 42 "TopplemoorModel" "spots" "I") (by decide +kernel)
  have hf_11 := hts (.fieldLink RX5 11 "TopplemoorModel" "edges" "[[I") (by decide +kernel)
  refine lv_bipush (v := nI 7) hx hb dX5_isFast_0 (by decide) ?_
  refine kt_newz hx hb (hts (.arrayClass .boolean) (by decide +kernel)) hK hP hD hS hA 4 rfl (N := 7) (by omega) (Nat.le_of_ble_eq_true rfl) (Nat.le_of_ble_eq_true rfl) dX5_isFast_2 (fun q1 H hP hD hS => ?_)
  have hP : va_P (dC, dI) vwCl (wR th z0 mo eo er gr av ro co kl dd cI cII ++ [(q1, .inl (cZ, 7, .inl z0))]) H := hP
  have hD : va_D A (wR th z0 mo eo er gr av ro co kl dd cI cII ++ [(q1, .inl (cZ, 7, .inl z0))]) := hD
  refine W.widen (k := 1) (n := 7) (by omega) (by omega) ?_
  refine lv_astore_n (lv' := [(1, .ref q1), (0, .ref mo)]) hx hb dX5_isFast_4 rfl hl (by decide) rfl (fun ls hl => ?_)
  refine lv_aload_n hx hb dX5_isFast_5 rfl (lv_at hl 0 rfl) ?_
  refine lv_bipush (v := nI 6) hx hb dX5_isFast_6 (by decide) ?_
  refine lv_iconst (v := nI 1) hx hb dX5_isFast_8 (by decide) ?_
  refine va_zast hx hb hK hP hD hS 14 4 rfl rfl (vp_in_nI (by omega) (by decide)) dX5_isFast_9 (fun H locs hP hD hS => ?_)
  obtain ⟨G2, eG2⟩ : ∃ g, g = upd z0 (nI 6).toNatClampNeg (vp_nar .boolean (nI 1)) := ⟨_, rfl⟩
  rw [← eG2] at hP hD
  have hP : va_P (dC, dI) vwCl (wR th z0 mo eo er gr av ro co kl dd cI cII ++ [(q1, .inl (cZ, 7, .inl G2))]) H := hP
  have hD : va_D A (wR th z0 mo eo er gr av ro co kl dd cI cII ++ [(q1, .inl (cZ, 7, .inl G2))]) := hD
  refine lv_iconst (v := nI 0) hx hb dX5_isFast_10 (by decide) ?_
  refine lv_istore_n (lv' := [(2, .int (nI 0)), (1, .ref q1), (0, .ref mo)]) hx hb dX5_isFast_11 rfl hl (by decide) rfl (fun ls hl => ?_)
  refine kt_loop (σ := Nat × V1) (μ := fun x => 7 - x.1) (I := fun x => x.1 ≤ 7) (WD := fun x => wR th z0 mo eo er gr av ro co kl dd cI cII ++ [(q1, .inl (cZ, 7, .inl x.2))]) (LV := fun x => [(2, .int (nI x.1)), (1, .ref q1), (0, .ref mo)]) (nL := 5) (hd := 12) ?_ (0, G2) (Nat.zero_le 7) hP hD hS (lv_sub hl [0, 1, 2] rfl)
  intro x hI ih_r H locs ls hP hD hS hl
  obtain ⟨r, F3⟩ := x
  have hI_r : r ≤ 7 := hI
  have hP : va_P (dC, dI) vwCl (wR th z0 mo eo er gr av ro co kl dd cI cII ++ [(q1, .inl (cZ, 7, .inl F3))]) H := hP
  have hD : va_D A (wR th z0 mo eo er gr av ro co kl dd cI cII ++ [(q1, .inl (cZ, 7, .inl F3))]) := hD
  have hl : lv_has ls 5 [(2, .int (nI r)), (1, .ref q1), (0, .ref mo)] := hl
  refine lv_iload_n hx hb dX5_isFast_12 rfl (lv_at hl 0 rfl) ?_
  refine lv_bipush (v := nI 7) hx hb dX5_isFast_13 (by decide) ?_
  refine kt_ige (i := r) (n := 7) (tgt := 84) hx hb (by omega) (by omega) dX5_isFast_15 (by decide) (fun hge_r => ?_) (fun hlt_r => ?_)
  · skip
    refine lv_iconst (v := nI 0) hx hb dX5_isFast_84 (by decide) ?_
    refine lv_istore_n (lv' := [(2, .int (nI 0)), (1, .ref q1), (0, .ref mo)]) hx hb dX5_isFast_85 rfl hl (by decide) rfl (fun ls hl => ?_)
    refine lv_iload_n hx hb dX5_isFast_86 rfl (lv_at hl 0 rfl) ?_
    refine lv_aload_n hx hb dX5_isFast_87 rfl (lv_at hl 2 rfl) ?_
    refine va_get (D := (dC, dI)) (ci := kX5) (v := .int (nI 0)) (C := RX5) (T := TX5) (N := 11) hx hb hts hi_X5 hown hK hP 0 rfl rfl 1 (by decide) hf_42 (fun _ h9 => h9) rfl dX5_isFast_88 ?_
    refine lv_icmp_ge (tgt := 108) hx hb dX5_isFast_91 (by decide) (fun c5 => ?_) (fun c5 => ?_)
    · skip
      refine lv_aload_n hx hb dX5_isFast_108 rfl (lv_at hl 2 rfl) ?_
      refine va_get (D := (dC, dI)) (ci := kX5) (v := .int (nI 0)) (C := RX5) (T := TX5) (N := 11) hx hb hts hi_X5 hown hK hP 0 rfl rfl 1 (by decide) hf_42 (fun _ h9 => h9) rfl dX5_isFast_109 ?_
      refine lv_if_le (tgt := 119) hx hb dX5_isFast_112 (by decide) (fun c6 => ?_) (fun c6 => ?_)
      · skip
        refine lv_iconst (v := nI 0) hx hb dX5_isFast_119 (by decide) ?_
        refine W.widen (k := 1) (n := 7) (by omega) (by omega) ?_
        have hP := kt_sub (wC := wR th z0 mo eo er gr av ro co kl dd cI cII) hP [0, 1, 2, 3, 4, 5, 6, 7, 8, 9, 10, 11, 12, 13] rfl
        have hD := hD.sub (ws' := wR th z0 mo eo er gr av ro co kl dd cI cII) [0, 1, 2, 3, 4, 5, 6, 7, 8, 9, 10, 11, 12, 13] rfl rfl
        exact kt_zret (W' := wR th z0 mo eo er gr av ro co kl dd cI cII) hx hb hr (rfl) hS hP hK hD (by decide) hlocks dX5_isFast_120
      · first | exact absurd c6 (by decide) | exact (c6 (by decide)).elim
    · first | exact absurd c5 (by decide) | exact (c5 (by decide)).elim
  · skip
    refine lv_iconst (v := nI 0) hx hb dX5_isFast_18 (by decide) ?_
    refine lv_istore_n (lv' := [(3, .int (nI 0)), (2, .int (nI r)), (1, .ref q1), (0, .ref mo)]) hx hb dX5_isFast_19 rfl hl (by decide) rfl (fun ls hl => ?_)
    refine kt_loop (σ := Nat × V1) (μ := fun x => 7 - x.1) (I := fun x => x.1 ≤ 7) (WD := fun x => wR th z0 mo eo er gr av ro co kl dd cI cII ++ [(q1, .inl (cZ, 7, .inl x.2))]) (LV := fun x => [(3, .int (nI x.1)), (2, .int (nI r)), (1, .ref q1), (0, .ref mo)]) (nL := 5) (hd := 20) ?_ (0, F3) (Nat.zero_le 7) hP hD hS (lv_sub hl [0, 1, 2, 3] rfl)
    intro x hI ih_a H locs ls hP hD hS hl
    obtain ⟨a, F7⟩ := x
    have hI_a : a ≤ 7 := hI
    have hP : va_P (dC, dI) vwCl (wR th z0 mo eo er gr av ro co kl dd cI cII ++ [(q1, .inl (cZ, 7, .inl F7))]) H := hP
    have hD : va_D A (wR th z0 mo eo er gr av ro co kl dd cI cII ++ [(q1, .inl (cZ, 7, .inl F7))]) := hD
    have hl : lv_has ls 5 [(3, .int (nI a)), (2, .int (nI r)), (1, .ref q1), (0, .ref mo)] := hl
    refine lv_iload_n hx hb dX5_isFast_20 rfl (lv_at hl 0 rfl) ?_
    refine lv_bipush (v := nI 7) hx hb dX5_isFast_21 (by decide) ?_
    refine kt_ige (i := a) (n := 7) (tgt := 78) hx hb (by omega) (by omega) dX5_isFast_23 (by decide) (fun hge_a => ?_) (fun hlt_a => ?_)
    · skip
      refine lv_iinc (v := nI (r + 1)) (lv' := [(2, .int (nI (r + 1))), (3, .int (nI a)), (1, .ref q1), (0, .ref mo)]) hx hb dX5_isFast_78 hl (k := 1) rfl (kt_inc r) (by decide) rfl (fun ls hl => ?_)
      refine lv_goto (tgt := 12) hx hb dX5_isFast_81 (by decide) ?_
      exact ih_r (r + 1, F7) H locs ls (by show 7 - (r + 1) < 7 - r; omega) (by show r + 1 ≤ 7; omega) hP hD hS (lv_sub hl [0, 2, 3] rfl)
    · skip
      refine lv_iconst (v := nI 0) hx hb dX5_isFast_26 (by decide) ?_
      refine lv_istore (lv' := [(4, .int (nI 0)), (3, .int (nI a)), (2, .int (nI r)), (1, .ref q1), (0, .ref mo)]) hx hb dX5_isFast_27 hl (by decide) rfl (fun ls hl => ?_)
      refine kt_loop (σ := Nat × V1) (μ := fun x => 7 - x.1) (I := fun x => x.1 ≤ 7) (WD := fun x => wR th z0 mo eo er gr av ro co kl dd cI cII ++ [(q1, .inl (cZ, 7, .inl x.2))]) (LV := fun x => [(4, .int (nI x.1)), (3, .int (nI a)), (2, .int (nI r)), (1, .ref q1), (0, .ref mo)]) (nL := 5) (hd := 29) ?_ (0, F7) (Nat.zero_le 7) hP hD hS (lv_sub hl [0, 1, 2, 3, 4] rfl)
      intro x hI ih_b H locs ls hP hD hS hl
      obtain ⟨b, F9⟩ := x
      have hI_b : b ≤ 7 := hI
      have hP : va_P (dC, dI) vwCl (wR th z0 mo eo er gr av ro co kl dd cI cII ++ [(q1, .inl (cZ, 7, .inl F9))]) H := hP
      have hD : va_D A (wR th z0 mo eo er gr av ro co kl dd cI cII ++ [(q1, .inl (cZ, 7, .inl F9))]) := hD
      have hl : lv_has ls 5 [(4, .int (nI b)), (3, .int (nI a)), (2, .int (nI r)), (1, .ref q1), (0, .ref mo)] := hl
      refine lv_iload hx hb dX5_isFast_29 (lv_at hl 0 rfl) ?_
      refine lv_bipush (v := nI 7) hx hb dX5_isFast_31 (by decide) ?_
      refine kt_ige (i := b) (n := 7) (tgt := 72) hx hb (by omega) (by omega) dX5_isFast_33 (by decide) (fun hge_b => ?_) (fun hlt_b => ?_)
      · skip
        refine lv_iinc (v := nI (a + 1)) (lv' := [(3, .int (nI (a + 1))), (4, .int (nI b)), (2, .int (nI r)), (1, .ref q1), (0, .ref mo)]) hx hb dX5_isFast_72 hl (k := 1) rfl (kt_inc a) (by decide) rfl (fun ls hl => ?_)
        refine lv_goto (tgt := 20) hx hb dX5_isFast_75 (by decide) ?_
        exact ih_a (a + 1, F9) H locs ls (by show 7 - (a + 1) < 7 - a; omega) (by show a + 1 ≤ 7; omega) hP hD hS (lv_sub hl [0, 2, 3, 4] rfl)
      · skip
        refine lv_aload_n hx hb dX5_isFast_36 rfl (lv_at hl 3 rfl) ?_
        refine lv_iload_n hx hb dX5_isFast_37 rfl (lv_at hl 1 rfl) ?_
        refine lv_dup2_11 hx hb dX5_isFast_38 rfl rfl ?_
        refine va_zald hx hb hK hP 14 4 rfl rfl (vp_in_nI (by omega) (by decide)) dX5_isFast_39 ?_
        refine lv_topi (fun z11 ez11 => ?_)
        refine lv_aload_n hx hb dX5_isFast_40 rfl (lv_at hl 3 rfl) ?_
        refine lv_iload hx hb dX5_isFast_41 (lv_at hl 0 rfl) ?_
        refine va_zald hx hb hK hP 14 4 rfl rfl (vp_in_nI (by omega) (by decide)) dX5_isFast_43 ?_
        refine lv_topi (fun z12 ez12 => ?_)
        refine lv_if_eq (tgt := 63) hx hb dX5_isFast_44 (by decide) (fun c13 => ?_) (fun c13 => ?_)
        · skip
          refine lv_iconst (v := nI 0) hx hb dX5_isFast_63 (by decide) ?_
          refine lv_ior hx hb dX5_isFast_64 ?_
          refine va_zast hx hb hK hP hD hS 14 4 rfl rfl (vp_in_nI (by omega) (by decide)) dX5_isFast_65 (fun H locs hP hD hS => ?_)
          obtain ⟨G14, eG14⟩ : ∃ g, g = upd F9 (nI a).toNatClampNeg (vp_nar .boolean (z11 ||| (nI 0))) := ⟨_, rfl⟩
          rw [← eG14] at hP hD
          have hP : va_P (dC, dI) vwCl (wR th z0 mo eo er gr av ro co kl dd cI cII ++ [(q1, .inl (cZ, 7, .inl G14))]) H := hP
          have hD : va_D A (wR th z0 mo eo er gr av ro co kl dd cI cII ++ [(q1, .inl (cZ, 7, .inl G14))]) := hD
          refine lv_iinc (v := nI (b + 1)) (lv' := [(4, .int (nI (b + 1))), (3, .int (nI a)), (2, .int (nI r)), (1, .ref q1), (0, .ref mo)]) hx hb dX5_isFast_66 hl (k := 0) rfl (kt_inc b) (by decide) rfl (fun ls hl => ?_)
          refine lv_goto (tgt := 29) hx hb dX5_isFast_69 (by decide) ?_
          exact ih_b (b + 1, G14) H locs ls (by show 7 - (b + 1) < 7 - b; omega) (by show b + 1 ≤ 7; omega) hP hD hS (lv_sub hl [0, 1, 2, 3, 4] rfl)
        · skip
          refine lv_aload_n hx hb dX5_isFast_47 rfl (lv_at hl 4 rfl) ?_
          refine va_get (D := (dC, dI)) (ci := kX5) (v := .ref eo) (C := RX5) (T := TX5) (N := 11) hx hb hts hi_X5 hown hK hP 0 rfl rfl 2 (by decide) hf_11 (fun _ h9 => h9) rfl dX5_isFast_48 ?_
          refine lv_iload_n hx hb dX5_isFast_51 rfl (lv_at hl 1 rfl) ?_
          refine kt_aald hx hb hK hP 1 1 rfl rfl (by omega) (by decide) dX5_isFast_52 ?_
          refine lv_iload hx hb dX5_isFast_53 (lv_at hl 0 rfl) ?_
          refine kt_iald hx hb hK hP (2 + a) 0 (row_at (by omega)) rfl (by omega) (by decide) dX5_isFast_55 ?_
          refine lv_topi (fun z15 ez15 => ?_)
          have ez15 : z15 = nI 0 := ez15.trans rfl
          subst ez15
          refine lv_if_le (tgt := 63) hx hb dX5_isFast_56 (by decide) (fun c16 => ?_) (fun c16 => ?_)
          · skip
            refine lv_iconst (v := nI 0) hx hb dX5_isFast_63 (by decide) ?_
            refine lv_ior hx hb dX5_isFast_64 ?_
            refine va_zast hx hb hK hP hD hS 14 4 rfl rfl (vp_in_nI (by omega) (by decide)) dX5_isFast_65 (fun H locs hP hD hS => ?_)
            obtain ⟨G17, eG17⟩ : ∃ g, g = upd F9 (nI a).toNatClampNeg (vp_nar .boolean (z11 ||| (nI 0))) := ⟨_, rfl⟩
            rw [← eG17] at hP hD
            have hP : va_P (dC, dI) vwCl (wR th z0 mo eo er gr av ro co kl dd cI cII ++ [(q1, .inl (cZ, 7, .inl G17))]) H := hP
            have hD : va_D A (wR th z0 mo eo er gr av ro co kl dd cI cII ++ [(q1, .inl (cZ, 7, .inl G17))]) := hD
            refine lv_iinc (v := nI (b + 1)) (lv' := [(4, .int (nI (b + 1))), (3, .int (nI a)), (2, .int (nI r)), (1, .ref q1), (0, .ref mo)]) hx hb dX5_isFast_66 hl (k := 0) rfl (kt_inc b) (by decide) rfl (fun ls hl => ?_)
            refine lv_goto (tgt := 29) hx hb dX5_isFast_69 (by decide) ?_
            exact ih_b (b + 1, G17) H locs ls (by show 7 - (b + 1) < 7 - b; omega) (by show b + 1 ≤ 7; omega) hP hD hS (lv_sub hl [0, 1, 2, 3, 4] rfl)
          · first | exact absurd c16 (by decide) | exact (c16 (by decide)).elim

set_option maxHeartbeats 4000000 in
set_option maxRecDepth 100000 in
theorem c_X5_isTree (l : Launch) (dC : Nat → ClassId) (dI : Nat → Nat → Nat) (cI cII cJ cJJ cZ cO : ClassId) (mo : Nat) (eo : Nat) (er : Nat → Nat) (gr : Nat) (av : Nat) (ro : Nat) (co : Nat) (kl : Nat) (dd : Nat) (th : Int32) (sz : Nat)  : Met l yX5_isTree wsX5_isTree ({ frames := 0, cells := 0, slots := 0, locals := 0 }) (va_Pc [.ref mo] (PRE (dC, dI) (tyR cI cII cJ cJJ cZ cO) (wR th z0 mo eo er gr av ro co kl dd cI cII) sz)) (va_Qi (fun (r' : Int32) (_ : Unit) => r' = nI 1) (fun _ tS => ATW (dC, dI) (tyR cI cII cJ cJJ cZ cO) (va_A (wR th z0 mo eo er gr av ro co kl dd cI cII) sz) (wR th z0 mo eo er gr av ro co kl dd cI cII) tS) (va_A (wR th z0 mo eo er gr av ro co kl dd cI cII) sz)) 0 0 (va_A (wR th z0 mo eo er gr av ro co kl dd cI cII) sz) := by
  refine Met.ofW (cc := cX5_isTree) (maxL := 4) (ret := (some .boolean)) (by decide) rfl ?_
  intro p e s m args below meth c s₁ B hml hv
  obtain ⟨rfl, hsz, hP, hK, hD0⟩ := hv
  have hx := B.exec
  have hb := B.bytes
  have hr := B.returns
  have hlocks := B.notSynchronized
  have hts := atoms_spec (ws := wsX5_isTree) B.pre
  have hown : s.vm.findClass RX5 = some m.cls := findClass_of_methodNamed B.named
  subst hsz
  have hD := hD0.self (sz := s.heap.size)
  generalize hAe : va_A (wR th z0 mo eo er gr av ro co kl dd cI cII) s.heap.size = A at hD ⊢
  have hA : ∀ q : Nat, s.heap.size ≤ q → A q := fun q h => by rw [← hAe]; exact Or.inr h
  have hS : va_S A s.heap s.heap [] := va_S.rf
  have hl := lv_entry ([.ref mo]) (n := 4) (Nat.le_of_ble_eq_true rfl)
  rw [lg_entry_eq]
  generalize (lg_sl ([.ref mo]) ++ List.replicate (4 - (lg_sl ([.ref mo])).length) Slot.unset).toArray = ls at hl ⊢
  have hl : lv_has ls 4 [(0, .ref mo)] := hl
  have hi_X5 : ∀ w ∈ u_ws RX5 TX5 11, w ∈ wsX5_isTree := by decide +kernel
  have hf_42 := hts (.fieldLink RX5 42 "TopplemoorModel" "spots" "I") (by decide +kernel)
  refine lv_iconst (v := nI 0) hx hb dX5_isTree_0 (by decide) ?_
  refine lv_istore_n (lv' := [(1, .int (nI 0)), (0, .ref mo)]) hx hb dX5_isTree_1 rfl hl (by decide) rfl (fun ls hl => ?_)
  refine lv_iload_n hx hb dX5_isTree_2 rfl (lv_at hl 0 rfl) ?_
  refine lv_aload_n hx hb dX5_isTree_3 rfl (lv_at hl 1 rfl) ?_
  refine va_get (D := (dC, dI)) (ci := kX5) (v := .int (nI 0)) (C := RX5) (T := TX5) (N := 11) hx hb hts hi_X5 hown hK hP 0 rfl rfl 1 (by decide) hf_42 (fun _ h9 => h9) rfl dX5_isTree_4 ?_
  refine lv_icmp_ge (tgt := 63) hx hb dX5_isTree_7 (by decide) (fun c1 => ?_) (fun c1 => ?_)
  · skip
    refine lv_iconst (v := nI 1) hx hb dX5_isTree_63 (by decide) ?_
    refine W.widen (k := 0) (n := 0) (by omega) (by omega) ?_
    exact kt_zret (W' := wR th z0 mo eo er gr av ro co kl dd cI cII) hx hb hr (rfl) hS hP hK hD (by decide) hlocks dX5_isTree_64
  · first | exact absurd c1 (by decide) | exact (c1 (by decide)).elim

set_option maxHeartbeats 4000000 in
set_option maxRecDepth 100000 in
theorem c_AL_size (l : Launch) (dC : Nat → ClassId) (dI : Nat → Nat → Nat) (cI cII cJ cJJ cZ cO : ClassId) (kl : Nat) (dd : Nat) (k : Nat) (k0 : Nat) (sz : Nat)  : Met l yJx4a65c_size_8abf5 wsJx4a65c_size_8abf5 ({ frames := 0, cells := 0, slots := 0, locals := 0 }) (va_Pc [.ref kl] (PRE (dC, dI) (tyR cI cII cJ cJJ cZ cO) ([(kl, .inr (kAL, [.int (nI k0), .ref dd, .int (nI k)]))]) sz)) (va_Qi (fun (r' : Int32) (_ : Unit) => r' = nI k) (fun _ tS => ATW (dC, dI) (tyR cI cII cJ cJJ cZ cO) (va_A ([(kl, .inr (kAL, [.int (nI k0), .ref dd, .int (nI k)]))]) sz) ([(kl, .inr (kAL, [.int (nI k0), .ref dd, .int (nI k)]))]) tS) (va_A ([(kl, .inr (kAL, [.int (nI k0), .ref dd, .int (nI k)]))]) sz)) 0 0 (va_A ([(kl, .inr (kAL, [.int (nI k0), .ref dd, .int (nI k)]))]) sz) := by
  refine Met.ofW (cc := cJx4a65c_size_8abf5) (maxL := 1) (ret := (some .int)) (by decide) rfl ?_
  intro p e s m args below meth c s₁ B hml hv
  obtain ⟨rfl, hsz, hP, hK, hD0⟩ := hv
  have hx := B.exec
  have hb := B.bytes
  have hr := B.returns
  have hlocks := B.notSynchronized
  have hts := atoms_spec (ws := wsJx4a65c_size_8abf5) B.pre
  have hown : s.vm.findClass RJx4a65c = some m.cls := findClass_of_methodNamed B.named
  subst hsz
  have hD := hD0.self (sz := s.heap.size)
  generalize hAe : va_A ([(kl, .inr (kAL, [.int (nI k0), .ref dd, .int (nI k)]))]) s.heap.size = A at hD ⊢
  have hA : ∀ q : Nat, s.heap.size ≤ q → A q := fun q h => by rw [← hAe]; exact Or.inr h
  have hS : va_S A s.heap s.heap [] := va_S.rf
  have hl := lv_entry ([.ref kl]) (n := 1) (Nat.le_of_ble_eq_true rfl)
  rw [lg_entry_eq]
  generalize (lg_sl ([.ref kl]) ++ List.replicate (1 - (lg_sl ([.ref kl])).length) Slot.unset).toArray = ls at hl ⊢
  have hl : lv_has ls 1 [(0, .ref kl)] := hl
  have hi_Jx4a65c : ∀ w ∈ u_ws RJx4a65c TJx4a65c 3, w ∈ wsJx4a65c_size_8abf5 := by decide +kernel
  have hf_48 := hts (.fieldLink RJx4a65c 48 "java/util/ArrayList" "size" "I") (by decide +kernel)
  refine lv_aload_n hx hb dJx4a65c_size_8abf5_0 rfl (lv_at hl 0 rfl) ?_
  refine va_get (D := (dC, dI)) (ci := kAL) (v := .int (nI k)) (C := RJx4a65c) (T := TJx4a65c) (N := 3) hx hb hts hi_Jx4a65c hown hK hP 0 rfl rfl 2 (by decide) hf_48 (fun _ h9 => h9) rfl dJx4a65c_size_8abf5_1 ?_
  refine W.widen (k := 0) (n := 0) (by omega) (by omega) ?_
  exact kt_iret (W' := [(kl, .inr (kAL, [.int (nI k0), .ref dd, .int (nI k)]))]) hx hb hr hS hP hK hD (rfl) hlocks dJx4a65c_size_8abf5_4

set_option maxHeartbeats 4000000 in
set_option maxRecDepth 100000 in
theorem c_X5_told (l : Launch) (dC : Nat → ClassId) (dI : Nat → Nat → Nat) (cI cII cJ cJJ cZ cO : ClassId) (mo : Nat) (eo : Nat) (er : Nat → Nat) (gr : Nat) (av : Nat) (ro : Nat) (co : Nat) (kl : Nat) (dd : Nat) (th : Int32) (w : Nat) (sz : Nat) (hw : w < 14) : Met l yX5_told wsX5_told ({ frames := 1, cells := 2, slots := 21, locals := 26 }) (va_Pc [.ref mo, .int (nI w)] (PRE (dC, dI) (tyR cI cII cJ cJJ cZ cO) (wR th z0 mo eo er gr av ro co kl dd cI cII) sz)) (va_Qi (fun (r' : Int32) (_ : Unit) => r' = upd z0 13 (nI 1) w) (fun _ tS => ATW (dC, dI) (tyR cI cII cJ cJJ cZ cO) (va_A (wR th z0 mo eo er gr av ro co kl dd cI cII) sz) (wR th z0 mo eo er gr av ro co kl dd cI cII) tS) (va_A (wR th z0 mo eo er gr av ro co kl dd cI cII) sz)) 2 21 (va_A (wR th z0 mo eo er gr av ro co kl dd cI cII) sz) := by
  refine Met.ofW (cc := cX5_told) (maxL := 6) (ret := (some .int)) (by decide) rfl ?_
  intro p e s m args below meth c s₁ B hml hv
  obtain ⟨rfl, hsz, hP, hK, hD0⟩ := hv
  have hx := B.exec
  have hb := B.bytes
  have hr := B.returns
  have hlocks := B.notSynchronized
  have hts := atoms_spec (ws := wsX5_told) B.pre
  have hown : s.vm.findClass RX5 = some m.cls := findClass_of_methodNamed B.named
  subst hsz
  have hD := hD0.self (sz := s.heap.size)
  generalize hAe : va_A (wR th z0 mo eo er gr av ro co kl dd cI cII) s.heap.size = A at hD ⊢
  have hA : ∀ q : Nat, s.heap.size ≤ q → A q := fun q h => by rw [← hAe]; exact Or.inr h
  have hS : va_S A s.heap s.heap [] := va_S.rf
  have hl := lv_entry ([.ref mo, .int (nI w)]) (n := 6) (Nat.le_of_ble_eq_true rfl)
  rw [lg_entry_eq]
  generalize (lg_sl ([.ref mo, .int (nI w)]) ++ List.replicate (6 - (lg_sl ([.ref mo, .int (nI w)])).length) Slot.unset).toArray = ls at hl ⊢
  have hl : lv_has ls 6 [(0, .ref mo), (1, .int (nI w))] := hl
  have hi_X5 : ∀ w ∈ u_ws RX5 TX5 11, w ∈ wsX5_told := by decide +kernel
  have hf_24 := hts (.fieldLink RX5 24 "TopplemoorModel" "coins" "[I") (by decide +kernel)
  have hf_42 := hts (.fieldLink RX5 42 "TopplemoorModel" "spots" "I") (by decide +kernel)
  have hf_14 := hts (.fieldLink RX5 14 "TopplemoorModel" "grains" "[I") (by decide +kernel)
  have hf_81 := hts (.fieldLink RX5 81 "TopplemoorModel" "swallowed" "I") (by decide +kernel)
  have hf_75 := hts (.fieldLink RX5 75 "TopplemoorModel" "topples" "I") (by decide +kernel)
  have hf_18 := hts (.fieldLink RX5 18 "TopplemoorModel" "avalanche" "[I") (by decide +kernel)
  have hf_30 := hts (.fieldLink RX5 30 "TopplemoorModel" "kept" "Ljava/util/ArrayList;") (by decide +kernel)
  have hf_128 := hts (.fieldLink RX5 128 "TopplemoorModel" "walked" "I") (by decide +kernel)
  refine lv_iconst (v := nI 0) hx hb dX5_told_0 (by decide) ?_
  refine lv_istore_n (lv' := [(2, .int (nI 0)), (0, .ref mo), (1, .int (nI w))]) hx hb dX5_told_1 rfl hl (by decide) rfl (fun ls hl => ?_)
  refine lv_iconst (v := nI 0) hx hb dX5_told_2 (by decide) ?_
  refine lv_istore_n (lv' := [(3, .int (nI 0)), (2, .int (nI 0)), (0, .ref mo), (1, .int (nI w))]) hx hb dX5_told_3 rfl hl (by decide) rfl (fun ls hl => ?_)
  refine lv_iconst (v := nI 0) hx hb dX5_told_4 (by decide) ?_
  refine lv_istore (lv' := [(4, .int (nI 0)), (3, .int (nI 0)), (2, .int (nI 0)), (0, .ref mo), (1, .int (nI w))]) hx hb dX5_told_5 hl (by decide) rfl (fun ls hl => ?_)
  refine lv_iconst (v := nI 0) hx hb dX5_told_7 (by decide) ?_
  refine lv_istore (lv' := [(5, .int (nI 0)), (4, .int (nI 0)), (3, .int (nI 0)), (2, .int (nI 0)), (0, .ref mo), (1, .int (nI w))]) hx hb dX5_told_8 hl (by decide) rfl (fun ls hl => ?_)
  refine lv_iload hx hb dX5_told_10 (lv_at hl 0 rfl) ?_
  refine lv_bipush (v := nI 7) hx hb dX5_told_12 (by decide) ?_
  refine lv_icmp_ge (tgt := 55) hx hb dX5_told_14 (by decide) (fun c1 => ?_) (fun c1 => ?_)
  · first | exact absurd c1 (by decide) | exact (c1 (by decide)).elim
  · skip
    refine lv_iload_n hx hb dX5_told_17 rfl (lv_at hl 3 rfl) ?_
    refine lv_aload_n hx hb dX5_told_18 rfl (lv_at hl 4 rfl) ?_
    refine lv_iload hx hb dX5_told_19 (lv_at hl 0 rfl) ?_
    refine kt_calliM (w' := wR th z0 mo eo er gr av ro co kl dd cI cII) (rest := [.int (nI 0)]) (As := [.int (nI 0)]) ⟨hx, hb, hml, hown, hts⟩ (c_X5_degree l dC dI cI cII cJ cJJ cZ cO mo eo er gr av ro co kl dd 0 th z0 _ (by omega)) (cwV 1 hts gX5_told_X5_degree rfl rfl rfl (by decide +kernel) ⟨Nat.le_of_ble_eq_true rfl, Nat.le_of_ble_eq_true rfl⟩) hK hP hD hS hA (List.range' 0 14) sw_R0 rfl 0 kX5 rfl rfl rfl rfl rfl hl.1 (Nat.le_of_ble_eq_true rfl) dX5_told_21 ⟨Nat.le_of_ble_eq_true rfl, Nat.le_of_ble_eq_true rfl⟩ (fun H locs hP hD hS => ?_)
    have hP : va_P (dC, dI) vwCl (wR th z0 mo eo er gr av ro co kl dd cI cII) H := hP
    have hD : va_D A (wR th z0 mo eo er gr av ro co kl dd cI cII) := hD
    refine lv_iadd hx hb dX5_told_24 ?_
    refine lv_topi (fun z2 ez2 => ?_)
    have ez2 : z2 = nI 0 := ez2.trans (by decide)
    subst ez2
    refine lv_istore_n (lv' := [(2, .int (nI 0)), (5, .int (nI 0)), (4, .int (nI 0)), (3, .int (nI 0)), (0, .ref mo), (1, .int (nI w))]) hx hb dX5_told_25 rfl hl (by decide) rfl (fun ls hl => ?_)
    refine lv_iload hx hb dX5_told_26 (lv_at hl 2 rfl) ?_
    refine lv_aload_n hx hb dX5_told_28 rfl (lv_at hl 4 rfl) ?_
    refine va_get (D := (dC, dI)) (ci := kX5) (v := .ref co) (C := RX5) (T := TX5) (N := 11) hx hb hts hi_X5 hown hK hP 0 rfl rfl 6 (by decide) hf_24 (fun _ h9 => h9) rfl dX5_told_29 ?_
    refine lv_iload hx hb dX5_told_32 (lv_at hl 1 rfl) ?_
    refine kt_iald hx hb hK hP 12 0 rfl rfl (by omega) (by decide) dX5_told_34 ?_
    refine lv_topi (fun z3 ez3 => ?_)
    have ez3 : z3 = nI 0 := ez3.trans rfl
    subst ez3
    refine lv_if_ge (tgt := 42) hx hb dX5_told_35 (by decide) (fun c4 => ?_) (fun c4 => ?_)
    · skip
      refine lv_iconst (v := nI 0) hx hb dX5_told_42 (by decide) ?_
      refine kt_callSiM (w' := wR th z0 mo eo er gr av ro co kl dd cI cII) (rest := [.int (nI 0)]) (As := [.int (nI 0)]) ⟨hx, hb, hml, hown, hts⟩ (c_X5_one_0 l dC dI cI cII cJ cJJ cZ cO  _ ) (va_cwS 1 hts gX5_told_X5_one rfl rfl rfl (by decide +kernel) ⟨Nat.le_of_ble_eq_true rfl, Nat.le_of_ble_eq_true rfl⟩) hK hP hD hS hA [] (kt_sw_nil _) rfl rfl rfl hl.1 (Nat.le_of_ble_eq_true rfl) dX5_told_43 ⟨Nat.le_of_ble_eq_true rfl, Nat.le_of_ble_eq_true rfl⟩ (fun H locs hP hD hS => ?_)
      have hP : va_P (dC, dI) vwCl (wR th z0 mo eo er gr av ro co kl dd cI cII) H := hP
      have hD : va_D A (wR th z0 mo eo er gr av ro co kl dd cI cII) := hD
      refine lv_iadd hx hb dX5_told_46 ?_
      refine lv_topi (fun z5 ez5 => ?_)
      have ez5 : z5 = nI 0 := ez5.trans (by decide)
      subst ez5
      refine lv_istore (lv' := [(4, .int (nI 0)), (2, .int (nI 0)), (5, .int (nI 0)), (3, .int (nI 0)), (0, .ref mo), (1, .int (nI w))]) hx hb dX5_told_47 hl (by decide) rfl (fun ls hl => ?_)
      refine lv_iinc (v := nI 1) (lv' := [(5, .int (nI 1)), (4, .int (nI 0)), (2, .int (nI 0)), (3, .int (nI 0)), (0, .ref mo), (1, .int (nI w))]) hx hb dX5_told_49 hl (k := 2) rfl (kt_inc 0) (by decide) rfl (fun ls hl => ?_)
      refine lv_goto (tgt := 10) hx hb dX5_told_52 (by decide) ?_
      refine lv_iload hx hb dX5_told_10 (lv_at hl 0 rfl) ?_
      refine lv_bipush (v := nI 7) hx hb dX5_told_12 (by decide) ?_
      refine lv_icmp_ge (tgt := 55) hx hb dX5_told_14 (by decide) (fun c6 => ?_) (fun c6 => ?_)
      · first | exact absurd c6 (by decide) | exact (c6 (by decide)).elim
      · skip
        refine lv_iload_n hx hb dX5_told_17 rfl (lv_at hl 2 rfl) ?_
        refine lv_aload_n hx hb dX5_told_18 rfl (lv_at hl 4 rfl) ?_
        refine lv_iload hx hb dX5_told_19 (lv_at hl 0 rfl) ?_
        refine kt_calliM (w' := wR th z0 mo eo er gr av ro co kl dd cI cII) (rest := [.int (nI 0)]) (As := [.int (nI 1)]) ⟨hx, hb, hml, hown, hts⟩ (c_X5_degree l dC dI cI cII cJ cJJ cZ cO mo eo er gr av ro co kl dd 1 th z0 _ (by omega)) (cwV 1 hts gX5_told_X5_degree rfl rfl rfl (by decide +kernel) ⟨Nat.le_of_ble_eq_true rfl, Nat.le_of_ble_eq_true rfl⟩) hK hP hD hS hA (List.range' 0 14) sw_R0 rfl 0 kX5 rfl rfl rfl rfl rfl hl.1 (Nat.le_of_ble_eq_true rfl) dX5_told_21 ⟨Nat.le_of_ble_eq_true rfl, Nat.le_of_ble_eq_true rfl⟩ (fun H locs hP hD hS => ?_)
        have hP : va_P (dC, dI) vwCl (wR th z0 mo eo er gr av ro co kl dd cI cII) H := hP
        have hD : va_D A (wR th z0 mo eo er gr av ro co kl dd cI cII) := hD
        refine lv_iadd hx hb dX5_told_24 ?_
        refine lv_topi (fun z7 ez7 => ?_)
        have ez7 : z7 = nI 0 := ez7.trans (by decide)
        subst ez7
        refine lv_istore_n (lv' := [(2, .int (nI 0)), (5, .int (nI 1)), (4, .int (nI 0)), (3, .int (nI 0)), (0, .ref mo), (1, .int (nI w))]) hx hb dX5_told_25 rfl hl (by decide) rfl (fun ls hl => ?_)
        refine lv_iload hx hb dX5_told_26 (lv_at hl 2 rfl) ?_
        refine lv_aload_n hx hb dX5_told_28 rfl (lv_at hl 4 rfl) ?_
        refine va_get (D := (dC, dI)) (ci := kX5) (v := .ref co) (C := RX5) (T := TX5) (N := 11) hx hb hts hi_X5 hown hK hP 0 rfl rfl 6 (by decide) hf_24 (fun _ h9 => h9) rfl dX5_told_29 ?_
        refine lv_iload hx hb dX5_told_32 (lv_at hl 1 rfl) ?_
        refine kt_iald hx hb hK hP 12 0 rfl rfl (by omega) (by decide) dX5_told_34 ?_
        refine lv_topi (fun z8 ez8 => ?_)
        have ez8 : z8 = nI 0 := ez8.trans rfl
        subst ez8
        refine lv_if_ge (tgt := 42) hx hb dX5_told_35 (by decide) (fun c9 => ?_) (fun c9 => ?_)
        · skip
          refine lv_iconst (v := nI 0) hx hb dX5_told_42 (by decide) ?_
          refine kt_callSiM (w' := wR th z0 mo eo er gr av ro co kl dd cI cII) (rest := [.int (nI 0)]) (As := [.int (nI 0)]) ⟨hx, hb, hml, hown, hts⟩ (c_X5_one_0 l dC dI cI cII cJ cJJ cZ cO  _ ) (va_cwS 1 hts gX5_told_X5_one rfl rfl rfl (by decide +kernel) ⟨Nat.le_of_ble_eq_true rfl, Nat.le_of_ble_eq_true rfl⟩) hK hP hD hS hA [] (kt_sw_nil _) rfl rfl rfl hl.1 (Nat.le_of_ble_eq_true rfl) dX5_told_43 ⟨Nat.le_of_ble_eq_true rfl, Nat.le_of_ble_eq_true rfl⟩ (fun H locs hP hD hS => ?_)
          have hP : va_P (dC, dI) vwCl (wR th z0 mo eo er gr av ro co kl dd cI cII) H := hP
          have hD : va_D A (wR th z0 mo eo er gr av ro co kl dd cI cII) := hD
          refine lv_iadd hx hb dX5_told_46 ?_
          refine lv_topi (fun z10 ez10 => ?_)
          have ez10 : z10 = nI 0 := ez10.trans (by decide)
          subst ez10
          refine lv_istore (lv' := [(4, .int (nI 0)), (2, .int (nI 0)), (5, .int (nI 1)), (3, .int (nI 0)), (0, .ref mo), (1, .int (nI w))]) hx hb dX5_told_47 hl (by decide) rfl (fun ls hl => ?_)
          refine lv_iinc (v := nI 2) (lv' := [(5, .int (nI 2)), (4, .int (nI 0)), (2, .int (nI 0)), (3, .int (nI 0)), (0, .ref mo), (1, .int (nI w))]) hx hb dX5_told_49 hl (k := 2) rfl (kt_inc 1) (by decide) rfl (fun ls hl => ?_)
          refine lv_goto (tgt := 10) hx hb dX5_told_52 (by decide) ?_
          refine lv_iload hx hb dX5_told_10 (lv_at hl 0 rfl) ?_
          refine lv_bipush (v := nI 7) hx hb dX5_told_12 (by decide) ?_
          refine lv_icmp_ge (tgt := 55) hx hb dX5_told_14 (by decide) (fun c11 => ?_) (fun c11 => ?_)
          · first | exact absurd c11 (by decide) | exact (c11 (by decide)).elim
          · skip
            refine lv_iload_n hx hb dX5_told_17 rfl (lv_at hl 2 rfl) ?_
            refine lv_aload_n hx hb dX5_told_18 rfl (lv_at hl 4 rfl) ?_
            refine lv_iload hx hb dX5_told_19 (lv_at hl 0 rfl) ?_
            refine kt_calliM (w' := wR th z0 mo eo er gr av ro co kl dd cI cII) (rest := [.int (nI 0)]) (As := [.int (nI 2)]) ⟨hx, hb, hml, hown, hts⟩ (c_X5_degree l dC dI cI cII cJ cJJ cZ cO mo eo er gr av ro co kl dd 2 th z0 _ (by omega)) (cwV 1 hts gX5_told_X5_degree rfl rfl rfl (by decide +kernel) ⟨Nat.le_of_ble_eq_true rfl, Nat.le_of_ble_eq_true rfl⟩) hK hP hD hS hA (List.range' 0 14) sw_R0 rfl 0 kX5 rfl rfl rfl rfl rfl hl.1 (Nat.le_of_ble_eq_true rfl) dX5_told_21 ⟨Nat.le_of_ble_eq_true rfl, Nat.le_of_ble_eq_true rfl⟩ (fun H locs hP hD hS => ?_)
            have hP : va_P (dC, dI) vwCl (wR th z0 mo eo er gr av ro co kl dd cI cII) H := hP
            have hD : va_D A (wR th z0 mo eo er gr av ro co kl dd cI cII) := hD
            refine lv_iadd hx hb dX5_told_24 ?_
            refine lv_topi (fun z12 ez12 => ?_)
            have ez12 : z12 = nI 0 := ez12.trans (by decide)
            subst ez12
            refine lv_istore_n (lv' := [(2, .int (nI 0)), (5, .int (nI 2)), (4, .int (nI 0)), (3, .int (nI 0)), (0, .ref mo), (1, .int (nI w))]) hx hb dX5_told_25 rfl hl (by decide) rfl (fun ls hl => ?_)
            refine lv_iload hx hb dX5_told_26 (lv_at hl 2 rfl) ?_
            refine lv_aload_n hx hb dX5_told_28 rfl (lv_at hl 4 rfl) ?_
            refine va_get (D := (dC, dI)) (ci := kX5) (v := .ref co) (C := RX5) (T := TX5) (N := 11) hx hb hts hi_X5 hown hK hP 0 rfl rfl 6 (by decide) hf_24 (fun _ h9 => h9) rfl dX5_told_29 ?_
            refine lv_iload hx hb dX5_told_32 (lv_at hl 1 rfl) ?_
            refine kt_iald hx hb hK hP 12 0 rfl rfl (by omega) (by decide) dX5_told_34 ?_
            refine lv_topi (fun z13 ez13 => ?_)
            have ez13 : z13 = nI 0 := ez13.trans rfl
            subst ez13
            refine lv_if_ge (tgt := 42) hx hb dX5_told_35 (by decide) (fun c14 => ?_) (fun c14 => ?_)
            · skip
              refine lv_iconst (v := nI 0) hx hb dX5_told_42 (by decide) ?_
              refine kt_callSiM (w' := wR th z0 mo eo er gr av ro co kl dd cI cII) (rest := [.int (nI 0)]) (As := [.int (nI 0)]) ⟨hx, hb, hml, hown, hts⟩ (c_X5_one_0 l dC dI cI cII cJ cJJ cZ cO  _ ) (va_cwS 1 hts gX5_told_X5_one rfl rfl rfl (by decide +kernel) ⟨Nat.le_of_ble_eq_true rfl, Nat.le_of_ble_eq_true rfl⟩) hK hP hD hS hA [] (kt_sw_nil _) rfl rfl rfl hl.1 (Nat.le_of_ble_eq_true rfl) dX5_told_43 ⟨Nat.le_of_ble_eq_true rfl, Nat.le_of_ble_eq_true rfl⟩ (fun H locs hP hD hS => ?_)
              have hP : va_P (dC, dI) vwCl (wR th z0 mo eo er gr av ro co kl dd cI cII) H := hP
              have hD : va_D A (wR th z0 mo eo er gr av ro co kl dd cI cII) := hD
              refine lv_iadd hx hb dX5_told_46 ?_
              refine lv_topi (fun z15 ez15 => ?_)
              have ez15 : z15 = nI 0 := ez15.trans (by decide)
              subst ez15
              refine lv_istore (lv' := [(4, .int (nI 0)), (2, .int (nI 0)), (5, .int (nI 2)), (3, .int (nI 0)), (0, .ref mo), (1, .int (nI w))]) hx hb dX5_told_47 hl (by decide) rfl (fun ls hl => ?_)
              refine lv_iinc (v := nI 3) (lv' := [(5, .int (nI 3)), (4, .int (nI 0)), (2, .int (nI 0)), (3, .int (nI 0)), (0, .ref mo), (1, .int (nI w))]) hx hb dX5_told_49 hl (k := 2) rfl (kt_inc 2) (by decide) rfl (fun ls hl => ?_)
              refine lv_goto (tgt := 10) hx hb dX5_told_52 (by decide) ?_
              refine lv_iload hx hb dX5_told_10 (lv_at hl 0 rfl) ?_
              refine lv_bipush (v := nI 7) hx hb dX5_told_12 (by decide) ?_
              refine lv_icmp_ge (tgt := 55) hx hb dX5_told_14 (by decide) (fun c16 => ?_) (fun c16 => ?_)
              · first | exact absurd c16 (by decide) | exact (c16 (by decide)).elim
              · skip
                refine lv_iload_n hx hb dX5_told_17 rfl (lv_at hl 2 rfl) ?_
                refine lv_aload_n hx hb dX5_told_18 rfl (lv_at hl 4 rfl) ?_
                refine lv_iload hx hb dX5_told_19 (lv_at hl 0 rfl) ?_
                refine kt_calliM (w' := wR th z0 mo eo er gr av ro co kl dd cI cII) (rest := [.int (nI 0)]) (As := [.int (nI 3)]) ⟨hx, hb, hml, hown, hts⟩ (c_X5_degree l dC dI cI cII cJ cJJ cZ cO mo eo er gr av ro co kl dd 3 th z0 _ (by omega)) (cwV 1 hts gX5_told_X5_degree rfl rfl rfl (by decide +kernel) ⟨Nat.le_of_ble_eq_true rfl, Nat.le_of_ble_eq_true rfl⟩) hK hP hD hS hA (List.range' 0 14) sw_R0 rfl 0 kX5 rfl rfl rfl rfl rfl hl.1 (Nat.le_of_ble_eq_true rfl) dX5_told_21 ⟨Nat.le_of_ble_eq_true rfl, Nat.le_of_ble_eq_true rfl⟩ (fun H locs hP hD hS => ?_)
                have hP : va_P (dC, dI) vwCl (wR th z0 mo eo er gr av ro co kl dd cI cII) H := hP
                have hD : va_D A (wR th z0 mo eo er gr av ro co kl dd cI cII) := hD
                refine lv_iadd hx hb dX5_told_24 ?_
                refine lv_topi (fun z17 ez17 => ?_)
                have ez17 : z17 = nI 0 := ez17.trans (by decide)
                subst ez17
                refine lv_istore_n (lv' := [(2, .int (nI 0)), (5, .int (nI 3)), (4, .int (nI 0)), (3, .int (nI 0)), (0, .ref mo), (1, .int (nI w))]) hx hb dX5_told_25 rfl hl (by decide) rfl (fun ls hl => ?_)
                refine lv_iload hx hb dX5_told_26 (lv_at hl 2 rfl) ?_
                refine lv_aload_n hx hb dX5_told_28 rfl (lv_at hl 4 rfl) ?_
                refine va_get (D := (dC, dI)) (ci := kX5) (v := .ref co) (C := RX5) (T := TX5) (N := 11) hx hb hts hi_X5 hown hK hP 0 rfl rfl 6 (by decide) hf_24 (fun _ h9 => h9) rfl dX5_told_29 ?_
                refine lv_iload hx hb dX5_told_32 (lv_at hl 1 rfl) ?_
                refine kt_iald hx hb hK hP 12 0 rfl rfl (by omega) (by decide) dX5_told_34 ?_
                refine lv_topi (fun z18 ez18 => ?_)
                have ez18 : z18 = nI 0 := ez18.trans rfl
                subst ez18
                refine lv_if_ge (tgt := 42) hx hb dX5_told_35 (by decide) (fun c19 => ?_) (fun c19 => ?_)
                · skip
                  refine lv_iconst (v := nI 0) hx hb dX5_told_42 (by decide) ?_
                  refine kt_callSiM (w' := wR th z0 mo eo er gr av ro co kl dd cI cII) (rest := [.int (nI 0)]) (As := [.int (nI 0)]) ⟨hx, hb, hml, hown, hts⟩ (c_X5_one_0 l dC dI cI cII cJ cJJ cZ cO  _ ) (va_cwS 1 hts gX5_told_X5_one rfl rfl rfl (by decide +kernel) ⟨Nat.le_of_ble_eq_true rfl, Nat.le_of_ble_eq_true rfl⟩) hK hP hD hS hA [] (kt_sw_nil _) rfl rfl rfl hl.1 (Nat.le_of_ble_eq_true rfl) dX5_told_43 ⟨Nat.le_of_ble_eq_true rfl, Nat.le_of_ble_eq_true rfl⟩ (fun H locs hP hD hS => ?_)
                  have hP : va_P (dC, dI) vwCl (wR th z0 mo eo er gr av ro co kl dd cI cII) H := hP
                  have hD : va_D A (wR th z0 mo eo er gr av ro co kl dd cI cII) := hD
                  refine lv_iadd hx hb dX5_told_46 ?_
                  refine lv_topi (fun z20 ez20 => ?_)
                  have ez20 : z20 = nI 0 := ez20.trans (by decide)
                  subst ez20
                  refine lv_istore (lv' := [(4, .int (nI 0)), (2, .int (nI 0)), (5, .int (nI 3)), (3, .int (nI 0)), (0, .ref mo), (1, .int (nI w))]) hx hb dX5_told_47 hl (by decide) rfl (fun ls hl => ?_)
                  refine lv_iinc (v := nI 4) (lv' := [(5, .int (nI 4)), (4, .int (nI 0)), (2, .int (nI 0)), (3, .int (nI 0)), (0, .ref mo), (1, .int (nI w))]) hx hb dX5_told_49 hl (k := 2) rfl (kt_inc 3) (by decide) rfl (fun ls hl => ?_)
                  refine lv_goto (tgt := 10) hx hb dX5_told_52 (by decide) ?_
                  refine lv_iload hx hb dX5_told_10 (lv_at hl 0 rfl) ?_
                  refine lv_bipush (v := nI 7) hx hb dX5_told_12 (by decide) ?_
                  refine lv_icmp_ge (tgt := 55) hx hb dX5_told_14 (by decide) (fun c21 => ?_) (fun c21 => ?_)
                  · first | exact absurd c21 (by decide) | exact (c21 (by decide)).elim
                  · skip
                    refine lv_iload_n hx hb dX5_told_17 rfl (lv_at hl 2 rfl) ?_
                    refine lv_aload_n hx hb dX5_told_18 rfl (lv_at hl 4 rfl) ?_
                    refine lv_iload hx hb dX5_told_19 (lv_at hl 0 rfl) ?_
                    refine kt_calliM (w' := wR th z0 mo eo er gr av ro co kl dd cI cII) (rest := [.int (nI 0)]) (As := [.int (nI 4)]) ⟨hx, hb, hml, hown, hts⟩ (c_X5_degree l dC dI cI cII cJ cJJ cZ cO mo eo er gr av ro co kl dd 4 th z0 _ (by omega)) (cwV 1 hts gX5_told_X5_degree rfl rfl rfl (by decide +kernel) ⟨Nat.le_of_ble_eq_true rfl, Nat.le_of_ble_eq_true rfl⟩) hK hP hD hS hA (List.range' 0 14) sw_R0 rfl 0 kX5 rfl rfl rfl rfl rfl hl.1 (Nat.le_of_ble_eq_true rfl) dX5_told_21 ⟨Nat.le_of_ble_eq_true rfl, Nat.le_of_ble_eq_true rfl⟩ (fun H locs hP hD hS => ?_)
                    have hP : va_P (dC, dI) vwCl (wR th z0 mo eo er gr av ro co kl dd cI cII) H := hP
                    have hD : va_D A (wR th z0 mo eo er gr av ro co kl dd cI cII) := hD
                    refine lv_iadd hx hb dX5_told_24 ?_
                    refine lv_topi (fun z22 ez22 => ?_)
                    have ez22 : z22 = nI 0 := ez22.trans (by decide)
                    subst ez22
                    refine lv_istore_n (lv' := [(2, .int (nI 0)), (5, .int (nI 4)), (4, .int (nI 0)), (3, .int (nI 0)), (0, .ref mo), (1, .int (nI w))]) hx hb dX5_told_25 rfl hl (by decide) rfl (fun ls hl => ?_)
                    refine lv_iload hx hb dX5_told_26 (lv_at hl 2 rfl) ?_
                    refine lv_aload_n hx hb dX5_told_28 rfl (lv_at hl 4 rfl) ?_
                    refine va_get (D := (dC, dI)) (ci := kX5) (v := .ref co) (C := RX5) (T := TX5) (N := 11) hx hb hts hi_X5 hown hK hP 0 rfl rfl 6 (by decide) hf_24 (fun _ h9 => h9) rfl dX5_told_29 ?_
                    refine lv_iload hx hb dX5_told_32 (lv_at hl 1 rfl) ?_
                    refine kt_iald hx hb hK hP 12 0 rfl rfl (by omega) (by decide) dX5_told_34 ?_
                    refine lv_topi (fun z23 ez23 => ?_)
                    have ez23 : z23 = nI 0 := ez23.trans rfl
                    subst ez23
                    refine lv_if_ge (tgt := 42) hx hb dX5_told_35 (by decide) (fun c24 => ?_) (fun c24 => ?_)
                    · skip
                      refine lv_iconst (v := nI 0) hx hb dX5_told_42 (by decide) ?_
                      refine kt_callSiM (w' := wR th z0 mo eo er gr av ro co kl dd cI cII) (rest := [.int (nI 0)]) (As := [.int (nI 0)]) ⟨hx, hb, hml, hown, hts⟩ (c_X5_one_0 l dC dI cI cII cJ cJJ cZ cO  _ ) (va_cwS 1 hts gX5_told_X5_one rfl rfl rfl (by decide +kernel) ⟨Nat.le_of_ble_eq_true rfl, Nat.le_of_ble_eq_true rfl⟩) hK hP hD hS hA [] (kt_sw_nil _) rfl rfl rfl hl.1 (Nat.le_of_ble_eq_true rfl) dX5_told_43 ⟨Nat.le_of_ble_eq_true rfl, Nat.le_of_ble_eq_true rfl⟩ (fun H locs hP hD hS => ?_)
                      have hP : va_P (dC, dI) vwCl (wR th z0 mo eo er gr av ro co kl dd cI cII) H := hP
                      have hD : va_D A (wR th z0 mo eo er gr av ro co kl dd cI cII) := hD
                      refine lv_iadd hx hb dX5_told_46 ?_
                      refine lv_topi (fun z25 ez25 => ?_)
                      have ez25 : z25 = nI 0 := ez25.trans (by decide)
                      subst ez25
                      refine lv_istore (lv' := [(4, .int (nI 0)), (2, .int (nI 0)), (5, .int (nI 4)), (3, .int (nI 0)), (0, .ref mo), (1, .int (nI w))]) hx hb dX5_told_47 hl (by decide) rfl (fun ls hl => ?_)
                      refine lv_iinc (v := nI 5) (lv' := [(5, .int (nI 5)), (4, .int (nI 0)), (2, .int (nI 0)), (3, .int (nI 0)), (0, .ref mo), (1, .int (nI w))]) hx hb dX5_told_49 hl (k := 2) rfl (kt_inc 4) (by decide) rfl (fun ls hl => ?_)
                      refine lv_goto (tgt := 10) hx hb dX5_told_52 (by decide) ?_
                      refine lv_iload hx hb dX5_told_10 (lv_at hl 0 rfl) ?_
                      refine lv_bipush (v := nI 7) hx hb dX5_told_12 (by decide) ?_
                      refine lv_icmp_ge (tgt := 55) hx hb dX5_told_14 (by decide) (fun c26 => ?_) (fun c26 => ?_)
                      · first | exact absurd c26 (by decide) | exact (c26 (by decide)).elim
                      · skip
                        refine lv_iload_n hx hb dX5_told_17 rfl (lv_at hl 2 rfl) ?_
                        refine lv_aload_n hx hb dX5_told_18 rfl (lv_at hl 4 rfl) ?_
                        refine lv_iload hx hb dX5_told_19 (lv_at hl 0 rfl) ?_
                        refine kt_calliM (w' := wR th z0 mo eo er gr av ro co kl dd cI cII) (rest := [.int (nI 0)]) (As := [.int (nI 5)]) ⟨hx, hb, hml, hown, hts⟩ (c_X5_degree l dC dI cI cII cJ cJJ cZ cO mo eo er gr av ro co kl dd 5 th z0 _ (by omega)) (cwV 1 hts gX5_told_X5_degree rfl rfl rfl (by decide +kernel) ⟨Nat.le_of_ble_eq_true rfl, Nat.le_of_ble_eq_true rfl⟩) hK hP hD hS hA (List.range' 0 14) sw_R0 rfl 0 kX5 rfl rfl rfl rfl rfl hl.1 (Nat.le_of_ble_eq_true rfl) dX5_told_21 ⟨Nat.le_of_ble_eq_true rfl, Nat.le_of_ble_eq_true rfl⟩ (fun H locs hP hD hS => ?_)
                        have hP : va_P (dC, dI) vwCl (wR th z0 mo eo er gr av ro co kl dd cI cII) H := hP
                        have hD : va_D A (wR th z0 mo eo er gr av ro co kl dd cI cII) := hD
                        refine lv_iadd hx hb dX5_told_24 ?_
                        refine lv_topi (fun z27 ez27 => ?_)
                        have ez27 : z27 = nI 0 := ez27.trans (by decide)
                        subst ez27
                        refine lv_istore_n (lv' := [(2, .int (nI 0)), (5, .int (nI 5)), (4, .int (nI 0)), (3, .int (nI 0)), (0, .ref mo), (1, .int (nI w))]) hx hb dX5_told_25 rfl hl (by decide) rfl (fun ls hl => ?_)
                        refine lv_iload hx hb dX5_told_26 (lv_at hl 2 rfl) ?_
                        refine lv_aload_n hx hb dX5_told_28 rfl (lv_at hl 4 rfl) ?_
                        refine va_get (D := (dC, dI)) (ci := kX5) (v := .ref co) (C := RX5) (T := TX5) (N := 11) hx hb hts hi_X5 hown hK hP 0 rfl rfl 6 (by decide) hf_24 (fun _ h9 => h9) rfl dX5_told_29 ?_
                        refine lv_iload hx hb dX5_told_32 (lv_at hl 1 rfl) ?_
                        refine kt_iald hx hb hK hP 12 0 rfl rfl (by omega) (by decide) dX5_told_34 ?_
                        refine lv_topi (fun z28 ez28 => ?_)
                        have ez28 : z28 = nI 0 := ez28.trans rfl
                        subst ez28
                        refine lv_if_ge (tgt := 42) hx hb dX5_told_35 (by decide) (fun c29 => ?_) (fun c29 => ?_)
                        · skip
                          refine lv_iconst (v := nI 0) hx hb dX5_told_42 (by decide) ?_
                          refine kt_callSiM (w' := wR th z0 mo eo er gr av ro co kl dd cI cII) (rest := [.int (nI 0)]) (As := [.int (nI 0)]) ⟨hx, hb, hml, hown, hts⟩ (c_X5_one_0 l dC dI cI cII cJ cJJ cZ cO  _ ) (va_cwS 1 hts gX5_told_X5_one rfl rfl rfl (by decide +kernel) ⟨Nat.le_of_ble_eq_true rfl, Nat.le_of_ble_eq_true rfl⟩) hK hP hD hS hA [] (kt_sw_nil _) rfl rfl rfl hl.1 (Nat.le_of_ble_eq_true rfl) dX5_told_43 ⟨Nat.le_of_ble_eq_true rfl, Nat.le_of_ble_eq_true rfl⟩ (fun H locs hP hD hS => ?_)
                          have hP : va_P (dC, dI) vwCl (wR th z0 mo eo er gr av ro co kl dd cI cII) H := hP
                          have hD : va_D A (wR th z0 mo eo er gr av ro co kl dd cI cII) := hD
                          refine lv_iadd hx hb dX5_told_46 ?_
                          refine lv_topi (fun z30 ez30 => ?_)
                          have ez30 : z30 = nI 0 := ez30.trans (by decide)
                          subst ez30
                          refine lv_istore (lv' := [(4, .int (nI 0)), (2, .int (nI 0)), (5, .int (nI 5)), (3, .int (nI 0)), (0, .ref mo), (1, .int (nI w))]) hx hb dX5_told_47 hl (by decide) rfl (fun ls hl => ?_)
                          refine lv_iinc (v := nI 6) (lv' := [(5, .int (nI 6)), (4, .int (nI 0)), (2, .int (nI 0)), (3, .int (nI 0)), (0, .ref mo), (1, .int (nI w))]) hx hb dX5_told_49 hl (k := 2) rfl (kt_inc 5) (by decide) rfl (fun ls hl => ?_)
                          refine lv_goto (tgt := 10) hx hb dX5_told_52 (by decide) ?_
                          refine lv_iload hx hb dX5_told_10 (lv_at hl 0 rfl) ?_
                          refine lv_bipush (v := nI 7) hx hb dX5_told_12 (by decide) ?_
                          refine lv_icmp_ge (tgt := 55) hx hb dX5_told_14 (by decide) (fun c31 => ?_) (fun c31 => ?_)
                          · first | exact absurd c31 (by decide) | exact (c31 (by decide)).elim
                          · skip
                            refine lv_iload_n hx hb dX5_told_17 rfl (lv_at hl 2 rfl) ?_
                            refine lv_aload_n hx hb dX5_told_18 rfl (lv_at hl 4 rfl) ?_
                            refine lv_iload hx hb dX5_told_19 (lv_at hl 0 rfl) ?_
                            refine kt_calliM (w' := wR th z0 mo eo er gr av ro co kl dd cI cII) (rest := [.int (nI 0)]) (As := [.int (nI 6)]) ⟨hx, hb, hml, hown, hts⟩ (c_X5_degree l dC dI cI cII cJ cJJ cZ cO mo eo er gr av ro co kl dd 6 th z0 _ (by omega)) (cwV 1 hts gX5_told_X5_degree rfl rfl rfl (by decide +kernel) ⟨Nat.le_of_ble_eq_true rfl, Nat.le_of_ble_eq_true rfl⟩) hK hP hD hS hA (List.range' 0 14) sw_R0 rfl 0 kX5 rfl rfl rfl rfl rfl hl.1 (Nat.le_of_ble_eq_true rfl) dX5_told_21 ⟨Nat.le_of_ble_eq_true rfl, Nat.le_of_ble_eq_true rfl⟩ (fun H locs hP hD hS => ?_)
                            have hP : va_P (dC, dI) vwCl (wR th z0 mo eo er gr av ro co kl dd cI cII) H := hP
                            have hD : va_D A (wR th z0 mo eo er gr av ro co kl dd cI cII) := hD
                            refine lv_iadd hx hb dX5_told_24 ?_
                            refine lv_topi (fun z32 ez32 => ?_)
                            have ez32 : z32 = nI 0 := ez32.trans (by decide)
                            subst ez32
                            refine lv_istore_n (lv' := [(2, .int (nI 0)), (5, .int (nI 6)), (4, .int (nI 0)), (3, .int (nI 0)), (0, .ref mo), (1, .int (nI w))]) hx hb dX5_told_25 rfl hl (by decide) rfl (fun ls hl => ?_)
                            refine lv_iload hx hb dX5_told_26 (lv_at hl 2 rfl) ?_
                            refine lv_aload_n hx hb dX5_told_28 rfl (lv_at hl 4 rfl) ?_
                            refine va_get (D := (dC, dI)) (ci := kX5) (v := .ref co) (C := RX5) (T := TX5) (N := 11) hx hb hts hi_X5 hown hK hP 0 rfl rfl 6 (by decide) hf_24 (fun _ h9 => h9) rfl dX5_told_29 ?_
                            refine lv_iload hx hb dX5_told_32 (lv_at hl 1 rfl) ?_
                            refine kt_iald hx hb hK hP 12 0 rfl rfl (by omega) (by decide) dX5_told_34 ?_
                            refine lv_topi (fun z33 ez33 => ?_)
                            have ez33 : z33 = nI 0 := ez33.trans rfl
                            subst ez33
                            refine lv_if_ge (tgt := 42) hx hb dX5_told_35 (by decide) (fun c34 => ?_) (fun c34 => ?_)
                            · skip
                              refine lv_iconst (v := nI 0) hx hb dX5_told_42 (by decide) ?_
                              refine kt_callSiM (w' := wR th z0 mo eo er gr av ro co kl dd cI cII) (rest := [.int (nI 0)]) (As := [.int (nI 0)]) ⟨hx, hb, hml, hown, hts⟩ (c_X5_one_0 l dC dI cI cII cJ cJJ cZ cO  _ ) (va_cwS 1 hts gX5_told_X5_one rfl rfl rfl (by decide +kernel) ⟨Nat.le_of_ble_eq_true rfl, Nat.le_of_ble_eq_true rfl⟩) hK hP hD hS hA [] (kt_sw_nil _) rfl rfl rfl hl.1 (Nat.le_of_ble_eq_true rfl) dX5_told_43 ⟨Nat.le_of_ble_eq_true rfl, Nat.le_of_ble_eq_true rfl⟩ (fun H locs hP hD hS => ?_)
                              have hP : va_P (dC, dI) vwCl (wR th z0 mo eo er gr av ro co kl dd cI cII) H := hP
                              have hD : va_D A (wR th z0 mo eo er gr av ro co kl dd cI cII) := hD
                              refine lv_iadd hx hb dX5_told_46 ?_
                              refine lv_topi (fun z35 ez35 => ?_)
                              have ez35 : z35 = nI 0 := ez35.trans (by decide)
                              subst ez35
                              refine lv_istore (lv' := [(4, .int (nI 0)), (2, .int (nI 0)), (5, .int (nI 6)), (3, .int (nI 0)), (0, .ref mo), (1, .int (nI w))]) hx hb dX5_told_47 hl (by decide) rfl (fun ls hl => ?_)
                              refine lv_iinc (v := nI 7) (lv' := [(5, .int (nI 7)), (4, .int (nI 0)), (2, .int (nI 0)), (3, .int (nI 0)), (0, .ref mo), (1, .int (nI w))]) hx hb dX5_told_49 hl (k := 2) rfl (kt_inc 6) (by decide) rfl (fun ls hl => ?_)
                              refine lv_goto (tgt := 10) hx hb dX5_told_52 (by decide) ?_
                              refine lv_iload hx hb dX5_told_10 (lv_at hl 0 rfl) ?_
                              refine lv_bipush (v := nI 7) hx hb dX5_told_12 (by decide) ?_
                              refine lv_icmp_ge (tgt := 55) hx hb dX5_told_14 (by decide) (fun c36 => ?_) (fun c36 => ?_)
                              · skip
                                refine lv_iconst (v := nI 0) hx hb dX5_told_55 (by decide) ?_
                                refine lv_istore (lv' := [(5, .int (nI 0)), (4, .int (nI 0)), (2, .int (nI 0)), (3, .int (nI 0)), (0, .ref mo), (1, .int (nI w))]) hx hb dX5_told_56 hl (by decide) rfl (fun ls hl => ?_)
                                refine lv_iload hx hb dX5_told_58 (lv_at hl 0 rfl) ?_
                                refine lv_aload_n hx hb dX5_told_60 rfl (lv_at hl 4 rfl) ?_
                                refine va_get (D := (dC, dI)) (ci := kX5) (v := .int (nI 0)) (C := RX5) (T := TX5) (N := 11) hx hb hts hi_X5 hown hK hP 0 rfl rfl 1 (by decide) hf_42 (fun _ h9 => h9) rfl dX5_told_61 ?_
                                refine lv_icmp_ge (tgt := 92) hx hb dX5_told_64 (by decide) (fun c37 => ?_) (fun c37 => ?_)
                                · skip
                                  refine lv_bipush (v := nI 14) hx hb dX5_told_92 (by decide) ?_
                                  refine kt_newi hx hb (hts (.arrayClass .int) (by decide +kernel)) hK hP hD hS hA 0 rfl (N := 14) (by omega) (Nat.le_of_ble_eq_true rfl) (Nat.le_of_ble_eq_true rfl) dX5_told_94 (fun q38 H hP hD hS => ?_)
                                  have hP : va_P (dC, dI) vwCl (wR th z0 mo eo er gr av ro co kl dd cI cII ++ [(q38, .inl (cI, 14, .inl z0))]) H := hP
                                  have hD : va_D A (wR th z0 mo eo er gr av ro co kl dd cI cII ++ [(q38, .inl (cI, 14, .inl z0))]) := hD
                                  refine W.widen (k := 1) (n := 14) (by omega) (by omega) ?_
                                  refine lv_dup hx hb dX5_told_96 rfl ?_
                                  refine lv_iconst (v := nI 0) hx hb dX5_told_97 (by decide) ?_
                                  refine lv_aload_n hx hb dX5_told_98 rfl (lv_at hl 4 rfl) ?_
                                  refine va_get (D := (dC, dI)) (ci := kX5) (v := .int (nI 0)) (C := RX5) (T := TX5) (N := 11) hx hb hts hi_X5 hown hK hP 0 rfl rfl 1 (by decide) hf_42 (fun _ h9 => h9) rfl dX5_told_99 ?_
                                  refine kt_iast hx hb hK hP hD hS 14 0 rfl rfl (by omega) (by decide) dX5_told_102 (fun H locs hP hD hS => ?_)
                                  have hP : va_P (dC, dI) vwCl (wR th z0 mo eo er gr av ro co kl dd cI cII ++ [(q38, .inl (cI, 14, .inl (upd z0 0 (nI 0))))]) H := hP
                                  have hD : va_D A (wR th z0 mo eo er gr av ro co kl dd cI cII ++ [(q38, .inl (cI, 14, .inl (upd z0 0 (nI 0))))]) := hD
                                  obtain ⟨hP, hD⟩ := kt_chg z0 hP hD 14 rfl (fun j _ => upd_z0 j)
                                  have hP : va_P (dC, dI) vwCl (wR th z0 mo eo er gr av ro co kl dd cI cII ++ [(q38, .inl (cI, 14, .inl z0))]) H := hP
                                  have hD : va_D A (wR th z0 mo eo er gr av ro co kl dd cI cII ++ [(q38, .inl (cI, 14, .inl z0))]) := hD
                                  refine lv_dup hx hb dX5_told_103 rfl ?_
                                  refine lv_iconst (v := nI 1) hx hb dX5_told_104 (by decide) ?_
                                  refine lv_iload_n hx hb dX5_told_105 rfl (lv_at hl 2 rfl) ?_
                                  refine lv_iconst (v := nI 2) hx hb dX5_told_106 (by decide) ?_
                                  refine lv_idiv hx hb dX5_told_107 (by decide) ?_
                                  refine lv_topi (fun z39 ez39 => ?_)
                                  have ez39 : z39 = nI 0 := ez39.trans (by decide)
                                  subst ez39
                                  refine kt_iast hx hb hK hP hD hS 14 0 rfl rfl (by omega) (by decide) dX5_told_108 (fun H locs hP hD hS => ?_)
                                  have hP : va_P (dC, dI) vwCl (wR th z0 mo eo er gr av ro co kl dd cI cII ++ [(q38, .inl (cI, 14, .inl (upd z0 1 (nI 0))))]) H := hP
                                  have hD : va_D A (wR th z0 mo eo er gr av ro co kl dd cI cII ++ [(q38, .inl (cI, 14, .inl (upd z0 1 (nI 0))))]) := hD
                                  obtain ⟨hP, hD⟩ := kt_chg z0 hP hD 14 rfl (fun j _ => upd_z0 j)
                                  have hP : va_P (dC, dI) vwCl (wR th z0 mo eo er gr av ro co kl dd cI cII ++ [(q38, .inl (cI, 14, .inl z0))]) H := hP
                                  have hD : va_D A (wR th z0 mo eo er gr av ro co kl dd cI cII ++ [(q38, .inl (cI, 14, .inl z0))]) := hD
                                  refine lv_dup hx hb dX5_told_109 rfl ?_
                                  refine lv_iconst (v := nI 2) hx hb dX5_told_110 (by decide) ?_
                                  refine lv_aload_n hx hb dX5_told_111 rfl (lv_at hl 4 rfl) ?_
                                  refine va_get (D := (dC, dI)) (ci := kX5) (v := .ref gr) (C := RX5) (T := TX5) (N := 11) hx hb hts hi_X5 hown hK hP 0 rfl rfl 3 (by decide) hf_14 (fun _ h9 => h9) rfl dX5_told_112 ?_
                                  refine kt_callSiM (w' := wR th z0 mo eo er gr av ro co kl dd cI cII ++ [(q38, .inl (cI, 14, .inl z0))]) (rest := [.int (nI 2), .ref q38, .ref q38]) (As := [.ref gr]) ⟨hx, hb, hml, hown, hts⟩ (c_X5_sum_6 l dC dI cI cII cJ cJJ cZ cO gr _ ) (va_cwS 1 hts gX5_told_X5_sum rfl rfl rfl (by decide +kernel) ⟨Nat.le_of_ble_eq_true rfl, Nat.le_of_ble_eq_true rfl⟩) hK hP hD hS hA [9] ⟨rfl, ⟨[none, none, none, none, none, none, none, none, none, some 0, none, none, none, none, none], rfl, by decide +kernel⟩, rfl⟩ rfl rfl rfl hl.1 (Nat.le_of_ble_eq_true rfl) dX5_told_115 ⟨Nat.le_of_ble_eq_true rfl, Nat.le_of_ble_eq_true rfl⟩ (fun H locs hP hD hS => ?_)
                                  have hP : va_P (dC, dI) vwCl (wR th z0 mo eo er gr av ro co kl dd cI cII ++ [(q38, .inl (cI, 14, .inl z0))]) H := hP
                                  have hD : va_D A (wR th z0 mo eo er gr av ro co kl dd cI cII ++ [(q38, .inl (cI, 14, .inl z0))]) := hD
                                  refine kt_iast hx hb hK hP hD hS 14 0 rfl rfl (by omega) (by decide) dX5_told_118 (fun H locs hP hD hS => ?_)
                                  have hP : va_P (dC, dI) vwCl (wR th z0 mo eo er gr av ro co kl dd cI cII ++ [(q38, .inl (cI, 14, .inl (upd z0 2 (nI 0))))]) H := hP
                                  have hD : va_D A (wR th z0 mo eo er gr av ro co kl dd cI cII ++ [(q38, .inl (cI, 14, .inl (upd z0 2 (nI 0))))]) := hD
                                  obtain ⟨hP, hD⟩ := kt_chg z0 hP hD 14 rfl (fun j _ => upd_z0 j)
                                  have hP : va_P (dC, dI) vwCl (wR th z0 mo eo er gr av ro co kl dd cI cII ++ [(q38, .inl (cI, 14, .inl z0))]) H := hP
                                  have hD : va_D A (wR th z0 mo eo er gr av ro co kl dd cI cII ++ [(q38, .inl (cI, 14, .inl z0))]) := hD
                                  refine lv_dup hx hb dX5_told_119 rfl ?_
                                  refine lv_iconst (v := nI 3) hx hb dX5_told_120 (by decide) ?_
                                  refine lv_aload_n hx hb dX5_told_121 rfl (lv_at hl 4 rfl) ?_
                                  refine va_get (D := (dC, dI)) (ci := kX5) (v := .int (nI 0)) (C := RX5) (T := TX5) (N := 11) hx hb hts hi_X5 hown hK hP 0 rfl rfl 8 (by decide) hf_81 (fun _ h9 => h9) rfl dX5_told_122 ?_
                                  refine kt_iast hx hb hK hP hD hS 14 0 rfl rfl (by omega) (by decide) dX5_told_125 (fun H locs hP hD hS => ?_)
                                  have hP : va_P (dC, dI) vwCl (wR th z0 mo eo er gr av ro co kl dd cI cII ++ [(q38, .inl (cI, 14, .inl (upd z0 3 (nI 0))))]) H := hP
                                  have hD : va_D A (wR th z0 mo eo er gr av ro co kl dd cI cII ++ [(q38, .inl (cI, 14, .inl (upd z0 3 (nI 0))))]) := hD
                                  obtain ⟨hP, hD⟩ := kt_chg z0 hP hD 14 rfl (fun j _ => upd_z0 j)
                                  have hP : va_P (dC, dI) vwCl (wR th z0 mo eo er gr av ro co kl dd cI cII ++ [(q38, .inl (cI, 14, .inl z0))]) H := hP
                                  have hD : va_D A (wR th z0 mo eo er gr av ro co kl dd cI cII ++ [(q38, .inl (cI, 14, .inl z0))]) := hD
                                  refine lv_dup hx hb dX5_told_126 rfl ?_
                                  refine lv_iconst (v := nI 4) hx hb dX5_told_127 (by decide) ?_
                                  refine lv_aload_n hx hb dX5_told_128 rfl (lv_at hl 4 rfl) ?_
                                  refine va_get (D := (dC, dI)) (ci := kX5) (v := .int (nI 0)) (C := RX5) (T := TX5) (N := 11) hx hb hts hi_X5 hown hK hP 0 rfl rfl 9 (by decide) hf_75 (fun _ h9 => h9) rfl dX5_told_129 ?_
                                  refine kt_iast hx hb hK hP hD hS 14 0 rfl rfl (by omega) (by decide) dX5_told_132 (fun H locs hP hD hS => ?_)
                                  have hP : va_P (dC, dI) vwCl (wR th z0 mo eo er gr av ro co kl dd cI cII ++ [(q38, .inl (cI, 14, .inl (upd z0 4 (nI 0))))]) H := hP
                                  have hD : va_D A (wR th z0 mo eo er gr av ro co kl dd cI cII ++ [(q38, .inl (cI, 14, .inl (upd z0 4 (nI 0))))]) := hD
                                  obtain ⟨hP, hD⟩ := kt_chg z0 hP hD 14 rfl (fun j _ => upd_z0 j)
                                  have hP : va_P (dC, dI) vwCl (wR th z0 mo eo er gr av ro co kl dd cI cII ++ [(q38, .inl (cI, 14, .inl z0))]) H := hP
                                  have hD : va_D A (wR th z0 mo eo er gr av ro co kl dd cI cII ++ [(q38, .inl (cI, 14, .inl z0))]) := hD
                                  refine lv_dup hx hb dX5_told_133 rfl ?_
                                  refine lv_iconst (v := nI 5) hx hb dX5_told_134 (by decide) ?_
                                  refine lv_aload_n hx hb dX5_told_135 rfl (lv_at hl 4 rfl) ?_
                                  refine va_get (D := (dC, dI)) (ci := kX5) (v := .ref av) (C := RX5) (T := TX5) (N := 11) hx hb hts hi_X5 hown hK hP 0 rfl rfl 4 (by decide) hf_18 (fun _ h9 => h9) rfl dX5_told_136 ?_
                                  refine kt_callSiM (w' := wR th z0 mo eo er gr av ro co kl dd cI cII ++ [(q38, .inl (cI, 14, .inl z0))]) (rest := [.int (nI 5), .ref q38, .ref q38]) (As := [.ref av]) ⟨hx, hb, hml, hown, hts⟩ (c_X5_sum_6 l dC dI cI cII cJ cJJ cZ cO av _ ) (va_cwS 1 hts gX5_told_X5_sum rfl rfl rfl (by decide +kernel) ⟨Nat.le_of_ble_eq_true rfl, Nat.le_of_ble_eq_true rfl⟩) hK hP hD hS hA [10] ⟨rfl, ⟨[none, none, none, none, none, none, none, none, none, none, some 0, none, none, none, none], rfl, by decide +kernel⟩, rfl⟩ rfl rfl rfl hl.1 (Nat.le_of_ble_eq_true rfl) dX5_told_139 ⟨Nat.le_of_ble_eq_true rfl, Nat.le_of_ble_eq_true rfl⟩ (fun H locs hP hD hS => ?_)
                                  have hP : va_P (dC, dI) vwCl (wR th z0 mo eo er gr av ro co kl dd cI cII ++ [(q38, .inl (cI, 14, .inl z0))]) H := hP
                                  have hD : va_D A (wR th z0 mo eo er gr av ro co kl dd cI cII ++ [(q38, .inl (cI, 14, .inl z0))]) := hD
                                  refine kt_iast hx hb hK hP hD hS 14 0 rfl rfl (by omega) (by decide) dX5_told_142 (fun H locs hP hD hS => ?_)
                                  have hP : va_P (dC, dI) vwCl (wR th z0 mo eo er gr av ro co kl dd cI cII ++ [(q38, .inl (cI, 14, .inl (upd z0 5 (nI 0))))]) H := hP
                                  have hD : va_D A (wR th z0 mo eo er gr av ro co kl dd cI cII ++ [(q38, .inl (cI, 14, .inl (upd z0 5 (nI 0))))]) := hD
                                  obtain ⟨hP, hD⟩ := kt_chg z0 hP hD 14 rfl (fun j _ => upd_z0 j)
                                  have hP : va_P (dC, dI) vwCl (wR th z0 mo eo er gr av ro co kl dd cI cII ++ [(q38, .inl (cI, 14, .inl z0))]) H := hP
                                  have hD : va_D A (wR th z0 mo eo er gr av ro co kl dd cI cII ++ [(q38, .inl (cI, 14, .inl z0))]) := hD
                                  refine lv_dup hx hb dX5_told_143 rfl ?_
                                  refine lv_bipush (v := nI 6) hx hb dX5_told_144 (by decide) ?_
                                  refine lv_iload_n hx hb dX5_told_146 rfl (lv_at hl 3 rfl) ?_
                                  refine kt_iast hx hb hK hP hD hS 14 0 rfl rfl (by omega) (by decide) dX5_told_147 (fun H locs hP hD hS => ?_)
                                  have hP : va_P (dC, dI) vwCl (wR th z0 mo eo er gr av ro co kl dd cI cII ++ [(q38, .inl (cI, 14, .inl (upd z0 6 (nI 0))))]) H := hP
                                  have hD : va_D A (wR th z0 mo eo er gr av ro co kl dd cI cII ++ [(q38, .inl (cI, 14, .inl (upd z0 6 (nI 0))))]) := hD
                                  obtain ⟨hP, hD⟩ := kt_chg z0 hP hD 14 rfl (fun j _ => upd_z0 j)
                                  have hP : va_P (dC, dI) vwCl (wR th z0 mo eo er gr av ro co kl dd cI cII ++ [(q38, .inl (cI, 14, .inl z0))]) H := hP
                                  have hD : va_D A (wR th z0 mo eo er gr av ro co kl dd cI cII ++ [(q38, .inl (cI, 14, .inl z0))]) := hD
                                  refine lv_dup hx hb dX5_told_148 rfl ?_
                                  refine lv_bipush (v := nI 7) hx hb dX5_told_149 (by decide) ?_
                                  refine lv_aload_n hx hb dX5_told_151 rfl (lv_at hl 4 rfl) ?_
                                  refine kt_calliM (w' := wR th z0 mo eo er gr av ro co kl dd cI cII ++ [(q38, .inl (cI, 14, .inl z0))]) (rest := [.int (nI 7), .ref q38, .ref q38]) (As := []) ⟨hx, hb, hml, hown, hts⟩ (c_X5_isFast l dC dI cI cII cJ cJJ cZ cO mo eo er gr av ro co kl dd th _ ) (cwV 0 hts gX5_told_X5_isFast rfl rfl rfl (by decide +kernel) ⟨Nat.le_of_ble_eq_true rfl, Nat.le_of_ble_eq_true rfl⟩) hK hP hD hS hA (List.range' 0 14) sw_R1 rfl 0 kX5 rfl rfl rfl rfl rfl hl.1 (Nat.le_of_ble_eq_true rfl) dX5_told_152 ⟨Nat.le_of_ble_eq_true rfl, Nat.le_of_ble_eq_true rfl⟩ (fun H locs hP hD hS => ?_)
                                  have hP : va_P (dC, dI) vwCl (wR th z0 mo eo er gr av ro co kl dd cI cII ++ [(q38, .inl (cI, 14, .inl z0))]) H := hP
                                  have hD : va_D A (wR th z0 mo eo er gr av ro co kl dd cI cII ++ [(q38, .inl (cI, 14, .inl z0))]) := hD
                                  refine W.widen (k := 2) (n := 21) (by omega) (by omega) ?_
                                  refine kt_callSiM (w' := wR th z0 mo eo er gr av ro co kl dd cI cII ++ [(q38, .inl (cI, 14, .inl z0))]) (rest := [.int (nI 7), .ref q38, .ref q38]) (As := [.int (nI 0)]) ⟨hx, hb, hml, hown, hts⟩ (c_X5_one_0 l dC dI cI cII cJ cJJ cZ cO  _ ) (va_cwS 1 hts gX5_told_X5_one rfl rfl rfl (by decide +kernel) ⟨Nat.le_of_ble_eq_true rfl, Nat.le_of_ble_eq_true rfl⟩) hK hP hD hS hA [] (kt_sw_nil _) rfl rfl rfl hl.1 (Nat.le_of_ble_eq_true rfl) dX5_told_155 ⟨Nat.le_of_ble_eq_true rfl, Nat.le_of_ble_eq_true rfl⟩ (fun H locs hP hD hS => ?_)
                                  have hP : va_P (dC, dI) vwCl (wR th z0 mo eo er gr av ro co kl dd cI cII ++ [(q38, .inl (cI, 14, .inl z0))]) H := hP
                                  have hD : va_D A (wR th z0 mo eo er gr av ro co kl dd cI cII ++ [(q38, .inl (cI, 14, .inl z0))]) := hD
                                  refine kt_iast hx hb hK hP hD hS 14 0 rfl rfl (by omega) (by decide) dX5_told_158 (fun H locs hP hD hS => ?_)
                                  have hP : va_P (dC, dI) vwCl (wR th z0 mo eo er gr av ro co kl dd cI cII ++ [(q38, .inl (cI, 14, .inl (upd z0 7 (nI 0))))]) H := hP
                                  have hD : va_D A (wR th z0 mo eo er gr av ro co kl dd cI cII ++ [(q38, .inl (cI, 14, .inl (upd z0 7 (nI 0))))]) := hD
                                  obtain ⟨hP, hD⟩ := kt_chg z0 hP hD 14 rfl (fun j _ => upd_z0 j)
                                  have hP : va_P (dC, dI) vwCl (wR th z0 mo eo er gr av ro co kl dd cI cII ++ [(q38, .inl (cI, 14, .inl z0))]) H := hP
                                  have hD : va_D A (wR th z0 mo eo er gr av ro co kl dd cI cII ++ [(q38, .inl (cI, 14, .inl z0))]) := hD
                                  refine lv_dup hx hb dX5_told_159 rfl ?_
                                  refine lv_bipush (v := nI 8) hx hb dX5_told_160 (by decide) ?_
                                  refine lv_aload_n hx hb dX5_told_162 rfl (lv_at hl 4 rfl) ?_
                                  refine va_get (D := (dC, dI)) (ci := kX5) (v := .ref kl) (C := RX5) (T := TX5) (N := 11) hx hb hts hi_X5 hown hK hP 0 rfl rfl 7 (by decide) hf_30 (fun _ h9 => h9) rfl dX5_told_163 ?_
                                  refine kt_calliM (w' := wR th z0 mo eo er gr av ro co kl dd cI cII ++ [(q38, .inl (cI, 14, .inl z0))]) (rest := [.int (nI 8), .ref q38, .ref q38]) (As := []) ⟨hx, hb, hml, hown, hts⟩ (c_AL_size l dC dI cI cII cJ cJJ cZ cO kl dd 0 0 _ ) (cwV 0 hts gX5_told_Jx4a65c_size_8abf5 rfl rfl rfl (by decide +kernel) ⟨Nat.le_of_ble_eq_true rfl, Nat.le_of_ble_eq_true rfl⟩) hK hP hD hS hA [13] ⟨rfl, ⟨[none, none, none, none, none, none, none, none, none, none, none, none, none, some 0, none], rfl, by decide +kernel⟩, rfl⟩ rfl 13 kAL rfl rfl rfl rfl rfl hl.1 (Nat.le_of_ble_eq_true rfl) dX5_told_166 ⟨Nat.le_of_ble_eq_true rfl, Nat.le_of_ble_eq_true rfl⟩ (fun H locs hP hD hS => ?_)
                                  have hP : va_P (dC, dI) vwCl (wR th z0 mo eo er gr av ro co kl dd cI cII ++ [(q38, .inl (cI, 14, .inl z0))]) H := hP
                                  have hD : va_D A (wR th z0 mo eo er gr av ro co kl dd cI cII ++ [(q38, .inl (cI, 14, .inl z0))]) := hD
                                  refine kt_iast hx hb hK hP hD hS 14 0 rfl rfl (by omega) (by decide) dX5_told_169 (fun H locs hP hD hS => ?_)
                                  have hP : va_P (dC, dI) vwCl (wR th z0 mo eo er gr av ro co kl dd cI cII ++ [(q38, .inl (cI, 14, .inl (upd z0 8 (nI 0))))]) H := hP
                                  have hD : va_D A (wR th z0 mo eo er gr av ro co kl dd cI cII ++ [(q38, .inl (cI, 14, .inl (upd z0 8 (nI 0))))]) := hD
                                  obtain ⟨hP, hD⟩ := kt_chg z0 hP hD 14 rfl (fun j _ => upd_z0 j)
                                  have hP : va_P (dC, dI) vwCl (wR th z0 mo eo er gr av ro co kl dd cI cII ++ [(q38, .inl (cI, 14, .inl z0))]) H := hP
                                  have hD : va_D A (wR th z0 mo eo er gr av ro co kl dd cI cII ++ [(q38, .inl (cI, 14, .inl z0))]) := hD
                                  refine lv_dup hx hb dX5_told_170 rfl ?_
                                  refine lv_bipush (v := nI 9) hx hb dX5_told_171 (by decide) ?_
                                  refine lv_aload_n hx hb dX5_told_173 rfl (lv_at hl 4 rfl) ?_
                                  refine va_get (D := (dC, dI)) (ci := kX5) (v := .ref co) (C := RX5) (T := TX5) (N := 11) hx hb hts hi_X5 hown hK hP 0 rfl rfl 6 (by decide) hf_24 (fun _ h9 => h9) rfl dX5_told_174 ?_
                                  refine kt_callSiM (w' := wR th z0 mo eo er gr av ro co kl dd cI cII ++ [(q38, .inl (cI, 14, .inl z0))]) (rest := [.int (nI 9), .ref q38, .ref q38]) (As := [.ref co]) ⟨hx, hb, hml, hown, hts⟩ (c_X5_sum_7 l dC dI cI cII cJ cJJ cZ cO co _ ) (va_cwS 1 hts gX5_told_X5_sum rfl rfl rfl (by decide +kernel) ⟨Nat.le_of_ble_eq_true rfl, Nat.le_of_ble_eq_true rfl⟩) hK hP hD hS hA [12] ⟨rfl, ⟨[none, none, none, none, none, none, none, none, none, none, none, none, some 0, none, none], rfl, by decide +kernel⟩, rfl⟩ rfl rfl rfl hl.1 (Nat.le_of_ble_eq_true rfl) dX5_told_177 ⟨Nat.le_of_ble_eq_true rfl, Nat.le_of_ble_eq_true rfl⟩ (fun H locs hP hD hS => ?_)
                                  have hP : va_P (dC, dI) vwCl (wR th z0 mo eo er gr av ro co kl dd cI cII ++ [(q38, .inl (cI, 14, .inl z0))]) H := hP
                                  have hD : va_D A (wR th z0 mo eo er gr av ro co kl dd cI cII ++ [(q38, .inl (cI, 14, .inl z0))]) := hD
                                  refine kt_iast hx hb hK hP hD hS 14 0 rfl rfl (by omega) (by decide) dX5_told_180 (fun H locs hP hD hS => ?_)
                                  have hP : va_P (dC, dI) vwCl (wR th z0 mo eo er gr av ro co kl dd cI cII ++ [(q38, .inl (cI, 14, .inl (upd z0 9 (nI 0))))]) H := hP
                                  have hD : va_D A (wR th z0 mo eo er gr av ro co kl dd cI cII ++ [(q38, .inl (cI, 14, .inl (upd z0 9 (nI 0))))]) := hD
                                  obtain ⟨hP, hD⟩ := kt_chg z0 hP hD 14 rfl (fun j _ => upd_z0 j)
                                  have hP : va_P (dC, dI) vwCl (wR th z0 mo eo er gr av ro co kl dd cI cII ++ [(q38, .inl (cI, 14, .inl z0))]) H := hP
                                  have hD : va_D A (wR th z0 mo eo er gr av ro co kl dd cI cII ++ [(q38, .inl (cI, 14, .inl z0))]) := hD
                                  refine lv_dup hx hb dX5_told_181 rfl ?_
                                  refine lv_bipush (v := nI 10) hx hb dX5_told_182 (by decide) ?_
                                  refine lv_iload_n hx hb dX5_told_184 rfl (lv_at hl 2 rfl) ?_
                                  refine lv_iconst (v := nI 2) hx hb dX5_told_185 (by decide) ?_
                                  refine lv_idiv hx hb dX5_told_186 (by decide) ?_
                                  refine lv_topi (fun z40 ez40 => ?_)
                                  have ez40 : z40 = nI 0 := ez40.trans (by decide)
                                  subst ez40
                                  refine lv_aload_n hx hb dX5_told_187 rfl (lv_at hl 4 rfl) ?_
                                  refine va_get (D := (dC, dI)) (ci := kX5) (v := .int (nI 0)) (C := RX5) (T := TX5) (N := 11) hx hb hts hi_X5 hown hK hP 0 rfl rfl 1 (by decide) hf_42 (fun _ h9 => h9) rfl dX5_told_188 ?_
                                  refine lv_isub hx hb dX5_told_191 ?_
                                  refine lv_topi (fun z41 ez41 => ?_)
                                  have ez41 : z41 = nI 0 := ez41.trans (by decide)
                                  subst ez41
                                  refine kt_iast hx hb hK hP hD hS 14 0 rfl rfl (by omega) (by decide) dX5_told_192 (fun H locs hP hD hS => ?_)
                                  have hP : va_P (dC, dI) vwCl (wR th z0 mo eo er gr av ro co kl dd cI cII ++ [(q38, .inl (cI, 14, .inl (upd z0 10 (nI 0))))]) H := hP
                                  have hD : va_D A (wR th z0 mo eo er gr av ro co kl dd cI cII ++ [(q38, .inl (cI, 14, .inl (upd z0 10 (nI 0))))]) := hD
                                  obtain ⟨hP, hD⟩ := kt_chg z0 hP hD 14 rfl (fun j _ => upd_z0 j)
                                  have hP : va_P (dC, dI) vwCl (wR th z0 mo eo er gr av ro co kl dd cI cII ++ [(q38, .inl (cI, 14, .inl z0))]) H := hP
                                  have hD : va_D A (wR th z0 mo eo er gr av ro co kl dd cI cII ++ [(q38, .inl (cI, 14, .inl z0))]) := hD
                                  refine lv_dup hx hb dX5_told_193 rfl ?_
                                  refine lv_bipush (v := nI 11) hx hb dX5_told_194 (by decide) ?_
                                  refine lv_iload hx hb dX5_told_196 (lv_at hl 1 rfl) ?_
                                  refine kt_iast hx hb hK hP hD hS 14 0 rfl rfl (by omega) (by decide) dX5_told_198 (fun H locs hP hD hS => ?_)
                                  have hP : va_P (dC, dI) vwCl (wR th z0 mo eo er gr av ro co kl dd cI cII ++ [(q38, .inl (cI, 14, .inl (upd z0 11 (nI 0))))]) H := hP
                                  have hD : va_D A (wR th z0 mo eo er gr av ro co kl dd cI cII ++ [(q38, .inl (cI, 14, .inl (upd z0 11 (nI 0))))]) := hD
                                  obtain ⟨hP, hD⟩ := kt_chg z0 hP hD 14 rfl (fun j _ => upd_z0 j)
                                  have hP : va_P (dC, dI) vwCl (wR th z0 mo eo er gr av ro co kl dd cI cII ++ [(q38, .inl (cI, 14, .inl z0))]) H := hP
                                  have hD : va_D A (wR th z0 mo eo er gr av ro co kl dd cI cII ++ [(q38, .inl (cI, 14, .inl z0))]) := hD
                                  refine lv_dup hx hb dX5_told_199 rfl ?_
                                  refine lv_bipush (v := nI 12) hx hb dX5_told_200 (by decide) ?_
                                  refine lv_aload_n hx hb dX5_told_202 rfl (lv_at hl 4 rfl) ?_
                                  refine va_get (D := (dC, dI)) (ci := kX5) (v := .int (nI 0)) (C := RX5) (T := TX5) (N := 11) hx hb hts hi_X5 hown hK hP 0 rfl rfl 10 (by decide) hf_128 (fun _ h9 => h9) rfl dX5_told_203 ?_
                                  refine kt_iast hx hb hK hP hD hS 14 0 rfl rfl (by omega) (by decide) dX5_told_206 (fun H locs hP hD hS => ?_)
                                  have hP : va_P (dC, dI) vwCl (wR th z0 mo eo er gr av ro co kl dd cI cII ++ [(q38, .inl (cI, 14, .inl (upd z0 12 (nI 0))))]) H := hP
                                  have hD : va_D A (wR th z0 mo eo er gr av ro co kl dd cI cII ++ [(q38, .inl (cI, 14, .inl (upd z0 12 (nI 0))))]) := hD
                                  obtain ⟨hP, hD⟩ := kt_chg z0 hP hD 14 rfl (fun j _ => upd_z0 j)
                                  have hP : va_P (dC, dI) vwCl (wR th z0 mo eo er gr av ro co kl dd cI cII ++ [(q38, .inl (cI, 14, .inl z0))]) H := hP
                                  have hD : va_D A (wR th z0 mo eo er gr av ro co kl dd cI cII ++ [(q38, .inl (cI, 14, .inl z0))]) := hD
                                  refine lv_dup hx hb dX5_told_207 rfl ?_
                                  refine lv_bipush (v := nI 13) hx hb dX5_told_208 (by decide) ?_
                                  refine lv_aload_n hx hb dX5_told_210 rfl (lv_at hl 4 rfl) ?_
                                  refine kt_calliM (w' := wR th z0 mo eo er gr av ro co kl dd cI cII ++ [(q38, .inl (cI, 14, .inl z0))]) (rest := [.int (nI 13), .ref q38, .ref q38]) (As := []) ⟨hx, hb, hml, hown, hts⟩ (c_X5_isTree l dC dI cI cII cJ cJJ cZ cO mo eo er gr av ro co kl dd th _ ) (cwV 0 hts gX5_told_X5_isTree rfl rfl rfl (by decide +kernel) ⟨Nat.le_of_ble_eq_true rfl, Nat.le_of_ble_eq_true rfl⟩) hK hP hD hS hA (List.range' 0 14) sw_R1 rfl 0 kX5 rfl rfl rfl rfl rfl hl.1 (Nat.le_of_ble_eq_true rfl) dX5_told_211 ⟨Nat.le_of_ble_eq_true rfl, Nat.le_of_ble_eq_true rfl⟩ (fun H locs hP hD hS => ?_)
                                  have hP : va_P (dC, dI) vwCl (wR th z0 mo eo er gr av ro co kl dd cI cII ++ [(q38, .inl (cI, 14, .inl z0))]) H := hP
                                  have hD : va_D A (wR th z0 mo eo er gr av ro co kl dd cI cII ++ [(q38, .inl (cI, 14, .inl z0))]) := hD
                                  refine kt_callSiM (w' := wR th z0 mo eo er gr av ro co kl dd cI cII ++ [(q38, .inl (cI, 14, .inl z0))]) (rest := [.int (nI 13), .ref q38, .ref q38]) (As := [.int (nI 1)]) ⟨hx, hb, hml, hown, hts⟩ (c_X5_one_1 l dC dI cI cII cJ cJJ cZ cO  _ ) (va_cwS 1 hts gX5_told_X5_one rfl rfl rfl (by decide +kernel) ⟨Nat.le_of_ble_eq_true rfl, Nat.le_of_ble_eq_true rfl⟩) hK hP hD hS hA [] (kt_sw_nil _) rfl rfl rfl hl.1 (Nat.le_of_ble_eq_true rfl) dX5_told_214 ⟨Nat.le_of_ble_eq_true rfl, Nat.le_of_ble_eq_true rfl⟩ (fun H locs hP hD hS => ?_)
                                  have hP : va_P (dC, dI) vwCl (wR th z0 mo eo er gr av ro co kl dd cI cII ++ [(q38, .inl (cI, 14, .inl z0))]) H := hP
                                  have hD : va_D A (wR th z0 mo eo er gr av ro co kl dd cI cII ++ [(q38, .inl (cI, 14, .inl z0))]) := hD
                                  refine kt_iast hx hb hK hP hD hS 14 0 rfl rfl (by omega) (by decide) dX5_told_217 (fun H locs hP hD hS => ?_)
                                  have hP : va_P (dC, dI) vwCl (wR th z0 mo eo er gr av ro co kl dd cI cII ++ [(q38, .inl (cI, 14, .inl (upd z0 13 (nI 1))))]) H := hP
                                  have hD : va_D A (wR th z0 mo eo er gr av ro co kl dd cI cII ++ [(q38, .inl (cI, 14, .inl (upd z0 13 (nI 1))))]) := hD
                                  refine lv_astore (lv' := [(5, .ref q38), (4, .int (nI 0)), (2, .int (nI 0)), (3, .int (nI 0)), (0, .ref mo), (1, .int (nI w))]) hx hb dX5_told_218 hl (by decide) rfl (fun ls hl => ?_)
                                  refine lv_aload hx hb dX5_told_220 (lv_at hl 0 rfl) ?_
                                  refine lv_iload_n hx hb dX5_told_222 rfl (lv_at hl 5 rfl) ?_
                                  refine kt_iald hx hb hK hP 14 0 rfl rfl (by omega) (by decide) dX5_told_223 ?_
                                  refine W.widen (k := 2) (n := 21) (by omega) (by omega) ?_
                                  have hP := kt_sub (wC := wR th z0 mo eo er gr av ro co kl dd cI cII) hP [0, 1, 2, 3, 4, 5, 6, 7, 8, 9, 10, 11, 12, 13] rfl
                                  have hD := hD.sub (ws' := wR th z0 mo eo er gr av ro co kl dd cI cII) [0, 1, 2, 3, 4, 5, 6, 7, 8, 9, 10, 11, 12, 13] rfl rfl
                                  exact kt_iret (W' := wR th z0 mo eo er gr av ro co kl dd cI cII) hx hb hr hS hP hK hD (rfl) hlocks dX5_told_224
                                · first | exact absurd c37 (by decide) | exact (c37 (by decide)).elim
                              · first | exact absurd c36 (by decide) | exact (c36 (by decide)).elim
                            · first | exact absurd c34 (by decide) | exact (c34 (by decide)).elim
                        · first | exact absurd c29 (by decide) | exact (c29 (by decide)).elim
                    · first | exact absurd c24 (by decide) | exact (c24 (by decide)).elim
                · first | exact absurd c19 (by decide) | exact (c19 (by decide)).elim
            · first | exact absurd c14 (by decide) | exact (c14 (by decide)).elim
        · first | exact absurd c9 (by decide) | exact (c9 (by decide)).elim
    · first | exact absurd c4 (by decide) | exact (c4 (by decide)).elim

set_option maxHeartbeats 4000000 in
set_option maxRecDepth 100000 in
theorem c_X5_burnt (l : Launch) (dC : Nat → ClassId) (dI : Nat → Nat → Nat) (cI cII cJ cJJ cZ cO : ClassId) (mo : Nat) (eo : Nat) (er : Nat → Nat) (gr : Nat) (av : Nat) (ro : Nat) (co : Nat) (kl : Nat) (dd : Nat) (th : Int32) (sz : Nat)  : Met l yX5_burnt wsX5_burnt ({ frames := 0, cells := 0, slots := 0, locals := 0 }) (va_Pc [.ref mo] (PRE (dC, dI) (tyR cI cII cJ cJJ cZ cO) (wR th z0 mo eo er gr av ro co kl dd cI cII) sz)) (va_Qi (fun (r' : Int32) (_ : Unit) => r' = nI 0) (fun _ tS => ATW (dC, dI) (tyR cI cII cJ cJJ cZ cO) (va_A (wR th z0 mo eo er gr av ro co kl dd cI cII) sz) (wR th z0 mo eo er gr av ro co kl dd cI cII) tS) (va_A (wR th z0 mo eo er gr av ro co kl dd cI cII) sz)) 0 0 (va_A (wR th z0 mo eo er gr av ro co kl dd cI cII) sz) := by
  refine Met.ofW (cc := cX5_burnt) (maxL := 7) (ret := (some .int)) (by decide) rfl ?_
  intro p e s m args below meth c s₁ B hml hv
  obtain ⟨rfl, hsz, hP, hK, hD0⟩ := hv
  have hx := B.exec
  have hb := B.bytes
  have hr := B.returns
  have hlocks := B.notSynchronized
  have hts := atoms_spec (ws := wsX5_burnt) B.pre
  have hown : s.vm.findClass RX5 = some m.cls := findClass_of_methodNamed B.named
  subst hsz
  have hD := hD0.self (sz := s.heap.size)
  generalize hAe : va_A (wR th z0 mo eo er gr av ro co kl dd cI cII) s.heap.size = A at hD ⊢
  have hA : ∀ q : Nat, s.heap.size ≤ q → A q := fun q h => by rw [← hAe]; exact Or.inr h
  have hS : va_S A s.heap s.heap [] := va_S.rf
  have hl := lv_entry ([.ref mo]) (n := 7) (Nat.le_of_ble_eq_true rfl)
  rw [lg_entry_eq]
  generalize (lg_sl ([.ref mo]) ++ List.replicate (7 - (lg_sl ([.ref mo])).length) Slot.unset).toArray = ls at hl ⊢
  have hl : lv_has ls 7 [(0, .ref mo)] := hl
  have hi_X5 : ∀ w ∈ u_ws RX5 TX5 11, w ∈ wsX5_burnt := by decide +kernel
  have hf_42 := hts (.fieldLink RX5 42 "TopplemoorModel" "spots" "I") (by decide +kernel)
  refine lv_iconst (v := nI 0) hx hb dX5_burnt_0 (by decide) ?_
  refine lv_istore_n (lv' := [(1, .int (nI 0)), (0, .ref mo)]) hx hb dX5_burnt_1 rfl hl (by decide) rfl (fun ls hl => ?_)
  refine lv_bipush (v := nI 64) hx hb dX5_burnt_2 (by decide) ?_
  refine lv_istore_n (lv' := [(2, .int (nI 64)), (1, .int (nI 0)), (0, .ref mo)]) hx hb dX5_burnt_4 rfl hl (by decide) rfl (fun ls hl => ?_)
  refine lv_iconst (v := nI 0) hx hb dX5_burnt_5 (by decide) ?_
  refine lv_istore_n (lv' := [(3, .int (nI 0)), (2, .int (nI 64)), (1, .int (nI 0)), (0, .ref mo)]) hx hb dX5_burnt_6 rfl hl (by decide) rfl (fun ls hl => ?_)
  refine lv_iload_n hx hb dX5_burnt_7 rfl (lv_at hl 0 rfl) ?_
  refine lv_aload_n hx hb dX5_burnt_8 rfl (lv_at hl 3 rfl) ?_
  refine va_get (D := (dC, dI)) (ci := kX5) (v := .int (nI 0)) (C := RX5) (T := TX5) (N := 11) hx hb hts hi_X5 hown hK hP 0 rfl rfl 1 (by decide) hf_42 (fun _ h9 => h9) rfl dX5_burnt_9 ?_
  refine lv_icmp_ge (tgt := 125) hx hb dX5_burnt_12 (by decide) (fun c1 => ?_) (fun c1 => ?_)
  · skip
    refine lv_iload_n hx hb dX5_burnt_125 rfl (lv_at hl 2 rfl) ?_
    refine W.widen (k := 0) (n := 0) (by omega) (by omega) ?_
    exact kt_iret (W' := wR th z0 mo eo er gr av ro co kl dd cI cII) hx hb hr hS hP hK hD (by decide) hlocks dX5_burnt_126
  · first | exact absurd c1 (by decide) | exact (c1 (by decide)).elim

set_option maxHeartbeats 4000000 in
set_option maxRecDepth 100000 in
theorem t_spot (l : Launch) (dC : Nat → ClassId) (dI : Nat → Nat → Nat) (cI cII cJ cJJ cZ cO : ClassId) (mo : Nat) (eo : Nat) (er : Nat → Nat) (gr : Nat) (av : Nat) (ro : Nat) (co : Nat) (kl : Nat) (dd : Nat) (sz : Nat)  : Met l yX5_spot wsX5_spot ({ frames := 2, cells := 0, slots := 0, locals := 44 }) (va_Pc [.ref mo] (PRE (dC, dI) (tyR cI cII cJ cJJ cZ cO) (wR (nI 0) z0 mo eo er gr av ro co kl dd cI cII) sz)) (va_Qi (fun (r' : Int32) (_ : List Value) => r' = nI 0) (fun (u : List Value) tS => ATW (dC, dI) (tyR cI cII cJ cJJ cZ cO) (va_A (wR (nI 0) z0 mo eo er gr av ro co kl dd cI cII) sz) [(mo, .inr (kX5, .int (nI 0) :: u))] tS) (va_A (wR (nI 0) z0 mo eo er gr av ro co kl dd cI cII) sz)) 0 0 (va_A (wR (nI 0) z0 mo eo er gr av ro co kl dd cI cII) sz) := by
  refine Met.ofW (cc := cX5_spot) (maxL := 1) (ret := (some .int)) (by decide) rfl ?_
  intro p e s m args below meth c s₁ B hml hv
  obtain ⟨rfl, hsz, hP, hK, hD0⟩ := hv
  have hx := B.exec
  have hb := B.bytes
  have hr := B.returns
  have hlocks := B.notSynchronized
  have hts := atoms_spec (ws := wsX5_spot) B.pre
  have hown : s.vm.findClass RX5 = some m.cls := findClass_of_methodNamed B.named
  subst hsz
  have hD := hD0.self (sz := s.heap.size)
  generalize hAe : va_A (wR (nI 0) z0 mo eo er gr av ro co kl dd cI cII) s.heap.size = A at hD ⊢
  have hA : ∀ q : Nat, s.heap.size ≤ q → A q := fun q h => by rw [← hAe]; exact Or.inr h
  have hS : va_S A s.heap s.heap [] := va_S.rf
  have hl := lv_entry ([.ref mo]) (n := 1) (Nat.le_of_ble_eq_true rfl)
  rw [lg_entry_eq]
  generalize (lg_sl ([.ref mo]) ++ List.replicate (1 - (lg_sl ([.ref mo])).length) Slot.unset).toArray = ls at hl ⊢
  have hl : lv_has ls 1 [(0, .ref mo)] := hl
  have hi_X5 : ∀ w ∈ u_ws RX5 TX5 11, w ∈ wsX5_spot := by decide +kernel
  have hf_42 := hts (.fieldLink RX5 42 "TopplemoorModel" "spots" "I") (by decide +kernel)
  refine lv_aload_n hx hb dX5_spot_0 rfl (lv_at hl 0 rfl) ?_
  refine lv_aload_n hx hb dX5_spot_1 rfl (lv_at hl 0 rfl) ?_
  refine va_get (D := (dC, dI)) (ci := kX5) (v := .int (nI 0)) (C := RX5) (T := TX5) (N := 11) hx hb hts hi_X5 hown hK hP 0 rfl rfl 1 (by decide) hf_42 (fun _ h9 => h9) rfl dX5_spot_2 ?_
  refine lv_bipush (v := nI 6) hx hb dX5_spot_5 (by decide) ?_
  refine lv_icmp_ne (tgt := 14) hx hb dX5_spot_7 (by decide) (fun c1 => ?_) (fun c1 => ?_)
  · skip
    refine lv_iconst (v := nI 0) hx hb dX5_spot_14 (by decide) ?_
    refine lv_iconst (v := nI 1) hx hb dX5_spot_15 (by decide) ?_
    refine kt_calliM (w' := wR (nI 0) z0 mo eo er gr av ro co kl dd cI cII) (rest := []) (As := [.int (nI 0), .int (nI 1)]) ⟨hx, hb, hml, hown, hts⟩ (c_X5_start_0 l dC dI cI cII cJ cJJ cZ cO mo eo er gr av ro co kl dd _ ) (cwV 2 hts gX5_spot_X5_start rfl rfl rfl (by decide +kernel) ⟨Nat.le_of_ble_eq_true rfl, Nat.le_of_ble_eq_true rfl⟩) hK hP hD hS hA (List.range' 0 14) sw_R0 rfl 0 kX5 rfl rfl rfl rfl rfl hl.1 (Nat.le_of_ble_eq_true rfl) dX5_spot_16 ⟨Nat.le_of_ble_eq_true rfl, Nat.le_of_ble_eq_true rfl⟩ (fun H locs hP hD hS => ?_)
    have hP : va_P (dC, dI) vwCl (wR (nI 0) z0 mo eo er gr av ro co kl dd cI cII) H := hP
    have hD : va_D A (wR (nI 0) z0 mo eo er gr av ro co kl dd cI cII) := hD
    refine lv_if_eq (tgt := 24) hx hb dX5_spot_19 (by decide) (fun c2 => ?_) (fun c2 => ?_)
    · skip
      refine lv_aload_n hx hb dX5_spot_24 rfl (lv_at hl 0 rfl) ?_
      refine lv_dup hx hb dX5_spot_25 rfl ?_
      refine va_get (D := (dC, dI)) (ci := kX5) (v := .int (nI 0)) (C := RX5) (T := TX5) (N := 11) hx hb hts hi_X5 hown hK hP 0 rfl rfl 1 (by decide) hf_42 (fun _ h9 => h9) rfl dX5_spot_26 ?_
      refine lv_iconst (v := nI 1) hx hb dX5_spot_29 (by decide) ?_
      refine lv_iadd hx hb dX5_spot_30 ?_
      refine lv_topi (fun z3 ez3 => ?_)
      have ez3 : z3 = nI 1 := ez3.trans (by decide)
      subst ez3
      refine va_put (D := (dC, dI)) (ci := kX5) (v := .int (nI 1)) (ty := .int) (C := RX5) (T := TX5) (N := 11) hx hb hts hi_X5 tyX5 tyX5_ok nmX5 hown hK hP hD hS 0 rfl rfl 1 (by decide) hf_42 (fun _ h9 => h9) rfl (by decide +kernel) rfl rfl (Nat.le_of_ble_eq_true rfl) dX5_spot_31 (fun H locs hP hD hS => ?_)
      have hP : va_P (dC, dI) vwCl ([(mo, .inr (kX5, [.int (nI 0), .int (nI 1), .ref eo, .ref gr, .ref av, .ref ro, .ref co, .ref kl, .int (nI 0), .int (nI 0), .int (nI 0)])), (eo, .inl (cII, 7, .inr (.inr (.inr (.inr (rowF 7 er)))))), (er 0, .inl (cI, 7, .inl z0)), (er 1, .inl (cI, 7, .inl z0)), (er 2, .inl (cI, 7, .inl z0)), (er 3, .inl (cI, 7, .inl z0)), (er 4, .inl (cI, 7, .inl z0)), (er 5, .inl (cI, 7, .inl z0)), (er 6, .inl (cI, 7, .inl z0)), (gr, .inl (cI, 6, .inl z0)), (av, .inl (cI, 6, .inl z0)), (ro, .inl (cI, 6, .inl z0)), (co, .inl (cI, 7, .inl z0)), (kl, .inr (kAL, [.int (nI 0), .ref dd, .int (nI 0)]))]) H := hP
      have hD : va_D A ([(mo, .inr (kX5, [.int (nI 0), .int (nI 1), .ref eo, .ref gr, .ref av, .ref ro, .ref co, .ref kl, .int (nI 0), .int (nI 0), .int (nI 0)])), (eo, .inl (cII, 7, .inr (.inr (.inr (.inr (rowF 7 er)))))), (er 0, .inl (cI, 7, .inl z0)), (er 1, .inl (cI, 7, .inl z0)), (er 2, .inl (cI, 7, .inl z0)), (er 3, .inl (cI, 7, .inl z0)), (er 4, .inl (cI, 7, .inl z0)), (er 5, .inl (cI, 7, .inl z0)), (er 6, .inl (cI, 7, .inl z0)), (gr, .inl (cI, 6, .inl z0)), (av, .inl (cI, 6, .inl z0)), (ro, .inl (cI, 6, .inl z0)), (co, .inl (cI, 7, .inl z0)), (kl, .inr (kAL, [.int (nI 0), .ref dd, .int (nI 0)]))]) := hD
      refine lv_aload_n hx hb dX5_spot_34 rfl (lv_at hl 0 rfl) ?_
      refine va_get (D := (dC, dI)) (ci := kX5) (v := .int (nI 1)) (C := RX5) (T := TX5) (N := 11) hx hb hts hi_X5 hown hK hP 0 rfl rfl 1 (by decide) hf_42 (fun _ h9 => h9) rfl dX5_spot_35 ?_
      refine lv_iconst (v := nI 1) hx hb dX5_spot_38 (by decide) ?_
      refine lv_isub hx hb dX5_spot_39 ?_
      refine lv_topi (fun z4 ez4 => ?_)
      have ez4 : z4 = nI 0 := ez4.trans (by decide)
      subst ez4
      refine W.widen (k := 0) (n := 0) (by omega) (by omega) ?_
      have hP := kt_sub (wC := [(mo, .inr (kX5, .int (nI 0) :: [.int (nI 1), .ref eo, .ref gr, .ref av, .ref ro, .ref co, .ref kl, .int (nI 0), .int (nI 0), .int (nI 0)]))]) hP [0] rfl
      have hD := hD.sub (ws' := [(mo, .inr (kX5, .int (nI 0) :: [.int (nI 1), .ref eo, .ref gr, .ref av, .ref ro, .ref co, .ref kl, .int (nI 0), .int (nI 0), .int (nI 0)]))]) [0] rfl rfl
      exact kt_iretU (mo := mo) (th := (nI 0)) (vs := [.int (nI 1), .ref eo, .ref gr, .ref av, .ref ro, .ref co, .ref kl, .int (nI 0), .int (nI 0), .int (nI 0)]) hx hb hr hS hP hK hD (by decide) hlocks dX5_spot_40
    · first | exact absurd c2 (by decide) | exact (c2 (by decide)).elim
  · first | exact absurd c1 (by decide) | exact (c1 (by decide)).elim

set_option maxHeartbeats 4000000 in
set_option maxRecDepth 100000 in
theorem t_edge_a (l : Launch) (dC : Nat → ClassId) (dI : Nat → Nat → Nat) (cI cII cJ cJJ cZ cO : ClassId) (mo : Nat) (eo : Nat) (er : Nat → Nat) (gr : Nat) (av : Nat) (ro : Nat) (co : Nat) (kl : Nat) (dd : Nat) (a : Int32) (b : Int32) (q : Int32) (sz : Nat) (h : ¬ a = nI 6) : Met l yX5_edge wsX5_edge ({ frames := 3, cells := 0, slots := 0, locals := 64 }) (va_Pc [.ref mo, .int a, .int b, .int q] (PRE (dC, dI) (tyR cI cII cJ cJJ cZ cO) (wR (nI 0) z0 mo eo er gr av ro co kl dd cI cII) sz)) (va_Qi (fun (r' : Int32) (_ : List Value) => r' = nI 0) (fun (u : List Value) tS => ATW (dC, dI) (tyR cI cII cJ cJJ cZ cO) (va_A (wR (nI 0) z0 mo eo er gr av ro co kl dd cI cII) sz) [(mo, .inr (kX5, .int (nI 1) :: u))] tS) (va_A (wR (nI 0) z0 mo eo er gr av ro co kl dd cI cII) sz)) 0 0 (va_A (wR (nI 0) z0 mo eo er gr av ro co kl dd cI cII) sz) := by
  refine Met.ofW (cc := cX5_edge) (maxL := 5) (ret := (some .int)) (by decide) rfl ?_
  intro p e s m args below meth c s₁ B hml hv
  obtain ⟨rfl, hsz, hP, hK, hD0⟩ := hv
  have hx := B.exec
  have hb := B.bytes
  have hr := B.returns
  have hlocks := B.notSynchronized
  have hts := atoms_spec (ws := wsX5_edge) B.pre
  have hown : s.vm.findClass RX5 = some m.cls := findClass_of_methodNamed B.named
  subst hsz
  have hD := hD0.self (sz := s.heap.size)
  generalize hAe : va_A (wR (nI 0) z0 mo eo er gr av ro co kl dd cI cII) s.heap.size = A at hD ⊢
  have hA : ∀ q : Nat, s.heap.size ≤ q → A q := fun q h => by rw [← hAe]; exact Or.inr h
  have hS : va_S A s.heap s.heap [] := va_S.rf
  have hl := lv_entry ([.ref mo, .int a, .int b, .int q]) (n := 5) (Nat.le_of_ble_eq_true rfl)
  rw [lg_entry_eq]
  generalize (lg_sl ([.ref mo, .int a, .int b, .int q]) ++ List.replicate (5 - (lg_sl ([.ref mo, .int a, .int b, .int q])).length) Slot.unset).toArray = ls at hl ⊢
  have hl : lv_has ls 5 [(0, .ref mo), (1, .int a), (2, .int b), (3, .int q)] := hl
  refine lv_aload_n hx hb dX5_edge_0 rfl (lv_at hl 0 rfl) ?_
  refine lv_aload_n hx hb dX5_edge_1 rfl (lv_at hl 0 rfl) ?_
  refine lv_iload_n hx hb dX5_edge_2 rfl (lv_at hl 1 rfl) ?_
  refine kt_calliM (w' := wR (nI 0) z0 mo eo er gr av ro co kl dd cI cII) (rest := [.ref mo]) (As := [.int a]) ⟨hx, hb, hml, hown, hts⟩ (c_X5_isNoNode_y l dC dI cI cII cJ cJJ cZ cO mo eo er gr av ro co kl dd a (nI 0) _ (h)) (cwV 1 hts gX5_edge_X5_isNoNode rfl rfl rfl (by decide +kernel) ⟨Nat.le_of_ble_eq_true rfl, Nat.le_of_ble_eq_true rfl⟩) hK hP hD hS hA (List.range' 0 14) sw_R0 rfl 0 kX5 rfl rfl rfl rfl rfl hl.1 (Nat.le_of_ble_eq_true rfl) dX5_edge_3 ⟨Nat.le_of_ble_eq_true rfl, Nat.le_of_ble_eq_true rfl⟩ (fun H locs hP hD hS => ?_)
  have hP : va_P (dC, dI) vwCl (wR (nI 0) z0 mo eo er gr av ro co kl dd cI cII) H := hP
  have hD : va_D A (wR (nI 0) z0 mo eo er gr av ro co kl dd cI cII) := hD
  refine lv_if_ne (tgt := 17) hx hb dX5_edge_6 (by decide) (fun c1 => ?_) (fun c1 => ?_)
  · skip
    refine lv_iconst (v := nI 1) hx hb dX5_edge_17 (by decide) ?_
    refine lv_goto (tgt := 22) hx hb dX5_edge_18 (by decide) ?_
    refine lv_iconst (v := nI 1) hx hb dX5_edge_22 (by decide) ?_
    refine kt_calliM (w' := wR (nI 1) z0 mo eo er gr av ro co kl dd cI cII) (rest := []) (As := [.int (nI 1), .int (nI 1)]) ⟨hx, hb, hml, hown, hts⟩ (c_X5_start_1 l dC dI cI cII cJ cJJ cZ cO mo eo er gr av ro co kl dd _ ) (cwV 2 hts gX5_edge_X5_start rfl rfl rfl (by decide +kernel) ⟨Nat.le_of_ble_eq_true rfl, Nat.le_of_ble_eq_true rfl⟩) hK hP hD hS hA (List.range' 0 14) sw_R0 rfl 0 kX5 rfl rfl rfl rfl rfl hl.1 (Nat.le_of_ble_eq_true rfl) dX5_edge_23 ⟨Nat.le_of_ble_eq_true rfl, Nat.le_of_ble_eq_true rfl⟩ (fun H locs hP hD hS => ?_)
    have hP : va_P (dC, dI) vwCl (wR (nI 1) z0 mo eo er gr av ro co kl dd cI cII) H := hP
    have hD : va_D A (wR (nI 1) z0 mo eo er gr av ro co kl dd cI cII) := hD
    refine lv_if_ne (tgt := 56) hx hb dX5_edge_26 (by decide) (fun c2 => ?_) (fun c2 => ?_)
    · skip
      refine lv_iconst (v := nI 0) hx hb dX5_edge_56 (by decide) ?_
      refine W.widen (k := 0) (n := 0) (by omega) (by omega) ?_
      have hP := kt_sub (wC := [(mo, .inr (kX5, .int (nI 1) :: [.int (nI 0), .ref eo, .ref gr, .ref av, .ref ro, .ref co, .ref kl, .int (nI 0), .int (nI 0), .int (nI 0)]))]) hP [0] rfl
      have hD := hD.sub (ws' := [(mo, .inr (kX5, .int (nI 1) :: [.int (nI 0), .ref eo, .ref gr, .ref av, .ref ro, .ref co, .ref kl, .int (nI 0), .int (nI 0), .int (nI 0)]))]) [0] rfl rfl
      exact kt_iretU (mo := mo) (th := (nI 1)) (vs := [.int (nI 0), .ref eo, .ref gr, .ref av, .ref ro, .ref co, .ref kl, .int (nI 0), .int (nI 0), .int (nI 0)]) hx hb hr hS hP hK hD (by decide) hlocks dX5_edge_57
    · first | exact absurd c2 (by decide) | exact (c2 (by decide)).elim
  · first | exact absurd c1 (by decide) | exact (c1 (by decide)).elim

set_option maxHeartbeats 4000000 in
set_option maxRecDepth 100000 in
theorem t_edge_b (l : Launch) (dC : Nat → ClassId) (dI : Nat → Nat → Nat) (cI cII cJ cJJ cZ cO : ClassId) (mo : Nat) (eo : Nat) (er : Nat → Nat) (gr : Nat) (av : Nat) (ro : Nat) (co : Nat) (kl : Nat) (dd : Nat) (b : Int32) (q : Int32) (sz : Nat) (h : ¬ b = nI 6) : Met l yX5_edge wsX5_edge ({ frames := 3, cells := 0, slots := 0, locals := 64 }) (va_Pc [.ref mo, .int (nI 6), .int b, .int q] (PRE (dC, dI) (tyR cI cII cJ cJJ cZ cO) (wR (nI 0) z0 mo eo er gr av ro co kl dd cI cII) sz)) (va_Qi (fun (r' : Int32) (_ : List Value) => r' = nI 0) (fun (u : List Value) tS => ATW (dC, dI) (tyR cI cII cJ cJJ cZ cO) (va_A (wR (nI 0) z0 mo eo er gr av ro co kl dd cI cII) sz) [(mo, .inr (kX5, .int (nI 1) :: u))] tS) (va_A (wR (nI 0) z0 mo eo er gr av ro co kl dd cI cII) sz)) 0 0 (va_A (wR (nI 0) z0 mo eo er gr av ro co kl dd cI cII) sz) := by
  refine Met.ofW (cc := cX5_edge) (maxL := 5) (ret := (some .int)) (by decide) rfl ?_
  intro p e s m args below meth c s₁ B hml hv
  obtain ⟨rfl, hsz, hP, hK, hD0⟩ := hv
  have hx := B.exec
  have hb := B.bytes
  have hr := B.returns
  have hlocks := B.notSynchronized
  have hts := atoms_spec (ws := wsX5_edge) B.pre
  have hown : s.vm.findClass RX5 = some m.cls := findClass_of_methodNamed B.named
  subst hsz
  have hD := hD0.self (sz := s.heap.size)
  generalize hAe : va_A (wR (nI 0) z0 mo eo er gr av ro co kl dd cI cII) s.heap.size = A at hD ⊢
  have hA : ∀ q : Nat, s.heap.size ≤ q → A q := fun q h => by rw [← hAe]; exact Or.inr h
  have hS : va_S A s.heap s.heap [] := va_S.rf
  have hl := lv_entry ([.ref mo, .int (nI 6), .int b, .int q]) (n := 5) (Nat.le_of_ble_eq_true rfl)
  rw [lg_entry_eq]
  generalize (lg_sl ([.ref mo, .int (nI 6), .int b, .int q]) ++ List.replicate (5 - (lg_sl ([.ref mo, .int (nI 6), .int b, .int q])).length) Slot.unset).toArray = ls at hl ⊢
  have hl : lv_has ls 5 [(0, .ref mo), (1, .int (nI 6)), (2, .int b), (3, .int q)] := hl
  refine lv_aload_n hx hb dX5_edge_0 rfl (lv_at hl 0 rfl) ?_
  refine lv_aload_n hx hb dX5_edge_1 rfl (lv_at hl 0 rfl) ?_
  refine lv_iload_n hx hb dX5_edge_2 rfl (lv_at hl 1 rfl) ?_
  refine kt_calliM (w' := wR (nI 0) z0 mo eo er gr av ro co kl dd cI cII) (rest := [.ref mo]) (As := [.int (nI 6)]) ⟨hx, hb, hml, hown, hts⟩ (c_X5_isNoNode_n l dC dI cI cII cJ cJJ cZ cO mo eo er gr av ro co kl dd (nI 0) _ ) (cwV 1 hts gX5_edge_X5_isNoNode rfl rfl rfl (by decide +kernel) ⟨Nat.le_of_ble_eq_true rfl, Nat.le_of_ble_eq_true rfl⟩) hK hP hD hS hA (List.range' 0 14) sw_R0 rfl 0 kX5 rfl rfl rfl rfl rfl hl.1 (Nat.le_of_ble_eq_true rfl) dX5_edge_3 ⟨Nat.le_of_ble_eq_true rfl, Nat.le_of_ble_eq_true rfl⟩ (fun H locs hP hD hS => ?_)
  have hP : va_P (dC, dI) vwCl (wR (nI 0) z0 mo eo er gr av ro co kl dd cI cII) H := hP
  have hD : va_D A (wR (nI 0) z0 mo eo er gr av ro co kl dd cI cII) := hD
  refine lv_if_ne (tgt := 17) hx hb dX5_edge_6 (by decide) (fun c1 => ?_) (fun c1 => ?_)
  · first | exact absurd c1 (by decide) | exact (c1 (by decide)).elim
  · skip
    refine lv_aload_n hx hb dX5_edge_9 rfl (lv_at hl 0 rfl) ?_
    refine lv_iload_n hx hb dX5_edge_10 rfl (lv_at hl 2 rfl) ?_
    refine kt_calliM (w' := wR (nI 0) z0 mo eo er gr av ro co kl dd cI cII) (rest := [.ref mo]) (As := [.int b]) ⟨hx, hb, hml, hown, hts⟩ (c_X5_isNoNode_y l dC dI cI cII cJ cJJ cZ cO mo eo er gr av ro co kl dd b (nI 0) _ (h)) (cwV 1 hts gX5_edge_X5_isNoNode rfl rfl rfl (by decide +kernel) ⟨Nat.le_of_ble_eq_true rfl, Nat.le_of_ble_eq_true rfl⟩) hK hP hD hS hA (List.range' 0 14) sw_R0 rfl 0 kX5 rfl rfl rfl rfl rfl hl.1 (Nat.le_of_ble_eq_true rfl) dX5_edge_11 ⟨Nat.le_of_ble_eq_true rfl, Nat.le_of_ble_eq_true rfl⟩ (fun H locs hP hD hS => ?_)
    have hP : va_P (dC, dI) vwCl (wR (nI 0) z0 mo eo er gr av ro co kl dd cI cII) H := hP
    have hD : va_D A (wR (nI 0) z0 mo eo er gr av ro co kl dd cI cII) := hD
    refine lv_if_eq (tgt := 21) hx hb dX5_edge_14 (by decide) (fun c2 => ?_) (fun c2 => ?_)
    · first | exact absurd c2 (by decide) | exact (c2 (by decide)).elim
    · skip
      refine lv_iconst (v := nI 1) hx hb dX5_edge_17 (by decide) ?_
      refine lv_goto (tgt := 22) hx hb dX5_edge_18 (by decide) ?_
      refine lv_iconst (v := nI 1) hx hb dX5_edge_22 (by decide) ?_
      refine kt_calliM (w' := wR (nI 1) z0 mo eo er gr av ro co kl dd cI cII) (rest := []) (As := [.int (nI 1), .int (nI 1)]) ⟨hx, hb, hml, hown, hts⟩ (c_X5_start_1 l dC dI cI cII cJ cJJ cZ cO mo eo er gr av ro co kl dd _ ) (cwV 2 hts gX5_edge_X5_start rfl rfl rfl (by decide +kernel) ⟨Nat.le_of_ble_eq_true rfl, Nat.le_of_ble_eq_true rfl⟩) hK hP hD hS hA (List.range' 0 14) sw_R0 rfl 0 kX5 rfl rfl rfl rfl rfl hl.1 (Nat.le_of_ble_eq_true rfl) dX5_edge_23 ⟨Nat.le_of_ble_eq_true rfl, Nat.le_of_ble_eq_true rfl⟩ (fun H locs hP hD hS => ?_)
      have hP : va_P (dC, dI) vwCl (wR (nI 1) z0 mo eo er gr av ro co kl dd cI cII) H := hP
      have hD : va_D A (wR (nI 1) z0 mo eo er gr av ro co kl dd cI cII) := hD
      refine lv_if_ne (tgt := 56) hx hb dX5_edge_26 (by decide) (fun c3 => ?_) (fun c3 => ?_)
      · skip
        refine lv_iconst (v := nI 0) hx hb dX5_edge_56 (by decide) ?_
        refine W.widen (k := 0) (n := 0) (by omega) (by omega) ?_
        have hP := kt_sub (wC := [(mo, .inr (kX5, .int (nI 1) :: [.int (nI 0), .ref eo, .ref gr, .ref av, .ref ro, .ref co, .ref kl, .int (nI 0), .int (nI 0), .int (nI 0)]))]) hP [0] rfl
        have hD := hD.sub (ws' := [(mo, .inr (kX5, .int (nI 1) :: [.int (nI 0), .ref eo, .ref gr, .ref av, .ref ro, .ref co, .ref kl, .int (nI 0), .int (nI 0), .int (nI 0)]))]) [0] rfl rfl
        exact kt_iretU (mo := mo) (th := (nI 1)) (vs := [.int (nI 0), .ref eo, .ref gr, .ref av, .ref ro, .ref co, .ref kl, .int (nI 0), .int (nI 0), .int (nI 0)]) hx hb hr hS hP hK hD (by decide) hlocks dX5_edge_57
      · first | exact absurd c3 (by decide) | exact (c3 (by decide)).elim

set_option maxHeartbeats 4000000 in
set_option maxRecDepth 100000 in
theorem t_edge_c (l : Launch) (dC : Nat → ClassId) (dI : Nat → Nat → Nat) (cI cII cJ cJJ cZ cO : ClassId) (mo : Nat) (eo : Nat) (er : Nat → Nat) (gr : Nat) (av : Nat) (ro : Nat) (co : Nat) (kl : Nat) (dd : Nat) (q : Int32) (sz : Nat)  : Met l yX5_edge wsX5_edge ({ frames := 2, cells := 0, slots := 0, locals := 44 }) (va_Pc [.ref mo, .int (nI 6), .int (nI 6), .int q] (PRE (dC, dI) (tyR cI cII cJ cJJ cZ cO) (wR (nI 0) z0 mo eo er gr av ro co kl dd cI cII) sz)) (va_Qi (fun (r' : Int32) (_ : List Value) => r' = nI 0) (fun (u : List Value) tS => ATW (dC, dI) (tyR cI cII cJ cJJ cZ cO) (va_A (wR (nI 0) z0 mo eo er gr av ro co kl dd cI cII) sz) [(mo, .inr (kX5, .int (nI 2) :: u))] tS) (va_A (wR (nI 0) z0 mo eo er gr av ro co kl dd cI cII) sz)) 0 0 (va_A (wR (nI 0) z0 mo eo er gr av ro co kl dd cI cII) sz) := by
  refine Met.ofW (cc := cX5_edge) (maxL := 5) (ret := (some .int)) (by decide) rfl ?_
  intro p e s m args below meth c s₁ B hml hv
  obtain ⟨rfl, hsz, hP, hK, hD0⟩ := hv
  have hx := B.exec
  have hb := B.bytes
  have hr := B.returns
  have hlocks := B.notSynchronized
  have hts := atoms_spec (ws := wsX5_edge) B.pre
  have hown : s.vm.findClass RX5 = some m.cls := findClass_of_methodNamed B.named
  subst hsz
  have hD := hD0.self (sz := s.heap.size)
  generalize hAe : va_A (wR (nI 0) z0 mo eo er gr av ro co kl dd cI cII) s.heap.size = A at hD ⊢
  have hA : ∀ q : Nat, s.heap.size ≤ q → A q := fun q h => by rw [← hAe]; exact Or.inr h
  have hS : va_S A s.heap s.heap [] := va_S.rf
  have hl := lv_entry ([.ref mo, .int (nI 6), .int (nI 6), .int q]) (n := 5) (Nat.le_of_ble_eq_true rfl)
  rw [lg_entry_eq]
  generalize (lg_sl ([.ref mo, .int (nI 6), .int (nI 6), .int q]) ++ List.replicate (5 - (lg_sl ([.ref mo, .int (nI 6), .int (nI 6), .int q])).length) Slot.unset).toArray = ls at hl ⊢
  have hl : lv_has ls 5 [(0, .ref mo), (1, .int (nI 6)), (2, .int (nI 6)), (3, .int q)] := hl
  refine lv_aload_n hx hb dX5_edge_0 rfl (lv_at hl 0 rfl) ?_
  refine lv_aload_n hx hb dX5_edge_1 rfl (lv_at hl 0 rfl) ?_
  refine lv_iload_n hx hb dX5_edge_2 rfl (lv_at hl 1 rfl) ?_
  refine kt_calliM (w' := wR (nI 0) z0 mo eo er gr av ro co kl dd cI cII) (rest := [.ref mo]) (As := [.int (nI 6)]) ⟨hx, hb, hml, hown, hts⟩ (c_X5_isNoNode_n l dC dI cI cII cJ cJJ cZ cO mo eo er gr av ro co kl dd (nI 0) _ ) (cwV 1 hts gX5_edge_X5_isNoNode rfl rfl rfl (by decide +kernel) ⟨Nat.le_of_ble_eq_true rfl, Nat.le_of_ble_eq_true rfl⟩) hK hP hD hS hA (List.range' 0 14) sw_R0 rfl 0 kX5 rfl rfl rfl rfl rfl hl.1 (Nat.le_of_ble_eq_true rfl) dX5_edge_3 ⟨Nat.le_of_ble_eq_true rfl, Nat.le_of_ble_eq_true rfl⟩ (fun H locs hP hD hS => ?_)
  have hP : va_P (dC, dI) vwCl (wR (nI 0) z0 mo eo er gr av ro co kl dd cI cII) H := hP
  have hD : va_D A (wR (nI 0) z0 mo eo er gr av ro co kl dd cI cII) := hD
  refine lv_if_ne (tgt := 17) hx hb dX5_edge_6 (by decide) (fun c1 => ?_) (fun c1 => ?_)
  · first | exact absurd c1 (by decide) | exact (c1 (by decide)).elim
  · skip
    refine lv_aload_n hx hb dX5_edge_9 rfl (lv_at hl 0 rfl) ?_
    refine lv_iload_n hx hb dX5_edge_10 rfl (lv_at hl 2 rfl) ?_
    refine kt_calliM (w' := wR (nI 0) z0 mo eo er gr av ro co kl dd cI cII) (rest := [.ref mo]) (As := [.int (nI 6)]) ⟨hx, hb, hml, hown, hts⟩ (c_X5_isNoNode_n l dC dI cI cII cJ cJJ cZ cO mo eo er gr av ro co kl dd (nI 0) _ ) (cwV 1 hts gX5_edge_X5_isNoNode rfl rfl rfl (by decide +kernel) ⟨Nat.le_of_ble_eq_true rfl, Nat.le_of_ble_eq_true rfl⟩) hK hP hD hS hA (List.range' 0 14) sw_R0 rfl 0 kX5 rfl rfl rfl rfl rfl hl.1 (Nat.le_of_ble_eq_true rfl) dX5_edge_11 ⟨Nat.le_of_ble_eq_true rfl, Nat.le_of_ble_eq_true rfl⟩ (fun H locs hP hD hS => ?_)
    have hP : va_P (dC, dI) vwCl (wR (nI 0) z0 mo eo er gr av ro co kl dd cI cII) H := hP
    have hD : va_D A (wR (nI 0) z0 mo eo er gr av ro co kl dd cI cII) := hD
    refine lv_if_eq (tgt := 21) hx hb dX5_edge_14 (by decide) (fun c2 => ?_) (fun c2 => ?_)
    · skip
      refine lv_iconst (v := nI 0) hx hb dX5_edge_21 (by decide) ?_
      refine lv_iconst (v := nI 1) hx hb dX5_edge_22 (by decide) ?_
      refine kt_calliM (w' := wR (nI 0) z0 mo eo er gr av ro co kl dd cI cII) (rest := []) (As := [.int (nI 0), .int (nI 1)]) ⟨hx, hb, hml, hown, hts⟩ (c_X5_start_0 l dC dI cI cII cJ cJJ cZ cO mo eo er gr av ro co kl dd _ ) (cwV 2 hts gX5_edge_X5_start rfl rfl rfl (by decide +kernel) ⟨Nat.le_of_ble_eq_true rfl, Nat.le_of_ble_eq_true rfl⟩) hK hP hD hS hA (List.range' 0 14) sw_R0 rfl 0 kX5 rfl rfl rfl rfl rfl hl.1 (Nat.le_of_ble_eq_true rfl) dX5_edge_23 ⟨Nat.le_of_ble_eq_true rfl, Nat.le_of_ble_eq_true rfl⟩ (fun H locs hP hD hS => ?_)
      have hP : va_P (dC, dI) vwCl (wR (nI 0) z0 mo eo er gr av ro co kl dd cI cII) H := hP
      have hD : va_D A (wR (nI 0) z0 mo eo er gr av ro co kl dd cI cII) := hD
      refine lv_if_ne (tgt := 56) hx hb dX5_edge_26 (by decide) (fun c3 => ?_) (fun c3 => ?_)
      · first | exact absurd c3 (by decide) | exact (c3 (by decide)).elim
      · skip
        refine lv_aload_n hx hb dX5_edge_29 rfl (lv_at hl 0 rfl) ?_
        refine lv_iload_n hx hb dX5_edge_30 rfl (lv_at hl 1 rfl) ?_
        refine lv_iload_n hx hb dX5_edge_31 rfl (lv_at hl 2 rfl) ?_
        refine lv_icmp_eq (tgt := 44) hx hb dX5_edge_32 (by decide) (fun c4 => ?_) (fun c4 => ?_)
        · skip
          refine lv_iconst (v := nI 1) hx hb dX5_edge_44 (by decide) ?_
          refine lv_goto (tgt := 49) hx hb dX5_edge_45 (by decide) ?_
          refine lv_iconst (v := nI 2) hx hb dX5_edge_49 (by decide) ?_
          refine kt_calliM (w' := wR (nI 2) z0 mo eo er gr av ro co kl dd cI cII) (rest := []) (As := [.int (nI 1), .int (nI 2)]) ⟨hx, hb, hml, hown, hts⟩ (c_X5_refuse_102 l dC dI cI cII cJ cJJ cZ cO mo eo er gr av ro co kl dd _ ) (cwV 2 hts gX5_edge_X5_refuse rfl rfl rfl (by decide +kernel) ⟨Nat.le_of_ble_eq_true rfl, Nat.le_of_ble_eq_true rfl⟩) hK hP hD hS hA (List.range' 0 14) sw_R0 rfl 0 kX5 rfl rfl rfl rfl rfl hl.1 (Nat.le_of_ble_eq_true rfl) dX5_edge_50 ⟨Nat.le_of_ble_eq_true rfl, Nat.le_of_ble_eq_true rfl⟩ (fun H locs hP hD hS => ?_)
          have hP : va_P (dC, dI) vwCl (wR (nI 2) z0 mo eo er gr av ro co kl dd cI cII) H := hP
          have hD : va_D A (wR (nI 2) z0 mo eo er gr av ro co kl dd cI cII) := hD
          refine lv_if_eq (tgt := 58) hx hb dX5_edge_53 (by decide) (fun c5 => ?_) (fun c5 => ?_)
          · first | exact absurd c5 (by decide) | exact (c5 (by decide)).elim
          · skip
            refine lv_iconst (v := nI 0) hx hb dX5_edge_56 (by decide) ?_
            refine W.widen (k := 0) (n := 0) (by omega) (by omega) ?_
            have hP := kt_sub (wC := [(mo, .inr (kX5, .int (nI 2) :: [.int (nI 0), .ref eo, .ref gr, .ref av, .ref ro, .ref co, .ref kl, .int (nI 0), .int (nI 0), .int (nI 0)]))]) hP [0] rfl
            have hD := hD.sub (ws' := [(mo, .inr (kX5, .int (nI 2) :: [.int (nI 0), .ref eo, .ref gr, .ref av, .ref ro, .ref co, .ref kl, .int (nI 0), .int (nI 0), .int (nI 0)]))]) [0] rfl rfl
            exact kt_iretU (mo := mo) (th := (nI 2)) (vs := [.int (nI 0), .ref eo, .ref gr, .ref av, .ref ro, .ref co, .ref kl, .int (nI 0), .int (nI 0), .int (nI 0)]) hx hb hr hS hP hK hD (by decide) hlocks dX5_edge_57
        · first | exact absurd c4 (by decide) | exact (c4 (by decide)).elim
    · first | exact absurd c2 (by decide) | exact (c2 (by decide)).elim

set_option maxHeartbeats 4000000 in
set_option maxRecDepth 100000 in
theorem t_drop (l : Launch) (dC : Nat → ClassId) (dI : Nat → Nat → Nat) (cI cII cJ cJJ cZ cO : ClassId) (mo : Nat) (eo : Nat) (er : Nat → Nat) (gr : Nat) (av : Nat) (ro : Nat) (co : Nat) (kl : Nat) (dd : Nat) (v : Int32) (q : Int32) (sz : Nat)  : Met l yX5_drop wsX5_drop ({ frames := 2, cells := 0, slots := 0, locals := 44 }) (va_Pc [.ref mo, .int v, .int q] (PRE (dC, dI) (tyR cI cII cJ cJJ cZ cO) (wR (nI 0) z0 mo eo er gr av ro co kl dd cI cII) sz)) (va_Qi (fun (r' : Int32) (_ : List Value) => r' = nI 0) (fun (u : List Value) tS => ATW (dC, dI) (tyR cI cII cJ cJJ cZ cO) (va_A (wR (nI 0) z0 mo eo er gr av ro co kl dd cI cII) sz) [(mo, .inr (kX5, .int (nI 1) :: u))] tS) (va_A (wR (nI 0) z0 mo eo er gr av ro co kl dd cI cII) sz)) 0 0 (va_A (wR (nI 0) z0 mo eo er gr av ro co kl dd cI cII) sz) := by
  refine Met.ofW (cc := cX5_drop) (maxL := 3) (ret := (some .int)) (by decide) rfl ?_
  intro p e s m args below meth c s₁ B hml hv
  obtain ⟨rfl, hsz, hP, hK, hD0⟩ := hv
  have hx := B.exec
  have hb := B.bytes
  have hr := B.returns
  have hlocks := B.notSynchronized
  have hts := atoms_spec (ws := wsX5_drop) B.pre
  have hown : s.vm.findClass RX5 = some m.cls := findClass_of_methodNamed B.named
  subst hsz
  have hD := hD0.self (sz := s.heap.size)
  generalize hAe : va_A (wR (nI 0) z0 mo eo er gr av ro co kl dd cI cII) s.heap.size = A at hD ⊢
  have hA : ∀ q : Nat, s.heap.size ≤ q → A q := fun q h => by rw [← hAe]; exact Or.inr h
  have hS : va_S A s.heap s.heap [] := va_S.rf
  have hl := lv_entry ([.ref mo, .int v, .int q]) (n := 3) (Nat.le_of_ble_eq_true rfl)
  rw [lg_entry_eq]
  generalize (lg_sl ([.ref mo, .int v, .int q]) ++ List.replicate (3 - (lg_sl ([.ref mo, .int v, .int q])).length) Slot.unset).toArray = ls at hl ⊢
  have hl : lv_has ls 3 [(0, .ref mo), (1, .int v), (2, .int q)] := hl
  refine lv_aload_n hx hb dX5_drop_0 rfl (lv_at hl 0 rfl) ?_
  refine lv_aload_n hx hb dX5_drop_1 rfl (lv_at hl 0 rfl) ?_
  refine lv_iload_n hx hb dX5_drop_2 rfl (lv_at hl 1 rfl) ?_
  refine kt_calliM (w' := wR (nI 0) z0 mo eo er gr av ro co kl dd cI cII) (rest := [.ref mo]) (As := [.int v]) ⟨hx, hb, hml, hown, hts⟩ (c_X5_isNoSpot l dC dI cI cII cJ cJJ cZ cO mo eo er gr av ro co kl dd v (nI 0) _ ) (cwV 1 hts gX5_drop_X5_isNoSpot rfl rfl rfl (by decide +kernel) ⟨Nat.le_of_ble_eq_true rfl, Nat.le_of_ble_eq_true rfl⟩) hK hP hD hS hA (List.range' 0 14) sw_R0 rfl 0 kX5 rfl rfl rfl rfl rfl hl.1 (Nat.le_of_ble_eq_true rfl) dX5_drop_3 ⟨Nat.le_of_ble_eq_true rfl, Nat.le_of_ble_eq_true rfl⟩ (fun H locs hP hD hS => ?_)
  have hP : va_P (dC, dI) vwCl (wR (nI 0) z0 mo eo er gr av ro co kl dd cI cII) H := hP
  have hD : va_D A (wR (nI 0) z0 mo eo er gr av ro co kl dd cI cII) := hD
  refine lv_iconst (v := nI 1) hx hb dX5_drop_6 (by decide) ?_
  refine kt_calliM (w' := wR (nI 1) z0 mo eo er gr av ro co kl dd cI cII) (rest := []) (As := [.int (nI 1), .int (nI 1)]) ⟨hx, hb, hml, hown, hts⟩ (c_X5_start_1 l dC dI cI cII cJ cJJ cZ cO mo eo er gr av ro co kl dd _ ) (cwV 2 hts gX5_drop_X5_start rfl rfl rfl (by decide +kernel) ⟨Nat.le_of_ble_eq_true rfl, Nat.le_of_ble_eq_true rfl⟩) hK hP hD hS hA (List.range' 0 14) sw_R0 rfl 0 kX5 rfl rfl rfl rfl rfl hl.1 (Nat.le_of_ble_eq_true rfl) dX5_drop_7 ⟨Nat.le_of_ble_eq_true rfl, Nat.le_of_ble_eq_true rfl⟩ (fun H locs hP hD hS => ?_)
  have hP : va_P (dC, dI) vwCl (wR (nI 1) z0 mo eo er gr av ro co kl dd cI cII) H := hP
  have hD : va_D A (wR (nI 1) z0 mo eo er gr av ro co kl dd cI cII) := hD
  refine lv_if_ne (tgt := 62) hx hb dX5_drop_10 (by decide) (fun c1 => ?_) (fun c1 => ?_)
  · skip
    refine lv_iconst (v := nI 0) hx hb dX5_drop_62 (by decide) ?_
    refine W.widen (k := 0) (n := 0) (by omega) (by omega) ?_
    have hP := kt_sub (wC := [(mo, .inr (kX5, .int (nI 1) :: [.int (nI 0), .ref eo, .ref gr, .ref av, .ref ro, .ref co, .ref kl, .int (nI 0), .int (nI 0), .int (nI 0)]))]) hP [0] rfl
    have hD := hD.sub (ws' := [(mo, .inr (kX5, .int (nI 1) :: [.int (nI 0), .ref eo, .ref gr, .ref av, .ref ro, .ref co, .ref kl, .int (nI 0), .int (nI 0), .int (nI 0)]))]) [0] rfl rfl
    exact kt_iretU (mo := mo) (th := (nI 1)) (vs := [.int (nI 0), .ref eo, .ref gr, .ref av, .ref ro, .ref co, .ref kl, .int (nI 0), .int (nI 0), .int (nI 0)]) hx hb hr hS hP hK hD (by decide) hlocks dX5_drop_63
  · first | exact absurd c1 (by decide) | exact (c1 (by decide)).elim

set_option maxHeartbeats 4000000 in
set_option maxRecDepth 100000 in
theorem t_topple (l : Launch) (dC : Nat → ClassId) (dI : Nat → Nat → Nat) (cI cII cJ cJJ cZ cO : ClassId) (mo : Nat) (eo : Nat) (er : Nat → Nat) (gr : Nat) (av : Nat) (ro : Nat) (co : Nat) (kl : Nat) (dd : Nat) (v : Int32) (sz : Nat)  : Met l yX5_topple wsX5_topple ({ frames := 2, cells := 0, slots := 0, locals := 44 }) (va_Pc [.ref mo, .int v] (PRE (dC, dI) (tyR cI cII cJ cJJ cZ cO) (wR (nI 0) z0 mo eo er gr av ro co kl dd cI cII) sz)) (va_Qi (fun (r' : Int32) (_ : List Value) => r' = nI 0) (fun (u : List Value) tS => ATW (dC, dI) (tyR cI cII cJ cJJ cZ cO) (va_A (wR (nI 0) z0 mo eo er gr av ro co kl dd cI cII) sz) [(mo, .inr (kX5, .int (nI 1) :: u))] tS) (va_A (wR (nI 0) z0 mo eo er gr av ro co kl dd cI cII) sz)) 0 0 (va_A (wR (nI 0) z0 mo eo er gr av ro co kl dd cI cII) sz) := by
  refine Met.ofW (cc := cX5_topple) (maxL := 2) (ret := (some .int)) (by decide) rfl ?_
  intro p e s m args below meth c s₁ B hml hv
  obtain ⟨rfl, hsz, hP, hK, hD0⟩ := hv
  have hx := B.exec
  have hb := B.bytes
  have hr := B.returns
  have hlocks := B.notSynchronized
  have hts := atoms_spec (ws := wsX5_topple) B.pre
  have hown : s.vm.findClass RX5 = some m.cls := findClass_of_methodNamed B.named
  subst hsz
  have hD := hD0.self (sz := s.heap.size)
  generalize hAe : va_A (wR (nI 0) z0 mo eo er gr av ro co kl dd cI cII) s.heap.size = A at hD ⊢
  have hA : ∀ q : Nat, s.heap.size ≤ q → A q := fun q h => by rw [← hAe]; exact Or.inr h
  have hS : va_S A s.heap s.heap [] := va_S.rf
  have hl := lv_entry ([.ref mo, .int v]) (n := 2) (Nat.le_of_ble_eq_true rfl)
  rw [lg_entry_eq]
  generalize (lg_sl ([.ref mo, .int v]) ++ List.replicate (2 - (lg_sl ([.ref mo, .int v])).length) Slot.unset).toArray = ls at hl ⊢
  have hl : lv_has ls 2 [(0, .ref mo), (1, .int v)] := hl
  refine lv_aload_n hx hb dX5_topple_0 rfl (lv_at hl 0 rfl) ?_
  refine lv_aload_n hx hb dX5_topple_1 rfl (lv_at hl 0 rfl) ?_
  refine lv_iload_n hx hb dX5_topple_2 rfl (lv_at hl 1 rfl) ?_
  refine kt_calliM (w' := wR (nI 0) z0 mo eo er gr av ro co kl dd cI cII) (rest := [.ref mo]) (As := [.int v]) ⟨hx, hb, hml, hown, hts⟩ (c_X5_isNoSpot l dC dI cI cII cJ cJJ cZ cO mo eo er gr av ro co kl dd v (nI 0) _ ) (cwV 1 hts gX5_topple_X5_isNoSpot rfl rfl rfl (by decide +kernel) ⟨Nat.le_of_ble_eq_true rfl, Nat.le_of_ble_eq_true rfl⟩) hK hP hD hS hA (List.range' 0 14) sw_R0 rfl 0 kX5 rfl rfl rfl rfl rfl hl.1 (Nat.le_of_ble_eq_true rfl) dX5_topple_3 ⟨Nat.le_of_ble_eq_true rfl, Nat.le_of_ble_eq_true rfl⟩ (fun H locs hP hD hS => ?_)
  have hP : va_P (dC, dI) vwCl (wR (nI 0) z0 mo eo er gr av ro co kl dd cI cII) H := hP
  have hD : va_D A (wR (nI 0) z0 mo eo er gr av ro co kl dd cI cII) := hD
  refine lv_iconst (v := nI 1) hx hb dX5_topple_6 (by decide) ?_
  refine kt_calliM (w' := wR (nI 1) z0 mo eo er gr av ro co kl dd cI cII) (rest := []) (As := [.int (nI 1), .int (nI 1)]) ⟨hx, hb, hml, hown, hts⟩ (c_X5_start_1 l dC dI cI cII cJ cJJ cZ cO mo eo er gr av ro co kl dd _ ) (cwV 2 hts gX5_topple_X5_start rfl rfl rfl (by decide +kernel) ⟨Nat.le_of_ble_eq_true rfl, Nat.le_of_ble_eq_true rfl⟩) hK hP hD hS hA (List.range' 0 14) sw_R0 rfl 0 kX5 rfl rfl rfl rfl rfl hl.1 (Nat.le_of_ble_eq_true rfl) dX5_topple_7 ⟨Nat.le_of_ble_eq_true rfl, Nat.le_of_ble_eq_true rfl⟩ (fun H locs hP hD hS => ?_)
  have hP : va_P (dC, dI) vwCl (wR (nI 1) z0 mo eo er gr av ro co kl dd cI cII) H := hP
  have hD : va_D A (wR (nI 1) z0 mo eo er gr av ro co kl dd cI cII) := hD
  refine lv_if_ne (tgt := 38) hx hb dX5_topple_10 (by decide) (fun c1 => ?_) (fun c1 => ?_)
  · skip
    refine lv_iconst (v := nI 0) hx hb dX5_topple_38 (by decide) ?_
    refine W.widen (k := 0) (n := 0) (by omega) (by omega) ?_
    have hP := kt_sub (wC := [(mo, .inr (kX5, .int (nI 1) :: [.int (nI 0), .ref eo, .ref gr, .ref av, .ref ro, .ref co, .ref kl, .int (nI 0), .int (nI 0), .int (nI 0)]))]) hP [0] rfl
    have hD := hD.sub (ws' := [(mo, .inr (kX5, .int (nI 1) :: [.int (nI 0), .ref eo, .ref gr, .ref av, .ref ro, .ref co, .ref kl, .int (nI 0), .int (nI 0), .int (nI 0)]))]) [0] rfl rfl
    exact kt_iretU (mo := mo) (th := (nI 1)) (vs := [.int (nI 0), .ref eo, .ref gr, .ref av, .ref ro, .ref co, .ref kl, .int (nI 0), .int (nI 0), .int (nI 0)]) hx hb hr hS hP hK hD (by decide) hlocks dX5_topple_39
  · first | exact absurd c1 (by decide) | exact (c1 (by decide)).elim

set_option maxHeartbeats 4000000 in
set_option maxRecDepth 100000 in
theorem t_settle (l : Launch) (dC : Nat → ClassId) (dI : Nat → Nat → Nat) (cI cII cJ cJJ cZ cO : ClassId) (mo : Nat) (eo : Nat) (er : Nat → Nat) (gr : Nat) (av : Nat) (ro : Nat) (co : Nat) (kl : Nat) (dd : Nat) (sz : Nat)  : Met l yX5_settle wsX5_settle ({ frames := 2, cells := 1, slots := 7, locals := 44 }) (va_Pc [.ref mo] (PRE (dC, dI) (tyR cI cII cJ cJJ cZ cO) (wR (nI 0) z0 mo eo er gr av ro co kl dd cI cII) sz)) (va_Qi (fun (r' : Int32) (_ : List Value) => r' = nI 0) (fun (u : List Value) tS => ATW (dC, dI) (tyR cI cII cJ cJJ cZ cO) (va_A (wR (nI 0) z0 mo eo er gr av ro co kl dd cI cII) sz) [(mo, .inr (kX5, .int (nI 1) :: u))] tS) (va_A (wR (nI 0) z0 mo eo er gr av ro co kl dd cI cII) sz)) 1 7 (va_A (wR (nI 0) z0 mo eo er gr av ro co kl dd cI cII) sz) := by
  refine Met.ofW (cc := cX5_settle) (maxL := 1) (ret := (some .int)) (by decide) rfl ?_
  intro p e s m args below meth c s₁ B hml hv
  obtain ⟨rfl, hsz, hP, hK, hD0⟩ := hv
  have hx := B.exec
  have hb := B.bytes
  have hr := B.returns
  have hlocks := B.notSynchronized
  have hts := atoms_spec (ws := wsX5_settle) B.pre
  have hown : s.vm.findClass RX5 = some m.cls := findClass_of_methodNamed B.named
  subst hsz
  have hD := hD0.self (sz := s.heap.size)
  generalize hAe : va_A (wR (nI 0) z0 mo eo er gr av ro co kl dd cI cII) s.heap.size = A at hD ⊢
  have hA : ∀ q : Nat, s.heap.size ≤ q → A q := fun q h => by rw [← hAe]; exact Or.inr h
  have hS : va_S A s.heap s.heap [] := va_S.rf
  have hl := lv_entry ([.ref mo]) (n := 1) (Nat.le_of_ble_eq_true rfl)
  rw [lg_entry_eq]
  generalize (lg_sl ([.ref mo]) ++ List.replicate (1 - (lg_sl ([.ref mo])).length) Slot.unset).toArray = ls at hl ⊢
  have hl : lv_has ls 1 [(0, .ref mo)] := hl
  refine lv_aload_n hx hb dX5_settle_0 rfl (lv_at hl 0 rfl) ?_
  refine lv_aload_n hx hb dX5_settle_1 rfl (lv_at hl 0 rfl) ?_
  refine kt_calliM (w' := wR (nI 0) z0 mo eo er gr av ro co kl dd cI cII) (rest := [.ref mo]) (As := []) ⟨hx, hb, hml, hown, hts⟩ (c_X5_isFast l dC dI cI cII cJ cJJ cZ cO mo eo er gr av ro co kl dd (nI 0) _ ) (cwV 0 hts gX5_settle_X5_isFast rfl rfl rfl (by decide +kernel) ⟨Nat.le_of_ble_eq_true rfl, Nat.le_of_ble_eq_true rfl⟩) hK hP hD hS hA (List.range' 0 14) sw_R0 rfl 0 kX5 rfl rfl rfl rfl rfl hl.1 (Nat.le_of_ble_eq_true rfl) dX5_settle_2 ⟨Nat.le_of_ble_eq_true rfl, Nat.le_of_ble_eq_true rfl⟩ (fun H locs hP hD hS => ?_)
  have hP : va_P (dC, dI) vwCl (wR (nI 0) z0 mo eo er gr av ro co kl dd cI cII) H := hP
  have hD : va_D A (wR (nI 0) z0 mo eo er gr av ro co kl dd cI cII) := hD
  refine W.widen (k := 1) (n := 7) (by omega) (by omega) ?_
  refine lv_if_ne (tgt := 12) hx hb dX5_settle_5 (by decide) (fun c1 => ?_) (fun c1 => ?_)
  · first | exact absurd c1 (by decide) | exact (c1 (by decide)).elim
  · skip
    refine lv_iconst (v := nI 1) hx hb dX5_settle_8 (by decide) ?_
    refine lv_goto (tgt := 13) hx hb dX5_settle_9 (by decide) ?_
    refine lv_iconst (v := nI 1) hx hb dX5_settle_13 (by decide) ?_
    refine kt_calliM (w' := wR (nI 1) z0 mo eo er gr av ro co kl dd cI cII) (rest := []) (As := [.int (nI 1), .int (nI 1)]) ⟨hx, hb, hml, hown, hts⟩ (c_X5_start_1 l dC dI cI cII cJ cJJ cZ cO mo eo er gr av ro co kl dd _ ) (cwV 2 hts gX5_settle_X5_start rfl rfl rfl (by decide +kernel) ⟨Nat.le_of_ble_eq_true rfl, Nat.le_of_ble_eq_true rfl⟩) hK hP hD hS hA (List.range' 0 14) sw_R0 rfl 0 kX5 rfl rfl rfl rfl rfl hl.1 (Nat.le_of_ble_eq_true rfl) dX5_settle_14 ⟨Nat.le_of_ble_eq_true rfl, Nat.le_of_ble_eq_true rfl⟩ (fun H locs hP hD hS => ?_)
    have hP : va_P (dC, dI) vwCl (wR (nI 1) z0 mo eo er gr av ro co kl dd cI cII) H := hP
    have hD : va_D A (wR (nI 1) z0 mo eo er gr av ro co kl dd cI cII) := hD
    refine lv_if_eq (tgt := 24) hx hb dX5_settle_17 (by decide) (fun c2 => ?_) (fun c2 => ?_)
    · first | exact absurd c2 (by decide) | exact (c2 (by decide)).elim
    · skip
      refine lv_iconst (v := nI 0) hx hb dX5_settle_20 (by decide) ?_
      refine lv_goto (tgt := 36) hx hb dX5_settle_21 (by decide) ?_
      refine W.widen (k := 1) (n := 7) (by omega) (by omega) ?_
      have hP := kt_sub (wC := [(mo, .inr (kX5, .int (nI 1) :: [.int (nI 0), .ref eo, .ref gr, .ref av, .ref ro, .ref co, .ref kl, .int (nI 0), .int (nI 0), .int (nI 0)]))]) hP [0] rfl
      have hD := hD.sub (ws' := [(mo, .inr (kX5, .int (nI 1) :: [.int (nI 0), .ref eo, .ref gr, .ref av, .ref ro, .ref co, .ref kl, .int (nI 0), .int (nI 0), .int (nI 0)]))]) [0] rfl rfl
      exact kt_iretU (mo := mo) (th := (nI 1)) (vs := [.int (nI 0), .ref eo, .ref gr, .ref av, .ref ro, .ref co, .ref kl, .int (nI 0), .int (nI 0), .int (nI 0)]) hx hb hr hS hP hK hD (by decide) hlocks dX5_settle_36

set_option maxHeartbeats 4000000 in
set_option maxRecDepth 100000 in
theorem t_add (l : Launch) (dC : Nat → ClassId) (dI : Nat → Nat → Nat) (cI cII cJ cJJ cZ cO : ClassId) (mo : Nat) (eo : Nat) (er : Nat → Nat) (gr : Nat) (av : Nat) (ro : Nat) (co : Nat) (kl : Nat) (dd : Nat) (v : Int32) (sz : Nat)  : Met l yX5_add wsX5_add ({ frames := 2, cells := 0, slots := 0, locals := 44 }) (va_Pc [.ref mo, .int v] (PRE (dC, dI) (tyR cI cII cJ cJJ cZ cO) (wR (nI 0) z0 mo eo er gr av ro co kl dd cI cII) sz)) (va_Qi (fun (r' : Int32) (_ : List Value) => r' = nI 0) (fun (u : List Value) tS => ATW (dC, dI) (tyR cI cII cJ cJJ cZ cO) (va_A (wR (nI 0) z0 mo eo er gr av ro co kl dd cI cII) sz) [(mo, .inr (kX5, .int (nI 1) :: u))] tS) (va_A (wR (nI 0) z0 mo eo er gr av ro co kl dd cI cII) sz)) 0 0 (va_A (wR (nI 0) z0 mo eo er gr av ro co kl dd cI cII) sz) := by
  refine Met.ofW (cc := cX5_add) (maxL := 8) (ret := (some .int)) (by decide) rfl ?_
  intro p e s m args below meth c s₁ B hml hv
  obtain ⟨rfl, hsz, hP, hK, hD0⟩ := hv
  have hx := B.exec
  have hb := B.bytes
  have hr := B.returns
  have hlocks := B.notSynchronized
  have hts := atoms_spec (ws := wsX5_add) B.pre
  have hown : s.vm.findClass RX5 = some m.cls := findClass_of_methodNamed B.named
  subst hsz
  have hD := hD0.self (sz := s.heap.size)
  generalize hAe : va_A (wR (nI 0) z0 mo eo er gr av ro co kl dd cI cII) s.heap.size = A at hD ⊢
  have hA : ∀ q : Nat, s.heap.size ≤ q → A q := fun q h => by rw [← hAe]; exact Or.inr h
  have hS : va_S A s.heap s.heap [] := va_S.rf
  have hl := lv_entry ([.ref mo, .int v]) (n := 8) (Nat.le_of_ble_eq_true rfl)
  rw [lg_entry_eq]
  generalize (lg_sl ([.ref mo, .int v]) ++ List.replicate (8 - (lg_sl ([.ref mo, .int v])).length) Slot.unset).toArray = ls at hl ⊢
  have hl : lv_has ls 8 [(0, .ref mo), (1, .int v)] := hl
  have hi_X5 : ∀ w ∈ u_ws RX5 TX5 11, w ∈ wsX5_add := by decide +kernel
  have hf_30 := hts (.fieldLink RX5 30 "TopplemoorModel" "kept" "Ljava/util/ArrayList;") (by decide +kernel)
  refine lv_aload_n hx hb dX5_add_0 rfl (lv_at hl 0 rfl) ?_
  refine lv_iload_n hx hb dX5_add_1 rfl (lv_at hl 1 rfl) ?_
  refine lv_iconst (v := nI 0) hx hb dX5_add_2 (by decide) ?_
  refine lv_aload_n hx hb dX5_add_3 rfl (lv_at hl 0 rfl) ?_
  refine va_get (D := (dC, dI)) (ci := kX5) (v := .ref kl) (C := RX5) (T := TX5) (N := 11) hx hb hts hi_X5 hown hK hP 0 rfl rfl 7 (by decide) hf_30 (fun _ h9 => h9) rfl dX5_add_4 ?_
  refine kt_calliM (w' := wR (nI 0) z0 mo eo er gr av ro co kl dd cI cII) (rest := [.int (nI 0), .int v, .ref mo]) (As := []) ⟨hx, hb, hml, hown, hts⟩ (c_AL_size l dC dI cI cII cJ cJJ cZ cO kl dd 0 0 _ ) (cwV 0 hts gX5_add_Jx4a65c_size_8abf5 rfl rfl rfl (by decide +kernel) ⟨Nat.le_of_ble_eq_true rfl, Nat.le_of_ble_eq_true rfl⟩) hK hP hD hS hA [13] ⟨rfl, ⟨[none, none, none, none, none, none, none, none, none, none, none, none, none, some 0], rfl, by decide +kernel⟩, rfl⟩ rfl 13 kAL rfl rfl rfl rfl rfl hl.1 (Nat.le_of_ble_eq_true rfl) dX5_add_7 ⟨Nat.le_of_ble_eq_true rfl, Nat.le_of_ble_eq_true rfl⟩ (fun H locs hP hD hS => ?_)
  have hP : va_P (dC, dI) vwCl (wR (nI 0) z0 mo eo er gr av ro co kl dd cI cII) H := hP
  have hD : va_D A (wR (nI 0) z0 mo eo er gr av ro co kl dd cI cII) := hD
  refine lv_iconst (v := nI 1) hx hb dX5_add_10 (by decide) ?_
  refine lv_isub hx hb dX5_add_11 ?_
  refine lv_topi (fun z1 ez1 => ?_)
  have ez1 : z1 = (-1) := ez1.trans (by decide)
  subst ez1
  refine kt_callSiM (w' := wR (nI 0) z0 mo eo er gr av ro co kl dd cI cII) (rest := [.ref mo]) (As := [.int v, .int (nI 0), .int (-1)]) ⟨hx, hb, hml, hown, hts⟩ (c_X5_isIn_n l dC dI cI cII cJ cJJ cZ cO v (nI 0) (-1) _ (no_spot v)) (va_cwS 3 hts gX5_add_X5_isIn rfl rfl rfl (by decide +kernel) ⟨Nat.le_of_ble_eq_true rfl, Nat.le_of_ble_eq_true rfl⟩) hK hP hD hS hA [] (kt_sw_nil _) rfl rfl rfl hl.1 (Nat.le_of_ble_eq_true rfl) dX5_add_12 ⟨Nat.le_of_ble_eq_true rfl, Nat.le_of_ble_eq_true rfl⟩ (fun H locs hP hD hS => ?_)
  have hP : va_P (dC, dI) vwCl (wR (nI 0) z0 mo eo er gr av ro co kl dd cI cII) H := hP
  have hD : va_D A (wR (nI 0) z0 mo eo er gr av ro co kl dd cI cII) := hD
  refine lv_if_ne (tgt := 22) hx hb dX5_add_15 (by decide) (fun c2 => ?_) (fun c2 => ?_)
  · first | exact absurd c2 (by decide) | exact (c2 (by decide)).elim
  · skip
    refine lv_iconst (v := nI 1) hx hb dX5_add_18 (by decide) ?_
    refine lv_goto (tgt := 23) hx hb dX5_add_19 (by decide) ?_
    refine lv_iconst (v := nI 1) hx hb dX5_add_23 (by decide) ?_
    refine kt_calliM (w' := wR (nI 1) z0 mo eo er gr av ro co kl dd cI cII) (rest := []) (As := [.int (nI 1), .int (nI 1)]) ⟨hx, hb, hml, hown, hts⟩ (c_X5_start_1 l dC dI cI cII cJ cJJ cZ cO mo eo er gr av ro co kl dd _ ) (cwV 2 hts gX5_add_X5_start rfl rfl rfl (by decide +kernel) ⟨Nat.le_of_ble_eq_true rfl, Nat.le_of_ble_eq_true rfl⟩) hK hP hD hS hA (List.range' 0 14) sw_R0 rfl 0 kX5 rfl rfl rfl rfl rfl hl.1 (Nat.le_of_ble_eq_true rfl) dX5_add_24 ⟨Nat.le_of_ble_eq_true rfl, Nat.le_of_ble_eq_true rfl⟩ (fun H locs hP hD hS => ?_)
    have hP : va_P (dC, dI) vwCl (wR (nI 1) z0 mo eo er gr av ro co kl dd cI cII) H := hP
    have hD : va_D A (wR (nI 1) z0 mo eo er gr av ro co kl dd cI cII) := hD
    refine lv_if_eq (tgt := 32) hx hb dX5_add_27 (by decide) (fun c3 => ?_) (fun c3 => ?_)
    · first | exact absurd c3 (by decide) | exact (c3 (by decide)).elim
    · skip
      refine lv_iconst (v := nI 0) hx hb dX5_add_30 (by decide) ?_
      refine W.widen (k := 0) (n := 0) (by omega) (by omega) ?_
      have hP := kt_sub (wC := [(mo, .inr (kX5, .int (nI 1) :: [.int (nI 0), .ref eo, .ref gr, .ref av, .ref ro, .ref co, .ref kl, .int (nI 0), .int (nI 0), .int (nI 0)]))]) hP [0] rfl
      have hD := hD.sub (ws' := [(mo, .inr (kX5, .int (nI 1) :: [.int (nI 0), .ref eo, .ref gr, .ref av, .ref ro, .ref co, .ref kl, .int (nI 0), .int (nI 0), .int (nI 0)]))]) [0] rfl rfl
      exact kt_iretU (mo := mo) (th := (nI 1)) (vs := [.int (nI 0), .ref eo, .ref gr, .ref av, .ref ro, .ref co, .ref kl, .int (nI 0), .int (nI 0), .int (nI 0)]) hx hb hr hS hP hK hD (by decide) hlocks dX5_add_31

set_option maxHeartbeats 4000000 in
set_option maxRecDepth 100000 in
theorem t_sweep (l : Launch) (dC : Nat → ClassId) (dI : Nat → Nat → Nat) (cI cII cJ cJJ cZ cO : ClassId) (mo : Nat) (eo : Nat) (er : Nat → Nat) (gr : Nat) (av : Nat) (ro : Nat) (co : Nat) (kl : Nat) (dd : Nat) (sz : Nat)  : Met l yX5_sweep wsX5_sweep ({ frames := 1, cells := 1, slots := 6, locals := 25 }) (va_Pc [.ref mo] (PRE (dC, dI) (tyR cI cII cJ cJJ cZ cO) (wR (nI 0) z0 mo eo er gr av ro co kl dd cI cII) sz)) (va_Qi (fun (r' : Int32) (_ : List Value) => r' = nI 0) (fun (u : List Value) tS => ATW (dC, dI) (tyR cI cII cJ cJJ cZ cO) (va_A (wR (nI 0) z0 mo eo er gr av ro co kl dd cI cII) sz) [(mo, .inr (kX5, .int (nI 0) :: u))] tS) (va_A (wR (nI 0) z0 mo eo er gr av ro co kl dd cI cII) sz)) 1 6 (va_A (wR (nI 0) z0 mo eo er gr av ro co kl dd cI cII) sz) := by
  refine Met.ofW (cc := cX5_sweep) (maxL := 2) (ret := (some .int)) (by decide) rfl ?_
  intro p e s m args below meth c s₁ B hml hv
  obtain ⟨rfl, hsz, hP, hK, hD0⟩ := hv
  have hx := B.exec
  have hb := B.bytes
  have hr := B.returns
  have hlocks := B.notSynchronized
  have hts := atoms_spec (ws := wsX5_sweep) B.pre
  have hown : s.vm.findClass RX5 = some m.cls := findClass_of_methodNamed B.named
  subst hsz
  have hD := hD0.self (sz := s.heap.size)
  generalize hAe : va_A (wR (nI 0) z0 mo eo er gr av ro co kl dd cI cII) s.heap.size = A at hD ⊢
  have hA : ∀ q : Nat, s.heap.size ≤ q → A q := fun q h => by rw [← hAe]; exact Or.inr h
  have hS : va_S A s.heap s.heap [] := va_S.rf
  have hl := lv_entry ([.ref mo]) (n := 2) (Nat.le_of_ble_eq_true rfl)
  rw [lg_entry_eq]
  generalize (lg_sl ([.ref mo]) ++ List.replicate (2 - (lg_sl ([.ref mo])).length) Slot.unset).toArray = ls at hl ⊢
  have hl : lv_has ls 2 [(0, .ref mo)] := hl
  have hi_X5 : ∀ w ∈ u_ws RX5 TX5 11, w ∈ wsX5_sweep := by decide +kernel
  have hf_34 := hts (.fieldLink RX5 34 "TopplemoorModel" "thrown" "I") (by decide +kernel)
  have hf_14 := hts (.fieldLink RX5 14 "TopplemoorModel" "grains" "[I") (by decide +kernel)
  refine lv_aload_n hx hb dX5_sweep_0 rfl (lv_at hl 0 rfl) ?_
  refine lv_iconst (v := nI 0) hx hb dX5_sweep_1 (by decide) ?_
  refine va_put (D := (dC, dI)) (ci := kX5) (v := .int (nI 0)) (ty := .int) (C := RX5) (T := TX5) (N := 11) hx hb hts hi_X5 tyX5 tyX5_ok nmX5 hown hK hP hD hS 0 rfl rfl 0 (by decide) hf_34 (fun _ h9 => h9) rfl (by decide +kernel) rfl rfl (Nat.le_of_ble_eq_true rfl) dX5_sweep_2 (fun H locs hP hD hS => ?_)
  have hP : va_P (dC, dI) vwCl (wR (nI 0) z0 mo eo er gr av ro co kl dd cI cII) H := hP
  have hD : va_D A (wR (nI 0) z0 mo eo er gr av ro co kl dd cI cII) := hD
  refine lv_aload_n hx hb dX5_sweep_5 rfl (lv_at hl 0 rfl) ?_
  refine va_get (D := (dC, dI)) (ci := kX5) (v := .ref gr) (C := RX5) (T := TX5) (N := 11) hx hb hts hi_X5 hown hK hP 0 rfl rfl 3 (by decide) hf_14 (fun _ h9 => h9) rfl dX5_sweep_6 ?_
  refine kt_callSiM (w' := wR (nI 0) z0 mo eo er gr av ro co kl dd cI cII) (rest := []) (As := [.ref gr]) ⟨hx, hb, hml, hown, hts⟩ (c_X5_sum_6 l dC dI cI cII cJ cJJ cZ cO gr _ ) (va_cwS 1 hts gX5_sweep_X5_sum rfl rfl rfl (by decide +kernel) ⟨Nat.le_of_ble_eq_true rfl, Nat.le_of_ble_eq_true rfl⟩) hK hP hD hS hA [9] ⟨rfl, ⟨[none, none, none, none, none, none, none, none, none, some 0, none, none, none, none], rfl, by decide +kernel⟩, rfl⟩ rfl rfl rfl hl.1 (Nat.le_of_ble_eq_true rfl) dX5_sweep_9 ⟨Nat.le_of_ble_eq_true rfl, Nat.le_of_ble_eq_true rfl⟩ (fun H locs hP hD hS => ?_)
  have hP : va_P (dC, dI) vwCl (wR (nI 0) z0 mo eo er gr av ro co kl dd cI cII) H := hP
  have hD : va_D A (wR (nI 0) z0 mo eo er gr av ro co kl dd cI cII) := hD
  refine lv_istore_n (lv' := [(1, .int (nI 0)), (0, .ref mo)]) hx hb dX5_sweep_12 rfl hl (by decide) rfl (fun ls hl => ?_)
  refine lv_aload_n hx hb dX5_sweep_13 rfl (lv_at hl 1 rfl) ?_
  refine lv_bipush (v := nI 6) hx hb dX5_sweep_14 (by decide) ?_
  refine kt_newi hx hb (hts (.arrayClass .int) (by decide +kernel)) hK hP hD hS hA 0 rfl (N := 6) (by omega) (Nat.le_of_ble_eq_true rfl) (Nat.le_of_ble_eq_true rfl) dX5_sweep_16 (fun q1 H hP hD hS => ?_)
  have hP : va_P (dC, dI) vwCl (wR (nI 0) z0 mo eo er gr av ro co kl dd cI cII ++ [(q1, .inl (cI, 6, .inl z0))]) H := hP
  have hD : va_D A (wR (nI 0) z0 mo eo er gr av ro co kl dd cI cII ++ [(q1, .inl (cI, 6, .inl z0))]) := hD
  refine W.widen (k := 1) (n := 6) (by omega) (by omega) ?_
  refine va_put (D := (dC, dI)) (ci := kX5) (v := .ref q1) (ty := (.array .int)) (C := RX5) (T := TX5) (N := 11) hx hb hts hi_X5 tyX5 tyX5_ok nmX5 hown hK hP hD hS 0 rfl rfl 3 (by decide) hf_14 (fun _ h9 => h9) rfl (by decide +kernel) rfl rfl (Nat.le_of_ble_eq_true rfl) dX5_sweep_18 (fun H locs hP hD hS => ?_)
  have hP : va_P (dC, dI) vwCl ([(mo, .inr (kX5, [.int (nI 0), .int (nI 0), .ref eo, .ref q1, .ref av, .ref ro, .ref co, .ref kl, .int (nI 0), .int (nI 0), .int (nI 0)])), (eo, .inl (cII, 7, .inr (.inr (.inr (.inr (rowF 7 er)))))), (er 0, .inl (cI, 7, .inl z0)), (er 1, .inl (cI, 7, .inl z0)), (er 2, .inl (cI, 7, .inl z0)), (er 3, .inl (cI, 7, .inl z0)), (er 4, .inl (cI, 7, .inl z0)), (er 5, .inl (cI, 7, .inl z0)), (er 6, .inl (cI, 7, .inl z0)), (gr, .inl (cI, 6, .inl z0)), (av, .inl (cI, 6, .inl z0)), (ro, .inl (cI, 6, .inl z0)), (co, .inl (cI, 7, .inl z0)), (kl, .inr (kAL, [.int (nI 0), .ref dd, .int (nI 0)])), (q1, .inl (cI, 6, .inl z0))]) H := hP
  have hD : va_D A ([(mo, .inr (kX5, [.int (nI 0), .int (nI 0), .ref eo, .ref q1, .ref av, .ref ro, .ref co, .ref kl, .int (nI 0), .int (nI 0), .int (nI 0)])), (eo, .inl (cII, 7, .inr (.inr (.inr (.inr (rowF 7 er)))))), (er 0, .inl (cI, 7, .inl z0)), (er 1, .inl (cI, 7, .inl z0)), (er 2, .inl (cI, 7, .inl z0)), (er 3, .inl (cI, 7, .inl z0)), (er 4, .inl (cI, 7, .inl z0)), (er 5, .inl (cI, 7, .inl z0)), (er 6, .inl (cI, 7, .inl z0)), (gr, .inl (cI, 6, .inl z0)), (av, .inl (cI, 6, .inl z0)), (ro, .inl (cI, 6, .inl z0)), (co, .inl (cI, 7, .inl z0)), (kl, .inr (kAL, [.int (nI 0), .ref dd, .int (nI 0)])), (q1, .inl (cI, 6, .inl z0))]) := hD
  refine lv_iload_n hx hb dX5_sweep_21 rfl (lv_at hl 0 rfl) ?_
  refine W.widen (k := 1) (n := 6) (by omega) (by omega) ?_
  have hP := kt_sub (wC := [(mo, .inr (kX5, .int (nI 0) :: [.int (nI 0), .ref eo, .ref q1, .ref av, .ref ro, .ref co, .ref kl, .int (nI 0), .int (nI 0), .int (nI 0)]))]) hP [0] rfl
  have hD := hD.sub (ws' := [(mo, .inr (kX5, .int (nI 0) :: [.int (nI 0), .ref eo, .ref q1, .ref av, .ref ro, .ref co, .ref kl, .int (nI 0), .int (nI 0), .int (nI 0)]))]) [0] rfl rfl
  exact kt_iretU (mo := mo) (th := (nI 0)) (vs := [.int (nI 0), .ref eo, .ref q1, .ref av, .ref ro, .ref co, .ref kl, .int (nI 0), .int (nI 0), .int (nI 0)]) hx hb hr hS hP hK hD (by decide) hlocks dX5_sweep_22

set_option maxHeartbeats 4000000 in
set_option maxRecDepth 100000 in
theorem t_walk (l : Launch) (dC : Nat → ClassId) (dI : Nat → Nat → Nat) (cI cII cJ cJJ cZ cO : ClassId) (mo : Nat) (eo : Nat) (er : Nat → Nat) (gr : Nat) (av : Nat) (ro : Nat) (co : Nat) (kl : Nat) (dd : Nat) (v : Int32) (sz : Nat)  : Met l yX5_walk wsX5_walk ({ frames := 2, cells := 0, slots := 0, locals := 44 }) (va_Pc [.ref mo, .int v] (PRE (dC, dI) (tyR cI cII cJ cJJ cZ cO) (wR (nI 0) z0 mo eo er gr av ro co kl dd cI cII) sz)) (va_Qi (fun (r' : Int32) (_ : List Value) => r' = nI 0) (fun (u : List Value) tS => ATW (dC, dI) (tyR cI cII cJ cJJ cZ cO) (va_A (wR (nI 0) z0 mo eo er gr av ro co kl dd cI cII) sz) [(mo, .inr (kX5, .int (nI 1) :: u))] tS) (va_A (wR (nI 0) z0 mo eo er gr av ro co kl dd cI cII) sz)) 0 0 (va_A (wR (nI 0) z0 mo eo er gr av ro co kl dd cI cII) sz) := by
  refine Met.ofW (cc := cX5_walk) (maxL := 4) (ret := (some .int)) (by decide) rfl ?_
  intro p e s m args below meth c s₁ B hml hv
  obtain ⟨rfl, hsz, hP, hK, hD0⟩ := hv
  have hx := B.exec
  have hb := B.bytes
  have hr := B.returns
  have hlocks := B.notSynchronized
  have hts := atoms_spec (ws := wsX5_walk) B.pre
  have hown : s.vm.findClass RX5 = some m.cls := findClass_of_methodNamed B.named
  subst hsz
  have hD := hD0.self (sz := s.heap.size)
  generalize hAe : va_A (wR (nI 0) z0 mo eo er gr av ro co kl dd cI cII) s.heap.size = A at hD ⊢
  have hA : ∀ q : Nat, s.heap.size ≤ q → A q := fun q h => by rw [← hAe]; exact Or.inr h
  have hS : va_S A s.heap s.heap [] := va_S.rf
  have hl := lv_entry ([.ref mo, .int v]) (n := 4) (Nat.le_of_ble_eq_true rfl)
  rw [lg_entry_eq]
  generalize (lg_sl ([.ref mo, .int v]) ++ List.replicate (4 - (lg_sl ([.ref mo, .int v])).length) Slot.unset).toArray = ls at hl ⊢
  have hl : lv_has ls 4 [(0, .ref mo), (1, .int v)] := hl
  refine lv_aload_n hx hb dX5_walk_0 rfl (lv_at hl 0 rfl) ?_
  refine lv_aload_n hx hb dX5_walk_1 rfl (lv_at hl 0 rfl) ?_
  refine lv_iload_n hx hb dX5_walk_2 rfl (lv_at hl 1 rfl) ?_
  refine kt_calliM (w' := wR (nI 0) z0 mo eo er gr av ro co kl dd cI cII) (rest := [.ref mo]) (As := [.int v]) ⟨hx, hb, hml, hown, hts⟩ (c_X5_isNoSpot l dC dI cI cII cJ cJJ cZ cO mo eo er gr av ro co kl dd v (nI 0) _ ) (cwV 1 hts gX5_walk_X5_isNoSpot rfl rfl rfl (by decide +kernel) ⟨Nat.le_of_ble_eq_true rfl, Nat.le_of_ble_eq_true rfl⟩) hK hP hD hS hA (List.range' 0 14) sw_R0 rfl 0 kX5 rfl rfl rfl rfl rfl hl.1 (Nat.le_of_ble_eq_true rfl) dX5_walk_3 ⟨Nat.le_of_ble_eq_true rfl, Nat.le_of_ble_eq_true rfl⟩ (fun H locs hP hD hS => ?_)
  have hP : va_P (dC, dI) vwCl (wR (nI 0) z0 mo eo er gr av ro co kl dd cI cII) H := hP
  have hD : va_D A (wR (nI 0) z0 mo eo er gr av ro co kl dd cI cII) := hD
  refine lv_iconst (v := nI 1) hx hb dX5_walk_6 (by decide) ?_
  refine kt_calliM (w' := wR (nI 1) z0 mo eo er gr av ro co kl dd cI cII) (rest := []) (As := [.int (nI 1), .int (nI 1)]) ⟨hx, hb, hml, hown, hts⟩ (c_X5_start_1 l dC dI cI cII cJ cJJ cZ cO mo eo er gr av ro co kl dd _ ) (cwV 2 hts gX5_walk_X5_start rfl rfl rfl (by decide +kernel) ⟨Nat.le_of_ble_eq_true rfl, Nat.le_of_ble_eq_true rfl⟩) hK hP hD hS hA (List.range' 0 14) sw_R0 rfl 0 kX5 rfl rfl rfl rfl rfl hl.1 (Nat.le_of_ble_eq_true rfl) dX5_walk_7 ⟨Nat.le_of_ble_eq_true rfl, Nat.le_of_ble_eq_true rfl⟩ (fun H locs hP hD hS => ?_)
  have hP : va_P (dC, dI) vwCl (wR (nI 1) z0 mo eo er gr av ro co kl dd cI cII) H := hP
  have hD : va_D A (wR (nI 1) z0 mo eo er gr av ro co kl dd cI cII) := hD
  refine lv_if_ne (tgt := 33) hx hb dX5_walk_10 (by decide) (fun c1 => ?_) (fun c1 => ?_)
  · skip
    refine lv_iconst (v := nI 0) hx hb dX5_walk_33 (by decide) ?_
    refine W.widen (k := 0) (n := 0) (by omega) (by omega) ?_
    have hP := kt_sub (wC := [(mo, .inr (kX5, .int (nI 1) :: [.int (nI 0), .ref eo, .ref gr, .ref av, .ref ro, .ref co, .ref kl, .int (nI 0), .int (nI 0), .int (nI 0)]))]) hP [0] rfl
    have hD := hD.sub (ws' := [(mo, .inr (kX5, .int (nI 1) :: [.int (nI 0), .ref eo, .ref gr, .ref av, .ref ro, .ref co, .ref kl, .int (nI 0), .int (nI 0), .int (nI 0)]))]) [0] rfl rfl
    exact kt_iretU (mo := mo) (th := (nI 1)) (vs := [.int (nI 0), .ref eo, .ref gr, .ref av, .ref ro, .ref co, .ref kl, .int (nI 0), .int (nI 0), .int (nI 0)]) hx hb hr hS hP hK hD (by decide) hlocks dX5_walk_34
  · first | exact absurd c1 (by decide) | exact (c1 (by decide)).elim

set_option maxHeartbeats 4000000 in
set_option maxRecDepth 100000 in
theorem t_pay_node (l : Launch) (dC : Nat → ClassId) (dI : Nat → Nat → Nat) (cI cII cJ cJJ cZ cO : ClassId) (mo : Nat) (eo : Nat) (er : Nat → Nat) (gr : Nat) (av : Nat) (ro : Nat) (co : Nat) (kl : Nat) (dd : Nat) (v : Int32) (q : Int32) (sz : Nat) (h : ¬ v = nI 6) : Met l yX5_pay wsX5_pay ({ frames := 3, cells := 0, slots := 0, locals := 64 }) (va_Pc [.ref mo, .int v, .int q] (PRE (dC, dI) (tyR cI cII cJ cJJ cZ cO) (wR (nI 0) z0 mo eo er gr av ro co kl dd cI cII) sz)) (va_Qi (fun (r' : Int32) (_ : List Value) => r' = nI 0) (fun (u : List Value) tS => ATW (dC, dI) (tyR cI cII cJ cJJ cZ cO) (va_A (wR (nI 0) z0 mo eo er gr av ro co kl dd cI cII) sz) [(mo, .inr (kX5, .int (nI 1) :: u))] tS) (va_A (wR (nI 0) z0 mo eo er gr av ro co kl dd cI cII) sz)) 0 0 (va_A (wR (nI 0) z0 mo eo er gr av ro co kl dd cI cII) sz) := by
  refine Met.ofW (cc := cX5_pay) (maxL := 3) (ret := (some .int)) (by decide) rfl ?_
  intro p e s m args below meth c s₁ B hml hv
  obtain ⟨rfl, hsz, hP, hK, hD0⟩ := hv
  have hx := B.exec
  have hb := B.bytes
  have hr := B.returns
  have hlocks := B.notSynchronized
  have hts := atoms_spec (ws := wsX5_pay) B.pre
  have hown : s.vm.findClass RX5 = some m.cls := findClass_of_methodNamed B.named
  subst hsz
  have hD := hD0.self (sz := s.heap.size)
  generalize hAe : va_A (wR (nI 0) z0 mo eo er gr av ro co kl dd cI cII) s.heap.size = A at hD ⊢
  have hA : ∀ q : Nat, s.heap.size ≤ q → A q := fun q h => by rw [← hAe]; exact Or.inr h
  have hS : va_S A s.heap s.heap [] := va_S.rf
  have hl := lv_entry ([.ref mo, .int v, .int q]) (n := 3) (Nat.le_of_ble_eq_true rfl)
  rw [lg_entry_eq]
  generalize (lg_sl ([.ref mo, .int v, .int q]) ++ List.replicate (3 - (lg_sl ([.ref mo, .int v, .int q])).length) Slot.unset).toArray = ls at hl ⊢
  have hl : lv_has ls 3 [(0, .ref mo), (1, .int v), (2, .int q)] := hl
  refine lv_aload_n hx hb dX5_pay_0 rfl (lv_at hl 0 rfl) ?_
  refine lv_aload_n hx hb dX5_pay_1 rfl (lv_at hl 0 rfl) ?_
  refine lv_iload_n hx hb dX5_pay_2 rfl (lv_at hl 1 rfl) ?_
  refine kt_calliM (w' := wR (nI 0) z0 mo eo er gr av ro co kl dd cI cII) (rest := [.ref mo]) (As := [.int v]) ⟨hx, hb, hml, hown, hts⟩ (c_X5_isNoNode_y l dC dI cI cII cJ cJJ cZ cO mo eo er gr av ro co kl dd v (nI 0) _ (h)) (cwV 1 hts gX5_pay_X5_isNoNode rfl rfl rfl (by decide +kernel) ⟨Nat.le_of_ble_eq_true rfl, Nat.le_of_ble_eq_true rfl⟩) hK hP hD hS hA (List.range' 0 14) sw_R0 rfl 0 kX5 rfl rfl rfl rfl rfl hl.1 (Nat.le_of_ble_eq_true rfl) dX5_pay_3 ⟨Nat.le_of_ble_eq_true rfl, Nat.le_of_ble_eq_true rfl⟩ (fun H locs hP hD hS => ?_)
  have hP : va_P (dC, dI) vwCl (wR (nI 0) z0 mo eo er gr av ro co kl dd cI cII) H := hP
  have hD : va_D A (wR (nI 0) z0 mo eo er gr av ro co kl dd cI cII) := hD
  refine lv_iconst (v := nI 1) hx hb dX5_pay_6 (by decide) ?_
  refine kt_calliM (w' := wR (nI 1) z0 mo eo er gr av ro co kl dd cI cII) (rest := []) (As := [.int (nI 1), .int (nI 1)]) ⟨hx, hb, hml, hown, hts⟩ (c_X5_start_1 l dC dI cI cII cJ cJJ cZ cO mo eo er gr av ro co kl dd _ ) (cwV 2 hts gX5_pay_X5_start rfl rfl rfl (by decide +kernel) ⟨Nat.le_of_ble_eq_true rfl, Nat.le_of_ble_eq_true rfl⟩) hK hP hD hS hA (List.range' 0 14) sw_R0 rfl 0 kX5 rfl rfl rfl rfl rfl hl.1 (Nat.le_of_ble_eq_true rfl) dX5_pay_7 ⟨Nat.le_of_ble_eq_true rfl, Nat.le_of_ble_eq_true rfl⟩ (fun H locs hP hD hS => ?_)
  have hP : va_P (dC, dI) vwCl (wR (nI 1) z0 mo eo er gr av ro co kl dd cI cII) H := hP
  have hD : va_D A (wR (nI 1) z0 mo eo er gr av ro co kl dd cI cII) := hD
  refine lv_if_ne (tgt := 37) hx hb dX5_pay_10 (by decide) (fun c1 => ?_) (fun c1 => ?_)
  · skip
    refine lv_iconst (v := nI 0) hx hb dX5_pay_37 (by decide) ?_
    refine W.widen (k := 0) (n := 0) (by omega) (by omega) ?_
    have hP := kt_sub (wC := [(mo, .inr (kX5, .int (nI 1) :: [.int (nI 0), .ref eo, .ref gr, .ref av, .ref ro, .ref co, .ref kl, .int (nI 0), .int (nI 0), .int (nI 0)]))]) hP [0] rfl
    have hD := hD.sub (ws' := [(mo, .inr (kX5, .int (nI 1) :: [.int (nI 0), .ref eo, .ref gr, .ref av, .ref ro, .ref co, .ref kl, .int (nI 0), .int (nI 0), .int (nI 0)]))]) [0] rfl rfl
    exact kt_iretU (mo := mo) (th := (nI 1)) (vs := [.int (nI 0), .ref eo, .ref gr, .ref av, .ref ro, .ref co, .ref kl, .int (nI 0), .int (nI 0), .int (nI 0)]) hx hb hr hS hP hK hD (by decide) hlocks dX5_pay_38
  · first | exact absurd c1 (by decide) | exact (c1 (by decide)).elim

set_option maxHeartbeats 4000000 in
set_option maxRecDepth 100000 in
theorem t_pay_within (l : Launch) (dC : Nat → ClassId) (dI : Nat → Nat → Nat) (cI cII cJ cJJ cZ cO : ClassId) (mo : Nat) (eo : Nat) (er : Nat → Nat) (gr : Nat) (av : Nat) (ro : Nat) (co : Nat) (kl : Nat) (dd : Nat) (q : Int32) (sz : Nat) (h : q < (-9) ∨ nI 9 < q) : Met l yX5_pay wsX5_pay ({ frames := 2, cells := 0, slots := 0, locals := 44 }) (va_Pc [.ref mo, .int (nI 6), .int q] (PRE (dC, dI) (tyR cI cII cJ cJJ cZ cO) (wR (nI 0) z0 mo eo er gr av ro co kl dd cI cII) sz)) (va_Qi (fun (r' : Int32) (_ : List Value) => r' = nI 0) (fun (u : List Value) tS => ATW (dC, dI) (tyR cI cII cJ cJJ cZ cO) (va_A (wR (nI 0) z0 mo eo er gr av ro co kl dd cI cII) sz) [(mo, .inr (kX5, .int (nI 2) :: u))] tS) (va_A (wR (nI 0) z0 mo eo er gr av ro co kl dd cI cII) sz)) 0 0 (va_A (wR (nI 0) z0 mo eo er gr av ro co kl dd cI cII) sz) := by
  refine Met.ofW (cc := cX5_pay) (maxL := 3) (ret := (some .int)) (by decide) rfl ?_
  intro p e s m args below meth c s₁ B hml hv
  obtain ⟨rfl, hsz, hP, hK, hD0⟩ := hv
  have hx := B.exec
  have hb := B.bytes
  have hr := B.returns
  have hlocks := B.notSynchronized
  have hts := atoms_spec (ws := wsX5_pay) B.pre
  have hown : s.vm.findClass RX5 = some m.cls := findClass_of_methodNamed B.named
  subst hsz
  have hD := hD0.self (sz := s.heap.size)
  generalize hAe : va_A (wR (nI 0) z0 mo eo er gr av ro co kl dd cI cII) s.heap.size = A at hD ⊢
  have hA : ∀ q : Nat, s.heap.size ≤ q → A q := fun q h => by rw [← hAe]; exact Or.inr h
  have hS : va_S A s.heap s.heap [] := va_S.rf
  have hl := lv_entry ([.ref mo, .int (nI 6), .int q]) (n := 3) (Nat.le_of_ble_eq_true rfl)
  rw [lg_entry_eq]
  generalize (lg_sl ([.ref mo, .int (nI 6), .int q]) ++ List.replicate (3 - (lg_sl ([.ref mo, .int (nI 6), .int q])).length) Slot.unset).toArray = ls at hl ⊢
  have hl : lv_has ls 3 [(0, .ref mo), (1, .int (nI 6)), (2, .int q)] := hl
  refine lv_aload_n hx hb dX5_pay_0 rfl (lv_at hl 0 rfl) ?_
  refine lv_aload_n hx hb dX5_pay_1 rfl (lv_at hl 0 rfl) ?_
  refine lv_iload_n hx hb dX5_pay_2 rfl (lv_at hl 1 rfl) ?_
  refine kt_calliM (w' := wR (nI 0) z0 mo eo er gr av ro co kl dd cI cII) (rest := [.ref mo]) (As := [.int (nI 6)]) ⟨hx, hb, hml, hown, hts⟩ (c_X5_isNoNode_n l dC dI cI cII cJ cJJ cZ cO mo eo er gr av ro co kl dd (nI 0) _ ) (cwV 1 hts gX5_pay_X5_isNoNode rfl rfl rfl (by decide +kernel) ⟨Nat.le_of_ble_eq_true rfl, Nat.le_of_ble_eq_true rfl⟩) hK hP hD hS hA (List.range' 0 14) sw_R0 rfl 0 kX5 rfl rfl rfl rfl rfl hl.1 (Nat.le_of_ble_eq_true rfl) dX5_pay_3 ⟨Nat.le_of_ble_eq_true rfl, Nat.le_of_ble_eq_true rfl⟩ (fun H locs hP hD hS => ?_)
  have hP : va_P (dC, dI) vwCl (wR (nI 0) z0 mo eo er gr av ro co kl dd cI cII) H := hP
  have hD : va_D A (wR (nI 0) z0 mo eo er gr av ro co kl dd cI cII) := hD
  refine lv_iconst (v := nI 1) hx hb dX5_pay_6 (by decide) ?_
  refine kt_calliM (w' := wR (nI 0) z0 mo eo er gr av ro co kl dd cI cII) (rest := []) (As := [.int (nI 0), .int (nI 1)]) ⟨hx, hb, hml, hown, hts⟩ (c_X5_start_0 l dC dI cI cII cJ cJJ cZ cO mo eo er gr av ro co kl dd _ ) (cwV 2 hts gX5_pay_X5_start rfl rfl rfl (by decide +kernel) ⟨Nat.le_of_ble_eq_true rfl, Nat.le_of_ble_eq_true rfl⟩) hK hP hD hS hA (List.range' 0 14) sw_R0 rfl 0 kX5 rfl rfl rfl rfl rfl hl.1 (Nat.le_of_ble_eq_true rfl) dX5_pay_7 ⟨Nat.le_of_ble_eq_true rfl, Nat.le_of_ble_eq_true rfl⟩ (fun H locs hP hD hS => ?_)
  have hP : va_P (dC, dI) vwCl (wR (nI 0) z0 mo eo er gr av ro co kl dd cI cII) H := hP
  have hD : va_D A (wR (nI 0) z0 mo eo er gr av ro co kl dd cI cII) := hD
  refine lv_if_ne (tgt := 37) hx hb dX5_pay_10 (by decide) (fun c1 => ?_) (fun c1 => ?_)
  · first | exact absurd c1 (by decide) | exact (c1 (by decide)).elim
  · skip
    refine lv_aload_n hx hb dX5_pay_13 rfl (lv_at hl 0 rfl) ?_
    refine lv_iload_n hx hb dX5_pay_14 rfl (lv_at hl 2 rfl) ?_
    refine lv_bipush (v := (-9)) hx hb dX5_pay_15 (by decide) ?_
    refine lv_bipush (v := nI 9) hx hb dX5_pay_17 (by decide) ?_
    refine kt_callSiM (w' := wR (nI 0) z0 mo eo er gr av ro co kl dd cI cII) (rest := [.ref mo]) (As := [.int q, .int (-9), .int (nI 9)]) ⟨hx, hb, hml, hown, hts⟩ (c_X5_isIn_n l dC dI cI cII cJ cJJ cZ cO q (-9) (nI 9) _ (h)) (va_cwS 3 hts gX5_pay_X5_isIn rfl rfl rfl (by decide +kernel) ⟨Nat.le_of_ble_eq_true rfl, Nat.le_of_ble_eq_true rfl⟩) hK hP hD hS hA [] (kt_sw_nil _) rfl rfl rfl hl.1 (Nat.le_of_ble_eq_true rfl) dX5_pay_19 ⟨Nat.le_of_ble_eq_true rfl, Nat.le_of_ble_eq_true rfl⟩ (fun H locs hP hD hS => ?_)
    have hP : va_P (dC, dI) vwCl (wR (nI 0) z0 mo eo er gr av ro co kl dd cI cII) H := hP
    have hD : va_D A (wR (nI 0) z0 mo eo er gr av ro co kl dd cI cII) := hD
    refine lv_if_ne (tgt := 29) hx hb dX5_pay_22 (by decide) (fun c2 => ?_) (fun c2 => ?_)
    · first | exact absurd c2 (by decide) | exact (c2 (by decide)).elim
    · skip
      refine lv_iconst (v := nI 1) hx hb dX5_pay_25 (by decide) ?_
      refine lv_goto (tgt := 30) hx hb dX5_pay_26 (by decide) ?_
      refine lv_iconst (v := nI 2) hx hb dX5_pay_30 (by decide) ?_
      refine kt_calliM (w' := wR (nI 2) z0 mo eo er gr av ro co kl dd cI cII) (rest := []) (As := [.int (nI 1), .int (nI 2)]) ⟨hx, hb, hml, hown, hts⟩ (c_X5_refuse_102 l dC dI cI cII cJ cJJ cZ cO mo eo er gr av ro co kl dd _ ) (cwV 2 hts gX5_pay_X5_refuse rfl rfl rfl (by decide +kernel) ⟨Nat.le_of_ble_eq_true rfl, Nat.le_of_ble_eq_true rfl⟩) hK hP hD hS hA (List.range' 0 14) sw_R0 rfl 0 kX5 rfl rfl rfl rfl rfl hl.1 (Nat.le_of_ble_eq_true rfl) dX5_pay_31 ⟨Nat.le_of_ble_eq_true rfl, Nat.le_of_ble_eq_true rfl⟩ (fun H locs hP hD hS => ?_)
      have hP : va_P (dC, dI) vwCl (wR (nI 2) z0 mo eo er gr av ro co kl dd cI cII) H := hP
      have hD : va_D A (wR (nI 2) z0 mo eo er gr av ro co kl dd cI cII) := hD
      refine lv_if_eq (tgt := 39) hx hb dX5_pay_34 (by decide) (fun c3 => ?_) (fun c3 => ?_)
      · first | exact absurd c3 (by decide) | exact (c3 (by decide)).elim
      · skip
        refine lv_iconst (v := nI 0) hx hb dX5_pay_37 (by decide) ?_
        refine W.widen (k := 0) (n := 0) (by omega) (by omega) ?_
        have hP := kt_sub (wC := [(mo, .inr (kX5, .int (nI 2) :: [.int (nI 0), .ref eo, .ref gr, .ref av, .ref ro, .ref co, .ref kl, .int (nI 0), .int (nI 0), .int (nI 0)]))]) hP [0] rfl
        have hD := hD.sub (ws' := [(mo, .inr (kX5, .int (nI 2) :: [.int (nI 0), .ref eo, .ref gr, .ref av, .ref ro, .ref co, .ref kl, .int (nI 0), .int (nI 0), .int (nI 0)]))]) [0] rfl rfl
        exact kt_iretU (mo := mo) (th := (nI 2)) (vs := [.int (nI 0), .ref eo, .ref gr, .ref av, .ref ro, .ref co, .ref kl, .int (nI 0), .int (nI 0), .int (nI 0)]) hx hb hr hS hP hK hD (by decide) hlocks dX5_pay_38

set_option maxHeartbeats 4000000 in
set_option maxRecDepth 100000 in
theorem t_pay (l : Launch) (dC : Nat → ClassId) (dI : Nat → Nat → Nat) (cI cII cJ cJJ cZ cO : ClassId) (mo : Nat) (eo : Nat) (er : Nat → Nat) (gr : Nat) (av : Nat) (ro : Nat) (co : Nat) (kl : Nat) (dd : Nat) (q : Int32) (sz : Nat) (h1 : ¬ q < (-9)) (h2 : ¬ nI 9 < q) : Met l yX5_pay wsX5_pay ({ frames := 2, cells := 0, slots := 0, locals := 44 }) (va_Pc [.ref mo, .int (nI 6), .int q] (PRE (dC, dI) (tyR cI cII cJ cJJ cZ cO) (wR (nI 0) z0 mo eo er gr av ro co kl dd cI cII) sz)) (va_Qi (fun (r' : Int32) (_ : List Value) => r' = q) (fun (u : List Value) tS => ATW (dC, dI) (tyR cI cII cJ cJJ cZ cO) (va_A (wR (nI 0) z0 mo eo er gr av ro co kl dd cI cII) sz) [(mo, .inr (kX5, .int (nI 0) :: u))] tS) (va_A (wR (nI 0) z0 mo eo er gr av ro co kl dd cI cII) sz)) 0 0 (va_A (wR (nI 0) z0 mo eo er gr av ro co kl dd cI cII) sz) := by
  refine Met.ofW (cc := cX5_pay) (maxL := 3) (ret := (some .int)) (by decide) rfl ?_
  intro p e s m args below meth c s₁ B hml hv
  obtain ⟨rfl, hsz, hP, hK, hD0⟩ := hv
  have hx := B.exec
  have hb := B.bytes
  have hr := B.returns
  have hlocks := B.notSynchronized
  have hts := atoms_spec (ws := wsX5_pay) B.pre
  have hown : s.vm.findClass RX5 = some m.cls := findClass_of_methodNamed B.named
  subst hsz
  have hD := hD0.self (sz := s.heap.size)
  generalize hAe : va_A (wR (nI 0) z0 mo eo er gr av ro co kl dd cI cII) s.heap.size = A at hD ⊢
  have hA : ∀ q : Nat, s.heap.size ≤ q → A q := fun q h => by rw [← hAe]; exact Or.inr h
  have hS : va_S A s.heap s.heap [] := va_S.rf
  have hl := lv_entry ([.ref mo, .int (nI 6), .int q]) (n := 3) (Nat.le_of_ble_eq_true rfl)
  rw [lg_entry_eq]
  generalize (lg_sl ([.ref mo, .int (nI 6), .int q]) ++ List.replicate (3 - (lg_sl ([.ref mo, .int (nI 6), .int q])).length) Slot.unset).toArray = ls at hl ⊢
  have hl : lv_has ls 3 [(0, .ref mo), (1, .int (nI 6)), (2, .int q)] := hl
  have hi_X5 : ∀ w ∈ u_ws RX5 TX5 11, w ∈ wsX5_pay := by decide +kernel
  have hf_24 := hts (.fieldLink RX5 24 "TopplemoorModel" "coins" "[I") (by decide +kernel)
  refine lv_aload_n hx hb dX5_pay_0 rfl (lv_at hl 0 rfl) ?_
  refine lv_aload_n hx hb dX5_pay_1 rfl (lv_at hl 0 rfl) ?_
  refine lv_iload_n hx hb dX5_pay_2 rfl (lv_at hl 1 rfl) ?_
  refine kt_calliM (w' := wR (nI 0) z0 mo eo er gr av ro co kl dd cI cII) (rest := [.ref mo]) (As := [.int (nI 6)]) ⟨hx, hb, hml, hown, hts⟩ (c_X5_isNoNode_n l dC dI cI cII cJ cJJ cZ cO mo eo er gr av ro co kl dd (nI 0) _ ) (cwV 1 hts gX5_pay_X5_isNoNode rfl rfl rfl (by decide +kernel) ⟨Nat.le_of_ble_eq_true rfl, Nat.le_of_ble_eq_true rfl⟩) hK hP hD hS hA (List.range' 0 14) sw_R0 rfl 0 kX5 rfl rfl rfl rfl rfl hl.1 (Nat.le_of_ble_eq_true rfl) dX5_pay_3 ⟨Nat.le_of_ble_eq_true rfl, Nat.le_of_ble_eq_true rfl⟩ (fun H locs hP hD hS => ?_)
  have hP : va_P (dC, dI) vwCl (wR (nI 0) z0 mo eo er gr av ro co kl dd cI cII) H := hP
  have hD : va_D A (wR (nI 0) z0 mo eo er gr av ro co kl dd cI cII) := hD
  refine lv_iconst (v := nI 1) hx hb dX5_pay_6 (by decide) ?_
  refine kt_calliM (w' := wR (nI 0) z0 mo eo er gr av ro co kl dd cI cII) (rest := []) (As := [.int (nI 0), .int (nI 1)]) ⟨hx, hb, hml, hown, hts⟩ (c_X5_start_0 l dC dI cI cII cJ cJJ cZ cO mo eo er gr av ro co kl dd _ ) (cwV 2 hts gX5_pay_X5_start rfl rfl rfl (by decide +kernel) ⟨Nat.le_of_ble_eq_true rfl, Nat.le_of_ble_eq_true rfl⟩) hK hP hD hS hA (List.range' 0 14) sw_R0 rfl 0 kX5 rfl rfl rfl rfl rfl hl.1 (Nat.le_of_ble_eq_true rfl) dX5_pay_7 ⟨Nat.le_of_ble_eq_true rfl, Nat.le_of_ble_eq_true rfl⟩ (fun H locs hP hD hS => ?_)
  have hP : va_P (dC, dI) vwCl (wR (nI 0) z0 mo eo er gr av ro co kl dd cI cII) H := hP
  have hD : va_D A (wR (nI 0) z0 mo eo er gr av ro co kl dd cI cII) := hD
  refine lv_if_ne (tgt := 37) hx hb dX5_pay_10 (by decide) (fun c1 => ?_) (fun c1 => ?_)
  · first | exact absurd c1 (by decide) | exact (c1 (by decide)).elim
  · skip
    refine lv_aload_n hx hb dX5_pay_13 rfl (lv_at hl 0 rfl) ?_
    refine lv_iload_n hx hb dX5_pay_14 rfl (lv_at hl 2 rfl) ?_
    refine lv_bipush (v := (-9)) hx hb dX5_pay_15 (by decide) ?_
    refine lv_bipush (v := nI 9) hx hb dX5_pay_17 (by decide) ?_
    refine kt_callSiM (w' := wR (nI 0) z0 mo eo er gr av ro co kl dd cI cII) (rest := [.ref mo]) (As := [.int q, .int (-9), .int (nI 9)]) ⟨hx, hb, hml, hown, hts⟩ (c_X5_isIn_y l dC dI cI cII cJ cJJ cZ cO q (-9) (nI 9) _ (h1) (h2)) (va_cwS 3 hts gX5_pay_X5_isIn rfl rfl rfl (by decide +kernel) ⟨Nat.le_of_ble_eq_true rfl, Nat.le_of_ble_eq_true rfl⟩) hK hP hD hS hA [] (kt_sw_nil _) rfl rfl rfl hl.1 (Nat.le_of_ble_eq_true rfl) dX5_pay_19 ⟨Nat.le_of_ble_eq_true rfl, Nat.le_of_ble_eq_true rfl⟩ (fun H locs hP hD hS => ?_)
    have hP : va_P (dC, dI) vwCl (wR (nI 0) z0 mo eo er gr av ro co kl dd cI cII) H := hP
    have hD : va_D A (wR (nI 0) z0 mo eo er gr av ro co kl dd cI cII) := hD
    refine lv_if_ne (tgt := 29) hx hb dX5_pay_22 (by decide) (fun c2 => ?_) (fun c2 => ?_)
    · skip
      refine lv_iconst (v := nI 0) hx hb dX5_pay_29 (by decide) ?_
      refine lv_iconst (v := nI 2) hx hb dX5_pay_30 (by decide) ?_
      refine kt_calliM (w' := wR (nI 0) z0 mo eo er gr av ro co kl dd cI cII) (rest := []) (As := [.int (nI 0), .int (nI 2)]) ⟨hx, hb, hml, hown, hts⟩ (c_X5_refuse_002 l dC dI cI cII cJ cJJ cZ cO mo eo er gr av ro co kl dd _ ) (cwV 2 hts gX5_pay_X5_refuse rfl rfl rfl (by decide +kernel) ⟨Nat.le_of_ble_eq_true rfl, Nat.le_of_ble_eq_true rfl⟩) hK hP hD hS hA (List.range' 0 14) sw_R0 rfl 0 kX5 rfl rfl rfl rfl rfl hl.1 (Nat.le_of_ble_eq_true rfl) dX5_pay_31 ⟨Nat.le_of_ble_eq_true rfl, Nat.le_of_ble_eq_true rfl⟩ (fun H locs hP hD hS => ?_)
      have hP : va_P (dC, dI) vwCl (wR (nI 0) z0 mo eo er gr av ro co kl dd cI cII) H := hP
      have hD : va_D A (wR (nI 0) z0 mo eo er gr av ro co kl dd cI cII) := hD
      refine lv_if_eq (tgt := 39) hx hb dX5_pay_34 (by decide) (fun c3 => ?_) (fun c3 => ?_)
      · skip
        refine lv_aload_n hx hb dX5_pay_39 rfl (lv_at hl 0 rfl) ?_
        refine va_get (D := (dC, dI)) (ci := kX5) (v := .ref co) (C := RX5) (T := TX5) (N := 11) hx hb hts hi_X5 hown hK hP 0 rfl rfl 6 (by decide) hf_24 (fun _ h9 => h9) rfl dX5_pay_40 ?_
        refine lv_iload_n hx hb dX5_pay_43 rfl (lv_at hl 1 rfl) ?_
        refine lv_dup2_11 hx hb dX5_pay_44 rfl rfl ?_
        refine kt_iald hx hb hK hP 12 0 rfl rfl (by omega) (by decide) dX5_pay_45 ?_
        refine lv_topi (fun z4 ez4 => ?_)
        have ez4 : z4 = nI 0 := ez4.trans rfl
        subst ez4
        refine lv_iload_n hx hb dX5_pay_46 rfl (lv_at hl 2 rfl) ?_
        refine lv_iadd hx hb dX5_pay_47 ?_
        refine lv_topi (fun z5 ez5 => ?_)
        have ez5 : z5 = q := ez5.trans (by show nI 0 + q = q; exact zero_add32 q)
        rw [ez5]
        refine kt_iast hx hb hK hP hD hS 12 0 rfl rfl (by omega) (by decide) dX5_pay_48 (fun H locs hP hD hS => ?_)
        have hP : va_P (dC, dI) vwCl (wR (nI 0) (upd z0 6 q) mo eo er gr av ro co kl dd cI cII) H := hP
        have hD : va_D A (wR (nI 0) (upd z0 6 q) mo eo er gr av ro co kl dd cI cII) := hD
        refine lv_aload_n hx hb dX5_pay_49 rfl (lv_at hl 0 rfl) ?_
        refine va_get (D := (dC, dI)) (ci := kX5) (v := .ref co) (C := RX5) (T := TX5) (N := 11) hx hb hts hi_X5 hown hK hP 0 rfl rfl 6 (by decide) hf_24 (fun _ h9 => h9) rfl dX5_pay_50 ?_
        refine lv_iload_n hx hb dX5_pay_53 rfl (lv_at hl 1 rfl) ?_
        refine kt_iald hx hb hK hP 12 0 rfl rfl (by omega) (by decide) dX5_pay_54 ?_
        refine lv_topi (fun z6 ez6 => ?_)
        have ez6 : z6 = q := ez6.trans (by rfl)
        rw [ez6]
        refine W.widen (k := 0) (n := 0) (by omega) (by omega) ?_
        have hP := kt_sub (wC := [(mo, .inr (kX5, .int (nI 0) :: [.int (nI 0), .ref eo, .ref gr, .ref av, .ref ro, .ref co, .ref kl, .int (nI 0), .int (nI 0), .int (nI 0)]))]) hP [0] rfl
        have hD := hD.sub (ws' := [(mo, .inr (kX5, .int (nI 0) :: [.int (nI 0), .ref eo, .ref gr, .ref av, .ref ro, .ref co, .ref kl, .int (nI 0), .int (nI 0), .int (nI 0)]))]) [0] rfl rfl
        exact kt_iretU (mo := mo) (th := (nI 0)) (vs := [.int (nI 0), .ref eo, .ref gr, .ref av, .ref ro, .ref co, .ref kl, .int (nI 0), .int (nI 0), .int (nI 0)]) hx hb hr hS hP hK hD (rfl) hlocks dX5_pay_55
      · first | exact absurd c3 (by decide) | exact (c3 (by decide)).elim
    · first | exact absurd c2 (by decide) | exact (c2 (by decide)).elim

set_option maxHeartbeats 4000000 in
set_option maxRecDepth 100000 in
theorem c_X5_give_l (l : Launch) (dC : Nat → ClassId) (dI : Nat → Nat → Nat) (cI cII cJ cJJ cZ cO : ClassId) (mo : Nat) (eo : Nat) (er : Nat → Nat) (gr : Nat) (av : Nat) (ro : Nat) (co : Nat) (kl : Nat) (dd : Nat) (th : Int32) (sz : Nat)  : Met l yX5_give wsX5_give ({ frames := 1, cells := 0, slots := 0, locals := 26 }) (va_Pc [.ref mo, .ref co, .int (nI 6), .int (nI 1)] (PRE (dC, dI) (tyR cI cII cJ cJJ cZ cO) (wR th z0 mo eo er gr av ro co kl dd cI cII) sz)) (va_Qv (fun (_ : Unit) => True) (fun _ tS => ATW (dC, dI) (tyR cI cII cJ cJJ cZ cO) (va_A (wR th z0 mo eo er gr av ro co kl dd cI cII) sz) (wR th z0 mo eo er gr av ro co kl dd cI cII) tS) (va_A (wR th z0 mo eo er gr av ro co kl dd cI cII) sz)) 0 0 (va_A (wR th z0 mo eo er gr av ro co kl dd cI cII) sz) := by
  refine Met.ofW (cc := cX5_give) (maxL := 5) (ret := none) (by decide) rfl ?_
  intro p e s m args below meth c s₁ B hml hv
  obtain ⟨rfl, hsz, hP, hK, hD0⟩ := hv
  have hx := B.exec
  have hb := B.bytes
  have hr := B.returns
  have hlocks := B.notSynchronized
  have hts := atoms_spec (ws := wsX5_give) B.pre
  have hown : s.vm.findClass RX5 = some m.cls := findClass_of_methodNamed B.named
  subst hsz
  have hD := hD0.self (sz := s.heap.size)
  generalize hAe : va_A (wR th z0 mo eo er gr av ro co kl dd cI cII) s.heap.size = A at hD ⊢
  have hA : ∀ q : Nat, s.heap.size ≤ q → A q := fun q h => by rw [← hAe]; exact Or.inr h
  have hS : va_S A s.heap s.heap [] := va_S.rf
  have hl := lv_entry ([.ref mo, .ref co, .int (nI 6), .int (nI 1)]) (n := 5) (Nat.le_of_ble_eq_true rfl)
  rw [lg_entry_eq]
  generalize (lg_sl ([.ref mo, .ref co, .int (nI 6), .int (nI 1)]) ++ List.replicate (5 - (lg_sl ([.ref mo, .ref co, .int (nI 6), .int (nI 1)])).length) Slot.unset).toArray = ls at hl ⊢
  have hl : lv_has ls 5 [(0, .ref mo), (1, .ref co), (2, .int (nI 6)), (3, .int (nI 1))] := hl
  have hi_X5 : ∀ w ∈ u_ws RX5 TX5 11, w ∈ wsX5_give := by decide +kernel
  have hf_11 := hts (.fieldLink RX5 11 "TopplemoorModel" "edges" "[[I") (by decide +kernel)
  refine lv_aload_n hx hb dX5_give_0 rfl (lv_at hl 1 rfl) ?_
  refine lv_iload_n hx hb dX5_give_1 rfl (lv_at hl 2 rfl) ?_
  refine lv_dup2_11 hx hb dX5_give_2 rfl rfl ?_
  refine kt_iald hx hb hK hP 12 0 rfl rfl (by omega) (by decide) dX5_give_3 ?_
  refine lv_topi (fun z1 ez1 => ?_)
  have ez1 : z1 = nI 0 := ez1.trans rfl
  subst ez1
  refine lv_iload_n hx hb dX5_give_4 rfl (lv_at hl 3 rfl) ?_
  refine lv_aload_n hx hb dX5_give_5 rfl (lv_at hl 0 rfl) ?_
  refine lv_iload_n hx hb dX5_give_6 rfl (lv_at hl 2 rfl) ?_
  refine kt_calliM (w' := wR th z0 mo eo er gr av ro co kl dd cI cII) (rest := [.int (nI 1), .int (nI 0), .int (nI 6), .ref co]) (As := [.int (nI 6)]) ⟨hx, hb, hml, hown, hts⟩ (c_X5_degree l dC dI cI cII cJ cJJ cZ cO mo eo er gr av ro co kl dd 6 th z0 _ (by omega)) (cwV 1 hts gX5_give_X5_degree rfl rfl rfl (by decide +kernel) ⟨Nat.le_of_ble_eq_true rfl, Nat.le_of_ble_eq_true rfl⟩) hK hP hD hS hA (List.range' 0 14) sw_R0 rfl 0 kX5 rfl rfl rfl rfl rfl hl.1 (Nat.le_of_ble_eq_true rfl) dX5_give_7 ⟨Nat.le_of_ble_eq_true rfl, Nat.le_of_ble_eq_true rfl⟩ (fun H locs hP hD hS => ?_)
  have hP : va_P (dC, dI) vwCl (wR th z0 mo eo er gr av ro co kl dd cI cII) H := hP
  have hD : va_D A (wR th z0 mo eo er gr av ro co kl dd cI cII) := hD
  refine lv_imul hx hb dX5_give_10 ?_
  refine lv_topi (fun z2 ez2 => ?_)
  have ez2 : z2 = nI 0 := ez2.trans (by decide)
  subst ez2
  refine lv_isub hx hb dX5_give_11 ?_
  refine lv_topi (fun z3 ez3 => ?_)
  have ez3 : z3 = nI 0 := ez3.trans (by decide)
  subst ez3
  refine kt_iast hx hb hK hP hD hS 12 0 rfl rfl (by omega) (by decide) dX5_give_12 (fun H locs hP hD hS => ?_)
  have hP : va_P (dC, dI) vwCl (wR th (upd z0 6 (nI 0)) mo eo er gr av ro co kl dd cI cII) H := hP
  have hD : va_D A (wR th (upd z0 6 (nI 0)) mo eo er gr av ro co kl dd cI cII) := hD
  obtain ⟨hP, hD⟩ := kt_chg z0 hP hD 12 rfl (fun j _ => upd_z0 j)
  have hP : va_P (dC, dI) vwCl (wR th z0 mo eo er gr av ro co kl dd cI cII) H := hP
  have hD : va_D A (wR th z0 mo eo er gr av ro co kl dd cI cII) := hD
  refine lv_iconst (v := nI 0) hx hb dX5_give_13 (by decide) ?_
  refine lv_istore (lv' := [(4, .int (nI 0)), (0, .ref mo), (1, .ref co), (2, .int (nI 6)), (3, .int (nI 1))]) hx hb dX5_give_14 hl (by decide) rfl (fun ls hl => ?_)
  refine lv_iload hx hb dX5_give_16 (lv_at hl 0 rfl) ?_
  refine lv_bipush (v := nI 7) hx hb dX5_give_18 (by decide) ?_
  refine lv_icmp_ge (tgt := 47) hx hb dX5_give_20 (by decide) (fun c4 => ?_) (fun c4 => ?_)
  · first | exact absurd c4 (by decide) | exact (c4 (by decide)).elim
  · skip
    refine lv_aload_n hx hb dX5_give_23 rfl (lv_at hl 2 rfl) ?_
    refine lv_iload hx hb dX5_give_24 (lv_at hl 0 rfl) ?_
    refine lv_dup2_11 hx hb dX5_give_26 rfl rfl ?_
    refine kt_iald hx hb hK hP 12 0 rfl rfl (by omega) (by decide) dX5_give_27 ?_
    refine lv_topi (fun z5 ez5 => ?_)
    have ez5 : z5 = nI 0 := ez5.trans rfl
    subst ez5
    refine lv_iload_n hx hb dX5_give_28 rfl (lv_at hl 4 rfl) ?_
    refine lv_aload_n hx hb dX5_give_29 rfl (lv_at hl 1 rfl) ?_
    refine va_get (D := (dC, dI)) (ci := kX5) (v := .ref eo) (C := RX5) (T := TX5) (N := 11) hx hb hts hi_X5 hown hK hP 0 rfl rfl 2 (by decide) hf_11 (fun _ h9 => h9) rfl dX5_give_30 ?_
    refine lv_iload_n hx hb dX5_give_33 rfl (lv_at hl 3 rfl) ?_
    refine kt_aald hx hb hK hP 1 1 rfl rfl (by omega) (by decide) dX5_give_34 ?_
    refine lv_iload hx hb dX5_give_35 (lv_at hl 0 rfl) ?_
    refine kt_iald hx hb hK hP 8 0 rfl rfl (by omega) (by decide) dX5_give_37 ?_
    refine lv_topi (fun z6 ez6 => ?_)
    have ez6 : z6 = nI 0 := ez6.trans rfl
    subst ez6
    refine lv_imul hx hb dX5_give_38 ?_
    refine lv_topi (fun z7 ez7 => ?_)
    have ez7 : z7 = nI 0 := ez7.trans (by decide)
    subst ez7
    refine lv_iadd hx hb dX5_give_39 ?_
    refine lv_topi (fun z8 ez8 => ?_)
    have ez8 : z8 = nI 0 := ez8.trans (by decide)
    subst ez8
    refine kt_iast hx hb hK hP hD hS 12 0 rfl rfl (by omega) (by decide) dX5_give_40 (fun H locs hP hD hS => ?_)
    have hP : va_P (dC, dI) vwCl (wR th (upd z0 0 (nI 0)) mo eo er gr av ro co kl dd cI cII) H := hP
    have hD : va_D A (wR th (upd z0 0 (nI 0)) mo eo er gr av ro co kl dd cI cII) := hD
    obtain ⟨hP, hD⟩ := kt_chg z0 hP hD 12 rfl (fun j _ => upd_z0 j)
    have hP : va_P (dC, dI) vwCl (wR th z0 mo eo er gr av ro co kl dd cI cII) H := hP
    have hD : va_D A (wR th z0 mo eo er gr av ro co kl dd cI cII) := hD
    refine lv_iinc (v := nI 1) (lv' := [(4, .int (nI 1)), (0, .ref mo), (1, .ref co), (2, .int (nI 6)), (3, .int (nI 1))]) hx hb dX5_give_41 hl (k := 0) rfl (kt_inc 0) (by decide) rfl (fun ls hl => ?_)
    refine lv_goto (tgt := 16) hx hb dX5_give_44 (by decide) ?_
    refine lv_iload hx hb dX5_give_16 (lv_at hl 0 rfl) ?_
    refine lv_bipush (v := nI 7) hx hb dX5_give_18 (by decide) ?_
    refine lv_icmp_ge (tgt := 47) hx hb dX5_give_20 (by decide) (fun c9 => ?_) (fun c9 => ?_)
    · first | exact absurd c9 (by decide) | exact (c9 (by decide)).elim
    · skip
      refine lv_aload_n hx hb dX5_give_23 rfl (lv_at hl 2 rfl) ?_
      refine lv_iload hx hb dX5_give_24 (lv_at hl 0 rfl) ?_
      refine lv_dup2_11 hx hb dX5_give_26 rfl rfl ?_
      refine kt_iald hx hb hK hP 12 0 rfl rfl (by omega) (by decide) dX5_give_27 ?_
      refine lv_topi (fun z10 ez10 => ?_)
      have ez10 : z10 = nI 0 := ez10.trans rfl
      subst ez10
      refine lv_iload_n hx hb dX5_give_28 rfl (lv_at hl 4 rfl) ?_
      refine lv_aload_n hx hb dX5_give_29 rfl (lv_at hl 1 rfl) ?_
      refine va_get (D := (dC, dI)) (ci := kX5) (v := .ref eo) (C := RX5) (T := TX5) (N := 11) hx hb hts hi_X5 hown hK hP 0 rfl rfl 2 (by decide) hf_11 (fun _ h9 => h9) rfl dX5_give_30 ?_
      refine lv_iload_n hx hb dX5_give_33 rfl (lv_at hl 3 rfl) ?_
      refine kt_aald hx hb hK hP 1 1 rfl rfl (by omega) (by decide) dX5_give_34 ?_
      refine lv_iload hx hb dX5_give_35 (lv_at hl 0 rfl) ?_
      refine kt_iald hx hb hK hP 8 0 rfl rfl (by omega) (by decide) dX5_give_37 ?_
      refine lv_topi (fun z11 ez11 => ?_)
      have ez11 : z11 = nI 0 := ez11.trans rfl
      subst ez11
      refine lv_imul hx hb dX5_give_38 ?_
      refine lv_topi (fun z12 ez12 => ?_)
      have ez12 : z12 = nI 0 := ez12.trans (by decide)
      subst ez12
      refine lv_iadd hx hb dX5_give_39 ?_
      refine lv_topi (fun z13 ez13 => ?_)
      have ez13 : z13 = nI 0 := ez13.trans (by decide)
      subst ez13
      refine kt_iast hx hb hK hP hD hS 12 0 rfl rfl (by omega) (by decide) dX5_give_40 (fun H locs hP hD hS => ?_)
      have hP : va_P (dC, dI) vwCl (wR th (upd z0 1 (nI 0)) mo eo er gr av ro co kl dd cI cII) H := hP
      have hD : va_D A (wR th (upd z0 1 (nI 0)) mo eo er gr av ro co kl dd cI cII) := hD
      obtain ⟨hP, hD⟩ := kt_chg z0 hP hD 12 rfl (fun j _ => upd_z0 j)
      have hP : va_P (dC, dI) vwCl (wR th z0 mo eo er gr av ro co kl dd cI cII) H := hP
      have hD : va_D A (wR th z0 mo eo er gr av ro co kl dd cI cII) := hD
      refine lv_iinc (v := nI 2) (lv' := [(4, .int (nI 2)), (0, .ref mo), (1, .ref co), (2, .int (nI 6)), (3, .int (nI 1))]) hx hb dX5_give_41 hl (k := 0) rfl (kt_inc 1) (by decide) rfl (fun ls hl => ?_)
      refine lv_goto (tgt := 16) hx hb dX5_give_44 (by decide) ?_
      refine lv_iload hx hb dX5_give_16 (lv_at hl 0 rfl) ?_
      refine lv_bipush (v := nI 7) hx hb dX5_give_18 (by decide) ?_
      refine lv_icmp_ge (tgt := 47) hx hb dX5_give_20 (by decide) (fun c14 => ?_) (fun c14 => ?_)
      · first | exact absurd c14 (by decide) | exact (c14 (by decide)).elim
      · skip
        refine lv_aload_n hx hb dX5_give_23 rfl (lv_at hl 2 rfl) ?_
        refine lv_iload hx hb dX5_give_24 (lv_at hl 0 rfl) ?_
        refine lv_dup2_11 hx hb dX5_give_26 rfl rfl ?_
        refine kt_iald hx hb hK hP 12 0 rfl rfl (by omega) (by decide) dX5_give_27 ?_
        refine lv_topi (fun z15 ez15 => ?_)
        have ez15 : z15 = nI 0 := ez15.trans rfl
        subst ez15
        refine lv_iload_n hx hb dX5_give_28 rfl (lv_at hl 4 rfl) ?_
        refine lv_aload_n hx hb dX5_give_29 rfl (lv_at hl 1 rfl) ?_
        refine va_get (D := (dC, dI)) (ci := kX5) (v := .ref eo) (C := RX5) (T := TX5) (N := 11) hx hb hts hi_X5 hown hK hP 0 rfl rfl 2 (by decide) hf_11 (fun _ h9 => h9) rfl dX5_give_30 ?_
        refine lv_iload_n hx hb dX5_give_33 rfl (lv_at hl 3 rfl) ?_
        refine kt_aald hx hb hK hP 1 1 rfl rfl (by omega) (by decide) dX5_give_34 ?_
        refine lv_iload hx hb dX5_give_35 (lv_at hl 0 rfl) ?_
        refine kt_iald hx hb hK hP 8 0 rfl rfl (by omega) (by decide) dX5_give_37 ?_
        refine lv_topi (fun z16 ez16 => ?_)
        have ez16 : z16 = nI 0 := ez16.trans rfl
        subst ez16
        refine lv_imul hx hb dX5_give_38 ?_
        refine lv_topi (fun z17 ez17 => ?_)
        have ez17 : z17 = nI 0 := ez17.trans (by decide)
        subst ez17
        refine lv_iadd hx hb dX5_give_39 ?_
        refine lv_topi (fun z18 ez18 => ?_)
        have ez18 : z18 = nI 0 := ez18.trans (by decide)
        subst ez18
        refine kt_iast hx hb hK hP hD hS 12 0 rfl rfl (by omega) (by decide) dX5_give_40 (fun H locs hP hD hS => ?_)
        have hP : va_P (dC, dI) vwCl (wR th (upd z0 2 (nI 0)) mo eo er gr av ro co kl dd cI cII) H := hP
        have hD : va_D A (wR th (upd z0 2 (nI 0)) mo eo er gr av ro co kl dd cI cII) := hD
        obtain ⟨hP, hD⟩ := kt_chg z0 hP hD 12 rfl (fun j _ => upd_z0 j)
        have hP : va_P (dC, dI) vwCl (wR th z0 mo eo er gr av ro co kl dd cI cII) H := hP
        have hD : va_D A (wR th z0 mo eo er gr av ro co kl dd cI cII) := hD
        refine lv_iinc (v := nI 3) (lv' := [(4, .int (nI 3)), (0, .ref mo), (1, .ref co), (2, .int (nI 6)), (3, .int (nI 1))]) hx hb dX5_give_41 hl (k := 0) rfl (kt_inc 2) (by decide) rfl (fun ls hl => ?_)
        refine lv_goto (tgt := 16) hx hb dX5_give_44 (by decide) ?_
        refine lv_iload hx hb dX5_give_16 (lv_at hl 0 rfl) ?_
        refine lv_bipush (v := nI 7) hx hb dX5_give_18 (by decide) ?_
        refine lv_icmp_ge (tgt := 47) hx hb dX5_give_20 (by decide) (fun c19 => ?_) (fun c19 => ?_)
        · first | exact absurd c19 (by decide) | exact (c19 (by decide)).elim
        · skip
          refine lv_aload_n hx hb dX5_give_23 rfl (lv_at hl 2 rfl) ?_
          refine lv_iload hx hb dX5_give_24 (lv_at hl 0 rfl) ?_
          refine lv_dup2_11 hx hb dX5_give_26 rfl rfl ?_
          refine kt_iald hx hb hK hP 12 0 rfl rfl (by omega) (by decide) dX5_give_27 ?_
          refine lv_topi (fun z20 ez20 => ?_)
          have ez20 : z20 = nI 0 := ez20.trans rfl
          subst ez20
          refine lv_iload_n hx hb dX5_give_28 rfl (lv_at hl 4 rfl) ?_
          refine lv_aload_n hx hb dX5_give_29 rfl (lv_at hl 1 rfl) ?_
          refine va_get (D := (dC, dI)) (ci := kX5) (v := .ref eo) (C := RX5) (T := TX5) (N := 11) hx hb hts hi_X5 hown hK hP 0 rfl rfl 2 (by decide) hf_11 (fun _ h9 => h9) rfl dX5_give_30 ?_
          refine lv_iload_n hx hb dX5_give_33 rfl (lv_at hl 3 rfl) ?_
          refine kt_aald hx hb hK hP 1 1 rfl rfl (by omega) (by decide) dX5_give_34 ?_
          refine lv_iload hx hb dX5_give_35 (lv_at hl 0 rfl) ?_
          refine kt_iald hx hb hK hP 8 0 rfl rfl (by omega) (by decide) dX5_give_37 ?_
          refine lv_topi (fun z21 ez21 => ?_)
          have ez21 : z21 = nI 0 := ez21.trans rfl
          subst ez21
          refine lv_imul hx hb dX5_give_38 ?_
          refine lv_topi (fun z22 ez22 => ?_)
          have ez22 : z22 = nI 0 := ez22.trans (by decide)
          subst ez22
          refine lv_iadd hx hb dX5_give_39 ?_
          refine lv_topi (fun z23 ez23 => ?_)
          have ez23 : z23 = nI 0 := ez23.trans (by decide)
          subst ez23
          refine kt_iast hx hb hK hP hD hS 12 0 rfl rfl (by omega) (by decide) dX5_give_40 (fun H locs hP hD hS => ?_)
          have hP : va_P (dC, dI) vwCl (wR th (upd z0 3 (nI 0)) mo eo er gr av ro co kl dd cI cII) H := hP
          have hD : va_D A (wR th (upd z0 3 (nI 0)) mo eo er gr av ro co kl dd cI cII) := hD
          obtain ⟨hP, hD⟩ := kt_chg z0 hP hD 12 rfl (fun j _ => upd_z0 j)
          have hP : va_P (dC, dI) vwCl (wR th z0 mo eo er gr av ro co kl dd cI cII) H := hP
          have hD : va_D A (wR th z0 mo eo er gr av ro co kl dd cI cII) := hD
          refine lv_iinc (v := nI 4) (lv' := [(4, .int (nI 4)), (0, .ref mo), (1, .ref co), (2, .int (nI 6)), (3, .int (nI 1))]) hx hb dX5_give_41 hl (k := 0) rfl (kt_inc 3) (by decide) rfl (fun ls hl => ?_)
          refine lv_goto (tgt := 16) hx hb dX5_give_44 (by decide) ?_
          refine lv_iload hx hb dX5_give_16 (lv_at hl 0 rfl) ?_
          refine lv_bipush (v := nI 7) hx hb dX5_give_18 (by decide) ?_
          refine lv_icmp_ge (tgt := 47) hx hb dX5_give_20 (by decide) (fun c24 => ?_) (fun c24 => ?_)
          · first | exact absurd c24 (by decide) | exact (c24 (by decide)).elim
          · skip
            refine lv_aload_n hx hb dX5_give_23 rfl (lv_at hl 2 rfl) ?_
            refine lv_iload hx hb dX5_give_24 (lv_at hl 0 rfl) ?_
            refine lv_dup2_11 hx hb dX5_give_26 rfl rfl ?_
            refine kt_iald hx hb hK hP 12 0 rfl rfl (by omega) (by decide) dX5_give_27 ?_
            refine lv_topi (fun z25 ez25 => ?_)
            have ez25 : z25 = nI 0 := ez25.trans rfl
            subst ez25
            refine lv_iload_n hx hb dX5_give_28 rfl (lv_at hl 4 rfl) ?_
            refine lv_aload_n hx hb dX5_give_29 rfl (lv_at hl 1 rfl) ?_
            refine va_get (D := (dC, dI)) (ci := kX5) (v := .ref eo) (C := RX5) (T := TX5) (N := 11) hx hb hts hi_X5 hown hK hP 0 rfl rfl 2 (by decide) hf_11 (fun _ h9 => h9) rfl dX5_give_30 ?_
            refine lv_iload_n hx hb dX5_give_33 rfl (lv_at hl 3 rfl) ?_
            refine kt_aald hx hb hK hP 1 1 rfl rfl (by omega) (by decide) dX5_give_34 ?_
            refine lv_iload hx hb dX5_give_35 (lv_at hl 0 rfl) ?_
            refine kt_iald hx hb hK hP 8 0 rfl rfl (by omega) (by decide) dX5_give_37 ?_
            refine lv_topi (fun z26 ez26 => ?_)
            have ez26 : z26 = nI 0 := ez26.trans rfl
            subst ez26
            refine lv_imul hx hb dX5_give_38 ?_
            refine lv_topi (fun z27 ez27 => ?_)
            have ez27 : z27 = nI 0 := ez27.trans (by decide)
            subst ez27
            refine lv_iadd hx hb dX5_give_39 ?_
            refine lv_topi (fun z28 ez28 => ?_)
            have ez28 : z28 = nI 0 := ez28.trans (by decide)
            subst ez28
            refine kt_iast hx hb hK hP hD hS 12 0 rfl rfl (by omega) (by decide) dX5_give_40 (fun H locs hP hD hS => ?_)
            have hP : va_P (dC, dI) vwCl (wR th (upd z0 4 (nI 0)) mo eo er gr av ro co kl dd cI cII) H := hP
            have hD : va_D A (wR th (upd z0 4 (nI 0)) mo eo er gr av ro co kl dd cI cII) := hD
            obtain ⟨hP, hD⟩ := kt_chg z0 hP hD 12 rfl (fun j _ => upd_z0 j)
            have hP : va_P (dC, dI) vwCl (wR th z0 mo eo er gr av ro co kl dd cI cII) H := hP
            have hD : va_D A (wR th z0 mo eo er gr av ro co kl dd cI cII) := hD
            refine lv_iinc (v := nI 5) (lv' := [(4, .int (nI 5)), (0, .ref mo), (1, .ref co), (2, .int (nI 6)), (3, .int (nI 1))]) hx hb dX5_give_41 hl (k := 0) rfl (kt_inc 4) (by decide) rfl (fun ls hl => ?_)
            refine lv_goto (tgt := 16) hx hb dX5_give_44 (by decide) ?_
            refine lv_iload hx hb dX5_give_16 (lv_at hl 0 rfl) ?_
            refine lv_bipush (v := nI 7) hx hb dX5_give_18 (by decide) ?_
            refine lv_icmp_ge (tgt := 47) hx hb dX5_give_20 (by decide) (fun c29 => ?_) (fun c29 => ?_)
            · first | exact absurd c29 (by decide) | exact (c29 (by decide)).elim
            · skip
              refine lv_aload_n hx hb dX5_give_23 rfl (lv_at hl 2 rfl) ?_
              refine lv_iload hx hb dX5_give_24 (lv_at hl 0 rfl) ?_
              refine lv_dup2_11 hx hb dX5_give_26 rfl rfl ?_
              refine kt_iald hx hb hK hP 12 0 rfl rfl (by omega) (by decide) dX5_give_27 ?_
              refine lv_topi (fun z30 ez30 => ?_)
              have ez30 : z30 = nI 0 := ez30.trans rfl
              subst ez30
              refine lv_iload_n hx hb dX5_give_28 rfl (lv_at hl 4 rfl) ?_
              refine lv_aload_n hx hb dX5_give_29 rfl (lv_at hl 1 rfl) ?_
              refine va_get (D := (dC, dI)) (ci := kX5) (v := .ref eo) (C := RX5) (T := TX5) (N := 11) hx hb hts hi_X5 hown hK hP 0 rfl rfl 2 (by decide) hf_11 (fun _ h9 => h9) rfl dX5_give_30 ?_
              refine lv_iload_n hx hb dX5_give_33 rfl (lv_at hl 3 rfl) ?_
              refine kt_aald hx hb hK hP 1 1 rfl rfl (by omega) (by decide) dX5_give_34 ?_
              refine lv_iload hx hb dX5_give_35 (lv_at hl 0 rfl) ?_
              refine kt_iald hx hb hK hP 8 0 rfl rfl (by omega) (by decide) dX5_give_37 ?_
              refine lv_topi (fun z31 ez31 => ?_)
              have ez31 : z31 = nI 0 := ez31.trans rfl
              subst ez31
              refine lv_imul hx hb dX5_give_38 ?_
              refine lv_topi (fun z32 ez32 => ?_)
              have ez32 : z32 = nI 0 := ez32.trans (by decide)
              subst ez32
              refine lv_iadd hx hb dX5_give_39 ?_
              refine lv_topi (fun z33 ez33 => ?_)
              have ez33 : z33 = nI 0 := ez33.trans (by decide)
              subst ez33
              refine kt_iast hx hb hK hP hD hS 12 0 rfl rfl (by omega) (by decide) dX5_give_40 (fun H locs hP hD hS => ?_)
              have hP : va_P (dC, dI) vwCl (wR th (upd z0 5 (nI 0)) mo eo er gr av ro co kl dd cI cII) H := hP
              have hD : va_D A (wR th (upd z0 5 (nI 0)) mo eo er gr av ro co kl dd cI cII) := hD
              obtain ⟨hP, hD⟩ := kt_chg z0 hP hD 12 rfl (fun j _ => upd_z0 j)
              have hP : va_P (dC, dI) vwCl (wR th z0 mo eo er gr av ro co kl dd cI cII) H := hP
              have hD : va_D A (wR th z0 mo eo er gr av ro co kl dd cI cII) := hD
              refine lv_iinc (v := nI 6) (lv' := [(4, .int (nI 6)), (0, .ref mo), (1, .ref co), (2, .int (nI 6)), (3, .int (nI 1))]) hx hb dX5_give_41 hl (k := 0) rfl (kt_inc 5) (by decide) rfl (fun ls hl => ?_)
              refine lv_goto (tgt := 16) hx hb dX5_give_44 (by decide) ?_
              refine lv_iload hx hb dX5_give_16 (lv_at hl 0 rfl) ?_
              refine lv_bipush (v := nI 7) hx hb dX5_give_18 (by decide) ?_
              refine lv_icmp_ge (tgt := 47) hx hb dX5_give_20 (by decide) (fun c34 => ?_) (fun c34 => ?_)
              · first | exact absurd c34 (by decide) | exact (c34 (by decide)).elim
              · skip
                refine lv_aload_n hx hb dX5_give_23 rfl (lv_at hl 2 rfl) ?_
                refine lv_iload hx hb dX5_give_24 (lv_at hl 0 rfl) ?_
                refine lv_dup2_11 hx hb dX5_give_26 rfl rfl ?_
                refine kt_iald hx hb hK hP 12 0 rfl rfl (by omega) (by decide) dX5_give_27 ?_
                refine lv_topi (fun z35 ez35 => ?_)
                have ez35 : z35 = nI 0 := ez35.trans rfl
                subst ez35
                refine lv_iload_n hx hb dX5_give_28 rfl (lv_at hl 4 rfl) ?_
                refine lv_aload_n hx hb dX5_give_29 rfl (lv_at hl 1 rfl) ?_
                refine va_get (D := (dC, dI)) (ci := kX5) (v := .ref eo) (C := RX5) (T := TX5) (N := 11) hx hb hts hi_X5 hown hK hP 0 rfl rfl 2 (by decide) hf_11 (fun _ h9 => h9) rfl dX5_give_30 ?_
                refine lv_iload_n hx hb dX5_give_33 rfl (lv_at hl 3 rfl) ?_
                refine kt_aald hx hb hK hP 1 1 rfl rfl (by omega) (by decide) dX5_give_34 ?_
                refine lv_iload hx hb dX5_give_35 (lv_at hl 0 rfl) ?_
                refine kt_iald hx hb hK hP 8 0 rfl rfl (by omega) (by decide) dX5_give_37 ?_
                refine lv_topi (fun z36 ez36 => ?_)
                have ez36 : z36 = nI 0 := ez36.trans rfl
                subst ez36
                refine lv_imul hx hb dX5_give_38 ?_
                refine lv_topi (fun z37 ez37 => ?_)
                have ez37 : z37 = nI 0 := ez37.trans (by decide)
                subst ez37
                refine lv_iadd hx hb dX5_give_39 ?_
                refine lv_topi (fun z38 ez38 => ?_)
                have ez38 : z38 = nI 0 := ez38.trans (by decide)
                subst ez38
                refine kt_iast hx hb hK hP hD hS 12 0 rfl rfl (by omega) (by decide) dX5_give_40 (fun H locs hP hD hS => ?_)
                have hP : va_P (dC, dI) vwCl (wR th (upd z0 6 (nI 0)) mo eo er gr av ro co kl dd cI cII) H := hP
                have hD : va_D A (wR th (upd z0 6 (nI 0)) mo eo er gr av ro co kl dd cI cII) := hD
                obtain ⟨hP, hD⟩ := kt_chg z0 hP hD 12 rfl (fun j _ => upd_z0 j)
                have hP : va_P (dC, dI) vwCl (wR th z0 mo eo er gr av ro co kl dd cI cII) H := hP
                have hD : va_D A (wR th z0 mo eo er gr av ro co kl dd cI cII) := hD
                refine lv_iinc (v := nI 7) (lv' := [(4, .int (nI 7)), (0, .ref mo), (1, .ref co), (2, .int (nI 6)), (3, .int (nI 1))]) hx hb dX5_give_41 hl (k := 0) rfl (kt_inc 6) (by decide) rfl (fun ls hl => ?_)
                refine lv_goto (tgt := 16) hx hb dX5_give_44 (by decide) ?_
                refine lv_iload hx hb dX5_give_16 (lv_at hl 0 rfl) ?_
                refine lv_bipush (v := nI 7) hx hb dX5_give_18 (by decide) ?_
                refine lv_icmp_ge (tgt := 47) hx hb dX5_give_20 (by decide) (fun c39 => ?_) (fun c39 => ?_)
                · skip
                  refine W.widen (k := 0) (n := 0) (by omega) (by omega) ?_
                  exact kt_vret (W' := wR th z0 mo eo er gr av ro co kl dd cI cII) hx hb hr hS hP hK hD hlocks dX5_give_47
                · first | exact absurd c39 (by decide) | exact (c39 (by decide)).elim

set_option maxHeartbeats 4000000 in
set_option maxRecDepth 100000 in
theorem c_X5_give_b (l : Launch) (dC : Nat → ClassId) (dI : Nat → Nat → Nat) (cI cII cJ cJJ cZ cO : ClassId) (mo : Nat) (eo : Nat) (er : Nat → Nat) (gr : Nat) (av : Nat) (ro : Nat) (co : Nat) (kl : Nat) (dd : Nat) (th : Int32) (sz : Nat)  : Met l yX5_give wsX5_give ({ frames := 1, cells := 0, slots := 0, locals := 26 }) (va_Pc [.ref mo, .ref co, .int (nI 6), .int (-1)] (PRE (dC, dI) (tyR cI cII cJ cJJ cZ cO) (wR th z0 mo eo er gr av ro co kl dd cI cII) sz)) (va_Qv (fun (_ : Unit) => True) (fun _ tS => ATW (dC, dI) (tyR cI cII cJ cJJ cZ cO) (va_A (wR th z0 mo eo er gr av ro co kl dd cI cII) sz) (wR th z0 mo eo er gr av ro co kl dd cI cII) tS) (va_A (wR th z0 mo eo er gr av ro co kl dd cI cII) sz)) 0 0 (va_A (wR th z0 mo eo er gr av ro co kl dd cI cII) sz) := by
  refine Met.ofW (cc := cX5_give) (maxL := 5) (ret := none) (by decide) rfl ?_
  intro p e s m args below meth c s₁ B hml hv
  obtain ⟨rfl, hsz, hP, hK, hD0⟩ := hv
  have hx := B.exec
  have hb := B.bytes
  have hr := B.returns
  have hlocks := B.notSynchronized
  have hts := atoms_spec (ws := wsX5_give) B.pre
  have hown : s.vm.findClass RX5 = some m.cls := findClass_of_methodNamed B.named
  subst hsz
  have hD := hD0.self (sz := s.heap.size)
  generalize hAe : va_A (wR th z0 mo eo er gr av ro co kl dd cI cII) s.heap.size = A at hD ⊢
  have hA : ∀ q : Nat, s.heap.size ≤ q → A q := fun q h => by rw [← hAe]; exact Or.inr h
  have hS : va_S A s.heap s.heap [] := va_S.rf
  have hl := lv_entry ([.ref mo, .ref co, .int (nI 6), .int (-1)]) (n := 5) (Nat.le_of_ble_eq_true rfl)
  rw [lg_entry_eq]
  generalize (lg_sl ([.ref mo, .ref co, .int (nI 6), .int (-1)]) ++ List.replicate (5 - (lg_sl ([.ref mo, .ref co, .int (nI 6), .int (-1)])).length) Slot.unset).toArray = ls at hl ⊢
  have hl : lv_has ls 5 [(0, .ref mo), (1, .ref co), (2, .int (nI 6)), (3, .int (-1))] := hl
  have hi_X5 : ∀ w ∈ u_ws RX5 TX5 11, w ∈ wsX5_give := by decide +kernel
  have hf_11 := hts (.fieldLink RX5 11 "TopplemoorModel" "edges" "[[I") (by decide +kernel)
  refine lv_aload_n hx hb dX5_give_0 rfl (lv_at hl 1 rfl) ?_
  refine lv_iload_n hx hb dX5_give_1 rfl (lv_at hl 2 rfl) ?_
  refine lv_dup2_11 hx hb dX5_give_2 rfl rfl ?_
  refine kt_iald hx hb hK hP 12 0 rfl rfl (by omega) (by decide) dX5_give_3 ?_
  refine lv_topi (fun z1 ez1 => ?_)
  have ez1 : z1 = nI 0 := ez1.trans rfl
  subst ez1
  refine lv_iload_n hx hb dX5_give_4 rfl (lv_at hl 3 rfl) ?_
  refine lv_aload_n hx hb dX5_give_5 rfl (lv_at hl 0 rfl) ?_
  refine lv_iload_n hx hb dX5_give_6 rfl (lv_at hl 2 rfl) ?_
  refine kt_calliM (w' := wR th z0 mo eo er gr av ro co kl dd cI cII) (rest := [.int (-1), .int (nI 0), .int (nI 6), .ref co]) (As := [.int (nI 6)]) ⟨hx, hb, hml, hown, hts⟩ (c_X5_degree l dC dI cI cII cJ cJJ cZ cO mo eo er gr av ro co kl dd 6 th z0 _ (by omega)) (cwV 1 hts gX5_give_X5_degree rfl rfl rfl (by decide +kernel) ⟨Nat.le_of_ble_eq_true rfl, Nat.le_of_ble_eq_true rfl⟩) hK hP hD hS hA (List.range' 0 14) sw_R0 rfl 0 kX5 rfl rfl rfl rfl rfl hl.1 (Nat.le_of_ble_eq_true rfl) dX5_give_7 ⟨Nat.le_of_ble_eq_true rfl, Nat.le_of_ble_eq_true rfl⟩ (fun H locs hP hD hS => ?_)
  have hP : va_P (dC, dI) vwCl (wR th z0 mo eo er gr av ro co kl dd cI cII) H := hP
  have hD : va_D A (wR th z0 mo eo er gr av ro co kl dd cI cII) := hD
  refine lv_imul hx hb dX5_give_10 ?_
  refine lv_topi (fun z2 ez2 => ?_)
  have ez2 : z2 = nI 0 := ez2.trans (by decide)
  subst ez2
  refine lv_isub hx hb dX5_give_11 ?_
  refine lv_topi (fun z3 ez3 => ?_)
  have ez3 : z3 = nI 0 := ez3.trans (by decide)
  subst ez3
  refine kt_iast hx hb hK hP hD hS 12 0 rfl rfl (by omega) (by decide) dX5_give_12 (fun H locs hP hD hS => ?_)
  have hP : va_P (dC, dI) vwCl (wR th (upd z0 6 (nI 0)) mo eo er gr av ro co kl dd cI cII) H := hP
  have hD : va_D A (wR th (upd z0 6 (nI 0)) mo eo er gr av ro co kl dd cI cII) := hD
  obtain ⟨hP, hD⟩ := kt_chg z0 hP hD 12 rfl (fun j _ => upd_z0 j)
  have hP : va_P (dC, dI) vwCl (wR th z0 mo eo er gr av ro co kl dd cI cII) H := hP
  have hD : va_D A (wR th z0 mo eo er gr av ro co kl dd cI cII) := hD
  refine lv_iconst (v := nI 0) hx hb dX5_give_13 (by decide) ?_
  refine lv_istore (lv' := [(4, .int (nI 0)), (0, .ref mo), (1, .ref co), (2, .int (nI 6)), (3, .int (-1))]) hx hb dX5_give_14 hl (by decide) rfl (fun ls hl => ?_)
  refine lv_iload hx hb dX5_give_16 (lv_at hl 0 rfl) ?_
  refine lv_bipush (v := nI 7) hx hb dX5_give_18 (by decide) ?_
  refine lv_icmp_ge (tgt := 47) hx hb dX5_give_20 (by decide) (fun c4 => ?_) (fun c4 => ?_)
  · first | exact absurd c4 (by decide) | exact (c4 (by decide)).elim
  · skip
    refine lv_aload_n hx hb dX5_give_23 rfl (lv_at hl 2 rfl) ?_
    refine lv_iload hx hb dX5_give_24 (lv_at hl 0 rfl) ?_
    refine lv_dup2_11 hx hb dX5_give_26 rfl rfl ?_
    refine kt_iald hx hb hK hP 12 0 rfl rfl (by omega) (by decide) dX5_give_27 ?_
    refine lv_topi (fun z5 ez5 => ?_)
    have ez5 : z5 = nI 0 := ez5.trans rfl
    subst ez5
    refine lv_iload_n hx hb dX5_give_28 rfl (lv_at hl 4 rfl) ?_
    refine lv_aload_n hx hb dX5_give_29 rfl (lv_at hl 1 rfl) ?_
    refine va_get (D := (dC, dI)) (ci := kX5) (v := .ref eo) (C := RX5) (T := TX5) (N := 11) hx hb hts hi_X5 hown hK hP 0 rfl rfl 2 (by decide) hf_11 (fun _ h9 => h9) rfl dX5_give_30 ?_
    refine lv_iload_n hx hb dX5_give_33 rfl (lv_at hl 3 rfl) ?_
    refine kt_aald hx hb hK hP 1 1 rfl rfl (by omega) (by decide) dX5_give_34 ?_
    refine lv_iload hx hb dX5_give_35 (lv_at hl 0 rfl) ?_
    refine kt_iald hx hb hK hP 8 0 rfl rfl (by omega) (by decide) dX5_give_37 ?_
    refine lv_topi (fun z6 ez6 => ?_)
    have ez6 : z6 = nI 0 := ez6.trans rfl
    subst ez6
    refine lv_imul hx hb dX5_give_38 ?_
    refine lv_topi (fun z7 ez7 => ?_)
    have ez7 : z7 = nI 0 := ez7.trans (by decide)
    subst ez7
    refine lv_iadd hx hb dX5_give_39 ?_
    refine lv_topi (fun z8 ez8 => ?_)
    have ez8 : z8 = nI 0 := ez8.trans (by decide)
    subst ez8
    refine kt_iast hx hb hK hP hD hS 12 0 rfl rfl (by omega) (by decide) dX5_give_40 (fun H locs hP hD hS => ?_)
    have hP : va_P (dC, dI) vwCl (wR th (upd z0 0 (nI 0)) mo eo er gr av ro co kl dd cI cII) H := hP
    have hD : va_D A (wR th (upd z0 0 (nI 0)) mo eo er gr av ro co kl dd cI cII) := hD
    obtain ⟨hP, hD⟩ := kt_chg z0 hP hD 12 rfl (fun j _ => upd_z0 j)
    have hP : va_P (dC, dI) vwCl (wR th z0 mo eo er gr av ro co kl dd cI cII) H := hP
    have hD : va_D A (wR th z0 mo eo er gr av ro co kl dd cI cII) := hD
    refine lv_iinc (v := nI 1) (lv' := [(4, .int (nI 1)), (0, .ref mo), (1, .ref co), (2, .int (nI 6)), (3, .int (-1))]) hx hb dX5_give_41 hl (k := 0) rfl (kt_inc 0) (by decide) rfl (fun ls hl => ?_)
    refine lv_goto (tgt := 16) hx hb dX5_give_44 (by decide) ?_
    refine lv_iload hx hb dX5_give_16 (lv_at hl 0 rfl) ?_
    refine lv_bipush (v := nI 7) hx hb dX5_give_18 (by decide) ?_
    refine lv_icmp_ge (tgt := 47) hx hb dX5_give_20 (by decide) (fun c9 => ?_) (fun c9 => ?_)
    · first | exact absurd c9 (by decide) | exact (c9 (by decide)).elim
    · skip
      refine lv_aload_n hx hb dX5_give_23 rfl (lv_at hl 2 rfl) ?_
      refine lv_iload hx hb dX5_give_24 (lv_at hl 0 rfl) ?_
      refine lv_dup2_11 hx hb dX5_give_26 rfl rfl ?_
      refine kt_iald hx hb hK hP 12 0 rfl rfl (by omega) (by decide) dX5_give_27 ?_
      refine lv_topi (fun z10 ez10 => ?_)
      have ez10 : z10 = nI 0 := ez10.trans rfl
      subst ez10
      refine lv_iload_n hx hb dX5_give_28 rfl (lv_at hl 4 rfl) ?_
      refine lv_aload_n hx hb dX5_give_29 rfl (lv_at hl 1 rfl) ?_
      refine va_get (D := (dC, dI)) (ci := kX5) (v := .ref eo) (C := RX5) (T := TX5) (N := 11) hx hb hts hi_X5 hown hK hP 0 rfl rfl 2 (by decide) hf_11 (fun _ h9 => h9) rfl dX5_give_30 ?_
      refine lv_iload_n hx hb dX5_give_33 rfl (lv_at hl 3 rfl) ?_
      refine kt_aald hx hb hK hP 1 1 rfl rfl (by omega) (by decide) dX5_give_34 ?_
      refine lv_iload hx hb dX5_give_35 (lv_at hl 0 rfl) ?_
      refine kt_iald hx hb hK hP 8 0 rfl rfl (by omega) (by decide) dX5_give_37 ?_
      refine lv_topi (fun z11 ez11 => ?_)
      have ez11 : z11 = nI 0 := ez11.trans rfl
      subst ez11
      refine lv_imul hx hb dX5_give_38 ?_
      refine lv_topi (fun z12 ez12 => ?_)
      have ez12 : z12 = nI 0 := ez12.trans (by decide)
      subst ez12
      refine lv_iadd hx hb dX5_give_39 ?_
      refine lv_topi (fun z13 ez13 => ?_)
      have ez13 : z13 = nI 0 := ez13.trans (by decide)
      subst ez13
      refine kt_iast hx hb hK hP hD hS 12 0 rfl rfl (by omega) (by decide) dX5_give_40 (fun H locs hP hD hS => ?_)
      have hP : va_P (dC, dI) vwCl (wR th (upd z0 1 (nI 0)) mo eo er gr av ro co kl dd cI cII) H := hP
      have hD : va_D A (wR th (upd z0 1 (nI 0)) mo eo er gr av ro co kl dd cI cII) := hD
      obtain ⟨hP, hD⟩ := kt_chg z0 hP hD 12 rfl (fun j _ => upd_z0 j)
      have hP : va_P (dC, dI) vwCl (wR th z0 mo eo er gr av ro co kl dd cI cII) H := hP
      have hD : va_D A (wR th z0 mo eo er gr av ro co kl dd cI cII) := hD
      refine lv_iinc (v := nI 2) (lv' := [(4, .int (nI 2)), (0, .ref mo), (1, .ref co), (2, .int (nI 6)), (3, .int (-1))]) hx hb dX5_give_41 hl (k := 0) rfl (kt_inc 1) (by decide) rfl (fun ls hl => ?_)
      refine lv_goto (tgt := 16) hx hb dX5_give_44 (by decide) ?_
      refine lv_iload hx hb dX5_give_16 (lv_at hl 0 rfl) ?_
      refine lv_bipush (v := nI 7) hx hb dX5_give_18 (by decide) ?_
      refine lv_icmp_ge (tgt := 47) hx hb dX5_give_20 (by decide) (fun c14 => ?_) (fun c14 => ?_)
      · first | exact absurd c14 (by decide) | exact (c14 (by decide)).elim
      · skip
        refine lv_aload_n hx hb dX5_give_23 rfl (lv_at hl 2 rfl) ?_
        refine lv_iload hx hb dX5_give_24 (lv_at hl 0 rfl) ?_
        refine lv_dup2_11 hx hb dX5_give_26 rfl rfl ?_
        refine kt_iald hx hb hK hP 12 0 rfl rfl (by omega) (by decide) dX5_give_27 ?_
        refine lv_topi (fun z15 ez15 => ?_)
        have ez15 : z15 = nI 0 := ez15.trans rfl
        subst ez15
        refine lv_iload_n hx hb dX5_give_28 rfl (lv_at hl 4 rfl) ?_
        refine lv_aload_n hx hb dX5_give_29 rfl (lv_at hl 1 rfl) ?_
        refine va_get (D := (dC, dI)) (ci := kX5) (v := .ref eo) (C := RX5) (T := TX5) (N := 11) hx hb hts hi_X5 hown hK hP 0 rfl rfl 2 (by decide) hf_11 (fun _ h9 => h9) rfl dX5_give_30 ?_
        refine lv_iload_n hx hb dX5_give_33 rfl (lv_at hl 3 rfl) ?_
        refine kt_aald hx hb hK hP 1 1 rfl rfl (by omega) (by decide) dX5_give_34 ?_
        refine lv_iload hx hb dX5_give_35 (lv_at hl 0 rfl) ?_
        refine kt_iald hx hb hK hP 8 0 rfl rfl (by omega) (by decide) dX5_give_37 ?_
        refine lv_topi (fun z16 ez16 => ?_)
        have ez16 : z16 = nI 0 := ez16.trans rfl
        subst ez16
        refine lv_imul hx hb dX5_give_38 ?_
        refine lv_topi (fun z17 ez17 => ?_)
        have ez17 : z17 = nI 0 := ez17.trans (by decide)
        subst ez17
        refine lv_iadd hx hb dX5_give_39 ?_
        refine lv_topi (fun z18 ez18 => ?_)
        have ez18 : z18 = nI 0 := ez18.trans (by decide)
        subst ez18
        refine kt_iast hx hb hK hP hD hS 12 0 rfl rfl (by omega) (by decide) dX5_give_40 (fun H locs hP hD hS => ?_)
        have hP : va_P (dC, dI) vwCl (wR th (upd z0 2 (nI 0)) mo eo er gr av ro co kl dd cI cII) H := hP
        have hD : va_D A (wR th (upd z0 2 (nI 0)) mo eo er gr av ro co kl dd cI cII) := hD
        obtain ⟨hP, hD⟩ := kt_chg z0 hP hD 12 rfl (fun j _ => upd_z0 j)
        have hP : va_P (dC, dI) vwCl (wR th z0 mo eo er gr av ro co kl dd cI cII) H := hP
        have hD : va_D A (wR th z0 mo eo er gr av ro co kl dd cI cII) := hD
        refine lv_iinc (v := nI 3) (lv' := [(4, .int (nI 3)), (0, .ref mo), (1, .ref co), (2, .int (nI 6)), (3, .int (-1))]) hx hb dX5_give_41 hl (k := 0) rfl (kt_inc 2) (by decide) rfl (fun ls hl => ?_)
        refine lv_goto (tgt := 16) hx hb dX5_give_44 (by decide) ?_
        refine lv_iload hx hb dX5_give_16 (lv_at hl 0 rfl) ?_
        refine lv_bipush (v := nI 7) hx hb dX5_give_18 (by decide) ?_
        refine lv_icmp_ge (tgt := 47) hx hb dX5_give_20 (by decide) (fun c19 => ?_) (fun c19 => ?_)
        · first | exact absurd c19 (by decide) | exact (c19 (by decide)).elim
        · skip
          refine lv_aload_n hx hb dX5_give_23 rfl (lv_at hl 2 rfl) ?_
          refine lv_iload hx hb dX5_give_24 (lv_at hl 0 rfl) ?_
          refine lv_dup2_11 hx hb dX5_give_26 rfl rfl ?_
          refine kt_iald hx hb hK hP 12 0 rfl rfl (by omega) (by decide) dX5_give_27 ?_
          refine lv_topi (fun z20 ez20 => ?_)
          have ez20 : z20 = nI 0 := ez20.trans rfl
          subst ez20
          refine lv_iload_n hx hb dX5_give_28 rfl (lv_at hl 4 rfl) ?_
          refine lv_aload_n hx hb dX5_give_29 rfl (lv_at hl 1 rfl) ?_
          refine va_get (D := (dC, dI)) (ci := kX5) (v := .ref eo) (C := RX5) (T := TX5) (N := 11) hx hb hts hi_X5 hown hK hP 0 rfl rfl 2 (by decide) hf_11 (fun _ h9 => h9) rfl dX5_give_30 ?_
          refine lv_iload_n hx hb dX5_give_33 rfl (lv_at hl 3 rfl) ?_
          refine kt_aald hx hb hK hP 1 1 rfl rfl (by omega) (by decide) dX5_give_34 ?_
          refine lv_iload hx hb dX5_give_35 (lv_at hl 0 rfl) ?_
          refine kt_iald hx hb hK hP 8 0 rfl rfl (by omega) (by decide) dX5_give_37 ?_
          refine lv_topi (fun z21 ez21 => ?_)
          have ez21 : z21 = nI 0 := ez21.trans rfl
          subst ez21
          refine lv_imul hx hb dX5_give_38 ?_
          refine lv_topi (fun z22 ez22 => ?_)
          have ez22 : z22 = nI 0 := ez22.trans (by decide)
          subst ez22
          refine lv_iadd hx hb dX5_give_39 ?_
          refine lv_topi (fun z23 ez23 => ?_)
          have ez23 : z23 = nI 0 := ez23.trans (by decide)
          subst ez23
          refine kt_iast hx hb hK hP hD hS 12 0 rfl rfl (by omega) (by decide) dX5_give_40 (fun H locs hP hD hS => ?_)
          have hP : va_P (dC, dI) vwCl (wR th (upd z0 3 (nI 0)) mo eo er gr av ro co kl dd cI cII) H := hP
          have hD : va_D A (wR th (upd z0 3 (nI 0)) mo eo er gr av ro co kl dd cI cII) := hD
          obtain ⟨hP, hD⟩ := kt_chg z0 hP hD 12 rfl (fun j _ => upd_z0 j)
          have hP : va_P (dC, dI) vwCl (wR th z0 mo eo er gr av ro co kl dd cI cII) H := hP
          have hD : va_D A (wR th z0 mo eo er gr av ro co kl dd cI cII) := hD
          refine lv_iinc (v := nI 4) (lv' := [(4, .int (nI 4)), (0, .ref mo), (1, .ref co), (2, .int (nI 6)), (3, .int (-1))]) hx hb dX5_give_41 hl (k := 0) rfl (kt_inc 3) (by decide) rfl (fun ls hl => ?_)
          refine lv_goto (tgt := 16) hx hb dX5_give_44 (by decide) ?_
          refine lv_iload hx hb dX5_give_16 (lv_at hl 0 rfl) ?_
          refine lv_bipush (v := nI 7) hx hb dX5_give_18 (by decide) ?_
          refine lv_icmp_ge (tgt := 47) hx hb dX5_give_20 (by decide) (fun c24 => ?_) (fun c24 => ?_)
          · first | exact absurd c24 (by decide) | exact (c24 (by decide)).elim
          · skip
            refine lv_aload_n hx hb dX5_give_23 rfl (lv_at hl 2 rfl) ?_
            refine lv_iload hx hb dX5_give_24 (lv_at hl 0 rfl) ?_
            refine lv_dup2_11 hx hb dX5_give_26 rfl rfl ?_
            refine kt_iald hx hb hK hP 12 0 rfl rfl (by omega) (by decide) dX5_give_27 ?_
            refine lv_topi (fun z25 ez25 => ?_)
            have ez25 : z25 = nI 0 := ez25.trans rfl
            subst ez25
            refine lv_iload_n hx hb dX5_give_28 rfl (lv_at hl 4 rfl) ?_
            refine lv_aload_n hx hb dX5_give_29 rfl (lv_at hl 1 rfl) ?_
            refine va_get (D := (dC, dI)) (ci := kX5) (v := .ref eo) (C := RX5) (T := TX5) (N := 11) hx hb hts hi_X5 hown hK hP 0 rfl rfl 2 (by decide) hf_11 (fun _ h9 => h9) rfl dX5_give_30 ?_
            refine lv_iload_n hx hb dX5_give_33 rfl (lv_at hl 3 rfl) ?_
            refine kt_aald hx hb hK hP 1 1 rfl rfl (by omega) (by decide) dX5_give_34 ?_
            refine lv_iload hx hb dX5_give_35 (lv_at hl 0 rfl) ?_
            refine kt_iald hx hb hK hP 8 0 rfl rfl (by omega) (by decide) dX5_give_37 ?_
            refine lv_topi (fun z26 ez26 => ?_)
            have ez26 : z26 = nI 0 := ez26.trans rfl
            subst ez26
            refine lv_imul hx hb dX5_give_38 ?_
            refine lv_topi (fun z27 ez27 => ?_)
            have ez27 : z27 = nI 0 := ez27.trans (by decide)
            subst ez27
            refine lv_iadd hx hb dX5_give_39 ?_
            refine lv_topi (fun z28 ez28 => ?_)
            have ez28 : z28 = nI 0 := ez28.trans (by decide)
            subst ez28
            refine kt_iast hx hb hK hP hD hS 12 0 rfl rfl (by omega) (by decide) dX5_give_40 (fun H locs hP hD hS => ?_)
            have hP : va_P (dC, dI) vwCl (wR th (upd z0 4 (nI 0)) mo eo er gr av ro co kl dd cI cII) H := hP
            have hD : va_D A (wR th (upd z0 4 (nI 0)) mo eo er gr av ro co kl dd cI cII) := hD
            obtain ⟨hP, hD⟩ := kt_chg z0 hP hD 12 rfl (fun j _ => upd_z0 j)
            have hP : va_P (dC, dI) vwCl (wR th z0 mo eo er gr av ro co kl dd cI cII) H := hP
            have hD : va_D A (wR th z0 mo eo er gr av ro co kl dd cI cII) := hD
            refine lv_iinc (v := nI 5) (lv' := [(4, .int (nI 5)), (0, .ref mo), (1, .ref co), (2, .int (nI 6)), (3, .int (-1))]) hx hb dX5_give_41 hl (k := 0) rfl (kt_inc 4) (by decide) rfl (fun ls hl => ?_)
            refine lv_goto (tgt := 16) hx hb dX5_give_44 (by decide) ?_
            refine lv_iload hx hb dX5_give_16 (lv_at hl 0 rfl) ?_
            refine lv_bipush (v := nI 7) hx hb dX5_give_18 (by decide) ?_
            refine lv_icmp_ge (tgt := 47) hx hb dX5_give_20 (by decide) (fun c29 => ?_) (fun c29 => ?_)
            · first | exact absurd c29 (by decide) | exact (c29 (by decide)).elim
            · skip
              refine lv_aload_n hx hb dX5_give_23 rfl (lv_at hl 2 rfl) ?_
              refine lv_iload hx hb dX5_give_24 (lv_at hl 0 rfl) ?_
              refine lv_dup2_11 hx hb dX5_give_26 rfl rfl ?_
              refine kt_iald hx hb hK hP 12 0 rfl rfl (by omega) (by decide) dX5_give_27 ?_
              refine lv_topi (fun z30 ez30 => ?_)
              have ez30 : z30 = nI 0 := ez30.trans rfl
              subst ez30
              refine lv_iload_n hx hb dX5_give_28 rfl (lv_at hl 4 rfl) ?_
              refine lv_aload_n hx hb dX5_give_29 rfl (lv_at hl 1 rfl) ?_
              refine va_get (D := (dC, dI)) (ci := kX5) (v := .ref eo) (C := RX5) (T := TX5) (N := 11) hx hb hts hi_X5 hown hK hP 0 rfl rfl 2 (by decide) hf_11 (fun _ h9 => h9) rfl dX5_give_30 ?_
              refine lv_iload_n hx hb dX5_give_33 rfl (lv_at hl 3 rfl) ?_
              refine kt_aald hx hb hK hP 1 1 rfl rfl (by omega) (by decide) dX5_give_34 ?_
              refine lv_iload hx hb dX5_give_35 (lv_at hl 0 rfl) ?_
              refine kt_iald hx hb hK hP 8 0 rfl rfl (by omega) (by decide) dX5_give_37 ?_
              refine lv_topi (fun z31 ez31 => ?_)
              have ez31 : z31 = nI 0 := ez31.trans rfl
              subst ez31
              refine lv_imul hx hb dX5_give_38 ?_
              refine lv_topi (fun z32 ez32 => ?_)
              have ez32 : z32 = nI 0 := ez32.trans (by decide)
              subst ez32
              refine lv_iadd hx hb dX5_give_39 ?_
              refine lv_topi (fun z33 ez33 => ?_)
              have ez33 : z33 = nI 0 := ez33.trans (by decide)
              subst ez33
              refine kt_iast hx hb hK hP hD hS 12 0 rfl rfl (by omega) (by decide) dX5_give_40 (fun H locs hP hD hS => ?_)
              have hP : va_P (dC, dI) vwCl (wR th (upd z0 5 (nI 0)) mo eo er gr av ro co kl dd cI cII) H := hP
              have hD : va_D A (wR th (upd z0 5 (nI 0)) mo eo er gr av ro co kl dd cI cII) := hD
              obtain ⟨hP, hD⟩ := kt_chg z0 hP hD 12 rfl (fun j _ => upd_z0 j)
              have hP : va_P (dC, dI) vwCl (wR th z0 mo eo er gr av ro co kl dd cI cII) H := hP
              have hD : va_D A (wR th z0 mo eo er gr av ro co kl dd cI cII) := hD
              refine lv_iinc (v := nI 6) (lv' := [(4, .int (nI 6)), (0, .ref mo), (1, .ref co), (2, .int (nI 6)), (3, .int (-1))]) hx hb dX5_give_41 hl (k := 0) rfl (kt_inc 5) (by decide) rfl (fun ls hl => ?_)
              refine lv_goto (tgt := 16) hx hb dX5_give_44 (by decide) ?_
              refine lv_iload hx hb dX5_give_16 (lv_at hl 0 rfl) ?_
              refine lv_bipush (v := nI 7) hx hb dX5_give_18 (by decide) ?_
              refine lv_icmp_ge (tgt := 47) hx hb dX5_give_20 (by decide) (fun c34 => ?_) (fun c34 => ?_)
              · first | exact absurd c34 (by decide) | exact (c34 (by decide)).elim
              · skip
                refine lv_aload_n hx hb dX5_give_23 rfl (lv_at hl 2 rfl) ?_
                refine lv_iload hx hb dX5_give_24 (lv_at hl 0 rfl) ?_
                refine lv_dup2_11 hx hb dX5_give_26 rfl rfl ?_
                refine kt_iald hx hb hK hP 12 0 rfl rfl (by omega) (by decide) dX5_give_27 ?_
                refine lv_topi (fun z35 ez35 => ?_)
                have ez35 : z35 = nI 0 := ez35.trans rfl
                subst ez35
                refine lv_iload_n hx hb dX5_give_28 rfl (lv_at hl 4 rfl) ?_
                refine lv_aload_n hx hb dX5_give_29 rfl (lv_at hl 1 rfl) ?_
                refine va_get (D := (dC, dI)) (ci := kX5) (v := .ref eo) (C := RX5) (T := TX5) (N := 11) hx hb hts hi_X5 hown hK hP 0 rfl rfl 2 (by decide) hf_11 (fun _ h9 => h9) rfl dX5_give_30 ?_
                refine lv_iload_n hx hb dX5_give_33 rfl (lv_at hl 3 rfl) ?_
                refine kt_aald hx hb hK hP 1 1 rfl rfl (by omega) (by decide) dX5_give_34 ?_
                refine lv_iload hx hb dX5_give_35 (lv_at hl 0 rfl) ?_
                refine kt_iald hx hb hK hP 8 0 rfl rfl (by omega) (by decide) dX5_give_37 ?_
                refine lv_topi (fun z36 ez36 => ?_)
                have ez36 : z36 = nI 0 := ez36.trans rfl
                subst ez36
                refine lv_imul hx hb dX5_give_38 ?_
                refine lv_topi (fun z37 ez37 => ?_)
                have ez37 : z37 = nI 0 := ez37.trans (by decide)
                subst ez37
                refine lv_iadd hx hb dX5_give_39 ?_
                refine lv_topi (fun z38 ez38 => ?_)
                have ez38 : z38 = nI 0 := ez38.trans (by decide)
                subst ez38
                refine kt_iast hx hb hK hP hD hS 12 0 rfl rfl (by omega) (by decide) dX5_give_40 (fun H locs hP hD hS => ?_)
                have hP : va_P (dC, dI) vwCl (wR th (upd z0 6 (nI 0)) mo eo er gr av ro co kl dd cI cII) H := hP
                have hD : va_D A (wR th (upd z0 6 (nI 0)) mo eo er gr av ro co kl dd cI cII) := hD
                obtain ⟨hP, hD⟩ := kt_chg z0 hP hD 12 rfl (fun j _ => upd_z0 j)
                have hP : va_P (dC, dI) vwCl (wR th z0 mo eo er gr av ro co kl dd cI cII) H := hP
                have hD : va_D A (wR th z0 mo eo er gr av ro co kl dd cI cII) := hD
                refine lv_iinc (v := nI 7) (lv' := [(4, .int (nI 7)), (0, .ref mo), (1, .ref co), (2, .int (nI 6)), (3, .int (-1))]) hx hb dX5_give_41 hl (k := 0) rfl (kt_inc 6) (by decide) rfl (fun ls hl => ?_)
                refine lv_goto (tgt := 16) hx hb dX5_give_44 (by decide) ?_
                refine lv_iload hx hb dX5_give_16 (lv_at hl 0 rfl) ?_
                refine lv_bipush (v := nI 7) hx hb dX5_give_18 (by decide) ?_
                refine lv_icmp_ge (tgt := 47) hx hb dX5_give_20 (by decide) (fun c39 => ?_) (fun c39 => ?_)
                · skip
                  refine W.widen (k := 0) (n := 0) (by omega) (by omega) ?_
                  exact kt_vret (W' := wR th z0 mo eo er gr av ro co kl dd cI cII) hx hb hr hS hP hK hD hlocks dX5_give_47
                · first | exact absurd c39 (by decide) | exact (c39 (by decide)).elim

set_option maxHeartbeats 4000000 in
set_option maxRecDepth 100000 in
theorem t_lend_node (l : Launch) (dC : Nat → ClassId) (dI : Nat → Nat → Nat) (cI cII cJ cJJ cZ cO : ClassId) (mo : Nat) (eo : Nat) (er : Nat → Nat) (gr : Nat) (av : Nat) (ro : Nat) (co : Nat) (kl : Nat) (dd : Nat) (v : Int32) (q : Int32) (sz : Nat) (h : ¬ v = nI 6) : Met l yX5_lend wsX5_lend ({ frames := 3, cells := 0, slots := 0, locals := 64 }) (va_Pc [.ref mo, .int v, .int q] (PRE (dC, dI) (tyR cI cII cJ cJJ cZ cO) (wR (nI 0) z0 mo eo er gr av ro co kl dd cI cII) sz)) (va_Qi (fun (r' : Int32) (_ : List Value) => r' = nI 0) (fun (u : List Value) tS => ATW (dC, dI) (tyR cI cII cJ cJJ cZ cO) (va_A (wR (nI 0) z0 mo eo er gr av ro co kl dd cI cII) sz) [(mo, .inr (kX5, .int (nI 1) :: u))] tS) (va_A (wR (nI 0) z0 mo eo er gr av ro co kl dd cI cII) sz)) 0 0 (va_A (wR (nI 0) z0 mo eo er gr av ro co kl dd cI cII) sz) := by
  refine Met.ofW (cc := cX5_lend) (maxL := 3) (ret := (some .int)) (by decide) rfl ?_
  intro p e s m args below meth c s₁ B hml hv
  obtain ⟨rfl, hsz, hP, hK, hD0⟩ := hv
  have hx := B.exec
  have hb := B.bytes
  have hr := B.returns
  have hlocks := B.notSynchronized
  have hts := atoms_spec (ws := wsX5_lend) B.pre
  have hown : s.vm.findClass RX5 = some m.cls := findClass_of_methodNamed B.named
  subst hsz
  have hD := hD0.self (sz := s.heap.size)
  generalize hAe : va_A (wR (nI 0) z0 mo eo er gr av ro co kl dd cI cII) s.heap.size = A at hD ⊢
  have hA : ∀ q : Nat, s.heap.size ≤ q → A q := fun q h => by rw [← hAe]; exact Or.inr h
  have hS : va_S A s.heap s.heap [] := va_S.rf
  have hl := lv_entry ([.ref mo, .int v, .int q]) (n := 3) (Nat.le_of_ble_eq_true rfl)
  rw [lg_entry_eq]
  generalize (lg_sl ([.ref mo, .int v, .int q]) ++ List.replicate (3 - (lg_sl ([.ref mo, .int v, .int q])).length) Slot.unset).toArray = ls at hl ⊢
  have hl : lv_has ls 3 [(0, .ref mo), (1, .int v), (2, .int q)] := hl
  refine lv_aload_n hx hb dX5_lend_0 rfl (lv_at hl 0 rfl) ?_
  refine lv_aload_n hx hb dX5_lend_1 rfl (lv_at hl 0 rfl) ?_
  refine lv_iload_n hx hb dX5_lend_2 rfl (lv_at hl 1 rfl) ?_
  refine kt_calliM (w' := wR (nI 0) z0 mo eo er gr av ro co kl dd cI cII) (rest := [.ref mo]) (As := [.int v]) ⟨hx, hb, hml, hown, hts⟩ (c_X5_isNoNode_y l dC dI cI cII cJ cJJ cZ cO mo eo er gr av ro co kl dd v (nI 0) _ (h)) (cwV 1 hts gX5_lend_X5_isNoNode rfl rfl rfl (by decide +kernel) ⟨Nat.le_of_ble_eq_true rfl, Nat.le_of_ble_eq_true rfl⟩) hK hP hD hS hA (List.range' 0 14) sw_R0 rfl 0 kX5 rfl rfl rfl rfl rfl hl.1 (Nat.le_of_ble_eq_true rfl) dX5_lend_3 ⟨Nat.le_of_ble_eq_true rfl, Nat.le_of_ble_eq_true rfl⟩ (fun H locs hP hD hS => ?_)
  have hP : va_P (dC, dI) vwCl (wR (nI 0) z0 mo eo er gr av ro co kl dd cI cII) H := hP
  have hD : va_D A (wR (nI 0) z0 mo eo er gr av ro co kl dd cI cII) := hD
  refine lv_iconst (v := nI 1) hx hb dX5_lend_6 (by decide) ?_
  refine kt_calliM (w' := wR (nI 1) z0 mo eo er gr av ro co kl dd cI cII) (rest := []) (As := [.int (nI 1), .int (nI 1)]) ⟨hx, hb, hml, hown, hts⟩ (c_X5_start_1 l dC dI cI cII cJ cJJ cZ cO mo eo er gr av ro co kl dd _ ) (cwV 2 hts gX5_lend_X5_start rfl rfl rfl (by decide +kernel) ⟨Nat.le_of_ble_eq_true rfl, Nat.le_of_ble_eq_true rfl⟩) hK hP hD hS hA (List.range' 0 14) sw_R0 rfl 0 kX5 rfl rfl rfl rfl rfl hl.1 (Nat.le_of_ble_eq_true rfl) dX5_lend_7 ⟨Nat.le_of_ble_eq_true rfl, Nat.le_of_ble_eq_true rfl⟩ (fun H locs hP hD hS => ?_)
  have hP : va_P (dC, dI) vwCl (wR (nI 1) z0 mo eo er gr av ro co kl dd cI cII) H := hP
  have hD : va_D A (wR (nI 1) z0 mo eo er gr av ro co kl dd cI cII) := hD
  refine lv_if_eq (tgt := 15) hx hb dX5_lend_10 (by decide) (fun c1 => ?_) (fun c1 => ?_)
  · first | exact absurd c1 (by decide) | exact (c1 (by decide)).elim
  · skip
    refine lv_iconst (v := nI 0) hx hb dX5_lend_13 (by decide) ?_
    refine W.widen (k := 0) (n := 0) (by omega) (by omega) ?_
    have hP := kt_sub (wC := [(mo, .inr (kX5, .int (nI 1) :: [.int (nI 0), .ref eo, .ref gr, .ref av, .ref ro, .ref co, .ref kl, .int (nI 0), .int (nI 0), .int (nI 0)]))]) hP [0] rfl
    have hD := hD.sub (ws' := [(mo, .inr (kX5, .int (nI 1) :: [.int (nI 0), .ref eo, .ref gr, .ref av, .ref ro, .ref co, .ref kl, .int (nI 0), .int (nI 0), .int (nI 0)]))]) [0] rfl rfl
    exact kt_iretU (mo := mo) (th := (nI 1)) (vs := [.int (nI 0), .ref eo, .ref gr, .ref av, .ref ro, .ref co, .ref kl, .int (nI 0), .int (nI 0), .int (nI 0)]) hx hb hr hS hP hK hD (by decide) hlocks dX5_lend_14

set_option maxHeartbeats 4000000 in
set_option maxRecDepth 100000 in
theorem t_lend (l : Launch) (dC : Nat → ClassId) (dI : Nat → Nat → Nat) (cI cII cJ cJJ cZ cO : ClassId) (mo : Nat) (eo : Nat) (er : Nat → Nat) (gr : Nat) (av : Nat) (ro : Nat) (co : Nat) (kl : Nat) (dd : Nat) (q : Int32) (sz : Nat)  : Met l yX5_lend wsX5_lend ({ frames := 2, cells := 0, slots := 0, locals := 50 }) (va_Pc [.ref mo, .int (nI 6), .int q] (PRE (dC, dI) (tyR cI cII cJ cJJ cZ cO) (wR (nI 0) z0 mo eo er gr av ro co kl dd cI cII) sz)) (va_Qi (fun (r' : Int32) (_ : List Value) => r' = nI 0) (fun (u : List Value) tS => ATW (dC, dI) (tyR cI cII cJ cJJ cZ cO) (va_A (wR (nI 0) z0 mo eo er gr av ro co kl dd cI cII) sz) [(mo, .inr (kX5, .int (nI 0) :: u))] tS) (va_A (wR (nI 0) z0 mo eo er gr av ro co kl dd cI cII) sz)) 0 0 (va_A (wR (nI 0) z0 mo eo er gr av ro co kl dd cI cII) sz) := by
  refine Met.ofW (cc := cX5_lend) (maxL := 3) (ret := (some .int)) (by decide) rfl ?_
  intro p e s m args below meth c s₁ B hml hv
  obtain ⟨rfl, hsz, hP, hK, hD0⟩ := hv
  have hx := B.exec
  have hb := B.bytes
  have hr := B.returns
  have hlocks := B.notSynchronized
  have hts := atoms_spec (ws := wsX5_lend) B.pre
  have hown : s.vm.findClass RX5 = some m.cls := findClass_of_methodNamed B.named
  subst hsz
  have hD := hD0.self (sz := s.heap.size)
  generalize hAe : va_A (wR (nI 0) z0 mo eo er gr av ro co kl dd cI cII) s.heap.size = A at hD ⊢
  have hA : ∀ q : Nat, s.heap.size ≤ q → A q := fun q h => by rw [← hAe]; exact Or.inr h
  have hS : va_S A s.heap s.heap [] := va_S.rf
  have hl := lv_entry ([.ref mo, .int (nI 6), .int q]) (n := 3) (Nat.le_of_ble_eq_true rfl)
  rw [lg_entry_eq]
  generalize (lg_sl ([.ref mo, .int (nI 6), .int q]) ++ List.replicate (3 - (lg_sl ([.ref mo, .int (nI 6), .int q])).length) Slot.unset).toArray = ls at hl ⊢
  have hl : lv_has ls 3 [(0, .ref mo), (1, .int (nI 6)), (2, .int q)] := hl
  have hi_X5 : ∀ w ∈ u_ws RX5 TX5 11, w ∈ wsX5_lend := by decide +kernel
  have hf_24 := hts (.fieldLink RX5 24 "TopplemoorModel" "coins" "[I") (by decide +kernel)
  refine lv_aload_n hx hb dX5_lend_0 rfl (lv_at hl 0 rfl) ?_
  refine lv_aload_n hx hb dX5_lend_1 rfl (lv_at hl 0 rfl) ?_
  refine lv_iload_n hx hb dX5_lend_2 rfl (lv_at hl 1 rfl) ?_
  refine kt_calliM (w' := wR (nI 0) z0 mo eo er gr av ro co kl dd cI cII) (rest := [.ref mo]) (As := [.int (nI 6)]) ⟨hx, hb, hml, hown, hts⟩ (c_X5_isNoNode_n l dC dI cI cII cJ cJJ cZ cO mo eo er gr av ro co kl dd (nI 0) _ ) (cwV 1 hts gX5_lend_X5_isNoNode rfl rfl rfl (by decide +kernel) ⟨Nat.le_of_ble_eq_true rfl, Nat.le_of_ble_eq_true rfl⟩) hK hP hD hS hA (List.range' 0 14) sw_R0 rfl 0 kX5 rfl rfl rfl rfl rfl hl.1 (Nat.le_of_ble_eq_true rfl) dX5_lend_3 ⟨Nat.le_of_ble_eq_true rfl, Nat.le_of_ble_eq_true rfl⟩ (fun H locs hP hD hS => ?_)
  have hP : va_P (dC, dI) vwCl (wR (nI 0) z0 mo eo er gr av ro co kl dd cI cII) H := hP
  have hD : va_D A (wR (nI 0) z0 mo eo er gr av ro co kl dd cI cII) := hD
  refine lv_iconst (v := nI 1) hx hb dX5_lend_6 (by decide) ?_
  refine kt_calliM (w' := wR (nI 0) z0 mo eo er gr av ro co kl dd cI cII) (rest := []) (As := [.int (nI 0), .int (nI 1)]) ⟨hx, hb, hml, hown, hts⟩ (c_X5_start_0 l dC dI cI cII cJ cJJ cZ cO mo eo er gr av ro co kl dd _ ) (cwV 2 hts gX5_lend_X5_start rfl rfl rfl (by decide +kernel) ⟨Nat.le_of_ble_eq_true rfl, Nat.le_of_ble_eq_true rfl⟩) hK hP hD hS hA (List.range' 0 14) sw_R0 rfl 0 kX5 rfl rfl rfl rfl rfl hl.1 (Nat.le_of_ble_eq_true rfl) dX5_lend_7 ⟨Nat.le_of_ble_eq_true rfl, Nat.le_of_ble_eq_true rfl⟩ (fun H locs hP hD hS => ?_)
  have hP : va_P (dC, dI) vwCl (wR (nI 0) z0 mo eo er gr av ro co kl dd cI cII) H := hP
  have hD : va_D A (wR (nI 0) z0 mo eo er gr av ro co kl dd cI cII) := hD
  refine lv_if_eq (tgt := 15) hx hb dX5_lend_10 (by decide) (fun c1 => ?_) (fun c1 => ?_)
  · skip
    refine lv_aload_n hx hb dX5_lend_15 rfl (lv_at hl 0 rfl) ?_
    refine lv_aload_n hx hb dX5_lend_16 rfl (lv_at hl 0 rfl) ?_
    refine va_get (D := (dC, dI)) (ci := kX5) (v := .ref co) (C := RX5) (T := TX5) (N := 11) hx hb hts hi_X5 hown hK hP 0 rfl rfl 6 (by decide) hf_24 (fun _ h9 => h9) rfl dX5_lend_17 ?_
    refine lv_iload_n hx hb dX5_lend_20 rfl (lv_at hl 1 rfl) ?_
    refine lv_iload_n hx hb dX5_lend_21 rfl (lv_at hl 2 rfl) ?_
    refine lv_if_eq (tgt := 29) hx hb dX5_lend_22 (by decide) (fun c2 => ?_) (fun c2 => ?_)
    · skip
      refine lv_iconst (v := nI 1) hx hb dX5_lend_29 (by decide) ?_
      refine kt_callvM (w' := wR (nI 0) z0 mo eo er gr av ro co kl dd cI cII) (rest := []) (As := [.ref co, .int (nI 6), .int (nI 1)]) ⟨hx, hb, hml, hown, hts⟩ (c_X5_give_l l dC dI cI cII cJ cJJ cZ cO mo eo er gr av ro co kl dd (nI 0) _ ) (cwV 3 hts gX5_lend_X5_give rfl rfl rfl (by decide +kernel) ⟨Nat.le_of_ble_eq_true rfl, Nat.le_of_ble_eq_true rfl⟩) hK hP hD hS hA (List.range' 0 14) sw_R0 rfl 0 kX5 rfl rfl rfl rfl rfl hl.1 (Nat.le_of_ble_eq_true rfl) dX5_lend_30 ⟨Nat.le_of_ble_eq_true rfl, Nat.le_of_ble_eq_true rfl⟩ (fun H locs hP hD hS => ?_)
      have hP : va_P (dC, dI) vwCl (wR (nI 0) z0 mo eo er gr av ro co kl dd cI cII) H := hP
      have hD : va_D A (wR (nI 0) z0 mo eo er gr av ro co kl dd cI cII) := hD
      refine lv_aload_n hx hb dX5_lend_33 rfl (lv_at hl 0 rfl) ?_
      refine va_get (D := (dC, dI)) (ci := kX5) (v := .ref co) (C := RX5) (T := TX5) (N := 11) hx hb hts hi_X5 hown hK hP 0 rfl rfl 6 (by decide) hf_24 (fun _ h9 => h9) rfl dX5_lend_34 ?_
      refine lv_iload_n hx hb dX5_lend_37 rfl (lv_at hl 1 rfl) ?_
      refine kt_iald hx hb hK hP 12 0 rfl rfl (by omega) (by decide) dX5_lend_38 ?_
      refine lv_topi (fun z3 ez3 => ?_)
      have ez3 : z3 = nI 0 := ez3.trans rfl
      subst ez3
      refine W.widen (k := 0) (n := 0) (by omega) (by omega) ?_
      have hP := kt_sub (wC := [(mo, .inr (kX5, .int (nI 0) :: [.int (nI 0), .ref eo, .ref gr, .ref av, .ref ro, .ref co, .ref kl, .int (nI 0), .int (nI 0), .int (nI 0)]))]) hP [0] rfl
      have hD := hD.sub (ws' := [(mo, .inr (kX5, .int (nI 0) :: [.int (nI 0), .ref eo, .ref gr, .ref av, .ref ro, .ref co, .ref kl, .int (nI 0), .int (nI 0), .int (nI 0)]))]) [0] rfl rfl
      exact kt_iretU (mo := mo) (th := (nI 0)) (vs := [.int (nI 0), .ref eo, .ref gr, .ref av, .ref ro, .ref co, .ref kl, .int (nI 0), .int (nI 0), .int (nI 0)]) hx hb hr hS hP hK hD (by decide) hlocks dX5_lend_39
    · skip
      refine lv_iconst (v := (-1)) hx hb dX5_lend_25 (by decide) ?_
      refine lv_goto (tgt := 30) hx hb dX5_lend_26 (by decide) ?_
      refine kt_callvM (w' := wR (nI 0) z0 mo eo er gr av ro co kl dd cI cII) (rest := []) (As := [.ref co, .int (nI 6), .int (-1)]) ⟨hx, hb, hml, hown, hts⟩ (c_X5_give_b l dC dI cI cII cJ cJJ cZ cO mo eo er gr av ro co kl dd (nI 0) _ ) (cwV 3 hts gX5_lend_X5_give rfl rfl rfl (by decide +kernel) ⟨Nat.le_of_ble_eq_true rfl, Nat.le_of_ble_eq_true rfl⟩) hK hP hD hS hA (List.range' 0 14) sw_R0 rfl 0 kX5 rfl rfl rfl rfl rfl hl.1 (Nat.le_of_ble_eq_true rfl) dX5_lend_30 ⟨Nat.le_of_ble_eq_true rfl, Nat.le_of_ble_eq_true rfl⟩ (fun H locs hP hD hS => ?_)
      have hP : va_P (dC, dI) vwCl (wR (nI 0) z0 mo eo er gr av ro co kl dd cI cII) H := hP
      have hD : va_D A (wR (nI 0) z0 mo eo er gr av ro co kl dd cI cII) := hD
      refine lv_aload_n hx hb dX5_lend_33 rfl (lv_at hl 0 rfl) ?_
      refine va_get (D := (dC, dI)) (ci := kX5) (v := .ref co) (C := RX5) (T := TX5) (N := 11) hx hb hts hi_X5 hown hK hP 0 rfl rfl 6 (by decide) hf_24 (fun _ h9 => h9) rfl dX5_lend_34 ?_
      refine lv_iload_n hx hb dX5_lend_37 rfl (lv_at hl 1 rfl) ?_
      refine kt_iald hx hb hK hP 12 0 rfl rfl (by omega) (by decide) dX5_lend_38 ?_
      refine lv_topi (fun z4 ez4 => ?_)
      have ez4 : z4 = nI 0 := ez4.trans rfl
      subst ez4
      refine W.widen (k := 0) (n := 0) (by omega) (by omega) ?_
      have hP := kt_sub (wC := [(mo, .inr (kX5, .int (nI 0) :: [.int (nI 0), .ref eo, .ref gr, .ref av, .ref ro, .ref co, .ref kl, .int (nI 0), .int (nI 0), .int (nI 0)]))]) hP [0] rfl
      have hD := hD.sub (ws' := [(mo, .inr (kX5, .int (nI 0) :: [.int (nI 0), .ref eo, .ref gr, .ref av, .ref ro, .ref co, .ref kl, .int (nI 0), .int (nI 0), .int (nI 0)]))]) [0] rfl rfl
      exact kt_iretU (mo := mo) (th := (nI 0)) (vs := [.int (nI 0), .ref eo, .ref gr, .ref av, .ref ro, .ref co, .ref kl, .int (nI 0), .int (nI 0), .int (nI 0)]) hx hb hr hS hP hK hD (by decide) hlocks dX5_lend_39
  · first | exact absurd c1 (by decide) | exact (c1 (by decide)).elim

set_option maxHeartbeats 4000000 in
set_option maxRecDepth 100000 in
theorem t_ofSpot (l : Launch) (dC : Nat → ClassId) (dI : Nat → Nat → Nat) (cI cII cJ cJJ cZ cO : ClassId) (mo : Nat) (eo : Nat) (er : Nat → Nat) (gr : Nat) (av : Nat) (ro : Nat) (co : Nat) (kl : Nat) (dd : Nat) (v : Int32) (q : Int32) (sz : Nat)  : Met l yX5_ofSpot wsX5_ofSpot ({ frames := 2, cells := 0, slots := 0, locals := 44 }) (va_Pc [.ref mo, .int v, .int q] (PRE (dC, dI) (tyR cI cII cJ cJJ cZ cO) (wR (nI 0) z0 mo eo er gr av ro co kl dd cI cII) sz)) (va_Qi (fun (r' : Int32) (_ : List Value) => r' = nI 0) (fun (u : List Value) tS => ATW (dC, dI) (tyR cI cII cJ cJJ cZ cO) (va_A (wR (nI 0) z0 mo eo er gr av ro co kl dd cI cII) sz) [(mo, .inr (kX5, .int (nI 1) :: u))] tS) (va_A (wR (nI 0) z0 mo eo er gr av ro co kl dd cI cII) sz)) 0 0 (va_A (wR (nI 0) z0 mo eo er gr av ro co kl dd cI cII) sz) := by
  refine Met.ofW (cc := cX5_ofSpot) (maxL := 3) (ret := (some .int)) (by decide) rfl ?_
  intro p e s m args below meth c s₁ B hml hv
  obtain ⟨rfl, hsz, hP, hK, hD0⟩ := hv
  have hx := B.exec
  have hb := B.bytes
  have hr := B.returns
  have hlocks := B.notSynchronized
  have hts := atoms_spec (ws := wsX5_ofSpot) B.pre
  have hown : s.vm.findClass RX5 = some m.cls := findClass_of_methodNamed B.named
  subst hsz
  have hD := hD0.self (sz := s.heap.size)
  generalize hAe : va_A (wR (nI 0) z0 mo eo er gr av ro co kl dd cI cII) s.heap.size = A at hD ⊢
  have hA : ∀ q : Nat, s.heap.size ≤ q → A q := fun q h => by rw [← hAe]; exact Or.inr h
  have hS : va_S A s.heap s.heap [] := va_S.rf
  have hl := lv_entry ([.ref mo, .int v, .int q]) (n := 3) (Nat.le_of_ble_eq_true rfl)
  rw [lg_entry_eq]
  generalize (lg_sl ([.ref mo, .int v, .int q]) ++ List.replicate (3 - (lg_sl ([.ref mo, .int v, .int q])).length) Slot.unset).toArray = ls at hl ⊢
  have hl : lv_has ls 3 [(0, .ref mo), (1, .int v), (2, .int q)] := hl
  refine lv_aload_n hx hb dX5_ofSpot_0 rfl (lv_at hl 0 rfl) ?_
  refine lv_aload_n hx hb dX5_ofSpot_1 rfl (lv_at hl 0 rfl) ?_
  refine lv_iload_n hx hb dX5_ofSpot_2 rfl (lv_at hl 1 rfl) ?_
  refine kt_calliM (w' := wR (nI 0) z0 mo eo er gr av ro co kl dd cI cII) (rest := [.ref mo]) (As := [.int v]) ⟨hx, hb, hml, hown, hts⟩ (c_X5_isNoSpot l dC dI cI cII cJ cJJ cZ cO mo eo er gr av ro co kl dd v (nI 0) _ ) (cwV 1 hts gX5_ofSpot_X5_isNoSpot rfl rfl rfl (by decide +kernel) ⟨Nat.le_of_ble_eq_true rfl, Nat.le_of_ble_eq_true rfl⟩) hK hP hD hS hA (List.range' 0 14) sw_R0 rfl 0 kX5 rfl rfl rfl rfl rfl hl.1 (Nat.le_of_ble_eq_true rfl) dX5_ofSpot_3 ⟨Nat.le_of_ble_eq_true rfl, Nat.le_of_ble_eq_true rfl⟩ (fun H locs hP hD hS => ?_)
  have hP : va_P (dC, dI) vwCl (wR (nI 0) z0 mo eo er gr av ro co kl dd cI cII) H := hP
  have hD : va_D A (wR (nI 0) z0 mo eo er gr av ro co kl dd cI cII) := hD
  refine lv_iconst (v := nI 1) hx hb dX5_ofSpot_6 (by decide) ?_
  refine kt_calliM (w' := wR (nI 1) z0 mo eo er gr av ro co kl dd cI cII) (rest := []) (As := [.int (nI 1), .int (nI 1)]) ⟨hx, hb, hml, hown, hts⟩ (c_X5_start_1 l dC dI cI cII cJ cJJ cZ cO mo eo er gr av ro co kl dd _ ) (cwV 2 hts gX5_ofSpot_X5_start rfl rfl rfl (by decide +kernel) ⟨Nat.le_of_ble_eq_true rfl, Nat.le_of_ble_eq_true rfl⟩) hK hP hD hS hA (List.range' 0 14) sw_R0 rfl 0 kX5 rfl rfl rfl rfl rfl hl.1 (Nat.le_of_ble_eq_true rfl) dX5_ofSpot_7 ⟨Nat.le_of_ble_eq_true rfl, Nat.le_of_ble_eq_true rfl⟩ (fun H locs hP hD hS => ?_)
  have hP : va_P (dC, dI) vwCl (wR (nI 1) z0 mo eo er gr av ro co kl dd cI cII) H := hP
  have hD : va_D A (wR (nI 1) z0 mo eo er gr av ro co kl dd cI cII) := hD
  refine lv_if_ne (tgt := 36) hx hb dX5_ofSpot_10 (by decide) (fun c1 => ?_) (fun c1 => ?_)
  · skip
    refine lv_iconst (v := nI 0) hx hb dX5_ofSpot_36 (by decide) ?_
    refine lv_goto (tgt := 46) hx hb dX5_ofSpot_37 (by decide) ?_
    refine W.widen (k := 0) (n := 0) (by omega) (by omega) ?_
    have hP := kt_sub (wC := [(mo, .inr (kX5, .int (nI 1) :: [.int (nI 0), .ref eo, .ref gr, .ref av, .ref ro, .ref co, .ref kl, .int (nI 0), .int (nI 0), .int (nI 0)]))]) hP [0] rfl
    have hD := hD.sub (ws' := [(mo, .inr (kX5, .int (nI 1) :: [.int (nI 0), .ref eo, .ref gr, .ref av, .ref ro, .ref co, .ref kl, .int (nI 0), .int (nI 0), .int (nI 0)]))]) [0] rfl rfl
    exact kt_iretU (mo := mo) (th := (nI 1)) (vs := [.int (nI 0), .ref eo, .ref gr, .ref av, .ref ro, .ref co, .ref kl, .int (nI 0), .int (nI 0), .int (nI 0)]) hx hb hr hS hP hK hD (by decide) hlocks dX5_ofSpot_46
  · first | exact absurd c1 (by decide) | exact (c1 (by decide)).elim

set_option maxHeartbeats 4000000 in
set_option maxRecDepth 100000 in
theorem t_between_a (l : Launch) (dC : Nat → ClassId) (dI : Nat → Nat → Nat) (cI cII cJ cJJ cZ cO : ClassId) (mo : Nat) (eo : Nat) (er : Nat → Nat) (gr : Nat) (av : Nat) (ro : Nat) (co : Nat) (kl : Nat) (dd : Nat) (v : Int32) (q : Int32) (sz : Nat) (h : ¬ v = nI 6) : Met l yX5_between wsX5_between ({ frames := 3, cells := 0, slots := 0, locals := 64 }) (va_Pc [.ref mo, .int v, .int q] (PRE (dC, dI) (tyR cI cII cJ cJJ cZ cO) (wR (nI 0) z0 mo eo er gr av ro co kl dd cI cII) sz)) (va_Qi (fun (r' : Int32) (_ : List Value) => r' = nI 0) (fun (u : List Value) tS => ATW (dC, dI) (tyR cI cII cJ cJJ cZ cO) (va_A (wR (nI 0) z0 mo eo er gr av ro co kl dd cI cII) sz) [(mo, .inr (kX5, .int (nI 1) :: u))] tS) (va_A (wR (nI 0) z0 mo eo er gr av ro co kl dd cI cII) sz)) 0 0 (va_A (wR (nI 0) z0 mo eo er gr av ro co kl dd cI cII) sz) := by
  refine Met.ofW (cc := cX5_between) (maxL := 3) (ret := (some .int)) (by decide) rfl ?_
  intro p e s m args below meth c s₁ B hml hv
  obtain ⟨rfl, hsz, hP, hK, hD0⟩ := hv
  have hx := B.exec
  have hb := B.bytes
  have hr := B.returns
  have hlocks := B.notSynchronized
  have hts := atoms_spec (ws := wsX5_between) B.pre
  have hown : s.vm.findClass RX5 = some m.cls := findClass_of_methodNamed B.named
  subst hsz
  have hD := hD0.self (sz := s.heap.size)
  generalize hAe : va_A (wR (nI 0) z0 mo eo er gr av ro co kl dd cI cII) s.heap.size = A at hD ⊢
  have hA : ∀ q : Nat, s.heap.size ≤ q → A q := fun q h => by rw [← hAe]; exact Or.inr h
  have hS : va_S A s.heap s.heap [] := va_S.rf
  have hl := lv_entry ([.ref mo, .int v, .int q]) (n := 3) (Nat.le_of_ble_eq_true rfl)
  rw [lg_entry_eq]
  generalize (lg_sl ([.ref mo, .int v, .int q]) ++ List.replicate (3 - (lg_sl ([.ref mo, .int v, .int q])).length) Slot.unset).toArray = ls at hl ⊢
  have hl : lv_has ls 3 [(0, .ref mo), (1, .int v), (2, .int q)] := hl
  refine lv_aload_n hx hb dX5_between_0 rfl (lv_at hl 0 rfl) ?_
  refine lv_aload_n hx hb dX5_between_1 rfl (lv_at hl 0 rfl) ?_
  refine lv_iload_n hx hb dX5_between_2 rfl (lv_at hl 1 rfl) ?_
  refine kt_calliM (w' := wR (nI 0) z0 mo eo er gr av ro co kl dd cI cII) (rest := [.ref mo]) (As := [.int v]) ⟨hx, hb, hml, hown, hts⟩ (c_X5_isNoNode_y l dC dI cI cII cJ cJJ cZ cO mo eo er gr av ro co kl dd v (nI 0) _ (h)) (cwV 1 hts gX5_between_X5_isNoNode rfl rfl rfl (by decide +kernel) ⟨Nat.le_of_ble_eq_true rfl, Nat.le_of_ble_eq_true rfl⟩) hK hP hD hS hA (List.range' 0 14) sw_R0 rfl 0 kX5 rfl rfl rfl rfl rfl hl.1 (Nat.le_of_ble_eq_true rfl) dX5_between_3 ⟨Nat.le_of_ble_eq_true rfl, Nat.le_of_ble_eq_true rfl⟩ (fun H locs hP hD hS => ?_)
  have hP : va_P (dC, dI) vwCl (wR (nI 0) z0 mo eo er gr av ro co kl dd cI cII) H := hP
  have hD : va_D A (wR (nI 0) z0 mo eo er gr av ro co kl dd cI cII) := hD
  refine lv_if_ne (tgt := 17) hx hb dX5_between_6 (by decide) (fun c1 => ?_) (fun c1 => ?_)
  · skip
    refine lv_iconst (v := nI 1) hx hb dX5_between_17 (by decide) ?_
    refine lv_goto (tgt := 22) hx hb dX5_between_18 (by decide) ?_
    refine lv_iconst (v := nI 1) hx hb dX5_between_22 (by decide) ?_
    refine kt_calliM (w' := wR (nI 1) z0 mo eo er gr av ro co kl dd cI cII) (rest := []) (As := [.int (nI 1), .int (nI 1)]) ⟨hx, hb, hml, hown, hts⟩ (c_X5_start_1 l dC dI cI cII cJ cJJ cZ cO mo eo er gr av ro co kl dd _ ) (cwV 2 hts gX5_between_X5_start rfl rfl rfl (by decide +kernel) ⟨Nat.le_of_ble_eq_true rfl, Nat.le_of_ble_eq_true rfl⟩) hK hP hD hS hA (List.range' 0 14) sw_R0 rfl 0 kX5 rfl rfl rfl rfl rfl hl.1 (Nat.le_of_ble_eq_true rfl) dX5_between_23 ⟨Nat.le_of_ble_eq_true rfl, Nat.le_of_ble_eq_true rfl⟩ (fun H locs hP hD hS => ?_)
    have hP : va_P (dC, dI) vwCl (wR (nI 1) z0 mo eo er gr av ro co kl dd cI cII) H := hP
    have hD : va_D A (wR (nI 1) z0 mo eo er gr av ro co kl dd cI cII) := hD
    refine lv_if_eq (tgt := 33) hx hb dX5_between_26 (by decide) (fun c2 => ?_) (fun c2 => ?_)
    · first | exact absurd c2 (by decide) | exact (c2 (by decide)).elim
    · skip
      refine lv_iconst (v := nI 0) hx hb dX5_between_29 (by decide) ?_
      refine lv_goto (tgt := 41) hx hb dX5_between_30 (by decide) ?_
      refine W.widen (k := 0) (n := 0) (by omega) (by omega) ?_
      have hP := kt_sub (wC := [(mo, .inr (kX5, .int (nI 1) :: [.int (nI 0), .ref eo, .ref gr, .ref av, .ref ro, .ref co, .ref kl, .int (nI 0), .int (nI 0), .int (nI 0)]))]) hP [0] rfl
      have hD := hD.sub (ws' := [(mo, .inr (kX5, .int (nI 1) :: [.int (nI 0), .ref eo, .ref gr, .ref av, .ref ro, .ref co, .ref kl, .int (nI 0), .int (nI 0), .int (nI 0)]))]) [0] rfl rfl
      exact kt_iretU (mo := mo) (th := (nI 1)) (vs := [.int (nI 0), .ref eo, .ref gr, .ref av, .ref ro, .ref co, .ref kl, .int (nI 0), .int (nI 0), .int (nI 0)]) hx hb hr hS hP hK hD (by decide) hlocks dX5_between_41
  · first | exact absurd c1 (by decide) | exact (c1 (by decide)).elim

set_option maxHeartbeats 4000000 in
set_option maxRecDepth 100000 in
theorem t_between_b (l : Launch) (dC : Nat → ClassId) (dI : Nat → Nat → Nat) (cI cII cJ cJJ cZ cO : ClassId) (mo : Nat) (eo : Nat) (er : Nat → Nat) (gr : Nat) (av : Nat) (ro : Nat) (co : Nat) (kl : Nat) (dd : Nat) (q : Int32) (sz : Nat) (h : ¬ q = nI 6) : Met l yX5_between wsX5_between ({ frames := 3, cells := 0, slots := 0, locals := 64 }) (va_Pc [.ref mo, .int (nI 6), .int q] (PRE (dC, dI) (tyR cI cII cJ cJJ cZ cO) (wR (nI 0) z0 mo eo er gr av ro co kl dd cI cII) sz)) (va_Qi (fun (r' : Int32) (_ : List Value) => r' = nI 0) (fun (u : List Value) tS => ATW (dC, dI) (tyR cI cII cJ cJJ cZ cO) (va_A (wR (nI 0) z0 mo eo er gr av ro co kl dd cI cII) sz) [(mo, .inr (kX5, .int (nI 1) :: u))] tS) (va_A (wR (nI 0) z0 mo eo er gr av ro co kl dd cI cII) sz)) 0 0 (va_A (wR (nI 0) z0 mo eo er gr av ro co kl dd cI cII) sz) := by
  refine Met.ofW (cc := cX5_between) (maxL := 3) (ret := (some .int)) (by decide) rfl ?_
  intro p e s m args below meth c s₁ B hml hv
  obtain ⟨rfl, hsz, hP, hK, hD0⟩ := hv
  have hx := B.exec
  have hb := B.bytes
  have hr := B.returns
  have hlocks := B.notSynchronized
  have hts := atoms_spec (ws := wsX5_between) B.pre
  have hown : s.vm.findClass RX5 = some m.cls := findClass_of_methodNamed B.named
  subst hsz
  have hD := hD0.self (sz := s.heap.size)
  generalize hAe : va_A (wR (nI 0) z0 mo eo er gr av ro co kl dd cI cII) s.heap.size = A at hD ⊢
  have hA : ∀ q : Nat, s.heap.size ≤ q → A q := fun q h => by rw [← hAe]; exact Or.inr h
  have hS : va_S A s.heap s.heap [] := va_S.rf
  have hl := lv_entry ([.ref mo, .int (nI 6), .int q]) (n := 3) (Nat.le_of_ble_eq_true rfl)
  rw [lg_entry_eq]
  generalize (lg_sl ([.ref mo, .int (nI 6), .int q]) ++ List.replicate (3 - (lg_sl ([.ref mo, .int (nI 6), .int q])).length) Slot.unset).toArray = ls at hl ⊢
  have hl : lv_has ls 3 [(0, .ref mo), (1, .int (nI 6)), (2, .int q)] := hl
  refine lv_aload_n hx hb dX5_between_0 rfl (lv_at hl 0 rfl) ?_
  refine lv_aload_n hx hb dX5_between_1 rfl (lv_at hl 0 rfl) ?_
  refine lv_iload_n hx hb dX5_between_2 rfl (lv_at hl 1 rfl) ?_
  refine kt_calliM (w' := wR (nI 0) z0 mo eo er gr av ro co kl dd cI cII) (rest := [.ref mo]) (As := [.int (nI 6)]) ⟨hx, hb, hml, hown, hts⟩ (c_X5_isNoNode_n l dC dI cI cII cJ cJJ cZ cO mo eo er gr av ro co kl dd (nI 0) _ ) (cwV 1 hts gX5_between_X5_isNoNode rfl rfl rfl (by decide +kernel) ⟨Nat.le_of_ble_eq_true rfl, Nat.le_of_ble_eq_true rfl⟩) hK hP hD hS hA (List.range' 0 14) sw_R0 rfl 0 kX5 rfl rfl rfl rfl rfl hl.1 (Nat.le_of_ble_eq_true rfl) dX5_between_3 ⟨Nat.le_of_ble_eq_true rfl, Nat.le_of_ble_eq_true rfl⟩ (fun H locs hP hD hS => ?_)
  have hP : va_P (dC, dI) vwCl (wR (nI 0) z0 mo eo er gr av ro co kl dd cI cII) H := hP
  have hD : va_D A (wR (nI 0) z0 mo eo er gr av ro co kl dd cI cII) := hD
  refine lv_if_ne (tgt := 17) hx hb dX5_between_6 (by decide) (fun c1 => ?_) (fun c1 => ?_)
  · first | exact absurd c1 (by decide) | exact (c1 (by decide)).elim
  · skip
    refine lv_aload_n hx hb dX5_between_9 rfl (lv_at hl 0 rfl) ?_
    refine lv_iload_n hx hb dX5_between_10 rfl (lv_at hl 2 rfl) ?_
    refine kt_calliM (w' := wR (nI 0) z0 mo eo er gr av ro co kl dd cI cII) (rest := [.ref mo]) (As := [.int q]) ⟨hx, hb, hml, hown, hts⟩ (c_X5_isNoNode_y l dC dI cI cII cJ cJJ cZ cO mo eo er gr av ro co kl dd q (nI 0) _ (h)) (cwV 1 hts gX5_between_X5_isNoNode rfl rfl rfl (by decide +kernel) ⟨Nat.le_of_ble_eq_true rfl, Nat.le_of_ble_eq_true rfl⟩) hK hP hD hS hA (List.range' 0 14) sw_R0 rfl 0 kX5 rfl rfl rfl rfl rfl hl.1 (Nat.le_of_ble_eq_true rfl) dX5_between_11 ⟨Nat.le_of_ble_eq_true rfl, Nat.le_of_ble_eq_true rfl⟩ (fun H locs hP hD hS => ?_)
    have hP : va_P (dC, dI) vwCl (wR (nI 0) z0 mo eo er gr av ro co kl dd cI cII) H := hP
    have hD : va_D A (wR (nI 0) z0 mo eo er gr av ro co kl dd cI cII) := hD
    refine lv_if_eq (tgt := 21) hx hb dX5_between_14 (by decide) (fun c2 => ?_) (fun c2 => ?_)
    · first | exact absurd c2 (by decide) | exact (c2 (by decide)).elim
    · skip
      refine lv_iconst (v := nI 1) hx hb dX5_between_17 (by decide) ?_
      refine lv_goto (tgt := 22) hx hb dX5_between_18 (by decide) ?_
      refine lv_iconst (v := nI 1) hx hb dX5_between_22 (by decide) ?_
      refine kt_calliM (w' := wR (nI 1) z0 mo eo er gr av ro co kl dd cI cII) (rest := []) (As := [.int (nI 1), .int (nI 1)]) ⟨hx, hb, hml, hown, hts⟩ (c_X5_start_1 l dC dI cI cII cJ cJJ cZ cO mo eo er gr av ro co kl dd _ ) (cwV 2 hts gX5_between_X5_start rfl rfl rfl (by decide +kernel) ⟨Nat.le_of_ble_eq_true rfl, Nat.le_of_ble_eq_true rfl⟩) hK hP hD hS hA (List.range' 0 14) sw_R0 rfl 0 kX5 rfl rfl rfl rfl rfl hl.1 (Nat.le_of_ble_eq_true rfl) dX5_between_23 ⟨Nat.le_of_ble_eq_true rfl, Nat.le_of_ble_eq_true rfl⟩ (fun H locs hP hD hS => ?_)
      have hP : va_P (dC, dI) vwCl (wR (nI 1) z0 mo eo er gr av ro co kl dd cI cII) H := hP
      have hD : va_D A (wR (nI 1) z0 mo eo er gr av ro co kl dd cI cII) := hD
      refine lv_if_eq (tgt := 33) hx hb dX5_between_26 (by decide) (fun c3 => ?_) (fun c3 => ?_)
      · first | exact absurd c3 (by decide) | exact (c3 (by decide)).elim
      · skip
        refine lv_iconst (v := nI 0) hx hb dX5_between_29 (by decide) ?_
        refine lv_goto (tgt := 41) hx hb dX5_between_30 (by decide) ?_
        refine W.widen (k := 0) (n := 0) (by omega) (by omega) ?_
        have hP := kt_sub (wC := [(mo, .inr (kX5, .int (nI 1) :: [.int (nI 0), .ref eo, .ref gr, .ref av, .ref ro, .ref co, .ref kl, .int (nI 0), .int (nI 0), .int (nI 0)]))]) hP [0] rfl
        have hD := hD.sub (ws' := [(mo, .inr (kX5, .int (nI 1) :: [.int (nI 0), .ref eo, .ref gr, .ref av, .ref ro, .ref co, .ref kl, .int (nI 0), .int (nI 0), .int (nI 0)]))]) [0] rfl rfl
        exact kt_iretU (mo := mo) (th := (nI 1)) (vs := [.int (nI 0), .ref eo, .ref gr, .ref av, .ref ro, .ref co, .ref kl, .int (nI 0), .int (nI 0), .int (nI 0)]) hx hb hr hS hP hK hD (by decide) hlocks dX5_between_41

set_option maxHeartbeats 4000000 in
set_option maxRecDepth 100000 in
theorem t_between (l : Launch) (dC : Nat → ClassId) (dI : Nat → Nat → Nat) (cI cII cJ cJJ cZ cO : ClassId) (mo : Nat) (eo : Nat) (er : Nat → Nat) (gr : Nat) (av : Nat) (ro : Nat) (co : Nat) (kl : Nat) (dd : Nat) (sz : Nat)  : Met l yX5_between wsX5_between ({ frames := 2, cells := 0, slots := 0, locals := 44 }) (va_Pc [.ref mo, .int (nI 6), .int (nI 6)] (PRE (dC, dI) (tyR cI cII cJ cJJ cZ cO) (wR (nI 0) z0 mo eo er gr av ro co kl dd cI cII) sz)) (va_Qi (fun (r' : Int32) (_ : List Value) => r' = nI 0) (fun (u : List Value) tS => ATW (dC, dI) (tyR cI cII cJ cJJ cZ cO) (va_A (wR (nI 0) z0 mo eo er gr av ro co kl dd cI cII) sz) [(mo, .inr (kX5, .int (nI 0) :: u))] tS) (va_A (wR (nI 0) z0 mo eo er gr av ro co kl dd cI cII) sz)) 0 0 (va_A (wR (nI 0) z0 mo eo er gr av ro co kl dd cI cII) sz) := by
  refine Met.ofW (cc := cX5_between) (maxL := 3) (ret := (some .int)) (by decide) rfl ?_
  intro p e s m args below meth c s₁ B hml hv
  obtain ⟨rfl, hsz, hP, hK, hD0⟩ := hv
  have hx := B.exec
  have hb := B.bytes
  have hr := B.returns
  have hlocks := B.notSynchronized
  have hts := atoms_spec (ws := wsX5_between) B.pre
  have hown : s.vm.findClass RX5 = some m.cls := findClass_of_methodNamed B.named
  subst hsz
  have hD := hD0.self (sz := s.heap.size)
  generalize hAe : va_A (wR (nI 0) z0 mo eo er gr av ro co kl dd cI cII) s.heap.size = A at hD ⊢
  have hA : ∀ q : Nat, s.heap.size ≤ q → A q := fun q h => by rw [← hAe]; exact Or.inr h
  have hS : va_S A s.heap s.heap [] := va_S.rf
  have hl := lv_entry ([.ref mo, .int (nI 6), .int (nI 6)]) (n := 3) (Nat.le_of_ble_eq_true rfl)
  rw [lg_entry_eq]
  generalize (lg_sl ([.ref mo, .int (nI 6), .int (nI 6)]) ++ List.replicate (3 - (lg_sl ([.ref mo, .int (nI 6), .int (nI 6)])).length) Slot.unset).toArray = ls at hl ⊢
  have hl : lv_has ls 3 [(0, .ref mo), (1, .int (nI 6)), (2, .int (nI 6))] := hl
  have hi_X5 : ∀ w ∈ u_ws RX5 TX5 11, w ∈ wsX5_between := by decide +kernel
  have hf_11 := hts (.fieldLink RX5 11 "TopplemoorModel" "edges" "[[I") (by decide +kernel)
  refine lv_aload_n hx hb dX5_between_0 rfl (lv_at hl 0 rfl) ?_
  refine lv_aload_n hx hb dX5_between_1 rfl (lv_at hl 0 rfl) ?_
  refine lv_iload_n hx hb dX5_between_2 rfl (lv_at hl 1 rfl) ?_
  refine kt_calliM (w' := wR (nI 0) z0 mo eo er gr av ro co kl dd cI cII) (rest := [.ref mo]) (As := [.int (nI 6)]) ⟨hx, hb, hml, hown, hts⟩ (c_X5_isNoNode_n l dC dI cI cII cJ cJJ cZ cO mo eo er gr av ro co kl dd (nI 0) _ ) (cwV 1 hts gX5_between_X5_isNoNode rfl rfl rfl (by decide +kernel) ⟨Nat.le_of_ble_eq_true rfl, Nat.le_of_ble_eq_true rfl⟩) hK hP hD hS hA (List.range' 0 14) sw_R0 rfl 0 kX5 rfl rfl rfl rfl rfl hl.1 (Nat.le_of_ble_eq_true rfl) dX5_between_3 ⟨Nat.le_of_ble_eq_true rfl, Nat.le_of_ble_eq_true rfl⟩ (fun H locs hP hD hS => ?_)
  have hP : va_P (dC, dI) vwCl (wR (nI 0) z0 mo eo er gr av ro co kl dd cI cII) H := hP
  have hD : va_D A (wR (nI 0) z0 mo eo er gr av ro co kl dd cI cII) := hD
  refine lv_if_ne (tgt := 17) hx hb dX5_between_6 (by decide) (fun c1 => ?_) (fun c1 => ?_)
  · first | exact absurd c1 (by decide) | exact (c1 (by decide)).elim
  · skip
    refine lv_aload_n hx hb dX5_between_9 rfl (lv_at hl 0 rfl) ?_
    refine lv_iload_n hx hb dX5_between_10 rfl (lv_at hl 2 rfl) ?_
    refine kt_calliM (w' := wR (nI 0) z0 mo eo er gr av ro co kl dd cI cII) (rest := [.ref mo]) (As := [.int (nI 6)]) ⟨hx, hb, hml, hown, hts⟩ (c_X5_isNoNode_n l dC dI cI cII cJ cJJ cZ cO mo eo er gr av ro co kl dd (nI 0) _ ) (cwV 1 hts gX5_between_X5_isNoNode rfl rfl rfl (by decide +kernel) ⟨Nat.le_of_ble_eq_true rfl, Nat.le_of_ble_eq_true rfl⟩) hK hP hD hS hA (List.range' 0 14) sw_R0 rfl 0 kX5 rfl rfl rfl rfl rfl hl.1 (Nat.le_of_ble_eq_true rfl) dX5_between_11 ⟨Nat.le_of_ble_eq_true rfl, Nat.le_of_ble_eq_true rfl⟩ (fun H locs hP hD hS => ?_)
    have hP : va_P (dC, dI) vwCl (wR (nI 0) z0 mo eo er gr av ro co kl dd cI cII) H := hP
    have hD : va_D A (wR (nI 0) z0 mo eo er gr av ro co kl dd cI cII) := hD
    refine lv_if_eq (tgt := 21) hx hb dX5_between_14 (by decide) (fun c2 => ?_) (fun c2 => ?_)
    · skip
      refine lv_iconst (v := nI 0) hx hb dX5_between_21 (by decide) ?_
      refine lv_iconst (v := nI 1) hx hb dX5_between_22 (by decide) ?_
      refine kt_calliM (w' := wR (nI 0) z0 mo eo er gr av ro co kl dd cI cII) (rest := []) (As := [.int (nI 0), .int (nI 1)]) ⟨hx, hb, hml, hown, hts⟩ (c_X5_start_0 l dC dI cI cII cJ cJJ cZ cO mo eo er gr av ro co kl dd _ ) (cwV 2 hts gX5_between_X5_start rfl rfl rfl (by decide +kernel) ⟨Nat.le_of_ble_eq_true rfl, Nat.le_of_ble_eq_true rfl⟩) hK hP hD hS hA (List.range' 0 14) sw_R0 rfl 0 kX5 rfl rfl rfl rfl rfl hl.1 (Nat.le_of_ble_eq_true rfl) dX5_between_23 ⟨Nat.le_of_ble_eq_true rfl, Nat.le_of_ble_eq_true rfl⟩ (fun H locs hP hD hS => ?_)
      have hP : va_P (dC, dI) vwCl (wR (nI 0) z0 mo eo er gr av ro co kl dd cI cII) H := hP
      have hD : va_D A (wR (nI 0) z0 mo eo er gr av ro co kl dd cI cII) := hD
      refine lv_if_eq (tgt := 33) hx hb dX5_between_26 (by decide) (fun c3 => ?_) (fun c3 => ?_)
      · skip
        refine lv_aload_n hx hb dX5_between_33 rfl (lv_at hl 0 rfl) ?_
        refine va_get (D := (dC, dI)) (ci := kX5) (v := .ref eo) (C := RX5) (T := TX5) (N := 11) hx hb hts hi_X5 hown hK hP 0 rfl rfl 2 (by decide) hf_11 (fun _ h9 => h9) rfl dX5_between_34 ?_
        refine lv_iload_n hx hb dX5_between_37 rfl (lv_at hl 1 rfl) ?_
        refine kt_aald hx hb hK hP 1 1 rfl rfl (by omega) (by decide) dX5_between_38 ?_
        refine lv_iload_n hx hb dX5_between_39 rfl (lv_at hl 2 rfl) ?_
        refine kt_iald hx hb hK hP 8 0 rfl rfl (by omega) (by decide) dX5_between_40 ?_
        refine lv_topi (fun z4 ez4 => ?_)
        have ez4 : z4 = nI 0 := ez4.trans rfl
        subst ez4
        refine W.widen (k := 0) (n := 0) (by omega) (by omega) ?_
        have hP := kt_sub (wC := [(mo, .inr (kX5, .int (nI 0) :: [.int (nI 0), .ref eo, .ref gr, .ref av, .ref ro, .ref co, .ref kl, .int (nI 0), .int (nI 0), .int (nI 0)]))]) hP [0] rfl
        have hD := hD.sub (ws' := [(mo, .inr (kX5, .int (nI 0) :: [.int (nI 0), .ref eo, .ref gr, .ref av, .ref ro, .ref co, .ref kl, .int (nI 0), .int (nI 0), .int (nI 0)]))]) [0] rfl rfl
        exact kt_iretU (mo := mo) (th := (nI 0)) (vs := [.int (nI 0), .ref eo, .ref gr, .ref av, .ref ro, .ref co, .ref kl, .int (nI 0), .int (nI 0), .int (nI 0)]) hx hb hr hS hP hK hD (by decide) hlocks dX5_between_41
      · first | exact absurd c3 (by decide) | exact (c3 (by decide)).elim
    · first | exact absurd c2 (by decide) | exact (c2 (by decide)).elim

set_option maxHeartbeats 4000000 in
set_option maxRecDepth 100000 in
theorem t_coins_node (l : Launch) (dC : Nat → ClassId) (dI : Nat → Nat → Nat) (cI cII cJ cJJ cZ cO : ClassId) (mo : Nat) (eo : Nat) (er : Nat → Nat) (gr : Nat) (av : Nat) (ro : Nat) (co : Nat) (kl : Nat) (dd : Nat) (v : Int32) (sz : Nat) (h : ¬ v = nI 6) : Met l yX5_coins wsX5_coins ({ frames := 3, cells := 0, slots := 0, locals := 64 }) (va_Pc [.ref mo, .int v] (PRE (dC, dI) (tyR cI cII cJ cJJ cZ cO) (wR (nI 0) z0 mo eo er gr av ro co kl dd cI cII) sz)) (va_Qi (fun (r' : Int32) (_ : List Value) => r' = nI 0) (fun (u : List Value) tS => ATW (dC, dI) (tyR cI cII cJ cJJ cZ cO) (va_A (wR (nI 0) z0 mo eo er gr av ro co kl dd cI cII) sz) [(mo, .inr (kX5, .int (nI 1) :: u))] tS) (va_A (wR (nI 0) z0 mo eo er gr av ro co kl dd cI cII) sz)) 0 0 (va_A (wR (nI 0) z0 mo eo er gr av ro co kl dd cI cII) sz) := by
  refine Met.ofW (cc := cX5_coins) (maxL := 2) (ret := (some .int)) (by decide) rfl ?_
  intro p e s m args below meth c s₁ B hml hv
  obtain ⟨rfl, hsz, hP, hK, hD0⟩ := hv
  have hx := B.exec
  have hb := B.bytes
  have hr := B.returns
  have hlocks := B.notSynchronized
  have hts := atoms_spec (ws := wsX5_coins) B.pre
  have hown : s.vm.findClass RX5 = some m.cls := findClass_of_methodNamed B.named
  subst hsz
  have hD := hD0.self (sz := s.heap.size)
  generalize hAe : va_A (wR (nI 0) z0 mo eo er gr av ro co kl dd cI cII) s.heap.size = A at hD ⊢
  have hA : ∀ q : Nat, s.heap.size ≤ q → A q := fun q h => by rw [← hAe]; exact Or.inr h
  have hS : va_S A s.heap s.heap [] := va_S.rf
  have hl := lv_entry ([.ref mo, .int v]) (n := 2) (Nat.le_of_ble_eq_true rfl)
  rw [lg_entry_eq]
  generalize (lg_sl ([.ref mo, .int v]) ++ List.replicate (2 - (lg_sl ([.ref mo, .int v])).length) Slot.unset).toArray = ls at hl ⊢
  have hl : lv_has ls 2 [(0, .ref mo), (1, .int v)] := hl
  refine lv_aload_n hx hb dX5_coins_0 rfl (lv_at hl 0 rfl) ?_
  refine lv_aload_n hx hb dX5_coins_1 rfl (lv_at hl 0 rfl) ?_
  refine lv_iload_n hx hb dX5_coins_2 rfl (lv_at hl 1 rfl) ?_
  refine kt_calliM (w' := wR (nI 0) z0 mo eo er gr av ro co kl dd cI cII) (rest := [.ref mo]) (As := [.int v]) ⟨hx, hb, hml, hown, hts⟩ (c_X5_isNoNode_y l dC dI cI cII cJ cJJ cZ cO mo eo er gr av ro co kl dd v (nI 0) _ (h)) (cwV 1 hts gX5_coins_X5_isNoNode rfl rfl rfl (by decide +kernel) ⟨Nat.le_of_ble_eq_true rfl, Nat.le_of_ble_eq_true rfl⟩) hK hP hD hS hA (List.range' 0 14) sw_R0 rfl 0 kX5 rfl rfl rfl rfl rfl hl.1 (Nat.le_of_ble_eq_true rfl) dX5_coins_3 ⟨Nat.le_of_ble_eq_true rfl, Nat.le_of_ble_eq_true rfl⟩ (fun H locs hP hD hS => ?_)
  have hP : va_P (dC, dI) vwCl (wR (nI 0) z0 mo eo er gr av ro co kl dd cI cII) H := hP
  have hD : va_D A (wR (nI 0) z0 mo eo er gr av ro co kl dd cI cII) := hD
  refine lv_iconst (v := nI 1) hx hb dX5_coins_6 (by decide) ?_
  refine kt_calliM (w' := wR (nI 1) z0 mo eo er gr av ro co kl dd cI cII) (rest := []) (As := [.int (nI 1), .int (nI 1)]) ⟨hx, hb, hml, hown, hts⟩ (c_X5_start_1 l dC dI cI cII cJ cJJ cZ cO mo eo er gr av ro co kl dd _ ) (cwV 2 hts gX5_coins_X5_start rfl rfl rfl (by decide +kernel) ⟨Nat.le_of_ble_eq_true rfl, Nat.le_of_ble_eq_true rfl⟩) hK hP hD hS hA (List.range' 0 14) sw_R0 rfl 0 kX5 rfl rfl rfl rfl rfl hl.1 (Nat.le_of_ble_eq_true rfl) dX5_coins_7 ⟨Nat.le_of_ble_eq_true rfl, Nat.le_of_ble_eq_true rfl⟩ (fun H locs hP hD hS => ?_)
  have hP : va_P (dC, dI) vwCl (wR (nI 1) z0 mo eo er gr av ro co kl dd cI cII) H := hP
  have hD : va_D A (wR (nI 1) z0 mo eo er gr av ro co kl dd cI cII) := hD
  refine lv_if_eq (tgt := 17) hx hb dX5_coins_10 (by decide) (fun c1 => ?_) (fun c1 => ?_)
  · first | exact absurd c1 (by decide) | exact (c1 (by decide)).elim
  · skip
    refine lv_iconst (v := nI 0) hx hb dX5_coins_13 (by decide) ?_
    refine lv_goto (tgt := 23) hx hb dX5_coins_14 (by decide) ?_
    refine W.widen (k := 0) (n := 0) (by omega) (by omega) ?_
    have hP := kt_sub (wC := [(mo, .inr (kX5, .int (nI 1) :: [.int (nI 0), .ref eo, .ref gr, .ref av, .ref ro, .ref co, .ref kl, .int (nI 0), .int (nI 0), .int (nI 0)]))]) hP [0] rfl
    have hD := hD.sub (ws' := [(mo, .inr (kX5, .int (nI 1) :: [.int (nI 0), .ref eo, .ref gr, .ref av, .ref ro, .ref co, .ref kl, .int (nI 0), .int (nI 0), .int (nI 0)]))]) [0] rfl rfl
    exact kt_iretU (mo := mo) (th := (nI 1)) (vs := [.int (nI 0), .ref eo, .ref gr, .ref av, .ref ro, .ref co, .ref kl, .int (nI 0), .int (nI 0), .int (nI 0)]) hx hb hr hS hP hK hD (by decide) hlocks dX5_coins_23

set_option maxHeartbeats 4000000 in
set_option maxRecDepth 100000 in
theorem t_coins (l : Launch) (dC : Nat → ClassId) (dI : Nat → Nat → Nat) (cI cII cJ cJJ cZ cO : ClassId) (mo : Nat) (eo : Nat) (er : Nat → Nat) (gr : Nat) (av : Nat) (ro : Nat) (co : Nat) (kl : Nat) (dd : Nat) (sz : Nat)  : Met l yX5_coins wsX5_coins ({ frames := 2, cells := 0, slots := 0, locals := 44 }) (va_Pc [.ref mo, .int (nI 6)] (PRE (dC, dI) (tyR cI cII cJ cJJ cZ cO) (wR (nI 0) z0 mo eo er gr av ro co kl dd cI cII) sz)) (va_Qi (fun (r' : Int32) (_ : List Value) => r' = nI 0) (fun (u : List Value) tS => ATW (dC, dI) (tyR cI cII cJ cJJ cZ cO) (va_A (wR (nI 0) z0 mo eo er gr av ro co kl dd cI cII) sz) [(mo, .inr (kX5, .int (nI 0) :: u))] tS) (va_A (wR (nI 0) z0 mo eo er gr av ro co kl dd cI cII) sz)) 0 0 (va_A (wR (nI 0) z0 mo eo er gr av ro co kl dd cI cII) sz) := by
  refine Met.ofW (cc := cX5_coins) (maxL := 2) (ret := (some .int)) (by decide) rfl ?_
  intro p e s m args below meth c s₁ B hml hv
  obtain ⟨rfl, hsz, hP, hK, hD0⟩ := hv
  have hx := B.exec
  have hb := B.bytes
  have hr := B.returns
  have hlocks := B.notSynchronized
  have hts := atoms_spec (ws := wsX5_coins) B.pre
  have hown : s.vm.findClass RX5 = some m.cls := findClass_of_methodNamed B.named
  subst hsz
  have hD := hD0.self (sz := s.heap.size)
  generalize hAe : va_A (wR (nI 0) z0 mo eo er gr av ro co kl dd cI cII) s.heap.size = A at hD ⊢
  have hA : ∀ q : Nat, s.heap.size ≤ q → A q := fun q h => by rw [← hAe]; exact Or.inr h
  have hS : va_S A s.heap s.heap [] := va_S.rf
  have hl := lv_entry ([.ref mo, .int (nI 6)]) (n := 2) (Nat.le_of_ble_eq_true rfl)
  rw [lg_entry_eq]
  generalize (lg_sl ([.ref mo, .int (nI 6)]) ++ List.replicate (2 - (lg_sl ([.ref mo, .int (nI 6)])).length) Slot.unset).toArray = ls at hl ⊢
  have hl : lv_has ls 2 [(0, .ref mo), (1, .int (nI 6))] := hl
  have hi_X5 : ∀ w ∈ u_ws RX5 TX5 11, w ∈ wsX5_coins := by decide +kernel
  have hf_24 := hts (.fieldLink RX5 24 "TopplemoorModel" "coins" "[I") (by decide +kernel)
  refine lv_aload_n hx hb dX5_coins_0 rfl (lv_at hl 0 rfl) ?_
  refine lv_aload_n hx hb dX5_coins_1 rfl (lv_at hl 0 rfl) ?_
  refine lv_iload_n hx hb dX5_coins_2 rfl (lv_at hl 1 rfl) ?_
  refine kt_calliM (w' := wR (nI 0) z0 mo eo er gr av ro co kl dd cI cII) (rest := [.ref mo]) (As := [.int (nI 6)]) ⟨hx, hb, hml, hown, hts⟩ (c_X5_isNoNode_n l dC dI cI cII cJ cJJ cZ cO mo eo er gr av ro co kl dd (nI 0) _ ) (cwV 1 hts gX5_coins_X5_isNoNode rfl rfl rfl (by decide +kernel) ⟨Nat.le_of_ble_eq_true rfl, Nat.le_of_ble_eq_true rfl⟩) hK hP hD hS hA (List.range' 0 14) sw_R0 rfl 0 kX5 rfl rfl rfl rfl rfl hl.1 (Nat.le_of_ble_eq_true rfl) dX5_coins_3 ⟨Nat.le_of_ble_eq_true rfl, Nat.le_of_ble_eq_true rfl⟩ (fun H locs hP hD hS => ?_)
  have hP : va_P (dC, dI) vwCl (wR (nI 0) z0 mo eo er gr av ro co kl dd cI cII) H := hP
  have hD : va_D A (wR (nI 0) z0 mo eo er gr av ro co kl dd cI cII) := hD
  refine lv_iconst (v := nI 1) hx hb dX5_coins_6 (by decide) ?_
  refine kt_calliM (w' := wR (nI 0) z0 mo eo er gr av ro co kl dd cI cII) (rest := []) (As := [.int (nI 0), .int (nI 1)]) ⟨hx, hb, hml, hown, hts⟩ (c_X5_start_0 l dC dI cI cII cJ cJJ cZ cO mo eo er gr av ro co kl dd _ ) (cwV 2 hts gX5_coins_X5_start rfl rfl rfl (by decide +kernel) ⟨Nat.le_of_ble_eq_true rfl, Nat.le_of_ble_eq_true rfl⟩) hK hP hD hS hA (List.range' 0 14) sw_R0 rfl 0 kX5 rfl rfl rfl rfl rfl hl.1 (Nat.le_of_ble_eq_true rfl) dX5_coins_7 ⟨Nat.le_of_ble_eq_true rfl, Nat.le_of_ble_eq_true rfl⟩ (fun H locs hP hD hS => ?_)
  have hP : va_P (dC, dI) vwCl (wR (nI 0) z0 mo eo er gr av ro co kl dd cI cII) H := hP
  have hD : va_D A (wR (nI 0) z0 mo eo er gr av ro co kl dd cI cII) := hD
  refine lv_if_eq (tgt := 17) hx hb dX5_coins_10 (by decide) (fun c1 => ?_) (fun c1 => ?_)
  · skip
    refine lv_aload_n hx hb dX5_coins_17 rfl (lv_at hl 0 rfl) ?_
    refine va_get (D := (dC, dI)) (ci := kX5) (v := .ref co) (C := RX5) (T := TX5) (N := 11) hx hb hts hi_X5 hown hK hP 0 rfl rfl 6 (by decide) hf_24 (fun _ h9 => h9) rfl dX5_coins_18 ?_
    refine lv_iload_n hx hb dX5_coins_21 rfl (lv_at hl 1 rfl) ?_
    refine kt_iald hx hb hK hP 12 0 rfl rfl (by omega) (by decide) dX5_coins_22 ?_
    refine lv_topi (fun z2 ez2 => ?_)
    have ez2 : z2 = nI 0 := ez2.trans rfl
    subst ez2
    refine W.widen (k := 0) (n := 0) (by omega) (by omega) ?_
    have hP := kt_sub (wC := [(mo, .inr (kX5, .int (nI 0) :: [.int (nI 0), .ref eo, .ref gr, .ref av, .ref ro, .ref co, .ref kl, .int (nI 0), .int (nI 0), .int (nI 0)]))]) hP [0] rfl
    have hD := hD.sub (ws' := [(mo, .inr (kX5, .int (nI 0) :: [.int (nI 0), .ref eo, .ref gr, .ref av, .ref ro, .ref co, .ref kl, .int (nI 0), .int (nI 0), .int (nI 0)]))]) [0] rfl rfl
    exact kt_iretU (mo := mo) (th := (nI 0)) (vs := [.int (nI 0), .ref eo, .ref gr, .ref av, .ref ro, .ref co, .ref kl, .int (nI 0), .int (nI 0), .int (nI 0)]) hx hb hr hS hP hK hD (by decide) hlocks dX5_coins_23
  · first | exact absurd c1 (by decide) | exact (c1 (by decide)).elim

set_option maxHeartbeats 4000000 in
set_option maxRecDepth 100000 in
theorem t_kept (l : Launch) (dC : Nat → ClassId) (dI : Nat → Nat → Nat) (cI cII cJ cJJ cZ cO : ClassId) (mo : Nat) (eo : Nat) (er : Nat → Nat) (gr : Nat) (av : Nat) (ro : Nat) (co : Nat) (kl : Nat) (dd : Nat) (v : Int32) (q : Int32) (sz : Nat)  : Met l yX5_kept wsX5_kept ({ frames := 2, cells := 0, slots := 0, locals := 44 }) (va_Pc [.ref mo, .int v, .int q] (PRE (dC, dI) (tyR cI cII cJ cJJ cZ cO) (wR (nI 0) z0 mo eo er gr av ro co kl dd cI cII) sz)) (va_Qi (fun (r' : Int32) (_ : List Value) => r' = nI 0) (fun (u : List Value) tS => ATW (dC, dI) (tyR cI cII cJ cJJ cZ cO) (va_A (wR (nI 0) z0 mo eo er gr av ro co kl dd cI cII) sz) [(mo, .inr (kX5, .int (nI 1) :: u))] tS) (va_A (wR (nI 0) z0 mo eo er gr av ro co kl dd cI cII) sz)) 0 0 (va_A (wR (nI 0) z0 mo eo er gr av ro co kl dd cI cII) sz) := by
  refine Met.ofW (cc := cX5_kept) (maxL := 3) (ret := (some .int)) (by decide) rfl ?_
  intro p e s m args below meth c s₁ B hml hv
  obtain ⟨rfl, hsz, hP, hK, hD0⟩ := hv
  have hx := B.exec
  have hb := B.bytes
  have hr := B.returns
  have hlocks := B.notSynchronized
  have hts := atoms_spec (ws := wsX5_kept) B.pre
  have hown : s.vm.findClass RX5 = some m.cls := findClass_of_methodNamed B.named
  subst hsz
  have hD := hD0.self (sz := s.heap.size)
  generalize hAe : va_A (wR (nI 0) z0 mo eo er gr av ro co kl dd cI cII) s.heap.size = A at hD ⊢
  have hA : ∀ q : Nat, s.heap.size ≤ q → A q := fun q h => by rw [← hAe]; exact Or.inr h
  have hS : va_S A s.heap s.heap [] := va_S.rf
  have hl := lv_entry ([.ref mo, .int v, .int q]) (n := 3) (Nat.le_of_ble_eq_true rfl)
  rw [lg_entry_eq]
  generalize (lg_sl ([.ref mo, .int v, .int q]) ++ List.replicate (3 - (lg_sl ([.ref mo, .int v, .int q])).length) Slot.unset).toArray = ls at hl ⊢
  have hl : lv_has ls 3 [(0, .ref mo), (1, .int v), (2, .int q)] := hl
  have hi_X5 : ∀ w ∈ u_ws RX5 TX5 11, w ∈ wsX5_kept := by decide +kernel
  have hf_30 := hts (.fieldLink RX5 30 "TopplemoorModel" "kept" "Ljava/util/ArrayList;") (by decide +kernel)
  refine lv_aload_n hx hb dX5_kept_0 rfl (lv_at hl 0 rfl) ?_
  refine lv_iload_n hx hb dX5_kept_1 rfl (lv_at hl 1 rfl) ?_
  refine lv_iconst (v := nI 0) hx hb dX5_kept_2 (by decide) ?_
  refine lv_aload_n hx hb dX5_kept_3 rfl (lv_at hl 0 rfl) ?_
  refine va_get (D := (dC, dI)) (ci := kX5) (v := .ref kl) (C := RX5) (T := TX5) (N := 11) hx hb hts hi_X5 hown hK hP 0 rfl rfl 7 (by decide) hf_30 (fun _ h9 => h9) rfl dX5_kept_4 ?_
  refine kt_calliM (w' := wR (nI 0) z0 mo eo er gr av ro co kl dd cI cII) (rest := [.int (nI 0), .int v, .ref mo]) (As := []) ⟨hx, hb, hml, hown, hts⟩ (c_AL_size l dC dI cI cII cJ cJJ cZ cO kl dd 0 0 _ ) (cwV 0 hts gX5_kept_Jx4a65c_size_8abf5 rfl rfl rfl (by decide +kernel) ⟨Nat.le_of_ble_eq_true rfl, Nat.le_of_ble_eq_true rfl⟩) hK hP hD hS hA [13] ⟨rfl, ⟨[none, none, none, none, none, none, none, none, none, none, none, none, none, some 0], rfl, by decide +kernel⟩, rfl⟩ rfl 13 kAL rfl rfl rfl rfl rfl hl.1 (Nat.le_of_ble_eq_true rfl) dX5_kept_7 ⟨Nat.le_of_ble_eq_true rfl, Nat.le_of_ble_eq_true rfl⟩ (fun H locs hP hD hS => ?_)
  have hP : va_P (dC, dI) vwCl (wR (nI 0) z0 mo eo er gr av ro co kl dd cI cII) H := hP
  have hD : va_D A (wR (nI 0) z0 mo eo er gr av ro co kl dd cI cII) := hD
  refine lv_iconst (v := nI 1) hx hb dX5_kept_10 (by decide) ?_
  refine lv_isub hx hb dX5_kept_11 ?_
  refine lv_topi (fun z1 ez1 => ?_)
  have ez1 : z1 = (-1) := ez1.trans (by decide)
  subst ez1
  refine kt_callSiM (w' := wR (nI 0) z0 mo eo er gr av ro co kl dd cI cII) (rest := [.ref mo]) (As := [.int v, .int (nI 0), .int (-1)]) ⟨hx, hb, hml, hown, hts⟩ (c_X5_isIn_n l dC dI cI cII cJ cJJ cZ cO v (nI 0) (-1) _ (no_spot v)) (va_cwS 3 hts gX5_kept_X5_isIn rfl rfl rfl (by decide +kernel) ⟨Nat.le_of_ble_eq_true rfl, Nat.le_of_ble_eq_true rfl⟩) hK hP hD hS hA [] (kt_sw_nil _) rfl rfl rfl hl.1 (Nat.le_of_ble_eq_true rfl) dX5_kept_12 ⟨Nat.le_of_ble_eq_true rfl, Nat.le_of_ble_eq_true rfl⟩ (fun H locs hP hD hS => ?_)
  have hP : va_P (dC, dI) vwCl (wR (nI 0) z0 mo eo er gr av ro co kl dd cI cII) H := hP
  have hD : va_D A (wR (nI 0) z0 mo eo er gr av ro co kl dd cI cII) := hD
  refine lv_if_eq (tgt := 26) hx hb dX5_kept_15 (by decide) (fun c2 => ?_) (fun c2 => ?_)
  · skip
    refine lv_iconst (v := nI 1) hx hb dX5_kept_26 (by decide) ?_
    refine lv_goto (tgt := 31) hx hb dX5_kept_27 (by decide) ?_
    refine lv_iconst (v := nI 1) hx hb dX5_kept_31 (by decide) ?_
    refine kt_calliM (w' := wR (nI 1) z0 mo eo er gr av ro co kl dd cI cII) (rest := []) (As := [.int (nI 1), .int (nI 1)]) ⟨hx, hb, hml, hown, hts⟩ (c_X5_start_1 l dC dI cI cII cJ cJJ cZ cO mo eo er gr av ro co kl dd _ ) (cwV 2 hts gX5_kept_X5_start rfl rfl rfl (by decide +kernel) ⟨Nat.le_of_ble_eq_true rfl, Nat.le_of_ble_eq_true rfl⟩) hK hP hD hS hA (List.range' 0 14) sw_R0 rfl 0 kX5 rfl rfl rfl rfl rfl hl.1 (Nat.le_of_ble_eq_true rfl) dX5_kept_32 ⟨Nat.le_of_ble_eq_true rfl, Nat.le_of_ble_eq_true rfl⟩ (fun H locs hP hD hS => ?_)
    have hP : va_P (dC, dI) vwCl (wR (nI 1) z0 mo eo er gr av ro co kl dd cI cII) H := hP
    have hD : va_D A (wR (nI 1) z0 mo eo er gr av ro co kl dd cI cII) := hD
    refine lv_if_eq (tgt := 42) hx hb dX5_kept_35 (by decide) (fun c3 => ?_) (fun c3 => ?_)
    · first | exact absurd c3 (by decide) | exact (c3 (by decide)).elim
    · skip
      refine lv_iconst (v := nI 0) hx hb dX5_kept_38 (by decide) ?_
      refine lv_goto (tgt := 55) hx hb dX5_kept_39 (by decide) ?_
      refine W.widen (k := 0) (n := 0) (by omega) (by omega) ?_
      have hP := kt_sub (wC := [(mo, .inr (kX5, .int (nI 1) :: [.int (nI 0), .ref eo, .ref gr, .ref av, .ref ro, .ref co, .ref kl, .int (nI 0), .int (nI 0), .int (nI 0)]))]) hP [0] rfl
      have hD := hD.sub (ws' := [(mo, .inr (kX5, .int (nI 1) :: [.int (nI 0), .ref eo, .ref gr, .ref av, .ref ro, .ref co, .ref kl, .int (nI 0), .int (nI 0), .int (nI 0)]))]) [0] rfl rfl
      exact kt_iretU (mo := mo) (th := (nI 1)) (vs := [.int (nI 0), .ref eo, .ref gr, .ref av, .ref ro, .ref co, .ref kl, .int (nI 0), .int (nI 0), .int (nI 0)]) hx hb hr hS hP hK hD (by decide) hlocks dX5_kept_55
  · first | exact absurd c2 (by decide) | exact (c2 (by decide)).elim

set_option maxHeartbeats 4000000 in
set_option maxRecDepth 100000 in
theorem t_many_within (l : Launch) (dC : Nat → ClassId) (dI : Nat → Nat → Nat) (cI cII cJ cJJ cZ cO : ClassId) (mo : Nat) (eo : Nat) (er : Nat → Nat) (gr : Nat) (av : Nat) (ro : Nat) (co : Nat) (kl : Nat) (dd : Nat) (v : Int32) (sz : Nat) (h : v < nI 0 ∨ nI 13 < v) : Met l yX5_many wsX5_many ({ frames := 2, cells := 0, slots := 0, locals := 44 }) (va_Pc [.ref mo, .int v] (PRE (dC, dI) (tyR cI cII cJ cJJ cZ cO) (wR (nI 0) z0 mo eo er gr av ro co kl dd cI cII) sz)) (va_Qi (fun (r' : Int32) (_ : List Value) => r' = nI 0) (fun (u : List Value) tS => ATW (dC, dI) (tyR cI cII cJ cJJ cZ cO) (va_A (wR (nI 0) z0 mo eo er gr av ro co kl dd cI cII) sz) [(mo, .inr (kX5, .int (nI 1) :: u))] tS) (va_A (wR (nI 0) z0 mo eo er gr av ro co kl dd cI cII) sz)) 0 0 (va_A (wR (nI 0) z0 mo eo er gr av ro co kl dd cI cII) sz) := by
  refine Met.ofW (cc := cX5_many) (maxL := 2) (ret := (some .int)) (by decide) rfl ?_
  intro p e s m args below meth c s₁ B hml hv
  obtain ⟨rfl, hsz, hP, hK, hD0⟩ := hv
  have hx := B.exec
  have hb := B.bytes
  have hr := B.returns
  have hlocks := B.notSynchronized
  have hts := atoms_spec (ws := wsX5_many) B.pre
  have hown : s.vm.findClass RX5 = some m.cls := findClass_of_methodNamed B.named
  subst hsz
  have hD := hD0.self (sz := s.heap.size)
  generalize hAe : va_A (wR (nI 0) z0 mo eo er gr av ro co kl dd cI cII) s.heap.size = A at hD ⊢
  have hA : ∀ q : Nat, s.heap.size ≤ q → A q := fun q h => by rw [← hAe]; exact Or.inr h
  have hS : va_S A s.heap s.heap [] := va_S.rf
  have hl := lv_entry ([.ref mo, .int v]) (n := 2) (Nat.le_of_ble_eq_true rfl)
  rw [lg_entry_eq]
  generalize (lg_sl ([.ref mo, .int v]) ++ List.replicate (2 - (lg_sl ([.ref mo, .int v])).length) Slot.unset).toArray = ls at hl ⊢
  have hl : lv_has ls 2 [(0, .ref mo), (1, .int v)] := hl
  refine lv_aload_n hx hb dX5_many_0 rfl (lv_at hl 0 rfl) ?_
  refine lv_iload_n hx hb dX5_many_1 rfl (lv_at hl 1 rfl) ?_
  refine lv_iconst (v := nI 0) hx hb dX5_many_2 (by decide) ?_
  refine lv_bipush (v := nI 13) hx hb dX5_many_3 (by decide) ?_
  refine kt_callSiM (w' := wR (nI 0) z0 mo eo er gr av ro co kl dd cI cII) (rest := [.ref mo]) (As := [.int v, .int (nI 0), .int (nI 13)]) ⟨hx, hb, hml, hown, hts⟩ (c_X5_isIn_n l dC dI cI cII cJ cJJ cZ cO v (nI 0) (nI 13) _ (h)) (va_cwS 3 hts gX5_many_X5_isIn rfl rfl rfl (by decide +kernel) ⟨Nat.le_of_ble_eq_true rfl, Nat.le_of_ble_eq_true rfl⟩) hK hP hD hS hA [] (kt_sw_nil _) rfl rfl rfl hl.1 (Nat.le_of_ble_eq_true rfl) dX5_many_5 ⟨Nat.le_of_ble_eq_true rfl, Nat.le_of_ble_eq_true rfl⟩ (fun H locs hP hD hS => ?_)
  have hP : va_P (dC, dI) vwCl (wR (nI 0) z0 mo eo er gr av ro co kl dd cI cII) H := hP
  have hD : va_D A (wR (nI 0) z0 mo eo er gr av ro co kl dd cI cII) := hD
  refine lv_if_ne (tgt := 15) hx hb dX5_many_8 (by decide) (fun c1 => ?_) (fun c1 => ?_)
  · first | exact absurd c1 (by decide) | exact (c1 (by decide)).elim
  · skip
    refine lv_iconst (v := nI 1) hx hb dX5_many_11 (by decide) ?_
    refine lv_goto (tgt := 16) hx hb dX5_many_12 (by decide) ?_
    refine lv_iconst (v := nI 1) hx hb dX5_many_16 (by decide) ?_
    refine kt_calliM (w' := wR (nI 1) z0 mo eo er gr av ro co kl dd cI cII) (rest := []) (As := [.int (nI 1), .int (nI 1)]) ⟨hx, hb, hml, hown, hts⟩ (c_X5_start_1 l dC dI cI cII cJ cJJ cZ cO mo eo er gr av ro co kl dd _ ) (cwV 2 hts gX5_many_X5_start rfl rfl rfl (by decide +kernel) ⟨Nat.le_of_ble_eq_true rfl, Nat.le_of_ble_eq_true rfl⟩) hK hP hD hS hA (List.range' 0 14) sw_R0 rfl 0 kX5 rfl rfl rfl rfl rfl hl.1 (Nat.le_of_ble_eq_true rfl) dX5_many_17 ⟨Nat.le_of_ble_eq_true rfl, Nat.le_of_ble_eq_true rfl⟩ (fun H locs hP hD hS => ?_)
    have hP : va_P (dC, dI) vwCl (wR (nI 1) z0 mo eo er gr av ro co kl dd cI cII) H := hP
    have hD : va_D A (wR (nI 1) z0 mo eo er gr av ro co kl dd cI cII) := hD
    refine lv_if_eq (tgt := 27) hx hb dX5_many_20 (by decide) (fun c2 => ?_) (fun c2 => ?_)
    · first | exact absurd c2 (by decide) | exact (c2 (by decide)).elim
    · skip
      refine lv_iconst (v := nI 0) hx hb dX5_many_23 (by decide) ?_
      refine lv_goto (tgt := 32) hx hb dX5_many_24 (by decide) ?_
      refine W.widen (k := 0) (n := 0) (by omega) (by omega) ?_
      have hP := kt_sub (wC := [(mo, .inr (kX5, .int (nI 1) :: [.int (nI 0), .ref eo, .ref gr, .ref av, .ref ro, .ref co, .ref kl, .int (nI 0), .int (nI 0), .int (nI 0)]))]) hP [0] rfl
      have hD := hD.sub (ws' := [(mo, .inr (kX5, .int (nI 1) :: [.int (nI 0), .ref eo, .ref gr, .ref av, .ref ro, .ref co, .ref kl, .int (nI 0), .int (nI 0), .int (nI 0)]))]) [0] rfl rfl
      exact kt_iretU (mo := mo) (th := (nI 1)) (vs := [.int (nI 0), .ref eo, .ref gr, .ref av, .ref ro, .ref co, .ref kl, .int (nI 0), .int (nI 0), .int (nI 0)]) hx hb hr hS hP hK hD (by decide) hlocks dX5_many_32

set_option maxHeartbeats 4000000 in
set_option maxRecDepth 100000 in
theorem t_many (l : Launch) (dC : Nat → ClassId) (dI : Nat → Nat → Nat) (cI cII cJ cJJ cZ cO : ClassId) (mo : Nat) (eo : Nat) (er : Nat → Nat) (gr : Nat) (av : Nat) (ro : Nat) (co : Nat) (kl : Nat) (dd : Nat) (w : Nat) (sz : Nat) (hw : w < 14) : Met l yX5_many wsX5_many ({ frames := 2, cells := 2, slots := 21, locals := 51 }) (va_Pc [.ref mo, .int (nI w)] (PRE (dC, dI) (tyR cI cII cJ cJJ cZ cO) (wR (nI 0) z0 mo eo er gr av ro co kl dd cI cII) sz)) (va_Qi (fun (r' : Int32) (_ : List Value) => r' = upd z0 13 (nI 1) w) (fun (u : List Value) tS => ATW (dC, dI) (tyR cI cII cJ cJJ cZ cO) (va_A (wR (nI 0) z0 mo eo er gr av ro co kl dd cI cII) sz) [(mo, .inr (kX5, .int (nI 0) :: u))] tS) (va_A (wR (nI 0) z0 mo eo er gr av ro co kl dd cI cII) sz)) 2 21 (va_A (wR (nI 0) z0 mo eo er gr av ro co kl dd cI cII) sz) := by
  refine Met.ofW (cc := cX5_many) (maxL := 2) (ret := (some .int)) (by decide) rfl ?_
  intro p e s m args below meth c s₁ B hml hv
  obtain ⟨rfl, hsz, hP, hK, hD0⟩ := hv
  have hx := B.exec
  have hb := B.bytes
  have hr := B.returns
  have hlocks := B.notSynchronized
  have hts := atoms_spec (ws := wsX5_many) B.pre
  have hown : s.vm.findClass RX5 = some m.cls := findClass_of_methodNamed B.named
  subst hsz
  have hD := hD0.self (sz := s.heap.size)
  generalize hAe : va_A (wR (nI 0) z0 mo eo er gr av ro co kl dd cI cII) s.heap.size = A at hD ⊢
  have hA : ∀ q : Nat, s.heap.size ≤ q → A q := fun q h => by rw [← hAe]; exact Or.inr h
  have hS : va_S A s.heap s.heap [] := va_S.rf
  have hl := lv_entry ([.ref mo, .int (nI w)]) (n := 2) (Nat.le_of_ble_eq_true rfl)
  rw [lg_entry_eq]
  generalize (lg_sl ([.ref mo, .int (nI w)]) ++ List.replicate (2 - (lg_sl ([.ref mo, .int (nI w)])).length) Slot.unset).toArray = ls at hl ⊢
  have hl : lv_has ls 2 [(0, .ref mo), (1, .int (nI w))] := hl
  refine lv_aload_n hx hb dX5_many_0 rfl (lv_at hl 0 rfl) ?_
  refine lv_iload_n hx hb dX5_many_1 rfl (lv_at hl 1 rfl) ?_
  refine lv_iconst (v := nI 0) hx hb dX5_many_2 (by decide) ?_
  refine lv_bipush (v := nI 13) hx hb dX5_many_3 (by decide) ?_
  refine kt_callSiM (w' := wR (nI 0) z0 mo eo er gr av ro co kl dd cI cII) (rest := [.ref mo]) (As := [.int (nI w), .int (nI 0), .int (nI 13)]) ⟨hx, hb, hml, hown, hts⟩ (c_X5_isIn_y l dC dI cI cII cJ cJJ cZ cO (nI w) (nI 0) (nI 13) _ (nI_pos (by omega)) (nI_ngt (by omega))) (va_cwS 3 hts gX5_many_X5_isIn rfl rfl rfl (by decide +kernel) ⟨Nat.le_of_ble_eq_true rfl, Nat.le_of_ble_eq_true rfl⟩) hK hP hD hS hA [] (kt_sw_nil _) rfl rfl rfl hl.1 (Nat.le_of_ble_eq_true rfl) dX5_many_5 ⟨Nat.le_of_ble_eq_true rfl, Nat.le_of_ble_eq_true rfl⟩ (fun H locs hP hD hS => ?_)
  have hP : va_P (dC, dI) vwCl (wR (nI 0) z0 mo eo er gr av ro co kl dd cI cII) H := hP
  have hD : va_D A (wR (nI 0) z0 mo eo er gr av ro co kl dd cI cII) := hD
  refine lv_if_ne (tgt := 15) hx hb dX5_many_8 (by decide) (fun c1 => ?_) (fun c1 => ?_)
  · skip
    refine lv_iconst (v := nI 0) hx hb dX5_many_15 (by decide) ?_
    refine lv_iconst (v := nI 1) hx hb dX5_many_16 (by decide) ?_
    refine kt_calliM (w' := wR (nI 0) z0 mo eo er gr av ro co kl dd cI cII) (rest := []) (As := [.int (nI 0), .int (nI 1)]) ⟨hx, hb, hml, hown, hts⟩ (c_X5_start_0 l dC dI cI cII cJ cJJ cZ cO mo eo er gr av ro co kl dd _ ) (cwV 2 hts gX5_many_X5_start rfl rfl rfl (by decide +kernel) ⟨Nat.le_of_ble_eq_true rfl, Nat.le_of_ble_eq_true rfl⟩) hK hP hD hS hA (List.range' 0 14) sw_R0 rfl 0 kX5 rfl rfl rfl rfl rfl hl.1 (Nat.le_of_ble_eq_true rfl) dX5_many_17 ⟨Nat.le_of_ble_eq_true rfl, Nat.le_of_ble_eq_true rfl⟩ (fun H locs hP hD hS => ?_)
    have hP : va_P (dC, dI) vwCl (wR (nI 0) z0 mo eo er gr av ro co kl dd cI cII) H := hP
    have hD : va_D A (wR (nI 0) z0 mo eo er gr av ro co kl dd cI cII) := hD
    refine lv_if_eq (tgt := 27) hx hb dX5_many_20 (by decide) (fun c2 => ?_) (fun c2 => ?_)
    · skip
      refine lv_aload_n hx hb dX5_many_27 rfl (lv_at hl 0 rfl) ?_
      refine lv_iload_n hx hb dX5_many_28 rfl (lv_at hl 1 rfl) ?_
      refine kt_calliM (w' := wR (nI 0) z0 mo eo er gr av ro co kl dd cI cII) (rest := []) (As := [.int (nI w)]) ⟨hx, hb, hml, hown, hts⟩ (c_X5_told l dC dI cI cII cJ cJJ cZ cO mo eo er gr av ro co kl dd (nI 0) w _ (by omega)) (cwV 1 hts gX5_many_X5_told rfl rfl rfl (by decide +kernel) ⟨Nat.le_of_ble_eq_true rfl, Nat.le_of_ble_eq_true rfl⟩) hK hP hD hS hA (List.range' 0 14) sw_R0 rfl 0 kX5 rfl rfl rfl rfl rfl hl.1 (Nat.le_of_ble_eq_true rfl) dX5_many_29 ⟨Nat.le_of_ble_eq_true rfl, Nat.le_of_ble_eq_true rfl⟩ (fun H locs hP hD hS => ?_)
      have hP : va_P (dC, dI) vwCl (wR (nI 0) z0 mo eo er gr av ro co kl dd cI cII) H := hP
      have hD : va_D A (wR (nI 0) z0 mo eo er gr av ro co kl dd cI cII) := hD
      refine W.widen (k := 2) (n := 21) (by omega) (by omega) ?_
      refine W.widen (k := 2) (n := 21) (by omega) (by omega) ?_
      have hP := kt_sub (wC := [(mo, .inr (kX5, .int (nI 0) :: [.int (nI 0), .ref eo, .ref gr, .ref av, .ref ro, .ref co, .ref kl, .int (nI 0), .int (nI 0), .int (nI 0)]))]) hP [0] rfl
      have hD := hD.sub (ws' := [(mo, .inr (kX5, .int (nI 0) :: [.int (nI 0), .ref eo, .ref gr, .ref av, .ref ro, .ref co, .ref kl, .int (nI 0), .int (nI 0), .int (nI 0)]))]) [0] rfl rfl
      exact kt_iretU (mo := mo) (th := (nI 0)) (vs := [.int (nI 0), .ref eo, .ref gr, .ref av, .ref ro, .ref co, .ref kl, .int (nI 0), .int (nI 0), .int (nI 0)]) hx hb hr hS hP hK hD (rfl) hlocks dX5_many_32
    · first | exact absurd c2 (by decide) | exact (c2 (by decide)).elim
  · first | exact absurd c1 (by decide) | exact (c1 (by decide)).elim

set_option maxHeartbeats 4000000 in
set_option maxRecDepth 100000 in
theorem t_would (l : Launch) (dC : Nat → ClassId) (dI : Nat → Nat → Nat) (cI cII cJ cJJ cZ cO : ClassId) (mo : Nat) (eo : Nat) (er : Nat → Nat) (gr : Nat) (av : Nat) (ro : Nat) (co : Nat) (kl : Nat) (dd : Nat) (v : Int32) (q : Int32) (x : Int32) (sz : Nat)  : Met l yX5_would wsX5_would ({ frames := 2, cells := 0, slots := 0, locals := 44 }) (va_Pc [.ref mo, .int v, .int q, .int x] (PRE (dC, dI) (tyR cI cII cJ cJJ cZ cO) (wR (nI 0) z0 mo eo er gr av ro co kl dd cI cII) sz)) (va_Qi (fun (r' : Int32) (_ : List Value) => r' = nI 0) (fun (u : List Value) tS => ATW (dC, dI) (tyR cI cII cJ cJJ cZ cO) (va_A (wR (nI 0) z0 mo eo er gr av ro co kl dd cI cII) sz) [(mo, .inr (kX5, .int (nI 1) :: u))] tS) (va_A (wR (nI 0) z0 mo eo er gr av ro co kl dd cI cII) sz)) 0 0 (va_A (wR (nI 0) z0 mo eo er gr av ro co kl dd cI cII) sz) := by
  refine Met.ofW (cc := cX5_would) (maxL := 4) (ret := (some .int)) (by decide) rfl ?_
  intro p e s m args below meth c s₁ B hml hv
  obtain ⟨rfl, hsz, hP, hK, hD0⟩ := hv
  have hx := B.exec
  have hb := B.bytes
  have hr := B.returns
  have hlocks := B.notSynchronized
  have hts := atoms_spec (ws := wsX5_would) B.pre
  have hown : s.vm.findClass RX5 = some m.cls := findClass_of_methodNamed B.named
  subst hsz
  have hD := hD0.self (sz := s.heap.size)
  generalize hAe : va_A (wR (nI 0) z0 mo eo er gr av ro co kl dd cI cII) s.heap.size = A at hD ⊢
  have hA : ∀ q : Nat, s.heap.size ≤ q → A q := fun q h => by rw [← hAe]; exact Or.inr h
  have hS : va_S A s.heap s.heap [] := va_S.rf
  have hl := lv_entry ([.ref mo, .int v, .int q, .int x]) (n := 4) (Nat.le_of_ble_eq_true rfl)
  rw [lg_entry_eq]
  generalize (lg_sl ([.ref mo, .int v, .int q, .int x]) ++ List.replicate (4 - (lg_sl ([.ref mo, .int v, .int q, .int x])).length) Slot.unset).toArray = ls at hl ⊢
  have hl : lv_has ls 4 [(0, .ref mo), (1, .int v), (2, .int q), (3, .int x)] := hl
  refine lv_aload_n hx hb dX5_would_0 rfl (lv_at hl 0 rfl) ?_
  refine lv_aload_n hx hb dX5_would_1 rfl (lv_at hl 0 rfl) ?_
  refine lv_iload_n hx hb dX5_would_2 rfl (lv_at hl 1 rfl) ?_
  refine kt_calliM (w' := wR (nI 0) z0 mo eo er gr av ro co kl dd cI cII) (rest := [.ref mo]) (As := [.int v]) ⟨hx, hb, hml, hown, hts⟩ (c_X5_isNoSpot l dC dI cI cII cJ cJJ cZ cO mo eo er gr av ro co kl dd v (nI 0) _ ) (cwV 1 hts gX5_would_X5_isNoSpot rfl rfl rfl (by decide +kernel) ⟨Nat.le_of_ble_eq_true rfl, Nat.le_of_ble_eq_true rfl⟩) hK hP hD hS hA (List.range' 0 14) sw_R0 rfl 0 kX5 rfl rfl rfl rfl rfl hl.1 (Nat.le_of_ble_eq_true rfl) dX5_would_3 ⟨Nat.le_of_ble_eq_true rfl, Nat.le_of_ble_eq_true rfl⟩ (fun H locs hP hD hS => ?_)
  have hP : va_P (dC, dI) vwCl (wR (nI 0) z0 mo eo er gr av ro co kl dd cI cII) H := hP
  have hD : va_D A (wR (nI 0) z0 mo eo er gr av ro co kl dd cI cII) := hD
  refine lv_iconst (v := nI 1) hx hb dX5_would_6 (by decide) ?_
  refine kt_calliM (w' := wR (nI 1) z0 mo eo er gr av ro co kl dd cI cII) (rest := []) (As := [.int (nI 1), .int (nI 1)]) ⟨hx, hb, hml, hown, hts⟩ (c_X5_start_1 l dC dI cI cII cJ cJJ cZ cO mo eo er gr av ro co kl dd _ ) (cwV 2 hts gX5_would_X5_start rfl rfl rfl (by decide +kernel) ⟨Nat.le_of_ble_eq_true rfl, Nat.le_of_ble_eq_true rfl⟩) hK hP hD hS hA (List.range' 0 14) sw_R0 rfl 0 kX5 rfl rfl rfl rfl rfl hl.1 (Nat.le_of_ble_eq_true rfl) dX5_would_7 ⟨Nat.le_of_ble_eq_true rfl, Nat.le_of_ble_eq_true rfl⟩ (fun H locs hP hD hS => ?_)
  have hP : va_P (dC, dI) vwCl (wR (nI 1) z0 mo eo er gr av ro co kl dd cI cII) H := hP
  have hD : va_D A (wR (nI 1) z0 mo eo er gr av ro co kl dd cI cII) := hD
  refine lv_if_ne (tgt := 65) hx hb dX5_would_10 (by decide) (fun c1 => ?_) (fun c1 => ?_)
  · skip
    refine lv_iconst (v := nI 0) hx hb dX5_would_65 (by decide) ?_
    refine W.widen (k := 0) (n := 0) (by omega) (by omega) ?_
    have hP := kt_sub (wC := [(mo, .inr (kX5, .int (nI 1) :: [.int (nI 0), .ref eo, .ref gr, .ref av, .ref ro, .ref co, .ref kl, .int (nI 0), .int (nI 0), .int (nI 0)]))]) hP [0] rfl
    have hD := hD.sub (ws' := [(mo, .inr (kX5, .int (nI 1) :: [.int (nI 0), .ref eo, .ref gr, .ref av, .ref ro, .ref co, .ref kl, .int (nI 0), .int (nI 0), .int (nI 0)]))]) [0] rfl rfl
    exact kt_iretU (mo := mo) (th := (nI 1)) (vs := [.int (nI 0), .ref eo, .ref gr, .ref av, .ref ro, .ref co, .ref kl, .int (nI 0), .int (nI 0), .int (nI 0)]) hx hb hr hS hP hK hD (by decide) hlocks dX5_would_66
  · first | exact absurd c1 (by decide) | exact (c1 (by decide)).elim

set_option maxHeartbeats 4000000 in
set_option maxRecDepth 100000 in
theorem t_isLasting (l : Launch) (dC : Nat → ClassId) (dI : Nat → Nat → Nat) (cI cII cJ cJJ cZ cO : ClassId) (mo : Nat) (eo : Nat) (er : Nat → Nat) (gr : Nat) (av : Nat) (ro : Nat) (co : Nat) (kl : Nat) (dd : Nat) (sz : Nat)  : Met l yX5_isLasting wsX5_isLasting ({ frames := 2, cells := 1, slots := 7, locals := 44 }) (va_Pc [.ref mo] (PRE (dC, dI) (tyR cI cII cJ cJJ cZ cO) (wR (nI 0) z0 mo eo er gr av ro co kl dd cI cII) sz)) (va_Qi (fun (r' : Int32) (_ : List Value) => r' = nI 0) (fun (u : List Value) tS => ATW (dC, dI) (tyR cI cII cJ cJJ cZ cO) (va_A (wR (nI 0) z0 mo eo er gr av ro co kl dd cI cII) sz) [(mo, .inr (kX5, .int (nI 1) :: u))] tS) (va_A (wR (nI 0) z0 mo eo er gr av ro co kl dd cI cII) sz)) 1 7 (va_A (wR (nI 0) z0 mo eo er gr av ro co kl dd cI cII) sz) := by
  refine Met.ofW (cc := cX5_isLasting) (maxL := 1) (ret := (some .boolean)) (by decide) rfl ?_
  intro p e s m args below meth c s₁ B hml hv
  obtain ⟨rfl, hsz, hP, hK, hD0⟩ := hv
  have hx := B.exec
  have hb := B.bytes
  have hr := B.returns
  have hlocks := B.notSynchronized
  have hts := atoms_spec (ws := wsX5_isLasting) B.pre
  have hown : s.vm.findClass RX5 = some m.cls := findClass_of_methodNamed B.named
  subst hsz
  have hD := hD0.self (sz := s.heap.size)
  generalize hAe : va_A (wR (nI 0) z0 mo eo er gr av ro co kl dd cI cII) s.heap.size = A at hD ⊢
  have hA : ∀ q : Nat, s.heap.size ≤ q → A q := fun q h => by rw [← hAe]; exact Or.inr h
  have hS : va_S A s.heap s.heap [] := va_S.rf
  have hl := lv_entry ([.ref mo]) (n := 1) (Nat.le_of_ble_eq_true rfl)
  rw [lg_entry_eq]
  generalize (lg_sl ([.ref mo]) ++ List.replicate (1 - (lg_sl ([.ref mo])).length) Slot.unset).toArray = ls at hl ⊢
  have hl : lv_has ls 1 [(0, .ref mo)] := hl
  refine lv_aload_n hx hb dX5_isLasting_0 rfl (lv_at hl 0 rfl) ?_
  refine lv_aload_n hx hb dX5_isLasting_1 rfl (lv_at hl 0 rfl) ?_
  refine kt_calliM (w' := wR (nI 0) z0 mo eo er gr av ro co kl dd cI cII) (rest := [.ref mo]) (As := []) ⟨hx, hb, hml, hown, hts⟩ (c_X5_isFast l dC dI cI cII cJ cJJ cZ cO mo eo er gr av ro co kl dd (nI 0) _ ) (cwV 0 hts gX5_isLasting_X5_isFast rfl rfl rfl (by decide +kernel) ⟨Nat.le_of_ble_eq_true rfl, Nat.le_of_ble_eq_true rfl⟩) hK hP hD hS hA (List.range' 0 14) sw_R0 rfl 0 kX5 rfl rfl rfl rfl rfl hl.1 (Nat.le_of_ble_eq_true rfl) dX5_isLasting_2 ⟨Nat.le_of_ble_eq_true rfl, Nat.le_of_ble_eq_true rfl⟩ (fun H locs hP hD hS => ?_)
  have hP : va_P (dC, dI) vwCl (wR (nI 0) z0 mo eo er gr av ro co kl dd cI cII) H := hP
  have hD : va_D A (wR (nI 0) z0 mo eo er gr av ro co kl dd cI cII) := hD
  refine W.widen (k := 1) (n := 7) (by omega) (by omega) ?_
  refine lv_if_ne (tgt := 12) hx hb dX5_isLasting_5 (by decide) (fun c1 => ?_) (fun c1 => ?_)
  · first | exact absurd c1 (by decide) | exact (c1 (by decide)).elim
  · skip
    refine lv_iconst (v := nI 1) hx hb dX5_isLasting_8 (by decide) ?_
    refine lv_goto (tgt := 13) hx hb dX5_isLasting_9 (by decide) ?_
    refine lv_iconst (v := nI 1) hx hb dX5_isLasting_13 (by decide) ?_
    refine kt_calliM (w' := wR (nI 1) z0 mo eo er gr av ro co kl dd cI cII) (rest := []) (As := [.int (nI 1), .int (nI 1)]) ⟨hx, hb, hml, hown, hts⟩ (c_X5_start_1 l dC dI cI cII cJ cJJ cZ cO mo eo er gr av ro co kl dd _ ) (cwV 2 hts gX5_isLasting_X5_start rfl rfl rfl (by decide +kernel) ⟨Nat.le_of_ble_eq_true rfl, Nat.le_of_ble_eq_true rfl⟩) hK hP hD hS hA (List.range' 0 14) sw_R0 rfl 0 kX5 rfl rfl rfl rfl rfl hl.1 (Nat.le_of_ble_eq_true rfl) dX5_isLasting_14 ⟨Nat.le_of_ble_eq_true rfl, Nat.le_of_ble_eq_true rfl⟩ (fun H locs hP hD hS => ?_)
    have hP : va_P (dC, dI) vwCl (wR (nI 1) z0 mo eo er gr av ro co kl dd cI cII) H := hP
    have hD : va_D A (wR (nI 1) z0 mo eo er gr av ro co kl dd cI cII) := hD
    refine lv_if_ne (tgt := 31) hx hb dX5_isLasting_17 (by decide) (fun c2 => ?_) (fun c2 => ?_)
    · skip
      refine lv_iconst (v := nI 0) hx hb dX5_isLasting_31 (by decide) ?_
      refine W.widen (k := 1) (n := 7) (by omega) (by omega) ?_
      have hP := kt_sub (wC := [(mo, .inr (kX5, .int (nI 1) :: [.int (nI 0), .ref eo, .ref gr, .ref av, .ref ro, .ref co, .ref kl, .int (nI 0), .int (nI 0), .int (nI 0)]))]) hP [0] rfl
      have hD := hD.sub (ws' := [(mo, .inr (kX5, .int (nI 1) :: [.int (nI 0), .ref eo, .ref gr, .ref av, .ref ro, .ref co, .ref kl, .int (nI 0), .int (nI 0), .int (nI 0)]))]) [0] rfl rfl
      exact kt_zretU (mo := mo) (th := (nI 1)) (vs := [.int (nI 0), .ref eo, .ref gr, .ref av, .ref ro, .ref co, .ref kl, .int (nI 0), .int (nI 0), .int (nI 0)]) hx hb hr (rfl) hS hP hK hD (by decide) hlocks dX5_isLasting_32
    · first | exact absurd c2 (by decide) | exact (c2 (by decide)).elim

set_option maxHeartbeats 4000000 in
set_option maxRecDepth 100000 in
theorem t_neutral (l : Launch) (dC : Nat → ClassId) (dI : Nat → Nat → Nat) (cI cII cJ cJJ cZ cO : ClassId) (mo : Nat) (eo : Nat) (er : Nat → Nat) (gr : Nat) (av : Nat) (ro : Nat) (co : Nat) (kl : Nat) (dd : Nat) (v : Int32) (sz : Nat)  : Met l yX5_neutral_ wsX5_neutral_ ({ frames := 2, cells := 0, slots := 0, locals := 44 }) (va_Pc [.ref mo, .int v] (PRE (dC, dI) (tyR cI cII cJ cJJ cZ cO) (wR (nI 0) z0 mo eo er gr av ro co kl dd cI cII) sz)) (va_Qi (fun (r' : Int32) (_ : List Value) => r' = nI 0) (fun (u : List Value) tS => ATW (dC, dI) (tyR cI cII cJ cJJ cZ cO) (va_A (wR (nI 0) z0 mo eo er gr av ro co kl dd cI cII) sz) [(mo, .inr (kX5, .int (nI 1) :: u))] tS) (va_A (wR (nI 0) z0 mo eo er gr av ro co kl dd cI cII) sz)) 0 0 (va_A (wR (nI 0) z0 mo eo er gr av ro co kl dd cI cII) sz) := by
  refine Met.ofW (cc := cX5_neutral_) (maxL := 2) (ret := (some .int)) (by decide) rfl ?_
  intro p e s m args below meth c s₁ B hml hv
  obtain ⟨rfl, hsz, hP, hK, hD0⟩ := hv
  have hx := B.exec
  have hb := B.bytes
  have hr := B.returns
  have hlocks := B.notSynchronized
  have hts := atoms_spec (ws := wsX5_neutral_) B.pre
  have hown : s.vm.findClass RX5 = some m.cls := findClass_of_methodNamed B.named
  subst hsz
  have hD := hD0.self (sz := s.heap.size)
  generalize hAe : va_A (wR (nI 0) z0 mo eo er gr av ro co kl dd cI cII) s.heap.size = A at hD ⊢
  have hA : ∀ q : Nat, s.heap.size ≤ q → A q := fun q h => by rw [← hAe]; exact Or.inr h
  have hS : va_S A s.heap s.heap [] := va_S.rf
  have hl := lv_entry ([.ref mo, .int v]) (n := 2) (Nat.le_of_ble_eq_true rfl)
  rw [lg_entry_eq]
  generalize (lg_sl ([.ref mo, .int v]) ++ List.replicate (2 - (lg_sl ([.ref mo, .int v])).length) Slot.unset).toArray = ls at hl ⊢
  have hl : lv_has ls 2 [(0, .ref mo), (1, .int v)] := hl
  refine lv_aload_n hx hb dX5_neutral__0 rfl (lv_at hl 0 rfl) ?_
  refine lv_aload_n hx hb dX5_neutral__1 rfl (lv_at hl 0 rfl) ?_
  refine lv_iload_n hx hb dX5_neutral__2 rfl (lv_at hl 1 rfl) ?_
  refine kt_calliM (w' := wR (nI 0) z0 mo eo er gr av ro co kl dd cI cII) (rest := [.ref mo]) (As := [.int v]) ⟨hx, hb, hml, hown, hts⟩ (c_X5_isNoSpot l dC dI cI cII cJ cJJ cZ cO mo eo er gr av ro co kl dd v (nI 0) _ ) (cwV 1 hts gX5_neutral__X5_isNoSpot rfl rfl rfl (by decide +kernel) ⟨Nat.le_of_ble_eq_true rfl, Nat.le_of_ble_eq_true rfl⟩) hK hP hD hS hA (List.range' 0 14) sw_R0 rfl 0 kX5 rfl rfl rfl rfl rfl hl.1 (Nat.le_of_ble_eq_true rfl) dX5_neutral__3 ⟨Nat.le_of_ble_eq_true rfl, Nat.le_of_ble_eq_true rfl⟩ (fun H locs hP hD hS => ?_)
  have hP : va_P (dC, dI) vwCl (wR (nI 0) z0 mo eo er gr av ro co kl dd cI cII) H := hP
  have hD : va_D A (wR (nI 0) z0 mo eo er gr av ro co kl dd cI cII) := hD
  refine lv_iconst (v := nI 1) hx hb dX5_neutral__6 (by decide) ?_
  refine kt_calliM (w' := wR (nI 1) z0 mo eo er gr av ro co kl dd cI cII) (rest := []) (As := [.int (nI 1), .int (nI 1)]) ⟨hx, hb, hml, hown, hts⟩ (c_X5_start_1 l dC dI cI cII cJ cJJ cZ cO mo eo er gr av ro co kl dd _ ) (cwV 2 hts gX5_neutral__X5_start rfl rfl rfl (by decide +kernel) ⟨Nat.le_of_ble_eq_true rfl, Nat.le_of_ble_eq_true rfl⟩) hK hP hD hS hA (List.range' 0 14) sw_R0 rfl 0 kX5 rfl rfl rfl rfl rfl hl.1 (Nat.le_of_ble_eq_true rfl) dX5_neutral__7 ⟨Nat.le_of_ble_eq_true rfl, Nat.le_of_ble_eq_true rfl⟩ (fun H locs hP hD hS => ?_)
  have hP : va_P (dC, dI) vwCl (wR (nI 1) z0 mo eo er gr av ro co kl dd cI cII) H := hP
  have hD : va_D A (wR (nI 1) z0 mo eo er gr av ro co kl dd cI cII) := hD
  refine lv_if_ne (tgt := 33) hx hb dX5_neutral__10 (by decide) (fun c1 => ?_) (fun c1 => ?_)
  · skip
    refine lv_iconst (v := nI 0) hx hb dX5_neutral__33 (by decide) ?_
    refine lv_goto (tgt := 43) hx hb dX5_neutral__34 (by decide) ?_
    refine W.widen (k := 0) (n := 0) (by omega) (by omega) ?_
    have hP := kt_sub (wC := [(mo, .inr (kX5, .int (nI 1) :: [.int (nI 0), .ref eo, .ref gr, .ref av, .ref ro, .ref co, .ref kl, .int (nI 0), .int (nI 0), .int (nI 0)]))]) hP [0] rfl
    have hD := hD.sub (ws' := [(mo, .inr (kX5, .int (nI 1) :: [.int (nI 0), .ref eo, .ref gr, .ref av, .ref ro, .ref co, .ref kl, .int (nI 0), .int (nI 0), .int (nI 0)]))]) [0] rfl rfl
    exact kt_iretU (mo := mo) (th := (nI 1)) (vs := [.int (nI 0), .ref eo, .ref gr, .ref av, .ref ro, .ref co, .ref kl, .int (nI 0), .int (nI 0), .int (nI 0)]) hx hb hr hS hP hK hD (by decide) hlocks dX5_neutral__43
  · first | exact absurd c1 (by decide) | exact (c1 (by decide)).elim

set_option maxHeartbeats 4000000 in
set_option maxRecDepth 100000 in
theorem t_fire (l : Launch) (dC : Nat → ClassId) (dI : Nat → Nat → Nat) (cI cII cJ cJJ cZ cO : ClassId) (mo : Nat) (eo : Nat) (er : Nat → Nat) (gr : Nat) (av : Nat) (ro : Nat) (co : Nat) (kl : Nat) (dd : Nat) (sz : Nat)  : Met l yX5_fire wsX5_fire ({ frames := 1, cells := 0, slots := 0, locals := 26 }) (va_Pc [.ref mo] (PRE (dC, dI) (tyR cI cII cJ cJJ cZ cO) (wR (nI 0) z0 mo eo er gr av ro co kl dd cI cII) sz)) (va_Qi (fun (r' : Int32) (_ : List Value) => r' = nI 0) (fun (u : List Value) tS => ATW (dC, dI) (tyR cI cII cJ cJJ cZ cO) (va_A (wR (nI 0) z0 mo eo er gr av ro co kl dd cI cII) sz) [(mo, .inr (kX5, .int (nI 0) :: u))] tS) (va_A (wR (nI 0) z0 mo eo er gr av ro co kl dd cI cII) sz)) 0 0 (va_A (wR (nI 0) z0 mo eo er gr av ro co kl dd cI cII) sz) := by
  refine Met.ofW (cc := cX5_fire) (maxL := 1) (ret := (some .int)) (by decide) rfl ?_
  intro p e s m args below meth c s₁ B hml hv
  obtain ⟨rfl, hsz, hP, hK, hD0⟩ := hv
  have hx := B.exec
  have hb := B.bytes
  have hr := B.returns
  have hlocks := B.notSynchronized
  have hts := atoms_spec (ws := wsX5_fire) B.pre
  have hown : s.vm.findClass RX5 = some m.cls := findClass_of_methodNamed B.named
  subst hsz
  have hD := hD0.self (sz := s.heap.size)
  generalize hAe : va_A (wR (nI 0) z0 mo eo er gr av ro co kl dd cI cII) s.heap.size = A at hD ⊢
  have hA : ∀ q : Nat, s.heap.size ≤ q → A q := fun q h => by rw [← hAe]; exact Or.inr h
  have hS : va_S A s.heap s.heap [] := va_S.rf
  have hl := lv_entry ([.ref mo]) (n := 1) (Nat.le_of_ble_eq_true rfl)
  rw [lg_entry_eq]
  generalize (lg_sl ([.ref mo]) ++ List.replicate (1 - (lg_sl ([.ref mo])).length) Slot.unset).toArray = ls at hl ⊢
  have hl : lv_has ls 1 [(0, .ref mo)] := hl
  have hi_X5 : ∀ w ∈ u_ws RX5 TX5 11, w ∈ wsX5_fire := by decide +kernel
  have hf_34 := hts (.fieldLink RX5 34 "TopplemoorModel" "thrown" "I") (by decide +kernel)
  refine lv_aload_n hx hb dX5_fire_0 rfl (lv_at hl 0 rfl) ?_
  refine lv_iconst (v := nI 0) hx hb dX5_fire_1 (by decide) ?_
  refine va_put (D := (dC, dI)) (ci := kX5) (v := .int (nI 0)) (ty := .int) (C := RX5) (T := TX5) (N := 11) hx hb hts hi_X5 tyX5 tyX5_ok nmX5 hown hK hP hD hS 0 rfl rfl 0 (by decide) hf_34 (fun _ h9 => h9) rfl (by decide +kernel) rfl rfl (Nat.le_of_ble_eq_true rfl) dX5_fire_2 (fun H locs hP hD hS => ?_)
  have hP : va_P (dC, dI) vwCl (wR (nI 0) z0 mo eo er gr av ro co kl dd cI cII) H := hP
  have hD : va_D A (wR (nI 0) z0 mo eo er gr av ro co kl dd cI cII) := hD
  refine lv_aload_n hx hb dX5_fire_5 rfl (lv_at hl 0 rfl) ?_
  refine kt_calliM (w' := wR (nI 0) z0 mo eo er gr av ro co kl dd cI cII) (rest := []) (As := []) ⟨hx, hb, hml, hown, hts⟩ (c_X5_burnt l dC dI cI cII cJ cJJ cZ cO mo eo er gr av ro co kl dd (nI 0) _ ) (cwV 0 hts gX5_fire_X5_burnt rfl rfl rfl (by decide +kernel) ⟨Nat.le_of_ble_eq_true rfl, Nat.le_of_ble_eq_true rfl⟩) hK hP hD hS hA (List.range' 0 14) sw_R0 rfl 0 kX5 rfl rfl rfl rfl rfl hl.1 (Nat.le_of_ble_eq_true rfl) dX5_fire_6 ⟨Nat.le_of_ble_eq_true rfl, Nat.le_of_ble_eq_true rfl⟩ (fun H locs hP hD hS => ?_)
  have hP : va_P (dC, dI) vwCl (wR (nI 0) z0 mo eo er gr av ro co kl dd cI cII) H := hP
  have hD : va_D A (wR (nI 0) z0 mo eo er gr av ro co kl dd cI cII) := hD
  refine W.widen (k := 0) (n := 0) (by omega) (by omega) ?_
  have hP := kt_sub (wC := [(mo, .inr (kX5, .int (nI 0) :: [.int (nI 0), .ref eo, .ref gr, .ref av, .ref ro, .ref co, .ref kl, .int (nI 0), .int (nI 0), .int (nI 0)]))]) hP [0] rfl
  have hD := hD.sub (ws' := [(mo, .inr (kX5, .int (nI 0) :: [.int (nI 0), .ref eo, .ref gr, .ref av, .ref ro, .ref co, .ref kl, .int (nI 0), .int (nI 0), .int (nI 0)]))]) [0] rfl rfl
  exact kt_iretU (mo := mo) (th := (nI 0)) (vs := [.int (nI 0), .ref eo, .ref gr, .ref av, .ref ro, .ref co, .ref kl, .int (nI 0), .int (nI 0), .int (nI 0)]) hx hb hr hS hP hK hD (by decide) hlocks dX5_fire_9

set_option maxHeartbeats 4000000 in
set_option maxRecDepth 100000 in
theorem t_order (l : Launch) (dC : Nat → ClassId) (dI : Nat → Nat → Nat) (cI cII cJ cJJ cZ cO : ClassId) (mo : Nat) (eo : Nat) (er : Nat → Nat) (gr : Nat) (av : Nat) (ro : Nat) (co : Nat) (kl : Nat) (dd : Nat) (sz : Nat)  : Met l yX5_order wsX5_order ({ frames := 2, cells := 1, slots := 7, locals := 44 }) (va_Pc [.ref mo] (PRE (dC, dI) (tyR cI cII cJ cJJ cZ cO) (wR (nI 0) z0 mo eo er gr av ro co kl dd cI cII) sz)) (va_Qi (fun (r' : Int32) (_ : List Value) => r' = nI 0) (fun (u : List Value) tS => ATW (dC, dI) (tyR cI cII cJ cJJ cZ cO) (va_A (wR (nI 0) z0 mo eo er gr av ro co kl dd cI cII) sz) [(mo, .inr (kX5, .int (nI 1) :: u))] tS) (va_A (wR (nI 0) z0 mo eo er gr av ro co kl dd cI cII) sz)) 1 7 (va_A (wR (nI 0) z0 mo eo er gr av ro co kl dd cI cII) sz) := by
  refine Met.ofW (cc := cX5_order) (maxL := 4) (ret := (some .int)) (by decide) rfl ?_
  intro p e s m args below meth c s₁ B hml hv
  obtain ⟨rfl, hsz, hP, hK, hD0⟩ := hv
  have hx := B.exec
  have hb := B.bytes
  have hr := B.returns
  have hlocks := B.notSynchronized
  have hts := atoms_spec (ws := wsX5_order) B.pre
  have hown : s.vm.findClass RX5 = some m.cls := findClass_of_methodNamed B.named
  subst hsz
  have hD := hD0.self (sz := s.heap.size)
  generalize hAe : va_A (wR (nI 0) z0 mo eo er gr av ro co kl dd cI cII) s.heap.size = A at hD ⊢
  have hA : ∀ q : Nat, s.heap.size ≤ q → A q := fun q h => by rw [← hAe]; exact Or.inr h
  have hS : va_S A s.heap s.heap [] := va_S.rf
  have hl := lv_entry ([.ref mo]) (n := 4) (Nat.le_of_ble_eq_true rfl)
  rw [lg_entry_eq]
  generalize (lg_sl ([.ref mo]) ++ List.replicate (4 - (lg_sl ([.ref mo])).length) Slot.unset).toArray = ls at hl ⊢
  have hl : lv_has ls 4 [(0, .ref mo)] := hl
  refine lv_aload_n hx hb dX5_order_0 rfl (lv_at hl 0 rfl) ?_
  refine lv_aload_n hx hb dX5_order_1 rfl (lv_at hl 0 rfl) ?_
  refine kt_calliM (w' := wR (nI 0) z0 mo eo er gr av ro co kl dd cI cII) (rest := [.ref mo]) (As := []) ⟨hx, hb, hml, hown, hts⟩ (c_X5_isFast l dC dI cI cII cJ cJJ cZ cO mo eo er gr av ro co kl dd (nI 0) _ ) (cwV 0 hts gX5_order_X5_isFast rfl rfl rfl (by decide +kernel) ⟨Nat.le_of_ble_eq_true rfl, Nat.le_of_ble_eq_true rfl⟩) hK hP hD hS hA (List.range' 0 14) sw_R0 rfl 0 kX5 rfl rfl rfl rfl rfl hl.1 (Nat.le_of_ble_eq_true rfl) dX5_order_2 ⟨Nat.le_of_ble_eq_true rfl, Nat.le_of_ble_eq_true rfl⟩ (fun H locs hP hD hS => ?_)
  have hP : va_P (dC, dI) vwCl (wR (nI 0) z0 mo eo er gr av ro co kl dd cI cII) H := hP
  have hD : va_D A (wR (nI 0) z0 mo eo er gr av ro co kl dd cI cII) := hD
  refine W.widen (k := 1) (n := 7) (by omega) (by omega) ?_
  refine lv_if_ne (tgt := 12) hx hb dX5_order_5 (by decide) (fun c1 => ?_) (fun c1 => ?_)
  · first | exact absurd c1 (by decide) | exact (c1 (by decide)).elim
  · skip
    refine lv_iconst (v := nI 1) hx hb dX5_order_8 (by decide) ?_
    refine lv_goto (tgt := 13) hx hb dX5_order_9 (by decide) ?_
    refine lv_iconst (v := nI 1) hx hb dX5_order_13 (by decide) ?_
    refine kt_calliM (w' := wR (nI 1) z0 mo eo er gr av ro co kl dd cI cII) (rest := []) (As := [.int (nI 1), .int (nI 1)]) ⟨hx, hb, hml, hown, hts⟩ (c_X5_start_1 l dC dI cI cII cJ cJJ cZ cO mo eo er gr av ro co kl dd _ ) (cwV 2 hts gX5_order_X5_start rfl rfl rfl (by decide +kernel) ⟨Nat.le_of_ble_eq_true rfl, Nat.le_of_ble_eq_true rfl⟩) hK hP hD hS hA (List.range' 0 14) sw_R0 rfl 0 kX5 rfl rfl rfl rfl rfl hl.1 (Nat.le_of_ble_eq_true rfl) dX5_order_14 ⟨Nat.le_of_ble_eq_true rfl, Nat.le_of_ble_eq_true rfl⟩ (fun H locs hP hD hS => ?_)
    have hP : va_P (dC, dI) vwCl (wR (nI 1) z0 mo eo er gr av ro co kl dd cI cII) H := hP
    have hD : va_D A (wR (nI 1) z0 mo eo er gr av ro co kl dd cI cII) := hD
    refine lv_if_eq (tgt := 22) hx hb dX5_order_17 (by decide) (fun c2 => ?_) (fun c2 => ?_)
    · first | exact absurd c2 (by decide) | exact (c2 (by decide)).elim
    · skip
      refine lv_iconst (v := nI 0) hx hb dX5_order_20 (by decide) ?_
      refine W.widen (k := 1) (n := 7) (by omega) (by omega) ?_
      have hP := kt_sub (wC := [(mo, .inr (kX5, .int (nI 1) :: [.int (nI 0), .ref eo, .ref gr, .ref av, .ref ro, .ref co, .ref kl, .int (nI 0), .int (nI 0), .int (nI 0)]))]) hP [0] rfl
      have hD := hD.sub (ws' := [(mo, .inr (kX5, .int (nI 1) :: [.int (nI 0), .ref eo, .ref gr, .ref av, .ref ro, .ref co, .ref kl, .int (nI 0), .int (nI 0), .int (nI 0)]))]) [0] rfl rfl
      exact kt_iretU (mo := mo) (th := (nI 1)) (vs := [.int (nI 0), .ref eo, .ref gr, .ref av, .ref ro, .ref co, .ref kl, .int (nI 0), .int (nI 0), .int (nI 0)]) hx hb hr hS hP hK hD (by decide) hlocks dX5_order_21

set_option maxHeartbeats 4000000 in
set_option maxRecDepth 100000 in
theorem t_canPay (l : Launch) (dC : Nat → ClassId) (dI : Nat → Nat → Nat) (cI cII cJ cJJ cZ cO : ClassId) (mo : Nat) (eo : Nat) (er : Nat → Nat) (gr : Nat) (av : Nat) (ro : Nat) (co : Nat) (kl : Nat) (dd : Nat) (sz : Nat)  : Met l yX5_canPay wsX5_canPay ({ frames := 2, cells := 1, slots := 7, locals := 44 }) (va_Pc [.ref mo] (PRE (dC, dI) (tyR cI cII cJ cJJ cZ cO) (wR (nI 0) z0 mo eo er gr av ro co kl dd cI cII) sz)) (va_Qi (fun (r' : Int32) (_ : List Value) => r' = nI 0) (fun (u : List Value) tS => ATW (dC, dI) (tyR cI cII cJ cJJ cZ cO) (va_A (wR (nI 0) z0 mo eo er gr av ro co kl dd cI cII) sz) [(mo, .inr (kX5, .int (nI 1) :: u))] tS) (va_A (wR (nI 0) z0 mo eo er gr av ro co kl dd cI cII) sz)) 1 7 (va_A (wR (nI 0) z0 mo eo er gr av ro co kl dd cI cII) sz) := by
  refine Met.ofW (cc := cX5_canPay) (maxL := 1) (ret := (some .boolean)) (by decide) rfl ?_
  intro p e s m args below meth c s₁ B hml hv
  obtain ⟨rfl, hsz, hP, hK, hD0⟩ := hv
  have hx := B.exec
  have hb := B.bytes
  have hr := B.returns
  have hlocks := B.notSynchronized
  have hts := atoms_spec (ws := wsX5_canPay) B.pre
  have hown : s.vm.findClass RX5 = some m.cls := findClass_of_methodNamed B.named
  subst hsz
  have hD := hD0.self (sz := s.heap.size)
  generalize hAe : va_A (wR (nI 0) z0 mo eo er gr av ro co kl dd cI cII) s.heap.size = A at hD ⊢
  have hA : ∀ q : Nat, s.heap.size ≤ q → A q := fun q h => by rw [← hAe]; exact Or.inr h
  have hS : va_S A s.heap s.heap [] := va_S.rf
  have hl := lv_entry ([.ref mo]) (n := 1) (Nat.le_of_ble_eq_true rfl)
  rw [lg_entry_eq]
  generalize (lg_sl ([.ref mo]) ++ List.replicate (1 - (lg_sl ([.ref mo])).length) Slot.unset).toArray = ls at hl ⊢
  have hl : lv_has ls 1 [(0, .ref mo)] := hl
  refine lv_aload_n hx hb dX5_canPay_0 rfl (lv_at hl 0 rfl) ?_
  refine lv_aload_n hx hb dX5_canPay_1 rfl (lv_at hl 0 rfl) ?_
  refine kt_calliM (w' := wR (nI 0) z0 mo eo er gr av ro co kl dd cI cII) (rest := [.ref mo]) (As := []) ⟨hx, hb, hml, hown, hts⟩ (c_X5_isFast l dC dI cI cII cJ cJJ cZ cO mo eo er gr av ro co kl dd (nI 0) _ ) (cwV 0 hts gX5_canPay_X5_isFast rfl rfl rfl (by decide +kernel) ⟨Nat.le_of_ble_eq_true rfl, Nat.le_of_ble_eq_true rfl⟩) hK hP hD hS hA (List.range' 0 14) sw_R0 rfl 0 kX5 rfl rfl rfl rfl rfl hl.1 (Nat.le_of_ble_eq_true rfl) dX5_canPay_2 ⟨Nat.le_of_ble_eq_true rfl, Nat.le_of_ble_eq_true rfl⟩ (fun H locs hP hD hS => ?_)
  have hP : va_P (dC, dI) vwCl (wR (nI 0) z0 mo eo er gr av ro co kl dd cI cII) H := hP
  have hD : va_D A (wR (nI 0) z0 mo eo er gr av ro co kl dd cI cII) := hD
  refine W.widen (k := 1) (n := 7) (by omega) (by omega) ?_
  refine lv_if_ne (tgt := 12) hx hb dX5_canPay_5 (by decide) (fun c1 => ?_) (fun c1 => ?_)
  · first | exact absurd c1 (by decide) | exact (c1 (by decide)).elim
  · skip
    refine lv_iconst (v := nI 1) hx hb dX5_canPay_8 (by decide) ?_
    refine lv_goto (tgt := 13) hx hb dX5_canPay_9 (by decide) ?_
    refine lv_iconst (v := nI 1) hx hb dX5_canPay_13 (by decide) ?_
    refine kt_calliM (w' := wR (nI 1) z0 mo eo er gr av ro co kl dd cI cII) (rest := []) (As := [.int (nI 1), .int (nI 1)]) ⟨hx, hb, hml, hown, hts⟩ (c_X5_start_1 l dC dI cI cII cJ cJJ cZ cO mo eo er gr av ro co kl dd _ ) (cwV 2 hts gX5_canPay_X5_start rfl rfl rfl (by decide +kernel) ⟨Nat.le_of_ble_eq_true rfl, Nat.le_of_ble_eq_true rfl⟩) hK hP hD hS hA (List.range' 0 14) sw_R0 rfl 0 kX5 rfl rfl rfl rfl rfl hl.1 (Nat.le_of_ble_eq_true rfl) dX5_canPay_14 ⟨Nat.le_of_ble_eq_true rfl, Nat.le_of_ble_eq_true rfl⟩ (fun H locs hP hD hS => ?_)
    have hP : va_P (dC, dI) vwCl (wR (nI 1) z0 mo eo er gr av ro co kl dd cI cII) H := hP
    have hD : va_D A (wR (nI 1) z0 mo eo er gr av ro co kl dd cI cII) := hD
    refine lv_if_ne (tgt := 35) hx hb dX5_canPay_17 (by decide) (fun c2 => ?_) (fun c2 => ?_)
    · skip
      refine lv_iconst (v := nI 0) hx hb dX5_canPay_35 (by decide) ?_
      refine W.widen (k := 1) (n := 7) (by omega) (by omega) ?_
      have hP := kt_sub (wC := [(mo, .inr (kX5, .int (nI 1) :: [.int (nI 0), .ref eo, .ref gr, .ref av, .ref ro, .ref co, .ref kl, .int (nI 0), .int (nI 0), .int (nI 0)]))]) hP [0] rfl
      have hD := hD.sub (ws' := [(mo, .inr (kX5, .int (nI 1) :: [.int (nI 0), .ref eo, .ref gr, .ref av, .ref ro, .ref co, .ref kl, .int (nI 0), .int (nI 0), .int (nI 0)]))]) [0] rfl rfl
      exact kt_zretU (mo := mo) (th := (nI 1)) (vs := [.int (nI 0), .ref eo, .ref gr, .ref av, .ref ro, .ref co, .ref kl, .int (nI 0), .int (nI 0), .int (nI 0)]) hx hb hr (rfl) hS hP hK hD (by decide) hlocks dX5_canPay_36
    · first | exact absurd c2 (by decide) | exact (c2 (by decide)).elim

set_option maxHeartbeats 4000000 in
set_option maxRecDepth 100000 in
theorem t_weakest (l : Launch) (dC : Nat → ClassId) (dI : Nat → Nat → Nat) (cI cII cJ cJJ cZ cO : ClassId) (mo : Nat) (eo : Nat) (er : Nat → Nat) (gr : Nat) (av : Nat) (ro : Nat) (co : Nat) (kl : Nat) (dd : Nat) (sz : Nat)  : Met l yX5_weakest wsX5_weakest ({ frames := 2, cells := 1, slots := 7, locals := 44 }) (va_Pc [.ref mo] (PRE (dC, dI) (tyR cI cII cJ cJJ cZ cO) (wR (nI 0) z0 mo eo er gr av ro co kl dd cI cII) sz)) (va_Qi (fun (r' : Int32) (_ : List Value) => r' = nI 0) (fun (u : List Value) tS => ATW (dC, dI) (tyR cI cII cJ cJJ cZ cO) (va_A (wR (nI 0) z0 mo eo er gr av ro co kl dd cI cII) sz) [(mo, .inr (kX5, .int (nI 1) :: u))] tS) (va_A (wR (nI 0) z0 mo eo er gr av ro co kl dd cI cII) sz)) 1 7 (va_A (wR (nI 0) z0 mo eo er gr av ro co kl dd cI cII) sz) := by
  refine Met.ofW (cc := cX5_weakest) (maxL := 1) (ret := (some .int)) (by decide) rfl ?_
  intro p e s m args below meth c s₁ B hml hv
  obtain ⟨rfl, hsz, hP, hK, hD0⟩ := hv
  have hx := B.exec
  have hb := B.bytes
  have hr := B.returns
  have hlocks := B.notSynchronized
  have hts := atoms_spec (ws := wsX5_weakest) B.pre
  have hown : s.vm.findClass RX5 = some m.cls := findClass_of_methodNamed B.named
  subst hsz
  have hD := hD0.self (sz := s.heap.size)
  generalize hAe : va_A (wR (nI 0) z0 mo eo er gr av ro co kl dd cI cII) s.heap.size = A at hD ⊢
  have hA : ∀ q : Nat, s.heap.size ≤ q → A q := fun q h => by rw [← hAe]; exact Or.inr h
  have hS : va_S A s.heap s.heap [] := va_S.rf
  have hl := lv_entry ([.ref mo]) (n := 1) (Nat.le_of_ble_eq_true rfl)
  rw [lg_entry_eq]
  generalize (lg_sl ([.ref mo]) ++ List.replicate (1 - (lg_sl ([.ref mo])).length) Slot.unset).toArray = ls at hl ⊢
  have hl : lv_has ls 1 [(0, .ref mo)] := hl
  refine lv_aload_n hx hb dX5_weakest_0 rfl (lv_at hl 0 rfl) ?_
  refine lv_aload_n hx hb dX5_weakest_1 rfl (lv_at hl 0 rfl) ?_
  refine kt_calliM (w' := wR (nI 0) z0 mo eo er gr av ro co kl dd cI cII) (rest := [.ref mo]) (As := []) ⟨hx, hb, hml, hown, hts⟩ (c_X5_isFast l dC dI cI cII cJ cJJ cZ cO mo eo er gr av ro co kl dd (nI 0) _ ) (cwV 0 hts gX5_weakest_X5_isFast rfl rfl rfl (by decide +kernel) ⟨Nat.le_of_ble_eq_true rfl, Nat.le_of_ble_eq_true rfl⟩) hK hP hD hS hA (List.range' 0 14) sw_R0 rfl 0 kX5 rfl rfl rfl rfl rfl hl.1 (Nat.le_of_ble_eq_true rfl) dX5_weakest_2 ⟨Nat.le_of_ble_eq_true rfl, Nat.le_of_ble_eq_true rfl⟩ (fun H locs hP hD hS => ?_)
  have hP : va_P (dC, dI) vwCl (wR (nI 0) z0 mo eo er gr av ro co kl dd cI cII) H := hP
  have hD : va_D A (wR (nI 0) z0 mo eo er gr av ro co kl dd cI cII) := hD
  refine W.widen (k := 1) (n := 7) (by omega) (by omega) ?_
  refine lv_if_ne (tgt := 12) hx hb dX5_weakest_5 (by decide) (fun c1 => ?_) (fun c1 => ?_)
  · first | exact absurd c1 (by decide) | exact (c1 (by decide)).elim
  · skip
    refine lv_iconst (v := nI 1) hx hb dX5_weakest_8 (by decide) ?_
    refine lv_goto (tgt := 13) hx hb dX5_weakest_9 (by decide) ?_
    refine lv_iconst (v := nI 1) hx hb dX5_weakest_13 (by decide) ?_
    refine kt_calliM (w' := wR (nI 1) z0 mo eo er gr av ro co kl dd cI cII) (rest := []) (As := [.int (nI 1), .int (nI 1)]) ⟨hx, hb, hml, hown, hts⟩ (c_X5_start_1 l dC dI cI cII cJ cJJ cZ cO mo eo er gr av ro co kl dd _ ) (cwV 2 hts gX5_weakest_X5_start rfl rfl rfl (by decide +kernel) ⟨Nat.le_of_ble_eq_true rfl, Nat.le_of_ble_eq_true rfl⟩) hK hP hD hS hA (List.range' 0 14) sw_R0 rfl 0 kX5 rfl rfl rfl rfl rfl hl.1 (Nat.le_of_ble_eq_true rfl) dX5_weakest_14 ⟨Nat.le_of_ble_eq_true rfl, Nat.le_of_ble_eq_true rfl⟩ (fun H locs hP hD hS => ?_)
    have hP : va_P (dC, dI) vwCl (wR (nI 1) z0 mo eo er gr av ro co kl dd cI cII) H := hP
    have hD : va_D A (wR (nI 1) z0 mo eo er gr av ro co kl dd cI cII) := hD
    refine lv_if_eq (tgt := 24) hx hb dX5_weakest_17 (by decide) (fun c2 => ?_) (fun c2 => ?_)
    · first | exact absurd c2 (by decide) | exact (c2 (by decide)).elim
    · skip
      refine lv_iconst (v := nI 0) hx hb dX5_weakest_20 (by decide) ?_
      refine lv_goto (tgt := 28) hx hb dX5_weakest_21 (by decide) ?_
      refine W.widen (k := 1) (n := 7) (by omega) (by omega) ?_
      have hP := kt_sub (wC := [(mo, .inr (kX5, .int (nI 1) :: [.int (nI 0), .ref eo, .ref gr, .ref av, .ref ro, .ref co, .ref kl, .int (nI 0), .int (nI 0), .int (nI 0)]))]) hP [0] rfl
      have hD := hD.sub (ws' := [(mo, .inr (kX5, .int (nI 1) :: [.int (nI 0), .ref eo, .ref gr, .ref av, .ref ro, .ref co, .ref kl, .int (nI 0), .int (nI 0), .int (nI 0)]))]) [0] rfl rfl
      exact kt_iretU (mo := mo) (th := (nI 1)) (vs := [.int (nI 0), .ref eo, .ref gr, .ref av, .ref ro, .ref co, .ref kl, .int (nI 0), .int (nI 0), .int (nI 0)]) hx hb hr hS hP hK hD (by decide) hlocks dX5_weakest_28

set_option maxHeartbeats 4000000 in
set_option maxRecDepth 100000 in
theorem t_density (l : Launch) (dC : Nat → ClassId) (dI : Nat → Nat → Nat) (cI cII cJ cJJ cZ cO : ClassId) (mo : Nat) (eo : Nat) (er : Nat → Nat) (gr : Nat) (av : Nat) (ro : Nat) (co : Nat) (kl : Nat) (dd : Nat) (sz : Nat)  : Met l yX5_density wsX5_density ({ frames := 0, cells := 0, slots := 0, locals := 0 }) (va_Pc [.ref mo] (PRE (dC, dI) (tyR cI cII cJ cJJ cZ cO) (wR (nI 0) z0 mo eo er gr av ro co kl dd cI cII) sz)) (va_Qd (fun (r' : UInt64) (_ : List Value) => r' = FP.dconst0) (fun (u : List Value) tS => ATW (dC, dI) (tyR cI cII cJ cJJ cZ cO) (va_A (wR (nI 0) z0 mo eo er gr av ro co kl dd cI cII) sz) [(mo, .inr (kX5, .int (nI 0) :: u))] tS) (va_A (wR (nI 0) z0 mo eo er gr av ro co kl dd cI cII) sz)) 0 0 (va_A (wR (nI 0) z0 mo eo er gr av ro co kl dd cI cII) sz) := by
  refine Met.ofW (cc := cX5_density) (maxL := 1) (ret := (some .double)) (by decide) rfl ?_
  intro p e s m args below meth c s₁ B hml hv
  obtain ⟨rfl, hsz, hP, hK, hD0⟩ := hv
  have hx := B.exec
  have hb := B.bytes
  have hr := B.returns
  have hlocks := B.notSynchronized
  have hts := atoms_spec (ws := wsX5_density) B.pre
  have hown : s.vm.findClass RX5 = some m.cls := findClass_of_methodNamed B.named
  subst hsz
  have hD := hD0.self (sz := s.heap.size)
  generalize hAe : va_A (wR (nI 0) z0 mo eo er gr av ro co kl dd cI cII) s.heap.size = A at hD ⊢
  have hA : ∀ q : Nat, s.heap.size ≤ q → A q := fun q h => by rw [← hAe]; exact Or.inr h
  have hS : va_S A s.heap s.heap [] := va_S.rf
  have hl := lv_entry ([.ref mo]) (n := 1) (Nat.le_of_ble_eq_true rfl)
  rw [lg_entry_eq]
  generalize (lg_sl ([.ref mo]) ++ List.replicate (1 - (lg_sl ([.ref mo])).length) Slot.unset).toArray = ls at hl ⊢
  have hl : lv_has ls 1 [(0, .ref mo)] := hl
  have hi_X5 : ∀ w ∈ u_ws RX5 TX5 11, w ∈ wsX5_density := by decide +kernel
  have hf_34 := hts (.fieldLink RX5 34 "TopplemoorModel" "thrown" "I") (by decide +kernel)
  have hf_42 := hts (.fieldLink RX5 42 "TopplemoorModel" "spots" "I") (by decide +kernel)
  refine lv_aload_n hx hb dX5_density_0 rfl (lv_at hl 0 rfl) ?_
  refine lv_iconst (v := nI 0) hx hb dX5_density_1 (by decide) ?_
  refine va_put (D := (dC, dI)) (ci := kX5) (v := .int (nI 0)) (ty := .int) (C := RX5) (T := TX5) (N := 11) hx hb hts hi_X5 tyX5 tyX5_ok nmX5 hown hK hP hD hS 0 rfl rfl 0 (by decide) hf_34 (fun _ h9 => h9) rfl (by decide +kernel) rfl rfl (Nat.le_of_ble_eq_true rfl) dX5_density_2 (fun H locs hP hD hS => ?_)
  have hP : va_P (dC, dI) vwCl (wR (nI 0) z0 mo eo er gr av ro co kl dd cI cII) H := hP
  have hD : va_D A (wR (nI 0) z0 mo eo er gr av ro co kl dd cI cII) := hD
  refine lv_aload_n hx hb dX5_density_5 rfl (lv_at hl 0 rfl) ?_
  refine va_get (D := (dC, dI)) (ci := kX5) (v := .int (nI 0)) (C := RX5) (T := TX5) (N := 11) hx hb hts hi_X5 hown hK hP 0 rfl rfl 1 (by decide) hf_42 (fun _ h9 => h9) rfl dX5_density_6 ?_
  refine lv_if_ne (tgt := 16) hx hb dX5_density_9 (by decide) (fun c1 => ?_) (fun c1 => ?_)
  · first | exact absurd c1 (by decide) | exact (c1 (by decide)).elim
  · skip
    refine lv_dconst0 hx hb dX5_density_12 ?_
    refine lv_goto (tgt := 41) hx hb dX5_density_13 (by decide) ?_
    refine W.widen (k := 0) (n := 0) (by omega) (by omega) ?_
    have hP := kt_sub (wC := [(mo, .inr (kX5, .int (nI 0) :: [.int (nI 0), .ref eo, .ref gr, .ref av, .ref ro, .ref co, .ref kl, .int (nI 0), .int (nI 0), .int (nI 0)]))]) hP [0] rfl
    have hD := hD.sub (ws' := [(mo, .inr (kX5, .int (nI 0) :: [.int (nI 0), .ref eo, .ref gr, .ref av, .ref ro, .ref co, .ref kl, .int (nI 0), .int (nI 0), .int (nI 0)]))]) [0] rfl rfl
    exact kt_dretU (mo := mo) (th := (nI 0)) (vs := [.int (nI 0), .ref eo, .ref gr, .ref av, .ref ro, .ref co, .ref kl, .int (nI 0), .int (nI 0), .int (nI 0)]) hx hb hr hS hP hK hD (rfl) hlocks dX5_density_41
