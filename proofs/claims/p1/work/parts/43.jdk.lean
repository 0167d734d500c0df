/-! the list of the reference, and what needs it (printed by wip/gen/jdkspec.py) -/
set_option maxHeartbeats 4000000 in
set_option maxRecDepth 100000 in
theorem c_X5_det (l : Launch) (dC : Nat → ClassId) (dI : Nat → Nat → Nat) (cI cII cJ cJJ cZ cO : ClassId) (a : Nat) (f : Nat → Option Nat) (sz : Nat)  : Met l yX5_determinant wsX5_determinant ({ frames := 0, cells := 0, slots := 0, locals := 0 }) (va_Pc [.ref a, .int (nI 0), .int (nI 0)] (PRE (dC, dI) (tyR cI cII cJ cJJ cZ cO) ([(a, .inl (cII, 0, .inr (.inr (.inr (.inr f)))))]) sz)) (va_Ql (fun (r' : Int64) (_ : Unit) => r' = (1)) (fun _ tS => ATW (dC, dI) (tyR cI cII cJ cJJ cZ cO) (va_A ([(a, .inl (cII, 0, .inr (.inr (.inr (.inr f)))))]) sz) ([(a, .inl (cII, 0, .inr (.inr (.inr (.inr f)))))]) tS) (va_A ([(a, .inl (cII, 0, .inr (.inr (.inr (.inr f)))))]) sz)) 0 0 (va_A ([(a, .inl (cII, 0, .inr (.inr (.inr (.inr f)))))]) sz) := by
  refine Met.ofW (cc := cX5_determinant) (maxL := 7) (ret := (some .long)) (by decide) rfl ?_
  intro p e s m args below meth c s₁ B hml hv
  obtain ⟨rfl, hsz, hP, hK, hD0⟩ := hv
  have hx := B.exec
  have hb := B.bytes
  have hr := B.returns
  have hlocks := B.notSynchronized
  have hts := atoms_spec (ws := wsX5_determinant) B.pre
  have hown : s.vm.findClass RX5 = some m.cls := findClass_of_methodNamed B.named
  subst hsz
  have hD := hD0.self (sz := s.heap.size)
  generalize hAe : va_A ([(a, .inl (cII, 0, .inr (.inr (.inr (.inr f)))))]) s.heap.size = A at hD ⊢
  have hA : ∀ q : Nat, s.heap.size ≤ q → A q := fun q h => by rw [← hAe]; exact Or.inr h
  have hS : va_S A s.heap s.heap [] := va_S.rf
  have hl := lv_entry ([.ref a, .int (nI 0), .int (nI 0)]) (n := 7) (Nat.le_of_ble_eq_true rfl)
  rw [lg_entry_eq]
  generalize (lg_sl ([.ref a, .int (nI 0), .int (nI 0)]) ++ List.replicate (7 - (lg_sl ([.ref a, .int (nI 0), .int (nI 0)])).length) Slot.unset).toArray = ls at hl ⊢
  have hl : lv_has ls 7 [(0, .ref a), (1, .int (nI 0)), (2, .int (nI 0))] := hl
  refine lv_iload_n hx hb dX5_determinant_0 rfl (lv_at hl 1 rfl) ?_
  refine lv_aload_n hx hb dX5_determinant_1 rfl (lv_at hl 0 rfl) ?_
  refine va_alen hx hb hK hP 0 1 rfl rfl (v := nI 0) rfl dX5_determinant_2 ?_
  refine lv_icmp_ne (tgt := 8) hx hb dX5_determinant_3 (by decide) (fun c1 => ?_) (fun c1 => ?_)
  · first | exact absurd c1 (by decide) | exact (c1 (by decide)).elim
  · skip
    refine lv_lconst (v := 1) hx hb dX5_determinant_6 (by decide) ?_
    refine W.widen (k := 0) (n := 0) (by omega) (by omega) ?_
    exact kt_lret (W' := [(a, .inl (cII, 0, .inr (.inr (.inr (.inr f)))))]) hx hb hr hS hP hK hD (by decide) hlocks dX5_determinant_7

set_option maxHeartbeats 4000000 in
set_option maxRecDepth 100000 in
theorem c_X5_counted (l : Launch) (dC : Nat → ClassId) (dI : Nat → Nat → Nat) (cI cII cJ cJJ cZ cO : ClassId) (mo : Nat) (eo : Nat) (er : Nat → Nat) (gr : Nat) (av : Nat) (ro : Nat) (co : Nat) (kl : Nat) (dd : Nat) (th : Int32) (sz : Nat)  : Met l yX5_counted wsX5_counted ({ frames := 1, cells := 1, slots := 0, locals := 26 }) (va_Pc [.ref mo] (PRER dd (dC, dI) (tyR cI cII cJ cJJ cZ cO) (wR th z0 mo eo er gr av ro co kl dd cI cII) sz)) (va_Ql (fun (r' : Int64) (_ : Unit) => r' = (1)) (fun _ tS => ATW (dC, dI) (tyR cI cII cJ cJJ cZ cO) (va_A (wR th z0 mo eo er gr av ro co kl dd cI cII) sz) (wR th z0 mo eo er gr av ro co kl dd cI cII) tS) (va_A (wR th z0 mo eo er gr av ro co kl dd cI cII) sz)) 1 0 (va_A (wR th z0 mo eo er gr av ro co kl dd cI cII) sz) := by
  refine Met.ofW (cc := cX5_counted) (maxL := 4) (ret := (some .long)) (by decide) rfl ?_
  intro p e s m args below meth c s₁ B hml hv
  obtain ⟨rfl, ⟨hsz, hP, hK, hD0⟩, hE⟩ := hv
  have hx := B.exec
  have hb := B.bytes
  have hr := B.returns
  have hlocks := B.notSynchronized
  have hts := atoms_spec (ws := wsX5_counted) B.pre
  have hown : s.vm.findClass RX5 = some m.cls := findClass_of_methodNamed B.named
  subst hsz
  have hD := hD0.self (sz := s.heap.size)
  generalize hAe : va_A (wR th z0 mo eo er gr av ro co kl dd cI cII) s.heap.size = A at hD hE ⊢
  have hA : ∀ q : Nat, s.heap.size ≤ q → A q := fun q h => by rw [← hAe]; exact Or.inr h
  have hS : va_S A s.heap s.heap [] := va_S.rf
  have hl := lv_entry ([.ref mo]) (n := 4) (Nat.le_of_ble_eq_true rfl)
  rw [lg_entry_eq]
  generalize (lg_sl ([.ref mo]) ++ List.replicate (4 - (lg_sl ([.ref mo])).length) Slot.unset).toArray = ls at hl ⊢
  have hl : lv_has ls 4 [(0, .ref mo)] := hl
  have hi_X5 : ∀ w ∈ u_ws RX5 TX5 11, w ∈ wsX5_counted := by decide +kernel
  have hf_42 := hts (.fieldLink RX5 42 "TopplemoorModel" "spots" "I") (by decide +kernel)
  refine lv_aload_n hx hb dX5_counted_0 rfl (lv_at hl 0 rfl) ?_
  refine va_get (D := (dC, dI)) (ci := kX5) (v := .int (nI 0)) (C := RX5) (T := TX5) (N := 11) hx hb hts hi_X5 hown hK hP 0 rfl rfl 1 (by decide) hf_42 (fun _ h9 => h9) rfl dX5_counted_1 ?_
  refine kt_newqA hx hb hown (hts (.classLink RX5 119 "[I") (by decide +kernel)) hE.2.2.1 hK hP hD hS hA 1 rfl (N := 0) (by omega) (Nat.le_of_ble_eq_true rfl) (Nat.le_of_ble_eq_true rfl) dX5_counted_4 (fun q1 H hP hD hS => ?_)
  have hP : va_P (dC, dI) vwCl (wR th z0 mo eo er gr av ro co kl dd cI cII ++ [(q1, .inl (cII, 0, .inr (.inr (.inr (.inr (fun _ => none))))))]) H := hP
  have hD : va_D A (wR th z0 mo eo er gr av ro co kl dd cI cII ++ [(q1, .inl (cII, 0, .inr (.inr (.inr (.inr (fun _ => none))))))]) := hD
  refine W.widen (k := 1) (n := 0) (by omega) (by omega) ?_
  refine lv_astore_n (lv' := [(1, .ref q1), (0, .ref mo)]) hx hb dX5_counted_7 rfl hl (by decide) rfl (fun ls hl => ?_)
  refine lv_iconst (v := nI 0) hx hb dX5_counted_8 (by decide) ?_
  refine lv_istore_n (lv' := [(2, .int (nI 0)), (1, .ref q1), (0, .ref mo)]) hx hb dX5_counted_9 rfl hl (by decide) rfl (fun ls hl => ?_)
  refine lv_iload_n hx hb dX5_counted_10 rfl (lv_at hl 0 rfl) ?_
  refine lv_aload_n hx hb dX5_counted_11 rfl (lv_at hl 2 rfl) ?_
  refine va_get (D := (dC, dI)) (ci := kX5) (v := .int (nI 0)) (C := RX5) (T := TX5) (N := 11) hx hb hts hi_X5 hown hK hP 0 rfl rfl 1 (by decide) hf_42 (fun _ h9 => h9) rfl dX5_counted_12 ?_
  refine lv_icmp_ge (tgt := 76) hx hb dX5_counted_15 (by decide) (fun c2 => ?_) (fun c2 => ?_)
  · skip
    refine lv_aload_n hx hb dX5_counted_76 rfl (lv_at hl 1 rfl) ?_
    refine lv_iconst (v := nI 0) hx hb dX5_counted_77 (by decide) ?_
    refine lv_iconst (v := nI 1) hx hb dX5_counted_78 (by decide) ?_
    refine lv_aload_n hx hb dX5_counted_79 rfl (lv_at hl 2 rfl) ?_
    refine va_get (D := (dC, dI)) (ci := kX5) (v := .int (nI 0)) (C := RX5) (T := TX5) (N := 11) hx hb hts hi_X5 hown hK hP 0 rfl rfl 1 (by decide) hf_42 (fun _ h9 => h9) rfl dX5_counted_80 ?_
    refine lv_ishl hx hb dX5_counted_83 ?_
    refine lv_topi (fun z3 ez3 => ?_)
    have ez3 : z3 = nI 1 := ez3.trans (by decide)
    subst ez3
    refine lv_iconst (v := nI 1) hx hb dX5_counted_84 (by decide) ?_
    refine lv_isub hx hb dX5_counted_85 ?_
    refine lv_topi (fun z4 ez4 => ?_)
    have ez4 : z4 = nI 0 := ez4.trans (by decide)
    subst ez4
    refine kt_callSlM (w' := wR th z0 mo eo er gr av ro co kl dd cI cII ++ [(q1, .inl (cII, 0, .inr (.inr (.inr (.inr (fun _ => none))))))]) (rest := []) (As := [.ref q1, .int (nI 0), .int (nI 0)]) ⟨hx, hb, hml, hown, hts⟩ (c_X5_det l dC dI cI cII cJ cJJ cZ cO q1 (fun _ => none) _ ) (va_cwS 3 hts gX5_counted_X5_determinant rfl rfl rfl (by decide +kernel) ⟨Nat.le_of_ble_eq_true rfl, Nat.le_of_ble_eq_true rfl⟩) hK hP hD hS hA [14] ⟨rfl, ⟨[none, none, none, none, none, none, none, none, none, none, none, none, none, none, some 0], rfl, by decide +kernel⟩, rfl⟩ rfl rfl rfl hl.1 (Nat.le_of_ble_eq_true rfl) dX5_counted_86 ⟨Nat.le_of_ble_eq_true rfl, Nat.le_of_ble_eq_true rfl⟩ (fun H locs hP hD hS => ?_)
    have hP : va_P (dC, dI) vwCl (wR th z0 mo eo er gr av ro co kl dd cI cII ++ [(q1, .inl (cII, 0, .inr (.inr (.inr (.inr (fun _ => none))))))]) H := hP
    have hD : va_D A (wR th z0 mo eo er gr av ro co kl dd cI cII ++ [(q1, .inl (cII, 0, .inr (.inr (.inr (.inr (fun _ => none))))))]) := hD
    refine W.widen (k := 1) (n := 0) (by omega) (by omega) ?_
    have hP := kt_sub (wC := wR th z0 mo eo er gr av ro co kl dd cI cII) hP [0, 1, 2, 3, 4, 5, 6, 7, 8, 9, 10, 11, 12, 13] rfl
    have hD := hD.sub (ws' := wR th z0 mo eo er gr av ro co kl dd cI cII) [0, 1, 2, 3, 4, 5, 6, 7, 8, 9, 10, 11, 12, 13] rfl rfl
    exact kt_lret (W' := wR th z0 mo eo er gr av ro co kl dd cI cII) hx hb hr hS hP hK hD (by decide) hlocks dX5_counted_89
  · first | exact absurd c2 (by decide) | exact (c2 (by decide)).elim

set_option maxHeartbeats 4000000 in
set_option maxRecDepth 100000 in
theorem t_count (l : Launch) (dC : Nat → ClassId) (dI : Nat → Nat → Nat) (cI cII cJ cJJ cZ cO : ClassId) (mo : Nat) (eo : Nat) (er : Nat → Nat) (gr : Nat) (av : Nat) (ro : Nat) (co : Nat) (kl : Nat) (dd : Nat) (sz : Nat)  : Met l yX5_count wsX5_count ({ frames := 2, cells := 1, slots := 0, locals := 49 }) (va_Pc [.ref mo] (PRER dd (dC, dI) (tyR cI cII cJ cJJ cZ cO) (wR (nI 0) z0 mo eo er gr av ro co kl dd cI cII) sz)) (va_Ql (fun (r' : Int64) (_ : List Value) => r' = (1)) (fun (u : List Value) tS => ATW (dC, dI) (tyR cI cII cJ cJJ cZ cO) (va_A (wR (nI 0) z0 mo eo er gr av ro co kl dd cI cII) sz) [(mo, .inr (kX5, .int (nI 0) :: u))] tS) (va_A (wR (nI 0) z0 mo eo er gr av ro co kl dd cI cII) sz)) 1 0 (va_A (wR (nI 0) z0 mo eo er gr av ro co kl dd cI cII) sz) := by
  refine Met.ofW (cc := cX5_count) (maxL := 1) (ret := (some .long)) (by decide) rfl ?_
  intro p e s m args below meth c s₁ B hml hv
  obtain ⟨rfl, ⟨hsz, hP, hK, hD0⟩, hE⟩ := hv
  have hx := B.exec
  have hb := B.bytes
  have hr := B.returns
  have hlocks := B.notSynchronized
  have hts := atoms_spec (ws := wsX5_count) B.pre
  have hown : s.vm.findClass RX5 = some m.cls := findClass_of_methodNamed B.named
  subst hsz
  have hD := hD0.self (sz := s.heap.size)
  generalize hAe : va_A (wR (nI 0) z0 mo eo er gr av ro co kl dd cI cII) s.heap.size = A at hD hE ⊢
  have hA : ∀ q : Nat, s.heap.size ≤ q → A q := fun q h => by rw [← hAe]; exact Or.inr h
  have hS : va_S A s.heap s.heap [] := va_S.rf
  have hl := lv_entry ([.ref mo]) (n := 1) (Nat.le_of_ble_eq_true rfl)
  rw [lg_entry_eq]
  generalize (lg_sl ([.ref mo]) ++ List.replicate (1 - (lg_sl ([.ref mo])).length) Slot.unset).toArray = ls at hl ⊢
  have hl : lv_has ls 1 [(0, .ref mo)] := hl
  have hi_X5 : ∀ w ∈ u_ws RX5 TX5 11, w ∈ wsX5_count := by decide +kernel
  have hf_34 := hts (.fieldLink RX5 34 "TopplemoorModel" "thrown" "I") (by decide +kernel)
  refine lv_aload_n hx hb dX5_count_0 rfl (lv_at hl 0 rfl) ?_
  refine lv_iconst (v := nI 0) hx hb dX5_count_1 (by decide) ?_
  refine va_put (D := (dC, dI)) (ci := kX5) (v := .int (nI 0)) (ty := .int) (C := RX5) (T := TX5) (N := 11) hx hb hts hi_X5 tyX5 tyX5_ok nmX5 hown hK hP hD hS 0 rfl rfl 0 (by decide) hf_34 (fun _ h9 => h9) rfl (by decide +kernel) rfl rfl (Nat.le_of_ble_eq_true rfl) dX5_count_2 (fun H locs hP hD hS => ?_)
  have hP : va_P (dC, dI) vwCl (wR (nI 0) z0 mo eo er gr av ro co kl dd cI cII) H := hP
  have hD : va_D A (wR (nI 0) z0 mo eo er gr av ro co kl dd cI cII) := hD
  refine lv_aload_n hx hb dX5_count_5 rfl (lv_at hl 0 rfl) ?_
  refine kt_calllP (w' := wR (nI 0) z0 mo eo er gr av ro co kl dd cI cII) (rest := []) (As := []) ⟨hx, hb, hml, hown, hts⟩ (c_X5_counted l dC dI cI cII cJ cJJ cZ cO mo eo er gr av ro co kl dd (nI 0) _ ) (cwV 0 hts gX5_count_X5_counted rfl rfl rfl (by decide +kernel) ⟨Nat.le_of_ble_eq_true rfl, Nat.le_of_ble_eq_true rfl⟩) hK hP hD hS hA (List.range' 0 14) sw_R0 rfl (kt_preVR (q0 := 0) (ci := kX5) hK hP hD hS hE hA (List.range' 0 14) rfl rfl rfl rfl rfl) rfl rfl hl.1 (Nat.le_of_ble_eq_true rfl) dX5_count_6 ⟨Nat.le_of_ble_eq_true rfl, Nat.le_of_ble_eq_true rfl⟩ (fun H locs hP hD hS => ?_)
  have hP : va_P (dC, dI) vwCl (wR (nI 0) z0 mo eo er gr av ro co kl dd cI cII) H := hP
  have hD : va_D A (wR (nI 0) z0 mo eo er gr av ro co kl dd cI cII) := hD
  refine W.widen (k := 1) (n := 0) (by omega) (by omega) ?_
  refine W.widen (k := 1) (n := 0) (by omega) (by omega) ?_
  have hP := kt_sub (wC := [(mo, .inr (kX5, .int (nI 0) :: [.int (nI 0), .ref eo, .ref gr, .ref av, .ref ro, .ref co, .ref kl, .int (nI 0), .int (nI 0), .int (nI 0)]))]) hP [0] rfl
  have hD := hD.sub (ws' := [(mo, .inr (kX5, .int (nI 0) :: [.int (nI 0), .ref eo, .ref gr, .ref av, .ref ro, .ref co, .ref kl, .int (nI 0), .int (nI 0), .int (nI 0)]))]) [0] rfl rfl
  exact kt_lretU (mo := mo) (th := (nI 0)) (vs := [.int (nI 0), .ref eo, .ref gr, .ref av, .ref ro, .ref co, .ref kl, .int (nI 0), .int (nI 0), .int (nI 0)]) hx hb hr hS hP hK hD (by decide) hlocks dX5_count_9

set_option maxHeartbeats 4000000 in
set_option maxRecDepth 100000 in
theorem c_AC_init (l : Launch) (dC : Nat → ClassId) (dI : Nat → Nat → Nat) (cI cII cJ cJJ cZ cO : ClassId) (kl : Nat) (sz : Nat)  : Met l yJxa1e45_init_da8c8 wsJxa1e45_init_da8c8 ({ frames := 1, cells := 0, slots := 0, locals := 12 }) (va_Pc [.ref kl] (PRE (dC, dI) (tyR cI cII cJ cJJ cZ cO) ([(kl, .inr (kAL, [.int (nI 0), .null, .int (nI 0)]))]) sz)) (va_Qv (fun (_ : Unit) => True) (fun (u : Unit) tS => ATW (dC, dI) (tyR cI cII cJ cJJ cZ cO) (va_A ([(kl, .inr (kAL, [.int (nI 0), .null, .int (nI 0)]))]) sz) ([(kl, .inr (kAL, [.int (nI 0), .null, .int (nI 0)]))]) tS) (va_A ([(kl, .inr (kAL, [.int (nI 0), .null, .int (nI 0)]))]) sz)) 0 0 (va_A ([(kl, .inr (kAL, [.int (nI 0), .null, .int (nI 0)]))]) sz) := by
  refine Met.ofW (cc := cJxa1e45_init_da8c8) (maxL := 1) (ret := none) (by decide) rfl ?_
  intro p e s m args below meth c s₁ B hml hv
  obtain ⟨rfl, hsz, hP, hK, hD0⟩ := hv
  have hx := B.exec
  have hb := B.bytes
  have hr := B.returns
  have hlocks := B.notSynchronized
  have hts := atoms_spec (ws := wsJxa1e45_init_da8c8) B.pre
  have hown : s.vm.findClass RJxa1e45 = some m.cls := findClass_of_methodNamed B.named
  subst hsz
  have hD := hD0.self (sz := s.heap.size)
  generalize hAe : va_A ([(kl, .inr (kAL, [.int (nI 0), .null, .int (nI 0)]))]) s.heap.size = A at hD ⊢
  have hA : ∀ q : Nat, s.heap.size ≤ q → A q := fun q h => by rw [← hAe]; exact Or.inr h
  have hS : va_S A s.heap s.heap [] := va_S.rf
  have hl := lv_entry ([.ref kl]) (n := 1) (Nat.le_of_ble_eq_true rfl)
  rw [lg_entry_eq]
  generalize (lg_sl ([.ref kl]) ++ List.replicate (1 - (lg_sl ([.ref kl])).length) Slot.unset).toArray = ls at hl ⊢
  have hl : lv_has ls 1 [(0, .ref kl)] := hl
  refine lv_aload_n hx hb dJxa1e45_init_da8c8_0 rfl (lv_at hl 0 rfl) ?_
  refine W.objInit hx hb hown (hts (.methodLink RJxa1e45 1 objectInit) (by decide +kernel)) (hts (.instanceMethod objectInit) (by decide +kernel)) (hts (.code objectInit ⟨#[0xb1]⟩ 1 none) (by decide +kernel)) rfl (by rw [hml]; exact hl.1) rfl dJxa1e45_init_da8c8_1 (Nat.le_of_ble_eq_true rfl) (Nat.le_of_ble_eq_true rfl) ?_
  refine W.eq (g2 := F0 m 4 ls []) rfl ?_
  refine W.widen (k := 0) (n := 0) (by omega) (by omega) ?_
  have hP := kt_sub (wC := [(kl, .inr (kAL, [.int (nI 0), .null, .int (nI 0)]))]) hP [0] rfl
  have hD := hD.sub (ws' := [(kl, .inr (kAL, [.int (nI 0), .null, .int (nI 0)]))]) [0] rfl rfl
  exact kt_vretS (wN := fun (u : Unit) => [(kl, .inr (kAL, [.int (nI 0), .null, .int (nI 0)]))]) () hx hb hr hS hP hK hD hlocks dJxa1e45_init_da8c8_4

set_option maxHeartbeats 4000000 in
set_option maxRecDepth 100000 in
theorem c_AbL_init (l : Launch) (dC : Nat → ClassId) (dI : Nat → Nat → Nat) (cI cII cJ cJJ cZ cO : ClassId) (kl : Nat) (sz : Nat)  : Met l yJxc12de_init_da8c8 wsJxc12de_init_da8c8 ({ frames := 2, cells := 0, slots := 0, locals := 32 }) (va_Pc [.ref kl] (PRE (dC, dI) (tyR cI cII cJ cJJ cZ cO) ([(kl, .inr (kAL, [.int (nI 0), .null, .int (nI 0)]))]) sz)) (va_Qv (fun (_ : Unit) => True) (fun (u : Unit) tS => ATW (dC, dI) (tyR cI cII cJ cJJ cZ cO) (va_A ([(kl, .inr (kAL, [.int (nI 0), .null, .int (nI 0)]))]) sz) ([(kl, .inr (kAL, [.int (nI 0), .null, .int (nI 0)]))]) tS) (va_A ([(kl, .inr (kAL, [.int (nI 0), .null, .int (nI 0)]))]) sz)) 0 0 (va_A ([(kl, .inr (kAL, [.int (nI 0), .null, .int (nI 0)]))]) sz) := by
  refine Met.ofW (cc := cJxc12de_init_da8c8) (maxL := 1) (ret := none) (by decide) rfl ?_
  intro p e s m args below meth c s₁ B hml hv
  obtain ⟨rfl, hsz, hP, hK, hD0⟩ := hv
  have hx := B.exec
  have hb := B.bytes
  have hr := B.returns
  have hlocks := B.notSynchronized
  have hts := atoms_spec (ws := wsJxc12de_init_da8c8) B.pre
  have hown : s.vm.findClass RJxc12de = some m.cls := findClass_of_methodNamed B.named
  subst hsz
  have hD := hD0.self (sz := s.heap.size)
  generalize hAe : va_A ([(kl, .inr (kAL, [.int (nI 0), .null, .int (nI 0)]))]) s.heap.size = A at hD ⊢
  have hA : ∀ q : Nat, s.heap.size ≤ q → A q := fun q h => by rw [← hAe]; exact Or.inr h
  have hS : va_S A s.heap s.heap [] := va_S.rf
  have hl := lv_entry ([.ref kl]) (n := 1) (Nat.le_of_ble_eq_true rfl)
  rw [lg_entry_eq]
  generalize (lg_sl ([.ref kl]) ++ List.replicate (1 - (lg_sl ([.ref kl])).length) Slot.unset).toArray = ls at hl ⊢
  have hl : lv_has ls 1 [(0, .ref kl)] := hl
  have hi_Jx4a65c : ∀ w ∈ u_ws RJx4a65c TJx4a65c 3, w ∈ wsJxc12de_init_da8c8 := by decide +kernel
  have hf_7 := hts (.fieldLink RJxc12de 7 "java/util/AbstractList" "modCount" "I") (by decide +kernel)
  refine lv_aload_n hx hb dJxc12de_init_da8c8_0 rfl (lv_at hl 0 rfl) ?_
  refine kt_newV (wC := [(kl, .inr (kAL, [.int (nI 0), .null, .int (nI 0)]))]) (wR9 := []) (va_runI (As := []) (rest := []) ⟨hx, hb, hml, hown, hts⟩ (c_AC_init l dC dI cI cII cJ cJJ cZ cO kl _ ) (cwI 0 hts gJxc12de_init_da8c8_Jxa1e45_init_da8c8 rfl rfl rfl (hts (.initialized RJxa1e45) (by decide +kernel)) (hts (.methodLink RJxc12de 1 yJxa1e45_init_da8c8) (by decide +kernel)) (hts (.instanceMethod yJxa1e45_init_da8c8) (by decide +kernel)) rfl (by decide +kernel) ⟨Nat.le_of_ble_eq_true rfl, Nat.le_of_ble_eq_true rfl⟩) (kt_preS hK hP hD [0] rfl rfl) rfl rfl hl.1 rfl (lv_room (Nat.le_of_ble_eq_true rfl)) dJxc12de_init_da8c8_1 ⟨Nat.le_of_ble_eq_true rfl, Nat.le_of_ble_eq_true rfl⟩) hP hD hS hA [0] [] rfl rfl rfl (by decide) (fun u1 H locs hP hD hS => ?_)
  have hP : va_P (dC, dI) vwCl ([(kl, .inr (kAL, [.int (nI 0), .null, .int (nI 0)]))]) H := hP
  have hD : va_D A ([(kl, .inr (kAL, [.int (nI 0), .null, .int (nI 0)]))]) := hD
  refine W.widen (k := 0) (n := 0) (by omega) (by omega) ?_
  refine lv_aload_n hx hb dJxc12de_init_da8c8_4 rfl (lv_at hl 0 rfl) ?_
  refine lv_iconst (v := nI 0) hx hb dJxc12de_init_da8c8_5 (by decide) ?_
  refine va_put (D := (dC, dI)) (ci := kAL) (v := .int (nI 0)) (ty := .int) (C := RJx4a65c) (T := TJx4a65c) (N := 3) hx hb hts hi_Jx4a65c tyJx4a65c tyJx4a65c_ok nmJx4a65c hown hK hP hD hS 0 rfl rfl 0 (by decide) hf_7 (fun _ h9 => h9) rfl (by decide +kernel) rfl rfl (Nat.le_of_ble_eq_true rfl) dJxc12de_init_da8c8_6 (fun H locs hP hD hS => ?_)
  have hP : va_P (dC, dI) vwCl ([(kl, .inr (kAL, [.int (nI 0), .null, .int (nI 0)]))]) H := hP
  have hD : va_D A ([(kl, .inr (kAL, [.int (nI 0), .null, .int (nI 0)]))]) := hD
  refine W.widen (k := 0) (n := 0) (by omega) (by omega) ?_
  have hP := kt_sub (wC := [(kl, .inr (kAL, [.int (nI 0), .null, .int (nI 0)]))]) hP [0] rfl
  have hD := hD.sub (ws' := [(kl, .inr (kAL, [.int (nI 0), .null, .int (nI 0)]))]) [0] rfl rfl
  exact kt_vretS (wN := fun (u : Unit) => [(kl, .inr (kAL, [.int (nI 0), .null, .int (nI 0)]))]) () hx hb hr hS hP hK hD hlocks dJxc12de_init_da8c8_9

set_option maxHeartbeats 4000000 in
set_option maxRecDepth 100000 in
theorem c_AL_init (l : Launch) (dC : Nat → ClassId) (dI : Nat → Nat → Nat) (cI cII cJ cJJ cZ cO : ClassId) (kl : Nat) (dd : Nat) (sz : Nat)  : Met l yJx4a65c_init_da8c8 wsJx4a65c_init_da8c8 ({ frames := 3, cells := 0, slots := 0, locals := 52 }) (va_Pc [.ref kl] (PRER dd (dC, dI) (tyR cI cII cJ cJJ cZ cO) ([(kl, .inr (kAL, [.int (nI 0), .null, .int (nI 0)]))]) sz)) (va_Qv (fun (_ : Unit) => True) (fun (u : Unit) tS => ATW (dC, dI) (tyR cI cII cJ cJJ cZ cO) (va_A ([(kl, .inr (kAL, [.int (nI 0), .null, .int (nI 0)]))]) sz) ([(kl, .inr (kAL, [.int (nI 0), .ref dd, .int (nI 0)]))]) tS) (va_A ([(kl, .inr (kAL, [.int (nI 0), .null, .int (nI 0)]))]) sz)) 0 0 (va_A ([(kl, .inr (kAL, [.int (nI 0), .null, .int (nI 0)]))]) sz) := by
  refine Met.ofW (cc := cJx4a65c_init_da8c8) (maxL := 1) (ret := none) (by decide) rfl ?_
  intro p e s m args below meth c s₁ B hml hv
  obtain ⟨rfl, ⟨hsz, hP, hK, hD0⟩, hE⟩ := hv
  have hx := B.exec
  have hb := B.bytes
  have hr := B.returns
  have hlocks := B.notSynchronized
  have hts := atoms_spec (ws := wsJx4a65c_init_da8c8) B.pre
  have hown : s.vm.findClass RJx4a65c = some m.cls := findClass_of_methodNamed B.named
  subst hsz
  have hD := hD0.self (sz := s.heap.size)
  generalize hAe : va_A ([(kl, .inr (kAL, [.int (nI 0), .null, .int (nI 0)]))]) s.heap.size = A at hD hE ⊢
  have hA : ∀ q : Nat, s.heap.size ≤ q → A q := fun q h => by rw [← hAe]; exact Or.inr h
  have hS : va_S A s.heap s.heap [] := va_S.rf
  have hl := lv_entry ([.ref kl]) (n := 1) (Nat.le_of_ble_eq_true rfl)
  rw [lg_entry_eq]
  generalize (lg_sl ([.ref kl]) ++ List.replicate (1 - (lg_sl ([.ref kl])).length) Slot.unset).toArray = ls at hl ⊢
  have hl : lv_has ls 1 [(0, .ref kl)] := hl
  have hf_39 := hts (.fieldLink RJx4a65c 39 "java/util/ArrayList" "DEFAULTCAPACITY_EMPTY_ELEMENTDATA" "[Ljava/lang/Object;") (by decide +kernel)
  have hi_Jx4a65c : ∀ w ∈ u_ws RJx4a65c TJx4a65c 3, w ∈ wsJx4a65c_init_da8c8 := by decide +kernel
  have hf_9 := hts (.fieldLink RJx4a65c 9 "java/util/ArrayList" "elementData" "[Ljava/lang/Object;") (by decide +kernel)
  refine lv_aload_n hx hb dJx4a65c_init_da8c8_0 rfl (lv_at hl 0 rfl) ?_
  refine kt_newV (wC := [(kl, .inr (kAL, [.int (nI 0), .null, .int (nI 0)]))]) (wR9 := []) (va_runI (As := []) (rest := []) ⟨hx, hb, hml, hown, hts⟩ (c_AbL_init l dC dI cI cII cJ cJJ cZ cO kl _ ) (cwI 0 hts gJx4a65c_init_da8c8_Jxc12de_init_da8c8 rfl rfl rfl (hts (.initialized RJxc12de) (by decide +kernel)) (hts (.methodLink RJx4a65c 1 yJxc12de_init_da8c8) (by decide +kernel)) (hts (.instanceMethod yJxc12de_init_da8c8) (by decide +kernel)) rfl (by decide +kernel) ⟨Nat.le_of_ble_eq_true rfl, Nat.le_of_ble_eq_true rfl⟩) (kt_preS hK hP hD [0] rfl rfl) rfl rfl hl.1 rfl (lv_room (Nat.le_of_ble_eq_true rfl)) dJx4a65c_init_da8c8_1 ⟨Nat.le_of_ble_eq_true rfl, Nat.le_of_ble_eq_true rfl⟩) hP hD hS hA [0] [] rfl rfl rfl (by decide) (fun u1 H locs hP hD hS => ?_)
  have hP : va_P (dC, dI) vwCl ([(kl, .inr (kAL, [.int (nI 0), .null, .int (nI 0)]))]) H := hP
  have hD : va_D A ([(kl, .inr (kAL, [.int (nI 0), .null, .int (nI 0)]))]) := hD
  refine W.widen (k := 0) (n := 0) (by omega) (by omega) ?_
  refine lv_aload_n hx hb dJx4a65c_init_da8c8_4 rfl (lv_at hl 0 rfl) ?_
  refine va_gets hx hb hE.1 hS hown hf_39 (fun _ h9 => h9) dJx4a65c_init_da8c8_5 ?_
  refine va_put (D := (dC, dI)) (ci := kAL) (v := .ref dd) (ty := (.array (.object "java/lang/Object"))) (C := RJx4a65c) (T := TJx4a65c) (N := 3) hx hb hts hi_Jx4a65c tyJx4a65c tyJx4a65c_ok nmJx4a65c hown hK hP hD hS 0 rfl rfl 1 (by decide) hf_9 (fun _ h9 => h9) rfl (by decide +kernel) rfl rfl (Nat.le_of_ble_eq_true rfl) dJx4a65c_init_da8c8_8 (fun H locs hP hD hS => ?_)
  have hP : va_P (dC, dI) vwCl ([(kl, .inr (kAL, [.int (nI 0), .ref dd, .int (nI 0)]))]) H := hP
  have hD : va_D A ([(kl, .inr (kAL, [.int (nI 0), .ref dd, .int (nI 0)]))]) := hD
  refine W.widen (k := 0) (n := 0) (by omega) (by omega) ?_
  have hP := kt_sub (wC := [(kl, .inr (kAL, [.int (nI 0), .ref dd, .int (nI 0)]))]) hP [0] rfl
  have hD := hD.sub (ws' := [(kl, .inr (kAL, [.int (nI 0), .ref dd, .int (nI 0)]))]) [0] rfl rfl
  exact kt_vretS (wN := fun (u : Unit) => [(kl, .inr (kAL, [.int (nI 0), .ref dd, .int (nI 0)]))]) () hx hb hr hS hP hK hD hlocks dJx4a65c_init_da8c8_11

set_option maxHeartbeats 4000000 in
set_option maxRecDepth 100000 in
theorem c_X5_init (l : Launch) (dC : Nat → ClassId) (dI : Nat → Nat → Nat) (cI cII cJ cJJ cZ cO : ClassId) (mo : Nat) (dd : Nat) (sz : Nat)  : Met l yX5_init wsX5_init ({ frames := 4, cells := 13, slots := 84, locals := 72 }) (va_Pc [.ref mo] (PRER dd (dC, dI) (tyR cI cII cJ cJJ cZ cO) ([(mo, .inr (kX5, [.int (nI 0), .int (nI 0), .null, .null, .null, .null, .null, .null, .int (nI 0), .int (nI 0), .int (nI 0)]))]) sz)) (va_Qv (fun (_ : (Nat → Nat) × (Nat → Nat)) => True) (fun (u : (Nat → Nat) × (Nat → Nat)) tS => ATW (dC, dI) (tyR cI cII cJ cJJ cZ cO) (va_A ([(mo, .inr (kX5, [.int (nI 0), .int (nI 0), .null, .null, .null, .null, .null, .null, .int (nI 0), .int (nI 0), .int (nI 0)]))]) sz) (wR (nI 0) z0 mo (u.1 0) u.2 (u.1 1) (u.1 2) (u.1 3) (u.1 4) (u.1 5) dd cI cII) tS) (va_A ([(mo, .inr (kX5, [.int (nI 0), .int (nI 0), .null, .null, .null, .null, .null, .null, .int (nI 0), .int (nI 0), .int (nI 0)]))]) sz)) 13 84 (va_A ([(mo, .inr (kX5, [.int (nI 0), .int (nI 0), .null, .null, .null, .null, .null, .null, .int (nI 0), .int (nI 0), .int (nI 0)]))]) sz) := by
  refine Met.ofW (cc := cX5_init) (maxL := 1) (ret := none) (by decide) rfl ?_
  intro p e s m args below meth c s₁ B hml hv
  obtain ⟨rfl, ⟨hsz, hP, hK, hD0⟩, hE⟩ := hv
  have hx := B.exec
  have hb := B.bytes
  have hr := B.returns
  have hlocks := B.notSynchronized
  have hts := atoms_spec (ws := wsX5_init) B.pre
  have hown : s.vm.findClass RX5 = some m.cls := findClass_of_methodNamed B.named
  subst hsz
  have hD := hD0.self (sz := s.heap.size)
  generalize hAe : va_A ([(mo, .inr (kX5, [.int (nI 0), .int (nI 0), .null, .null, .null, .null, .null, .null, .int (nI 0), .int (nI 0), .int (nI 0)]))]) s.heap.size = A at hD hE ⊢
  have hA : ∀ q : Nat, s.heap.size ≤ q → A q := fun q h => by rw [← hAe]; exact Or.inr h
  have hS : va_S A s.heap s.heap [] := va_S.rf
  have hl := lv_entry ([.ref mo]) (n := 1) (Nat.le_of_ble_eq_true rfl)
  rw [lg_entry_eq]
  generalize (lg_sl ([.ref mo]) ++ List.replicate (1 - (lg_sl ([.ref mo])).length) Slot.unset).toArray = ls at hl ⊢
  have hl : lv_has ls 1 [(0, .ref mo)] := hl
  have hi_X5 : ∀ w ∈ u_ws RX5 TX5 11, w ∈ wsX5_init := by decide +kernel
  have hf_11 := hts (.fieldLink RX5 11 "TopplemoorModel" "edges" "[[I") (by decide +kernel)
  have hf_14 := hts (.fieldLink RX5 14 "TopplemoorModel" "grains" "[I") (by decide +kernel)
  have hf_18 := hts (.fieldLink RX5 18 "TopplemoorModel" "avalanche" "[I") (by decide +kernel)
  have hf_21 := hts (.fieldLink RX5 21 "TopplemoorModel" "rotors" "[I") (by decide +kernel)
  have hf_24 := hts (.fieldLink RX5 24 "TopplemoorModel" "coins" "[I") (by decide +kernel)
  have hi_Jx4a65c : ∀ w ∈ u_ws RJx4a65c TJx4a65c 3, w ∈ wsX5_init := by decide +kernel
  have hf_30 := hts (.fieldLink RX5 30 "TopplemoorModel" "kept" "Ljava/util/ArrayList;") (by decide +kernel)
  have hin : meth.name = "<init>" := (name_of_methodNamed B.named B.method).1
  refine lv_aload_n hx hb dX5_init_0 rfl (lv_at hl 0 rfl) ?_
  refine W.objInit hx hb hown (hts (.methodLink RX5 1 objectInit) (by decide +kernel)) (hts (.instanceMethod objectInit) (by decide +kernel)) (hts (.code objectInit ⟨#[0xb1]⟩ 1 none) (by decide +kernel)) rfl (by rw [hml]; exact hl.1) rfl dX5_init_1 (Nat.le_of_ble_eq_true rfl) (Nat.le_of_ble_eq_true rfl) ?_
  refine W.eq (g2 := F0 m 4 ls []) rfl ?_
  refine lv_aload_n hx hb dX5_init_4 rfl (lv_at hl 0 rfl) ?_
  refine lv_bipush (v := nI 7) hx hb dX5_init_5 (by decide) ?_
  refine lv_bipush (v := nI 7) hx hb dX5_init_7 (by decide) ?_
  refine kt_mna (ty := .int) hx hb hown (hts (.classLink RX5 9 "[[I") (by decide +kernel)) hE.2.2.1 (hts (.arrayClass .int) (by decide +kernel)) hK hP hD hS hA 0 1 rfl (fun _ h => by cases h) rfl (N := 7) (M := 7) (7, .inl (fun _ => 0)) (by omega) (by omega) (by decide) rfl rfl (fun _ => rfl) (Nat.le_of_ble_eq_true rfl) (Nat.le_of_ble_eq_true rfl) dX5_init_9 (fun q1 r2 H hP hD hS => ?_)
  have hP : va_P (dC, dI) vwCl ([(mo, .inr (kX5, [.int (nI 0), .int (nI 0), .null, .null, .null, .null, .null, .null, .int (nI 0), .int (nI 0), .int (nI 0)])), (q1, .inl (cII, 7, .inr (.inr (.inr (.inr (rowF 7 r2)))))), (r2 0, .inl (cI, 7, .inl z0)), (r2 1, .inl (cI, 7, .inl z0)), (r2 2, .inl (cI, 7, .inl z0)), (r2 3, .inl (cI, 7, .inl z0)), (r2 4, .inl (cI, 7, .inl z0)), (r2 5, .inl (cI, 7, .inl z0)), (r2 6, .inl (cI, 7, .inl z0))]) H := hP
  have hD : va_D A ([(mo, .inr (kX5, [.int (nI 0), .int (nI 0), .null, .null, .null, .null, .null, .null, .int (nI 0), .int (nI 0), .int (nI 0)])), (q1, .inl (cII, 7, .inr (.inr (.inr (.inr (rowF 7 r2)))))), (r2 0, .inl (cI, 7, .inl z0)), (r2 1, .inl (cI, 7, .inl z0)), (r2 2, .inl (cI, 7, .inl z0)), (r2 3, .inl (cI, 7, .inl z0)), (r2 4, .inl (cI, 7, .inl z0)), (r2 5, .inl (cI, 7, .inl z0)), (r2 6, .inl (cI, 7, .inl z0))]) := hD
  refine W.widen (k := 8) (n := 56) (by omega) (by omega) ?_
  refine va_putF (D := (dC, dI)) (ci := kX5) (v := .ref q1) (ty := (.array (.array .int))) (C := RX5) (T := TX5) (N := 11) hx hb hts hi_X5 tyX5 tyX5_ok nmX5 hown hK hP hD hS 0 rfl rfl 2 (by decide) hf_11 (fun _ h9 => h9) rfl hin rfl (by decide +kernel) rfl rfl (Nat.le_of_ble_eq_true rfl) dX5_init_13 (fun H locs hP hD hS => ?_)
  have hP : va_P (dC, dI) vwCl ([(mo, .inr (kX5, [.int (nI 0), .int (nI 0), .ref q1, .null, .null, .null, .null, .null, .int (nI 0), .int (nI 0), .int (nI 0)])), (q1, .inl (cII, 7, .inr (.inr (.inr (.inr (rowF 7 r2)))))), (r2 0, .inl (cI, 7, .inl z0)), (r2 1, .inl (cI, 7, .inl z0)), (r2 2, .inl (cI, 7, .inl z0)), (r2 3, .inl (cI, 7, .inl z0)), (r2 4, .inl (cI, 7, .inl z0)), (r2 5, .inl (cI, 7, .inl z0)), (r2 6, .inl (cI, 7, .inl z0))]) H := hP
  have hD : va_D A ([(mo, .inr (kX5, [.int (nI 0), .int (nI 0), .ref q1, .null, .null, .null, .null, .null, .int (nI 0), .int (nI 0), .int (nI 0)])), (q1, .inl (cII, 7, .inr (.inr (.inr (.inr (rowF 7 r2)))))), (r2 0, .inl (cI, 7, .inl z0)), (r2 1, .inl (cI, 7, .inl z0)), (r2 2, .inl (cI, 7, .inl z0)), (r2 3, .inl (cI, 7, .inl z0)), (r2 4, .inl (cI, 7, .inl z0)), (r2 5, .inl (cI, 7, .inl z0)), (r2 6, .inl (cI, 7, .inl z0))]) := hD
  refine lv_aload_n hx hb dX5_init_16 rfl (lv_at hl 0 rfl) ?_
  refine lv_bipush (v := nI 6) hx hb dX5_init_17 (by decide) ?_
  refine kt_newi hx hb (hts (.arrayClass .int) (by decide +kernel)) hK hP hD hS hA 0 rfl (N := 6) (by omega) (Nat.le_of_ble_eq_true rfl) (Nat.le_of_ble_eq_true rfl) dX5_init_19 (fun q3 H hP hD hS => ?_)
  have hP : va_P (dC, dI) vwCl ([(mo, .inr (kX5, [.int (nI 0), .int (nI 0), .ref q1, .null, .null, .null, .null, .null, .int (nI 0), .int (nI 0), .int (nI 0)])), (q1, .inl (cII, 7, .inr (.inr (.inr (.inr (rowF 7 r2)))))), (r2 0, .inl (cI, 7, .inl z0)), (r2 1, .inl (cI, 7, .inl z0)), (r2 2, .inl (cI, 7, .inl z0)), (r2 3, .inl (cI, 7, .inl z0)), (r2 4, .inl (cI, 7, .inl z0)), (r2 5, .inl (cI, 7, .inl z0)), (r2 6, .inl (cI, 7, .inl z0)), (q3, .inl (cI, 6, .inl z0))]) H := hP
  have hD : va_D A ([(mo, .inr (kX5, [.int (nI 0), .int (nI 0), .ref q1, .null, .null, .null, .null, .null, .int (nI 0), .int (nI 0), .int (nI 0)])), (q1, .inl (cII, 7, .inr (.inr (.inr (.inr (rowF 7 r2)))))), (r2 0, .inl (cI, 7, .inl z0)), (r2 1, .inl (cI, 7, .inl z0)), (r2 2, .inl (cI, 7, .inl z0)), (r2 3, .inl (cI, 7, .inl z0)), (r2 4, .inl (cI, 7, .inl z0)), (r2 5, .inl (cI, 7, .inl z0)), (r2 6, .inl (cI, 7, .inl z0)), (q3, .inl (cI, 6, .inl z0))]) := hD
  refine W.widen (k := 9) (n := 62) (by omega) (by omega) ?_
  refine va_put (D := (dC, dI)) (ci := kX5) (v := .ref q3) (ty := (.array .int)) (C := RX5) (T := TX5) (N := 11) hx hb hts hi_X5 tyX5 tyX5_ok nmX5 hown hK hP hD hS 0 rfl rfl 3 (by decide) hf_14 (fun _ h9 => h9) rfl (by decide +kernel) rfl rfl (Nat.le_of_ble_eq_true rfl) dX5_init_21 (fun H locs hP hD hS => ?_)
  have hP : va_P (dC, dI) vwCl ([(mo, .inr (kX5, [.int (nI 0), .int (nI 0), .ref q1, .ref q3, .null, .null, .null, .null, .int (nI 0), .int (nI 0), .int (nI 0)])), (q1, .inl (cII, 7, .inr (.inr (.inr (.inr (rowF 7 r2)))))), (r2 0, .inl (cI, 7, .inl z0)), (r2 1, .inl (cI, 7, .inl z0)), (r2 2, .inl (cI, 7, .inl z0)), (r2 3, .inl (cI, 7, .inl z0)), (r2 4, .inl (cI, 7, .inl z0)), (r2 5, .inl (cI, 7, .inl z0)), (r2 6, .inl (cI, 7, .inl z0)), (q3, .inl (cI, 6, .inl z0))]) H := hP
  have hD : va_D A ([(mo, .inr (kX5, [.int (nI 0), .int (nI 0), .ref q1, .ref q3, .null, .null, .null, .null, .int (nI 0), .int (nI 0), .int (nI 0)])), (q1, .inl (cII, 7, .inr (.inr (.inr (.inr (rowF 7 r2)))))), (r2 0, .inl (cI, 7, .inl z0)), (r2 1, .inl (cI, 7, .inl z0)), (r2 2, .inl (cI, 7, .inl z0)), (r2 3, .inl (cI, 7, .inl z0)), (r2 4, .inl (cI, 7, .inl z0)), (r2 5, .inl (cI, 7, .inl z0)), (r2 6, .inl (cI, 7, .inl z0)), (q3, .inl (cI, 6, .inl z0))]) := hD
  refine lv_aload_n hx hb dX5_init_24 rfl (lv_at hl 0 rfl) ?_
  refine lv_bipush (v := nI 6) hx hb dX5_init_25 (by decide) ?_
  refine kt_newi hx hb (hts (.arrayClass .int) (by decide +kernel)) hK hP hD hS hA 0 rfl (N := 6) (by omega) (Nat.le_of_ble_eq_true rfl) (Nat.le_of_ble_eq_true rfl) dX5_init_27 (fun q4 H hP hD hS => ?_)
  have hP : va_P (dC, dI) vwCl ([(mo, .inr (kX5, [.int (nI 0), .int (nI 0), .ref q1, .ref q3, .null, .null, .null, .null, .int (nI 0), .int (nI 0), .int (nI 0)])), (q1, .inl (cII, 7, .inr (.inr (.inr (.inr (rowF 7 r2)))))), (r2 0, .inl (cI, 7, .inl z0)), (r2 1, .inl (cI, 7, .inl z0)), (r2 2, .inl (cI, 7, .inl z0)), (r2 3, .inl (cI, 7, .inl z0)), (r2 4, .inl (cI, 7, .inl z0)), (r2 5, .inl (cI, 7, .inl z0)), (r2 6, .inl (cI, 7, .inl z0)), (q3, .inl (cI, 6, .inl z0)), (q4, .inl (cI, 6, .inl z0))]) H := hP
  have hD : va_D A ([(mo, .inr (kX5, [.int (nI 0), .int (nI 0), .ref q1, .ref q3, .null, .null, .null, .null, .int (nI 0), .int (nI 0), .int (nI 0)])), (q1, .inl (cII, 7, .inr (.inr (.inr (.inr (rowF 7 r2)))))), (r2 0, .inl (cI, 7, .inl z0)), (r2 1, .inl (cI, 7, .inl z0)), (r2 2, .inl (cI, 7, .inl z0)), (r2 3, .inl (cI, 7, .inl z0)), (r2 4, .inl (cI, 7, .inl z0)), (r2 5, .inl (cI, 7, .inl z0)), (r2 6, .inl (cI, 7, .inl z0)), (q3, .inl (cI, 6, .inl z0)), (q4, .inl (cI, 6, .inl z0))]) := hD
  refine W.widen (k := 10) (n := 68) (by omega) (by omega) ?_
  refine va_put (D := (dC, dI)) (ci := kX5) (v := .ref q4) (ty := (.array .int)) (C := RX5) (T := TX5) (N := 11) hx hb hts hi_X5 tyX5 tyX5_ok nmX5 hown hK hP hD hS 0 rfl rfl 4 (by decide) hf_18 (fun _ h9 => h9) rfl (by decide +kernel) rfl rfl (Nat.le_of_ble_eq_true rfl) dX5_init_29 (fun H locs hP hD hS => ?_)
  have hP : va_P (dC, dI) vwCl ([(mo, .inr (kX5, [.int (nI 0), .int (nI 0), .ref q1, .ref q3, .ref q4, .null, .null, .null, .int (nI 0), .int (nI 0), .int (nI 0)])), (q1, .inl (cII, 7, .inr (.inr (.inr (.inr (rowF 7 r2)))))), (r2 0, .inl (cI, 7, .inl z0)), (r2 1, .inl (cI, 7, .inl z0)), (r2 2, .inl (cI, 7, .inl z0)), (r2 3, .inl (cI, 7, .inl z0)), (r2 4, .inl (cI, 7, .inl z0)), (r2 5, .inl (cI, 7, .inl z0)), (r2 6, .inl (cI, 7, .inl z0)), (q3, .inl (cI, 6, .inl z0)), (q4, .inl (cI, 6, .inl z0))]) H := hP
  have hD : va_D A ([(mo, .inr (kX5, [.int (nI 0), .int (nI 0), .ref q1, .ref q3, .ref q4, .null, .null, .null, .int (nI 0), .int (nI 0), .int (nI 0)])), (q1, .inl (cII, 7, .inr (.inr (.inr (.inr (rowF 7 r2)))))), (r2 0, .inl (cI, 7, .inl z0)), (r2 1, .inl (cI, 7, .inl z0)), (r2 2, .inl (cI, 7, .inl z0)), (r2 3, .inl (cI, 7, .inl z0)), (r2 4, .inl (cI, 7, .inl z0)), (r2 5, .inl (cI, 7, .inl z0)), (r2 6, .inl (cI, 7, .inl z0)), (q3, .inl (cI, 6, .inl z0)), (q4, .inl (cI, 6, .inl z0))]) := hD
  refine lv_aload_n hx hb dX5_init_32 rfl (lv_at hl 0 rfl) ?_
  refine lv_bipush (v := nI 6) hx hb dX5_init_33 (by decide) ?_
  refine kt_newi hx hb (hts (.arrayClass .int) (by decide +kernel)) hK hP hD hS hA 0 rfl (N := 6) (by omega) (Nat.le_of_ble_eq_true rfl) (Nat.le_of_ble_eq_true rfl) dX5_init_35 (fun q5 H hP hD hS => ?_)
  have hP : va_P (dC, dI) vwCl ([(mo, .inr (kX5, [.int (nI 0), .int (nI 0), .ref q1, .ref q3, .ref q4, .null, .null, .null, .int (nI 0), .int (nI 0), .int (nI 0)])), (q1, .inl (cII, 7, .inr (.inr (.inr (.inr (rowF 7 r2)))))), (r2 0, .inl (cI, 7, .inl z0)), (r2 1, .inl (cI, 7, .inl z0)), (r2 2, .inl (cI, 7, .inl z0)), (r2 3, .inl (cI, 7, .inl z0)), (r2 4, .inl (cI, 7, .inl z0)), (r2 5, .inl (cI, 7, .inl z0)), (r2 6, .inl (cI, 7, .inl z0)), (q3, .inl (cI, 6, .inl z0)), (q4, .inl (cI, 6, .inl z0)), (q5, .inl (cI, 6, .inl z0))]) H := hP
  have hD : va_D A ([(mo, .inr (kX5, [.int (nI 0), .int (nI 0), .ref q1, .ref q3, .ref q4, .null, .null, .null, .int (nI 0), .int (nI 0), .int (nI 0)])), (q1, .inl (cII, 7, .inr (.inr (.inr (.inr (rowF 7 r2)))))), (r2 0, .inl (cI, 7, .inl z0)), (r2 1, .inl (cI, 7, .inl z0)), (r2 2, .inl (cI, 7, .inl z0)), (r2 3, .inl (cI, 7, .inl z0)), (r2 4, .inl (cI, 7, .inl z0)), (r2 5, .inl (cI, 7, .inl z0)), (r2 6, .inl (cI, 7, .inl z0)), (q3, .inl (cI, 6, .inl z0)), (q4, .inl (cI, 6, .inl z0)), (q5, .inl (cI, 6, .inl z0))]) := hD
  refine W.widen (k := 11) (n := 74) (by omega) (by omega) ?_
  refine va_putF (D := (dC, dI)) (ci := kX5) (v := .ref q5) (ty := (.array .int)) (C := RX5) (T := TX5) (N := 11) hx hb hts hi_X5 tyX5 tyX5_ok nmX5 hown hK hP hD hS 0 rfl rfl 5 (by decide) hf_21 (fun _ h9 => h9) rfl hin rfl (by decide +kernel) rfl rfl (Nat.le_of_ble_eq_true rfl) dX5_init_37 (fun H locs hP hD hS => ?_)
  have hP : va_P (dC, dI) vwCl ([(mo, .inr (kX5, [.int (nI 0), .int (nI 0), .ref q1, .ref q3, .ref q4, .ref q5, .null, .null, .int (nI 0), .int (nI 0), .int (nI 0)])), (q1, .inl (cII, 7, .inr (.inr (.inr (.inr (rowF 7 r2)))))), (r2 0, .inl (cI, 7, .inl z0)), (r2 1, .inl (cI, 7, .inl z0)), (r2 2, .inl (cI, 7, .inl z0)), (r2 3, .inl (cI, 7, .inl z0)), (r2 4, .inl (cI, 7, .inl z0)), (r2 5, .inl (cI, 7, .inl z0)), (r2 6, .inl (cI, 7, .inl z0)), (q3, .inl (cI, 6, .inl z0)), (q4, .inl (cI, 6, .inl z0)), (q5, .inl (cI, 6, .inl z0))]) H := hP
  have hD : va_D A ([(mo, .inr (kX5, [.int (nI 0), .int (nI 0), .ref q1, .ref q3, .ref q4, .ref q5, .null, .null, .int (nI 0), .int (nI 0), .int (nI 0)])), (q1, .inl (cII, 7, .inr (.inr (.inr (.inr (rowF 7 r2)))))), (r2 0, .inl (cI, 7, .inl z0)), (r2 1, .inl (cI, 7, .inl z0)), (r2 2, .inl (cI, 7, .inl z0)), (r2 3, .inl (cI, 7, .inl z0)), (r2 4, .inl (cI, 7, .inl z0)), (r2 5, .inl (cI, 7, .inl z0)), (r2 6, .inl (cI, 7, .inl z0)), (q3, .inl (cI, 6, .inl z0)), (q4, .inl (cI, 6, .inl z0)), (q5, .inl (cI, 6, .inl z0))]) := hD
  refine lv_aload_n hx hb dX5_init_40 rfl (lv_at hl 0 rfl) ?_
  refine lv_bipush (v := nI 7) hx hb dX5_init_41 (by decide) ?_
  refine kt_newi hx hb (hts (.arrayClass .int) (by decide +kernel)) hK hP hD hS hA 0 rfl (N := 7) (by omega) (Nat.le_of_ble_eq_true rfl) (Nat.le_of_ble_eq_true rfl) dX5_init_43 (fun q6 H hP hD hS => ?_)
  have hP : va_P (dC, dI) vwCl ([(mo, .inr (kX5, [.int (nI 0), .int (nI 0), .ref q1, .ref q3, .ref q4, .ref q5, .null, .null, .int (nI 0), .int (nI 0), .int (nI 0)])), (q1, .inl (cII, 7, .inr (.inr (.inr (.inr (rowF 7 r2)))))), (r2 0, .inl (cI, 7, .inl z0)), (r2 1, .inl (cI, 7, .inl z0)), (r2 2, .inl (cI, 7, .inl z0)), (r2 3, .inl (cI, 7, .inl z0)), (r2 4, .inl (cI, 7, .inl z0)), (r2 5, .inl (cI, 7, .inl z0)), (r2 6, .inl (cI, 7, .inl z0)), (q3, .inl (cI, 6, .inl z0)), (q4, .inl (cI, 6, .inl z0)), (q5, .inl (cI, 6, .inl z0)), (q6, .inl (cI, 7, .inl z0))]) H := hP
  have hD : va_D A ([(mo, .inr (kX5, [.int (nI 0), .int (nI 0), .ref q1, .ref q3, .ref q4, .ref q5, .null, .null, .int (nI 0), .int (nI 0), .int (nI 0)])), (q1, .inl (cII, 7, .inr (.inr (.inr (.inr (rowF 7 r2)))))), (r2 0, .inl (cI, 7, .inl z0)), (r2 1, .inl (cI, 7, .inl z0)), (r2 2, .inl (cI, 7, .inl z0)), (r2 3, .inl (cI, 7, .inl z0)), (r2 4, .inl (cI, 7, .inl z0)), (r2 5, .inl (cI, 7, .inl z0)), (r2 6, .inl (cI, 7, .inl z0)), (q3, .inl (cI, 6, .inl z0)), (q4, .inl (cI, 6, .inl z0)), (q5, .inl (cI, 6, .inl z0)), (q6, .inl (cI, 7, .inl z0))]) := hD
  refine W.widen (k := 12) (n := 81) (by omega) (by omega) ?_
  refine va_putF (D := (dC, dI)) (ci := kX5) (v := .ref q6) (ty := (.array .int)) (C := RX5) (T := TX5) (N := 11) hx hb hts hi_X5 tyX5 tyX5_ok nmX5 hown hK hP hD hS 0 rfl rfl 6 (by decide) hf_24 (fun _ h9 => h9) rfl hin rfl (by decide +kernel) rfl rfl (Nat.le_of_ble_eq_true rfl) dX5_init_45 (fun H locs hP hD hS => ?_)
  have hP : va_P (dC, dI) vwCl ([(mo, .inr (kX5, [.int (nI 0), .int (nI 0), .ref q1, .ref q3, .ref q4, .ref q5, .ref q6, .null, .int (nI 0), .int (nI 0), .int (nI 0)])), (q1, .inl (cII, 7, .inr (.inr (.inr (.inr (rowF 7 r2)))))), (r2 0, .inl (cI, 7, .inl z0)), (r2 1, .inl (cI, 7, .inl z0)), (r2 2, .inl (cI, 7, .inl z0)), (r2 3, .inl (cI, 7, .inl z0)), (r2 4, .inl (cI, 7, .inl z0)), (r2 5, .inl (cI, 7, .inl z0)), (r2 6, .inl (cI, 7, .inl z0)), (q3, .inl (cI, 6, .inl z0)), (q4, .inl (cI, 6, .inl z0)), (q5, .inl (cI, 6, .inl z0)), (q6, .inl (cI, 7, .inl z0))]) H := hP
  have hD : va_D A ([(mo, .inr (kX5, [.int (nI 0), .int (nI 0), .ref q1, .ref q3, .ref q4, .ref q5, .ref q6, .null, .int (nI 0), .int (nI 0), .int (nI 0)])), (q1, .inl (cII, 7, .inr (.inr (.inr (.inr (rowF 7 r2)))))), (r2 0, .inl (cI, 7, .inl z0)), (r2 1, .inl (cI, 7, .inl z0)), (r2 2, .inl (cI, 7, .inl z0)), (r2 3, .inl (cI, 7, .inl z0)), (r2 4, .inl (cI, 7, .inl z0)), (r2 5, .inl (cI, 7, .inl z0)), (r2 6, .inl (cI, 7, .inl z0)), (q3, .inl (cI, 6, .inl z0)), (q4, .inl (cI, 6, .inl z0)), (q5, .inl (cI, 6, .inl z0)), (q6, .inl (cI, 7, .inl z0))]) := hD
  refine lv_aload_n hx hb dX5_init_48 rfl (lv_at hl 0 rfl) ?_
  refine va_new (ci := kAL) (fs := [.int (nI 0), .null, .int (nI 0)]) (C := RJx4a65c) (T := TJx4a65c) (N := 3) hx hb hts hi_Jx4a65c tyJx4a65c tyJx4a65c_ok hown (hts (.classLink RX5 27 RJx4a65c) (by decide +kernel)) (hts (.instantiable RJx4a65c 3) (by decide +kernel)) (hts (.initialized RJx4a65c) (by decide +kernel)) hK hP hD hS hA rfl (fun j hj => by rcases (show j = 0 ∨ j = 1 ∨ j = 2 by omega) with rfl | rfl | rfl <;> rfl) (Nat.le_of_ble_eq_true rfl) (Nat.le_of_ble_eq_true rfl) dX5_init_49 (fun q7 H hP hD hS => ?_)
  have hP : va_P (dC, dI) vwCl ([(mo, .inr (kX5, [.int (nI 0), .int (nI 0), .ref q1, .ref q3, .ref q4, .ref q5, .ref q6, .null, .int (nI 0), .int (nI 0), .int (nI 0)])), (q1, .inl (cII, 7, .inr (.inr (.inr (.inr (rowF 7 r2)))))), (r2 0, .inl (cI, 7, .inl z0)), (r2 1, .inl (cI, 7, .inl z0)), (r2 2, .inl (cI, 7, .inl z0)), (r2 3, .inl (cI, 7, .inl z0)), (r2 4, .inl (cI, 7, .inl z0)), (r2 5, .inl (cI, 7, .inl z0)), (r2 6, .inl (cI, 7, .inl z0)), (q3, .inl (cI, 6, .inl z0)), (q4, .inl (cI, 6, .inl z0)), (q5, .inl (cI, 6, .inl z0)), (q6, .inl (cI, 7, .inl z0)), (q7, .inr (kAL, [.int (nI 0), .null, .int (nI 0)]))]) H := hP
  have hD : va_D A ([(mo, .inr (kX5, [.int (nI 0), .int (nI 0), .ref q1, .ref q3, .ref q4, .ref q5, .ref q6, .null, .int (nI 0), .int (nI 0), .int (nI 0)])), (q1, .inl (cII, 7, .inr (.inr (.inr (.inr (rowF 7 r2)))))), (r2 0, .inl (cI, 7, .inl z0)), (r2 1, .inl (cI, 7, .inl z0)), (r2 2, .inl (cI, 7, .inl z0)), (r2 3, .inl (cI, 7, .inl z0)), (r2 4, .inl (cI, 7, .inl z0)), (r2 5, .inl (cI, 7, .inl z0)), (r2 6, .inl (cI, 7, .inl z0)), (q3, .inl (cI, 6, .inl z0)), (q4, .inl (cI, 6, .inl z0)), (q5, .inl (cI, 6, .inl z0)), (q6, .inl (cI, 7, .inl z0)), (q7, .inr (kAL, [.int (nI 0), .null, .int (nI 0)]))]) := hD
  refine W.widen (k := 13) (n := 84) (by omega) (by omega) ?_
  refine lv_dup hx hb dX5_init_52 rfl ?_
  refine kt_newV (wC := [(q7, .inr (kAL, [.int (nI 0), .null, .int (nI 0)]))]) (wR9 := [(mo, .inr (kX5, [.int (nI 0), .int (nI 0), .ref q1, .ref q3, .ref q4, .ref q5, .ref q6, .null, .int (nI 0), .int (nI 0), .int (nI 0)])), (q1, .inl (cII, 7, .inr (.inr (.inr (.inr (rowF 7 r2)))))), (r2 0, .inl (cI, 7, .inl z0)), (r2 1, .inl (cI, 7, .inl z0)), (r2 2, .inl (cI, 7, .inl z0)), (r2 3, .inl (cI, 7, .inl z0)), (r2 4, .inl (cI, 7, .inl z0)), (r2 5, .inl (cI, 7, .inl z0)), (r2 6, .inl (cI, 7, .inl z0)), (q3, .inl (cI, 6, .inl z0)), (q4, .inl (cI, 6, .inl z0)), (q5, .inl (cI, 6, .inl z0)), (q6, .inl (cI, 7, .inl z0))]) (va_runI (As := []) (rest := [.ref q7, .ref mo]) ⟨hx, hb, hml, hown, hts⟩ (c_AL_init l dC dI cI cII cJ cJJ cZ cO q7 dd _ ) (cwI 0 hts gX5_init_Jx4a65c_init_da8c8 rfl rfl rfl (hts (.initialized RJx4a65c) (by decide +kernel)) (hts (.methodLink RX5 29 yJx4a65c_init_da8c8) (by decide +kernel)) (hts (.instanceMethod yJx4a65c_init_da8c8) (by decide +kernel)) rfl (by decide +kernel) ⟨Nat.le_of_ble_eq_true rfl, Nat.le_of_ble_eq_true rfl⟩) (kt_preSR hK hP hD hS hE hA [13] rfl rfl) rfl rfl hl.1 rfl (lv_room (Nat.le_of_ble_eq_true rfl)) dX5_init_53 ⟨Nat.le_of_ble_eq_true rfl, Nat.le_of_ble_eq_true rfl⟩) hP hD hS hA [13] [0, 1, 2, 3, 4, 5, 6, 7, 8, 9, 10, 11, 12] rfl rfl rfl (by decide) (fun u8 H locs hP hD hS => ?_)
  have hP : va_P (dC, dI) vwCl ([(mo, .inr (kX5, [.int (nI 0), .int (nI 0), .ref q1, .ref q3, .ref q4, .ref q5, .ref q6, .null, .int (nI 0), .int (nI 0), .int (nI 0)])), (q1, .inl (cII, 7, .inr (.inr (.inr (.inr (rowF 7 r2)))))), (r2 0, .inl (cI, 7, .inl z0)), (r2 1, .inl (cI, 7, .inl z0)), (r2 2, .inl (cI, 7, .inl z0)), (r2 3, .inl (cI, 7, .inl z0)), (r2 4, .inl (cI, 7, .inl z0)), (r2 5, .inl (cI, 7, .inl z0)), (r2 6, .inl (cI, 7, .inl z0)), (q3, .inl (cI, 6, .inl z0)), (q4, .inl (cI, 6, .inl z0)), (q5, .inl (cI, 6, .inl z0)), (q6, .inl (cI, 7, .inl z0)), (q7, .inr (kAL, [.int (nI 0), .ref dd, .int (nI 0)]))]) H := hP
  have hD : va_D A ([(mo, .inr (kX5, [.int (nI 0), .int (nI 0), .ref q1, .ref q3, .ref q4, .ref q5, .ref q6, .null, .int (nI 0), .int (nI 0), .int (nI 0)])), (q1, .inl (cII, 7, .inr (.inr (.inr (.inr (rowF 7 r2)))))), (r2 0, .inl (cI, 7, .inl z0)), (r2 1, .inl (cI, 7, .inl z0)), (r2 2, .inl (cI, 7, .inl z0)), (r2 3, .inl (cI, 7, .inl z0)), (r2 4, .inl (cI, 7, .inl z0)), (r2 5, .inl (cI, 7, .inl z0)), (r2 6, .inl (cI, 7, .inl z0)), (q3, .inl (cI, 6, .inl z0)), (q4, .inl (cI, 6, .inl z0)), (q5, .inl (cI, 6, .inl z0)), (q6, .inl (cI, 7, .inl z0)), (q7, .inr (kAL, [.int (nI 0), .ref dd, .int (nI 0)]))]) := hD
  refine W.widen (k := 13) (n := 84) (by omega) (by omega) ?_
  refine va_putF (D := (dC, dI)) (ci := kX5) (v := .ref q7) (ty := (.object "java/util/ArrayList")) (C := RX5) (T := TX5) (N := 11) hx hb hts hi_X5 tyX5 tyX5_ok nmX5 hown hK hP hD hS 0 rfl rfl 7 (by decide) hf_30 (fun _ h9 => h9) rfl hin rfl (by decide +kernel) rfl rfl (Nat.le_of_ble_eq_true rfl) dX5_init_56 (fun H locs hP hD hS => ?_)
  have hP : va_P (dC, dI) vwCl ([(mo, .inr (kX5, [.int (nI 0), .int (nI 0), .ref q1, .ref q3, .ref q4, .ref q5, .ref q6, .ref q7, .int (nI 0), .int (nI 0), .int (nI 0)])), (q1, .inl (cII, 7, .inr (.inr (.inr (.inr (rowF 7 r2)))))), (r2 0, .inl (cI, 7, .inl z0)), (r2 1, .inl (cI, 7, .inl z0)), (r2 2, .inl (cI, 7, .inl z0)), (r2 3, .inl (cI, 7, .inl z0)), (r2 4, .inl (cI, 7, .inl z0)), (r2 5, .inl (cI, 7, .inl z0)), (r2 6, .inl (cI, 7, .inl z0)), (q3, .inl (cI, 6, .inl z0)), (q4, .inl (cI, 6, .inl z0)), (q5, .inl (cI, 6, .inl z0)), (q6, .inl (cI, 7, .inl z0)), (q7, .inr (kAL, [.int (nI 0), .ref dd, .int (nI 0)]))]) H := hP
  have hD : va_D A ([(mo, .inr (kX5, [.int (nI 0), .int (nI 0), .ref q1, .ref q3, .ref q4, .ref q5, .ref q6, .ref q7, .int (nI 0), .int (nI 0), .int (nI 0)])), (q1, .inl (cII, 7, .inr (.inr (.inr (.inr (rowF 7 r2)))))), (r2 0, .inl (cI, 7, .inl z0)), (r2 1, .inl (cI, 7, .inl z0)), (r2 2, .inl (cI, 7, .inl z0)), (r2 3, .inl (cI, 7, .inl z0)), (r2 4, .inl (cI, 7, .inl z0)), (r2 5, .inl (cI, 7, .inl z0)), (r2 6, .inl (cI, 7, .inl z0)), (q3, .inl (cI, 6, .inl z0)), (q4, .inl (cI, 6, .inl z0)), (q5, .inl (cI, 6, .inl z0)), (q6, .inl (cI, 7, .inl z0)), (q7, .inr (kAL, [.int (nI 0), .ref dd, .int (nI 0)]))]) := hD
  refine W.widen (k := 13) (n := 84) (by omega) (by omega) ?_
  have hP := kt_sub (wC := wR (nI 0) z0 mo q1 r2 q3 q4 q5 q6 q7 dd cI cII) hP [0, 1, 2, 3, 4, 5, 6, 7, 8, 9, 10, 11, 12, 13] rfl
  have hD := hD.sub (ws' := wR (nI 0) z0 mo q1 r2 q3 q4 q5 q6 q7 dd cI cII) [0, 1, 2, 3, 4, 5, 6, 7, 8, 9, 10, 11, 12, 13] rfl rfl
  exact kt_vretS (wN := fun (u : (Nat → Nat) × (Nat → Nat)) => wR (nI 0) z0 mo (u.1 0) u.2 (u.1 1) (u.1 2) (u.1 3) (u.1 4) (u.1 5) dd cI cII) (adL [q1, q3, q4, q5, q6, q7], r2) hx hb hr hS hP hK hD hlocks dX5_init_59

set_option maxHeartbeats 4000000 in
set_option maxRecDepth 100000 in
theorem c_X5_copy (l : Launch) (dC : Nat → ClassId) (dI : Nat → Nat → Nat) (cI cII cJ cJJ cZ cO : ClassId) (a9 : Nat) (sz : Nat)  : Met l yX5_copy wsX5_copy ({ frames := 1, cells := 1, slots := 6, locals := 18 }) (va_Pc [.ref a9] (PRE (dC, dI) (tyR cI cII cJ cJJ cZ cO) ([(a9, .inl (cI, 6, .inl z0))]) sz)) (va_Qr (fun (_ : Unit) => True) (fun (u : Unit) (a : Nat) tS => ATW (dC, dI) (tyR cI cII cJ cJJ cZ cO) (va_A ([(a9, .inl (cI, 6, .inl z0))]) sz) ([(a9, .inl (cI, 6, .inl z0)), (a, .inl (cI, 6, .inl z0))]) tS) (va_A ([(a9, .inl (cI, 6, .inl z0))]) sz)) 1 6 (va_A ([(a9, .inl (cI, 6, .inl z0))]) sz) := by
  refine Met.ofW (cc := cX5_copy) (maxL := 2) (ret := (some (.array .int))) (by decide) rfl ?_
  intro p e s m args below meth c s₁ B hml hv
  obtain ⟨rfl, hsz, hP, hK, hD0⟩ := hv
  have hx := B.exec
  have hb := B.bytes
  have hr := B.returns
  have hlocks := B.notSynchronized
  have hts := atoms_spec (ws := wsX5_copy) B.pre
  have hown : s.vm.findClass RX5 = some m.cls := findClass_of_methodNamed B.named
  subst hsz
  have hD := hD0.self (sz := s.heap.size)
  generalize hAe : va_A ([(a9, .inl (cI, 6, .inl z0))]) s.heap.size = A at hD ⊢
  have hA : ∀ q : Nat, s.heap.size ≤ q → A q := fun q h => by rw [← hAe]; exact Or.inr h
  have hS : va_S A s.heap s.heap [] := va_S.rf
  have hl := lv_entry ([.ref a9]) (n := 2) (Nat.le_of_ble_eq_true rfl)
  rw [lg_entry_eq]
  generalize (lg_sl ([.ref a9]) ++ List.replicate (2 - (lg_sl ([.ref a9])).length) Slot.unset).toArray = ls at hl ⊢
  have hl : lv_has ls 2 [(0, .ref a9)] := hl
  have hm_l := hts (.methodLink RX5 98 arraycopyName) (by decide +kernel)
  have hm_n := hts (.native arraycopyName) (by decide +kernel)
  have hm_s := hts (.static arraycopyName) (by decide +kernel)
  have hm_i := hts (.initialized "java/lang/System") (by decide +kernel)
  refine lv_aload_n hx hb dX5_copy_0 rfl (lv_at hl 0 rfl) ?_
  refine va_alen hx hb hK hP 0 0 rfl rfl (v := nI 6) rfl dX5_copy_1 ?_
  refine kt_newi hx hb (hts (.arrayClass .int) (by decide +kernel)) hK hP hD hS hA 0 rfl (N := 6) (by omega) (Nat.le_of_ble_eq_true rfl) (Nat.le_of_ble_eq_true rfl) dX5_copy_2 (fun q1 H hP hD hS => ?_)
  have hP : va_P (dC, dI) vwCl ([(a9, .inl (cI, 6, .inl z0)), (q1, .inl (cI, 6, .inl z0))]) H := hP
  have hD : va_D A ([(a9, .inl (cI, 6, .inl z0)), (q1, .inl (cI, 6, .inl z0))]) := hD
  refine W.widen (k := 1) (n := 6) (by omega) (by omega) ?_
  refine lv_astore_n (lv' := [(1, .ref q1), (0, .ref a9)]) hx hb dX5_copy_4 rfl hl (by decide) rfl (fun ls hl => ?_)
  refine lv_aload_n hx hb dX5_copy_5 rfl (lv_at hl 1 rfl) ?_
  refine lv_iconst (v := nI 0) hx hb dX5_copy_6 (by decide) ?_
  refine lv_aload_n hx hb dX5_copy_7 rfl (lv_at hl 0 rfl) ?_
  refine lv_iconst (v := nI 0) hx hb dX5_copy_8 (by decide) ?_
  refine lv_aload_n hx hb dX5_copy_9 rfl (lv_at hl 1 rfl) ?_
  refine va_alen hx hb hK hP 0 0 rfl rfl (v := nI 6) rfl dX5_copy_10 ?_
  refine va_copyi hx hb (by rw [hml]; exact hl.1.symm) hown hm_l hm_n hm_s hm_i hK hP hD hS 0 1 0 0 rfl rfl rfl rfl rfl (by decide) (by decide) (by decide) (by decide) (by decide) (fun _ _ => rfl) (by decide) (by decide) dX5_copy_11 (fun H locs hP hD hS => ?_)
  obtain ⟨hP, hD⟩ := kt_chg z0 hP hD 1 (by rfl) (fun j hj => kt_cpy hj)
  have hP : va_P (dC, dI) vwCl ([(a9, .inl (cI, 6, .inl z0)), (q1, .inl (cI, 6, .inl z0))]) H := hP
  have hD : va_D A ([(a9, .inl (cI, 6, .inl z0)), (q1, .inl (cI, 6, .inl z0))]) := hD
  refine lv_aload_n hx hb dX5_copy_14 rfl (lv_at hl 0 rfl) ?_
  refine W.widen (k := 1) (n := 6) (by omega) (by omega) ?_
  have hP := kt_sub (wC := [(a9, .inl (cI, 6, .inl z0)), (q1, .inl (cI, 6, .inl z0))]) hP [0, 1] rfl
  have hD := hD.sub (ws' := [(a9, .inl (cI, 6, .inl z0)), (q1, .inl (cI, 6, .inl z0))]) [0, 1] rfl rfl
  exact kt_aretS (wM := fun (u : Unit) (a : Nat) => [(a9, .inl (cI, 6, .inl z0)), (a, .inl (cI, 6, .inl z0))]) () hx hb hr (by first | exact Or.inr ⟨_, rfl⟩ | exact Or.inl ⟨_, rfl⟩) hS hP hK hD hlocks dX5_copy_15

set_option maxHeartbeats 4000000 in
set_option maxRecDepth 100000 in
theorem c_AL_grow1 (l : Launch) (dC : Nat → ClassId) (dI : Nat → Nat → Nat) (cI cII cJ cJJ cZ cO : ClassId) (kl : Nat) (dd : Nat) (k : Nat) (sz : Nat)  : Met l yJx4a65c_grow_92f84 wsJx4a65c_grow_92f84 ({ frames := 1, cells := 1, slots := 10, locals := 14 }) (va_Pc [.ref kl, .int (nI 1)] (PRER dd (dC, dI) (tyR cI cII cJ cJJ cZ cO) ([(kl, .inr (kAL, [.int (nI k), .ref dd, .int (nI 0)]))]) sz)) (va_Qr (fun (_ : Unit) => True) (fun (u : Unit) (a : Nat) tS => ATW (dC, dI) (tyR cI cII cJ cJJ cZ cO) (va_A ([(kl, .inr (kAL, [.int (nI k), .ref dd, .int (nI 0)]))]) sz) ([(kl, .inr (kAL, [.int (nI k), .ref a, .int (nI 0)])), (a, .inl (cO, 10, .inr (.inr (.inr (.inr (fun _ => none))))))]) tS) (va_A ([(kl, .inr (kAL, [.int (nI k), .ref dd, .int (nI 0)]))]) sz)) 1 10 (va_A ([(kl, .inr (kAL, [.int (nI k), .ref dd, .int (nI 0)]))]) sz) := by
  refine Met.ofW (cc := cJx4a65c_grow_92f84) (maxL := 4) (ret := (some (.array (.object "java/lang/Object")))) (by decide) rfl ?_
  intro p e s m args below meth c s₁ B hml hv
  obtain ⟨rfl, ⟨hsz, hP, hK, hD0⟩, hE⟩ := hv
  have hx := B.exec
  have hb := B.bytes
  have hr := B.returns
  have hlocks := B.notSynchronized
  have hts := atoms_spec (ws := wsJx4a65c_grow_92f84) B.pre
  have hown : s.vm.findClass RJx4a65c = some m.cls := findClass_of_methodNamed B.named
  subst hsz
  have hD := hD0.self (sz := s.heap.size)
  generalize hAe : va_A ([(kl, .inr (kAL, [.int (nI k), .ref dd, .int (nI 0)]))]) s.heap.size = A at hD hE ⊢
  have hA : ∀ q : Nat, s.heap.size ≤ q → A q := fun q h => by rw [← hAe]; exact Or.inr h
  have hS : va_S A s.heap s.heap [] := va_S.rf
  have hl := lv_entry ([.ref kl, .int (nI 1)]) (n := 4) (Nat.le_of_ble_eq_true rfl)
  rw [lg_entry_eq]
  generalize (lg_sl ([.ref kl, .int (nI 1)]) ++ List.replicate (4 - (lg_sl ([.ref kl, .int (nI 1)])).length) Slot.unset).toArray = ls at hl ⊢
  have hl : lv_has ls 4 [(0, .ref kl), (1, .int (nI 1))] := hl
  have hi_Jx4a65c : ∀ w ∈ u_ws RJx4a65c TJx4a65c 3, w ∈ wsJx4a65c_grow_92f84 := by decide +kernel
  have hf_9 := hts (.fieldLink RJx4a65c 9 "java/util/ArrayList" "elementData" "[Ljava/lang/Object;") (by decide +kernel)
  have hf_39 := hts (.fieldLink RJx4a65c 39 "java/util/ArrayList" "DEFAULTCAPACITY_EMPTY_ELEMENTDATA" "[Ljava/lang/Object;") (by decide +kernel)
  refine lv_aload_n hx hb dJx4a65c_grow_92f84_0 rfl (lv_at hl 0 rfl) ?_
  refine va_get (D := (dC, dI)) (ci := kAL) (v := .ref dd) (C := RJx4a65c) (T := TJx4a65c) (N := 3) hx hb hts hi_Jx4a65c hown hK hP 0 rfl rfl 1 (by decide) hf_9 (fun _ h9 => h9) rfl dJx4a65c_grow_92f84_1 ?_
  refine va_tlen hx hb hE.2.1 hS (v := nI 0) rfl dJx4a65c_grow_92f84_4 ?_
  refine lv_istore_n (lv' := [(2, .int (nI 0)), (0, .ref kl), (1, .int (nI 1))]) hx hb dJx4a65c_grow_92f84_5 rfl hl (by decide) rfl (fun ls hl => ?_)
  refine lv_iload_n hx hb dJx4a65c_grow_92f84_6 rfl (lv_at hl 0 rfl) ?_
  refine lv_if_gt (tgt := 20) hx hb dJx4a65c_grow_92f84_7 (by decide) (fun c1 => ?_) (fun c1 => ?_)
  · first | exact absurd c1 (by decide) | exact (c1 (by decide)).elim
  · skip
    refine lv_aload_n hx hb dJx4a65c_grow_92f84_10 rfl (lv_at hl 1 rfl) ?_
    refine va_get (D := (dC, dI)) (ci := kAL) (v := .ref dd) (C := RJx4a65c) (T := TJx4a65c) (N := 3) hx hb hts hi_Jx4a65c hown hK hP 0 rfl rfl 1 (by decide) hf_9 (fun _ h9 => h9) rfl dJx4a65c_grow_92f84_11 ?_
    refine va_gets hx hb hE.1 hS hown hf_39 (fun _ h9 => h9) dJx4a65c_grow_92f84_14 ?_
    refine lv_acmp_eq (rx := some dd) (ry := some dd) (tgt := 45) hx hb dJx4a65c_grow_92f84_17 (by decide) (fun c2 => ?_) (fun c2 => ?_)
    · skip
      refine lv_aload_n hx hb dJx4a65c_grow_92f84_45 rfl (lv_at hl 1 rfl) ?_
      refine lv_bipush (v := nI 10) hx hb dJx4a65c_grow_92f84_46 (by decide) ?_
      refine lv_iload_n hx hb dJx4a65c_grow_92f84_48 rfl (lv_at hl 2 rfl) ?_
      refine va_mmax hx hb (by rw [hml]; exact hl.1.symm) hown (hts (.methodLink RJx4a65c 79 Lib.Math.max.name) (by decide +kernel)) (hts (.static Lib.Math.max.name) (by decide +kernel)) (hts (.initialized "java/lang/Math") (by decide +kernel)) (hts (.code Lib.Math.max.name Lib.Math.max.code 2 (some .int)) (by decide +kernel)) (rest := [.ref kl]) (Nat.le_of_ble_eq_true rfl) (Nat.le_of_ble_eq_true rfl) (Nat.le_of_ble_eq_true rfl) (Nat.le_of_ble_eq_true rfl) dJx4a65c_grow_92f84_49 ?_
      refine lv_topi (fun z3 ez3 => ?_)
      have ez3 : z3 = nI 10 := ez3.trans (by decide)
      subst ez3
      refine kt_newqO hx hb hown (hts (.classLink RJx4a65c 7 "java/lang/Object") (by decide +kernel)) hE.2.2.2.1 hK hP hD hS hA 5 rfl (N := 10) (by omega) (Nat.le_of_ble_eq_true rfl) (Nat.le_of_ble_eq_true rfl) dJx4a65c_grow_92f84_52 (fun q4 H hP hD hS => ?_)
      have hP : va_P (dC, dI) vwCl ([(kl, .inr (kAL, [.int (nI k), .ref dd, .int (nI 0)])), (q4, .inl (cO, 10, .inr (.inr (.inr (.inr (fun _ => none))))))]) H := hP
      have hD : va_D A ([(kl, .inr (kAL, [.int (nI k), .ref dd, .int (nI 0)])), (q4, .inl (cO, 10, .inr (.inr (.inr (.inr (fun _ => none))))))]) := hD
      refine W.widen (k := 1) (n := 10) (by omega) (by omega) ?_
      refine lv_dup_x1 hx hb dJx4a65c_grow_92f84_55 rfl rfl ?_
      refine va_put (D := (dC, dI)) (ci := kAL) (v := .ref q4) (ty := (.array (.object "java/lang/Object"))) (C := RJx4a65c) (T := TJx4a65c) (N := 3) hx hb hts hi_Jx4a65c tyJx4a65c tyJx4a65c_ok nmJx4a65c hown hK hP hD hS 0 rfl rfl 1 (by decide) hf_9 (fun _ h9 => h9) rfl (by decide +kernel) rfl rfl (Nat.le_of_ble_eq_true rfl) dJx4a65c_grow_92f84_56 (fun H locs hP hD hS => ?_)
      have hP : va_P (dC, dI) vwCl ([(kl, .inr (kAL, [.int (nI k), .ref q4, .int (nI 0)])), (q4, .inl (cO, 10, .inr (.inr (.inr (.inr (fun _ => none))))))]) H := hP
      have hD : va_D A ([(kl, .inr (kAL, [.int (nI k), .ref q4, .int (nI 0)])), (q4, .inl (cO, 10, .inr (.inr (.inr (.inr (fun _ => none))))))]) := hD
      refine W.widen (k := 1) (n := 10) (by omega) (by omega) ?_
      have hP := kt_sub (wC := [(kl, .inr (kAL, [.int (nI k), .ref q4, .int (nI 0)])), (q4, .inl (cO, 10, .inr (.inr (.inr (.inr (fun _ => none))))))]) hP [0, 1] rfl
      have hD := hD.sub (ws' := [(kl, .inr (kAL, [.int (nI k), .ref q4, .int (nI 0)])), (q4, .inl (cO, 10, .inr (.inr (.inr (.inr (fun _ => none))))))]) [0, 1] rfl rfl
      exact kt_aretS (wM := fun (u : Unit) (a : Nat) => [(kl, .inr (kAL, [.int (nI k), .ref a, .int (nI 0)])), (a, .inl (cO, 10, .inr (.inr (.inr (.inr (fun _ => none))))))]) () hx hb hr (by first | exact Or.inr ⟨_, rfl⟩ | exact Or.inl ⟨_, rfl⟩) hS hP hK hD hlocks dJx4a65c_grow_92f84_59
    · exact absurd rfl c2

set_option maxHeartbeats 4000000 in
set_option maxRecDepth 100000 in
theorem c_AL_grow0 (l : Launch) (dC : Nat → ClassId) (dI : Nat → Nat → Nat) (cI cII cJ cJJ cZ cO : ClassId) (kl : Nat) (dd : Nat) (k : Nat) (sz : Nat)  : Met l yJx4a65c_grow_d5877 wsJx4a65c_grow_d5877 ({ frames := 2, cells := 1, slots := 10, locals := 37 }) (va_Pc [.ref kl] (PRER dd (dC, dI) (tyR cI cII cJ cJJ cZ cO) ([(kl, .inr (kAL, [.int (nI k), .ref dd, .int (nI 0)]))]) sz)) (va_Qr (fun (_ : Unit) => True) (fun (u : Unit) (a : Nat) tS => ATW (dC, dI) (tyR cI cII cJ cJJ cZ cO) (va_A ([(kl, .inr (kAL, [.int (nI k), .ref dd, .int (nI 0)]))]) sz) ([(kl, .inr (kAL, [.int (nI k), .ref a, .int (nI 0)])), (a, .inl (cO, 10, .inr (.inr (.inr (.inr (fun _ => none))))))]) tS) (va_A ([(kl, .inr (kAL, [.int (nI k), .ref dd, .int (nI 0)]))]) sz)) 1 10 (va_A ([(kl, .inr (kAL, [.int (nI k), .ref dd, .int (nI 0)]))]) sz) := by
  refine Met.ofW (cc := cJx4a65c_grow_d5877) (maxL := 1) (ret := (some (.array (.object "java/lang/Object")))) (by decide) rfl ?_
  intro p e s m args below meth c s₁ B hml hv
  obtain ⟨rfl, ⟨hsz, hP, hK, hD0⟩, hE⟩ := hv
  have hx := B.exec
  have hb := B.bytes
  have hr := B.returns
  have hlocks := B.notSynchronized
  have hts := atoms_spec (ws := wsJx4a65c_grow_d5877) B.pre
  have hown : s.vm.findClass RJx4a65c = some m.cls := findClass_of_methodNamed B.named
  subst hsz
  have hD := hD0.self (sz := s.heap.size)
  generalize hAe : va_A ([(kl, .inr (kAL, [.int (nI k), .ref dd, .int (nI 0)]))]) s.heap.size = A at hD hE ⊢
  have hA : ∀ q : Nat, s.heap.size ≤ q → A q := fun q h => by rw [← hAe]; exact Or.inr h
  have hS : va_S A s.heap s.heap [] := va_S.rf
  have hl := lv_entry ([.ref kl]) (n := 1) (Nat.le_of_ble_eq_true rfl)
  rw [lg_entry_eq]
  generalize (lg_sl ([.ref kl]) ++ List.replicate (1 - (lg_sl ([.ref kl])).length) Slot.unset).toArray = ls at hl ⊢
  have hl : lv_has ls 1 [(0, .ref kl)] := hl
  have hi_Jx4a65c : ∀ w ∈ u_ws RJx4a65c TJx4a65c 3, w ∈ wsJx4a65c_grow_d5877 := by decide +kernel
  have hf_48 := hts (.fieldLink RJx4a65c 48 "java/util/ArrayList" "size" "I") (by decide +kernel)
  refine lv_aload_n hx hb dJx4a65c_grow_d5877_0 rfl (lv_at hl 0 rfl) ?_
  refine lv_aload_n hx hb dJx4a65c_grow_d5877_1 rfl (lv_at hl 0 rfl) ?_
  refine va_get (D := (dC, dI)) (ci := kAL) (v := .int (nI 0)) (C := RJx4a65c) (T := TJx4a65c) (N := 3) hx hb hts hi_Jx4a65c hown hK hP 0 rfl rfl 2 (by decide) hf_48 (fun _ h9 => h9) rfl dJx4a65c_grow_d5877_2 ?_
  refine lv_iconst (v := nI 1) hx hb dJx4a65c_grow_d5877_5 (by decide) ?_
  refine lv_iadd hx hb dJx4a65c_grow_d5877_6 ?_
  refine lv_topi (fun z1 ez1 => ?_)
  have ez1 : z1 = nI 1 := ez1.trans (by decide)
  subst ez1
  refine kt_newA (wC := [(kl, .inr (kAL, [.int (nI k), .ref dd, .int (nI 0)]))]) (wR9 := []) (va_runV (As := [.int (nI 1)]) (rest := []) ⟨hx, hb, hml, hown, hts⟩ (c_AL_grow1 l dC dI cI cII cJ cJJ cZ cO kl dd k _ ) (cwV 1 hts gJx4a65c_grow_d5877_Jx4a65c_grow_92f84 rfl rfl rfl (by decide +kernel) ⟨Nat.le_of_ble_eq_true rfl, Nat.le_of_ble_eq_true rfl⟩) (kt_preVR (q0 := 0) (ci := kAL) hK hP hD hS hE hA [0] rfl rfl rfl rfl rfl) rfl rfl hl.1 rfl (lv_room (Nat.le_of_ble_eq_true rfl)) dJx4a65c_grow_d5877_7 ⟨Nat.le_of_ble_eq_true rfl, Nat.le_of_ble_eq_true rfl⟩) hP hD hS hA [0] [] rfl rfl rfl (by decide) (fun u2 a3 H locs hP hD hS => ?_)
  have hP : va_P (dC, dI) vwCl ([(kl, .inr (kAL, [.int (nI k), .ref a3, .int (nI 0)])), (a3, .inl (cO, 10, .inr (.inr (.inr (.inr (fun _ => none))))))]) H := hP
  have hD : va_D A ([(kl, .inr (kAL, [.int (nI k), .ref a3, .int (nI 0)])), (a3, .inl (cO, 10, .inr (.inr (.inr (.inr (fun _ => none))))))]) := hD
  refine W.widen (k := 1) (n := 10) (by omega) (by omega) ?_
  refine W.widen (k := 1) (n := 10) (by omega) (by omega) ?_
  have hP := kt_sub (wC := [(kl, .inr (kAL, [.int (nI k), .ref a3, .int (nI 0)])), (a3, .inl (cO, 10, .inr (.inr (.inr (.inr (fun _ => none))))))]) hP [0, 1] rfl
  have hD := hD.sub (ws' := [(kl, .inr (kAL, [.int (nI k), .ref a3, .int (nI 0)])), (a3, .inl (cO, 10, .inr (.inr (.inr (.inr (fun _ => none))))))]) [0, 1] rfl rfl
  exact kt_aretS (wM := fun (u : Unit) (a : Nat) => [(kl, .inr (kAL, [.int (nI k), .ref a, .int (nI 0)])), (a, .inl (cO, 10, .inr (.inr (.inr (.inr (fun _ => none))))))]) () hx hb hr (by first | exact Or.inr ⟨_, rfl⟩ | exact Or.inl ⟨_, rfl⟩) hS hP hK hD hlocks dJx4a65c_grow_d5877_10

set_option maxHeartbeats 4000000 in
set_option maxRecDepth 100000 in
theorem c_AL_add3 (l : Launch) (dC : Nat → ClassId) (dI : Nat → Nat → Nat) (cI cII cJ cJJ cZ cO : ClassId) (kl : Nat) (dd : Nat) (k : Nat) (e9 : Nat) (sz : Nat)  : Met l yJx4a65c_add_72be8 wsJx4a65c_add_72be8 ({ frames := 3, cells := 1, slots := 10, locals := 57 }) (va_Pc [.ref kl, .ref e9, .ref dd, .int (nI 0)] (PRER dd (dC, dI) (tyR cI cII cJ cJJ cZ cO) ([(kl, .inr (kAL, [.int (nI k), .ref dd, .int (nI 0)])), (e9, .inl (cI, 6, .inl z0))]) sz)) (va_Qv (fun (_ : Nat) => True) (fun (u : Nat) tS => ATW (dC, dI) (tyR cI cII cJ cJJ cZ cO) (va_A ([(kl, .inr (kAL, [.int (nI k), .ref dd, .int (nI 0)])), (e9, .inl (cI, 6, .inl z0))]) sz) ([(kl, .inr (kAL, [.int (nI k), .ref u, .int (nI 1)]))]) tS) (va_A ([(kl, .inr (kAL, [.int (nI k), .ref dd, .int (nI 0)])), (e9, .inl (cI, 6, .inl z0))]) sz)) 1 10 (va_A ([(kl, .inr (kAL, [.int (nI k), .ref dd, .int (nI 0)])), (e9, .inl (cI, 6, .inl z0))]) sz) := by
  refine Met.ofW (cc := cJx4a65c_add_72be8) (maxL := 4) (ret := none) (by decide) rfl ?_
  intro p e s m args below meth c s₁ B hml hv
  obtain ⟨rfl, ⟨hsz, hP, hK, hD0⟩, hE⟩ := hv
  have hx := B.exec
  have hb := B.bytes
  have hr := B.returns
  have hlocks := B.notSynchronized
  have hts := atoms_spec (ws := wsJx4a65c_add_72be8) B.pre
  have hown : s.vm.findClass RJx4a65c = some m.cls := findClass_of_methodNamed B.named
  subst hsz
  have hD := hD0.self (sz := s.heap.size)
  generalize hAe : va_A ([(kl, .inr (kAL, [.int (nI k), .ref dd, .int (nI 0)])), (e9, .inl (cI, 6, .inl z0))]) s.heap.size = A at hD hE ⊢
  have hA : ∀ q : Nat, s.heap.size ≤ q → A q := fun q h => by rw [← hAe]; exact Or.inr h
  have hS : va_S A s.heap s.heap [] := va_S.rf
  have hl := lv_entry ([.ref kl, .ref e9, .ref dd, .int (nI 0)]) (n := 4) (Nat.le_of_ble_eq_true rfl)
  rw [lg_entry_eq]
  generalize (lg_sl ([.ref kl, .ref e9, .ref dd, .int (nI 0)]) ++ List.replicate (4 - (lg_sl ([.ref kl, .ref e9, .ref dd, .int (nI 0)])).length) Slot.unset).toArray = ls at hl ⊢
  have hl : lv_has ls 4 [(0, .ref kl), (1, .ref e9), (2, .ref dd), (3, .int (nI 0))] := hl
  have hi_Jx4a65c : ∀ w ∈ u_ws RJx4a65c TJx4a65c 3, w ∈ wsJx4a65c_add_72be8 := by decide +kernel
  have hf_48 := hts (.fieldLink RJx4a65c 48 "java/util/ArrayList" "size" "I") (by decide +kernel)
  refine lv_iload_n hx hb dJx4a65c_add_72be8_0 rfl (lv_at hl 3 rfl) ?_
  refine lv_aload_n hx hb dJx4a65c_add_72be8_1 rfl (lv_at hl 2 rfl) ?_
  refine va_tlen hx hb hE.2.1 hS (v := nI 0) rfl dJx4a65c_add_72be8_2 ?_
  refine lv_icmp_ne (tgt := 11) hx hb dJx4a65c_add_72be8_3 (by decide) (fun c1 => ?_) (fun c1 => ?_)
  · first | exact absurd c1 (by decide) | exact (c1 (by decide)).elim
  · skip
    refine lv_aload_n hx hb dJx4a65c_add_72be8_6 rfl (lv_at hl 0 rfl) ?_
    refine kt_newA (wC := [(kl, .inr (kAL, [.int (nI k), .ref dd, .int (nI 0)]))]) (wR9 := [(e9, .inl (cI, 6, .inl z0))]) (va_runV (As := []) (rest := []) ⟨hx, hb, hml, hown, hts⟩ (c_AL_grow0 l dC dI cI cII cJ cJJ cZ cO kl dd k _ ) (cwV 0 hts gJx4a65c_add_72be8_Jx4a65c_grow_d5877 rfl rfl rfl (by decide +kernel) ⟨Nat.le_of_ble_eq_true rfl, Nat.le_of_ble_eq_true rfl⟩) (kt_preVR (q0 := 0) (ci := kAL) hK hP hD hS hE hA [0] rfl rfl rfl rfl rfl) rfl rfl hl.1 rfl (lv_room (Nat.le_of_ble_eq_true rfl)) dJx4a65c_add_72be8_7 ⟨Nat.le_of_ble_eq_true rfl, Nat.le_of_ble_eq_true rfl⟩) hP hD hS hA [0] [1] rfl rfl rfl (by decide) (fun u2 a3 H locs hP hD hS => ?_)
    have hP : va_P (dC, dI) vwCl ([(e9, .inl (cI, 6, .inl z0)), (kl, .inr (kAL, [.int (nI k), .ref a3, .int (nI 0)])), (a3, .inl (cO, 10, .inr (.inr (.inr (.inr (fun _ => none))))))]) H := hP
    have hD : va_D A ([(e9, .inl (cI, 6, .inl z0)), (kl, .inr (kAL, [.int (nI k), .ref a3, .int (nI 0)])), (a3, .inl (cO, 10, .inr (.inr (.inr (.inr (fun _ => none))))))]) := hD
    refine W.widen (k := 1) (n := 10) (by omega) (by omega) ?_
    refine lv_astore_n (lv' := [(2, .ref a3), (0, .ref kl), (1, .ref e9), (3, .int (nI 0))]) hx hb dJx4a65c_add_72be8_10 rfl hl (by decide) rfl (fun ls hl => ?_)
    refine lv_aload_n hx hb dJx4a65c_add_72be8_11 rfl (lv_at hl 0 rfl) ?_
    refine lv_iload_n hx hb dJx4a65c_add_72be8_12 rfl (lv_at hl 3 rfl) ?_
    refine lv_aload_n hx hb dJx4a65c_add_72be8_13 rfl (lv_at hl 2 rfl) ?_
    refine va_astqM hx hb hK hP hD hS 2 5 rfl rfl (kt_anyI (q0 := 0) (t0 := 0) hK hP rfl rfl hE.2.2.2.2.1) (vp_in_nI (by omega) (by decide)) dJx4a65c_add_72be8_14 (fun H locs hP hD hS => ?_)
    obtain ⟨G4, eG4⟩ : ∃ g, g = va_up (fun _ => none) (nI 0).toNatClampNeg (some e9) := ⟨_, rfl⟩
    rw [← eG4] at hP hD
    have hP : va_P (dC, dI) vwCl ([(e9, .inl (cI, 6, .inl z0)), (kl, .inr (kAL, [.int (nI k), .ref a3, .int (nI 0)])), (a3, .inl (cO, 10, .inr (.inr (.inr (.inr G4)))))]) H := hP
    have hD : va_D A ([(e9, .inl (cI, 6, .inl z0)), (kl, .inr (kAL, [.int (nI k), .ref a3, .int (nI 0)])), (a3, .inl (cO, 10, .inr (.inr (.inr (.inr G4)))))]) := hD
    refine lv_aload_n hx hb dJx4a65c_add_72be8_15 rfl (lv_at hl 1 rfl) ?_
    refine lv_iload_n hx hb dJx4a65c_add_72be8_16 rfl (lv_at hl 3 rfl) ?_
    refine lv_iconst (v := nI 1) hx hb dJx4a65c_add_72be8_17 (by decide) ?_
    refine lv_iadd hx hb dJx4a65c_add_72be8_18 ?_
    refine lv_topi (fun z5 ez5 => ?_)
    have ez5 : z5 = nI 1 := ez5.trans (by decide)
    subst ez5
    refine va_put (D := (dC, dI)) (ci := kAL) (v := .int (nI 1)) (ty := .int) (C := RJx4a65c) (T := TJx4a65c) (N := 3) hx hb hts hi_Jx4a65c tyJx4a65c tyJx4a65c_ok nmJx4a65c hown hK hP hD hS 1 rfl rfl 2 (by decide) hf_48 (fun _ h9 => h9) rfl (by decide +kernel) rfl rfl (Nat.le_of_ble_eq_true rfl) dJx4a65c_add_72be8_19 (fun H locs hP hD hS => ?_)
    have hP : va_P (dC, dI) vwCl ([(e9, .inl (cI, 6, .inl z0)), (kl, .inr (kAL, [.int (nI k), .ref a3, .int (nI 1)])), (a3, .inl (cO, 10, .inr (.inr (.inr (.inr G4)))))]) H := hP
    have hD : va_D A ([(e9, .inl (cI, 6, .inl z0)), (kl, .inr (kAL, [.int (nI k), .ref a3, .int (nI 1)])), (a3, .inl (cO, 10, .inr (.inr (.inr (.inr G4)))))]) := hD
    refine W.widen (k := 1) (n := 10) (by omega) (by omega) ?_
    have hP := kt_sub (wC := [(kl, .inr (kAL, [.int (nI k), .ref a3, .int (nI 1)]))]) hP [1] rfl
    have hD := hD.sub (ws' := [(kl, .inr (kAL, [.int (nI k), .ref a3, .int (nI 1)]))]) [1] rfl rfl
    exact kt_vretS (wN := fun (u : Nat) => [(kl, .inr (kAL, [.int (nI k), .ref u, .int (nI 1)]))]) a3 hx hb hr hS hP hK hD hlocks dJx4a65c_add_72be8_22

set_option maxHeartbeats 4000000 in
set_option maxRecDepth 100000 in
theorem c_AL_add1 (l : Launch) (dC : Nat → ClassId) (dI : Nat → Nat → Nat) (cI cII cJ cJJ cZ cO : ClassId) (kl : Nat) (dd : Nat) (e9 : Nat) (sz : Nat)  : Met l yJx4a65c_add_9ea2d wsJx4a65c_add_9ea2d ({ frames := 4, cells := 1, slots := 10, locals := 80 }) (va_Pc [.ref kl, .ref e9] (PRER dd (dC, dI) (tyR cI cII cJ cJJ cZ cO) ([(kl, .inr (kAL, [.int (nI 0), .ref dd, .int (nI 0)])), (e9, .inl (cI, 6, .inl z0))]) sz)) (va_Qi (fun (r' : Int32) (_ : Nat) => r' = nI 1) (fun (u : Nat) tS => ATW (dC, dI) (tyR cI cII cJ cJJ cZ cO) (va_A ([(kl, .inr (kAL, [.int (nI 0), .ref dd, .int (nI 0)])), (e9, .inl (cI, 6, .inl z0))]) sz) ([(kl, .inr (kAL, [.int (nI 1), .ref u, .int (nI 1)]))]) tS) (va_A ([(kl, .inr (kAL, [.int (nI 0), .ref dd, .int (nI 0)])), (e9, .inl (cI, 6, .inl z0))]) sz)) 1 10 (va_A ([(kl, .inr (kAL, [.int (nI 0), .ref dd, .int (nI 0)])), (e9, .inl (cI, 6, .inl z0))]) sz) := by
  refine Met.ofW (cc := cJx4a65c_add_9ea2d) (maxL := 2) (ret := (some .boolean)) (by decide) rfl ?_
  intro p e s m args below meth c s₁ B hml hv
  obtain ⟨rfl, ⟨hsz, hP, hK, hD0⟩, hE⟩ := hv
  have hx := B.exec
  have hb := B.bytes
  have hr := B.returns
  have hlocks := B.notSynchronized
  have hts := atoms_spec (ws := wsJx4a65c_add_9ea2d) B.pre
  have hown : s.vm.findClass RJx4a65c = some m.cls := findClass_of_methodNamed B.named
  subst hsz
  have hD := hD0.self (sz := s.heap.size)
  generalize hAe : va_A ([(kl, .inr (kAL, [.int (nI 0), .ref dd, .int (nI 0)])), (e9, .inl (cI, 6, .inl z0))]) s.heap.size = A at hD hE ⊢
  have hA : ∀ q : Nat, s.heap.size ≤ q → A q := fun q h => by rw [← hAe]; exact Or.inr h
  have hS : va_S A s.heap s.heap [] := va_S.rf
  have hl := lv_entry ([.ref kl, .ref e9]) (n := 2) (Nat.le_of_ble_eq_true rfl)
  rw [lg_entry_eq]
  generalize (lg_sl ([.ref kl, .ref e9]) ++ List.replicate (2 - (lg_sl ([.ref kl, .ref e9])).length) Slot.unset).toArray = ls at hl ⊢
  have hl : lv_has ls 2 [(0, .ref kl), (1, .ref e9)] := hl
  have hi_Jx4a65c : ∀ w ∈ u_ws RJx4a65c TJx4a65c 3, w ∈ wsJx4a65c_add_9ea2d := by decide +kernel
  have hf_63 := hts (.fieldLink RJx4a65c 63 "java/util/ArrayList" "modCount" "I") (by decide +kernel)
  have hf_9 := hts (.fieldLink RJx4a65c 9 "java/util/ArrayList" "elementData" "[Ljava/lang/Object;") (by decide +kernel)
  have hf_48 := hts (.fieldLink RJx4a65c 48 "java/util/ArrayList" "size" "I") (by decide +kernel)
  refine lv_aload_n hx hb dJx4a65c_add_9ea2d_0 rfl (lv_at hl 0 rfl) ?_
  refine lv_dup hx hb dJx4a65c_add_9ea2d_1 rfl ?_
  refine va_get (D := (dC, dI)) (ci := kAL) (v := .int (nI 0)) (C := RJx4a65c) (T := TJx4a65c) (N := 3) hx hb hts hi_Jx4a65c hown hK hP 0 rfl rfl 0 (by decide) hf_63 (u_same (hts (.sameField "java/util/ArrayList" "java/util/AbstractList" "modCount" "I") (by decide +kernel))) rfl dJx4a65c_add_9ea2d_2 ?_
  refine lv_iconst (v := nI 1) hx hb dJx4a65c_add_9ea2d_5 (by decide) ?_
  refine lv_iadd hx hb dJx4a65c_add_9ea2d_6 ?_
  refine lv_topi (fun z1 ez1 => ?_)
  have ez1 : z1 = nI 1 := ez1.trans (by decide)
  subst ez1
  refine va_put (D := (dC, dI)) (ci := kAL) (v := .int (nI 1)) (ty := .int) (C := RJx4a65c) (T := TJx4a65c) (N := 3) hx hb hts hi_Jx4a65c tyJx4a65c tyJx4a65c_ok nmJx4a65c hown hK hP hD hS 0 rfl rfl 0 (by decide) hf_63 (u_same (hts (.sameField "java/util/ArrayList" "java/util/AbstractList" "modCount" "I") (by decide +kernel))) rfl (by decide +kernel) rfl rfl (Nat.le_of_ble_eq_true rfl) dJx4a65c_add_9ea2d_7 (fun H locs hP hD hS => ?_)
  have hP : va_P (dC, dI) vwCl ([(kl, .inr (kAL, [.int (nI 1), .ref dd, .int (nI 0)])), (e9, .inl (cI, 6, .inl z0))]) H := hP
  have hD : va_D A ([(kl, .inr (kAL, [.int (nI 1), .ref dd, .int (nI 0)])), (e9, .inl (cI, 6, .inl z0))]) := hD
  refine lv_aload_n hx hb dJx4a65c_add_9ea2d_10 rfl (lv_at hl 0 rfl) ?_
  refine lv_aload_n hx hb dJx4a65c_add_9ea2d_11 rfl (lv_at hl 1 rfl) ?_
  refine lv_aload_n hx hb dJx4a65c_add_9ea2d_12 rfl (lv_at hl 0 rfl) ?_
  refine va_get (D := (dC, dI)) (ci := kAL) (v := .ref dd) (C := RJx4a65c) (T := TJx4a65c) (N := 3) hx hb hts hi_Jx4a65c hown hK hP 0 rfl rfl 1 (by decide) hf_9 (fun _ h9 => h9) rfl dJx4a65c_add_9ea2d_13 ?_
  refine lv_aload_n hx hb dJx4a65c_add_9ea2d_16 rfl (lv_at hl 0 rfl) ?_
  refine va_get (D := (dC, dI)) (ci := kAL) (v := .int (nI 0)) (C := RJx4a65c) (T := TJx4a65c) (N := 3) hx hb hts hi_Jx4a65c hown hK hP 0 rfl rfl 2 (by decide) hf_48 (fun _ h9 => h9) rfl dJx4a65c_add_9ea2d_17 ?_
  refine kt_newV (wC := [(kl, .inr (kAL, [.int (nI 1), .ref dd, .int (nI 0)])), (e9, .inl (cI, 6, .inl z0))]) (wR9 := []) (va_runV (As := [.ref e9, .ref dd, .int (nI 0)]) (rest := []) ⟨hx, hb, hml, hown, hts⟩ (c_AL_add3 l dC dI cI cII cJ cJJ cZ cO kl dd 1 e9 _ ) (cwV 3 hts gJx4a65c_add_9ea2d_Jx4a65c_add_72be8 rfl rfl rfl (by decide +kernel) ⟨Nat.le_of_ble_eq_true rfl, Nat.le_of_ble_eq_true rfl⟩) (kt_preVR (q0 := 0) (ci := kAL) hK hP hD hS hE hA [0, 1] rfl rfl rfl rfl rfl) rfl rfl hl.1 rfl (lv_room (Nat.le_of_ble_eq_true rfl)) dJx4a65c_add_9ea2d_20 ⟨Nat.le_of_ble_eq_true rfl, Nat.le_of_ble_eq_true rfl⟩) hP hD hS hA [0, 1] [] rfl rfl rfl (by decide) (fun u2 H locs hP hD hS => ?_)
  have hP : va_P (dC, dI) vwCl ([(kl, .inr (kAL, [.int (nI 1), .ref u2, .int (nI 1)]))]) H := hP
  have hD : va_D A ([(kl, .inr (kAL, [.int (nI 1), .ref u2, .int (nI 1)]))]) := hD
  refine W.widen (k := 1) (n := 10) (by omega) (by omega) ?_
  refine lv_iconst (v := nI 1) hx hb dJx4a65c_add_9ea2d_23 (by decide) ?_
  refine W.widen (k := 1) (n := 10) (by omega) (by omega) ?_
  have hP := kt_sub (wC := [(kl, .inr (kAL, [.int (nI 1), .ref u2, .int (nI 1)]))]) hP [0] rfl
  have hD := hD.sub (ws' := [(kl, .inr (kAL, [.int (nI 1), .ref u2, .int (nI 1)]))]) [0] rfl rfl
  exact kt_zretS (wN := fun (u : Nat) => [(kl, .inr (kAL, [.int (nI 1), .ref u, .int (nI 1)]))]) u2 hx hb hr rfl hS hP hK hD (by decide) hlocks dJx4a65c_add_9ea2d_24

set_option maxHeartbeats 4000000 in
set_option maxRecDepth 100000 in
theorem t_keep (l : Launch) (dC : Nat → ClassId) (dI : Nat → Nat → Nat) (cI cII cJ cJJ cZ cO : ClassId) (mo : Nat) (eo : Nat) (er : Nat → Nat) (gr : Nat) (av : Nat) (ro : Nat) (co : Nat) (kl : Nat) (dd : Nat) (sz : Nat)  : Met l yX5_keep wsX5_keep ({ frames := 5, cells := 2, slots := 16, locals := 101 }) (va_Pc [.ref mo] (PRER dd (dC, dI) (tyR cI cII cJ cJJ cZ cO) (wR (nI 0) z0 mo eo er gr av ro co kl dd cI cII) sz)) (va_Qi (fun (r' : Int32) (_ : List Value) => r' = nI 0) (fun (u : List Value) tS => ATW (dC, dI) (tyR cI cII cJ cJJ cZ cO) (va_A (wR (nI 0) z0 mo eo er gr av ro co kl dd cI cII) sz) [(mo, .inr (kX5, .int (nI 0) :: u))] tS) (va_A (wR (nI 0) z0 mo eo er gr av ro co kl dd cI cII) sz)) 2 16 (va_A (wR (nI 0) z0 mo eo er gr av ro co kl dd cI cII) sz) := by
  refine Met.ofW (cc := cX5_keep) (maxL := 1) (ret := (some .int)) (by decide) rfl ?_
  intro p e s m args below meth c s₁ B hml hv
  obtain ⟨rfl, ⟨hsz, hP, hK, hD0⟩, hE⟩ := hv
  have hx := B.exec
  have hb := B.bytes
  have hr := B.returns
  have hlocks := B.notSynchronized
  have hts := atoms_spec (ws := wsX5_keep) B.pre
  have hown : s.vm.findClass RX5 = some m.cls := findClass_of_methodNamed B.named
  subst hsz
  have hD := hD0.self (sz := s.heap.size)
  generalize hAe : va_A (wR (nI 0) z0 mo eo er gr av ro co kl dd cI cII) s.heap.size = A at hD hE ⊢
  have hA : ∀ q : Nat, s.heap.size ≤ q → A q := fun q h => by rw [← hAe]; exact Or.inr h
  have hS : va_S A s.heap s.heap [] := va_S.rf
  have hl := lv_entry ([.ref mo]) (n := 1) (Nat.le_of_ble_eq_true rfl)
  rw [lg_entry_eq]
  generalize (lg_sl ([.ref mo]) ++ List.replicate (1 - (lg_sl ([.ref mo])).length) Slot.unset).toArray = ls at hl ⊢
  have hl : lv_has ls 1 [(0, .ref mo)] := hl
  have hi_X5 : ∀ w ∈ u_ws RX5 TX5 11, w ∈ wsX5_keep := by decide +kernel
  have hf_30 := hts (.fieldLink RX5 30 "TopplemoorModel" "kept" "Ljava/util/ArrayList;") (by decide +kernel)
  have hf_14 := hts (.fieldLink RX5 14 "TopplemoorModel" "grains" "[I") (by decide +kernel)
  refine lv_aload_n hx hb dX5_keep_0 rfl (lv_at hl 0 rfl) ?_
  refine lv_aload_n hx hb dX5_keep_1 rfl (lv_at hl 0 rfl) ?_
  refine va_get (D := (dC, dI)) (ci := kX5) (v := .ref kl) (C := RX5) (T := TX5) (N := 11) hx hb hts hi_X5 hown hK hP 0 rfl rfl 7 (by decide) hf_30 (fun _ h9 => h9) rfl dX5_keep_2 ?_
  refine kt_calliM (w' := wR (nI 0) z0 mo eo er gr av ro co kl dd cI cII) (rest := [.ref mo]) (As := []) ⟨hx, hb, hml, hown, hts⟩ (c_AL_size l dC dI cI cII cJ cJJ cZ cO kl dd 0 0 _ ) (cwV 0 hts gX5_keep_Jx4a65c_size_8abf5 rfl rfl rfl (by decide +kernel) ⟨Nat.le_of_ble_eq_true rfl, Nat.le_of_ble_eq_true rfl⟩) hK hP hD hS hA [13] ⟨rfl, ⟨[none, none, none, none, none, none, none, none, none, none, none, none, none, some 0], rfl, by decide +kernel⟩, rfl⟩ rfl 13 kAL rfl rfl rfl rfl rfl hl.1 (Nat.le_of_ble_eq_true rfl) dX5_keep_5 ⟨Nat.le_of_ble_eq_true rfl, Nat.le_of_ble_eq_true rfl⟩ (fun H locs hP hD hS => ?_)
  have hP : va_P (dC, dI) vwCl (wR (nI 0) z0 mo eo er gr av ro co kl dd cI cII) H := hP
  have hD : va_D A (wR (nI 0) z0 mo eo er gr av ro co kl dd cI cII) := hD
  refine lv_iconst (v := nI 4) hx hb dX5_keep_8 (by decide) ?_
  refine lv_icmp_ne (tgt := 16) hx hb dX5_keep_9 (by decide) (fun c1 => ?_) (fun c1 => ?_)
  · skip
    refine lv_iconst (v := nI 0) hx hb dX5_keep_16 (by decide) ?_
    refine lv_iconst (v := nI 1) hx hb dX5_keep_17 (by decide) ?_
    refine kt_calliM (w' := wR (nI 0) z0 mo eo er gr av ro co kl dd cI cII) (rest := []) (As := [.int (nI 0), .int (nI 1)]) ⟨hx, hb, hml, hown, hts⟩ (c_X5_start_0 l dC dI cI cII cJ cJJ cZ cO mo eo er gr av ro co kl dd _ ) (cwV 2 hts gX5_keep_X5_start rfl rfl rfl (by decide +kernel) ⟨Nat.le_of_ble_eq_true rfl, Nat.le_of_ble_eq_true rfl⟩) hK hP hD hS hA (List.range' 0 14) sw_R0 rfl 0 kX5 rfl rfl rfl rfl rfl hl.1 (Nat.le_of_ble_eq_true rfl) dX5_keep_18 ⟨Nat.le_of_ble_eq_true rfl, Nat.le_of_ble_eq_true rfl⟩ (fun H locs hP hD hS => ?_)
    have hP : va_P (dC, dI) vwCl (wR (nI 0) z0 mo eo er gr av ro co kl dd cI cII) H := hP
    have hD : va_D A (wR (nI 0) z0 mo eo er gr av ro co kl dd cI cII) := hD
    refine lv_if_eq (tgt := 26) hx hb dX5_keep_21 (by decide) (fun c2 => ?_) (fun c2 => ?_)
    · skip
      refine lv_aload_n hx hb dX5_keep_26 rfl (lv_at hl 0 rfl) ?_
      refine va_get (D := (dC, dI)) (ci := kX5) (v := .ref kl) (C := RX5) (T := TX5) (N := 11) hx hb hts hi_X5 hown hK hP 0 rfl rfl 7 (by decide) hf_30 (fun _ h9 => h9) rfl dX5_keep_27 ?_
      refine lv_aload_n hx hb dX5_keep_30 rfl (lv_at hl 0 rfl) ?_
      refine va_get (D := (dC, dI)) (ci := kX5) (v := .ref gr) (C := RX5) (T := TX5) (N := 11) hx hb hts hi_X5 hown hK hP 0 rfl rfl 3 (by decide) hf_14 (fun _ h9 => h9) rfl dX5_keep_31 ?_
      refine kt_newA (wC := [(gr, .inl (cI, 6, .inl z0))]) (wR9 := [(mo, .inr (kX5, [.int (nI 0), .int (nI 0), .ref eo, .ref gr, .ref av, .ref ro, .ref co, .ref kl, .int (nI 0), .int (nI 0), .int (nI 0)])), (eo, .inl (cII, 7, .inr (.inr (.inr (.inr (rowF 7 er)))))), (er 0, .inl (cI, 7, .inl z0)), (er 1, .inl (cI, 7, .inl z0)), (er 2, .inl (cI, 7, .inl z0)), (er 3, .inl (cI, 7, .inl z0)), (er 4, .inl (cI, 7, .inl z0)), (er 5, .inl (cI, 7, .inl z0)), (er 6, .inl (cI, 7, .inl z0)), (av, .inl (cI, 6, .inl z0)), (ro, .inl (cI, 6, .inl z0)), (co, .inl (cI, 7, .inl z0)), (kl, .inr (kAL, [.int (nI 0), .ref dd, .int (nI 0)]))]) (va_runS (As := [.ref gr]) (rest := [.ref kl]) ⟨hx, hb, hml, hown, hts⟩ (c_X5_copy l dC dI cI cII cJ cJJ cZ cO gr _ ) (va_cwS 1 hts gX5_keep_X5_copy rfl rfl rfl (by decide +kernel) ⟨Nat.le_of_ble_eq_true rfl, Nat.le_of_ble_eq_true rfl⟩) (kt_preS hK hP hD [9] rfl rfl) rfl rfl hl.1 rfl (lv_room (Nat.le_of_ble_eq_true rfl)) dX5_keep_34 ⟨Nat.le_of_ble_eq_true rfl, Nat.le_of_ble_eq_true rfl⟩) hP hD hS hA [9] [0, 1, 2, 3, 4, 5, 6, 7, 8, 10, 11, 12, 13] rfl rfl rfl (by decide) (fun u3 a4 H locs hP hD hS => ?_)
      have hP : va_P (dC, dI) vwCl ([(mo, .inr (kX5, [.int (nI 0), .int (nI 0), .ref eo, .ref gr, .ref av, .ref ro, .ref co, .ref kl, .int (nI 0), .int (nI 0), .int (nI 0)])), (eo, .inl (cII, 7, .inr (.inr (.inr (.inr (rowF 7 er)))))), (er 0, .inl (cI, 7, .inl z0)), (er 1, .inl (cI, 7, .inl z0)), (er 2, .inl (cI, 7, .inl z0)), (er 3, .inl (cI, 7, .inl z0)), (er 4, .inl (cI, 7, .inl z0)), (er 5, .inl (cI, 7, .inl z0)), (er 6, .inl (cI, 7, .inl z0)), (av, .inl (cI, 6, .inl z0)), (ro, .inl (cI, 6, .inl z0)), (co, .inl (cI, 7, .inl z0)), (kl, .inr (kAL, [.int (nI 0), .ref dd, .int (nI 0)])), (gr, .inl (cI, 6, .inl z0)), (a4, .inl (cI, 6, .inl z0))]) H := hP
      have hD : va_D A ([(mo, .inr (kX5, [.int (nI 0), .int (nI 0), .ref eo, .ref gr, .ref av, .ref ro, .ref co, .ref kl, .int (nI 0), .int (nI 0), .int (nI 0)])), (eo, .inl (cII, 7, .inr (.inr (.inr (.inr (rowF 7 er)))))), (er 0, .inl (cI, 7, .inl z0)), (er 1, .inl (cI, 7, .inl z0)), (er 2, .inl (cI, 7, .inl z0)), (er 3, .inl (cI, 7, .inl z0)), (er 4, .inl (cI, 7, .inl z0)), (er 5, .inl (cI, 7, .inl z0)), (er 6, .inl (cI, 7, .inl z0)), (av, .inl (cI, 6, .inl z0)), (ro, .inl (cI, 6, .inl z0)), (co, .inl (cI, 7, .inl z0)), (kl, .inr (kAL, [.int (nI 0), .ref dd, .int (nI 0)])), (gr, .inl (cI, 6, .inl z0)), (a4, .inl (cI, 6, .inl z0))]) := hD
      refine W.widen (k := 1) (n := 6) (by omega) (by omega) ?_
      refine kt_newI (wC := [(kl, .inr (kAL, [.int (nI 0), .ref dd, .int (nI 0)])), (a4, .inl (cI, 6, .inl z0))]) (wR9 := [(mo, .inr (kX5, [.int (nI 0), .int (nI 0), .ref eo, .ref gr, .ref av, .ref ro, .ref co, .ref kl, .int (nI 0), .int (nI 0), .int (nI 0)])), (eo, .inl (cII, 7, .inr (.inr (.inr (.inr (rowF 7 er)))))), (er 0, .inl (cI, 7, .inl z0)), (er 1, .inl (cI, 7, .inl z0)), (er 2, .inl (cI, 7, .inl z0)), (er 3, .inl (cI, 7, .inl z0)), (er 4, .inl (cI, 7, .inl z0)), (er 5, .inl (cI, 7, .inl z0)), (er 6, .inl (cI, 7, .inl z0)), (av, .inl (cI, 6, .inl z0)), (ro, .inl (cI, 6, .inl z0)), (co, .inl (cI, 7, .inl z0)), (gr, .inl (cI, 6, .inl z0))]) (va_runV (As := [.ref a4]) (rest := []) ⟨hx, hb, hml, hown, hts⟩ (c_AL_add1 l dC dI cI cII cJ cJJ cZ cO kl dd a4 _ ) (cwV 1 hts gX5_keep_Jx4a65c_add_9ea2d rfl rfl rfl (by decide +kernel) ⟨Nat.le_of_ble_eq_true rfl, Nat.le_of_ble_eq_true rfl⟩) (kt_preVR (q0 := 12) (ci := kAL) hK hP hD hS hE hA [12, 14] rfl rfl rfl rfl rfl) rfl rfl hl.1 rfl (lv_room (Nat.le_of_ble_eq_true rfl)) dX5_keep_37 ⟨Nat.le_of_ble_eq_true rfl, Nat.le_of_ble_eq_true rfl⟩) hP hD hS hA [12, 14] [0, 1, 2, 3, 4, 5, 6, 7, 8, 9, 10, 11, 13] rfl rfl rfl (by decide) (fun u5 H locs hP hD hS => ?_)
      have hP : va_P (dC, dI) vwCl ([(mo, .inr (kX5, [.int (nI 0), .int (nI 0), .ref eo, .ref gr, .ref av, .ref ro, .ref co, .ref kl, .int (nI 0), .int (nI 0), .int (nI 0)])), (eo, .inl (cII, 7, .inr (.inr (.inr (.inr (rowF 7 er)))))), (er 0, .inl (cI, 7, .inl z0)), (er 1, .inl (cI, 7, .inl z0)), (er 2, .inl (cI, 7, .inl z0)), (er 3, .inl (cI, 7, .inl z0)), (er 4, .inl (cI, 7, .inl z0)), (er 5, .inl (cI, 7, .inl z0)), (er 6, .inl (cI, 7, .inl z0)), (av, .inl (cI, 6, .inl z0)), (ro, .inl (cI, 6, .inl z0)), (co, .inl (cI, 7, .inl z0)), (gr, .inl (cI, 6, .inl z0)), (kl, .inr (kAL, [.int (nI 1), .ref u5, .int (nI 1)]))]) H := hP
      have hD : va_D A ([(mo, .inr (kX5, [.int (nI 0), .int (nI 0), .ref eo, .ref gr, .ref av, .ref ro, .ref co, .ref kl, .int (nI 0), .int (nI 0), .int (nI 0)])), (eo, .inl (cII, 7, .inr (.inr (.inr (.inr (rowF 7 er)))))), (er 0, .inl (cI, 7, .inl z0)), (er 1, .inl (cI, 7, .inl z0)), (er 2, .inl (cI, 7, .inl z0)), (er 3, .inl (cI, 7, .inl z0)), (er 4, .inl (cI, 7, .inl z0)), (er 5, .inl (cI, 7, .inl z0)), (er 6, .inl (cI, 7, .inl z0)), (av, .inl (cI, 6, .inl z0)), (ro, .inl (cI, 6, .inl z0)), (co, .inl (cI, 7, .inl z0)), (gr, .inl (cI, 6, .inl z0)), (kl, .inr (kAL, [.int (nI 1), .ref u5, .int (nI 1)]))]) := hD
      refine W.widen (k := 2) (n := 16) (by omega) (by omega) ?_
      refine lv_pop hx hb dX5_keep_40 rfl ?_
      refine lv_aload_n hx hb dX5_keep_41 rfl (lv_at hl 0 rfl) ?_
      refine va_get (D := (dC, dI)) (ci := kX5) (v := .ref kl) (C := RX5) (T := TX5) (N := 11) hx hb hts hi_X5 hown hK hP 0 rfl rfl 7 (by decide) hf_30 (fun _ h9 => h9) rfl dX5_keep_42 ?_
      refine kt_calliM (w' := [(mo, .inr (kX5, [.int (nI 0), .int (nI 0), .ref eo, .ref gr, .ref av, .ref ro, .ref co, .ref kl, .int (nI 0), .int (nI 0), .int (nI 0)])), (eo, .inl (cII, 7, .inr (.inr (.inr (.inr (rowF 7 er)))))), (er 0, .inl (cI, 7, .inl z0)), (er 1, .inl (cI, 7, .inl z0)), (er 2, .inl (cI, 7, .inl z0)), (er 3, .inl (cI, 7, .inl z0)), (er 4, .inl (cI, 7, .inl z0)), (er 5, .inl (cI, 7, .inl z0)), (er 6, .inl (cI, 7, .inl z0)), (av, .inl (cI, 6, .inl z0)), (ro, .inl (cI, 6, .inl z0)), (co, .inl (cI, 7, .inl z0)), (gr, .inl (cI, 6, .inl z0)), (kl, .inr (kAL, [.int (nI 1), .ref u5, .int (nI 1)]))]) (rest := []) (As := []) ⟨hx, hb, hml, hown, hts⟩ (c_AL_size l dC dI cI cII cJ cJJ cZ cO kl u5 1 1 _ ) (cwV 0 hts gX5_keep_Jx4a65c_size_8abf5 rfl rfl rfl (by decide +kernel) ⟨Nat.le_of_ble_eq_true rfl, Nat.le_of_ble_eq_true rfl⟩) hK hP hD hS hA [13] ⟨rfl, ⟨[none, none, none, none, none, none, none, none, none, none, none, none, none, some 0], rfl, by decide +kernel⟩, rfl⟩ rfl 13 kAL rfl rfl rfl rfl rfl hl.1 (Nat.le_of_ble_eq_true rfl) dX5_keep_45 ⟨Nat.le_of_ble_eq_true rfl, Nat.le_of_ble_eq_true rfl⟩ (fun H locs hP hD hS => ?_)
      have hP : va_P (dC, dI) vwCl ([(mo, .inr (kX5, [.int (nI 0), .int (nI 0), .ref eo, .ref gr, .ref av, .ref ro, .ref co, .ref kl, .int (nI 0), .int (nI 0), .int (nI 0)])), (eo, .inl (cII, 7, .inr (.inr (.inr (.inr (rowF 7 er)))))), (er 0, .inl (cI, 7, .inl z0)), (er 1, .inl (cI, 7, .inl z0)), (er 2, .inl (cI, 7, .inl z0)), (er 3, .inl (cI, 7, .inl z0)), (er 4, .inl (cI, 7, .inl z0)), (er 5, .inl (cI, 7, .inl z0)), (er 6, .inl (cI, 7, .inl z0)), (av, .inl (cI, 6, .inl z0)), (ro, .inl (cI, 6, .inl z0)), (co, .inl (cI, 7, .inl z0)), (gr, .inl (cI, 6, .inl z0)), (kl, .inr (kAL, [.int (nI 1), .ref u5, .int (nI 1)]))]) H := hP
      have hD : va_D A ([(mo, .inr (kX5, [.int (nI 0), .int (nI 0), .ref eo, .ref gr, .ref av, .ref ro, .ref co, .ref kl, .int (nI 0), .int (nI 0), .int (nI 0)])), (eo, .inl (cII, 7, .inr (.inr (.inr (.inr (rowF 7 er)))))), (er 0, .inl (cI, 7, .inl z0)), (er 1, .inl (cI, 7, .inl z0)), (er 2, .inl (cI, 7, .inl z0)), (er 3, .inl (cI, 7, .inl z0)), (er 4, .inl (cI, 7, .inl z0)), (er 5, .inl (cI, 7, .inl z0)), (er 6, .inl (cI, 7, .inl z0)), (av, .inl (cI, 6, .inl z0)), (ro, .inl (cI, 6, .inl z0)), (co, .inl (cI, 7, .inl z0)), (gr, .inl (cI, 6, .inl z0)), (kl, .inr (kAL, [.int (nI 1), .ref u5, .int (nI 1)]))]) := hD
      refine lv_iconst (v := nI 1) hx hb dX5_keep_48 (by decide) ?_
      refine lv_isub hx hb dX5_keep_49 ?_
      refine lv_topi (fun z7 ez7 => ?_)
      have ez7 : z7 = nI 0 := ez7.trans (by decide)
      subst ez7
      refine W.widen (k := 2) (n := 16) (by omega) (by omega) ?_
      have hP := kt_sub (wC := [(mo, .inr (kX5, .int (nI 0) :: [.int (nI 0), .ref eo, .ref gr, .ref av, .ref ro, .ref co, .ref kl, .int (nI 0), .int (nI 0), .int (nI 0)]))]) hP [0] rfl
      have hD := hD.sub (ws' := [(mo, .inr (kX5, .int (nI 0) :: [.int (nI 0), .ref eo, .ref gr, .ref av, .ref ro, .ref co, .ref kl, .int (nI 0), .int (nI 0), .int (nI 0)]))]) [0] rfl rfl
      exact kt_iretU (mo := mo) (th := (nI 0)) (vs := [.int (nI 0), .ref eo, .ref gr, .ref av, .ref ro, .ref co, .ref kl, .int (nI 0), .int (nI 0), .int (nI 0)]) hx hb hr hS hP hK hD (by decide) hlocks dX5_keep_50
    · first | exact absurd c2 (by decide) | exact (c2 (by decide)).elim
  · first | exact absurd c1 (by decide) | exact (c1 (by decide)).elim

set_option maxHeartbeats 4000000 in
set_option maxRecDepth 100000 in
theorem c_IT_init (l : Launch) (dC : Nat → ClassId) (dI : Nat → Nat → Nat) (cI cII cJ cJJ cZ cO : ClassId) (it : Nat) (kl : Nat) (dd : Nat) (sz : Nat)  : Met l yJx35411_init_45d68 wsJx35411_init_45d68 ({ frames := 1, cells := 0, slots := 0, locals := 12 }) (va_Pc [.ref it, .ref kl] (PRE (dC, dI) (tyR cI cII cJ cJJ cZ cO) ([(it, .inr (kIT, [.int (nI 0), .int (nI 0), .int (nI 0), .null])), (kl, .inr (kAL, [.int (nI 0), .ref dd, .int (nI 0)]))]) sz)) (va_Qv (fun (_ : Unit) => True) (fun (u : Unit) tS => ATW (dC, dI) (tyR cI cII cJ cJJ cZ cO) (va_A ([(it, .inr (kIT, [.int (nI 0), .int (nI 0), .int (nI 0), .null])), (kl, .inr (kAL, [.int (nI 0), .ref dd, .int (nI 0)]))]) sz) ([(it, .inr (kIT, [.int (nI 0), .int (-1), .int (nI 0), .ref kl])), (kl, .inr (kAL, [.int (nI 0), .ref dd, .int (nI 0)]))]) tS) (va_A ([(it, .inr (kIT, [.int (nI 0), .int (nI 0), .int (nI 0), .null])), (kl, .inr (kAL, [.int (nI 0), .ref dd, .int (nI 0)]))]) sz)) 0 0 (va_A ([(it, .inr (kIT, [.int (nI 0), .int (nI 0), .int (nI 0), .null])), (kl, .inr (kAL, [.int (nI 0), .ref dd, .int (nI 0)]))]) sz) := by
  refine Met.ofW (cc := cJx35411_init_45d68) (maxL := 2) (ret := none) (by decide) rfl ?_
  intro p e s m args below meth c s₁ B hml hv
  obtain ⟨rfl, hsz, hP, hK, hD0⟩ := hv
  have hx := B.exec
  have hb := B.bytes
  have hr := B.returns
  have hlocks := B.notSynchronized
  have hts := atoms_spec (ws := wsJx35411_init_45d68) B.pre
  have hown : s.vm.findClass RJx35411 = some m.cls := findClass_of_methodNamed B.named
  subst hsz
  have hD := hD0.self (sz := s.heap.size)
  generalize hAe : va_A ([(it, .inr (kIT, [.int (nI 0), .int (nI 0), .int (nI 0), .null])), (kl, .inr (kAL, [.int (nI 0), .ref dd, .int (nI 0)]))]) s.heap.size = A at hD ⊢
  have hA : ∀ q : Nat, s.heap.size ≤ q → A q := fun q h => by rw [← hAe]; exact Or.inr h
  have hS : va_S A s.heap s.heap [] := va_S.rf
  have hl := lv_entry ([.ref it, .ref kl]) (n := 2) (Nat.le_of_ble_eq_true rfl)
  rw [lg_entry_eq]
  generalize (lg_sl ([.ref it, .ref kl]) ++ List.replicate (2 - (lg_sl ([.ref it, .ref kl])).length) Slot.unset).toArray = ls at hl ⊢
  have hl : lv_has ls 2 [(0, .ref it), (1, .ref kl)] := hl
  have hi_Jx35411 : ∀ w ∈ u_ws RJx35411 TJx35411 4, w ∈ wsJx35411_init_45d68 := by decide +kernel
  have hf_1 := hts (.fieldLink RJx35411 1 "java/util/ArrayList$Itr" "this$0" "Ljava/util/ArrayList;") (by decide +kernel)
  have hf_13 := hts (.fieldLink RJx35411 13 "java/util/ArrayList$Itr" "lastRet" "I") (by decide +kernel)
  have hi_Jx4a65c : ∀ w ∈ u_ws RJx4a65c TJx4a65c 3, w ∈ wsJx35411_init_45d68 := by decide +kernel
  have hf_17 := hts (.fieldLink RJx35411 17 "java/util/ArrayList" "modCount" "I") (by decide +kernel)
  have hf_22 := hts (.fieldLink RJx35411 22 "java/util/ArrayList$Itr" "expectedModCount" "I") (by decide +kernel)
  have hin : meth.name = "<init>" := (name_of_methodNamed B.named B.method).1
  refine lv_aload_n hx hb dJx35411_init_45d68_0 rfl (lv_at hl 0 rfl) ?_
  refine lv_aload_n hx hb dJx35411_init_45d68_1 rfl (lv_at hl 1 rfl) ?_
  refine va_putF (D := (dC, dI)) (ci := kIT) (v := .ref kl) (ty := (.object "java/util/ArrayList")) (C := RJx35411) (T := TJx35411) (N := 4) hx hb hts hi_Jx35411 tyJx35411 tyJx35411_ok nmJx35411 hown hK hP hD hS 0 rfl rfl 3 (by decide) hf_1 (fun _ h9 => h9) rfl hin rfl (by decide +kernel) rfl rfl (Nat.le_of_ble_eq_true rfl) dJx35411_init_45d68_2 (fun H locs hP hD hS => ?_)
  have hP : va_P (dC, dI) vwCl ([(it, .inr (kIT, [.int (nI 0), .int (nI 0), .int (nI 0), .ref kl])), (kl, .inr (kAL, [.int (nI 0), .ref dd, .int (nI 0)]))]) H := hP
  have hD : va_D A ([(it, .inr (kIT, [.int (nI 0), .int (nI 0), .int (nI 0), .ref kl])), (kl, .inr (kAL, [.int (nI 0), .ref dd, .int (nI 0)]))]) := hD
  refine lv_aload_n hx hb dJx35411_init_45d68_5 rfl (lv_at hl 0 rfl) ?_
  refine W.objInit hx hb hown (hts (.methodLink RJx35411 7 objectInit) (by decide +kernel)) (hts (.instanceMethod objectInit) (by decide +kernel)) (hts (.code objectInit ⟨#[0xb1]⟩ 1 none) (by decide +kernel)) rfl (by rw [hml]; exact hl.1) rfl dJx35411_init_45d68_6 (Nat.le_of_ble_eq_true rfl) (Nat.le_of_ble_eq_true rfl) ?_
  refine W.eq (g2 := F0 m 9 ls []) rfl ?_
  refine lv_aload_n hx hb dJx35411_init_45d68_9 rfl (lv_at hl 0 rfl) ?_
  refine lv_iconst (v := (-1)) hx hb dJx35411_init_45d68_10 (by decide) ?_
  refine va_put (D := (dC, dI)) (ci := kIT) (v := .int (-1)) (ty := .int) (C := RJx35411) (T := TJx35411) (N := 4) hx hb hts hi_Jx35411 tyJx35411 tyJx35411_ok nmJx35411 hown hK hP hD hS 0 rfl rfl 1 (by decide) hf_13 (fun _ h9 => h9) rfl (by decide +kernel) rfl rfl (Nat.le_of_ble_eq_true rfl) dJx35411_init_45d68_11 (fun H locs hP hD hS => ?_)
  have hP : va_P (dC, dI) vwCl ([(it, .inr (kIT, [.int (nI 0), .int (-1), .int (nI 0), .ref kl])), (kl, .inr (kAL, [.int (nI 0), .ref dd, .int (nI 0)]))]) H := hP
  have hD : va_D A ([(it, .inr (kIT, [.int (nI 0), .int (-1), .int (nI 0), .ref kl])), (kl, .inr (kAL, [.int (nI 0), .ref dd, .int (nI 0)]))]) := hD
  refine lv_aload_n hx hb dJx35411_init_45d68_14 rfl (lv_at hl 0 rfl) ?_
  refine lv_aload_n hx hb dJx35411_init_45d68_15 rfl (lv_at hl 0 rfl) ?_
  refine va_get (D := (dC, dI)) (ci := kIT) (v := .ref kl) (C := RJx35411) (T := TJx35411) (N := 4) hx hb hts hi_Jx35411 hown hK hP 0 rfl rfl 3 (by decide) hf_1 (fun _ h9 => h9) rfl dJx35411_init_45d68_16 ?_
  refine va_get (D := (dC, dI)) (ci := kAL) (v := .int (nI 0)) (C := RJx4a65c) (T := TJx4a65c) (N := 3) hx hb hts hi_Jx4a65c hown hK hP 1 rfl rfl 0 (by decide) hf_17 (u_same (hts (.sameField "java/util/ArrayList" "java/util/AbstractList" "modCount" "I") (by decide +kernel))) rfl dJx35411_init_45d68_19 ?_
  refine va_put (D := (dC, dI)) (ci := kIT) (v := .int (nI 0)) (ty := .int) (C := RJx35411) (T := TJx35411) (N := 4) hx hb hts hi_Jx35411 tyJx35411 tyJx35411_ok nmJx35411 hown hK hP hD hS 0 rfl rfl 2 (by decide) hf_22 (fun _ h9 => h9) rfl (by decide +kernel) rfl rfl (Nat.le_of_ble_eq_true rfl) dJx35411_init_45d68_22 (fun H locs hP hD hS => ?_)
  have hP : va_P (dC, dI) vwCl ([(it, .inr (kIT, [.int (nI 0), .int (-1), .int (nI 0), .ref kl])), (kl, .inr (kAL, [.int (nI 0), .ref dd, .int (nI 0)]))]) H := hP
  have hD : va_D A ([(it, .inr (kIT, [.int (nI 0), .int (-1), .int (nI 0), .ref kl])), (kl, .inr (kAL, [.int (nI 0), .ref dd, .int (nI 0)]))]) := hD
  refine W.widen (k := 0) (n := 0) (by omega) (by omega) ?_
  have hP := kt_sub (wC := [(it, .inr (kIT, [.int (nI 0), .int (-1), .int (nI 0), .ref kl])), (kl, .inr (kAL, [.int (nI 0), .ref dd, .int (nI 0)]))]) hP [0, 1] rfl
  have hD := hD.sub (ws' := [(it, .inr (kIT, [.int (nI 0), .int (-1), .int (nI 0), .ref kl])), (kl, .inr (kAL, [.int (nI 0), .ref dd, .int (nI 0)]))]) [0, 1] rfl rfl
  exact kt_vretS (wN := fun (u : Unit) => [(it, .inr (kIT, [.int (nI 0), .int (-1), .int (nI 0), .ref kl])), (kl, .inr (kAL, [.int (nI 0), .ref dd, .int (nI 0)]))]) () hx hb hr hS hP hK hD hlocks dJx35411_init_45d68_25

set_option maxHeartbeats 4000000 in
set_option maxRecDepth 100000 in
theorem c_AL_iterator (l : Launch) (dC : Nat → ClassId) (dI : Nat → Nat → Nat) (cI cII cJ cJJ cZ cO : ClassId) (kl : Nat) (dd : Nat) (sz : Nat)  : Met l yJx4a65c_iterator_32c93 wsJx4a65c_iterator_32c93 ({ frames := 2, cells := 1, slots := 4, locals := 33 }) (va_Pc [.ref kl] (PRE (dC, dI) (tyR cI cII cJ cJJ cZ cO) ([(kl, .inr (kAL, [.int (nI 0), .ref dd, .int (nI 0)]))]) sz)) (va_Qr (fun (_ : Unit) => True) (fun (u : Unit) (a : Nat) tS => ATW (dC, dI) (tyR cI cII cJ cJJ cZ cO) (va_A ([(kl, .inr (kAL, [.int (nI 0), .ref dd, .int (nI 0)]))]) sz) ([(a, .inr (kIT, [.int (nI 0), .int (-1), .int (nI 0), .ref kl])), (kl, .inr (kAL, [.int (nI 0), .ref dd, .int (nI 0)]))]) tS) (va_A ([(kl, .inr (kAL, [.int (nI 0), .ref dd, .int (nI 0)]))]) sz)) 1 4 (va_A ([(kl, .inr (kAL, [.int (nI 0), .ref dd, .int (nI 0)]))]) sz) := by
  refine Met.ofW (cc := cJx4a65c_iterator_32c93) (maxL := 1) (ret := (some (.object "java/util/Iterator"))) (by decide) rfl ?_
  intro p e s m args below meth c s₁ B hml hv
  obtain ⟨rfl, hsz, hP, hK, hD0⟩ := hv
  have hx := B.exec
  have hb := B.bytes
  have hr := B.returns
  have hlocks := B.notSynchronized
  have hts := atoms_spec (ws := wsJx4a65c_iterator_32c93) B.pre
  have hown : s.vm.findClass RJx4a65c = some m.cls := findClass_of_methodNamed B.named
  subst hsz
  have hD := hD0.self (sz := s.heap.size)
  generalize hAe : va_A ([(kl, .inr (kAL, [.int (nI 0), .ref dd, .int (nI 0)]))]) s.heap.size = A at hD ⊢
  have hA : ∀ q : Nat, s.heap.size ≤ q → A q := fun q h => by rw [← hAe]; exact Or.inr h
  have hS : va_S A s.heap s.heap [] := va_S.rf
  have hl := lv_entry ([.ref kl]) (n := 1) (Nat.le_of_ble_eq_true rfl)
  rw [lg_entry_eq]
  generalize (lg_sl ([.ref kl]) ++ List.replicate (1 - (lg_sl ([.ref kl])).length) Slot.unset).toArray = ls at hl ⊢
  have hl : lv_has ls 1 [(0, .ref kl)] := hl
  have hi_Jx35411 : ∀ w ∈ u_ws RJx35411 TJx35411 4, w ∈ wsJx4a65c_iterator_32c93 := by decide +kernel
  refine va_new (ci := kIT) (fs := [.int (nI 0), .int (nI 0), .int (nI 0), .null]) (C := RJx35411) (T := TJx35411) (N := 4) hx hb hts hi_Jx35411 tyJx35411 tyJx35411_ok hown (hts (.classLink RJx4a65c 267 RJx35411) (by decide +kernel)) (hts (.instantiable RJx35411 4) (by decide +kernel)) (hts (.initialized RJx35411) (by decide +kernel)) hK hP hD hS hA rfl (fun j hj => by rcases (show j = 0 ∨ j = 1 ∨ j = 2 ∨ j = 3 by omega) with rfl | rfl | rfl | rfl <;> rfl) (Nat.le_of_ble_eq_true rfl) (Nat.le_of_ble_eq_true rfl) dJx4a65c_iterator_32c93_0 (fun q1 H hP hD hS => ?_)
  have hP : va_P (dC, dI) vwCl ([(kl, .inr (kAL, [.int (nI 0), .ref dd, .int (nI 0)])), (q1, .inr (kIT, [.int (nI 0), .int (nI 0), .int (nI 0), .null]))]) H := hP
  have hD : va_D A ([(kl, .inr (kAL, [.int (nI 0), .ref dd, .int (nI 0)])), (q1, .inr (kIT, [.int (nI 0), .int (nI 0), .int (nI 0), .null]))]) := hD
  refine W.widen (k := 1) (n := 4) (by omega) (by omega) ?_
  refine lv_dup hx hb dJx4a65c_iterator_32c93_3 rfl ?_
  refine lv_aload_n hx hb dJx4a65c_iterator_32c93_4 rfl (lv_at hl 0 rfl) ?_
  refine kt_newV (wC := [(q1, .inr (kIT, [.int (nI 0), .int (nI 0), .int (nI 0), .null])), (kl, .inr (kAL, [.int (nI 0), .ref dd, .int (nI 0)]))]) (wR9 := []) (va_runI (As := [.ref kl]) (rest := [.ref q1]) ⟨hx, hb, hml, hown, hts⟩ (c_IT_init l dC dI cI cII cJ cJJ cZ cO q1 kl dd _ ) (cwI 1 hts gJx4a65c_iterator_32c93_Jx35411_init_45d68 rfl rfl rfl (hts (.initialized RJx35411) (by decide +kernel)) (hts (.methodLink RJx4a65c 269 yJx35411_init_45d68) (by decide +kernel)) (hts (.instanceMethod yJx35411_init_45d68) (by decide +kernel)) rfl (by decide +kernel) ⟨Nat.le_of_ble_eq_true rfl, Nat.le_of_ble_eq_true rfl⟩) (kt_preS hK hP hD [1, 0] rfl rfl) rfl rfl hl.1 rfl (lv_room (Nat.le_of_ble_eq_true rfl)) dJx4a65c_iterator_32c93_5 ⟨Nat.le_of_ble_eq_true rfl, Nat.le_of_ble_eq_true rfl⟩) hP hD hS hA [1, 0] [] rfl rfl rfl (by decide) (fun u2 H locs hP hD hS => ?_)
  have hP : va_P (dC, dI) vwCl ([(q1, .inr (kIT, [.int (nI 0), .int (-1), .int (nI 0), .ref kl])), (kl, .inr (kAL, [.int (nI 0), .ref dd, .int (nI 0)]))]) H := hP
  have hD : va_D A ([(q1, .inr (kIT, [.int (nI 0), .int (-1), .int (nI 0), .ref kl])), (kl, .inr (kAL, [.int (nI 0), .ref dd, .int (nI 0)]))]) := hD
  refine W.widen (k := 1) (n := 4) (by omega) (by omega) ?_
  refine W.widen (k := 1) (n := 4) (by omega) (by omega) ?_
  have hP := kt_sub (wC := [(q1, .inr (kIT, [.int (nI 0), .int (-1), .int (nI 0), .ref kl])), (kl, .inr (kAL, [.int (nI 0), .ref dd, .int (nI 0)]))]) hP [0, 1] rfl
  have hD := hD.sub (ws' := [(q1, .inr (kIT, [.int (nI 0), .int (-1), .int (nI 0), .ref kl])), (kl, .inr (kAL, [.int (nI 0), .ref dd, .int (nI 0)]))]) [0, 1] rfl rfl
  exact kt_aretS (wM := fun (u : Unit) (a : Nat) => [(a, .inr (kIT, [.int (nI 0), .int (-1), .int (nI 0), .ref kl])), (kl, .inr (kAL, [.int (nI 0), .ref dd, .int (nI 0)]))]) () hx hb hr (by first | exact Or.inr ⟨_, rfl⟩ | exact Or.inl ⟨_, rfl⟩) hS hP hK hD hlocks dJx4a65c_iterator_32c93_8

set_option maxHeartbeats 4000000 in
set_option maxRecDepth 100000 in
theorem c_IT_hasNext (l : Launch) (dC : Nat → ClassId) (dI : Nat → Nat → Nat) (cI cII cJ cJJ cZ cO : ClassId) (it : Nat) (kl : Nat) (dd : Nat) (sz : Nat)  : Met l yJx35411_hasNext_aae02 wsJx35411_hasNext_aae02 ({ frames := 0, cells := 0, slots := 0, locals := 0 }) (va_Pc [.ref it] (PRER dd (dC, dI) (tyR cI cII cJ cJJ cZ cO) ([(it, .inr (kIT, [.int (nI 0), .int (-1), .int (nI 0), .ref kl])), (kl, .inr (kAL, [.int (nI 0), .ref dd, .int (nI 0)]))]) sz)) (va_Qi (fun (r' : Int32) (_ : Unit) => r' = nI 0) (fun _ tS => ATW (dC, dI) (tyR cI cII cJ cJJ cZ cO) (va_A ([(it, .inr (kIT, [.int (nI 0), .int (-1), .int (nI 0), .ref kl])), (kl, .inr (kAL, [.int (nI 0), .ref dd, .int (nI 0)]))]) sz) ([(it, .inr (kIT, [.int (nI 0), .int (-1), .int (nI 0), .ref kl])), (kl, .inr (kAL, [.int (nI 0), .ref dd, .int (nI 0)]))]) tS) (va_A ([(it, .inr (kIT, [.int (nI 0), .int (-1), .int (nI 0), .ref kl])), (kl, .inr (kAL, [.int (nI 0), .ref dd, .int (nI 0)]))]) sz)) 0 0 (va_A ([(it, .inr (kIT, [.int (nI 0), .int (-1), .int (nI 0), .ref kl])), (kl, .inr (kAL, [.int (nI 0), .ref dd, .int (nI 0)]))]) sz) := by
  refine Met.ofW (cc := cJx35411_hasNext_aae02) (maxL := 1) (ret := (some .boolean)) (by decide) rfl ?_
  intro p e s m args below meth c s₁ B hml hv
  obtain ⟨rfl, ⟨hsz, hP, hK, hD0⟩, hE⟩ := hv
  have hx := B.exec
  have hb := B.bytes
  have hr := B.returns
  have hlocks := B.notSynchronized
  have hts := atoms_spec (ws := wsJx35411_hasNext_aae02) B.pre
  have hown : s.vm.findClass RJx35411 = some m.cls := findClass_of_methodNamed B.named
  subst hsz
  have hD := hD0.self (sz := s.heap.size)
  generalize hAe : va_A ([(it, .inr (kIT, [.int (nI 0), .int (-1), .int (nI 0), .ref kl])), (kl, .inr (kAL, [.int (nI 0), .ref dd, .int (nI 0)]))]) s.heap.size = A at hD hE ⊢
  have hA : ∀ q : Nat, s.heap.size ≤ q → A q := fun q h => by rw [← hAe]; exact Or.inr h
  have hS : va_S A s.heap s.heap [] := va_S.rf
  have hl := lv_entry ([.ref it]) (n := 1) (Nat.le_of_ble_eq_true rfl)
  rw [lg_entry_eq]
  generalize (lg_sl ([.ref it]) ++ List.replicate (1 - (lg_sl ([.ref it])).length) Slot.unset).toArray = ls at hl ⊢
  have hl : lv_has ls 1 [(0, .ref it)] := hl
  have hi_Jx35411 : ∀ w ∈ u_ws RJx35411 TJx35411 4, w ∈ wsJx35411_hasNext_aae02 := by decide +kernel
  have hf_25 := hts (.fieldLink RJx35411 25 "java/util/ArrayList$Itr" "cursor" "I") (by decide +kernel)
  have hf_1 := hts (.fieldLink RJx35411 1 "java/util/ArrayList$Itr" "this$0" "Ljava/util/ArrayList;") (by decide +kernel)
  have hi_Jx4a65c : ∀ w ∈ u_ws RJx4a65c TJx4a65c 3, w ∈ wsJx35411_hasNext_aae02 := by decide +kernel
  refine lv_aload_n hx hb dJx35411_hasNext_aae02_0 rfl (lv_at hl 0 rfl) ?_
  refine va_get (D := (dC, dI)) (ci := kIT) (v := .int (nI 0)) (C := RJx35411) (T := TJx35411) (N := 4) hx hb hts hi_Jx35411 hown hK hP 0 rfl rfl 0 (by decide) hf_25 (fun _ h9 => h9) rfl dJx35411_hasNext_aae02_1 ?_
  refine lv_aload_n hx hb dJx35411_hasNext_aae02_4 rfl (lv_at hl 0 rfl) ?_
  refine va_get (D := (dC, dI)) (ci := kIT) (v := .ref kl) (C := RJx35411) (T := TJx35411) (N := 4) hx hb hts hi_Jx35411 hown hK hP 0 rfl rfl 3 (by decide) hf_1 (fun _ h9 => h9) rfl dJx35411_hasNext_aae02_5 ?_
  refine va_getN (D := (dC, dI)) (ci := kAL) (v := .int (nI 0)) (C := RJx4a65c) (T := TJx4a65c) (N := 3) hx hb hts hi_Jx4a65c hown hK hP 1 rfl rfl 2 (by decide) (va_Nw.use rfl hE.2.2.2.2.2.1) (fun _ h9 => h9) rfl dJx35411_hasNext_aae02_8 ?_
  refine lv_icmp_eq (tgt := 18) hx hb dJx35411_hasNext_aae02_11 (by decide) (fun c1 => ?_) (fun c1 => ?_)
  · skip
    refine lv_iconst (v := nI 0) hx hb dJx35411_hasNext_aae02_18 (by decide) ?_
    refine W.widen (k := 0) (n := 0) (by omega) (by omega) ?_
    exact kt_zret (W' := [(it, .inr (kIT, [.int (nI 0), .int (-1), .int (nI 0), .ref kl])), (kl, .inr (kAL, [.int (nI 0), .ref dd, .int (nI 0)]))]) hx hb hr (rfl) hS hP hK hD (by decide) hlocks dJx35411_hasNext_aae02_19
  · first | exact absurd c1 (by decide) | exact (c1 (by decide)).elim

set_option maxHeartbeats 4000000 in
set_option maxRecDepth 100000 in
theorem c_X5_add_ (l : Launch) (dC : Nat → ClassId) (dI : Nat → Nat → Nat) (cI cII cJ cJJ cZ cO : ClassId) (d : Int64) (v : Int64) (sz : Nat)  : Met l yX5_add_ wsX5_add_ ({ frames := 0, cells := 0, slots := 0, locals := 0 }) (va_Pc [.long d, .long v] (PRE (dC, dI) (tyR cI cII cJ cJJ cZ cO) ([]) sz)) (va_Ql (fun (r' : Int64) (_ : Unit) => r' = d * 31 + v) (fun _ tS => ATW (dC, dI) (tyR cI cII cJ cJJ cZ cO) (va_A ([]) sz) ([]) tS) (va_A ([]) sz)) 0 0 (va_A ([]) sz) := by
  refine Met.ofW (cc := cX5_add_) (maxL := 4) (ret := (some .long)) (by decide) rfl ?_
  intro p e s m args below meth c s₁ B hml hv
  obtain ⟨rfl, hsz, hP, hK, hD0⟩ := hv
  have hx := B.exec
  have hb := B.bytes
  have hr := B.returns
  have hlocks := B.notSynchronized
  have hts := atoms_spec (ws := wsX5_add_) B.pre
  have hown : s.vm.findClass RX5 = some m.cls := findClass_of_methodNamed B.named
  subst hsz
  have hD := hD0.self (sz := s.heap.size)
  generalize hAe : va_A ([]) s.heap.size = A at hD ⊢
  have hA : ∀ q : Nat, s.heap.size ≤ q → A q := fun q h => by rw [← hAe]; exact Or.inr h
  have hS : va_S A s.heap s.heap [] := va_S.rf
  have hl := lv_entry ([.long d, .long v]) (n := 4) (Nat.le_of_ble_eq_true rfl)
  rw [lg_entry_eq]
  generalize (lg_sl ([.long d, .long v]) ++ List.replicate (4 - (lg_sl ([.long d, .long v])).length) Slot.unset).toArray = ls at hl ⊢
  have hl : lv_has ls 4 [(0, .long d), (2, .long v)] := hl
  have hc_189 := hts (.constantLong RX5 189 (31)) (by decide +kernel)
  refine lv_lload_n hx hb dX5_add__0 rfl (lv_at hl 0 rfl) ?_
  refine lv_ldc2 hx hb hown hc_189 dX5_add__1 ?_
  refine lv_lmul hx hb dX5_add__4 ?_
  refine lv_lload_n hx hb dX5_add__5 rfl (lv_at hl 1 rfl) ?_
  refine lv_ladd hx hb dX5_add__6 ?_
  refine W.widen (k := 0) (n := 0) (by omega) (by omega) ?_
  exact kt_lret (W' := []) hx hb hr hS hP hK hD (rfl) hlocks dX5_add__7

set_option maxHeartbeats 4000000 in
set_option maxRecDepth 100000 in
theorem t_digest (l : Launch) (dC : Nat → ClassId) (dI : Nat → Nat → Nat) (cI cII cJ cJJ cZ cO : ClassId) (mo : Nat) (eo : Nat) (er : Nat → Nat) (gr : Nat) (av : Nat) (ro : Nat) (co : Nat) (kl : Nat) (dd : Nat) (sz : Nat)  : Met l yX5_digest wsX5_digest ({ frames := 3, cells := 31, slots := 305, locals := 64 }) (va_Pc [.ref mo] (PRER dd (dC, dI) (tyR cI cII cJ cJJ cZ cO) (wR (nI 0) z0 mo eo er gr av ro co kl dd cI cII) sz)) (va_Ql (fun (r' : Int64) (_ : List Value) => r' = (-3203528621251373594)) (fun (u : List Value) tS => ATW (dC, dI) (tyR cI cII cJ cJJ cZ cO) (va_A (wR (nI 0) z0 mo eo er gr av ro co kl dd cI cII) sz) [(mo, .inr (kX5, .int (nI 0) :: u))] tS) (va_A (wR (nI 0) z0 mo eo er gr av ro co kl dd cI cII) sz)) 31 305 (va_A (wR (nI 0) z0 mo eo er gr av ro co kl dd cI cII) sz) := by
  refine Met.ofW (cc := cX5_digest) (maxL := 6) (ret := (some .long)) (by decide) rfl ?_
  intro p e s m args below meth c s₁ B hml hv
  obtain ⟨rfl, ⟨hsz, hP, hK, hD0⟩, hE⟩ := hv
  have hx := B.exec
  have hb := B.bytes
  have hr := B.returns
  have hlocks := B.notSynchronized
  have hts := atoms_spec (ws := wsX5_digest) B.pre
  have hown : s.vm.findClass RX5 = some m.cls := findClass_of_methodNamed B.named
  subst hsz
  have hD := hD0.self (sz := s.heap.size)
  generalize hAe : va_A (wR (nI 0) z0 mo eo er gr av ro co kl dd cI cII) s.heap.size = A at hD hE ⊢
  have hA : ∀ q : Nat, s.heap.size ≤ q → A q := fun q h => by rw [← hAe]; exact Or.inr h
  have hS : va_S A s.heap s.heap [] := va_S.rf
  have hl := lv_entry ([.ref mo]) (n := 6) (Nat.le_of_ble_eq_true rfl)
  rw [lg_entry_eq]
  generalize (lg_sl ([.ref mo]) ++ List.replicate (6 - (lg_sl ([.ref mo])).length) Slot.unset).toArray = ls at hl ⊢
  have hl : lv_has ls 6 [(0, .ref mo)] := hl
  have hi_X5 : ∀ w ∈ u_ws RX5 TX5 11, w ∈ wsX5_digest := by decide +kernel
  have hf_34 := hts (.fieldLink RX5 34 "TopplemoorModel" "thrown" "I") (by decide +kernel)
  have hc_191 := hts (.constantLong RX5 191 (58310)) (by decide +kernel)
  have hf_42 := hts (.fieldLink RX5 42 "TopplemoorModel" "spots" "I") (by decide +kernel)
  have hf_24 := hts (.fieldLink RX5 24 "TopplemoorModel" "coins" "[I") (by decide +kernel)
  have hf_11 := hts (.fieldLink RX5 11 "TopplemoorModel" "edges" "[[I") (by decide +kernel)
  have hf_30 := hts (.fieldLink RX5 30 "TopplemoorModel" "kept" "Ljava/util/ArrayList;") (by decide +kernel)
  refine lv_aload_n hx hb dX5_digest_0 rfl (lv_at hl 0 rfl) ?_
  refine lv_iconst (v := nI 0) hx hb dX5_digest_1 (by decide) ?_
  refine va_put (D := (dC, dI)) (ci := kX5) (v := .int (nI 0)) (ty := .int) (C := RX5) (T := TX5) (N := 11) hx hb hts hi_X5 tyX5 tyX5_ok nmX5 hown hK hP hD hS 0 rfl rfl 0 (by decide) hf_34 (fun _ h9 => h9) rfl (by decide +kernel) rfl rfl (Nat.le_of_ble_eq_true rfl) dX5_digest_2 (fun H locs hP hD hS => ?_)
  have hP : va_P (dC, dI) vwCl (wR (nI 0) z0 mo eo er gr av ro co kl dd cI cII) H := hP
  have hD : va_D A (wR (nI 0) z0 mo eo er gr av ro co kl dd cI cII) := hD
  refine lv_ldc2 hx hb hown hc_191 dX5_digest_5 ?_
  refine lv_lstore_n (lv' := [(1, .long (58310)), (0, .ref mo)]) hx hb dX5_digest_8 rfl hl (by decide) rfl (fun ls hl => ?_)
  refine lv_iconst (v := nI 0) hx hb dX5_digest_9 (by decide) ?_
  refine lv_istore_n (lv' := [(3, .int (nI 0)), (1, .long (58310)), (0, .ref mo)]) hx hb dX5_digest_10 rfl hl (by decide) rfl (fun ls hl => ?_)
  refine lv_iload_n hx hb dX5_digest_11 rfl (lv_at hl 0 rfl) ?_
  refine lv_bipush (v := nI 14) hx hb dX5_digest_12 (by decide) ?_
  refine lv_icmp_ge (tgt := 34) hx hb dX5_digest_14 (by decide) (fun c1 => ?_) (fun c1 => ?_)
  · first | exact absurd c1 (by decide) | exact (c1 (by decide)).elim
  · skip
    refine lv_lload_n hx hb dX5_digest_17 rfl (lv_at hl 1 rfl) ?_
    refine lv_aload_n hx hb dX5_digest_18 rfl (lv_at hl 2 rfl) ?_
    refine lv_iload_n hx hb dX5_digest_19 rfl (lv_at hl 0 rfl) ?_
    refine kt_calliM (w' := wR (nI 0) z0 mo eo er gr av ro co kl dd cI cII) (rest := [.long (58310)]) (As := [.int (nI 0)]) ⟨hx, hb, hml, hown, hts⟩ (c_X5_told l dC dI cI cII cJ cJJ cZ cO mo eo er gr av ro co kl dd (nI 0) 0 _ (by omega)) (cwV 1 hts gX5_digest_X5_told rfl rfl rfl (by decide +kernel) ⟨Nat.le_of_ble_eq_true rfl, Nat.le_of_ble_eq_true rfl⟩) hK hP hD hS hA (List.range' 0 14) sw_R0 rfl 0 kX5 rfl rfl rfl rfl rfl hl.1 (Nat.le_of_ble_eq_true rfl) dX5_digest_20 ⟨Nat.le_of_ble_eq_true rfl, Nat.le_of_ble_eq_true rfl⟩ (fun H locs hP hD hS => ?_)
    have hP : va_P (dC, dI) vwCl (wR (nI 0) z0 mo eo er gr av ro co kl dd cI cII) H := hP
    have hD : va_D A (wR (nI 0) z0 mo eo er gr av ro co kl dd cI cII) := hD
    refine W.widen (k := 2) (n := 21) (by omega) (by omega) ?_
    refine lv_topi (fun z2 ez2 => ?_)
    have ez2 : z2 = nI 0 := ez2.trans (by decide)
    subst ez2
    refine lv_i2l (v := Int32.toInt64 (nI 0)) hx hb dX5_digest_23 rfl ?_
    refine lv_topl (fun z3 ez3 => ?_)
    have ez3 : z3 = (0) := ez3.trans (by decide)
    subst ez3
    refine kt_callSlM (w' := wR (nI 0) z0 mo eo er gr av ro co kl dd cI cII) (rest := []) (As := [.long (58310), .long (0)]) ⟨hx, hb, hml, hown, hts⟩ (c_X5_add_ l dC dI cI cII cJ cJJ cZ cO (58310) (0) _ ) (va_cwS 2 hts gX5_digest_X5_add_ rfl rfl rfl (by decide +kernel) ⟨Nat.le_of_ble_eq_true rfl, Nat.le_of_ble_eq_true rfl⟩) hK hP hD hS hA [] (kt_sw_nil _) rfl rfl rfl hl.1 (Nat.le_of_ble_eq_true rfl) dX5_digest_24 ⟨Nat.le_of_ble_eq_true rfl, Nat.le_of_ble_eq_true rfl⟩ (fun H locs hP hD hS => ?_)
    have hP : va_P (dC, dI) vwCl (wR (nI 0) z0 mo eo er gr av ro co kl dd cI cII) H := hP
    have hD : va_D A (wR (nI 0) z0 mo eo er gr av ro co kl dd cI cII) := hD
    refine lv_topl (fun z4 ez4 => ?_)
    have ez4 : z4 = (1807610) := ez4.trans (by decide)
    subst ez4
    refine lv_lstore_n (lv' := [(1, .long (1807610)), (3, .int (nI 0)), (0, .ref mo)]) hx hb dX5_digest_27 rfl hl (by decide) rfl (fun ls hl => ?_)
    refine lv_iinc (v := nI 1) (lv' := [(3, .int (nI 1)), (1, .long (1807610)), (0, .ref mo)]) hx hb dX5_digest_28 hl (k := 1) rfl (kt_inc 0) (by decide) rfl (fun ls hl => ?_)
    refine lv_goto (tgt := 11) hx hb dX5_digest_31 (by decide) ?_
    refine lv_iload_n hx hb dX5_digest_11 rfl (lv_at hl 0 rfl) ?_
    refine lv_bipush (v := nI 14) hx hb dX5_digest_12 (by decide) ?_
    refine lv_icmp_ge (tgt := 34) hx hb dX5_digest_14 (by decide) (fun c5 => ?_) (fun c5 => ?_)
    · first | exact absurd c5 (by decide) | exact (c5 (by decide)).elim
    · skip
      refine lv_lload_n hx hb dX5_digest_17 rfl (lv_at hl 1 rfl) ?_
      refine lv_aload_n hx hb dX5_digest_18 rfl (lv_at hl 2 rfl) ?_
      refine lv_iload_n hx hb dX5_digest_19 rfl (lv_at hl 0 rfl) ?_
      refine kt_calliM (w' := wR (nI 0) z0 mo eo er gr av ro co kl dd cI cII) (rest := [.long (1807610)]) (As := [.int (nI 1)]) ⟨hx, hb, hml, hown, hts⟩ (c_X5_told l dC dI cI cII cJ cJJ cZ cO mo eo er gr av ro co kl dd (nI 0) 1 _ (by omega)) (cwV 1 hts gX5_digest_X5_told rfl rfl rfl (by decide +kernel) ⟨Nat.le_of_ble_eq_true rfl, Nat.le_of_ble_eq_true rfl⟩) hK hP hD hS hA (List.range' 0 14) sw_R0 rfl 0 kX5 rfl rfl rfl rfl rfl hl.1 (Nat.le_of_ble_eq_true rfl) dX5_digest_20 ⟨Nat.le_of_ble_eq_true rfl, Nat.le_of_ble_eq_true rfl⟩ (fun H locs hP hD hS => ?_)
      have hP : va_P (dC, dI) vwCl (wR (nI 0) z0 mo eo er gr av ro co kl dd cI cII) H := hP
      have hD : va_D A (wR (nI 0) z0 mo eo er gr av ro co kl dd cI cII) := hD
      refine W.widen (k := 4) (n := 42) (by omega) (by omega) ?_
      refine lv_topi (fun z6 ez6 => ?_)
      have ez6 : z6 = nI 0 := ez6.trans (by decide)
      subst ez6
      refine lv_i2l (v := Int32.toInt64 (nI 0)) hx hb dX5_digest_23 rfl ?_
      refine lv_topl (fun z7 ez7 => ?_)
      have ez7 : z7 = (0) := ez7.trans (by decide)
      subst ez7
      refine kt_callSlM (w' := wR (nI 0) z0 mo eo er gr av ro co kl dd cI cII) (rest := []) (As := [.long (1807610), .long (0)]) ⟨hx, hb, hml, hown, hts⟩ (c_X5_add_ l dC dI cI cII cJ cJJ cZ cO (1807610) (0) _ ) (va_cwS 2 hts gX5_digest_X5_add_ rfl rfl rfl (by decide +kernel) ⟨Nat.le_of_ble_eq_true rfl, Nat.le_of_ble_eq_true rfl⟩) hK hP hD hS hA [] (kt_sw_nil _) rfl rfl rfl hl.1 (Nat.le_of_ble_eq_true rfl) dX5_digest_24 ⟨Nat.le_of_ble_eq_true rfl, Nat.le_of_ble_eq_true rfl⟩ (fun H locs hP hD hS => ?_)
      have hP : va_P (dC, dI) vwCl (wR (nI 0) z0 mo eo er gr av ro co kl dd cI cII) H := hP
      have hD : va_D A (wR (nI 0) z0 mo eo er gr av ro co kl dd cI cII) := hD
      refine lv_topl (fun z8 ez8 => ?_)
      have ez8 : z8 = (56035910) := ez8.trans (by decide)
      subst ez8
      refine lv_lstore_n (lv' := [(1, .long (56035910)), (3, .int (nI 1)), (0, .ref mo)]) hx hb dX5_digest_27 rfl hl (by decide) rfl (fun ls hl => ?_)
      refine lv_iinc (v := nI 2) (lv' := [(3, .int (nI 2)), (1, .long (56035910)), (0, .ref mo)]) hx hb dX5_digest_28 hl (k := 1) rfl (kt_inc 1) (by decide) rfl (fun ls hl => ?_)
      refine lv_goto (tgt := 11) hx hb dX5_digest_31 (by decide) ?_
      refine lv_iload_n hx hb dX5_digest_11 rfl (lv_at hl 0 rfl) ?_
      refine lv_bipush (v := nI 14) hx hb dX5_digest_12 (by decide) ?_
      refine lv_icmp_ge (tgt := 34) hx hb dX5_digest_14 (by decide) (fun c9 => ?_) (fun c9 => ?_)
      · first | exact absurd c9 (by decide) | exact (c9 (by decide)).elim
      · skip
        refine lv_lload_n hx hb dX5_digest_17 rfl (lv_at hl 1 rfl) ?_
        refine lv_aload_n hx hb dX5_digest_18 rfl (lv_at hl 2 rfl) ?_
        refine lv_iload_n hx hb dX5_digest_19 rfl (lv_at hl 0 rfl) ?_
        refine kt_calliM (w' := wR (nI 0) z0 mo eo er gr av ro co kl dd cI cII) (rest := [.long (56035910)]) (As := [.int (nI 2)]) ⟨hx, hb, hml, hown, hts⟩ (c_X5_told l dC dI cI cII cJ cJJ cZ cO mo eo er gr av ro co kl dd (nI 0) 2 _ (by omega)) (cwV 1 hts gX5_digest_X5_told rfl rfl rfl (by decide +kernel) ⟨Nat.le_of_ble_eq_true rfl, Nat.le_of_ble_eq_true rfl⟩) hK hP hD hS hA (List.range' 0 14) sw_R0 rfl 0 kX5 rfl rfl rfl rfl rfl hl.1 (Nat.le_of_ble_eq_true rfl) dX5_digest_20 ⟨Nat.le_of_ble_eq_true rfl, Nat.le_of_ble_eq_true rfl⟩ (fun H locs hP hD hS => ?_)
        have hP : va_P (dC, dI) vwCl (wR (nI 0) z0 mo eo er gr av ro co kl dd cI cII) H := hP
        have hD : va_D A (wR (nI 0) z0 mo eo er gr av ro co kl dd cI cII) := hD
        refine W.widen (k := 6) (n := 63) (by omega) (by omega) ?_
        refine lv_topi (fun z10 ez10 => ?_)
        have ez10 : z10 = nI 0 := ez10.trans (by decide)
        subst ez10
        refine lv_i2l (v := Int32.toInt64 (nI 0)) hx hb dX5_digest_23 rfl ?_
        refine lv_topl (fun z11 ez11 => ?_)
        have ez11 : z11 = (0) := ez11.trans (by decide)
        subst ez11
        refine kt_callSlM (w' := wR (nI 0) z0 mo eo er gr av ro co kl dd cI cII) (rest := []) (As := [.long (56035910), .long (0)]) ⟨hx, hb, hml, hown, hts⟩ (c_X5_add_ l dC dI cI cII cJ cJJ cZ cO (56035910) (0) _ ) (va_cwS 2 hts gX5_digest_X5_add_ rfl rfl rfl (by decide +kernel) ⟨Nat.le_of_ble_eq_true rfl, Nat.le_of_ble_eq_true rfl⟩) hK hP hD hS hA [] (kt_sw_nil _) rfl rfl rfl hl.1 (Nat.le_of_ble_eq_true rfl) dX5_digest_24 ⟨Nat.le_of_ble_eq_true rfl, Nat.le_of_ble_eq_true rfl⟩ (fun H locs hP hD hS => ?_)
        have hP : va_P (dC, dI) vwCl (wR (nI 0) z0 mo eo er gr av ro co kl dd cI cII) H := hP
        have hD : va_D A (wR (nI 0) z0 mo eo er gr av ro co kl dd cI cII) := hD
        refine lv_topl (fun z12 ez12 => ?_)
        have ez12 : z12 = (1737113210) := ez12.trans (by decide)
        subst ez12
        refine lv_lstore_n (lv' := [(1, .long (1737113210)), (3, .int (nI 2)), (0, .ref mo)]) hx hb dX5_digest_27 rfl hl (by decide) rfl (fun ls hl => ?_)
        refine lv_iinc (v := nI 3) (lv' := [(3, .int (nI 3)), (1, .long (1737113210)), (0, .ref mo)]) hx hb dX5_digest_28 hl (k := 1) rfl (kt_inc 2) (by decide) rfl (fun ls hl => ?_)
        refine lv_goto (tgt := 11) hx hb dX5_digest_31 (by decide) ?_
        refine lv_iload_n hx hb dX5_digest_11 rfl (lv_at hl 0 rfl) ?_
        refine lv_bipush (v := nI 14) hx hb dX5_digest_12 (by decide) ?_
        refine lv_icmp_ge (tgt := 34) hx hb dX5_digest_14 (by decide) (fun c13 => ?_) (fun c13 => ?_)
        · first | exact absurd c13 (by decide) | exact (c13 (by decide)).elim
        · skip
          refine lv_lload_n hx hb dX5_digest_17 rfl (lv_at hl 1 rfl) ?_
          refine lv_aload_n hx hb dX5_digest_18 rfl (lv_at hl 2 rfl) ?_
          refine lv_iload_n hx hb dX5_digest_19 rfl (lv_at hl 0 rfl) ?_
          refine kt_calliM (w' := wR (nI 0) z0 mo eo er gr av ro co kl dd cI cII) (rest := [.long (1737113210)]) (As := [.int (nI 3)]) ⟨hx, hb, hml, hown, hts⟩ (c_X5_told l dC dI cI cII cJ cJJ cZ cO mo eo er gr av ro co kl dd (nI 0) 3 _ (by omega)) (cwV 1 hts gX5_digest_X5_told rfl rfl rfl (by decide +kernel) ⟨Nat.le_of_ble_eq_true rfl, Nat.le_of_ble_eq_true rfl⟩) hK hP hD hS hA (List.range' 0 14) sw_R0 rfl 0 kX5 rfl rfl rfl rfl rfl hl.1 (Nat.le_of_ble_eq_true rfl) dX5_digest_20 ⟨Nat.le_of_ble_eq_true rfl, Nat.le_of_ble_eq_true rfl⟩ (fun H locs hP hD hS => ?_)
          have hP : va_P (dC, dI) vwCl (wR (nI 0) z0 mo eo er gr av ro co kl dd cI cII) H := hP
          have hD : va_D A (wR (nI 0) z0 mo eo er gr av ro co kl dd cI cII) := hD
          refine W.widen (k := 8) (n := 84) (by omega) (by omega) ?_
          refine lv_topi (fun z14 ez14 => ?_)
          have ez14 : z14 = nI 0 := ez14.trans (by decide)
          subst ez14
          refine lv_i2l (v := Int32.toInt64 (nI 0)) hx hb dX5_digest_23 rfl ?_
          refine lv_topl (fun z15 ez15 => ?_)
          have ez15 : z15 = (0) := ez15.trans (by decide)
          subst ez15
          refine kt_callSlM (w' := wR (nI 0) z0 mo eo er gr av ro co kl dd cI cII) (rest := []) (As := [.long (1737113210), .long (0)]) ⟨hx, hb, hml, hown, hts⟩ (c_X5_add_ l dC dI cI cII cJ cJJ cZ cO (1737113210) (0) _ ) (va_cwS 2 hts gX5_digest_X5_add_ rfl rfl rfl (by decide +kernel) ⟨Nat.le_of_ble_eq_true rfl, Nat.le_of_ble_eq_true rfl⟩) hK hP hD hS hA [] (kt_sw_nil _) rfl rfl rfl hl.1 (Nat.le_of_ble_eq_true rfl) dX5_digest_24 ⟨Nat.le_of_ble_eq_true rfl, Nat.le_of_ble_eq_true rfl⟩ (fun H locs hP hD hS => ?_)
          have hP : va_P (dC, dI) vwCl (wR (nI 0) z0 mo eo er gr av ro co kl dd cI cII) H := hP
          have hD : va_D A (wR (nI 0) z0 mo eo er gr av ro co kl dd cI cII) := hD
          refine lv_topl (fun z16 ez16 => ?_)
          have ez16 : z16 = (53850509510) := ez16.trans (by decide)
          subst ez16
          refine lv_lstore_n (lv' := [(1, .long (53850509510)), (3, .int (nI 3)), (0, .ref mo)]) hx hb dX5_digest_27 rfl hl (by decide) rfl (fun ls hl => ?_)
          refine lv_iinc (v := nI 4) (lv' := [(3, .int (nI 4)), (1, .long (53850509510)), (0, .ref mo)]) hx hb dX5_digest_28 hl (k := 1) rfl (kt_inc 3) (by decide) rfl (fun ls hl => ?_)
          refine lv_goto (tgt := 11) hx hb dX5_digest_31 (by decide) ?_
          refine lv_iload_n hx hb dX5_digest_11 rfl (lv_at hl 0 rfl) ?_
          refine lv_bipush (v := nI 14) hx hb dX5_digest_12 (by decide) ?_
          refine lv_icmp_ge (tgt := 34) hx hb dX5_digest_14 (by decide) (fun c17 => ?_) (fun c17 => ?_)
          · first | exact absurd c17 (by decide) | exact (c17 (by decide)).elim
          · skip
            refine lv_lload_n hx hb dX5_digest_17 rfl (lv_at hl 1 rfl) ?_
            refine lv_aload_n hx hb dX5_digest_18 rfl (lv_at hl 2 rfl) ?_
            refine lv_iload_n hx hb dX5_digest_19 rfl (lv_at hl 0 rfl) ?_
            refine kt_calliM (w' := wR (nI 0) z0 mo eo er gr av ro co kl dd cI cII) (rest := [.long (53850509510)]) (As := [.int (nI 4)]) ⟨hx, hb, hml, hown, hts⟩ (c_X5_told l dC dI cI cII cJ cJJ cZ cO mo eo er gr av ro co kl dd (nI 0) 4 _ (by omega)) (cwV 1 hts gX5_digest_X5_told rfl rfl rfl (by decide +kernel) ⟨Nat.le_of_ble_eq_true rfl, Nat.le_of_ble_eq_true rfl⟩) hK hP hD hS hA (List.range' 0 14) sw_R0 rfl 0 kX5 rfl rfl rfl rfl rfl hl.1 (Nat.le_of_ble_eq_true rfl) dX5_digest_20 ⟨Nat.le_of_ble_eq_true rfl, Nat.le_of_ble_eq_true rfl⟩ (fun H locs hP hD hS => ?_)
            have hP : va_P (dC, dI) vwCl (wR (nI 0) z0 mo eo er gr av ro co kl dd cI cII) H := hP
            have hD : va_D A (wR (nI 0) z0 mo eo er gr av ro co kl dd cI cII) := hD
            refine W.widen (k := 10) (n := 105) (by omega) (by omega) ?_
            refine lv_topi (fun z18 ez18 => ?_)
            have ez18 : z18 = nI 0 := ez18.trans (by decide)
            subst ez18
            refine lv_i2l (v := Int32.toInt64 (nI 0)) hx hb dX5_digest_23 rfl ?_
            refine lv_topl (fun z19 ez19 => ?_)
            have ez19 : z19 = (0) := ez19.trans (by decide)
            subst ez19
            refine kt_callSlM (w' := wR (nI 0) z0 mo eo er gr av ro co kl dd cI cII) (rest := []) (As := [.long (53850509510), .long (0)]) ⟨hx, hb, hml, hown, hts⟩ (c_X5_add_ l dC dI cI cII cJ cJJ cZ cO (53850509510) (0) _ ) (va_cwS 2 hts gX5_digest_X5_add_ rfl rfl rfl (by decide +kernel) ⟨Nat.le_of_ble_eq_true rfl, Nat.le_of_ble_eq_true rfl⟩) hK hP hD hS hA [] (kt_sw_nil _) rfl rfl rfl hl.1 (Nat.le_of_ble_eq_true rfl) dX5_digest_24 ⟨Nat.le_of_ble_eq_true rfl, Nat.le_of_ble_eq_true rfl⟩ (fun H locs hP hD hS => ?_)
            have hP : va_P (dC, dI) vwCl (wR (nI 0) z0 mo eo er gr av ro co kl dd cI cII) H := hP
            have hD : va_D A (wR (nI 0) z0 mo eo er gr av ro co kl dd cI cII) := hD
            refine lv_topl (fun z20 ez20 => ?_)
            have ez20 : z20 = (1669365794810) := ez20.trans (by decide)
            subst ez20
            refine lv_lstore_n (lv' := [(1, .long (1669365794810)), (3, .int (nI 4)), (0, .ref mo)]) hx hb dX5_digest_27 rfl hl (by decide) rfl (fun ls hl => ?_)
            refine lv_iinc (v := nI 5) (lv' := [(3, .int (nI 5)), (1, .long (1669365794810)), (0, .ref mo)]) hx hb dX5_digest_28 hl (k := 1) rfl (kt_inc 4) (by decide) rfl (fun ls hl => ?_)
            refine lv_goto (tgt := 11) hx hb dX5_digest_31 (by decide) ?_
            refine lv_iload_n hx hb dX5_digest_11 rfl (lv_at hl 0 rfl) ?_
            refine lv_bipush (v := nI 14) hx hb dX5_digest_12 (by decide) ?_
            refine lv_icmp_ge (tgt := 34) hx hb dX5_digest_14 (by decide) (fun c21 => ?_) (fun c21 => ?_)
            · first | exact absurd c21 (by decide) | exact (c21 (by decide)).elim
            · skip
              refine lv_lload_n hx hb dX5_digest_17 rfl (lv_at hl 1 rfl) ?_
              refine lv_aload_n hx hb dX5_digest_18 rfl (lv_at hl 2 rfl) ?_
              refine lv_iload_n hx hb dX5_digest_19 rfl (lv_at hl 0 rfl) ?_
              refine kt_calliM (w' := wR (nI 0) z0 mo eo er gr av ro co kl dd cI cII) (rest := [.long (1669365794810)]) (As := [.int (nI 5)]) ⟨hx, hb, hml, hown, hts⟩ (c_X5_told l dC dI cI cII cJ cJJ cZ cO mo eo er gr av ro co kl dd (nI 0) 5 _ (by omega)) (cwV 1 hts gX5_digest_X5_told rfl rfl rfl (by decide +kernel) ⟨Nat.le_of_ble_eq_true rfl, Nat.le_of_ble_eq_true rfl⟩) hK hP hD hS hA (List.range' 0 14) sw_R0 rfl 0 kX5 rfl rfl rfl rfl rfl hl.1 (Nat.le_of_ble_eq_true rfl) dX5_digest_20 ⟨Nat.le_of_ble_eq_true rfl, Nat.le_of_ble_eq_true rfl⟩ (fun H locs hP hD hS => ?_)
              have hP : va_P (dC, dI) vwCl (wR (nI 0) z0 mo eo er gr av ro co kl dd cI cII) H := hP
              have hD : va_D A (wR (nI 0) z0 mo eo er gr av ro co kl dd cI cII) := hD
              refine W.widen (k := 12) (n := 126) (by omega) (by omega) ?_
              refine lv_topi (fun z22 ez22 => ?_)
              have ez22 : z22 = nI 0 := ez22.trans (by decide)
              subst ez22
              refine lv_i2l (v := Int32.toInt64 (nI 0)) hx hb dX5_digest_23 rfl ?_
              refine lv_topl (fun z23 ez23 => ?_)
              have ez23 : z23 = (0) := ez23.trans (by decide)
              subst ez23
              refine kt_callSlM (w' := wR (nI 0) z0 mo eo er gr av ro co kl dd cI cII) (rest := []) (As := [.long (1669365794810), .long (0)]) ⟨hx, hb, hml, hown, hts⟩ (c_X5_add_ l dC dI cI cII cJ cJJ cZ cO (1669365794810) (0) _ ) (va_cwS 2 hts gX5_digest_X5_add_ rfl rfl rfl (by decide +kernel) ⟨Nat.le_of_ble_eq_true rfl, Nat.le_of_ble_eq_true rfl⟩) hK hP hD hS hA [] (kt_sw_nil _) rfl rfl rfl hl.1 (Nat.le_of_ble_eq_true rfl) dX5_digest_24 ⟨Nat.le_of_ble_eq_true rfl, Nat.le_of_ble_eq_true rfl⟩ (fun H locs hP hD hS => ?_)
              have hP : va_P (dC, dI) vwCl (wR (nI 0) z0 mo eo er gr av ro co kl dd cI cII) H := hP
              have hD : va_D A (wR (nI 0) z0 mo eo er gr av ro co kl dd cI cII) := hD
              refine lv_topl (fun z24 ez24 => ?_)
              have ez24 : z24 = (51750339639110) := ez24.trans (by decide)
              subst ez24
              refine lv_lstore_n (lv' := [(1, .long (51750339639110)), (3, .int (nI 5)), (0, .ref mo)]) hx hb dX5_digest_27 rfl hl (by decide) rfl (fun ls hl => ?_)
              refine lv_iinc (v := nI 6) (lv' := [(3, .int (nI 6)), (1, .long (51750339639110)), (0, .ref mo)]) hx hb dX5_digest_28 hl (k := 1) rfl (kt_inc 5) (by decide) rfl (fun ls hl => ?_)
              refine lv_goto (tgt := 11) hx hb dX5_digest_31 (by decide) ?_
              refine lv_iload_n hx hb dX5_digest_11 rfl (lv_at hl 0 rfl) ?_
              refine lv_bipush (v := nI 14) hx hb dX5_digest_12 (by decide) ?_
              refine lv_icmp_ge (tgt := 34) hx hb dX5_digest_14 (by decide) (fun c25 => ?_) (fun c25 => ?_)
              · first | exact absurd c25 (by decide) | exact (c25 (by decide)).elim
              · skip
                refine lv_lload_n hx hb dX5_digest_17 rfl (lv_at hl 1 rfl) ?_
                refine lv_aload_n hx hb dX5_digest_18 rfl (lv_at hl 2 rfl) ?_
                refine lv_iload_n hx hb dX5_digest_19 rfl (lv_at hl 0 rfl) ?_
                refine kt_calliM (w' := wR (nI 0) z0 mo eo er gr av ro co kl dd cI cII) (rest := [.long (51750339639110)]) (As := [.int (nI 6)]) ⟨hx, hb, hml, hown, hts⟩ (c_X5_told l dC dI cI cII cJ cJJ cZ cO mo eo er gr av ro co kl dd (nI 0) 6 _ (by omega)) (cwV 1 hts gX5_digest_X5_told rfl rfl rfl (by decide +kernel) ⟨Nat.le_of_ble_eq_true rfl, Nat.le_of_ble_eq_true rfl⟩) hK hP hD hS hA (List.range' 0 14) sw_R0 rfl 0 kX5 rfl rfl rfl rfl rfl hl.1 (Nat.le_of_ble_eq_true rfl) dX5_digest_20 ⟨Nat.le_of_ble_eq_true rfl, Nat.le_of_ble_eq_true rfl⟩ (fun H locs hP hD hS => ?_)
                have hP : va_P (dC, dI) vwCl (wR (nI 0) z0 mo eo er gr av ro co kl dd cI cII) H := hP
                have hD : va_D A (wR (nI 0) z0 mo eo er gr av ro co kl dd cI cII) := hD
                refine W.widen (k := 14) (n := 147) (by omega) (by omega) ?_
                refine lv_topi (fun z26 ez26 => ?_)
                have ez26 : z26 = nI 0 := ez26.trans (by decide)
                subst ez26
                refine lv_i2l (v := Int32.toInt64 (nI 0)) hx hb dX5_digest_23 rfl ?_
                refine lv_topl (fun z27 ez27 => ?_)
                have ez27 : z27 = (0) := ez27.trans (by decide)
                subst ez27
                refine kt_callSlM (w' := wR (nI 0) z0 mo eo er gr av ro co kl dd cI cII) (rest := []) (As := [.long (51750339639110), .long (0)]) ⟨hx, hb, hml, hown, hts⟩ (c_X5_add_ l dC dI cI cII cJ cJJ cZ cO (51750339639110) (0) _ ) (va_cwS 2 hts gX5_digest_X5_add_ rfl rfl rfl (by decide +kernel) ⟨Nat.le_of_ble_eq_true rfl, Nat.le_of_ble_eq_true rfl⟩) hK hP hD hS hA [] (kt_sw_nil _) rfl rfl rfl hl.1 (Nat.le_of_ble_eq_true rfl) dX5_digest_24 ⟨Nat.le_of_ble_eq_true rfl, Nat.le_of_ble_eq_true rfl⟩ (fun H locs hP hD hS => ?_)
                have hP : va_P (dC, dI) vwCl (wR (nI 0) z0 mo eo er gr av ro co kl dd cI cII) H := hP
                have hD : va_D A (wR (nI 0) z0 mo eo er gr av ro co kl dd cI cII) := hD
                refine lv_topl (fun z28 ez28 => ?_)
                have ez28 : z28 = (1604260528812410) := ez28.trans (by decide)
                subst ez28
                refine lv_lstore_n (lv' := [(1, .long (1604260528812410)), (3, .int (nI 6)), (0, .ref mo)]) hx hb dX5_digest_27 rfl hl (by decide) rfl (fun ls hl => ?_)
                refine lv_iinc (v := nI 7) (lv' := [(3, .int (nI 7)), (1, .long (1604260528812410)), (0, .ref mo)]) hx hb dX5_digest_28 hl (k := 1) rfl (kt_inc 6) (by decide) rfl (fun ls hl => ?_)
                refine lv_goto (tgt := 11) hx hb dX5_digest_31 (by decide) ?_
                refine lv_iload_n hx hb dX5_digest_11 rfl (lv_at hl 0 rfl) ?_
                refine lv_bipush (v := nI 14) hx hb dX5_digest_12 (by decide) ?_
                refine lv_icmp_ge (tgt := 34) hx hb dX5_digest_14 (by decide) (fun c29 => ?_) (fun c29 => ?_)
                · first | exact absurd c29 (by decide) | exact (c29 (by decide)).elim
                · skip
                  refine lv_lload_n hx hb dX5_digest_17 rfl (lv_at hl 1 rfl) ?_
                  refine lv_aload_n hx hb dX5_digest_18 rfl (lv_at hl 2 rfl) ?_
                  refine lv_iload_n hx hb dX5_digest_19 rfl (lv_at hl 0 rfl) ?_
                  refine kt_calliM (w' := wR (nI 0) z0 mo eo er gr av ro co kl dd cI cII) (rest := [.long (1604260528812410)]) (As := [.int (nI 7)]) ⟨hx, hb, hml, hown, hts⟩ (c_X5_told l dC dI cI cII cJ cJJ cZ cO mo eo er gr av ro co kl dd (nI 0) 7 _ (by omega)) (cwV 1 hts gX5_digest_X5_told rfl rfl rfl (by decide +kernel) ⟨Nat.le_of_ble_eq_true rfl, Nat.le_of_ble_eq_true rfl⟩) hK hP hD hS hA (List.range' 0 14) sw_R0 rfl 0 kX5 rfl rfl rfl rfl rfl hl.1 (Nat.le_of_ble_eq_true rfl) dX5_digest_20 ⟨Nat.le_of_ble_eq_true rfl, Nat.le_of_ble_eq_true rfl⟩ (fun H locs hP hD hS => ?_)
                  have hP : va_P (dC, dI) vwCl (wR (nI 0) z0 mo eo er gr av ro co kl dd cI cII) H := hP
                  have hD : va_D A (wR (nI 0) z0 mo eo er gr av ro co kl dd cI cII) := hD
                  refine W.widen (k := 16) (n := 168) (by omega) (by omega) ?_
                  refine lv_topi (fun z30 ez30 => ?_)
                  have ez30 : z30 = nI 0 := ez30.trans (by decide)
                  subst ez30
                  refine lv_i2l (v := Int32.toInt64 (nI 0)) hx hb dX5_digest_23 rfl ?_
                  refine lv_topl (fun z31 ez31 => ?_)
                  have ez31 : z31 = (0) := ez31.trans (by decide)
                  subst ez31
                  refine kt_callSlM (w' := wR (nI 0) z0 mo eo er gr av ro co kl dd cI cII) (rest := []) (As := [.long (1604260528812410), .long (0)]) ⟨hx, hb, hml, hown, hts⟩ (c_X5_add_ l dC dI cI cII cJ cJJ cZ cO (1604260528812410) (0) _ ) (va_cwS 2 hts gX5_digest_X5_add_ rfl rfl rfl (by decide +kernel) ⟨Nat.le_of_ble_eq_true rfl, Nat.le_of_ble_eq_true rfl⟩) hK hP hD hS hA [] (kt_sw_nil _) rfl rfl rfl hl.1 (Nat.le_of_ble_eq_true rfl) dX5_digest_24 ⟨Nat.le_of_ble_eq_true rfl, Nat.le_of_ble_eq_true rfl⟩ (fun H locs hP hD hS => ?_)
                  have hP : va_P (dC, dI) vwCl (wR (nI 0) z0 mo eo er gr av ro co kl dd cI cII) H := hP
                  have hD : va_D A (wR (nI 0) z0 mo eo er gr av ro co kl dd cI cII) := hD
                  refine lv_topl (fun z32 ez32 => ?_)
                  have ez32 : z32 = (49732076393184710) := ez32.trans (by decide)
                  subst ez32
                  refine lv_lstore_n (lv' := [(1, .long (49732076393184710)), (3, .int (nI 7)), (0, .ref mo)]) hx hb dX5_digest_27 rfl hl (by decide) rfl (fun ls hl => ?_)
                  refine lv_iinc (v := nI 8) (lv' := [(3, .int (nI 8)), (1, .long (49732076393184710)), (0, .ref mo)]) hx hb dX5_digest_28 hl (k := 1) rfl (kt_inc 7) (by decide) rfl (fun ls hl => ?_)
                  refine lv_goto (tgt := 11) hx hb dX5_digest_31 (by decide) ?_
                  refine lv_iload_n hx hb dX5_digest_11 rfl (lv_at hl 0 rfl) ?_
                  refine lv_bipush (v := nI 14) hx hb dX5_digest_12 (by decide) ?_
                  refine lv_icmp_ge (tgt := 34) hx hb dX5_digest_14 (by decide) (fun c33 => ?_) (fun c33 => ?_)
                  · first | exact absurd c33 (by decide) | exact (c33 (by decide)).elim
                  · skip
                    refine lv_lload_n hx hb dX5_digest_17 rfl (lv_at hl 1 rfl) ?_
                    refine lv_aload_n hx hb dX5_digest_18 rfl (lv_at hl 2 rfl) ?_
                    refine lv_iload_n hx hb dX5_digest_19 rfl (lv_at hl 0 rfl) ?_
                    refine kt_calliM (w' := wR (nI 0) z0 mo eo er gr av ro co kl dd cI cII) (rest := [.long (49732076393184710)]) (As := [.int (nI 8)]) ⟨hx, hb, hml, hown, hts⟩ (c_X5_told l dC dI cI cII cJ cJJ cZ cO mo eo er gr av ro co kl dd (nI 0) 8 _ (by omega)) (cwV 1 hts gX5_digest_X5_told rfl rfl rfl (by decide +kernel) ⟨Nat.le_of_ble_eq_true rfl, Nat.le_of_ble_eq_true rfl⟩) hK hP hD hS hA (List.range' 0 14) sw_R0 rfl 0 kX5 rfl rfl rfl rfl rfl hl.1 (Nat.le_of_ble_eq_true rfl) dX5_digest_20 ⟨Nat.le_of_ble_eq_true rfl, Nat.le_of_ble_eq_true rfl⟩ (fun H locs hP hD hS => ?_)
                    have hP : va_P (dC, dI) vwCl (wR (nI 0) z0 mo eo er gr av ro co kl dd cI cII) H := hP
                    have hD : va_D A (wR (nI 0) z0 mo eo er gr av ro co kl dd cI cII) := hD
                    refine W.widen (k := 18) (n := 189) (by omega) (by omega) ?_
                    refine lv_topi (fun z34 ez34 => ?_)
                    have ez34 : z34 = nI 0 := ez34.trans (by decide)
                    subst ez34
                    refine lv_i2l (v := Int32.toInt64 (nI 0)) hx hb dX5_digest_23 rfl ?_
                    refine lv_topl (fun z35 ez35 => ?_)
                    have ez35 : z35 = (0) := ez35.trans (by decide)
                    subst ez35
                    refine kt_callSlM (w' := wR (nI 0) z0 mo eo er gr av ro co kl dd cI cII) (rest := []) (As := [.long (49732076393184710), .long (0)]) ⟨hx, hb, hml, hown, hts⟩ (c_X5_add_ l dC dI cI cII cJ cJJ cZ cO (49732076393184710) (0) _ ) (va_cwS 2 hts gX5_digest_X5_add_ rfl rfl rfl (by decide +kernel) ⟨Nat.le_of_ble_eq_true rfl, Nat.le_of_ble_eq_true rfl⟩) hK hP hD hS hA [] (kt_sw_nil _) rfl rfl rfl hl.1 (Nat.le_of_ble_eq_true rfl) dX5_digest_24 ⟨Nat.le_of_ble_eq_true rfl, Nat.le_of_ble_eq_true rfl⟩ (fun H locs hP hD hS => ?_)
                    have hP : va_P (dC, dI) vwCl (wR (nI 0) z0 mo eo er gr av ro co kl dd cI cII) H := hP
                    have hD : va_D A (wR (nI 0) z0 mo eo er gr av ro co kl dd cI cII) := hD
                    refine lv_topl (fun z36 ez36 => ?_)
                    have ez36 : z36 = (1541694368188726010) := ez36.trans (by decide)
                    subst ez36
                    refine lv_lstore_n (lv' := [(1, .long (1541694368188726010)), (3, .int (nI 8)), (0, .ref mo)]) hx hb dX5_digest_27 rfl hl (by decide) rfl (fun ls hl => ?_)
                    refine lv_iinc (v := nI 9) (lv' := [(3, .int (nI 9)), (1, .long (1541694368188726010)), (0, .ref mo)]) hx hb dX5_digest_28 hl (k := 1) rfl (kt_inc 8) (by decide) rfl (fun ls hl => ?_)
                    refine lv_goto (tgt := 11) hx hb dX5_digest_31 (by decide) ?_
                    refine lv_iload_n hx hb dX5_digest_11 rfl (lv_at hl 0 rfl) ?_
                    refine lv_bipush (v := nI 14) hx hb dX5_digest_12 (by decide) ?_
                    refine lv_icmp_ge (tgt := 34) hx hb dX5_digest_14 (by decide) (fun c37 => ?_) (fun c37 => ?_)
                    · first | exact absurd c37 (by decide) | exact (c37 (by decide)).elim
                    · skip
                      refine lv_lload_n hx hb dX5_digest_17 rfl (lv_at hl 1 rfl) ?_
                      refine lv_aload_n hx hb dX5_digest_18 rfl (lv_at hl 2 rfl) ?_
                      refine lv_iload_n hx hb dX5_digest_19 rfl (lv_at hl 0 rfl) ?_
                      refine kt_calliM (w' := wR (nI 0) z0 mo eo er gr av ro co kl dd cI cII) (rest := [.long (1541694368188726010)]) (As := [.int (nI 9)]) ⟨hx, hb, hml, hown, hts⟩ (c_X5_told l dC dI cI cII cJ cJJ cZ cO mo eo er gr av ro co kl dd (nI 0) 9 _ (by omega)) (cwV 1 hts gX5_digest_X5_told rfl rfl rfl (by decide +kernel) ⟨Nat.le_of_ble_eq_true rfl, Nat.le_of_ble_eq_true rfl⟩) hK hP hD hS hA (List.range' 0 14) sw_R0 rfl 0 kX5 rfl rfl rfl rfl rfl hl.1 (Nat.le_of_ble_eq_true rfl) dX5_digest_20 ⟨Nat.le_of_ble_eq_true rfl, Nat.le_of_ble_eq_true rfl⟩ (fun H locs hP hD hS => ?_)
                      have hP : va_P (dC, dI) vwCl (wR (nI 0) z0 mo eo er gr av ro co kl dd cI cII) H := hP
                      have hD : va_D A (wR (nI 0) z0 mo eo er gr av ro co kl dd cI cII) := hD
                      refine W.widen (k := 20) (n := 210) (by omega) (by omega) ?_
                      refine lv_topi (fun z38 ez38 => ?_)
                      have ez38 : z38 = nI 0 := ez38.trans (by decide)
                      subst ez38
                      refine lv_i2l (v := Int32.toInt64 (nI 0)) hx hb dX5_digest_23 rfl ?_
                      refine lv_topl (fun z39 ez39 => ?_)
                      have ez39 : z39 = (0) := ez39.trans (by decide)
                      subst ez39
                      refine kt_callSlM (w' := wR (nI 0) z0 mo eo er gr av ro co kl dd cI cII) (rest := []) (As := [.long (1541694368188726010), .long (0)]) ⟨hx, hb, hml, hown, hts⟩ (c_X5_add_ l dC dI cI cII cJ cJJ cZ cO (1541694368188726010) (0) _ ) (va_cwS 2 hts gX5_digest_X5_add_ rfl rfl rfl (by decide +kernel) ⟨Nat.le_of_ble_eq_true rfl, Nat.le_of_ble_eq_true rfl⟩) hK hP hD hS hA [] (kt_sw_nil _) rfl rfl rfl hl.1 (Nat.le_of_ble_eq_true rfl) dX5_digest_24 ⟨Nat.le_of_ble_eq_true rfl, Nat.le_of_ble_eq_true rfl⟩ (fun H locs hP hD hS => ?_)
                      have hP : va_P (dC, dI) vwCl (wR (nI 0) z0 mo eo er gr av ro co kl dd cI cII) H := hP
                      have hD : va_D A (wR (nI 0) z0 mo eo er gr av ro co kl dd cI cII) := hD
                      refine lv_topl (fun z40 ez40 => ?_)
                      have ez40 : z40 = (-7547706807278148538) := ez40.trans (by decide)
                      subst ez40
                      refine lv_lstore_n (lv' := [(1, .long (-7547706807278148538)), (3, .int (nI 9)), (0, .ref mo)]) hx hb dX5_digest_27 rfl hl (by decide) rfl (fun ls hl => ?_)
                      refine lv_iinc (v := nI 10) (lv' := [(3, .int (nI 10)), (1, .long (-7547706807278148538)), (0, .ref mo)]) hx hb dX5_digest_28 hl (k := 1) rfl (kt_inc 9) (by decide) rfl (fun ls hl => ?_)
                      refine lv_goto (tgt := 11) hx hb dX5_digest_31 (by decide) ?_
                      refine lv_iload_n hx hb dX5_digest_11 rfl (lv_at hl 0 rfl) ?_
                      refine lv_bipush (v := nI 14) hx hb dX5_digest_12 (by decide) ?_
                      refine lv_icmp_ge (tgt := 34) hx hb dX5_digest_14 (by decide) (fun c41 => ?_) (fun c41 => ?_)
                      · first | exact absurd c41 (by decide) | exact (c41 (by decide)).elim
                      · skip
                        refine lv_lload_n hx hb dX5_digest_17 rfl (lv_at hl 1 rfl) ?_
                        refine lv_aload_n hx hb dX5_digest_18 rfl (lv_at hl 2 rfl) ?_
                        refine lv_iload_n hx hb dX5_digest_19 rfl (lv_at hl 0 rfl) ?_
                        refine kt_calliM (w' := wR (nI 0) z0 mo eo er gr av ro co kl dd cI cII) (rest := [.long (-7547706807278148538)]) (As := [.int (nI 10)]) ⟨hx, hb, hml, hown, hts⟩ (c_X5_told l dC dI cI cII cJ cJJ cZ cO mo eo er gr av ro co kl dd (nI 0) 10 _ (by omega)) (cwV 1 hts gX5_digest_X5_told rfl rfl rfl (by decide +kernel) ⟨Nat.le_of_ble_eq_true rfl, Nat.le_of_ble_eq_true rfl⟩) hK hP hD hS hA (List.range' 0 14) sw_R0 rfl 0 kX5 rfl rfl rfl rfl rfl hl.1 (Nat.le_of_ble_eq_true rfl) dX5_digest_20 ⟨Nat.le_of_ble_eq_true rfl, Nat.le_of_ble_eq_true rfl⟩ (fun H locs hP hD hS => ?_)
                        have hP : va_P (dC, dI) vwCl (wR (nI 0) z0 mo eo er gr av ro co kl dd cI cII) H := hP
                        have hD : va_D A (wR (nI 0) z0 mo eo er gr av ro co kl dd cI cII) := hD
                        refine W.widen (k := 22) (n := 231) (by omega) (by omega) ?_
                        refine lv_topi (fun z42 ez42 => ?_)
                        have ez42 : z42 = nI 0 := ez42.trans (by decide)
                        subst ez42
                        refine lv_i2l (v := Int32.toInt64 (nI 0)) hx hb dX5_digest_23 rfl ?_
                        refine lv_topl (fun z43 ez43 => ?_)
                        have ez43 : z43 = (0) := ez43.trans (by decide)
                        subst ez43
                        refine kt_callSlM (w' := wR (nI 0) z0 mo eo er gr av ro co kl dd cI cII) (rest := []) (As := [.long (-7547706807278148538), .long (0)]) ⟨hx, hb, hml, hown, hts⟩ (c_X5_add_ l dC dI cI cII cJ cJJ cZ cO (-7547706807278148538) (0) _ ) (va_cwS 2 hts gX5_digest_X5_add_ rfl rfl rfl (by decide +kernel) ⟨Nat.le_of_ble_eq_true rfl, Nat.le_of_ble_eq_true rfl⟩) hK hP hD hS hA [] (kt_sw_nil _) rfl rfl rfl hl.1 (Nat.le_of_ble_eq_true rfl) dX5_digest_24 ⟨Nat.le_of_ble_eq_true rfl, Nat.le_of_ble_eq_true rfl⟩ (fun H locs hP hD hS => ?_)
                        have hP : va_P (dC, dI) vwCl (wR (nI 0) z0 mo eo er gr av ro co kl dd cI cII) H := hP
                        have hD : va_D A (wR (nI 0) z0 mo eo er gr av ro co kl dd cI cII) := hD
                        refine lv_topl (fun z44 ez44 => ?_)
                        have ez44 : z44 = (5828761932601566330) := ez44.trans (by decide)
                        subst ez44
                        refine lv_lstore_n (lv' := [(1, .long (5828761932601566330)), (3, .int (nI 10)), (0, .ref mo)]) hx hb dX5_digest_27 rfl hl (by decide) rfl (fun ls hl => ?_)
                        refine lv_iinc (v := nI 11) (lv' := [(3, .int (nI 11)), (1, .long (5828761932601566330)), (0, .ref mo)]) hx hb dX5_digest_28 hl (k := 1) rfl (kt_inc 10) (by decide) rfl (fun ls hl => ?_)
                        refine lv_goto (tgt := 11) hx hb dX5_digest_31 (by decide) ?_
                        refine lv_iload_n hx hb dX5_digest_11 rfl (lv_at hl 0 rfl) ?_
                        refine lv_bipush (v := nI 14) hx hb dX5_digest_12 (by decide) ?_
                        refine lv_icmp_ge (tgt := 34) hx hb dX5_digest_14 (by decide) (fun c45 => ?_) (fun c45 => ?_)
                        · first | exact absurd c45 (by decide) | exact (c45 (by decide)).elim
                        · skip
                          refine lv_lload_n hx hb dX5_digest_17 rfl (lv_at hl 1 rfl) ?_
                          refine lv_aload_n hx hb dX5_digest_18 rfl (lv_at hl 2 rfl) ?_
                          refine lv_iload_n hx hb dX5_digest_19 rfl (lv_at hl 0 rfl) ?_
                          refine kt_calliM (w' := wR (nI 0) z0 mo eo er gr av ro co kl dd cI cII) (rest := [.long (5828761932601566330)]) (As := [.int (nI 11)]) ⟨hx, hb, hml, hown, hts⟩ (c_X5_told l dC dI cI cII cJ cJJ cZ cO mo eo er gr av ro co kl dd (nI 0) 11 _ (by omega)) (cwV 1 hts gX5_digest_X5_told rfl rfl rfl (by decide +kernel) ⟨Nat.le_of_ble_eq_true rfl, Nat.le_of_ble_eq_true rfl⟩) hK hP hD hS hA (List.range' 0 14) sw_R0 rfl 0 kX5 rfl rfl rfl rfl rfl hl.1 (Nat.le_of_ble_eq_true rfl) dX5_digest_20 ⟨Nat.le_of_ble_eq_true rfl, Nat.le_of_ble_eq_true rfl⟩ (fun H locs hP hD hS => ?_)
                          have hP : va_P (dC, dI) vwCl (wR (nI 0) z0 mo eo er gr av ro co kl dd cI cII) H := hP
                          have hD : va_D A (wR (nI 0) z0 mo eo er gr av ro co kl dd cI cII) := hD
                          refine W.widen (k := 24) (n := 252) (by omega) (by omega) ?_
                          refine lv_topi (fun z46 ez46 => ?_)
                          have ez46 : z46 = nI 0 := ez46.trans (by decide)
                          subst ez46
                          refine lv_i2l (v := Int32.toInt64 (nI 0)) hx hb dX5_digest_23 rfl ?_
                          refine lv_topl (fun z47 ez47 => ?_)
                          have ez47 : z47 = (0) := ez47.trans (by decide)
                          subst ez47
                          refine kt_callSlM (w' := wR (nI 0) z0 mo eo er gr av ro co kl dd cI cII) (rest := []) (As := [.long (5828761932601566330), .long (0)]) ⟨hx, hb, hml, hown, hts⟩ (c_X5_add_ l dC dI cI cII cJ cJJ cZ cO (5828761932601566330) (0) _ ) (va_cwS 2 hts gX5_digest_X5_add_ rfl rfl rfl (by decide +kernel) ⟨Nat.le_of_ble_eq_true rfl, Nat.le_of_ble_eq_true rfl⟩) hK hP hD hS hA [] (kt_sw_nil _) rfl rfl rfl hl.1 (Nat.le_of_ble_eq_true rfl) dX5_digest_24 ⟨Nat.le_of_ble_eq_true rfl, Nat.le_of_ble_eq_true rfl⟩ (fun H locs hP hD hS => ?_)
                          have hP : va_P (dC, dI) vwCl (wR (nI 0) z0 mo eo er gr av ro co kl dd cI cII) H := hP
                          have hD : va_D A (wR (nI 0) z0 mo eo er gr av ro co kl dd cI cII) := hD
                          refine lv_topl (fun z48 ez48 => ?_)
                          have ez48 : z48 = (-3775820826446959930) := ez48.trans (by decide)
                          subst ez48
                          refine lv_lstore_n (lv' := [(1, .long (-3775820826446959930)), (3, .int (nI 11)), (0, .ref mo)]) hx hb dX5_digest_27 rfl hl (by decide) rfl (fun ls hl => ?_)
                          refine lv_iinc (v := nI 12) (lv' := [(3, .int (nI 12)), (1, .long (-3775820826446959930)), (0, .ref mo)]) hx hb dX5_digest_28 hl (k := 1) rfl (kt_inc 11) (by decide) rfl (fun ls hl => ?_)
                          refine lv_goto (tgt := 11) hx hb dX5_digest_31 (by decide) ?_
                          refine lv_iload_n hx hb dX5_digest_11 rfl (lv_at hl 0 rfl) ?_
                          refine lv_bipush (v := nI 14) hx hb dX5_digest_12 (by decide) ?_
                          refine lv_icmp_ge (tgt := 34) hx hb dX5_digest_14 (by decide) (fun c49 => ?_) (fun c49 => ?_)
                          · first | exact absurd c49 (by decide) | exact (c49 (by decide)).elim
                          · skip
                            refine lv_lload_n hx hb dX5_digest_17 rfl (lv_at hl 1 rfl) ?_
                            refine lv_aload_n hx hb dX5_digest_18 rfl (lv_at hl 2 rfl) ?_
                            refine lv_iload_n hx hb dX5_digest_19 rfl (lv_at hl 0 rfl) ?_
                            refine kt_calliM (w' := wR (nI 0) z0 mo eo er gr av ro co kl dd cI cII) (rest := [.long (-3775820826446959930)]) (As := [.int (nI 12)]) ⟨hx, hb, hml, hown, hts⟩ (c_X5_told l dC dI cI cII cJ cJJ cZ cO mo eo er gr av ro co kl dd (nI 0) 12 _ (by omega)) (cwV 1 hts gX5_digest_X5_told rfl rfl rfl (by decide +kernel) ⟨Nat.le_of_ble_eq_true rfl, Nat.le_of_ble_eq_true rfl⟩) hK hP hD hS hA (List.range' 0 14) sw_R0 rfl 0 kX5 rfl rfl rfl rfl rfl hl.1 (Nat.le_of_ble_eq_true rfl) dX5_digest_20 ⟨Nat.le_of_ble_eq_true rfl, Nat.le_of_ble_eq_true rfl⟩ (fun H locs hP hD hS => ?_)
                            have hP : va_P (dC, dI) vwCl (wR (nI 0) z0 mo eo er gr av ro co kl dd cI cII) H := hP
                            have hD : va_D A (wR (nI 0) z0 mo eo er gr av ro co kl dd cI cII) := hD
                            refine W.widen (k := 26) (n := 273) (by omega) (by omega) ?_
                            refine lv_topi (fun z50 ez50 => ?_)
                            have ez50 : z50 = nI 0 := ez50.trans (by decide)
                            subst ez50
                            refine lv_i2l (v := Int32.toInt64 (nI 0)) hx hb dX5_digest_23 rfl ?_
                            refine lv_topl (fun z51 ez51 => ?_)
                            have ez51 : z51 = (0) := ez51.trans (by decide)
                            subst ez51
                            refine kt_callSlM (w' := wR (nI 0) z0 mo eo er gr av ro co kl dd cI cII) (rest := []) (As := [.long (-3775820826446959930), .long (0)]) ⟨hx, hb, hml, hown, hts⟩ (c_X5_add_ l dC dI cI cII cJ cJJ cZ cO (-3775820826446959930) (0) _ ) (va_cwS 2 hts gX5_digest_X5_add_ rfl rfl rfl (by decide +kernel) ⟨Nat.le_of_ble_eq_true rfl, Nat.le_of_ble_eq_true rfl⟩) hK hP hD hS hA [] (kt_sw_nil _) rfl rfl rfl hl.1 (Nat.le_of_ble_eq_true rfl) dX5_digest_24 ⟨Nat.le_of_ble_eq_true rfl, Nat.le_of_ble_eq_true rfl⟩ (fun H locs hP hD hS => ?_)
                            have hP : va_P (dC, dI) vwCl (wR (nI 0) z0 mo eo er gr av ro co kl dd cI cII) H := hP
                            have hD : va_D A (wR (nI 0) z0 mo eo er gr av ro co kl dd cI cII) := hD
                            refine lv_topl (fun z52 ez52 => ?_)
                            have ez52 : z52 = (-6369981177598448134) := ez52.trans (by decide)
                            subst ez52
                            refine lv_lstore_n (lv' := [(1, .long (-6369981177598448134)), (3, .int (nI 12)), (0, .ref mo)]) hx hb dX5_digest_27 rfl hl (by decide) rfl (fun ls hl => ?_)
                            refine lv_iinc (v := nI 13) (lv' := [(3, .int (nI 13)), (1, .long (-6369981177598448134)), (0, .ref mo)]) hx hb dX5_digest_28 hl (k := 1) rfl (kt_inc 12) (by decide) rfl (fun ls hl => ?_)
                            refine lv_goto (tgt := 11) hx hb dX5_digest_31 (by decide) ?_
                            refine lv_iload_n hx hb dX5_digest_11 rfl (lv_at hl 0 rfl) ?_
                            refine lv_bipush (v := nI 14) hx hb dX5_digest_12 (by decide) ?_
                            refine lv_icmp_ge (tgt := 34) hx hb dX5_digest_14 (by decide) (fun c53 => ?_) (fun c53 => ?_)
                            · first | exact absurd c53 (by decide) | exact (c53 (by decide)).elim
                            · skip
                              refine lv_lload_n hx hb dX5_digest_17 rfl (lv_at hl 1 rfl) ?_
                              refine lv_aload_n hx hb dX5_digest_18 rfl (lv_at hl 2 rfl) ?_
                              refine lv_iload_n hx hb dX5_digest_19 rfl (lv_at hl 0 rfl) ?_
                              refine kt_calliM (w' := wR (nI 0) z0 mo eo er gr av ro co kl dd cI cII) (rest := [.long (-6369981177598448134)]) (As := [.int (nI 13)]) ⟨hx, hb, hml, hown, hts⟩ (c_X5_told l dC dI cI cII cJ cJJ cZ cO mo eo er gr av ro co kl dd (nI 0) 13 _ (by omega)) (cwV 1 hts gX5_digest_X5_told rfl rfl rfl (by decide +kernel) ⟨Nat.le_of_ble_eq_true rfl, Nat.le_of_ble_eq_true rfl⟩) hK hP hD hS hA (List.range' 0 14) sw_R0 rfl 0 kX5 rfl rfl rfl rfl rfl hl.1 (Nat.le_of_ble_eq_true rfl) dX5_digest_20 ⟨Nat.le_of_ble_eq_true rfl, Nat.le_of_ble_eq_true rfl⟩ (fun H locs hP hD hS => ?_)
                              have hP : va_P (dC, dI) vwCl (wR (nI 0) z0 mo eo er gr av ro co kl dd cI cII) H := hP
                              have hD : va_D A (wR (nI 0) z0 mo eo er gr av ro co kl dd cI cII) := hD
                              refine W.widen (k := 28) (n := 294) (by omega) (by omega) ?_
                              refine lv_topi (fun z54 ez54 => ?_)
                              have ez54 : z54 = nI 1 := ez54.trans (by decide)
                              subst ez54
                              refine lv_i2l (v := Int32.toInt64 (nI 1)) hx hb dX5_digest_23 rfl ?_
                              refine lv_topl (fun z55 ez55 => ?_)
                              have ez55 : z55 = (1) := ez55.trans (by decide)
                              subst ez55
                              refine kt_callSlM (w' := wR (nI 0) z0 mo eo er gr av ro co kl dd cI cII) (rest := []) (As := [.long (-6369981177598448134), .long (1)]) ⟨hx, hb, hml, hown, hts⟩ (c_X5_add_ l dC dI cI cII cJ cJJ cZ cO (-6369981177598448134) (1) _ ) (va_cwS 2 hts gX5_digest_X5_add_ rfl rfl rfl (by decide +kernel) ⟨Nat.le_of_ble_eq_true rfl, Nat.le_of_ble_eq_true rfl⟩) hK hP hD hS hA [] (kt_sw_nil _) rfl rfl rfl hl.1 (Nat.le_of_ble_eq_true rfl) dX5_digest_24 ⟨Nat.le_of_ble_eq_true rfl, Nat.le_of_ble_eq_true rfl⟩ (fun H locs hP hD hS => ?_)
                              have hP : va_P (dC, dI) vwCl (wR (nI 0) z0 mo eo er gr av ro co kl dd cI cII) H := hP
                              have hD : va_D A (wR (nI 0) z0 mo eo er gr av ro co kl dd cI cII) := hD
                              refine lv_topl (fun z56 ez56 => ?_)
                              have ez56 : z56 = (5444768305253175623) := ez56.trans (by decide)
                              subst ez56
                              refine lv_lstore_n (lv' := [(1, .long (5444768305253175623)), (3, .int (nI 13)), (0, .ref mo)]) hx hb dX5_digest_27 rfl hl (by decide) rfl (fun ls hl => ?_)
                              refine lv_iinc (v := nI 14) (lv' := [(3, .int (nI 14)), (1, .long (5444768305253175623)), (0, .ref mo)]) hx hb dX5_digest_28 hl (k := 1) rfl (kt_inc 13) (by decide) rfl (fun ls hl => ?_)
                              refine lv_goto (tgt := 11) hx hb dX5_digest_31 (by decide) ?_
                              refine lv_iload_n hx hb dX5_digest_11 rfl (lv_at hl 0 rfl) ?_
                              refine lv_bipush (v := nI 14) hx hb dX5_digest_12 (by decide) ?_
                              refine lv_icmp_ge (tgt := 34) hx hb dX5_digest_14 (by decide) (fun c57 => ?_) (fun c57 => ?_)
                              · skip
                                refine lv_iconst (v := nI 0) hx hb dX5_digest_34 (by decide) ?_
                                refine lv_istore_n (lv' := [(3, .int (nI 0)), (1, .long (5444768305253175623)), (0, .ref mo)]) hx hb dX5_digest_35 rfl hl (by decide) rfl (fun ls hl => ?_)
                                refine lv_iload_n hx hb dX5_digest_36 rfl (lv_at hl 0 rfl) ?_
                                refine lv_aload_n hx hb dX5_digest_37 rfl (lv_at hl 2 rfl) ?_
                                refine va_get (D := (dC, dI)) (ci := kX5) (v := .int (nI 0)) (C := RX5) (T := TX5) (N := 11) hx hb hts hi_X5 hown hK hP 0 rfl rfl 1 (by decide) hf_42 (fun _ h9 => h9) rfl dX5_digest_38 ?_
                                refine lv_icmp_ge (tgt := 79) hx hb dX5_digest_41 (by decide) (fun c58 => ?_) (fun c58 => ?_)
                                · skip
                                  refine lv_iconst (v := nI 0) hx hb dX5_digest_79 (by decide) ?_
                                  refine lv_istore_n (lv' := [(3, .int (nI 0)), (1, .long (5444768305253175623)), (0, .ref mo)]) hx hb dX5_digest_80 rfl hl (by decide) rfl (fun ls hl => ?_)
                                  refine lv_iload_n hx hb dX5_digest_81 rfl (lv_at hl 0 rfl) ?_
                                  refine lv_bipush (v := nI 7) hx hb dX5_digest_82 (by decide) ?_
                                  refine lv_icmp_ge (tgt := 156) hx hb dX5_digest_84 (by decide) (fun c59 => ?_) (fun c59 => ?_)
                                  · first | exact absurd c59 (by decide) | exact (c59 (by decide)).elim
                                  · skip
                                    refine lv_aload_n hx hb dX5_digest_87 rfl (lv_at hl 2 rfl) ?_
                                    refine lv_iload_n hx hb dX5_digest_88 rfl (lv_at hl 0 rfl) ?_
                                    refine kt_calliM (w' := wR (nI 0) z0 mo eo er gr av ro co kl dd cI cII) (rest := []) (As := [.int (nI 0)]) ⟨hx, hb, hml, hown, hts⟩ (c_X5_isNoNode_y l dC dI cI cII cJ cJJ cZ cO mo eo er gr av ro co kl dd (nI 0) (nI 0) _ (by decide)) (cwV 1 hts gX5_digest_X5_isNoNode rfl rfl rfl (by decide +kernel) ⟨Nat.le_of_ble_eq_true rfl, Nat.le_of_ble_eq_true rfl⟩) hK hP hD hS hA (List.range' 0 14) sw_R0 rfl 0 kX5 rfl rfl rfl rfl rfl hl.1 (Nat.le_of_ble_eq_true rfl) dX5_digest_89 ⟨Nat.le_of_ble_eq_true rfl, Nat.le_of_ble_eq_true rfl⟩ (fun H locs hP hD hS => ?_)
                                    have hP : va_P (dC, dI) vwCl (wR (nI 0) z0 mo eo er gr av ro co kl dd cI cII) H := hP
                                    have hD : va_D A (wR (nI 0) z0 mo eo er gr av ro co kl dd cI cII) := hD
                                    refine lv_if_eq (tgt := 98) hx hb dX5_digest_92 (by decide) (fun c60 => ?_) (fun c60 => ?_)
                                    · first | exact absurd c60 (by decide) | exact (c60 (by decide)).elim
                                    · skip
                                      refine lv_goto (tgt := 150) hx hb dX5_digest_95 (by decide) ?_
                                      refine lv_iinc (v := nI 1) (lv' := [(3, .int (nI 1)), (1, .long (5444768305253175623)), (0, .ref mo)]) hx hb dX5_digest_150 hl (k := 0) rfl (kt_inc 0) (by decide) rfl (fun ls hl => ?_)
                                      refine lv_goto (tgt := 81) hx hb dX5_digest_153 (by decide) ?_
                                      refine lv_iload_n hx hb dX5_digest_81 rfl (lv_at hl 0 rfl) ?_
                                      refine lv_bipush (v := nI 7) hx hb dX5_digest_82 (by decide) ?_
                                      refine lv_icmp_ge (tgt := 156) hx hb dX5_digest_84 (by decide) (fun c61 => ?_) (fun c61 => ?_)
                                      · first | exact absurd c61 (by decide) | exact (c61 (by decide)).elim
                                      · skip
                                        refine lv_aload_n hx hb dX5_digest_87 rfl (lv_at hl 2 rfl) ?_
                                        refine lv_iload_n hx hb dX5_digest_88 rfl (lv_at hl 0 rfl) ?_
                                        refine kt_calliM (w' := wR (nI 0) z0 mo eo er gr av ro co kl dd cI cII) (rest := []) (As := [.int (nI 1)]) ⟨hx, hb, hml, hown, hts⟩ (c_X5_isNoNode_y l dC dI cI cII cJ cJJ cZ cO mo eo er gr av ro co kl dd (nI 1) (nI 0) _ (by decide)) (cwV 1 hts gX5_digest_X5_isNoNode rfl rfl rfl (by decide +kernel) ⟨Nat.le_of_ble_eq_true rfl, Nat.le_of_ble_eq_true rfl⟩) hK hP hD hS hA (List.range' 0 14) sw_R0 rfl 0 kX5 rfl rfl rfl rfl rfl hl.1 (Nat.le_of_ble_eq_true rfl) dX5_digest_89 ⟨Nat.le_of_ble_eq_true rfl, Nat.le_of_ble_eq_true rfl⟩ (fun H locs hP hD hS => ?_)
                                        have hP : va_P (dC, dI) vwCl (wR (nI 0) z0 mo eo er gr av ro co kl dd cI cII) H := hP
                                        have hD : va_D A (wR (nI 0) z0 mo eo er gr av ro co kl dd cI cII) := hD
                                        refine lv_if_eq (tgt := 98) hx hb dX5_digest_92 (by decide) (fun c62 => ?_) (fun c62 => ?_)
                                        · first | exact absurd c62 (by decide) | exact (c62 (by decide)).elim
                                        · skip
                                          refine lv_goto (tgt := 150) hx hb dX5_digest_95 (by decide) ?_
                                          refine lv_iinc (v := nI 2) (lv' := [(3, .int (nI 2)), (1, .long (5444768305253175623)), (0, .ref mo)]) hx hb dX5_digest_150 hl (k := 0) rfl (kt_inc 1) (by decide) rfl (fun ls hl => ?_)
                                          refine lv_goto (tgt := 81) hx hb dX5_digest_153 (by decide) ?_
                                          refine lv_iload_n hx hb dX5_digest_81 rfl (lv_at hl 0 rfl) ?_
                                          refine lv_bipush (v := nI 7) hx hb dX5_digest_82 (by decide) ?_
                                          refine lv_icmp_ge (tgt := 156) hx hb dX5_digest_84 (by decide) (fun c63 => ?_) (fun c63 => ?_)
                                          · first | exact absurd c63 (by decide) | exact (c63 (by decide)).elim
                                          · skip
                                            refine lv_aload_n hx hb dX5_digest_87 rfl (lv_at hl 2 rfl) ?_
                                            refine lv_iload_n hx hb dX5_digest_88 rfl (lv_at hl 0 rfl) ?_
                                            refine kt_calliM (w' := wR (nI 0) z0 mo eo er gr av ro co kl dd cI cII) (rest := []) (As := [.int (nI 2)]) ⟨hx, hb, hml, hown, hts⟩ (c_X5_isNoNode_y l dC dI cI cII cJ cJJ cZ cO mo eo er gr av ro co kl dd (nI 2) (nI 0) _ (by decide)) (cwV 1 hts gX5_digest_X5_isNoNode rfl rfl rfl (by decide +kernel) ⟨Nat.le_of_ble_eq_true rfl, Nat.le_of_ble_eq_true rfl⟩) hK hP hD hS hA (List.range' 0 14) sw_R0 rfl 0 kX5 rfl rfl rfl rfl rfl hl.1 (Nat.le_of_ble_eq_true rfl) dX5_digest_89 ⟨Nat.le_of_ble_eq_true rfl, Nat.le_of_ble_eq_true rfl⟩ (fun H locs hP hD hS => ?_)
                                            have hP : va_P (dC, dI) vwCl (wR (nI 0) z0 mo eo er gr av ro co kl dd cI cII) H := hP
                                            have hD : va_D A (wR (nI 0) z0 mo eo er gr av ro co kl dd cI cII) := hD
                                            refine lv_if_eq (tgt := 98) hx hb dX5_digest_92 (by decide) (fun c64 => ?_) (fun c64 => ?_)
                                            · first | exact absurd c64 (by decide) | exact (c64 (by decide)).elim
                                            · skip
                                              refine lv_goto (tgt := 150) hx hb dX5_digest_95 (by decide) ?_
                                              refine lv_iinc (v := nI 3) (lv' := [(3, .int (nI 3)), (1, .long (5444768305253175623)), (0, .ref mo)]) hx hb dX5_digest_150 hl (k := 0) rfl (kt_inc 2) (by decide) rfl (fun ls hl => ?_)
                                              refine lv_goto (tgt := 81) hx hb dX5_digest_153 (by decide) ?_
                                              refine lv_iload_n hx hb dX5_digest_81 rfl (lv_at hl 0 rfl) ?_
                                              refine lv_bipush (v := nI 7) hx hb dX5_digest_82 (by decide) ?_
                                              refine lv_icmp_ge (tgt := 156) hx hb dX5_digest_84 (by decide) (fun c65 => ?_) (fun c65 => ?_)
                                              · first | exact absurd c65 (by decide) | exact (c65 (by decide)).elim
                                              · skip
                                                refine lv_aload_n hx hb dX5_digest_87 rfl (lv_at hl 2 rfl) ?_
                                                refine lv_iload_n hx hb dX5_digest_88 rfl (lv_at hl 0 rfl) ?_
                                                refine kt_calliM (w' := wR (nI 0) z0 mo eo er gr av ro co kl dd cI cII) (rest := []) (As := [.int (nI 3)]) ⟨hx, hb, hml, hown, hts⟩ (c_X5_isNoNode_y l dC dI cI cII cJ cJJ cZ cO mo eo er gr av ro co kl dd (nI 3) (nI 0) _ (by decide)) (cwV 1 hts gX5_digest_X5_isNoNode rfl rfl rfl (by decide +kernel) ⟨Nat.le_of_ble_eq_true rfl, Nat.le_of_ble_eq_true rfl⟩) hK hP hD hS hA (List.range' 0 14) sw_R0 rfl 0 kX5 rfl rfl rfl rfl rfl hl.1 (Nat.le_of_ble_eq_true rfl) dX5_digest_89 ⟨Nat.le_of_ble_eq_true rfl, Nat.le_of_ble_eq_true rfl⟩ (fun H locs hP hD hS => ?_)
                                                have hP : va_P (dC, dI) vwCl (wR (nI 0) z0 mo eo er gr av ro co kl dd cI cII) H := hP
                                                have hD : va_D A (wR (nI 0) z0 mo eo er gr av ro co kl dd cI cII) := hD
                                                refine lv_if_eq (tgt := 98) hx hb dX5_digest_92 (by decide) (fun c66 => ?_) (fun c66 => ?_)
                                                · first | exact absurd c66 (by decide) | exact (c66 (by decide)).elim
                                                · skip
                                                  refine lv_goto (tgt := 150) hx hb dX5_digest_95 (by decide) ?_
                                                  refine lv_iinc (v := nI 4) (lv' := [(3, .int (nI 4)), (1, .long (5444768305253175623)), (0, .ref mo)]) hx hb dX5_digest_150 hl (k := 0) rfl (kt_inc 3) (by decide) rfl (fun ls hl => ?_)
                                                  refine lv_goto (tgt := 81) hx hb dX5_digest_153 (by decide) ?_
                                                  refine lv_iload_n hx hb dX5_digest_81 rfl (lv_at hl 0 rfl) ?_
                                                  refine lv_bipush (v := nI 7) hx hb dX5_digest_82 (by decide) ?_
                                                  refine lv_icmp_ge (tgt := 156) hx hb dX5_digest_84 (by decide) (fun c67 => ?_) (fun c67 => ?_)
                                                  · first | exact absurd c67 (by decide) | exact (c67 (by decide)).elim
                                                  · skip
                                                    refine lv_aload_n hx hb dX5_digest_87 rfl (lv_at hl 2 rfl) ?_
                                                    refine lv_iload_n hx hb dX5_digest_88 rfl (lv_at hl 0 rfl) ?_
                                                    refine kt_calliM (w' := wR (nI 0) z0 mo eo er gr av ro co kl dd cI cII) (rest := []) (As := [.int (nI 4)]) ⟨hx, hb, hml, hown, hts⟩ (c_X5_isNoNode_y l dC dI cI cII cJ cJJ cZ cO mo eo er gr av ro co kl dd (nI 4) (nI 0) _ (by decide)) (cwV 1 hts gX5_digest_X5_isNoNode rfl rfl rfl (by decide +kernel) ⟨Nat.le_of_ble_eq_true rfl, Nat.le_of_ble_eq_true rfl⟩) hK hP hD hS hA (List.range' 0 14) sw_R0 rfl 0 kX5 rfl rfl rfl rfl rfl hl.1 (Nat.le_of_ble_eq_true rfl) dX5_digest_89 ⟨Nat.le_of_ble_eq_true rfl, Nat.le_of_ble_eq_true rfl⟩ (fun H locs hP hD hS => ?_)
                                                    have hP : va_P (dC, dI) vwCl (wR (nI 0) z0 mo eo er gr av ro co kl dd cI cII) H := hP
                                                    have hD : va_D A (wR (nI 0) z0 mo eo er gr av ro co kl dd cI cII) := hD
                                                    refine lv_if_eq (tgt := 98) hx hb dX5_digest_92 (by decide) (fun c68 => ?_) (fun c68 => ?_)
                                                    · first | exact absurd c68 (by decide) | exact (c68 (by decide)).elim
                                                    · skip
                                                      refine lv_goto (tgt := 150) hx hb dX5_digest_95 (by decide) ?_
                                                      refine lv_iinc (v := nI 5) (lv' := [(3, .int (nI 5)), (1, .long (5444768305253175623)), (0, .ref mo)]) hx hb dX5_digest_150 hl (k := 0) rfl (kt_inc 4) (by decide) rfl (fun ls hl => ?_)
                                                      refine lv_goto (tgt := 81) hx hb dX5_digest_153 (by decide) ?_
                                                      refine lv_iload_n hx hb dX5_digest_81 rfl (lv_at hl 0 rfl) ?_
                                                      refine lv_bipush (v := nI 7) hx hb dX5_digest_82 (by decide) ?_
                                                      refine lv_icmp_ge (tgt := 156) hx hb dX5_digest_84 (by decide) (fun c69 => ?_) (fun c69 => ?_)
                                                      · first | exact absurd c69 (by decide) | exact (c69 (by decide)).elim
                                                      · skip
                                                        refine lv_aload_n hx hb dX5_digest_87 rfl (lv_at hl 2 rfl) ?_
                                                        refine lv_iload_n hx hb dX5_digest_88 rfl (lv_at hl 0 rfl) ?_
                                                        refine kt_calliM (w' := wR (nI 0) z0 mo eo er gr av ro co kl dd cI cII) (rest := []) (As := [.int (nI 5)]) ⟨hx, hb, hml, hown, hts⟩ (c_X5_isNoNode_y l dC dI cI cII cJ cJJ cZ cO mo eo er gr av ro co kl dd (nI 5) (nI 0) _ (by decide)) (cwV 1 hts gX5_digest_X5_isNoNode rfl rfl rfl (by decide +kernel) ⟨Nat.le_of_ble_eq_true rfl, Nat.le_of_ble_eq_true rfl⟩) hK hP hD hS hA (List.range' 0 14) sw_R0 rfl 0 kX5 rfl rfl rfl rfl rfl hl.1 (Nat.le_of_ble_eq_true rfl) dX5_digest_89 ⟨Nat.le_of_ble_eq_true rfl, Nat.le_of_ble_eq_true rfl⟩ (fun H locs hP hD hS => ?_)
                                                        have hP : va_P (dC, dI) vwCl (wR (nI 0) z0 mo eo er gr av ro co kl dd cI cII) H := hP
                                                        have hD : va_D A (wR (nI 0) z0 mo eo er gr av ro co kl dd cI cII) := hD
                                                        refine lv_if_eq (tgt := 98) hx hb dX5_digest_92 (by decide) (fun c70 => ?_) (fun c70 => ?_)
                                                        · first | exact absurd c70 (by decide) | exact (c70 (by decide)).elim
                                                        · skip
                                                          refine lv_goto (tgt := 150) hx hb dX5_digest_95 (by decide) ?_
                                                          refine lv_iinc (v := nI 6) (lv' := [(3, .int (nI 6)), (1, .long (5444768305253175623)), (0, .ref mo)]) hx hb dX5_digest_150 hl (k := 0) rfl (kt_inc 5) (by decide) rfl (fun ls hl => ?_)
                                                          refine lv_goto (tgt := 81) hx hb dX5_digest_153 (by decide) ?_
                                                          refine lv_iload_n hx hb dX5_digest_81 rfl (lv_at hl 0 rfl) ?_
                                                          refine lv_bipush (v := nI 7) hx hb dX5_digest_82 (by decide) ?_
                                                          refine lv_icmp_ge (tgt := 156) hx hb dX5_digest_84 (by decide) (fun c71 => ?_) (fun c71 => ?_)
                                                          · first | exact absurd c71 (by decide) | exact (c71 (by decide)).elim
                                                          · skip
                                                            refine lv_aload_n hx hb dX5_digest_87 rfl (lv_at hl 2 rfl) ?_
                                                            refine lv_iload_n hx hb dX5_digest_88 rfl (lv_at hl 0 rfl) ?_
                                                            refine kt_calliM (w' := wR (nI 0) z0 mo eo er gr av ro co kl dd cI cII) (rest := []) (As := [.int (nI 6)]) ⟨hx, hb, hml, hown, hts⟩ (c_X5_isNoNode_n l dC dI cI cII cJ cJJ cZ cO mo eo er gr av ro co kl dd (nI 0) _ ) (cwV 1 hts gX5_digest_X5_isNoNode rfl rfl rfl (by decide +kernel) ⟨Nat.le_of_ble_eq_true rfl, Nat.le_of_ble_eq_true rfl⟩) hK hP hD hS hA (List.range' 0 14) sw_R0 rfl 0 kX5 rfl rfl rfl rfl rfl hl.1 (Nat.le_of_ble_eq_true rfl) dX5_digest_89 ⟨Nat.le_of_ble_eq_true rfl, Nat.le_of_ble_eq_true rfl⟩ (fun H locs hP hD hS => ?_)
                                                            have hP : va_P (dC, dI) vwCl (wR (nI 0) z0 mo eo er gr av ro co kl dd cI cII) H := hP
                                                            have hD : va_D A (wR (nI 0) z0 mo eo er gr av ro co kl dd cI cII) := hD
                                                            refine lv_if_eq (tgt := 98) hx hb dX5_digest_92 (by decide) (fun c72 => ?_) (fun c72 => ?_)
                                                            · skip
                                                              refine lv_lload_n hx hb dX5_digest_98 rfl (lv_at hl 1 rfl) ?_
                                                              refine lv_aload_n hx hb dX5_digest_99 rfl (lv_at hl 2 rfl) ?_
                                                              refine va_get (D := (dC, dI)) (ci := kX5) (v := .ref co) (C := RX5) (T := TX5) (N := 11) hx hb hts hi_X5 hown hK hP 0 rfl rfl 6 (by decide) hf_24 (fun _ h9 => h9) rfl dX5_digest_100 ?_
                                                              refine lv_iload_n hx hb dX5_digest_103 rfl (lv_at hl 0 rfl) ?_
                                                              refine kt_iald hx hb hK hP 12 0 rfl rfl (by omega) (by decide) dX5_digest_104 ?_
                                                              refine lv_topi (fun z73 ez73 => ?_)
                                                              have ez73 : z73 = nI 0 := ez73.trans rfl
                                                              subst ez73
                                                              refine lv_i2l (v := Int32.toInt64 (nI 0)) hx hb dX5_digest_105 rfl ?_
                                                              refine lv_topl (fun z74 ez74 => ?_)
                                                              have ez74 : z74 = (0) := ez74.trans (by decide)
                                                              subst ez74
                                                              refine kt_callSlM (w' := wR (nI 0) z0 mo eo er gr av ro co kl dd cI cII) (rest := []) (As := [.long (5444768305253175623), .long (0)]) ⟨hx, hb, hml, hown, hts⟩ (c_X5_add_ l dC dI cI cII cJ cJJ cZ cO (5444768305253175623) (0) _ ) (va_cwS 2 hts gX5_digest_X5_add_ rfl rfl rfl (by decide +kernel) ⟨Nat.le_of_ble_eq_true rfl, Nat.le_of_ble_eq_true rfl⟩) hK hP hD hS hA [] (kt_sw_nil _) rfl rfl rfl hl.1 (Nat.le_of_ble_eq_true rfl) dX5_digest_106 ⟨Nat.le_of_ble_eq_true rfl, Nat.le_of_ble_eq_true rfl⟩ (fun H locs hP hD hS => ?_)
                                                              have hP : va_P (dC, dI) vwCl (wR (nI 0) z0 mo eo er gr av ro co kl dd cI cII) H := hP
                                                              have hD : va_D A (wR (nI 0) z0 mo eo er gr av ro co kl dd cI cII) := hD
                                                              refine lv_topl (fun z75 ez75 => ?_)
                                                              have ez75 : z75 = (2767120799462479769) := ez75.trans (by decide)
                                                              subst ez75
                                                              refine lv_lstore_n (lv' := [(1, .long (2767120799462479769)), (3, .int (nI 6)), (0, .ref mo)]) hx hb dX5_digest_109 rfl hl (by decide) rfl (fun ls hl => ?_)
                                                              refine lv_iconst (v := nI 0) hx hb dX5_digest_110 (by decide) ?_
                                                              refine lv_istore (lv' := [(4, .int (nI 0)), (1, .long (2767120799462479769)), (3, .int (nI 6)), (0, .ref mo)]) hx hb dX5_digest_111 hl (by decide) rfl (fun ls hl => ?_)
                                                              refine lv_iload hx hb dX5_digest_113 (lv_at hl 0 rfl) ?_
                                                              refine lv_bipush (v := nI 7) hx hb dX5_digest_115 (by decide) ?_
                                                              refine lv_icmp_ge (tgt := 150) hx hb dX5_digest_117 (by decide) (fun c76 => ?_) (fun c76 => ?_)
                                                              · first | exact absurd c76 (by decide) | exact (c76 (by decide)).elim
                                                              · skip
                                                                refine lv_aload_n hx hb dX5_digest_120 rfl (lv_at hl 3 rfl) ?_
                                                                refine lv_iload hx hb dX5_digest_121 (lv_at hl 0 rfl) ?_
                                                                refine kt_calliM (w' := wR (nI 0) z0 mo eo er gr av ro co kl dd cI cII) (rest := []) (As := [.int (nI 0)]) ⟨hx, hb, hml, hown, hts⟩ (c_X5_isNoNode_y l dC dI cI cII cJ cJJ cZ cO mo eo er gr av ro co kl dd (nI 0) (nI 0) _ (by decide)) (cwV 1 hts gX5_digest_X5_isNoNode rfl rfl rfl (by decide +kernel) ⟨Nat.le_of_ble_eq_true rfl, Nat.le_of_ble_eq_true rfl⟩) hK hP hD hS hA (List.range' 0 14) sw_R0 rfl 0 kX5 rfl rfl rfl rfl rfl hl.1 (Nat.le_of_ble_eq_true rfl) dX5_digest_123 ⟨Nat.le_of_ble_eq_true rfl, Nat.le_of_ble_eq_true rfl⟩ (fun H locs hP hD hS => ?_)
                                                                have hP : va_P (dC, dI) vwCl (wR (nI 0) z0 mo eo er gr av ro co kl dd cI cII) H := hP
                                                                have hD : va_D A (wR (nI 0) z0 mo eo er gr av ro co kl dd cI cII) := hD
                                                                refine lv_if_ne (tgt := 144) hx hb dX5_digest_126 (by decide) (fun c77 => ?_) (fun c77 => ?_)
                                                                · skip
                                                                  refine lv_iinc (v := nI 1) (lv' := [(4, .int (nI 1)), (1, .long (2767120799462479769)), (3, .int (nI 6)), (0, .ref mo)]) hx hb dX5_digest_144 hl (k := 0) rfl (kt_inc 0) (by decide) rfl (fun ls hl => ?_)
                                                                  refine lv_goto (tgt := 113) hx hb dX5_digest_147 (by decide) ?_
                                                                  refine lv_iload hx hb dX5_digest_113 (lv_at hl 0 rfl) ?_
                                                                  refine lv_bipush (v := nI 7) hx hb dX5_digest_115 (by decide) ?_
                                                                  refine lv_icmp_ge (tgt := 150) hx hb dX5_digest_117 (by decide) (fun c78 => ?_) (fun c78 => ?_)
                                                                  · first | exact absurd c78 (by decide) | exact (c78 (by decide)).elim
                                                                  · skip
                                                                    refine lv_aload_n hx hb dX5_digest_120 rfl (lv_at hl 3 rfl) ?_
                                                                    refine lv_iload hx hb dX5_digest_121 (lv_at hl 0 rfl) ?_
                                                                    refine kt_calliM (w' := wR (nI 0) z0 mo eo er gr av ro co kl dd cI cII) (rest := []) (As := [.int (nI 1)]) ⟨hx, hb, hml, hown, hts⟩ (c_X5_isNoNode_y l dC dI cI cII cJ cJJ cZ cO mo eo er gr av ro co kl dd (nI 1) (nI 0) _ (by decide)) (cwV 1 hts gX5_digest_X5_isNoNode rfl rfl rfl (by decide +kernel) ⟨Nat.le_of_ble_eq_true rfl, Nat.le_of_ble_eq_true rfl⟩) hK hP hD hS hA (List.range' 0 14) sw_R0 rfl 0 kX5 rfl rfl rfl rfl rfl hl.1 (Nat.le_of_ble_eq_true rfl) dX5_digest_123 ⟨Nat.le_of_ble_eq_true rfl, Nat.le_of_ble_eq_true rfl⟩ (fun H locs hP hD hS => ?_)
                                                                    have hP : va_P (dC, dI) vwCl (wR (nI 0) z0 mo eo er gr av ro co kl dd cI cII) H := hP
                                                                    have hD : va_D A (wR (nI 0) z0 mo eo er gr av ro co kl dd cI cII) := hD
                                                                    refine lv_if_ne (tgt := 144) hx hb dX5_digest_126 (by decide) (fun c79 => ?_) (fun c79 => ?_)
                                                                    · skip
                                                                      refine lv_iinc (v := nI 2) (lv' := [(4, .int (nI 2)), (1, .long (2767120799462479769)), (3, .int (nI 6)), (0, .ref mo)]) hx hb dX5_digest_144 hl (k := 0) rfl (kt_inc 1) (by decide) rfl (fun ls hl => ?_)
                                                                      refine lv_goto (tgt := 113) hx hb dX5_digest_147 (by decide) ?_
                                                                      refine lv_iload hx hb dX5_digest_113 (lv_at hl 0 rfl) ?_
                                                                      refine lv_bipush (v := nI 7) hx hb dX5_digest_115 (by decide) ?_
                                                                      refine lv_icmp_ge (tgt := 150) hx hb dX5_digest_117 (by decide) (fun c80 => ?_) (fun c80 => ?_)
                                                                      · first | exact absurd c80 (by decide) | exact (c80 (by decide)).elim
                                                                      · skip
                                                                        refine lv_aload_n hx hb dX5_digest_120 rfl (lv_at hl 3 rfl) ?_
                                                                        refine lv_iload hx hb dX5_digest_121 (lv_at hl 0 rfl) ?_
                                                                        refine kt_calliM (w' := wR (nI 0) z0 mo eo er gr av ro co kl dd cI cII) (rest := []) (As := [.int (nI 2)]) ⟨hx, hb, hml, hown, hts⟩ (c_X5_isNoNode_y l dC dI cI cII cJ cJJ cZ cO mo eo er gr av ro co kl dd (nI 2) (nI 0) _ (by decide)) (cwV 1 hts gX5_digest_X5_isNoNode rfl rfl rfl (by decide +kernel) ⟨Nat.le_of_ble_eq_true rfl, Nat.le_of_ble_eq_true rfl⟩) hK hP hD hS hA (List.range' 0 14) sw_R0 rfl 0 kX5 rfl rfl rfl rfl rfl hl.1 (Nat.le_of_ble_eq_true rfl) dX5_digest_123 ⟨Nat.le_of_ble_eq_true rfl, Nat.le_of_ble_eq_true rfl⟩ (fun H locs hP hD hS => ?_)
                                                                        have hP : va_P (dC, dI) vwCl (wR (nI 0) z0 mo eo er gr av ro co kl dd cI cII) H := hP
                                                                        have hD : va_D A (wR (nI 0) z0 mo eo er gr av ro co kl dd cI cII) := hD
                                                                        refine lv_if_ne (tgt := 144) hx hb dX5_digest_126 (by decide) (fun c81 => ?_) (fun c81 => ?_)
                                                                        · skip
                                                                          refine lv_iinc (v := nI 3) (lv' := [(4, .int (nI 3)), (1, .long (2767120799462479769)), (3, .int (nI 6)), (0, .ref mo)]) hx hb dX5_digest_144 hl (k := 0) rfl (kt_inc 2) (by decide) rfl (fun ls hl => ?_)
                                                                          refine lv_goto (tgt := 113) hx hb dX5_digest_147 (by decide) ?_
                                                                          refine lv_iload hx hb dX5_digest_113 (lv_at hl 0 rfl) ?_
                                                                          refine lv_bipush (v := nI 7) hx hb dX5_digest_115 (by decide) ?_
                                                                          refine lv_icmp_ge (tgt := 150) hx hb dX5_digest_117 (by decide) (fun c82 => ?_) (fun c82 => ?_)
                                                                          · first | exact absurd c82 (by decide) | exact (c82 (by decide)).elim
                                                                          · skip
                                                                            refine lv_aload_n hx hb dX5_digest_120 rfl (lv_at hl 3 rfl) ?_
                                                                            refine lv_iload hx hb dX5_digest_121 (lv_at hl 0 rfl) ?_
                                                                            refine kt_calliM (w' := wR (nI 0) z0 mo eo er gr av ro co kl dd cI cII) (rest := []) (As := [.int (nI 3)]) ⟨hx, hb, hml, hown, hts⟩ (c_X5_isNoNode_y l dC dI cI cII cJ cJJ cZ cO mo eo er gr av ro co kl dd (nI 3) (nI 0) _ (by decide)) (cwV 1 hts gX5_digest_X5_isNoNode rfl rfl rfl (by decide +kernel) ⟨Nat.le_of_ble_eq_true rfl, Nat.le_of_ble_eq_true rfl⟩) hK hP hD hS hA (List.range' 0 14) sw_R0 rfl 0 kX5 rfl rfl rfl rfl rfl hl.1 (Nat.le_of_ble_eq_true rfl) dX5_digest_123 ⟨Nat.le_of_ble_eq_true rfl, Nat.le_of_ble_eq_true rfl⟩ (fun H locs hP hD hS => ?_)
                                                                            have hP : va_P (dC, dI) vwCl (wR (nI 0) z0 mo eo er gr av ro co kl dd cI cII) H := hP
                                                                            have hD : va_D A (wR (nI 0) z0 mo eo er gr av ro co kl dd cI cII) := hD
                                                                            refine lv_if_ne (tgt := 144) hx hb dX5_digest_126 (by decide) (fun c83 => ?_) (fun c83 => ?_)
                                                                            · skip
                                                                              refine lv_iinc (v := nI 4) (lv' := [(4, .int (nI 4)), (1, .long (2767120799462479769)), (3, .int (nI 6)), (0, .ref mo)]) hx hb dX5_digest_144 hl (k := 0) rfl (kt_inc 3) (by decide) rfl (fun ls hl => ?_)
                                                                              refine lv_goto (tgt := 113) hx hb dX5_digest_147 (by decide) ?_
                                                                              refine lv_iload hx hb dX5_digest_113 (lv_at hl 0 rfl) ?_
                                                                              refine lv_bipush (v := nI 7) hx hb dX5_digest_115 (by decide) ?_
                                                                              refine lv_icmp_ge (tgt := 150) hx hb dX5_digest_117 (by decide) (fun c84 => ?_) (fun c84 => ?_)
                                                                              · first | exact absurd c84 (by decide) | exact (c84 (by decide)).elim
                                                                              · skip
                                                                                refine lv_aload_n hx hb dX5_digest_120 rfl (lv_at hl 3 rfl) ?_
                                                                                refine lv_iload hx hb dX5_digest_121 (lv_at hl 0 rfl) ?_
                                                                                refine kt_calliM (w' := wR (nI 0) z0 mo eo er gr av ro co kl dd cI cII) (rest := []) (As := [.int (nI 4)]) ⟨hx, hb, hml, hown, hts⟩ (c_X5_isNoNode_y l dC dI cI cII cJ cJJ cZ cO mo eo er gr av ro co kl dd (nI 4) (nI 0) _ (by decide)) (cwV 1 hts gX5_digest_X5_isNoNode rfl rfl rfl (by decide +kernel) ⟨Nat.le_of_ble_eq_true rfl, Nat.le_of_ble_eq_true rfl⟩) hK hP hD hS hA (List.range' 0 14) sw_R0 rfl 0 kX5 rfl rfl rfl rfl rfl hl.1 (Nat.le_of_ble_eq_true rfl) dX5_digest_123 ⟨Nat.le_of_ble_eq_true rfl, Nat.le_of_ble_eq_true rfl⟩ (fun H locs hP hD hS => ?_)
                                                                                have hP : va_P (dC, dI) vwCl (wR (nI 0) z0 mo eo er gr av ro co kl dd cI cII) H := hP
                                                                                have hD : va_D A (wR (nI 0) z0 mo eo er gr av ro co kl dd cI cII) := hD
                                                                                refine lv_if_ne (tgt := 144) hx hb dX5_digest_126 (by decide) (fun c85 => ?_) (fun c85 => ?_)
                                                                                · skip
                                                                                  refine lv_iinc (v := nI 5) (lv' := [(4, .int (nI 5)), (1, .long (2767120799462479769)), (3, .int (nI 6)), (0, .ref mo)]) hx hb dX5_digest_144 hl (k := 0) rfl (kt_inc 4) (by decide) rfl (fun ls hl => ?_)
                                                                                  refine lv_goto (tgt := 113) hx hb dX5_digest_147 (by decide) ?_
                                                                                  refine lv_iload hx hb dX5_digest_113 (lv_at hl 0 rfl) ?_
                                                                                  refine lv_bipush (v := nI 7) hx hb dX5_digest_115 (by decide) ?_
                                                                                  refine lv_icmp_ge (tgt := 150) hx hb dX5_digest_117 (by decide) (fun c86 => ?_) (fun c86 => ?_)
                                                                                  · first | exact absurd c86 (by decide) | exact (c86 (by decide)).elim
                                                                                  · skip
                                                                                    refine lv_aload_n hx hb dX5_digest_120 rfl (lv_at hl 3 rfl) ?_
                                                                                    refine lv_iload hx hb dX5_digest_121 (lv_at hl 0 rfl) ?_
                                                                                    refine kt_calliM (w' := wR (nI 0) z0 mo eo er gr av ro co kl dd cI cII) (rest := []) (As := [.int (nI 5)]) ⟨hx, hb, hml, hown, hts⟩ (c_X5_isNoNode_y l dC dI cI cII cJ cJJ cZ cO mo eo er gr av ro co kl dd (nI 5) (nI 0) _ (by decide)) (cwV 1 hts gX5_digest_X5_isNoNode rfl rfl rfl (by decide +kernel) ⟨Nat.le_of_ble_eq_true rfl, Nat.le_of_ble_eq_true rfl⟩) hK hP hD hS hA (List.range' 0 14) sw_R0 rfl 0 kX5 rfl rfl rfl rfl rfl hl.1 (Nat.le_of_ble_eq_true rfl) dX5_digest_123 ⟨Nat.le_of_ble_eq_true rfl, Nat.le_of_ble_eq_true rfl⟩ (fun H locs hP hD hS => ?_)
                                                                                    have hP : va_P (dC, dI) vwCl (wR (nI 0) z0 mo eo er gr av ro co kl dd cI cII) H := hP
                                                                                    have hD : va_D A (wR (nI 0) z0 mo eo er gr av ro co kl dd cI cII) := hD
                                                                                    refine lv_if_ne (tgt := 144) hx hb dX5_digest_126 (by decide) (fun c87 => ?_) (fun c87 => ?_)
                                                                                    · skip
                                                                                      refine lv_iinc (v := nI 6) (lv' := [(4, .int (nI 6)), (1, .long (2767120799462479769)), (3, .int (nI 6)), (0, .ref mo)]) hx hb dX5_digest_144 hl (k := 0) rfl (kt_inc 5) (by decide) rfl (fun ls hl => ?_)
                                                                                      refine lv_goto (tgt := 113) hx hb dX5_digest_147 (by decide) ?_
                                                                                      refine lv_iload hx hb dX5_digest_113 (lv_at hl 0 rfl) ?_
                                                                                      refine lv_bipush (v := nI 7) hx hb dX5_digest_115 (by decide) ?_
                                                                                      refine lv_icmp_ge (tgt := 150) hx hb dX5_digest_117 (by decide) (fun c88 => ?_) (fun c88 => ?_)
                                                                                      · first | exact absurd c88 (by decide) | exact (c88 (by decide)).elim
                                                                                      · skip
                                                                                        refine lv_aload_n hx hb dX5_digest_120 rfl (lv_at hl 3 rfl) ?_
                                                                                        refine lv_iload hx hb dX5_digest_121 (lv_at hl 0 rfl) ?_
                                                                                        refine kt_calliM (w' := wR (nI 0) z0 mo eo er gr av ro co kl dd cI cII) (rest := []) (As := [.int (nI 6)]) ⟨hx, hb, hml, hown, hts⟩ (c_X5_isNoNode_n l dC dI cI cII cJ cJJ cZ cO mo eo er gr av ro co kl dd (nI 0) _ ) (cwV 1 hts gX5_digest_X5_isNoNode rfl rfl rfl (by decide +kernel) ⟨Nat.le_of_ble_eq_true rfl, Nat.le_of_ble_eq_true rfl⟩) hK hP hD hS hA (List.range' 0 14) sw_R0 rfl 0 kX5 rfl rfl rfl rfl rfl hl.1 (Nat.le_of_ble_eq_true rfl) dX5_digest_123 ⟨Nat.le_of_ble_eq_true rfl, Nat.le_of_ble_eq_true rfl⟩ (fun H locs hP hD hS => ?_)
                                                                                        have hP : va_P (dC, dI) vwCl (wR (nI 0) z0 mo eo er gr av ro co kl dd cI cII) H := hP
                                                                                        have hD : va_D A (wR (nI 0) z0 mo eo er gr av ro co kl dd cI cII) := hD
                                                                                        refine lv_if_ne (tgt := 144) hx hb dX5_digest_126 (by decide) (fun c89 => ?_) (fun c89 => ?_)
                                                                                        · first | exact absurd c89 (by decide) | exact (c89 (by decide)).elim
                                                                                        · skip
                                                                                          refine lv_lload_n hx hb dX5_digest_129 rfl (lv_at hl 1 rfl) ?_
                                                                                          refine lv_aload_n hx hb dX5_digest_130 rfl (lv_at hl 3 rfl) ?_
                                                                                          refine va_get (D := (dC, dI)) (ci := kX5) (v := .ref eo) (C := RX5) (T := TX5) (N := 11) hx hb hts hi_X5 hown hK hP 0 rfl rfl 2 (by decide) hf_11 (fun _ h9 => h9) rfl dX5_digest_131 ?_
                                                                                          refine lv_iload_n hx hb dX5_digest_134 rfl (lv_at hl 2 rfl) ?_
                                                                                          refine kt_aald hx hb hK hP 1 1 rfl rfl (by omega) (by decide) dX5_digest_135 ?_
                                                                                          refine lv_iload hx hb dX5_digest_136 (lv_at hl 0 rfl) ?_
                                                                                          refine kt_iald hx hb hK hP 8 0 rfl rfl (by omega) (by decide) dX5_digest_138 ?_
                                                                                          refine lv_topi (fun z90 ez90 => ?_)
                                                                                          have ez90 : z90 = nI 0 := ez90.trans rfl
                                                                                          subst ez90
                                                                                          refine lv_i2l (v := Int32.toInt64 (nI 0)) hx hb dX5_digest_139 rfl ?_
                                                                                          refine lv_topl (fun z91 ez91 => ?_)
                                                                                          have ez91 : z91 = (0) := ez91.trans (by decide)
                                                                                          subst ez91
                                                                                          refine kt_callSlM (w' := wR (nI 0) z0 mo eo er gr av ro co kl dd cI cII) (rest := []) (As := [.long (2767120799462479769), .long (0)]) ⟨hx, hb, hml, hown, hts⟩ (c_X5_add_ l dC dI cI cII cJ cJJ cZ cO (2767120799462479769) (0) _ ) (va_cwS 2 hts gX5_digest_X5_add_ rfl rfl rfl (by decide +kernel) ⟨Nat.le_of_ble_eq_true rfl, Nat.le_of_ble_eq_true rfl⟩) hK hP hD hS hA [] (kt_sw_nil _) rfl rfl rfl hl.1 (Nat.le_of_ble_eq_true rfl) dX5_digest_140 ⟨Nat.le_of_ble_eq_true rfl, Nat.le_of_ble_eq_true rfl⟩ (fun H locs hP hD hS => ?_)
                                                                                          have hP : va_P (dC, dI) vwCl (wR (nI 0) z0 mo eo er gr av ro co kl dd cI cII) H := hP
                                                                                          have hD : va_D A (wR (nI 0) z0 mo eo er gr av ro co kl dd cI cII) := hD
                                                                                          refine lv_topl (fun z92 ez92 => ?_)
                                                                                          have ez92 : z92 = (-6452975585210885241) := ez92.trans (by decide)
                                                                                          subst ez92
                                                                                          refine lv_lstore_n (lv' := [(1, .long (-6452975585210885241)), (4, .int (nI 6)), (3, .int (nI 6)), (0, .ref mo)]) hx hb dX5_digest_143 rfl hl (by decide) rfl (fun ls hl => ?_)
                                                                                          refine lv_iinc (v := nI 7) (lv' := [(4, .int (nI 7)), (1, .long (-6452975585210885241)), (3, .int (nI 6)), (0, .ref mo)]) hx hb dX5_digest_144 hl (k := 1) rfl (kt_inc 6) (by decide) rfl (fun ls hl => ?_)
                                                                                          refine lv_goto (tgt := 113) hx hb dX5_digest_147 (by decide) ?_
                                                                                          refine lv_iload hx hb dX5_digest_113 (lv_at hl 0 rfl) ?_
                                                                                          refine lv_bipush (v := nI 7) hx hb dX5_digest_115 (by decide) ?_
                                                                                          refine lv_icmp_ge (tgt := 150) hx hb dX5_digest_117 (by decide) (fun c93 => ?_) (fun c93 => ?_)
                                                                                          · skip
                                                                                            refine lv_iinc (v := nI 7) (lv' := [(3, .int (nI 7)), (4, .int (nI 7)), (1, .long (-6452975585210885241)), (0, .ref mo)]) hx hb dX5_digest_150 hl (k := 2) rfl (kt_inc 6) (by decide) rfl (fun ls hl => ?_)
                                                                                            refine lv_goto (tgt := 81) hx hb dX5_digest_153 (by decide) ?_
                                                                                            refine lv_iload_n hx hb dX5_digest_81 rfl (lv_at hl 0 rfl) ?_
                                                                                            refine lv_bipush (v := nI 7) hx hb dX5_digest_82 (by decide) ?_
                                                                                            refine lv_icmp_ge (tgt := 156) hx hb dX5_digest_84 (by decide) (fun c94 => ?_) (fun c94 => ?_)
                                                                                            · skip
                                                                                              refine lv_aload_n hx hb dX5_digest_156 rfl (lv_at hl 3 rfl) ?_
                                                                                              refine va_get (D := (dC, dI)) (ci := kX5) (v := .ref kl) (C := RX5) (T := TX5) (N := 11) hx hb hts hi_X5 hown hK hP 0 rfl rfl 7 (by decide) hf_30 (fun _ h9 => h9) rfl dX5_digest_157 ?_
                                                                                              refine kt_newA (wC := [(kl, .inr (kAL, [.int (nI 0), .ref dd, .int (nI 0)]))]) (wR9 := [(mo, .inr (kX5, [.int (nI 0), .int (nI 0), .ref eo, .ref gr, .ref av, .ref ro, .ref co, .ref kl, .int (nI 0), .int (nI 0), .int (nI 0)])), (eo, .inl (cII, 7, .inr (.inr (.inr (.inr (rowF 7 er)))))), (er 0, .inl (cI, 7, .inl z0)), (er 1, .inl (cI, 7, .inl z0)), (er 2, .inl (cI, 7, .inl z0)), (er 3, .inl (cI, 7, .inl z0)), (er 4, .inl (cI, 7, .inl z0)), (er 5, .inl (cI, 7, .inl z0)), (er 6, .inl (cI, 7, .inl z0)), (gr, .inl (cI, 6, .inl z0)), (av, .inl (cI, 6, .inl z0)), (ro, .inl (cI, 6, .inl z0)), (co, .inl (cI, 7, .inl z0))]) (va_runV (As := []) (rest := []) ⟨hx, hb, hml, hown, hts⟩ (c_AL_iterator l dC dI cI cII cJ cJJ cZ cO kl dd _ ) (cwV 0 hts gX5_digest_Jx4a65c_iterator_32c93 rfl rfl rfl (by decide +kernel) ⟨Nat.le_of_ble_eq_true rfl, Nat.le_of_ble_eq_true rfl⟩) (kt_preV (q0 := 13) (ci := kAL) hK hP hD [13] rfl rfl rfl rfl rfl) rfl rfl hl.1 rfl (lv_room (Nat.le_of_ble_eq_true rfl)) dX5_digest_160 ⟨Nat.le_of_ble_eq_true rfl, Nat.le_of_ble_eq_true rfl⟩) hP hD hS hA [13] [0, 1, 2, 3, 4, 5, 6, 7, 8, 9, 10, 11, 12] rfl rfl rfl (by decide) (fun u95 a96 H locs hP hD hS => ?_)
                                                                                              have hP : va_P (dC, dI) vwCl ([(mo, .inr (kX5, [.int (nI 0), .int (nI 0), .ref eo, .ref gr, .ref av, .ref ro, .ref co, .ref kl, .int (nI 0), .int (nI 0), .int (nI 0)])), (eo, .inl (cII, 7, .inr (.inr (.inr (.inr (rowF 7 er)))))), (er 0, .inl (cI, 7, .inl z0)), (er 1, .inl (cI, 7, .inl z0)), (er 2, .inl (cI, 7, .inl z0)), (er 3, .inl (cI, 7, .inl z0)), (er 4, .inl (cI, 7, .inl z0)), (er 5, .inl (cI, 7, .inl z0)), (er 6, .inl (cI, 7, .inl z0)), (gr, .inl (cI, 6, .inl z0)), (av, .inl (cI, 6, .inl z0)), (ro, .inl (cI, 6, .inl z0)), (co, .inl (cI, 7, .inl z0)), (a96, .inr (kIT, [.int (nI 0), .int (-1), .int (nI 0), .ref kl])), (kl, .inr (kAL, [.int (nI 0), .ref dd, .int (nI 0)]))]) H := hP
                                                                                              have hD : va_D A ([(mo, .inr (kX5, [.int (nI 0), .int (nI 0), .ref eo, .ref gr, .ref av, .ref ro, .ref co, .ref kl, .int (nI 0), .int (nI 0), .int (nI 0)])), (eo, .inl (cII, 7, .inr (.inr (.inr (.inr (rowF 7 er)))))), (er 0, .inl (cI, 7, .inl z0)), (er 1, .inl (cI, 7, .inl z0)), (er 2, .inl (cI, 7, .inl z0)), (er 3, .inl (cI, 7, .inl z0)), (er 4, .inl (cI, 7, .inl z0)), (er 5, .inl (cI, 7, .inl z0)), (er 6, .inl (cI, 7, .inl z0)), (gr, .inl (cI, 6, .inl z0)), (av, .inl (cI, 6, .inl z0)), (ro, .inl (cI, 6, .inl z0)), (co, .inl (cI, 7, .inl z0)), (a96, .inr (kIT, [.int (nI 0), .int (-1), .int (nI 0), .ref kl])), (kl, .inr (kAL, [.int (nI 0), .ref dd, .int (nI 0)]))]) := hD
                                                                                              refine W.widen (k := 29) (n := 298) (by omega) (by omega) ?_
                                                                                              have hP := kt_sub (wC := wR (nI 0) z0 mo eo er gr av ro co kl dd cI cII ++ [(a96, .inr (kIT, [.int (nI 0), .int (-1), .int (nI 0), .ref kl]))]) hP [0, 1, 2, 3, 4, 5, 6, 7, 8, 9, 10, 11, 12, 14, 13] rfl
                                                                                              have hD := hD.sub (ws' := wR (nI 0) z0 mo eo er gr av ro co kl dd cI cII ++ [(a96, .inr (kIT, [.int (nI 0), .int (-1), .int (nI 0), .ref kl]))]) [0, 1, 2, 3, 4, 5, 6, 7, 8, 9, 10, 11, 12, 14, 13] rfl rfl
                                                                                              refine lv_astore_n (lv' := [(3, .ref a96), (4, .int (nI 7)), (1, .long (-6452975585210885241)), (0, .ref mo)]) hx hb dX5_digest_163 rfl hl (by decide) rfl (fun ls hl => ?_)
                                                                                              refine lv_aload_n hx hb dX5_digest_164 rfl (lv_at hl 0 rfl) ?_
                                                                                              refine kt_callFiP (wC := [(a96, .inr (kIT, [.int (nI 0), .int (-1), .int (nI 0), .ref kl])), (kl, .inr (kAL, [.int (nI 0), .ref dd, .int (nI 0)]))]) (va_runF (As := []) (rest := []) (hK.1 kIT _ rfl).2 ⟨hx, hb, hml, hown, hts⟩ (c_IT_hasNext l dC dI cI cII cJ cJJ cZ cO a96 kl dd _) (va_cwF 0 hts gX5_digest_Jx35411_hasNext_aae02_f200Jx35411 rfl rfl rfl hE.2.2.2.2.2.2 (by decide +kernel) ⟨Nat.le_of_ble_eq_true rfl, Nat.le_of_ble_eq_true rfl⟩) (kt_preVR (q0 := 14) (ci := kIT) hK hP hD hS hE hA [14, 13] rfl rfl rfl rfl rfl) rfl rfl hl.1 rfl (lv_room (Nat.le_of_ble_eq_true rfl)) dX5_digest_165 ⟨Nat.le_of_ble_eq_true rfl, Nat.le_of_ble_eq_true rfl⟩) hP hD hS hA [14, 13] ⟨rfl, ⟨[none, none, none, none, none, none, none, none, none, none, none, none, none, some 1, some 0], rfl, by decide +kernel⟩, rfl⟩ rfl (fun H locs hP hD hS => ?_)
                                                                                              have hP : va_P (dC, dI) vwCl (wR (nI 0) z0 mo eo er gr av ro co kl dd cI cII ++ [(a96, .inr (kIT, [.int (nI 0), .int (-1), .int (nI 0), .ref kl]))]) H := hP
                                                                                              have hD : va_D A (wR (nI 0) z0 mo eo er gr av ro co kl dd cI cII ++ [(a96, .inr (kIT, [.int (nI 0), .int (-1), .int (nI 0), .ref kl]))]) := hD
                                                                                              refine W.widen (k := 29) (n := 298) (by omega) (by omega) ?_
                                                                                              refine lv_if_eq (tgt := 216) hx hb dX5_digest_170 (by decide) (fun c97 => ?_) (fun c97 => ?_)
                                                                                              · skip
                                                                                                refine lv_lload_n hx hb dX5_digest_216 rfl (lv_at hl 2 rfl) ?_
                                                                                                refine lv_aload_n hx hb dX5_digest_217 rfl (lv_at hl 3 rfl) ?_
                                                                                                refine kt_calllP (w' := wR (nI 0) z0 mo eo er gr av ro co kl dd cI cII ++ [(a96, .inr (kIT, [.int (nI 0), .int (-1), .int (nI 0), .ref kl]))]) (rest := [.long (-6452975585210885241)]) (As := []) ⟨hx, hb, hml, hown, hts⟩ (c_X5_counted l dC dI cI cII cJ cJJ cZ cO mo eo er gr av ro co kl dd (nI 0) _ ) (cwV 0 hts gX5_digest_X5_counted rfl rfl rfl (by decide +kernel) ⟨Nat.le_of_ble_eq_true rfl, Nat.le_of_ble_eq_true rfl⟩) hK hP hD hS hA (List.range' 0 14) sw_R1 rfl (kt_preVR (q0 := 0) (ci := kX5) hK hP hD hS hE hA (List.range' 0 14) rfl rfl rfl rfl rfl) rfl rfl hl.1 (Nat.le_of_ble_eq_true rfl) dX5_digest_218 ⟨Nat.le_of_ble_eq_true rfl, Nat.le_of_ble_eq_true rfl⟩ (fun H locs hP hD hS => ?_)
                                                                                                have hP : va_P (dC, dI) vwCl (wR (nI 0) z0 mo eo er gr av ro co kl dd cI cII ++ [(a96, .inr (kIT, [.int (nI 0), .int (-1), .int (nI 0), .ref kl]))]) H := hP
                                                                                                have hD : va_D A (wR (nI 0) z0 mo eo er gr av ro co kl dd cI cII ++ [(a96, .inr (kIT, [.int (nI 0), .int (-1), .int (nI 0), .ref kl]))]) := hD
                                                                                                refine W.widen (k := 30) (n := 298) (by omega) (by omega) ?_
                                                                                                refine kt_callSlM (w' := wR (nI 0) z0 mo eo er gr av ro co kl dd cI cII ++ [(a96, .inr (kIT, [.int (nI 0), .int (-1), .int (nI 0), .ref kl]))]) (rest := []) (As := [.long (-6452975585210885241), .long (1)]) ⟨hx, hb, hml, hown, hts⟩ (c_X5_add_ l dC dI cI cII cJ cJJ cZ cO (-6452975585210885241) (1) _ ) (va_cwS 2 hts gX5_digest_X5_add_ rfl rfl rfl (by decide +kernel) ⟨Nat.le_of_ble_eq_true rfl, Nat.le_of_ble_eq_true rfl⟩) hK hP hD hS hA [] (kt_sw_nil _) rfl rfl rfl hl.1 (Nat.le_of_ble_eq_true rfl) dX5_digest_221 ⟨Nat.le_of_ble_eq_true rfl, Nat.le_of_ble_eq_true rfl⟩ (fun H locs hP hD hS => ?_)
                                                                                                have hP : va_P (dC, dI) vwCl (wR (nI 0) z0 mo eo er gr av ro co kl dd cI cII ++ [(a96, .inr (kIT, [.int (nI 0), .int (-1), .int (nI 0), .ref kl]))]) H := hP
                                                                                                have hD : va_D A (wR (nI 0) z0 mo eo er gr av ro co kl dd cI cII ++ [(a96, .inr (kIT, [.int (nI 0), .int (-1), .int (nI 0), .ref kl]))]) := hD
                                                                                                refine lv_topl (fun z98 ez98 => ?_)
                                                                                                have ez98 : z98 = (2871941669267625306) := ez98.trans (by decide)
                                                                                                subst ez98
                                                                                                refine lv_aload_n hx hb dX5_digest_224 rfl (lv_at hl 3 rfl) ?_
                                                                                                refine kt_calliM (w' := wR (nI 0) z0 mo eo er gr av ro co kl dd cI cII ++ [(a96, .inr (kIT, [.int (nI 0), .int (-1), .int (nI 0), .ref kl]))]) (rest := [.long (2871941669267625306)]) (As := []) ⟨hx, hb, hml, hown, hts⟩ (c_X5_burnt l dC dI cI cII cJ cJJ cZ cO mo eo er gr av ro co kl dd (nI 0) _ ) (cwV 0 hts gX5_digest_X5_burnt rfl rfl rfl (by decide +kernel) ⟨Nat.le_of_ble_eq_true rfl, Nat.le_of_ble_eq_true rfl⟩) hK hP hD hS hA (List.range' 0 14) sw_R1 rfl 0 kX5 rfl rfl rfl rfl rfl hl.1 (Nat.le_of_ble_eq_true rfl) dX5_digest_225 ⟨Nat.le_of_ble_eq_true rfl, Nat.le_of_ble_eq_true rfl⟩ (fun H locs hP hD hS => ?_)
                                                                                                have hP : va_P (dC, dI) vwCl (wR (nI 0) z0 mo eo er gr av ro co kl dd cI cII ++ [(a96, .inr (kIT, [.int (nI 0), .int (-1), .int (nI 0), .ref kl]))]) H := hP
                                                                                                have hD : va_D A (wR (nI 0) z0 mo eo er gr av ro co kl dd cI cII ++ [(a96, .inr (kIT, [.int (nI 0), .int (-1), .int (nI 0), .ref kl]))]) := hD
                                                                                                refine lv_i2l (v := Int32.toInt64 (nI 0)) hx hb dX5_digest_228 rfl ?_
                                                                                                refine lv_topl (fun z99 ez99 => ?_)
                                                                                                have ez99 : z99 = (0) := ez99.trans (by decide)
                                                                                                subst ez99
                                                                                                refine kt_callSlM (w' := wR (nI 0) z0 mo eo er gr av ro co kl dd cI cII ++ [(a96, .inr (kIT, [.int (nI 0), .int (-1), .int (nI 0), .ref kl]))]) (rest := []) (As := [.long (2871941669267625306), .long (0)]) ⟨hx, hb, hml, hown, hts⟩ (c_X5_add_ l dC dI cI cII cJ cJJ cZ cO (2871941669267625306) (0) _ ) (va_cwS 2 hts gX5_digest_X5_add_ rfl rfl rfl (by decide +kernel) ⟨Nat.le_of_ble_eq_true rfl, Nat.le_of_ble_eq_true rfl⟩) hK hP hD hS hA [] (kt_sw_nil _) rfl rfl rfl hl.1 (Nat.le_of_ble_eq_true rfl) dX5_digest_229 ⟨Nat.le_of_ble_eq_true rfl, Nat.le_of_ble_eq_true rfl⟩ (fun H locs hP hD hS => ?_)
                                                                                                have hP : va_P (dC, dI) vwCl (wR (nI 0) z0 mo eo er gr av ro co kl dd cI cII ++ [(a96, .inr (kIT, [.int (nI 0), .int (-1), .int (nI 0), .ref kl]))]) H := hP
                                                                                                have hD : va_D A (wR (nI 0) z0 mo eo er gr av ro co kl dd cI cII ++ [(a96, .inr (kIT, [.int (nI 0), .int (-1), .int (nI 0), .ref kl]))]) := hD
                                                                                                refine lv_topl (fun z100 ez100 => ?_)
                                                                                                have ez100 : z100 = (-3203528621251373594) := ez100.trans (by decide)
                                                                                                subst ez100
                                                                                                refine lv_lstore_n (lv' := [(1, .long (-3203528621251373594)), (3, .ref a96), (4, .int (nI 7)), (0, .ref mo)]) hx hb dX5_digest_232 rfl hl (by decide) rfl (fun ls hl => ?_)
                                                                                                refine lv_aload_n hx hb dX5_digest_233 rfl (lv_at hl 3 rfl) ?_
                                                                                                refine kt_calliM (w' := wR (nI 0) z0 mo eo er gr av ro co kl dd cI cII ++ [(a96, .inr (kIT, [.int (nI 0), .int (-1), .int (nI 0), .ref kl]))]) (rest := []) (As := []) ⟨hx, hb, hml, hown, hts⟩ (c_X5_isFast l dC dI cI cII cJ cJJ cZ cO mo eo er gr av ro co kl dd (nI 0) _ ) (cwV 0 hts gX5_digest_X5_isFast rfl rfl rfl (by decide +kernel) ⟨Nat.le_of_ble_eq_true rfl, Nat.le_of_ble_eq_true rfl⟩) hK hP hD hS hA (List.range' 0 14) sw_R1 rfl 0 kX5 rfl rfl rfl rfl rfl hl.1 (Nat.le_of_ble_eq_true rfl) dX5_digest_234 ⟨Nat.le_of_ble_eq_true rfl, Nat.le_of_ble_eq_true rfl⟩ (fun H locs hP hD hS => ?_)
                                                                                                have hP : va_P (dC, dI) vwCl (wR (nI 0) z0 mo eo er gr av ro co kl dd cI cII ++ [(a96, .inr (kIT, [.int (nI 0), .int (-1), .int (nI 0), .ref kl]))]) H := hP
                                                                                                have hD : va_D A (wR (nI 0) z0 mo eo er gr av ro co kl dd cI cII ++ [(a96, .inr (kIT, [.int (nI 0), .int (-1), .int (nI 0), .ref kl]))]) := hD
                                                                                                refine W.widen (k := 31) (n := 305) (by omega) (by omega) ?_
                                                                                                refine lv_if_ne (tgt := 242) hx hb dX5_digest_237 (by decide) (fun c101 => ?_) (fun c101 => ?_)
                                                                                                · first | exact absurd c101 (by decide) | exact (c101 (by decide)).elim
                                                                                                · skip
                                                                                                  refine lv_lload_n hx hb dX5_digest_240 rfl (lv_at hl 0 rfl) ?_
                                                                                                  refine W.widen (k := 31) (n := 305) (by omega) (by omega) ?_
                                                                                                  have hP := kt_sub (wC := [(mo, .inr (kX5, .int (nI 0) :: [.int (nI 0), .ref eo, .ref gr, .ref av, .ref ro, .ref co, .ref kl, .int (nI 0), .int (nI 0), .int (nI 0)]))]) hP [0] rfl
                                                                                                  have hD := hD.sub (ws' := [(mo, .inr (kX5, .int (nI 0) :: [.int (nI 0), .ref eo, .ref gr, .ref av, .ref ro, .ref co, .ref kl, .int (nI 0), .int (nI 0), .int (nI 0)]))]) [0] rfl rfl
                                                                                                  exact kt_lretU (mo := mo) (th := (nI 0)) (vs := [.int (nI 0), .ref eo, .ref gr, .ref av, .ref ro, .ref co, .ref kl, .int (nI 0), .int (nI 0), .int (nI 0)]) hx hb hr hS hP hK hD (rfl) hlocks dX5_digest_241
                                                                                              · first | exact absurd c97 (by decide) | exact (c97 (by decide)).elim
                                                                                            · first | exact absurd c94 (by decide) | exact (c94 (by decide)).elim
                                                                                          · first | exact absurd c93 (by decide) | exact (c93 (by decide)).elim
                                                                                    · first | exact absurd c87 (by decide) | exact (c87 (by decide)).elim
                                                                                · first | exact absurd c85 (by decide) | exact (c85 (by decide)).elim
                                                                            · first | exact absurd c83 (by decide) | exact (c83 (by decide)).elim
                                                                        · first | exact absurd c81 (by decide) | exact (c81 (by decide)).elim
                                                                    · first | exact absurd c79 (by decide) | exact (c79 (by decide)).elim
                                                                · first | exact absurd c77 (by decide) | exact (c77 (by decide)).elim
                                                            · first | exact absurd c72 (by decide) | exact (c72 (by decide)).elim
                                · first | exact absurd c58 (by decide) | exact (c58 (by decide)).elim
                              · first | exact absurd c57 (by decide) | exact (c57 (by decide)).elim
