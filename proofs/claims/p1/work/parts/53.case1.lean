/-! cases of the law (printed by wip/gen/lawcase.py) -/
set_option maxHeartbeats 4000000 in
set_option maxRecDepth 100000 in
/-- case 5 of the law: keep -/
theorem law_keep {p : Program} {l : Launch} {e : Env} {s : State} {m : MethodId} {below : List Frame} {meth : Method} {c : Code} {b : Nat} {xs : Nat → Int32} (hlt : l.stackTraces = false) (C0 : lw_At p s m meth c b 4 xs) {dC : Nat → ClassId} {dI : Nat → Nat → Nat} {cI cII cJ cJJ cZ cO : ClassId} {tp : Nat} {f : Nat → Nat} {er tr kr : Nat → Nat} {mo eo : Nat} {e2 : Nat → Nat} {gr av ro co kl dd out : Nat} (hK : va_K (dC, dI) vwCl (tyR cI cII cJ cJJ cZ cO) s) (hE : EnvX (lwA s) s s.heap) (hER : EnvR dd (lwA s) s s.heap) (hnc : va_Nc exA exI s) {H : Heap} {locs : List Loc} {ls : Array Slot} (hP : va_P (dC, dI) vwCl (wR (nI 0) z0 mo eo e2 gr av ro co kl dd cI cII ++ (wF tp f er tr kr cI cII cJ cJJ ++ wO cJ out oZ)) H) (hD : va_D (lwA s) (wR (nI 0) z0 mo eo e2 gr av ro co kl dd cI cII ++ (wF tp f er tr kr cI cII cJ cJJ ++ wO cJ out oZ))) (hS : va_S (lwA s) s.heap H locs) (hl : lv_has ls 9 [(0, .ref b), (1, .ref tp), (2, .ref mo), (3, .ref out), (4, .int (nI 0))]) : W p l e room_1 s m #[Value.ref b] below meth c H locs 100 1000 (lw_Z below #[Value.ref b] s) (F0 m 448 ls []) := by
  obtain ⟨hx, hb, hr, hml, hown, hts0, hX, hbl, hlocks, hgv⟩ := id C0
  have hA : ∀ q : Nat, s.heap.size ≤ q → (lwA s) q := fun _ h => h
  have hbA : ¬ (lwA s) b := Nat.not_le.mpr hbl
  have hts : ∀ w ∈ wsL_law, w.before #[Value.ref b] s = true := fun w h => hts0 w (wsL_law_in w h)
  have hKc : va_K (dC, dI) vwCl (tyL cI cII cJ cJJ) s := hK.sub [0, 1, 2, 3] rfl
  refine lv_aload_n hx hb dL_law_448 rfl (lv_at hl 1 rfl) ?_
  refine lv_aload_n hx hb dL_law_449 rfl (lv_at hl 3 rfl) ?_
  have hF9 := va_free (wc := wF tp f er tr kr cI cII cJ cJJ ++ wO cJ out oZ) hD hS hA (List.range' 14 46) rfl
  refine kt_newI (wC := wF tp f er tr kr cI cII cJ cJJ ++ wO cJ out oZ) (wR9 := wR (nI 0) z0 mo eo e2 gr av ro co kl dd cI cII) (wN := fun (_ : Unit) => wO cJ out (vp_updL oZ 0 (Int32.toInt64 (nI 0)))) (tys := (tyL cI cII cJ cJJ)) (vx_runSW (As := [.ref tp, .ref out]) (rest := []) ⟨hx, hb, hml, hown, hts⟩ (h_keep l hlt dC dI cI cII cJ cJJ tp f er tr kr out  _ ) (vx_cwSW 2 hts gL_law_L_keep rfl rfl rfl (by decide +kernel) ⟨Nat.le_of_ble_eq_true rfl, Nat.le_of_ble_eq_true rfl⟩) (kt_preSH hKc hP hD hS hE hnc hF9 (List.range' 14 46) rfl rfl) rfl rfl hl.1 rfl (lv_room (Nat.le_of_ble_eq_true rfl)) dL_law_450 ⟨Nat.le_of_ble_eq_true rfl, Nat.le_of_ble_eq_true rfl⟩) hP hD hS hA (List.range' 14 46) (List.range' 0 14) rfl rfl rfl (by decide) (fun u H locs hP hD hS => ?_)
  have hP : va_P (dC, dI) vwCl (wR (nI 0) z0 mo eo e2 gr av ro co kl dd cI cII ++ wO cJ out (vp_updL oZ 0 (Int32.toInt64 (nI 0)))) H := hP
  have hD : va_D (lwA s) (wR (nI 0) z0 mo eo e2 gr av ro co kl dd cI cII ++ wO cJ out (vp_updL oZ 0 (Int32.toInt64 (nI 0)))) := hD
  refine W.widen (k := 100) (n := 1000) (by omega) (by omega) ?_
  refine lv_istore (lv' := [(5, .int (nI 0)), (0, .ref b), (1, .ref tp), (2, .ref mo), (3, .ref out), (4, .int (nI 0))]) hx hb dL_law_453 hl (by decide) rfl (fun ls hl => ?_)
  refine lv_aload_n hx hb dL_law_455 rfl (lv_at hl 3 rfl) ?_
  refine kt_newI (wC := wR (nI 0) z0 mo eo e2 gr av ro co kl dd cI cII) (wR9 := wO cJ out (vp_updL oZ 0 (Int32.toInt64 (nI 0)))) (wN := fun (u : List Value) => wU mo (nI 0) u) (va_runV (As := []) (rest := []) ⟨hx, hb, hml, hown, hts⟩ (t_keep l dC dI cI cII cJ cJJ cZ cO mo eo e2 gr av ro co kl dd _ ) (cwV 0 hts gL_law_X5_keep rfl rfl rfl (by decide +kernel) ⟨Nat.le_of_ble_eq_true rfl, Nat.le_of_ble_eq_true rfl⟩) (kt_preVR (q0 := 0) (ci := kX5) hK hP hD hS hER hA (List.range' 0 14) rfl rfl rfl rfl rfl) rfl rfl hl.1 rfl (lv_room (Nat.le_of_ble_eq_true rfl)) dL_law_456 ⟨Nat.le_of_ble_eq_true rfl, Nat.le_of_ble_eq_true rfl⟩) hP hD hS hA (List.range' 0 14) [14] rfl rfl rfl (by decide) (fun u9 H locs hP hD hS => ?_)
  have hP : va_P (dC, dI) vwCl (wO cJ out (vp_updL oZ 0 (Int32.toInt64 (nI 0))) ++ wU mo (nI 0) u9) H := hP
  have hD : va_D (lwA s) (wO cJ out (vp_updL oZ 0 (Int32.toInt64 (nI 0))) ++ wU mo (nI 0) u9) := hD
  refine W.widen (k := 102) (n := 1016) (by omega) (by omega) ?_
  refine lv_istore (lv' := [(6, .int (nI 0)), (5, .int (nI 0)), (0, .ref b), (1, .ref tp), (2, .ref mo), (3, .ref out), (4, .int (nI 0))]) hx hb dL_law_459 hl (by decide) rfl (fun ls hl => ?_)
  refine lv_aload_n hx hb dL_law_461 rfl (lv_at hl 4 rfl) ?_
  refine kt_calliM (w' := wO cJ out (vp_updL oZ 0 (Int32.toInt64 (nI 0))) ++ wU mo (nI 0) u9) (rest := []) (As := []) ⟨hx, hb, hml, hown, hts⟩ (c_X5_thrown l dC dI cI cII cJ cJJ cZ cO mo (nI 0) u9 _) (cwV 0 hts gL_law_X5_thrown rfl rfl rfl (by decide +kernel) ⟨Nat.le_of_ble_eq_true rfl, Nat.le_of_ble_eq_true rfl⟩) hK hP hD hS hA [1] ⟨rfl, ⟨[none, some 0], rfl, by decide +kernel⟩, rfl⟩ rfl 1 kX5 rfl rfl rfl rfl rfl hl.1 (Nat.le_of_ble_eq_true rfl) dL_law_462 ⟨Nat.le_of_ble_eq_true rfl, Nat.le_of_ble_eq_true rfl⟩ (fun H locs hP hD hS => ?_)
  have hP : va_P (dC, dI) vwCl (wO cJ out (vp_updL oZ 0 (Int32.toInt64 (nI 0))) ++ wU mo (nI 0) u9) H := hP
  have hD : va_D (lwA s) (wO cJ out (vp_updL oZ 0 (Int32.toInt64 (nI 0))) ++ wU mo (nI 0) u9) := hD
  refine W.widen (k := 102) (n := 1016) (by omega) (by omega) ?_
  refine lv_iload hx hb dL_law_465 (lv_at hl 1 rfl) ?_
  refine lv_icmp_eq (tgt := 472) hx hb dL_law_467 (by decide) (fun c1 => ?_) (fun c1 => ?_)
  · skip
    refine lv_iload hx hb dL_law_472 (lv_at hl 1 rfl) ?_
    refine lv_if_ne (tgt := 489) hx hb dL_law_474 (by decide) (fun c2 => ?_) (fun c2 => ?_)
    · first | exact absurd c2 (by decide) | exact (c2 (by decide)).elim
    · skip
      refine lv_aload_n hx hb dL_law_477 rfl (lv_at hl 5 rfl) ?_
      refine lv_iconst (v := nI 0) hx hb dL_law_478 (by decide) ?_
      refine kt_lald hx hb hK hP 0 2 rfl rfl (by omega) (by decide) dL_law_479 ?_
      refine lv_iload hx hb dL_law_480 (lv_at hl 0 rfl) ?_
      refine lv_i2l (v := Int32.toInt64 (nI 0)) hx hb dL_law_482 rfl ?_
      refine W.lcmp hx hb dL_law_483 ?_
      refine lv_if_eq (tgt := 489) hx hb dL_law_484 (by decide) (fun c3 => ?_) (fun c3 => ?_)
      · skip
        refine lv_goto (tgt := 1493) hx hb dL_law_489 (by decide) ?_
        exact law_end C0 hS (lv_sub hl [2, 6] rfl) (by omega) (by omega)
      · exact absurd ((lg_cmp_eq _ _).mpr (by first | (rw [kt_vpL]; done) | (rw [kt_vpL]; rfl))) c3
  · first | exact absurd c1 (by decide) | exact (c1 (by decide)).elim

set_option maxHeartbeats 4000000 in
set_option maxRecDepth 100000 in
/-- case 6 of the law: add -/
theorem law_add {p : Program} {l : Launch} {e : Env} {s : State} {m : MethodId} {below : List Frame} {meth : Method} {c : Code} {b : Nat} {xs : Nat → Int32} (hlt : l.stackTraces = false) (C0 : lw_At p s m meth c b 4 xs) {dC : Nat → ClassId} {dI : Nat → Nat → Nat} {cI cII cJ cJJ cZ cO : ClassId} {tp : Nat} {f : Nat → Nat} {er tr kr : Nat → Nat} {mo eo : Nat} {e2 : Nat → Nat} {gr av ro co kl dd out : Nat} (hK : va_K (dC, dI) vwCl (tyR cI cII cJ cJJ cZ cO) s) (hE : EnvX (lwA s) s s.heap) (hER : EnvR dd (lwA s) s s.heap) (hnc : va_Nc exA exI s) {H : Heap} {locs : List Loc} {ls : Array Slot} (hP : va_P (dC, dI) vwCl (wR (nI 0) z0 mo eo e2 gr av ro co kl dd cI cII ++ (wF tp f er tr kr cI cII cJ cJJ ++ wO cJ out oZ)) H) (hD : va_D (lwA s) (wR (nI 0) z0 mo eo e2 gr av ro co kl dd cI cII ++ (wF tp f er tr kr cI cII cJ cJJ ++ wO cJ out oZ))) (hS : va_S (lwA s) s.heap H locs) (hl : lv_has ls 9 [(0, .ref b), (1, .ref tp), (2, .ref mo), (3, .ref out), (4, .int (nI 0))]) : W p l e room_1 s m #[Value.ref b] below meth c H locs 100 1000 (lw_Z below #[Value.ref b] s) (F0 m 492 ls []) := by
  obtain ⟨hx, hb, hr, hml, hown, hts0, hX, hbl, hlocks, hgv⟩ := id C0
  have hA : ∀ q : Nat, s.heap.size ≤ q → (lwA s) q := fun _ h => h
  have hbA : ¬ (lwA s) b := Nat.not_le.mpr hbl
  have hts : ∀ w ∈ wsL_law, w.before #[Value.ref b] s = true := fun w h => hts0 w (wsL_law_in w h)
  have hKc : va_K (dC, dI) vwCl (tyL cI cII cJ cJJ) s := hK.sub [0, 1, 2, 3] rfl
  refine lv_aload_n hx hb dL_law_492 rfl (lv_at hl 1 rfl) ?_
  refine lv_aload_n hx hb dL_law_493 rfl (lv_at hl 0 rfl) ?_
  refine lv_iload hx hb dL_law_494 (lv_at hl 4 rfl) ?_
  refine lv_iconst (v := nI 1) hx hb dL_law_496 (by decide) ?_
  refine kt_iadd hx hb dL_law_497 ?_
  refine va_sld hx hb hX hbl hbA hS (vp_in_nI (by omega) (by decide)) dL_law_498 ?_
  refine lv_topi (fun z1 ez1 => ?_)
  have ez1 : z1 = xs 1 := (ez1.trans (congrArg xs (nI_clamp (by decide)))).trans rfl
  rw [ez1]
  refine lv_aload_n hx hb dL_law_499 rfl (lv_at hl 3 rfl) ?_
  have hF9 := va_free (wc := wF tp f er tr kr cI cII cJ cJJ ++ wO cJ out oZ) hD hS hA (List.range' 14 46) rfl
  refine kt_newI (wC := wF tp f er tr kr cI cII cJ cJJ ++ wO cJ out oZ) (wR9 := wR (nI 0) z0 mo eo e2 gr av ro co kl dd cI cII) (wN := fun (_ : Unit) => ([] : va_W)) (tys := (tyL cI cII cJ cJJ)) (vx_runSW (As := [.ref tp, .int (xs 1), .ref out]) (rest := []) ⟨hx, hb, hml, hown, hts⟩ (h_add l hlt dC dI cI cII cJ cJJ tp f er tr kr out (xs 1) _ ) (vx_cwSW 3 hts gL_law_L_add rfl rfl rfl (by decide +kernel) ⟨Nat.le_of_ble_eq_true rfl, Nat.le_of_ble_eq_true rfl⟩) (kt_preSH hKc hP hD hS hE hnc hF9 (List.range' 14 46) rfl rfl) rfl rfl hl.1 rfl (lv_room (Nat.le_of_ble_eq_true rfl)) dL_law_500 ⟨Nat.le_of_ble_eq_true rfl, Nat.le_of_ble_eq_true rfl⟩) hP hD hS hA (List.range' 14 46) (List.range' 0 14) rfl rfl rfl (by decide) (fun u H locs hP hD hS => ?_)
  have hP := kt_sub (wC := wR (nI 0) z0 mo eo e2 gr av ro co kl dd cI cII) hP (List.range' 0 14) rfl
  have hD := hD.sub (ws' := wR (nI 0) z0 mo eo e2 gr av ro co kl dd cI cII) (List.range' 0 14) rfl rfl
  refine W.widen (k := 101) (n := 1006) (by omega) (by omega) ?_
  refine lv_istore (lv' := [(5, .int (nI 1)), (0, .ref b), (1, .ref tp), (2, .ref mo), (3, .ref out), (4, .int (nI 0))]) hx hb dL_law_503 hl (by decide) rfl (fun ls hl => ?_)
  refine lv_aload_n hx hb dL_law_505 rfl (lv_at hl 3 rfl) ?_
  refine lv_aload_n hx hb dL_law_506 rfl (lv_at hl 1 rfl) ?_
  refine lv_iload hx hb dL_law_507 (lv_at hl 5 rfl) ?_
  refine lv_iconst (v := nI 1) hx hb dL_law_509 (by decide) ?_
  refine kt_iadd hx hb dL_law_510 ?_
  refine va_sld hx hb hX hbl hbA hS (vp_in_nI (by omega) (by decide)) dL_law_511 ?_
  refine lv_topi (fun z2 ez2 => ?_)
  have ez2 : z2 = xs 1 := (ez2.trans (congrArg xs (nI_clamp (by decide)))).trans rfl
  rw [ez2]
  refine kt_newI (wC := wR (nI 0) z0 mo eo e2 gr av ro co kl dd cI cII) (wR9 := ([] : va_W)) (wN := fun (u : List Value) => wU mo (nI 1) u) (va_runV (As := [.int (xs 1)]) (rest := []) ⟨hx, hb, hml, hown, hts⟩ (t_add l dC dI cI cII cJ cJJ cZ cO mo eo e2 gr av ro co kl dd (xs 1) _ ) (cwV 1 hts gL_law_X5_add rfl rfl rfl (by decide +kernel) ⟨Nat.le_of_ble_eq_true rfl, Nat.le_of_ble_eq_true rfl⟩) (kt_preV (q0 := 0) (ci := kX5) hK hP hD (List.range' 0 14) rfl rfl rfl rfl rfl) rfl rfl hl.1 rfl (lv_room (Nat.le_of_ble_eq_true rfl)) dL_law_512 ⟨Nat.le_of_ble_eq_true rfl, Nat.le_of_ble_eq_true rfl⟩) hP hD hS hA (List.range' 0 14) [] rfl rfl rfl (by decide) (fun u9 H locs hP hD hS => ?_)
  have hP : va_P (dC, dI) vwCl (wU mo (nI 1) u9) H := hP
  have hD : va_D (lwA s) (wU mo (nI 1) u9) := hD
  refine W.widen (k := 101) (n := 1006) (by omega) (by omega) ?_
  refine lv_istore (lv' := [(6, .int (nI 0)), (5, .int (nI 1)), (0, .ref b), (1, .ref tp), (2, .ref mo), (3, .ref out), (4, .int (nI 0))]) hx hb dL_law_515 hl (by decide) rfl (fun ls hl => ?_)
  refine lv_aload_n hx hb dL_law_517 rfl (lv_at hl 4 rfl) ?_
  refine kt_calliM (w' := wU mo (nI 1) u9) (rest := []) (As := []) ⟨hx, hb, hml, hown, hts⟩ (c_X5_thrown l dC dI cI cII cJ cJJ cZ cO mo (nI 1) u9 _) (cwV 0 hts gL_law_X5_thrown rfl rfl rfl (by decide +kernel) ⟨Nat.le_of_ble_eq_true rfl, Nat.le_of_ble_eq_true rfl⟩) hK hP hD hS hA [0] ⟨rfl, ⟨[some 0], rfl, by decide +kernel⟩, rfl⟩ rfl 0 kX5 rfl rfl rfl rfl rfl hl.1 (Nat.le_of_ble_eq_true rfl) dL_law_518 ⟨Nat.le_of_ble_eq_true rfl, Nat.le_of_ble_eq_true rfl⟩ (fun H locs hP hD hS => ?_)
  have hP : va_P (dC, dI) vwCl (wU mo (nI 1) u9) H := hP
  have hD : va_D (lwA s) (wU mo (nI 1) u9) := hD
  refine W.widen (k := 101) (n := 1006) (by omega) (by omega) ?_
  refine lv_iload hx hb dL_law_521 (lv_at hl 1 rfl) ?_
  refine lv_icmp_eq (tgt := 528) hx hb dL_law_523 (by decide) (fun c3 => ?_) (fun c3 => ?_)
  · skip
    refine lv_iload hx hb dL_law_528 (lv_at hl 1 rfl) ?_
    refine lv_if_ne (tgt := 545) hx hb dL_law_530 (by decide) (fun c4 => ?_) (fun c4 => ?_)
    · skip
      refine lv_goto (tgt := 1493) hx hb dL_law_545 (by decide) ?_
      exact law_end C0 hS (lv_sub hl [2, 6] rfl) (by omega) (by omega)
    · first | exact absurd c4 (by decide) | exact (c4 (by decide)).elim
  · first | exact absurd c3 (by decide) | exact (c3 (by decide)).elim

set_option maxHeartbeats 4000000 in
set_option maxRecDepth 100000 in
/-- case 7 of the law: sweep -/
theorem law_sweep {p : Program} {l : Launch} {e : Env} {s : State} {m : MethodId} {below : List Frame} {meth : Method} {c : Code} {b : Nat} {xs : Nat → Int32} (hlt : l.stackTraces = false) (C0 : lw_At p s m meth c b 4 xs) {dC : Nat → ClassId} {dI : Nat → Nat → Nat} {cI cII cJ cJJ cZ cO : ClassId} {tp : Nat} {f : Nat → Nat} {er tr kr : Nat → Nat} {mo eo : Nat} {e2 : Nat → Nat} {gr av ro co kl dd out : Nat} (hK : va_K (dC, dI) vwCl (tyR cI cII cJ cJJ cZ cO) s) (hE : EnvX (lwA s) s s.heap) (hER : EnvR dd (lwA s) s s.heap) (hnc : va_Nc exA exI s) {H : Heap} {locs : List Loc} {ls : Array Slot} (hP : va_P (dC, dI) vwCl (wR (nI 0) z0 mo eo e2 gr av ro co kl dd cI cII ++ (wF tp f er tr kr cI cII cJ cJJ ++ wO cJ out oZ)) H) (hD : va_D (lwA s) (wR (nI 0) z0 mo eo e2 gr av ro co kl dd cI cII ++ (wF tp f er tr kr cI cII cJ cJJ ++ wO cJ out oZ))) (hS : va_S (lwA s) s.heap H locs) (hl : lv_has ls 9 [(0, .ref b), (1, .ref tp), (2, .ref mo), (3, .ref out), (4, .int (nI 0))]) : W p l e room_1 s m #[Value.ref b] below meth c H locs 100 1000 (lw_Z below #[Value.ref b] s) (F0 m 548 ls []) := by
  obtain ⟨hx, hb, hr, hml, hown, hts0, hX, hbl, hlocks, hgv⟩ := id C0
  have hA : ∀ q : Nat, s.heap.size ≤ q → (lwA s) q := fun _ h => h
  have hbA : ¬ (lwA s) b := Nat.not_le.mpr hbl
  have hts : ∀ w ∈ wsL_law, w.before #[Value.ref b] s = true := fun w h => hts0 w (wsL_law_in w h)
  have hKc : va_K (dC, dI) vwCl (tyL cI cII cJ cJJ) s := hK.sub [0, 1, 2, 3] rfl
  refine lv_aload_n hx hb dL_law_548 rfl (lv_at hl 1 rfl) ?_
  refine kt_newI (wC := wF tp f er tr kr cI cII cJ cJJ) (wR9 := wR (nI 0) z0 mo eo e2 gr av ro co kl dd cI cII) (wN := fun (_ : Unit) => wTop tp (f 0) (f 1) (f 2) (fun _ => 0) (fun _ => 0) (f 3) (f 4) (f 5) (fun _ => 0) (fun _ => 0) (f 6) (f 7) (f 8) (fun _ => 0) (fun _ => 0) (f 9) (f 10) (f 11) (fun _ => 0) (fun _ => 0) (f 12) kr (fun _ _ => 0) 0 0 0 (f 13) (f 14) (fun _ => 0) 0 (f 15) (f 16) (fun _ => 0) (f 17) (f 18) (f 19) (fun _ => 0) (fun _ => 0) (f 20) (f 21) (f 22) (fun _ => 0) (fun _ => 0) cJ cJJ cI cII (f 23) (f 24) (f 25) (f 26) er 0 (fun _ _ => 0) (fun _ => 0) tr (fun _ _ => 0)) (tys := (tyL cI cII cJ cJJ)) (va_runV (As := []) (rest := []) ⟨hx, hb, hml, hown, hts⟩ (c_X4_sweep l dC dI cI cII cJ cJJ tp (f 0) (f 1) (f 2) (fun _ => 0) (fun _ => 0) (f 3) (f 4) (f 5) (fun _ => 0) (fun _ => 0) (f 6) (f 7) (f 8) (fun _ => 0) (fun _ => 0) (f 9) (f 10) (f 11) (fun _ => 0) (fun _ => 0) (f 12) kr (fun _ _ => 0) 0 0 0 (f 13) (f 14) (fun _ => 0) 0 (f 15) (f 16) (fun _ => 0) (f 17) (f 18) (f 19) (fun _ => 0) (fun _ => 0) (f 20) (f 21) (f 22) (fun _ => 0) (fun _ => 0) (f 23) (f 24) (f 25) (f 26) er 0 (fun _ _ => 0) (fun _ => 0) tr (fun _ _ => 0) _ (by omega)) (cwV 0 hts gL_law_X4_sweep rfl rfl rfl (by decide +kernel) ⟨Nat.le_of_ble_eq_true rfl, Nat.le_of_ble_eq_true rfl⟩) (kt_preV (q0 := 14) (ci := kX4) hKc hP hD (List.range' 14 45) rfl rfl rfl rfl rfl) rfl rfl hl.1 rfl (lv_room (Nat.le_of_ble_eq_true rfl)) dL_law_549 ⟨Nat.le_of_ble_eq_true rfl, Nat.le_of_ble_eq_true rfl⟩) hP hD hS hA (List.range' 14 45) (List.range' 0 14) rfl rfl rfl (by decide) (fun u H locs hP hD hS => ?_)
  have hP := kt_sub (wC := wR (nI 0) z0 mo eo e2 gr av ro co kl dd cI cII) hP (List.range' 0 14) rfl
  have hD := hD.sub (ws' := wR (nI 0) z0 mo eo e2 gr av ro co kl dd cI cII) (List.range' 0 14) rfl rfl
  refine W.widen (k := 100) (n := 1000) (by omega) (by omega) ?_
  refine lv_aload_n hx hb dL_law_552 rfl (lv_at hl 2 rfl) ?_
  refine kt_newI (wC := wR (nI 0) z0 mo eo e2 gr av ro co kl dd cI cII) (wR9 := ([] : va_W)) (wN := fun (u : List Value) => wU mo (nI 0) u) (va_runV (As := []) (rest := [.int (sumN (fun _ => 0) 0)]) ⟨hx, hb, hml, hown, hts⟩ (t_sweep l dC dI cI cII cJ cJJ cZ cO mo eo e2 gr av ro co kl dd _ ) (cwV 0 hts gL_law_X5_sweep rfl rfl rfl (by decide +kernel) ⟨Nat.le_of_ble_eq_true rfl, Nat.le_of_ble_eq_true rfl⟩) (kt_preV (q0 := 0) (ci := kX5) hK hP hD (List.range' 0 14) rfl rfl rfl rfl rfl) rfl rfl hl.1 rfl (lv_room (Nat.le_of_ble_eq_true rfl)) dL_law_553 ⟨Nat.le_of_ble_eq_true rfl, Nat.le_of_ble_eq_true rfl⟩) hP hD hS hA (List.range' 0 14) [] rfl rfl rfl (by decide) (fun u9 H locs hP hD hS => ?_)
  have hP : va_P (dC, dI) vwCl (wU mo (nI 0) u9) H := hP
  have hD : va_D (lwA s) (wU mo (nI 0) u9) := hD
  refine W.widen (k := 101) (n := 1006) (by omega) (by omega) ?_
  refine lv_icmp_eq (tgt := 1493) hx hb dL_law_556 (by decide) (fun c1 => ?_) (fun c1 => ?_)
  · skip
    exact law_end C0 hS (lv_sub hl [0, 4] rfl) (by omega) (by omega)
  · exact absurd (by decide +kernel) c1

set_option maxHeartbeats 4000000 in
set_option maxRecDepth 100000 in
/-- case 8 of the law: walk -/
theorem law_walk {p : Program} {l : Launch} {e : Env} {s : State} {m : MethodId} {below : List Frame} {meth : Method} {c : Code} {b : Nat} {xs : Nat → Int32} (hlt : l.stackTraces = false) (C0 : lw_At p s m meth c b 4 xs) {dC : Nat → ClassId} {dI : Nat → Nat → Nat} {cI cII cJ cJJ cZ cO : ClassId} {tp : Nat} {f : Nat → Nat} {er tr kr : Nat → Nat} {mo eo : Nat} {e2 : Nat → Nat} {gr av ro co kl dd out : Nat} (hK : va_K (dC, dI) vwCl (tyR cI cII cJ cJJ cZ cO) s) (hE : EnvX (lwA s) s s.heap) (hER : EnvR dd (lwA s) s s.heap) (hnc : va_Nc exA exI s) {H : Heap} {locs : List Loc} {ls : Array Slot} (hP : va_P (dC, dI) vwCl (wR (nI 0) z0 mo eo e2 gr av ro co kl dd cI cII ++ (wF tp f er tr kr cI cII cJ cJJ ++ wO cJ out oZ)) H) (hD : va_D (lwA s) (wR (nI 0) z0 mo eo e2 gr av ro co kl dd cI cII ++ (wF tp f er tr kr cI cII cJ cJJ ++ wO cJ out oZ))) (hS : va_S (lwA s) s.heap H locs) (hl : lv_has ls 9 [(0, .ref b), (1, .ref tp), (2, .ref mo), (3, .ref out), (4, .int (nI 0))]) : W p l e room_1 s m #[Value.ref b] below meth c H locs 100 1000 (lw_Z below #[Value.ref b] s) (F0 m 561 ls []) := by
  obtain ⟨hx, hb, hr, hml, hown, hts0, hX, hbl, hlocks, hgv⟩ := id C0
  have hA : ∀ q : Nat, s.heap.size ≤ q → (lwA s) q := fun _ h => h
  have hbA : ¬ (lwA s) b := Nat.not_le.mpr hbl
  have hts : ∀ w ∈ wsL_law, w.before #[Value.ref b] s = true := fun w h => hts0 w (wsL_law_in w h)
  have hKc : va_K (dC, dI) vwCl (tyL cI cII cJ cJJ) s := hK.sub [0, 1, 2, 3] rfl
  refine lv_aload_n hx hb dL_law_561 rfl (lv_at hl 1 rfl) ?_
  refine lv_aload_n hx hb dL_law_562 rfl (lv_at hl 0 rfl) ?_
  refine lv_iload hx hb dL_law_563 (lv_at hl 4 rfl) ?_
  refine lv_iconst (v := nI 1) hx hb dL_law_565 (by decide) ?_
  refine kt_iadd hx hb dL_law_566 ?_
  refine va_sld hx hb hX hbl hbA hS (vp_in_nI (by omega) (by decide)) dL_law_567 ?_
  refine lv_topi (fun z1 ez1 => ?_)
  have ez1 : z1 = xs 1 := (ez1.trans (congrArg xs (nI_clamp (by decide)))).trans rfl
  rw [ez1]
  refine lv_aload_n hx hb dL_law_568 rfl (lv_at hl 3 rfl) ?_
  have hF9 := va_free (wc := wF tp f er tr kr cI cII cJ cJJ ++ wO cJ out oZ) hD hS hA (List.range' 14 46) rfl
  refine kt_newI (wC := wF tp f er tr kr cI cII cJ cJJ ++ wO cJ out oZ) (wR9 := wR (nI 0) z0 mo eo e2 gr av ro co kl dd cI cII) (wN := fun (_ : Unit) => ([] : va_W)) (tys := (tyL cI cII cJ cJJ)) (vx_runSW (As := [.ref tp, .int (xs 1), .ref out]) (rest := []) ⟨hx, hb, hml, hown, hts⟩ (h_walk l hlt dC dI cI cII cJ cJJ tp f er tr kr out (xs 1) _ ) (vx_cwSW 3 hts gL_law_L_walk rfl rfl rfl (by decide +kernel) ⟨Nat.le_of_ble_eq_true rfl, Nat.le_of_ble_eq_true rfl⟩) (kt_preSH hKc hP hD hS hE hnc hF9 (List.range' 14 46) rfl rfl) rfl rfl hl.1 rfl (lv_room (Nat.le_of_ble_eq_true rfl)) dL_law_569 ⟨Nat.le_of_ble_eq_true rfl, Nat.le_of_ble_eq_true rfl⟩) hP hD hS hA (List.range' 14 46) (List.range' 0 14) rfl rfl rfl (by decide) (fun u H locs hP hD hS => ?_)
  have hP := kt_sub (wC := wR (nI 0) z0 mo eo e2 gr av ro co kl dd cI cII) hP (List.range' 0 14) rfl
  have hD := hD.sub (ws' := wR (nI 0) z0 mo eo e2 gr av ro co kl dd cI cII) (List.range' 0 14) rfl rfl
  refine W.widen (k := 101) (n := 1006) (by omega) (by omega) ?_
  refine lv_istore (lv' := [(5, .int (nI 1)), (0, .ref b), (1, .ref tp), (2, .ref mo), (3, .ref out), (4, .int (nI 0))]) hx hb dL_law_572 hl (by decide) rfl (fun ls hl => ?_)
  refine lv_aload_n hx hb dL_law_574 rfl (lv_at hl 3 rfl) ?_
  refine lv_aload_n hx hb dL_law_575 rfl (lv_at hl 1 rfl) ?_
  refine lv_iload hx hb dL_law_576 (lv_at hl 5 rfl) ?_
  refine lv_iconst (v := nI 1) hx hb dL_law_578 (by decide) ?_
  refine kt_iadd hx hb dL_law_579 ?_
  refine va_sld hx hb hX hbl hbA hS (vp_in_nI (by omega) (by decide)) dL_law_580 ?_
  refine lv_topi (fun z2 ez2 => ?_)
  have ez2 : z2 = xs 1 := (ez2.trans (congrArg xs (nI_clamp (by decide)))).trans rfl
  rw [ez2]
  refine kt_newI (wC := wR (nI 0) z0 mo eo e2 gr av ro co kl dd cI cII) (wR9 := ([] : va_W)) (wN := fun (u : List Value) => wU mo (nI 1) u) (va_runV (As := [.int (xs 1)]) (rest := []) ⟨hx, hb, hml, hown, hts⟩ (t_walk l dC dI cI cII cJ cJJ cZ cO mo eo e2 gr av ro co kl dd (xs 1) _ ) (cwV 1 hts gL_law_X5_walk rfl rfl rfl (by decide +kernel) ⟨Nat.le_of_ble_eq_true rfl, Nat.le_of_ble_eq_true rfl⟩) (kt_preV (q0 := 0) (ci := kX5) hK hP hD (List.range' 0 14) rfl rfl rfl rfl rfl) rfl rfl hl.1 rfl (lv_room (Nat.le_of_ble_eq_true rfl)) dL_law_581 ⟨Nat.le_of_ble_eq_true rfl, Nat.le_of_ble_eq_true rfl⟩) hP hD hS hA (List.range' 0 14) [] rfl rfl rfl (by decide) (fun u9 H locs hP hD hS => ?_)
  have hP : va_P (dC, dI) vwCl (wU mo (nI 1) u9) H := hP
  have hD : va_D (lwA s) (wU mo (nI 1) u9) := hD
  refine W.widen (k := 101) (n := 1006) (by omega) (by omega) ?_
  refine lv_istore (lv' := [(6, .int (nI 0)), (5, .int (nI 1)), (0, .ref b), (1, .ref tp), (2, .ref mo), (3, .ref out), (4, .int (nI 0))]) hx hb dL_law_584 hl (by decide) rfl (fun ls hl => ?_)
  refine lv_aload_n hx hb dL_law_586 rfl (lv_at hl 4 rfl) ?_
  refine kt_calliM (w' := wU mo (nI 1) u9) (rest := []) (As := []) ⟨hx, hb, hml, hown, hts⟩ (c_X5_thrown l dC dI cI cII cJ cJJ cZ cO mo (nI 1) u9 _) (cwV 0 hts gL_law_X5_thrown rfl rfl rfl (by decide +kernel) ⟨Nat.le_of_ble_eq_true rfl, Nat.le_of_ble_eq_true rfl⟩) hK hP hD hS hA [0] ⟨rfl, ⟨[some 0], rfl, by decide +kernel⟩, rfl⟩ rfl 0 kX5 rfl rfl rfl rfl rfl hl.1 (Nat.le_of_ble_eq_true rfl) dL_law_587 ⟨Nat.le_of_ble_eq_true rfl, Nat.le_of_ble_eq_true rfl⟩ (fun H locs hP hD hS => ?_)
  have hP : va_P (dC, dI) vwCl (wU mo (nI 1) u9) H := hP
  have hD : va_D (lwA s) (wU mo (nI 1) u9) := hD
  refine W.widen (k := 101) (n := 1006) (by omega) (by omega) ?_
  refine lv_iload hx hb dL_law_590 (lv_at hl 1 rfl) ?_
  refine lv_icmp_eq (tgt := 597) hx hb dL_law_592 (by decide) (fun c3 => ?_) (fun c3 => ?_)
  · skip
    refine lv_iload hx hb dL_law_597 (lv_at hl 1 rfl) ?_
    refine lv_if_ne (tgt := 614) hx hb dL_law_599 (by decide) (fun c4 => ?_) (fun c4 => ?_)
    · skip
      refine lv_goto (tgt := 1493) hx hb dL_law_614 (by decide) ?_
      exact law_end C0 hS (lv_sub hl [2, 6] rfl) (by omega) (by omega)
    · first | exact absurd c4 (by decide) | exact (c4 (by decide)).elim
  · first | exact absurd c3 (by decide) | exact (c3 (by decide)).elim

set_option maxHeartbeats 4000000 in
set_option maxRecDepth 100000 in
/-- case 9 of the law: pay -/
theorem law_pay {p : Program} {l : Launch} {e : Env} {s : State} {m : MethodId} {below : List Frame} {meth : Method} {c : Code} {b : Nat} {xs : Nat → Int32} (hlt : l.stackTraces = false) (C0 : lw_At p s m meth c b 4 xs) {dC : Nat → ClassId} {dI : Nat → Nat → Nat} {cI cII cJ cJJ cZ cO : ClassId} {tp : Nat} {f : Nat → Nat} {er tr kr : Nat → Nat} {mo eo : Nat} {e2 : Nat → Nat} {gr av ro co kl dd out : Nat} (hK : va_K (dC, dI) vwCl (tyR cI cII cJ cJJ cZ cO) s) (hE : EnvX (lwA s) s s.heap) (hER : EnvR dd (lwA s) s s.heap) (hnc : va_Nc exA exI s) {H : Heap} {locs : List Loc} {ls : Array Slot} (hP : va_P (dC, dI) vwCl (wR (nI 0) z0 mo eo e2 gr av ro co kl dd cI cII ++ (wF tp f er tr kr cI cII cJ cJJ ++ wO cJ out oZ)) H) (hD : va_D (lwA s) (wR (nI 0) z0 mo eo e2 gr av ro co kl dd cI cII ++ (wF tp f er tr kr cI cII cJ cJJ ++ wO cJ out oZ))) (hS : va_S (lwA s) s.heap H locs) (hl : lv_has ls 9 [(0, .ref b), (1, .ref tp), (2, .ref mo), (3, .ref out), (4, .int (nI 0))]) : W p l e room_1 s m #[Value.ref b] below meth c H locs 100 1000 (lw_Z below #[Value.ref b] s) (F0 m 617 ls []) := by
  obtain ⟨hx, hb, hr, hml, hown, hts0, hX, hbl, hlocks, hgv⟩ := id C0
  have hA : ∀ q : Nat, s.heap.size ≤ q → (lwA s) q := fun _ h => h
  have hbA : ¬ (lwA s) b := Nat.not_le.mpr hbl
  have hts : ∀ w ∈ wsL_law, w.before #[Value.ref b] s = true := fun w h => hts0 w (wsL_law_in w h)
  have hKc : va_K (dC, dI) vwCl (tyL cI cII cJ cJJ) s := hK.sub [0, 1, 2, 3] rfl
  by_cases h1 : xs 1 = nI 6
  · skip
    by_cases h2 : xs 2 < -9 ∨ ¬ xs 2 ≤ 9
    · skip
      refine lv_aload_n hx hb dL_law_617 rfl (lv_at hl 1 rfl) ?_
      refine lv_aload_n hx hb dL_law_618 rfl (lv_at hl 0 rfl) ?_
      refine lv_iload hx hb dL_law_619 (lv_at hl 4 rfl) ?_
      refine lv_iconst (v := nI 1) hx hb dL_law_621 (by decide) ?_
      refine kt_iadd hx hb dL_law_622 ?_
      refine va_sld hx hb hX hbl hbA hS (vp_in_nI (by omega) (by decide)) dL_law_623 ?_
      refine lv_topi (fun z1 ez1 => ?_)
      have ez1 : z1 = nI 6 := (ez1.trans (congrArg xs (nI_clamp (by decide)))).trans h1
      rw [ez1]
      refine lv_aload_n hx hb dL_law_624 rfl (lv_at hl 0 rfl) ?_
      refine lv_iload hx hb dL_law_625 (lv_at hl 4 rfl) ?_
      refine lv_iconst (v := nI 2) hx hb dL_law_627 (by decide) ?_
      refine kt_iadd hx hb dL_law_628 ?_
      refine va_sld hx hb hX hbl hbA hS (vp_in_nI (by omega) (by decide)) dL_law_629 ?_
      refine lv_topi (fun z2 ez2 => ?_)
      have ez2 : z2 = xs 2 := (ez2.trans (congrArg xs (nI_clamp (by decide)))).trans rfl
      rw [ez2]
      refine lv_aload_n hx hb dL_law_630 rfl (lv_at hl 3 rfl) ?_
      have hF9 := va_free (wc := wF tp f er tr kr cI cII cJ cJJ ++ wO cJ out oZ) hD hS hA (List.range' 14 46) rfl
      refine kt_newI (wC := wF tp f er tr kr cI cII cJ cJJ ++ wO cJ out oZ) (wR9 := wR (nI 0) z0 mo eo e2 gr av ro co kl dd cI cII) (wN := fun (_ : Unit) => ([] : va_W)) (tys := (tyL cI cII cJ cJJ)) (vx_runSW (As := [.ref tp, .int (nI 6), .int (xs 2), .ref out]) (rest := []) ⟨hx, hb, hml, hown, hts⟩ (h_pay_within l hlt dC dI cI cII cJ cJJ tp f er tr kr out (xs 2) _ (h2)) (vx_cwSW 4 hts gL_law_L_pay rfl rfl rfl (by decide +kernel) ⟨Nat.le_of_ble_eq_true rfl, Nat.le_of_ble_eq_true rfl⟩) (kt_preSH hKc hP hD hS hE hnc hF9 (List.range' 14 46) rfl rfl) rfl rfl hl.1 rfl (lv_room (Nat.le_of_ble_eq_true rfl)) dL_law_631 ⟨Nat.le_of_ble_eq_true rfl, Nat.le_of_ble_eq_true rfl⟩) hP hD hS hA (List.range' 14 46) (List.range' 0 14) rfl rfl rfl (by decide) (fun u H locs hP hD hS => ?_)
      have hP := kt_sub (wC := wR (nI 0) z0 mo eo e2 gr av ro co kl dd cI cII) hP (List.range' 0 14) rfl
      have hD := hD.sub (ws' := wR (nI 0) z0 mo eo e2 gr av ro co kl dd cI cII) (List.range' 0 14) rfl rfl
      refine W.widen (k := 101) (n := 1006) (by omega) (by omega) ?_
      refine lv_istore (lv' := [(5, .int (nI 2)), (0, .ref b), (1, .ref tp), (2, .ref mo), (3, .ref out), (4, .int (nI 0))]) hx hb dL_law_634 hl (by decide) rfl (fun ls hl => ?_)
      refine lv_aload_n hx hb dL_law_636 rfl (lv_at hl 3 rfl) ?_
      refine lv_aload_n hx hb dL_law_637 rfl (lv_at hl 1 rfl) ?_
      refine lv_iload hx hb dL_law_638 (lv_at hl 5 rfl) ?_
      refine lv_iconst (v := nI 1) hx hb dL_law_640 (by decide) ?_
      refine kt_iadd hx hb dL_law_641 ?_
      refine va_sld hx hb hX hbl hbA hS (vp_in_nI (by omega) (by decide)) dL_law_642 ?_
      refine lv_topi (fun z3 ez3 => ?_)
      have ez3 : z3 = nI 6 := (ez3.trans (congrArg xs (nI_clamp (by decide)))).trans h1
      rw [ez3]
      refine lv_aload_n hx hb dL_law_643 rfl (lv_at hl 1 rfl) ?_
      refine lv_iload hx hb dL_law_644 (lv_at hl 5 rfl) ?_
      refine lv_iconst (v := nI 2) hx hb dL_law_646 (by decide) ?_
      refine kt_iadd hx hb dL_law_647 ?_
      refine va_sld hx hb hX hbl hbA hS (vp_in_nI (by omega) (by decide)) dL_law_648 ?_
      refine lv_topi (fun z4 ez4 => ?_)
      have ez4 : z4 = xs 2 := (ez4.trans (congrArg xs (nI_clamp (by decide)))).trans rfl
      rw [ez4]
      refine kt_newI (wC := wR (nI 0) z0 mo eo e2 gr av ro co kl dd cI cII) (wR9 := ([] : va_W)) (wN := fun (u : List Value) => wU mo (nI 2) u) (va_runV (As := [.int (nI 6), .int (xs 2)]) (rest := []) ⟨hx, hb, hml, hown, hts⟩ (t_pay_within l dC dI cI cII cJ cJJ cZ cO mo eo e2 gr av ro co kl dd (xs 2) _ (h2.imp id (fun z => Int32.not_le.mp z))) (cwV 2 hts gL_law_X5_pay rfl rfl rfl (by decide +kernel) ⟨Nat.le_of_ble_eq_true rfl, Nat.le_of_ble_eq_true rfl⟩) (kt_preV (q0 := 0) (ci := kX5) hK hP hD (List.range' 0 14) rfl rfl rfl rfl rfl) rfl rfl hl.1 rfl (lv_room (Nat.le_of_ble_eq_true rfl)) dL_law_649 ⟨Nat.le_of_ble_eq_true rfl, Nat.le_of_ble_eq_true rfl⟩) hP hD hS hA (List.range' 0 14) [] rfl rfl rfl (by decide) (fun u9 H locs hP hD hS => ?_)
      have hP : va_P (dC, dI) vwCl (wU mo (nI 2) u9) H := hP
      have hD : va_D (lwA s) (wU mo (nI 2) u9) := hD
      refine W.widen (k := 101) (n := 1006) (by omega) (by omega) ?_
      refine lv_istore (lv' := [(6, .int (nI 0)), (5, .int (nI 2)), (0, .ref b), (1, .ref tp), (2, .ref mo), (3, .ref out), (4, .int (nI 0))]) hx hb dL_law_652 hl (by decide) rfl (fun ls hl => ?_)
      refine lv_aload_n hx hb dL_law_654 rfl (lv_at hl 4 rfl) ?_
      refine kt_calliM (w' := wU mo (nI 2) u9) (rest := []) (As := []) ⟨hx, hb, hml, hown, hts⟩ (c_X5_thrown l dC dI cI cII cJ cJJ cZ cO mo (nI 2) u9 _) (cwV 0 hts gL_law_X5_thrown rfl rfl rfl (by decide +kernel) ⟨Nat.le_of_ble_eq_true rfl, Nat.le_of_ble_eq_true rfl⟩) hK hP hD hS hA [0] ⟨rfl, ⟨[some 0], rfl, by decide +kernel⟩, rfl⟩ rfl 0 kX5 rfl rfl rfl rfl rfl hl.1 (Nat.le_of_ble_eq_true rfl) dL_law_655 ⟨Nat.le_of_ble_eq_true rfl, Nat.le_of_ble_eq_true rfl⟩ (fun H locs hP hD hS => ?_)
      have hP : va_P (dC, dI) vwCl (wU mo (nI 2) u9) H := hP
      have hD : va_D (lwA s) (wU mo (nI 2) u9) := hD
      refine W.widen (k := 101) (n := 1006) (by omega) (by omega) ?_
      refine lv_iload hx hb dL_law_658 (lv_at hl 1 rfl) ?_
      refine lv_icmp_eq (tgt := 665) hx hb dL_law_660 (by decide) (fun c5 => ?_) (fun c5 => ?_)
      · skip
        refine lv_iload hx hb dL_law_665 (lv_at hl 1 rfl) ?_
        refine lv_if_ne (tgt := 682) hx hb dL_law_667 (by decide) (fun c6 => ?_) (fun c6 => ?_)
        · skip
          refine lv_goto (tgt := 1493) hx hb dL_law_682 (by decide) ?_
          exact law_end C0 hS (lv_sub hl [2, 6] rfl) (by omega) (by omega)
        · first | exact absurd c6 (by decide) | exact (c6 (by decide)).elim
      · first | exact absurd c5 (by decide) | exact (c5 (by decide)).elim
    · skip
      refine lv_aload_n hx hb dL_law_617 rfl (lv_at hl 1 rfl) ?_
      refine lv_aload_n hx hb dL_law_618 rfl (lv_at hl 0 rfl) ?_
      refine lv_iload hx hb dL_law_619 (lv_at hl 4 rfl) ?_
      refine lv_iconst (v := nI 1) hx hb dL_law_621 (by decide) ?_
      refine kt_iadd hx hb dL_law_622 ?_
      refine va_sld hx hb hX hbl hbA hS (vp_in_nI (by omega) (by decide)) dL_law_623 ?_
      refine lv_topi (fun z7 ez7 => ?_)
      have ez7 : z7 = nI 6 := (ez7.trans (congrArg xs (nI_clamp (by decide)))).trans h1
      rw [ez7]
      refine lv_aload_n hx hb dL_law_624 rfl (lv_at hl 0 rfl) ?_
      refine lv_iload hx hb dL_law_625 (lv_at hl 4 rfl) ?_
      refine lv_iconst (v := nI 2) hx hb dL_law_627 (by decide) ?_
      refine kt_iadd hx hb dL_law_628 ?_
      refine va_sld hx hb hX hbl hbA hS (vp_in_nI (by omega) (by decide)) dL_law_629 ?_
      refine lv_topi (fun z8 ez8 => ?_)
      have ez8 : z8 = xs 2 := (ez8.trans (congrArg xs (nI_clamp (by decide)))).trans rfl
      rw [ez8]
      refine lv_aload_n hx hb dL_law_630 rfl (lv_at hl 3 rfl) ?_
      have hF9 := va_free (wc := wF tp f er tr kr cI cII cJ cJJ ++ wO cJ out oZ) hD hS hA (List.range' 14 46) rfl
      refine kt_newI (wC := wF tp f er tr kr cI cII cJ cJJ ++ wO cJ out oZ) (wR9 := wR (nI 0) z0 mo eo e2 gr av ro co kl dd cI cII) (wN := fun (_ : Unit) => wO cJ out (vp_updL oZ 0 (Int32.toInt64 ((fun _ => 0) 6 + (xs 2))))) (tys := (tyL cI cII cJ cJJ)) (vx_runSW (As := [.ref tp, .int (nI 6), .int (xs 2), .ref out]) (rest := []) ⟨hx, hb, hml, hown, hts⟩ (h_pay l hlt dC dI cI cII cJ cJJ tp f er tr kr out (xs 2) _ (fun z => h2 (Or.inl z)) (Decidable.not_not.mp (fun z => h2 (Or.inr z)))) (vx_cwSW 4 hts gL_law_L_pay rfl rfl rfl (by decide +kernel) ⟨Nat.le_of_ble_eq_true rfl, Nat.le_of_ble_eq_true rfl⟩) (kt_preSH hKc hP hD hS hE hnc hF9 (List.range' 14 46) rfl rfl) rfl rfl hl.1 rfl (lv_room (Nat.le_of_ble_eq_true rfl)) dL_law_631 ⟨Nat.le_of_ble_eq_true rfl, Nat.le_of_ble_eq_true rfl⟩) hP hD hS hA (List.range' 14 46) (List.range' 0 14) rfl rfl rfl (by decide) (fun u H locs hP hD hS => ?_)
      have hP : va_P (dC, dI) vwCl (wR (nI 0) z0 mo eo e2 gr av ro co kl dd cI cII ++ wO cJ out (vp_updL oZ 0 (Int32.toInt64 ((fun _ => 0) 6 + (xs 2))))) H := hP
      have hD : va_D (lwA s) (wR (nI 0) z0 mo eo e2 gr av ro co kl dd cI cII ++ wO cJ out (vp_updL oZ 0 (Int32.toInt64 ((fun _ => 0) 6 + (xs 2))))) := hD
      refine W.widen (k := 100) (n := 1000) (by omega) (by omega) ?_
      refine lv_istore (lv' := [(5, .int (nI 0)), (0, .ref b), (1, .ref tp), (2, .ref mo), (3, .ref out), (4, .int (nI 0))]) hx hb dL_law_634 hl (by decide) rfl (fun ls hl => ?_)
      refine lv_aload_n hx hb dL_law_636 rfl (lv_at hl 3 rfl) ?_
      refine lv_aload_n hx hb dL_law_637 rfl (lv_at hl 1 rfl) ?_
      refine lv_iload hx hb dL_law_638 (lv_at hl 5 rfl) ?_
      refine lv_iconst (v := nI 1) hx hb dL_law_640 (by decide) ?_
      refine kt_iadd hx hb dL_law_641 ?_
      refine va_sld hx hb hX hbl hbA hS (vp_in_nI (by omega) (by decide)) dL_law_642 ?_
      refine lv_topi (fun z9 ez9 => ?_)
      have ez9 : z9 = nI 6 := (ez9.trans (congrArg xs (nI_clamp (by decide)))).trans h1
      rw [ez9]
      refine lv_aload_n hx hb dL_law_643 rfl (lv_at hl 1 rfl) ?_
      refine lv_iload hx hb dL_law_644 (lv_at hl 5 rfl) ?_
      refine lv_iconst (v := nI 2) hx hb dL_law_646 (by decide) ?_
      refine kt_iadd hx hb dL_law_647 ?_
      refine va_sld hx hb hX hbl hbA hS (vp_in_nI (by omega) (by decide)) dL_law_648 ?_
      refine lv_topi (fun z10 ez10 => ?_)
      have ez10 : z10 = xs 2 := (ez10.trans (congrArg xs (nI_clamp (by decide)))).trans rfl
      rw [ez10]
      refine kt_newI (wC := wR (nI 0) z0 mo eo e2 gr av ro co kl dd cI cII) (wR9 := wO cJ out (vp_updL oZ 0 (Int32.toInt64 ((fun _ => 0) 6 + (xs 2))))) (wN := fun (u : List Value) => wU mo (nI 0) u) (va_runV (As := [.int (nI 6), .int (xs 2)]) (rest := []) ⟨hx, hb, hml, hown, hts⟩ (t_pay l dC dI cI cII cJ cJJ cZ cO mo eo e2 gr av ro co kl dd (xs 2) _ (fun z => h2 (Or.inl z)) (fun z => h2 (Or.inr (Int32.not_le.mpr z)))) (cwV 2 hts gL_law_X5_pay rfl rfl rfl (by decide +kernel) ⟨Nat.le_of_ble_eq_true rfl, Nat.le_of_ble_eq_true rfl⟩) (kt_preV (q0 := 0) (ci := kX5) hK hP hD (List.range' 0 14) rfl rfl rfl rfl rfl) rfl rfl hl.1 rfl (lv_room (Nat.le_of_ble_eq_true rfl)) dL_law_649 ⟨Nat.le_of_ble_eq_true rfl, Nat.le_of_ble_eq_true rfl⟩) hP hD hS hA (List.range' 0 14) [14] rfl rfl rfl (by decide) (fun u9 H locs hP hD hS => ?_)
      have hP : va_P (dC, dI) vwCl (wO cJ out (vp_updL oZ 0 (Int32.toInt64 ((fun _ => 0) 6 + (xs 2)))) ++ wU mo (nI 0) u9) H := hP
      have hD : va_D (lwA s) (wO cJ out (vp_updL oZ 0 (Int32.toInt64 ((fun _ => 0) 6 + (xs 2)))) ++ wU mo (nI 0) u9) := hD
      refine W.widen (k := 100) (n := 1000) (by omega) (by omega) ?_
      refine lv_istore (lv' := [(6, .int (xs 2)), (5, .int (nI 0)), (0, .ref b), (1, .ref tp), (2, .ref mo), (3, .ref out), (4, .int (nI 0))]) hx hb dL_law_652 hl (by decide) rfl (fun ls hl => ?_)
      refine lv_aload_n hx hb dL_law_654 rfl (lv_at hl 4 rfl) ?_
      refine kt_calliM (w' := wO cJ out (vp_updL oZ 0 (Int32.toInt64 ((fun _ => 0) 6 + (xs 2)))) ++ wU mo (nI 0) u9) (rest := []) (As := []) ⟨hx, hb, hml, hown, hts⟩ (c_X5_thrown l dC dI cI cII cJ cJJ cZ cO mo (nI 0) u9 _) (cwV 0 hts gL_law_X5_thrown rfl rfl rfl (by decide +kernel) ⟨Nat.le_of_ble_eq_true rfl, Nat.le_of_ble_eq_true rfl⟩) hK hP hD hS hA [1] ⟨rfl, ⟨[none, some 0], rfl, by decide +kernel⟩, rfl⟩ rfl 1 kX5 rfl rfl rfl rfl rfl hl.1 (Nat.le_of_ble_eq_true rfl) dL_law_655 ⟨Nat.le_of_ble_eq_true rfl, Nat.le_of_ble_eq_true rfl⟩ (fun H locs hP hD hS => ?_)
      have hP : va_P (dC, dI) vwCl (wO cJ out (vp_updL oZ 0 (Int32.toInt64 ((fun _ => 0) 6 + (xs 2)))) ++ wU mo (nI 0) u9) H := hP
      have hD : va_D (lwA s) (wO cJ out (vp_updL oZ 0 (Int32.toInt64 ((fun _ => 0) 6 + (xs 2)))) ++ wU mo (nI 0) u9) := hD
      refine W.widen (k := 100) (n := 1000) (by omega) (by omega) ?_
      refine lv_iload hx hb dL_law_658 (lv_at hl 1 rfl) ?_
      refine lv_icmp_eq (tgt := 665) hx hb dL_law_660 (by decide) (fun c11 => ?_) (fun c11 => ?_)
      · skip
        refine lv_iload hx hb dL_law_665 (lv_at hl 1 rfl) ?_
        refine lv_if_ne (tgt := 682) hx hb dL_law_667 (by decide) (fun c12 => ?_) (fun c12 => ?_)
        · first | exact absurd c12 (by decide) | exact (c12 (by decide)).elim
        · skip
          refine lv_aload_n hx hb dL_law_670 rfl (lv_at hl 5 rfl) ?_
          refine lv_iconst (v := nI 0) hx hb dL_law_671 (by decide) ?_
          refine kt_lald hx hb hK hP 0 2 rfl rfl (by omega) (by decide) dL_law_672 ?_
          refine lv_iload hx hb dL_law_673 (lv_at hl 0 rfl) ?_
          refine lv_i2l (v := Int32.toInt64 ((xs 2))) hx hb dL_law_675 rfl ?_
          refine W.lcmp hx hb dL_law_676 ?_
          refine lv_if_eq (tgt := 682) hx hb dL_law_677 (by decide) (fun c13 => ?_) (fun c13 => ?_)
          · skip
            refine lv_goto (tgt := 1493) hx hb dL_law_682 (by decide) ?_
            exact law_end C0 hS (lv_sub hl [2, 6] rfl) (by omega) (by omega)
          · exact absurd ((lg_cmp_eq _ _).mpr (by rw [kt_vpL]; exact congrArg Int32.toInt64 (zero_add32 _))) c13
      · first | exact absurd c11 (by decide) | exact (c11 (by decide)).elim
  · skip
    refine lv_aload_n hx hb dL_law_617 rfl (lv_at hl 1 rfl) ?_
    refine lv_aload_n hx hb dL_law_618 rfl (lv_at hl 0 rfl) ?_
    refine lv_iload hx hb dL_law_619 (lv_at hl 4 rfl) ?_
    refine lv_iconst (v := nI 1) hx hb dL_law_621 (by decide) ?_
    refine kt_iadd hx hb dL_law_622 ?_
    refine va_sld hx hb hX hbl hbA hS (vp_in_nI (by omega) (by decide)) dL_law_623 ?_
    refine lv_topi (fun z14 ez14 => ?_)
    have ez14 : z14 = xs 1 := (ez14.trans (congrArg xs (nI_clamp (by decide)))).trans rfl
    rw [ez14]
    refine lv_aload_n hx hb dL_law_624 rfl (lv_at hl 0 rfl) ?_
    refine lv_iload hx hb dL_law_625 (lv_at hl 4 rfl) ?_
    refine lv_iconst (v := nI 2) hx hb dL_law_627 (by decide) ?_
    refine kt_iadd hx hb dL_law_628 ?_
    refine va_sld hx hb hX hbl hbA hS (vp_in_nI (by omega) (by decide)) dL_law_629 ?_
    refine lv_topi (fun z15 ez15 => ?_)
    have ez15 : z15 = xs 2 := (ez15.trans (congrArg xs (nI_clamp (by decide)))).trans rfl
    rw [ez15]
    refine lv_aload_n hx hb dL_law_630 rfl (lv_at hl 3 rfl) ?_
    have hF9 := va_free (wc := wF tp f er tr kr cI cII cJ cJJ ++ wO cJ out oZ) hD hS hA (List.range' 14 46) rfl
    refine kt_newI (wC := wF tp f er tr kr cI cII cJ cJJ ++ wO cJ out oZ) (wR9 := wR (nI 0) z0 mo eo e2 gr av ro co kl dd cI cII) (wN := fun (_ : Unit) => ([] : va_W)) (tys := (tyL cI cII cJ cJJ)) (vx_runSW (As := [.ref tp, .int (xs 1), .int (xs 2), .ref out]) (rest := []) ⟨hx, hb, hml, hown, hts⟩ (h_pay_node l hlt dC dI cI cII cJ cJJ tp f er tr kr out (xs 1) (xs 2) _ (h1)) (vx_cwSW 4 hts gL_law_L_pay rfl rfl rfl (by decide +kernel) ⟨Nat.le_of_ble_eq_true rfl, Nat.le_of_ble_eq_true rfl⟩) (kt_preSH hKc hP hD hS hE hnc hF9 (List.range' 14 46) rfl rfl) rfl rfl hl.1 rfl (lv_room (Nat.le_of_ble_eq_true rfl)) dL_law_631 ⟨Nat.le_of_ble_eq_true rfl, Nat.le_of_ble_eq_true rfl⟩) hP hD hS hA (List.range' 14 46) (List.range' 0 14) rfl rfl rfl (by decide) (fun u H locs hP hD hS => ?_)
    have hP := kt_sub (wC := wR (nI 0) z0 mo eo e2 gr av ro co kl dd cI cII) hP (List.range' 0 14) rfl
    have hD := hD.sub (ws' := wR (nI 0) z0 mo eo e2 gr av ro co kl dd cI cII) (List.range' 0 14) rfl rfl
    refine W.widen (k := 101) (n := 1006) (by omega) (by omega) ?_
    refine lv_istore (lv' := [(5, .int (nI 1)), (0, .ref b), (1, .ref tp), (2, .ref mo), (3, .ref out), (4, .int (nI 0))]) hx hb dL_law_634 hl (by decide) rfl (fun ls hl => ?_)
    refine lv_aload_n hx hb dL_law_636 rfl (lv_at hl 3 rfl) ?_
    refine lv_aload_n hx hb dL_law_637 rfl (lv_at hl 1 rfl) ?_
    refine lv_iload hx hb dL_law_638 (lv_at hl 5 rfl) ?_
    refine lv_iconst (v := nI 1) hx hb dL_law_640 (by decide) ?_
    refine kt_iadd hx hb dL_law_641 ?_
    refine va_sld hx hb hX hbl hbA hS (vp_in_nI (by omega) (by decide)) dL_law_642 ?_
    refine lv_topi (fun z16 ez16 => ?_)
    have ez16 : z16 = xs 1 := (ez16.trans (congrArg xs (nI_clamp (by decide)))).trans rfl
    rw [ez16]
    refine lv_aload_n hx hb dL_law_643 rfl (lv_at hl 1 rfl) ?_
    refine lv_iload hx hb dL_law_644 (lv_at hl 5 rfl) ?_
    refine lv_iconst (v := nI 2) hx hb dL_law_646 (by decide) ?_
    refine kt_iadd hx hb dL_law_647 ?_
    refine va_sld hx hb hX hbl hbA hS (vp_in_nI (by omega) (by decide)) dL_law_648 ?_
    refine lv_topi (fun z17 ez17 => ?_)
    have ez17 : z17 = xs 2 := (ez17.trans (congrArg xs (nI_clamp (by decide)))).trans rfl
    rw [ez17]
    refine kt_newI (wC := wR (nI 0) z0 mo eo e2 gr av ro co kl dd cI cII) (wR9 := ([] : va_W)) (wN := fun (u : List Value) => wU mo (nI 1) u) (va_runV (As := [.int (xs 1), .int (xs 2)]) (rest := []) ⟨hx, hb, hml, hown, hts⟩ (t_pay_node l dC dI cI cII cJ cJJ cZ cO mo eo e2 gr av ro co kl dd (xs 1) (xs 2) _ (h1)) (cwV 2 hts gL_law_X5_pay rfl rfl rfl (by decide +kernel) ⟨Nat.le_of_ble_eq_true rfl, Nat.le_of_ble_eq_true rfl⟩) (kt_preV (q0 := 0) (ci := kX5) hK hP hD (List.range' 0 14) rfl rfl rfl rfl rfl) rfl rfl hl.1 rfl (lv_room (Nat.le_of_ble_eq_true rfl)) dL_law_649 ⟨Nat.le_of_ble_eq_true rfl, Nat.le_of_ble_eq_true rfl⟩) hP hD hS hA (List.range' 0 14) [] rfl rfl rfl (by decide) (fun u9 H locs hP hD hS => ?_)
    have hP : va_P (dC, dI) vwCl (wU mo (nI 1) u9) H := hP
    have hD : va_D (lwA s) (wU mo (nI 1) u9) := hD
    refine W.widen (k := 101) (n := 1006) (by omega) (by omega) ?_
    refine lv_istore (lv' := [(6, .int (nI 0)), (5, .int (nI 1)), (0, .ref b), (1, .ref tp), (2, .ref mo), (3, .ref out), (4, .int (nI 0))]) hx hb dL_law_652 hl (by decide) rfl (fun ls hl => ?_)
    refine lv_aload_n hx hb dL_law_654 rfl (lv_at hl 4 rfl) ?_
    refine kt_calliM (w' := wU mo (nI 1) u9) (rest := []) (As := []) ⟨hx, hb, hml, hown, hts⟩ (c_X5_thrown l dC dI cI cII cJ cJJ cZ cO mo (nI 1) u9 _) (cwV 0 hts gL_law_X5_thrown rfl rfl rfl (by decide +kernel) ⟨Nat.le_of_ble_eq_true rfl, Nat.le_of_ble_eq_true rfl⟩) hK hP hD hS hA [0] ⟨rfl, ⟨[some 0], rfl, by decide +kernel⟩, rfl⟩ rfl 0 kX5 rfl rfl rfl rfl rfl hl.1 (Nat.le_of_ble_eq_true rfl) dL_law_655 ⟨Nat.le_of_ble_eq_true rfl, Nat.le_of_ble_eq_true rfl⟩ (fun H locs hP hD hS => ?_)
    have hP : va_P (dC, dI) vwCl (wU mo (nI 1) u9) H := hP
    have hD : va_D (lwA s) (wU mo (nI 1) u9) := hD
    refine W.widen (k := 101) (n := 1006) (by omega) (by omega) ?_
    refine lv_iload hx hb dL_law_658 (lv_at hl 1 rfl) ?_
    refine lv_icmp_eq (tgt := 665) hx hb dL_law_660 (by decide) (fun c18 => ?_) (fun c18 => ?_)
    · skip
      refine lv_iload hx hb dL_law_665 (lv_at hl 1 rfl) ?_
      refine lv_if_ne (tgt := 682) hx hb dL_law_667 (by decide) (fun c19 => ?_) (fun c19 => ?_)
      · skip
        refine lv_goto (tgt := 1493) hx hb dL_law_682 (by decide) ?_
        exact law_end C0 hS (lv_sub hl [2, 6] rfl) (by omega) (by omega)
      · first | exact absurd c19 (by decide) | exact (c19 (by decide)).elim
    · first | exact absurd c18 (by decide) | exact (c18 (by decide)).elim
