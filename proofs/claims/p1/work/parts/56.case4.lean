/-! cases of the law (printed by wip/gen/lawcase.py) -/
set_option maxHeartbeats 4000000 in
set_option maxRecDepth 100000 in
/-- case 20 of the law: neutral -/
theorem law_neutral {p : Program} {l : Launch} {e : Env} {s : State} {m : MethodId} {below : List Frame} {meth : Method} {c : Code} {b : Nat} {xs : Nat → Int32} (hlt : l.stackTraces = false) (C0 : lw_At p s m meth c b 4 xs) {dC : Nat → ClassId} {dI : Nat → Nat → Nat} {cI cII cJ cJJ cZ cO : ClassId} {tp : Nat} {f : Nat → Nat} {er tr kr : Nat → Nat} {mo eo : Nat} {e2 : Nat → Nat} {gr av ro co kl dd out : Nat} (hK : va_K (dC, dI) vwCl (tyR cI cII cJ cJJ cZ cO) s) (hE : EnvX (lwA s) s s.heap) (hER : EnvR dd (lwA s) s s.heap) (hnc : va_Nc exA exI s) {H : Heap} {locs : List Loc} {ls : Array Slot} (hP : va_P (dC, dI) vwCl (wR (nI 0) z0 mo eo e2 gr av ro co kl dd cI cII ++ (wF tp f er tr kr cI cII cJ cJJ ++ wO cJ out oZ)) H) (hD : va_D (lwA s) (wR (nI 0) z0 mo eo e2 gr av ro co kl dd cI cII ++ (wF tp f er tr kr cI cII cJ cJJ ++ wO cJ out oZ))) (hS : va_S (lwA s) s.heap H locs) (hl : lv_has ls 9 [(0, .ref b), (1, .ref tp), (2, .ref mo), (3, .ref out), (4, .int (nI 0))]) : W p l e room_1 s m #[Value.ref b] below meth c H locs 100 1000 (lw_Z below #[Value.ref b] s) (F0 m 1271 ls []) := by
  obtain ⟨hx, hb, hr, hml, hown, hts0, hX, hbl, hlocks, hgv⟩ := id C0
  have hA : ∀ q : Nat, s.heap.size ≤ q → (lwA s) q := fun _ h => h
  have hbA : ¬ (lwA s) b := Nat.not_le.mpr hbl
  have hts : ∀ w ∈ wsL_law, w.before #[Value.ref b] s = true := fun w h => hts0 w (wsL_law_in w h)
  have hKc : va_K (dC, dI) vwCl (tyL cI cII cJ cJJ) s := hK.sub [0, 1, 2, 3] rfl
  refine lv_aload_n hx hb dL_law_1271 rfl (lv_at hl 1 rfl) ?_
  refine lv_aload_n hx hb dL_law_1272 rfl (lv_at hl 0 rfl) ?_
  refine lv_iload hx hb dL_law_1273 (lv_at hl 4 rfl) ?_
  refine lv_iconst (v := nI 1) hx hb dL_law_1275 (by decide) ?_
  refine kt_iadd hx hb dL_law_1276 ?_
  refine va_sld hx hb hX hbl hbA hS (vp_in_nI (by omega) (by decide)) dL_law_1277 ?_
  refine lv_topi (fun z1 ez1 => ?_)
  have ez1 : z1 = xs 1 := (ez1.trans (congrArg xs (nI_clamp (by decide)))).trans rfl
  rw [ez1]
  refine lv_aload_n hx hb dL_law_1278 rfl (lv_at hl 3 rfl) ?_
  have hF9 := va_free (wc := wF tp f er tr kr cI cII cJ cJJ ++ wO cJ out oZ) hD hS hA (List.range' 14 46) rfl
  refine kt_newI (wC := wF tp f er tr kr cI cII cJ cJJ ++ wO cJ out oZ) (wR9 := wR (nI 0) z0 mo eo e2 gr av ro co kl dd cI cII) (wN := fun (_ : Unit) => ([] : va_W)) (tys := (tyL cI cII cJ cJJ)) (vx_runSW (As := [.ref tp, .int (xs 1), .ref out]) (rest := []) ⟨hx, hb, hml, hown, hts⟩ (h_neutral l hlt dC dI cI cII cJ cJJ tp f er tr kr out (xs 1) _ ) (vx_cwSW 3 hts gL_law_L_neutral rfl rfl rfl (by decide +kernel) ⟨Nat.le_of_ble_eq_true rfl, Nat.le_of_ble_eq_true rfl⟩) (kt_preSH hKc hP hD hS hE hnc hF9 (List.range' 14 46) rfl rfl) rfl rfl hl.1 rfl (lv_room (Nat.le_of_ble_eq_true rfl)) dL_law_1279 ⟨Nat.le_of_ble_eq_true rfl, Nat.le_of_ble_eq_true rfl⟩) hP hD hS hA (List.range' 14 46) (List.range' 0 14) rfl rfl rfl (by decide) (fun u H locs hP hD hS => ?_)
  have hP := kt_sub (wC := wR (nI 0) z0 mo eo e2 gr av ro co kl dd cI cII) hP (List.range' 0 14) rfl
  have hD := hD.sub (ws' := wR (nI 0) z0 mo eo e2 gr av ro co kl dd cI cII) (List.range' 0 14) rfl rfl
  refine W.widen (k := 101) (n := 1006) (by omega) (by omega) ?_
  refine lv_istore (lv' := [(5, .int (nI 1)), (0, .ref b), (1, .ref tp), (2, .ref mo), (3, .ref out), (4, .int (nI 0))]) hx hb dL_law_1282 hl (by decide) rfl (fun ls hl => ?_)
  refine lv_aload_n hx hb dL_law_1284 rfl (lv_at hl 3 rfl) ?_
  refine lv_aload_n hx hb dL_law_1285 rfl (lv_at hl 1 rfl) ?_
  refine lv_iload hx hb dL_law_1286 (lv_at hl 5 rfl) ?_
  refine lv_iconst (v := nI 1) hx hb dL_law_1288 (by decide) ?_
  refine kt_iadd hx hb dL_law_1289 ?_
  refine va_sld hx hb hX hbl hbA hS (vp_in_nI (by omega) (by decide)) dL_law_1290 ?_
  refine lv_topi (fun z2 ez2 => ?_)
  have ez2 : z2 = xs 1 := (ez2.trans (congrArg xs (nI_clamp (by decide)))).trans rfl
  rw [ez2]
  refine kt_newI (wC := wR (nI 0) z0 mo eo e2 gr av ro co kl dd cI cII) (wR9 := ([] : va_W)) (wN := fun (u : List Value) => wU mo (nI 1) u) (va_runV (As := [.int (xs 1)]) (rest := []) ⟨hx, hb, hml, hown, hts⟩ (t_neutral l dC dI cI cII cJ cJJ cZ cO mo eo e2 gr av ro co kl dd (xs 1) _ ) (cwV 1 hts gL_law_X5_neutral_ rfl rfl rfl (by decide +kernel) ⟨Nat.le_of_ble_eq_true rfl, Nat.le_of_ble_eq_true rfl⟩) (kt_preV (q0 := 0) (ci := kX5) hK hP hD (List.range' 0 14) rfl rfl rfl rfl rfl) rfl rfl hl.1 rfl (lv_room (Nat.le_of_ble_eq_true rfl)) dL_law_1291 ⟨Nat.le_of_ble_eq_true rfl, Nat.le_of_ble_eq_true rfl⟩) hP hD hS hA (List.range' 0 14) [] rfl rfl rfl (by decide) (fun u9 H locs hP hD hS => ?_)
  have hP : va_P (dC, dI) vwCl (wU mo (nI 1) u9) H := hP
  have hD : va_D (lwA s) (wU mo (nI 1) u9) := hD
  refine W.widen (k := 101) (n := 1006) (by omega) (by omega) ?_
  refine lv_istore (lv' := [(6, .int (nI 0)), (5, .int (nI 1)), (0, .ref b), (1, .ref tp), (2, .ref mo), (3, .ref out), (4, .int (nI 0))]) hx hb dL_law_1294 hl (by decide) rfl (fun ls hl => ?_)
  refine lv_aload_n hx hb dL_law_1296 rfl (lv_at hl 4 rfl) ?_
  refine kt_calliM (w' := wU mo (nI 1) u9) (rest := []) (As := []) ⟨hx, hb, hml, hown, hts⟩ (c_X5_thrown l dC dI cI cII cJ cJJ cZ cO mo (nI 1) u9 _) (cwV 0 hts gL_law_X5_thrown rfl rfl rfl (by decide +kernel) ⟨Nat.le_of_ble_eq_true rfl, Nat.le_of_ble_eq_true rfl⟩) hK hP hD hS hA [0] ⟨rfl, ⟨[some 0], rfl, by decide +kernel⟩, rfl⟩ rfl 0 kX5 rfl rfl rfl rfl rfl hl.1 (Nat.le_of_ble_eq_true rfl) dL_law_1297 ⟨Nat.le_of_ble_eq_true rfl, Nat.le_of_ble_eq_true rfl⟩ (fun H locs hP hD hS => ?_)
  have hP : va_P (dC, dI) vwCl (wU mo (nI 1) u9) H := hP
  have hD : va_D (lwA s) (wU mo (nI 1) u9) := hD
  refine W.widen (k := 101) (n := 1006) (by omega) (by omega) ?_
  refine lv_iload hx hb dL_law_1300 (lv_at hl 1 rfl) ?_
  refine lv_icmp_eq (tgt := 1307) hx hb dL_law_1302 (by decide) (fun c3 => ?_) (fun c3 => ?_)
  · skip
    refine lv_iload hx hb dL_law_1307 (lv_at hl 1 rfl) ?_
    refine lv_if_ne (tgt := 1324) hx hb dL_law_1309 (by decide) (fun c4 => ?_) (fun c4 => ?_)
    · skip
      refine lv_goto (tgt := 1493) hx hb dL_law_1324 (by decide) ?_
      exact law_end C0 hS (lv_sub hl [2, 6] rfl) (by omega) (by omega)
    · first | exact absurd c4 (by decide) | exact (c4 (by decide)).elim
  · first | exact absurd c3 (by decide) | exact (c3 (by decide)).elim

set_option maxHeartbeats 4000000 in
set_option maxRecDepth 100000 in
/-- case 21 of the law: fire -/
theorem law_fire {p : Program} {l : Launch} {e : Env} {s : State} {m : MethodId} {below : List Frame} {meth : Method} {c : Code} {b : Nat} {xs : Nat → Int32} (hlt : l.stackTraces = false) (C0 : lw_At p s m meth c b 4 xs) {dC : Nat → ClassId} {dI : Nat → Nat → Nat} {cI cII cJ cJJ cZ cO : ClassId} {tp : Nat} {f : Nat → Nat} {er tr kr : Nat → Nat} {mo eo : Nat} {e2 : Nat → Nat} {gr av ro co kl dd out : Nat} (hK : va_K (dC, dI) vwCl (tyR cI cII cJ cJJ cZ cO) s) (hE : EnvX (lwA s) s s.heap) (hER : EnvR dd (lwA s) s s.heap) (hnc : va_Nc exA exI s) {H : Heap} {locs : List Loc} {ls : Array Slot} (hP : va_P (dC, dI) vwCl (wR (nI 0) z0 mo eo e2 gr av ro co kl dd cI cII ++ (wF tp f er tr kr cI cII cJ cJJ ++ wO cJ out oZ)) H) (hD : va_D (lwA s) (wR (nI 0) z0 mo eo e2 gr av ro co kl dd cI cII ++ (wF tp f er tr kr cI cII cJ cJJ ++ wO cJ out oZ))) (hS : va_S (lwA s) s.heap H locs) (hl : lv_has ls 9 [(0, .ref b), (1, .ref tp), (2, .ref mo), (3, .ref out), (4, .int (nI 0))]) : W p l e room_1 s m #[Value.ref b] below meth c H locs 100 1000 (lw_Z below #[Value.ref b] s) (F0 m 1327 ls []) := by
  obtain ⟨hx, hb, hr, hml, hown, hts0, hX, hbl, hlocks, hgv⟩ := id C0
  have hA : ∀ q : Nat, s.heap.size ≤ q → (lwA s) q := fun _ h => h
  have hbA : ¬ (lwA s) b := Nat.not_le.mpr hbl
  have hts : ∀ w ∈ wsL_law, w.before #[Value.ref b] s = true := fun w h => hts0 w (wsL_law_in w h)
  have hKc : va_K (dC, dI) vwCl (tyL cI cII cJ cJJ) s := hK.sub [0, 1, 2, 3] rfl
  refine lv_aload_n hx hb dL_law_1327 rfl (lv_at hl 1 rfl) ?_
  refine kt_newI (wC := wF tp f er tr kr cI cII cJ cJJ) (wR9 := wR (nI 0) z0 mo eo e2 gr av ro co kl dd cI cII) (wN := fun (_ : Unit) => wTop tp (f 0) (f 1) (f 2) (fun _ => 0) (fun _ => 0) (f 3) (f 4) (f 5) (fun _ => 0) (fun _ => 0) (f 6) (f 7) (f 8) (fun _ => 0) (fun _ => 0) (f 9) (f 10) (f 11) (fun _ => 0) (fun _ => 0) (f 12) kr (fun _ _ => 0) 0 0 0 (f 13) (f 14) (fun _ => 0) 0 (f 15) (f 16) (fun _ => 0) (f 17) (f 18) (f 19) (fun _ => 0) (fun _ => 0) (f 20) (f 21) (f 22) (fun _ => 0) (fun _ => 0) cJ cJJ cI cII (f 23) (f 24) (f 25) (f 26) er 0 (fun _ _ => 0) (fun _ => 0) tr (fun _ _ => 0)) (tys := (tyL cI cII cJ cJJ)) (va_runV (As := []) (rest := []) ⟨hx, hb, hml, hown, hts⟩ (c_X4_fire l dC dI cI cII cJ cJJ tp (f 0) (f 1) (f 2) (fun _ => 0) (fun _ => 0) (f 3) (f 4) (f 5) (fun _ => 0) (fun _ => 0) (f 6) (f 7) (f 8) (fun _ => 0) (fun _ => 0) (f 9) (f 10) (f 11) (fun _ => 0) (fun _ => 0) (f 12) kr (fun _ _ => 0) 0 0 0 (f 13) (f 14) (fun _ => 0) 0 (f 15) (f 16) (fun _ => 0) (f 17) (f 18) (f 19) (fun _ => 0) (fun _ => 0) (f 20) (f 21) (f 22) (fun _ => 0) (fun _ => 0) (f 23) (f 24) (f 25) (f 26) er 0 (fun _ _ => 0) (fun _ => 0) tr (fun _ _ => 0) _ (by omega)) (cwV 0 hts gL_law_X4_fire rfl rfl rfl (by decide +kernel) ⟨Nat.le_of_ble_eq_true rfl, Nat.le_of_ble_eq_true rfl⟩) (kt_preV (q0 := 14) (ci := kX4) hKc hP hD (List.range' 14 45) rfl rfl rfl rfl rfl) rfl rfl hl.1 rfl (lv_room (Nat.le_of_ble_eq_true rfl)) dL_law_1328 ⟨Nat.le_of_ble_eq_true rfl, Nat.le_of_ble_eq_true rfl⟩) hP hD hS hA (List.range' 14 45) (List.range' 0 14) rfl rfl rfl (by decide) (fun u H locs hP hD hS => ?_)
  have hP := kt_sub (wC := wR (nI 0) z0 mo eo e2 gr av ro co kl dd cI cII) hP (List.range' 0 14) rfl
  have hD := hD.sub (ws' := wR (nI 0) z0 mo eo e2 gr av ro co kl dd cI cII) (List.range' 0 14) rfl rfl
  refine W.widen (k := 100) (n := 1000) (by omega) (by omega) ?_
  refine lv_aload_n hx hb dL_law_1331 rfl (lv_at hl 2 rfl) ?_
  refine kt_newI (wC := wR (nI 0) z0 mo eo e2 gr av ro co kl dd cI cII) (wR9 := ([] : va_W)) (wN := fun (u : List Value) => wU mo (nI 0) u) (va_runV (As := []) (rest := [.int (fireF 0 (fun _ _ => 0) (fun _ => 0))]) ⟨hx, hb, hml, hown, hts⟩ (t_fire l dC dI cI cII cJ cJJ cZ cO mo eo e2 gr av ro co kl dd _ ) (cwV 0 hts gL_law_X5_fire rfl rfl rfl (by decide +kernel) ⟨Nat.le_of_ble_eq_true rfl, Nat.le_of_ble_eq_true rfl⟩) (kt_preV (q0 := 0) (ci := kX5) hK hP hD (List.range' 0 14) rfl rfl rfl rfl rfl) rfl rfl hl.1 rfl (lv_room (Nat.le_of_ble_eq_true rfl)) dL_law_1332 ⟨Nat.le_of_ble_eq_true rfl, Nat.le_of_ble_eq_true rfl⟩) hP hD hS hA (List.range' 0 14) [] rfl rfl rfl (by decide) (fun u9 H locs hP hD hS => ?_)
  have hP : va_P (dC, dI) vwCl (wU mo (nI 0) u9) H := hP
  have hD : va_D (lwA s) (wU mo (nI 0) u9) := hD
  refine W.widen (k := 100) (n := 1000) (by omega) (by omega) ?_
  refine lv_icmp_eq (tgt := 1493) hx hb dL_law_1335 (by decide) (fun c1 => ?_) (fun c1 => ?_)
  · skip
    exact law_end C0 hS (lv_sub hl [0, 4] rfl) (by omega) (by omega)
  · exact absurd (by decide +kernel) c1

set_option maxHeartbeats 4000000 in
set_option maxRecDepth 100000 in
/-- case 22 of the law: order -/
theorem law_order {p : Program} {l : Launch} {e : Env} {s : State} {m : MethodId} {below : List Frame} {meth : Method} {c : Code} {b : Nat} {xs : Nat → Int32} (hlt : l.stackTraces = false) (C0 : lw_At p s m meth c b 4 xs) {dC : Nat → ClassId} {dI : Nat → Nat → Nat} {cI cII cJ cJJ cZ cO : ClassId} {tp : Nat} {f : Nat → Nat} {er tr kr : Nat → Nat} {mo eo : Nat} {e2 : Nat → Nat} {gr av ro co kl dd out : Nat} (hK : va_K (dC, dI) vwCl (tyR cI cII cJ cJJ cZ cO) s) (hE : EnvX (lwA s) s s.heap) (hER : EnvR dd (lwA s) s s.heap) (hnc : va_Nc exA exI s) {H : Heap} {locs : List Loc} {ls : Array Slot} (hP : va_P (dC, dI) vwCl (wR (nI 0) z0 mo eo e2 gr av ro co kl dd cI cII ++ (wF tp f er tr kr cI cII cJ cJJ ++ wO cJ out oZ)) H) (hD : va_D (lwA s) (wR (nI 0) z0 mo eo e2 gr av ro co kl dd cI cII ++ (wF tp f er tr kr cI cII cJ cJJ ++ wO cJ out oZ))) (hS : va_S (lwA s) s.heap H locs) (hl : lv_has ls 9 [(0, .ref b), (1, .ref tp), (2, .ref mo), (3, .ref out), (4, .int (nI 0))]) : W p l e room_1 s m #[Value.ref b] below meth c H locs 100 1000 (lw_Z below #[Value.ref b] s) (F0 m 1340 ls []) := by
  obtain ⟨hx, hb, hr, hml, hown, hts0, hX, hbl, hlocks, hgv⟩ := id C0
  have hA : ∀ q : Nat, s.heap.size ≤ q → (lwA s) q := fun _ h => h
  have hbA : ¬ (lwA s) b := Nat.not_le.mpr hbl
  have hts : ∀ w ∈ wsL_law, w.before #[Value.ref b] s = true := fun w h => hts0 w (wsL_law_in w h)
  have hKc : va_K (dC, dI) vwCl (tyL cI cII cJ cJJ) s := hK.sub [0, 1, 2, 3] rfl
  refine lv_aload_n hx hb dL_law_1340 rfl (lv_at hl 1 rfl) ?_
  refine lv_aload_n hx hb dL_law_1341 rfl (lv_at hl 3 rfl) ?_
  have hF9 := va_free (wc := wF tp f er tr kr cI cII cJ cJJ ++ wO cJ out oZ) hD hS hA (List.range' 14 46) rfl
  refine kt_newI (wC := wF tp f er tr kr cI cII cJ cJJ ++ wO cJ out oZ) (wR9 := wR (nI 0) z0 mo eo e2 gr av ro co kl dd cI cII) (wN := fun (_ : Unit) => ([] : va_W)) (tys := (tyL cI cII cJ cJJ)) (vx_runSW (As := [.ref tp, .ref out]) (rest := []) ⟨hx, hb, hml, hown, hts⟩ (h_order l hlt dC dI cI cII cJ cJJ tp f er tr kr out  _ ) (vx_cwSW 2 hts gL_law_L_order rfl rfl rfl (by decide +kernel) ⟨Nat.le_of_ble_eq_true rfl, Nat.le_of_ble_eq_true rfl⟩) (kt_preSH hKc hP hD hS hE hnc hF9 (List.range' 14 46) rfl rfl) rfl rfl hl.1 rfl (lv_room (Nat.le_of_ble_eq_true rfl)) dL_law_1342 ⟨Nat.le_of_ble_eq_true rfl, Nat.le_of_ble_eq_true rfl⟩) hP hD hS hA (List.range' 14 46) (List.range' 0 14) rfl rfl rfl (by decide) (fun u H locs hP hD hS => ?_)
  have hP := kt_sub (wC := wR (nI 0) z0 mo eo e2 gr av ro co kl dd cI cII) hP (List.range' 0 14) rfl
  have hD := hD.sub (ws' := wR (nI 0) z0 mo eo e2 gr av ro co kl dd cI cII) (List.range' 0 14) rfl rfl
  refine W.widen (k := 101) (n := 1006) (by omega) (by omega) ?_
  refine lv_istore (lv' := [(5, .int (nI 1)), (0, .ref b), (1, .ref tp), (2, .ref mo), (3, .ref out), (4, .int (nI 0))]) hx hb dL_law_1345 hl (by decide) rfl (fun ls hl => ?_)
  refine lv_aload_n hx hb dL_law_1347 rfl (lv_at hl 3 rfl) ?_
  refine kt_newI (wC := wR (nI 0) z0 mo eo e2 gr av ro co kl dd cI cII) (wR9 := ([] : va_W)) (wN := fun (u : List Value) => wU mo (nI 1) u) (va_runV (As := []) (rest := []) ⟨hx, hb, hml, hown, hts⟩ (t_order l dC dI cI cII cJ cJJ cZ cO mo eo e2 gr av ro co kl dd _ ) (cwV 0 hts gL_law_X5_order rfl rfl rfl (by decide +kernel) ⟨Nat.le_of_ble_eq_true rfl, Nat.le_of_ble_eq_true rfl⟩) (kt_preV (q0 := 0) (ci := kX5) hK hP hD (List.range' 0 14) rfl rfl rfl rfl rfl) rfl rfl hl.1 rfl (lv_room (Nat.le_of_ble_eq_true rfl)) dL_law_1348 ⟨Nat.le_of_ble_eq_true rfl, Nat.le_of_ble_eq_true rfl⟩) hP hD hS hA (List.range' 0 14) [] rfl rfl rfl (by decide) (fun u9 H locs hP hD hS => ?_)
  have hP : va_P (dC, dI) vwCl (wU mo (nI 1) u9) H := hP
  have hD : va_D (lwA s) (wU mo (nI 1) u9) := hD
  refine W.widen (k := 102) (n := 1013) (by omega) (by omega) ?_
  refine lv_istore (lv' := [(6, .int (nI 0)), (5, .int (nI 1)), (0, .ref b), (1, .ref tp), (2, .ref mo), (3, .ref out), (4, .int (nI 0))]) hx hb dL_law_1351 hl (by decide) rfl (fun ls hl => ?_)
  refine lv_aload_n hx hb dL_law_1353 rfl (lv_at hl 4 rfl) ?_
  refine kt_calliM (w' := wU mo (nI 1) u9) (rest := []) (As := []) ⟨hx, hb, hml, hown, hts⟩ (c_X5_thrown l dC dI cI cII cJ cJJ cZ cO mo (nI 1) u9 _) (cwV 0 hts gL_law_X5_thrown rfl rfl rfl (by decide +kernel) ⟨Nat.le_of_ble_eq_true rfl, Nat.le_of_ble_eq_true rfl⟩) hK hP hD hS hA [0] ⟨rfl, ⟨[some 0], rfl, by decide +kernel⟩, rfl⟩ rfl 0 kX5 rfl rfl rfl rfl rfl hl.1 (Nat.le_of_ble_eq_true rfl) dL_law_1354 ⟨Nat.le_of_ble_eq_true rfl, Nat.le_of_ble_eq_true rfl⟩ (fun H locs hP hD hS => ?_)
  have hP : va_P (dC, dI) vwCl (wU mo (nI 1) u9) H := hP
  have hD : va_D (lwA s) (wU mo (nI 1) u9) := hD
  refine W.widen (k := 102) (n := 1013) (by omega) (by omega) ?_
  refine lv_iload hx hb dL_law_1357 (lv_at hl 1 rfl) ?_
  refine lv_icmp_eq (tgt := 1364) hx hb dL_law_1359 (by decide) (fun c1 => ?_) (fun c1 => ?_)
  · skip
    refine lv_iload hx hb dL_law_1364 (lv_at hl 1 rfl) ?_
    refine lv_if_ne (tgt := 1381) hx hb dL_law_1366 (by decide) (fun c2 => ?_) (fun c2 => ?_)
    · skip
      refine lv_goto (tgt := 1493) hx hb dL_law_1381 (by decide) ?_
      exact law_end C0 hS (lv_sub hl [2, 6] rfl) (by omega) (by omega)
    · first | exact absurd c2 (by decide) | exact (c2 (by decide)).elim
  · first | exact absurd c1 (by decide) | exact (c1 (by decide)).elim

set_option maxHeartbeats 4000000 in
set_option maxRecDepth 100000 in
/-- case 23 of the law: canPay -/
theorem law_canPay {p : Program} {l : Launch} {e : Env} {s : State} {m : MethodId} {below : List Frame} {meth : Method} {c : Code} {b : Nat} {xs : Nat → Int32} (hlt : l.stackTraces = false) (C0 : lw_At p s m meth c b 4 xs) {dC : Nat → ClassId} {dI : Nat → Nat → Nat} {cI cII cJ cJJ cZ cO : ClassId} {tp : Nat} {f : Nat → Nat} {er tr kr : Nat → Nat} {mo eo : Nat} {e2 : Nat → Nat} {gr av ro co kl dd out : Nat} (hK : va_K (dC, dI) vwCl (tyR cI cII cJ cJJ cZ cO) s) (hE : EnvX (lwA s) s s.heap) (hER : EnvR dd (lwA s) s s.heap) (hnc : va_Nc exA exI s) {H : Heap} {locs : List Loc} {ls : Array Slot} (hP : va_P (dC, dI) vwCl (wR (nI 0) z0 mo eo e2 gr av ro co kl dd cI cII ++ (wF tp f er tr kr cI cII cJ cJJ ++ wO cJ out oZ)) H) (hD : va_D (lwA s) (wR (nI 0) z0 mo eo e2 gr av ro co kl dd cI cII ++ (wF tp f er tr kr cI cII cJ cJJ ++ wO cJ out oZ))) (hS : va_S (lwA s) s.heap H locs) (hl : lv_has ls 9 [(0, .ref b), (1, .ref tp), (2, .ref mo), (3, .ref out), (4, .int (nI 0))]) : W p l e room_1 s m #[Value.ref b] below meth c H locs 100 1000 (lw_Z below #[Value.ref b] s) (F0 m 1384 ls []) := by
  obtain ⟨hx, hb, hr, hml, hown, hts0, hX, hbl, hlocks, hgv⟩ := id C0
  have hA : ∀ q : Nat, s.heap.size ≤ q → (lwA s) q := fun _ h => h
  have hbA : ¬ (lwA s) b := Nat.not_le.mpr hbl
  have hts : ∀ w ∈ wsL_law, w.before #[Value.ref b] s = true := fun w h => hts0 w (wsL_law_in w h)
  have hKc : va_K (dC, dI) vwCl (tyL cI cII cJ cJJ) s := hK.sub [0, 1, 2, 3] rfl
  refine lv_aload_n hx hb dL_law_1384 rfl (lv_at hl 1 rfl) ?_
  refine lv_aload_n hx hb dL_law_1385 rfl (lv_at hl 3 rfl) ?_
  have hF9 := va_free (wc := wF tp f er tr kr cI cII cJ cJJ ++ wO cJ out oZ) hD hS hA (List.range' 14 46) rfl
  refine kt_newI (wC := wF tp f er tr kr cI cII cJ cJJ ++ wO cJ out oZ) (wR9 := wR (nI 0) z0 mo eo e2 gr av ro co kl dd cI cII) (wN := fun (_ : Unit) => ([] : va_W)) (tys := (tyL cI cII cJ cJJ)) (vx_runSW (As := [.ref tp, .ref out]) (rest := []) ⟨hx, hb, hml, hown, hts⟩ (h_canPay l hlt dC dI cI cII cJ cJJ tp f er tr kr out  _ ) (vx_cwSW 2 hts gL_law_L_canPay rfl rfl rfl (by decide +kernel) ⟨Nat.le_of_ble_eq_true rfl, Nat.le_of_ble_eq_true rfl⟩) (kt_preSH hKc hP hD hS hE hnc hF9 (List.range' 14 46) rfl rfl) rfl rfl hl.1 rfl (lv_room (Nat.le_of_ble_eq_true rfl)) dL_law_1386 ⟨Nat.le_of_ble_eq_true rfl, Nat.le_of_ble_eq_true rfl⟩) hP hD hS hA (List.range' 14 46) (List.range' 0 14) rfl rfl rfl (by decide) (fun u H locs hP hD hS => ?_)
  have hP := kt_sub (wC := wR (nI 0) z0 mo eo e2 gr av ro co kl dd cI cII) hP (List.range' 0 14) rfl
  have hD := hD.sub (ws' := wR (nI 0) z0 mo eo e2 gr av ro co kl dd cI cII) (List.range' 0 14) rfl rfl
  refine W.widen (k := 101) (n := 1006) (by omega) (by omega) ?_
  refine lv_istore (lv' := [(5, .int (nI 1)), (0, .ref b), (1, .ref tp), (2, .ref mo), (3, .ref out), (4, .int (nI 0))]) hx hb dL_law_1389 hl (by decide) rfl (fun ls hl => ?_)
  refine lv_aload_n hx hb dL_law_1391 rfl (lv_at hl 3 rfl) ?_
  refine kt_newI (wC := wR (nI 0) z0 mo eo e2 gr av ro co kl dd cI cII) (wR9 := ([] : va_W)) (wN := fun (u : List Value) => wU mo (nI 1) u) (va_runV (As := []) (rest := []) ⟨hx, hb, hml, hown, hts⟩ (t_canPay l dC dI cI cII cJ cJJ cZ cO mo eo e2 gr av ro co kl dd _ ) (cwV 0 hts gL_law_X5_canPay rfl rfl rfl (by decide +kernel) ⟨Nat.le_of_ble_eq_true rfl, Nat.le_of_ble_eq_true rfl⟩) (kt_preV (q0 := 0) (ci := kX5) hK hP hD (List.range' 0 14) rfl rfl rfl rfl rfl) rfl rfl hl.1 rfl (lv_room (Nat.le_of_ble_eq_true rfl)) dL_law_1392 ⟨Nat.le_of_ble_eq_true rfl, Nat.le_of_ble_eq_true rfl⟩) hP hD hS hA (List.range' 0 14) [] rfl rfl rfl (by decide) (fun u9 H locs hP hD hS => ?_)
  have hP : va_P (dC, dI) vwCl (wU mo (nI 1) u9) H := hP
  have hD : va_D (lwA s) (wU mo (nI 1) u9) := hD
  refine W.widen (k := 102) (n := 1013) (by omega) (by omega) ?_
  refine lv_istore (lv' := [(6, .int (nI 0)), (5, .int (nI 1)), (0, .ref b), (1, .ref tp), (2, .ref mo), (3, .ref out), (4, .int (nI 0))]) hx hb dL_law_1395 hl (by decide) rfl (fun ls hl => ?_)
  refine lv_aload_n hx hb dL_law_1397 rfl (lv_at hl 4 rfl) ?_
  refine kt_calliM (w' := wU mo (nI 1) u9) (rest := []) (As := []) ⟨hx, hb, hml, hown, hts⟩ (c_X5_thrown l dC dI cI cII cJ cJJ cZ cO mo (nI 1) u9 _) (cwV 0 hts gL_law_X5_thrown rfl rfl rfl (by decide +kernel) ⟨Nat.le_of_ble_eq_true rfl, Nat.le_of_ble_eq_true rfl⟩) hK hP hD hS hA [0] ⟨rfl, ⟨[some 0], rfl, by decide +kernel⟩, rfl⟩ rfl 0 kX5 rfl rfl rfl rfl rfl hl.1 (Nat.le_of_ble_eq_true rfl) dL_law_1398 ⟨Nat.le_of_ble_eq_true rfl, Nat.le_of_ble_eq_true rfl⟩ (fun H locs hP hD hS => ?_)
  have hP : va_P (dC, dI) vwCl (wU mo (nI 1) u9) H := hP
  have hD : va_D (lwA s) (wU mo (nI 1) u9) := hD
  refine W.widen (k := 102) (n := 1013) (by omega) (by omega) ?_
  refine lv_iload hx hb dL_law_1401 (lv_at hl 1 rfl) ?_
  refine lv_icmp_eq (tgt := 1408) hx hb dL_law_1403 (by decide) (fun c1 => ?_) (fun c1 => ?_)
  · skip
    refine lv_iload hx hb dL_law_1408 (lv_at hl 1 rfl) ?_
    refine lv_if_ne (tgt := 1432) hx hb dL_law_1410 (by decide) (fun c2 => ?_) (fun c2 => ?_)
    · skip
      refine lv_goto (tgt := 1493) hx hb dL_law_1432 (by decide) ?_
      exact law_end C0 hS (lv_sub hl [2, 6] rfl) (by omega) (by omega)
    · first | exact absurd c2 (by decide) | exact (c2 (by decide)).elim
  · first | exact absurd c1 (by decide) | exact (c1 (by decide)).elim

set_option maxHeartbeats 4000000 in
set_option maxRecDepth 100000 in
/-- case 24 of the law: weakest -/
theorem law_weakest {p : Program} {l : Launch} {e : Env} {s : State} {m : MethodId} {below : List Frame} {meth : Method} {c : Code} {b : Nat} {xs : Nat → Int32} (hlt : l.stackTraces = false) (C0 : lw_At p s m meth c b 4 xs) {dC : Nat → ClassId} {dI : Nat → Nat → Nat} {cI cII cJ cJJ cZ cO : ClassId} {tp : Nat} {f : Nat → Nat} {er tr kr : Nat → Nat} {mo eo : Nat} {e2 : Nat → Nat} {gr av ro co kl dd out : Nat} (hK : va_K (dC, dI) vwCl (tyR cI cII cJ cJJ cZ cO) s) (hE : EnvX (lwA s) s s.heap) (hER : EnvR dd (lwA s) s s.heap) (hnc : va_Nc exA exI s) {H : Heap} {locs : List Loc} {ls : Array Slot} (hP : va_P (dC, dI) vwCl (wR (nI 0) z0 mo eo e2 gr av ro co kl dd cI cII ++ (wF tp f er tr kr cI cII cJ cJJ ++ wO cJ out oZ)) H) (hD : va_D (lwA s) (wR (nI 0) z0 mo eo e2 gr av ro co kl dd cI cII ++ (wF tp f er tr kr cI cII cJ cJJ ++ wO cJ out oZ))) (hS : va_S (lwA s) s.heap H locs) (hl : lv_has ls 9 [(0, .ref b), (1, .ref tp), (2, .ref mo), (3, .ref out), (4, .int (nI 0))]) : W p l e room_1 s m #[Value.ref b] below meth c H locs 100 1000 (lw_Z below #[Value.ref b] s) (F0 m 1435 ls []) := by
  obtain ⟨hx, hb, hr, hml, hown, hts0, hX, hbl, hlocks, hgv⟩ := id C0
  have hA : ∀ q : Nat, s.heap.size ≤ q → (lwA s) q := fun _ h => h
  have hbA : ¬ (lwA s) b := Nat.not_le.mpr hbl
  have hts : ∀ w ∈ wsL_law, w.before #[Value.ref b] s = true := fun w h => hts0 w (wsL_law_in w h)
  have hKc : va_K (dC, dI) vwCl (tyL cI cII cJ cJJ) s := hK.sub [0, 1, 2, 3] rfl
  refine lv_aload_n hx hb dL_law_1435 rfl (lv_at hl 1 rfl) ?_
  refine lv_aload_n hx hb dL_law_1436 rfl (lv_at hl 3 rfl) ?_
  have hF9 := va_free (wc := wF tp f er tr kr cI cII cJ cJJ ++ wO cJ out oZ) hD hS hA (List.range' 14 46) rfl
  refine kt_newI (wC := wF tp f er tr kr cI cII cJ cJJ ++ wO cJ out oZ) (wR9 := wR (nI 0) z0 mo eo e2 gr av ro co kl dd cI cII) (wN := fun (_ : Unit) => ([] : va_W)) (tys := (tyL cI cII cJ cJJ)) (vx_runSW (As := [.ref tp, .ref out]) (rest := []) ⟨hx, hb, hml, hown, hts⟩ (h_weakest l hlt dC dI cI cII cJ cJJ tp f er tr kr out  _ ) (vx_cwSW 2 hts gL_law_L_weakest rfl rfl rfl (by decide +kernel) ⟨Nat.le_of_ble_eq_true rfl, Nat.le_of_ble_eq_true rfl⟩) (kt_preSH hKc hP hD hS hE hnc hF9 (List.range' 14 46) rfl rfl) rfl rfl hl.1 rfl (lv_room (Nat.le_of_ble_eq_true rfl)) dL_law_1437 ⟨Nat.le_of_ble_eq_true rfl, Nat.le_of_ble_eq_true rfl⟩) hP hD hS hA (List.range' 14 46) (List.range' 0 14) rfl rfl rfl (by decide) (fun u H locs hP hD hS => ?_)
  have hP := kt_sub (wC := wR (nI 0) z0 mo eo e2 gr av ro co kl dd cI cII) hP (List.range' 0 14) rfl
  have hD := hD.sub (ws' := wR (nI 0) z0 mo eo e2 gr av ro co kl dd cI cII) (List.range' 0 14) rfl rfl
  refine W.widen (k := 101) (n := 1006) (by omega) (by omega) ?_
  refine lv_istore (lv' := [(5, .int (nI 1)), (0, .ref b), (1, .ref tp), (2, .ref mo), (3, .ref out), (4, .int (nI 0))]) hx hb dL_law_1440 hl (by decide) rfl (fun ls hl => ?_)
  refine lv_aload_n hx hb dL_law_1442 rfl (lv_at hl 3 rfl) ?_
  refine kt_newI (wC := wR (nI 0) z0 mo eo e2 gr av ro co kl dd cI cII) (wR9 := ([] : va_W)) (wN := fun (u : List Value) => wU mo (nI 1) u) (va_runV (As := []) (rest := []) ⟨hx, hb, hml, hown, hts⟩ (t_weakest l dC dI cI cII cJ cJJ cZ cO mo eo e2 gr av ro co kl dd _ ) (cwV 0 hts gL_law_X5_weakest rfl rfl rfl (by decide +kernel) ⟨Nat.le_of_ble_eq_true rfl, Nat.le_of_ble_eq_true rfl⟩) (kt_preV (q0 := 0) (ci := kX5) hK hP hD (List.range' 0 14) rfl rfl rfl rfl rfl) rfl rfl hl.1 rfl (lv_room (Nat.le_of_ble_eq_true rfl)) dL_law_1443 ⟨Nat.le_of_ble_eq_true rfl, Nat.le_of_ble_eq_true rfl⟩) hP hD hS hA (List.range' 0 14) [] rfl rfl rfl (by decide) (fun u9 H locs hP hD hS => ?_)
  have hP : va_P (dC, dI) vwCl (wU mo (nI 1) u9) H := hP
  have hD : va_D (lwA s) (wU mo (nI 1) u9) := hD
  refine W.widen (k := 102) (n := 1013) (by omega) (by omega) ?_
  refine lv_istore (lv' := [(6, .int (nI 0)), (5, .int (nI 1)), (0, .ref b), (1, .ref tp), (2, .ref mo), (3, .ref out), (4, .int (nI 0))]) hx hb dL_law_1446 hl (by decide) rfl (fun ls hl => ?_)
  refine lv_aload_n hx hb dL_law_1448 rfl (lv_at hl 4 rfl) ?_
  refine kt_calliM (w' := wU mo (nI 1) u9) (rest := []) (As := []) ⟨hx, hb, hml, hown, hts⟩ (c_X5_thrown l dC dI cI cII cJ cJJ cZ cO mo (nI 1) u9 _) (cwV 0 hts gL_law_X5_thrown rfl rfl rfl (by decide +kernel) ⟨Nat.le_of_ble_eq_true rfl, Nat.le_of_ble_eq_true rfl⟩) hK hP hD hS hA [0] ⟨rfl, ⟨[some 0], rfl, by decide +kernel⟩, rfl⟩ rfl 0 kX5 rfl rfl rfl rfl rfl hl.1 (Nat.le_of_ble_eq_true rfl) dL_law_1449 ⟨Nat.le_of_ble_eq_true rfl, Nat.le_of_ble_eq_true rfl⟩ (fun H locs hP hD hS => ?_)
  have hP : va_P (dC, dI) vwCl (wU mo (nI 1) u9) H := hP
  have hD : va_D (lwA s) (wU mo (nI 1) u9) := hD
  refine W.widen (k := 102) (n := 1013) (by omega) (by omega) ?_
  refine lv_iload hx hb dL_law_1452 (lv_at hl 1 rfl) ?_
  refine lv_icmp_eq (tgt := 1459) hx hb dL_law_1454 (by decide) (fun c1 => ?_) (fun c1 => ?_)
  · skip
    refine lv_iload hx hb dL_law_1459 (lv_at hl 1 rfl) ?_
    refine lv_if_ne (tgt := 1476) hx hb dL_law_1461 (by decide) (fun c2 => ?_) (fun c2 => ?_)
    · skip
      refine lv_goto (tgt := 1493) hx hb dL_law_1476 (by decide) ?_
      exact law_end C0 hS (lv_sub hl [2, 6] rfl) (by omega) (by omega)
    · first | exact absurd c2 (by decide) | exact (c2 (by decide)).elim
  · first | exact absurd c1 (by decide) | exact (c1 (by decide)).elim
