/-! cases of the law (printed by wip/gen/lawcase.py) -/
set_option maxHeartbeats 4000000 in
set_option maxRecDepth 100000 in
/-- case 25 of the law: digest -/
theorem law_digest {p : Program} {l : Launch} {e : Env} {s : State} {m : MethodId} {below : List Frame} {meth : Method} {c : Code} {b : Nat} {xs : Nat → Int32} (hlt : l.stackTraces = false) (C0 : lw_At p s m meth c b 4 xs) {dC : Nat → ClassId} {dI : Nat → Nat → Nat} {cI cII cJ cJJ cZ cO : ClassId} {tp : Nat} {f : Nat → Nat} {er tr kr : Nat → Nat} {mo eo : Nat} {e2 : Nat → Nat} {gr av ro co kl dd out : Nat} (hK : va_K (dC, dI) vwCl (tyR cI cII cJ cJJ cZ cO) s) (hE : EnvX (lwA s) s s.heap) (hER : EnvR dd (lwA s) s s.heap) (hnc : va_Nc exA exI s) {H : Heap} {locs : List Loc} {ls : Array Slot} (hP : va_P (dC, dI) vwCl (wR (nI 0) z0 mo eo e2 gr av ro co kl dd cI cII ++ (wF tp f er tr kr cI cII cJ cJJ ++ wO cJ out oZ)) H) (hD : va_D (lwA s) (wR (nI 0) z0 mo eo e2 gr av ro co kl dd cI cII ++ (wF tp f er tr kr cI cII cJ cJJ ++ wO cJ out oZ))) (hS : va_S (lwA s) s.heap H locs) (hl : lv_has ls 9 [(0, .ref b), (1, .ref tp), (2, .ref mo), (3, .ref out), (4, .int (nI 0))]) : W p l e room_1 s m #[Value.ref b] below meth c H locs 100 1000 (lw_Z below #[Value.ref b] s) (F0 m 1479 ls []) := by
  obtain ⟨hx, hb, hr, hml, hown, hts0, hX, hbl, hlocks, hgv⟩ := id C0
  have hA : ∀ q : Nat, s.heap.size ≤ q → (lwA s) q := fun _ h => h
  have hbA : ¬ (lwA s) b := Nat.not_le.mpr hbl
  have hts : ∀ w ∈ wsL_law, w.before #[Value.ref b] s = true := fun w h => hts0 w (wsL_law_in w h)
  have hKc : va_K (dC, dI) vwCl (tyL cI cII cJ cJJ) s := hK.sub [0, 1, 2, 3] rfl
  refine lv_aload_n hx hb dL_law_1479 rfl (lv_at hl 1 rfl) ?_
  refine kt_newL (wC := wF tp f er tr kr cI cII cJ cJJ) (wR9 := wR (nI 0) z0 mo eo e2 gr av ro co kl dd cI cII) (wN := fun (_ : Unit) => wTop tp (f 0) (f 1) (f 2) (fun _ => 0) (fun _ => 0) (f 3) (f 4) (f 5) (fun _ => 0) (fun _ => 0) (f 6) (f 7) (f 8) (fun _ => 0) (fun _ => 0) (f 9) (f 10) (f 11) (fun _ => 0) (fun _ => 0) (f 12) kr (fun _ _ => 0) 0 0 0 (f 13) (f 14) (fun _ => 0) 0 (f 15) (f 16) (fun _ => 0) (f 17) (f 18) (f 19) (fun _ => 0) (fun _ => 0) (f 20) (f 21) (f 22) (fun _ => 0) (fun _ => 0) cJ cJJ cI cII (f 23) (f 24) (f 25) (f 26) er 0 (fun _ _ => 0) (fun _ => 0) tr ((treeF 0 (fun _ _ => 0) (fun _ => 0) (fun _ _ => 0)).1)) (tys := (tyL cI cII cJ cJJ)) (va_runV (As := []) (rest := []) ⟨hx, hb, hml, hown, hts⟩ (c_X4_digest_slow l dC dI cI cII cJ cJJ tp (f 0) (f 1) (f 2) (fun _ => 0) (fun _ => 0) (f 3) (f 4) (f 5) (fun _ => 0) (fun _ => 0) (f 6) (f 7) (f 8) (fun _ => 0) (fun _ => 0) (f 9) (f 10) (f 11) (fun _ => 0) (fun _ => 0) (f 12) kr (fun _ _ => 0) 0 0 0 (f 13) (f 14) (fun _ => 0) 0 (f 15) (f 16) (fun _ => 0) (f 17) (f 18) (f 19) (fun _ => 0) (fun _ => 0) (f 20) (f 21) (f 22) (fun _ => 0) (fun _ => 0) (f 23) (f 24) (f 25) (f 26) er 0 (fun _ _ => 0) (fun _ => 0) tr (fun _ _ => 0) _ (by omega) (by omega) (slow0)) (cwV 0 hts gL_law_X4_digest rfl rfl rfl (by decide +kernel) ⟨Nat.le_of_ble_eq_true rfl, Nat.le_of_ble_eq_true rfl⟩) (kt_preV (q0 := 14) (ci := kX4) hKc hP hD (List.range' 14 45) rfl rfl rfl rfl rfl) rfl rfl hl.1 rfl (lv_room (Nat.le_of_ble_eq_true rfl)) dL_law_1480 ⟨Nat.le_of_ble_eq_true rfl, Nat.le_of_ble_eq_true rfl⟩) hP hD hS hA (List.range' 14 45) (List.range' 0 14) rfl rfl rfl (by decide) (fun u H locs hP hD hS => ?_)
  have hP := kt_sub (wC := wR (nI 0) z0 mo eo e2 gr av ro co kl dd cI cII) hP (List.range' 0 14) rfl
  have hD := hD.sub (ws' := wR (nI 0) z0 mo eo e2 gr av ro co kl dd cI cII) (List.range' 0 14) rfl rfl
  refine W.widen (k := 100) (n := 1000) (by omega) (by omega) ?_
  refine lv_aload_n hx hb dL_law_1483 rfl (lv_at hl 2 rfl) ?_
  refine kt_newL (wC := wR (nI 0) z0 mo eo e2 gr av ro co kl dd cI cII) (wR9 := ([] : va_W)) (wN := fun (u : List Value) => wU mo (nI 0) u) (va_runV (As := []) (rest := [.long (dig4 0 (fun _ _ => 0) (fun _ => 0) (fun _ => 0) (fun _ => 0) (fun _ => 0) (fun _ => 0) 0 0 0 0 (fun _ _ => 0) (fun _ _ => 0))]) ⟨hx, hb, hml, hown, hts⟩ (t_digest l dC dI cI cII cJ cJJ cZ cO mo eo e2 gr av ro co kl dd _ ) (cwV 0 hts gL_law_X5_digest rfl rfl rfl (by decide +kernel) ⟨Nat.le_of_ble_eq_true rfl, Nat.le_of_ble_eq_true rfl⟩) (kt_preVR (q0 := 0) (ci := kX5) hK hP hD hS hER hA (List.range' 0 14) rfl rfl rfl rfl rfl) rfl rfl hl.1 rfl (lv_room (Nat.le_of_ble_eq_true rfl)) dL_law_1484 ⟨Nat.le_of_ble_eq_true rfl, Nat.le_of_ble_eq_true rfl⟩) hP hD hS hA (List.range' 0 14) [] rfl rfl rfl (by decide) (fun u9 H locs hP hD hS => ?_)
  have hP : va_P (dC, dI) vwCl (wU mo (nI 0) u9) H := hP
  have hD : va_D (lwA s) (wU mo (nI 0) u9) := hD
  refine W.widen (k := 131) (n := 1305) (by omega) (by omega) ?_
  refine W.lcmp hx hb dL_law_1487 ?_
  refine lv_if_eq (tgt := 1493) hx hb dL_law_1488 (by decide) (fun c1 => ?_) (fun c1 => ?_)
  · skip
    exact law_end C0 hS (lv_sub hl [0, 4] rfl) (by omega) (by omega)
  · exact absurd ((lg_cmp_eq _ _).mpr (by decide +kernel)) c1
