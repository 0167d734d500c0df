/-! cases of the law (printed by wip/gen/lawcase.py) -/
set_option maxHeartbeats 4000000 in
set_option maxRecDepth 100000 in
/-- case 15 of the law: many -/
theorem law_many {p : Program} {l : Launch} {e : Env} {s : State} {m : MethodId} {below : List Frame} {meth : Method} {c : Code} {b : Nat} {xs : Nat → Int32} (hlt : l.stackTraces = false) (C0 : lw_At p s m meth c b 4 xs) {dC : Nat → ClassId} {dI : Nat → Nat → Nat} {cI cII cJ cJJ cZ cO : ClassId} {tp : Nat} {f : Nat → Nat} {er tr kr : Nat → Nat} {mo eo : Nat} {e2 : Nat → Nat} {gr av ro co kl dd out : Nat} (hK : va_K (dC, dI) vwCl (tyR cI cII cJ cJJ cZ cO) s) (hE : EnvX (lwA s) s s.heap) (hER : EnvR dd (lwA s) s s.heap) (hnc : va_Nc exA exI s) {H : Heap} {locs : List Loc} {ls : Array Slot} (hP : va_P (dC, dI) vwCl (wR (nI 0) z0 mo eo e2 gr av ro co kl dd cI cII ++ (wF tp f er tr kr cI cII cJ cJJ ++ wO cJ out oZ)) H) (hD : va_D (lwA s) (wR (nI 0) z0 mo eo e2 gr av ro co kl dd cI cII ++ (wF tp f er tr kr cI cII cJ cJJ ++ wO cJ out oZ))) (hS : va_S (lwA s) s.heap H locs) (hl : lv_has ls 9 [(0, .ref b), (1, .ref tp), (2, .ref mo), (3, .ref out), (4, .int (nI 0))]) : W p l e room_1 s m #[Value.ref b] below meth c H locs 100 1000 (lw_Z below #[Value.ref b] s) (F0 m 1029 ls []) := by
  obtain ⟨hx, hb, hr, hml, hown, hts0, hX, hbl, hlocks, hgv⟩ := id C0
  have hA : ∀ q : Nat, s.heap.size ≤ q → (lwA s) q := fun _ h => h
  have hbA : ¬ (lwA s) b := Nat.not_le.mpr hbl
  have hts : ∀ w ∈ wsL_law, w.before #[Value.ref b] s = true := fun w h => hts0 w (wsL_law_in w h)
  have hKc : va_K (dC, dI) vwCl (tyL cI cII cJ cJJ) s := hK.sub [0, 1, 2, 3] rfl
  by_cases h1 : xs 1 < 0 ∨ ¬ xs 1 ≤ 13
  · skip
    refine lv_aload_n hx hb dL_law_1029 rfl (lv_at hl 1 rfl) ?_
    refine lv_aload_n hx hb dL_law_1030 rfl (lv_at hl 0 rfl) ?_
    refine lv_iload hx hb dL_law_1031 (lv_at hl 4 rfl) ?_
    refine lv_iconst (v := nI 1) hx hb dL_law_1033 (by decide) ?_
    refine kt_iadd hx hb dL_law_1034 ?_
    refine va_sld hx hb hX hbl hbA hS (vp_in_nI (by omega) (by decide)) dL_law_1035 ?_
    refine lv_topi (fun z1 ez1 => ?_)
    have ez1 : z1 = xs 1 := (ez1.trans (congrArg xs (nI_clamp (by decide)))).trans rfl
    rw [ez1]
    refine lv_aload_n hx hb dL_law_1036 rfl (lv_at hl 3 rfl) ?_
    have hF9 := va_free (wc := wF tp f er tr kr cI cII cJ cJJ ++ wO cJ out oZ) hD hS hA (List.range' 14 46) rfl
    refine kt_newI (wC := wF tp f er tr kr cI cII cJ cJJ ++ wO cJ out oZ) (wR9 := wR (nI 0) z0 mo eo e2 gr av ro co kl dd cI cII) (wN := fun (_ : Unit) => ([] : va_W)) (tys := (tyL cI cII cJ cJJ)) (vx_runSW (As := [.ref tp, .int (xs 1), .ref out]) (rest := []) ⟨hx, hb, hml, hown, hts⟩ (h_many_within l hlt dC dI cI cII cJ cJJ tp f er tr kr out (xs 1) _ (h1)) (vx_cwSW 3 hts gL_law_L_many rfl rfl rfl (by decide +kernel) ⟨Nat.le_of_ble_eq_true rfl, Nat.le_of_ble_eq_true rfl⟩) (kt_preSH hKc hP hD hS hE hnc hF9 (List.range' 14 46) rfl rfl) rfl rfl hl.1 rfl (lv_room (Nat.le_of_ble_eq_true rfl)) dL_law_1037 ⟨Nat.le_of_ble_eq_true rfl, Nat.le_of_ble_eq_true rfl⟩) hP hD hS hA (List.range' 14 46) (List.range' 0 14) rfl rfl rfl (by decide) (fun u H locs hP hD hS => ?_)
    have hP := kt_sub (wC := wR (nI 0) z0 mo eo e2 gr av ro co kl dd cI cII) hP (List.range' 0 14) rfl
    have hD := hD.sub (ws' := wR (nI 0) z0 mo eo e2 gr av ro co kl dd cI cII) (List.range' 0 14) rfl rfl
    refine W.widen (k := 101) (n := 1006) (by omega) (by omega) ?_
    refine lv_istore (lv' := [(5, .int (nI 1)), (0, .ref b), (1, .ref tp), (2, .ref mo), (3, .ref out), (4, .int (nI 0))]) hx hb dL_law_1040 hl (by decide) rfl (fun ls hl => ?_)
    refine lv_aload_n hx hb dL_law_1042 rfl (lv_at hl 3 rfl) ?_
    refine lv_aload_n hx hb dL_law_1043 rfl (lv_at hl 1 rfl) ?_
    refine lv_iload hx hb dL_law_1044 (lv_at hl 5 rfl) ?_
    refine lv_iconst (v := nI 1) hx hb dL_law_1046 (by decide) ?_
    refine kt_iadd hx hb dL_law_1047 ?_
    refine va_sld hx hb hX hbl hbA hS (vp_in_nI (by omega) (by decide)) dL_law_1048 ?_
    refine lv_topi (fun z2 ez2 => ?_)
    have ez2 : z2 = xs 1 := (ez2.trans (congrArg xs (nI_clamp (by decide)))).trans rfl
    rw [ez2]
    refine kt_newI (wC := wR (nI 0) z0 mo eo e2 gr av ro co kl dd cI cII) (wR9 := ([] : va_W)) (wN := fun (u : List Value) => wU mo (nI 1) u) (va_runV (As := [.int (xs 1)]) (rest := []) ⟨hx, hb, hml, hown, hts⟩ (t_many_within l dC dI cI cII cJ cJJ cZ cO mo eo e2 gr av ro co kl dd (xs 1) _ (h1.imp id (fun z => Int32.not_le.mp z))) (cwV 1 hts gL_law_X5_many rfl rfl rfl (by decide +kernel) ⟨Nat.le_of_ble_eq_true rfl, Nat.le_of_ble_eq_true rfl⟩) (kt_preV (q0 := 0) (ci := kX5) hK hP hD (List.range' 0 14) rfl rfl rfl rfl rfl) rfl rfl hl.1 rfl (lv_room (Nat.le_of_ble_eq_true rfl)) dL_law_1049 ⟨Nat.le_of_ble_eq_true rfl, Nat.le_of_ble_eq_true rfl⟩) hP hD hS hA (List.range' 0 14) [] rfl rfl rfl (by decide) (fun u9 H locs hP hD hS => ?_)
    have hP : va_P (dC, dI) vwCl (wU mo (nI 1) u9) H := hP
    have hD : va_D (lwA s) (wU mo (nI 1) u9) := hD
    refine W.widen (k := 101) (n := 1006) (by omega) (by omega) ?_
    refine lv_istore (lv' := [(6, .int (nI 0)), (5, .int (nI 1)), (0, .ref b), (1, .ref tp), (2, .ref mo), (3, .ref out), (4, .int (nI 0))]) hx hb dL_law_1052 hl (by decide) rfl (fun ls hl => ?_)
    refine lv_aload_n hx hb dL_law_1054 rfl (lv_at hl 4 rfl) ?_
    refine kt_calliM (w' := wU mo (nI 1) u9) (rest := []) (As := []) ⟨hx, hb, hml, hown, hts⟩ (c_X5_thrown l dC dI cI cII cJ cJJ cZ cO mo (nI 1) u9 _) (cwV 0 hts gL_law_X5_thrown rfl rfl rfl (by decide +kernel) ⟨Nat.le_of_ble_eq_true rfl, Nat.le_of_ble_eq_true rfl⟩) hK hP hD hS hA [0] ⟨rfl, ⟨[some 0], rfl, by decide +kernel⟩, rfl⟩ rfl 0 kX5 rfl rfl rfl rfl rfl hl.1 (Nat.le_of_ble_eq_true rfl) dL_law_1055 ⟨Nat.le_of_ble_eq_true rfl, Nat.le_of_ble_eq_true rfl⟩ (fun H locs hP hD hS => ?_)
    have hP : va_P (dC, dI) vwCl (wU mo (nI 1) u9) H := hP
    have hD : va_D (lwA s) (wU mo (nI 1) u9) := hD
    refine W.widen (k := 101) (n := 1006) (by omega) (by omega) ?_
    refine lv_iload hx hb dL_law_1058 (lv_at hl 1 rfl) ?_
    refine lv_icmp_eq (tgt := 1065) hx hb dL_law_1060 (by decide) (fun c3 => ?_) (fun c3 => ?_)
    · skip
      refine lv_iload hx hb dL_law_1065 (lv_at hl 1 rfl) ?_
      refine lv_if_ne (tgt := 1082) hx hb dL_law_1067 (by decide) (fun c4 => ?_) (fun c4 => ?_)
      · skip
        refine lv_goto (tgt := 1493) hx hb dL_law_1082 (by decide) ?_
        exact law_end C0 hS (lv_sub hl [2, 6] rfl) (by omega) (by omega)
      · first | exact absurd c4 (by decide) | exact (c4 (by decide)).elim
    · first | exact absurd c3 (by decide) | exact (c3 (by decide)).elim
  · obtain ⟨w, hw9, hw⟩ := nI_of2 (M := 13) (n := 13) (by decide) (fun z => h1 (Or.inl z)) (Decidable.not_not.mp (fun z => h1 (Or.inr z)))
    refine lv_aload_n hx hb dL_law_1029 rfl (lv_at hl 1 rfl) ?_
    refine lv_aload_n hx hb dL_law_1030 rfl (lv_at hl 0 rfl) ?_
    refine lv_iload hx hb dL_law_1031 (lv_at hl 4 rfl) ?_
    refine lv_iconst (v := nI 1) hx hb dL_law_1033 (by decide) ?_
    refine kt_iadd hx hb dL_law_1034 ?_
    refine va_sld hx hb hX hbl hbA hS (vp_in_nI (by omega) (by decide)) dL_law_1035 ?_
    refine lv_topi (fun z5 ez5 => ?_)
    have ez5 : z5 = nI w := (ez5.trans (congrArg xs (nI_clamp (by decide)))).trans hw
    rw [ez5]
    refine lv_aload_n hx hb dL_law_1036 rfl (lv_at hl 3 rfl) ?_
    have hF9 := va_free (wc := wF tp f er tr kr cI cII cJ cJJ ++ wO cJ out oZ) hD hS hA (List.range' 14 46) rfl
    refine kt_newI (wC := wF tp f er tr kr cI cII cJ cJJ ++ wO cJ out oZ) (wR9 := wR (nI 0) z0 mo eo e2 gr av ro co kl dd cI cII) (wN := fun (_ : Unit) => wO cJ out (vp_updL oZ 0 (Int32.toInt64 (manyF 0 (fun _ _ => 0) (fun _ => 0) (fun _ => 0) (fun _ => 0) (fun _ => 0) (fun _ => 0) 0 0 0 0 w)))) (tys := (tyL cI cII cJ cJJ)) (vx_runSW (As := [.ref tp, .int (nI w), .ref out]) (rest := []) ⟨hx, hb, hml, hown, hts⟩ (h_many l hlt dC dI cI cII cJ cJJ tp f er tr kr out w _ (by omega)) (vx_cwSW 3 hts gL_law_L_many rfl rfl rfl (by decide +kernel) ⟨Nat.le_of_ble_eq_true rfl, Nat.le_of_ble_eq_true rfl⟩) (kt_preSH hKc hP hD hS hE hnc hF9 (List.range' 14 46) rfl rfl) rfl rfl hl.1 rfl (lv_room (Nat.le_of_ble_eq_true rfl)) dL_law_1037 ⟨Nat.le_of_ble_eq_true rfl, Nat.le_of_ble_eq_true rfl⟩) hP hD hS hA (List.range' 14 46) (List.range' 0 14) rfl rfl rfl (by decide) (fun u H locs hP hD hS => ?_)
    have hP : va_P (dC, dI) vwCl (wR (nI 0) z0 mo eo e2 gr av ro co kl dd cI cII ++ wO cJ out (vp_updL oZ 0 (Int32.toInt64 (manyF 0 (fun _ _ => 0) (fun _ => 0) (fun _ => 0) (fun _ => 0) (fun _ => 0) (fun _ => 0) 0 0 0 0 w)))) H := hP
    have hD : va_D (lwA s) (wR (nI 0) z0 mo eo e2 gr av ro co kl dd cI cII ++ wO cJ out (vp_updL oZ 0 (Int32.toInt64 (manyF 0 (fun _ _ => 0) (fun _ => 0) (fun _ => 0) (fun _ => 0) (fun _ => 0) (fun _ => 0) 0 0 0 0 w)))) := hD
    refine W.widen (k := 100) (n := 1000) (by omega) (by omega) ?_
    refine lv_istore (lv' := [(5, .int (nI 0)), (0, .ref b), (1, .ref tp), (2, .ref mo), (3, .ref out), (4, .int (nI 0))]) hx hb dL_law_1040 hl (by decide) rfl (fun ls hl => ?_)
    refine lv_aload_n hx hb dL_law_1042 rfl (lv_at hl 3 rfl) ?_
    refine lv_aload_n hx hb dL_law_1043 rfl (lv_at hl 1 rfl) ?_
    refine lv_iload hx hb dL_law_1044 (lv_at hl 5 rfl) ?_
    refine lv_iconst (v := nI 1) hx hb dL_law_1046 (by decide) ?_
    refine kt_iadd hx hb dL_law_1047 ?_
    refine va_sld hx hb hX hbl hbA hS (vp_in_nI (by omega) (by decide)) dL_law_1048 ?_
    refine lv_topi (fun z6 ez6 => ?_)
    have ez6 : z6 = nI w := (ez6.trans (congrArg xs (nI_clamp (by decide)))).trans hw
    rw [ez6]
    refine kt_newI (wC := wR (nI 0) z0 mo eo e2 gr av ro co kl dd cI cII) (wR9 := wO cJ out (vp_updL oZ 0 (Int32.toInt64 (manyF 0 (fun _ _ => 0) (fun _ => 0) (fun _ => 0) (fun _ => 0) (fun _ => 0) (fun _ => 0) 0 0 0 0 w)))) (wN := fun (u : List Value) => wU mo (nI 0) u) (va_runV (As := [.int (nI w)]) (rest := []) ⟨hx, hb, hml, hown, hts⟩ (t_many l dC dI cI cII cJ cJJ cZ cO mo eo e2 gr av ro co kl dd w _ (by omega)) (cwV 1 hts gL_law_X5_many rfl rfl rfl (by decide +kernel) ⟨Nat.le_of_ble_eq_true rfl, Nat.le_of_ble_eq_true rfl⟩) (kt_preV (q0 := 0) (ci := kX5) hK hP hD (List.range' 0 14) rfl rfl rfl rfl rfl) rfl rfl hl.1 rfl (lv_room (Nat.le_of_ble_eq_true rfl)) dL_law_1049 ⟨Nat.le_of_ble_eq_true rfl, Nat.le_of_ble_eq_true rfl⟩) hP hD hS hA (List.range' 0 14) [14] rfl rfl rfl (by decide) (fun u9 H locs hP hD hS => ?_)
    have hP : va_P (dC, dI) vwCl (wO cJ out (vp_updL oZ 0 (Int32.toInt64 (manyF 0 (fun _ _ => 0) (fun _ => 0) (fun _ => 0) (fun _ => 0) (fun _ => 0) (fun _ => 0) 0 0 0 0 w))) ++ wU mo (nI 0) u9) H := hP
    have hD : va_D (lwA s) (wO cJ out (vp_updL oZ 0 (Int32.toInt64 (manyF 0 (fun _ _ => 0) (fun _ => 0) (fun _ => 0) (fun _ => 0) (fun _ => 0) (fun _ => 0) 0 0 0 0 w))) ++ wU mo (nI 0) u9) := hD
    refine W.widen (k := 102) (n := 1021) (by omega) (by omega) ?_
    refine lv_istore (lv' := [(6, .int (upd z0 13 (nI 1) w)), (5, .int (nI 0)), (0, .ref b), (1, .ref tp), (2, .ref mo), (3, .ref out), (4, .int (nI 0))]) hx hb dL_law_1052 hl (by decide) rfl (fun ls hl => ?_)
    refine lv_aload_n hx hb dL_law_1054 rfl (lv_at hl 4 rfl) ?_
    refine kt_calliM (w' := wO cJ out (vp_updL oZ 0 (Int32.toInt64 (manyF 0 (fun _ _ => 0) (fun _ => 0) (fun _ => 0) (fun _ => 0) (fun _ => 0) (fun _ => 0) 0 0 0 0 w))) ++ wU mo (nI 0) u9) (rest := []) (As := []) ⟨hx, hb, hml, hown, hts⟩ (c_X5_thrown l dC dI cI cII cJ cJJ cZ cO mo (nI 0) u9 _) (cwV 0 hts gL_law_X5_thrown rfl rfl rfl (by decide +kernel) ⟨Nat.le_of_ble_eq_true rfl, Nat.le_of_ble_eq_true rfl⟩) hK hP hD hS hA [1] ⟨rfl, ⟨[none, some 0], rfl, by decide +kernel⟩, rfl⟩ rfl 1 kX5 rfl rfl rfl rfl rfl hl.1 (Nat.le_of_ble_eq_true rfl) dL_law_1055 ⟨Nat.le_of_ble_eq_true rfl, Nat.le_of_ble_eq_true rfl⟩ (fun H locs hP hD hS => ?_)
    have hP : va_P (dC, dI) vwCl (wO cJ out (vp_updL oZ 0 (Int32.toInt64 (manyF 0 (fun _ _ => 0) (fun _ => 0) (fun _ => 0) (fun _ => 0) (fun _ => 0) (fun _ => 0) 0 0 0 0 w))) ++ wU mo (nI 0) u9) H := hP
    have hD : va_D (lwA s) (wO cJ out (vp_updL oZ 0 (Int32.toInt64 (manyF 0 (fun _ _ => 0) (fun _ => 0) (fun _ => 0) (fun _ => 0) (fun _ => 0) (fun _ => 0) 0 0 0 0 w))) ++ wU mo (nI 0) u9) := hD
    refine W.widen (k := 102) (n := 1021) (by omega) (by omega) ?_
    refine lv_iload hx hb dL_law_1058 (lv_at hl 1 rfl) ?_
    refine lv_icmp_eq (tgt := 1065) hx hb dL_law_1060 (by decide) (fun c7 => ?_) (fun c7 => ?_)
    · skip
      refine lv_iload hx hb dL_law_1065 (lv_at hl 1 rfl) ?_
      refine lv_if_ne (tgt := 1082) hx hb dL_law_1067 (by decide) (fun c8 => ?_) (fun c8 => ?_)
      · first | exact absurd c8 (by decide) | exact (c8 (by decide)).elim
      · skip
        refine lv_aload_n hx hb dL_law_1070 rfl (lv_at hl 5 rfl) ?_
        refine lv_iconst (v := nI 0) hx hb dL_law_1071 (by decide) ?_
        refine kt_lald hx hb hK hP 0 2 rfl rfl (by omega) (by decide) dL_law_1072 ?_
        refine lv_iload hx hb dL_law_1073 (lv_at hl 0 rfl) ?_
        refine lv_i2l (v := Int32.toInt64 (upd z0 13 (nI 1) w)) hx hb dL_law_1075 rfl ?_
        refine W.lcmp hx hb dL_law_1076 ?_
        refine lv_if_eq (tgt := 1082) hx hb dL_law_1077 (by decide) (fun c9 => ?_) (fun c9 => ?_)
        · skip
          refine lv_goto (tgt := 1493) hx hb dL_law_1082 (by decide) ?_
          exact law_end C0 hS (lv_sub hl [2, 6] rfl) (by omega) (by omega)
        · exact absurd ((lg_cmp_eq _ _).mpr (by rw [kt_vpL]; exact congrArg Int32.toInt64 (many_fresh (by omega)))) c9
    · first | exact absurd c7 (by decide) | exact (c7 (by decide)).elim

set_option maxHeartbeats 4000000 in
set_option maxRecDepth 100000 in
/-- case 16 of the law: count -/
theorem law_count {p : Program} {l : Launch} {e : Env} {s : State} {m : MethodId} {below : List Frame} {meth : Method} {c : Code} {b : Nat} {xs : Nat → Int32} (hlt : l.stackTraces = false) (C0 : lw_At p s m meth c b 4 xs) {dC : Nat → ClassId} {dI : Nat → Nat → Nat} {cI cII cJ cJJ cZ cO : ClassId} {tp : Nat} {f : Nat → Nat} {er tr kr : Nat → Nat} {mo eo : Nat} {e2 : Nat → Nat} {gr av ro co kl dd out : Nat} (hK : va_K (dC, dI) vwCl (tyR cI cII cJ cJJ cZ cO) s) (hE : EnvX (lwA s) s s.heap) (hER : EnvR dd (lwA s) s s.heap) (hnc : va_Nc exA exI s) {H : Heap} {locs : List Loc} {ls : Array Slot} (hP : va_P (dC, dI) vwCl (wR (nI 0) z0 mo eo e2 gr av ro co kl dd cI cII ++ (wF tp f er tr kr cI cII cJ cJJ ++ wO cJ out oZ)) H) (hD : va_D (lwA s) (wR (nI 0) z0 mo eo e2 gr av ro co kl dd cI cII ++ (wF tp f er tr kr cI cII cJ cJJ ++ wO cJ out oZ))) (hS : va_S (lwA s) s.heap H locs) (hl : lv_has ls 9 [(0, .ref b), (1, .ref tp), (2, .ref mo), (3, .ref out), (4, .int (nI 0))]) : W p l e room_1 s m #[Value.ref b] below meth c H locs 100 1000 (lw_Z below #[Value.ref b] s) (F0 m 1085 ls []) := by
  obtain ⟨hx, hb, hr, hml, hown, hts0, hX, hbl, hlocks, hgv⟩ := id C0
  have hA : ∀ q : Nat, s.heap.size ≤ q → (lwA s) q := fun _ h => h
  have hbA : ¬ (lwA s) b := Nat.not_le.mpr hbl
  have hts : ∀ w ∈ wsL_law, w.before #[Value.ref b] s = true := fun w h => hts0 w (wsL_law_in w h)
  have hKc : va_K (dC, dI) vwCl (tyL cI cII cJ cJJ) s := hK.sub [0, 1, 2, 3] rfl
  refine lv_aload_n hx hb dL_law_1085 rfl (lv_at hl 1 rfl) ?_
  refine kt_newL (wC := wF tp f er tr kr cI cII cJ cJJ) (wR9 := wR (nI 0) z0 mo eo e2 gr av ro co kl dd cI cII) (wN := fun (_ : Unit) => wTop tp (f 0) (f 1) (f 2) (fun _ => 0) (fun _ => 0) (f 3) (f 4) (f 5) (fun _ => 0) (fun _ => 0) (f 6) (f 7) (f 8) (fun _ => 0) (fun _ => 0) (f 9) (f 10) (f 11) (fun _ => 0) (fun _ => 0) (f 12) kr (fun _ _ => 0) 0 0 0 (f 13) (f 14) (fun _ => 0) 0 (f 15) (f 16) (fun _ => 0) (f 17) (f 18) (f 19) (fun _ => 0) (fun _ => 0) (f 20) (f 21) (f 22) (fun _ => 0) (fun _ => 0) cJ cJJ cI cII (f 23) (f 24) (f 25) (f 26) er 0 (fun _ _ => 0) (fun _ => 0) tr ((treeF 0 (fun _ _ => 0) (fun _ => 0) (fun _ _ => 0)).1)) (tys := (tyL cI cII cJ cJJ)) (va_runV (As := []) (rest := []) ⟨hx, hb, hml, hown, hts⟩ (c_X4_count l dC dI cI cII cJ cJJ tp (f 0) (f 1) (f 2) (fun _ => 0) (fun _ => 0) (f 3) (f 4) (f 5) (fun _ => 0) (fun _ => 0) (f 6) (f 7) (f 8) (fun _ => 0) (fun _ => 0) (f 9) (f 10) (f 11) (fun _ => 0) (fun _ => 0) (f 12) kr (fun _ _ => 0) 0 0 0 (f 13) (f 14) (fun _ => 0) 0 (f 15) (f 16) (fun _ => 0) (f 17) (f 18) (f 19) (fun _ => 0) (fun _ => 0) (f 20) (f 21) (f 22) (fun _ => 0) (fun _ => 0) (f 23) (f 24) (f 25) (f 26) er 0 (fun _ _ => 0) (fun _ => 0) tr (fun _ _ => 0) _ (by omega)) (cwV 0 hts gL_law_X4_count rfl rfl rfl (by decide +kernel) ⟨Nat.le_of_ble_eq_true rfl, Nat.le_of_ble_eq_true rfl⟩) (kt_preV (q0 := 14) (ci := kX4) hKc hP hD (List.range' 14 45) rfl rfl rfl rfl rfl) rfl rfl hl.1 rfl (lv_room (Nat.le_of_ble_eq_true rfl)) dL_law_1086 ⟨Nat.le_of_ble_eq_true rfl, Nat.le_of_ble_eq_true rfl⟩) hP hD hS hA (List.range' 14 45) (List.range' 0 14) rfl rfl rfl (by decide) (fun u H locs hP hD hS => ?_)
  have hP := kt_sub (wC := wR (nI 0) z0 mo eo e2 gr av ro co kl dd cI cII) hP (List.range' 0 14) rfl
  have hD := hD.sub (ws' := wR (nI 0) z0 mo eo e2 gr av ro co kl dd cI cII) (List.range' 0 14) rfl rfl
  refine W.widen (k := 100) (n := 1000) (by omega) (by omega) ?_
  refine lv_aload_n hx hb dL_law_1089 rfl (lv_at hl 2 rfl) ?_
  refine kt_newL (wC := wR (nI 0) z0 mo eo e2 gr av ro co kl dd cI cII) (wR9 := ([] : va_W)) (wN := fun (u : List Value) => wU mo (nI 0) u) (va_runV (As := []) (rest := [.long ((treeF 0 (fun _ _ => 0) (fun _ => 0) (fun _ _ => 0)).2)]) ⟨hx, hb, hml, hown, hts⟩ (t_count l dC dI cI cII cJ cJJ cZ cO mo eo e2 gr av ro co kl dd _ ) (cwV 0 hts gL_law_X5_count rfl rfl rfl (by decide +kernel) ⟨Nat.le_of_ble_eq_true rfl, Nat.le_of_ble_eq_true rfl⟩) (kt_preVR (q0 := 0) (ci := kX5) hK hP hD hS hER hA (List.range' 0 14) rfl rfl rfl rfl rfl) rfl rfl hl.1 rfl (lv_room (Nat.le_of_ble_eq_true rfl)) dL_law_1090 ⟨Nat.le_of_ble_eq_true rfl, Nat.le_of_ble_eq_true rfl⟩) hP hD hS hA (List.range' 0 14) [] rfl rfl rfl (by decide) (fun u9 H locs hP hD hS => ?_)
  have hP : va_P (dC, dI) vwCl (wU mo (nI 0) u9) H := hP
  have hD : va_D (lwA s) (wU mo (nI 0) u9) := hD
  refine W.widen (k := 101) (n := 1000) (by omega) (by omega) ?_
  refine W.lcmp hx hb dL_law_1093 ?_
  refine lv_if_eq (tgt := 1493) hx hb dL_law_1094 (by decide) (fun c1 => ?_) (fun c1 => ?_)
  · skip
    exact law_end C0 hS (lv_sub hl [0, 4] rfl) (by omega) (by omega)
  · exact absurd ((lg_cmp_eq _ _).mpr (by decide +kernel)) c1

set_option maxHeartbeats 4000000 in
set_option maxRecDepth 100000 in
/-- case 17 of the law: density -/
theorem law_density {p : Program} {l : Launch} {e : Env} {s : State} {m : MethodId} {below : List Frame} {meth : Method} {c : Code} {b : Nat} {xs : Nat → Int32} (hlt : l.stackTraces = false) (C0 : lw_At p s m meth c b 4 xs) {dC : Nat → ClassId} {dI : Nat → Nat → Nat} {cI cII cJ cJJ cZ cO : ClassId} {tp : Nat} {f : Nat → Nat} {er tr kr : Nat → Nat} {mo eo : Nat} {e2 : Nat → Nat} {gr av ro co kl dd out : Nat} (hK : va_K (dC, dI) vwCl (tyR cI cII cJ cJJ cZ cO) s) (hE : EnvX (lwA s) s s.heap) (hER : EnvR dd (lwA s) s s.heap) (hnc : va_Nc exA exI s) {H : Heap} {locs : List Loc} {ls : Array Slot} (hP : va_P (dC, dI) vwCl (wR (nI 0) z0 mo eo e2 gr av ro co kl dd cI cII ++ (wF tp f er tr kr cI cII cJ cJJ ++ wO cJ out oZ)) H) (hD : va_D (lwA s) (wR (nI 0) z0 mo eo e2 gr av ro co kl dd cI cII ++ (wF tp f er tr kr cI cII cJ cJJ ++ wO cJ out oZ))) (hS : va_S (lwA s) s.heap H locs) (hl : lv_has ls 9 [(0, .ref b), (1, .ref tp), (2, .ref mo), (3, .ref out), (4, .int (nI 0))]) : W p l e room_1 s m #[Value.ref b] below meth c H locs 100 1000 (lw_Z below #[Value.ref b] s) (F0 m 1099 ls []) := by
  obtain ⟨hx, hb, hr, hml, hown, hts0, hX, hbl, hlocks, hgv⟩ := id C0
  have hA : ∀ q : Nat, s.heap.size ≤ q → (lwA s) q := fun _ h => h
  have hbA : ¬ (lwA s) b := Nat.not_le.mpr hbl
  have hts : ∀ w ∈ wsL_law, w.before #[Value.ref b] s = true := fun w h => hts0 w (wsL_law_in w h)
  have hKc : va_K (dC, dI) vwCl (tyL cI cII cJ cJJ) s := hK.sub [0, 1, 2, 3] rfl
  refine lv_aload_n hx hb dL_law_1099 rfl (lv_at hl 1 rfl) ?_
  refine kt_newD (wC := wF tp f er tr kr cI cII cJ cJJ) (wR9 := wR (nI 0) z0 mo eo e2 gr av ro co kl dd cI cII) (wN := fun (_ : Unit) => wF tp f er tr kr cI cII cJ cJJ) (tys := (tyL cI cII cJ cJJ)) (va_runV (As := []) (rest := []) ⟨hx, hb, hml, hown, hts⟩ (c_X4_density0 l dC dI cI cII cJ cJJ tp f er tr kr _) (cwV 0 hts gL_law_X4_density rfl rfl rfl (by decide +kernel) ⟨Nat.le_of_ble_eq_true rfl, Nat.le_of_ble_eq_true rfl⟩) (kt_preV (q0 := 14) (ci := kX4) hKc hP hD (List.range' 14 45) rfl rfl rfl rfl rfl) rfl rfl hl.1 rfl (lv_room (Nat.le_of_ble_eq_true rfl)) dL_law_1100 ⟨Nat.le_of_ble_eq_true rfl, Nat.le_of_ble_eq_true rfl⟩) hP hD hS hA (List.range' 14 45) (List.range' 0 14) rfl rfl rfl (by decide) (fun u H locs hP hD hS => ?_)
  have hP := kt_sub (wC := wR (nI 0) z0 mo eo e2 gr av ro co kl dd cI cII) hP (List.range' 0 14) rfl
  have hD := hD.sub (ws' := wR (nI 0) z0 mo eo e2 gr av ro co kl dd cI cII) (List.range' 0 14) rfl rfl
  refine W.widen (k := 100) (n := 1000) (by omega) (by omega) ?_
  refine lv_dstore (lv' := [(5, .double FP.dconst0), (0, .ref b), (1, .ref tp), (2, .ref mo), (3, .ref out), (4, .int (nI 0))]) hx hb dL_law_1103 hl (by decide) rfl (fun ls hl => ?_)
  refine lv_aload_n hx hb dL_law_1105 rfl (lv_at hl 3 rfl) ?_
  refine kt_newD (wC := wR (nI 0) z0 mo eo e2 gr av ro co kl dd cI cII) (wR9 := ([] : va_W)) (wN := fun (u : List Value) => wU mo (nI 0) u) (va_runV (As := []) (rest := []) ⟨hx, hb, hml, hown, hts⟩ (t_density l dC dI cI cII cJ cJJ cZ cO mo eo e2 gr av ro co kl dd _ ) (cwV 0 hts gL_law_X5_density rfl rfl rfl (by decide +kernel) ⟨Nat.le_of_ble_eq_true rfl, Nat.le_of_ble_eq_true rfl⟩) (kt_preV (q0 := 0) (ci := kX5) hK hP hD (List.range' 0 14) rfl rfl rfl rfl rfl) rfl rfl hl.1 rfl (lv_room (Nat.le_of_ble_eq_true rfl)) dL_law_1106 ⟨Nat.le_of_ble_eq_true rfl, Nat.le_of_ble_eq_true rfl⟩) hP hD hS hA (List.range' 0 14) [] rfl rfl rfl (by decide) (fun u9 H locs hP hD hS => ?_)
  have hP : va_P (dC, dI) vwCl (wU mo (nI 0) u9) H := hP
  have hD : va_D (lwA s) (wU mo (nI 0) u9) := hD
  refine W.widen (k := 100) (n := 1000) (by omega) (by omega) ?_
  refine lv_dstore (lv' := [(7, .double FP.dconst0), (5, .double FP.dconst0), (0, .ref b), (1, .ref tp), (2, .ref mo), (3, .ref out), (4, .int (nI 0))]) hx hb dL_law_1109 hl (by decide) rfl (fun ls hl => ?_)
  refine lv_dload hx hb dL_law_1111 (lv_at hl 1 rfl) ?_
  refine lv_dload hx hb dL_law_1113 (lv_at hl 0 rfl) ?_
  refine lv_dcmp hx hb dL_law_1115 ?_
  refine lv_topi (fun z1 ez1 => ?_)
  have ez1 : z1 = nI 0 := ez1.trans (by decide +kernel)
  subst ez1
  refine lv_if_eq (tgt := 1137) hx hb dL_law_1116 (by decide) (fun c2 => ?_) (fun c2 => ?_)
  · skip
    refine lv_goto (tgt := 1493) hx hb dL_law_1137 (by decide) ?_
    exact law_end C0 hS (lv_sub hl [2, 6] rfl) (by omega) (by omega)
  · first | exact absurd c2 (by decide) | exact (c2 (by decide)).elim

set_option maxHeartbeats 4000000 in
set_option maxRecDepth 100000 in
/-- case 18 of the law: would -/
theorem law_would {p : Program} {l : Launch} {e : Env} {s : State} {m : MethodId} {below : List Frame} {meth : Method} {c : Code} {b : Nat} {xs : Nat → Int32} (hlt : l.stackTraces = false) (C0 : lw_At p s m meth c b 4 xs) {dC : Nat → ClassId} {dI : Nat → Nat → Nat} {cI cII cJ cJJ cZ cO : ClassId} {tp : Nat} {f : Nat → Nat} {er tr kr : Nat → Nat} {mo eo : Nat} {e2 : Nat → Nat} {gr av ro co kl dd out : Nat} (hK : va_K (dC, dI) vwCl (tyR cI cII cJ cJJ cZ cO) s) (hE : EnvX (lwA s) s s.heap) (hER : EnvR dd (lwA s) s s.heap) (hnc : va_Nc exA exI s) {H : Heap} {locs : List Loc} {ls : Array Slot} (hP : va_P (dC, dI) vwCl (wR (nI 0) z0 mo eo e2 gr av ro co kl dd cI cII ++ (wF tp f er tr kr cI cII cJ cJJ ++ wO cJ out oZ)) H) (hD : va_D (lwA s) (wR (nI 0) z0 mo eo e2 gr av ro co kl dd cI cII ++ (wF tp f er tr kr cI cII cJ cJJ ++ wO cJ out oZ))) (hS : va_S (lwA s) s.heap H locs) (hl : lv_has ls 9 [(0, .ref b), (1, .ref tp), (2, .ref mo), (3, .ref out), (4, .int (nI 0))]) : W p l e room_1 s m #[Value.ref b] below meth c H locs 100 1000 (lw_Z below #[Value.ref b] s) (F0 m 1140 ls []) := by
  obtain ⟨hx, hb, hr, hml, hown, hts0, hX, hbl, hlocks, hgv⟩ := id C0
  have hA : ∀ q : Nat, s.heap.size ≤ q → (lwA s) q := fun _ h => h
  have hbA : ¬ (lwA s) b := Nat.not_le.mpr hbl
  have hts : ∀ w ∈ wsL_law, w.before #[Value.ref b] s = true := fun w h => hts0 w (wsL_law_in w h)
  have hKc : va_K (dC, dI) vwCl (tyL cI cII cJ cJJ) s := hK.sub [0, 1, 2, 3] rfl
  refine lv_aload_n hx hb dL_law_1140 rfl (lv_at hl 1 rfl) ?_
  refine lv_aload_n hx hb dL_law_1141 rfl (lv_at hl 0 rfl) ?_
  refine lv_iload hx hb dL_law_1142 (lv_at hl 4 rfl) ?_
  refine lv_iconst (v := nI 1) hx hb dL_law_1144 (by decide) ?_
  refine kt_iadd hx hb dL_law_1145 ?_
  refine va_sld hx hb hX hbl hbA hS (vp_in_nI (by omega) (by decide)) dL_law_1146 ?_
  refine lv_topi (fun z1 ez1 => ?_)
  have ez1 : z1 = xs 1 := (ez1.trans (congrArg xs (nI_clamp (by decide)))).trans rfl
  rw [ez1]
  refine lv_aload_n hx hb dL_law_1147 rfl (lv_at hl 0 rfl) ?_
  refine lv_iload hx hb dL_law_1148 (lv_at hl 4 rfl) ?_
  refine lv_iconst (v := nI 2) hx hb dL_law_1150 (by decide) ?_
  refine kt_iadd hx hb dL_law_1151 ?_
  refine va_sld hx hb hX hbl hbA hS (vp_in_nI (by omega) (by decide)) dL_law_1152 ?_
  refine lv_topi (fun z2 ez2 => ?_)
  have ez2 : z2 = xs 2 := (ez2.trans (congrArg xs (nI_clamp (by decide)))).trans rfl
  rw [ez2]
  refine lv_aload_n hx hb dL_law_1153 rfl (lv_at hl 0 rfl) ?_
  refine lv_iload hx hb dL_law_1154 (lv_at hl 4 rfl) ?_
  refine lv_iconst (v := nI 3) hx hb dL_law_1156 (by decide) ?_
  refine kt_iadd hx hb dL_law_1157 ?_
  refine va_sld hx hb hX hbl hbA hS (vp_in_nI (by omega) (by decide)) dL_law_1158 ?_
  refine lv_topi (fun z3 ez3 => ?_)
  have ez3 : z3 = xs 3 := (ez3.trans (congrArg xs (nI_clamp (by decide)))).trans rfl
  rw [ez3]
  refine lv_aload_n hx hb dL_law_1159 rfl (lv_at hl 3 rfl) ?_
  have hF9 := va_free (wc := wF tp f er tr kr cI cII cJ cJJ ++ wO cJ out oZ) hD hS hA (List.range' 14 46) rfl
  refine kt_newI (wC := wF tp f er tr kr cI cII cJ cJJ ++ wO cJ out oZ) (wR9 := wR (nI 0) z0 mo eo e2 gr av ro co kl dd cI cII) (wN := fun (_ : Unit) => ([] : va_W)) (tys := (tyL cI cII cJ cJJ)) (vx_runSW (As := [.ref tp, .int (xs 1), .int (xs 2), .int (xs 3), .ref out]) (rest := []) ⟨hx, hb, hml, hown, hts⟩ (h_would l hlt dC dI cI cII cJ cJJ tp f er tr kr out (xs 1) (xs 2) (xs 3) _ ) (vx_cwSW 5 hts gL_law_L_would rfl rfl rfl (by decide +kernel) ⟨Nat.le_of_ble_eq_true rfl, Nat.le_of_ble_eq_true rfl⟩) (kt_preSH hKc hP hD hS hE hnc hF9 (List.range' 14 46) rfl rfl) rfl rfl hl.1 rfl (lv_room (Nat.le_of_ble_eq_true rfl)) dL_law_1160 ⟨Nat.le_of_ble_eq_true rfl, Nat.le_of_ble_eq_true rfl⟩) hP hD hS hA (List.range' 14 46) (List.range' 0 14) rfl rfl rfl (by decide) (fun u H locs hP hD hS => ?_)
  have hP := kt_sub (wC := wR (nI 0) z0 mo eo e2 gr av ro co kl dd cI cII) hP (List.range' 0 14) rfl
  have hD := hD.sub (ws' := wR (nI 0) z0 mo eo e2 gr av ro co kl dd cI cII) (List.range' 0 14) rfl rfl
  refine W.widen (k := 101) (n := 1006) (by omega) (by omega) ?_
  refine lv_istore (lv' := [(5, .int (nI 1)), (0, .ref b), (1, .ref tp), (2, .ref mo), (3, .ref out), (4, .int (nI 0))]) hx hb dL_law_1163 hl (by decide) rfl (fun ls hl => ?_)
  refine lv_aload_n hx hb dL_law_1165 rfl (lv_at hl 3 rfl) ?_
  refine lv_aload_n hx hb dL_law_1166 rfl (lv_at hl 1 rfl) ?_
  refine lv_iload hx hb dL_law_1167 (lv_at hl 5 rfl) ?_
  refine lv_iconst (v := nI 1) hx hb dL_law_1169 (by decide) ?_
  refine kt_iadd hx hb dL_law_1170 ?_
  refine va_sld hx hb hX hbl hbA hS (vp_in_nI (by omega) (by decide)) dL_law_1171 ?_
  refine lv_topi (fun z4 ez4 => ?_)
  have ez4 : z4 = xs 1 := (ez4.trans (congrArg xs (nI_clamp (by decide)))).trans rfl
  rw [ez4]
  refine lv_aload_n hx hb dL_law_1172 rfl (lv_at hl 1 rfl) ?_
  refine lv_iload hx hb dL_law_1173 (lv_at hl 5 rfl) ?_
  refine lv_iconst (v := nI 2) hx hb dL_law_1175 (by decide) ?_
  refine kt_iadd hx hb dL_law_1176 ?_
  refine va_sld hx hb hX hbl hbA hS (vp_in_nI (by omega) (by decide)) dL_law_1177 ?_
  refine lv_topi (fun z5 ez5 => ?_)
  have ez5 : z5 = xs 2 := (ez5.trans (congrArg xs (nI_clamp (by decide)))).trans rfl
  rw [ez5]
  refine lv_aload_n hx hb dL_law_1178 rfl (lv_at hl 1 rfl) ?_
  refine lv_iload hx hb dL_law_1179 (lv_at hl 5 rfl) ?_
  refine lv_iconst (v := nI 3) hx hb dL_law_1181 (by decide) ?_
  refine kt_iadd hx hb dL_law_1182 ?_
  refine va_sld hx hb hX hbl hbA hS (vp_in_nI (by omega) (by decide)) dL_law_1183 ?_
  refine lv_topi (fun z6 ez6 => ?_)
  have ez6 : z6 = xs 3 := (ez6.trans (congrArg xs (nI_clamp (by decide)))).trans rfl
  rw [ez6]
  refine kt_newI (wC := wR (nI 0) z0 mo eo e2 gr av ro co kl dd cI cII) (wR9 := ([] : va_W)) (wN := fun (u : List Value) => wU mo (nI 1) u) (va_runV (As := [.int (xs 1), .int (xs 2), .int (xs 3)]) (rest := []) ⟨hx, hb, hml, hown, hts⟩ (t_would l dC dI cI cII cJ cJJ cZ cO mo eo e2 gr av ro co kl dd (xs 1) (xs 2) (xs 3) _ ) (cwV 3 hts gL_law_X5_would rfl rfl rfl (by decide +kernel) ⟨Nat.le_of_ble_eq_true rfl, Nat.le_of_ble_eq_true rfl⟩) (kt_preV (q0 := 0) (ci := kX5) hK hP hD (List.range' 0 14) rfl rfl rfl rfl rfl) rfl rfl hl.1 rfl (lv_room (Nat.le_of_ble_eq_true rfl)) dL_law_1184 ⟨Nat.le_of_ble_eq_true rfl, Nat.le_of_ble_eq_true rfl⟩) hP hD hS hA (List.range' 0 14) [] rfl rfl rfl (by decide) (fun u9 H locs hP hD hS => ?_)
  have hP : va_P (dC, dI) vwCl (wU mo (nI 1) u9) H := hP
  have hD : va_D (lwA s) (wU mo (nI 1) u9) := hD
  refine W.widen (k := 101) (n := 1006) (by omega) (by omega) ?_
  refine lv_istore (lv' := [(6, .int (nI 0)), (5, .int (nI 1)), (0, .ref b), (1, .ref tp), (2, .ref mo), (3, .ref out), (4, .int (nI 0))]) hx hb dL_law_1187 hl (by decide) rfl (fun ls hl => ?_)
  refine lv_aload_n hx hb dL_law_1189 rfl (lv_at hl 4 rfl) ?_
  refine kt_calliM (w' := wU mo (nI 1) u9) (rest := []) (As := []) ⟨hx, hb, hml, hown, hts⟩ (c_X5_thrown l dC dI cI cII cJ cJJ cZ cO mo (nI 1) u9 _) (cwV 0 hts gL_law_X5_thrown rfl rfl rfl (by decide +kernel) ⟨Nat.le_of_ble_eq_true rfl, Nat.le_of_ble_eq_true rfl⟩) hK hP hD hS hA [0] ⟨rfl, ⟨[some 0], rfl, by decide +kernel⟩, rfl⟩ rfl 0 kX5 rfl rfl rfl rfl rfl hl.1 (Nat.le_of_ble_eq_true rfl) dL_law_1190 ⟨Nat.le_of_ble_eq_true rfl, Nat.le_of_ble_eq_true rfl⟩ (fun H locs hP hD hS => ?_)
  have hP : va_P (dC, dI) vwCl (wU mo (nI 1) u9) H := hP
  have hD : va_D (lwA s) (wU mo (nI 1) u9) := hD
  refine W.widen (k := 101) (n := 1006) (by omega) (by omega) ?_
  refine lv_iload hx hb dL_law_1193 (lv_at hl 1 rfl) ?_
  refine lv_icmp_eq (tgt := 1200) hx hb dL_law_1195 (by decide) (fun c7 => ?_) (fun c7 => ?_)
  · skip
    refine lv_iload hx hb dL_law_1200 (lv_at hl 1 rfl) ?_
    refine lv_if_ne (tgt := 1217) hx hb dL_law_1202 (by decide) (fun c8 => ?_) (fun c8 => ?_)
    · skip
      refine lv_goto (tgt := 1493) hx hb dL_law_1217 (by decide) ?_
      exact law_end C0 hS (lv_sub hl [2, 6] rfl) (by omega) (by omega)
    · first | exact absurd c8 (by decide) | exact (c8 (by decide)).elim
  · first | exact absurd c7 (by decide) | exact (c7 (by decide)).elim

set_option maxHeartbeats 4000000 in
set_option maxRecDepth 100000 in
/-- case 19 of the law: isLasting -/
theorem law_isLasting {p : Program} {l : Launch} {e : Env} {s : State} {m : MethodId} {below : List Frame} {meth : Method} {c : Code} {b : Nat} {xs : Nat → Int32} (hlt : l.stackTraces = false) (C0 : lw_At p s m meth c b 4 xs) {dC : Nat → ClassId} {dI : Nat → Nat → Nat} {cI cII cJ cJJ cZ cO : ClassId} {tp : Nat} {f : Nat → Nat} {er tr kr : Nat → Nat} {mo eo : Nat} {e2 : Nat → Nat} {gr av ro co kl dd out : Nat} (hK : va_K (dC, dI) vwCl (tyR cI cII cJ cJJ cZ cO) s) (hE : EnvX (lwA s) s s.heap) (hER : EnvR dd (lwA s) s s.heap) (hnc : va_Nc exA exI s) {H : Heap} {locs : List Loc} {ls : Array Slot} (hP : va_P (dC, dI) vwCl (wR (nI 0) z0 mo eo e2 gr av ro co kl dd cI cII ++ (wF tp f er tr kr cI cII cJ cJJ ++ wO cJ out oZ)) H) (hD : va_D (lwA s) (wR (nI 0) z0 mo eo e2 gr av ro co kl dd cI cII ++ (wF tp f er tr kr cI cII cJ cJJ ++ wO cJ out oZ))) (hS : va_S (lwA s) s.heap H locs) (hl : lv_has ls 9 [(0, .ref b), (1, .ref tp), (2, .ref mo), (3, .ref out), (4, .int (nI 0))]) : W p l e room_1 s m #[Value.ref b] below meth c H locs 100 1000 (lw_Z below #[Value.ref b] s) (F0 m 1220 ls []) := by
  obtain ⟨hx, hb, hr, hml, hown, hts0, hX, hbl, hlocks, hgv⟩ := id C0
  have hA : ∀ q : Nat, s.heap.size ≤ q → (lwA s) q := fun _ h => h
  have hbA : ¬ (lwA s) b := Nat.not_le.mpr hbl
  have hts : ∀ w ∈ wsL_law, w.before #[Value.ref b] s = true := fun w h => hts0 w (wsL_law_in w h)
  have hKc : va_K (dC, dI) vwCl (tyL cI cII cJ cJJ) s := hK.sub [0, 1, 2, 3] rfl
  refine lv_aload_n hx hb dL_law_1220 rfl (lv_at hl 1 rfl) ?_
  refine lv_aload_n hx hb dL_law_1221 rfl (lv_at hl 3 rfl) ?_
  have hF9 := va_free (wc := wF tp f er tr kr cI cII cJ cJJ ++ wO cJ out oZ) hD hS hA (List.range' 14 46) rfl
  refine kt_newI (wC := wF tp f er tr kr cI cII cJ cJJ ++ wO cJ out oZ) (wR9 := wR (nI 0) z0 mo eo e2 gr av ro co kl dd cI cII) (wN := fun (_ : Unit) => ([] : va_W)) (tys := (tyL cI cII cJ cJJ)) (vx_runSW (As := [.ref tp, .ref out]) (rest := []) ⟨hx, hb, hml, hown, hts⟩ (h_isLasting l hlt dC dI cI cII cJ cJJ tp f er tr kr out  _ ) (vx_cwSW 2 hts gL_law_L_isLasting rfl rfl rfl (by decide +kernel) ⟨Nat.le_of_ble_eq_true rfl, Nat.le_of_ble_eq_true rfl⟩) (kt_preSH hKc hP hD hS hE hnc hF9 (List.range' 14 46) rfl rfl) rfl rfl hl.1 rfl (lv_room (Nat.le_of_ble_eq_true rfl)) dL_law_1222 ⟨Nat.le_of_ble_eq_true rfl, Nat.le_of_ble_eq_true rfl⟩) hP hD hS hA (List.range' 14 46) (List.range' 0 14) rfl rfl rfl (by decide) (fun u H locs hP hD hS => ?_)
  have hP := kt_sub (wC := wR (nI 0) z0 mo eo e2 gr av ro co kl dd cI cII) hP (List.range' 0 14) rfl
  have hD := hD.sub (ws' := wR (nI 0) z0 mo eo e2 gr av ro co kl dd cI cII) (List.range' 0 14) rfl rfl
  refine W.widen (k := 101) (n := 1006) (by omega) (by omega) ?_
  refine lv_istore (lv' := [(5, .int (nI 1)), (0, .ref b), (1, .ref tp), (2, .ref mo), (3, .ref out), (4, .int (nI 0))]) hx hb dL_law_1225 hl (by decide) rfl (fun ls hl => ?_)
  refine lv_aload_n hx hb dL_law_1227 rfl (lv_at hl 3 rfl) ?_
  refine kt_newI (wC := wR (nI 0) z0 mo eo e2 gr av ro co kl dd cI cII) (wR9 := ([] : va_W)) (wN := fun (u : List Value) => wU mo (nI 1) u) (va_runV (As := []) (rest := []) ⟨hx, hb, hml, hown, hts⟩ (t_isLasting l dC dI cI cII cJ cJJ cZ cO mo eo e2 gr av ro co kl dd _ ) (cwV 0 hts gL_law_X5_isLasting rfl rfl rfl (by decide +kernel) ⟨Nat.le_of_ble_eq_true rfl, Nat.le_of_ble_eq_true rfl⟩) (kt_preV (q0 := 0) (ci := kX5) hK hP hD (List.range' 0 14) rfl rfl rfl rfl rfl) rfl rfl hl.1 rfl (lv_room (Nat.le_of_ble_eq_true rfl)) dL_law_1228 ⟨Nat.le_of_ble_eq_true rfl, Nat.le_of_ble_eq_true rfl⟩) hP hD hS hA (List.range' 0 14) [] rfl rfl rfl (by decide) (fun u9 H locs hP hD hS => ?_)
  have hP : va_P (dC, dI) vwCl (wU mo (nI 1) u9) H := hP
  have hD : va_D (lwA s) (wU mo (nI 1) u9) := hD
  refine W.widen (k := 102) (n := 1013) (by omega) (by omega) ?_
  refine lv_istore (lv' := [(6, .int (nI 0)), (5, .int (nI 1)), (0, .ref b), (1, .ref tp), (2, .ref mo), (3, .ref out), (4, .int (nI 0))]) hx hb dL_law_1231 hl (by decide) rfl (fun ls hl => ?_)
  refine lv_aload_n hx hb dL_law_1233 rfl (lv_at hl 4 rfl) ?_
  refine kt_calliM (w' := wU mo (nI 1) u9) (rest := []) (As := []) ⟨hx, hb, hml, hown, hts⟩ (c_X5_thrown l dC dI cI cII cJ cJJ cZ cO mo (nI 1) u9 _) (cwV 0 hts gL_law_X5_thrown rfl rfl rfl (by decide +kernel) ⟨Nat.le_of_ble_eq_true rfl, Nat.le_of_ble_eq_true rfl⟩) hK hP hD hS hA [0] ⟨rfl, ⟨[some 0], rfl, by decide +kernel⟩, rfl⟩ rfl 0 kX5 rfl rfl rfl rfl rfl hl.1 (Nat.le_of_ble_eq_true rfl) dL_law_1234 ⟨Nat.le_of_ble_eq_true rfl, Nat.le_of_ble_eq_true rfl⟩ (fun H locs hP hD hS => ?_)
  have hP : va_P (dC, dI) vwCl (wU mo (nI 1) u9) H := hP
  have hD : va_D (lwA s) (wU mo (nI 1) u9) := hD
  refine W.widen (k := 102) (n := 1013) (by omega) (by omega) ?_
  refine lv_iload hx hb dL_law_1237 (lv_at hl 1 rfl) ?_
  refine lv_icmp_eq (tgt := 1244) hx hb dL_law_1239 (by decide) (fun c1 => ?_) (fun c1 => ?_)
  · skip
    refine lv_iload hx hb dL_law_1244 (lv_at hl 1 rfl) ?_
    refine lv_if_ne (tgt := 1268) hx hb dL_law_1246 (by decide) (fun c2 => ?_) (fun c2 => ?_)
    · skip
      refine lv_goto (tgt := 1493) hx hb dL_law_1268 (by decide) ?_
      exact law_end C0 hS (lv_sub hl [2, 6] rfl) (by omega) (by omega)
    · first | exact absurd c2 (by decide) | exact (c2 (by decide)).elim
  · first | exact absurd c1 (by decide) | exact (c1 (by decide)).elim
