/-! cases of the law (printed by wip/gen/lawcase.py) -/
set_option maxHeartbeats 4000000 in
set_option maxRecDepth 100000 in
/-- case 0 of the law: spot -/
theorem law_spot {p : Program} {l : Launch} {e : Env} {s : State} {m : MethodId} {below : List Frame} {meth : Method} {c : Code} {b : Nat} {xs : Nat → Int32} (hlt : l.stackTraces = false) (C0 : lw_At p s m meth c b 4 xs) {dC : Nat → ClassId} {dI : Nat → Nat → Nat} {cI cII cJ cJJ cZ cO : ClassId} {tp : Nat} {f : Nat → Nat} {er tr kr : Nat → Nat} {mo eo : Nat} {e2 : Nat → Nat} {gr av ro co kl dd out : Nat} (hK : va_K (dC, dI) vwCl (tyR cI cII cJ cJJ cZ cO) s) (hE : EnvX (lwA s) s s.heap) (hER : EnvR dd (lwA s) s s.heap) (hnc : va_Nc exA exI s) {H : Heap} {locs : List Loc} {ls : Array Slot} (hP : va_P (dC, dI) vwCl (wR (nI 0) z0 mo eo e2 gr av ro co kl dd cI cII ++ (wF tp f er tr kr cI cII cJ cJJ ++ wO cJ out oZ)) H) (hD : va_D (lwA s) (wR (nI 0) z0 mo eo e2 gr av ro co kl dd cI cII ++ (wF tp f er tr kr cI cII cJ cJJ ++ wO cJ out oZ))) (hS : va_S (lwA s) s.heap H locs) (hl : lv_has ls 9 [(0, .ref b), (1, .ref tp), (2, .ref mo), (3, .ref out), (4, .int (nI 0))]) : W p l e room_1 s m #[Value.ref b] below meth c H locs 100 1000 (lw_Z below #[Value.ref b] s) (F0 m 156 ls []) := by
  obtain ⟨hx, hb, hr, hml, hown, hts0, hX, hbl, hlocks, hgv⟩ := id C0
  have hA : ∀ q : Nat, s.heap.size ≤ q → (lwA s) q := fun _ h => h
  have hbA : ¬ (lwA s) b := Nat.not_le.mpr hbl
  have hts : ∀ w ∈ wsL_law, w.before #[Value.ref b] s = true := fun w h => hts0 w (wsL_law_in w h)
  have hKc : va_K (dC, dI) vwCl (tyL cI cII cJ cJJ) s := hK.sub [0, 1, 2, 3] rfl
  refine lv_aload_n hx hb dL_law_156 rfl (lv_at hl 1 rfl) ?_
  refine lv_aload_n hx hb dL_law_157 rfl (lv_at hl 3 rfl) ?_
  have hF9 := va_free (wc := wF tp f er tr kr cI cII cJ cJJ ++ wO cJ out oZ) hD hS hA (List.range' 14 46) rfl
  refine kt_newI (wC := wF tp f er tr kr cI cII cJ cJJ ++ wO cJ out oZ) (wR9 := wR (nI 0) z0 mo eo e2 gr av ro co kl dd cI cII) (wN := fun (_ : Unit) => wO cJ out (vp_updL oZ 0 (Int32.toInt64 (nI 0)))) (tys := (tyL cI cII cJ cJJ)) (vx_runSW (As := [.ref tp, .ref out]) (rest := []) ⟨hx, hb, hml, hown, hts⟩ (h_spot l hlt dC dI cI cII cJ cJJ tp f er tr kr out  _ ) (vx_cwSW 2 hts gL_law_L_spot rfl rfl rfl (by decide +kernel) ⟨Nat.le_of_ble_eq_true rfl, Nat.le_of_ble_eq_true rfl⟩) (kt_preSH hKc hP hD hS hE hnc hF9 (List.range' 14 46) rfl rfl) rfl rfl hl.1 rfl (lv_room (Nat.le_of_ble_eq_true rfl)) dL_law_158 ⟨Nat.le_of_ble_eq_true rfl, Nat.le_of_ble_eq_true rfl⟩) hP hD hS hA (List.range' 14 46) (List.range' 0 14) rfl rfl rfl (by decide) (fun u H locs hP hD hS => ?_)
  have hP : va_P (dC, dI) vwCl (wR (nI 0) z0 mo eo e2 gr av ro co kl dd cI cII ++ wO cJ out (vp_updL oZ 0 (Int32.toInt64 (nI 0)))) H := hP
  have hD : va_D (lwA s) (wR (nI 0) z0 mo eo e2 gr av ro co kl dd cI cII ++ wO cJ out (vp_updL oZ 0 (Int32.toInt64 (nI 0)))) := hD
  refine W.widen (k := 100) (n := 1000) (by omega) (by omega) ?_
  refine lv_istore (lv' := [(5, .int (nI 0)), (0, .ref b), (1, .ref tp), (2, .ref mo), (3, .ref out), (4, .int (nI 0))]) hx hb dL_law_161 hl (by decide) rfl (fun ls hl => ?_)
  refine lv_aload_n hx hb dL_law_163 rfl (lv_at hl 3 rfl) ?_
  refine kt_newI (wC := wR (nI 0) z0 mo eo e2 gr av ro co kl dd cI cII) (wR9 := wO cJ out (vp_updL oZ 0 (Int32.toInt64 (nI 0)))) (wN := fun (u : List Value) => wU mo (nI 0) u) (va_runV (As := []) (rest := []) ⟨hx, hb, hml, hown, hts⟩ (t_spot l dC dI cI cII cJ cJJ cZ cO mo eo e2 gr av ro co kl dd _ ) (cwV 0 hts gL_law_X5_spot rfl rfl rfl (by decide +kernel) ⟨Nat.le_of_ble_eq_true rfl, Nat.le_of_ble_eq_true rfl⟩) (kt_preV (q0 := 0) (ci := kX5) hK hP hD (List.range' 0 14) rfl rfl rfl rfl rfl) rfl rfl hl.1 rfl (lv_room (Nat.le_of_ble_eq_true rfl)) dL_law_164 ⟨Nat.le_of_ble_eq_true rfl, Nat.le_of_ble_eq_true rfl⟩) hP hD hS hA (List.range' 0 14) [14] rfl rfl rfl (by decide) (fun u9 H locs hP hD hS => ?_)
  have hP : va_P (dC, dI) vwCl (wO cJ out (vp_updL oZ 0 (Int32.toInt64 (nI 0))) ++ wU mo (nI 0) u9) H := hP
  have hD : va_D (lwA s) (wO cJ out (vp_updL oZ 0 (Int32.toInt64 (nI 0))) ++ wU mo (nI 0) u9) := hD
  refine W.widen (k := 100) (n := 1000) (by omega) (by omega) ?_
  refine lv_istore (lv' := [(6, .int (nI 0)), (5, .int (nI 0)), (0, .ref b), (1, .ref tp), (2, .ref mo), (3, .ref out), (4, .int (nI 0))]) hx hb dL_law_167 hl (by decide) rfl (fun ls hl => ?_)
  refine lv_aload_n hx hb dL_law_169 rfl (lv_at hl 4 rfl) ?_
  refine kt_calliM (w' := wO cJ out (vp_updL oZ 0 (Int32.toInt64 (nI 0))) ++ wU mo (nI 0) u9) (rest := []) (As := []) ⟨hx, hb, hml, hown, hts⟩ (c_X5_thrown l dC dI cI cII cJ cJJ cZ cO mo (nI 0) u9 _) (cwV 0 hts gL_law_X5_thrown rfl rfl rfl (by decide +kernel) ⟨Nat.le_of_ble_eq_true rfl, Nat.le_of_ble_eq_true rfl⟩) hK hP hD hS hA [1] ⟨rfl, ⟨[none, some 0], rfl, by decide +kernel⟩, rfl⟩ rfl 1 kX5 rfl rfl rfl rfl rfl hl.1 (Nat.le_of_ble_eq_true rfl) dL_law_170 ⟨Nat.le_of_ble_eq_true rfl, Nat.le_of_ble_eq_true rfl⟩ (fun H locs hP hD hS => ?_)
  have hP : va_P (dC, dI) vwCl (wO cJ out (vp_updL oZ 0 (Int32.toInt64 (nI 0))) ++ wU mo (nI 0) u9) H := hP
  have hD : va_D (lwA s) (wO cJ out (vp_updL oZ 0 (Int32.toInt64 (nI 0))) ++ wU mo (nI 0) u9) := hD
  refine W.widen (k := 100) (n := 1000) (by omega) (by omega) ?_
  refine lv_iload hx hb dL_law_173 (lv_at hl 1 rfl) ?_
  refine lv_icmp_eq (tgt := 180) hx hb dL_law_175 (by decide) (fun c1 => ?_) (fun c1 => ?_)
  · skip
    refine lv_iload hx hb dL_law_180 (lv_at hl 1 rfl) ?_
    refine lv_if_ne (tgt := 197) hx hb dL_law_182 (by decide) (fun c2 => ?_) (fun c2 => ?_)
    · first | exact absurd c2 (by decide) | exact (c2 (by decide)).elim
    · skip
      refine lv_aload_n hx hb dL_law_185 rfl (lv_at hl 5 rfl) ?_
      refine lv_iconst (v := nI 0) hx hb dL_law_186 (by decide) ?_
      refine kt_lald hx hb hK hP 0 2 rfl rfl (by omega) (by decide) dL_law_187 ?_
      refine lv_iload hx hb dL_law_188 (lv_at hl 0 rfl) ?_
      refine lv_i2l (v := Int32.toInt64 (nI 0)) hx hb dL_law_190 rfl ?_
      refine W.lcmp hx hb dL_law_191 ?_
      refine lv_if_eq (tgt := 197) hx hb dL_law_192 (by decide) (fun c3 => ?_) (fun c3 => ?_)
      · skip
        refine lv_goto (tgt := 1493) hx hb dL_law_197 (by decide) ?_
        exact law_end C0 hS (lv_sub hl [2, 6] rfl) (by omega) (by omega)
      · exact absurd ((lg_cmp_eq _ _).mpr (by first | (rw [kt_vpL]; done) | (rw [kt_vpL]; rfl))) c3
  · first | exact absurd c1 (by decide) | exact (c1 (by decide)).elim

set_option maxHeartbeats 4000000 in
set_option maxRecDepth 100000 in
/-- case 1 of the law: edge -/
theorem law_edge {p : Program} {l : Launch} {e : Env} {s : State} {m : MethodId} {below : List Frame} {meth : Method} {c : Code} {b : Nat} {xs : Nat → Int32} (hlt : l.stackTraces = false) (C0 : lw_At p s m meth c b 4 xs) {dC : Nat → ClassId} {dI : Nat → Nat → Nat} {cI cII cJ cJJ cZ cO : ClassId} {tp : Nat} {f : Nat → Nat} {er tr kr : Nat → Nat} {mo eo : Nat} {e2 : Nat → Nat} {gr av ro co kl dd out : Nat} (hK : va_K (dC, dI) vwCl (tyR cI cII cJ cJJ cZ cO) s) (hE : EnvX (lwA s) s s.heap) (hER : EnvR dd (lwA s) s s.heap) (hnc : va_Nc exA exI s) {H : Heap} {locs : List Loc} {ls : Array Slot} (hP : va_P (dC, dI) vwCl (wR (nI 0) z0 mo eo e2 gr av ro co kl dd cI cII ++ (wF tp f er tr kr cI cII cJ cJJ ++ wO cJ out oZ)) H) (hD : va_D (lwA s) (wR (nI 0) z0 mo eo e2 gr av ro co kl dd cI cII ++ (wF tp f er tr kr cI cII cJ cJJ ++ wO cJ out oZ))) (hS : va_S (lwA s) s.heap H locs) (hl : lv_has ls 9 [(0, .ref b), (1, .ref tp), (2, .ref mo), (3, .ref out), (4, .int (nI 0))]) : W p l e room_1 s m #[Value.ref b] below meth c H locs 100 1000 (lw_Z below #[Value.ref b] s) (F0 m 200 ls []) := by
  obtain ⟨hx, hb, hr, hml, hown, hts0, hX, hbl, hlocks, hgv⟩ := id C0
  have hA : ∀ q : Nat, s.heap.size ≤ q → (lwA s) q := fun _ h => h
  have hbA : ¬ (lwA s) b := Nat.not_le.mpr hbl
  have hts : ∀ w ∈ wsL_law, w.before #[Value.ref b] s = true := fun w h => hts0 w (wsL_law_in w h)
  have hKc : va_K (dC, dI) vwCl (tyL cI cII cJ cJJ) s := hK.sub [0, 1, 2, 3] rfl
  by_cases h1 : xs 1 = nI 6
  · skip
    by_cases h2 : xs 2 = nI 6
    · skip
      refine lv_aload_n hx hb dL_law_200 rfl (lv_at hl 1 rfl) ?_
      refine lv_aload_n hx hb dL_law_201 rfl (lv_at hl 0 rfl) ?_
      refine lv_iload hx hb dL_law_202 (lv_at hl 4 rfl) ?_
      refine lv_iconst (v := nI 1) hx hb dL_law_204 (by decide) ?_
      refine kt_iadd hx hb dL_law_205 ?_
      refine va_sld hx hb hX hbl hbA hS (vp_in_nI (by omega) (by decide)) dL_law_206 ?_
      refine lv_topi (fun z1 ez1 => ?_)
      have ez1 : z1 = nI 6 := (ez1.trans (congrArg xs (nI_clamp (by decide)))).trans h1
      rw [ez1]
      refine lv_aload_n hx hb dL_law_207 rfl (lv_at hl 0 rfl) ?_
      refine lv_iload hx hb dL_law_208 (lv_at hl 4 rfl) ?_
      refine lv_iconst (v := nI 2) hx hb dL_law_210 (by decide) ?_
      refine kt_iadd hx hb dL_law_211 ?_
      refine va_sld hx hb hX hbl hbA hS (vp_in_nI (by omega) (by decide)) dL_law_212 ?_
      refine lv_topi (fun z2 ez2 => ?_)
      have ez2 : z2 = nI 6 := (ez2.trans (congrArg xs (nI_clamp (by decide)))).trans h2
      rw [ez2]
      refine lv_aload_n hx hb dL_law_213 rfl (lv_at hl 0 rfl) ?_
      refine lv_iload hx hb dL_law_214 (lv_at hl 4 rfl) ?_
      refine lv_iconst (v := nI 3) hx hb dL_law_216 (by decide) ?_
      refine kt_iadd hx hb dL_law_217 ?_
      refine va_sld hx hb hX hbl hbA hS (vp_in_nI (by omega) (by decide)) dL_law_218 ?_
      refine lv_topi (fun z3 ez3 => ?_)
      have ez3 : z3 = xs 3 := (ez3.trans (congrArg xs (nI_clamp (by decide)))).trans rfl
      rw [ez3]
      refine lv_aload_n hx hb dL_law_219 rfl (lv_at hl 3 rfl) ?_
      have hF9 := va_free (wc := wF tp f er tr kr cI cII cJ cJJ ++ wO cJ out oZ) hD hS hA (List.range' 14 46) rfl
      refine kt_newI (wC := wF tp f er tr kr cI cII cJ cJJ ++ wO cJ out oZ) (wR9 := wR (nI 0) z0 mo eo e2 gr av ro co kl dd cI cII) (wN := fun (_ : Unit) => ([] : va_W)) (tys := (tyL cI cII cJ cJJ)) (vx_runSW (As := [.ref tp, .int (nI 6), .int (nI 6), .int (xs 3), .ref out]) (rest := []) ⟨hx, hb, hml, hown, hts⟩ (h_edge_c l hlt dC dI cI cII cJ cJJ tp f er tr kr out (xs 3) _ ) (vx_cwSW 5 hts gL_law_L_edge rfl rfl rfl (by decide +kernel) ⟨Nat.le_of_ble_eq_true rfl, Nat.le_of_ble_eq_true rfl⟩) (kt_preSH hKc hP hD hS hE hnc hF9 (List.range' 14 46) rfl rfl) rfl rfl hl.1 rfl (lv_room (Nat.le_of_ble_eq_true rfl)) dL_law_220 ⟨Nat.le_of_ble_eq_true rfl, Nat.le_of_ble_eq_true rfl⟩) hP hD hS hA (List.range' 14 46) (List.range' 0 14) rfl rfl rfl (by decide) (fun u H locs hP hD hS => ?_)
      have hP := kt_sub (wC := wR (nI 0) z0 mo eo e2 gr av ro co kl dd cI cII) hP (List.range' 0 14) rfl
      have hD := hD.sub (ws' := wR (nI 0) z0 mo eo e2 gr av ro co kl dd cI cII) (List.range' 0 14) rfl rfl
      refine W.widen (k := 101) (n := 1006) (by omega) (by omega) ?_
      refine lv_istore (lv' := [(5, .int (nI 2)), (0, .ref b), (1, .ref tp), (2, .ref mo), (3, .ref out), (4, .int (nI 0))]) hx hb dL_law_223 hl (by decide) rfl (fun ls hl => ?_)
      refine lv_aload_n hx hb dL_law_225 rfl (lv_at hl 3 rfl) ?_
      refine lv_aload_n hx hb dL_law_226 rfl (lv_at hl 1 rfl) ?_
      refine lv_iload hx hb dL_law_227 (lv_at hl 5 rfl) ?_
      refine lv_iconst (v := nI 1) hx hb dL_law_229 (by decide) ?_
      refine kt_iadd hx hb dL_law_230 ?_
      refine va_sld hx hb hX hbl hbA hS (vp_in_nI (by omega) (by decide)) dL_law_231 ?_
      refine lv_topi (fun z4 ez4 => ?_)
      have ez4 : z4 = nI 6 := (ez4.trans (congrArg xs (nI_clamp (by decide)))).trans h1
      rw [ez4]
      refine lv_aload_n hx hb dL_law_232 rfl (lv_at hl 1 rfl) ?_
      refine lv_iload hx hb dL_law_233 (lv_at hl 5 rfl) ?_
      refine lv_iconst (v := nI 2) hx hb dL_law_235 (by decide) ?_
      refine kt_iadd hx hb dL_law_236 ?_
      refine va_sld hx hb hX hbl hbA hS (vp_in_nI (by omega) (by decide)) dL_law_237 ?_
      refine lv_topi (fun z5 ez5 => ?_)
      have ez5 : z5 = nI 6 := (ez5.trans (congrArg xs (nI_clamp (by decide)))).trans h2
      rw [ez5]
      refine lv_aload_n hx hb dL_law_238 rfl (lv_at hl 1 rfl) ?_
      refine lv_iload hx hb dL_law_239 (lv_at hl 5 rfl) ?_
      refine lv_iconst (v := nI 3) hx hb dL_law_241 (by decide) ?_
      refine kt_iadd hx hb dL_law_242 ?_
      refine va_sld hx hb hX hbl hbA hS (vp_in_nI (by omega) (by decide)) dL_law_243 ?_
      refine lv_topi (fun z6 ez6 => ?_)
      have ez6 : z6 = xs 3 := (ez6.trans (congrArg xs (nI_clamp (by decide)))).trans rfl
      rw [ez6]
      refine kt_newI (wC := wR (nI 0) z0 mo eo e2 gr av ro co kl dd cI cII) (wR9 := ([] : va_W)) (wN := fun (u : List Value) => wU mo (nI 2) u) (va_runV (As := [.int (nI 6), .int (nI 6), .int (xs 3)]) (rest := []) ⟨hx, hb, hml, hown, hts⟩ (t_edge_c l dC dI cI cII cJ cJJ cZ cO mo eo e2 gr av ro co kl dd (xs 3) _ ) (cwV 3 hts gL_law_X5_edge rfl rfl rfl (by decide +kernel) ⟨Nat.le_of_ble_eq_true rfl, Nat.le_of_ble_eq_true rfl⟩) (kt_preV (q0 := 0) (ci := kX5) hK hP hD (List.range' 0 14) rfl rfl rfl rfl rfl) rfl rfl hl.1 rfl (lv_room (Nat.le_of_ble_eq_true rfl)) dL_law_244 ⟨Nat.le_of_ble_eq_true rfl, Nat.le_of_ble_eq_true rfl⟩) hP hD hS hA (List.range' 0 14) [] rfl rfl rfl (by decide) (fun u9 H locs hP hD hS => ?_)
      have hP : va_P (dC, dI) vwCl (wU mo (nI 2) u9) H := hP
      have hD : va_D (lwA s) (wU mo (nI 2) u9) := hD
      refine W.widen (k := 101) (n := 1006) (by omega) (by omega) ?_
      refine lv_istore (lv' := [(6, .int (nI 0)), (5, .int (nI 2)), (0, .ref b), (1, .ref tp), (2, .ref mo), (3, .ref out), (4, .int (nI 0))]) hx hb dL_law_247 hl (by decide) rfl (fun ls hl => ?_)
      refine lv_aload_n hx hb dL_law_249 rfl (lv_at hl 4 rfl) ?_
      refine kt_calliM (w' := wU mo (nI 2) u9) (rest := []) (As := []) ⟨hx, hb, hml, hown, hts⟩ (c_X5_thrown l dC dI cI cII cJ cJJ cZ cO mo (nI 2) u9 _) (cwV 0 hts gL_law_X5_thrown rfl rfl rfl (by decide +kernel) ⟨Nat.le_of_ble_eq_true rfl, Nat.le_of_ble_eq_true rfl⟩) hK hP hD hS hA [0] ⟨rfl, ⟨[some 0], rfl, by decide +kernel⟩, rfl⟩ rfl 0 kX5 rfl rfl rfl rfl rfl hl.1 (Nat.le_of_ble_eq_true rfl) dL_law_250 ⟨Nat.le_of_ble_eq_true rfl, Nat.le_of_ble_eq_true rfl⟩ (fun H locs hP hD hS => ?_)
      have hP : va_P (dC, dI) vwCl (wU mo (nI 2) u9) H := hP
      have hD : va_D (lwA s) (wU mo (nI 2) u9) := hD
      refine W.widen (k := 101) (n := 1006) (by omega) (by omega) ?_
      refine lv_iload hx hb dL_law_253 (lv_at hl 1 rfl) ?_
      refine lv_icmp_eq (tgt := 260) hx hb dL_law_255 (by decide) (fun c7 => ?_) (fun c7 => ?_)
      · skip
        refine lv_iload hx hb dL_law_260 (lv_at hl 1 rfl) ?_
        refine lv_if_ne (tgt := 277) hx hb dL_law_262 (by decide) (fun c8 => ?_) (fun c8 => ?_)
        · skip
          refine lv_goto (tgt := 1493) hx hb dL_law_277 (by decide) ?_
          exact law_end C0 hS (lv_sub hl [2, 6] rfl) (by omega) (by omega)
        · first | exact absurd c8 (by decide) | exact (c8 (by decide)).elim
      · first | exact absurd c7 (by decide) | exact (c7 (by decide)).elim
    · skip
      refine lv_aload_n hx hb dL_law_200 rfl (lv_at hl 1 rfl) ?_
      refine lv_aload_n hx hb dL_law_201 rfl (lv_at hl 0 rfl) ?_
      refine lv_iload hx hb dL_law_202 (lv_at hl 4 rfl) ?_
      refine lv_iconst (v := nI 1) hx hb dL_law_204 (by decide) ?_
      refine kt_iadd hx hb dL_law_205 ?_
      refine va_sld hx hb hX hbl hbA hS (vp_in_nI (by omega) (by decide)) dL_law_206 ?_
      refine lv_topi (fun z9 ez9 => ?_)
      have ez9 : z9 = nI 6 := (ez9.trans (congrArg xs (nI_clamp (by decide)))).trans h1
      rw [ez9]
      refine lv_aload_n hx hb dL_law_207 rfl (lv_at hl 0 rfl) ?_
      refine lv_iload hx hb dL_law_208 (lv_at hl 4 rfl) ?_
      refine lv_iconst (v := nI 2) hx hb dL_law_210 (by decide) ?_
      refine kt_iadd hx hb dL_law_211 ?_
      refine va_sld hx hb hX hbl hbA hS (vp_in_nI (by omega) (by decide)) dL_law_212 ?_
      refine lv_topi (fun z10 ez10 => ?_)
      have ez10 : z10 = xs 2 := (ez10.trans (congrArg xs (nI_clamp (by decide)))).trans rfl
      rw [ez10]
      refine lv_aload_n hx hb dL_law_213 rfl (lv_at hl 0 rfl) ?_
      refine lv_iload hx hb dL_law_214 (lv_at hl 4 rfl) ?_
      refine lv_iconst (v := nI 3) hx hb dL_law_216 (by decide) ?_
      refine kt_iadd hx hb dL_law_217 ?_
      refine va_sld hx hb hX hbl hbA hS (vp_in_nI (by omega) (by decide)) dL_law_218 ?_
      refine lv_topi (fun z11 ez11 => ?_)
      have ez11 : z11 = xs 3 := (ez11.trans (congrArg xs (nI_clamp (by decide)))).trans rfl
      rw [ez11]
      refine lv_aload_n hx hb dL_law_219 rfl (lv_at hl 3 rfl) ?_
      have hF9 := va_free (wc := wF tp f er tr kr cI cII cJ cJJ ++ wO cJ out oZ) hD hS hA (List.range' 14 46) rfl
      refine kt_newI (wC := wF tp f er tr kr cI cII cJ cJJ ++ wO cJ out oZ) (wR9 := wR (nI 0) z0 mo eo e2 gr av ro co kl dd cI cII) (wN := fun (_ : Unit) => ([] : va_W)) (tys := (tyL cI cII cJ cJJ)) (vx_runSW (As := [.ref tp, .int (nI 6), .int (xs 2), .int (xs 3), .ref out]) (rest := []) ⟨hx, hb, hml, hown, hts⟩ (h_edge_b l hlt dC dI cI cII cJ cJJ tp f er tr kr out (xs 2) (xs 3) _ (h2)) (vx_cwSW 5 hts gL_law_L_edge rfl rfl rfl (by decide +kernel) ⟨Nat.le_of_ble_eq_true rfl, Nat.le_of_ble_eq_true rfl⟩) (kt_preSH hKc hP hD hS hE hnc hF9 (List.range' 14 46) rfl rfl) rfl rfl hl.1 rfl (lv_room (Nat.le_of_ble_eq_true rfl)) dL_law_220 ⟨Nat.le_of_ble_eq_true rfl, Nat.le_of_ble_eq_true rfl⟩) hP hD hS hA (List.range' 14 46) (List.range' 0 14) rfl rfl rfl (by decide) (fun u H locs hP hD hS => ?_)
      have hP := kt_sub (wC := wR (nI 0) z0 mo eo e2 gr av ro co kl dd cI cII) hP (List.range' 0 14) rfl
      have hD := hD.sub (ws' := wR (nI 0) z0 mo eo e2 gr av ro co kl dd cI cII) (List.range' 0 14) rfl rfl
      refine W.widen (k := 101) (n := 1006) (by omega) (by omega) ?_
      refine lv_istore (lv' := [(5, .int (nI 1)), (0, .ref b), (1, .ref tp), (2, .ref mo), (3, .ref out), (4, .int (nI 0))]) hx hb dL_law_223 hl (by decide) rfl (fun ls hl => ?_)
      refine lv_aload_n hx hb dL_law_225 rfl (lv_at hl 3 rfl) ?_
      refine lv_aload_n hx hb dL_law_226 rfl (lv_at hl 1 rfl) ?_
      refine lv_iload hx hb dL_law_227 (lv_at hl 5 rfl) ?_
      refine lv_iconst (v := nI 1) hx hb dL_law_229 (by decide) ?_
      refine kt_iadd hx hb dL_law_230 ?_
      refine va_sld hx hb hX hbl hbA hS (vp_in_nI (by omega) (by decide)) dL_law_231 ?_
      refine lv_topi (fun z12 ez12 => ?_)
      have ez12 : z12 = nI 6 := (ez12.trans (congrArg xs (nI_clamp (by decide)))).trans h1
      rw [ez12]
      refine lv_aload_n hx hb dL_law_232 rfl (lv_at hl 1 rfl) ?_
      refine lv_iload hx hb dL_law_233 (lv_at hl 5 rfl) ?_
      refine lv_iconst (v := nI 2) hx hb dL_law_235 (by decide) ?_
      refine kt_iadd hx hb dL_law_236 ?_
      refine va_sld hx hb hX hbl hbA hS (vp_in_nI (by omega) (by decide)) dL_law_237 ?_
      refine lv_topi (fun z13 ez13 => ?_)
      have ez13 : z13 = xs 2 := (ez13.trans (congrArg xs (nI_clamp (by decide)))).trans rfl
      rw [ez13]
      refine lv_aload_n hx hb dL_law_238 rfl (lv_at hl 1 rfl) ?_
      refine lv_iload hx hb dL_law_239 (lv_at hl 5 rfl) ?_
      refine lv_iconst (v := nI 3) hx hb dL_law_241 (by decide) ?_
      refine kt_iadd hx hb dL_law_242 ?_
      refine va_sld hx hb hX hbl hbA hS (vp_in_nI (by omega) (by decide)) dL_law_243 ?_
      refine lv_topi (fun z14 ez14 => ?_)
      have ez14 : z14 = xs 3 := (ez14.trans (congrArg xs (nI_clamp (by decide)))).trans rfl
      rw [ez14]
      refine kt_newI (wC := wR (nI 0) z0 mo eo e2 gr av ro co kl dd cI cII) (wR9 := ([] : va_W)) (wN := fun (u : List Value) => wU mo (nI 1) u) (va_runV (As := [.int (nI 6), .int (xs 2), .int (xs 3)]) (rest := []) ⟨hx, hb, hml, hown, hts⟩ (t_edge_b l dC dI cI cII cJ cJJ cZ cO mo eo e2 gr av ro co kl dd (xs 2) (xs 3) _ (h2)) (cwV 3 hts gL_law_X5_edge rfl rfl rfl (by decide +kernel) ⟨Nat.le_of_ble_eq_true rfl, Nat.le_of_ble_eq_true rfl⟩) (kt_preV (q0 := 0) (ci := kX5) hK hP hD (List.range' 0 14) rfl rfl rfl rfl rfl) rfl rfl hl.1 rfl (lv_room (Nat.le_of_ble_eq_true rfl)) dL_law_244 ⟨Nat.le_of_ble_eq_true rfl, Nat.le_of_ble_eq_true rfl⟩) hP hD hS hA (List.range' 0 14) [] rfl rfl rfl (by decide) (fun u9 H locs hP hD hS => ?_)
      have hP : va_P (dC, dI) vwCl (wU mo (nI 1) u9) H := hP
      have hD : va_D (lwA s) (wU mo (nI 1) u9) := hD
      refine W.widen (k := 101) (n := 1006) (by omega) (by omega) ?_
      refine lv_istore (lv' := [(6, .int (nI 0)), (5, .int (nI 1)), (0, .ref b), (1, .ref tp), (2, .ref mo), (3, .ref out), (4, .int (nI 0))]) hx hb dL_law_247 hl (by decide) rfl (fun ls hl => ?_)
      refine lv_aload_n hx hb dL_law_249 rfl (lv_at hl 4 rfl) ?_
      refine kt_calliM (w' := wU mo (nI 1) u9) (rest := []) (As := []) ⟨hx, hb, hml, hown, hts⟩ (c_X5_thrown l dC dI cI cII cJ cJJ cZ cO mo (nI 1) u9 _) (cwV 0 hts gL_law_X5_thrown rfl rfl rfl (by decide +kernel) ⟨Nat.le_of_ble_eq_true rfl, Nat.le_of_ble_eq_true rfl⟩) hK hP hD hS hA [0] ⟨rfl, ⟨[some 0], rfl, by decide +kernel⟩, rfl⟩ rfl 0 kX5 rfl rfl rfl rfl rfl hl.1 (Nat.le_of_ble_eq_true rfl) dL_law_250 ⟨Nat.le_of_ble_eq_true rfl, Nat.le_of_ble_eq_true rfl⟩ (fun H locs hP hD hS => ?_)
      have hP : va_P (dC, dI) vwCl (wU mo (nI 1) u9) H := hP
      have hD : va_D (lwA s) (wU mo (nI 1) u9) := hD
      refine W.widen (k := 101) (n := 1006) (by omega) (by omega) ?_
      refine lv_iload hx hb dL_law_253 (lv_at hl 1 rfl) ?_
      refine lv_icmp_eq (tgt := 260) hx hb dL_law_255 (by decide) (fun c15 => ?_) (fun c15 => ?_)
      · skip
        refine lv_iload hx hb dL_law_260 (lv_at hl 1 rfl) ?_
        refine lv_if_ne (tgt := 277) hx hb dL_law_262 (by decide) (fun c16 => ?_) (fun c16 => ?_)
        · skip
          refine lv_goto (tgt := 1493) hx hb dL_law_277 (by decide) ?_
          exact law_end C0 hS (lv_sub hl [2, 6] rfl) (by omega) (by omega)
        · first | exact absurd c16 (by decide) | exact (c16 (by decide)).elim
      · first | exact absurd c15 (by decide) | exact (c15 (by decide)).elim
  · skip
    refine lv_aload_n hx hb dL_law_200 rfl (lv_at hl 1 rfl) ?_
    refine lv_aload_n hx hb dL_law_201 rfl (lv_at hl 0 rfl) ?_
    refine lv_iload hx hb dL_law_202 (lv_at hl 4 rfl) ?_
    refine lv_iconst (v := nI 1) hx hb dL_law_204 (by decide) ?_
    refine kt_iadd hx hb dL_law_205 ?_
    refine va_sld hx hb hX hbl hbA hS (vp_in_nI (by omega) (by decide)) dL_law_206 ?_
    refine lv_topi (fun z17 ez17 => ?_)
    have ez17 : z17 = xs 1 := (ez17.trans (congrArg xs (nI_clamp (by decide)))).trans rfl
    rw [ez17]
    refine lv_aload_n hx hb dL_law_207 rfl (lv_at hl 0 rfl) ?_
    refine lv_iload hx hb dL_law_208 (lv_at hl 4 rfl) ?_
    refine lv_iconst (v := nI 2) hx hb dL_law_210 (by decide) ?_
    refine kt_iadd hx hb dL_law_211 ?_
    refine va_sld hx hb hX hbl hbA hS (vp_in_nI (by omega) (by decide)) dL_law_212 ?_
    refine lv_topi (fun z18 ez18 => ?_)
    have ez18 : z18 = xs 2 := (ez18.trans (congrArg xs (nI_clamp (by decide)))).trans rfl
    rw [ez18]
    refine lv_aload_n hx hb dL_law_213 rfl (lv_at hl 0 rfl) ?_
    refine lv_iload hx hb dL_law_214 (lv_at hl 4 rfl) ?_
    refine lv_iconst (v := nI 3) hx hb dL_law_216 (by decide) ?_
    refine kt_iadd hx hb dL_law_217 ?_
    refine va_sld hx hb hX hbl hbA hS (vp_in_nI (by omega) (by decide)) dL_law_218 ?_
    refine lv_topi (fun z19 ez19 => ?_)
    have ez19 : z19 = xs 3 := (ez19.trans (congrArg xs (nI_clamp (by decide)))).trans rfl
    rw [ez19]
    refine lv_aload_n hx hb dL_law_219 rfl (lv_at hl 3 rfl) ?_
    have hF9 := va_free (wc := wF tp f er tr kr cI cII cJ cJJ ++ wO cJ out oZ) hD hS hA (List.range' 14 46) rfl
    refine kt_newI (wC := wF tp f er tr kr cI cII cJ cJJ ++ wO cJ out oZ) (wR9 := wR (nI 0) z0 mo eo e2 gr av ro co kl dd cI cII) (wN := fun (_ : Unit) => ([] : va_W)) (tys := (tyL cI cII cJ cJJ)) (vx_runSW (As := [.ref tp, .int (xs 1), .int (xs 2), .int (xs 3), .ref out]) (rest := []) ⟨hx, hb, hml, hown, hts⟩ (h_edge_a l hlt dC dI cI cII cJ cJJ tp f er tr kr out (xs 1) (xs 2) (xs 3) _ (h1)) (vx_cwSW 5 hts gL_law_L_edge rfl rfl rfl (by decide +kernel) ⟨Nat.le_of_ble_eq_true rfl, Nat.le_of_ble_eq_true rfl⟩) (kt_preSH hKc hP hD hS hE hnc hF9 (List.range' 14 46) rfl rfl) rfl rfl hl.1 rfl (lv_room (Nat.le_of_ble_eq_true rfl)) dL_law_220 ⟨Nat.le_of_ble_eq_true rfl, Nat.le_of_ble_eq_true rfl⟩) hP hD hS hA (List.range' 14 46) (List.range' 0 14) rfl rfl rfl (by decide) (fun u H locs hP hD hS => ?_)
    have hP := kt_sub (wC := wR (nI 0) z0 mo eo e2 gr av ro co kl dd cI cII) hP (List.range' 0 14) rfl
    have hD := hD.sub (ws' := wR (nI 0) z0 mo eo e2 gr av ro co kl dd cI cII) (List.range' 0 14) rfl rfl
    refine W.widen (k := 101) (n := 1006) (by omega) (by omega) ?_
    refine lv_istore (lv' := [(5, .int (nI 1)), (0, .ref b), (1, .ref tp), (2, .ref mo), (3, .ref out), (4, .int (nI 0))]) hx hb dL_law_223 hl (by decide) rfl (fun ls hl => ?_)
    refine lv_aload_n hx hb dL_law_225 rfl (lv_at hl 3 rfl) ?_
    refine lv_aload_n hx hb dL_law_226 rfl (lv_at hl 1 rfl) ?_
    refine lv_iload hx hb dL_law_227 (lv_at hl 5 rfl) ?_
    refine lv_iconst (v := nI 1) hx hb dL_law_229 (by decide) ?_
    refine kt_iadd hx hb dL_law_230 ?_
    refine va_sld hx hb hX hbl hbA hS (vp_in_nI (by omega) (by decide)) dL_law_231 ?_
    refine lv_topi (fun z20 ez20 => ?_)
    have ez20 : z20 = xs 1 := (ez20.trans (congrArg xs (nI_clamp (by decide)))).trans rfl
    rw [ez20]
    refine lv_aload_n hx hb dL_law_232 rfl (lv_at hl 1 rfl) ?_
    refine lv_iload hx hb dL_law_233 (lv_at hl 5 rfl) ?_
    refine lv_iconst (v := nI 2) hx hb dL_law_235 (by decide) ?_
    refine kt_iadd hx hb dL_law_236 ?_
    refine va_sld hx hb hX hbl hbA hS (vp_in_nI (by omega) (by decide)) dL_law_237 ?_
    refine lv_topi (fun z21 ez21 => ?_)
    have ez21 : z21 = xs 2 := (ez21.trans (congrArg xs (nI_clamp (by decide)))).trans rfl
    rw [ez21]
    refine lv_aload_n hx hb dL_law_238 rfl (lv_at hl 1 rfl) ?_
    refine lv_iload hx hb dL_law_239 (lv_at hl 5 rfl) ?_
    refine lv_iconst (v := nI 3) hx hb dL_law_241 (by decide) ?_
    refine kt_iadd hx hb dL_law_242 ?_
    refine va_sld hx hb hX hbl hbA hS (vp_in_nI (by omega) (by decide)) dL_law_243 ?_
    refine lv_topi (fun z22 ez22 => ?_)
    have ez22 : z22 = xs 3 := (ez22.trans (congrArg xs (nI_clamp (by decide)))).trans rfl
    rw [ez22]
    refine kt_newI (wC := wR (nI 0) z0 mo eo e2 gr av ro co kl dd cI cII) (wR9 := ([] : va_W)) (wN := fun (u : List Value) => wU mo (nI 1) u) (va_runV (As := [.int (xs 1), .int (xs 2), .int (xs 3)]) (rest := []) ⟨hx, hb, hml, hown, hts⟩ (t_edge_a l dC dI cI cII cJ cJJ cZ cO mo eo e2 gr av ro co kl dd (xs 1) (xs 2) (xs 3) _ (h1)) (cwV 3 hts gL_law_X5_edge rfl rfl rfl (by decide +kernel) ⟨Nat.le_of_ble_eq_true rfl, Nat.le_of_ble_eq_true rfl⟩) (kt_preV (q0 := 0) (ci := kX5) hK hP hD (List.range' 0 14) rfl rfl rfl rfl rfl) rfl rfl hl.1 rfl (lv_room (Nat.le_of_ble_eq_true rfl)) dL_law_244 ⟨Nat.le_of_ble_eq_true rfl, Nat.le_of_ble_eq_true rfl⟩) hP hD hS hA (List.range' 0 14) [] rfl rfl rfl (by decide) (fun u9 H locs hP hD hS => ?_)
    have hP : va_P (dC, dI) vwCl (wU mo (nI 1) u9) H := hP
    have hD : va_D (lwA s) (wU mo (nI 1) u9) := hD
    refine W.widen (k := 101) (n := 1006) (by omega) (by omega) ?_
    refine lv_istore (lv' := [(6, .int (nI 0)), (5, .int (nI 1)), (0, .ref b), (1, .ref tp), (2, .ref mo), (3, .ref out), (4, .int (nI 0))]) hx hb dL_law_247 hl (by decide) rfl (fun ls hl => ?_)
    refine lv_aload_n hx hb dL_law_249 rfl (lv_at hl 4 rfl) ?_
    refine kt_calliM (w' := wU mo (nI 1) u9) (rest := []) (As := []) ⟨hx, hb, hml, hown, hts⟩ (c_X5_thrown l dC dI cI cII cJ cJJ cZ cO mo (nI 1) u9 _) (cwV 0 hts gL_law_X5_thrown rfl rfl rfl (by decide +kernel) ⟨Nat.le_of_ble_eq_true rfl, Nat.le_of_ble_eq_true rfl⟩) hK hP hD hS hA [0] ⟨rfl, ⟨[some 0], rfl, by decide +kernel⟩, rfl⟩ rfl 0 kX5 rfl rfl rfl rfl rfl hl.1 (Nat.le_of_ble_eq_true rfl) dL_law_250 ⟨Nat.le_of_ble_eq_true rfl, Nat.le_of_ble_eq_true rfl⟩ (fun H locs hP hD hS => ?_)
    have hP : va_P (dC, dI) vwCl (wU mo (nI 1) u9) H := hP
    have hD : va_D (lwA s) (wU mo (nI 1) u9) := hD
    refine W.widen (k := 101) (n := 1006) (by omega) (by omega) ?_
    refine lv_iload hx hb dL_law_253 (lv_at hl 1 rfl) ?_
    refine lv_icmp_eq (tgt := 260) hx hb dL_law_255 (by decide) (fun c23 => ?_) (fun c23 => ?_)
    · skip
      refine lv_iload hx hb dL_law_260 (lv_at hl 1 rfl) ?_
      refine lv_if_ne (tgt := 277) hx hb dL_law_262 (by decide) (fun c24 => ?_) (fun c24 => ?_)
      · skip
        refine lv_goto (tgt := 1493) hx hb dL_law_277 (by decide) ?_
        exact law_end C0 hS (lv_sub hl [2, 6] rfl) (by omega) (by omega)
      · first | exact absurd c24 (by decide) | exact (c24 (by decide)).elim
    · first | exact absurd c23 (by decide) | exact (c23 (by decide)).elim

set_option maxHeartbeats 4000000 in
set_option maxRecDepth 100000 in
/-- case 2 of the law: drop -/
theorem law_drop {p : Program} {l : Launch} {e : Env} {s : State} {m : MethodId} {below : List Frame} {meth : Method} {c : Code} {b : Nat} {xs : Nat → Int32} (hlt : l.stackTraces = false) (C0 : lw_At p s m meth c b 4 xs) {dC : Nat → ClassId} {dI : Nat → Nat → Nat} {cI cII cJ cJJ cZ cO : ClassId} {tp : Nat} {f : Nat → Nat} {er tr kr : Nat → Nat} {mo eo : Nat} {e2 : Nat → Nat} {gr av ro co kl dd out : Nat} (hK : va_K (dC, dI) vwCl (tyR cI cII cJ cJJ cZ cO) s) (hE : EnvX (lwA s) s s.heap) (hER : EnvR dd (lwA s) s s.heap) (hnc : va_Nc exA exI s) {H : Heap} {locs : List Loc} {ls : Array Slot} (hP : va_P (dC, dI) vwCl (wR (nI 0) z0 mo eo e2 gr av ro co kl dd cI cII ++ (wF tp f er tr kr cI cII cJ cJJ ++ wO cJ out oZ)) H) (hD : va_D (lwA s) (wR (nI 0) z0 mo eo e2 gr av ro co kl dd cI cII ++ (wF tp f er tr kr cI cII cJ cJJ ++ wO cJ out oZ))) (hS : va_S (lwA s) s.heap H locs) (hl : lv_has ls 9 [(0, .ref b), (1, .ref tp), (2, .ref mo), (3, .ref out), (4, .int (nI 0))]) : W p l e room_1 s m #[Value.ref b] below meth c H locs 100 1000 (lw_Z below #[Value.ref b] s) (F0 m 280 ls []) := by
  obtain ⟨hx, hb, hr, hml, hown, hts0, hX, hbl, hlocks, hgv⟩ := id C0
  have hA : ∀ q : Nat, s.heap.size ≤ q → (lwA s) q := fun _ h => h
  have hbA : ¬ (lwA s) b := Nat.not_le.mpr hbl
  have hts : ∀ w ∈ wsL_law, w.before #[Value.ref b] s = true := fun w h => hts0 w (wsL_law_in w h)
  have hKc : va_K (dC, dI) vwCl (tyL cI cII cJ cJJ) s := hK.sub [0, 1, 2, 3] rfl
  refine lv_aload_n hx hb dL_law_280 rfl (lv_at hl 1 rfl) ?_
  refine lv_aload_n hx hb dL_law_281 rfl (lv_at hl 0 rfl) ?_
  refine lv_iload hx hb dL_law_282 (lv_at hl 4 rfl) ?_
  refine lv_iconst (v := nI 1) hx hb dL_law_284 (by decide) ?_
  refine kt_iadd hx hb dL_law_285 ?_
  refine va_sld hx hb hX hbl hbA hS (vp_in_nI (by omega) (by decide)) dL_law_286 ?_
  refine lv_topi (fun z1 ez1 => ?_)
  have ez1 : z1 = xs 1 := (ez1.trans (congrArg xs (nI_clamp (by decide)))).trans rfl
  rw [ez1]
  refine lv_aload_n hx hb dL_law_287 rfl (lv_at hl 0 rfl) ?_
  refine lv_iload hx hb dL_law_288 (lv_at hl 4 rfl) ?_
  refine lv_iconst (v := nI 2) hx hb dL_law_290 (by decide) ?_
  refine kt_iadd hx hb dL_law_291 ?_
  refine va_sld hx hb hX hbl hbA hS (vp_in_nI (by omega) (by decide)) dL_law_292 ?_
  refine lv_topi (fun z2 ez2 => ?_)
  have ez2 : z2 = xs 2 := (ez2.trans (congrArg xs (nI_clamp (by decide)))).trans rfl
  rw [ez2]
  refine lv_aload_n hx hb dL_law_293 rfl (lv_at hl 3 rfl) ?_
  have hF9 := va_free (wc := wF tp f er tr kr cI cII cJ cJJ ++ wO cJ out oZ) hD hS hA (List.range' 14 46) rfl
  refine kt_newI (wC := wF tp f er tr kr cI cII cJ cJJ ++ wO cJ out oZ) (wR9 := wR (nI 0) z0 mo eo e2 gr av ro co kl dd cI cII) (wN := fun (_ : Unit) => ([] : va_W)) (tys := (tyL cI cII cJ cJJ)) (vx_runSW (As := [.ref tp, .int (xs 1), .int (xs 2), .ref out]) (rest := []) ⟨hx, hb, hml, hown, hts⟩ (h_drop l hlt dC dI cI cII cJ cJJ tp f er tr kr out (xs 1) (xs 2) _ ) (vx_cwSW 4 hts gL_law_L_drop rfl rfl rfl (by decide +kernel) ⟨Nat.le_of_ble_eq_true rfl, Nat.le_of_ble_eq_true rfl⟩) (kt_preSH hKc hP hD hS hE hnc hF9 (List.range' 14 46) rfl rfl) rfl rfl hl.1 rfl (lv_room (Nat.le_of_ble_eq_true rfl)) dL_law_294 ⟨Nat.le_of_ble_eq_true rfl, Nat.le_of_ble_eq_true rfl⟩) hP hD hS hA (List.range' 14 46) (List.range' 0 14) rfl rfl rfl (by decide) (fun u H locs hP hD hS => ?_)
  have hP := kt_sub (wC := wR (nI 0) z0 mo eo e2 gr av ro co kl dd cI cII) hP (List.range' 0 14) rfl
  have hD := hD.sub (ws' := wR (nI 0) z0 mo eo e2 gr av ro co kl dd cI cII) (List.range' 0 14) rfl rfl
  refine W.widen (k := 101) (n := 1006) (by omega) (by omega) ?_
  refine lv_istore (lv' := [(5, .int (nI 1)), (0, .ref b), (1, .ref tp), (2, .ref mo), (3, .ref out), (4, .int (nI 0))]) hx hb dL_law_297 hl (by decide) rfl (fun ls hl => ?_)
  refine lv_aload_n hx hb dL_law_299 rfl (lv_at hl 3 rfl) ?_
  refine lv_aload_n hx hb dL_law_300 rfl (lv_at hl 1 rfl) ?_
  refine lv_iload hx hb dL_law_301 (lv_at hl 5 rfl) ?_
  refine lv_iconst (v := nI 1) hx hb dL_law_303 (by decide) ?_
  refine kt_iadd hx hb dL_law_304 ?_
  refine va_sld hx hb hX hbl hbA hS (vp_in_nI (by omega) (by decide)) dL_law_305 ?_
  refine lv_topi (fun z3 ez3 => ?_)
  have ez3 : z3 = xs 1 := (ez3.trans (congrArg xs (nI_clamp (by decide)))).trans rfl
  rw [ez3]
  refine lv_aload_n hx hb dL_law_306 rfl (lv_at hl 1 rfl) ?_
  refine lv_iload hx hb dL_law_307 (lv_at hl 5 rfl) ?_
  refine lv_iconst (v := nI 2) hx hb dL_law_309 (by decide) ?_
  refine kt_iadd hx hb dL_law_310 ?_
  refine va_sld hx hb hX hbl hbA hS (vp_in_nI (by omega) (by decide)) dL_law_311 ?_
  refine lv_topi (fun z4 ez4 => ?_)
  have ez4 : z4 = xs 2 := (ez4.trans (congrArg xs (nI_clamp (by decide)))).trans rfl
  rw [ez4]
  refine kt_newI (wC := wR (nI 0) z0 mo eo e2 gr av ro co kl dd cI cII) (wR9 := ([] : va_W)) (wN := fun (u : List Value) => wU mo (nI 1) u) (va_runV (As := [.int (xs 1), .int (xs 2)]) (rest := []) ⟨hx, hb, hml, hown, hts⟩ (t_drop l dC dI cI cII cJ cJJ cZ cO mo eo e2 gr av ro co kl dd (xs 1) (xs 2) _ ) (cwV 2 hts gL_law_X5_drop rfl rfl rfl (by decide +kernel) ⟨Nat.le_of_ble_eq_true rfl, Nat.le_of_ble_eq_true rfl⟩) (kt_preV (q0 := 0) (ci := kX5) hK hP hD (List.range' 0 14) rfl rfl rfl rfl rfl) rfl rfl hl.1 rfl (lv_room (Nat.le_of_ble_eq_true rfl)) dL_law_312 ⟨Nat.le_of_ble_eq_true rfl, Nat.le_of_ble_eq_true rfl⟩) hP hD hS hA (List.range' 0 14) [] rfl rfl rfl (by decide) (fun u9 H locs hP hD hS => ?_)
  have hP : va_P (dC, dI) vwCl (wU mo (nI 1) u9) H := hP
  have hD : va_D (lwA s) (wU mo (nI 1) u9) := hD
  refine W.widen (k := 101) (n := 1006) (by omega) (by omega) ?_
  refine lv_istore (lv' := [(6, .int (nI 0)), (5, .int (nI 1)), (0, .ref b), (1, .ref tp), (2, .ref mo), (3, .ref out), (4, .int (nI 0))]) hx hb dL_law_315 hl (by decide) rfl (fun ls hl => ?_)
  refine lv_aload_n hx hb dL_law_317 rfl (lv_at hl 4 rfl) ?_
  refine kt_calliM (w' := wU mo (nI 1) u9) (rest := []) (As := []) ⟨hx, hb, hml, hown, hts⟩ (c_X5_thrown l dC dI cI cII cJ cJJ cZ cO mo (nI 1) u9 _) (cwV 0 hts gL_law_X5_thrown rfl rfl rfl (by decide +kernel) ⟨Nat.le_of_ble_eq_true rfl, Nat.le_of_ble_eq_true rfl⟩) hK hP hD hS hA [0] ⟨rfl, ⟨[some 0], rfl, by decide +kernel⟩, rfl⟩ rfl 0 kX5 rfl rfl rfl rfl rfl hl.1 (Nat.le_of_ble_eq_true rfl) dL_law_318 ⟨Nat.le_of_ble_eq_true rfl, Nat.le_of_ble_eq_true rfl⟩ (fun H locs hP hD hS => ?_)
  have hP : va_P (dC, dI) vwCl (wU mo (nI 1) u9) H := hP
  have hD : va_D (lwA s) (wU mo (nI 1) u9) := hD
  refine W.widen (k := 101) (n := 1006) (by omega) (by omega) ?_
  refine lv_iload hx hb dL_law_321 (lv_at hl 1 rfl) ?_
  refine lv_icmp_eq (tgt := 328) hx hb dL_law_323 (by decide) (fun c5 => ?_) (fun c5 => ?_)
  · skip
    refine lv_iload hx hb dL_law_328 (lv_at hl 1 rfl) ?_
    refine lv_if_ne (tgt := 345) hx hb dL_law_330 (by decide) (fun c6 => ?_) (fun c6 => ?_)
    · skip
      refine lv_goto (tgt := 1493) hx hb dL_law_345 (by decide) ?_
      exact law_end C0 hS (lv_sub hl [2, 6] rfl) (by omega) (by omega)
    · first | exact absurd c6 (by decide) | exact (c6 (by decide)).elim
  · first | exact absurd c5 (by decide) | exact (c5 (by decide)).elim

set_option maxHeartbeats 4000000 in
set_option maxRecDepth 100000 in
/-- case 3 of the law: topple -/
theorem law_topple {p : Program} {l : Launch} {e : Env} {s : State} {m : MethodId} {below : List Frame} {meth : Method} {c : Code} {b : Nat} {xs : Nat → Int32} (hlt : l.stackTraces = false) (C0 : lw_At p s m meth c b 4 xs) {dC : Nat → ClassId} {dI : Nat → Nat → Nat} {cI cII cJ cJJ cZ cO : ClassId} {tp : Nat} {f : Nat → Nat} {er tr kr : Nat → Nat} {mo eo : Nat} {e2 : Nat → Nat} {gr av ro co kl dd out : Nat} (hK : va_K (dC, dI) vwCl (tyR cI cII cJ cJJ cZ cO) s) (hE : EnvX (lwA s) s s.heap) (hER : EnvR dd (lwA s) s s.heap) (hnc : va_Nc exA exI s) {H : Heap} {locs : List Loc} {ls : Array Slot} (hP : va_P (dC, dI) vwCl (wR (nI 0) z0 mo eo e2 gr av ro co kl dd cI cII ++ (wF tp f er tr kr cI cII cJ cJJ ++ wO cJ out oZ)) H) (hD : va_D (lwA s) (wR (nI 0) z0 mo eo e2 gr av ro co kl dd cI cII ++ (wF tp f er tr kr cI cII cJ cJJ ++ wO cJ out oZ))) (hS : va_S (lwA s) s.heap H locs) (hl : lv_has ls 9 [(0, .ref b), (1, .ref tp), (2, .ref mo), (3, .ref out), (4, .int (nI 0))]) : W p l e room_1 s m #[Value.ref b] below meth c H locs 100 1000 (lw_Z below #[Value.ref b] s) (F0 m 348 ls []) := by
  obtain ⟨hx, hb, hr, hml, hown, hts0, hX, hbl, hlocks, hgv⟩ := id C0
  have hA : ∀ q : Nat, s.heap.size ≤ q → (lwA s) q := fun _ h => h
  have hbA : ¬ (lwA s) b := Nat.not_le.mpr hbl
  have hts : ∀ w ∈ wsL_law, w.before #[Value.ref b] s = true := fun w h => hts0 w (wsL_law_in w h)
  have hKc : va_K (dC, dI) vwCl (tyL cI cII cJ cJJ) s := hK.sub [0, 1, 2, 3] rfl
  refine lv_aload_n hx hb dL_law_348 rfl (lv_at hl 1 rfl) ?_
  refine lv_aload_n hx hb dL_law_349 rfl (lv_at hl 0 rfl) ?_
  refine lv_iload hx hb dL_law_350 (lv_at hl 4 rfl) ?_
  refine lv_iconst (v := nI 1) hx hb dL_law_352 (by decide) ?_
  refine kt_iadd hx hb dL_law_353 ?_
  refine va_sld hx hb hX hbl hbA hS (vp_in_nI (by omega) (by decide)) dL_law_354 ?_
  refine lv_topi (fun z1 ez1 => ?_)
  have ez1 : z1 = xs 1 := (ez1.trans (congrArg xs (nI_clamp (by decide)))).trans rfl
  rw [ez1]
  refine lv_aload_n hx hb dL_law_355 rfl (lv_at hl 3 rfl) ?_
  have hF9 := va_free (wc := wF tp f er tr kr cI cII cJ cJJ ++ wO cJ out oZ) hD hS hA (List.range' 14 46) rfl
  refine kt_newI (wC := wF tp f er tr kr cI cII cJ cJJ ++ wO cJ out oZ) (wR9 := wR (nI 0) z0 mo eo e2 gr av ro co kl dd cI cII) (wN := fun (_ : Unit) => ([] : va_W)) (tys := (tyL cI cII cJ cJJ)) (vx_runSW (As := [.ref tp, .int (xs 1), .ref out]) (rest := []) ⟨hx, hb, hml, hown, hts⟩ (h_topple l hlt dC dI cI cII cJ cJJ tp f er tr kr out (xs 1) _ ) (vx_cwSW 3 hts gL_law_L_topple rfl rfl rfl (by decide +kernel) ⟨Nat.le_of_ble_eq_true rfl, Nat.le_of_ble_eq_true rfl⟩) (kt_preSH hKc hP hD hS hE hnc hF9 (List.range' 14 46) rfl rfl) rfl rfl hl.1 rfl (lv_room (Nat.le_of_ble_eq_true rfl)) dL_law_356 ⟨Nat.le_of_ble_eq_true rfl, Nat.le_of_ble_eq_true rfl⟩) hP hD hS hA (List.range' 14 46) (List.range' 0 14) rfl rfl rfl (by decide) (fun u H locs hP hD hS => ?_)
  have hP := kt_sub (wC := wR (nI 0) z0 mo eo e2 gr av ro co kl dd cI cII) hP (List.range' 0 14) rfl
  have hD := hD.sub (ws' := wR (nI 0) z0 mo eo e2 gr av ro co kl dd cI cII) (List.range' 0 14) rfl rfl
  refine W.widen (k := 101) (n := 1006) (by omega) (by omega) ?_
  refine lv_istore (lv' := [(5, .int (nI 1)), (0, .ref b), (1, .ref tp), (2, .ref mo), (3, .ref out), (4, .int (nI 0))]) hx hb dL_law_359 hl (by decide) rfl (fun ls hl => ?_)
  refine lv_aload_n hx hb dL_law_361 rfl (lv_at hl 3 rfl) ?_
  refine lv_aload_n hx hb dL_law_362 rfl (lv_at hl 1 rfl) ?_
  refine lv_iload hx hb dL_law_363 (lv_at hl 5 rfl) ?_
  refine lv_iconst (v := nI 1) hx hb dL_law_365 (by decide) ?_
  refine kt_iadd hx hb dL_law_366 ?_
  refine va_sld hx hb hX hbl hbA hS (vp_in_nI (by omega) (by decide)) dL_law_367 ?_
  refine lv_topi (fun z2 ez2 => ?_)
  have ez2 : z2 = xs 1 := (ez2.trans (congrArg xs (nI_clamp (by decide)))).trans rfl
  rw [ez2]
  refine kt_newI (wC := wR (nI 0) z0 mo eo e2 gr av ro co kl dd cI cII) (wR9 := ([] : va_W)) (wN := fun (u : List Value) => wU mo (nI 1) u) (va_runV (As := [.int (xs 1)]) (rest := []) ⟨hx, hb, hml, hown, hts⟩ (t_topple l dC dI cI cII cJ cJJ cZ cO mo eo e2 gr av ro co kl dd (xs 1) _ ) (cwV 1 hts gL_law_X5_topple rfl rfl rfl (by decide +kernel) ⟨Nat.le_of_ble_eq_true rfl, Nat.le_of_ble_eq_true rfl⟩) (kt_preV (q0 := 0) (ci := kX5) hK hP hD (List.range' 0 14) rfl rfl rfl rfl rfl) rfl rfl hl.1 rfl (lv_room (Nat.le_of_ble_eq_true rfl)) dL_law_368 ⟨Nat.le_of_ble_eq_true rfl, Nat.le_of_ble_eq_true rfl⟩) hP hD hS hA (List.range' 0 14) [] rfl rfl rfl (by decide) (fun u9 H locs hP hD hS => ?_)
  have hP : va_P (dC, dI) vwCl (wU mo (nI 1) u9) H := hP
  have hD : va_D (lwA s) (wU mo (nI 1) u9) := hD
  refine W.widen (k := 101) (n := 1006) (by omega) (by omega) ?_
  refine lv_istore (lv' := [(6, .int (nI 0)), (5, .int (nI 1)), (0, .ref b), (1, .ref tp), (2, .ref mo), (3, .ref out), (4, .int (nI 0))]) hx hb dL_law_371 hl (by decide) rfl (fun ls hl => ?_)
  refine lv_aload_n hx hb dL_law_373 rfl (lv_at hl 4 rfl) ?_
  refine kt_calliM (w' := wU mo (nI 1) u9) (rest := []) (As := []) ⟨hx, hb, hml, hown, hts⟩ (c_X5_thrown l dC dI cI cII cJ cJJ cZ cO mo (nI 1) u9 _) (cwV 0 hts gL_law_X5_thrown rfl rfl rfl (by decide +kernel) ⟨Nat.le_of_ble_eq_true rfl, Nat.le_of_ble_eq_true rfl⟩) hK hP hD hS hA [0] ⟨rfl, ⟨[some 0], rfl, by decide +kernel⟩, rfl⟩ rfl 0 kX5 rfl rfl rfl rfl rfl hl.1 (Nat.le_of_ble_eq_true rfl) dL_law_374 ⟨Nat.le_of_ble_eq_true rfl, Nat.le_of_ble_eq_true rfl⟩ (fun H locs hP hD hS => ?_)
  have hP : va_P (dC, dI) vwCl (wU mo (nI 1) u9) H := hP
  have hD : va_D (lwA s) (wU mo (nI 1) u9) := hD
  refine W.widen (k := 101) (n := 1006) (by omega) (by omega) ?_
  refine lv_iload hx hb dL_law_377 (lv_at hl 1 rfl) ?_
  refine lv_icmp_eq (tgt := 384) hx hb dL_law_379 (by decide) (fun c3 => ?_) (fun c3 => ?_)
  · skip
    refine lv_iload hx hb dL_law_384 (lv_at hl 1 rfl) ?_
    refine lv_if_ne (tgt := 401) hx hb dL_law_386 (by decide) (fun c4 => ?_) (fun c4 => ?_)
    · skip
      refine lv_goto (tgt := 1493) hx hb dL_law_401 (by decide) ?_
      exact law_end C0 hS (lv_sub hl [2, 6] rfl) (by omega) (by omega)
    · first | exact absurd c4 (by decide) | exact (c4 (by decide)).elim
  · first | exact absurd c3 (by decide) | exact (c3 (by decide)).elim

set_option maxHeartbeats 4000000 in
set_option maxRecDepth 100000 in
/-- case 4 of the law: settle -/
theorem law_settle {p : Program} {l : Launch} {e : Env} {s : State} {m : MethodId} {below : List Frame} {meth : Method} {c : Code} {b : Nat} {xs : Nat → Int32} (hlt : l.stackTraces = false) (C0 : lw_At p s m meth c b 4 xs) {dC : Nat → ClassId} {dI : Nat → Nat → Nat} {cI cII cJ cJJ cZ cO : ClassId} {tp : Nat} {f : Nat → Nat} {er tr kr : Nat → Nat} {mo eo : Nat} {e2 : Nat → Nat} {gr av ro co kl dd out : Nat} (hK : va_K (dC, dI) vwCl (tyR cI cII cJ cJJ cZ cO) s) (hE : EnvX (lwA s) s s.heap) (hER : EnvR dd (lwA s) s s.heap) (hnc : va_Nc exA exI s) {H : Heap} {locs : List Loc} {ls : Array Slot} (hP : va_P (dC, dI) vwCl (wR (nI 0) z0 mo eo e2 gr av ro co kl dd cI cII ++ (wF tp f er tr kr cI cII cJ cJJ ++ wO cJ out oZ)) H) (hD : va_D (lwA s) (wR (nI 0) z0 mo eo e2 gr av ro co kl dd cI cII ++ (wF tp f er tr kr cI cII cJ cJJ ++ wO cJ out oZ))) (hS : va_S (lwA s) s.heap H locs) (hl : lv_has ls 9 [(0, .ref b), (1, .ref tp), (2, .ref mo), (3, .ref out), (4, .int (nI 0))]) : W p l e room_1 s m #[Value.ref b] below meth c H locs 100 1000 (lw_Z below #[Value.ref b] s) (F0 m 404 ls []) := by
  obtain ⟨hx, hb, hr, hml, hown, hts0, hX, hbl, hlocks, hgv⟩ := id C0
  have hA : ∀ q : Nat, s.heap.size ≤ q → (lwA s) q := fun _ h => h
  have hbA : ¬ (lwA s) b := Nat.not_le.mpr hbl
  have hts : ∀ w ∈ wsL_law, w.before #[Value.ref b] s = true := fun w h => hts0 w (wsL_law_in w h)
  have hKc : va_K (dC, dI) vwCl (tyL cI cII cJ cJJ) s := hK.sub [0, 1, 2, 3] rfl
  refine lv_aload_n hx hb dL_law_404 rfl (lv_at hl 1 rfl) ?_
  refine lv_aload_n hx hb dL_law_405 rfl (lv_at hl 3 rfl) ?_
  have hF9 := va_free (wc := wF tp f er tr kr cI cII cJ cJJ ++ wO cJ out oZ) hD hS hA (List.range' 14 46) rfl
  refine kt_newI (wC := wF tp f er tr kr cI cII cJ cJJ ++ wO cJ out oZ) (wR9 := wR (nI 0) z0 mo eo e2 gr av ro co kl dd cI cII) (wN := fun (_ : Unit) => ([] : va_W)) (tys := (tyL cI cII cJ cJJ)) (vx_runSW (As := [.ref tp, .ref out]) (rest := []) ⟨hx, hb, hml, hown, hts⟩ (h_settle l hlt dC dI cI cII cJ cJJ tp f er tr kr out  _ ) (vx_cwSW 2 hts gL_law_L_settle rfl rfl rfl (by decide +kernel) ⟨Nat.le_of_ble_eq_true rfl, Nat.le_of_ble_eq_true rfl⟩) (kt_preSH hKc hP hD hS hE hnc hF9 (List.range' 14 46) rfl rfl) rfl rfl hl.1 rfl (lv_room (Nat.le_of_ble_eq_true rfl)) dL_law_406 ⟨Nat.le_of_ble_eq_true rfl, Nat.le_of_ble_eq_true rfl⟩) hP hD hS hA (List.range' 14 46) (List.range' 0 14) rfl rfl rfl (by decide) (fun u H locs hP hD hS => ?_)
  have hP := kt_sub (wC := wR (nI 0) z0 mo eo e2 gr av ro co kl dd cI cII) hP (List.range' 0 14) rfl
  have hD := hD.sub (ws' := wR (nI 0) z0 mo eo e2 gr av ro co kl dd cI cII) (List.range' 0 14) rfl rfl
  refine W.widen (k := 101) (n := 1006) (by omega) (by omega) ?_
  refine lv_istore (lv' := [(5, .int (nI 1)), (0, .ref b), (1, .ref tp), (2, .ref mo), (3, .ref out), (4, .int (nI 0))]) hx hb dL_law_409 hl (by decide) rfl (fun ls hl => ?_)
  refine lv_aload_n hx hb dL_law_411 rfl (lv_at hl 3 rfl) ?_
  refine kt_newI (wC := wR (nI 0) z0 mo eo e2 gr av ro co kl dd cI cII) (wR9 := ([] : va_W)) (wN := fun (u : List Value) => wU mo (nI 1) u) (va_runV (As := []) (rest := []) ⟨hx, hb, hml, hown, hts⟩ (t_settle l dC dI cI cII cJ cJJ cZ cO mo eo e2 gr av ro co kl dd _ ) (cwV 0 hts gL_law_X5_settle rfl rfl rfl (by decide +kernel) ⟨Nat.le_of_ble_eq_true rfl, Nat.le_of_ble_eq_true rfl⟩) (kt_preV (q0 := 0) (ci := kX5) hK hP hD (List.range' 0 14) rfl rfl rfl rfl rfl) rfl rfl hl.1 rfl (lv_room (Nat.le_of_ble_eq_true rfl)) dL_law_412 ⟨Nat.le_of_ble_eq_true rfl, Nat.le_of_ble_eq_true rfl⟩) hP hD hS hA (List.range' 0 14) [] rfl rfl rfl (by decide) (fun u9 H locs hP hD hS => ?_)
  have hP : va_P (dC, dI) vwCl (wU mo (nI 1) u9) H := hP
  have hD : va_D (lwA s) (wU mo (nI 1) u9) := hD
  refine W.widen (k := 102) (n := 1013) (by omega) (by omega) ?_
  refine lv_istore (lv' := [(6, .int (nI 0)), (5, .int (nI 1)), (0, .ref b), (1, .ref tp), (2, .ref mo), (3, .ref out), (4, .int (nI 0))]) hx hb dL_law_415 hl (by decide) rfl (fun ls hl => ?_)
  refine lv_aload_n hx hb dL_law_417 rfl (lv_at hl 4 rfl) ?_
  refine kt_calliM (w' := wU mo (nI 1) u9) (rest := []) (As := []) ⟨hx, hb, hml, hown, hts⟩ (c_X5_thrown l dC dI cI cII cJ cJJ cZ cO mo (nI 1) u9 _) (cwV 0 hts gL_law_X5_thrown rfl rfl rfl (by decide +kernel) ⟨Nat.le_of_ble_eq_true rfl, Nat.le_of_ble_eq_true rfl⟩) hK hP hD hS hA [0] ⟨rfl, ⟨[some 0], rfl, by decide +kernel⟩, rfl⟩ rfl 0 kX5 rfl rfl rfl rfl rfl hl.1 (Nat.le_of_ble_eq_true rfl) dL_law_418 ⟨Nat.le_of_ble_eq_true rfl, Nat.le_of_ble_eq_true rfl⟩ (fun H locs hP hD hS => ?_)
  have hP : va_P (dC, dI) vwCl (wU mo (nI 1) u9) H := hP
  have hD : va_D (lwA s) (wU mo (nI 1) u9) := hD
  refine W.widen (k := 102) (n := 1013) (by omega) (by omega) ?_
  refine lv_iload hx hb dL_law_421 (lv_at hl 1 rfl) ?_
  refine lv_icmp_eq (tgt := 428) hx hb dL_law_423 (by decide) (fun c1 => ?_) (fun c1 => ?_)
  · skip
    refine lv_iload hx hb dL_law_428 (lv_at hl 1 rfl) ?_
    refine lv_if_ne (tgt := 445) hx hb dL_law_430 (by decide) (fun c2 => ?_) (fun c2 => ?_)
    · skip
      refine lv_goto (tgt := 1493) hx hb dL_law_445 (by decide) ?_
      exact law_end C0 hS (lv_sub hl [2, 6] rfl) (by omega) (by omega)
    · first | exact absurd c2 (by decide) | exact (c2 (by decide)).elim
  · first | exact absurd c1 (by decide) | exact (c1 (by decide)).elim
