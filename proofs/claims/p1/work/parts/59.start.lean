set_option maxHeartbeats 4000000 in
set_option maxRecDepth 100000 in
/-- the one call: by the low bits of the script's first cell -/
theorem law_call {p : Program} {l : Launch} {e : Env} {s : State} {m : MethodId} {below : List Frame} {meth : Method} {c : Code} {b : Nat} {xs : Nat → Int32} (hlt : l.stackTraces = false) (C0 : lw_At p s m meth c b 4 xs) {dC : Nat → ClassId} {dI : Nat → Nat → Nat} {cI cII cJ cJJ cZ cO : ClassId} {tp : Nat} {f : Nat → Nat} {er tr kr : Nat → Nat} {mo eo : Nat} {e2 : Nat → Nat} {gr av ro co kl dd out : Nat} (hK : va_K (dC, dI) vwCl (tyR cI cII cJ cJJ cZ cO) s) (hE : EnvX (lwA s) s s.heap) (hER : EnvR dd (lwA s) s s.heap) (hnc : va_Nc exA exI s) {H : Heap} {locs : List Loc} {ls : Array Slot} (hP : va_P (dC, dI) vwCl (wR (nI 0) z0 mo eo e2 gr av ro co kl dd cI cII ++ (wF tp f er tr kr cI cII cJ cJJ ++ wO cJ out oZ)) H) (hD : va_D (lwA s) (wR (nI 0) z0 mo eo e2 gr av ro co kl dd cI cII ++ (wF tp f er tr kr cI cII cJ cJJ ++ wO cJ out oZ))) (hS : va_S (lwA s) s.heap H locs) (hl : lv_has ls 9 [(0, .ref b), (1, .ref tp), (2, .ref mo), (3, .ref out), (4, .int (nI 0))]) {x : Int32} : W p l e room_1 s m #[Value.ref b] below meth c H locs 100 1000 (lw_Z below #[Value.ref b] s) (F0 m 39 ls [.int (x &&& nI 31)]) := by
  obtain ⟨hx, hb, hr, hml, hown, hts0, hX, hbl, hlocks, hgv⟩ := id C0
  obtain ⟨j, hj, ej⟩ := law_sw x
  rw [ej]
  have hc : j = 0 ∨ j = 1 ∨ j = 2 ∨ j = 3 ∨ j = 4 ∨ j = 5 ∨ j = 6 ∨ j = 7 ∨ j = 8 ∨ j = 9 ∨ j = 10 ∨ j = 11 ∨ j = 12 ∨ j = 13 ∨ j = 14 ∨ j = 15 ∨ j = 16 ∨ j = 17 ∨ j = 18 ∨ j = 19 ∨ j = 20 ∨ j = 21 ∨ j = 22 ∨ j = 23 ∨ j = 24 ∨ j = 25 ∨ j = 26 ∨ j = 27 ∨ j = 28 ∨ j = 29 ∨ j = 30 ∨ j = 31 := by omega
  rcases hc with rfl | rfl | rfl | rfl | rfl | rfl | rfl | rfl | rfl | rfl | rfl | rfl | rfl | rfl | rfl | rfl | rfl | rfl | rfl | rfl | rfl | rfl | rfl | rfl | rfl | rfl | rfl | rfl | rfl | rfl | rfl | rfl
  · refine lv_tableIn (off := 117) (tgt := 156) hx hb dL_law_39 (by decide) (by decide) (by decide) (by decide) ?_
    exact law_spot hlt C0 hK hE hER hnc hP hD hS hl
  · refine lv_tableIn (off := 161) (tgt := 200) hx hb dL_law_39 (by decide) (by decide) (by decide) (by decide) ?_
    exact law_edge hlt C0 hK hE hER hnc hP hD hS hl
  · refine lv_tableIn (off := 241) (tgt := 280) hx hb dL_law_39 (by decide) (by decide) (by decide) (by decide) ?_
    exact law_drop hlt C0 hK hE hER hnc hP hD hS hl
  · refine lv_tableIn (off := 309) (tgt := 348) hx hb dL_law_39 (by decide) (by decide) (by decide) (by decide) ?_
    exact law_topple hlt C0 hK hE hER hnc hP hD hS hl
  · refine lv_tableIn (off := 365) (tgt := 404) hx hb dL_law_39 (by decide) (by decide) (by decide) (by decide) ?_
    exact law_settle hlt C0 hK hE hER hnc hP hD hS hl
  · refine lv_tableIn (off := 409) (tgt := 448) hx hb dL_law_39 (by decide) (by decide) (by decide) (by decide) ?_
    exact law_keep hlt C0 hK hE hER hnc hP hD hS hl
  · refine lv_tableIn (off := 453) (tgt := 492) hx hb dL_law_39 (by decide) (by decide) (by decide) (by decide) ?_
    exact law_add hlt C0 hK hE hER hnc hP hD hS hl
  · refine lv_tableIn (off := 509) (tgt := 548) hx hb dL_law_39 (by decide) (by decide) (by decide) (by decide) ?_
    exact law_sweep hlt C0 hK hE hER hnc hP hD hS hl
  · refine lv_tableIn (off := 522) (tgt := 561) hx hb dL_law_39 (by decide) (by decide) (by decide) (by decide) ?_
    exact law_walk hlt C0 hK hE hER hnc hP hD hS hl
  · refine lv_tableIn (off := 578) (tgt := 617) hx hb dL_law_39 (by decide) (by decide) (by decide) (by decide) ?_
    exact law_pay hlt C0 hK hE hER hnc hP hD hS hl
  · refine lv_tableIn (off := 646) (tgt := 685) hx hb dL_law_39 (by decide) (by decide) (by decide) (by decide) ?_
    exact law_lend hlt C0 hK hE hER hnc hP hD hS hl
  · refine lv_tableIn (off := 730) (tgt := 769) hx hb dL_law_39 (by decide) (by decide) (by decide) (by decide) ?_
    exact law_ofSpot hlt C0 hK hE hER hnc hP hD hS hl
  · refine lv_tableIn (off := 798) (tgt := 837) hx hb dL_law_39 (by decide) (by decide) (by decide) (by decide) ?_
    exact law_between hlt C0 hK hE hER hnc hP hD hS hl
  · refine lv_tableIn (off := 866) (tgt := 905) hx hb dL_law_39 (by decide) (by decide) (by decide) (by decide) ?_
    exact law_coins hlt C0 hK hE hER hnc hP hD hS hl
  · refine lv_tableIn (off := 922) (tgt := 961) hx hb dL_law_39 (by decide) (by decide) (by decide) (by decide) ?_
    exact law_kept hlt C0 hK hE hER hnc hP hD hS hl
  · refine lv_tableIn (off := 990) (tgt := 1029) hx hb dL_law_39 (by decide) (by decide) (by decide) (by decide) ?_
    exact law_many hlt C0 hK hE hER hnc hP hD hS hl
  · refine lv_tableIn (off := 1046) (tgt := 1085) hx hb dL_law_39 (by decide) (by decide) (by decide) (by decide) ?_
    exact law_count hlt C0 hK hE hER hnc hP hD hS hl
  · refine lv_tableIn (off := 1060) (tgt := 1099) hx hb dL_law_39 (by decide) (by decide) (by decide) (by decide) ?_
    exact law_density hlt C0 hK hE hER hnc hP hD hS hl
  · refine lv_tableIn (off := 1101) (tgt := 1140) hx hb dL_law_39 (by decide) (by decide) (by decide) (by decide) ?_
    exact law_would hlt C0 hK hE hER hnc hP hD hS hl
  · refine lv_tableIn (off := 1181) (tgt := 1220) hx hb dL_law_39 (by decide) (by decide) (by decide) (by decide) ?_
    exact law_isLasting hlt C0 hK hE hER hnc hP hD hS hl
  · refine lv_tableIn (off := 1232) (tgt := 1271) hx hb dL_law_39 (by decide) (by decide) (by decide) (by decide) ?_
    exact law_neutral hlt C0 hK hE hER hnc hP hD hS hl
  · refine lv_tableIn (off := 1288) (tgt := 1327) hx hb dL_law_39 (by decide) (by decide) (by decide) (by decide) ?_
    exact law_fire hlt C0 hK hE hER hnc hP hD hS hl
  · refine lv_tableIn (off := 1301) (tgt := 1340) hx hb dL_law_39 (by decide) (by decide) (by decide) (by decide) ?_
    exact law_order hlt C0 hK hE hER hnc hP hD hS hl
  · refine lv_tableIn (off := 1345) (tgt := 1384) hx hb dL_law_39 (by decide) (by decide) (by decide) (by decide) ?_
    exact law_canPay hlt C0 hK hE hER hnc hP hD hS hl
  · refine lv_tableIn (off := 1396) (tgt := 1435) hx hb dL_law_39 (by decide) (by decide) (by decide) (by decide) ?_
    exact law_weakest hlt C0 hK hE hER hnc hP hD hS hl
  · refine lv_tableIn (off := 1440) (tgt := 1479) hx hb dL_law_39 (by decide) (by decide) (by decide) (by decide) ?_
    exact law_digest hlt C0 hK hE hER hnc hP hD hS hl
  · refine lv_tableOut (tgt := 1493) hx hb dL_law_39 (by decide) (by decide) ?_
    exact law_end C0 hS (lv_sub hl [0, 4] rfl) (by omega) (by omega)
  · refine lv_tableOut (tgt := 1493) hx hb dL_law_39 (by decide) (by decide) ?_
    exact law_end C0 hS (lv_sub hl [0, 4] rfl) (by omega) (by omega)
  · refine lv_tableOut (tgt := 1493) hx hb dL_law_39 (by decide) (by decide) ?_
    exact law_end C0 hS (lv_sub hl [0, 4] rfl) (by omega) (by omega)
  · refine lv_tableOut (tgt := 1493) hx hb dL_law_39 (by decide) (by decide) ?_
    exact law_end C0 hS (lv_sub hl [0, 4] rfl) (by omega) (by omega)
  · refine lv_tableOut (tgt := 1493) hx hb dL_law_39 (by decide) (by decide) ?_
    exact law_end C0 hS (lv_sub hl [0, 4] rfl) (by omega) (by omega)
  · refine lv_tableOut (tgt := 1493) hx hb dL_law_39 (by decide) (by decide) ?_
    exact law_end C0 hS (lv_sub hl [0, 4] rfl) (by omega) (by omega)
set_option maxHeartbeats 4000000 in
set_option maxRecDepth 100000 in
theorem whole_start {p : Program} {e : Env} {s : State} {m : MethodId} {below : List Frame} {meth : Method} {c : Code} (l : Launch) (hflags : l.flags = flags0) {b L : Nat} {xs : Nat → Int32} (hL : L ≤ 4) (C0 : lw_At p s m meth c b L xs) : W p l e room_1 s m #[Value.ref b] below meth c s.heap [] 0 0 (lw_Z below #[Value.ref b] s) (entryFrame m ([Value.ref b] : List Value).toArray 9) := by
  obtain ⟨hx, hb, hr, hml, hown, hts0, hX, hbl, hlocks, hgv⟩ := id C0
  have hlt : l.stackTraces = false := by
    unfold Launch.stackTraces
    rw [hflags]
    decide
  have hs := flat_of_before _ hgv
  have hA : ∀ q : Nat, s.heap.size ≤ q → (lwA s) q := fun _ h => h
  have hA2 : ∀ q : Nat, q < s.heap.size → ¬ (lwA s) q := fun _ h => Nat.not_le.mpr h
  have hbA : ¬ (lwA s) b := Nat.not_le.mpr hbl
  have hts : ∀ w ∈ wsL_law, w.before #[Value.ref b] s = true := fun w h => hts0 w (wsL_law_in w h)
  have hE : EnvX (lwA s) s s.heap := st_X hA2 hts0 hs
  obtain ⟨dd, hER⟩ : ∃ dd, EnvR dd (lwA s) s s.heap := st_R hA2 hts0 hs
  have hnc : va_Nc exA exI s := va_Nc.of (hs (.not (.castable exA exI)) (by decide +kernel))
  have haI : va_AOA .int s := va_AOA.of (hts0 (.arrayOver (.array .int)) (by decide +kernel))
  have haL : va_AOA .long s := va_AOA.of (hts0 (.arrayOver (.array .long)) (by decide +kernel))
  have hnest : va_Nw nestW s := va_Nw.of rfl (hts0 nestW (by decide +kernel))
  obtain ⟨dC, dI, cI, cII, cJ, cJJ, cZ, cO, hK⟩ := st_K hts0
  have hKc : va_K (dC, dI) vwCl (tyL cI cII cJ cJJ) s := hK.sub [0, 1, 2, 3] rfl
  have hS : va_S (lwA s) s.heap s.heap [] := va_S.rf
  have hP : va_P (dC, dI) vwCl [] s.heap := kt_nilP
  have hD : va_D (lwA s) [] := kt_nilD
  have hl := lv_entry ([.ref b]) (n := 9) (Nat.le_of_ble_eq_true rfl)
  rw [lg_entry_eq]
  generalize (lg_sl ([.ref b]) ++ List.replicate (9 - (lg_sl ([.ref b])).length) Slot.unset).toArray = ls at hl ⊢
  have hl : lv_has ls 9 [(0, .ref b)] := hl
  refine va_new (ci := kX4) (fs := [.null, .null, .null, .null, .null, .null, .null, .null, .int 0, .int 0, .int 0]) (C := RX4) (T := TX4) (N := 11) hx hb hts0 inX4 tyX4 tyX4_ok hown (hts0 (.classLink RL 8 RX4) (by decide +kernel)) (hts0 (.instantiable RX4 11) (by decide +kernel)) (hts0 (.initialized RX4) (by decide +kernel)) hK hP hD hS hA rfl (fun j hj => by rcases (show j = 0 ∨ j = 1 ∨ j = 2 ∨ j = 3 ∨ j = 4 ∨ j = 5 ∨ j = 6 ∨ j = 7 ∨ j = 8 ∨ j = 9 ∨ j = 10 by omega) with rfl | rfl | rfl | rfl | rfl | rfl | rfl | rfl | rfl | rfl | rfl <;> rfl) (Nat.le_of_ble_eq_true rfl) (Nat.le_of_ble_eq_true rfl) dL_law_0 (fun tp H hP hD hS => ?_)
  have hP : va_P (dC, dI) vwCl [(tp, .inr (kX4, [.null, .null, .null, .null, .null, .null, .null, .null, .int 0, .int 0, .int 0]))] H := hP
  have hD : va_D (lwA s) [(tp, .inr (kX4, [.null, .null, .null, .null, .null, .null, .null, .null, .int 0, .int 0, .int 0]))] := hD
  refine W.widen (k := 1) (n := 11) (by omega) (by omega) ?_
  refine lv_dup hx hb dL_law_3 rfl ?_
  refine kt_newV (wC := [(tp, .inr (kX4, [.null, .null, .null, .null, .null, .null, .null, .null, .int 0, .int 0, .int 0]))]) (wR9 := []) (tys := (tyL cI cII cJ cJJ)) (va_runI (As := []) (rest := [.ref tp]) ⟨hx, hb, hml, hown, hts⟩ (c_X4_init l dC dI cI cII cJ cJJ tp _) (cwI 0 hts gL_law_X4_init rfl rfl rfl (hts0 (.initialized RX4) (by decide +kernel)) (hts0 (.methodLink RL 84 yX4_init) (by decide +kernel)) (hts0 (.instanceMethod yX4_init) (by decide +kernel)) rfl (by decide +kernel) ⟨Nat.le_of_ble_eq_true rfl, Nat.le_of_ble_eq_true rfl⟩) (kt_preSN hKc hP hD [0] rfl rfl haI haL hnest) rfl rfl hl.1 rfl (lv_room (Nat.le_of_ble_eq_true rfl)) dL_law_4 ⟨Nat.le_of_ble_eq_true rfl, Nat.le_of_ble_eq_true rfl⟩) hP hD hS hA [0] [] rfl rfl rfl (by decide) (fun u H locs hP hD hS => ?_)
  obtain ⟨f, er, tr, kr⟩ := u
  have hP : va_P (dC, dI) vwCl (wF tp f er tr kr cI cII cJ cJJ) H := hP
  have hD : va_D (lwA s) (wF tp f er tr kr cI cII cJ cJJ) := hD
  refine W.widen (k := 45) (n := 258) (by omega) (by omega) ?_
  refine lv_astore_n (lv' := [(1, .ref tp), (0, .ref b)]) hx hb dL_law_7 rfl hl (by decide) rfl (fun ls hl => ?_)
  refine va_new (ci := kX5) (fs := [.int (nI 0), .int (nI 0), .null, .null, .null, .null, .null, .null, .int (nI 0), .int (nI 0), .int (nI 0)]) (C := RX5) (T := TX5) (N := 11) hx hb hts0 inX5 tyX5 tyX5_ok hown (hts0 (.classLink RL 85 RX5) (by decide +kernel)) (hts0 (.instantiable RX5 11) (by decide +kernel)) (hts0 (.initialized RX5) (by decide +kernel)) hK hP hD hS hA rfl (fun j hj => by rcases (show j = 0 ∨ j = 1 ∨ j = 2 ∨ j = 3 ∨ j = 4 ∨ j = 5 ∨ j = 6 ∨ j = 7 ∨ j = 8 ∨ j = 9 ∨ j = 10 by omega) with rfl | rfl | rfl | rfl | rfl | rfl | rfl | rfl | rfl | rfl | rfl <;> rfl) (Nat.le_of_ble_eq_true rfl) (Nat.le_of_ble_eq_true rfl) dL_law_8 (fun mo H hP hD hS => ?_)
  have hP : va_P (dC, dI) vwCl (wF tp f er tr kr cI cII cJ cJJ ++ [(mo, .inr (kX5, [.int (nI 0), .int (nI 0), .null, .null, .null, .null, .null, .null, .int (nI 0), .int (nI 0), .int (nI 0)]))]) H := hP
  have hD : va_D (lwA s) (wF tp f er tr kr cI cII cJ cJJ ++ [(mo, .inr (kX5, [.int (nI 0), .int (nI 0), .null, .null, .null, .null, .null, .null, .int (nI 0), .int (nI 0), .int (nI 0)]))]) := hD
  refine W.widen (k := 46) (n := 269) (by omega) (by omega) ?_
  refine lv_dup hx hb dL_law_11 rfl ?_
  refine kt_newV (wC := [(mo, .inr (kX5, [.int (nI 0), .int (nI 0), .null, .null, .null, .null, .null, .null, .int (nI 0), .int (nI 0), .int (nI 0)]))]) (wR9 := wF tp f er tr kr cI cII cJ cJJ) (va_runI (As := []) (rest := [.ref mo]) ⟨hx, hb, hml, hown, hts⟩ (c_X5_init l dC dI cI cII cJ cJJ cZ cO mo dd _) (cwI 0 hts gL_law_X5_init rfl rfl rfl (hts0 (.initialized RX5) (by decide +kernel)) (hts0 (.methodLink RL 87 yX5_init) (by decide +kernel)) (hts0 (.instanceMethod yX5_init) (by decide +kernel)) rfl (by decide +kernel) ⟨Nat.le_of_ble_eq_true rfl, Nat.le_of_ble_eq_true rfl⟩) (kt_preSR hK hP hD hS hER hA [45] rfl rfl) rfl rfl hl.1 rfl (lv_room (Nat.le_of_ble_eq_true rfl)) dL_law_12 ⟨Nat.le_of_ble_eq_true rfl, Nat.le_of_ble_eq_true rfl⟩) hP hD hS hA [45] (List.range' 0 45) rfl rfl rfl (by decide) (fun u H locs hP hD hS => ?_)
  obtain ⟨g, e2⟩ := u
  have hP : va_P (dC, dI) vwCl (wF tp f er tr kr cI cII cJ cJJ ++ wR (nI 0) z0 mo (g 0) e2 (g 1) (g 2) (g 3) (g 4) (g 5) dd cI cII) H := hP
  have hD : va_D (lwA s) (wF tp f er tr kr cI cII cJ cJJ ++ wR (nI 0) z0 mo (g 0) e2 (g 1) (g 2) (g 3) (g 4) (g 5) dd cI cII) := hD
  refine W.widen (k := 70) (n := 700) (by omega) (by omega) ?_
  refine lv_astore_n (lv' := [(2, .ref mo), (1, .ref tp), (0, .ref b)]) hx hb dL_law_15 rfl hl (by decide) rfl (fun ls hl => ?_)
  refine lv_iconst (v := nI 1) hx hb dL_law_16 (by decide) ?_
  refine kt_newl hx hb (hts0 (.arrayClass .long) (by decide +kernel)) hK hP hD hS hA 2 rfl (N := 1) (by omega) (Nat.le_of_ble_eq_true rfl) (Nat.le_of_ble_eq_true rfl) dL_law_17 (fun out H hP hD hS => ?_)
  have hP := kt_sub (wC := wR (nI 0) z0 mo (g 0) e2 (g 1) (g 2) (g 3) (g 4) (g 5) dd cI cII ++ (wF tp f er tr kr cI cII cJ cJJ ++ wO cJ out oZ)) hP (List.range' 45 14 ++ (List.range' 0 45 ++ [59])) rfl
  have hD := hD.sub (ws' := wR (nI 0) z0 mo (g 0) e2 (g 1) (g 2) (g 3) (g 4) (g 5) dd cI cII ++ (wF tp f er tr kr cI cII cJ cJJ ++ wO cJ out oZ)) (List.range' 45 14 ++ (List.range' 0 45 ++ [59])) rfl rfl
  refine W.widen (k := 100) (n := 1000) (by omega) (by omega) ?_
  refine lv_astore_n (lv' := [(3, .ref out), (2, .ref mo), (1, .ref tp), (0, .ref b)]) hx hb dL_law_19 rfl hl (by decide) rfl (fun ls hl => ?_)
  refine lv_iconst (v := nI 0) hx hb dL_law_20 (by decide) ?_
  refine lv_istore (lv' := [(4, .int (nI 0)), (3, .ref out), (2, .ref mo), (1, .ref tp), (0, .ref b)]) hx hb dL_law_21 hl (by decide) rfl (fun ls hl => ?_)
  refine lv_iload hx hb dL_law_23 (lv_at hl 0 rfl) ?_
  refine lv_aload_n hx hb dL_law_25 rfl (lv_at hl 4 rfl) ?_
  refine va_slen hx hb hX hbl hbA hS dL_law_26 ?_
  refine lv_iconst (v := 4) hx hb dL_law_27 (by decide) ?_
  refine lv_isub hx hb dL_law_28 ?_
  refine lv_icmp_gt (tgt := 1499) hx hb dL_law_29 (by decide) (fun c1 => ?_) (fun c1 => ?_)
  · refine lv_iconst (v := 1) hx hb dL_law_1499 (by decide) ?_
    refine va_forget (fun q hq => hS.2.2 q hq) ?_
    refine W.widen (k := 628932) (n := 7215440) (by omega) (by omega) ?_
    refine W.base ?_
    exact lw_ret (Drawn.sameBut.refl s.drawn lw_cs) hx hb hr hlocks dL_law_1500
  · have hL4 : L = 4 := by
      have h : L = 0 ∨ L = 1 ∨ L = 2 ∨ L = 3 ∨ L = 4 := by omega
      rcases h with rfl | rfl | rfl | rfl | rfl
      · exact absurd (by decide) c1
      · exact absurd (by decide) c1
      · exact absurd (by decide) c1
      · exact absurd (by decide) c1
      · rfl
    subst hL4
    refine lv_aload_n hx hb dL_law_32 rfl (lv_at hl 4 rfl) ?_
    refine lv_iload hx hb dL_law_33 (lv_at hl 0 rfl) ?_
    refine va_sld hx hb hX hbl hbA hS (vp_in_nI (by omega) (by decide)) dL_law_35 ?_
    refine lv_bipush (v := nI 31) hx hb dL_law_36 (by decide) ?_
    refine lv_iand hx hb dL_law_38 ?_
    exact law_call hlt C0 hK hE hER hnc hP hD hS (lv_sub hl [4, 3, 2, 1, 0] rfl)
