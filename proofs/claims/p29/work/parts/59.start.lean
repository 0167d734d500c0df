set_option maxHeartbeats 4000000 in
set_option maxRecDepth 100000 in
/-- from the entry, for every script of at most 260 ints, the law comes to its end with true -/
theorem whole_start {p : Program} {e : Env} {s : State} {m : MethodId} {below : List Frame} {meth : Method} {c : Code} (l : Launch) (hflags : l.flags = flags0) {b L : Nat} {xs : Nat → Int32} (hL : L ≤ 260) (C0 : lw_At p s m meth c b L xs) : W p l e room_1 s m #[Value.ref b] below meth c s.heap [] 0 0 (lw_Z below #[Value.ref b] s) (entryFrame m ([Value.ref b] : List Value).toArray 12) := by
  obtain ⟨hx, hb, hr, hml, hown, hts0, hX, hbl, hlocks, hgv⟩ := id C0
  have hA : ∀ q : Nat, s.heap.size ≤ q → (lwA s) q := fun _ h => h
  have hbA : ¬ (lwA s) b := Nat.not_le.mpr hbl
  have hts : ∀ w ∈ wsL_law, w.before #[Value.ref b] s = true := fun w h => hts0 w (wsL_law_in w h)
  have hE : EnvS b L xs (lwA s) s s.heap := ⟨hX, hbl, hbA⟩
  have haI : va_AOA .int s := va_AOA.of (hts0 (.arrayOver (.array .int)) (by decide +kernel))
  have haL : va_AOA .long s := va_AOA.of (hts0 (.arrayOver (.array .long)) (by decide +kernel))
  have hnest : va_Nw nestW s := va_Nw.of rfl (hts0 nestW (by decide +kernel))
  obtain ⟨dC, dI, cI, cII, cJ, cJJ, hK⟩ := st_K hts0
  have hS : va_S (lwA s) s.heap s.heap [] := va_S.rf
  have hP : va_P (dC, dI) vwCl [] s.heap := kt_nilP
  have hD : va_D (lwA s) [] := kt_nilD
  have hl := lv_entry ([.ref b]) (n := 12) (Nat.le_of_ble_eq_true rfl)
  rw [lg_entry_eq]
  generalize (lg_sl ([.ref b]) ++ List.replicate (12 - (lg_sl ([.ref b])).length) Slot.unset).toArray = ls at hl ⊢
  have hl : lv_has ls 12 [(0, .ref b)] := hl
  refine va_new (ci := kX4) (fs := [.null, .null, .null, .null, .null, .null, .null, .null, .int 0, .int 0, .int 0]) (C := RX4) (T := TX4) (N := 11) hx hb hts0 inX4 tyX4 tyX4_ok hown (hts0 (.classLink RL 12 RX4) (by decide +kernel)) (hts0 (.instantiable RX4 11) (by decide +kernel)) (hts0 (.initialized RX4) (by decide +kernel)) hK hP hD hS hA rfl (fun j hj => by rcases (show j = 0 ∨ j = 1 ∨ j = 2 ∨ j = 3 ∨ j = 4 ∨ j = 5 ∨ j = 6 ∨ j = 7 ∨ j = 8 ∨ j = 9 ∨ j = 10 by omega) with rfl | rfl | rfl | rfl | rfl | rfl | rfl | rfl | rfl | rfl | rfl <;> rfl) (Nat.le_of_ble_eq_true rfl) (Nat.le_of_ble_eq_true rfl) dL_law_0 (fun tp H hP hD hS => ?_)
  have hP : va_P (dC, dI) vwCl ([(tp, .inr (kX4, [.null, .null, .null, .null, .null, .null, .null, .null, .int 0, .int 0, .int 0]))]) H := hP
  have hD : va_D (lwA s) ([(tp, .inr (kX4, [.null, .null, .null, .null, .null, .null, .null, .null, .int 0, .int 0, .int 0]))]) := hD
  refine W.widen (k := 1) (n := 11) (by omega) (by omega) ?_
  refine lv_dup hx hb dL_law_3 rfl ?_
  refine kt_newR (wC := [(tp, .inr (kX4, [.null, .null, .null, .null, .null, .null, .null, .null, .int 0, .int 0, .int 0]))]) (wR := []) (tys := (tyL cI cII cJ cJJ)) (va_runI (As := []) (rest := [.ref tp]) ⟨hx, hb, hml, hown, hts⟩ (c_X4_init l dC dI cI cII cJ cJJ tp _) (cwI 0 hts gL_law_X4_init rfl rfl rfl (hts0 (.initialized RX4) (by decide +kernel)) (hts0 (.methodLink RL 40 yX4_init) (by decide +kernel)) (hts0 (.instanceMethod yX4_init) (by decide +kernel)) rfl (by decide +kernel) ⟨Nat.le_of_ble_eq_true rfl, Nat.le_of_ble_eq_true rfl⟩) (kt_preSN hK hP hD [0] rfl rfl haI haL hnest) rfl rfl hl.1 rfl (lv_room (Nat.le_of_ble_eq_true rfl)) dL_law_4 ⟨Nat.le_of_ble_eq_true rfl, Nat.le_of_ble_eq_true rfl⟩) hP hD hS hA [0] [] rfl rfl rfl (by decide) (fun u H locs hP hD hS => ?_)
  obtain ⟨f, er, tr, kr⟩ := u
  have hP : va_P (dC, dI) vwCl (wV tp f er tr kr cI cII cJ cJJ 0 (fun _ _ => 0) (fun _ => 0) (fun _ => 0) (fun _ => 0) 0 0 (fun _ => 0) (fun _ => 0)) H := hP
  have hD : va_D (lwA s) (wV tp f er tr kr cI cII cJ cJJ 0 (fun _ _ => 0) (fun _ => 0) (fun _ => 0) (fun _ => 0) 0 0 (fun _ => 0) (fun _ => 0)) := hD
  refine W.widen (k := 45) (n := 258) (by omega) (by omega) ?_
  refine lv_astore_n (lv' := [(1, .ref tp), (0, .ref b)]) hx hb dL_law_7 rfl hl (by decide) rfl (fun ls hl => ?_)
  refine va_new (ci := kX4) (fs := [.null, .null, .null, .null, .null, .null, .null, .null, .int 0, .int 0, .int 0]) (C := RX4) (T := TX4) (N := 11) hx hb hts0 inX4 tyX4 tyX4_ok hown (hts0 (.classLink RL 12 RX4) (by decide +kernel)) (hts0 (.instantiable RX4 11) (by decide +kernel)) (hts0 (.initialized RX4) (by decide +kernel)) hK hP hD hS hA rfl (fun j hj => by rcases (show j = 0 ∨ j = 1 ∨ j = 2 ∨ j = 3 ∨ j = 4 ∨ j = 5 ∨ j = 6 ∨ j = 7 ∨ j = 8 ∨ j = 9 ∨ j = 10 by omega) with rfl | rfl | rfl | rfl | rfl | rfl | rfl | rfl | rfl | rfl | rfl <;> rfl) (Nat.le_of_ble_eq_true rfl) (Nat.le_of_ble_eq_true rfl) dL_law_8 (fun tq H hP hD hS => ?_)
  have hP : va_P (dC, dI) vwCl (wV tp f er tr kr cI cII cJ cJJ 0 (fun _ _ => 0) (fun _ => 0) (fun _ => 0) (fun _ => 0) 0 0 (fun _ => 0) (fun _ => 0) ++ [(tq, .inr (kX4, [.null, .null, .null, .null, .null, .null, .null, .null, .int 0, .int 0, .int 0]))]) H := hP
  have hD : va_D (lwA s) (wV tp f er tr kr cI cII cJ cJJ 0 (fun _ _ => 0) (fun _ => 0) (fun _ => 0) (fun _ => 0) 0 0 (fun _ => 0) (fun _ => 0) ++ [(tq, .inr (kX4, [.null, .null, .null, .null, .null, .null, .null, .null, .int 0, .int 0, .int 0]))]) := hD
  refine W.widen (k := 46) (n := 269) (by omega) (by omega) ?_
  refine lv_dup hx hb dL_law_11 rfl ?_
  refine kt_newR (wC := [(tq, .inr (kX4, [.null, .null, .null, .null, .null, .null, .null, .null, .int 0, .int 0, .int 0]))]) (wR := wV tp f er tr kr cI cII cJ cJJ 0 (fun _ _ => 0) (fun _ => 0) (fun _ => 0) (fun _ => 0) 0 0 (fun _ => 0) (fun _ => 0)) (tys := (tyL cI cII cJ cJJ)) (va_runI (As := []) (rest := [.ref tq]) ⟨hx, hb, hml, hown, hts⟩ (c_X4_init l dC dI cI cII cJ cJJ tq _) (cwI 0 hts gL_law_X4_init rfl rfl rfl (hts0 (.initialized RX4) (by decide +kernel)) (hts0 (.methodLink RL 40 yX4_init) (by decide +kernel)) (hts0 (.instanceMethod yX4_init) (by decide +kernel)) rfl (by decide +kernel) ⟨Nat.le_of_ble_eq_true rfl, Nat.le_of_ble_eq_true rfl⟩) (kt_preSN hK hP hD [45] rfl rfl haI haL hnest) rfl rfl hl.1 rfl (lv_room (Nat.le_of_ble_eq_true rfl)) dL_law_12 ⟨Nat.le_of_ble_eq_true rfl, Nat.le_of_ble_eq_true rfl⟩) hP hD hS hA [45] (List.range' 0 45) rfl rfl rfl (by decide) (fun u H locs hP hD hS => ?_)
  obtain ⟨f2, er2, tr2, kr2⟩ := u
  have hP : va_P (dC, dI) vwCl (wV tp f er tr kr cI cII cJ cJJ 0 (fun _ _ => 0) (fun _ => 0) (fun _ => 0) (fun _ => 0) 0 0 (fun _ => 0) (fun _ => 0) ++ wV tq f2 er2 tr2 kr2 cI cII cJ cJJ 0 (fun _ _ => 0) (fun _ => 0) (fun _ => 0) (fun _ => 0) 0 0 (fun _ => 0) (fun _ => 0)) H := hP
  have hD : va_D (lwA s) (wV tp f er tr kr cI cII cJ cJJ 0 (fun _ _ => 0) (fun _ => 0) (fun _ => 0) (fun _ => 0) 0 0 (fun _ => 0) (fun _ => 0) ++ wV tq f2 er2 tr2 kr2 cI cII cJ cJJ 0 (fun _ _ => 0) (fun _ => 0) (fun _ => 0) (fun _ => 0) 0 0 (fun _ => 0) (fun _ => 0)) := hD
  refine W.widen (k := 90) (n := 516) (by omega) (by omega) ?_
  refine lv_astore_n (lv' := [(2, .ref tq), (1, .ref tp), (0, .ref b)]) hx hb dL_law_15 rfl hl (by decide) rfl (fun ls hl => ?_)
  refine lv_iconst (v := nI 1) hx hb dL_law_16 (by decide) ?_
  refine lv_aload_n hx hb dL_law_17 rfl (lv_at hl 2 rfl) ?_
  refine lv_iconst (v := nI 1) hx hb dL_law_18 (by decide) ?_
  refine kt_newI (wC := ([] : va_W)) (wR9 := wV tp f er tr kr cI cII cJ cJJ 0 (fun _ _ => 0) (fun _ => 0) (fun _ => 0) (fun _ => 0) 0 0 (fun _ => 0) (fun _ => 0) ++ wV tq f2 er2 tr2 kr2 cI cII cJ cJJ 0 (fun _ _ => 0) (fun _ => 0) (fun _ => 0) (fun _ => 0) 0 0 (fun _ => 0) (fun _ => 0)) (wN := fun (_ : Unit) => ([] : va_W)) (tys := (tyL cI cII cJ cJJ)) (va_runS (As := [.ref b, .int (nI 1)]) (rest := [.int (nI 1)]) ⟨hx, hb, hml, hown, hts⟩ (c_L_cell l dC dI cI cII cJ cJJ b L xs 1 _ (by omega) (by omega)) (va_cwS 2 hts gL_law_L_cell rfl rfl rfl (by decide +kernel) ⟨Nat.le_of_ble_eq_true rfl, Nat.le_of_ble_eq_true rfl⟩) (kt_preSS hK hP hD hS hE hA haI haL [] rfl rfl) rfl rfl hl.1 rfl (lv_room (Nat.le_of_ble_eq_true rfl)) dL_law_19 ⟨Nat.le_of_ble_eq_true rfl, Nat.le_of_ble_eq_true rfl⟩) hP hD hS hA [] (List.range' 0 90) rfl rfl rfl (by decide) (fun _ H locs hP hD hS => ?_)
  rw [List.append_nil] at hP hD
  have hP : va_P (dC, dI) vwCl (wV tp f er tr kr cI cII cJ cJJ 0 (fun _ _ => 0) (fun _ => 0) (fun _ => 0) (fun _ => 0) 0 0 (fun _ => 0) (fun _ => 0) ++ wV tq f2 er2 tr2 kr2 cI cII cJ cJJ 0 (fun _ _ => 0) (fun _ => 0) (fun _ => 0) (fun _ => 0) 0 0 (fun _ => 0) (fun _ => 0)) H := hP
  have hD : va_D (lwA s) (wV tp f er tr kr cI cII cJ cJJ 0 (fun _ _ => 0) (fun _ => 0) (fun _ => 0) (fun _ => 0) 0 0 (fun _ => 0) (fun _ => 0) ++ wV tq f2 er2 tr2 kr2 cI cII cJ cJJ 0 (fun _ _ => 0) (fun _ => 0) (fun _ => 0) (fun _ => 0) 0 0 (fun _ => 0) (fun _ => 0)) := hD
  refine W.widen (k := 90) (n := 516) (by omega) (by omega) ?_
  refine lv_iconst (v := nI 5) hx hb dL_law_22 (by decide) ?_
  refine kt_callSi (w' := wV tp f er tr kr cI cII cJ cJJ 0 (fun _ _ => 0) (fun _ => 0) (fun _ => 0) (fun _ => 0) 0 0 (fun _ => 0) (fun _ => 0) ++ wV tq f2 er2 tr2 kr2 cI cII cJ cJJ 0 (fun _ _ => 0) (fun _ => 0) (fun _ => 0) (fun _ => 0) 0 0 (fun _ => 0) (fun _ => 0)) (rest := [.int (nI 1)]) (As := [.int (cellF xs L 1), .int (nI 5)]) ⟨hx, hb, hml, hown, hts⟩ (c_L_below l dC dI cI cII cJ cJJ (cellF xs L 1) 5 _ (by omega) (by omega)) (va_cwS 2 hts gL_law_L_below rfl rfl rfl (by decide +kernel) ⟨Nat.le_of_ble_eq_true rfl, Nat.le_of_ble_eq_true rfl⟩) hK hP hD hS hA [] (kt_sw_nil _) rfl rfl rfl hl.1 (Nat.le_of_ble_eq_true rfl) dL_law_23 ⟨Nat.le_of_ble_eq_true rfl, Nat.le_of_ble_eq_true rfl⟩ (fun H locs hP hD hS => ?_)
  obtain ⟨u, hu, eu⟩ := belowF_spec (cellF xs L 1) (show 0 < 5 by omega) (by omega)
  refine lv_topi (fun z1 ez1 => ?_)
  have ez1 : z1 = nI u := ez1.trans (eu)
  subst ez1
  refine kt_iadd hx hb dL_law_26 ?_
  refine lv_istore_n (lv' := [(3, .int (nI (1 + u))), (2, .ref tq), (1, .ref tp), (0, .ref b)]) hx hb dL_law_27 rfl hl (by decide) rfl (fun ls hl => ?_)
  refine lv_aload_n hx hb dL_law_28 rfl (lv_at hl 2 rfl) ?_
  refine lv_aload_n hx hb dL_law_29 rfl (lv_at hl 3 rfl) ?_
  refine lv_iconst (v := nI 3) hx hb dL_law_30 (by decide) ?_
  refine lv_iload_n hx hb dL_law_31 rfl (lv_at hl 0 rfl) ?_
  refine kt_newA (wC := wV tp f er tr kr cI cII cJ cJJ 0 (fun _ _ => 0) (fun _ => 0) (fun _ => 0) (fun _ => 0) 0 0 (fun _ => 0) (fun _ => 0)) (wR9 := wV tq f2 er2 tr2 kr2 cI cII cJ cJJ 0 (fun _ _ => 0) (fun _ => 0) (fun _ => 0) (fun _ => 0) 0 0 (fun _ => 0) (fun _ => 0)) (wM := fun (_ : Unit) (_ : Nat) => wV tp f er tr kr cI cII cJ cJJ (1 + u) ((moorX (1 + u) xs L (1 + u)).1) ((moorX (1 + u) xs L (1 + u)).2.1) (fun _ => 0) (fun _ => 0) 0 0 (fun _ => 0) ((moorX (1 + u) xs L (1 + u)).2.2)) (tys := (tyL cI cII cJ cJJ)) (va_runS (As := [.ref tp, .ref b, .int (nI 3), .int (nI (1 + u))]) (rest := []) ⟨hx, hb, hml, hown, hts⟩ (c_L_moor l dC dI cI cII cJ cJJ tp f er tr kr b L xs (1 + u) _ (by omega) (by omega) (by omega)) (va_cwS 4 hts gL_law_L_moor rfl rfl rfl (by decide +kernel) ⟨Nat.le_of_ble_eq_true rfl, Nat.le_of_ble_eq_true rfl⟩) (kt_preSS hK hP hD hS hE hA haI haL (List.range' 0 45) rfl rfl) rfl rfl hl.1 rfl (lv_room (Nat.le_of_ble_eq_true rfl)) dL_law_32 ⟨Nat.le_of_ble_eq_true rfl, Nat.le_of_ble_eq_true rfl⟩) hP hD hS hA (List.range' 0 45) (List.range' 45 45) rfl rfl rfl (by decide) (fun _ rm H locs hP hD hS => ?_)
  have hP : va_P (dC, dI) vwCl (wV tq f2 er2 tr2 kr2 cI cII cJ cJJ 0 (fun _ _ => 0) (fun _ => 0) (fun _ => 0) (fun _ => 0) 0 0 (fun _ => 0) (fun _ => 0) ++ wV tp f er tr kr cI cII cJ cJJ (1 + u) ((moorX (1 + u) xs L (1 + u)).1) ((moorX (1 + u) xs L (1 + u)).2.1) (fun _ => 0) (fun _ => 0) 0 0 (fun _ => 0) ((moorX (1 + u) xs L (1 + u)).2.2)) H := hP
  have hD : va_D (lwA s) (wV tq f2 er2 tr2 kr2 cI cII cJ cJJ 0 (fun _ _ => 0) (fun _ => 0) (fun _ => 0) (fun _ => 0) 0 0 (fun _ => 0) (fun _ => 0) ++ wV tp f er tr kr cI cII cJ cJJ (1 + u) ((moorX (1 + u) xs L (1 + u)).1) ((moorX (1 + u) xs L (1 + u)).2.1) (fun _ => 0) (fun _ => 0) 0 0 (fun _ => 0) ((moorX (1 + u) xs L (1 + u)).2.2)) := hD
  refine W.widen (k := 98) (n := 572) (by omega) (by omega) ?_
  have hP := kt_sub (wC := wV tp f er tr kr cI cII cJ cJJ (1 + u) ((moorX (1 + u) xs L (1 + u)).1) ((moorX (1 + u) xs L (1 + u)).2.1) (fun _ => 0) (fun _ => 0) 0 0 (fun _ => 0) ((moorX (1 + u) xs L (1 + u)).2.2) ++ wV tq f2 er2 tr2 kr2 cI cII cJ cJJ 0 (fun _ _ => 0) (fun _ => 0) (fun _ => 0) (fun _ => 0) 0 0 (fun _ => 0) (fun _ => 0)) hP (List.range' 45 45 ++ List.range' 0 45) rfl
  have hD := hD.sub (ws' := wV tp f er tr kr cI cII cJ cJJ (1 + u) ((moorX (1 + u) xs L (1 + u)).1) ((moorX (1 + u) xs L (1 + u)).2.1) (fun _ => 0) (fun _ => 0) 0 0 (fun _ => 0) ((moorX (1 + u) xs L (1 + u)).2.2) ++ wV tq f2 er2 tr2 kr2 cI cII cJ cJJ 0 (fun _ _ => 0) (fun _ => 0) (fun _ => 0) (fun _ => 0) 0 0 (fun _ => 0) (fun _ => 0)) (List.range' 45 45 ++ List.range' 0 45) rfl rfl
  refine lv_pop hx hb dL_law_35 rfl ?_
  refine lv_aload_n hx hb dL_law_36 rfl (lv_at hl 1 rfl) ?_
  refine lv_aload_n hx hb dL_law_37 rfl (lv_at hl 3 rfl) ?_
  refine lv_iconst (v := nI 3) hx hb dL_law_38 (by decide) ?_
  refine lv_iload_n hx hb dL_law_39 rfl (lv_at hl 0 rfl) ?_
  refine kt_newA (wC := wV tq f2 er2 tr2 kr2 cI cII cJ cJJ 0 (fun _ _ => 0) (fun _ => 0) (fun _ => 0) (fun _ => 0) 0 0 (fun _ => 0) (fun _ => 0)) (wR9 := wV tp f er tr kr cI cII cJ cJJ (1 + u) ((moorX (1 + u) xs L (1 + u)).1) ((moorX (1 + u) xs L (1 + u)).2.1) (fun _ => 0) (fun _ => 0) 0 0 (fun _ => 0) ((moorX (1 + u) xs L (1 + u)).2.2)) (wM := fun (_ : Unit) (_ : Nat) => wV tq f2 er2 tr2 kr2 cI cII cJ cJJ (1 + u) ((moorX (1 + u) xs L (1 + u)).1) ((moorX (1 + u) xs L (1 + u)).2.1) (fun _ => 0) (fun _ => 0) 0 0 (fun _ => 0) ((moorX (1 + u) xs L (1 + u)).2.2)) (tys := (tyL cI cII cJ cJJ)) (va_runS (As := [.ref tq, .ref b, .int (nI 3), .int (nI (1 + u))]) (rest := []) ⟨hx, hb, hml, hown, hts⟩ (c_L_moor l dC dI cI cII cJ cJJ tq f2 er2 tr2 kr2 b L xs (1 + u) _ (by omega) (by omega) (by omega)) (va_cwS 4 hts gL_law_L_moor rfl rfl rfl (by decide +kernel) ⟨Nat.le_of_ble_eq_true rfl, Nat.le_of_ble_eq_true rfl⟩) (kt_preSS hK hP hD hS hE hA haI haL (List.range' 45 45) rfl rfl) rfl rfl hl.1 rfl (lv_room (Nat.le_of_ble_eq_true rfl)) dL_law_40 ⟨Nat.le_of_ble_eq_true rfl, Nat.le_of_ble_eq_true rfl⟩) hP hD hS hA (List.range' 45 45) (List.range' 0 45) rfl rfl rfl (by decide) (fun _ rm H locs hP hD hS => ?_)
  have hP : va_P (dC, dI) vwCl (wV tp f er tr kr cI cII cJ cJJ (1 + u) ((moorX (1 + u) xs L (1 + u)).1) ((moorX (1 + u) xs L (1 + u)).2.1) (fun _ => 0) (fun _ => 0) 0 0 (fun _ => 0) ((moorX (1 + u) xs L (1 + u)).2.2) ++ wV tq f2 er2 tr2 kr2 cI cII cJ cJJ (1 + u) ((moorX (1 + u) xs L (1 + u)).1) ((moorX (1 + u) xs L (1 + u)).2.1) (fun _ => 0) (fun _ => 0) 0 0 (fun _ => 0) ((moorX (1 + u) xs L (1 + u)).2.2)) H := hP
  have hD : va_D (lwA s) (wV tp f er tr kr cI cII cJ cJJ (1 + u) ((moorX (1 + u) xs L (1 + u)).1) ((moorX (1 + u) xs L (1 + u)).2.1) (fun _ => 0) (fun _ => 0) 0 0 (fun _ => 0) ((moorX (1 + u) xs L (1 + u)).2.2) ++ wV tq f2 er2 tr2 kr2 cI cII cJ cJJ (1 + u) ((moorX (1 + u) xs L (1 + u)).1) ((moorX (1 + u) xs L (1 + u)).2.1) (fun _ => 0) (fun _ => 0) 0 0 (fun _ => 0) ((moorX (1 + u) xs L (1 + u)).2.2)) := hD
  refine W.widen (k := 106) (n := 628) (by omega) (by omega) ?_
  refine lv_pop hx hb dL_law_43 rfl ?_
  refine lv_iconst (v := nI 0) hx hb dL_law_44 (by decide) ?_
  refine lv_istore (lv' := [(4, .int (nI 0)), (3, .int (nI (1 + u))), (2, .ref tq), (1, .ref tp), (0, .ref b)]) hx hb dL_law_45 hl (by decide) rfl (fun ls hl => ?_)
  refine lv_iconst (v := nI 0) hx hb dL_law_47 (by decide) ?_
  refine lv_istore (lv' := [(5, .int (nI 0)), (4, .int (nI 0)), (3, .int (nI (1 + u))), (2, .ref tq), (1, .ref tp), (0, .ref b)]) hx hb dL_law_48 hl (by decide) rfl (fun ls hl => ?_)
  refine lv_iconst (v := nI 0) hx hb dL_law_50 (by decide) ?_
  refine lv_istore (lv' := [(6, .int (nI 0)), (5, .int (nI 0)), (4, .int (nI 0)), (3, .int (nI (1 + u))), (2, .ref tq), (1, .ref tp), (0, .ref b)]) hx hb dL_law_51 hl (by decide) rfl (fun ls hl => ?_)
  refine W.widen (k := 1000) (n := 10000) (by omega) (by omega) ?_
  exact law_loop (n := (1 + u)) (E := (moorX (1 + u) xs L (1 + u)).1) (DG := (moorX (1 + u) xs L (1 + u)).2.1) (P := (moorX (1 + u) xs L (1 + u)).2.2) C0 hK (by omega) (by omega) (mok_all xs L (by omega) (1 + u) (Nat.le_refl _)) haI haL (by omega) 50 0 (by omega) (by omega) _ _ _ _ _ _ _ _ _ (nI 0) (nI 0) (inv_zero _ _ _) H locs ls hP hD hS (lv_sub hl [0, 1, 2, 3, 4, 5, 6] rfl)
