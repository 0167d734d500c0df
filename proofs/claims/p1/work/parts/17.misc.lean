set_option maxHeartbeats 4000000 in
set_option maxRecDepth 100000 in
theorem c_X4_fire (l : Launch) (dC : Nat → ClassId) (dI : Nat → Nat → Nat) (cI cII cJ cJJ : ClassId) (tp : Nat) (ly : Nat) (lyg : Nat) (lyt : Nat) (LYG : Nat → Int32) (LYT : Nat → Int32) (tl : Nat) (tlg : Nat) (tlt : Nat) (TLG : Nat → Int32) (TLT : Nat → Int32) (ne : Nat) (neg : Nat) (net : Nat) (NEG : Nat → Int32) (NET : Nat → Int32) (su : Nat) (sug : Nat) (sut : Nat) (SUG : Nat → Int32) (SUT : Nat → Int32) (kp : Nat) (kr : Nat → Nat) (KH : Nat → Nat → Int32) (km : Nat) (sw : Int32) (tps : Int32) (rt : Nat) (pl : Nat) (P : Nat → Int32) (st : Int32) (my : Nat) (co : Nat) (C : Nat → Int32) (la : Nat) (lag : Nat) (lat : Nat) (LG : Nat → Int32) (LT : Nat → Int32) (po : Nat) (pog : Nat) (pot : Nat) (OG : Nat → Int32) (OT : Nat → Int32) (mo : Nat) (eo : Nat) (dg : Nat) (to : Nat) (er : Nat → Nat) (n : Nat) (E : Nat → Nat → Int32) (DG : Nat → Int32) (tr : Nat → Nat) (T : Nat → Nat → Int64) (sz : Nat) (hn : n ≤ 6) : Met l yX4_fire wsX4_fire ({ frames := 3, cells := 0, slots := 0, locals := 71 }) (va_Pc [.ref tp] (PRE (dC, dI) (tyL cI cII cJ cJJ) (wTop tp ly lyg lyt LYG LYT tl tlg tlt TLG TLT ne neg net NEG NET su sug sut SUG SUT kp kr KH km sw tps rt pl P st my co C la lag lat LG LT po pog pot OG OT cJ cJJ cI cII mo eo dg to er n E DG tr T) sz)) (va_Qi (fun (r' : Int32) (_ : Unit) => r' = fireF n E LYG) (fun _ tS => ATW (dC, dI) (tyL cI cII cJ cJJ) (va_A (wTop tp ly lyg lyt LYG LYT tl tlg tlt TLG TLT ne neg net NEG NET su sug sut SUG SUT kp kr KH km sw tps rt pl P st my co C la lag lat LG LT po pog pot OG OT cJ cJJ cI cII mo eo dg to er n E DG tr T) sz) (wTop tp ly lyg lyt LYG LYT tl tlg tlt TLG TLT ne neg net NEG NET su sug sut SUG SUT kp kr KH km sw tps rt pl P st my co C la lag lat LG LT po pog pot OG OT cJ cJJ cI cII mo eo dg to er n E DG tr T) tS) (va_A (wTop tp ly lyg lyt LYG LYT tl tlg tlt TLG TLT ne neg net NEG NET su sug sut SUG SUT kp kr KH km sw tps rt pl P st my co C la lag lat LG LT po pog pot OG OT cJ cJJ cI cII mo eo dg to er n E DG tr T) sz)) 0 0 (va_A (wTop tp ly lyg lyt LYG LYT tl tlg tlt TLG TLT ne neg net NEG NET su sug sut SUG SUT kp kr KH km sw tps rt pl P st my co C la lag lat LG LT po pog pot OG OT cJ cJJ cI cII mo eo dg to er n E DG tr T) sz) := by
  refine Met.ofW (cc := cX4_fire) (maxL := 1) (ret := (some .int)) (by decide) rfl ?_
  intro p e s m args below meth c s₁ B hml hv
  obtain ⟨rfl, hsz, hP, hK, hD0⟩ := hv
  have hx := B.exec
  have hb := B.bytes
  have hr := B.returns
  have hlocks := B.notSynchronized
  have hts := atoms_spec (ws := wsX4_fire) B.pre
  have hown : s.vm.findClass RX4 = some m.cls := findClass_of_methodNamed B.named
  subst hsz
  have hD := hD0.self (sz := s.heap.size)
  generalize hAe : va_A (wTop tp ly lyg lyt LYG LYT tl tlg tlt TLG TLT ne neg net NEG NET su sug sut SUG SUT kp kr KH km sw tps rt pl P st my co C la lag lat LG LT po pog pot OG OT cJ cJJ cI cII mo eo dg to er n E DG tr T) s.heap.size = A at hD ⊢
  have hA : ∀ q : Nat, s.heap.size ≤ q → A q := fun q h => by rw [← hAe]; exact Or.inr h
  have hS : va_S A s.heap s.heap [] := va_S.rf
  have hl := lv_entry ([.ref tp]) (n := 1) (Nat.le_of_ble_eq_true rfl)
  rw [lg_entry_eq]
  generalize (lg_sl ([.ref tp]) ++ List.replicate (1 - (lg_sl ([.ref tp])).length) Slot.unset).toArray = ls at hl ⊢
  have hl : lv_has ls 1 [(0, .ref tp)] := hl
  have hi_X4 : ∀ w ∈ u_ws RX4 TX4 11, w ∈ wsX4_fire := by decide +kernel
  have hf_21 := hts (.fieldLink RX4 21 "Topplemoor" "lying" "LTopplemoor$Heap;") (by decide +kernel)
  refine lv_aload_n hx hb dX4_fire_0 rfl (lv_at hl 0 rfl) ?_
  refine va_get (D := (dC, dI)) (ci := kX4) (v := .ref ly) (C := RX4) (T := TX4) (N := 11) hx hb hts hi_X4 hown hK hP 0 rfl rfl 1 (by decide) hf_21 (fun _ h9 => h9) rfl dX4_fire_1 ?_
  refine kt_calli (w' := wTop tp ly lyg lyt LYG LYT tl tlg tlt TLG TLT ne neg net NEG NET su sug sut SUG SUT kp kr KH km sw tps rt pl P st my co C la lag lat LG LT po pog pot OG OT cJ cJJ cI cII mo eo dg to er n E DG tr T) (rest := []) (As := []) ⟨hx, hb, hml, hown, hts⟩ (c_X0_burningOrder l dC dI cI cII cJ cJJ ly lyg lyt LYG LYT mo eo dg to er n E DG _ (hn)) (cwV 0 hts gX4_fire_X0_burningOrder rfl rfl rfl (by decide +kernel) ⟨Nat.le_of_ble_eq_true rfl, Nat.le_of_ble_eq_true rfl⟩) hK hP hD hS hA [1, 2, 3, 28, 29, 30, 31, 32, 33, 34, 35, 36, 37] sw_wTop_wHM_0 rfl 1 kX0 rfl rfl rfl rfl rfl hl.1 (Nat.le_of_ble_eq_true rfl) dX4_fire_4 ⟨Nat.zero_le _, Nat.zero_le _⟩ (fun H locs hP hD hS => ?_)
  exact kt_iret (W' := wTop tp ly lyg lyt LYG LYT tl tlg tlt TLG TLT ne neg net NEG NET su sug sut SUG SUT kp kr KH km sw tps rt pl P st my co C la lag lat LG LT po pog pot OG OT cJ cJJ cI cII mo eo dg to er n E DG tr T) hx hb hr hS hP hK hD (rfl) hlocks dX4_fire_7

set_option maxHeartbeats 4000000 in
set_option maxRecDepth 100000 in
theorem c_X4_between (l : Launch) (dC : Nat → ClassId) (dI : Nat → Nat → Nat) (cI cII cJ cJJ : ClassId) (tp : Nat) (ly : Nat) (lyg : Nat) (lyt : Nat) (LYG : Nat → Int32) (LYT : Nat → Int32) (tl : Nat) (tlg : Nat) (tlt : Nat) (TLG : Nat → Int32) (TLT : Nat → Int32) (ne : Nat) (neg : Nat) (net : Nat) (NEG : Nat → Int32) (NET : Nat → Int32) (su : Nat) (sug : Nat) (sut : Nat) (SUG : Nat → Int32) (SUT : Nat → Int32) (kp : Nat) (kr : Nat → Nat) (KH : Nat → Nat → Int32) (km : Nat) (sw : Int32) (tps : Int32) (rt : Nat) (pl : Nat) (P : Nat → Int32) (st : Int32) (my : Nat) (co : Nat) (C : Nat → Int32) (la : Nat) (lag : Nat) (lat : Nat) (LG : Nat → Int32) (LT : Nat → Int32) (po : Nat) (pog : Nat) (pot : Nat) (OG : Nat → Int32) (OT : Nat → Int32) (mo : Nat) (eo : Nat) (dg : Nat) (to : Nat) (er : Nat → Nat) (n : Nat) (E : Nat → Nat → Int32) (DG : Nat → Int32) (tr : Nat → Nat) (T : Nat → Nat → Int64) (a : Nat) (b : Nat) (sz : Nat) (hn : n ≤ 6) (ha : a < n ∨ a = 6) (hb7 : b < n ∨ b = 6) : Met l yX4_between wsX4_between ({ frames := 3, cells := 0, slots := 0, locals := 63 }) (va_Pc [.ref tp, .int (nI a), .int (nI b)] (PRE (dC, dI) (tyL cI cII cJ cJJ) (wTop tp ly lyg lyt LYG LYT tl tlg tlt TLG TLT ne neg net NEG NET su sug sut SUG SUT kp kr KH km sw tps rt pl P st my co C la lag lat LG LT po pog pot OG OT cJ cJJ cI cII mo eo dg to er n E DG tr T) sz)) (va_Qi (fun (r' : Int32) (_ : Unit) => r' = E a b) (fun _ tS => ATW (dC, dI) (tyL cI cII cJ cJJ) (va_A (wTop tp ly lyg lyt LYG LYT tl tlg tlt TLG TLT ne neg net NEG NET su sug sut SUG SUT kp kr KH km sw tps rt pl P st my co C la lag lat LG LT po pog pot OG OT cJ cJJ cI cII mo eo dg to er n E DG tr T) sz) (wTop tp ly lyg lyt LYG LYT tl tlg tlt TLG TLT ne neg net NEG NET su sug sut SUG SUT kp kr KH km sw tps rt pl P st my co C la lag lat LG LT po pog pot OG OT cJ cJJ cI cII mo eo dg to er n E DG tr T) tS) (va_A (wTop tp ly lyg lyt LYG LYT tl tlg tlt TLG TLT ne neg net NEG NET su sug sut SUG SUT kp kr KH km sw tps rt pl P st my co C la lag lat LG LT po pog pot OG OT cJ cJJ cI cII mo eo dg to er n E DG tr T) sz)) 0 0 (va_A (wTop tp ly lyg lyt LYG LYT tl tlg tlt TLG TLT ne neg net NEG NET su sug sut SUG SUT kp kr KH km sw tps rt pl P st my co C la lag lat LG LT po pog pot OG OT cJ cJJ cI cII mo eo dg to er n E DG tr T) sz) := by
  refine Met.ofW (cc := cX4_between) (maxL := 3) (ret := (some .int)) (by decide) rfl ?_
  intro p e s m args below meth c s₁ B hml hv
  obtain ⟨rfl, hsz, hP, hK, hD0⟩ := hv
  have hx := B.exec
  have hb := B.bytes
  have hr := B.returns
  have hlocks := B.notSynchronized
  have hts := atoms_spec (ws := wsX4_between) B.pre
  have hown : s.vm.findClass RX4 = some m.cls := findClass_of_methodNamed B.named
  subst hsz
  have hD := hD0.self (sz := s.heap.size)
  generalize hAe : va_A (wTop tp ly lyg lyt LYG LYT tl tlg tlt TLG TLT ne neg net NEG NET su sug sut SUG SUT kp kr KH km sw tps rt pl P st my co C la lag lat LG LT po pog pot OG OT cJ cJJ cI cII mo eo dg to er n E DG tr T) s.heap.size = A at hD ⊢
  have hA : ∀ q : Nat, s.heap.size ≤ q → A q := fun q h => by rw [← hAe]; exact Or.inr h
  have hS : va_S A s.heap s.heap [] := va_S.rf
  have hl := lv_entry ([.ref tp, .int (nI a), .int (nI b)]) (n := 3) (Nat.le_of_ble_eq_true rfl)
  rw [lg_entry_eq]
  generalize (lg_sl ([.ref tp, .int (nI a), .int (nI b)]) ++ List.replicate (3 - (lg_sl ([.ref tp, .int (nI a), .int (nI b)])).length) Slot.unset).toArray = ls at hl ⊢
  have hl : lv_has ls 3 [(0, .ref tp), (1, .int (nI a)), (2, .int (nI b))] := hl
  have hi_X4 : ∀ w ∈ u_ws RX4 TX4 11, w ∈ wsX4_between := by decide +kernel
  have hf_10 := hts (.fieldLink RX4 10 "Topplemoor" "moor" "LTopplemoor$Moor;") (by decide +kernel)
  have hi_X2 : ∀ w ∈ u_ws RX2 TX2 4, w ∈ wsX4_between := by decide +kernel
  have hf_77 := hts (.fieldLink RX4 77 "Topplemoor$Moor" "edges" "[[I") (by decide +kernel)
  refine lv_aload_n hx hb dX4_between_0 rfl (lv_at hl 0 rfl) ?_
  refine lv_iload_n hx hb dX4_between_1 rfl (lv_at hl 1 rfl) ?_
  refine kt_callv (w' := wTop tp ly lyg lyt LYG LYT tl tlg tlt TLG TLT ne neg net NEG NET su sug sut SUG SUT kp kr KH km sw tps rt pl P st my co C la lag lat LG LT po pog pot OG OT cJ cJJ cI cII mo eo dg to er n E DG tr T) (rest := []) (As := [.int (nI a)]) ⟨hx, hb, hml, hown, hts⟩ (c_X4_requireNode l dC dI cI cII cJ cJJ tp ly lyg lyt LYG LYT tl tlg tlt TLG TLT ne neg net NEG NET su sug sut SUG SUT kp kr KH km sw tps rt pl P st my co C la lag lat LG LT po pog pot OG OT mo eo dg to er n E DG tr T a _ (hn) (ha)) (cwV 1 hts gX4_between_X4_requireNode rfl rfl rfl (by decide +kernel) ⟨Nat.le_of_ble_eq_true rfl, Nat.le_of_ble_eq_true rfl⟩) hK hP hD hS hA (List.range' 0 45) sw_wTop_wTop_0 rfl 0 kX4 rfl rfl rfl rfl rfl hl.1 (Nat.le_of_ble_eq_true rfl) dX4_between_2 ⟨Nat.zero_le _, Nat.zero_le _⟩ (fun H locs hP hD hS => ?_)
  refine lv_aload_n hx hb dX4_between_5 rfl (lv_at hl 0 rfl) ?_
  refine lv_iload_n hx hb dX4_between_6 rfl (lv_at hl 2 rfl) ?_
  refine kt_callv (w' := wTop tp ly lyg lyt LYG LYT tl tlg tlt TLG TLT ne neg net NEG NET su sug sut SUG SUT kp kr KH km sw tps rt pl P st my co C la lag lat LG LT po pog pot OG OT cJ cJJ cI cII mo eo dg to er n E DG tr T) (rest := []) (As := [.int (nI b)]) ⟨hx, hb, hml, hown, hts⟩ (c_X4_requireNode l dC dI cI cII cJ cJJ tp ly lyg lyt LYG LYT tl tlg tlt TLG TLT ne neg net NEG NET su sug sut SUG SUT kp kr KH km sw tps rt pl P st my co C la lag lat LG LT po pog pot OG OT mo eo dg to er n E DG tr T b _ (hn) (hb7)) (cwV 1 hts gX4_between_X4_requireNode rfl rfl rfl (by decide +kernel) ⟨Nat.le_of_ble_eq_true rfl, Nat.le_of_ble_eq_true rfl⟩) hK hP hD hS hA (List.range' 0 45) sw_wTop_wTop_0 rfl 0 kX4 rfl rfl rfl rfl rfl hl.1 (Nat.le_of_ble_eq_true rfl) dX4_between_7 ⟨Nat.zero_le _, Nat.zero_le _⟩ (fun H locs hP hD hS => ?_)
  refine lv_aload_n hx hb dX4_between_10 rfl (lv_at hl 0 rfl) ?_
  refine va_get (D := (dC, dI)) (ci := kX4) (v := .ref mo) (C := RX4) (T := TX4) (N := 11) hx hb hts hi_X4 hown hK hP 0 rfl rfl 0 (by decide) hf_10 (fun _ h9 => h9) rfl dX4_between_11 ?_
  refine va_get (D := (dC, dI)) (ci := kX2) (v := .ref eo) (C := RX2) (T := TX2) (N := 4) hx hb hts hi_X2 hown hK hP 28 rfl rfl 1 (by decide) hf_77 (fun _ h9 => h9) rfl dX4_between_14 ?_
  refine lv_iload_n hx hb dX4_between_17 rfl (lv_at hl 1 rfl) ?_
  refine kt_aald hx hb hK hP 29 1 rfl rfl (by omega) (by decide) dX4_between_18 ?_
  refine lv_iload_n hx hb dX4_between_19 rfl (lv_at hl 2 rfl) ?_
  refine kt_iald hx hb hK hP (30 + a) 0 (row_wTop_er (by omega)) rfl (by omega) (by decide) dX4_between_20 ?_
  exact kt_iret (W' := wTop tp ly lyg lyt LYG LYT tl tlg tlt TLG TLT ne neg net NEG NET su sug sut SUG SUT kp kr KH km sw tps rt pl P st my co C la lag lat LG LT po pog pot OG OT cJ cJJ cI cII mo eo dg to er n E DG tr T) hx hb hr hS hP hK hD (rfl) hlocks dX4_between_21

set_option maxHeartbeats 4000000 in
set_option maxRecDepth 100000 in
theorem c_X4_coins (l : Launch) (dC : Nat → ClassId) (dI : Nat → Nat → Nat) (cI cII cJ cJJ : ClassId) (tp : Nat) (ly : Nat) (lyg : Nat) (lyt : Nat) (LYG : Nat → Int32) (LYT : Nat → Int32) (tl : Nat) (tlg : Nat) (tlt : Nat) (TLG : Nat → Int32) (TLT : Nat → Int32) (ne : Nat) (neg : Nat) (net : Nat) (NEG : Nat → Int32) (NET : Nat → Int32) (su : Nat) (sug : Nat) (sut : Nat) (SUG : Nat → Int32) (SUT : Nat → Int32) (kp : Nat) (kr : Nat → Nat) (KH : Nat → Nat → Int32) (km : Nat) (sw : Int32) (tps : Int32) (rt : Nat) (pl : Nat) (P : Nat → Int32) (st : Int32) (my : Nat) (co : Nat) (C : Nat → Int32) (la : Nat) (lag : Nat) (lat : Nat) (LG : Nat → Int32) (LT : Nat → Int32) (po : Nat) (pog : Nat) (pot : Nat) (OG : Nat → Int32) (OT : Nat → Int32) (mo : Nat) (eo : Nat) (dg : Nat) (to : Nat) (er : Nat → Nat) (n : Nat) (E : Nat → Nat → Int32) (DG : Nat → Int32) (tr : Nat → Nat) (T : Nat → Nat → Int64) (a : Nat) (sz : Nat) (hn : n ≤ 6) (ha : a < n ∨ a = 6) : Met l yX4_coins wsX4_coins ({ frames := 3, cells := 0, slots := 0, locals := 63 }) (va_Pc [.ref tp, .int (nI a)] (PRE (dC, dI) (tyL cI cII cJ cJJ) (wTop tp ly lyg lyt LYG LYT tl tlg tlt TLG TLT ne neg net NEG NET su sug sut SUG SUT kp kr KH km sw tps rt pl P st my co C la lag lat LG LT po pog pot OG OT cJ cJJ cI cII mo eo dg to er n E DG tr T) sz)) (va_Qi (fun (r' : Int32) (_ : Unit) => r' = C a) (fun _ tS => ATW (dC, dI) (tyL cI cII cJ cJJ) (va_A (wTop tp ly lyg lyt LYG LYT tl tlg tlt TLG TLT ne neg net NEG NET su sug sut SUG SUT kp kr KH km sw tps rt pl P st my co C la lag lat LG LT po pog pot OG OT cJ cJJ cI cII mo eo dg to er n E DG tr T) sz) (wTop tp ly lyg lyt LYG LYT tl tlg tlt TLG TLT ne neg net NEG NET su sug sut SUG SUT kp kr KH km sw tps rt pl P st my co C la lag lat LG LT po pog pot OG OT cJ cJJ cI cII mo eo dg to er n E DG tr T) tS) (va_A (wTop tp ly lyg lyt LYG LYT tl tlg tlt TLG TLT ne neg net NEG NET su sug sut SUG SUT kp kr KH km sw tps rt pl P st my co C la lag lat LG LT po pog pot OG OT cJ cJJ cI cII mo eo dg to er n E DG tr T) sz)) 0 0 (va_A (wTop tp ly lyg lyt LYG LYT tl tlg tlt TLG TLT ne neg net NEG NET su sug sut SUG SUT kp kr KH km sw tps rt pl P st my co C la lag lat LG LT po pog pot OG OT cJ cJJ cI cII mo eo dg to er n E DG tr T) sz) := by
  refine Met.ofW (cc := cX4_coins) (maxL := 2) (ret := (some .int)) (by decide) rfl ?_
  intro p e s m args below meth c s₁ B hml hv
  obtain ⟨rfl, hsz, hP, hK, hD0⟩ := hv
  have hx := B.exec
  have hb := B.bytes
  have hr := B.returns
  have hlocks := B.notSynchronized
  have hts := atoms_spec (ws := wsX4_coins) B.pre
  have hown : s.vm.findClass RX4 = some m.cls := findClass_of_methodNamed B.named
  subst hsz
  have hD := hD0.self (sz := s.heap.size)
  generalize hAe : va_A (wTop tp ly lyg lyt LYG LYT tl tlg tlt TLG TLT ne neg net NEG NET su sug sut SUG SUT kp kr KH km sw tps rt pl P st my co C la lag lat LG LT po pog pot OG OT cJ cJJ cI cII mo eo dg to er n E DG tr T) s.heap.size = A at hD ⊢
  have hA : ∀ q : Nat, s.heap.size ≤ q → A q := fun q h => by rw [← hAe]; exact Or.inr h
  have hS : va_S A s.heap s.heap [] := va_S.rf
  have hl := lv_entry ([.ref tp, .int (nI a)]) (n := 2) (Nat.le_of_ble_eq_true rfl)
  rw [lg_entry_eq]
  generalize (lg_sl ([.ref tp, .int (nI a)]) ++ List.replicate (2 - (lg_sl ([.ref tp, .int (nI a)])).length) Slot.unset).toArray = ls at hl ⊢
  have hl : lv_has ls 2 [(0, .ref tp), (1, .int (nI a))] := hl
  have hi_X4 : ∀ w ∈ u_ws RX4 TX4 11, w ∈ wsX4_coins := by decide +kernel
  have hf_44 := hts (.fieldLink RX4 44 "Topplemoor" "money" "LTopplemoor$Money;") (by decide +kernel)
  have hi_X1 : ∀ w ∈ u_ws RX1 TX1 4, w ∈ wsX4_coins := by decide +kernel
  have hf_149 := hts (.fieldLink RX4 149 "Topplemoor$Money" "coins" "[I") (by decide +kernel)
  refine lv_aload_n hx hb dX4_coins_0 rfl (lv_at hl 0 rfl) ?_
  refine lv_iload_n hx hb dX4_coins_1 rfl (lv_at hl 1 rfl) ?_
  refine kt_callv (w' := wTop tp ly lyg lyt LYG LYT tl tlg tlt TLG TLT ne neg net NEG NET su sug sut SUG SUT kp kr KH km sw tps rt pl P st my co C la lag lat LG LT po pog pot OG OT cJ cJJ cI cII mo eo dg to er n E DG tr T) (rest := []) (As := [.int (nI a)]) ⟨hx, hb, hml, hown, hts⟩ (c_X4_requireNode l dC dI cI cII cJ cJJ tp ly lyg lyt LYG LYT tl tlg tlt TLG TLT ne neg net NEG NET su sug sut SUG SUT kp kr KH km sw tps rt pl P st my co C la lag lat LG LT po pog pot OG OT mo eo dg to er n E DG tr T a _ (hn) (ha)) (cwV 1 hts gX4_coins_X4_requireNode rfl rfl rfl (by decide +kernel) ⟨Nat.le_of_ble_eq_true rfl, Nat.le_of_ble_eq_true rfl⟩) hK hP hD hS hA (List.range' 0 45) sw_wTop_wTop_0 rfl 0 kX4 rfl rfl rfl rfl rfl hl.1 (Nat.le_of_ble_eq_true rfl) dX4_coins_2 ⟨Nat.zero_le _, Nat.zero_le _⟩ (fun H locs hP hD hS => ?_)
  refine lv_aload_n hx hb dX4_coins_5 rfl (lv_at hl 0 rfl) ?_
  refine va_get (D := (dC, dI)) (ci := kX4) (v := .ref my) (C := RX4) (T := TX4) (N := 11) hx hb hts hi_X4 hown hK hP 0 rfl rfl 6 (by decide) hf_44 (fun _ h9 => h9) rfl dX4_coins_6 ?_
  refine va_get (D := (dC, dI)) (ci := kX1) (v := .ref co) (C := RX1) (T := TX1) (N := 4) hx hb hts hi_X1 hown hK hP 20 rfl rfl 0 (by decide) hf_149 (fun _ h9 => h9) rfl dX4_coins_9 ?_
  refine lv_iload_n hx hb dX4_coins_12 rfl (lv_at hl 1 rfl) ?_
  refine kt_iald hx hb hK hP 21 0 rfl rfl (by omega) (by decide) dX4_coins_13 ?_
  exact kt_iret (W' := wTop tp ly lyg lyt LYG LYT tl tlg tlt TLG TLT ne neg net NEG NET su sug sut SUG SUT kp kr KH km sw tps rt pl P st my co C la lag lat LG LT po pog pot OG OT cJ cJJ cI cII mo eo dg to er n E DG tr T) hx hb hr hS hP hK hD (rfl) hlocks dX4_coins_14

set_option maxHeartbeats 4000000 in
set_option maxRecDepth 100000 in
theorem c_X4_requireHeap (l : Launch) (dC : Nat → ClassId) (dI : Nat → Nat → Nat) (cI cII cJ cJJ : ClassId) (tp : Nat) (ly : Nat) (lyg : Nat) (lyt : Nat) (LYG : Nat → Int32) (LYT : Nat → Int32) (tl : Nat) (tlg : Nat) (tlt : Nat) (TLG : Nat → Int32) (TLT : Nat → Int32) (ne : Nat) (neg : Nat) (net : Nat) (NEG : Nat → Int32) (NET : Nat → Int32) (su : Nat) (sug : Nat) (sut : Nat) (SUG : Nat → Int32) (SUT : Nat → Int32) (kp : Nat) (kr : Nat → Nat) (KH : Nat → Nat → Int32) (km : Nat) (sw : Int32) (tps : Int32) (rt : Nat) (pl : Nat) (P : Nat → Int32) (st : Int32) (my : Nat) (co : Nat) (C : Nat → Int32) (la : Nat) (lag : Nat) (lat : Nat) (LG : Nat → Int32) (LT : Nat → Int32) (po : Nat) (pog : Nat) (pot : Nat) (OG : Nat → Int32) (OT : Nat → Int32) (mo : Nat) (eo : Nat) (dg : Nat) (to : Nat) (er : Nat → Nat) (n : Nat) (E : Nat → Nat → Int32) (DG : Nat → Int32) (tr : Nat → Nat) (T : Nat → Nat → Int64) (i : Nat) (sz : Nat) (hkm : km ≤ 4) (hi : i < km) : Met l yX4_requireHeap wsX4_requireHeap ({ frames := 0, cells := 0, slots := 0, locals := 0 }) (va_Pc [.ref tp, .int (nI i)] (PRE (dC, dI) (tyL cI cII cJ cJJ) (wTop tp ly lyg lyt LYG LYT tl tlg tlt TLG TLT ne neg net NEG NET su sug sut SUG SUT kp kr KH km sw tps rt pl P st my co C la lag lat LG LT po pog pot OG OT cJ cJJ cI cII mo eo dg to er n E DG tr T) sz)) (va_Qv (fun (_ : Unit) => True) (fun _ tS => ATW (dC, dI) (tyL cI cII cJ cJJ) (va_A (wTop tp ly lyg lyt LYG LYT tl tlg tlt TLG TLT ne neg net NEG NET su sug sut SUG SUT kp kr KH km sw tps rt pl P st my co C la lag lat LG LT po pog pot OG OT cJ cJJ cI cII mo eo dg to er n E DG tr T) sz) (wTop tp ly lyg lyt LYG LYT tl tlg tlt TLG TLT ne neg net NEG NET su sug sut SUG SUT kp kr KH km sw tps rt pl P st my co C la lag lat LG LT po pog pot OG OT cJ cJJ cI cII mo eo dg to er n E DG tr T) tS) (va_A (wTop tp ly lyg lyt LYG LYT tl tlg tlt TLG TLT ne neg net NEG NET su sug sut SUG SUT kp kr KH km sw tps rt pl P st my co C la lag lat LG LT po pog pot OG OT cJ cJJ cI cII mo eo dg to er n E DG tr T) sz)) 0 0 (va_A (wTop tp ly lyg lyt LYG LYT tl tlg tlt TLG TLT ne neg net NEG NET su sug sut SUG SUT kp kr KH km sw tps rt pl P st my co C la lag lat LG LT po pog pot OG OT cJ cJJ cI cII mo eo dg to er n E DG tr T) sz) := by
  refine Met.ofW (cc := cX4_requireHeap) (maxL := 2) (ret := none) (by decide) rfl ?_
  intro p e s m args below meth c s₁ B hml hv
  obtain ⟨rfl, hsz, hP, hK, hD0⟩ := hv
  have hx := B.exec
  have hb := B.bytes
  have hr := B.returns
  have hlocks := B.notSynchronized
  have hts := atoms_spec (ws := wsX4_requireHeap) B.pre
  have hown : s.vm.findClass RX4 = some m.cls := findClass_of_methodNamed B.named
  subst hsz
  have hD := hD0.self (sz := s.heap.size)
  generalize hAe : va_A (wTop tp ly lyg lyt LYG LYT tl tlg tlt TLG TLT ne neg net NEG NET su sug sut SUG SUT kp kr KH km sw tps rt pl P st my co C la lag lat LG LT po pog pot OG OT cJ cJJ cI cII mo eo dg to er n E DG tr T) s.heap.size = A at hD ⊢
  have hA : ∀ q : Nat, s.heap.size ≤ q → A q := fun q h => by rw [← hAe]; exact Or.inr h
  have hS : va_S A s.heap s.heap [] := va_S.rf
  have hl := lv_entry ([.ref tp, .int (nI i)]) (n := 2) (Nat.le_of_ble_eq_true rfl)
  rw [lg_entry_eq]
  generalize (lg_sl ([.ref tp, .int (nI i)]) ++ List.replicate (2 - (lg_sl ([.ref tp, .int (nI i)])).length) Slot.unset).toArray = ls at hl ⊢
  have hl : lv_has ls 2 [(0, .ref tp), (1, .int (nI i))] := hl
  have hi_X4 : ∀ w ∈ u_ws RX4 TX4 11, w ∈ wsX4_requireHeap := by decide +kernel
  have hf_118 := hts (.fieldLink RX4 118 "Topplemoor" "keptMany" "I") (by decide +kernel)
  refine lv_iload_n hx hb dX4_requireHeap_0 rfl (lv_at hl 1 rfl) ?_
  refine lv_if_lt (tgt := 12) hx hb dX4_requireHeap_1 (by decide) (fun c1 => ?_) (fun c1 => ?_)
  · exact absurd c1 (nI_pos (by omega))
  · skip
    refine lv_iload_n hx hb dX4_requireHeap_4 rfl (lv_at hl 1 rfl) ?_
    refine lv_aload_n hx hb dX4_requireHeap_5 rfl (lv_at hl 0 rfl) ?_
    refine va_get (D := (dC, dI)) (ci := kX4) (v := .int (nI km)) (C := RX4) (T := TX4) (N := 11) hx hb hts hi_X4 hown hK hP 0 rfl rfl 8 (by decide) hf_118 (fun _ h9 => h9) rfl dX4_requireHeap_6 ?_
    refine kt_ilt (i := i) (n := km) (tgt := 22) hx hb (by omega) (by omega) dX4_requireHeap_9 (by decide) (fun c9 => ?_) (fun c9 => ?_)
    · skip
      exact kt_vret (W' := wTop tp ly lyg lyt LYG LYT tl tlg tlt TLG TLT ne neg net NEG NET su sug sut SUG SUT kp kr KH km sw tps rt pl P st my co C la lag lat LG LT po pog pot OG OT cJ cJJ cI cII mo eo dg to er n E DG tr T) hx hb hr hS hP hK hD hlocks dX4_requireHeap_22
    · omega

set_option maxHeartbeats 4000000 in
set_option maxRecDepth 100000 in
theorem c_X4_kept (l : Launch) (dC : Nat → ClassId) (dI : Nat → Nat → Nat) (cI cII cJ cJJ : ClassId) (tp : Nat) (ly : Nat) (lyg : Nat) (lyt : Nat) (LYG : Nat → Int32) (LYT : Nat → Int32) (tl : Nat) (tlg : Nat) (tlt : Nat) (TLG : Nat → Int32) (TLT : Nat → Int32) (ne : Nat) (neg : Nat) (net : Nat) (NEG : Nat → Int32) (NET : Nat → Int32) (su : Nat) (sug : Nat) (sut : Nat) (SUG : Nat → Int32) (SUT : Nat → Int32) (kp : Nat) (kr : Nat → Nat) (KH : Nat → Nat → Int32) (km : Nat) (sw : Int32) (tps : Int32) (rt : Nat) (pl : Nat) (P : Nat → Int32) (st : Int32) (my : Nat) (co : Nat) (C : Nat → Int32) (la : Nat) (lag : Nat) (lat : Nat) (LG : Nat → Int32) (LT : Nat → Int32) (po : Nat) (pog : Nat) (pot : Nat) (OG : Nat → Int32) (OT : Nat → Int32) (mo : Nat) (eo : Nat) (dg : Nat) (to : Nat) (er : Nat → Nat) (n : Nat) (E : Nat → Nat → Int32) (DG : Nat → Int32) (tr : Nat → Nat) (T : Nat → Nat → Int64) (i : Nat) (j : Nat) (sz : Nat) (hn : n ≤ 6) (hj : j < n) (hkm : km ≤ 4) (hi : i < km) : Met l yX4_kept wsX4_kept ({ frames := 2, cells := 0, slots := 0, locals := 42 }) (va_Pc [.ref tp, .int (nI i), .int (nI j)] (PRE (dC, dI) (tyL cI cII cJ cJJ) (wTop tp ly lyg lyt LYG LYT tl tlg tlt TLG TLT ne neg net NEG NET su sug sut SUG SUT kp kr KH km sw tps rt pl P st my co C la lag lat LG LT po pog pot OG OT cJ cJJ cI cII mo eo dg to er n E DG tr T) sz)) (va_Qi (fun (r' : Int32) (_ : Unit) => r' = KH i j) (fun _ tS => ATW (dC, dI) (tyL cI cII cJ cJJ) (va_A (wTop tp ly lyg lyt LYG LYT tl tlg tlt TLG TLT ne neg net NEG NET su sug sut SUG SUT kp kr KH km sw tps rt pl P st my co C la lag lat LG LT po pog pot OG OT cJ cJJ cI cII mo eo dg to er n E DG tr T) sz) (wTop tp ly lyg lyt LYG LYT tl tlg tlt TLG TLT ne neg net NEG NET su sug sut SUG SUT kp kr KH km sw tps rt pl P st my co C la lag lat LG LT po pog pot OG OT cJ cJJ cI cII mo eo dg to er n E DG tr T) tS) (va_A (wTop tp ly lyg lyt LYG LYT tl tlg tlt TLG TLT ne neg net NEG NET su sug sut SUG SUT kp kr KH km sw tps rt pl P st my co C la lag lat LG LT po pog pot OG OT cJ cJJ cI cII mo eo dg to er n E DG tr T) sz)) 0 0 (va_A (wTop tp ly lyg lyt LYG LYT tl tlg tlt TLG TLT ne neg net NEG NET su sug sut SUG SUT kp kr KH km sw tps rt pl P st my co C la lag lat LG LT po pog pot OG OT cJ cJJ cI cII mo eo dg to er n E DG tr T) sz) := by
  refine Met.ofW (cc := cX4_kept) (maxL := 3) (ret := (some .int)) (by decide) rfl ?_
  intro p e s m args below meth c s₁ B hml hv
  obtain ⟨rfl, hsz, hP, hK, hD0⟩ := hv
  have hx := B.exec
  have hb := B.bytes
  have hr := B.returns
  have hlocks := B.notSynchronized
  have hts := atoms_spec (ws := wsX4_kept) B.pre
  have hown : s.vm.findClass RX4 = some m.cls := findClass_of_methodNamed B.named
  subst hsz
  have hD := hD0.self (sz := s.heap.size)
  generalize hAe : va_A (wTop tp ly lyg lyt LYG LYT tl tlg tlt TLG TLT ne neg net NEG NET su sug sut SUG SUT kp kr KH km sw tps rt pl P st my co C la lag lat LG LT po pog pot OG OT cJ cJJ cI cII mo eo dg to er n E DG tr T) s.heap.size = A at hD ⊢
  have hA : ∀ q : Nat, s.heap.size ≤ q → A q := fun q h => by rw [← hAe]; exact Or.inr h
  have hS : va_S A s.heap s.heap [] := va_S.rf
  have hl := lv_entry ([.ref tp, .int (nI i), .int (nI j)]) (n := 3) (Nat.le_of_ble_eq_true rfl)
  rw [lg_entry_eq]
  generalize (lg_sl ([.ref tp, .int (nI i), .int (nI j)]) ++ List.replicate (3 - (lg_sl ([.ref tp, .int (nI i), .int (nI j)])).length) Slot.unset).toArray = ls at hl ⊢
  have hl : lv_has ls 3 [(0, .ref tp), (1, .int (nI i)), (2, .int (nI j))] := hl
  have hi_X4 : ∀ w ∈ u_ws RX4 TX4 11, w ∈ wsX4_kept := by decide +kernel
  have hf_50 := hts (.fieldLink RX4 50 "Topplemoor" "keptHeaps" "[[I") (by decide +kernel)
  refine lv_aload_n hx hb dX4_kept_0 rfl (lv_at hl 0 rfl) ?_
  refine lv_iload_n hx hb dX4_kept_1 rfl (lv_at hl 1 rfl) ?_
  refine kt_callv (w' := wTop tp ly lyg lyt LYG LYT tl tlg tlt TLG TLT ne neg net NEG NET su sug sut SUG SUT kp kr KH km sw tps rt pl P st my co C la lag lat LG LT po pog pot OG OT cJ cJJ cI cII mo eo dg to er n E DG tr T) (rest := []) (As := [.int (nI i)]) ⟨hx, hb, hml, hown, hts⟩ (c_X4_requireHeap l dC dI cI cII cJ cJJ tp ly lyg lyt LYG LYT tl tlg tlt TLG TLT ne neg net NEG NET su sug sut SUG SUT kp kr KH km sw tps rt pl P st my co C la lag lat LG LT po pog pot OG OT mo eo dg to er n E DG tr T i _ (hkm) (hi)) (cwV 1 hts gX4_kept_X4_requireHeap rfl rfl rfl (by decide +kernel) ⟨Nat.le_of_ble_eq_true rfl, Nat.le_of_ble_eq_true rfl⟩) hK hP hD hS hA (List.range' 0 45) sw_wTop_wTop_0 rfl 0 kX4 rfl rfl rfl rfl rfl hl.1 (Nat.le_of_ble_eq_true rfl) dX4_kept_2 ⟨Nat.zero_le _, Nat.zero_le _⟩ (fun H locs hP hD hS => ?_)
  refine lv_aload_n hx hb dX4_kept_5 rfl (lv_at hl 0 rfl) ?_
  refine lv_iload_n hx hb dX4_kept_6 rfl (lv_at hl 2 rfl) ?_
  refine kt_callv (w' := wTop tp ly lyg lyt LYG LYT tl tlg tlt TLG TLT ne neg net NEG NET su sug sut SUG SUT kp kr KH km sw tps rt pl P st my co C la lag lat LG LT po pog pot OG OT cJ cJJ cI cII mo eo dg to er n E DG tr T) (rest := []) (As := [.int (nI j)]) ⟨hx, hb, hml, hown, hts⟩ (c_X4_requireSpot l dC dI cI cII cJ cJJ tp ly lyg lyt LYG LYT tl tlg tlt TLG TLT ne neg net NEG NET su sug sut SUG SUT kp kr KH km sw tps rt pl P st my co C la lag lat LG LT po pog pot OG OT mo eo dg to er n E DG tr T j _ (hn) (hj)) (cwV 1 hts gX4_kept_X4_requireSpot rfl rfl rfl (by decide +kernel) ⟨Nat.le_of_ble_eq_true rfl, Nat.le_of_ble_eq_true rfl⟩) hK hP hD hS hA (List.range' 0 45) sw_wTop_wTop_0 rfl 0 kX4 rfl rfl rfl rfl rfl hl.1 (Nat.le_of_ble_eq_true rfl) dX4_kept_7 ⟨Nat.zero_le _, Nat.zero_le _⟩ (fun H locs hP hD hS => ?_)
  refine lv_aload_n hx hb dX4_kept_10 rfl (lv_at hl 0 rfl) ?_
  refine va_get (D := (dC, dI)) (ci := kX4) (v := .ref kp) (C := RX4) (T := TX4) (N := 11) hx hb hts hi_X4 hown hK hP 0 rfl rfl 7 (by decide) hf_50 (fun _ h9 => h9) rfl dX4_kept_11 ?_
  refine lv_iload_n hx hb dX4_kept_14 rfl (lv_at hl 1 rfl) ?_
  refine kt_aald hx hb hK hP 13 1 rfl rfl (by omega) (by decide) dX4_kept_15 ?_
  refine lv_iload_n hx hb dX4_kept_16 rfl (lv_at hl 2 rfl) ?_
  refine kt_iald hx hb hK hP (14 + i) 0 (row_wTop_kr (by omega)) rfl (by omega) (by decide) dX4_kept_17 ?_
  exact kt_iret (W' := wTop tp ly lyg lyt LYG LYT tl tlg tlt TLG TLT ne neg net NEG NET su sug sut SUG SUT kp kr KH km sw tps rt pl P st my co C la lag lat LG LT po pog pot OG OT cJ cJJ cI cII mo eo dg to er n E DG tr T) hx hb hr hS hP hK hD (rfl) hlocks dX4_kept_18

set_option maxHeartbeats 4000000 in
set_option maxRecDepth 100000 in
theorem c_X4_keep (l : Launch) (dC : Nat → ClassId) (dI : Nat → Nat → Nat) (cI cII cJ cJJ : ClassId) (tp : Nat) (ly : Nat) (lyg : Nat) (lyt : Nat) (LYG : Nat → Int32) (LYT : Nat → Int32) (tl : Nat) (tlg : Nat) (tlt : Nat) (TLG : Nat → Int32) (TLT : Nat → Int32) (ne : Nat) (neg : Nat) (net : Nat) (NEG : Nat → Int32) (NET : Nat → Int32) (su : Nat) (sug : Nat) (sut : Nat) (SUG : Nat → Int32) (SUT : Nat → Int32) (kp : Nat) (kr : Nat → Nat) (KH : Nat → Nat → Int32) (km : Nat) (sw : Int32) (tps : Int32) (rt : Nat) (pl : Nat) (P : Nat → Int32) (st : Int32) (my : Nat) (co : Nat) (C : Nat → Int32) (la : Nat) (lag : Nat) (lat : Nat) (LG : Nat → Int32) (LT : Nat → Int32) (po : Nat) (pog : Nat) (pot : Nat) (OG : Nat → Int32) (OT : Nat → Int32) (mo : Nat) (eo : Nat) (dg : Nat) (to : Nat) (er : Nat → Nat) (n : Nat) (E : Nat → Nat → Int32) (DG : Nat → Int32) (tr : Nat → Nat) (T : Nat → Nat → Int64) (sz : Nat) (hk3 : km < 4) : Met l yX4_keep wsX4_keep ({ frames := 1, cells := 0, slots := 0, locals := 18 }) (va_Pc [.ref tp] (PRE (dC, dI) (tyL cI cII cJ cJJ) (wTop tp ly lyg lyt LYG LYT tl tlg tlt TLG TLT ne neg net NEG NET su sug sut SUG SUT kp kr KH km sw tps rt pl P st my co C la lag lat LG LT po pog pot OG OT cJ cJJ cI cII mo eo dg to er n E DG tr T) sz)) (va_Qi (fun (r' : Int32) (_ : Unit) => r' = nI km) (fun _ tS => ATW (dC, dI) (tyL cI cII cJ cJJ) (va_A (wTop tp ly lyg lyt LYG LYT tl tlg tlt TLG TLT ne neg net NEG NET su sug sut SUG SUT kp kr KH km sw tps rt pl P st my co C la lag lat LG LT po pog pot OG OT cJ cJJ cI cII mo eo dg to er n E DG tr T) sz) (wTop tp ly lyg lyt LYG LYT tl tlg tlt TLG TLT ne neg net NEG NET su sug sut SUG SUT kp kr (updR KH km LYG) (km + 1) sw tps rt pl P st my co C la lag lat LG LT po pog pot OG OT cJ cJJ cI cII mo eo dg to er n E DG tr T) tS) (va_A (wTop tp ly lyg lyt LYG LYT tl tlg tlt TLG TLT ne neg net NEG NET su sug sut SUG SUT kp kr KH km sw tps rt pl P st my co C la lag lat LG LT po pog pot OG OT cJ cJJ cI cII mo eo dg to er n E DG tr T) sz)) 0 0 (va_A (wTop tp ly lyg lyt LYG LYT tl tlg tlt TLG TLT ne neg net NEG NET su sug sut SUG SUT kp kr KH km sw tps rt pl P st my co C la lag lat LG LT po pog pot OG OT cJ cJJ cI cII mo eo dg to er n E DG tr T) sz) := by
  refine Met.ofW (cc := cX4_keep) (maxL := 1) (ret := (some .int)) (by decide) rfl ?_
  intro p e s m args below meth c s₁ B hml hv
  obtain ⟨rfl, hsz, hP, hK, hD0⟩ := hv
  have hx := B.exec
  have hb := B.bytes
  have hr := B.returns
  have hlocks := B.notSynchronized
  have hts := atoms_spec (ws := wsX4_keep) B.pre
  have hown : s.vm.findClass RX4 = some m.cls := findClass_of_methodNamed B.named
  subst hsz
  have hD := hD0.self (sz := s.heap.size)
  generalize hAe : va_A (wTop tp ly lyg lyt LYG LYT tl tlg tlt TLG TLT ne neg net NEG NET su sug sut SUG SUT kp kr KH km sw tps rt pl P st my co C la lag lat LG LT po pog pot OG OT cJ cJJ cI cII mo eo dg to er n E DG tr T) s.heap.size = A at hD ⊢
  have hA : ∀ q : Nat, s.heap.size ≤ q → A q := fun q h => by rw [← hAe]; exact Or.inr h
  have hS : va_S A s.heap s.heap [] := va_S.rf
  have hl := lv_entry ([.ref tp]) (n := 1) (Nat.le_of_ble_eq_true rfl)
  rw [lg_entry_eq]
  generalize (lg_sl ([.ref tp]) ++ List.replicate (1 - (lg_sl ([.ref tp])).length) Slot.unset).toArray = ls at hl ⊢
  have hl : lv_has ls 1 [(0, .ref tp)] := hl
  have hi_X4 : ∀ w ∈ u_ws RX4 TX4 11, w ∈ wsX4_keep := by decide +kernel
  have hf_118 := hts (.fieldLink RX4 118 "Topplemoor" "keptMany" "I") (by decide +kernel)
  have hf_21 := hts (.fieldLink RX4 21 "Topplemoor" "lying" "LTopplemoor$Heap;") (by decide +kernel)
  have hi_X0 : ∀ w ∈ u_ws RX0 TX0 3, w ∈ wsX4_keep := by decide +kernel
  have hf_89 := hts (.fieldLink RX4 89 "Topplemoor$Heap" "grains" "[I") (by decide +kernel)
  have hf_50 := hts (.fieldLink RX4 50 "Topplemoor" "keptHeaps" "[[I") (by decide +kernel)
  have hm_l := hts (.methodLink RX4 123 arraycopyName) (by decide +kernel)
  have hm_n := hts (.native arraycopyName) (by decide +kernel)
  have hm_s := hts (.static arraycopyName) (by decide +kernel)
  have hm_i := hts (.initialized "java/lang/System") (by decide +kernel)
  refine lv_aload_n hx hb dX4_keep_0 rfl (lv_at hl 0 rfl) ?_
  refine va_get (D := (dC, dI)) (ci := kX4) (v := .int (nI km)) (C := RX4) (T := TX4) (N := 11) hx hb hts hi_X4 hown hK hP 0 rfl rfl 8 (by decide) hf_118 (fun _ h9 => h9) rfl dX4_keep_1 ?_
  refine lv_iconst (v := nI 4) hx hb dX4_keep_4 (by decide) ?_
  refine kt_ilt (i := km) (n := 4) (tgt := 18) hx hb (by omega) (by omega) dX4_keep_5 (by decide) (fun c5 => ?_) (fun c5 => ?_)
  · skip
    refine lv_aload_n hx hb dX4_keep_18 rfl (lv_at hl 0 rfl) ?_
    refine va_get (D := (dC, dI)) (ci := kX4) (v := .ref ly) (C := RX4) (T := TX4) (N := 11) hx hb hts hi_X4 hown hK hP 0 rfl rfl 1 (by decide) hf_21 (fun _ h9 => h9) rfl dX4_keep_19 ?_
    refine va_get (D := (dC, dI)) (ci := kX0) (v := .ref lyg) (C := RX0) (T := TX0) (N := 3) hx hb hts hi_X0 hown hK hP 1 rfl rfl 0 (by decide) hf_89 (fun _ h9 => h9) rfl dX4_keep_22 ?_
    refine lv_iconst (v := 0) hx hb dX4_keep_25 (by decide) ?_
    refine lv_aload_n hx hb dX4_keep_26 rfl (lv_at hl 0 rfl) ?_
    refine va_get (D := (dC, dI)) (ci := kX4) (v := .ref kp) (C := RX4) (T := TX4) (N := 11) hx hb hts hi_X4 hown hK hP 0 rfl rfl 7 (by decide) hf_50 (fun _ h9 => h9) rfl dX4_keep_27 ?_
    refine lv_aload_n hx hb dX4_keep_30 rfl (lv_at hl 0 rfl) ?_
    refine va_get (D := (dC, dI)) (ci := kX4) (v := .int (nI km)) (C := RX4) (T := TX4) (N := 11) hx hb hts hi_X4 hown hK hP 0 rfl rfl 8 (by decide) hf_118 (fun _ h9 => h9) rfl dX4_keep_31 ?_
    refine kt_aald hx hb hK hP 13 1 rfl rfl (by omega) (by decide) dX4_keep_34 ?_
    refine lv_iconst (v := 0) hx hb dX4_keep_35 (by decide) ?_
    refine lv_bipush (v := 6) hx hb dX4_keep_36 (by decide) ?_
    refine va_copyi hx hb (by rw [hml]; exact hl.1.symm) hown hm_l hm_n hm_s hm_i hK hP hD hS 2 (14 + km) 0 0 rfl (row_wTop_kr (by omega)) rfl rfl rfl (by decide) (by decide) (by decide) (by decide) (by decide) (fun _ _ => rfl) (by decide) (by decide) dX4_keep_38 (fun H locs hP hD hS => ?_)
    rw [set_wTop_kr (by omega)] at hP hD
    obtain ⟨hP, hD⟩ := kt_chg (LYG) hP hD (14 + km) ((row_wTop_kr (by omega))) (fun j hj => (congrFun (show (updR KH km _) km = _ from if_pos rfl) j).trans (kt_cpy hj))
    rw [set_wTop_kr (by omega), updR_updR] at hP hD
    have hP : va_P (dC, dI) vwCl (wTop tp ly lyg lyt LYG LYT tl tlg tlt TLG TLT ne neg net NEG NET su sug sut SUG SUT kp kr (updR KH km (LYG)) km sw tps rt pl P st my co C la lag lat LG LT po pog pot OG OT cJ cJJ cI cII mo eo dg to er n E DG tr T) H := hP
    have hD : va_D A (wTop tp ly lyg lyt LYG LYT tl tlg tlt TLG TLT ne neg net NEG NET su sug sut SUG SUT kp kr (updR KH km (LYG)) km sw tps rt pl P st my co C la lag lat LG LT po pog pot OG OT cJ cJJ cI cII mo eo dg to er n E DG tr T) := hD
    refine lv_aload_n hx hb dX4_keep_41 rfl (lv_at hl 0 rfl) ?_
    refine lv_dup hx hb dX4_keep_42 rfl ?_
    refine va_get (D := (dC, dI)) (ci := kX4) (v := .int (nI km)) (C := RX4) (T := TX4) (N := 11) hx hb hts hi_X4 hown hK hP 0 rfl rfl 8 (by decide) hf_118 (fun _ h9 => h9) rfl dX4_keep_43 ?_
    refine lv_iconst (v := nI 1) hx hb dX4_keep_46 (by decide) ?_
    refine kt_iadd hx hb dX4_keep_47 ?_
    refine va_put (D := (dC, dI)) (ci := kX4) (v := .int (nI (km + 1))) (ty := .int) (C := RX4) (T := TX4) (N := 11) hx hb hts hi_X4 tyX4 tyX4_ok nmX4 hown hK hP hD hS 0 rfl rfl 8 (by decide) hf_118 (fun _ h9 => h9) rfl (by decide +kernel) rfl rfl (Nat.le_of_ble_eq_true rfl) dX4_keep_48 (fun H locs hP hD hS => ?_)
    have hP : va_P (dC, dI) vwCl (wTop tp ly lyg lyt LYG LYT tl tlg tlt TLG TLT ne neg net NEG NET su sug sut SUG SUT kp kr (updR KH km (LYG)) (km + 1) sw tps rt pl P st my co C la lag lat LG LT po pog pot OG OT cJ cJJ cI cII mo eo dg to er n E DG tr T) H := hP
    have hD : va_D A (wTop tp ly lyg lyt LYG LYT tl tlg tlt TLG TLT ne neg net NEG NET su sug sut SUG SUT kp kr (updR KH km (LYG)) (km + 1) sw tps rt pl P st my co C la lag lat LG LT po pog pot OG OT cJ cJJ cI cII mo eo dg to er n E DG tr T) := hD
    refine lv_aload_n hx hb dX4_keep_51 rfl (lv_at hl 0 rfl) ?_
    refine va_get (D := (dC, dI)) (ci := kX4) (v := .int (nI (km + 1))) (C := RX4) (T := TX4) (N := 11) hx hb hts hi_X4 hown hK hP 0 rfl rfl 8 (by decide) hf_118 (fun _ h9 => h9) rfl dX4_keep_52 ?_
    refine lv_iconst (v := 1) hx hb dX4_keep_55 (by decide) ?_
    refine lv_isub hx hb dX4_keep_56 ?_
    exact kt_iret (W' := wTop tp ly lyg lyt LYG LYT tl tlg tlt TLG TLT ne neg net NEG NET su sug sut SUG SUT kp kr (updR KH km LYG) (km + 1) sw tps rt pl P st my co C la lag lat LG LT po pog pot OG OT cJ cJJ cI cII mo eo dg to er n E DG tr T) hx hb hr hS hP hK hD (nI_pred km) hlocks dX4_keep_57
  · omega
