set_option maxHeartbeats 4000000 in
set_option maxRecDepth 100000 in
theorem c_X4_requireWithin (l : Launch) (dC : Nat → ClassId) (dI : Nat → Nat → Nat) (cI cII cJ cJJ : ClassId) (v : Int32) (lo : Int32) (hi : Int32) (sz : Nat) (h1 : ¬ v < lo) (h2 : v ≤ hi) : Met l yX4_requireWithin wsX4_requireWithin ({ frames := 0, cells := 0, slots := 0, locals := 0 }) (va_Pc [.int v, .int lo, .int hi] (PRE (dC, dI) (tyL cI cII cJ cJJ) (wE ) sz)) (va_Qv (fun (_ : Unit) => True) (fun _ tS => ATW (dC, dI) (tyL cI cII cJ cJJ) (va_A (wE ) sz) (wE ) tS) (va_A (wE ) sz)) 0 0 (va_A (wE ) sz) := by
  refine Met.ofW (cc := cX4_requireWithin) (maxL := 3) (ret := none) (by decide) rfl ?_
  intro p e s m args below meth c s₁ B hml hv
  obtain ⟨rfl, hsz, hP, hK, hD0⟩ := hv
  have hx := B.exec
  have hb := B.bytes
  have hr := B.returns
  have hlocks := B.notSynchronized
  have hts := atoms_spec (ws := wsX4_requireWithin) B.pre
  have hown : s.vm.findClass RX4 = some m.cls := findClass_of_methodNamed B.named
  subst hsz
  have hD := hD0.self (sz := s.heap.size)
  generalize hAe : va_A (wE ) s.heap.size = A at hD ⊢
  have hA : ∀ q : Nat, s.heap.size ≤ q → A q := fun q h => by rw [← hAe]; exact Or.inr h
  have hS : va_S A s.heap s.heap [] := va_S.rf
  have hl := lv_entry ([.int v, .int lo, .int hi]) (n := 3) (Nat.le_of_ble_eq_true rfl)
  rw [lg_entry_eq]
  generalize (lg_sl ([.int v, .int lo, .int hi]) ++ List.replicate (3 - (lg_sl ([.int v, .int lo, .int hi])).length) Slot.unset).toArray = ls at hl ⊢
  have hl : lv_has ls 3 [(0, .int v), (1, .int lo), (2, .int hi)] := hl
  refine lv_iload_n hx hb dX4_requireWithin_0 rfl (lv_at hl 0 rfl) ?_
  refine lv_iload_n hx hb dX4_requireWithin_1 rfl (lv_at hl 1 rfl) ?_
  refine lv_icmp_lt (tgt := 10) hx hb dX4_requireWithin_2 (by decide) (fun c2 => ?_) (fun c2 => ?_)
  · exact absurd (c2) h1
  · skip
    refine lv_iload_n hx hb dX4_requireWithin_5 rfl (lv_at hl 0 rfl) ?_
    refine lv_iload_n hx hb dX4_requireWithin_6 rfl (lv_at hl 2 rfl) ?_
    refine lv_icmp_le (tgt := 20) hx hb dX4_requireWithin_7 (by decide) (fun c7 => ?_) (fun c7 => ?_)
    · skip
      exact kt_vret (W' := wE ) hx hb hr hS hP hK hD hlocks dX4_requireWithin_20
    · exact absurd h2 c7

theorem sw_wTop_wM_0 {tp : Nat} {ly : Nat} {lyg : Nat} {lyt : Nat} {LYG : Nat → Int32} {LYT : Nat → Int32} {tl : Nat} {tlg : Nat} {tlt : Nat} {TLG : Nat → Int32} {TLT : Nat → Int32} {ne : Nat} {neg : Nat} {net : Nat} {NEG : Nat → Int32} {NET : Nat → Int32} {su : Nat} {sug : Nat} {sut : Nat} {SUG : Nat → Int32} {SUT : Nat → Int32} {kp : Nat} {kr : Nat → Nat} {KH : Nat → Nat → Int32} {km : Nat} {sw : Int32} {tps : Int32} {rt : Nat} {pl : Nat} {P : Nat → Int32} {st : Int32} {my : Nat} {co : Nat} {C : Nat → Int32} {la : Nat} {lag : Nat} {lat : Nat} {LG : Nat → Int32} {LT : Nat → Int32} {po : Nat} {pog : Nat} {pot : Nat} {OG : Nat → Int32} {OT : Nat → Int32} {cJ : ClassId} {cJJ : ClassId} {cI : ClassId} {cII : ClassId} {mo : Nat} {eo : Nat} {dg : Nat} {to : Nat} {er : Nat → Nat} {n : Nat} {E : Nat → Nat → Int32} {DG : Nat → Int32} {tr : Nat → Nat} {T : Nat → Nat → Int64} {n' : Nat} {E' : Nat → Nat → Int32} {DG' : Nat → Int32} : kt_sw (wTop tp ly lyg lyt LYG LYT tl tlg tlt TLG TLT ne neg net NEG NET su sug sut SUG SUT kp kr KH km sw tps rt pl P st my co C la lag lat LG LT po pog pot OG OT cJ cJJ cI cII mo eo dg to er n E DG tr T) (wTop tp ly lyg lyt LYG LYT tl tlg tlt TLG TLT ne neg net NEG NET su sug sut SUG SUT kp kr KH km sw tps rt pl P st my co C la lag lat LG LT po pog pot OG OT cJ cJJ cI cII mo eo dg to er n' E' DG' tr T) [28, 29, 30, 31, 32, 33, 34, 35, 36, 37] (wM cI cII mo eo dg to er n E DG) (wM cI cII mo eo dg to er n' E' DG') := ⟨rfl, ⟨[none, none, none, none, none, none, none, none, none, none, none, none, none, none, none, none, none, none, none, none, none, none, none, none, none, none, none, none, some 0, some 1, some 2, some 3, some 4, some 5, some 6, some 7, some 8, some 9, none, none, none, none, none, none, none], rfl, by decide +kernel⟩, rfl⟩
set_option maxHeartbeats 4000000 in
set_option maxRecDepth 100000 in
theorem c_X4_requireSpot (l : Launch) (dC : Nat → ClassId) (dI : Nat → Nat → Nat) (cI cII cJ cJJ : ClassId) (tp : Nat) (ly : Nat) (lyg : Nat) (lyt : Nat) (LYG : Nat → Int32) (LYT : Nat → Int32) (tl : Nat) (tlg : Nat) (tlt : Nat) (TLG : Nat → Int32) (TLT : Nat → Int32) (ne : Nat) (neg : Nat) (net : Nat) (NEG : Nat → Int32) (NET : Nat → Int32) (su : Nat) (sug : Nat) (sut : Nat) (SUG : Nat → Int32) (SUT : Nat → Int32) (kp : Nat) (kr : Nat → Nat) (KH : Nat → Nat → Int32) (km : Nat) (sw : Int32) (tps : Int32) (rt : Nat) (pl : Nat) (P : Nat → Int32) (st : Int32) (my : Nat) (co : Nat) (C : Nat → Int32) (la : Nat) (lag : Nat) (lat : Nat) (LG : Nat → Int32) (LT : Nat → Int32) (po : Nat) (pog : Nat) (pot : Nat) (OG : Nat → Int32) (OT : Nat → Int32) (mo : Nat) (eo : Nat) (dg : Nat) (to : Nat) (er : Nat → Nat) (n : Nat) (E : Nat → Nat → Int32) (DG : Nat → Int32) (tr : Nat → Nat) (T : Nat → Nat → Int64) (j : Nat) (sz : Nat) (hn : n ≤ 6) (hj : j < n) : Met l yX4_requireSpot wsX4_requireSpot ({ frames := 1, cells := 0, slots := 0, locals := 21 }) (va_Pc [.ref tp, .int (nI j)] (PRE (dC, dI) (tyL cI cII cJ cJJ) (wTop tp ly lyg lyt LYG LYT tl tlg tlt TLG TLT ne neg net NEG NET su sug sut SUG SUT kp kr KH km sw tps rt pl P st my co C la lag lat LG LT po pog pot OG OT cJ cJJ cI cII mo eo dg to er n E DG tr T) sz)) (va_Qv (fun (_ : Unit) => True) (fun _ tS => ATW (dC, dI) (tyL cI cII cJ cJJ) (va_A (wTop tp ly lyg lyt LYG LYT tl tlg tlt TLG TLT ne neg net NEG NET su sug sut SUG SUT kp kr KH km sw tps rt pl P st my co C la lag lat LG LT po pog pot OG OT cJ cJJ cI cII mo eo dg to er n E DG tr T) sz) (wTop tp ly lyg lyt LYG LYT tl tlg tlt TLG TLT ne neg net NEG NET su sug sut SUG SUT kp kr KH km sw tps rt pl P st my co C la lag lat LG LT po pog pot OG OT cJ cJJ cI cII mo eo dg to er n E DG tr T) tS) (va_A (wTop tp ly lyg lyt LYG LYT tl tlg tlt TLG TLT ne neg net NEG NET su sug sut SUG SUT kp kr KH km sw tps rt pl P st my co C la lag lat LG LT po pog pot OG OT cJ cJJ cI cII mo eo dg to er n E DG tr T) sz)) 0 0 (va_A (wTop tp ly lyg lyt LYG LYT tl tlg tlt TLG TLT ne neg net NEG NET su sug sut SUG SUT kp kr KH km sw tps rt pl P st my co C la lag lat LG LT po pog pot OG OT cJ cJJ cI cII mo eo dg to er n E DG tr T) sz) := by
  refine Met.ofW (cc := cX4_requireSpot) (maxL := 2) (ret := none) (by decide) rfl ?_
  intro p e s m args below meth c s₁ B hml hv
  obtain ⟨rfl, hsz, hP, hK, hD0⟩ := hv
  have hx := B.exec
  have hb := B.bytes
  have hr := B.returns
  have hlocks := B.notSynchronized
  have hts := atoms_spec (ws := wsX4_requireSpot) B.pre
  have hown : s.vm.findClass RX4 = some m.cls := findClass_of_methodNamed B.named
  subst hsz
  have hD := hD0.self (sz := s.heap.size)
  generalize hAe : va_A (wTop tp ly lyg lyt LYG LYT tl tlg tlt TLG TLT ne neg net NEG NET su sug sut SUG SUT kp kr KH km sw tps rt pl P st my co C la lag lat LG LT po pog pot OG OT cJ cJJ cI cII mo eo dg to er n E DG tr T) s.heap.size = A at hD ⊢
  have hA : ∀ q : Nat, s.heap.size ≤ q → A q := fun q h => by rw [← hAe]; exact Or.inr h
  have hS : va_S A s.heap s.heap [] := va_S.rf
  have hl := lv_entry ([.ref tp, .int (nI j)]) (n := 2) (Nat.le_of_ble_eq_true rfl)
  rw [lg_entry_eq]
  generalize (lg_sl ([.ref tp, .int (nI j)]) ++ List.replicate (2 - (lg_sl ([.ref tp, .int (nI j)])).length) Slot.unset).toArray = ls at hl ⊢
  have hl : lv_has ls 2 [(0, .ref tp), (1, .int (nI j))] := hl
  have hi_X4 : ∀ w ∈ u_ws RX4 TX4 11, w ∈ wsX4_requireSpot := by decide +kernel
  have hf_10 := hts (.fieldLink RX4 10 "Topplemoor" "moor" "LTopplemoor$Moor;") (by decide +kernel)
  refine lv_aload_n hx hb dX4_requireSpot_0 rfl (lv_at hl 0 rfl) ?_
  refine va_get (D := (dC, dI)) (ci := kX4) (v := .ref mo) (C := RX4) (T := TX4) (N := 11) hx hb hts hi_X4 hown hK hP 0 rfl rfl 0 (by decide) hf_10 (fun _ h9 => h9) rfl dX4_requireSpot_1 ?_
  refine lv_iload_n hx hb dX4_requireSpot_4 rfl (lv_at hl 1 rfl) ?_
  refine kt_calli (w' := wTop tp ly lyg lyt LYG LYT tl tlg tlt TLG TLT ne neg net NEG NET su sug sut SUG SUT kp kr KH km sw tps rt pl P st my co C la lag lat LG LT po pog pot OG OT cJ cJJ cI cII mo eo dg to er n E DG tr T) (rest := []) (As := [.int (nI j)]) ⟨hx, hb, hml, hown, hts⟩ (c_X2_isSpot l dC dI cI cII cJ cJJ mo eo dg to er n E DG (nI j) _ (hn)) (cwV 1 hts gX4_requireSpot_X2_isSpot rfl rfl rfl (by decide +kernel) ⟨Nat.le_of_ble_eq_true rfl, Nat.le_of_ble_eq_true rfl⟩) hK hP hD hS hA [28, 29, 30, 31, 32, 33, 34, 35, 36, 37] sw_wTop_wM_0 rfl 28 kX2 rfl rfl rfl rfl rfl hl.1 (Nat.le_of_ble_eq_true rfl) dX4_requireSpot_5 ⟨Nat.zero_le _, Nat.zero_le _⟩ (fun H locs hP hD hS => ?_)
  refine lv_if_ne (tgt := 21) hx hb dX4_requireSpot_8 (by decide) (fun c8 => ?_) (fun c8 => ?_)
  · skip
    exact kt_vret (W' := wTop tp ly lyg lyt LYG LYT tl tlg tlt TLG TLT ne neg net NEG NET su sug sut SUG SUT kp kr KH km sw tps rt pl P st my co C la lag lat LG LT po pog pot OG OT cJ cJJ cI cII mo eo dg to er n E DG tr T) hx hb hr hS hP hK hD hlocks dX4_requireSpot_21
  · exact absurd (show False by rw [isSpotB_nI (by omega) (by omega), decide_eq_true hj] at c8; exact absurd c8 (by decide)) id

set_option maxHeartbeats 4000000 in
set_option maxRecDepth 100000 in
theorem c_X4_requireNode (l : Launch) (dC : Nat → ClassId) (dI : Nat → Nat → Nat) (cI cII cJ cJJ : ClassId) (tp : Nat) (ly : Nat) (lyg : Nat) (lyt : Nat) (LYG : Nat → Int32) (LYT : Nat → Int32) (tl : Nat) (tlg : Nat) (tlt : Nat) (TLG : Nat → Int32) (TLT : Nat → Int32) (ne : Nat) (neg : Nat) (net : Nat) (NEG : Nat → Int32) (NET : Nat → Int32) (su : Nat) (sug : Nat) (sut : Nat) (SUG : Nat → Int32) (SUT : Nat → Int32) (kp : Nat) (kr : Nat → Nat) (KH : Nat → Nat → Int32) (km : Nat) (sw : Int32) (tps : Int32) (rt : Nat) (pl : Nat) (P : Nat → Int32) (st : Int32) (my : Nat) (co : Nat) (C : Nat → Int32) (la : Nat) (lag : Nat) (lat : Nat) (LG : Nat → Int32) (LT : Nat → Int32) (po : Nat) (pog : Nat) (pot : Nat) (OG : Nat → Int32) (OT : Nat → Int32) (mo : Nat) (eo : Nat) (dg : Nat) (to : Nat) (er : Nat → Nat) (n : Nat) (E : Nat → Nat → Int32) (DG : Nat → Int32) (tr : Nat → Nat) (T : Nat → Nat → Int64) (a : Nat) (sz : Nat) (hn : n ≤ 6) (ha : a < n ∨ a = 6) : Met l yX4_requireNode wsX4_requireNode ({ frames := 2, cells := 0, slots := 0, locals := 42 }) (va_Pc [.ref tp, .int (nI a)] (PRE (dC, dI) (tyL cI cII cJ cJJ) (wTop tp ly lyg lyt LYG LYT tl tlg tlt TLG TLT ne neg net NEG NET su sug sut SUG SUT kp kr KH km sw tps rt pl P st my co C la lag lat LG LT po pog pot OG OT cJ cJJ cI cII mo eo dg to er n E DG tr T) sz)) (va_Qv (fun (_ : Unit) => True) (fun _ tS => ATW (dC, dI) (tyL cI cII cJ cJJ) (va_A (wTop tp ly lyg lyt LYG LYT tl tlg tlt TLG TLT ne neg net NEG NET su sug sut SUG SUT kp kr KH km sw tps rt pl P st my co C la lag lat LG LT po pog pot OG OT cJ cJJ cI cII mo eo dg to er n E DG tr T) sz) (wTop tp ly lyg lyt LYG LYT tl tlg tlt TLG TLT ne neg net NEG NET su sug sut SUG SUT kp kr KH km sw tps rt pl P st my co C la lag lat LG LT po pog pot OG OT cJ cJJ cI cII mo eo dg to er n E DG tr T) tS) (va_A (wTop tp ly lyg lyt LYG LYT tl tlg tlt TLG TLT ne neg net NEG NET su sug sut SUG SUT kp kr KH km sw tps rt pl P st my co C la lag lat LG LT po pog pot OG OT cJ cJJ cI cII mo eo dg to er n E DG tr T) sz)) 0 0 (va_A (wTop tp ly lyg lyt LYG LYT tl tlg tlt TLG TLT ne neg net NEG NET su sug sut SUG SUT kp kr KH km sw tps rt pl P st my co C la lag lat LG LT po pog pot OG OT cJ cJJ cI cII mo eo dg to er n E DG tr T) sz) := by
  refine Met.ofW (cc := cX4_requireNode) (maxL := 2) (ret := none) (by decide) rfl ?_
  intro p e s m args below meth c s₁ B hml hv
  obtain ⟨rfl, hsz, hP, hK, hD0⟩ := hv
  have hx := B.exec
  have hb := B.bytes
  have hr := B.returns
  have hlocks := B.notSynchronized
  have hts := atoms_spec (ws := wsX4_requireNode) B.pre
  have hown : s.vm.findClass RX4 = some m.cls := findClass_of_methodNamed B.named
  subst hsz
  have hD := hD0.self (sz := s.heap.size)
  generalize hAe : va_A (wTop tp ly lyg lyt LYG LYT tl tlg tlt TLG TLT ne neg net NEG NET su sug sut SUG SUT kp kr KH km sw tps rt pl P st my co C la lag lat LG LT po pog pot OG OT cJ cJJ cI cII mo eo dg to er n E DG tr T) s.heap.size = A at hD ⊢
  have hA : ∀ q : Nat, s.heap.size ≤ q → A q := fun q h => by rw [← hAe]; exact Or.inr h
  have hS : va_S A s.heap s.heap [] := va_S.rf
  have hl := lv_entry ([.ref tp, .int (nI a)]) (n := 2) (Nat.le_of_ble_eq_true rfl)
  rw [lg_entry_eq]
  generalize (lg_sl ([.ref tp, .int (nI a)]) ++ List.replicate (2 - (lg_sl ([.ref tp, .int (nI a)])).length) Slot.unset).toArray = ls at hl ⊢
  have hl : lv_has ls 2 [(0, .ref tp), (1, .int (nI a))] := hl
  have hi_X4 : ∀ w ∈ u_ws RX4 TX4 11, w ∈ wsX4_requireNode := by decide +kernel
  have hf_10 := hts (.fieldLink RX4 10 "Topplemoor" "moor" "LTopplemoor$Moor;") (by decide +kernel)
  refine lv_aload_n hx hb dX4_requireNode_0 rfl (lv_at hl 0 rfl) ?_
  refine va_get (D := (dC, dI)) (ci := kX4) (v := .ref mo) (C := RX4) (T := TX4) (N := 11) hx hb hts hi_X4 hown hK hP 0 rfl rfl 0 (by decide) hf_10 (fun _ h9 => h9) rfl dX4_requireNode_1 ?_
  refine lv_iload_n hx hb dX4_requireNode_4 rfl (lv_at hl 1 rfl) ?_
  refine kt_calli (w' := wTop tp ly lyg lyt LYG LYT tl tlg tlt TLG TLT ne neg net NEG NET su sug sut SUG SUT kp kr KH km sw tps rt pl P st my co C la lag lat LG LT po pog pot OG OT cJ cJJ cI cII mo eo dg to er n E DG tr T) (rest := []) (As := [.int (nI a)]) ⟨hx, hb, hml, hown, hts⟩ (c_X2_isNode l dC dI cI cII cJ cJJ mo eo dg to er n E DG (nI a) _ (hn)) (cwV 1 hts gX4_requireNode_X2_isNode rfl rfl rfl (by decide +kernel) ⟨Nat.le_of_ble_eq_true rfl, Nat.le_of_ble_eq_true rfl⟩) hK hP hD hS hA [28, 29, 30, 31, 32, 33, 34, 35, 36, 37] sw_wTop_wM_0 rfl 28 kX2 rfl rfl rfl rfl rfl hl.1 (Nat.le_of_ble_eq_true rfl) dX4_requireNode_5 ⟨Nat.zero_le _, Nat.zero_le _⟩ (fun H locs hP hD hS => ?_)
  refine lv_if_ne (tgt := 21) hx hb dX4_requireNode_8 (by decide) (fun c8 => ?_) (fun c8 => ?_)
  · skip
    exact kt_vret (W' := wTop tp ly lyg lyt LYG LYT tl tlg tlt TLG TLT ne neg net NEG NET su sug sut SUG SUT kp kr KH km sw tps rt pl P st my co C la lag lat LG LT po pog pot OG OT cJ cJJ cI cII mo eo dg to er n E DG tr T) hx hb hr hS hP hK hD hlocks dX4_requireNode_21
  · exact absurd (show False by rw [isNodeB_nI hn ha] at c8; exact absurd c8 (by decide)) id

set_option maxHeartbeats 4000000 in
set_option maxRecDepth 100000 in
theorem c_X4_requireFast (l : Launch) (dC : Nat → ClassId) (dI : Nat → Nat → Nat) (cI cII cJ cJJ : ClassId) (tp : Nat) (ly : Nat) (lyg : Nat) (lyt : Nat) (LYG : Nat → Int32) (LYT : Nat → Int32) (tl : Nat) (tlg : Nat) (tlt : Nat) (TLG : Nat → Int32) (TLT : Nat → Int32) (ne : Nat) (neg : Nat) (net : Nat) (NEG : Nat → Int32) (NET : Nat → Int32) (su : Nat) (sug : Nat) (sut : Nat) (SUG : Nat → Int32) (SUT : Nat → Int32) (kp : Nat) (kr : Nat → Nat) (KH : Nat → Nat → Int32) (km : Nat) (sw : Int32) (tps : Int32) (rt : Nat) (pl : Nat) (P : Nat → Int32) (st : Int32) (my : Nat) (co : Nat) (C : Nat → Int32) (la : Nat) (lag : Nat) (lat : Nat) (LG : Nat → Int32) (LT : Nat → Int32) (po : Nat) (pog : Nat) (pot : Nat) (OG : Nat → Int32) (OT : Nat → Int32) (mo : Nat) (eo : Nat) (dg : Nat) (to : Nat) (er : Nat → Nat) (n : Nat) (E : Nat → Nat → Int32) (DG : Nat → Int32) (tr : Nat → Nat) (T : Nat → Nat → Int64) (sz : Nat) (hn : n ≤ 6) (hfast : fastB n E = true) : Met l yX4_requireFast wsX4_requireFast ({ frames := 2, cells := 0, slots := 0, locals := 47 }) (va_Pc [.ref tp] (PRE (dC, dI) (tyL cI cII cJ cJJ) (wTop tp ly lyg lyt LYG LYT tl tlg tlt TLG TLT ne neg net NEG NET su sug sut SUG SUT kp kr KH km sw tps rt pl P st my co C la lag lat LG LT po pog pot OG OT cJ cJJ cI cII mo eo dg to er n E DG tr T) sz)) (va_Qv (fun (_ : Unit) => True) (fun _ tS => ATW (dC, dI) (tyL cI cII cJ cJJ) (va_A (wTop tp ly lyg lyt LYG LYT tl tlg tlt TLG TLT ne neg net NEG NET su sug sut SUG SUT kp kr KH km sw tps rt pl P st my co C la lag lat LG LT po pog pot OG OT cJ cJJ cI cII mo eo dg to er n E DG tr T) sz) (wTop tp ly lyg lyt LYG LYT tl tlg tlt TLG TLT ne neg net NEG NET su sug sut SUG SUT kp kr KH km sw tps rt pl P st my co C la lag lat LG LT po pog pot OG OT cJ cJJ cI cII mo eo dg to er n E DG tr T) tS) (va_A (wTop tp ly lyg lyt LYG LYT tl tlg tlt TLG TLT ne neg net NEG NET su sug sut SUG SUT kp kr KH km sw tps rt pl P st my co C la lag lat LG LT po pog pot OG OT cJ cJJ cI cII mo eo dg to er n E DG tr T) sz)) 0 0 (va_A (wTop tp ly lyg lyt LYG LYT tl tlg tlt TLG TLT ne neg net NEG NET su sug sut SUG SUT kp kr KH km sw tps rt pl P st my co C la lag lat LG LT po pog pot OG OT cJ cJJ cI cII mo eo dg to er n E DG tr T) sz) := by
  refine Met.ofW (cc := cX4_requireFast) (maxL := 1) (ret := none) (by decide) rfl ?_
  intro p e s m args below meth c s₁ B hml hv
  obtain ⟨rfl, hsz, hP, hK, hD0⟩ := hv
  have hx := B.exec
  have hb := B.bytes
  have hr := B.returns
  have hlocks := B.notSynchronized
  have hts := atoms_spec (ws := wsX4_requireFast) B.pre
  have hown : s.vm.findClass RX4 = some m.cls := findClass_of_methodNamed B.named
  subst hsz
  have hD := hD0.self (sz := s.heap.size)
  generalize hAe : va_A (wTop tp ly lyg lyt LYG LYT tl tlg tlt TLG TLT ne neg net NEG NET su sug sut SUG SUT kp kr KH km sw tps rt pl P st my co C la lag lat LG LT po pog pot OG OT cJ cJJ cI cII mo eo dg to er n E DG tr T) s.heap.size = A at hD ⊢
  have hA : ∀ q : Nat, s.heap.size ≤ q → A q := fun q h => by rw [← hAe]; exact Or.inr h
  have hS : va_S A s.heap s.heap [] := va_S.rf
  have hl := lv_entry ([.ref tp]) (n := 1) (Nat.le_of_ble_eq_true rfl)
  rw [lg_entry_eq]
  generalize (lg_sl ([.ref tp]) ++ List.replicate (1 - (lg_sl ([.ref tp])).length) Slot.unset).toArray = ls at hl ⊢
  have hl : lv_has ls 1 [(0, .ref tp)] := hl
  have hi_X4 : ∀ w ∈ u_ws RX4 TX4 11, w ∈ wsX4_requireFast := by decide +kernel
  have hf_10 := hts (.fieldLink RX4 10 "Topplemoor" "moor" "LTopplemoor$Moor;") (by decide +kernel)
  refine lv_aload_n hx hb dX4_requireFast_0 rfl (lv_at hl 0 rfl) ?_
  refine va_get (D := (dC, dI)) (ci := kX4) (v := .ref mo) (C := RX4) (T := TX4) (N := 11) hx hb hts hi_X4 hown hK hP 0 rfl rfl 0 (by decide) hf_10 (fun _ h9 => h9) rfl dX4_requireFast_1 ?_
  refine kt_calli (w' := wTop tp ly lyg lyt LYG LYT tl tlg tlt TLG TLT ne neg net NEG NET su sug sut SUG SUT kp kr KH km sw tps rt pl P st my co C la lag lat LG LT po pog pot OG OT cJ cJJ cI cII mo eo dg to er n E DG tr T) (rest := []) (As := []) ⟨hx, hb, hml, hown, hts⟩ (c_X2_isFast l dC dI cI cII cJ cJJ mo eo dg to er n E DG _ (hn)) (cwV 0 hts gX4_requireFast_X2_isFast rfl rfl rfl (by decide +kernel) ⟨Nat.le_of_ble_eq_true rfl, Nat.le_of_ble_eq_true rfl⟩) hK hP hD hS hA [28, 29, 30, 31, 32, 33, 34, 35, 36, 37] sw_wTop_wM_0 rfl 28 kX2 rfl rfl rfl rfl rfl hl.1 (Nat.le_of_ble_eq_true rfl) dX4_requireFast_4 ⟨Nat.zero_le _, Nat.zero_le _⟩ (fun H locs hP hD hS => ?_)
  refine lv_if_ne (tgt := 20) hx hb dX4_requireFast_7 (by decide) (fun c7 => ?_) (fun c7 => ?_)
  · skip
    exact kt_vret (W' := wTop tp ly lyg lyt LYG LYT tl tlg tlt TLG TLT ne neg net NEG NET su sug sut SUG SUT kp kr KH km sw tps rt pl P st my co C la lag lat LG LT po pog pot OG OT cJ cJJ cI cII mo eo dg to er n E DG tr T) hx hb hr hS hP hK hD hlocks dX4_requireFast_20
  · exact absurd (show False by rw [hfast] at c7; exact absurd c7 (by decide)) id

set_option maxHeartbeats 4000000 in
set_option maxRecDepth 100000 in
theorem c_X4_spot (l : Launch) (dC : Nat → ClassId) (dI : Nat → Nat → Nat) (cI cII cJ cJJ : ClassId) (tp : Nat) (ly : Nat) (lyg : Nat) (lyt : Nat) (LYG : Nat → Int32) (LYT : Nat → Int32) (tl : Nat) (tlg : Nat) (tlt : Nat) (TLG : Nat → Int32) (TLT : Nat → Int32) (ne : Nat) (neg : Nat) (net : Nat) (NEG : Nat → Int32) (NET : Nat → Int32) (su : Nat) (sug : Nat) (sut : Nat) (SUG : Nat → Int32) (SUT : Nat → Int32) (kp : Nat) (kr : Nat → Nat) (KH : Nat → Nat → Int32) (km : Nat) (sw : Int32) (tps : Int32) (rt : Nat) (pl : Nat) (P : Nat → Int32) (st : Int32) (my : Nat) (co : Nat) (C : Nat → Int32) (la : Nat) (lag : Nat) (lat : Nat) (LG : Nat → Int32) (LT : Nat → Int32) (po : Nat) (pog : Nat) (pot : Nat) (OG : Nat → Int32) (OT : Nat → Int32) (mo : Nat) (eo : Nat) (dg : Nat) (to : Nat) (er : Nat → Nat) (n : Nat) (E : Nat → Nat → Int32) (DG : Nat → Int32) (tr : Nat → Nat) (T : Nat → Nat → Int64) (sz : Nat) (hn5 : n < 6) : Met l yX4_spot wsX4_spot ({ frames := 0, cells := 0, slots := 0, locals := 0 }) (va_Pc [.ref tp] (PRE (dC, dI) (tyL cI cII cJ cJJ) (wTop tp ly lyg lyt LYG LYT tl tlg tlt TLG TLT ne neg net NEG NET su sug sut SUG SUT kp kr KH km sw tps rt pl P st my co C la lag lat LG LT po pog pot OG OT cJ cJJ cI cII mo eo dg to er n E DG tr T) sz)) (va_Qi (fun (r' : Int32) (_ : Unit) => r' = nI n) (fun _ tS => ATW (dC, dI) (tyL cI cII cJ cJJ) (va_A (wTop tp ly lyg lyt LYG LYT tl tlg tlt TLG TLT ne neg net NEG NET su sug sut SUG SUT kp kr KH km sw tps rt pl P st my co C la lag lat LG LT po pog pot OG OT cJ cJJ cI cII mo eo dg to er n E DG tr T) sz) (wTop tp ly lyg lyt LYG LYT tl tlg tlt TLG TLT ne neg net NEG NET su sug sut SUG SUT kp kr KH km sw tps rt pl P st my co C la lag lat LG LT po pog pot OG OT cJ cJJ cI cII mo eo dg to er (n + 1) E DG tr T) tS) (va_A (wTop tp ly lyg lyt LYG LYT tl tlg tlt TLG TLT ne neg net NEG NET su sug sut SUG SUT kp kr KH km sw tps rt pl P st my co C la lag lat LG LT po pog pot OG OT cJ cJJ cI cII mo eo dg to er n E DG tr T) sz)) 0 0 (va_A (wTop tp ly lyg lyt LYG LYT tl tlg tlt TLG TLT ne neg net NEG NET su sug sut SUG SUT kp kr KH km sw tps rt pl P st my co C la lag lat LG LT po pog pot OG OT cJ cJJ cI cII mo eo dg to er n E DG tr T) sz) := by
  refine Met.ofW (cc := cX4_spot) (maxL := 1) (ret := (some .int)) (by decide) rfl ?_
  intro p e s m args below meth c s₁ B hml hv
  obtain ⟨rfl, hsz, hP, hK, hD0⟩ := hv
  have hx := B.exec
  have hb := B.bytes
  have hr := B.returns
  have hlocks := B.notSynchronized
  have hts := atoms_spec (ws := wsX4_spot) B.pre
  have hown : s.vm.findClass RX4 = some m.cls := findClass_of_methodNamed B.named
  subst hsz
  have hD := hD0.self (sz := s.heap.size)
  generalize hAe : va_A (wTop tp ly lyg lyt LYG LYT tl tlg tlt TLG TLT ne neg net NEG NET su sug sut SUG SUT kp kr KH km sw tps rt pl P st my co C la lag lat LG LT po pog pot OG OT cJ cJJ cI cII mo eo dg to er n E DG tr T) s.heap.size = A at hD ⊢
  have hA : ∀ q : Nat, s.heap.size ≤ q → A q := fun q h => by rw [← hAe]; exact Or.inr h
  have hS : va_S A s.heap s.heap [] := va_S.rf
  have hl := lv_entry ([.ref tp]) (n := 1) (Nat.le_of_ble_eq_true rfl)
  rw [lg_entry_eq]
  generalize (lg_sl ([.ref tp]) ++ List.replicate (1 - (lg_sl ([.ref tp])).length) Slot.unset).toArray = ls at hl ⊢
  have hl : lv_has ls 1 [(0, .ref tp)] := hl
  have hi_X4 : ∀ w ∈ u_ws RX4 TX4 11, w ∈ wsX4_spot := by decide +kernel
  have hf_10 := hts (.fieldLink RX4 10 "Topplemoor" "moor" "LTopplemoor$Moor;") (by decide +kernel)
  have hi_X2 : ∀ w ∈ u_ws RX2 TX2 4, w ∈ wsX4_spot := by decide +kernel
  have hf_53 := hts (.fieldLink RX4 53 "Topplemoor$Moor" "spots" "I") (by decide +kernel)
  refine lv_aload_n hx hb dX4_spot_0 rfl (lv_at hl 0 rfl) ?_
  refine va_get (D := (dC, dI)) (ci := kX4) (v := .ref mo) (C := RX4) (T := TX4) (N := 11) hx hb hts hi_X4 hown hK hP 0 rfl rfl 0 (by decide) hf_10 (fun _ h9 => h9) rfl dX4_spot_1 ?_
  refine va_get (D := (dC, dI)) (ci := kX2) (v := .int (nI n)) (C := RX2) (T := TX2) (N := 4) hx hb hts hi_X2 hown hK hP 28 rfl rfl 0 (by decide) hf_53 (fun _ h9 => h9) rfl dX4_spot_4 ?_
  refine lv_bipush (v := nI 6) hx hb dX4_spot_7 (by decide) ?_
  refine kt_ilt (i := n) (n := 6) (tgt := 22) hx hb (by omega) (by omega) dX4_spot_9 (by decide) (fun c9 => ?_) (fun c9 => ?_)
  · skip
    refine lv_aload_n hx hb dX4_spot_22 rfl (lv_at hl 0 rfl) ?_
    refine va_get (D := (dC, dI)) (ci := kX4) (v := .ref mo) (C := RX4) (T := TX4) (N := 11) hx hb hts hi_X4 hown hK hP 0 rfl rfl 0 (by decide) hf_10 (fun _ h9 => h9) rfl dX4_spot_23 ?_
    refine lv_dup hx hb dX4_spot_26 rfl ?_
    refine va_get (D := (dC, dI)) (ci := kX2) (v := .int (nI n)) (C := RX2) (T := TX2) (N := 4) hx hb hts hi_X2 hown hK hP 28 rfl rfl 0 (by decide) hf_53 (fun _ h9 => h9) rfl dX4_spot_27 ?_
    refine lv_iconst (v := nI 1) hx hb dX4_spot_30 (by decide) ?_
    refine kt_iadd hx hb dX4_spot_31 ?_
    refine va_put (D := (dC, dI)) (ci := kX2) (v := .int (nI (n + 1))) (ty := .int) (C := RX2) (T := TX2) (N := 4) hx hb hts hi_X2 tyX2 tyX2_ok nmX2 hown hK hP hD hS 28 rfl rfl 0 (by decide) hf_53 (fun _ h9 => h9) rfl (by decide +kernel) rfl rfl (Nat.le_of_ble_eq_true rfl) dX4_spot_32 (fun H locs hP hD hS => ?_)
    have hP : va_P (dC, dI) vwCl (wTop tp ly lyg lyt LYG LYT tl tlg tlt TLG TLT ne neg net NEG NET su sug sut SUG SUT kp kr KH km sw tps rt pl P st my co C la lag lat LG LT po pog pot OG OT cJ cJJ cI cII mo eo dg to er (n + 1) E DG tr T) H := hP
    have hD : va_D A (wTop tp ly lyg lyt LYG LYT tl tlg tlt TLG TLT ne neg net NEG NET su sug sut SUG SUT kp kr KH km sw tps rt pl P st my co C la lag lat LG LT po pog pot OG OT cJ cJJ cI cII mo eo dg to er (n + 1) E DG tr T) := hD
    refine lv_aload_n hx hb dX4_spot_35 rfl (lv_at hl 0 rfl) ?_
    refine va_get (D := (dC, dI)) (ci := kX4) (v := .ref mo) (C := RX4) (T := TX4) (N := 11) hx hb hts hi_X4 hown hK hP 0 rfl rfl 0 (by decide) hf_10 (fun _ h9 => h9) rfl dX4_spot_36 ?_
    refine va_get (D := (dC, dI)) (ci := kX2) (v := .int (nI (n + 1))) (C := RX2) (T := TX2) (N := 4) hx hb hts hi_X2 hown hK hP 28 rfl rfl 0 (by decide) hf_53 (fun _ h9 => h9) rfl dX4_spot_39 ?_
    refine lv_iconst (v := 1) hx hb dX4_spot_42 (by decide) ?_
    refine lv_isub hx hb dX4_spot_43 ?_
    exact kt_iret (W' := wTop tp ly lyg lyt LYG LYT tl tlg tlt TLG TLT ne neg net NEG NET su sug sut SUG SUT kp kr KH km sw tps rt pl P st my co C la lag lat LG LT po pog pot OG OT cJ cJJ cI cII mo eo dg to er (n + 1) E DG tr T) hx hb hr hS hP hK hD (nI_pred n) hlocks dX4_spot_44
  · omega

theorem sw_wTop_wTop_0 {tp : Nat} {ly : Nat} {lyg : Nat} {lyt : Nat} {LYG : Nat → Int32} {LYT : Nat → Int32} {tl : Nat} {tlg : Nat} {tlt : Nat} {TLG : Nat → Int32} {TLT : Nat → Int32} {ne : Nat} {neg : Nat} {net : Nat} {NEG : Nat → Int32} {NET : Nat → Int32} {su : Nat} {sug : Nat} {sut : Nat} {SUG : Nat → Int32} {SUT : Nat → Int32} {kp : Nat} {kr : Nat → Nat} {KH : Nat → Nat → Int32} {km : Nat} {sw : Int32} {tps : Int32} {rt : Nat} {pl : Nat} {P : Nat → Int32} {st : Int32} {my : Nat} {co : Nat} {C : Nat → Int32} {la : Nat} {lag : Nat} {lat : Nat} {LG : Nat → Int32} {LT : Nat → Int32} {po : Nat} {pog : Nat} {pot : Nat} {OG : Nat → Int32} {OT : Nat → Int32} {cJ : ClassId} {cJJ : ClassId} {cI : ClassId} {cII : ClassId} {mo : Nat} {eo : Nat} {dg : Nat} {to : Nat} {er : Nat → Nat} {n : Nat} {E : Nat → Nat → Int32} {DG : Nat → Int32} {tr : Nat → Nat} {T : Nat → Nat → Int64} {km' : Nat} {sw' : Int32} {tps' : Int32} {LYG' : Nat → Int32} {LYT' : Nat → Int32} {TLG' : Nat → Int32} {TLT' : Nat → Int32} {NEG' : Nat → Int32} {NET' : Nat → Int32} {SUG' : Nat → Int32} {SUT' : Nat → Int32} {KH' : Nat → Nat → Int32} {st' : Int32} {P' : Nat → Int32} {C' : Nat → Int32} {LG' : Nat → Int32} {LT' : Nat → Int32} {OG' : Nat → Int32} {OT' : Nat → Int32} {n' : Nat} {E' : Nat → Nat → Int32} {DG' : Nat → Int32} {T' : Nat → Nat → Int64} : kt_sw (wTop tp ly lyg lyt LYG LYT tl tlg tlt TLG TLT ne neg net NEG NET su sug sut SUG SUT kp kr KH km sw tps rt pl P st my co C la lag lat LG LT po pog pot OG OT cJ cJJ cI cII mo eo dg to er n E DG tr T) (wTop tp ly lyg lyt LYG' LYT' tl tlg tlt TLG' TLT' ne neg net NEG' NET' su sug sut SUG' SUT' kp kr KH' km' sw' tps' rt pl P' st' my co C' la lag lat LG' LT' po pog pot OG' OT' cJ cJJ cI cII mo eo dg to er n' E' DG' tr T') (List.range' 0 45) (wTop tp ly lyg lyt LYG LYT tl tlg tlt TLG TLT ne neg net NEG NET su sug sut SUG SUT kp kr KH km sw tps rt pl P st my co C la lag lat LG LT po pog pot OG OT cJ cJJ cI cII mo eo dg to er n E DG tr T) (wTop tp ly lyg lyt LYG' LYT' tl tlg tlt TLG' TLT' ne neg net NEG' NET' su sug sut SUG' SUT' kp kr KH' km' sw' tps' rt pl P' st' my co C' la lag lat LG' LT' po pog pot OG' OT' cJ cJJ cI cII mo eo dg to er n' E' DG' tr T') := kt_sw_all rfl (by decide +kernel) rfl
theorem sw_wTop_wE_0 {tp : Nat} {ly : Nat} {lyg : Nat} {lyt : Nat} {LYG : Nat → Int32} {LYT : Nat → Int32} {tl : Nat} {tlg : Nat} {tlt : Nat} {TLG : Nat → Int32} {TLT : Nat → Int32} {ne : Nat} {neg : Nat} {net : Nat} {NEG : Nat → Int32} {NET : Nat → Int32} {su : Nat} {sug : Nat} {sut : Nat} {SUG : Nat → Int32} {SUT : Nat → Int32} {kp : Nat} {kr : Nat → Nat} {KH : Nat → Nat → Int32} {km : Nat} {sw : Int32} {tps : Int32} {rt : Nat} {pl : Nat} {P : Nat → Int32} {st : Int32} {my : Nat} {co : Nat} {C : Nat → Int32} {la : Nat} {lag : Nat} {lat : Nat} {LG : Nat → Int32} {LT : Nat → Int32} {po : Nat} {pog : Nat} {pot : Nat} {OG : Nat → Int32} {OT : Nat → Int32} {cJ : ClassId} {cJJ : ClassId} {cI : ClassId} {cII : ClassId} {mo : Nat} {eo : Nat} {dg : Nat} {to : Nat} {er : Nat → Nat} {n : Nat} {E : Nat → Nat → Int32} {DG : Nat → Int32} {tr : Nat → Nat} {T : Nat → Nat → Int64} : kt_sw (wTop tp ly lyg lyt LYG LYT tl tlg tlt TLG TLT ne neg net NEG NET su sug sut SUG SUT kp kr KH km sw tps rt pl P st my co C la lag lat LG LT po pog pot OG OT cJ cJJ cI cII mo eo dg to er n E DG tr T) (wTop tp ly lyg lyt LYG LYT tl tlg tlt TLG TLT ne neg net NEG NET su sug sut SUG SUT kp kr KH km sw tps rt pl P st my co C la lag lat LG LT po pog pot OG OT cJ cJJ cI cII mo eo dg to er n E DG tr T) [] (wE ) (wE ) := ⟨rfl, ⟨[none, none, none, none, none, none, none, none, none, none, none, none, none, none, none, none, none, none, none, none, none, none, none, none, none, none, none, none, none, none, none, none, none, none, none, none, none, none, none, none, none, none, none, none, none], rfl, by decide +kernel⟩, rfl⟩
theorem sw_wTop_wRM_0 {tp : Nat} {ly : Nat} {lyg : Nat} {lyt : Nat} {LYG : Nat → Int32} {LYT : Nat → Int32} {tl : Nat} {tlg : Nat} {tlt : Nat} {TLG : Nat → Int32} {TLT : Nat → Int32} {ne : Nat} {neg : Nat} {net : Nat} {NEG : Nat → Int32} {NET : Nat → Int32} {su : Nat} {sug : Nat} {sut : Nat} {SUG : Nat → Int32} {SUT : Nat → Int32} {kp : Nat} {kr : Nat → Nat} {KH : Nat → Nat → Int32} {km : Nat} {sw : Int32} {tps : Int32} {rt : Nat} {pl : Nat} {P : Nat → Int32} {st : Int32} {my : Nat} {co : Nat} {C : Nat → Int32} {la : Nat} {lag : Nat} {lat : Nat} {LG : Nat → Int32} {LT : Nat → Int32} {po : Nat} {pog : Nat} {pot : Nat} {OG : Nat → Int32} {OT : Nat → Int32} {cJ : ClassId} {cJJ : ClassId} {cI : ClassId} {cII : ClassId} {mo : Nat} {eo : Nat} {dg : Nat} {to : Nat} {er : Nat → Nat} {n : Nat} {E : Nat → Nat → Int32} {DG : Nat → Int32} {tr : Nat → Nat} {T : Nat → Nat → Int64} {st' : Int32} {P' : Nat → Int32} {n' : Nat} {E' : Nat → Nat → Int32} {DG' : Nat → Int32} : kt_sw (wTop tp ly lyg lyt LYG LYT tl tlg tlt TLG TLT ne neg net NEG NET su sug sut SUG SUT kp kr KH km sw tps rt pl P st my co C la lag lat LG LT po pog pot OG OT cJ cJJ cI cII mo eo dg to er n E DG tr T) (wTop tp ly lyg lyt LYG LYT tl tlg tlt TLG TLT ne neg net NEG NET su sug sut SUG SUT kp kr KH km sw tps rt pl P' st' my co C la lag lat LG LT po pog pot OG OT cJ cJJ cI cII mo eo dg to er n' E' DG' tr T) [18, 19, 28, 29, 30, 31, 32, 33, 34, 35, 36, 37] (wRM rt pl P st cI cII mo eo dg to er n E DG) (wRM rt pl P' st' cI cII mo eo dg to er n' E' DG') := ⟨rfl, ⟨[none, none, none, none, none, none, none, none, none, none, none, none, none, none, none, none, none, none, some 0, some 1, none, none, none, none, none, none, none, none, some 2, some 3, some 4, some 5, some 6, some 7, some 8, some 9, some 10, some 11, none, none, none, none, none, none, none], rfl, by decide +kernel⟩, rfl⟩
set_option maxHeartbeats 4000000 in
set_option maxRecDepth 100000 in
theorem c_X4_edge (l : Launch) (dC : Nat → ClassId) (dI : Nat → Nat → Nat) (cI cII cJ cJJ : ClassId) (tp : Nat) (ly : Nat) (lyg : Nat) (lyt : Nat) (LYG : Nat → Int32) (LYT : Nat → Int32) (tl : Nat) (tlg : Nat) (tlt : Nat) (TLG : Nat → Int32) (TLT : Nat → Int32) (ne : Nat) (neg : Nat) (net : Nat) (NEG : Nat → Int32) (NET : Nat → Int32) (su : Nat) (sug : Nat) (sut : Nat) (SUG : Nat → Int32) (SUT : Nat → Int32) (kp : Nat) (kr : Nat → Nat) (KH : Nat → Nat → Int32) (km : Nat) (sw : Int32) (tps : Int32) (rt : Nat) (pl : Nat) (P : Nat → Int32) (st : Int32) (my : Nat) (co : Nat) (C : Nat → Int32) (la : Nat) (lag : Nat) (lat : Nat) (LG : Nat → Int32) (LT : Nat → Int32) (po : Nat) (pog : Nat) (pot : Nat) (OG : Nat → Int32) (OT : Nat → Int32) (mo : Nat) (eo : Nat) (dg : Nat) (to : Nat) (er : Nat → Nat) (n : Nat) (E : Nat → Nat → Int32) (DG : Nat → Int32) (tr : Nat → Nat) (T : Nat → Nat → Int64) (a : Nat) (b : Nat) (q : Int32) (sz : Nat) (hn : n ≤ 6) (ha : a < n ∨ a = 6) (hb7 : b < n ∨ b = 6) (hne : ¬ a = b) (hq0 : ¬ q < 0) (hq3 : q ≤ 3) : Met l yX4_edge wsX4_edge ({ frames := 3, cells := 0, slots := 0, locals := 63 }) (va_Pc [.ref tp, .int (nI a), .int (nI b), .int q] (PRE (dC, dI) (tyL cI cII cJ cJJ) (wTop tp ly lyg lyt LYG LYT tl tlg tlt TLG TLT ne neg net NEG NET su sug sut SUG SUT kp kr KH km sw tps rt pl P st my co C la lag lat LG LT po pog pot OG OT cJ cJJ cI cII mo eo dg to er n E DG tr T) sz)) (va_Qi (fun (r' : Int32) (_ : Unit) => r' = E a b) (fun _ tS => ATW (dC, dI) (tyL cI cII cJ cJJ) (va_A (wTop tp ly lyg lyt LYG LYT tl tlg tlt TLG TLT ne neg net NEG NET su sug sut SUG SUT kp kr KH km sw tps rt pl P st my co C la lag lat LG LT po pog pot OG OT cJ cJJ cI cII mo eo dg to er n E DG tr T) sz) (wTop tp ly lyg lyt LYG LYT tl tlg tlt TLG TLT ne neg net NEG NET su sug sut SUG SUT kp kr KH km sw tps rt pl (resetP n b (resetP n a P)) st my co C la lag lat LG LT po pog pot OG OT cJ cJJ cI cII mo eo dg to er n (layE E a b q) (layD E DG a b q) tr T) tS) (va_A (wTop tp ly lyg lyt LYG LYT tl tlg tlt TLG TLT ne neg net NEG NET su sug sut SUG SUT kp kr KH km sw tps rt pl P st my co C la lag lat LG LT po pog pot OG OT cJ cJJ cI cII mo eo dg to er n E DG tr T) sz)) 0 0 (va_A (wTop tp ly lyg lyt LYG LYT tl tlg tlt TLG TLT ne neg net NEG NET su sug sut SUG SUT kp kr KH km sw tps rt pl P st my co C la lag lat LG LT po pog pot OG OT cJ cJJ cI cII mo eo dg to er n E DG tr T) sz) := by
  refine Met.ofW (cc := cX4_edge) (maxL := 5) (ret := (some .int)) (by decide) rfl ?_
  intro p e s m args below meth c s₁ B hml hv
  obtain ⟨rfl, hsz, hP, hK, hD0⟩ := hv
  have hx := B.exec
  have hb := B.bytes
  have hr := B.returns
  have hlocks := B.notSynchronized
  have hts := atoms_spec (ws := wsX4_edge) B.pre
  have hown : s.vm.findClass RX4 = some m.cls := findClass_of_methodNamed B.named
  subst hsz
  have hD := hD0.self (sz := s.heap.size)
  generalize hAe : va_A (wTop tp ly lyg lyt LYG LYT tl tlg tlt TLG TLT ne neg net NEG NET su sug sut SUG SUT kp kr KH km sw tps rt pl P st my co C la lag lat LG LT po pog pot OG OT cJ cJJ cI cII mo eo dg to er n E DG tr T) s.heap.size = A at hD ⊢
  have hA : ∀ q : Nat, s.heap.size ≤ q → A q := fun q h => by rw [← hAe]; exact Or.inr h
  have hS : va_S A s.heap s.heap [] := va_S.rf
  have hl := lv_entry ([.ref tp, .int (nI a), .int (nI b), .int q]) (n := 5) (Nat.le_of_ble_eq_true rfl)
  rw [lg_entry_eq]
  generalize (lg_sl ([.ref tp, .int (nI a), .int (nI b), .int q]) ++ List.replicate (5 - (lg_sl ([.ref tp, .int (nI a), .int (nI b), .int q])).length) Slot.unset).toArray = ls at hl ⊢
  have hl : lv_has ls 5 [(0, .ref tp), (1, .int (nI a)), (2, .int (nI b)), (3, .int q)] := hl
  have hi_X4 : ∀ w ∈ u_ws RX4 TX4 11, w ∈ wsX4_edge := by decide +kernel
  have hf_10 := hts (.fieldLink RX4 10 "Topplemoor" "moor" "LTopplemoor$Moor;") (by decide +kernel)
  have hi_X2 : ∀ w ∈ u_ws RX2 TX2 4, w ∈ wsX4_edge := by decide +kernel
  have hf_77 := hts (.fieldLink RX4 77 "Topplemoor$Moor" "edges" "[[I") (by decide +kernel)
  have hf_37 := hts (.fieldLink RX4 37 "Topplemoor" "rotors" "LTopplemoor$Rotors;") (by decide +kernel)
  refine lv_aload_n hx hb dX4_edge_0 rfl (lv_at hl 0 rfl) ?_
  refine lv_iload_n hx hb dX4_edge_1 rfl (lv_at hl 1 rfl) ?_
  refine kt_callv (w' := wTop tp ly lyg lyt LYG LYT tl tlg tlt TLG TLT ne neg net NEG NET su sug sut SUG SUT kp kr KH km sw tps rt pl P st my co C la lag lat LG LT po pog pot OG OT cJ cJJ cI cII mo eo dg to er n E DG tr T) (rest := []) (As := [.int (nI a)]) ⟨hx, hb, hml, hown, hts⟩ (c_X4_requireNode l dC dI cI cII cJ cJJ tp ly lyg lyt LYG LYT tl tlg tlt TLG TLT ne neg net NEG NET su sug sut SUG SUT kp kr KH km sw tps rt pl P st my co C la lag lat LG LT po pog pot OG OT mo eo dg to er n E DG tr T a _ (hn) (ha)) (cwV 1 hts gX4_edge_X4_requireNode rfl rfl rfl (by decide +kernel) ⟨Nat.le_of_ble_eq_true rfl, Nat.le_of_ble_eq_true rfl⟩) hK hP hD hS hA (List.range' 0 45) sw_wTop_wTop_0 rfl 0 kX4 rfl rfl rfl rfl rfl hl.1 (Nat.le_of_ble_eq_true rfl) dX4_edge_2 ⟨Nat.zero_le _, Nat.zero_le _⟩ (fun H locs hP hD hS => ?_)
  refine lv_aload_n hx hb dX4_edge_5 rfl (lv_at hl 0 rfl) ?_
  refine lv_iload_n hx hb dX4_edge_6 rfl (lv_at hl 2 rfl) ?_
  refine kt_callv (w' := wTop tp ly lyg lyt LYG LYT tl tlg tlt TLG TLT ne neg net NEG NET su sug sut SUG SUT kp kr KH km sw tps rt pl P st my co C la lag lat LG LT po pog pot OG OT cJ cJJ cI cII mo eo dg to er n E DG tr T) (rest := []) (As := [.int (nI b)]) ⟨hx, hb, hml, hown, hts⟩ (c_X4_requireNode l dC dI cI cII cJ cJJ tp ly lyg lyt LYG LYT tl tlg tlt TLG TLT ne neg net NEG NET su sug sut SUG SUT kp kr KH km sw tps rt pl P st my co C la lag lat LG LT po pog pot OG OT mo eo dg to er n E DG tr T b _ (hn) (hb7)) (cwV 1 hts gX4_edge_X4_requireNode rfl rfl rfl (by decide +kernel) ⟨Nat.le_of_ble_eq_true rfl, Nat.le_of_ble_eq_true rfl⟩) hK hP hD hS hA (List.range' 0 45) sw_wTop_wTop_0 rfl 0 kX4 rfl rfl rfl rfl rfl hl.1 (Nat.le_of_ble_eq_true rfl) dX4_edge_7 ⟨Nat.zero_le _, Nat.zero_le _⟩ (fun H locs hP hD hS => ?_)
  refine lv_iload_n hx hb dX4_edge_10 rfl (lv_at hl 1 rfl) ?_
  refine lv_iload_n hx hb dX4_edge_11 rfl (lv_at hl 2 rfl) ?_
  refine lv_icmp_ne (tgt := 25) hx hb dX4_edge_12 (by decide) (fun c12 => ?_) (fun c12 => ?_)
  · skip
    refine lv_iload_n hx hb dX4_edge_25 rfl (lv_at hl 3 rfl) ?_
    refine lv_iconst (v := 0) hx hb dX4_edge_26 (by decide) ?_
    refine lv_iconst (v := 3) hx hb dX4_edge_27 (by decide) ?_
    refine kt_callSv (w' := wTop tp ly lyg lyt LYG LYT tl tlg tlt TLG TLT ne neg net NEG NET su sug sut SUG SUT kp kr KH km sw tps rt pl P st my co C la lag lat LG LT po pog pot OG OT cJ cJJ cI cII mo eo dg to er n E DG tr T) (rest := []) (As := [.int q, .int 0, .int 3]) ⟨hx, hb, hml, hown, hts⟩ (c_X4_requireWithin l dC dI cI cII cJ cJJ q 0 3 _ (hq0) (hq3)) (va_cwS 3 hts gX4_edge_X4_requireWithin rfl rfl rfl (by decide +kernel) ⟨Nat.le_of_ble_eq_true rfl, Nat.le_of_ble_eq_true rfl⟩) hK hP hD hS hA [] sw_wTop_wE_0 rfl rfl rfl hl.1 (Nat.le_of_ble_eq_true rfl) dX4_edge_28 ⟨Nat.zero_le _, Nat.zero_le _⟩ (fun H locs hP hD hS => ?_)
    refine lv_aload_n hx hb dX4_edge_31 rfl (lv_at hl 0 rfl) ?_
    refine va_get (D := (dC, dI)) (ci := kX4) (v := .ref mo) (C := RX4) (T := TX4) (N := 11) hx hb hts hi_X4 hown hK hP 0 rfl rfl 0 (by decide) hf_10 (fun _ h9 => h9) rfl dX4_edge_32 ?_
    refine va_get (D := (dC, dI)) (ci := kX2) (v := .ref eo) (C := RX2) (T := TX2) (N := 4) hx hb hts hi_X2 hown hK hP 28 rfl rfl 1 (by decide) hf_77 (fun _ h9 => h9) rfl dX4_edge_35 ?_
    refine lv_iload_n hx hb dX4_edge_38 rfl (lv_at hl 1 rfl) ?_
    refine kt_aald hx hb hK hP 29 1 rfl rfl (by omega) (by decide) dX4_edge_39 ?_
    refine lv_iload_n hx hb dX4_edge_40 rfl (lv_at hl 2 rfl) ?_
    refine kt_iald hx hb hK hP (30 + a) 0 (row_wTop_er (by omega)) rfl (by omega) (by decide) dX4_edge_41 ?_
    refine lv_istore (lv' := [(4, .int (E a b)), (0, .ref tp), (1, .int (nI a)), (2, .int (nI b)), (3, .int q)]) hx hb dX4_edge_42 hl (by decide) rfl (fun ls hl => ?_)
    refine lv_aload_n hx hb dX4_edge_44 rfl (lv_at hl 1 rfl) ?_
    refine va_get (D := (dC, dI)) (ci := kX4) (v := .ref mo) (C := RX4) (T := TX4) (N := 11) hx hb hts hi_X4 hown hK hP 0 rfl rfl 0 (by decide) hf_10 (fun _ h9 => h9) rfl dX4_edge_45 ?_
    refine lv_iload_n hx hb dX4_edge_48 rfl (lv_at hl 2 rfl) ?_
    refine lv_iload_n hx hb dX4_edge_49 rfl (lv_at hl 3 rfl) ?_
    refine lv_iload_n hx hb dX4_edge_50 rfl (lv_at hl 4 rfl) ?_
    refine kt_callv (w' := wTop tp ly lyg lyt LYG LYT tl tlg tlt TLG TLT ne neg net NEG NET su sug sut SUG SUT kp kr KH km sw tps rt pl P st my co C la lag lat LG LT po pog pot OG OT cJ cJJ cI cII mo eo dg to er n (layE E a b q) (layD E DG a b q) tr T) (rest := []) (As := [.int (nI a), .int (nI b), .int q]) ⟨hx, hb, hml, hown, hts⟩ (c_X2_lay l dC dI cI cII cJ cJJ mo eo dg to er n E DG a b q _ (by omega) (by omega)) (cwV 3 hts gX4_edge_X2_lay rfl rfl rfl (by decide +kernel) ⟨Nat.le_of_ble_eq_true rfl, Nat.le_of_ble_eq_true rfl⟩) hK hP hD hS hA [28, 29, 30, 31, 32, 33, 34, 35, 36, 37] sw_wTop_wM_0 rfl 28 kX2 rfl rfl rfl rfl rfl hl.1 (Nat.le_of_ble_eq_true rfl) dX4_edge_51 ⟨Nat.zero_le _, Nat.zero_le _⟩ (fun H locs hP hD hS => ?_)
    refine lv_aload_n hx hb dX4_edge_54 rfl (lv_at hl 1 rfl) ?_
    refine va_get (D := (dC, dI)) (ci := kX4) (v := .ref rt) (C := RX4) (T := TX4) (N := 11) hx hb hts hi_X4 hown hK hP 0 rfl rfl 5 (by decide) hf_37 (fun _ h9 => h9) rfl dX4_edge_55 ?_
    refine lv_iload_n hx hb dX4_edge_58 rfl (lv_at hl 2 rfl) ?_
    refine kt_callv (w' := wTop tp ly lyg lyt LYG LYT tl tlg tlt TLG TLT ne neg net NEG NET su sug sut SUG SUT kp kr KH km sw tps rt pl (resetP n a P) st my co C la lag lat LG LT po pog pot OG OT cJ cJJ cI cII mo eo dg to er n (layE E a b q) (layD E DG a b q) tr T) (rest := []) (As := [.int (nI a)]) ⟨hx, hb, hml, hown, hts⟩ (c_X3_reset l dC dI cI cII cJ cJJ rt pl P st mo eo dg to er n (layE E a b q) (layD E DG a b q) a _ (hn) (by omega)) (cwV 1 hts gX4_edge_X3_reset rfl rfl rfl (by decide +kernel) ⟨Nat.le_of_ble_eq_true rfl, Nat.le_of_ble_eq_true rfl⟩) hK hP hD hS hA [18, 19, 28, 29, 30, 31, 32, 33, 34, 35, 36, 37] sw_wTop_wRM_0 rfl 18 kX3 rfl rfl rfl rfl rfl hl.1 (Nat.le_of_ble_eq_true rfl) dX4_edge_59 ⟨Nat.zero_le _, Nat.zero_le _⟩ (fun H locs hP hD hS => ?_)
    refine lv_aload_n hx hb dX4_edge_62 rfl (lv_at hl 1 rfl) ?_
    refine va_get (D := (dC, dI)) (ci := kX4) (v := .ref rt) (C := RX4) (T := TX4) (N := 11) hx hb hts hi_X4 hown hK hP 0 rfl rfl 5 (by decide) hf_37 (fun _ h9 => h9) rfl dX4_edge_63 ?_
    refine lv_iload_n hx hb dX4_edge_66 rfl (lv_at hl 3 rfl) ?_
    refine kt_callv (w' := wTop tp ly lyg lyt LYG LYT tl tlg tlt TLG TLT ne neg net NEG NET su sug sut SUG SUT kp kr KH km sw tps rt pl (resetP n b (resetP n a P)) st my co C la lag lat LG LT po pog pot OG OT cJ cJJ cI cII mo eo dg to er n (layE E a b q) (layD E DG a b q) tr T) (rest := []) (As := [.int (nI b)]) ⟨hx, hb, hml, hown, hts⟩ (c_X3_reset l dC dI cI cII cJ cJJ rt pl (resetP n a P) st mo eo dg to er n (layE E a b q) (layD E DG a b q) b _ (hn) (by omega)) (cwV 1 hts gX4_edge_X3_reset rfl rfl rfl (by decide +kernel) ⟨Nat.le_of_ble_eq_true rfl, Nat.le_of_ble_eq_true rfl⟩) hK hP hD hS hA [18, 19, 28, 29, 30, 31, 32, 33, 34, 35, 36, 37] sw_wTop_wRM_0 rfl 18 kX3 rfl rfl rfl rfl rfl hl.1 (Nat.le_of_ble_eq_true rfl) dX4_edge_67 ⟨Nat.zero_le _, Nat.zero_le _⟩ (fun H locs hP hD hS => ?_)
    refine lv_iload hx hb dX4_edge_70 (lv_at hl 0 rfl) ?_
    exact kt_iret (W' := wTop tp ly lyg lyt LYG LYT tl tlg tlt TLG TLT ne neg net NEG NET su sug sut SUG SUT kp kr KH km sw tps rt pl (resetP n b (resetP n a P)) st my co C la lag lat LG LT po pog pot OG OT cJ cJJ cI cII mo eo dg to er n (layE E a b q) (layD E DG a b q) tr T) hx hb hr hS hP hK hD (rfl) hlocks dX4_edge_72
  · exact absurd ((nI_eq (by omega) (by omega)).mp c12) hne

set_option maxHeartbeats 4000000 in
set_option maxRecDepth 100000 in
theorem c_X4_drop (l : Launch) (dC : Nat → ClassId) (dI : Nat → Nat → Nat) (cI cII cJ cJJ : ClassId) (tp : Nat) (ly : Nat) (lyg : Nat) (lyt : Nat) (LYG : Nat → Int32) (LYT : Nat → Int32) (tl : Nat) (tlg : Nat) (tlt : Nat) (TLG : Nat → Int32) (TLT : Nat → Int32) (ne : Nat) (neg : Nat) (net : Nat) (NEG : Nat → Int32) (NET : Nat → Int32) (su : Nat) (sug : Nat) (sut : Nat) (SUG : Nat → Int32) (SUT : Nat → Int32) (kp : Nat) (kr : Nat → Nat) (KH : Nat → Nat → Int32) (km : Nat) (sw : Int32) (tps : Int32) (rt : Nat) (pl : Nat) (P : Nat → Int32) (st : Int32) (my : Nat) (co : Nat) (C : Nat → Int32) (la : Nat) (lag : Nat) (lat : Nat) (LG : Nat → Int32) (LT : Nat → Int32) (po : Nat) (pog : Nat) (pot : Nat) (OG : Nat → Int32) (OT : Nat → Int32) (mo : Nat) (eo : Nat) (dg : Nat) (to : Nat) (er : Nat → Nat) (n : Nat) (E : Nat → Nat → Int32) (DG : Nat → Int32) (tr : Nat → Nat) (T : Nat → Nat → Int64) (j : Nat) (q : Int32) (sz : Nat) (hn : n ≤ 6) (hj : j < n) (hq1 : ¬ q < 1) (hq40 : q ≤ 40) (h99 : LYG j + q ≤ 99) : Met l yX4_drop wsX4_drop ({ frames := 2, cells := 0, slots := 0, locals := 42 }) (va_Pc [.ref tp, .int (nI j), .int q] (PRE (dC, dI) (tyL cI cII cJ cJJ) (wTop tp ly lyg lyt LYG LYT tl tlg tlt TLG TLT ne neg net NEG NET su sug sut SUG SUT kp kr KH km sw tps rt pl P st my co C la lag lat LG LT po pog pot OG OT cJ cJJ cI cII mo eo dg to er n E DG tr T) sz)) (va_Qi (fun (r' : Int32) (_ : Unit) => r' = LYG j + q) (fun _ tS => ATW (dC, dI) (tyL cI cII cJ cJJ) (va_A (wTop tp ly lyg lyt LYG LYT tl tlg tlt TLG TLT ne neg net NEG NET su sug sut SUG SUT kp kr KH km sw tps rt pl P st my co C la lag lat LG LT po pog pot OG OT cJ cJJ cI cII mo eo dg to er n E DG tr T) sz) (wTop tp ly lyg lyt (upd LYG j (LYG j + q)) LYT tl tlg tlt TLG TLT ne neg net NEG NET su sug sut SUG SUT kp kr KH km sw tps rt pl P st my co C la lag lat LG LT po pog pot OG OT cJ cJJ cI cII mo eo dg to er n E DG tr T) tS) (va_A (wTop tp ly lyg lyt LYG LYT tl tlg tlt TLG TLT ne neg net NEG NET su sug sut SUG SUT kp kr KH km sw tps rt pl P st my co C la lag lat LG LT po pog pot OG OT cJ cJJ cI cII mo eo dg to er n E DG tr T) sz)) 0 0 (va_A (wTop tp ly lyg lyt LYG LYT tl tlg tlt TLG TLT ne neg net NEG NET su sug sut SUG SUT kp kr KH km sw tps rt pl P st my co C la lag lat LG LT po pog pot OG OT cJ cJJ cI cII mo eo dg to er n E DG tr T) sz) := by
  refine Met.ofW (cc := cX4_drop) (maxL := 3) (ret := (some .int)) (by decide) rfl ?_
  intro p e s m args below meth c s₁ B hml hv
  obtain ⟨rfl, hsz, hP, hK, hD0⟩ := hv
  have hx := B.exec
  have hb := B.bytes
  have hr := B.returns
  have hlocks := B.notSynchronized
  have hts := atoms_spec (ws := wsX4_drop) B.pre
  have hown : s.vm.findClass RX4 = some m.cls := findClass_of_methodNamed B.named
  subst hsz
  have hD := hD0.self (sz := s.heap.size)
  generalize hAe : va_A (wTop tp ly lyg lyt LYG LYT tl tlg tlt TLG TLT ne neg net NEG NET su sug sut SUG SUT kp kr KH km sw tps rt pl P st my co C la lag lat LG LT po pog pot OG OT cJ cJJ cI cII mo eo dg to er n E DG tr T) s.heap.size = A at hD ⊢
  have hA : ∀ q : Nat, s.heap.size ≤ q → A q := fun q h => by rw [← hAe]; exact Or.inr h
  have hS : va_S A s.heap s.heap [] := va_S.rf
  have hl := lv_entry ([.ref tp, .int (nI j), .int q]) (n := 3) (Nat.le_of_ble_eq_true rfl)
  rw [lg_entry_eq]
  generalize (lg_sl ([.ref tp, .int (nI j), .int q]) ++ List.replicate (3 - (lg_sl ([.ref tp, .int (nI j), .int q])).length) Slot.unset).toArray = ls at hl ⊢
  have hl : lv_has ls 3 [(0, .ref tp), (1, .int (nI j)), (2, .int q)] := hl
  have hi_X4 : ∀ w ∈ u_ws RX4 TX4 11, w ∈ wsX4_drop := by decide +kernel
  have hf_21 := hts (.fieldLink RX4 21 "Topplemoor" "lying" "LTopplemoor$Heap;") (by decide +kernel)
  have hi_X0 : ∀ w ∈ u_ws RX0 TX0 3, w ∈ wsX4_drop := by decide +kernel
  have hf_89 := hts (.fieldLink RX4 89 "Topplemoor$Heap" "grains" "[I") (by decide +kernel)
  refine lv_aload_n hx hb dX4_drop_0 rfl (lv_at hl 0 rfl) ?_
  refine lv_iload_n hx hb dX4_drop_1 rfl (lv_at hl 1 rfl) ?_
  refine kt_callv (w' := wTop tp ly lyg lyt LYG LYT tl tlg tlt TLG TLT ne neg net NEG NET su sug sut SUG SUT kp kr KH km sw tps rt pl P st my co C la lag lat LG LT po pog pot OG OT cJ cJJ cI cII mo eo dg to er n E DG tr T) (rest := []) (As := [.int (nI j)]) ⟨hx, hb, hml, hown, hts⟩ (c_X4_requireSpot l dC dI cI cII cJ cJJ tp ly lyg lyt LYG LYT tl tlg tlt TLG TLT ne neg net NEG NET su sug sut SUG SUT kp kr KH km sw tps rt pl P st my co C la lag lat LG LT po pog pot OG OT mo eo dg to er n E DG tr T j _ (hn) (hj)) (cwV 1 hts gX4_drop_X4_requireSpot rfl rfl rfl (by decide +kernel) ⟨Nat.le_of_ble_eq_true rfl, Nat.le_of_ble_eq_true rfl⟩) hK hP hD hS hA (List.range' 0 45) sw_wTop_wTop_0 rfl 0 kX4 rfl rfl rfl rfl rfl hl.1 (Nat.le_of_ble_eq_true rfl) dX4_drop_2 ⟨Nat.zero_le _, Nat.zero_le _⟩ (fun H locs hP hD hS => ?_)
  refine lv_iload_n hx hb dX4_drop_5 rfl (lv_at hl 2 rfl) ?_
  refine lv_iconst (v := 1) hx hb dX4_drop_6 (by decide) ?_
  refine lv_bipush (v := 40) hx hb dX4_drop_7 (by decide) ?_
  refine kt_callSv (w' := wTop tp ly lyg lyt LYG LYT tl tlg tlt TLG TLT ne neg net NEG NET su sug sut SUG SUT kp kr KH km sw tps rt pl P st my co C la lag lat LG LT po pog pot OG OT cJ cJJ cI cII mo eo dg to er n E DG tr T) (rest := []) (As := [.int q, .int 1, .int 40]) ⟨hx, hb, hml, hown, hts⟩ (c_X4_requireWithin l dC dI cI cII cJ cJJ q 1 40 _ (hq1) (hq40)) (va_cwS 3 hts gX4_drop_X4_requireWithin rfl rfl rfl (by decide +kernel) ⟨Nat.le_of_ble_eq_true rfl, Nat.le_of_ble_eq_true rfl⟩) hK hP hD hS hA [] sw_wTop_wE_0 rfl rfl rfl hl.1 (Nat.le_of_ble_eq_true rfl) dX4_drop_9 ⟨Nat.zero_le _, Nat.zero_le _⟩ (fun H locs hP hD hS => ?_)
  refine lv_aload_n hx hb dX4_drop_12 rfl (lv_at hl 0 rfl) ?_
  refine va_get (D := (dC, dI)) (ci := kX4) (v := .ref ly) (C := RX4) (T := TX4) (N := 11) hx hb hts hi_X4 hown hK hP 0 rfl rfl 1 (by decide) hf_21 (fun _ h9 => h9) rfl dX4_drop_13 ?_
  refine va_get (D := (dC, dI)) (ci := kX0) (v := .ref lyg) (C := RX0) (T := TX0) (N := 3) hx hb hts hi_X0 hown hK hP 1 rfl rfl 0 (by decide) hf_89 (fun _ h9 => h9) rfl dX4_drop_16 ?_
  refine lv_iload_n hx hb dX4_drop_19 rfl (lv_at hl 1 rfl) ?_
  refine kt_iald hx hb hK hP 2 0 rfl rfl (by omega) (by decide) dX4_drop_20 ?_
  refine lv_iload_n hx hb dX4_drop_21 rfl (lv_at hl 2 rfl) ?_
  refine lv_iadd hx hb dX4_drop_22 ?_
  refine lv_bipush (v := 99) hx hb dX4_drop_23 (by decide) ?_
  refine lv_icmp_le (tgt := 38) hx hb dX4_drop_25 (by decide) (fun c25 => ?_) (fun c25 => ?_)
  · skip
    refine lv_aload_n hx hb dX4_drop_38 rfl (lv_at hl 0 rfl) ?_
    refine va_get (D := (dC, dI)) (ci := kX4) (v := .ref ly) (C := RX4) (T := TX4) (N := 11) hx hb hts hi_X4 hown hK hP 0 rfl rfl 1 (by decide) hf_21 (fun _ h9 => h9) rfl dX4_drop_39 ?_
    refine va_get (D := (dC, dI)) (ci := kX0) (v := .ref lyg) (C := RX0) (T := TX0) (N := 3) hx hb hts hi_X0 hown hK hP 1 rfl rfl 0 (by decide) hf_89 (fun _ h9 => h9) rfl dX4_drop_42 ?_
    refine lv_iload_n hx hb dX4_drop_45 rfl (lv_at hl 1 rfl) ?_
    refine lv_dup2_11 hx hb dX4_drop_46 rfl rfl ?_
    refine kt_iald hx hb hK hP 2 0 rfl rfl (by omega) (by decide) dX4_drop_47 ?_
    refine lv_iload_n hx hb dX4_drop_48 rfl (lv_at hl 2 rfl) ?_
    refine lv_iadd hx hb dX4_drop_49 ?_
    refine kt_iast hx hb hK hP hD hS 2 0 rfl rfl (by omega) (by decide) dX4_drop_50 (fun H locs hP hD hS => ?_)
    have hP : va_P (dC, dI) vwCl (wTop tp ly lyg lyt (upd LYG j ((LYG j) + q)) LYT tl tlg tlt TLG TLT ne neg net NEG NET su sug sut SUG SUT kp kr KH km sw tps rt pl P st my co C la lag lat LG LT po pog pot OG OT cJ cJJ cI cII mo eo dg to er n E DG tr T) H := hP
    have hD : va_D A (wTop tp ly lyg lyt (upd LYG j ((LYG j) + q)) LYT tl tlg tlt TLG TLT ne neg net NEG NET su sug sut SUG SUT kp kr KH km sw tps rt pl P st my co C la lag lat LG LT po pog pot OG OT cJ cJJ cI cII mo eo dg to er n E DG tr T) := hD
    refine lv_aload_n hx hb dX4_drop_51 rfl (lv_at hl 0 rfl) ?_
    refine va_get (D := (dC, dI)) (ci := kX4) (v := .ref ly) (C := RX4) (T := TX4) (N := 11) hx hb hts hi_X4 hown hK hP 0 rfl rfl 1 (by decide) hf_21 (fun _ h9 => h9) rfl dX4_drop_52 ?_
    refine va_get (D := (dC, dI)) (ci := kX0) (v := .ref lyg) (C := RX0) (T := TX0) (N := 3) hx hb hts hi_X0 hown hK hP 1 rfl rfl 0 (by decide) hf_89 (fun _ h9 => h9) rfl dX4_drop_55 ?_
    refine lv_iload_n hx hb dX4_drop_58 rfl (lv_at hl 1 rfl) ?_
    refine kt_iald hx hb hK hP 2 0 rfl rfl (by omega) (by decide) dX4_drop_59 ?_
    exact kt_iret (W' := wTop tp ly lyg lyt (upd LYG j (LYG j + q)) LYT tl tlg tlt TLG TLT ne neg net NEG NET su sug sut SUG SUT kp kr KH km sw tps rt pl P st my co C la lag lat LG LT po pog pot OG OT cJ cJJ cI cII mo eo dg to er n E DG tr T) hx hb hr hS hP hK hD (pk_us) hlocks dX4_drop_60
  · exact absurd h99 c25

theorem sw_wTop_wHM_0 {tp : Nat} {ly : Nat} {lyg : Nat} {lyt : Nat} {LYG : Nat → Int32} {LYT : Nat → Int32} {tl : Nat} {tlg : Nat} {tlt : Nat} {TLG : Nat → Int32} {TLT : Nat → Int32} {ne : Nat} {neg : Nat} {net : Nat} {NEG : Nat → Int32} {NET : Nat → Int32} {su : Nat} {sug : Nat} {sut : Nat} {SUG : Nat → Int32} {SUT : Nat → Int32} {kp : Nat} {kr : Nat → Nat} {KH : Nat → Nat → Int32} {km : Nat} {sw : Int32} {tps : Int32} {rt : Nat} {pl : Nat} {P : Nat → Int32} {st : Int32} {my : Nat} {co : Nat} {C : Nat → Int32} {la : Nat} {lag : Nat} {lat : Nat} {LG : Nat → Int32} {LT : Nat → Int32} {po : Nat} {pog : Nat} {pot : Nat} {OG : Nat → Int32} {OT : Nat → Int32} {cJ : ClassId} {cJJ : ClassId} {cI : ClassId} {cII : ClassId} {mo : Nat} {eo : Nat} {dg : Nat} {to : Nat} {er : Nat → Nat} {n : Nat} {E : Nat → Nat → Int32} {DG : Nat → Int32} {tr : Nat → Nat} {T : Nat → Nat → Int64} {LYG' : Nat → Int32} {LYT' : Nat → Int32} {n' : Nat} {E' : Nat → Nat → Int32} {DG' : Nat → Int32} : kt_sw (wTop tp ly lyg lyt LYG LYT tl tlg tlt TLG TLT ne neg net NEG NET su sug sut SUG SUT kp kr KH km sw tps rt pl P st my co C la lag lat LG LT po pog pot OG OT cJ cJJ cI cII mo eo dg to er n E DG tr T) (wTop tp ly lyg lyt LYG' LYT' tl tlg tlt TLG TLT ne neg net NEG NET su sug sut SUG SUT kp kr KH km sw tps rt pl P st my co C la lag lat LG LT po pog pot OG OT cJ cJJ cI cII mo eo dg to er n' E' DG' tr T) [1, 2, 3, 28, 29, 30, 31, 32, 33, 34, 35, 36, 37] (wHM ly lyg lyt LYG LYT cI cII mo eo dg to er n E DG) (wHM ly lyg lyt LYG' LYT' cI cII mo eo dg to er n' E' DG') := ⟨rfl, ⟨[none, some 0, some 1, some 2, none, none, none, none, none, none, none, none, none, none, none, none, none, none, none, none, none, none, none, none, none, none, none, none, some 3, some 4, some 5, some 6, some 7, some 8, some 9, some 10, some 11, some 12, none, none, none, none, none, none, none], rfl, by decide +kernel⟩, rfl⟩
set_option maxHeartbeats 4000000 in
set_option maxRecDepth 100000 in
theorem c_X4_topple (l : Launch) (dC : Nat → ClassId) (dI : Nat → Nat → Nat) (cI cII cJ cJJ : ClassId) (tp : Nat) (ly : Nat) (lyg : Nat) (lyt : Nat) (LYG : Nat → Int32) (LYT : Nat → Int32) (tl : Nat) (tlg : Nat) (tlt : Nat) (TLG : Nat → Int32) (TLT : Nat → Int32) (ne : Nat) (neg : Nat) (net : Nat) (NEG : Nat → Int32) (NET : Nat → Int32) (su : Nat) (sug : Nat) (sut : Nat) (SUG : Nat → Int32) (SUT : Nat → Int32) (kp : Nat) (kr : Nat → Nat) (KH : Nat → Nat → Int32) (km : Nat) (sw : Int32) (tps : Int32) (rt : Nat) (pl : Nat) (P : Nat → Int32) (st : Int32) (my : Nat) (co : Nat) (C : Nat → Int32) (la : Nat) (lag : Nat) (lat : Nat) (LG : Nat → Int32) (LT : Nat → Int32) (po : Nat) (pog : Nat) (pot : Nat) (OG : Nat → Int32) (OT : Nat → Int32) (mo : Nat) (eo : Nat) (dg : Nat) (to : Nat) (er : Nat → Nat) (n : Nat) (E : Nat → Nat → Int32) (DG : Nat → Int32) (tr : Nat → Nat) (T : Nat → Nat → Int64) (j : Nat) (sz : Nat) (hn : n ≤ 6) (hj : j < n) (hst : steepB DG LYG j = true) : Met l yX4_topple wsX4_topple ({ frames := 2, cells := 0, slots := 0, locals := 42 }) (va_Pc [.ref tp, .int (nI j)] (PRE (dC, dI) (tyL cI cII cJ cJJ) (wTop tp ly lyg lyt LYG LYT tl tlg tlt TLG TLT ne neg net NEG NET su sug sut SUG SUT kp kr KH km sw tps rt pl P st my co C la lag lat LG LT po pog pot OG OT cJ cJJ cI cII mo eo dg to er n E DG tr T) sz)) (va_Qi (fun (r' : Int32) (_ : Unit) => r' = E j 6) (fun _ tS => ATW (dC, dI) (tyL cI cII cJ cJJ) (va_A (wTop tp ly lyg lyt LYG LYT tl tlg tlt TLG TLT ne neg net NEG NET su sug sut SUG SUT kp kr KH km sw tps rt pl P st my co C la lag lat LG LT po pog pot OG OT cJ cJJ cI cII mo eo dg to er n E DG tr T) sz) (wTop tp ly lyg lyt (tipG n E DG j 1 LYG) LYT tl tlg tlt TLG TLT ne neg net NEG NET su sug sut SUG SUT kp kr KH km (sw + E j 6) (tps + 1) rt pl P st my co C la lag lat LG LT po pog pot OG OT cJ cJJ cI cII mo eo dg to er n E DG tr T) tS) (va_A (wTop tp ly lyg lyt LYG LYT tl tlg tlt TLG TLT ne neg net NEG NET su sug sut SUG SUT kp kr KH km sw tps rt pl P st my co C la lag lat LG LT po pog pot OG OT cJ cJJ cI cII mo eo dg to er n E DG tr T) sz)) 0 0 (va_A (wTop tp ly lyg lyt LYG LYT tl tlg tlt TLG TLT ne neg net NEG NET su sug sut SUG SUT kp kr KH km sw tps rt pl P st my co C la lag lat LG LT po pog pot OG OT cJ cJJ cI cII mo eo dg to er n E DG tr T) sz) := by
  refine Met.ofW (cc := cX4_topple) (maxL := 2) (ret := (some .int)) (by decide) rfl ?_
  intro p e s m args below meth c s₁ B hml hv
  obtain ⟨rfl, hsz, hP, hK, hD0⟩ := hv
  have hx := B.exec
  have hb := B.bytes
  have hr := B.returns
  have hlocks := B.notSynchronized
  have hts := atoms_spec (ws := wsX4_topple) B.pre
  have hown : s.vm.findClass RX4 = some m.cls := findClass_of_methodNamed B.named
  subst hsz
  have hD := hD0.self (sz := s.heap.size)
  generalize hAe : va_A (wTop tp ly lyg lyt LYG LYT tl tlg tlt TLG TLT ne neg net NEG NET su sug sut SUG SUT kp kr KH km sw tps rt pl P st my co C la lag lat LG LT po pog pot OG OT cJ cJJ cI cII mo eo dg to er n E DG tr T) s.heap.size = A at hD ⊢
  have hA : ∀ q : Nat, s.heap.size ≤ q → A q := fun q h => by rw [← hAe]; exact Or.inr h
  have hS : va_S A s.heap s.heap [] := va_S.rf
  have hl := lv_entry ([.ref tp, .int (nI j)]) (n := 2) (Nat.le_of_ble_eq_true rfl)
  rw [lg_entry_eq]
  generalize (lg_sl ([.ref tp, .int (nI j)]) ++ List.replicate (2 - (lg_sl ([.ref tp, .int (nI j)])).length) Slot.unset).toArray = ls at hl ⊢
  have hl : lv_has ls 2 [(0, .ref tp), (1, .int (nI j))] := hl
  have hi_X4 : ∀ w ∈ u_ws RX4 TX4 11, w ∈ wsX4_topple := by decide +kernel
  have hf_21 := hts (.fieldLink RX4 21 "Topplemoor" "lying" "LTopplemoor$Heap;") (by decide +kernel)
  have hf_105 := hts (.fieldLink RX4 105 "Topplemoor" "topples" "I") (by decide +kernel)
  have hf_108 := hts (.fieldLink RX4 108 "Topplemoor" "swallowed" "I") (by decide +kernel)
  have hf_10 := hts (.fieldLink RX4 10 "Topplemoor" "moor" "LTopplemoor$Moor;") (by decide +kernel)
  have hi_X2 : ∀ w ∈ u_ws RX2 TX2 4, w ∈ wsX4_topple := by decide +kernel
  have hf_77 := hts (.fieldLink RX4 77 "Topplemoor$Moor" "edges" "[[I") (by decide +kernel)
  refine lv_aload_n hx hb dX4_topple_0 rfl (lv_at hl 0 rfl) ?_
  refine lv_iload_n hx hb dX4_topple_1 rfl (lv_at hl 1 rfl) ?_
  refine kt_callv (w' := wTop tp ly lyg lyt LYG LYT tl tlg tlt TLG TLT ne neg net NEG NET su sug sut SUG SUT kp kr KH km sw tps rt pl P st my co C la lag lat LG LT po pog pot OG OT cJ cJJ cI cII mo eo dg to er n E DG tr T) (rest := []) (As := [.int (nI j)]) ⟨hx, hb, hml, hown, hts⟩ (c_X4_requireSpot l dC dI cI cII cJ cJJ tp ly lyg lyt LYG LYT tl tlg tlt TLG TLT ne neg net NEG NET su sug sut SUG SUT kp kr KH km sw tps rt pl P st my co C la lag lat LG LT po pog pot OG OT mo eo dg to er n E DG tr T j _ (hn) (hj)) (cwV 1 hts gX4_topple_X4_requireSpot rfl rfl rfl (by decide +kernel) ⟨Nat.le_of_ble_eq_true rfl, Nat.le_of_ble_eq_true rfl⟩) hK hP hD hS hA (List.range' 0 45) sw_wTop_wTop_0 rfl 0 kX4 rfl rfl rfl rfl rfl hl.1 (Nat.le_of_ble_eq_true rfl) dX4_topple_2 ⟨Nat.zero_le _, Nat.zero_le _⟩ (fun H locs hP hD hS => ?_)
  refine lv_aload_n hx hb dX4_topple_5 rfl (lv_at hl 0 rfl) ?_
  refine va_get (D := (dC, dI)) (ci := kX4) (v := .ref ly) (C := RX4) (T := TX4) (N := 11) hx hb hts hi_X4 hown hK hP 0 rfl rfl 1 (by decide) hf_21 (fun _ h9 => h9) rfl dX4_topple_6 ?_
  refine lv_iload_n hx hb dX4_topple_9 rfl (lv_at hl 1 rfl) ?_
  refine kt_calli (w' := wTop tp ly lyg lyt LYG LYT tl tlg tlt TLG TLT ne neg net NEG NET su sug sut SUG SUT kp kr KH km sw tps rt pl P st my co C la lag lat LG LT po pog pot OG OT cJ cJJ cI cII mo eo dg to er n E DG tr T) (rest := []) (As := [.int (nI j)]) ⟨hx, hb, hml, hown, hts⟩ (c_X0_isSteep l dC dI cI cII cJ cJJ ly lyg lyt LYG LYT mo eo dg to er n E DG j _ (by omega)) (cwV 1 hts gX4_topple_X0_isSteep rfl rfl rfl (by decide +kernel) ⟨Nat.le_of_ble_eq_true rfl, Nat.le_of_ble_eq_true rfl⟩) hK hP hD hS hA [1, 2, 3, 28, 29, 30, 31, 32, 33, 34, 35, 36, 37] sw_wTop_wHM_0 rfl 1 kX0 rfl rfl rfl rfl rfl hl.1 (Nat.le_of_ble_eq_true rfl) dX4_topple_10 ⟨Nat.zero_le _, Nat.zero_le _⟩ (fun H locs hP hD hS => ?_)
  refine lv_if_ne (tgt := 26) hx hb dX4_topple_13 (by decide) (fun c13 => ?_) (fun c13 => ?_)
  · skip
    refine lv_aload_n hx hb dX4_topple_26 rfl (lv_at hl 0 rfl) ?_
    refine va_get (D := (dC, dI)) (ci := kX4) (v := .ref ly) (C := RX4) (T := TX4) (N := 11) hx hb hts hi_X4 hown hK hP 0 rfl rfl 1 (by decide) hf_21 (fun _ h9 => h9) rfl dX4_topple_27 ?_
    refine lv_iload_n hx hb dX4_topple_30 rfl (lv_at hl 1 rfl) ?_
    refine lv_iconst (v := 1) hx hb dX4_topple_31 (by decide) ?_
    refine kt_callv (w' := wTop tp ly lyg lyt (tipG n E DG j 1 LYG) LYT tl tlg tlt TLG TLT ne neg net NEG NET su sug sut SUG SUT kp kr KH km sw tps rt pl P st my co C la lag lat LG LT po pog pot OG OT cJ cJJ cI cII mo eo dg to er n E DG tr T) (rest := []) (As := [.int (nI j), .int 1]) ⟨hx, hb, hml, hown, hts⟩ (c_X0_tip l dC dI cI cII cJ cJJ ly lyg lyt LYG LYT mo eo dg to er n E DG j 1 _ (hn) (by omega)) (cwV 2 hts gX4_topple_X0_tip rfl rfl rfl (by decide +kernel) ⟨Nat.le_of_ble_eq_true rfl, Nat.le_of_ble_eq_true rfl⟩) hK hP hD hS hA [1, 2, 3, 28, 29, 30, 31, 32, 33, 34, 35, 36, 37] sw_wTop_wHM_0 rfl 1 kX0 rfl rfl rfl rfl rfl hl.1 (Nat.le_of_ble_eq_true rfl) dX4_topple_32 ⟨Nat.zero_le _, Nat.zero_le _⟩ (fun H locs hP hD hS => ?_)
    refine lv_aload_n hx hb dX4_topple_35 rfl (lv_at hl 0 rfl) ?_
    refine lv_dup hx hb dX4_topple_36 rfl ?_
    refine va_get (D := (dC, dI)) (ci := kX4) (v := .int tps) (C := RX4) (T := TX4) (N := 11) hx hb hts hi_X4 hown hK hP 0 rfl rfl 10 (by decide) hf_105 (fun _ h9 => h9) rfl dX4_topple_37 ?_
    refine lv_iconst (v := 1) hx hb dX4_topple_40 (by decide) ?_
    refine lv_iadd hx hb dX4_topple_41 ?_
    refine va_put (D := (dC, dI)) (ci := kX4) (v := .int (tps + 1)) (ty := .int) (C := RX4) (T := TX4) (N := 11) hx hb hts hi_X4 tyX4 tyX4_ok nmX4 hown hK hP hD hS 0 rfl rfl 10 (by decide) hf_105 (fun _ h9 => h9) rfl (by decide +kernel) rfl rfl (Nat.le_of_ble_eq_true rfl) dX4_topple_42 (fun H locs hP hD hS => ?_)
    have hP : va_P (dC, dI) vwCl (wTop tp ly lyg lyt (tipG n E DG j 1 LYG) LYT tl tlg tlt TLG TLT ne neg net NEG NET su sug sut SUG SUT kp kr KH km sw (tps + 1) rt pl P st my co C la lag lat LG LT po pog pot OG OT cJ cJJ cI cII mo eo dg to er n E DG tr T) H := hP
    have hD : va_D A (wTop tp ly lyg lyt (tipG n E DG j 1 LYG) LYT tl tlg tlt TLG TLT ne neg net NEG NET su sug sut SUG SUT kp kr KH km sw (tps + 1) rt pl P st my co C la lag lat LG LT po pog pot OG OT cJ cJJ cI cII mo eo dg to er n E DG tr T) := hD
    refine lv_aload_n hx hb dX4_topple_45 rfl (lv_at hl 0 rfl) ?_
    refine lv_dup hx hb dX4_topple_46 rfl ?_
    refine va_get (D := (dC, dI)) (ci := kX4) (v := .int sw) (C := RX4) (T := TX4) (N := 11) hx hb hts hi_X4 hown hK hP 0 rfl rfl 9 (by decide) hf_108 (fun _ h9 => h9) rfl dX4_topple_47 ?_
    refine lv_aload_n hx hb dX4_topple_50 rfl (lv_at hl 0 rfl) ?_
    refine va_get (D := (dC, dI)) (ci := kX4) (v := .ref mo) (C := RX4) (T := TX4) (N := 11) hx hb hts hi_X4 hown hK hP 0 rfl rfl 0 (by decide) hf_10 (fun _ h9 => h9) rfl dX4_topple_51 ?_
    refine va_get (D := (dC, dI)) (ci := kX2) (v := .ref eo) (C := RX2) (T := TX2) (N := 4) hx hb hts hi_X2 hown hK hP 28 rfl rfl 1 (by decide) hf_77 (fun _ h9 => h9) rfl dX4_topple_54 ?_
    refine lv_iload_n hx hb dX4_topple_57 rfl (lv_at hl 1 rfl) ?_
    refine kt_aald hx hb hK hP 29 1 rfl rfl (by omega) (by decide) dX4_topple_58 ?_
    refine lv_bipush (v := nI 6) hx hb dX4_topple_59 (by decide) ?_
    refine kt_iald hx hb hK hP (30 + j) 0 (row_wTop_er (by omega)) rfl (by omega) (by decide) dX4_topple_61 ?_
    refine lv_iadd hx hb dX4_topple_62 ?_
    refine va_put (D := (dC, dI)) (ci := kX4) (v := .int (sw + (E j 6))) (ty := .int) (C := RX4) (T := TX4) (N := 11) hx hb hts hi_X4 tyX4 tyX4_ok nmX4 hown hK hP hD hS 0 rfl rfl 9 (by decide) hf_108 (fun _ h9 => h9) rfl (by decide +kernel) rfl rfl (Nat.le_of_ble_eq_true rfl) dX4_topple_63 (fun H locs hP hD hS => ?_)
    have hP : va_P (dC, dI) vwCl (wTop tp ly lyg lyt (tipG n E DG j 1 LYG) LYT tl tlg tlt TLG TLT ne neg net NEG NET su sug sut SUG SUT kp kr KH km (sw + (E j 6)) (tps + 1) rt pl P st my co C la lag lat LG LT po pog pot OG OT cJ cJJ cI cII mo eo dg to er n E DG tr T) H := hP
    have hD : va_D A (wTop tp ly lyg lyt (tipG n E DG j 1 LYG) LYT tl tlg tlt TLG TLT ne neg net NEG NET su sug sut SUG SUT kp kr KH km (sw + (E j 6)) (tps + 1) rt pl P st my co C la lag lat LG LT po pog pot OG OT cJ cJJ cI cII mo eo dg to er n E DG tr T) := hD
    refine lv_aload_n hx hb dX4_topple_66 rfl (lv_at hl 0 rfl) ?_
    refine va_get (D := (dC, dI)) (ci := kX4) (v := .ref mo) (C := RX4) (T := TX4) (N := 11) hx hb hts hi_X4 hown hK hP 0 rfl rfl 0 (by decide) hf_10 (fun _ h9 => h9) rfl dX4_topple_67 ?_
    refine va_get (D := (dC, dI)) (ci := kX2) (v := .ref eo) (C := RX2) (T := TX2) (N := 4) hx hb hts hi_X2 hown hK hP 28 rfl rfl 1 (by decide) hf_77 (fun _ h9 => h9) rfl dX4_topple_70 ?_
    refine lv_iload_n hx hb dX4_topple_73 rfl (lv_at hl 1 rfl) ?_
    refine kt_aald hx hb hK hP 29 1 rfl rfl (by omega) (by decide) dX4_topple_74 ?_
    refine lv_bipush (v := nI 6) hx hb dX4_topple_75 (by decide) ?_
    refine kt_iald hx hb hK hP (30 + j) 0 (row_wTop_er (by omega)) rfl (by omega) (by decide) dX4_topple_77 ?_
    exact kt_iret (W' := wTop tp ly lyg lyt (tipG n E DG j 1 LYG) LYT tl tlg tlt TLG TLT ne neg net NEG NET su sug sut SUG SUT kp kr KH km (sw + E j 6) (tps + 1) rt pl P st my co C la lag lat LG LT po pog pot OG OT cJ cJJ cI cII mo eo dg to er n E DG tr T) hx hb hr hS hP hK hD (rfl) hlocks dX4_topple_78
  · exact absurd (show False by rw [hst] at c13; exact absurd c13 (by decide)) id

set_option maxHeartbeats 4000000 in
set_option maxRecDepth 100000 in
theorem c_X4_settleLying (l : Launch) (dC : Nat → ClassId) (dI : Nat → Nat → Nat) (cI cII cJ cJJ : ClassId) (tp : Nat) (ly : Nat) (lyg : Nat) (lyt : Nat) (LYG : Nat → Int32) (LYT : Nat → Int32) (tl : Nat) (tlg : Nat) (tlt : Nat) (TLG : Nat → Int32) (TLT : Nat → Int32) (ne : Nat) (neg : Nat) (net : Nat) (NEG : Nat → Int32) (NET : Nat → Int32) (su : Nat) (sug : Nat) (sut : Nat) (SUG : Nat → Int32) (SUT : Nat → Int32) (kp : Nat) (kr : Nat → Nat) (KH : Nat → Nat → Int32) (km : Nat) (sw : Int32) (tps : Int32) (rt : Nat) (pl : Nat) (P : Nat → Int32) (st : Int32) (my : Nat) (co : Nat) (C : Nat → Int32) (la : Nat) (lag : Nat) (lat : Nat) (LG : Nat → Int32) (LT : Nat → Int32) (po : Nat) (pog : Nat) (pot : Nat) (OG : Nat → Int32) (OT : Nat → Int32) (mo : Nat) (eo : Nat) (dg : Nat) (to : Nat) (er : Nat → Nat) (n : Nat) (E : Nat → Nat → Int32) (DG : Nat → Int32) (tr : Nat → Nat) (T : Nat → Nat → Int64) (sz : Nat) (hn : n ≤ 6) : Met l yX4_settleLying wsX4_settleLying ({ frames := 3, cells := 0, slots := 0, locals := 69 }) (va_Pc [.ref tp] (PRE (dC, dI) (tyL cI cII cJ cJJ) (wTop tp ly lyg lyt LYG LYT tl tlg tlt TLG TLT ne neg net NEG NET su sug sut SUG SUT kp kr KH km sw tps rt pl P st my co C la lag lat LG LT po pog pot OG OT cJ cJJ cI cII mo eo dg to er n E DG tr T) sz)) (va_Qi (fun (r' : Int32) (_ : Unit) => r' = sumN (rollF n E DG LYG).2 n) (fun _ tS => ATW (dC, dI) (tyL cI cII cJ cJJ) (va_A (wTop tp ly lyg lyt LYG LYT tl tlg tlt TLG TLT ne neg net NEG NET su sug sut SUG SUT kp kr KH km sw tps rt pl P st my co C la lag lat LG LT po pog pot OG OT cJ cJJ cI cII mo eo dg to er n E DG tr T) sz) (wTop tp ly lyg lyt ((rollF n E DG LYG).1) ((rollF n E DG LYG).2) tl tlg tlt TLG TLT ne neg net NEG NET su sug sut SUG SUT kp kr KH km (sw + sumN (fun k => (rollF n E DG LYG).2 k * E k 6) n) (tps + sumN (rollF n E DG LYG).2 n) rt pl P st my co C la lag lat LG LT po pog pot OG OT cJ cJJ cI cII mo eo dg to er n E DG tr T) tS) (va_A (wTop tp ly lyg lyt LYG LYT tl tlg tlt TLG TLT ne neg net NEG NET su sug sut SUG SUT kp kr KH km sw tps rt pl P st my co C la lag lat LG LT po pog pot OG OT cJ cJJ cI cII mo eo dg to er n E DG tr T) sz)) 0 0 (va_A (wTop tp ly lyg lyt LYG LYT tl tlg tlt TLG TLT ne neg net NEG NET su sug sut SUG SUT kp kr KH km sw tps rt pl P st my co C la lag lat LG LT po pog pot OG OT cJ cJJ cI cII mo eo dg to er n E DG tr T) sz) := by
  refine Met.ofW (cc := cX4_settleLying) (maxL := 2) (ret := (some .int)) (by decide) rfl ?_
  intro p e s m args below meth c s₁ B hml hv
  obtain ⟨rfl, hsz, hP, hK, hD0⟩ := hv
  have hx := B.exec
  have hb := B.bytes
  have hr := B.returns
  have hlocks := B.notSynchronized
  have hts := atoms_spec (ws := wsX4_settleLying) B.pre
  have hown : s.vm.findClass RX4 = some m.cls := findClass_of_methodNamed B.named
  subst hsz
  have hD := hD0.self (sz := s.heap.size)
  generalize hAe : va_A (wTop tp ly lyg lyt LYG LYT tl tlg tlt TLG TLT ne neg net NEG NET su sug sut SUG SUT kp kr KH km sw tps rt pl P st my co C la lag lat LG LT po pog pot OG OT cJ cJJ cI cII mo eo dg to er n E DG tr T) s.heap.size = A at hD ⊢
  have hA : ∀ q : Nat, s.heap.size ≤ q → A q := fun q h => by rw [← hAe]; exact Or.inr h
  have hS : va_S A s.heap s.heap [] := va_S.rf
  have hl := lv_entry ([.ref tp]) (n := 2) (Nat.le_of_ble_eq_true rfl)
  rw [lg_entry_eq]
  generalize (lg_sl ([.ref tp]) ++ List.replicate (2 - (lg_sl ([.ref tp])).length) Slot.unset).toArray = ls at hl ⊢
  have hl : lv_has ls 2 [(0, .ref tp)] := hl
  have hi_X4 : ∀ w ∈ u_ws RX4 TX4 11, w ∈ wsX4_settleLying := by decide +kernel
  have hf_21 := hts (.fieldLink RX4 21 "Topplemoor" "lying" "LTopplemoor$Heap;") (by decide +kernel)
  have hf_105 := hts (.fieldLink RX4 105 "Topplemoor" "topples" "I") (by decide +kernel)
  have hf_108 := hts (.fieldLink RX4 108 "Topplemoor" "swallowed" "I") (by decide +kernel)
  refine lv_aload_n hx hb dX4_settleLying_0 rfl (lv_at hl 0 rfl) ?_
  refine va_get (D := (dC, dI)) (ci := kX4) (v := .ref ly) (C := RX4) (T := TX4) (N := 11) hx hb hts hi_X4 hown hK hP 0 rfl rfl 1 (by decide) hf_21 (fun _ h9 => h9) rfl dX4_settleLying_1 ?_
  refine kt_callv (w' := wTop tp ly lyg lyt ((rollF n E DG LYG).1) ((rollF n E DG LYG).2) tl tlg tlt TLG TLT ne neg net NEG NET su sug sut SUG SUT kp kr KH km sw tps rt pl P st my co C la lag lat LG LT po pog pot OG OT cJ cJJ cI cII mo eo dg to er n E DG tr T) (rest := []) (As := []) ⟨hx, hb, hml, hown, hts⟩ (c_X0_roll l dC dI cI cII cJ cJJ ly lyg lyt LYG LYT mo eo dg to er n E DG _ (hn)) (cwV 0 hts gX4_settleLying_X0_roll rfl rfl rfl (by decide +kernel) ⟨Nat.le_of_ble_eq_true rfl, Nat.le_of_ble_eq_true rfl⟩) hK hP hD hS hA [1, 2, 3, 28, 29, 30, 31, 32, 33, 34, 35, 36, 37] sw_wTop_wHM_0 rfl 1 kX0 rfl rfl rfl rfl rfl hl.1 (Nat.le_of_ble_eq_true rfl) dX4_settleLying_4 ⟨Nat.zero_le _, Nat.zero_le _⟩ (fun H locs hP hD hS => ?_)
  refine lv_aload_n hx hb dX4_settleLying_7 rfl (lv_at hl 0 rfl) ?_
  refine va_get (D := (dC, dI)) (ci := kX4) (v := .ref ly) (C := RX4) (T := TX4) (N := 11) hx hb hts hi_X4 hown hK hP 0 rfl rfl 1 (by decide) hf_21 (fun _ h9 => h9) rfl dX4_settleLying_8 ?_
  refine kt_calli (w' := wTop tp ly lyg lyt ((rollF n E DG LYG).1) ((rollF n E DG LYG).2) tl tlg tlt TLG TLT ne neg net NEG NET su sug sut SUG SUT kp kr KH km sw tps rt pl P st my co C la lag lat LG LT po pog pot OG OT cJ cJJ cI cII mo eo dg to er n E DG tr T) (rest := []) (As := []) ⟨hx, hb, hml, hown, hts⟩ (c_X0_allTimes l dC dI cI cII cJ cJJ ly lyg lyt ((rollF n E DG LYG).1) ((rollF n E DG LYG).2) mo eo dg to er n E DG _ (hn)) (cwV 0 hts gX4_settleLying_X0_allTimes rfl rfl rfl (by decide +kernel) ⟨Nat.le_of_ble_eq_true rfl, Nat.le_of_ble_eq_true rfl⟩) hK hP hD hS hA [1, 2, 3, 28, 29, 30, 31, 32, 33, 34, 35, 36, 37] sw_wTop_wHM_0 rfl 1 kX0 rfl rfl rfl rfl rfl hl.1 (Nat.le_of_ble_eq_true rfl) dX4_settleLying_11 ⟨Nat.zero_le _, Nat.zero_le _⟩ (fun H locs hP hD hS => ?_)
  refine lv_istore_n (lv' := [(1, .int (sumN ((rollF n E DG LYG).2) n)), (0, .ref tp)]) hx hb dX4_settleLying_14 rfl hl (by decide) rfl (fun ls hl => ?_)
  refine lv_aload_n hx hb dX4_settleLying_15 rfl (lv_at hl 1 rfl) ?_
  refine lv_dup hx hb dX4_settleLying_16 rfl ?_
  refine va_get (D := (dC, dI)) (ci := kX4) (v := .int tps) (C := RX4) (T := TX4) (N := 11) hx hb hts hi_X4 hown hK hP 0 rfl rfl 10 (by decide) hf_105 (fun _ h9 => h9) rfl dX4_settleLying_17 ?_
  refine lv_iload_n hx hb dX4_settleLying_20 rfl (lv_at hl 0 rfl) ?_
  refine lv_iadd hx hb dX4_settleLying_21 ?_
  refine va_put (D := (dC, dI)) (ci := kX4) (v := .int (tps + (sumN ((rollF n E DG LYG).2) n))) (ty := .int) (C := RX4) (T := TX4) (N := 11) hx hb hts hi_X4 tyX4 tyX4_ok nmX4 hown hK hP hD hS 0 rfl rfl 10 (by decide) hf_105 (fun _ h9 => h9) rfl (by decide +kernel) rfl rfl (Nat.le_of_ble_eq_true rfl) dX4_settleLying_22 (fun H locs hP hD hS => ?_)
  have hP : va_P (dC, dI) vwCl (wTop tp ly lyg lyt ((rollF n E DG LYG).1) ((rollF n E DG LYG).2) tl tlg tlt TLG TLT ne neg net NEG NET su sug sut SUG SUT kp kr KH km sw (tps + (sumN ((rollF n E DG LYG).2) n)) rt pl P st my co C la lag lat LG LT po pog pot OG OT cJ cJJ cI cII mo eo dg to er n E DG tr T) H := hP
  have hD : va_D A (wTop tp ly lyg lyt ((rollF n E DG LYG).1) ((rollF n E DG LYG).2) tl tlg tlt TLG TLT ne neg net NEG NET su sug sut SUG SUT kp kr KH km sw (tps + (sumN ((rollF n E DG LYG).2) n)) rt pl P st my co C la lag lat LG LT po pog pot OG OT cJ cJJ cI cII mo eo dg to er n E DG tr T) := hD
  refine lv_aload_n hx hb dX4_settleLying_25 rfl (lv_at hl 1 rfl) ?_
  refine lv_dup hx hb dX4_settleLying_26 rfl ?_
  refine va_get (D := (dC, dI)) (ci := kX4) (v := .int sw) (C := RX4) (T := TX4) (N := 11) hx hb hts hi_X4 hown hK hP 0 rfl rfl 9 (by decide) hf_108 (fun _ h9 => h9) rfl dX4_settleLying_27 ?_
  refine lv_aload_n hx hb dX4_settleLying_30 rfl (lv_at hl 1 rfl) ?_
  refine va_get (D := (dC, dI)) (ci := kX4) (v := .ref ly) (C := RX4) (T := TX4) (N := 11) hx hb hts hi_X4 hown hK hP 0 rfl rfl 1 (by decide) hf_21 (fun _ h9 => h9) rfl dX4_settleLying_31 ?_
  refine kt_calli (w' := wTop tp ly lyg lyt ((rollF n E DG LYG).1) ((rollF n E DG LYG).2) tl tlg tlt TLG TLT ne neg net NEG NET su sug sut SUG SUT kp kr KH km sw (tps + (sumN ((rollF n E DG LYG).2) n)) rt pl P st my co C la lag lat LG LT po pog pot OG OT cJ cJJ cI cII mo eo dg to er n E DG tr T) (rest := [.int sw, .ref tp]) (As := []) ⟨hx, hb, hml, hown, hts⟩ (c_X0_swallowedByRoll l dC dI cI cII cJ cJJ ly lyg lyt ((rollF n E DG LYG).1) ((rollF n E DG LYG).2) mo eo dg to er n E DG _ (hn)) (cwV 0 hts gX4_settleLying_X0_swallowedByRoll rfl rfl rfl (by decide +kernel) ⟨Nat.le_of_ble_eq_true rfl, Nat.le_of_ble_eq_true rfl⟩) hK hP hD hS hA [1, 2, 3, 28, 29, 30, 31, 32, 33, 34, 35, 36, 37] sw_wTop_wHM_0 rfl 1 kX0 rfl rfl rfl rfl rfl hl.1 (Nat.le_of_ble_eq_true rfl) dX4_settleLying_34 ⟨Nat.zero_le _, Nat.zero_le _⟩ (fun H locs hP hD hS => ?_)
  refine lv_iadd hx hb dX4_settleLying_37 ?_
  refine va_put (D := (dC, dI)) (ci := kX4) (v := .int (sw + (sumN (fun k => ((rollF n E DG LYG).2) k * E k 6) n))) (ty := .int) (C := RX4) (T := TX4) (N := 11) hx hb hts hi_X4 tyX4 tyX4_ok nmX4 hown hK hP hD hS 0 rfl rfl 9 (by decide) hf_108 (fun _ h9 => h9) rfl (by decide +kernel) rfl rfl (Nat.le_of_ble_eq_true rfl) dX4_settleLying_38 (fun H locs hP hD hS => ?_)
  have hP : va_P (dC, dI) vwCl (wTop tp ly lyg lyt ((rollF n E DG LYG).1) ((rollF n E DG LYG).2) tl tlg tlt TLG TLT ne neg net NEG NET su sug sut SUG SUT kp kr KH km (sw + (sumN (fun k => ((rollF n E DG LYG).2) k * E k 6) n)) (tps + (sumN ((rollF n E DG LYG).2) n)) rt pl P st my co C la lag lat LG LT po pog pot OG OT cJ cJJ cI cII mo eo dg to er n E DG tr T) H := hP
  have hD : va_D A (wTop tp ly lyg lyt ((rollF n E DG LYG).1) ((rollF n E DG LYG).2) tl tlg tlt TLG TLT ne neg net NEG NET su sug sut SUG SUT kp kr KH km (sw + (sumN (fun k => ((rollF n E DG LYG).2) k * E k 6) n)) (tps + (sumN ((rollF n E DG LYG).2) n)) rt pl P st my co C la lag lat LG LT po pog pot OG OT cJ cJJ cI cII mo eo dg to er n E DG tr T) := hD
  refine lv_iload_n hx hb dX4_settleLying_41 rfl (lv_at hl 0 rfl) ?_
  exact kt_iret (W' := wTop tp ly lyg lyt ((rollF n E DG LYG).1) ((rollF n E DG LYG).2) tl tlg tlt TLG TLT ne neg net NEG NET su sug sut SUG SUT kp kr KH km (sw + sumN (fun k => (rollF n E DG LYG).2 k * E k 6) n) (tps + sumN (rollF n E DG LYG).2 n) rt pl P st my co C la lag lat LG LT po pog pot OG OT cJ cJJ cI cII mo eo dg to er n E DG tr T) hx hb hr hS hP hK hD (rfl) hlocks dX4_settleLying_42

set_option maxHeartbeats 4000000 in
set_option maxRecDepth 100000 in
theorem c_X4_settle (l : Launch) (dC : Nat → ClassId) (dI : Nat → Nat → Nat) (cI cII cJ cJJ : ClassId) (tp : Nat) (ly : Nat) (lyg : Nat) (lyt : Nat) (LYG : Nat → Int32) (LYT : Nat → Int32) (tl : Nat) (tlg : Nat) (tlt : Nat) (TLG : Nat → Int32) (TLT : Nat → Int32) (ne : Nat) (neg : Nat) (net : Nat) (NEG : Nat → Int32) (NET : Nat → Int32) (su : Nat) (sug : Nat) (sut : Nat) (SUG : Nat → Int32) (SUT : Nat → Int32) (kp : Nat) (kr : Nat → Nat) (KH : Nat → Nat → Int32) (km : Nat) (sw : Int32) (tps : Int32) (rt : Nat) (pl : Nat) (P : Nat → Int32) (st : Int32) (my : Nat) (co : Nat) (C : Nat → Int32) (la : Nat) (lag : Nat) (lat : Nat) (LG : Nat → Int32) (LT : Nat → Int32) (po : Nat) (pog : Nat) (pot : Nat) (OG : Nat → Int32) (OT : Nat → Int32) (mo : Nat) (eo : Nat) (dg : Nat) (to : Nat) (er : Nat → Nat) (n : Nat) (E : Nat → Nat → Int32) (DG : Nat → Int32) (tr : Nat → Nat) (T : Nat → Nat → Int64) (sz : Nat) (hn : n ≤ 6) (hfast : fastB n E = true) : Met l yX4_settle wsX4_settle ({ frames := 4, cells := 0, slots := 0, locals := 90 }) (va_Pc [.ref tp] (PRE (dC, dI) (tyL cI cII cJ cJJ) (wTop tp ly lyg lyt LYG LYT tl tlg tlt TLG TLT ne neg net NEG NET su sug sut SUG SUT kp kr KH km sw tps rt pl P st my co C la lag lat LG LT po pog pot OG OT cJ cJJ cI cII mo eo dg to er n E DG tr T) sz)) (va_Qi (fun (r' : Int32) (_ : Unit) => r' = sumN (rollF n E DG LYG).2 n) (fun _ tS => ATW (dC, dI) (tyL cI cII cJ cJJ) (va_A (wTop tp ly lyg lyt LYG LYT tl tlg tlt TLG TLT ne neg net NEG NET su sug sut SUG SUT kp kr KH km sw tps rt pl P st my co C la lag lat LG LT po pog pot OG OT cJ cJJ cI cII mo eo dg to er n E DG tr T) sz) (wTop tp ly lyg lyt ((rollF n E DG LYG).1) ((rollF n E DG LYG).2) tl tlg tlt TLG TLT ne neg net NEG NET su sug sut SUG SUT kp kr KH km (sw + sumN (fun k => (rollF n E DG LYG).2 k * E k 6) n) (tps + sumN (rollF n E DG LYG).2 n) rt pl P st my co C la lag lat LG LT po pog pot OG OT cJ cJJ cI cII mo eo dg to er n E DG tr T) tS) (va_A (wTop tp ly lyg lyt LYG LYT tl tlg tlt TLG TLT ne neg net NEG NET su sug sut SUG SUT kp kr KH km sw tps rt pl P st my co C la lag lat LG LT po pog pot OG OT cJ cJJ cI cII mo eo dg to er n E DG tr T) sz)) 0 0 (va_A (wTop tp ly lyg lyt LYG LYT tl tlg tlt TLG TLT ne neg net NEG NET su sug sut SUG SUT kp kr KH km sw tps rt pl P st my co C la lag lat LG LT po pog pot OG OT cJ cJJ cI cII mo eo dg to er n E DG tr T) sz) := by
  refine Met.ofW (cc := cX4_settle) (maxL := 1) (ret := (some .int)) (by decide) rfl ?_
  intro p e s m args below meth c s₁ B hml hv
  obtain ⟨rfl, hsz, hP, hK, hD0⟩ := hv
  have hx := B.exec
  have hb := B.bytes
  have hr := B.returns
  have hlocks := B.notSynchronized
  have hts := atoms_spec (ws := wsX4_settle) B.pre
  have hown : s.vm.findClass RX4 = some m.cls := findClass_of_methodNamed B.named
  subst hsz
  have hD := hD0.self (sz := s.heap.size)
  generalize hAe : va_A (wTop tp ly lyg lyt LYG LYT tl tlg tlt TLG TLT ne neg net NEG NET su sug sut SUG SUT kp kr KH km sw tps rt pl P st my co C la lag lat LG LT po pog pot OG OT cJ cJJ cI cII mo eo dg to er n E DG tr T) s.heap.size = A at hD ⊢
  have hA : ∀ q : Nat, s.heap.size ≤ q → A q := fun q h => by rw [← hAe]; exact Or.inr h
  have hS : va_S A s.heap s.heap [] := va_S.rf
  have hl := lv_entry ([.ref tp]) (n := 1) (Nat.le_of_ble_eq_true rfl)
  rw [lg_entry_eq]
  generalize (lg_sl ([.ref tp]) ++ List.replicate (1 - (lg_sl ([.ref tp])).length) Slot.unset).toArray = ls at hl ⊢
  have hl : lv_has ls 1 [(0, .ref tp)] := hl
  refine lv_aload_n hx hb dX4_settle_0 rfl (lv_at hl 0 rfl) ?_
  refine kt_callv (w' := wTop tp ly lyg lyt LYG LYT tl tlg tlt TLG TLT ne neg net NEG NET su sug sut SUG SUT kp kr KH km sw tps rt pl P st my co C la lag lat LG LT po pog pot OG OT cJ cJJ cI cII mo eo dg to er n E DG tr T) (rest := []) (As := []) ⟨hx, hb, hml, hown, hts⟩ (c_X4_requireFast l dC dI cI cII cJ cJJ tp ly lyg lyt LYG LYT tl tlg tlt TLG TLT ne neg net NEG NET su sug sut SUG SUT kp kr KH km sw tps rt pl P st my co C la lag lat LG LT po pog pot OG OT mo eo dg to er n E DG tr T _ (hn) (hfast)) (cwV 0 hts gX4_settle_X4_requireFast rfl rfl rfl (by decide +kernel) ⟨Nat.le_of_ble_eq_true rfl, Nat.le_of_ble_eq_true rfl⟩) hK hP hD hS hA (List.range' 0 45) sw_wTop_wTop_0 rfl 0 kX4 rfl rfl rfl rfl rfl hl.1 (Nat.le_of_ble_eq_true rfl) dX4_settle_1 ⟨Nat.zero_le _, Nat.zero_le _⟩ (fun H locs hP hD hS => ?_)
  refine lv_aload_n hx hb dX4_settle_4 rfl (lv_at hl 0 rfl) ?_
  refine kt_calli (w' := wTop tp ly lyg lyt ((rollF n E DG LYG).1) ((rollF n E DG LYG).2) tl tlg tlt TLG TLT ne neg net NEG NET su sug sut SUG SUT kp kr KH km (sw + sumN (fun k => (rollF n E DG LYG).2 k * E k 6) n) (tps + sumN (rollF n E DG LYG).2 n) rt pl P st my co C la lag lat LG LT po pog pot OG OT cJ cJJ cI cII mo eo dg to er n E DG tr T) (rest := []) (As := []) ⟨hx, hb, hml, hown, hts⟩ (c_X4_settleLying l dC dI cI cII cJ cJJ tp ly lyg lyt LYG LYT tl tlg tlt TLG TLT ne neg net NEG NET su sug sut SUG SUT kp kr KH km sw tps rt pl P st my co C la lag lat LG LT po pog pot OG OT mo eo dg to er n E DG tr T _ (hn)) (cwV 0 hts gX4_settle_X4_settleLying rfl rfl rfl (by decide +kernel) ⟨Nat.le_of_ble_eq_true rfl, Nat.le_of_ble_eq_true rfl⟩) hK hP hD hS hA (List.range' 0 45) sw_wTop_wTop_0 rfl 0 kX4 rfl rfl rfl rfl rfl hl.1 (Nat.le_of_ble_eq_true rfl) dX4_settle_5 ⟨Nat.zero_le _, Nat.zero_le _⟩ (fun H locs hP hD hS => ?_)
  exact kt_iret (W' := wTop tp ly lyg lyt ((rollF n E DG LYG).1) ((rollF n E DG LYG).2) tl tlg tlt TLG TLT ne neg net NEG NET su sug sut SUG SUT kp kr KH km (sw + sumN (fun k => (rollF n E DG LYG).2 k * E k 6) n) (tps + sumN (rollF n E DG LYG).2 n) rt pl P st my co C la lag lat LG LT po pog pot OG OT cJ cJJ cI cII mo eo dg to er n E DG tr T) hx hb hr hS hP hK hD (rfl) hlocks dX4_settle_8

theorem sw_wTop_wA_0 {tp : Nat} {ly : Nat} {lyg : Nat} {lyt : Nat} {LYG : Nat → Int32} {LYT : Nat → Int32} {tl : Nat} {tlg : Nat} {tlt : Nat} {TLG : Nat → Int32} {TLT : Nat → Int32} {ne : Nat} {neg : Nat} {net : Nat} {NEG : Nat → Int32} {NET : Nat → Int32} {su : Nat} {sug : Nat} {sut : Nat} {SUG : Nat → Int32} {SUT : Nat → Int32} {kp : Nat} {kr : Nat → Nat} {KH : Nat → Nat → Int32} {km : Nat} {sw : Int32} {tps : Int32} {rt : Nat} {pl : Nat} {P : Nat → Int32} {st : Int32} {my : Nat} {co : Nat} {C : Nat → Int32} {la : Nat} {lag : Nat} {lat : Nat} {LG : Nat → Int32} {LT : Nat → Int32} {po : Nat} {pog : Nat} {pot : Nat} {OG : Nat → Int32} {OT : Nat → Int32} {cJ : ClassId} {cJJ : ClassId} {cI : ClassId} {cII : ClassId} {mo : Nat} {eo : Nat} {dg : Nat} {to : Nat} {er : Nat → Nat} {n : Nat} {E : Nat → Nat → Int32} {DG : Nat → Int32} {tr : Nat → Nat} {T : Nat → Nat → Int64} {LYG' : Nat → Int32} : kt_sw (wTop tp ly lyg lyt LYG LYT tl tlg tlt TLG TLT ne neg net NEG NET su sug sut SUG SUT kp kr KH km sw tps rt pl P st my co C la lag lat LG LT po pog pot OG OT cJ cJJ cI cII mo eo dg to er n E DG tr T) (wTop tp ly lyg lyt LYG' LYT tl tlg tlt TLG TLT ne neg net NEG NET su sug sut SUG SUT kp kr KH km sw tps rt pl P st my co C la lag lat LG LT po pog pot OG OT cJ cJJ cI cII mo eo dg to er n E DG tr T) [2] (wA cI lyg LYG) (wA cI lyg LYG') := ⟨rfl, ⟨[none, none, some 0, none, none, none, none, none, none, none, none, none, none, none, none, none, none, none, none, none, none, none, none, none, none, none, none, none, none, none, none, none, none, none, none, none, none, none, none, none, none, none, none, none, none], rfl, by decide +kernel⟩, rfl⟩
set_option maxHeartbeats 4000000 in
set_option maxRecDepth 100000 in
theorem c_X4_sweep (l : Launch) (dC : Nat → ClassId) (dI : Nat → Nat → Nat) (cI cII cJ cJJ : ClassId) (tp : Nat) (ly : Nat) (lyg : Nat) (lyt : Nat) (LYG : Nat → Int32) (LYT : Nat → Int32) (tl : Nat) (tlg : Nat) (tlt : Nat) (TLG : Nat → Int32) (TLT : Nat → Int32) (ne : Nat) (neg : Nat) (net : Nat) (NEG : Nat → Int32) (NET : Nat → Int32) (su : Nat) (sug : Nat) (sut : Nat) (SUG : Nat → Int32) (SUT : Nat → Int32) (kp : Nat) (kr : Nat → Nat) (KH : Nat → Nat → Int32) (km : Nat) (sw : Int32) (tps : Int32) (rt : Nat) (pl : Nat) (P : Nat → Int32) (st : Int32) (my : Nat) (co : Nat) (C : Nat → Int32) (la : Nat) (lag : Nat) (lat : Nat) (LG : Nat → Int32) (LT : Nat → Int32) (po : Nat) (pog : Nat) (pot : Nat) (OG : Nat → Int32) (OT : Nat → Int32) (mo : Nat) (eo : Nat) (dg : Nat) (to : Nat) (er : Nat → Nat) (n : Nat) (E : Nat → Nat → Int32) (DG : Nat → Int32) (tr : Nat → Nat) (T : Nat → Nat → Int64) (sz : Nat) (hn : n ≤ 6) : Met l yX4_sweep wsX4_sweep ({ frames := 1, cells := 0, slots := 0, locals := 23 }) (va_Pc [.ref tp] (PRE (dC, dI) (tyL cI cII cJ cJJ) (wTop tp ly lyg lyt LYG LYT tl tlg tlt TLG TLT ne neg net NEG NET su sug sut SUG SUT kp kr KH km sw tps rt pl P st my co C la lag lat LG LT po pog pot OG OT cJ cJJ cI cII mo eo dg to er n E DG tr T) sz)) (va_Qi (fun (r' : Int32) (_ : Unit) => r' = sumN LYG n) (fun _ tS => ATW (dC, dI) (tyL cI cII cJ cJJ) (va_A (wTop tp ly lyg lyt LYG LYT tl tlg tlt TLG TLT ne neg net NEG NET su sug sut SUG SUT kp kr KH km sw tps rt pl P st my co C la lag lat LG LT po pog pot OG OT cJ cJJ cI cII mo eo dg to er n E DG tr T) sz) (wTop tp ly lyg lyt (fun _ => 0) LYT tl tlg tlt TLG TLT ne neg net NEG NET su sug sut SUG SUT kp kr KH km sw tps rt pl P st my co C la lag lat LG LT po pog pot OG OT cJ cJJ cI cII mo eo dg to er n E DG tr T) tS) (va_A (wTop tp ly lyg lyt LYG LYT tl tlg tlt TLG TLT ne neg net NEG NET su sug sut SUG SUT kp kr KH km sw tps rt pl P st my co C la lag lat LG LT po pog pot OG OT cJ cJJ cI cII mo eo dg to er n E DG tr T) sz)) 0 0 (va_A (wTop tp ly lyg lyt LYG LYT tl tlg tlt TLG TLT ne neg net NEG NET su sug sut SUG SUT kp kr KH km sw tps rt pl P st my co C la lag lat LG LT po pog pot OG OT cJ cJJ cI cII mo eo dg to er n E DG tr T) sz) := by
  refine Met.ofW (cc := cX4_sweep) (maxL := 2) (ret := (some .int)) (by decide) rfl ?_
  intro p e s m args below meth c s₁ B hml hv
  obtain ⟨rfl, hsz, hP, hK, hD0⟩ := hv
  have hx := B.exec
  have hb := B.bytes
  have hr := B.returns
  have hlocks := B.notSynchronized
  have hts := atoms_spec (ws := wsX4_sweep) B.pre
  have hown : s.vm.findClass RX4 = some m.cls := findClass_of_methodNamed B.named
  subst hsz
  have hD := hD0.self (sz := s.heap.size)
  generalize hAe : va_A (wTop tp ly lyg lyt LYG LYT tl tlg tlt TLG TLT ne neg net NEG NET su sug sut SUG SUT kp kr KH km sw tps rt pl P st my co C la lag lat LG LT po pog pot OG OT cJ cJJ cI cII mo eo dg to er n E DG tr T) s.heap.size = A at hD ⊢
  have hA : ∀ q : Nat, s.heap.size ≤ q → A q := fun q h => by rw [← hAe]; exact Or.inr h
  have hS : va_S A s.heap s.heap [] := va_S.rf
  have hl := lv_entry ([.ref tp]) (n := 2) (Nat.le_of_ble_eq_true rfl)
  rw [lg_entry_eq]
  generalize (lg_sl ([.ref tp]) ++ List.replicate (2 - (lg_sl ([.ref tp])).length) Slot.unset).toArray = ls at hl ⊢
  have hl : lv_has ls 2 [(0, .ref tp)] := hl
  have hi_X4 : ∀ w ∈ u_ws RX4 TX4 11, w ∈ wsX4_sweep := by decide +kernel
  have hf_21 := hts (.fieldLink RX4 21 "Topplemoor" "lying" "LTopplemoor$Heap;") (by decide +kernel)
  have hi_X0 : ∀ w ∈ u_ws RX0 TX0 3, w ∈ wsX4_sweep := by decide +kernel
  have hf_89 := hts (.fieldLink RX4 89 "Topplemoor$Heap" "grains" "[I") (by decide +kernel)
  refine lv_aload_n hx hb dX4_sweep_0 rfl (lv_at hl 0 rfl) ?_
  refine va_get (D := (dC, dI)) (ci := kX4) (v := .ref ly) (C := RX4) (T := TX4) (N := 11) hx hb hts hi_X4 hown hK hP 0 rfl rfl 1 (by decide) hf_21 (fun _ h9 => h9) rfl dX4_sweep_1 ?_
  refine kt_calli (w' := wTop tp ly lyg lyt LYG LYT tl tlg tlt TLG TLT ne neg net NEG NET su sug sut SUG SUT kp kr KH km sw tps rt pl P st my co C la lag lat LG LT po pog pot OG OT cJ cJJ cI cII mo eo dg to er n E DG tr T) (rest := []) (As := []) ⟨hx, hb, hml, hown, hts⟩ (c_X0_allGrains l dC dI cI cII cJ cJJ ly lyg lyt LYG LYT mo eo dg to er n E DG _ (hn)) (cwV 0 hts gX4_sweep_X0_allGrains rfl rfl rfl (by decide +kernel) ⟨Nat.le_of_ble_eq_true rfl, Nat.le_of_ble_eq_true rfl⟩) hK hP hD hS hA [1, 2, 3, 28, 29, 30, 31, 32, 33, 34, 35, 36, 37] sw_wTop_wHM_0 rfl 1 kX0 rfl rfl rfl rfl rfl hl.1 (Nat.le_of_ble_eq_true rfl) dX4_sweep_4 ⟨Nat.zero_le _, Nat.zero_le _⟩ (fun H locs hP hD hS => ?_)
  refine lv_istore_n (lv' := [(1, .int (sumN LYG n)), (0, .ref tp)]) hx hb dX4_sweep_7 rfl hl (by decide) rfl (fun ls hl => ?_)
  refine lv_aload_n hx hb dX4_sweep_8 rfl (lv_at hl 1 rfl) ?_
  refine va_get (D := (dC, dI)) (ci := kX4) (v := .ref ly) (C := RX4) (T := TX4) (N := 11) hx hb hts hi_X4 hown hK hP 0 rfl rfl 1 (by decide) hf_21 (fun _ h9 => h9) rfl dX4_sweep_9 ?_
  refine va_get (D := (dC, dI)) (ci := kX0) (v := .ref lyg) (C := RX0) (T := TX0) (N := 3) hx hb hts hi_X0 hown hK hP 1 rfl rfl 0 (by decide) hf_89 (fun _ h9 => h9) rfl dX4_sweep_12 ?_
  refine lv_iconst (v := 0) hx hb dX4_sweep_15 (by decide) ?_
  refine kt_callSv (w' := wTop tp ly lyg lyt (it (fillS 0) 6 LYG) LYT tl tlg tlt TLG TLT ne neg net NEG NET su sug sut SUG SUT kp kr KH km sw tps rt pl P st my co C la lag lat LG LT po pog pot OG OT cJ cJJ cI cII mo eo dg to er n E DG tr T) (rest := []) (As := [.ref lyg, .int 0]) ⟨hx, hb, hml, hown, hts⟩ (c_J7_fill_53178 l dC dI cI cII cJ cJJ lyg LYG 0 _ ) (va_cwS 2 hts gX4_sweep_J7_fill_53178 rfl rfl rfl (by decide +kernel) ⟨Nat.le_of_ble_eq_true rfl, Nat.le_of_ble_eq_true rfl⟩) hK hP hD hS hA [2] sw_wTop_wA_0 rfl rfl rfl hl.1 (Nat.le_of_ble_eq_true rfl) dX4_sweep_16 ⟨Nat.zero_le _, Nat.zero_le _⟩ (fun H locs hP hD hS => ?_)
  obtain ⟨hP, hD⟩ := kt_chg (fun _ => 0) hP hD 2 rfl (fun j hj => fill_at 0 LYG 6 j hj)
  have hP : va_P (dC, dI) vwCl (wTop tp ly lyg lyt (fun _ => 0) LYT tl tlg tlt TLG TLT ne neg net NEG NET su sug sut SUG SUT kp kr KH km sw tps rt pl P st my co C la lag lat LG LT po pog pot OG OT cJ cJJ cI cII mo eo dg to er n E DG tr T) H := hP
  have hD : va_D A (wTop tp ly lyg lyt (fun _ => 0) LYT tl tlg tlt TLG TLT ne neg net NEG NET su sug sut SUG SUT kp kr KH km sw tps rt pl P st my co C la lag lat LG LT po pog pot OG OT cJ cJJ cI cII mo eo dg to er n E DG tr T) := hD
  refine lv_iload_n hx hb dX4_sweep_19 rfl (lv_at hl 0 rfl) ?_
  exact kt_iret (W' := wTop tp ly lyg lyt (fun _ => 0) LYT tl tlg tlt TLG TLT ne neg net NEG NET su sug sut SUG SUT kp kr KH km sw tps rt pl P st my co C la lag lat LG LT po pog pot OG OT cJ cJJ cI cII mo eo dg to er n E DG tr T) hx hb hr hS hP hK hD (rfl) hlocks dX4_sweep_20

set_option maxHeartbeats 4000000 in
set_option maxRecDepth 100000 in
theorem c_X4_pay (l : Launch) (dC : Nat → ClassId) (dI : Nat → Nat → Nat) (cI cII cJ cJJ : ClassId) (tp : Nat) (ly : Nat) (lyg : Nat) (lyt : Nat) (LYG : Nat → Int32) (LYT : Nat → Int32) (tl : Nat) (tlg : Nat) (tlt : Nat) (TLG : Nat → Int32) (TLT : Nat → Int32) (ne : Nat) (neg : Nat) (net : Nat) (NEG : Nat → Int32) (NET : Nat → Int32) (su : Nat) (sug : Nat) (sut : Nat) (SUG : Nat → Int32) (SUT : Nat → Int32) (kp : Nat) (kr : Nat → Nat) (KH : Nat → Nat → Int32) (km : Nat) (sw : Int32) (tps : Int32) (rt : Nat) (pl : Nat) (P : Nat → Int32) (st : Int32) (my : Nat) (co : Nat) (C : Nat → Int32) (la : Nat) (lag : Nat) (lat : Nat) (LG : Nat → Int32) (LT : Nat → Int32) (po : Nat) (pog : Nat) (pot : Nat) (OG : Nat → Int32) (OT : Nat → Int32) (mo : Nat) (eo : Nat) (dg : Nat) (to : Nat) (er : Nat → Nat) (n : Nat) (E : Nat → Nat → Int32) (DG : Nat → Int32) (tr : Nat → Nat) (T : Nat → Nat → Int64) (a : Nat) (q : Int32) (sz : Nat) (hn : n ≤ 6) (ha : a < n ∨ a = 6) (hq9 : ¬ q < -9) (hqm : q ≤ 9) : Met l yX4_pay wsX4_pay ({ frames := 3, cells := 0, slots := 0, locals := 63 }) (va_Pc [.ref tp, .int (nI a), .int q] (PRE (dC, dI) (tyL cI cII cJ cJJ) (wTop tp ly lyg lyt LYG LYT tl tlg tlt TLG TLT ne neg net NEG NET su sug sut SUG SUT kp kr KH km sw tps rt pl P st my co C la lag lat LG LT po pog pot OG OT cJ cJJ cI cII mo eo dg to er n E DG tr T) sz)) (va_Qi (fun (r' : Int32) (_ : Unit) => r' = C a + q) (fun _ tS => ATW (dC, dI) (tyL cI cII cJ cJJ) (va_A (wTop tp ly lyg lyt LYG LYT tl tlg tlt TLG TLT ne neg net NEG NET su sug sut SUG SUT kp kr KH km sw tps rt pl P st my co C la lag lat LG LT po pog pot OG OT cJ cJJ cI cII mo eo dg to er n E DG tr T) sz) (wTop tp ly lyg lyt LYG LYT tl tlg tlt TLG TLT ne neg net NEG NET su sug sut SUG SUT kp kr KH km sw tps rt pl P st my co (upd C a (C a + q)) la lag lat LG LT po pog pot OG OT cJ cJJ cI cII mo eo dg to er n E DG tr T) tS) (va_A (wTop tp ly lyg lyt LYG LYT tl tlg tlt TLG TLT ne neg net NEG NET su sug sut SUG SUT kp kr KH km sw tps rt pl P st my co C la lag lat LG LT po pog pot OG OT cJ cJJ cI cII mo eo dg to er n E DG tr T) sz)) 0 0 (va_A (wTop tp ly lyg lyt LYG LYT tl tlg tlt TLG TLT ne neg net NEG NET su sug sut SUG SUT kp kr KH km sw tps rt pl P st my co C la lag lat LG LT po pog pot OG OT cJ cJJ cI cII mo eo dg to er n E DG tr T) sz) := by
  refine Met.ofW (cc := cX4_pay) (maxL := 3) (ret := (some .int)) (by decide) rfl ?_
  intro p e s m args below meth c s₁ B hml hv
  obtain ⟨rfl, hsz, hP, hK, hD0⟩ := hv
  have hx := B.exec
  have hb := B.bytes
  have hr := B.returns
  have hlocks := B.notSynchronized
  have hts := atoms_spec (ws := wsX4_pay) B.pre
  have hown : s.vm.findClass RX4 = some m.cls := findClass_of_methodNamed B.named
  subst hsz
  have hD := hD0.self (sz := s.heap.size)
  generalize hAe : va_A (wTop tp ly lyg lyt LYG LYT tl tlg tlt TLG TLT ne neg net NEG NET su sug sut SUG SUT kp kr KH km sw tps rt pl P st my co C la lag lat LG LT po pog pot OG OT cJ cJJ cI cII mo eo dg to er n E DG tr T) s.heap.size = A at hD ⊢
  have hA : ∀ q : Nat, s.heap.size ≤ q → A q := fun q h => by rw [← hAe]; exact Or.inr h
  have hS : va_S A s.heap s.heap [] := va_S.rf
  have hl := lv_entry ([.ref tp, .int (nI a), .int q]) (n := 3) (Nat.le_of_ble_eq_true rfl)
  rw [lg_entry_eq]
  generalize (lg_sl ([.ref tp, .int (nI a), .int q]) ++ List.replicate (3 - (lg_sl ([.ref tp, .int (nI a), .int q])).length) Slot.unset).toArray = ls at hl ⊢
  have hl : lv_has ls 3 [(0, .ref tp), (1, .int (nI a)), (2, .int q)] := hl
  have hi_X4 : ∀ w ∈ u_ws RX4 TX4 11, w ∈ wsX4_pay := by decide +kernel
  have hf_44 := hts (.fieldLink RX4 44 "Topplemoor" "money" "LTopplemoor$Money;") (by decide +kernel)
  have hi_X1 : ∀ w ∈ u_ws RX1 TX1 4, w ∈ wsX4_pay := by decide +kernel
  have hf_149 := hts (.fieldLink RX4 149 "Topplemoor$Money" "coins" "[I") (by decide +kernel)
  refine lv_aload_n hx hb dX4_pay_0 rfl (lv_at hl 0 rfl) ?_
  refine lv_iload_n hx hb dX4_pay_1 rfl (lv_at hl 1 rfl) ?_
  refine kt_callv (w' := wTop tp ly lyg lyt LYG LYT tl tlg tlt TLG TLT ne neg net NEG NET su sug sut SUG SUT kp kr KH km sw tps rt pl P st my co C la lag lat LG LT po pog pot OG OT cJ cJJ cI cII mo eo dg to er n E DG tr T) (rest := []) (As := [.int (nI a)]) ⟨hx, hb, hml, hown, hts⟩ (c_X4_requireNode l dC dI cI cII cJ cJJ tp ly lyg lyt LYG LYT tl tlg tlt TLG TLT ne neg net NEG NET su sug sut SUG SUT kp kr KH km sw tps rt pl P st my co C la lag lat LG LT po pog pot OG OT mo eo dg to er n E DG tr T a _ (hn) (ha)) (cwV 1 hts gX4_pay_X4_requireNode rfl rfl rfl (by decide +kernel) ⟨Nat.le_of_ble_eq_true rfl, Nat.le_of_ble_eq_true rfl⟩) hK hP hD hS hA (List.range' 0 45) sw_wTop_wTop_0 rfl 0 kX4 rfl rfl rfl rfl rfl hl.1 (Nat.le_of_ble_eq_true rfl) dX4_pay_2 ⟨Nat.zero_le _, Nat.zero_le _⟩ (fun H locs hP hD hS => ?_)
  refine lv_iload_n hx hb dX4_pay_5 rfl (lv_at hl 2 rfl) ?_
  refine lv_bipush (v := (-9)) hx hb dX4_pay_6 (by decide) ?_
  refine lv_bipush (v := 9) hx hb dX4_pay_8 (by decide) ?_
  refine kt_callSv (w' := wTop tp ly lyg lyt LYG LYT tl tlg tlt TLG TLT ne neg net NEG NET su sug sut SUG SUT kp kr KH km sw tps rt pl P st my co C la lag lat LG LT po pog pot OG OT cJ cJJ cI cII mo eo dg to er n E DG tr T) (rest := []) (As := [.int q, .int (-9), .int 9]) ⟨hx, hb, hml, hown, hts⟩ (c_X4_requireWithin l dC dI cI cII cJ cJJ q (-9) 9 _ (hq9) (hqm)) (va_cwS 3 hts gX4_pay_X4_requireWithin rfl rfl rfl (by decide +kernel) ⟨Nat.le_of_ble_eq_true rfl, Nat.le_of_ble_eq_true rfl⟩) hK hP hD hS hA [] sw_wTop_wE_0 rfl rfl rfl hl.1 (Nat.le_of_ble_eq_true rfl) dX4_pay_10 ⟨Nat.zero_le _, Nat.zero_le _⟩ (fun H locs hP hD hS => ?_)
  refine lv_aload_n hx hb dX4_pay_13 rfl (lv_at hl 0 rfl) ?_
  refine va_get (D := (dC, dI)) (ci := kX4) (v := .ref my) (C := RX4) (T := TX4) (N := 11) hx hb hts hi_X4 hown hK hP 0 rfl rfl 6 (by decide) hf_44 (fun _ h9 => h9) rfl dX4_pay_14 ?_
  refine va_get (D := (dC, dI)) (ci := kX1) (v := .ref co) (C := RX1) (T := TX1) (N := 4) hx hb hts hi_X1 hown hK hP 20 rfl rfl 0 (by decide) hf_149 (fun _ h9 => h9) rfl dX4_pay_17 ?_
  refine lv_iload_n hx hb dX4_pay_20 rfl (lv_at hl 1 rfl) ?_
  refine lv_dup2_11 hx hb dX4_pay_21 rfl rfl ?_
  refine kt_iald hx hb hK hP 21 0 rfl rfl (by omega) (by decide) dX4_pay_22 ?_
  refine lv_iload_n hx hb dX4_pay_23 rfl (lv_at hl 2 rfl) ?_
  refine lv_iadd hx hb dX4_pay_24 ?_
  refine kt_iast hx hb hK hP hD hS 21 0 rfl rfl (by omega) (by decide) dX4_pay_25 (fun H locs hP hD hS => ?_)
  have hP : va_P (dC, dI) vwCl (wTop tp ly lyg lyt LYG LYT tl tlg tlt TLG TLT ne neg net NEG NET su sug sut SUG SUT kp kr KH km sw tps rt pl P st my co (upd C a ((C a) + q)) la lag lat LG LT po pog pot OG OT cJ cJJ cI cII mo eo dg to er n E DG tr T) H := hP
  have hD : va_D A (wTop tp ly lyg lyt LYG LYT tl tlg tlt TLG TLT ne neg net NEG NET su sug sut SUG SUT kp kr KH km sw tps rt pl P st my co (upd C a ((C a) + q)) la lag lat LG LT po pog pot OG OT cJ cJJ cI cII mo eo dg to er n E DG tr T) := hD
  refine lv_aload_n hx hb dX4_pay_26 rfl (lv_at hl 0 rfl) ?_
  refine va_get (D := (dC, dI)) (ci := kX4) (v := .ref my) (C := RX4) (T := TX4) (N := 11) hx hb hts hi_X4 hown hK hP 0 rfl rfl 6 (by decide) hf_44 (fun _ h9 => h9) rfl dX4_pay_27 ?_
  refine va_get (D := (dC, dI)) (ci := kX1) (v := .ref co) (C := RX1) (T := TX1) (N := 4) hx hb hts hi_X1 hown hK hP 20 rfl rfl 0 (by decide) hf_149 (fun _ h9 => h9) rfl dX4_pay_30 ?_
  refine lv_iload_n hx hb dX4_pay_33 rfl (lv_at hl 1 rfl) ?_
  refine kt_iald hx hb hK hP 21 0 rfl rfl (by omega) (by decide) dX4_pay_34 ?_
  exact kt_iret (W' := wTop tp ly lyg lyt LYG LYT tl tlg tlt TLG TLT ne neg net NEG NET su sug sut SUG SUT kp kr KH km sw tps rt pl P st my co (upd C a (C a + q)) la lag lat LG LT po pog pot OG OT cJ cJJ cI cII mo eo dg to er n E DG tr T) hx hb hr hS hP hK hD (pk_us) hlocks dX4_pay_35

theorem sw_wTop_wYc_0 {tp : Nat} {ly : Nat} {lyg : Nat} {lyt : Nat} {LYG : Nat → Int32} {LYT : Nat → Int32} {tl : Nat} {tlg : Nat} {tlt : Nat} {TLG : Nat → Int32} {TLT : Nat → Int32} {ne : Nat} {neg : Nat} {net : Nat} {NEG : Nat → Int32} {NET : Nat → Int32} {su : Nat} {sug : Nat} {sut : Nat} {SUG : Nat → Int32} {SUT : Nat → Int32} {kp : Nat} {kr : Nat → Nat} {KH : Nat → Nat → Int32} {km : Nat} {sw : Int32} {tps : Int32} {rt : Nat} {pl : Nat} {P : Nat → Int32} {st : Int32} {my : Nat} {co : Nat} {C : Nat → Int32} {la : Nat} {lag : Nat} {lat : Nat} {LG : Nat → Int32} {LT : Nat → Int32} {po : Nat} {pog : Nat} {pot : Nat} {OG : Nat → Int32} {OT : Nat → Int32} {cJ : ClassId} {cJJ : ClassId} {cI : ClassId} {cII : ClassId} {mo : Nat} {eo : Nat} {dg : Nat} {to : Nat} {er : Nat → Nat} {n : Nat} {E : Nat → Nat → Int32} {DG : Nat → Int32} {tr : Nat → Nat} {T : Nat → Nat → Int64} {C' : Nat → Int32} {n' : Nat} {E' : Nat → Nat → Int32} {DG' : Nat → Int32} : kt_sw (wTop tp ly lyg lyt LYG LYT tl tlg tlt TLG TLT ne neg net NEG NET su sug sut SUG SUT kp kr KH km sw tps rt pl P st my co C la lag lat LG LT po pog pot OG OT cJ cJJ cI cII mo eo dg to er n E DG tr T) (wTop tp ly lyg lyt LYG LYT tl tlg tlt TLG TLT ne neg net NEG NET su sug sut SUG SUT kp kr KH km sw tps rt pl P st my co C' la lag lat LG LT po pog pot OG OT cJ cJJ cI cII mo eo dg to er n' E' DG' tr T) [20, 21, 28, 29, 30, 31, 32, 33, 34, 35, 36, 37] (wYc my co C la po cI cII mo eo dg to er n E DG) (wYc my co C' la po cI cII mo eo dg to er n' E' DG') := ⟨rfl, ⟨[none, none, none, none, none, none, none, none, none, none, none, none, none, none, none, none, none, none, none, none, some 0, some 1, none, none, none, none, none, none, some 2, some 3, some 4, some 5, some 6, some 7, some 8, some 9, some 10, some 11, none, none, none, none, none, none, none], rfl, by decide +kernel⟩, rfl⟩
set_option maxHeartbeats 4000000 in
set_option maxRecDepth 100000 in
theorem c_X4_lend (l : Launch) (dC : Nat → ClassId) (dI : Nat → Nat → Nat) (cI cII cJ cJJ : ClassId) (tp : Nat) (ly : Nat) (lyg : Nat) (lyt : Nat) (LYG : Nat → Int32) (LYT : Nat → Int32) (tl : Nat) (tlg : Nat) (tlt : Nat) (TLG : Nat → Int32) (TLT : Nat → Int32) (ne : Nat) (neg : Nat) (net : Nat) (NEG : Nat → Int32) (NET : Nat → Int32) (su : Nat) (sug : Nat) (sut : Nat) (SUG : Nat → Int32) (SUT : Nat → Int32) (kp : Nat) (kr : Nat → Nat) (KH : Nat → Nat → Int32) (km : Nat) (sw : Int32) (tps : Int32) (rt : Nat) (pl : Nat) (P : Nat → Int32) (st : Int32) (my : Nat) (co : Nat) (C : Nat → Int32) (la : Nat) (lag : Nat) (lat : Nat) (LG : Nat → Int32) (LT : Nat → Int32) (po : Nat) (pog : Nat) (pot : Nat) (OG : Nat → Int32) (OT : Nat → Int32) (mo : Nat) (eo : Nat) (dg : Nat) (to : Nat) (er : Nat → Nat) (n : Nat) (E : Nat → Nat → Int32) (DG : Nat → Int32) (tr : Nat → Nat) (T : Nat → Nat → Int64) (a : Nat) (z : Int32) (sz : Nat) (hn : n ≤ 6) (ha : a < n ∨ a = 6) : Met l yX4_lend wsX4_lend ({ frames := 3, cells := 0, slots := 0, locals := 63 }) (va_Pc [.ref tp, .int (nI a), .int z] (PRE (dC, dI) (tyL cI cII cJ cJJ) (wTop tp ly lyg lyt LYG LYT tl tlg tlt TLG TLT ne neg net NEG NET su sug sut SUG SUT kp kr KH km sw tps rt pl P st my co C la lag lat LG LT po pog pot OG OT cJ cJJ cI cII mo eo dg to er n E DG tr T) sz)) (va_Qi (fun (r' : Int32) (_ : Unit) => r' = giveC E DG a (if z = 0 then 1 else -1) C a) (fun _ tS => ATW (dC, dI) (tyL cI cII cJ cJJ) (va_A (wTop tp ly lyg lyt LYG LYT tl tlg tlt TLG TLT ne neg net NEG NET su sug sut SUG SUT kp kr KH km sw tps rt pl P st my co C la lag lat LG LT po pog pot OG OT cJ cJJ cI cII mo eo dg to er n E DG tr T) sz) (wTop tp ly lyg lyt LYG LYT tl tlg tlt TLG TLT ne neg net NEG NET su sug sut SUG SUT kp kr KH km sw tps rt pl P st my co (giveC E DG a (if z = 0 then 1 else -1) C) la lag lat LG LT po pog pot OG OT cJ cJJ cI cII mo eo dg to er n E DG tr T) tS) (va_A (wTop tp ly lyg lyt LYG LYT tl tlg tlt TLG TLT ne neg net NEG NET su sug sut SUG SUT kp kr KH km sw tps rt pl P st my co C la lag lat LG LT po pog pot OG OT cJ cJJ cI cII mo eo dg to er n E DG tr T) sz)) 0 0 (va_A (wTop tp ly lyg lyt LYG LYT tl tlg tlt TLG TLT ne neg net NEG NET su sug sut SUG SUT kp kr KH km sw tps rt pl P st my co C la lag lat LG LT po pog pot OG OT cJ cJJ cI cII mo eo dg to er n E DG tr T) sz) := by
  refine Met.ofW (cc := cX4_lend) (maxL := 3) (ret := (some .int)) (by decide) rfl ?_
  intro p e s m args below meth c s₁ B hml hv
  obtain ⟨rfl, hsz, hP, hK, hD0⟩ := hv
  have hx := B.exec
  have hb := B.bytes
  have hr := B.returns
  have hlocks := B.notSynchronized
  have hts := atoms_spec (ws := wsX4_lend) B.pre
  have hown : s.vm.findClass RX4 = some m.cls := findClass_of_methodNamed B.named
  subst hsz
  have hD := hD0.self (sz := s.heap.size)
  generalize hAe : va_A (wTop tp ly lyg lyt LYG LYT tl tlg tlt TLG TLT ne neg net NEG NET su sug sut SUG SUT kp kr KH km sw tps rt pl P st my co C la lag lat LG LT po pog pot OG OT cJ cJJ cI cII mo eo dg to er n E DG tr T) s.heap.size = A at hD ⊢
  have hA : ∀ q : Nat, s.heap.size ≤ q → A q := fun q h => by rw [← hAe]; exact Or.inr h
  have hS : va_S A s.heap s.heap [] := va_S.rf
  have hl := lv_entry ([.ref tp, .int (nI a), .int z]) (n := 3) (Nat.le_of_ble_eq_true rfl)
  rw [lg_entry_eq]
  generalize (lg_sl ([.ref tp, .int (nI a), .int z]) ++ List.replicate (3 - (lg_sl ([.ref tp, .int (nI a), .int z])).length) Slot.unset).toArray = ls at hl ⊢
  have hl : lv_has ls 3 [(0, .ref tp), (1, .int (nI a)), (2, .int z)] := hl
  have hi_X4 : ∀ w ∈ u_ws RX4 TX4 11, w ∈ wsX4_lend := by decide +kernel
  have hf_44 := hts (.fieldLink RX4 44 "Topplemoor" "money" "LTopplemoor$Money;") (by decide +kernel)
  have hi_X1 : ∀ w ∈ u_ws RX1 TX1 4, w ∈ wsX4_lend := by decide +kernel
  have hf_149 := hts (.fieldLink RX4 149 "Topplemoor$Money" "coins" "[I") (by decide +kernel)
  refine lv_aload_n hx hb dX4_lend_0 rfl (lv_at hl 0 rfl) ?_
  refine lv_iload_n hx hb dX4_lend_1 rfl (lv_at hl 1 rfl) ?_
  refine kt_callv (w' := wTop tp ly lyg lyt LYG LYT tl tlg tlt TLG TLT ne neg net NEG NET su sug sut SUG SUT kp kr KH km sw tps rt pl P st my co C la lag lat LG LT po pog pot OG OT cJ cJJ cI cII mo eo dg to er n E DG tr T) (rest := []) (As := [.int (nI a)]) ⟨hx, hb, hml, hown, hts⟩ (c_X4_requireNode l dC dI cI cII cJ cJJ tp ly lyg lyt LYG LYT tl tlg tlt TLG TLT ne neg net NEG NET su sug sut SUG SUT kp kr KH km sw tps rt pl P st my co C la lag lat LG LT po pog pot OG OT mo eo dg to er n E DG tr T a _ (hn) (ha)) (cwV 1 hts gX4_lend_X4_requireNode rfl rfl rfl (by decide +kernel) ⟨Nat.le_of_ble_eq_true rfl, Nat.le_of_ble_eq_true rfl⟩) hK hP hD hS hA (List.range' 0 45) sw_wTop_wTop_0 rfl 0 kX4 rfl rfl rfl rfl rfl hl.1 (Nat.le_of_ble_eq_true rfl) dX4_lend_2 ⟨Nat.zero_le _, Nat.zero_le _⟩ (fun H locs hP hD hS => ?_)
  refine lv_aload_n hx hb dX4_lend_5 rfl (lv_at hl 0 rfl) ?_
  refine va_get (D := (dC, dI)) (ci := kX4) (v := .ref my) (C := RX4) (T := TX4) (N := 11) hx hb hts hi_X4 hown hK hP 0 rfl rfl 6 (by decide) hf_44 (fun _ h9 => h9) rfl dX4_lend_6 ?_
  refine lv_iload_n hx hb dX4_lend_9 rfl (lv_at hl 1 rfl) ?_
  refine lv_iload_n hx hb dX4_lend_10 rfl (lv_at hl 2 rfl) ?_
  refine lv_if_eq (tgt := 18) hx hb dX4_lend_11 (by decide) (fun c11 => ?_) (fun c11 => ?_)
  · skip
    refine lv_iconst (v := 1) hx hb dX4_lend_18 (by decide) ?_
    refine kt_callv (w' := wTop tp ly lyg lyt LYG LYT tl tlg tlt TLG TLT ne neg net NEG NET su sug sut SUG SUT kp kr KH km sw tps rt pl P st my co (giveC E DG a 1 C) la lag lat LG LT po pog pot OG OT cJ cJJ cI cII mo eo dg to er n E DG tr T) (rest := []) (As := [.int (nI a), .int 1]) ⟨hx, hb, hml, hown, hts⟩ (c_X1_give l dC dI cI cII cJ cJJ my co C la po mo eo dg to er n E DG a 1 _ (by omega)) (cwV 2 hts gX4_lend_X1_give rfl rfl rfl (by decide +kernel) ⟨Nat.le_of_ble_eq_true rfl, Nat.le_of_ble_eq_true rfl⟩) hK hP hD hS hA [20, 21, 28, 29, 30, 31, 32, 33, 34, 35, 36, 37] sw_wTop_wYc_0 rfl 20 kX1 rfl rfl rfl rfl rfl hl.1 (Nat.le_of_ble_eq_true rfl) dX4_lend_19 ⟨Nat.zero_le _, Nat.zero_le _⟩ (fun H locs hP hD hS => ?_)
    refine lv_aload_n hx hb dX4_lend_22 rfl (lv_at hl 0 rfl) ?_
    refine va_get (D := (dC, dI)) (ci := kX4) (v := .ref my) (C := RX4) (T := TX4) (N := 11) hx hb hts hi_X4 hown hK hP 0 rfl rfl 6 (by decide) hf_44 (fun _ h9 => h9) rfl dX4_lend_23 ?_
    refine va_get (D := (dC, dI)) (ci := kX1) (v := .ref co) (C := RX1) (T := TX1) (N := 4) hx hb hts hi_X1 hown hK hP 20 rfl rfl 0 (by decide) hf_149 (fun _ h9 => h9) rfl dX4_lend_26 ?_
    refine lv_iload_n hx hb dX4_lend_29 rfl (lv_at hl 1 rfl) ?_
    refine kt_iald hx hb hK hP 21 0 rfl rfl (by omega) (by decide) dX4_lend_30 ?_
    have e : (if z = 0 then 1 else -1 : Int32) = 1 := by first | exact if_pos c11 | exact if_neg c11
    exact kt_iret (W' := wTop tp ly lyg lyt LYG LYT tl tlg tlt TLG TLT ne neg net NEG NET su sug sut SUG SUT kp kr KH km sw tps rt pl P st my co (giveC E DG a (if z = 0 then 1 else -1) C) la lag lat LG LT po pog pot OG OT cJ cJJ cI cII mo eo dg to er n E DG tr T) hx hb hr hS (by rw [e]; exact hP) hK (by rw [e]; exact hD) (by rw [e]) hlocks dX4_lend_31
  · skip
    refine lv_iconst (v := (-1)) hx hb dX4_lend_14 (by decide) ?_
    refine lv_goto (tgt := 19) hx hb dX4_lend_15 (by decide) ?_
    refine kt_callv (w' := wTop tp ly lyg lyt LYG LYT tl tlg tlt TLG TLT ne neg net NEG NET su sug sut SUG SUT kp kr KH km sw tps rt pl P st my co (giveC E DG a (-1) C) la lag lat LG LT po pog pot OG OT cJ cJJ cI cII mo eo dg to er n E DG tr T) (rest := []) (As := [.int (nI a), .int (-1)]) ⟨hx, hb, hml, hown, hts⟩ (c_X1_give l dC dI cI cII cJ cJJ my co C la po mo eo dg to er n E DG a (-1) _ (by omega)) (cwV 2 hts gX4_lend_X1_give rfl rfl rfl (by decide +kernel) ⟨Nat.le_of_ble_eq_true rfl, Nat.le_of_ble_eq_true rfl⟩) hK hP hD hS hA [20, 21, 28, 29, 30, 31, 32, 33, 34, 35, 36, 37] sw_wTop_wYc_0 rfl 20 kX1 rfl rfl rfl rfl rfl hl.1 (Nat.le_of_ble_eq_true rfl) dX4_lend_19 ⟨Nat.zero_le _, Nat.zero_le _⟩ (fun H locs hP hD hS => ?_)
    refine lv_aload_n hx hb dX4_lend_22 rfl (lv_at hl 0 rfl) ?_
    refine va_get (D := (dC, dI)) (ci := kX4) (v := .ref my) (C := RX4) (T := TX4) (N := 11) hx hb hts hi_X4 hown hK hP 0 rfl rfl 6 (by decide) hf_44 (fun _ h9 => h9) rfl dX4_lend_23 ?_
    refine va_get (D := (dC, dI)) (ci := kX1) (v := .ref co) (C := RX1) (T := TX1) (N := 4) hx hb hts hi_X1 hown hK hP 20 rfl rfl 0 (by decide) hf_149 (fun _ h9 => h9) rfl dX4_lend_26 ?_
    refine lv_iload_n hx hb dX4_lend_29 rfl (lv_at hl 1 rfl) ?_
    refine kt_iald hx hb hK hP 21 0 rfl rfl (by omega) (by decide) dX4_lend_30 ?_
    have e : (if z = 0 then 1 else -1 : Int32) = -1 := by first | exact if_pos c11 | exact if_neg c11
    exact kt_iret (W' := wTop tp ly lyg lyt LYG LYT tl tlg tlt TLG TLT ne neg net NEG NET su sug sut SUG SUT kp kr KH km sw tps rt pl P st my co (giveC E DG a (if z = 0 then 1 else -1) C) la lag lat LG LT po pog pot OG OT cJ cJJ cI cII mo eo dg to er n E DG tr T) hx hb hr hS (by rw [e]; exact hP) hK (by rw [e]; exact hD) (by rw [e]) hlocks dX4_lend_31

set_option maxHeartbeats 4000000 in
set_option maxRecDepth 100000 in
theorem c_X4_spotValue (l : Launch) (dC : Nat → ClassId) (dI : Nat → Nat → Nat) (cI cII cJ cJJ : ClassId) (tp : Nat) (ly : Nat) (lyg : Nat) (lyt : Nat) (LYG : Nat → Int32) (LYT : Nat → Int32) (tl : Nat) (tlg : Nat) (tlt : Nat) (TLG : Nat → Int32) (TLT : Nat → Int32) (ne : Nat) (neg : Nat) (net : Nat) (NEG : Nat → Int32) (NET : Nat → Int32) (su : Nat) (sug : Nat) (sut : Nat) (SUG : Nat → Int32) (SUT : Nat → Int32) (kp : Nat) (kr : Nat → Nat) (KH : Nat → Nat → Int32) (km : Nat) (sw : Int32) (tps : Int32) (rt : Nat) (pl : Nat) (P : Nat → Int32) (st : Int32) (my : Nat) (co : Nat) (C : Nat → Int32) (la : Nat) (lag : Nat) (lat : Nat) (LG : Nat → Int32) (LT : Nat → Int32) (po : Nat) (pog : Nat) (pot : Nat) (OG : Nat → Int32) (OT : Nat → Int32) (mo : Nat) (eo : Nat) (dg : Nat) (to : Nat) (er : Nat → Nat) (n : Nat) (E : Nat → Nat → Int32) (DG : Nat → Int32) (tr : Nat → Nat) (T : Nat → Nat → Int64) (j : Nat) (w : Nat) (sz : Nat) (hn : n ≤ 6) (hj : j < n) (hw : w < 7) : Met l yX4_spotValue wsX4_spotValue ({ frames := 2, cells := 0, slots := 0, locals := 45 }) (va_Pc [.ref tp, .int (nI j), .int (nI w)] (PRE (dC, dI) (tyL cI cII cJ cJJ) (wTop tp ly lyg lyt LYG LYT tl tlg tlt TLG TLT ne neg net NEG NET su sug sut SUG SUT kp kr KH km sw tps rt pl P st my co C la lag lat LG LT po pog pot OG OT cJ cJJ cI cII mo eo dg to er n E DG tr T) sz)) (va_Qi (fun (r' : Int32) (_ : Unit) => r' = spotF E DG LYG LYT P j w) (fun _ tS => ATW (dC, dI) (tyL cI cII cJ cJJ) (va_A (wTop tp ly lyg lyt LYG LYT tl tlg tlt TLG TLT ne neg net NEG NET su sug sut SUG SUT kp kr KH km sw tps rt pl P st my co C la lag lat LG LT po pog pot OG OT cJ cJJ cI cII mo eo dg to er n E DG tr T) sz) (wTop tp ly lyg lyt LYG LYT tl tlg tlt TLG TLT ne neg net NEG NET su sug sut SUG SUT kp kr KH km sw tps rt pl P st my co C la lag lat LG LT po pog pot OG OT cJ cJJ cI cII mo eo dg to er n E DG tr T) tS) (va_A (wTop tp ly lyg lyt LYG LYT tl tlg tlt TLG TLT ne neg net NEG NET su sug sut SUG SUT kp kr KH km sw tps rt pl P st my co C la lag lat LG LT po pog pot OG OT cJ cJJ cI cII mo eo dg to er n E DG tr T) sz)) 0 0 (va_A (wTop tp ly lyg lyt LYG LYT tl tlg tlt TLG TLT ne neg net NEG NET su sug sut SUG SUT kp kr KH km sw tps rt pl P st my co C la lag lat LG LT po pog pot OG OT cJ cJJ cI cII mo eo dg to er n E DG tr T) sz) := by
  refine Met.ofW (cc := cX4_spotValue) (maxL := 3) (ret := (some .int)) (by decide) rfl ?_
  intro p e s m args below meth c s₁ B hml hv
  obtain ⟨rfl, hsz, hP, hK, hD0⟩ := hv
  have hx := B.exec
  have hb := B.bytes
  have hr := B.returns
  have hlocks := B.notSynchronized
  have hts := atoms_spec (ws := wsX4_spotValue) B.pre
  have hown : s.vm.findClass RX4 = some m.cls := findClass_of_methodNamed B.named
  subst hsz
  have hD := hD0.self (sz := s.heap.size)
  generalize hAe : va_A (wTop tp ly lyg lyt LYG LYT tl tlg tlt TLG TLT ne neg net NEG NET su sug sut SUG SUT kp kr KH km sw tps rt pl P st my co C la lag lat LG LT po pog pot OG OT cJ cJJ cI cII mo eo dg to er n E DG tr T) s.heap.size = A at hD ⊢
  have hA : ∀ q : Nat, s.heap.size ≤ q → A q := fun q h => by rw [← hAe]; exact Or.inr h
  have hS : va_S A s.heap s.heap [] := va_S.rf
  have hl := lv_entry ([.ref tp, .int (nI j), .int (nI w)]) (n := 3) (Nat.le_of_ble_eq_true rfl)
  rw [lg_entry_eq]
  generalize (lg_sl ([.ref tp, .int (nI j), .int (nI w)]) ++ List.replicate (3 - (lg_sl ([.ref tp, .int (nI j), .int (nI w)])).length) Slot.unset).toArray = ls at hl ⊢
  have hl : lv_has ls 3 [(0, .ref tp), (1, .int (nI j)), (2, .int (nI w))] := hl
  have hi_X4 : ∀ w ∈ u_ws RX4 TX4 11, w ∈ wsX4_spotValue := by decide +kernel
  have hf_21 := hts (.fieldLink RX4 21 "Topplemoor" "lying" "LTopplemoor$Heap;") (by decide +kernel)
  have hi_X0 : ∀ w ∈ u_ws RX0 TX0 3, w ∈ wsX4_spotValue := by decide +kernel
  have hf_89 := hts (.fieldLink RX4 89 "Topplemoor$Heap" "grains" "[I") (by decide +kernel)
  have hf_10 := hts (.fieldLink RX4 10 "Topplemoor" "moor" "LTopplemoor$Moor;") (by decide +kernel)
  have hi_X2 : ∀ w ∈ u_ws RX2 TX2 4, w ∈ wsX4_spotValue := by decide +kernel
  have hf_252 := hts (.fieldLink RX4 252 "Topplemoor$Moor" "degrees" "[I") (by decide +kernel)
  have hf_77 := hts (.fieldLink RX4 77 "Topplemoor$Moor" "edges" "[[I") (by decide +kernel)
  have hf_255 := hts (.fieldLink RX4 255 "Topplemoor$Heap" "times" "[I") (by decide +kernel)
  have hf_37 := hts (.fieldLink RX4 37 "Topplemoor" "rotors" "LTopplemoor$Rotors;") (by decide +kernel)
  have hi_X3 : ∀ w ∈ u_ws RX3 TX3 3, w ∈ wsX4_spotValue := by decide +kernel
  have hf_258 := hts (.fieldLink RX4 258 "Topplemoor$Rotors" "places" "[I") (by decide +kernel)
  refine lv_iload_n hx hb dX4_spotValue_0 rfl (lv_at hl 2 rfl) ?_
  have hcase : w = 0 ∨ w = 1 ∨ w = 2 ∨ w = 3 ∨ w = 4 ∨ w = 5 ∨ w = 6 := by omega
  rcases hcase with rfl | rfl | rfl | rfl | rfl | rfl | rfl
  · refine lv_tableIn (off := 39) (tgt := 40) hx hb dX4_spotValue_1 (by decide) (by decide) (by decide) (by decide) ?_
    refine lv_aload_n hx hb dX4_spotValue_40 rfl (lv_at hl 0 rfl) ?_
    refine va_get (D := (dC, dI)) (ci := kX4) (v := .ref ly) (C := RX4) (T := TX4) (N := 11) hx hb hts hi_X4 hown hK hP 0 rfl rfl 1 (by decide) hf_21 (fun _ h9 => h9) rfl dX4_spotValue_41 ?_
    refine va_get (D := (dC, dI)) (ci := kX0) (v := .ref lyg) (C := RX0) (T := TX0) (N := 3) hx hb hts hi_X0 hown hK hP 1 rfl rfl 0 (by decide) hf_89 (fun _ h9 => h9) rfl dX4_spotValue_44 ?_
    refine lv_iload_n hx hb dX4_spotValue_47 rfl (lv_at hl 1 rfl) ?_
    refine kt_iald hx hb hK hP 2 0 rfl rfl (by omega) (by decide) dX4_spotValue_48 ?_
    exact kt_iret (W' := wTop tp ly lyg lyt LYG LYT tl tlg tlt TLG TLT ne neg net NEG NET su sug sut SUG SUT kp kr KH km sw tps rt pl P st my co C la lag lat LG LT po pog pot OG OT cJ cJJ cI cII mo eo dg to er n E DG tr T) hx hb hr hS hP hK hD (rfl) hlocks dX4_spotValue_49
  · refine lv_tableIn (off := 49) (tgt := 50) hx hb dX4_spotValue_1 (by decide) (by decide) (by decide) (by decide) ?_
    refine lv_aload_n hx hb dX4_spotValue_50 rfl (lv_at hl 0 rfl) ?_
    refine va_get (D := (dC, dI)) (ci := kX4) (v := .ref mo) (C := RX4) (T := TX4) (N := 11) hx hb hts hi_X4 hown hK hP 0 rfl rfl 0 (by decide) hf_10 (fun _ h9 => h9) rfl dX4_spotValue_51 ?_
    refine va_get (D := (dC, dI)) (ci := kX2) (v := .ref dg) (C := RX2) (T := TX2) (N := 4) hx hb hts hi_X2 hown hK hP 28 rfl rfl 2 (by decide) hf_252 (fun _ h9 => h9) rfl dX4_spotValue_54 ?_
    refine lv_iload_n hx hb dX4_spotValue_57 rfl (lv_at hl 1 rfl) ?_
    refine kt_iald hx hb hK hP 37 0 rfl rfl (by omega) (by decide) dX4_spotValue_58 ?_
    exact kt_iret (W' := wTop tp ly lyg lyt LYG LYT tl tlg tlt TLG TLT ne neg net NEG NET su sug sut SUG SUT kp kr KH km sw tps rt pl P st my co C la lag lat LG LT po pog pot OG OT cJ cJJ cI cII mo eo dg to er n E DG tr T) hx hb hr hS hP hK hD (rfl) hlocks dX4_spotValue_59
  · refine lv_tableIn (off := 59) (tgt := 60) hx hb dX4_spotValue_1 (by decide) (by decide) (by decide) (by decide) ?_
    refine lv_aload_n hx hb dX4_spotValue_60 rfl (lv_at hl 0 rfl) ?_
    refine va_get (D := (dC, dI)) (ci := kX4) (v := .ref mo) (C := RX4) (T := TX4) (N := 11) hx hb hts hi_X4 hown hK hP 0 rfl rfl 0 (by decide) hf_10 (fun _ h9 => h9) rfl dX4_spotValue_61 ?_
    refine va_get (D := (dC, dI)) (ci := kX2) (v := .ref eo) (C := RX2) (T := TX2) (N := 4) hx hb hts hi_X2 hown hK hP 28 rfl rfl 1 (by decide) hf_77 (fun _ h9 => h9) rfl dX4_spotValue_64 ?_
    refine lv_iload_n hx hb dX4_spotValue_67 rfl (lv_at hl 1 rfl) ?_
    refine kt_aald hx hb hK hP 29 1 rfl rfl (by omega) (by decide) dX4_spotValue_68 ?_
    refine lv_bipush (v := nI 6) hx hb dX4_spotValue_69 (by decide) ?_
    refine kt_iald hx hb hK hP (30 + j) 0 (row_wTop_er (by omega)) rfl (by omega) (by decide) dX4_spotValue_71 ?_
    exact kt_iret (W' := wTop tp ly lyg lyt LYG LYT tl tlg tlt TLG TLT ne neg net NEG NET su sug sut SUG SUT kp kr KH km sw tps rt pl P st my co C la lag lat LG LT po pog pot OG OT cJ cJJ cI cII mo eo dg to er n E DG tr T) hx hb hr hS hP hK hD (rfl) hlocks dX4_spotValue_72
  · refine lv_tableIn (off := 72) (tgt := 73) hx hb dX4_spotValue_1 (by decide) (by decide) (by decide) (by decide) ?_
    refine lv_aload_n hx hb dX4_spotValue_73 rfl (lv_at hl 0 rfl) ?_
    refine va_get (D := (dC, dI)) (ci := kX4) (v := .ref ly) (C := RX4) (T := TX4) (N := 11) hx hb hts hi_X4 hown hK hP 0 rfl rfl 1 (by decide) hf_21 (fun _ h9 => h9) rfl dX4_spotValue_74 ?_
    refine va_get (D := (dC, dI)) (ci := kX0) (v := .ref lyt) (C := RX0) (T := TX0) (N := 3) hx hb hts hi_X0 hown hK hP 1 rfl rfl 1 (by decide) hf_255 (fun _ h9 => h9) rfl dX4_spotValue_77 ?_
    refine lv_iload_n hx hb dX4_spotValue_80 rfl (lv_at hl 1 rfl) ?_
    refine kt_iald hx hb hK hP 3 0 rfl rfl (by omega) (by decide) dX4_spotValue_81 ?_
    exact kt_iret (W' := wTop tp ly lyg lyt LYG LYT tl tlg tlt TLG TLT ne neg net NEG NET su sug sut SUG SUT kp kr KH km sw tps rt pl P st my co C la lag lat LG LT po pog pot OG OT cJ cJJ cI cII mo eo dg to er n E DG tr T) hx hb hr hS hP hK hD (rfl) hlocks dX4_spotValue_82
  · refine lv_tableIn (off := 82) (tgt := 83) hx hb dX4_spotValue_1 (by decide) (by decide) (by decide) (by decide) ?_
    refine lv_aload_n hx hb dX4_spotValue_83 rfl (lv_at hl 0 rfl) ?_
    refine va_get (D := (dC, dI)) (ci := kX4) (v := .ref ly) (C := RX4) (T := TX4) (N := 11) hx hb hts hi_X4 hown hK hP 0 rfl rfl 1 (by decide) hf_21 (fun _ h9 => h9) rfl dX4_spotValue_84 ?_
    refine lv_iload_n hx hb dX4_spotValue_87 rfl (lv_at hl 1 rfl) ?_
    refine kt_calli (w' := wTop tp ly lyg lyt LYG LYT tl tlg tlt TLG TLT ne neg net NEG NET su sug sut SUG SUT kp kr KH km sw tps rt pl P st my co C la lag lat LG LT po pog pot OG OT cJ cJJ cI cII mo eo dg to er n E DG tr T) (rest := []) (As := [.int (nI j)]) ⟨hx, hb, hml, hown, hts⟩ (c_X0_isSteep l dC dI cI cII cJ cJJ ly lyg lyt LYG LYT mo eo dg to er n E DG j _ (by omega)) (cwV 1 hts gX4_spotValue_X0_isSteep rfl rfl rfl (by decide +kernel) ⟨Nat.le_of_ble_eq_true rfl, Nat.le_of_ble_eq_true rfl⟩) hK hP hD hS hA [1, 2, 3, 28, 29, 30, 31, 32, 33, 34, 35, 36, 37] sw_wTop_wHM_0 rfl 1 kX0 rfl rfl rfl rfl rfl hl.1 (Nat.le_of_ble_eq_true rfl) dX4_spotValue_88 ⟨Nat.zero_le _, Nat.zero_le _⟩ (fun H locs hP hD hS => ?_)
    refine lv_if_eq (tgt := 98) hx hb dX4_spotValue_91 (by decide) (fun c91 => ?_) (fun c91 => ?_)
    · skip
      refine lv_iconst (v := 0) hx hb dX4_spotValue_98 (by decide) ?_
      exact kt_iret (W' := wTop tp ly lyg lyt LYG LYT tl tlg tlt TLG TLT ne neg net NEG NET su sug sut SUG SUT kp kr KH km sw tps rt pl P st my co C la lag lat LG LT po pog pot OG OT cJ cJJ cI cII mo eo dg to er n E DG tr T) hx hb hr hS hP hK hD (by first | exact (congrArg b2i (b2i_eq0.mp c91)).symm | exact (congrArg b2i (b2i_ne0.mp c91)).symm) hlocks dX4_spotValue_99
    · skip
      refine lv_iconst (v := 1) hx hb dX4_spotValue_94 (by decide) ?_
      refine lv_goto (tgt := 99) hx hb dX4_spotValue_95 (by decide) ?_
      exact kt_iret (W' := wTop tp ly lyg lyt LYG LYT tl tlg tlt TLG TLT ne neg net NEG NET su sug sut SUG SUT kp kr KH km sw tps rt pl P st my co C la lag lat LG LT po pog pot OG OT cJ cJJ cI cII mo eo dg to er n E DG tr T) hx hb hr hS hP hK hD (by first | exact (congrArg b2i (b2i_eq0.mp c91)).symm | exact (congrArg b2i (b2i_ne0.mp c91)).symm) hlocks dX4_spotValue_99
  · refine lv_tableIn (off := 99) (tgt := 100) hx hb dX4_spotValue_1 (by decide) (by decide) (by decide) (by decide) ?_
    refine lv_aload_n hx hb dX4_spotValue_100 rfl (lv_at hl 0 rfl) ?_
    refine va_get (D := (dC, dI)) (ci := kX4) (v := .ref rt) (C := RX4) (T := TX4) (N := 11) hx hb hts hi_X4 hown hK hP 0 rfl rfl 5 (by decide) hf_37 (fun _ h9 => h9) rfl dX4_spotValue_101 ?_
    refine va_get (D := (dC, dI)) (ci := kX3) (v := .ref pl) (C := RX3) (T := TX3) (N := 3) hx hb hts hi_X3 hown hK hP 18 rfl rfl 0 (by decide) hf_258 (fun _ h9 => h9) rfl dX4_spotValue_104 ?_
    refine lv_iload_n hx hb dX4_spotValue_107 rfl (lv_at hl 1 rfl) ?_
    refine kt_iald hx hb hK hP 19 0 rfl rfl (by omega) (by decide) dX4_spotValue_108 ?_
    exact kt_iret (W' := wTop tp ly lyg lyt LYG LYT tl tlg tlt TLG TLT ne neg net NEG NET su sug sut SUG SUT kp kr KH km sw tps rt pl P st my co C la lag lat LG LT po pog pot OG OT cJ cJJ cI cII mo eo dg to er n E DG tr T) hx hb hr hS hP hK hD (rfl) hlocks dX4_spotValue_109
  · refine lv_tableOut (tgt := 110) hx hb dX4_spotValue_1 (by decide) (by decide) ?_
    refine lv_aload_n hx hb dX4_spotValue_110 rfl (lv_at hl 0 rfl) ?_
    refine va_get (D := (dC, dI)) (ci := kX4) (v := .ref rt) (C := RX4) (T := TX4) (N := 11) hx hb hts hi_X4 hown hK hP 0 rfl rfl 5 (by decide) hf_37 (fun _ h9 => h9) rfl dX4_spotValue_111 ?_
    refine lv_iload_n hx hb dX4_spotValue_114 rfl (lv_at hl 1 rfl) ?_
    refine kt_calli (w' := wTop tp ly lyg lyt LYG LYT tl tlg tlt TLG TLT ne neg net NEG NET su sug sut SUG SUT kp kr KH km sw tps rt pl P st my co C la lag lat LG LT po pog pot OG OT cJ cJJ cI cII mo eo dg to er n E DG tr T) (rest := []) (As := [.int (nI j)]) ⟨hx, hb, hml, hown, hts⟩ (c_X3_pointedFrom l dC dI cI cII cJ cJJ rt pl P st mo eo dg to er n E DG j _ (by omega)) (cwV 1 hts gX4_spotValue_X3_pointedFrom rfl rfl rfl (by decide +kernel) ⟨Nat.le_of_ble_eq_true rfl, Nat.le_of_ble_eq_true rfl⟩) hK hP hD hS hA [18, 19, 28, 29, 30, 31, 32, 33, 34, 35, 36, 37] sw_wTop_wRM_0 rfl 18 kX3 rfl rfl rfl rfl rfl hl.1 (Nat.le_of_ble_eq_true rfl) dX4_spotValue_115 ⟨Nat.zero_le _, Nat.zero_le _⟩ (fun H locs hP hD hS => ?_)
    exact kt_iret (W' := wTop tp ly lyg lyt LYG LYT tl tlg tlt TLG TLT ne neg net NEG NET su sug sut SUG SUT kp kr KH km sw tps rt pl P st my co C la lag lat LG LT po pog pot OG OT cJ cJJ cI cII mo eo dg to er n E DG tr T) hx hb hr hS hP hK hD (rfl) hlocks dX4_spotValue_118

set_option maxHeartbeats 4000000 in
set_option maxRecDepth 100000 in
theorem c_X4_ofSpot (l : Launch) (dC : Nat → ClassId) (dI : Nat → Nat → Nat) (cI cII cJ cJJ : ClassId) (tp : Nat) (ly : Nat) (lyg : Nat) (lyt : Nat) (LYG : Nat → Int32) (LYT : Nat → Int32) (tl : Nat) (tlg : Nat) (tlt : Nat) (TLG : Nat → Int32) (TLT : Nat → Int32) (ne : Nat) (neg : Nat) (net : Nat) (NEG : Nat → Int32) (NET : Nat → Int32) (su : Nat) (sug : Nat) (sut : Nat) (SUG : Nat → Int32) (SUT : Nat → Int32) (kp : Nat) (kr : Nat → Nat) (KH : Nat → Nat → Int32) (km : Nat) (sw : Int32) (tps : Int32) (rt : Nat) (pl : Nat) (P : Nat → Int32) (st : Int32) (my : Nat) (co : Nat) (C : Nat → Int32) (la : Nat) (lag : Nat) (lat : Nat) (LG : Nat → Int32) (LT : Nat → Int32) (po : Nat) (pog : Nat) (pot : Nat) (OG : Nat → Int32) (OT : Nat → Int32) (mo : Nat) (eo : Nat) (dg : Nat) (to : Nat) (er : Nat → Nat) (n : Nat) (E : Nat → Nat → Int32) (DG : Nat → Int32) (tr : Nat → Nat) (T : Nat → Nat → Int64) (j : Nat) (w : Nat) (sz : Nat) (hn : n ≤ 6) (hj : j < n) (hw : w < 7) : Met l yX4_ofSpot wsX4_ofSpot ({ frames := 3, cells := 0, slots := 0, locals := 67 }) (va_Pc [.ref tp, .int (nI j), .int (nI w)] (PRE (dC, dI) (tyL cI cII cJ cJJ) (wTop tp ly lyg lyt LYG LYT tl tlg tlt TLG TLT ne neg net NEG NET su sug sut SUG SUT kp kr KH km sw tps rt pl P st my co C la lag lat LG LT po pog pot OG OT cJ cJJ cI cII mo eo dg to er n E DG tr T) sz)) (va_Qi (fun (r' : Int32) (_ : Unit) => r' = spotF E DG LYG LYT P j w) (fun _ tS => ATW (dC, dI) (tyL cI cII cJ cJJ) (va_A (wTop tp ly lyg lyt LYG LYT tl tlg tlt TLG TLT ne neg net NEG NET su sug sut SUG SUT kp kr KH km sw tps rt pl P st my co C la lag lat LG LT po pog pot OG OT cJ cJJ cI cII mo eo dg to er n E DG tr T) sz) (wTop tp ly lyg lyt LYG LYT tl tlg tlt TLG TLT ne neg net NEG NET su sug sut SUG SUT kp kr KH km sw tps rt pl P st my co C la lag lat LG LT po pog pot OG OT cJ cJJ cI cII mo eo dg to er n E DG tr T) tS) (va_A (wTop tp ly lyg lyt LYG LYT tl tlg tlt TLG TLT ne neg net NEG NET su sug sut SUG SUT kp kr KH km sw tps rt pl P st my co C la lag lat LG LT po pog pot OG OT cJ cJJ cI cII mo eo dg to er n E DG tr T) sz)) 0 0 (va_A (wTop tp ly lyg lyt LYG LYT tl tlg tlt TLG TLT ne neg net NEG NET su sug sut SUG SUT kp kr KH km sw tps rt pl P st my co C la lag lat LG LT po pog pot OG OT cJ cJJ cI cII mo eo dg to er n E DG tr T) sz) := by
  refine Met.ofW (cc := cX4_ofSpot) (maxL := 3) (ret := (some .int)) (by decide) rfl ?_
  intro p e s m args below meth c s₁ B hml hv
  obtain ⟨rfl, hsz, hP, hK, hD0⟩ := hv
  have hx := B.exec
  have hb := B.bytes
  have hr := B.returns
  have hlocks := B.notSynchronized
  have hts := atoms_spec (ws := wsX4_ofSpot) B.pre
  have hown : s.vm.findClass RX4 = some m.cls := findClass_of_methodNamed B.named
  subst hsz
  have hD := hD0.self (sz := s.heap.size)
  generalize hAe : va_A (wTop tp ly lyg lyt LYG LYT tl tlg tlt TLG TLT ne neg net NEG NET su sug sut SUG SUT kp kr KH km sw tps rt pl P st my co C la lag lat LG LT po pog pot OG OT cJ cJJ cI cII mo eo dg to er n E DG tr T) s.heap.size = A at hD ⊢
  have hA : ∀ q : Nat, s.heap.size ≤ q → A q := fun q h => by rw [← hAe]; exact Or.inr h
  have hS : va_S A s.heap s.heap [] := va_S.rf
  have hl := lv_entry ([.ref tp, .int (nI j), .int (nI w)]) (n := 3) (Nat.le_of_ble_eq_true rfl)
  rw [lg_entry_eq]
  generalize (lg_sl ([.ref tp, .int (nI j), .int (nI w)]) ++ List.replicate (3 - (lg_sl ([.ref tp, .int (nI j), .int (nI w)])).length) Slot.unset).toArray = ls at hl ⊢
  have hl : lv_has ls 3 [(0, .ref tp), (1, .int (nI j)), (2, .int (nI w))] := hl
  refine lv_aload_n hx hb dX4_ofSpot_0 rfl (lv_at hl 0 rfl) ?_
  refine lv_iload_n hx hb dX4_ofSpot_1 rfl (lv_at hl 1 rfl) ?_
  refine kt_callv (w' := wTop tp ly lyg lyt LYG LYT tl tlg tlt TLG TLT ne neg net NEG NET su sug sut SUG SUT kp kr KH km sw tps rt pl P st my co C la lag lat LG LT po pog pot OG OT cJ cJJ cI cII mo eo dg to er n E DG tr T) (rest := []) (As := [.int (nI j)]) ⟨hx, hb, hml, hown, hts⟩ (c_X4_requireSpot l dC dI cI cII cJ cJJ tp ly lyg lyt LYG LYT tl tlg tlt TLG TLT ne neg net NEG NET su sug sut SUG SUT kp kr KH km sw tps rt pl P st my co C la lag lat LG LT po pog pot OG OT mo eo dg to er n E DG tr T j _ (hn) (hj)) (cwV 1 hts gX4_ofSpot_X4_requireSpot rfl rfl rfl (by decide +kernel) ⟨Nat.le_of_ble_eq_true rfl, Nat.le_of_ble_eq_true rfl⟩) hK hP hD hS hA (List.range' 0 45) sw_wTop_wTop_0 rfl 0 kX4 rfl rfl rfl rfl rfl hl.1 (Nat.le_of_ble_eq_true rfl) dX4_ofSpot_2 ⟨Nat.zero_le _, Nat.zero_le _⟩ (fun H locs hP hD hS => ?_)
  refine lv_iload_n hx hb dX4_ofSpot_5 rfl (lv_at hl 2 rfl) ?_
  refine lv_iconst (v := 0) hx hb dX4_ofSpot_6 (by decide) ?_
  refine lv_bipush (v := 6) hx hb dX4_ofSpot_7 (by decide) ?_
  refine kt_callSv (w' := wTop tp ly lyg lyt LYG LYT tl tlg tlt TLG TLT ne neg net NEG NET su sug sut SUG SUT kp kr KH km sw tps rt pl P st my co C la lag lat LG LT po pog pot OG OT cJ cJJ cI cII mo eo dg to er n E DG tr T) (rest := []) (As := [.int (nI w), .int 0, .int 6]) ⟨hx, hb, hml, hown, hts⟩ (c_X4_requireWithin l dC dI cI cII cJ cJJ (nI w) 0 6 _ (nI_pos (by omega)) (nI_le (a := w) (b := 6) (by omega) (by omega))) (va_cwS 3 hts gX4_ofSpot_X4_requireWithin rfl rfl rfl (by decide +kernel) ⟨Nat.le_of_ble_eq_true rfl, Nat.le_of_ble_eq_true rfl⟩) hK hP hD hS hA [] sw_wTop_wE_0 rfl rfl rfl hl.1 (Nat.le_of_ble_eq_true rfl) dX4_ofSpot_9 ⟨Nat.zero_le _, Nat.zero_le _⟩ (fun H locs hP hD hS => ?_)
  refine lv_aload_n hx hb dX4_ofSpot_12 rfl (lv_at hl 0 rfl) ?_
  refine lv_iload_n hx hb dX4_ofSpot_13 rfl (lv_at hl 1 rfl) ?_
  refine lv_iload_n hx hb dX4_ofSpot_14 rfl (lv_at hl 2 rfl) ?_
  refine kt_calli (w' := wTop tp ly lyg lyt LYG LYT tl tlg tlt TLG TLT ne neg net NEG NET su sug sut SUG SUT kp kr KH km sw tps rt pl P st my co C la lag lat LG LT po pog pot OG OT cJ cJJ cI cII mo eo dg to er n E DG tr T) (rest := []) (As := [.int (nI j), .int (nI w)]) ⟨hx, hb, hml, hown, hts⟩ (c_X4_spotValue l dC dI cI cII cJ cJJ tp ly lyg lyt LYG LYT tl tlg tlt TLG TLT ne neg net NEG NET su sug sut SUG SUT kp kr KH km sw tps rt pl P st my co C la lag lat LG LT po pog pot OG OT mo eo dg to er n E DG tr T j w _ (hn) (hj) (hw)) (cwV 2 hts gX4_ofSpot_X4_spotValue rfl rfl rfl (by decide +kernel) ⟨Nat.le_of_ble_eq_true rfl, Nat.le_of_ble_eq_true rfl⟩) hK hP hD hS hA (List.range' 0 45) sw_wTop_wTop_0 rfl 0 kX4 rfl rfl rfl rfl rfl hl.1 (Nat.le_of_ble_eq_true rfl) dX4_ofSpot_15 ⟨Nat.zero_le _, Nat.zero_le _⟩ (fun H locs hP hD hS => ?_)
  exact kt_iret (W' := wTop tp ly lyg lyt LYG LYT tl tlg tlt TLG TLT ne neg net NEG NET su sug sut SUG SUT kp kr KH km sw tps rt pl P st my co C la lag lat LG LT po pog pot OG OT cJ cJJ cI cII mo eo dg to er n E DG tr T) hx hb hr hS hP hK hD (rfl) hlocks dX4_ofSpot_18

set_option maxHeartbeats 4000000 in
set_option maxRecDepth 100000 in
theorem c_X4_manyValue (l : Launch) (dC : Nat → ClassId) (dI : Nat → Nat → Nat) (cI cII cJ cJJ : ClassId) (tp : Nat) (ly : Nat) (lyg : Nat) (lyt : Nat) (LYG : Nat → Int32) (LYT : Nat → Int32) (tl : Nat) (tlg : Nat) (tlt : Nat) (TLG : Nat → Int32) (TLT : Nat → Int32) (ne : Nat) (neg : Nat) (net : Nat) (NEG : Nat → Int32) (NET : Nat → Int32) (su : Nat) (sug : Nat) (sut : Nat) (SUG : Nat → Int32) (SUT : Nat → Int32) (kp : Nat) (kr : Nat → Nat) (KH : Nat → Nat → Int32) (km : Nat) (sw : Int32) (tps : Int32) (rt : Nat) (pl : Nat) (P : Nat → Int32) (st : Int32) (my : Nat) (co : Nat) (C : Nat → Int32) (la : Nat) (lag : Nat) (lat : Nat) (LG : Nat → Int32) (LT : Nat → Int32) (po : Nat) (pog : Nat) (pot : Nat) (OG : Nat → Int32) (OT : Nat → Int32) (mo : Nat) (eo : Nat) (dg : Nat) (to : Nat) (er : Nat → Nat) (n : Nat) (E : Nat → Nat → Int32) (DG : Nat → Int32) (tr : Nat → Nat) (T : Nat → Nat → Int64) (w : Nat) (sz : Nat) (hn : n ≤ 6) (hw : w < 14) : Met l yX4_manyValue wsX4_manyValue ({ frames := 4, cells := 0, slots := 0, locals := 89 }) (va_Pc [.ref tp, .int (nI w)] (PRE (dC, dI) (tyL cI cII cJ cJJ) (wTop tp ly lyg lyt LYG LYT tl tlg tlt TLG TLT ne neg net NEG NET su sug sut SUG SUT kp kr KH km sw tps rt pl P st my co C la lag lat LG LT po pog pot OG OT cJ cJJ cI cII mo eo dg to er n E DG tr T) sz)) (va_Qi (fun (r' : Int32) (_ : Unit) => r' = manyF n E DG LYG LYT P C sw tps st km w) (fun _ tS => ATW (dC, dI) (tyL cI cII cJ cJJ) (va_A (wTop tp ly lyg lyt LYG LYT tl tlg tlt TLG TLT ne neg net NEG NET su sug sut SUG SUT kp kr KH km sw tps rt pl P st my co C la lag lat LG LT po pog pot OG OT cJ cJJ cI cII mo eo dg to er n E DG tr T) sz) (wTop tp ly lyg lyt LYG LYT tl tlg tlt TLG TLT ne neg net NEG NET su sug sut SUG SUT kp kr KH km sw tps rt pl P st my co C la lag lat LG LT po pog pot OG OT cJ cJJ cI cII mo eo dg to er n E DG tr T) tS) (va_A (wTop tp ly lyg lyt LYG LYT tl tlg tlt TLG TLT ne neg net NEG NET su sug sut SUG SUT kp kr KH km sw tps rt pl P st my co C la lag lat LG LT po pog pot OG OT cJ cJJ cI cII mo eo dg to er n E DG tr T) sz)) 0 0 (va_A (wTop tp ly lyg lyt LYG LYT tl tlg tlt TLG TLT ne neg net NEG NET su sug sut SUG SUT kp kr KH km sw tps rt pl P st my co C la lag lat LG LT po pog pot OG OT cJ cJJ cI cII mo eo dg to er n E DG tr T) sz) := by
  refine Met.ofW (cc := cX4_manyValue) (maxL := 2) (ret := (some .int)) (by decide) rfl ?_
  intro p e s m args below meth c s₁ B hml hv
  obtain ⟨rfl, hsz, hP, hK, hD0⟩ := hv
  have hx := B.exec
  have hb := B.bytes
  have hr := B.returns
  have hlocks := B.notSynchronized
  have hts := atoms_spec (ws := wsX4_manyValue) B.pre
  have hown : s.vm.findClass RX4 = some m.cls := findClass_of_methodNamed B.named
  subst hsz
  have hD := hD0.self (sz := s.heap.size)
  generalize hAe : va_A (wTop tp ly lyg lyt LYG LYT tl tlg tlt TLG TLT ne neg net NEG NET su sug sut SUG SUT kp kr KH km sw tps rt pl P st my co C la lag lat LG LT po pog pot OG OT cJ cJJ cI cII mo eo dg to er n E DG tr T) s.heap.size = A at hD ⊢
  have hA : ∀ q : Nat, s.heap.size ≤ q → A q := fun q h => by rw [← hAe]; exact Or.inr h
  have hS : va_S A s.heap s.heap [] := va_S.rf
  have hl := lv_entry ([.ref tp, .int (nI w)]) (n := 2) (Nat.le_of_ble_eq_true rfl)
  rw [lg_entry_eq]
  generalize (lg_sl ([.ref tp, .int (nI w)]) ++ List.replicate (2 - (lg_sl ([.ref tp, .int (nI w)])).length) Slot.unset).toArray = ls at hl ⊢
  have hl : lv_has ls 2 [(0, .ref tp), (1, .int (nI w))] := hl
  have hi_X4 : ∀ w ∈ u_ws RX4 TX4 11, w ∈ wsX4_manyValue := by decide +kernel
  have hf_10 := hts (.fieldLink RX4 10 "Topplemoor" "moor" "LTopplemoor$Moor;") (by decide +kernel)
  have hi_X2 : ∀ w ∈ u_ws RX2 TX2 4, w ∈ wsX4_manyValue := by decide +kernel
  have hf_53 := hts (.fieldLink RX4 53 "Topplemoor$Moor" "spots" "I") (by decide +kernel)
  have hf_21 := hts (.fieldLink RX4 21 "Topplemoor" "lying" "LTopplemoor$Heap;") (by decide +kernel)
  have hf_108 := hts (.fieldLink RX4 108 "Topplemoor" "swallowed" "I") (by decide +kernel)
  have hf_105 := hts (.fieldLink RX4 105 "Topplemoor" "topples" "I") (by decide +kernel)
  have hf_118 := hts (.fieldLink RX4 118 "Topplemoor" "keptMany" "I") (by decide +kernel)
  have hf_44 := hts (.fieldLink RX4 44 "Topplemoor" "money" "LTopplemoor$Money;") (by decide +kernel)
  have hf_37 := hts (.fieldLink RX4 37 "Topplemoor" "rotors" "LTopplemoor$Rotors;") (by decide +kernel)
  have hi_X3 : ∀ w ∈ u_ws RX3 TX3 3, w ∈ wsX4_manyValue := by decide +kernel
  have hf_273 := hts (.fieldLink RX4 273 "Topplemoor$Rotors" "steps" "I") (by decide +kernel)
  refine lv_iload_n hx hb dX4_manyValue_0 rfl (lv_at hl 1 rfl) ?_
  have hcase : w = 0 ∨ w = 1 ∨ w = 2 ∨ w = 3 ∨ w = 4 ∨ w = 5 ∨ w = 6 ∨ w = 7 ∨ w = 8 ∨ w = 9 ∨ w = 10 ∨ w = 11 ∨ w = 12 ∨ w = 13 := by omega
  rcases hcase with rfl | rfl | rfl | rfl | rfl | rfl | rfl | rfl | rfl | rfl | rfl | rfl | rfl | rfl
  · refine lv_tableIn (off := 67) (tgt := 68) hx hb dX4_manyValue_1 (by decide) (by decide) (by decide) (by decide) ?_
    refine lv_aload_n hx hb dX4_manyValue_68 rfl (lv_at hl 0 rfl) ?_
    refine va_get (D := (dC, dI)) (ci := kX4) (v := .ref mo) (C := RX4) (T := TX4) (N := 11) hx hb hts hi_X4 hown hK hP 0 rfl rfl 0 (by decide) hf_10 (fun _ h9 => h9) rfl dX4_manyValue_69 ?_
    refine va_get (D := (dC, dI)) (ci := kX2) (v := .int (nI n)) (C := RX2) (T := TX2) (N := 4) hx hb hts hi_X2 hown hK hP 28 rfl rfl 0 (by decide) hf_53 (fun _ h9 => h9) rfl dX4_manyValue_72 ?_
    exact kt_iret (W' := wTop tp ly lyg lyt LYG LYT tl tlg tlt TLG TLT ne neg net NEG NET su sug sut SUG SUT kp kr KH km sw tps rt pl P st my co C la lag lat LG LT po pog pot OG OT cJ cJJ cI cII mo eo dg to er n E DG tr T) hx hb hr hS hP hK hD (rfl) hlocks dX4_manyValue_75
  · refine lv_tableIn (off := 75) (tgt := 76) hx hb dX4_manyValue_1 (by decide) (by decide) (by decide) (by decide) ?_
    refine lv_aload_n hx hb dX4_manyValue_76 rfl (lv_at hl 0 rfl) ?_
    refine va_get (D := (dC, dI)) (ci := kX4) (v := .ref mo) (C := RX4) (T := TX4) (N := 11) hx hb hts hi_X4 hown hK hP 0 rfl rfl 0 (by decide) hf_10 (fun _ h9 => h9) rfl dX4_manyValue_77 ?_
    refine kt_calli (w' := wTop tp ly lyg lyt LYG LYT tl tlg tlt TLG TLT ne neg net NEG NET su sug sut SUG SUT kp kr KH km sw tps rt pl P st my co C la lag lat LG LT po pog pot OG OT cJ cJJ cI cII mo eo dg to er n E DG tr T) (rest := []) (As := []) ⟨hx, hb, hml, hown, hts⟩ (c_X2_allEdges l dC dI cI cII cJ cJJ mo eo dg to er n E DG _ ) (cwV 0 hts gX4_manyValue_X2_allEdges rfl rfl rfl (by decide +kernel) ⟨Nat.le_of_ble_eq_true rfl, Nat.le_of_ble_eq_true rfl⟩) hK hP hD hS hA [28, 29, 30, 31, 32, 33, 34, 35, 36, 37] sw_wTop_wM_0 rfl 28 kX2 rfl rfl rfl rfl rfl hl.1 (Nat.le_of_ble_eq_true rfl) dX4_manyValue_80 ⟨Nat.zero_le _, Nat.zero_le _⟩ (fun H locs hP hD hS => ?_)
    exact kt_iret (W' := wTop tp ly lyg lyt LYG LYT tl tlg tlt TLG TLT ne neg net NEG NET su sug sut SUG SUT kp kr KH km sw tps rt pl P st my co C la lag lat LG LT po pog pot OG OT cJ cJJ cI cII mo eo dg to er n E DG tr T) hx hb hr hS hP hK hD (rfl) hlocks dX4_manyValue_83
  · refine lv_tableIn (off := 83) (tgt := 84) hx hb dX4_manyValue_1 (by decide) (by decide) (by decide) (by decide) ?_
    refine lv_aload_n hx hb dX4_manyValue_84 rfl (lv_at hl 0 rfl) ?_
    refine va_get (D := (dC, dI)) (ci := kX4) (v := .ref ly) (C := RX4) (T := TX4) (N := 11) hx hb hts hi_X4 hown hK hP 0 rfl rfl 1 (by decide) hf_21 (fun _ h9 => h9) rfl dX4_manyValue_85 ?_
    refine kt_calli (w' := wTop tp ly lyg lyt LYG LYT tl tlg tlt TLG TLT ne neg net NEG NET su sug sut SUG SUT kp kr KH km sw tps rt pl P st my co C la lag lat LG LT po pog pot OG OT cJ cJJ cI cII mo eo dg to er n E DG tr T) (rest := []) (As := []) ⟨hx, hb, hml, hown, hts⟩ (c_X0_allGrains l dC dI cI cII cJ cJJ ly lyg lyt LYG LYT mo eo dg to er n E DG _ (hn)) (cwV 0 hts gX4_manyValue_X0_allGrains rfl rfl rfl (by decide +kernel) ⟨Nat.le_of_ble_eq_true rfl, Nat.le_of_ble_eq_true rfl⟩) hK hP hD hS hA [1, 2, 3, 28, 29, 30, 31, 32, 33, 34, 35, 36, 37] sw_wTop_wHM_0 rfl 1 kX0 rfl rfl rfl rfl rfl hl.1 (Nat.le_of_ble_eq_true rfl) dX4_manyValue_88 ⟨Nat.zero_le _, Nat.zero_le _⟩ (fun H locs hP hD hS => ?_)
    exact kt_iret (W' := wTop tp ly lyg lyt LYG LYT tl tlg tlt TLG TLT ne neg net NEG NET su sug sut SUG SUT kp kr KH km sw tps rt pl P st my co C la lag lat LG LT po pog pot OG OT cJ cJJ cI cII mo eo dg to er n E DG tr T) hx hb hr hS hP hK hD (rfl) hlocks dX4_manyValue_91
  · refine lv_tableIn (off := 91) (tgt := 92) hx hb dX4_manyValue_1 (by decide) (by decide) (by decide) (by decide) ?_
    refine lv_aload_n hx hb dX4_manyValue_92 rfl (lv_at hl 0 rfl) ?_
    refine va_get (D := (dC, dI)) (ci := kX4) (v := .int sw) (C := RX4) (T := TX4) (N := 11) hx hb hts hi_X4 hown hK hP 0 rfl rfl 9 (by decide) hf_108 (fun _ h9 => h9) rfl dX4_manyValue_93 ?_
    exact kt_iret (W' := wTop tp ly lyg lyt LYG LYT tl tlg tlt TLG TLT ne neg net NEG NET su sug sut SUG SUT kp kr KH km sw tps rt pl P st my co C la lag lat LG LT po pog pot OG OT cJ cJJ cI cII mo eo dg to er n E DG tr T) hx hb hr hS hP hK hD (rfl) hlocks dX4_manyValue_96
  · refine lv_tableIn (off := 96) (tgt := 97) hx hb dX4_manyValue_1 (by decide) (by decide) (by decide) (by decide) ?_
    refine lv_aload_n hx hb dX4_manyValue_97 rfl (lv_at hl 0 rfl) ?_
    refine va_get (D := (dC, dI)) (ci := kX4) (v := .int tps) (C := RX4) (T := TX4) (N := 11) hx hb hts hi_X4 hown hK hP 0 rfl rfl 10 (by decide) hf_105 (fun _ h9 => h9) rfl dX4_manyValue_98 ?_
    exact kt_iret (W' := wTop tp ly lyg lyt LYG LYT tl tlg tlt TLG TLT ne neg net NEG NET su sug sut SUG SUT kp kr KH km sw tps rt pl P st my co C la lag lat LG LT po pog pot OG OT cJ cJJ cI cII mo eo dg to er n E DG tr T) hx hb hr hS hP hK hD (rfl) hlocks dX4_manyValue_101
  · refine lv_tableIn (off := 101) (tgt := 102) hx hb dX4_manyValue_1 (by decide) (by decide) (by decide) (by decide) ?_
    refine lv_aload_n hx hb dX4_manyValue_102 rfl (lv_at hl 0 rfl) ?_
    refine va_get (D := (dC, dI)) (ci := kX4) (v := .ref ly) (C := RX4) (T := TX4) (N := 11) hx hb hts hi_X4 hown hK hP 0 rfl rfl 1 (by decide) hf_21 (fun _ h9 => h9) rfl dX4_manyValue_103 ?_
    refine kt_calli (w' := wTop tp ly lyg lyt LYG LYT tl tlg tlt TLG TLT ne neg net NEG NET su sug sut SUG SUT kp kr KH km sw tps rt pl P st my co C la lag lat LG LT po pog pot OG OT cJ cJJ cI cII mo eo dg to er n E DG tr T) (rest := []) (As := []) ⟨hx, hb, hml, hown, hts⟩ (c_X0_allTimes l dC dI cI cII cJ cJJ ly lyg lyt LYG LYT mo eo dg to er n E DG _ (hn)) (cwV 0 hts gX4_manyValue_X0_allTimes rfl rfl rfl (by decide +kernel) ⟨Nat.le_of_ble_eq_true rfl, Nat.le_of_ble_eq_true rfl⟩) hK hP hD hS hA [1, 2, 3, 28, 29, 30, 31, 32, 33, 34, 35, 36, 37] sw_wTop_wHM_0 rfl 1 kX0 rfl rfl rfl rfl rfl hl.1 (Nat.le_of_ble_eq_true rfl) dX4_manyValue_106 ⟨Nat.zero_le _, Nat.zero_le _⟩ (fun H locs hP hD hS => ?_)
    exact kt_iret (W' := wTop tp ly lyg lyt LYG LYT tl tlg tlt TLG TLT ne neg net NEG NET su sug sut SUG SUT kp kr KH km sw tps rt pl P st my co C la lag lat LG LT po pog pot OG OT cJ cJJ cI cII mo eo dg to er n E DG tr T) hx hb hr hS hP hK hD (rfl) hlocks dX4_manyValue_109
  · refine lv_tableIn (off := 109) (tgt := 110) hx hb dX4_manyValue_1 (by decide) (by decide) (by decide) (by decide) ?_
    refine lv_aload_n hx hb dX4_manyValue_110 rfl (lv_at hl 0 rfl) ?_
    refine va_get (D := (dC, dI)) (ci := kX4) (v := .ref ly) (C := RX4) (T := TX4) (N := 11) hx hb hts hi_X4 hown hK hP 0 rfl rfl 1 (by decide) hf_21 (fun _ h9 => h9) rfl dX4_manyValue_111 ?_
    refine kt_calli (w' := wTop tp ly lyg lyt LYG LYT tl tlg tlt TLG TLT ne neg net NEG NET su sug sut SUG SUT kp kr KH km sw tps rt pl P st my co C la lag lat LG LT po pog pot OG OT cJ cJJ cI cII mo eo dg to er n E DG tr T) (rest := []) (As := []) ⟨hx, hb, hml, hown, hts⟩ (c_X0_steepSet l dC dI cI cII cJ cJJ ly lyg lyt LYG LYT mo eo dg to er n E DG _ (hn)) (cwV 0 hts gX4_manyValue_X0_steepSet rfl rfl rfl (by decide +kernel) ⟨Nat.le_of_ble_eq_true rfl, Nat.le_of_ble_eq_true rfl⟩) hK hP hD hS hA [1, 2, 3, 28, 29, 30, 31, 32, 33, 34, 35, 36, 37] sw_wTop_wHM_0 rfl 1 kX0 rfl rfl rfl rfl rfl hl.1 (Nat.le_of_ble_eq_true rfl) dX4_manyValue_114 ⟨Nat.zero_le _, Nat.zero_le _⟩ (fun H locs hP hD hS => ?_)
    exact kt_iret (W' := wTop tp ly lyg lyt LYG LYT tl tlg tlt TLG TLT ne neg net NEG NET su sug sut SUG SUT kp kr KH km sw tps rt pl P st my co C la lag lat LG LT po pog pot OG OT cJ cJJ cI cII mo eo dg to er n E DG tr T) hx hb hr hS hP hK hD (rfl) hlocks dX4_manyValue_117
  · refine lv_tableIn (off := 117) (tgt := 118) hx hb dX4_manyValue_1 (by decide) (by decide) (by decide) (by decide) ?_
    refine lv_aload_n hx hb dX4_manyValue_118 rfl (lv_at hl 0 rfl) ?_
    refine va_get (D := (dC, dI)) (ci := kX4) (v := .ref mo) (C := RX4) (T := TX4) (N := 11) hx hb hts hi_X4 hown hK hP 0 rfl rfl 0 (by decide) hf_10 (fun _ h9 => h9) rfl dX4_manyValue_119 ?_
    refine kt_calli (w' := wTop tp ly lyg lyt LYG LYT tl tlg tlt TLG TLT ne neg net NEG NET su sug sut SUG SUT kp kr KH km sw tps rt pl P st my co C la lag lat LG LT po pog pot OG OT cJ cJJ cI cII mo eo dg to er n E DG tr T) (rest := []) (As := []) ⟨hx, hb, hml, hown, hts⟩ (c_X2_isFast l dC dI cI cII cJ cJJ mo eo dg to er n E DG _ (hn)) (cwV 0 hts gX4_manyValue_X2_isFast rfl rfl rfl (by decide +kernel) ⟨Nat.le_of_ble_eq_true rfl, Nat.le_of_ble_eq_true rfl⟩) hK hP hD hS hA [28, 29, 30, 31, 32, 33, 34, 35, 36, 37] sw_wTop_wM_0 rfl 28 kX2 rfl rfl rfl rfl rfl hl.1 (Nat.le_of_ble_eq_true rfl) dX4_manyValue_122 ⟨Nat.zero_le _, Nat.zero_le _⟩ (fun H locs hP hD hS => ?_)
    refine lv_if_eq (tgt := 132) hx hb dX4_manyValue_125 (by decide) (fun c125 => ?_) (fun c125 => ?_)
    · skip
      refine lv_iconst (v := 0) hx hb dX4_manyValue_132 (by decide) ?_
      exact kt_iret (W' := wTop tp ly lyg lyt LYG LYT tl tlg tlt TLG TLT ne neg net NEG NET su sug sut SUG SUT kp kr KH km sw tps rt pl P st my co C la lag lat LG LT po pog pot OG OT cJ cJJ cI cII mo eo dg to er n E DG tr T) hx hb hr hS hP hK hD (by first | exact (congrArg b2i (b2i_eq0.mp c125)).symm | exact (congrArg b2i (b2i_ne0.mp c125)).symm) hlocks dX4_manyValue_133
    · skip
      refine lv_iconst (v := 1) hx hb dX4_manyValue_128 (by decide) ?_
      refine lv_goto (tgt := 133) hx hb dX4_manyValue_129 (by decide) ?_
      exact kt_iret (W' := wTop tp ly lyg lyt LYG LYT tl tlg tlt TLG TLT ne neg net NEG NET su sug sut SUG SUT kp kr KH km sw tps rt pl P st my co C la lag lat LG LT po pog pot OG OT cJ cJJ cI cII mo eo dg to er n E DG tr T) hx hb hr hS hP hK hD (by first | exact (congrArg b2i (b2i_eq0.mp c125)).symm | exact (congrArg b2i (b2i_ne0.mp c125)).symm) hlocks dX4_manyValue_133
  · refine lv_tableIn (off := 133) (tgt := 134) hx hb dX4_manyValue_1 (by decide) (by decide) (by decide) (by decide) ?_
    refine lv_aload_n hx hb dX4_manyValue_134 rfl (lv_at hl 0 rfl) ?_
    refine va_get (D := (dC, dI)) (ci := kX4) (v := .int (nI km)) (C := RX4) (T := TX4) (N := 11) hx hb hts hi_X4 hown hK hP 0 rfl rfl 8 (by decide) hf_118 (fun _ h9 => h9) rfl dX4_manyValue_135 ?_
    exact kt_iret (W' := wTop tp ly lyg lyt LYG LYT tl tlg tlt TLG TLT ne neg net NEG NET su sug sut SUG SUT kp kr KH km sw tps rt pl P st my co C la lag lat LG LT po pog pot OG OT cJ cJJ cI cII mo eo dg to er n E DG tr T) hx hb hr hS hP hK hD (rfl) hlocks dX4_manyValue_138
  · refine lv_tableIn (off := 138) (tgt := 139) hx hb dX4_manyValue_1 (by decide) (by decide) (by decide) (by decide) ?_
    refine lv_aload_n hx hb dX4_manyValue_139 rfl (lv_at hl 0 rfl) ?_
    refine va_get (D := (dC, dI)) (ci := kX4) (v := .ref my) (C := RX4) (T := TX4) (N := 11) hx hb hts hi_X4 hown hK hP 0 rfl rfl 6 (by decide) hf_44 (fun _ h9 => h9) rfl dX4_manyValue_140 ?_
    refine kt_calli (w' := wTop tp ly lyg lyt LYG LYT tl tlg tlt TLG TLT ne neg net NEG NET su sug sut SUG SUT kp kr KH km sw tps rt pl P st my co C la lag lat LG LT po pog pot OG OT cJ cJJ cI cII mo eo dg to er n E DG tr T) (rest := []) (As := []) ⟨hx, hb, hml, hown, hts⟩ (c_X1_allCoins l dC dI cI cII cJ cJJ my co C la po mo eo dg to er n E DG _ ) (cwV 0 hts gX4_manyValue_X1_allCoins rfl rfl rfl (by decide +kernel) ⟨Nat.le_of_ble_eq_true rfl, Nat.le_of_ble_eq_true rfl⟩) hK hP hD hS hA [20, 21, 28, 29, 30, 31, 32, 33, 34, 35, 36, 37] sw_wTop_wYc_0 rfl 20 kX1 rfl rfl rfl rfl rfl hl.1 (Nat.le_of_ble_eq_true rfl) dX4_manyValue_143 ⟨Nat.zero_le _, Nat.zero_le _⟩ (fun H locs hP hD hS => ?_)
    exact kt_iret (W' := wTop tp ly lyg lyt LYG LYT tl tlg tlt TLG TLT ne neg net NEG NET su sug sut SUG SUT kp kr KH km sw tps rt pl P st my co C la lag lat LG LT po pog pot OG OT cJ cJJ cI cII mo eo dg to er n E DG tr T) hx hb hr hS hP hK hD (rfl) hlocks dX4_manyValue_146
  · refine lv_tableIn (off := 146) (tgt := 147) hx hb dX4_manyValue_1 (by decide) (by decide) (by decide) (by decide) ?_
    refine lv_aload_n hx hb dX4_manyValue_147 rfl (lv_at hl 0 rfl) ?_
    refine va_get (D := (dC, dI)) (ci := kX4) (v := .ref mo) (C := RX4) (T := TX4) (N := 11) hx hb hts hi_X4 hown hK hP 0 rfl rfl 0 (by decide) hf_10 (fun _ h9 => h9) rfl dX4_manyValue_148 ?_
    refine kt_calli (w' := wTop tp ly lyg lyt LYG LYT tl tlg tlt TLG TLT ne neg net NEG NET su sug sut SUG SUT kp kr KH km sw tps rt pl P st my co C la lag lat LG LT po pog pot OG OT cJ cJJ cI cII mo eo dg to er n E DG tr T) (rest := []) (As := []) ⟨hx, hb, hml, hown, hts⟩ (c_X2_allEdges l dC dI cI cII cJ cJJ mo eo dg to er n E DG _ ) (cwV 0 hts gX4_manyValue_X2_allEdges rfl rfl rfl (by decide +kernel) ⟨Nat.le_of_ble_eq_true rfl, Nat.le_of_ble_eq_true rfl⟩) hK hP hD hS hA [28, 29, 30, 31, 32, 33, 34, 35, 36, 37] sw_wTop_wM_0 rfl 28 kX2 rfl rfl rfl rfl rfl hl.1 (Nat.le_of_ble_eq_true rfl) dX4_manyValue_151 ⟨Nat.zero_le _, Nat.zero_le _⟩ (fun H locs hP hD hS => ?_)
    refine lv_aload_n hx hb dX4_manyValue_154 rfl (lv_at hl 0 rfl) ?_
    refine va_get (D := (dC, dI)) (ci := kX4) (v := .ref mo) (C := RX4) (T := TX4) (N := 11) hx hb hts hi_X4 hown hK hP 0 rfl rfl 0 (by decide) hf_10 (fun _ h9 => h9) rfl dX4_manyValue_155 ?_
    refine va_get (D := (dC, dI)) (ci := kX2) (v := .int (nI n)) (C := RX2) (T := TX2) (N := 4) hx hb hts hi_X2 hown hK hP 28 rfl rfl 0 (by decide) hf_53 (fun _ h9 => h9) rfl dX4_manyValue_158 ?_
    refine lv_isub hx hb dX4_manyValue_161 ?_
    exact kt_iret (W' := wTop tp ly lyg lyt LYG LYT tl tlg tlt TLG TLT ne neg net NEG NET su sug sut SUG SUT kp kr KH km sw tps rt pl P st my co C la lag lat LG LT po pog pot OG OT cJ cJJ cI cII mo eo dg to er n E DG tr T) hx hb hr hS hP hK hD (rfl) hlocks dX4_manyValue_162
  · refine lv_tableIn (off := 162) (tgt := 163) hx hb dX4_manyValue_1 (by decide) (by decide) (by decide) (by decide) ?_
    refine lv_aload_n hx hb dX4_manyValue_163 rfl (lv_at hl 0 rfl) ?_
    refine va_get (D := (dC, dI)) (ci := kX4) (v := .ref my) (C := RX4) (T := TX4) (N := 11) hx hb hts hi_X4 hown hK hP 0 rfl rfl 6 (by decide) hf_44 (fun _ h9 => h9) rfl dX4_manyValue_164 ?_
    refine kt_calli (w' := wTop tp ly lyg lyt LYG LYT tl tlg tlt TLG TLT ne neg net NEG NET su sug sut SUG SUT kp kr KH km sw tps rt pl P st my co C la lag lat LG LT po pog pot OG OT cJ cJJ cI cII mo eo dg to er n E DG tr T) (rest := []) (As := []) ⟨hx, hb, hml, hown, hts⟩ (c_X1_debtors l dC dI cI cII cJ cJJ my co C la po mo eo dg to er n E DG _ ) (cwV 0 hts gX4_manyValue_X1_debtors rfl rfl rfl (by decide +kernel) ⟨Nat.le_of_ble_eq_true rfl, Nat.le_of_ble_eq_true rfl⟩) hK hP hD hS hA [20, 21, 28, 29, 30, 31, 32, 33, 34, 35, 36, 37] sw_wTop_wYc_0 rfl 20 kX1 rfl rfl rfl rfl rfl hl.1 (Nat.le_of_ble_eq_true rfl) dX4_manyValue_167 ⟨Nat.zero_le _, Nat.zero_le _⟩ (fun H locs hP hD hS => ?_)
    exact kt_iret (W' := wTop tp ly lyg lyt LYG LYT tl tlg tlt TLG TLT ne neg net NEG NET su sug sut SUG SUT kp kr KH km sw tps rt pl P st my co C la lag lat LG LT po pog pot OG OT cJ cJJ cI cII mo eo dg to er n E DG tr T) hx hb hr hS hP hK hD (rfl) hlocks dX4_manyValue_170
  · refine lv_tableIn (off := 170) (tgt := 171) hx hb dX4_manyValue_1 (by decide) (by decide) (by decide) (by decide) ?_
    refine lv_aload_n hx hb dX4_manyValue_171 rfl (lv_at hl 0 rfl) ?_
    refine va_get (D := (dC, dI)) (ci := kX4) (v := .ref rt) (C := RX4) (T := TX4) (N := 11) hx hb hts hi_X4 hown hK hP 0 rfl rfl 5 (by decide) hf_37 (fun _ h9 => h9) rfl dX4_manyValue_172 ?_
    refine va_get (D := (dC, dI)) (ci := kX3) (v := .int st) (C := RX3) (T := TX3) (N := 3) hx hb hts hi_X3 hown hK hP 18 rfl rfl 1 (by decide) hf_273 (fun _ h9 => h9) rfl dX4_manyValue_175 ?_
    exact kt_iret (W' := wTop tp ly lyg lyt LYG LYT tl tlg tlt TLG TLT ne neg net NEG NET su sug sut SUG SUT kp kr KH km sw tps rt pl P st my co C la lag lat LG LT po pog pot OG OT cJ cJJ cI cII mo eo dg to er n E DG tr T) hx hb hr hS hP hK hD (rfl) hlocks dX4_manyValue_178
  · refine lv_tableOut (tgt := 179) hx hb dX4_manyValue_1 (by decide) (by decide) ?_
    refine lv_aload_n hx hb dX4_manyValue_179 rfl (lv_at hl 0 rfl) ?_
    refine va_get (D := (dC, dI)) (ci := kX4) (v := .ref rt) (C := RX4) (T := TX4) (N := 11) hx hb hts hi_X4 hown hK hP 0 rfl rfl 5 (by decide) hf_37 (fun _ h9 => h9) rfl dX4_manyValue_180 ?_
    refine kt_calli (w' := wTop tp ly lyg lyt LYG LYT tl tlg tlt TLG TLT ne neg net NEG NET su sug sut SUG SUT kp kr KH km sw tps rt pl P st my co C la lag lat LG LT po pog pot OG OT cJ cJJ cI cII mo eo dg to er n E DG tr T) (rest := []) (As := []) ⟨hx, hb, hml, hown, hts⟩ (c_X3_areTree l dC dI cI cII cJ cJJ rt pl P st mo eo dg to er n E DG _ (hn)) (cwV 0 hts gX4_manyValue_X3_areTree rfl rfl rfl (by decide +kernel) ⟨Nat.le_of_ble_eq_true rfl, Nat.le_of_ble_eq_true rfl⟩) hK hP hD hS hA [18, 19, 28, 29, 30, 31, 32, 33, 34, 35, 36, 37] sw_wTop_wRM_0 rfl 18 kX3 rfl rfl rfl rfl rfl hl.1 (Nat.le_of_ble_eq_true rfl) dX4_manyValue_183 ⟨Nat.zero_le _, Nat.zero_le _⟩ (fun H locs hP hD hS => ?_)
    refine lv_if_eq (tgt := 193) hx hb dX4_manyValue_186 (by decide) (fun c186 => ?_) (fun c186 => ?_)
    · skip
      refine lv_iconst (v := 0) hx hb dX4_manyValue_193 (by decide) ?_
      exact kt_iret (W' := wTop tp ly lyg lyt LYG LYT tl tlg tlt TLG TLT ne neg net NEG NET su sug sut SUG SUT kp kr KH km sw tps rt pl P st my co C la lag lat LG LT po pog pot OG OT cJ cJJ cI cII mo eo dg to er n E DG tr T) hx hb hr hS hP hK hD (by first | exact (congrArg b2i (b2i_eq0.mp c186)).symm | exact (congrArg b2i (b2i_ne0.mp c186)).symm) hlocks dX4_manyValue_194
    · skip
      refine lv_iconst (v := 1) hx hb dX4_manyValue_189 (by decide) ?_
      refine lv_goto (tgt := 194) hx hb dX4_manyValue_190 (by decide) ?_
      exact kt_iret (W' := wTop tp ly lyg lyt LYG LYT tl tlg tlt TLG TLT ne neg net NEG NET su sug sut SUG SUT kp kr KH km sw tps rt pl P st my co C la lag lat LG LT po pog pot OG OT cJ cJJ cI cII mo eo dg to er n E DG tr T) hx hb hr hS hP hK hD (by first | exact (congrArg b2i (b2i_eq0.mp c186)).symm | exact (congrArg b2i (b2i_ne0.mp c186)).symm) hlocks dX4_manyValue_194

set_option maxHeartbeats 4000000 in
set_option maxRecDepth 100000 in
theorem c_X4_many (l : Launch) (dC : Nat → ClassId) (dI : Nat → Nat → Nat) (cI cII cJ cJJ : ClassId) (tp : Nat) (ly : Nat) (lyg : Nat) (lyt : Nat) (LYG : Nat → Int32) (LYT : Nat → Int32) (tl : Nat) (tlg : Nat) (tlt : Nat) (TLG : Nat → Int32) (TLT : Nat → Int32) (ne : Nat) (neg : Nat) (net : Nat) (NEG : Nat → Int32) (NET : Nat → Int32) (su : Nat) (sug : Nat) (sut : Nat) (SUG : Nat → Int32) (SUT : Nat → Int32) (kp : Nat) (kr : Nat → Nat) (KH : Nat → Nat → Int32) (km : Nat) (sw : Int32) (tps : Int32) (rt : Nat) (pl : Nat) (P : Nat → Int32) (st : Int32) (my : Nat) (co : Nat) (C : Nat → Int32) (la : Nat) (lag : Nat) (lat : Nat) (LG : Nat → Int32) (LT : Nat → Int32) (po : Nat) (pog : Nat) (pot : Nat) (OG : Nat → Int32) (OT : Nat → Int32) (mo : Nat) (eo : Nat) (dg : Nat) (to : Nat) (er : Nat → Nat) (n : Nat) (E : Nat → Nat → Int32) (DG : Nat → Int32) (tr : Nat → Nat) (T : Nat → Nat → Int64) (w : Nat) (sz : Nat) (hn : n ≤ 6) (hw : w < 14) : Met l yX4_many wsX4_many ({ frames := 5, cells := 0, slots := 0, locals := 110 }) (va_Pc [.ref tp, .int (nI w)] (PRE (dC, dI) (tyL cI cII cJ cJJ) (wTop tp ly lyg lyt LYG LYT tl tlg tlt TLG TLT ne neg net NEG NET su sug sut SUG SUT kp kr KH km sw tps rt pl P st my co C la lag lat LG LT po pog pot OG OT cJ cJJ cI cII mo eo dg to er n E DG tr T) sz)) (va_Qi (fun (r' : Int32) (_ : Unit) => r' = manyF n E DG LYG LYT P C sw tps st km w) (fun _ tS => ATW (dC, dI) (tyL cI cII cJ cJJ) (va_A (wTop tp ly lyg lyt LYG LYT tl tlg tlt TLG TLT ne neg net NEG NET su sug sut SUG SUT kp kr KH km sw tps rt pl P st my co C la lag lat LG LT po pog pot OG OT cJ cJJ cI cII mo eo dg to er n E DG tr T) sz) (wTop tp ly lyg lyt LYG LYT tl tlg tlt TLG TLT ne neg net NEG NET su sug sut SUG SUT kp kr KH km sw tps rt pl P st my co C la lag lat LG LT po pog pot OG OT cJ cJJ cI cII mo eo dg to er n E DG tr T) tS) (va_A (wTop tp ly lyg lyt LYG LYT tl tlg tlt TLG TLT ne neg net NEG NET su sug sut SUG SUT kp kr KH km sw tps rt pl P st my co C la lag lat LG LT po pog pot OG OT cJ cJJ cI cII mo eo dg to er n E DG tr T) sz)) 0 0 (va_A (wTop tp ly lyg lyt LYG LYT tl tlg tlt TLG TLT ne neg net NEG NET su sug sut SUG SUT kp kr KH km sw tps rt pl P st my co C la lag lat LG LT po pog pot OG OT cJ cJJ cI cII mo eo dg to er n E DG tr T) sz) := by
  refine Met.ofW (cc := cX4_many) (maxL := 2) (ret := (some .int)) (by decide) rfl ?_
  intro p e s m args below meth c s₁ B hml hv
  obtain ⟨rfl, hsz, hP, hK, hD0⟩ := hv
  have hx := B.exec
  have hb := B.bytes
  have hr := B.returns
  have hlocks := B.notSynchronized
  have hts := atoms_spec (ws := wsX4_many) B.pre
  have hown : s.vm.findClass RX4 = some m.cls := findClass_of_methodNamed B.named
  subst hsz
  have hD := hD0.self (sz := s.heap.size)
  generalize hAe : va_A (wTop tp ly lyg lyt LYG LYT tl tlg tlt TLG TLT ne neg net NEG NET su sug sut SUG SUT kp kr KH km sw tps rt pl P st my co C la lag lat LG LT po pog pot OG OT cJ cJJ cI cII mo eo dg to er n E DG tr T) s.heap.size = A at hD ⊢
  have hA : ∀ q : Nat, s.heap.size ≤ q → A q := fun q h => by rw [← hAe]; exact Or.inr h
  have hS : va_S A s.heap s.heap [] := va_S.rf
  have hl := lv_entry ([.ref tp, .int (nI w)]) (n := 2) (Nat.le_of_ble_eq_true rfl)
  rw [lg_entry_eq]
  generalize (lg_sl ([.ref tp, .int (nI w)]) ++ List.replicate (2 - (lg_sl ([.ref tp, .int (nI w)])).length) Slot.unset).toArray = ls at hl ⊢
  have hl : lv_has ls 2 [(0, .ref tp), (1, .int (nI w))] := hl
  refine lv_iload_n hx hb dX4_many_0 rfl (lv_at hl 1 rfl) ?_
  refine lv_iconst (v := 0) hx hb dX4_many_1 (by decide) ?_
  refine lv_bipush (v := 13) hx hb dX4_many_2 (by decide) ?_
  refine kt_callSv (w' := wTop tp ly lyg lyt LYG LYT tl tlg tlt TLG TLT ne neg net NEG NET su sug sut SUG SUT kp kr KH km sw tps rt pl P st my co C la lag lat LG LT po pog pot OG OT cJ cJJ cI cII mo eo dg to er n E DG tr T) (rest := []) (As := [.int (nI w), .int 0, .int 13]) ⟨hx, hb, hml, hown, hts⟩ (c_X4_requireWithin l dC dI cI cII cJ cJJ (nI w) 0 13 _ (nI_pos (by omega)) (nI_le (a := w) (b := 13) (by omega) (by omega))) (va_cwS 3 hts gX4_many_X4_requireWithin rfl rfl rfl (by decide +kernel) ⟨Nat.le_of_ble_eq_true rfl, Nat.le_of_ble_eq_true rfl⟩) hK hP hD hS hA [] sw_wTop_wE_0 rfl rfl rfl hl.1 (Nat.le_of_ble_eq_true rfl) dX4_many_4 ⟨Nat.zero_le _, Nat.zero_le _⟩ (fun H locs hP hD hS => ?_)
  refine lv_aload_n hx hb dX4_many_7 rfl (lv_at hl 0 rfl) ?_
  refine lv_iload_n hx hb dX4_many_8 rfl (lv_at hl 1 rfl) ?_
  refine kt_calli (w' := wTop tp ly lyg lyt LYG LYT tl tlg tlt TLG TLT ne neg net NEG NET su sug sut SUG SUT kp kr KH km sw tps rt pl P st my co C la lag lat LG LT po pog pot OG OT cJ cJJ cI cII mo eo dg to er n E DG tr T) (rest := []) (As := [.int (nI w)]) ⟨hx, hb, hml, hown, hts⟩ (c_X4_manyValue l dC dI cI cII cJ cJJ tp ly lyg lyt LYG LYT tl tlg tlt TLG TLT ne neg net NEG NET su sug sut SUG SUT kp kr KH km sw tps rt pl P st my co C la lag lat LG LT po pog pot OG OT mo eo dg to er n E DG tr T w _ (hn) (hw)) (cwV 1 hts gX4_many_X4_manyValue rfl rfl rfl (by decide +kernel) ⟨Nat.le_of_ble_eq_true rfl, Nat.le_of_ble_eq_true rfl⟩) hK hP hD hS hA (List.range' 0 45) sw_wTop_wTop_0 rfl 0 kX4 rfl rfl rfl rfl rfl hl.1 (Nat.le_of_ble_eq_true rfl) dX4_many_9 ⟨Nat.zero_le _, Nat.zero_le _⟩ (fun H locs hP hD hS => ?_)
  exact kt_iret (W' := wTop tp ly lyg lyt LYG LYT tl tlg tlt TLG TLT ne neg net NEG NET su sug sut SUG SUT kp kr KH km sw tps rt pl P st my co C la lag lat LG LT po pog pot OG OT cJ cJJ cI cII mo eo dg to er n E DG tr T) hx hb hr hS hP hK hD (rfl) hlocks dX4_many_12

theorem sw_wTop_wMT_0 {tp : Nat} {ly : Nat} {lyg : Nat} {lyt : Nat} {LYG : Nat → Int32} {LYT : Nat → Int32} {tl : Nat} {tlg : Nat} {tlt : Nat} {TLG : Nat → Int32} {TLT : Nat → Int32} {ne : Nat} {neg : Nat} {net : Nat} {NEG : Nat → Int32} {NET : Nat → Int32} {su : Nat} {sug : Nat} {sut : Nat} {SUG : Nat → Int32} {SUT : Nat → Int32} {kp : Nat} {kr : Nat → Nat} {KH : Nat → Nat → Int32} {km : Nat} {sw : Int32} {tps : Int32} {rt : Nat} {pl : Nat} {P : Nat → Int32} {st : Int32} {my : Nat} {co : Nat} {C : Nat → Int32} {la : Nat} {lag : Nat} {lat : Nat} {LG : Nat → Int32} {LT : Nat → Int32} {po : Nat} {pog : Nat} {pot : Nat} {OG : Nat → Int32} {OT : Nat → Int32} {cJ : ClassId} {cJJ : ClassId} {cI : ClassId} {cII : ClassId} {mo : Nat} {eo : Nat} {dg : Nat} {to : Nat} {er : Nat → Nat} {n : Nat} {E : Nat → Nat → Int32} {DG : Nat → Int32} {tr : Nat → Nat} {T : Nat → Nat → Int64} {n' : Nat} {E' : Nat → Nat → Int32} {DG' : Nat → Int32} {T' : Nat → Nat → Int64} : kt_sw (wTop tp ly lyg lyt LYG LYT tl tlg tlt TLG TLT ne neg net NEG NET su sug sut SUG SUT kp kr KH km sw tps rt pl P st my co C la lag lat LG LT po pog pot OG OT cJ cJJ cI cII mo eo dg to er n E DG tr T) (wTop tp ly lyg lyt LYG LYT tl tlg tlt TLG TLT ne neg net NEG NET su sug sut SUG SUT kp kr KH km sw tps rt pl P st my co C la lag lat LG LT po pog pot OG OT cJ cJJ cI cII mo eo dg to er n' E' DG' tr T') [28, 29, 30, 31, 32, 33, 34, 35, 36, 37, 38, 39, 40, 41, 42, 43, 44] (wMT cJ cJJ cI cII mo eo dg to er n E DG tr T) (wMT cJ cJJ cI cII mo eo dg to er n' E' DG' tr T') := ⟨rfl, ⟨[none, none, none, none, none, none, none, none, none, none, none, none, none, none, none, none, none, none, none, none, none, none, none, none, none, none, none, none, some 0, some 1, some 2, some 3, some 4, some 5, some 6, some 7, some 8, some 9, some 10, some 11, some 12, some 13, some 14, some 15, some 16], rfl, by decide +kernel⟩, rfl⟩
set_option maxHeartbeats 4000000 in
set_option maxRecDepth 100000 in
theorem c_X4_count (l : Launch) (dC : Nat → ClassId) (dI : Nat → Nat → Nat) (cI cII cJ cJJ : ClassId) (tp : Nat) (ly : Nat) (lyg : Nat) (lyt : Nat) (LYG : Nat → Int32) (LYT : Nat → Int32) (tl : Nat) (tlg : Nat) (tlt : Nat) (TLG : Nat → Int32) (TLT : Nat → Int32) (ne : Nat) (neg : Nat) (net : Nat) (NEG : Nat → Int32) (NET : Nat → Int32) (su : Nat) (sug : Nat) (sut : Nat) (SUG : Nat → Int32) (SUT : Nat → Int32) (kp : Nat) (kr : Nat → Nat) (KH : Nat → Nat → Int32) (km : Nat) (sw : Int32) (tps : Int32) (rt : Nat) (pl : Nat) (P : Nat → Int32) (st : Int32) (my : Nat) (co : Nat) (C : Nat → Int32) (la : Nat) (lag : Nat) (lat : Nat) (LG : Nat → Int32) (LT : Nat → Int32) (po : Nat) (pog : Nat) (pot : Nat) (OG : Nat → Int32) (OT : Nat → Int32) (mo : Nat) (eo : Nat) (dg : Nat) (to : Nat) (er : Nat → Nat) (n : Nat) (E : Nat → Nat → Int32) (DG : Nat → Int32) (tr : Nat → Nat) (T : Nat → Nat → Int64) (sz : Nat) (hn : n ≤ 6) : Met l yX4_count wsX4_count ({ frames := 2, cells := 0, slots := 0, locals := 52 }) (va_Pc [.ref tp] (PRE (dC, dI) (tyL cI cII cJ cJJ) (wTop tp ly lyg lyt LYG LYT tl tlg tlt TLG TLT ne neg net NEG NET su sug sut SUG SUT kp kr KH km sw tps rt pl P st my co C la lag lat LG LT po pog pot OG OT cJ cJJ cI cII mo eo dg to er n E DG tr T) sz)) (va_Ql (fun (r' : Int64) (_ : Unit) => r' = (treeF n E DG T).2) (fun _ tS => ATW (dC, dI) (tyL cI cII cJ cJJ) (va_A (wTop tp ly lyg lyt LYG LYT tl tlg tlt TLG TLT ne neg net NEG NET su sug sut SUG SUT kp kr KH km sw tps rt pl P st my co C la lag lat LG LT po pog pot OG OT cJ cJJ cI cII mo eo dg to er n E DG tr T) sz) (wTop tp ly lyg lyt LYG LYT tl tlg tlt TLG TLT ne neg net NEG NET su sug sut SUG SUT kp kr KH km sw tps rt pl P st my co C la lag lat LG LT po pog pot OG OT cJ cJJ cI cII mo eo dg to er n E DG tr ((treeF n E DG T).1)) tS) (va_A (wTop tp ly lyg lyt LYG LYT tl tlg tlt TLG TLT ne neg net NEG NET su sug sut SUG SUT kp kr KH km sw tps rt pl P st my co C la lag lat LG LT po pog pot OG OT cJ cJJ cI cII mo eo dg to er n E DG tr T) sz)) 0 0 (va_A (wTop tp ly lyg lyt LYG LYT tl tlg tlt TLG TLT ne neg net NEG NET su sug sut SUG SUT kp kr KH km sw tps rt pl P st my co C la lag lat LG LT po pog pot OG OT cJ cJJ cI cII mo eo dg to er n E DG tr T) sz) := by
  refine Met.ofW (cc := cX4_count) (maxL := 1) (ret := (some .long)) (by decide) rfl ?_
  intro p e s m args below meth c s₁ B hml hv
  obtain ⟨rfl, hsz, hP, hK, hD0⟩ := hv
  have hx := B.exec
  have hb := B.bytes
  have hr := B.returns
  have hlocks := B.notSynchronized
  have hts := atoms_spec (ws := wsX4_count) B.pre
  have hown : s.vm.findClass RX4 = some m.cls := findClass_of_methodNamed B.named
  subst hsz
  have hD := hD0.self (sz := s.heap.size)
  generalize hAe : va_A (wTop tp ly lyg lyt LYG LYT tl tlg tlt TLG TLT ne neg net NEG NET su sug sut SUG SUT kp kr KH km sw tps rt pl P st my co C la lag lat LG LT po pog pot OG OT cJ cJJ cI cII mo eo dg to er n E DG tr T) s.heap.size = A at hD ⊢
  have hA : ∀ q : Nat, s.heap.size ≤ q → A q := fun q h => by rw [← hAe]; exact Or.inr h
  have hS : va_S A s.heap s.heap [] := va_S.rf
  have hl := lv_entry ([.ref tp]) (n := 1) (Nat.le_of_ble_eq_true rfl)
  rw [lg_entry_eq]
  generalize (lg_sl ([.ref tp]) ++ List.replicate (1 - (lg_sl ([.ref tp])).length) Slot.unset).toArray = ls at hl ⊢
  have hl : lv_has ls 1 [(0, .ref tp)] := hl
  have hi_X4 : ∀ w ∈ u_ws RX4 TX4 11, w ∈ wsX4_count := by decide +kernel
  have hf_10 := hts (.fieldLink RX4 10 "Topplemoor" "moor" "LTopplemoor$Moor;") (by decide +kernel)
  refine lv_aload_n hx hb dX4_count_0 rfl (lv_at hl 0 rfl) ?_
  refine va_get (D := (dC, dI)) (ci := kX4) (v := .ref mo) (C := RX4) (T := TX4) (N := 11) hx hb hts hi_X4 hown hK hP 0 rfl rfl 0 (by decide) hf_10 (fun _ h9 => h9) rfl dX4_count_1 ?_
  refine kt_calll (w' := wTop tp ly lyg lyt LYG LYT tl tlg tlt TLG TLT ne neg net NEG NET su sug sut SUG SUT kp kr KH km sw tps rt pl P st my co C la lag lat LG LT po pog pot OG OT cJ cJJ cI cII mo eo dg to er n E DG tr ((treeF n E DG T).1)) (rest := []) (As := []) ⟨hx, hb, hml, hown, hts⟩ (c_X2_trees l dC dI cI cII cJ cJJ mo eo dg to er n E DG tr T _ (hn)) (cwV 0 hts gX4_count_X2_trees rfl rfl rfl (by decide +kernel) ⟨Nat.le_of_ble_eq_true rfl, Nat.le_of_ble_eq_true rfl⟩) hK hP hD hS hA [28, 29, 30, 31, 32, 33, 34, 35, 36, 37, 38, 39, 40, 41, 42, 43, 44] sw_wTop_wMT_0 rfl 28 kX2 rfl rfl rfl rfl rfl hl.1 (Nat.le_of_ble_eq_true rfl) dX4_count_4 ⟨Nat.zero_le _, Nat.zero_le _⟩ (fun H locs hP hD hS => ?_)
  exact kt_lret (W' := wTop tp ly lyg lyt LYG LYT tl tlg tlt TLG TLT ne neg net NEG NET su sug sut SUG SUT kp kr KH km sw tps rt pl P st my co C la lag lat LG LT po pog pot OG OT cJ cJJ cI cII mo eo dg to er n E DG tr ((treeF n E DG T).1)) hx hb hr hS hP hK hD (rfl) hlocks dX4_count_7

theorem sw_wTop_wHMr_0 {tp : Nat} {ly : Nat} {lyg : Nat} {lyt : Nat} {LYG : Nat → Int32} {LYT : Nat → Int32} {tl : Nat} {tlg : Nat} {tlt : Nat} {TLG : Nat → Int32} {TLT : Nat → Int32} {ne : Nat} {neg : Nat} {net : Nat} {NEG : Nat → Int32} {NET : Nat → Int32} {su : Nat} {sug : Nat} {sut : Nat} {SUG : Nat → Int32} {SUT : Nat → Int32} {kp : Nat} {kr : Nat → Nat} {KH : Nat → Nat → Int32} {km : Nat} {sw : Int32} {tps : Int32} {rt : Nat} {pl : Nat} {P : Nat → Int32} {st : Int32} {my : Nat} {co : Nat} {C : Nat → Int32} {la : Nat} {lag : Nat} {lat : Nat} {LG : Nat → Int32} {LT : Nat → Int32} {po : Nat} {pog : Nat} {pot : Nat} {OG : Nat → Int32} {OT : Nat → Int32} {cJ : ClassId} {cJJ : ClassId} {cI : ClassId} {cII : ClassId} {mo : Nat} {eo : Nat} {dg : Nat} {to : Nat} {er : Nat → Nat} {n : Nat} {E : Nat → Nat → Int32} {DG : Nat → Int32} {tr : Nat → Nat} {T : Nat → Nat → Int64} {TLG' : Nat → Int32} {TLT' : Nat → Int32} {LYG' : Nat → Int32} {n' : Nat} {E' : Nat → Nat → Int32} {DG' : Nat → Int32} : kt_sw (wTop tp ly lyg lyt LYG LYT tl tlg tlt TLG TLT ne neg net NEG NET su sug sut SUG SUT kp kr KH km sw tps rt pl P st my co C la lag lat LG LT po pog pot OG OT cJ cJJ cI cII mo eo dg to er n E DG tr T) (wTop tp ly lyg lyt LYG' LYT tl tlg tlt TLG' TLT' ne neg net NEG NET su sug sut SUG SUT kp kr KH km sw tps rt pl P st my co C la lag lat LG LT po pog pot OG OT cJ cJJ cI cII mo eo dg to er n' E' DG' tr T) [4, 5, 6, 2, 28, 29, 30, 31, 32, 33, 34, 35, 36, 37] (wHMr tl tlg tlt TLG TLT lyg LYG cI cII mo eo dg to er n E DG) (wHMr tl tlg tlt TLG' TLT' lyg LYG' cI cII mo eo dg to er n' E' DG') := ⟨rfl, ⟨[none, none, some 3, none, some 0, some 1, some 2, none, none, none, none, none, none, none, none, none, none, none, none, none, none, none, none, none, none, none, none, none, some 4, some 5, some 6, some 7, some 8, some 9, some 10, some 11, some 12, some 13, none, none, none, none, none, none, none], rfl, by decide +kernel⟩, rfl⟩
theorem sw_wTop_wHM_1 {tp : Nat} {ly : Nat} {lyg : Nat} {lyt : Nat} {LYG : Nat → Int32} {LYT : Nat → Int32} {tl : Nat} {tlg : Nat} {tlt : Nat} {TLG : Nat → Int32} {TLT : Nat → Int32} {ne : Nat} {neg : Nat} {net : Nat} {NEG : Nat → Int32} {NET : Nat → Int32} {su : Nat} {sug : Nat} {sut : Nat} {SUG : Nat → Int32} {SUT : Nat → Int32} {kp : Nat} {kr : Nat → Nat} {KH : Nat → Nat → Int32} {km : Nat} {sw : Int32} {tps : Int32} {rt : Nat} {pl : Nat} {P : Nat → Int32} {st : Int32} {my : Nat} {co : Nat} {C : Nat → Int32} {la : Nat} {lag : Nat} {lat : Nat} {LG : Nat → Int32} {LT : Nat → Int32} {po : Nat} {pog : Nat} {pot : Nat} {OG : Nat → Int32} {OT : Nat → Int32} {cJ : ClassId} {cJJ : ClassId} {cI : ClassId} {cII : ClassId} {mo : Nat} {eo : Nat} {dg : Nat} {to : Nat} {er : Nat → Nat} {n : Nat} {E : Nat → Nat → Int32} {DG : Nat → Int32} {tr : Nat → Nat} {T : Nat → Nat → Int64} {TLG' : Nat → Int32} {TLT' : Nat → Int32} {n' : Nat} {E' : Nat → Nat → Int32} {DG' : Nat → Int32} : kt_sw (wTop tp ly lyg lyt LYG LYT tl tlg tlt TLG TLT ne neg net NEG NET su sug sut SUG SUT kp kr KH km sw tps rt pl P st my co C la lag lat LG LT po pog pot OG OT cJ cJJ cI cII mo eo dg to er n E DG tr T) (wTop tp ly lyg lyt LYG LYT tl tlg tlt TLG' TLT' ne neg net NEG NET su sug sut SUG SUT kp kr KH km sw tps rt pl P st my co C la lag lat LG LT po pog pot OG OT cJ cJJ cI cII mo eo dg to er n' E' DG' tr T) [4, 5, 6, 28, 29, 30, 31, 32, 33, 34, 35, 36, 37] (wHM tl tlg tlt TLG TLT cI cII mo eo dg to er n E DG) (wHM tl tlg tlt TLG' TLT' cI cII mo eo dg to er n' E' DG') := ⟨rfl, ⟨[none, none, none, none, some 0, some 1, some 2, none, none, none, none, none, none, none, none, none, none, none, none, none, none, none, none, none, none, none, none, none, some 3, some 4, some 5, some 6, some 7, some 8, some 9, some 10, some 11, some 12, none, none, none, none, none, none, none], rfl, by decide +kernel⟩, rfl⟩
set_option maxHeartbeats 4000000 in
set_option maxRecDepth 100000 in
theorem c_X4_liesLasting (l : Launch) (dC : Nat → ClassId) (dI : Nat → Nat → Nat) (cI cII cJ cJJ : ClassId) (tp : Nat) (ly : Nat) (lyg : Nat) (lyt : Nat) (LYG : Nat → Int32) (LYT : Nat → Int32) (tl : Nat) (tlg : Nat) (tlt : Nat) (TLG : Nat → Int32) (TLT : Nat → Int32) (ne : Nat) (neg : Nat) (net : Nat) (NEG : Nat → Int32) (NET : Nat → Int32) (su : Nat) (sug : Nat) (sut : Nat) (SUG : Nat → Int32) (SUT : Nat → Int32) (kp : Nat) (kr : Nat → Nat) (KH : Nat → Nat → Int32) (km : Nat) (sw : Int32) (tps : Int32) (rt : Nat) (pl : Nat) (P : Nat → Int32) (st : Int32) (my : Nat) (co : Nat) (C : Nat → Int32) (la : Nat) (lag : Nat) (lat : Nat) (LG : Nat → Int32) (LT : Nat → Int32) (po : Nat) (pog : Nat) (pot : Nat) (OG : Nat → Int32) (OT : Nat → Int32) (mo : Nat) (eo : Nat) (dg : Nat) (to : Nat) (er : Nat → Nat) (n : Nat) (E : Nat → Nat → Int32) (DG : Nat → Int32) (tr : Nat → Nat) (T : Nat → Nat → Int64) (sz : Nat) (hn : n ≤ 6) : Met l yX4_liesLasting wsX4_liesLasting ({ frames := 3, cells := 0, slots := 0, locals := 69 }) (va_Pc [.ref tp] (PRE (dC, dI) (tyL cI cII cJ cJJ) (wTop tp ly lyg lyt LYG LYT tl tlg tlt TLG TLT ne neg net NEG NET su sug sut SUG SUT kp kr KH km sw tps rt pl P st my co C la lag lat LG LT po pog pot OG OT cJ cJJ cI cII mo eo dg to er n E DG tr T) sz)) (va_Qi (fun (r' : Int32) (_ : Unit) => r' = b2i (lieB n E DG LYG)) (fun _ tS => ATW (dC, dI) (tyL cI cII cJ cJJ) (va_A (wTop tp ly lyg lyt LYG LYT tl tlg tlt TLG TLT ne neg net NEG NET su sug sut SUG SUT kp kr KH km sw tps rt pl P st my co C la lag lat LG LT po pog pot OG OT cJ cJJ cI cII mo eo dg to er n E DG tr T) sz) (wTop tp ly lyg lyt LYG LYT tl tlg tlt ((lieX n E DG LYG TLG TLT).1) ((lieX n E DG LYG TLG TLT).2) ne neg net NEG NET su sug sut SUG SUT kp kr KH km sw tps rt pl P st my co C la lag lat LG LT po pog pot OG OT cJ cJJ cI cII mo eo dg to er n E DG tr T) tS) (va_A (wTop tp ly lyg lyt LYG LYT tl tlg tlt TLG TLT ne neg net NEG NET su sug sut SUG SUT kp kr KH km sw tps rt pl P st my co C la lag lat LG LT po pog pot OG OT cJ cJJ cI cII mo eo dg to er n E DG tr T) sz)) 0 0 (va_A (wTop tp ly lyg lyt LYG LYT tl tlg tlt TLG TLT ne neg net NEG NET su sug sut SUG SUT kp kr KH km sw tps rt pl P st my co C la lag lat LG LT po pog pot OG OT cJ cJJ cI cII mo eo dg to er n E DG tr T) sz) := by
  refine Met.ofW (cc := cX4_liesLasting) (maxL := 1) (ret := (some .boolean)) (by decide) rfl ?_
  intro p e s m args below meth c s₁ B hml hv
  obtain ⟨rfl, hsz, hP, hK, hD0⟩ := hv
  have hx := B.exec
  have hb := B.bytes
  have hr := B.returns
  have hlocks := B.notSynchronized
  have hts := atoms_spec (ws := wsX4_liesLasting) B.pre
  have hown : s.vm.findClass RX4 = some m.cls := findClass_of_methodNamed B.named
  subst hsz
  have hD := hD0.self (sz := s.heap.size)
  generalize hAe : va_A (wTop tp ly lyg lyt LYG LYT tl tlg tlt TLG TLT ne neg net NEG NET su sug sut SUG SUT kp kr KH km sw tps rt pl P st my co C la lag lat LG LT po pog pot OG OT cJ cJJ cI cII mo eo dg to er n E DG tr T) s.heap.size = A at hD ⊢
  have hA : ∀ q : Nat, s.heap.size ≤ q → A q := fun q h => by rw [← hAe]; exact Or.inr h
  have hS : va_S A s.heap s.heap [] := va_S.rf
  have hl := lv_entry ([.ref tp]) (n := 1) (Nat.le_of_ble_eq_true rfl)
  rw [lg_entry_eq]
  generalize (lg_sl ([.ref tp]) ++ List.replicate (1 - (lg_sl ([.ref tp])).length) Slot.unset).toArray = ls at hl ⊢
  have hl : lv_has ls 1 [(0, .ref tp)] := hl
  have hi_X4 : ∀ w ∈ u_ws RX4 TX4 11, w ∈ wsX4_liesLasting := by decide +kernel
  have hf_21 := hts (.fieldLink RX4 21 "Topplemoor" "lying" "LTopplemoor$Heap;") (by decide +kernel)
  have hf_25 := hts (.fieldLink RX4 25 "Topplemoor" "trial" "LTopplemoor$Heap;") (by decide +kernel)
  have hi_X0 : ∀ w ∈ u_ws RX0 TX0 3, w ∈ wsX4_liesLasting := by decide +kernel
  have hf_89 := hts (.fieldLink RX4 89 "Topplemoor$Heap" "grains" "[I") (by decide +kernel)
  refine lv_aload_n hx hb dX4_liesLasting_0 rfl (lv_at hl 0 rfl) ?_
  refine va_get (D := (dC, dI)) (ci := kX4) (v := .ref ly) (C := RX4) (T := TX4) (N := 11) hx hb hts hi_X4 hown hK hP 0 rfl rfl 1 (by decide) hf_21 (fun _ h9 => h9) rfl dX4_liesLasting_1 ?_
  refine kt_calli (w' := wTop tp ly lyg lyt LYG LYT tl tlg tlt TLG TLT ne neg net NEG NET su sug sut SUG SUT kp kr KH km sw tps rt pl P st my co C la lag lat LG LT po pog pot OG OT cJ cJJ cI cII mo eo dg to er n E DG tr T) (rest := []) (As := []) ⟨hx, hb, hml, hown, hts⟩ (c_X0_steepSet l dC dI cI cII cJ cJJ ly lyg lyt LYG LYT mo eo dg to er n E DG _ (hn)) (cwV 0 hts gX4_liesLasting_X0_steepSet rfl rfl rfl (by decide +kernel) ⟨Nat.le_of_ble_eq_true rfl, Nat.le_of_ble_eq_true rfl⟩) hK hP hD hS hA [1, 2, 3, 28, 29, 30, 31, 32, 33, 34, 35, 36, 37] sw_wTop_wHM_0 rfl 1 kX0 rfl rfl rfl rfl rfl hl.1 (Nat.le_of_ble_eq_true rfl) dX4_liesLasting_4 ⟨Nat.zero_le _, Nat.zero_le _⟩ (fun H locs hP hD hS => ?_)
  refine lv_if_eq (tgt := 12) hx hb dX4_liesLasting_7 (by decide) (fun c7 => ?_) (fun c7 => ?_)
  · skip
    refine lv_aload_n hx hb dX4_liesLasting_12 rfl (lv_at hl 0 rfl) ?_
    refine va_get (D := (dC, dI)) (ci := kX4) (v := .ref tl) (C := RX4) (T := TX4) (N := 11) hx hb hts hi_X4 hown hK hP 0 rfl rfl 2 (by decide) hf_25 (fun _ h9 => h9) rfl dX4_liesLasting_13 ?_
    refine lv_aload_n hx hb dX4_liesLasting_16 rfl (lv_at hl 0 rfl) ?_
    refine va_get (D := (dC, dI)) (ci := kX4) (v := .ref ly) (C := RX4) (T := TX4) (N := 11) hx hb hts hi_X4 hown hK hP 0 rfl rfl 1 (by decide) hf_21 (fun _ h9 => h9) rfl dX4_liesLasting_17 ?_
    refine va_get (D := (dC, dI)) (ci := kX0) (v := .ref lyg) (C := RX0) (T := TX0) (N := 3) hx hb hts hi_X0 hown hK hP 1 rfl rfl 0 (by decide) hf_89 (fun _ h9 => h9) rfl dX4_liesLasting_20 ?_
    refine kt_callv (w' := wTop tp ly lyg lyt LYG LYT tl tlg tlt LYG TLT ne neg net NEG NET su sug sut SUG SUT kp kr KH km sw tps rt pl P st my co C la lag lat LG LT po pog pot OG OT cJ cJJ cI cII mo eo dg to er n E DG tr T) (rest := []) (As := [.ref lyg]) ⟨hx, hb, hml, hown, hts⟩ (c_X0_copyRow l dC dI cI cII cJ cJJ tl tlg tlt TLG TLT lyg LYG mo eo dg to er n E DG _ ) (cwV 1 hts gX4_liesLasting_X0_copyRow rfl rfl rfl (by decide +kernel) ⟨Nat.le_of_ble_eq_true rfl, Nat.le_of_ble_eq_true rfl⟩) hK hP hD hS hA [4, 5, 6, 2, 28, 29, 30, 31, 32, 33, 34, 35, 36, 37] sw_wTop_wHMr_0 rfl 4 kX0 rfl rfl rfl rfl rfl hl.1 (Nat.le_of_ble_eq_true rfl) dX4_liesLasting_23 ⟨Nat.zero_le _, Nat.zero_le _⟩ (fun H locs hP hD hS => ?_)
    refine lv_aload_n hx hb dX4_liesLasting_26 rfl (lv_at hl 0 rfl) ?_
    refine va_get (D := (dC, dI)) (ci := kX4) (v := .ref tl) (C := RX4) (T := TX4) (N := 11) hx hb hts hi_X4 hown hK hP 0 rfl rfl 2 (by decide) hf_25 (fun _ h9 => h9) rfl dX4_liesLasting_27 ?_
    refine kt_callv (w' := wTop tp ly lyg lyt LYG LYT tl tlg tlt (it (sinkS E) n LYG) TLT ne neg net NEG NET su sug sut SUG SUT kp kr KH km sw tps rt pl P st my co C la lag lat LG LT po pog pot OG OT cJ cJJ cI cII mo eo dg to er n E DG tr T) (rest := []) (As := []) ⟨hx, hb, hml, hown, hts⟩ (c_X0_addFromSink l dC dI cI cII cJ cJJ tl tlg tlt LYG TLT mo eo dg to er n E DG _ (hn)) (cwV 0 hts gX4_liesLasting_X0_addFromSink rfl rfl rfl (by decide +kernel) ⟨Nat.le_of_ble_eq_true rfl, Nat.le_of_ble_eq_true rfl⟩) hK hP hD hS hA [4, 5, 6, 28, 29, 30, 31, 32, 33, 34, 35, 36, 37] sw_wTop_wHM_1 rfl 4 kX0 rfl rfl rfl rfl rfl hl.1 (Nat.le_of_ble_eq_true rfl) dX4_liesLasting_30 ⟨Nat.zero_le _, Nat.zero_le _⟩ (fun H locs hP hD hS => ?_)
    refine lv_aload_n hx hb dX4_liesLasting_33 rfl (lv_at hl 0 rfl) ?_
    refine va_get (D := (dC, dI)) (ci := kX4) (v := .ref tl) (C := RX4) (T := TX4) (N := 11) hx hb hts hi_X4 hown hK hP 0 rfl rfl 2 (by decide) hf_25 (fun _ h9 => h9) rfl dX4_liesLasting_34 ?_
    refine kt_callv (w' := wTop tp ly lyg lyt LYG LYT tl tlg tlt ((rollF n E DG (it (sinkS E) n LYG)).1) ((rollF n E DG (it (sinkS E) n LYG)).2) ne neg net NEG NET su sug sut SUG SUT kp kr KH km sw tps rt pl P st my co C la lag lat LG LT po pog pot OG OT cJ cJJ cI cII mo eo dg to er n E DG tr T) (rest := []) (As := []) ⟨hx, hb, hml, hown, hts⟩ (c_X0_roll l dC dI cI cII cJ cJJ tl tlg tlt (it (sinkS E) n LYG) TLT mo eo dg to er n E DG _ (hn)) (cwV 0 hts gX4_liesLasting_X0_roll rfl rfl rfl (by decide +kernel) ⟨Nat.le_of_ble_eq_true rfl, Nat.le_of_ble_eq_true rfl⟩) hK hP hD hS hA [4, 5, 6, 28, 29, 30, 31, 32, 33, 34, 35, 36, 37] sw_wTop_wHM_1 rfl 4 kX0 rfl rfl rfl rfl rfl hl.1 (Nat.le_of_ble_eq_true rfl) dX4_liesLasting_37 ⟨Nat.zero_le _, Nat.zero_le _⟩ (fun H locs hP hD hS => ?_)
    refine lv_aload_n hx hb dX4_liesLasting_40 rfl (lv_at hl 0 rfl) ?_
    refine va_get (D := (dC, dI)) (ci := kX4) (v := .ref tl) (C := RX4) (T := TX4) (N := 11) hx hb hts hi_X4 hown hK hP 0 rfl rfl 2 (by decide) hf_25 (fun _ h9 => h9) rfl dX4_liesLasting_41 ?_
    refine kt_calli (w' := wTop tp ly lyg lyt LYG LYT tl tlg tlt ((rollF n E DG (it (sinkS E) n LYG)).1) ((rollF n E DG (it (sinkS E) n LYG)).2) ne neg net NEG NET su sug sut SUG SUT kp kr KH km sw tps rt pl P st my co C la lag lat LG LT po pog pot OG OT cJ cJJ cI cII mo eo dg to er n E DG tr T) (rest := []) (As := []) ⟨hx, hb, hml, hown, hts⟩ (c_X0_hasEachToppledOnce l dC dI cI cII cJ cJJ tl tlg tlt ((rollF n E DG (it (sinkS E) n LYG)).1) ((rollF n E DG (it (sinkS E) n LYG)).2) mo eo dg to er n E DG _ (hn)) (cwV 0 hts gX4_liesLasting_X0_hasEachToppledOnce rfl rfl rfl (by decide +kernel) ⟨Nat.le_of_ble_eq_true rfl, Nat.le_of_ble_eq_true rfl⟩) hK hP hD hS hA [4, 5, 6, 28, 29, 30, 31, 32, 33, 34, 35, 36, 37] sw_wTop_wHM_1 rfl 4 kX0 rfl rfl rfl rfl rfl hl.1 (Nat.le_of_ble_eq_true rfl) dX4_liesLasting_44 ⟨Nat.zero_le _, Nat.zero_le _⟩ (fun H locs hP hD hS => ?_)
    have e : lieX n E DG LYG TLG TLT = lieR n E DG LYG := if_pos c7
    exact kt_zret (W' := wTop tp ly lyg lyt LYG LYT tl tlg tlt ((lieX n E DG LYG TLG TLT).1) ((lieX n E DG LYG TLG TLT).2) ne neg net NEG NET su sug sut SUG SUT kp kr KH km sw tps rt pl P st my co C la lag lat LG LT po pog pot OG OT cJ cJJ cI cII mo eo dg to er n E DG tr T) hx hb hr (nar_bool (b2i_bool _)) hS (by rw [e]; exact hP) hK (by rw [e]; exact hD) (by unfold lieB; rw [decide_eq_true c7]; rfl) hlocks dX4_liesLasting_47
  · skip
    refine lv_iconst (v := 0) hx hb dX4_liesLasting_10 (by decide) ?_
    have e : lieX n E DG LYG TLG TLT = (TLG, TLT) := if_neg c7
    exact kt_zret (W' := wTop tp ly lyg lyt LYG LYT tl tlg tlt ((lieX n E DG LYG TLG TLT).1) ((lieX n E DG LYG TLG TLT).2) ne neg net NEG NET su sug sut SUG SUT kp kr KH km sw tps rt pl P st my co C la lag lat LG LT po pog pot OG OT cJ cJJ cI cII mo eo dg to er n E DG tr T) hx hb hr (rfl) hS (by rw [e]; exact hP) hK (by rw [e]; exact hD) (by unfold lieB; rw [decide_eq_false c7]; rfl) hlocks dX4_liesLasting_11

set_option maxHeartbeats 4000000 in
set_option maxRecDepth 100000 in
theorem c_X4_isLasting (l : Launch) (dC : Nat → ClassId) (dI : Nat → Nat → Nat) (cI cII cJ cJJ : ClassId) (tp : Nat) (ly : Nat) (lyg : Nat) (lyt : Nat) (LYG : Nat → Int32) (LYT : Nat → Int32) (tl : Nat) (tlg : Nat) (tlt : Nat) (TLG : Nat → Int32) (TLT : Nat → Int32) (ne : Nat) (neg : Nat) (net : Nat) (NEG : Nat → Int32) (NET : Nat → Int32) (su : Nat) (sug : Nat) (sut : Nat) (SUG : Nat → Int32) (SUT : Nat → Int32) (kp : Nat) (kr : Nat → Nat) (KH : Nat → Nat → Int32) (km : Nat) (sw : Int32) (tps : Int32) (rt : Nat) (pl : Nat) (P : Nat → Int32) (st : Int32) (my : Nat) (co : Nat) (C : Nat → Int32) (la : Nat) (lag : Nat) (lat : Nat) (LG : Nat → Int32) (LT : Nat → Int32) (po : Nat) (pog : Nat) (pot : Nat) (OG : Nat → Int32) (OT : Nat → Int32) (mo : Nat) (eo : Nat) (dg : Nat) (to : Nat) (er : Nat → Nat) (n : Nat) (E : Nat → Nat → Int32) (DG : Nat → Int32) (tr : Nat → Nat) (T : Nat → Nat → Int64) (sz : Nat) (hn : n ≤ 6) (hfast : fastB n E = true) : Met l yX4_isLasting wsX4_isLasting ({ frames := 4, cells := 0, slots := 0, locals := 89 }) (va_Pc [.ref tp] (PRE (dC, dI) (tyL cI cII cJ cJJ) (wTop tp ly lyg lyt LYG LYT tl tlg tlt TLG TLT ne neg net NEG NET su sug sut SUG SUT kp kr KH km sw tps rt pl P st my co C la lag lat LG LT po pog pot OG OT cJ cJJ cI cII mo eo dg to er n E DG tr T) sz)) (va_Qi (fun (r' : Int32) (_ : Unit) => r' = b2i (lieB n E DG LYG)) (fun _ tS => ATW (dC, dI) (tyL cI cII cJ cJJ) (va_A (wTop tp ly lyg lyt LYG LYT tl tlg tlt TLG TLT ne neg net NEG NET su sug sut SUG SUT kp kr KH km sw tps rt pl P st my co C la lag lat LG LT po pog pot OG OT cJ cJJ cI cII mo eo dg to er n E DG tr T) sz) (wTop tp ly lyg lyt LYG LYT tl tlg tlt ((lieX n E DG LYG TLG TLT).1) ((lieX n E DG LYG TLG TLT).2) ne neg net NEG NET su sug sut SUG SUT kp kr KH km sw tps rt pl P st my co C la lag lat LG LT po pog pot OG OT cJ cJJ cI cII mo eo dg to er n E DG tr T) tS) (va_A (wTop tp ly lyg lyt LYG LYT tl tlg tlt TLG TLT ne neg net NEG NET su sug sut SUG SUT kp kr KH km sw tps rt pl P st my co C la lag lat LG LT po pog pot OG OT cJ cJJ cI cII mo eo dg to er n E DG tr T) sz)) 0 0 (va_A (wTop tp ly lyg lyt LYG LYT tl tlg tlt TLG TLT ne neg net NEG NET su sug sut SUG SUT kp kr KH km sw tps rt pl P st my co C la lag lat LG LT po pog pot OG OT cJ cJJ cI cII mo eo dg to er n E DG tr T) sz) := by
  refine Met.ofW (cc := cX4_isLasting) (maxL := 1) (ret := (some .boolean)) (by decide) rfl ?_
  intro p e s m args below meth c s₁ B hml hv
  obtain ⟨rfl, hsz, hP, hK, hD0⟩ := hv
  have hx := B.exec
  have hb := B.bytes
  have hr := B.returns
  have hlocks := B.notSynchronized
  have hts := atoms_spec (ws := wsX4_isLasting) B.pre
  have hown : s.vm.findClass RX4 = some m.cls := findClass_of_methodNamed B.named
  subst hsz
  have hD := hD0.self (sz := s.heap.size)
  generalize hAe : va_A (wTop tp ly lyg lyt LYG LYT tl tlg tlt TLG TLT ne neg net NEG NET su sug sut SUG SUT kp kr KH km sw tps rt pl P st my co C la lag lat LG LT po pog pot OG OT cJ cJJ cI cII mo eo dg to er n E DG tr T) s.heap.size = A at hD ⊢
  have hA : ∀ q : Nat, s.heap.size ≤ q → A q := fun q h => by rw [← hAe]; exact Or.inr h
  have hS : va_S A s.heap s.heap [] := va_S.rf
  have hl := lv_entry ([.ref tp]) (n := 1) (Nat.le_of_ble_eq_true rfl)
  rw [lg_entry_eq]
  generalize (lg_sl ([.ref tp]) ++ List.replicate (1 - (lg_sl ([.ref tp])).length) Slot.unset).toArray = ls at hl ⊢
  have hl : lv_has ls 1 [(0, .ref tp)] := hl
  refine lv_aload_n hx hb dX4_isLasting_0 rfl (lv_at hl 0 rfl) ?_
  refine kt_callv (w' := wTop tp ly lyg lyt LYG LYT tl tlg tlt TLG TLT ne neg net NEG NET su sug sut SUG SUT kp kr KH km sw tps rt pl P st my co C la lag lat LG LT po pog pot OG OT cJ cJJ cI cII mo eo dg to er n E DG tr T) (rest := []) (As := []) ⟨hx, hb, hml, hown, hts⟩ (c_X4_requireFast l dC dI cI cII cJ cJJ tp ly lyg lyt LYG LYT tl tlg tlt TLG TLT ne neg net NEG NET su sug sut SUG SUT kp kr KH km sw tps rt pl P st my co C la lag lat LG LT po pog pot OG OT mo eo dg to er n E DG tr T _ (hn) (hfast)) (cwV 0 hts gX4_isLasting_X4_requireFast rfl rfl rfl (by decide +kernel) ⟨Nat.le_of_ble_eq_true rfl, Nat.le_of_ble_eq_true rfl⟩) hK hP hD hS hA (List.range' 0 45) sw_wTop_wTop_0 rfl 0 kX4 rfl rfl rfl rfl rfl hl.1 (Nat.le_of_ble_eq_true rfl) dX4_isLasting_1 ⟨Nat.zero_le _, Nat.zero_le _⟩ (fun H locs hP hD hS => ?_)
  refine lv_aload_n hx hb dX4_isLasting_4 rfl (lv_at hl 0 rfl) ?_
  refine kt_calli (w' := wTop tp ly lyg lyt LYG LYT tl tlg tlt ((lieX n E DG LYG TLG TLT).1) ((lieX n E DG LYG TLG TLT).2) ne neg net NEG NET su sug sut SUG SUT kp kr KH km sw tps rt pl P st my co C la lag lat LG LT po pog pot OG OT cJ cJJ cI cII mo eo dg to er n E DG tr T) (rest := []) (As := []) ⟨hx, hb, hml, hown, hts⟩ (c_X4_liesLasting l dC dI cI cII cJ cJJ tp ly lyg lyt LYG LYT tl tlg tlt TLG TLT ne neg net NEG NET su sug sut SUG SUT kp kr KH km sw tps rt pl P st my co C la lag lat LG LT po pog pot OG OT mo eo dg to er n E DG tr T _ (hn)) (cwV 0 hts gX4_isLasting_X4_liesLasting rfl rfl rfl (by decide +kernel) ⟨Nat.le_of_ble_eq_true rfl, Nat.le_of_ble_eq_true rfl⟩) hK hP hD hS hA (List.range' 0 45) sw_wTop_wTop_0 rfl 0 kX4 rfl rfl rfl rfl rfl hl.1 (Nat.le_of_ble_eq_true rfl) dX4_isLasting_5 ⟨Nat.zero_le _, Nat.zero_le _⟩ (fun H locs hP hD hS => ?_)
  exact kt_zret (W' := wTop tp ly lyg lyt LYG LYT tl tlg tlt ((lieX n E DG LYG TLG TLT).1) ((lieX n E DG LYG TLG TLT).2) ne neg net NEG NET su sug sut SUG SUT kp kr KH km sw tps rt pl P st my co C la lag lat LG LT po pog pot OG OT cJ cJJ cI cII mo eo dg to er n E DG tr T) hx hb hr (nar_bool (b2i_bool _)) hS hP hK hD (rfl) hlocks dX4_isLasting_8

theorem sw_wTop_wHM_2 {tp : Nat} {ly : Nat} {lyg : Nat} {lyt : Nat} {LYG : Nat → Int32} {LYT : Nat → Int32} {tl : Nat} {tlg : Nat} {tlt : Nat} {TLG : Nat → Int32} {TLT : Nat → Int32} {ne : Nat} {neg : Nat} {net : Nat} {NEG : Nat → Int32} {NET : Nat → Int32} {su : Nat} {sug : Nat} {sut : Nat} {SUG : Nat → Int32} {SUT : Nat → Int32} {kp : Nat} {kr : Nat → Nat} {KH : Nat → Nat → Int32} {km : Nat} {sw : Int32} {tps : Int32} {rt : Nat} {pl : Nat} {P : Nat → Int32} {st : Int32} {my : Nat} {co : Nat} {C : Nat → Int32} {la : Nat} {lag : Nat} {lat : Nat} {LG : Nat → Int32} {LT : Nat → Int32} {po : Nat} {pog : Nat} {pot : Nat} {OG : Nat → Int32} {OT : Nat → Int32} {cJ : ClassId} {cJJ : ClassId} {cI : ClassId} {cII : ClassId} {mo : Nat} {eo : Nat} {dg : Nat} {to : Nat} {er : Nat → Nat} {n : Nat} {E : Nat → Nat → Int32} {DG : Nat → Int32} {tr : Nat → Nat} {T : Nat → Nat → Int64} {NEG' : Nat → Int32} {NET' : Nat → Int32} {n' : Nat} {E' : Nat → Nat → Int32} {DG' : Nat → Int32} : kt_sw (wTop tp ly lyg lyt LYG LYT tl tlg tlt TLG TLT ne neg net NEG NET su sug sut SUG SUT kp kr KH km sw tps rt pl P st my co C la lag lat LG LT po pog pot OG OT cJ cJJ cI cII mo eo dg to er n E DG tr T) (wTop tp ly lyg lyt LYG LYT tl tlg tlt TLG TLT ne neg net NEG' NET' su sug sut SUG SUT kp kr KH km sw tps rt pl P st my co C la lag lat LG LT po pog pot OG OT cJ cJJ cI cII mo eo dg to er n' E' DG' tr T) [7, 8, 9, 28, 29, 30, 31, 32, 33, 34, 35, 36, 37] (wHM ne neg net NEG NET cI cII mo eo dg to er n E DG) (wHM ne neg net NEG' NET' cI cII mo eo dg to er n' E' DG') := ⟨rfl, ⟨[none, none, none, none, none, none, none, some 0, some 1, some 2, none, none, none, none, none, none, none, none, none, none, none, none, none, none, none, none, none, none, some 3, some 4, some 5, some 6, some 7, some 8, some 9, some 10, some 11, some 12, none, none, none, none, none, none, none], rfl, by decide +kernel⟩, rfl⟩
set_option maxHeartbeats 4000000 in
set_option maxRecDepth 100000 in
theorem c_X4_neutral (l : Launch) (dC : Nat → ClassId) (dI : Nat → Nat → Nat) (cI cII cJ cJJ : ClassId) (tp : Nat) (ly : Nat) (lyg : Nat) (lyt : Nat) (LYG : Nat → Int32) (LYT : Nat → Int32) (tl : Nat) (tlg : Nat) (tlt : Nat) (TLG : Nat → Int32) (TLT : Nat → Int32) (ne : Nat) (neg : Nat) (net : Nat) (NEG : Nat → Int32) (NET : Nat → Int32) (su : Nat) (sug : Nat) (sut : Nat) (SUG : Nat → Int32) (SUT : Nat → Int32) (kp : Nat) (kr : Nat → Nat) (KH : Nat → Nat → Int32) (km : Nat) (sw : Int32) (tps : Int32) (rt : Nat) (pl : Nat) (P : Nat → Int32) (st : Int32) (my : Nat) (co : Nat) (C : Nat → Int32) (la : Nat) (lag : Nat) (lat : Nat) (LG : Nat → Int32) (LT : Nat → Int32) (po : Nat) (pog : Nat) (pot : Nat) (OG : Nat → Int32) (OT : Nat → Int32) (mo : Nat) (eo : Nat) (dg : Nat) (to : Nat) (er : Nat → Nat) (n : Nat) (E : Nat → Nat → Int32) (DG : Nat → Int32) (tr : Nat → Nat) (T : Nat → Nat → Int64) (j : Nat) (sz : Nat) (hn : n ≤ 6) (hj : j < n) (hfast : fastB n E = true) : Met l yX4_neutral wsX4_neutral ({ frames := 4, cells := 0, slots := 0, locals := 90 }) (va_Pc [.ref tp, .int (nI j)] (PRE (dC, dI) (tyL cI cII cJ cJJ) (wTop tp ly lyg lyt LYG LYT tl tlg tlt TLG TLT ne neg net NEG NET su sug sut SUG SUT kp kr KH km sw tps rt pl P st my co C la lag lat LG LT po pog pot OG OT cJ cJJ cI cII mo eo dg to er n E DG tr T) sz)) (va_Qi (fun (r' : Int32) (_ : Unit) => r' = (neutF n E DG NEG).1 j) (fun _ tS => ATW (dC, dI) (tyL cI cII cJ cJJ) (va_A (wTop tp ly lyg lyt LYG LYT tl tlg tlt TLG TLT ne neg net NEG NET su sug sut SUG SUT kp kr KH km sw tps rt pl P st my co C la lag lat LG LT po pog pot OG OT cJ cJJ cI cII mo eo dg to er n E DG tr T) sz) (wTop tp ly lyg lyt LYG LYT tl tlg tlt TLG TLT ne neg net ((neutF n E DG NEG).1) ((neutF n E DG NEG).2) su sug sut SUG SUT kp kr KH km sw tps rt pl P st my co C la lag lat LG LT po pog pot OG OT cJ cJJ cI cII mo eo dg to er n E DG tr T) tS) (va_A (wTop tp ly lyg lyt LYG LYT tl tlg tlt TLG TLT ne neg net NEG NET su sug sut SUG SUT kp kr KH km sw tps rt pl P st my co C la lag lat LG LT po pog pot OG OT cJ cJJ cI cII mo eo dg to er n E DG tr T) sz)) 0 0 (va_A (wTop tp ly lyg lyt LYG LYT tl tlg tlt TLG TLT ne neg net NEG NET su sug sut SUG SUT kp kr KH km sw tps rt pl P st my co C la lag lat LG LT po pog pot OG OT cJ cJJ cI cII mo eo dg to er n E DG tr T) sz) := by
  refine Met.ofW (cc := cX4_neutral) (maxL := 2) (ret := (some .int)) (by decide) rfl ?_
  intro p e s m args below meth c s₁ B hml hv
  obtain ⟨rfl, hsz, hP, hK, hD0⟩ := hv
  have hx := B.exec
  have hb := B.bytes
  have hr := B.returns
  have hlocks := B.notSynchronized
  have hts := atoms_spec (ws := wsX4_neutral) B.pre
  have hown : s.vm.findClass RX4 = some m.cls := findClass_of_methodNamed B.named
  subst hsz
  have hD := hD0.self (sz := s.heap.size)
  generalize hAe : va_A (wTop tp ly lyg lyt LYG LYT tl tlg tlt TLG TLT ne neg net NEG NET su sug sut SUG SUT kp kr KH km sw tps rt pl P st my co C la lag lat LG LT po pog pot OG OT cJ cJJ cI cII mo eo dg to er n E DG tr T) s.heap.size = A at hD ⊢
  have hA : ∀ q : Nat, s.heap.size ≤ q → A q := fun q h => by rw [← hAe]; exact Or.inr h
  have hS : va_S A s.heap s.heap [] := va_S.rf
  have hl := lv_entry ([.ref tp, .int (nI j)]) (n := 2) (Nat.le_of_ble_eq_true rfl)
  rw [lg_entry_eq]
  generalize (lg_sl ([.ref tp, .int (nI j)]) ++ List.replicate (2 - (lg_sl ([.ref tp, .int (nI j)])).length) Slot.unset).toArray = ls at hl ⊢
  have hl : lv_has ls 2 [(0, .ref tp), (1, .int (nI j))] := hl
  have hi_X4 : ∀ w ∈ u_ws RX4 TX4 11, w ∈ wsX4_neutral := by decide +kernel
  have hf_28 := hts (.fieldLink RX4 28 "Topplemoor" "neutralHeap" "LTopplemoor$Heap;") (by decide +kernel)
  have hi_X0 : ∀ w ∈ u_ws RX0 TX0 3, w ∈ wsX4_neutral := by decide +kernel
  have hf_89 := hts (.fieldLink RX4 89 "Topplemoor$Heap" "grains" "[I") (by decide +kernel)
  refine lv_aload_n hx hb dX4_neutral_0 rfl (lv_at hl 0 rfl) ?_
  refine lv_iload_n hx hb dX4_neutral_1 rfl (lv_at hl 1 rfl) ?_
  refine kt_callv (w' := wTop tp ly lyg lyt LYG LYT tl tlg tlt TLG TLT ne neg net NEG NET su sug sut SUG SUT kp kr KH km sw tps rt pl P st my co C la lag lat LG LT po pog pot OG OT cJ cJJ cI cII mo eo dg to er n E DG tr T) (rest := []) (As := [.int (nI j)]) ⟨hx, hb, hml, hown, hts⟩ (c_X4_requireSpot l dC dI cI cII cJ cJJ tp ly lyg lyt LYG LYT tl tlg tlt TLG TLT ne neg net NEG NET su sug sut SUG SUT kp kr KH km sw tps rt pl P st my co C la lag lat LG LT po pog pot OG OT mo eo dg to er n E DG tr T j _ (hn) (hj)) (cwV 1 hts gX4_neutral_X4_requireSpot rfl rfl rfl (by decide +kernel) ⟨Nat.le_of_ble_eq_true rfl, Nat.le_of_ble_eq_true rfl⟩) hK hP hD hS hA (List.range' 0 45) sw_wTop_wTop_0 rfl 0 kX4 rfl rfl rfl rfl rfl hl.1 (Nat.le_of_ble_eq_true rfl) dX4_neutral_2 ⟨Nat.zero_le _, Nat.zero_le _⟩ (fun H locs hP hD hS => ?_)
  refine lv_aload_n hx hb dX4_neutral_5 rfl (lv_at hl 0 rfl) ?_
  refine kt_callv (w' := wTop tp ly lyg lyt LYG LYT tl tlg tlt TLG TLT ne neg net NEG NET su sug sut SUG SUT kp kr KH km sw tps rt pl P st my co C la lag lat LG LT po pog pot OG OT cJ cJJ cI cII mo eo dg to er n E DG tr T) (rest := []) (As := []) ⟨hx, hb, hml, hown, hts⟩ (c_X4_requireFast l dC dI cI cII cJ cJJ tp ly lyg lyt LYG LYT tl tlg tlt TLG TLT ne neg net NEG NET su sug sut SUG SUT kp kr KH km sw tps rt pl P st my co C la lag lat LG LT po pog pot OG OT mo eo dg to er n E DG tr T _ (hn) (hfast)) (cwV 0 hts gX4_neutral_X4_requireFast rfl rfl rfl (by decide +kernel) ⟨Nat.le_of_ble_eq_true rfl, Nat.le_of_ble_eq_true rfl⟩) hK hP hD hS hA (List.range' 0 45) sw_wTop_wTop_0 rfl 0 kX4 rfl rfl rfl rfl rfl hl.1 (Nat.le_of_ble_eq_true rfl) dX4_neutral_6 ⟨Nat.zero_le _, Nat.zero_le _⟩ (fun H locs hP hD hS => ?_)
  refine lv_aload_n hx hb dX4_neutral_9 rfl (lv_at hl 0 rfl) ?_
  refine va_get (D := (dC, dI)) (ci := kX4) (v := .ref ne) (C := RX4) (T := TX4) (N := 11) hx hb hts hi_X4 hown hK hP 0 rfl rfl 3 (by decide) hf_28 (fun _ h9 => h9) rfl dX4_neutral_10 ?_
  refine kt_callv (w' := wTop tp ly lyg lyt LYG LYT tl tlg tlt TLG TLT ne neg net ((neutF n E DG NEG).1) ((neutF n E DG NEG).2) su sug sut SUG SUT kp kr KH km sw tps rt pl P st my co C la lag lat LG LT po pog pot OG OT cJ cJJ cI cII mo eo dg to er n E DG tr T) (rest := []) (As := []) ⟨hx, hb, hml, hown, hts⟩ (c_X0_becomeNeutral l dC dI cI cII cJ cJJ ne neg net NEG NET mo eo dg to er n E DG _ (hn)) (cwV 0 hts gX4_neutral_X0_becomeNeutral rfl rfl rfl (by decide +kernel) ⟨Nat.le_of_ble_eq_true rfl, Nat.le_of_ble_eq_true rfl⟩) hK hP hD hS hA [7, 8, 9, 28, 29, 30, 31, 32, 33, 34, 35, 36, 37] sw_wTop_wHM_2 rfl 7 kX0 rfl rfl rfl rfl rfl hl.1 (Nat.le_of_ble_eq_true rfl) dX4_neutral_13 ⟨Nat.zero_le _, Nat.zero_le _⟩ (fun H locs hP hD hS => ?_)
  refine lv_aload_n hx hb dX4_neutral_16 rfl (lv_at hl 0 rfl) ?_
  refine va_get (D := (dC, dI)) (ci := kX4) (v := .ref ne) (C := RX4) (T := TX4) (N := 11) hx hb hts hi_X4 hown hK hP 0 rfl rfl 3 (by decide) hf_28 (fun _ h9 => h9) rfl dX4_neutral_17 ?_
  refine va_get (D := (dC, dI)) (ci := kX0) (v := .ref neg) (C := RX0) (T := TX0) (N := 3) hx hb hts hi_X0 hown hK hP 7 rfl rfl 0 (by decide) hf_89 (fun _ h9 => h9) rfl dX4_neutral_20 ?_
  refine lv_iload_n hx hb dX4_neutral_23 rfl (lv_at hl 1 rfl) ?_
  refine kt_iald hx hb hK hP 8 0 rfl rfl (by omega) (by decide) dX4_neutral_24 ?_
  exact kt_iret (W' := wTop tp ly lyg lyt LYG LYT tl tlg tlt TLG TLT ne neg net ((neutF n E DG NEG).1) ((neutF n E DG NEG).2) su sug sut SUG SUT kp kr KH km sw tps rt pl P st my co C la lag lat LG LT po pog pot OG OT cJ cJJ cI cII mo eo dg to er n E DG tr T) hx hb hr hS hP hK hD (rfl) hlocks dX4_neutral_25

theorem sw_wTop_wHMr_1 {tp : Nat} {ly : Nat} {lyg : Nat} {lyt : Nat} {LYG : Nat → Int32} {LYT : Nat → Int32} {tl : Nat} {tlg : Nat} {tlt : Nat} {TLG : Nat → Int32} {TLT : Nat → Int32} {ne : Nat} {neg : Nat} {net : Nat} {NEG : Nat → Int32} {NET : Nat → Int32} {su : Nat} {sug : Nat} {sut : Nat} {SUG : Nat → Int32} {SUT : Nat → Int32} {kp : Nat} {kr : Nat → Nat} {KH : Nat → Nat → Int32} {km : Nat} {sw : Int32} {tps : Int32} {rt : Nat} {pl : Nat} {P : Nat → Int32} {st : Int32} {my : Nat} {co : Nat} {C : Nat → Int32} {la : Nat} {lag : Nat} {lat : Nat} {LG : Nat → Int32} {LT : Nat → Int32} {po : Nat} {pog : Nat} {pot : Nat} {OG : Nat → Int32} {OT : Nat → Int32} {cJ : ClassId} {cJJ : ClassId} {cI : ClassId} {cII : ClassId} {mo : Nat} {eo : Nat} {dg : Nat} {to : Nat} {er : Nat → Nat} {n : Nat} {E : Nat → Nat → Int32} {DG : Nat → Int32} {tr : Nat → Nat} {T : Nat → Nat → Int64} {SUG' : Nat → Int32} {SUT' : Nat → Int32} {NEG' : Nat → Int32} {n' : Nat} {E' : Nat → Nat → Int32} {DG' : Nat → Int32} : kt_sw (wTop tp ly lyg lyt LYG LYT tl tlg tlt TLG TLT ne neg net NEG NET su sug sut SUG SUT kp kr KH km sw tps rt pl P st my co C la lag lat LG LT po pog pot OG OT cJ cJJ cI cII mo eo dg to er n E DG tr T) (wTop tp ly lyg lyt LYG LYT tl tlg tlt TLG TLT ne neg net NEG' NET su sug sut SUG' SUT' kp kr KH km sw tps rt pl P st my co C la lag lat LG LT po pog pot OG OT cJ cJJ cI cII mo eo dg to er n' E' DG' tr T) [10, 11, 12, 8, 28, 29, 30, 31, 32, 33, 34, 35, 36, 37] (wHMr su sug sut SUG SUT neg NEG cI cII mo eo dg to er n E DG) (wHMr su sug sut SUG' SUT' neg NEG' cI cII mo eo dg to er n' E' DG') := ⟨rfl, ⟨[none, none, none, none, none, none, none, none, some 3, none, some 0, some 1, some 2, none, none, none, none, none, none, none, none, none, none, none, none, none, none, none, some 4, some 5, some 6, some 7, some 8, some 9, some 10, some 11, some 12, some 13, none, none, none, none, none, none, none], rfl, by decide +kernel⟩, rfl⟩
theorem sw_wTop_wHMr_2 {tp : Nat} {ly : Nat} {lyg : Nat} {lyt : Nat} {LYG : Nat → Int32} {LYT : Nat → Int32} {tl : Nat} {tlg : Nat} {tlt : Nat} {TLG : Nat → Int32} {TLT : Nat → Int32} {ne : Nat} {neg : Nat} {net : Nat} {NEG : Nat → Int32} {NET : Nat → Int32} {su : Nat} {sug : Nat} {sut : Nat} {SUG : Nat → Int32} {SUT : Nat → Int32} {kp : Nat} {kr : Nat → Nat} {KH : Nat → Nat → Int32} {km : Nat} {sw : Int32} {tps : Int32} {rt : Nat} {pl : Nat} {P : Nat → Int32} {st : Int32} {my : Nat} {co : Nat} {C : Nat → Int32} {la : Nat} {lag : Nat} {lat : Nat} {LG : Nat → Int32} {LT : Nat → Int32} {po : Nat} {pog : Nat} {pot : Nat} {OG : Nat → Int32} {OT : Nat → Int32} {cJ : ClassId} {cJJ : ClassId} {cI : ClassId} {cII : ClassId} {mo : Nat} {eo : Nat} {dg : Nat} {to : Nat} {er : Nat → Nat} {n : Nat} {E : Nat → Nat → Int32} {DG : Nat → Int32} {tr : Nat → Nat} {T : Nat → Nat → Int64} {SUG' : Nat → Int32} {SUT' : Nat → Int32} {TLG' : Nat → Int32} {n' : Nat} {E' : Nat → Nat → Int32} {DG' : Nat → Int32} : kt_sw (wTop tp ly lyg lyt LYG LYT tl tlg tlt TLG TLT ne neg net NEG NET su sug sut SUG SUT kp kr KH km sw tps rt pl P st my co C la lag lat LG LT po pog pot OG OT cJ cJJ cI cII mo eo dg to er n E DG tr T) (wTop tp ly lyg lyt LYG LYT tl tlg tlt TLG' TLT ne neg net NEG NET su sug sut SUG' SUT' kp kr KH km sw tps rt pl P st my co C la lag lat LG LT po pog pot OG OT cJ cJJ cI cII mo eo dg to er n' E' DG' tr T) [10, 11, 12, 5, 28, 29, 30, 31, 32, 33, 34, 35, 36, 37] (wHMr su sug sut SUG SUT tlg TLG cI cII mo eo dg to er n E DG) (wHMr su sug sut SUG' SUT' tlg TLG' cI cII mo eo dg to er n' E' DG') := ⟨rfl, ⟨[none, none, none, none, none, some 3, none, none, none, none, some 0, some 1, some 2, none, none, none, none, none, none, none, none, none, none, none, none, none, none, none, some 4, some 5, some 6, some 7, some 8, some 9, some 10, some 11, some 12, some 13, none, none, none, none, none, none, none], rfl, by decide +kernel⟩, rfl⟩
theorem sw_wTop_wHM_3 {tp : Nat} {ly : Nat} {lyg : Nat} {lyt : Nat} {LYG : Nat → Int32} {LYT : Nat → Int32} {tl : Nat} {tlg : Nat} {tlt : Nat} {TLG : Nat → Int32} {TLT : Nat → Int32} {ne : Nat} {neg : Nat} {net : Nat} {NEG : Nat → Int32} {NET : Nat → Int32} {su : Nat} {sug : Nat} {sut : Nat} {SUG : Nat → Int32} {SUT : Nat → Int32} {kp : Nat} {kr : Nat → Nat} {KH : Nat → Nat → Int32} {km : Nat} {sw : Int32} {tps : Int32} {rt : Nat} {pl : Nat} {P : Nat → Int32} {st : Int32} {my : Nat} {co : Nat} {C : Nat → Int32} {la : Nat} {lag : Nat} {lat : Nat} {LG : Nat → Int32} {LT : Nat → Int32} {po : Nat} {pog : Nat} {pot : Nat} {OG : Nat → Int32} {OT : Nat → Int32} {cJ : ClassId} {cJJ : ClassId} {cI : ClassId} {cII : ClassId} {mo : Nat} {eo : Nat} {dg : Nat} {to : Nat} {er : Nat → Nat} {n : Nat} {E : Nat → Nat → Int32} {DG : Nat → Int32} {tr : Nat → Nat} {T : Nat → Nat → Int64} {SUG' : Nat → Int32} {SUT' : Nat → Int32} {n' : Nat} {E' : Nat → Nat → Int32} {DG' : Nat → Int32} : kt_sw (wTop tp ly lyg lyt LYG LYT tl tlg tlt TLG TLT ne neg net NEG NET su sug sut SUG SUT kp kr KH km sw tps rt pl P st my co C la lag lat LG LT po pog pot OG OT cJ cJJ cI cII mo eo dg to er n E DG tr T) (wTop tp ly lyg lyt LYG LYT tl tlg tlt TLG TLT ne neg net NEG NET su sug sut SUG' SUT' kp kr KH km sw tps rt pl P st my co C la lag lat LG LT po pog pot OG OT cJ cJJ cI cII mo eo dg to er n' E' DG' tr T) [10, 11, 12, 28, 29, 30, 31, 32, 33, 34, 35, 36, 37] (wHM su sug sut SUG SUT cI cII mo eo dg to er n E DG) (wHM su sug sut SUG' SUT' cI cII mo eo dg to er n' E' DG') := ⟨rfl, ⟨[none, none, none, none, none, none, none, none, none, none, some 0, some 1, some 2, none, none, none, none, none, none, none, none, none, none, none, none, none, none, none, some 3, some 4, some 5, some 6, some 7, some 8, some 9, some 10, some 11, some 12, none, none, none, none, none, none, none], rfl, by decide +kernel⟩, rfl⟩
set_option maxHeartbeats 4000000 in
set_option maxRecDepth 100000 in
theorem c_X4_order (l : Launch) (dC : Nat → ClassId) (dI : Nat → Nat → Nat) (cI cII cJ cJJ : ClassId) (tp : Nat) (ly : Nat) (lyg : Nat) (lyt : Nat) (LYG : Nat → Int32) (LYT : Nat → Int32) (tl : Nat) (tlg : Nat) (tlt : Nat) (TLG : Nat → Int32) (TLT : Nat → Int32) (ne : Nat) (neg : Nat) (net : Nat) (NEG : Nat → Int32) (NET : Nat → Int32) (su : Nat) (sug : Nat) (sut : Nat) (SUG : Nat → Int32) (SUT : Nat → Int32) (kp : Nat) (kr : Nat → Nat) (KH : Nat → Nat → Int32) (km : Nat) (sw : Int32) (tps : Int32) (rt : Nat) (pl : Nat) (P : Nat → Int32) (st : Int32) (my : Nat) (co : Nat) (C : Nat → Int32) (la : Nat) (lag : Nat) (lat : Nat) (LG : Nat → Int32) (LT : Nat → Int32) (po : Nat) (pog : Nat) (pot : Nat) (OG : Nat → Int32) (OT : Nat → Int32) (mo : Nat) (eo : Nat) (dg : Nat) (to : Nat) (er : Nat → Nat) (n : Nat) (E : Nat → Nat → Int32) (DG : Nat → Int32) (tr : Nat → Nat) (T : Nat → Nat → Int64) (sz : Nat) (hn : n ≤ 6) (hfast : fastB n E = true) : Met l yX4_order wsX4_order ({ frames := 4, cells := 0, slots := 0, locals := 90 }) (va_Pc [.ref tp] (PRE (dC, dI) (tyL cI cII cJ cJJ) (wTop tp ly lyg lyt LYG LYT tl tlg tlt TLG TLT ne neg net NEG NET su sug sut SUG SUT kp kr KH km sw tps rt pl P st my co C la lag lat LG LT po pog pot OG OT cJ cJJ cI cII mo eo dg to er n E DG tr T) sz)) (va_Qi (fun (r' : Int32) (_ : Unit) => r' = ordF n E DG (rollF n E DG LYG).1 (neutF n E DG NEG).1 SUT) (fun _ tS => ATW (dC, dI) (tyL cI cII cJ cJJ) (va_A (wTop tp ly lyg lyt LYG LYT tl tlg tlt TLG TLT ne neg net NEG NET su sug sut SUG SUT kp kr KH km sw tps rt pl P st my co C la lag lat LG LT po pog pot OG OT cJ cJJ cI cII mo eo dg to er n E DG tr T) sz) (wTop tp ly lyg lyt LYG LYT tl tlg tlt ((rollF n E DG LYG).1) ((rollF n E DG LYG).2) ne neg net ((neutF n E DG NEG).1) ((neutF n E DG NEG).2) su sug sut ((ordX n E DG (rollF n E DG LYG).1 (neutF n E DG NEG).1 SUT).1) ((ordX n E DG (rollF n E DG LYG).1 (neutF n E DG NEG).1 SUT).2) kp kr KH km sw tps rt pl P st my co C la lag lat LG LT po pog pot OG OT cJ cJJ cI cII mo eo dg to er n E DG tr T) tS) (va_A (wTop tp ly lyg lyt LYG LYT tl tlg tlt TLG TLT ne neg net NEG NET su sug sut SUG SUT kp kr KH km sw tps rt pl P st my co C la lag lat LG LT po pog pot OG OT cJ cJJ cI cII mo eo dg to er n E DG tr T) sz)) 0 0 (va_A (wTop tp ly lyg lyt LYG LYT tl tlg tlt TLG TLT ne neg net NEG NET su sug sut SUG SUT kp kr KH km sw tps rt pl P st my co C la lag lat LG LT po pog pot OG OT cJ cJJ cI cII mo eo dg to er n E DG tr T) sz) := by
  refine Met.ofW (cc := cX4_order) (maxL := 2) (ret := (some .int)) (by decide) rfl ?_
  intro p e s m args below meth c s₁ B hml hv
  obtain ⟨rfl, hsz, hP, hK, hD0⟩ := hv
  have hx := B.exec
  have hb := B.bytes
  have hr := B.returns
  have hlocks := B.notSynchronized
  have hts := atoms_spec (ws := wsX4_order) B.pre
  have hown : s.vm.findClass RX4 = some m.cls := findClass_of_methodNamed B.named
  subst hsz
  have hD := hD0.self (sz := s.heap.size)
  generalize hAe : va_A (wTop tp ly lyg lyt LYG LYT tl tlg tlt TLG TLT ne neg net NEG NET su sug sut SUG SUT kp kr KH km sw tps rt pl P st my co C la lag lat LG LT po pog pot OG OT cJ cJJ cI cII mo eo dg to er n E DG tr T) s.heap.size = A at hD ⊢
  have hA : ∀ q : Nat, s.heap.size ≤ q → A q := fun q h => by rw [← hAe]; exact Or.inr h
  have hS : va_S A s.heap s.heap [] := va_S.rf
  have hl := lv_entry ([.ref tp]) (n := 2) (Nat.le_of_ble_eq_true rfl)
  rw [lg_entry_eq]
  generalize (lg_sl ([.ref tp]) ++ List.replicate (2 - (lg_sl ([.ref tp])).length) Slot.unset).toArray = ls at hl ⊢
  have hl : lv_has ls 2 [(0, .ref tp)] := hl
  have hi_X4 : ∀ w ∈ u_ws RX4 TX4 11, w ∈ wsX4_order := by decide +kernel
  have hf_25 := hts (.fieldLink RX4 25 "Topplemoor" "trial" "LTopplemoor$Heap;") (by decide +kernel)
  have hf_21 := hts (.fieldLink RX4 21 "Topplemoor" "lying" "LTopplemoor$Heap;") (by decide +kernel)
  have hi_X0 : ∀ w ∈ u_ws RX0 TX0 3, w ∈ wsX4_order := by decide +kernel
  have hf_89 := hts (.fieldLink RX4 89 "Topplemoor$Heap" "grains" "[I") (by decide +kernel)
  have hf_28 := hts (.fieldLink RX4 28 "Topplemoor" "neutralHeap" "LTopplemoor$Heap;") (by decide +kernel)
  have hf_31 := hts (.fieldLink RX4 31 "Topplemoor" "sum" "LTopplemoor$Heap;") (by decide +kernel)
  refine lv_aload_n hx hb dX4_order_0 rfl (lv_at hl 0 rfl) ?_
  refine kt_callv (w' := wTop tp ly lyg lyt LYG LYT tl tlg tlt TLG TLT ne neg net NEG NET su sug sut SUG SUT kp kr KH km sw tps rt pl P st my co C la lag lat LG LT po pog pot OG OT cJ cJJ cI cII mo eo dg to er n E DG tr T) (rest := []) (As := []) ⟨hx, hb, hml, hown, hts⟩ (c_X4_requireFast l dC dI cI cII cJ cJJ tp ly lyg lyt LYG LYT tl tlg tlt TLG TLT ne neg net NEG NET su sug sut SUG SUT kp kr KH km sw tps rt pl P st my co C la lag lat LG LT po pog pot OG OT mo eo dg to er n E DG tr T _ (hn) (hfast)) (cwV 0 hts gX4_order_X4_requireFast rfl rfl rfl (by decide +kernel) ⟨Nat.le_of_ble_eq_true rfl, Nat.le_of_ble_eq_true rfl⟩) hK hP hD hS hA (List.range' 0 45) sw_wTop_wTop_0 rfl 0 kX4 rfl rfl rfl rfl rfl hl.1 (Nat.le_of_ble_eq_true rfl) dX4_order_1 ⟨Nat.zero_le _, Nat.zero_le _⟩ (fun H locs hP hD hS => ?_)
  refine lv_aload_n hx hb dX4_order_4 rfl (lv_at hl 0 rfl) ?_
  refine va_get (D := (dC, dI)) (ci := kX4) (v := .ref tl) (C := RX4) (T := TX4) (N := 11) hx hb hts hi_X4 hown hK hP 0 rfl rfl 2 (by decide) hf_25 (fun _ h9 => h9) rfl dX4_order_5 ?_
  refine lv_aload_n hx hb dX4_order_8 rfl (lv_at hl 0 rfl) ?_
  refine va_get (D := (dC, dI)) (ci := kX4) (v := .ref ly) (C := RX4) (T := TX4) (N := 11) hx hb hts hi_X4 hown hK hP 0 rfl rfl 1 (by decide) hf_21 (fun _ h9 => h9) rfl dX4_order_9 ?_
  refine va_get (D := (dC, dI)) (ci := kX0) (v := .ref lyg) (C := RX0) (T := TX0) (N := 3) hx hb hts hi_X0 hown hK hP 1 rfl rfl 0 (by decide) hf_89 (fun _ h9 => h9) rfl dX4_order_12 ?_
  refine kt_callv (w' := wTop tp ly lyg lyt LYG LYT tl tlg tlt LYG TLT ne neg net NEG NET su sug sut SUG SUT kp kr KH km sw tps rt pl P st my co C la lag lat LG LT po pog pot OG OT cJ cJJ cI cII mo eo dg to er n E DG tr T) (rest := []) (As := [.ref lyg]) ⟨hx, hb, hml, hown, hts⟩ (c_X0_copyRow l dC dI cI cII cJ cJJ tl tlg tlt TLG TLT lyg LYG mo eo dg to er n E DG _ ) (cwV 1 hts gX4_order_X0_copyRow rfl rfl rfl (by decide +kernel) ⟨Nat.le_of_ble_eq_true rfl, Nat.le_of_ble_eq_true rfl⟩) hK hP hD hS hA [4, 5, 6, 2, 28, 29, 30, 31, 32, 33, 34, 35, 36, 37] sw_wTop_wHMr_0 rfl 4 kX0 rfl rfl rfl rfl rfl hl.1 (Nat.le_of_ble_eq_true rfl) dX4_order_15 ⟨Nat.zero_le _, Nat.zero_le _⟩ (fun H locs hP hD hS => ?_)
  refine lv_aload_n hx hb dX4_order_18 rfl (lv_at hl 0 rfl) ?_
  refine va_get (D := (dC, dI)) (ci := kX4) (v := .ref tl) (C := RX4) (T := TX4) (N := 11) hx hb hts hi_X4 hown hK hP 0 rfl rfl 2 (by decide) hf_25 (fun _ h9 => h9) rfl dX4_order_19 ?_
  refine kt_callv (w' := wTop tp ly lyg lyt LYG LYT tl tlg tlt ((rollF n E DG LYG).1) ((rollF n E DG LYG).2) ne neg net NEG NET su sug sut SUG SUT kp kr KH km sw tps rt pl P st my co C la lag lat LG LT po pog pot OG OT cJ cJJ cI cII mo eo dg to er n E DG tr T) (rest := []) (As := []) ⟨hx, hb, hml, hown, hts⟩ (c_X0_roll l dC dI cI cII cJ cJJ tl tlg tlt LYG TLT mo eo dg to er n E DG _ (hn)) (cwV 0 hts gX4_order_X0_roll rfl rfl rfl (by decide +kernel) ⟨Nat.le_of_ble_eq_true rfl, Nat.le_of_ble_eq_true rfl⟩) hK hP hD hS hA [4, 5, 6, 28, 29, 30, 31, 32, 33, 34, 35, 36, 37] sw_wTop_wHM_1 rfl 4 kX0 rfl rfl rfl rfl rfl hl.1 (Nat.le_of_ble_eq_true rfl) dX4_order_22 ⟨Nat.zero_le _, Nat.zero_le _⟩ (fun H locs hP hD hS => ?_)
  refine lv_aload_n hx hb dX4_order_25 rfl (lv_at hl 0 rfl) ?_
  refine va_get (D := (dC, dI)) (ci := kX4) (v := .ref ne) (C := RX4) (T := TX4) (N := 11) hx hb hts hi_X4 hown hK hP 0 rfl rfl 3 (by decide) hf_28 (fun _ h9 => h9) rfl dX4_order_26 ?_
  refine kt_callv (w' := wTop tp ly lyg lyt LYG LYT tl tlg tlt ((rollF n E DG LYG).1) ((rollF n E DG LYG).2) ne neg net ((neutF n E DG NEG).1) ((neutF n E DG NEG).2) su sug sut SUG SUT kp kr KH km sw tps rt pl P st my co C la lag lat LG LT po pog pot OG OT cJ cJJ cI cII mo eo dg to er n E DG tr T) (rest := []) (As := []) ⟨hx, hb, hml, hown, hts⟩ (c_X0_becomeNeutral l dC dI cI cII cJ cJJ ne neg net NEG NET mo eo dg to er n E DG _ (hn)) (cwV 0 hts gX4_order_X0_becomeNeutral rfl rfl rfl (by decide +kernel) ⟨Nat.le_of_ble_eq_true rfl, Nat.le_of_ble_eq_true rfl⟩) hK hP hD hS hA [7, 8, 9, 28, 29, 30, 31, 32, 33, 34, 35, 36, 37] sw_wTop_wHM_2 rfl 7 kX0 rfl rfl rfl rfl rfl hl.1 (Nat.le_of_ble_eq_true rfl) dX4_order_29 ⟨Nat.zero_le _, Nat.zero_le _⟩ (fun H locs hP hD hS => ?_)
  refine lv_aload_n hx hb dX4_order_32 rfl (lv_at hl 0 rfl) ?_
  refine va_get (D := (dC, dI)) (ci := kX4) (v := .ref su) (C := RX4) (T := TX4) (N := 11) hx hb hts hi_X4 hown hK hP 0 rfl rfl 4 (by decide) hf_31 (fun _ h9 => h9) rfl dX4_order_33 ?_
  refine lv_aload_n hx hb dX4_order_36 rfl (lv_at hl 0 rfl) ?_
  refine va_get (D := (dC, dI)) (ci := kX4) (v := .ref ne) (C := RX4) (T := TX4) (N := 11) hx hb hts hi_X4 hown hK hP 0 rfl rfl 3 (by decide) hf_28 (fun _ h9 => h9) rfl dX4_order_37 ?_
  refine va_get (D := (dC, dI)) (ci := kX0) (v := .ref neg) (C := RX0) (T := TX0) (N := 3) hx hb hts hi_X0 hown hK hP 7 rfl rfl 0 (by decide) hf_89 (fun _ h9 => h9) rfl dX4_order_40 ?_
  refine kt_callv (w' := wTop tp ly lyg lyt LYG LYT tl tlg tlt ((rollF n E DG LYG).1) ((rollF n E DG LYG).2) ne neg net ((neutF n E DG NEG).1) ((neutF n E DG NEG).2) su sug sut ((neutF n E DG NEG).1) SUT kp kr KH km sw tps rt pl P st my co C la lag lat LG LT po pog pot OG OT cJ cJJ cI cII mo eo dg to er n E DG tr T) (rest := []) (As := [.ref neg]) ⟨hx, hb, hml, hown, hts⟩ (c_X0_copyRow l dC dI cI cII cJ cJJ su sug sut SUG SUT neg ((neutF n E DG NEG).1) mo eo dg to er n E DG _ ) (cwV 1 hts gX4_order_X0_copyRow rfl rfl rfl (by decide +kernel) ⟨Nat.le_of_ble_eq_true rfl, Nat.le_of_ble_eq_true rfl⟩) hK hP hD hS hA [10, 11, 12, 8, 28, 29, 30, 31, 32, 33, 34, 35, 36, 37] sw_wTop_wHMr_1 rfl 10 kX0 rfl rfl rfl rfl rfl hl.1 (Nat.le_of_ble_eq_true rfl) dX4_order_43 ⟨Nat.zero_le _, Nat.zero_le _⟩ (fun H locs hP hD hS => ?_)
  refine lv_iconst (v := nI 1) hx hb dX4_order_46 (by decide) ?_
  refine lv_istore_n (lv' := [(1, .int (nI 1)), (0, .ref tp)]) hx hb dX4_order_47 rfl hl (by decide) rfl (fun ls hl => ?_)
  refine kt_forq (n := 100) (q := fun (i : Nat) => (fstO (ordB n E DG (rollF n E DG LYG).1 (neutF n E DG NEG).1 SUT) i = none)) (WD := fun (i : Nat) => wTop tp ly lyg lyt LYG LYT tl tlg tlt ((rollF n E DG LYG).1) ((rollF n E DG LYG).2) ne neg net ((neutF n E DG NEG).1) ((neutF n E DG NEG).2) su sug sut ((ordI n E DG (rollF n E DG LYG).1 (neutF n E DG NEG).1 SUT i).1) ((ordI n E DG (rollF n E DG LYG).1 (neutF n E DG NEG).1 SUT i).2) kp kr KH km sw tps rt pl P st my co C la lag lat LG LT po pog pot OG OT cJ cJJ cI cII mo eo dg to er n E DG tr T) (LV := fun (i : Nat) => [(0, .ref tp), (1, .int (nI (1 + i)))]) (nL := 2) (hd := 48) ?_ (rfl) hP hD hS (lv_sub hl [1, 0] rfl)
  intro i hle_i hq_i ih_i H locs ls hP hD hS hl
  have hq_i : (fstO (ordB n E DG (rollF n E DG LYG).1 (neutF n E DG NEG).1 SUT) i = none) := hq_i
  have hq := hq_i
  have hP : va_P (dC, dI) vwCl (wTop tp ly lyg lyt LYG LYT tl tlg tlt ((rollF n E DG LYG).1) ((rollF n E DG LYG).2) ne neg net ((neutF n E DG NEG).1) ((neutF n E DG NEG).2) su sug sut ((ordI n E DG (rollF n E DG LYG).1 (neutF n E DG NEG).1 SUT i).1) ((ordI n E DG (rollF n E DG LYG).1 (neutF n E DG NEG).1 SUT i).2) kp kr KH km sw tps rt pl P st my co C la lag lat LG LT po pog pot OG OT cJ cJJ cI cII mo eo dg to er n E DG tr T) H := hP
  have hD : va_D A (wTop tp ly lyg lyt LYG LYT tl tlg tlt ((rollF n E DG LYG).1) ((rollF n E DG LYG).2) ne neg net ((neutF n E DG NEG).1) ((neutF n E DG NEG).2) su sug sut ((ordI n E DG (rollF n E DG LYG).1 (neutF n E DG NEG).1 SUT i).1) ((ordI n E DG (rollF n E DG LYG).1 (neutF n E DG NEG).1 SUT i).2) kp kr KH km sw tps rt pl P st my co C la lag lat LG LT po pog pot OG OT cJ cJJ cI cII mo eo dg to er n E DG tr T) := hD
  have hl : lv_has ls 2 [(0, .ref tp), (1, .int (nI (1 + i)))] := hl
  refine lv_iload_n hx hb dX4_order_48 rfl (lv_at hl 1 rfl) ?_
  refine lv_bipush (v := nI 100) hx hb dX4_order_49 (by decide) ?_
  refine kt_igt (tgt := 100) hx hb (by omega) (by omega) dX4_order_51 (by decide) (fun hge_i => ?_) (fun hlt0_i => ?_)
  · have e_i : 100 = i := by omega
    subst e_i
    refine lv_iconst (v := (-1)) hx hb dX4_order_100 (by decide) ?_
    have e : ordX n E DG (rollF n E DG LYG).1 (neutF n E DG NEG).1 SUT = ordI n E DG (rollF n E DG LYG).1 (neutF n E DG NEG).1 SUT 100 := by unfold ordX; rw [hq]
    exact kt_iret (W' := wTop tp ly lyg lyt LYG LYT tl tlg tlt ((rollF n E DG LYG).1) ((rollF n E DG LYG).2) ne neg net ((neutF n E DG NEG).1) ((neutF n E DG NEG).2) su sug sut ((ordX n E DG (rollF n E DG LYG).1 (neutF n E DG NEG).1 SUT).1) ((ordX n E DG (rollF n E DG LYG).1 (neutF n E DG NEG).1 SUT).2) kp kr KH km sw tps rt pl P st my co C la lag lat LG LT po pog pot OG OT cJ cJJ cI cII mo eo dg to er n E DG tr T) hx hb hr hS (by rw [e]; exact hP) hK (by rw [e]; exact hD) (by unfold ordF; rw [hq]) hlocks dX4_order_101
  · skip
    have hlt_i : i < 100 := by omega
    refine lv_aload_n hx hb dX4_order_54 rfl (lv_at hl 0 rfl) ?_
    refine va_get (D := (dC, dI)) (ci := kX4) (v := .ref su) (C := RX4) (T := TX4) (N := 11) hx hb hts hi_X4 hown hK hP 0 rfl rfl 4 (by decide) hf_31 (fun _ h9 => h9) rfl dX4_order_55 ?_
    refine lv_aload_n hx hb dX4_order_58 rfl (lv_at hl 0 rfl) ?_
    refine va_get (D := (dC, dI)) (ci := kX4) (v := .ref tl) (C := RX4) (T := TX4) (N := 11) hx hb hts hi_X4 hown hK hP 0 rfl rfl 2 (by decide) hf_25 (fun _ h9 => h9) rfl dX4_order_59 ?_
    refine va_get (D := (dC, dI)) (ci := kX0) (v := .ref tlg) (C := RX0) (T := TX0) (N := 3) hx hb hts hi_X0 hown hK hP 4 rfl rfl 0 (by decide) hf_89 (fun _ h9 => h9) rfl dX4_order_62 ?_
    refine kt_callv (w' := wTop tp ly lyg lyt LYG LYT tl tlg tlt ((rollF n E DG LYG).1) ((rollF n E DG LYG).2) ne neg net ((neutF n E DG NEG).1) ((neutF n E DG NEG).2) su sug sut (it (addS ((rollF n E DG LYG).1)) n ((ordI n E DG (rollF n E DG LYG).1 (neutF n E DG NEG).1 SUT i).1)) ((ordI n E DG (rollF n E DG LYG).1 (neutF n E DG NEG).1 SUT i).2) kp kr KH km sw tps rt pl P st my co C la lag lat LG LT po pog pot OG OT cJ cJJ cI cII mo eo dg to er n E DG tr T) (rest := []) (As := [.ref tlg]) ⟨hx, hb, hml, hown, hts⟩ (c_X0_addRow l dC dI cI cII cJ cJJ su sug sut ((ordI n E DG (rollF n E DG LYG).1 (neutF n E DG NEG).1 SUT i).1) ((ordI n E DG (rollF n E DG LYG).1 (neutF n E DG NEG).1 SUT i).2) tlg ((rollF n E DG LYG).1) mo eo dg to er n E DG _ (hn)) (cwV 1 hts gX4_order_X0_addRow rfl rfl rfl (by decide +kernel) ⟨Nat.le_of_ble_eq_true rfl, Nat.le_of_ble_eq_true rfl⟩) hK hP hD hS hA [10, 11, 12, 5, 28, 29, 30, 31, 32, 33, 34, 35, 36, 37] sw_wTop_wHMr_2 rfl 10 kX0 rfl rfl rfl rfl rfl hl.1 (Nat.le_of_ble_eq_true rfl) dX4_order_65 ⟨Nat.zero_le _, Nat.zero_le _⟩ (fun H locs hP hD hS => ?_)
    refine lv_aload_n hx hb dX4_order_68 rfl (lv_at hl 0 rfl) ?_
    refine va_get (D := (dC, dI)) (ci := kX4) (v := .ref su) (C := RX4) (T := TX4) (N := 11) hx hb hts hi_X4 hown hK hP 0 rfl rfl 4 (by decide) hf_31 (fun _ h9 => h9) rfl dX4_order_69 ?_
    refine kt_callv (w' := wTop tp ly lyg lyt LYG LYT tl tlg tlt ((rollF n E DG LYG).1) ((rollF n E DG LYG).2) ne neg net ((neutF n E DG NEG).1) ((neutF n E DG NEG).2) su sug sut ((rollF n E DG (it (addS ((rollF n E DG LYG).1)) n ((ordI n E DG (rollF n E DG LYG).1 (neutF n E DG NEG).1 SUT i).1))).1) ((rollF n E DG (it (addS ((rollF n E DG LYG).1)) n ((ordI n E DG (rollF n E DG LYG).1 (neutF n E DG NEG).1 SUT i).1))).2) kp kr KH km sw tps rt pl P st my co C la lag lat LG LT po pog pot OG OT cJ cJJ cI cII mo eo dg to er n E DG tr T) (rest := []) (As := []) ⟨hx, hb, hml, hown, hts⟩ (c_X0_roll l dC dI cI cII cJ cJJ su sug sut (it (addS ((rollF n E DG LYG).1)) n ((ordI n E DG (rollF n E DG LYG).1 (neutF n E DG NEG).1 SUT i).1)) ((ordI n E DG (rollF n E DG LYG).1 (neutF n E DG NEG).1 SUT i).2) mo eo dg to er n E DG _ (hn)) (cwV 0 hts gX4_order_X0_roll rfl rfl rfl (by decide +kernel) ⟨Nat.le_of_ble_eq_true rfl, Nat.le_of_ble_eq_true rfl⟩) hK hP hD hS hA [10, 11, 12, 28, 29, 30, 31, 32, 33, 34, 35, 36, 37] sw_wTop_wHM_3 rfl 10 kX0 rfl rfl rfl rfl rfl hl.1 (Nat.le_of_ble_eq_true rfl) dX4_order_72 ⟨Nat.zero_le _, Nat.zero_le _⟩ (fun H locs hP hD hS => ?_)
    refine lv_aload_n hx hb dX4_order_75 rfl (lv_at hl 0 rfl) ?_
    refine va_get (D := (dC, dI)) (ci := kX4) (v := .ref su) (C := RX4) (T := TX4) (N := 11) hx hb hts hi_X4 hown hK hP 0 rfl rfl 4 (by decide) hf_31 (fun _ h9 => h9) rfl dX4_order_76 ?_
    refine lv_aload_n hx hb dX4_order_79 rfl (lv_at hl 0 rfl) ?_
    refine va_get (D := (dC, dI)) (ci := kX4) (v := .ref ne) (C := RX4) (T := TX4) (N := 11) hx hb hts hi_X4 hown hK hP 0 rfl rfl 3 (by decide) hf_28 (fun _ h9 => h9) rfl dX4_order_80 ?_
    refine va_get (D := (dC, dI)) (ci := kX0) (v := .ref neg) (C := RX0) (T := TX0) (N := 3) hx hb hts hi_X0 hown hK hP 7 rfl rfl 0 (by decide) hf_89 (fun _ h9 => h9) rfl dX4_order_83 ?_
    refine kt_calli (w' := wTop tp ly lyg lyt LYG LYT tl tlg tlt ((rollF n E DG LYG).1) ((rollF n E DG LYG).2) ne neg net ((neutF n E DG NEG).1) ((neutF n E DG NEG).2) su sug sut ((rollF n E DG (it (addS ((rollF n E DG LYG).1)) n ((ordI n E DG (rollF n E DG LYG).1 (neutF n E DG NEG).1 SUT i).1))).1) ((rollF n E DG (it (addS ((rollF n E DG LYG).1)) n ((ordI n E DG (rollF n E DG LYG).1 (neutF n E DG NEG).1 SUT i).1))).2) kp kr KH km sw tps rt pl P st my co C la lag lat LG LT po pog pot OG OT cJ cJJ cI cII mo eo dg to er n E DG tr T) (rest := []) (As := [.ref neg]) ⟨hx, hb, hml, hown, hts⟩ (c_X0_isLike l dC dI cI cII cJ cJJ su sug sut ((rollF n E DG (it (addS ((rollF n E DG LYG).1)) n ((ordI n E DG (rollF n E DG LYG).1 (neutF n E DG NEG).1 SUT i).1))).1) ((rollF n E DG (it (addS ((rollF n E DG LYG).1)) n ((ordI n E DG (rollF n E DG LYG).1 (neutF n E DG NEG).1 SUT i).1))).2) neg ((neutF n E DG NEG).1) mo eo dg to er n E DG _ (hn)) (cwV 1 hts gX4_order_X0_isLike rfl rfl rfl (by decide +kernel) ⟨Nat.le_of_ble_eq_true rfl, Nat.le_of_ble_eq_true rfl⟩) hK hP hD hS hA [10, 11, 12, 8, 28, 29, 30, 31, 32, 33, 34, 35, 36, 37] sw_wTop_wHMr_1 rfl 10 kX0 rfl rfl rfl rfl rfl hl.1 (Nat.le_of_ble_eq_true rfl) dX4_order_86 ⟨Nat.zero_le _, Nat.zero_le _⟩ (fun H locs hP hD hS => ?_)
    refine lv_if_eq (tgt := 94) hx hb dX4_order_89 (by decide) (fun c89 => ?_) (fun c89 => ?_)
    · skip
      refine lv_iinc (v := nI (1 + i + 1)) (lv' := [(1, .int (nI ((1 + i) + 1))), (0, .ref tp)]) hx hb dX4_order_94 hl (k := 1) rfl (kt_inc _) (by decide) rfl (fun ls hl => ?_)
      refine lv_goto (tgt := 48) hx hb dX4_order_97 (by decide) ?_
      exact ih_i H locs ls hlt_i ((fstO_succ hq).trans (if_neg (fun z => by rw [show ordB n E DG (rollF n E DG LYG).1 (neutF n E DG NEG).1 SUT i = false from b2i_eq0.mp c89] at z; exact absurd z (by decide)))) hP hD hS (lv_sub hl [1, 0] rfl)
    · skip
      refine lv_iload_n hx hb dX4_order_92 rfl (lv_at hl 1 rfl) ?_
      have e0 : fstO (ordB n E DG (rollF n E DG LYG).1 (neutF n E DG NEG).1 SUT) 100 = some i := fstO_some hlt_i hq (b2i_ne0.mp c89)
      have e : ordX n E DG (rollF n E DG LYG).1 (neutF n E DG NEG).1 SUT = ordI n E DG (rollF n E DG LYG).1 (neutF n E DG NEG).1 SUT (i + 1) := by unfold ordX; rw [e0]
      exact kt_iret (W' := wTop tp ly lyg lyt LYG LYT tl tlg tlt ((rollF n E DG LYG).1) ((rollF n E DG LYG).2) ne neg net ((neutF n E DG NEG).1) ((neutF n E DG NEG).2) su sug sut ((ordX n E DG (rollF n E DG LYG).1 (neutF n E DG NEG).1 SUT).1) ((ordX n E DG (rollF n E DG LYG).1 (neutF n E DG NEG).1 SUT).2) kp kr KH km sw tps rt pl P st my co C la lag lat LG LT po pog pot OG OT cJ cJJ cI cII mo eo dg to er n E DG tr T) hx hb hr hS (by rw [e]; exact hP) hK (by rw [e]; exact hD) (by unfold ordF; rw [e0]) hlocks dX4_order_93

theorem sw_wTop_wYM_0 {tp : Nat} {ly : Nat} {lyg : Nat} {lyt : Nat} {LYG : Nat → Int32} {LYT : Nat → Int32} {tl : Nat} {tlg : Nat} {tlt : Nat} {TLG : Nat → Int32} {TLT : Nat → Int32} {ne : Nat} {neg : Nat} {net : Nat} {NEG : Nat → Int32} {NET : Nat → Int32} {su : Nat} {sug : Nat} {sut : Nat} {SUG : Nat → Int32} {SUT : Nat → Int32} {kp : Nat} {kr : Nat → Nat} {KH : Nat → Nat → Int32} {km : Nat} {sw : Int32} {tps : Int32} {rt : Nat} {pl : Nat} {P : Nat → Int32} {st : Int32} {my : Nat} {co : Nat} {C : Nat → Int32} {la : Nat} {lag : Nat} {lat : Nat} {LG : Nat → Int32} {LT : Nat → Int32} {po : Nat} {pog : Nat} {pot : Nat} {OG : Nat → Int32} {OT : Nat → Int32} {cJ : ClassId} {cJJ : ClassId} {cI : ClassId} {cII : ClassId} {mo : Nat} {eo : Nat} {dg : Nat} {to : Nat} {er : Nat → Nat} {n : Nat} {E : Nat → Nat → Int32} {DG : Nat → Int32} {tr : Nat → Nat} {T : Nat → Nat → Int64} {C' : Nat → Int32} {LG' : Nat → Int32} {LT' : Nat → Int32} {OG' : Nat → Int32} {OT' : Nat → Int32} {n' : Nat} {E' : Nat → Nat → Int32} {DG' : Nat → Int32} : kt_sw (wTop tp ly lyg lyt LYG LYT tl tlg tlt TLG TLT ne neg net NEG NET su sug sut SUG SUT kp kr KH km sw tps rt pl P st my co C la lag lat LG LT po pog pot OG OT cJ cJJ cI cII mo eo dg to er n E DG tr T) (wTop tp ly lyg lyt LYG LYT tl tlg tlt TLG TLT ne neg net NEG NET su sug sut SUG SUT kp kr KH km sw tps rt pl P st my co C' la lag lat LG' LT' po pog pot OG' OT' cJ cJJ cI cII mo eo dg to er n' E' DG' tr T) [20, 21, 22, 23, 24, 25, 26, 27, 28, 29, 30, 31, 32, 33, 34, 35, 36, 37] (wYM my co C la lag lat LG LT po pog pot OG OT cI cII mo eo dg to er n E DG) (wYM my co C' la lag lat LG' LT' po pog pot OG' OT' cI cII mo eo dg to er n' E' DG') := ⟨rfl, ⟨[none, none, none, none, none, none, none, none, none, none, none, none, none, none, none, none, none, none, none, none, some 0, some 1, some 2, some 3, some 4, some 5, some 6, some 7, some 8, some 9, some 10, some 11, some 12, some 13, some 14, some 15, some 16, some 17, none, none, none, none, none, none, none], rfl, by decide +kernel⟩, rfl⟩
set_option maxHeartbeats 4000000 in
set_option maxRecDepth 100000 in
theorem c_X4_canPay (l : Launch) (dC : Nat → ClassId) (dI : Nat → Nat → Nat) (cI cII cJ cJJ : ClassId) (tp : Nat) (ly : Nat) (lyg : Nat) (lyt : Nat) (LYG : Nat → Int32) (LYT : Nat → Int32) (tl : Nat) (tlg : Nat) (tlt : Nat) (TLG : Nat → Int32) (TLT : Nat → Int32) (ne : Nat) (neg : Nat) (net : Nat) (NEG : Nat → Int32) (NET : Nat → Int32) (su : Nat) (sug : Nat) (sut : Nat) (SUG : Nat → Int32) (SUT : Nat → Int32) (kp : Nat) (kr : Nat → Nat) (KH : Nat → Nat → Int32) (km : Nat) (sw : Int32) (tps : Int32) (rt : Nat) (pl : Nat) (P : Nat → Int32) (st : Int32) (my : Nat) (co : Nat) (C : Nat → Int32) (la : Nat) (lag : Nat) (lat : Nat) (LG : Nat → Int32) (LT : Nat → Int32) (po : Nat) (pog : Nat) (pot : Nat) (OG : Nat → Int32) (OT : Nat → Int32) (mo : Nat) (eo : Nat) (dg : Nat) (to : Nat) (er : Nat → Nat) (n : Nat) (E : Nat → Nat → Int32) (DG : Nat → Int32) (tr : Nat → Nat) (T : Nat → Nat → Int64) (sz : Nat) (hn : n ≤ 6) (hfast : fastB n E = true) : Met l yX4_canPay wsX4_canPay ({ frames := 5, cells := 0, slots := 0, locals := 111 }) (va_Pc [.ref tp] (PRE (dC, dI) (tyL cI cII cJ cJJ) (wTop tp ly lyg lyt LYG LYT tl tlg tlt TLG TLT ne neg net NEG NET su sug sut SUG SUT kp kr KH km sw tps rt pl P st my co C la lag lat LG LT po pog pot OG OT cJ cJJ cI cII mo eo dg to er n E DG tr T) sz)) (va_Qi (fun (r' : Int32) (_ : Unit) => r' = b2i (payB n E DG C LG)) (fun _ tS => ATW (dC, dI) (tyL cI cII cJ cJJ) (va_A (wTop tp ly lyg lyt LYG LYT tl tlg tlt TLG TLT ne neg net NEG NET su sug sut SUG SUT kp kr KH km sw tps rt pl P st my co C la lag lat LG LT po pog pot OG OT cJ cJJ cI cII mo eo dg to er n E DG tr T) sz) (wTop tp ly lyg lyt LYG LYT tl tlg tlt TLG TLT ne neg net NEG NET su sug sut SUG SUT kp kr KH km sw tps rt pl P st my co C la lag lat ((findF n E DG C LG).1) ((findF n E DG C LG).2) po pog pot OG OT cJ cJJ cI cII mo eo dg to er n E DG tr T) tS) (va_A (wTop tp ly lyg lyt LYG LYT tl tlg tlt TLG TLT ne neg net NEG NET su sug sut SUG SUT kp kr KH km sw tps rt pl P st my co C la lag lat LG LT po pog pot OG OT cJ cJJ cI cII mo eo dg to er n E DG tr T) sz)) 0 0 (va_A (wTop tp ly lyg lyt LYG LYT tl tlg tlt TLG TLT ne neg net NEG NET su sug sut SUG SUT kp kr KH km sw tps rt pl P st my co C la lag lat LG LT po pog pot OG OT cJ cJJ cI cII mo eo dg to er n E DG tr T) sz) := by
  refine Met.ofW (cc := cX4_canPay) (maxL := 1) (ret := (some .boolean)) (by decide) rfl ?_
  intro p e s m args below meth c s₁ B hml hv
  obtain ⟨rfl, hsz, hP, hK, hD0⟩ := hv
  have hx := B.exec
  have hb := B.bytes
  have hr := B.returns
  have hlocks := B.notSynchronized
  have hts := atoms_spec (ws := wsX4_canPay) B.pre
  have hown : s.vm.findClass RX4 = some m.cls := findClass_of_methodNamed B.named
  subst hsz
  have hD := hD0.self (sz := s.heap.size)
  generalize hAe : va_A (wTop tp ly lyg lyt LYG LYT tl tlg tlt TLG TLT ne neg net NEG NET su sug sut SUG SUT kp kr KH km sw tps rt pl P st my co C la lag lat LG LT po pog pot OG OT cJ cJJ cI cII mo eo dg to er n E DG tr T) s.heap.size = A at hD ⊢
  have hA : ∀ q : Nat, s.heap.size ≤ q → A q := fun q h => by rw [← hAe]; exact Or.inr h
  have hS : va_S A s.heap s.heap [] := va_S.rf
  have hl := lv_entry ([.ref tp]) (n := 1) (Nat.le_of_ble_eq_true rfl)
  rw [lg_entry_eq]
  generalize (lg_sl ([.ref tp]) ++ List.replicate (1 - (lg_sl ([.ref tp])).length) Slot.unset).toArray = ls at hl ⊢
  have hl : lv_has ls 1 [(0, .ref tp)] := hl
  have hi_X4 : ∀ w ∈ u_ws RX4 TX4 11, w ∈ wsX4_canPay := by decide +kernel
  have hf_44 := hts (.fieldLink RX4 44 "Topplemoor" "money" "LTopplemoor$Money;") (by decide +kernel)
  refine lv_aload_n hx hb dX4_canPay_0 rfl (lv_at hl 0 rfl) ?_
  refine kt_callv (w' := wTop tp ly lyg lyt LYG LYT tl tlg tlt TLG TLT ne neg net NEG NET su sug sut SUG SUT kp kr KH km sw tps rt pl P st my co C la lag lat LG LT po pog pot OG OT cJ cJJ cI cII mo eo dg to er n E DG tr T) (rest := []) (As := []) ⟨hx, hb, hml, hown, hts⟩ (c_X4_requireFast l dC dI cI cII cJ cJJ tp ly lyg lyt LYG LYT tl tlg tlt TLG TLT ne neg net NEG NET su sug sut SUG SUT kp kr KH km sw tps rt pl P st my co C la lag lat LG LT po pog pot OG OT mo eo dg to er n E DG tr T _ (hn) (hfast)) (cwV 0 hts gX4_canPay_X4_requireFast rfl rfl rfl (by decide +kernel) ⟨Nat.le_of_ble_eq_true rfl, Nat.le_of_ble_eq_true rfl⟩) hK hP hD hS hA (List.range' 0 45) sw_wTop_wTop_0 rfl 0 kX4 rfl rfl rfl rfl rfl hl.1 (Nat.le_of_ble_eq_true rfl) dX4_canPay_1 ⟨Nat.zero_le _, Nat.zero_le _⟩ (fun H locs hP hD hS => ?_)
  refine lv_aload_n hx hb dX4_canPay_4 rfl (lv_at hl 0 rfl) ?_
  refine va_get (D := (dC, dI)) (ci := kX4) (v := .ref my) (C := RX4) (T := TX4) (N := 11) hx hb hts hi_X4 hown hK hP 0 rfl rfl 6 (by decide) hf_44 (fun _ h9 => h9) rfl dX4_canPay_5 ?_
  refine kt_calli (w' := wTop tp ly lyg lyt LYG LYT tl tlg tlt TLG TLT ne neg net NEG NET su sug sut SUG SUT kp kr KH km sw tps rt pl P st my co C la lag lat ((findF n E DG C LG).1) ((findF n E DG C LG).2) po pog pot OG OT cJ cJJ cI cII mo eo dg to er n E DG tr T) (rest := []) (As := []) ⟨hx, hb, hml, hown, hts⟩ (c_X1_isPayable l dC dI cI cII cJ cJJ my co C la lag lat LG LT po pog pot OG OT mo eo dg to er n E DG _ (hn)) (cwV 0 hts gX4_canPay_X1_isPayable rfl rfl rfl (by decide +kernel) ⟨Nat.le_of_ble_eq_true rfl, Nat.le_of_ble_eq_true rfl⟩) hK hP hD hS hA [20, 21, 22, 23, 24, 25, 26, 27, 28, 29, 30, 31, 32, 33, 34, 35, 36, 37] sw_wTop_wYM_0 rfl 20 kX1 rfl rfl rfl rfl rfl hl.1 (Nat.le_of_ble_eq_true rfl) dX4_canPay_8 ⟨Nat.zero_le _, Nat.zero_le _⟩ (fun H locs hP hD hS => ?_)
  exact kt_zret (W' := wTop tp ly lyg lyt LYG LYT tl tlg tlt TLG TLT ne neg net NEG NET su sug sut SUG SUT kp kr KH km sw tps rt pl P st my co C la lag lat ((findF n E DG C LG).1) ((findF n E DG C LG).2) po pog pot OG OT cJ cJJ cI cII mo eo dg to er n E DG tr T) hx hb hr (nar_bool (b2i_bool _)) hS hP hK hD (rfl) hlocks dX4_canPay_11

set_option maxHeartbeats 4000000 in
set_option maxRecDepth 100000 in
theorem c_X4_weakest (l : Launch) (dC : Nat → ClassId) (dI : Nat → Nat → Nat) (cI cII cJ cJJ : ClassId) (tp : Nat) (ly : Nat) (lyg : Nat) (lyt : Nat) (LYG : Nat → Int32) (LYT : Nat → Int32) (tl : Nat) (tlg : Nat) (tlt : Nat) (TLG : Nat → Int32) (TLT : Nat → Int32) (ne : Nat) (neg : Nat) (net : Nat) (NEG : Nat → Int32) (NET : Nat → Int32) (su : Nat) (sug : Nat) (sut : Nat) (SUG : Nat → Int32) (SUT : Nat → Int32) (kp : Nat) (kr : Nat → Nat) (KH : Nat → Nat → Int32) (km : Nat) (sw : Int32) (tps : Int32) (rt : Nat) (pl : Nat) (P : Nat → Int32) (st : Int32) (my : Nat) (co : Nat) (C : Nat → Int32) (la : Nat) (lag : Nat) (lat : Nat) (LG : Nat → Int32) (LT : Nat → Int32) (po : Nat) (pog : Nat) (pot : Nat) (OG : Nat → Int32) (OT : Nat → Int32) (mo : Nat) (eo : Nat) (dg : Nat) (to : Nat) (er : Nat → Nat) (n : Nat) (E : Nat → Nat → Int32) (DG : Nat → Int32) (tr : Nat → Nat) (T : Nat → Nat → Int64) (sz : Nat) (hn : n ≤ 6) (hfast : fastB n E = true) : Met l yX4_weakest wsX4_weakest ({ frames := 5, cells := 0, slots := 0, locals := 113 }) (va_Pc [.ref tp] (PRE (dC, dI) (tyL cI cII cJ cJJ) (wTop tp ly lyg lyt LYG LYT tl tlg tlt TLG TLT ne neg net NEG NET su sug sut SUG SUT kp kr KH km sw tps rt pl P st my co C la lag lat LG LT po pog pot OG OT cJ cJJ cI cII mo eo dg to er n E DG tr T) sz)) (va_Qi (fun (r' : Int32) (_ : Unit) => r' = weakF n E DG C LG) (fun _ tS => ATW (dC, dI) (tyL cI cII cJ cJJ) (va_A (wTop tp ly lyg lyt LYG LYT tl tlg tlt TLG TLT ne neg net NEG NET su sug sut SUG SUT kp kr KH km sw tps rt pl P st my co C la lag lat LG LT po pog pot OG OT cJ cJJ cI cII mo eo dg to er n E DG tr T) sz) (wTop tp ly lyg lyt LYG LYT tl tlg tlt TLG TLT ne neg net NEG NET su sug sut SUG SUT kp kr KH km sw tps rt pl P st my co C la lag lat ((findF n E DG C LG).1) ((findF n E DG C LG).2) po pog pot ((poorX n E DG C LG OG OT).1) ((poorX n E DG C LG OG OT).2) cJ cJJ cI cII mo eo dg to er n E DG tr T) tS) (va_A (wTop tp ly lyg lyt LYG LYT tl tlg tlt TLG TLT ne neg net NEG NET su sug sut SUG SUT kp kr KH km sw tps rt pl P st my co C la lag lat LG LT po pog pot OG OT cJ cJJ cI cII mo eo dg to er n E DG tr T) sz)) 0 0 (va_A (wTop tp ly lyg lyt LYG LYT tl tlg tlt TLG TLT ne neg net NEG NET su sug sut SUG SUT kp kr KH km sw tps rt pl P st my co C la lag lat LG LT po pog pot OG OT cJ cJJ cI cII mo eo dg to er n E DG tr T) sz) := by
  refine Met.ofW (cc := cX4_weakest) (maxL := 1) (ret := (some .int)) (by decide) rfl ?_
  intro p e s m args below meth c s₁ B hml hv
  obtain ⟨rfl, hsz, hP, hK, hD0⟩ := hv
  have hx := B.exec
  have hb := B.bytes
  have hr := B.returns
  have hlocks := B.notSynchronized
  have hts := atoms_spec (ws := wsX4_weakest) B.pre
  have hown : s.vm.findClass RX4 = some m.cls := findClass_of_methodNamed B.named
  subst hsz
  have hD := hD0.self (sz := s.heap.size)
  generalize hAe : va_A (wTop tp ly lyg lyt LYG LYT tl tlg tlt TLG TLT ne neg net NEG NET su sug sut SUG SUT kp kr KH km sw tps rt pl P st my co C la lag lat LG LT po pog pot OG OT cJ cJJ cI cII mo eo dg to er n E DG tr T) s.heap.size = A at hD ⊢
  have hA : ∀ q : Nat, s.heap.size ≤ q → A q := fun q h => by rw [← hAe]; exact Or.inr h
  have hS : va_S A s.heap s.heap [] := va_S.rf
  have hl := lv_entry ([.ref tp]) (n := 1) (Nat.le_of_ble_eq_true rfl)
  rw [lg_entry_eq]
  generalize (lg_sl ([.ref tp]) ++ List.replicate (1 - (lg_sl ([.ref tp])).length) Slot.unset).toArray = ls at hl ⊢
  have hl : lv_has ls 1 [(0, .ref tp)] := hl
  have hi_X4 : ∀ w ∈ u_ws RX4 TX4 11, w ∈ wsX4_weakest := by decide +kernel
  have hf_44 := hts (.fieldLink RX4 44 "Topplemoor" "money" "LTopplemoor$Money;") (by decide +kernel)
  refine lv_aload_n hx hb dX4_weakest_0 rfl (lv_at hl 0 rfl) ?_
  refine kt_callv (w' := wTop tp ly lyg lyt LYG LYT tl tlg tlt TLG TLT ne neg net NEG NET su sug sut SUG SUT kp kr KH km sw tps rt pl P st my co C la lag lat LG LT po pog pot OG OT cJ cJJ cI cII mo eo dg to er n E DG tr T) (rest := []) (As := []) ⟨hx, hb, hml, hown, hts⟩ (c_X4_requireFast l dC dI cI cII cJ cJJ tp ly lyg lyt LYG LYT tl tlg tlt TLG TLT ne neg net NEG NET su sug sut SUG SUT kp kr KH km sw tps rt pl P st my co C la lag lat LG LT po pog pot OG OT mo eo dg to er n E DG tr T _ (hn) (hfast)) (cwV 0 hts gX4_weakest_X4_requireFast rfl rfl rfl (by decide +kernel) ⟨Nat.le_of_ble_eq_true rfl, Nat.le_of_ble_eq_true rfl⟩) hK hP hD hS hA (List.range' 0 45) sw_wTop_wTop_0 rfl 0 kX4 rfl rfl rfl rfl rfl hl.1 (Nat.le_of_ble_eq_true rfl) dX4_weakest_1 ⟨Nat.zero_le _, Nat.zero_le _⟩ (fun H locs hP hD hS => ?_)
  refine lv_aload_n hx hb dX4_weakest_4 rfl (lv_at hl 0 rfl) ?_
  refine va_get (D := (dC, dI)) (ci := kX4) (v := .ref my) (C := RX4) (T := TX4) (N := 11) hx hb hts hi_X4 hown hK hP 0 rfl rfl 6 (by decide) hf_44 (fun _ h9 => h9) rfl dX4_weakest_5 ?_
  refine kt_calli (w' := wTop tp ly lyg lyt LYG LYT tl tlg tlt TLG TLT ne neg net NEG NET su sug sut SUG SUT kp kr KH km sw tps rt pl P st my co C la lag lat ((findF n E DG C LG).1) ((findF n E DG C LG).2) po pog pot ((poorX n E DG C LG OG OT).1) ((poorX n E DG C LG OG OT).2) cJ cJJ cI cII mo eo dg to er n E DG tr T) (rest := []) (As := []) ⟨hx, hb, hml, hown, hts⟩ (c_X1_weakestNode l dC dI cI cII cJ cJJ my co C la lag lat LG LT po pog pot OG OT mo eo dg to er n E DG _ (hn)) (cwV 0 hts gX4_weakest_X1_weakestNode rfl rfl rfl (by decide +kernel) ⟨Nat.le_of_ble_eq_true rfl, Nat.le_of_ble_eq_true rfl⟩) hK hP hD hS hA [20, 21, 22, 23, 24, 25, 26, 27, 28, 29, 30, 31, 32, 33, 34, 35, 36, 37] sw_wTop_wYM_0 rfl 20 kX1 rfl rfl rfl rfl rfl hl.1 (Nat.le_of_ble_eq_true rfl) dX4_weakest_8 ⟨Nat.zero_le _, Nat.zero_le _⟩ (fun H locs hP hD hS => ?_)
  exact kt_iret (W' := wTop tp ly lyg lyt LYG LYT tl tlg tlt TLG TLT ne neg net NEG NET su sug sut SUG SUT kp kr KH km sw tps rt pl P st my co C la lag lat ((findF n E DG C LG).1) ((findF n E DG C LG).2) po pog pot ((poorX n E DG C LG OG OT).1) ((poorX n E DG C LG OG OT).2) cJ cJJ cI cII mo eo dg to er n E DG tr T) hx hb hr hS hP hK hD (rfl) hlocks dX4_weakest_11
