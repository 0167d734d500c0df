/-! the methods that only throw: nothing is changed -/

set_option maxHeartbeats 4000000 in
set_option maxRecDepth 100000 in
theorem x_X4_requireHeap (l : Launch) (dC : Nat → ClassId) (dI : Nat → Nat → Nat) (cI cII cJ cJJ : ClassId) (tp : Nat) (ly : Nat) (lyg : Nat) (lyt : Nat) (LYG : Nat → Int32) (LYT : Nat → Int32) (tl : Nat) (tlg : Nat) (tlt : Nat) (TLG : Nat → Int32) (TLT : Nat → Int32) (ne : Nat) (neg : Nat) (net : Nat) (NEG : Nat → Int32) (NET : Nat → Int32) (su : Nat) (sug : Nat) (sut : Nat) (SUG : Nat → Int32) (SUT : Nat → Int32) (kp : Nat) (kr : Nat → Nat) (KH : Nat → Nat → Int32) (km : Nat) (sw : Int32) (tps : Int32) (rt : Nat) (pl : Nat) (P : Nat → Int32) (st : Int32) (my : Nat) (co : Nat) (C : Nat → Int32) (la : Nat) (lag : Nat) (lat : Nat) (LG : Nat → Int32) (LT : Nat → Int32) (po : Nat) (pog : Nat) (pot : Nat) (OG : Nat → Int32) (OT : Nat → Int32) (mo : Nat) (eo : Nat) (dg : Nat) (to : Nat) (er : Nat → Nat) (n : Nat) (E : Nat → Nat → Int32) (DG : Nat → Int32) (tr : Nat → Nat) (T : Nat → Nat → Int64) (hlt : l.stackTraces = false) (v : Int32) (sz : Nat) (hv9 : v < 0 ∨ nI km ≤ v) : vx_Met l yX4_requireHeap wsX4_requireHeap ({ frames := 6, cells := 1, slots := 6, locals := 82 }) (va_Pc [.ref tp, .int v] (PREE (dC, dI) (tyL cI cII cJ cJJ) (wTop tp ly lyg lyt LYG LYT tl tlg tlt TLG TLT ne neg net NEG NET su sug sut SUG SUT kp kr KH km sw tps rt pl P st my co C la lag lat LG LT po pog pot OG OT cJ cJJ cI cII mo eo dg to er n E DG tr T) sz)) (fun _ _ _ _ => False) (XT exI (dC, dI) (tyL cI cII cJ cJJ) (wTop tp ly lyg lyt LYG LYT tl tlg tlt TLG TLT ne neg net NEG NET su sug sut SUG SUT kp kr KH km sw tps rt pl P st my co C la lag lat LG LT po pog pot OG OT cJ cJJ cI cII mo eo dg to er n E DG tr T) (va_A (wTop tp ly lyg lyt LYG LYT tl tlg tlt TLG TLT ne neg net NEG NET su sug sut SUG SUT kp kr KH km sw tps rt pl P st my co C la lag lat LG LT po pog pot OG OT cJ cJJ cI cII mo eo dg to er n E DG tr T) sz)) 1 6 (va_A (wTop tp ly lyg lyt LYG LYT tl tlg tlt TLG TLT ne neg net NEG NET su sug sut SUG SUT kp kr KH km sw tps rt pl P st my co C la lag lat LG LT po pog pot OG OT cJ cJJ cI cII mo eo dg to er n E DG tr T) sz) := by
  refine vx_ofW (cc := cX4_requireHeap) (maxL := 2) (ret := none) (by decide) rfl ?_
  intro p e s m args below meth c s₁ B hml hex hv
  obtain ⟨rfl, ⟨hsz, hP, hK, hD0⟩, hE⟩ := hv
  have hx := B.exec
  have hb := B.bytes
  have hlocks := B.notSynchronized
  have hts := atoms_spec (ws := wsX4_requireHeap) B.pre
  have hown : s.vm.findClass RX4 = some m.cls := findClass_of_methodNamed B.named
  subst hsz
  have hD := hD0.self (sz := s.heap.size)
  generalize hAe : va_A (wTop tp ly lyg lyt LYG LYT tl tlg tlt TLG TLT ne neg net NEG NET su sug sut SUG SUT kp kr KH km sw tps rt pl P st my co C la lag lat LG LT po pog pot OG OT cJ cJJ cI cII mo eo dg to er n E DG tr T) s.heap.size = A at hD hE ⊢
  have hA : ∀ q : Nat, s.heap.size ≤ q → A q := fun q h => by rw [← hAe]; exact Or.inr h
  have hS : va_S A s.heap s.heap [] := va_S.rf
  have hl := lv_entry ([.ref tp, .int v]) (n := 2) (Nat.le_of_ble_eq_true rfl)
  rw [lg_entry_eq]
  generalize (lg_sl ([.ref tp, .int v]) ++ List.replicate (2 - (lg_sl ([.ref tp, .int v])).length) Slot.unset).toArray = ls at hl ⊢
  have hl : lv_has ls 2 [(0, .ref tp), (1, .int v)] := hl
  have hi_X4 : ∀ w ∈ u_ws RX4 TX4 11, w ∈ wsX4_requireHeap := by decide +kernel
  have hf_118 := hts (.fieldLink RX4 118 "Topplemoor" "keptMany" "I") (by decide +kernel)
  refine lv_iload_n hx hb dX4_requireHeap_0 rfl (lv_at hl 1 rfl) ?_
  refine lv_if_lt (tgt := 12) hx hb dX4_requireHeap_1 (by decide) (fun c1 => ?_) (fun c1 => ?_)
  · exact kt_throw exI 227 237 231 "no such heap" hx hb hlt hown (by decide) ex_ng_I ex_ot_I hts (by decide +kernel) (hE.castI) hE (by decide) hP hK hD hS (hl.1.trans hml.symm) dX4_requireHeap_12 dX4_requireHeap_15 dX4_requireHeap_16 dX4_requireHeap_18 dX4_requireHeap_21 (fun x h => (hex x h).elim) (by decide) (by decide) (by decide) (by decide) hlocks (by decide) (by decide)
  · refine lv_iload_n hx hb dX4_requireHeap_4 rfl (lv_at hl 1 rfl) ?_
    refine lv_aload_n hx hb dX4_requireHeap_5 rfl (lv_at hl 0 rfl) ?_
    refine va_get (D := (dC, dI)) (ci := kX4) (v := .int (nI km)) (C := RX4) (T := TX4) (N := 11) hx hb hts hi_X4 hown hK hP 0 rfl rfl 8 (by decide) hf_118 (fun _ h9 => h9) rfl dX4_requireHeap_6 ?_
    refine lv_icmp_lt (tgt := 22) hx hb dX4_requireHeap_9 (by decide) (fun c9 => ?_) (fun c9 => ?_)
    · rcases hv9 with h9 | h9
      · exact absurd h9 c1
      · exact absurd c9 (Int32.not_lt.mpr h9)
    · exact kt_throw exI 227 237 231 "no such heap" hx hb hlt hown (by decide) ex_ng_I ex_ot_I hts (by decide +kernel) (hE.castI) hE (by decide) hP hK hD hS (hl.1.trans hml.symm) dX4_requireHeap_12 dX4_requireHeap_15 dX4_requireHeap_16 dX4_requireHeap_18 dX4_requireHeap_21 (fun x h => (hex x h).elim) (by decide) (by decide) (by decide) (by decide) hlocks (by decide) (by decide)

set_option maxHeartbeats 4000000 in
set_option maxRecDepth 100000 in
theorem x_X4_requireSpot (l : Launch) (dC : Nat → ClassId) (dI : Nat → Nat → Nat) (cI cII cJ cJJ : ClassId) (tp : Nat) (ly : Nat) (lyg : Nat) (lyt : Nat) (LYG : Nat → Int32) (LYT : Nat → Int32) (tl : Nat) (tlg : Nat) (tlt : Nat) (TLG : Nat → Int32) (TLT : Nat → Int32) (ne : Nat) (neg : Nat) (net : Nat) (NEG : Nat → Int32) (NET : Nat → Int32) (su : Nat) (sug : Nat) (sut : Nat) (SUG : Nat → Int32) (SUT : Nat → Int32) (kp : Nat) (kr : Nat → Nat) (KH : Nat → Nat → Int32) (km : Nat) (sw : Int32) (tps : Int32) (rt : Nat) (pl : Nat) (P : Nat → Int32) (st : Int32) (my : Nat) (co : Nat) (C : Nat → Int32) (la : Nat) (lag : Nat) (lat : Nat) (LG : Nat → Int32) (LT : Nat → Int32) (po : Nat) (pog : Nat) (pot : Nat) (OG : Nat → Int32) (OT : Nat → Int32) (mo : Nat) (eo : Nat) (dg : Nat) (to : Nat) (er : Nat → Nat) (n : Nat) (E : Nat → Nat → Int32) (DG : Nat → Int32) (tr : Nat → Nat) (T : Nat → Nat → Int64) (hlt : l.stackTraces = false) (v : Int32) (sz : Nat) (hn : n ≤ 6) (hv9 : isSpotB n v = false) : vx_Met l yX4_requireSpot wsX4_requireSpot ({ frames := 6, cells := 1, slots := 6, locals := 82 }) (va_Pc [.ref tp, .int v] (PREE (dC, dI) (tyL cI cII cJ cJJ) (wTop tp ly lyg lyt LYG LYT tl tlg tlt TLG TLT ne neg net NEG NET su sug sut SUG SUT kp kr KH km sw tps rt pl P st my co C la lag lat LG LT po pog pot OG OT cJ cJJ cI cII mo eo dg to er n E DG tr T) sz)) (fun _ _ _ _ => False) (XT exI (dC, dI) (tyL cI cII cJ cJJ) (wTop tp ly lyg lyt LYG LYT tl tlg tlt TLG TLT ne neg net NEG NET su sug sut SUG SUT kp kr KH km sw tps rt pl P st my co C la lag lat LG LT po pog pot OG OT cJ cJJ cI cII mo eo dg to er n E DG tr T) (va_A (wTop tp ly lyg lyt LYG LYT tl tlg tlt TLG TLT ne neg net NEG NET su sug sut SUG SUT kp kr KH km sw tps rt pl P st my co C la lag lat LG LT po pog pot OG OT cJ cJJ cI cII mo eo dg to er n E DG tr T) sz)) 1 6 (va_A (wTop tp ly lyg lyt LYG LYT tl tlg tlt TLG TLT ne neg net NEG NET su sug sut SUG SUT kp kr KH km sw tps rt pl P st my co C la lag lat LG LT po pog pot OG OT cJ cJJ cI cII mo eo dg to er n E DG tr T) sz) := by
  refine vx_ofW (cc := cX4_requireSpot) (maxL := 2) (ret := none) (by decide) rfl ?_
  intro p e s m args below meth c s₁ B hml hex hv
  obtain ⟨rfl, ⟨hsz, hP, hK, hD0⟩, hE⟩ := hv
  have hx := B.exec
  have hb := B.bytes
  have hlocks := B.notSynchronized
  have hts := atoms_spec (ws := wsX4_requireSpot) B.pre
  have hown : s.vm.findClass RX4 = some m.cls := findClass_of_methodNamed B.named
  subst hsz
  have hD := hD0.self (sz := s.heap.size)
  generalize hAe : va_A (wTop tp ly lyg lyt LYG LYT tl tlg tlt TLG TLT ne neg net NEG NET su sug sut SUG SUT kp kr KH km sw tps rt pl P st my co C la lag lat LG LT po pog pot OG OT cJ cJJ cI cII mo eo dg to er n E DG tr T) s.heap.size = A at hD hE ⊢
  have hA : ∀ q : Nat, s.heap.size ≤ q → A q := fun q h => by rw [← hAe]; exact Or.inr h
  have hS : va_S A s.heap s.heap [] := va_S.rf
  have hl := lv_entry ([.ref tp, .int v]) (n := 2) (Nat.le_of_ble_eq_true rfl)
  rw [lg_entry_eq]
  generalize (lg_sl ([.ref tp, .int v]) ++ List.replicate (2 - (lg_sl ([.ref tp, .int v])).length) Slot.unset).toArray = ls at hl ⊢
  have hl : lv_has ls 2 [(0, .ref tp), (1, .int v)] := hl
  have hi_X4 : ∀ w ∈ u_ws RX4 TX4 11, w ∈ wsX4_requireSpot := by decide +kernel
  have hf_10 := hts (.fieldLink RX4 10 "Topplemoor" "moor" "LTopplemoor$Moor;") (by decide +kernel)
  refine lv_aload_n hx hb dX4_requireSpot_0 rfl (lv_at hl 0 rfl) ?_
  refine va_get (D := (dC, dI)) (ci := kX4) (v := .ref mo) (C := RX4) (T := TX4) (N := 11) hx hb hts hi_X4 hown hK hP 0 rfl rfl 0 (by decide) hf_10 (fun _ h9 => h9) rfl dX4_requireSpot_1 ?_
  refine lv_iload_n hx hb dX4_requireSpot_4 rfl (lv_at hl 1 rfl) ?_
  refine kt_calli (w' := wTop tp ly lyg lyt LYG LYT tl tlg tlt TLG TLT ne neg net NEG NET su sug sut SUG SUT kp kr KH km sw tps rt pl P st my co C la lag lat LG LT po pog pot OG OT cJ cJJ cI cII mo eo dg to er n E DG tr T) (rest := []) (As := [.int v]) ⟨hx, hb, hml, hown, hts⟩ (c_X2_isSpot l dC dI cI cII cJ cJJ mo eo dg to er n E DG v _ (hn)) (cwV 1 hts gX4_requireSpot_X2_isSpot rfl rfl rfl (by decide +kernel) ⟨Nat.le_of_ble_eq_true rfl, Nat.le_of_ble_eq_true rfl⟩) hK hP hD hS hA [28, 29, 30, 31, 32, 33, 34, 35, 36, 37] sw_wTop_wM_0 rfl 28 kX2 rfl rfl rfl rfl rfl hl.1 (Nat.le_of_ble_eq_true rfl) dX4_requireSpot_5 ⟨by decide, by decide⟩ (fun H locs hP hD hS => ?_)
  refine lv_if_ne (tgt := 21) hx hb dX4_requireSpot_8 (by decide) (fun c8 => ?_) (fun c8 => ?_)
  · exact absurd (show False by rw [hv9] at c8; exact absurd c8 (by decide)) id
  · exact kt_throw exI 227 229 231 "no such spot" hx hb hlt hown (by decide) ex_ng_I ex_ot_I hts (by decide +kernel) (hE.castI) hE (by decide) hP hK hD hS (hl.1.trans hml.symm) dX4_requireSpot_11 dX4_requireSpot_14 dX4_requireSpot_15 dX4_requireSpot_17 dX4_requireSpot_20 (fun x h => (hex x h).elim) (by decide) (by decide) (by decide) (by decide) hlocks (by decide) (by decide)

set_option maxHeartbeats 4000000 in
set_option maxRecDepth 100000 in
theorem x_X4_requireNode (l : Launch) (dC : Nat → ClassId) (dI : Nat → Nat → Nat) (cI cII cJ cJJ : ClassId) (tp : Nat) (ly : Nat) (lyg : Nat) (lyt : Nat) (LYG : Nat → Int32) (LYT : Nat → Int32) (tl : Nat) (tlg : Nat) (tlt : Nat) (TLG : Nat → Int32) (TLT : Nat → Int32) (ne : Nat) (neg : Nat) (net : Nat) (NEG : Nat → Int32) (NET : Nat → Int32) (su : Nat) (sug : Nat) (sut : Nat) (SUG : Nat → Int32) (SUT : Nat → Int32) (kp : Nat) (kr : Nat → Nat) (KH : Nat → Nat → Int32) (km : Nat) (sw : Int32) (tps : Int32) (rt : Nat) (pl : Nat) (P : Nat → Int32) (st : Int32) (my : Nat) (co : Nat) (C : Nat → Int32) (la : Nat) (lag : Nat) (lat : Nat) (LG : Nat → Int32) (LT : Nat → Int32) (po : Nat) (pog : Nat) (pot : Nat) (OG : Nat → Int32) (OT : Nat → Int32) (mo : Nat) (eo : Nat) (dg : Nat) (to : Nat) (er : Nat → Nat) (n : Nat) (E : Nat → Nat → Int32) (DG : Nat → Int32) (tr : Nat → Nat) (T : Nat → Nat → Int64) (hlt : l.stackTraces = false) (v : Int32) (sz : Nat) (hn : n ≤ 6) (hv9 : isNodeB n v = false) : vx_Met l yX4_requireNode wsX4_requireNode ({ frames := 6, cells := 1, slots := 6, locals := 82 }) (va_Pc [.ref tp, .int v] (PREE (dC, dI) (tyL cI cII cJ cJJ) (wTop tp ly lyg lyt LYG LYT tl tlg tlt TLG TLT ne neg net NEG NET su sug sut SUG SUT kp kr KH km sw tps rt pl P st my co C la lag lat LG LT po pog pot OG OT cJ cJJ cI cII mo eo dg to er n E DG tr T) sz)) (fun _ _ _ _ => False) (XT exI (dC, dI) (tyL cI cII cJ cJJ) (wTop tp ly lyg lyt LYG LYT tl tlg tlt TLG TLT ne neg net NEG NET su sug sut SUG SUT kp kr KH km sw tps rt pl P st my co C la lag lat LG LT po pog pot OG OT cJ cJJ cI cII mo eo dg to er n E DG tr T) (va_A (wTop tp ly lyg lyt LYG LYT tl tlg tlt TLG TLT ne neg net NEG NET su sug sut SUG SUT kp kr KH km sw tps rt pl P st my co C la lag lat LG LT po pog pot OG OT cJ cJJ cI cII mo eo dg to er n E DG tr T) sz)) 1 6 (va_A (wTop tp ly lyg lyt LYG LYT tl tlg tlt TLG TLT ne neg net NEG NET su sug sut SUG SUT kp kr KH km sw tps rt pl P st my co C la lag lat LG LT po pog pot OG OT cJ cJJ cI cII mo eo dg to er n E DG tr T) sz) := by
  refine vx_ofW (cc := cX4_requireNode) (maxL := 2) (ret := none) (by decide) rfl ?_
  intro p e s m args below meth c s₁ B hml hex hv
  obtain ⟨rfl, ⟨hsz, hP, hK, hD0⟩, hE⟩ := hv
  have hx := B.exec
  have hb := B.bytes
  have hlocks := B.notSynchronized
  have hts := atoms_spec (ws := wsX4_requireNode) B.pre
  have hown : s.vm.findClass RX4 = some m.cls := findClass_of_methodNamed B.named
  subst hsz
  have hD := hD0.self (sz := s.heap.size)
  generalize hAe : va_A (wTop tp ly lyg lyt LYG LYT tl tlg tlt TLG TLT ne neg net NEG NET su sug sut SUG SUT kp kr KH km sw tps rt pl P st my co C la lag lat LG LT po pog pot OG OT cJ cJJ cI cII mo eo dg to er n E DG tr T) s.heap.size = A at hD hE ⊢
  have hA : ∀ q : Nat, s.heap.size ≤ q → A q := fun q h => by rw [← hAe]; exact Or.inr h
  have hS : va_S A s.heap s.heap [] := va_S.rf
  have hl := lv_entry ([.ref tp, .int v]) (n := 2) (Nat.le_of_ble_eq_true rfl)
  rw [lg_entry_eq]
  generalize (lg_sl ([.ref tp, .int v]) ++ List.replicate (2 - (lg_sl ([.ref tp, .int v])).length) Slot.unset).toArray = ls at hl ⊢
  have hl : lv_has ls 2 [(0, .ref tp), (1, .int v)] := hl
  have hi_X4 : ∀ w ∈ u_ws RX4 TX4 11, w ∈ wsX4_requireNode := by decide +kernel
  have hf_10 := hts (.fieldLink RX4 10 "Topplemoor" "moor" "LTopplemoor$Moor;") (by decide +kernel)
  refine lv_aload_n hx hb dX4_requireNode_0 rfl (lv_at hl 0 rfl) ?_
  refine va_get (D := (dC, dI)) (ci := kX4) (v := .ref mo) (C := RX4) (T := TX4) (N := 11) hx hb hts hi_X4 hown hK hP 0 rfl rfl 0 (by decide) hf_10 (fun _ h9 => h9) rfl dX4_requireNode_1 ?_
  refine lv_iload_n hx hb dX4_requireNode_4 rfl (lv_at hl 1 rfl) ?_
  refine kt_calli (w' := wTop tp ly lyg lyt LYG LYT tl tlg tlt TLG TLT ne neg net NEG NET su sug sut SUG SUT kp kr KH km sw tps rt pl P st my co C la lag lat LG LT po pog pot OG OT cJ cJJ cI cII mo eo dg to er n E DG tr T) (rest := []) (As := [.int v]) ⟨hx, hb, hml, hown, hts⟩ (c_X2_isNode l dC dI cI cII cJ cJJ mo eo dg to er n E DG v _ (hn)) (cwV 1 hts gX4_requireNode_X2_isNode rfl rfl rfl (by decide +kernel) ⟨Nat.le_of_ble_eq_true rfl, Nat.le_of_ble_eq_true rfl⟩) hK hP hD hS hA [28, 29, 30, 31, 32, 33, 34, 35, 36, 37] sw_wTop_wM_0 rfl 28 kX2 rfl rfl rfl rfl rfl hl.1 (Nat.le_of_ble_eq_true rfl) dX4_requireNode_5 ⟨by decide, by decide⟩ (fun H locs hP hD hS => ?_)
  refine lv_if_ne (tgt := 21) hx hb dX4_requireNode_8 (by decide) (fun c8 => ?_) (fun c8 => ?_)
  · exact absurd (show False by rw [hv9] at c8; exact absurd c8 (by decide)) id
  · exact kt_throw exI 227 235 231 "no such spot, and not the sink" hx hb hlt hown (by decide) ex_ng_I ex_ot_I hts (by decide +kernel) (hE.castI) hE (by decide) hP hK hD hS (hl.1.trans hml.symm) dX4_requireNode_11 dX4_requireNode_14 dX4_requireNode_15 dX4_requireNode_17 dX4_requireNode_20 (fun x h => (hex x h).elim) (by decide) (by decide) (by decide) (by decide) hlocks (by decide) (by decide)

set_option maxHeartbeats 4000000 in
set_option maxRecDepth 100000 in
theorem x_X4_requireFast (l : Launch) (dC : Nat → ClassId) (dI : Nat → Nat → Nat) (cI cII cJ cJJ : ClassId) (tp : Nat) (ly : Nat) (lyg : Nat) (lyt : Nat) (LYG : Nat → Int32) (LYT : Nat → Int32) (tl : Nat) (tlg : Nat) (tlt : Nat) (TLG : Nat → Int32) (TLT : Nat → Int32) (ne : Nat) (neg : Nat) (net : Nat) (NEG : Nat → Int32) (NET : Nat → Int32) (su : Nat) (sug : Nat) (sut : Nat) (SUG : Nat → Int32) (SUT : Nat → Int32) (kp : Nat) (kr : Nat → Nat) (KH : Nat → Nat → Int32) (km : Nat) (sw : Int32) (tps : Int32) (rt : Nat) (pl : Nat) (P : Nat → Int32) (st : Int32) (my : Nat) (co : Nat) (C : Nat → Int32) (la : Nat) (lag : Nat) (lat : Nat) (LG : Nat → Int32) (LT : Nat → Int32) (po : Nat) (pog : Nat) (pot : Nat) (OG : Nat → Int32) (OT : Nat → Int32) (mo : Nat) (eo : Nat) (dg : Nat) (to : Nat) (er : Nat → Nat) (n : Nat) (E : Nat → Nat → Int32) (DG : Nat → Int32) (tr : Nat → Nat) (T : Nat → Nat → Int64) (hlt : l.stackTraces = false)  (sz : Nat) (hn : n ≤ 6) (hfast : fastB n E = false) : vx_Met l yX4_requireFast wsX4_requireFast ({ frames := 6, cells := 1, slots := 6, locals := 82 }) (va_Pc [.ref tp] (PREE (dC, dI) (tyL cI cII cJ cJJ) (wTop tp ly lyg lyt LYG LYT tl tlg tlt TLG TLT ne neg net NEG NET su sug sut SUG SUT kp kr KH km sw tps rt pl P st my co C la lag lat LG LT po pog pot OG OT cJ cJJ cI cII mo eo dg to er n E DG tr T) sz)) (fun _ _ _ _ => False) (XT exS (dC, dI) (tyL cI cII cJ cJJ) (wTop tp ly lyg lyt LYG LYT tl tlg tlt TLG TLT ne neg net NEG NET su sug sut SUG SUT kp kr KH km sw tps rt pl P st my co C la lag lat LG LT po pog pot OG OT cJ cJJ cI cII mo eo dg to er n E DG tr T) (va_A (wTop tp ly lyg lyt LYG LYT tl tlg tlt TLG TLT ne neg net NEG NET su sug sut SUG SUT kp kr KH km sw tps rt pl P st my co C la lag lat LG LT po pog pot OG OT cJ cJJ cI cII mo eo dg to er n E DG tr T) sz)) 1 6 (va_A (wTop tp ly lyg lyt LYG LYT tl tlg tlt TLG TLT ne neg net NEG NET su sug sut SUG SUT kp kr KH km sw tps rt pl P st my co C la lag lat LG LT po pog pot OG OT cJ cJJ cI cII mo eo dg to er n E DG tr T) sz) := by
  refine vx_ofW (cc := cX4_requireFast) (maxL := 1) (ret := none) (by decide) rfl ?_
  intro p e s m args below meth c s₁ B hml hex hv
  obtain ⟨rfl, ⟨hsz, hP, hK, hD0⟩, hE⟩ := hv
  have hx := B.exec
  have hb := B.bytes
  have hlocks := B.notSynchronized
  have hts := atoms_spec (ws := wsX4_requireFast) B.pre
  have hown : s.vm.findClass RX4 = some m.cls := findClass_of_methodNamed B.named
  subst hsz
  have hD := hD0.self (sz := s.heap.size)
  generalize hAe : va_A (wTop tp ly lyg lyt LYG LYT tl tlg tlt TLG TLT ne neg net NEG NET su sug sut SUG SUT kp kr KH km sw tps rt pl P st my co C la lag lat LG LT po pog pot OG OT cJ cJJ cI cII mo eo dg to er n E DG tr T) s.heap.size = A at hD hE ⊢
  have hA : ∀ q : Nat, s.heap.size ≤ q → A q := fun q h => by rw [← hAe]; exact Or.inr h
  have hS : va_S A s.heap s.heap [] := va_S.rf
  have hl := lv_entry ([.ref tp]) (n := 1) (Nat.le_of_ble_eq_true rfl)
  rw [lg_entry_eq]
  generalize (lg_sl ([.ref tp]) ++ List.replicate (1 - (lg_sl ([.ref tp])).length) Slot.unset).toArray = ls at hl ⊢
  have hl : lv_has ls 1 [(0, .ref tp)] := hl
  have hi_X4 : ∀ w ∈ u_ws RX4 TX4 11, w ∈ wsX4_requireFast := by decide +kernel
  have hf_10 := hts (.fieldLink RX4 10 "Topplemoor" "moor" "LTopplemoor$Moor;") (by decide +kernel)
  refine lv_aload_n hx hb dX4_requireFast_0 rfl (lv_at hl 0 rfl) ?_
  refine va_get (D := (dC, dI)) (ci := kX4) (v := .ref mo) (C := RX4) (T := TX4) (N := 11) hx hb hts hi_X4 hown hK hP 0 rfl rfl 0 (by decide) hf_10 (fun _ h9 => h9) rfl dX4_requireFast_1 ?_
  refine kt_calli (w' := wTop tp ly lyg lyt LYG LYT tl tlg tlt TLG TLT ne neg net NEG NET su sug sut SUG SUT kp kr KH km sw tps rt pl P st my co C la lag lat LG LT po pog pot OG OT cJ cJJ cI cII mo eo dg to er n E DG tr T) (rest := []) (As := []) ⟨hx, hb, hml, hown, hts⟩ (c_X2_isFast l dC dI cI cII cJ cJJ mo eo dg to er n E DG _ (hn)) (cwV 0 hts gX4_requireFast_X2_isFast rfl rfl rfl (by decide +kernel) ⟨Nat.le_of_ble_eq_true rfl, Nat.le_of_ble_eq_true rfl⟩) hK hP hD hS hA [28, 29, 30, 31, 32, 33, 34, 35, 36, 37] sw_wTop_wM_0 rfl 28 kX2 rfl rfl rfl rfl rfl hl.1 (Nat.le_of_ble_eq_true rfl) dX4_requireFast_4 ⟨by decide, by decide⟩ (fun H locs hP hD hS => ?_)
  refine lv_if_ne (tgt := 20) hx hb dX4_requireFast_7 (by decide) (fun c7 => ?_) (fun c7 => ?_)
  · exact absurd (show False by rw [hfast] at c7; exact absurd c7 (by decide)) id
  · exact kt_throw exS 57 239 61 "the moor is not fast" hx hb hlt hown (by decide) ex_ng_S ex_ot_S hts (by decide +kernel) (hE.castS) hE (by decide) hP hK hD hS (hl.1.trans hml.symm) dX4_requireFast_10 dX4_requireFast_13 dX4_requireFast_14 dX4_requireFast_16 dX4_requireFast_19 (fun x h => (hex x h).elim) (by decide) (by decide) (by decide) (by decide) hlocks (by decide) (by decide)

set_option maxHeartbeats 4000000 in
set_option maxRecDepth 100000 in
theorem x_X4_requireWithin (l : Launch) (dC : Nat → ClassId) (dI : Nat → Nat → Nat) (cI cII cJ cJJ : ClassId) (hlt : l.stackTraces = false) (v lo hi : Int32) (sz : Nat) (hv9 : v < lo ∨ ¬ v ≤ hi) : vx_Met l yX4_requireWithin wsX4_requireWithin ({ frames := 6, cells := 1, slots := 6, locals := 82 }) (va_Pc [.int v, .int lo, .int hi] (PREE (dC, dI) (tyL cI cII cJ cJJ) (wE ) sz)) (fun _ _ _ _ => False) (XT exA (dC, dI) (tyL cI cII cJ cJJ) (wE ) (va_A (wE ) sz)) 1 6 (va_A (wE ) sz) := by
  refine vx_ofW (cc := cX4_requireWithin) (maxL := 3) (ret := none) (by decide) rfl ?_
  intro p e s m args below meth c s₁ B hml hex hv
  obtain ⟨rfl, ⟨hsz, hP, hK, hD0⟩, hE⟩ := hv
  have hx := B.exec
  have hb := B.bytes
  have hlocks := B.notSynchronized
  have hts := atoms_spec (ws := wsX4_requireWithin) B.pre
  have hown : s.vm.findClass RX4 = some m.cls := findClass_of_methodNamed B.named
  subst hsz
  have hD := hD0.self (sz := s.heap.size)
  generalize hAe : va_A (wE ) s.heap.size = A at hD hE ⊢
  have hA : ∀ q : Nat, s.heap.size ≤ q → A q := fun q h => by rw [← hAe]; exact Or.inr h
  have hS : va_S A s.heap s.heap [] := va_S.rf
  have hl := lv_entry ([.int v, .int lo, .int hi]) (n := 3) (Nat.le_of_ble_eq_true rfl)
  rw [lg_entry_eq]
  generalize (lg_sl ([.int v, .int lo, .int hi]) ++ List.replicate (3 - (lg_sl ([.int v, .int lo, .int hi])).length) Slot.unset).toArray = ls at hl ⊢
  have hl : lv_has ls 3 [(0, .int v), (1, .int lo), (2, .int hi)] := hl
  refine lv_iload_n hx hb dX4_requireWithin_0 rfl (lv_at hl 0 rfl) ?_
  refine lv_iload_n hx hb dX4_requireWithin_1 rfl (lv_at hl 1 rfl) ?_
  refine lv_icmp_lt (tgt := 10) hx hb dX4_requireWithin_2 (by decide) (fun c2 => ?_) (fun c2 => ?_)
  · exact kt_throw exA 68 241 72 "not within its bounds" hx hb hlt hown (by decide) ex_ng_A ex_ot_A hts (by decide +kernel) (hE.castA) hE (by decide) hP hK hD hS (hl.1.trans hml.symm) dX4_requireWithin_10 dX4_requireWithin_13 dX4_requireWithin_14 dX4_requireWithin_16 dX4_requireWithin_19 (fun x h => (hex x h).elim) (by decide) (by decide) (by decide) (by decide) hlocks (by decide) (by decide)
  · refine lv_iload_n hx hb dX4_requireWithin_5 rfl (lv_at hl 0 rfl) ?_
    refine lv_iload_n hx hb dX4_requireWithin_6 rfl (lv_at hl 2 rfl) ?_
    refine lv_icmp_le (tgt := 20) hx hb dX4_requireWithin_7 (by decide) (fun c7 => ?_) (fun c7 => ?_)
    · exact absurd c7 (hv9.resolve_left c2)
    · exact kt_throw exA 68 241 72 "not within its bounds" hx hb hlt hown (by decide) ex_ng_A ex_ot_A hts (by decide +kernel) (hE.castA) hE (by decide) hP hK hD hS (hl.1.trans hml.symm) dX4_requireWithin_10 dX4_requireWithin_13 dX4_requireWithin_14 dX4_requireWithin_16 dX4_requireWithin_19 (fun x h => (hex x h).elim) (by decide) (by decide) (by decide) (by decide) hlocks (by decide) (by decide)

set_option maxHeartbeats 4000000 in
set_option maxRecDepth 100000 in
theorem x_X4_drop_spot (l : Launch) (dC : Nat → ClassId) (dI : Nat → Nat → Nat) (cI cII cJ cJJ : ClassId) (tp : Nat) (ly : Nat) (lyg : Nat) (lyt : Nat) (LYG : Nat → Int32) (LYT : Nat → Int32) (tl : Nat) (tlg : Nat) (tlt : Nat) (TLG : Nat → Int32) (TLT : Nat → Int32) (ne : Nat) (neg : Nat) (net : Nat) (NEG : Nat → Int32) (NET : Nat → Int32) (su : Nat) (sug : Nat) (sut : Nat) (SUG : Nat → Int32) (SUT : Nat → Int32) (kp : Nat) (kr : Nat → Nat) (KH : Nat → Nat → Int32) (km : Nat) (sw : Int32) (tps : Int32) (rt : Nat) (pl : Nat) (P : Nat → Int32) (st : Int32) (my : Nat) (co : Nat) (C : Nat → Int32) (la : Nat) (lag : Nat) (lat : Nat) (LG : Nat → Int32) (LT : Nat → Int32) (po : Nat) (pog : Nat) (pot : Nat) (OG : Nat → Int32) (OT : Nat → Int32) (mo : Nat) (eo : Nat) (dg : Nat) (to : Nat) (er : Nat → Nat) (n : Nat) (E : Nat → Nat → Int32) (DG : Nat → Int32) (tr : Nat → Nat) (T : Nat → Nat → Int64) (hlt : l.stackTraces = false) (v q : Int32) (sz : Nat) (hn : n ≤ 6) (hv9 : isSpotB n v = false) : vx_Met l yX4_drop wsX4_drop ({ frames := 8, cells := 1, slots := 6, locals := 110 }) (va_Pc [.ref tp, .int v, .int q] (PREE (dC, dI) (tyL cI cII cJ cJJ) (wTop tp ly lyg lyt LYG LYT tl tlg tlt TLG TLT ne neg net NEG NET su sug sut SUG SUT kp kr KH km sw tps rt pl P st my co C la lag lat LG LT po pog pot OG OT cJ cJJ cI cII mo eo dg to er n E DG tr T) sz)) (fun _ _ _ _ => False) (XT exI (dC, dI) (tyL cI cII cJ cJJ) (wTop tp ly lyg lyt LYG LYT tl tlg tlt TLG TLT ne neg net NEG NET su sug sut SUG SUT kp kr KH km sw tps rt pl P st my co C la lag lat LG LT po pog pot OG OT cJ cJJ cI cII mo eo dg to er n E DG tr T) (va_A (wTop tp ly lyg lyt LYG LYT tl tlg tlt TLG TLT ne neg net NEG NET su sug sut SUG SUT kp kr KH km sw tps rt pl P st my co C la lag lat LG LT po pog pot OG OT cJ cJJ cI cII mo eo dg to er n E DG tr T) sz)) 1 6 (va_A (wTop tp ly lyg lyt LYG LYT tl tlg tlt TLG TLT ne neg net NEG NET su sug sut SUG SUT kp kr KH km sw tps rt pl P st my co C la lag lat LG LT po pog pot OG OT cJ cJJ cI cII mo eo dg to er n E DG tr T) sz) := by
  refine vx_ofW (cc := cX4_drop) (maxL := 3) (ret := (some .int)) (by decide) rfl ?_
  intro p e s m args below meth c s₁ B hml hex hv
  obtain ⟨rfl, ⟨hsz, hP, hK, hD0⟩, hE⟩ := hv
  have hx := B.exec
  have hb := B.bytes
  have hlocks := B.notSynchronized
  have hts := atoms_spec (ws := wsX4_drop) B.pre
  have hown : s.vm.findClass RX4 = some m.cls := findClass_of_methodNamed B.named
  subst hsz
  have hD := hD0.self (sz := s.heap.size)
  generalize hAe : va_A (wTop tp ly lyg lyt LYG LYT tl tlg tlt TLG TLT ne neg net NEG NET su sug sut SUG SUT kp kr KH km sw tps rt pl P st my co C la lag lat LG LT po pog pot OG OT cJ cJJ cI cII mo eo dg to er n E DG tr T) s.heap.size = A at hD hE ⊢
  have hA : ∀ q : Nat, s.heap.size ≤ q → A q := fun q h => by rw [← hAe]; exact Or.inr h
  have hS : va_S A s.heap s.heap [] := va_S.rf
  have hl := lv_entry ([.ref tp, .int v, .int q]) (n := 3) (Nat.le_of_ble_eq_true rfl)
  rw [lg_entry_eq]
  generalize (lg_sl ([.ref tp, .int v, .int q]) ++ List.replicate (3 - (lg_sl ([.ref tp, .int v, .int q])).length) Slot.unset).toArray = ls at hl ⊢
  have hl : lv_has ls 3 [(0, .ref tp), (1, .int v), (2, .int q)] := hl
  have hi_X4 : ∀ w ∈ u_ws RX4 TX4 11, w ∈ wsX4_drop := by decide +kernel
  have hf_21 := hts (.fieldLink RX4 21 "Topplemoor" "lying" "LTopplemoor$Heap;") (by decide +kernel)
  have hi_X0 : ∀ w ∈ u_ws RX0 TX0 3, w ∈ wsX4_drop := by decide +kernel
  have hf_89 := hts (.fieldLink RX4 89 "Topplemoor$Heap" "grains" "[I") (by decide +kernel)
  refine lv_aload_n hx hb dX4_drop_0 rfl (lv_at hl 0 rfl) ?_
  refine lv_iload_n hx hb dX4_drop_1 rfl (lv_at hl 1 rfl) ?_
  exact kt_xcallv (rest := []) (As := [.int v]) ⟨hx, hb, hml, hown, hts⟩ (x_X4_requireSpot l dC dI cI cII cJ cJJ tp ly lyg lyt LYG LYT tl tlg tlt TLG TLT ne neg net NEG NET su sug sut SUG SUT kp kr KH km sw tps rt pl P st my co C la lag lat LG LT po pog pot OG OT mo eo dg to er n E DG tr T hlt v _ hn hv9) (cwV 1 hts gX4_drop_X4_requireSpot rfl rfl rfl (by decide +kernel) ⟨Nat.le_of_ble_eq_true rfl, Nat.le_of_ble_eq_true rfl⟩) hK hP hD hS hA hE (List.range' 0 45) sw_wTop_wTop_0 rfl 0 kX4 rfl rfl rfl rfl rfl hl.1 (Nat.le_of_ble_eq_true rfl) dX4_drop_2 ⟨by decide, by decide⟩ hex hlocks (by decide) (by decide)

set_option maxHeartbeats 4000000 in
set_option maxRecDepth 100000 in
theorem x_X4_drop_within (l : Launch) (dC : Nat → ClassId) (dI : Nat → Nat → Nat) (cI cII cJ cJJ : ClassId) (tp : Nat) (ly : Nat) (lyg : Nat) (lyt : Nat) (LYG : Nat → Int32) (LYT : Nat → Int32) (tl : Nat) (tlg : Nat) (tlt : Nat) (TLG : Nat → Int32) (TLT : Nat → Int32) (ne : Nat) (neg : Nat) (net : Nat) (NEG : Nat → Int32) (NET : Nat → Int32) (su : Nat) (sug : Nat) (sut : Nat) (SUG : Nat → Int32) (SUT : Nat → Int32) (kp : Nat) (kr : Nat → Nat) (KH : Nat → Nat → Int32) (km : Nat) (sw : Int32) (tps : Int32) (rt : Nat) (pl : Nat) (P : Nat → Int32) (st : Int32) (my : Nat) (co : Nat) (C : Nat → Int32) (la : Nat) (lag : Nat) (lat : Nat) (LG : Nat → Int32) (LT : Nat → Int32) (po : Nat) (pog : Nat) (pot : Nat) (OG : Nat → Int32) (OT : Nat → Int32) (mo : Nat) (eo : Nat) (dg : Nat) (to : Nat) (er : Nat → Nat) (n : Nat) (E : Nat → Nat → Int32) (DG : Nat → Int32) (tr : Nat → Nat) (T : Nat → Nat → Int64) (hlt : l.stackTraces = false) (j : Nat) (q : Int32) (sz : Nat) (hn : n ≤ 6) (hj : j < n) (hv9 : q < 1 ∨ ¬ q ≤ 40) : vx_Met l yX4_drop wsX4_drop ({ frames := 8, cells := 1, slots := 6, locals := 110 }) (va_Pc [.ref tp, .int (nI j), .int q] (PREE (dC, dI) (tyL cI cII cJ cJJ) (wTop tp ly lyg lyt LYG LYT tl tlg tlt TLG TLT ne neg net NEG NET su sug sut SUG SUT kp kr KH km sw tps rt pl P st my co C la lag lat LG LT po pog pot OG OT cJ cJJ cI cII mo eo dg to er n E DG tr T) sz)) (fun _ _ _ _ => False) (XT exA (dC, dI) (tyL cI cII cJ cJJ) (wTop tp ly lyg lyt LYG LYT tl tlg tlt TLG TLT ne neg net NEG NET su sug sut SUG SUT kp kr KH km sw tps rt pl P st my co C la lag lat LG LT po pog pot OG OT cJ cJJ cI cII mo eo dg to er n E DG tr T) (va_A (wTop tp ly lyg lyt LYG LYT tl tlg tlt TLG TLT ne neg net NEG NET su sug sut SUG SUT kp kr KH km sw tps rt pl P st my co C la lag lat LG LT po pog pot OG OT cJ cJJ cI cII mo eo dg to er n E DG tr T) sz)) 1 6 (va_A (wTop tp ly lyg lyt LYG LYT tl tlg tlt TLG TLT ne neg net NEG NET su sug sut SUG SUT kp kr KH km sw tps rt pl P st my co C la lag lat LG LT po pog pot OG OT cJ cJJ cI cII mo eo dg to er n E DG tr T) sz) := by
  refine vx_ofW (cc := cX4_drop) (maxL := 3) (ret := (some .int)) (by decide) rfl ?_
  intro p e s m args below meth c s₁ B hml hex hv
  obtain ⟨rfl, ⟨hsz, hP, hK, hD0⟩, hE⟩ := hv
  have hx := B.exec
  have hb := B.bytes
  have hlocks := B.notSynchronized
  have hts := atoms_spec (ws := wsX4_drop) B.pre
  have hown : s.vm.findClass RX4 = some m.cls := findClass_of_methodNamed B.named
  subst hsz
  have hD := hD0.self (sz := s.heap.size)
  generalize hAe : va_A (wTop tp ly lyg lyt LYG LYT tl tlg tlt TLG TLT ne neg net NEG NET su sug sut SUG SUT kp kr KH km sw tps rt pl P st my co C la lag lat LG LT po pog pot OG OT cJ cJJ cI cII mo eo dg to er n E DG tr T) s.heap.size = A at hD hE ⊢
  have hA : ∀ q : Nat, s.heap.size ≤ q → A q := fun q h => by rw [← hAe]; exact Or.inr h
  have hS : va_S A s.heap s.heap [] := va_S.rf
  have hl := lv_entry ([.ref tp, .int (nI j), .int q]) (n := 3) (Nat.le_of_ble_eq_true rfl)
  rw [lg_entry_eq]
  generalize (lg_sl ([.ref tp, .int (nI j), .int q]) ++ List.replicate (3 - (lg_sl ([.ref tp, .int (nI j), .int q])).length) Slot.unset).toArray = ls at hl ⊢
  have hl : lv_has ls 3 [(0, .ref tp), (1, .int (nI j)), (2, .int q)] := hl
  have hi_X4 : ∀ w ∈ u_ws RX4 TX4 11, w ∈ wsX4_drop := by decide +kernel
  have hf_21 := hts (.fieldLink RX4 21 "Topplemoor" "lying" "LTopplemoor$Heap;") (by decide +kernel)
  have hi_X0 : ∀ w ∈ u_ws RX0 TX0 3, w ∈ wsX4_drop := by decide +kernel
  have hf_89 := hts (.fieldLink RX4 89 "Topplemoor$Heap" "grains" "[I") (by decide +kernel)
  refine lv_aload_n hx hb dX4_drop_0 rfl (lv_at hl 0 rfl) ?_
  refine lv_iload_n hx hb dX4_drop_1 rfl (lv_at hl 1 rfl) ?_
  refine kt_callv (w' := wTop tp ly lyg lyt LYG LYT tl tlg tlt TLG TLT ne neg net NEG NET su sug sut SUG SUT kp kr KH km sw tps rt pl P st my co C la lag lat LG LT po pog pot OG OT cJ cJJ cI cII mo eo dg to er n E DG tr T) (rest := []) (As := [.int (nI j)]) ⟨hx, hb, hml, hown, hts⟩ (c_X4_requireSpot l dC dI cI cII cJ cJJ tp ly lyg lyt LYG LYT tl tlg tlt TLG TLT ne neg net NEG NET su sug sut SUG SUT kp kr KH km sw tps rt pl P st my co C la lag lat LG LT po pog pot OG OT mo eo dg to er n E DG tr T j _ (hn) (hj)) (cwV 1 hts gX4_drop_X4_requireSpot rfl rfl rfl (by decide +kernel) ⟨Nat.le_of_ble_eq_true rfl, Nat.le_of_ble_eq_true rfl⟩) hK hP hD hS hA (List.range' 0 45) sw_wTop_wTop_0 rfl 0 kX4 rfl rfl rfl rfl rfl hl.1 (Nat.le_of_ble_eq_true rfl) dX4_drop_2 ⟨Nat.zero_le _, Nat.zero_le _⟩ (fun H locs hP hD hS => ?_)
  refine lv_iload_n hx hb dX4_drop_5 rfl (lv_at hl 2 rfl) ?_
  refine lv_iconst (v := 1) hx hb dX4_drop_6 (by decide) ?_
  refine lv_bipush (v := 40) hx hb dX4_drop_7 (by decide) ?_
  exact kt_xcallS (rest := []) (As := [.int q, .int 1, .int 40]) ⟨hx, hb, hml, hown, hts⟩ (x_X4_requireWithin l dC dI cI cII cJ cJJ hlt q 1 40 _ hv9) (va_cwS 3 hts gX4_drop_X4_requireWithin rfl rfl rfl (by decide +kernel) ⟨Nat.le_of_ble_eq_true rfl, Nat.le_of_ble_eq_true rfl⟩) hK hP hD hS hA hE [] sw_wTop_wE_0 rfl rfl rfl hl.1 (Nat.le_of_ble_eq_true rfl) dX4_drop_9 ⟨by decide, by decide⟩ hex hlocks (by decide) (by decide)

set_option maxHeartbeats 4000000 in
set_option maxRecDepth 100000 in
theorem x_X4_drop_many (l : Launch) (dC : Nat → ClassId) (dI : Nat → Nat → Nat) (cI cII cJ cJJ : ClassId) (tp : Nat) (ly : Nat) (lyg : Nat) (lyt : Nat) (LYG : Nat → Int32) (LYT : Nat → Int32) (tl : Nat) (tlg : Nat) (tlt : Nat) (TLG : Nat → Int32) (TLT : Nat → Int32) (ne : Nat) (neg : Nat) (net : Nat) (NEG : Nat → Int32) (NET : Nat → Int32) (su : Nat) (sug : Nat) (sut : Nat) (SUG : Nat → Int32) (SUT : Nat → Int32) (kp : Nat) (kr : Nat → Nat) (KH : Nat → Nat → Int32) (km : Nat) (sw : Int32) (tps : Int32) (rt : Nat) (pl : Nat) (P : Nat → Int32) (st : Int32) (my : Nat) (co : Nat) (C : Nat → Int32) (la : Nat) (lag : Nat) (lat : Nat) (LG : Nat → Int32) (LT : Nat → Int32) (po : Nat) (pog : Nat) (pot : Nat) (OG : Nat → Int32) (OT : Nat → Int32) (mo : Nat) (eo : Nat) (dg : Nat) (to : Nat) (er : Nat → Nat) (n : Nat) (E : Nat → Nat → Int32) (DG : Nat → Int32) (tr : Nat → Nat) (T : Nat → Nat → Int64) (hlt : l.stackTraces = false) (j : Nat) (q : Int32) (sz : Nat) (hn : n ≤ 6) (hj : j < n) (hq1 : ¬ q < 1) (hq40 : q ≤ 40) (h99 : ¬ LYG j + q ≤ 99) : vx_Met l yX4_drop wsX4_drop ({ frames := 8, cells := 1, slots := 6, locals := 110 }) (va_Pc [.ref tp, .int (nI j), .int q] (PREE (dC, dI) (tyL cI cII cJ cJJ) (wTop tp ly lyg lyt LYG LYT tl tlg tlt TLG TLT ne neg net NEG NET su sug sut SUG SUT kp kr KH km sw tps rt pl P st my co C la lag lat LG LT po pog pot OG OT cJ cJJ cI cII mo eo dg to er n E DG tr T) sz)) (fun _ _ _ _ => False) (XT exS (dC, dI) (tyL cI cII cJ cJJ) (wTop tp ly lyg lyt LYG LYT tl tlg tlt TLG TLT ne neg net NEG NET su sug sut SUG SUT kp kr KH km sw tps rt pl P st my co C la lag lat LG LT po pog pot OG OT cJ cJJ cI cII mo eo dg to er n E DG tr T) (va_A (wTop tp ly lyg lyt LYG LYT tl tlg tlt TLG TLT ne neg net NEG NET su sug sut SUG SUT kp kr KH km sw tps rt pl P st my co C la lag lat LG LT po pog pot OG OT cJ cJJ cI cII mo eo dg to er n E DG tr T) sz)) 1 6 (va_A (wTop tp ly lyg lyt LYG LYT tl tlg tlt TLG TLT ne neg net NEG NET su sug sut SUG SUT kp kr KH km sw tps rt pl P st my co C la lag lat LG LT po pog pot OG OT cJ cJJ cI cII mo eo dg to er n E DG tr T) sz) := by
  refine vx_ofW (cc := cX4_drop) (maxL := 3) (ret := (some .int)) (by decide) rfl ?_
  intro p e s m args below meth c s₁ B hml hex hv
  obtain ⟨rfl, ⟨hsz, hP, hK, hD0⟩, hE⟩ := hv
  have hx := B.exec
  have hb := B.bytes
  have hlocks := B.notSynchronized
  have hts := atoms_spec (ws := wsX4_drop) B.pre
  have hown : s.vm.findClass RX4 = some m.cls := findClass_of_methodNamed B.named
  subst hsz
  have hD := hD0.self (sz := s.heap.size)
  generalize hAe : va_A (wTop tp ly lyg lyt LYG LYT tl tlg tlt TLG TLT ne neg net NEG NET su sug sut SUG SUT kp kr KH km sw tps rt pl P st my co C la lag lat LG LT po pog pot OG OT cJ cJJ cI cII mo eo dg to er n E DG tr T) s.heap.size = A at hD hE ⊢
  have hA : ∀ q : Nat, s.heap.size ≤ q → A q := fun q h => by rw [← hAe]; exact Or.inr h
  have hS : va_S A s.heap s.heap [] := va_S.rf
  have hl := lv_entry ([.ref tp, .int (nI j), .int q]) (n := 3) (Nat.le_of_ble_eq_true rfl)
  rw [lg_entry_eq]
  generalize (lg_sl ([.ref tp, .int (nI j), .int q]) ++ List.replicate (3 - (lg_sl ([.ref tp, .int (nI j), .int q])).length) Slot.unset).toArray = ls at hl ⊢
  have hl : lv_has ls 3 [(0, .ref tp), (1, .int (nI j)), (2, .int q)] := hl
  have hi_X4 : ∀ w ∈ u_ws RX4 TX4 11, w ∈ wsX4_drop := by decide +kernel
  have hf_21 := hts (.fieldLink RX4 21 "Topplemoor" "lying" "LTopplemoor$Heap;") (by decide +kernel)
  have hi_X0 : ∀ w ∈ u_ws RX0 TX0 3, w ∈ wsX4_drop := by decide +kernel
  have hf_89 := hts (.fieldLink RX4 89 "Topplemoor$Heap" "grains" "[I") (by decide +kernel)
  refine lv_aload_n hx hb dX4_drop_0 rfl (lv_at hl 0 rfl) ?_
  refine lv_iload_n hx hb dX4_drop_1 rfl (lv_at hl 1 rfl) ?_
  refine kt_callv (w' := wTop tp ly lyg lyt LYG LYT tl tlg tlt TLG TLT ne neg net NEG NET su sug sut SUG SUT kp kr KH km sw tps rt pl P st my co C la lag lat LG LT po pog pot OG OT cJ cJJ cI cII mo eo dg to er n E DG tr T) (rest := []) (As := [.int (nI j)]) ⟨hx, hb, hml, hown, hts⟩ (c_X4_requireSpot l dC dI cI cII cJ cJJ tp ly lyg lyt LYG LYT tl tlg tlt TLG TLT ne neg net NEG NET su sug sut SUG SUT kp kr KH km sw tps rt pl P st my co C la lag lat LG LT po pog pot OG OT mo eo dg to er n E DG tr T j _ (hn) (hj)) (cwV 1 hts gX4_drop_X4_requireSpot rfl rfl rfl (by decide +kernel) ⟨Nat.le_of_ble_eq_true rfl, Nat.le_of_ble_eq_true rfl⟩) hK hP hD hS hA (List.range' 0 45) sw_wTop_wTop_0 rfl 0 kX4 rfl rfl rfl rfl rfl hl.1 (Nat.le_of_ble_eq_true rfl) dX4_drop_2 ⟨Nat.zero_le _, Nat.zero_le _⟩ (fun H locs hP hD hS => ?_)
  refine lv_iload_n hx hb dX4_drop_5 rfl (lv_at hl 2 rfl) ?_
  refine lv_iconst (v := 1) hx hb dX4_drop_6 (by decide) ?_
  refine lv_bipush (v := 40) hx hb dX4_drop_7 (by decide) ?_
  refine kt_callSv (w' := wTop tp ly lyg lyt LYG LYT tl tlg tlt TLG TLT ne neg net NEG NET su sug sut SUG SUT kp kr KH km sw tps rt pl P st my co C la lag lat LG LT po pog pot OG OT cJ cJJ cI cII mo eo dg to er n E DG tr T) (rest := []) (As := [.int q, .int 1, .int 40]) ⟨hx, hb, hml, hown, hts⟩ (c_X4_requireWithin l dC dI cI cII cJ cJJ q 1 40 _ (hq1) (hq40)) (va_cwS 3 hts gX4_drop_X4_requireWithin rfl rfl rfl (by decide +kernel) ⟨Nat.le_of_ble_eq_true rfl, Nat.le_of_ble_eq_true rfl⟩) hK hP hD hS hA [] sw_wTop_wE_0 rfl rfl rfl hl.1 (Nat.le_of_ble_eq_true rfl) dX4_drop_9 ⟨Nat.zero_le _, Nat.zero_le _⟩ (fun H locs hP hD hS => ?_)
  refine lv_aload_n hx hb dX4_drop_12 rfl (lv_at hl 0 rfl) ?_
  refine va_get (D := (dC, dI)) (ci := kX4) (v := .ref ly) (C := RX4) (T := TX4) (N := 11) hx hb hts hi_X4 hown hK hP 0 rfl rfl 1 (by decide) hf_21 (fun _ h9 => h9) rfl dX4_drop_13 ?_
  refine va_get (D := (dC, dI)) (ci := kX0) (v := .ref lyg) (C := RX0) (T := TX0) (N := 3) hx hb hts hi_X0 hown hK hP 1 rfl rfl 0 (by decide) hf_89 (fun _ h9 => h9) rfl dX4_drop_16 ?_
  refine lv_iload_n hx hb dX4_drop_19 rfl (lv_at hl 1 rfl) ?_
  refine kt_iald hx hb hK hP 2 0 rfl rfl (by omega) (by decide) dX4_drop_20 ?_
  refine lv_iload_n hx hb dX4_drop_21 rfl (lv_at hl 2 rfl) ?_
  refine lv_iadd hx hb dX4_drop_22 ?_
  refine lv_bipush (v := 99) hx hb dX4_drop_23 (by decide) ?_
  refine lv_icmp_le (tgt := 38) hx hb dX4_drop_25 (by decide) (fun c25 => ?_) (fun c25 => ?_)
  · exact absurd c25 h99
  · exact kt_throw exS 57 93 61 "more than 99 grains" hx hb hlt hown (by decide) ex_ng_S ex_ot_S hts (by decide +kernel) (hE.castS) hE (by decide) hP hK hD hS (hl.1.trans hml.symm) dX4_drop_28 dX4_drop_31 dX4_drop_32 dX4_drop_34 dX4_drop_37 (fun x h => (hex x h).elim) (by decide) (by decide) (by decide) (by decide) hlocks (by decide) (by decide)

set_option maxHeartbeats 4000000 in
set_option maxRecDepth 100000 in
theorem x_X4_topple_spot (l : Launch) (dC : Nat → ClassId) (dI : Nat → Nat → Nat) (cI cII cJ cJJ : ClassId) (tp : Nat) (ly : Nat) (lyg : Nat) (lyt : Nat) (LYG : Nat → Int32) (LYT : Nat → Int32) (tl : Nat) (tlg : Nat) (tlt : Nat) (TLG : Nat → Int32) (TLT : Nat → Int32) (ne : Nat) (neg : Nat) (net : Nat) (NEG : Nat → Int32) (NET : Nat → Int32) (su : Nat) (sug : Nat) (sut : Nat) (SUG : Nat → Int32) (SUT : Nat → Int32) (kp : Nat) (kr : Nat → Nat) (KH : Nat → Nat → Int32) (km : Nat) (sw : Int32) (tps : Int32) (rt : Nat) (pl : Nat) (P : Nat → Int32) (st : Int32) (my : Nat) (co : Nat) (C : Nat → Int32) (la : Nat) (lag : Nat) (lat : Nat) (LG : Nat → Int32) (LT : Nat → Int32) (po : Nat) (pog : Nat) (pot : Nat) (OG : Nat → Int32) (OT : Nat → Int32) (mo : Nat) (eo : Nat) (dg : Nat) (to : Nat) (er : Nat → Nat) (n : Nat) (E : Nat → Nat → Int32) (DG : Nat → Int32) (tr : Nat → Nat) (T : Nat → Nat → Int64) (hlt : l.stackTraces = false) (v : Int32) (sz : Nat) (hn : n ≤ 6) (hv9 : isSpotB n v = false) : vx_Met l yX4_topple wsX4_topple ({ frames := 8, cells := 1, slots := 6, locals := 110 }) (va_Pc [.ref tp, .int v] (PREE (dC, dI) (tyL cI cII cJ cJJ) (wTop tp ly lyg lyt LYG LYT tl tlg tlt TLG TLT ne neg net NEG NET su sug sut SUG SUT kp kr KH km sw tps rt pl P st my co C la lag lat LG LT po pog pot OG OT cJ cJJ cI cII mo eo dg to er n E DG tr T) sz)) (fun _ _ _ _ => False) (XT exI (dC, dI) (tyL cI cII cJ cJJ) (wTop tp ly lyg lyt LYG LYT tl tlg tlt TLG TLT ne neg net NEG NET su sug sut SUG SUT kp kr KH km sw tps rt pl P st my co C la lag lat LG LT po pog pot OG OT cJ cJJ cI cII mo eo dg to er n E DG tr T) (va_A (wTop tp ly lyg lyt LYG LYT tl tlg tlt TLG TLT ne neg net NEG NET su sug sut SUG SUT kp kr KH km sw tps rt pl P st my co C la lag lat LG LT po pog pot OG OT cJ cJJ cI cII mo eo dg to er n E DG tr T) sz)) 1 6 (va_A (wTop tp ly lyg lyt LYG LYT tl tlg tlt TLG TLT ne neg net NEG NET su sug sut SUG SUT kp kr KH km sw tps rt pl P st my co C la lag lat LG LT po pog pot OG OT cJ cJJ cI cII mo eo dg to er n E DG tr T) sz) := by
  refine vx_ofW (cc := cX4_topple) (maxL := 2) (ret := (some .int)) (by decide) rfl ?_
  intro p e s m args below meth c s₁ B hml hex hv
  obtain ⟨rfl, ⟨hsz, hP, hK, hD0⟩, hE⟩ := hv
  have hx := B.exec
  have hb := B.bytes
  have hlocks := B.notSynchronized
  have hts := atoms_spec (ws := wsX4_topple) B.pre
  have hown : s.vm.findClass RX4 = some m.cls := findClass_of_methodNamed B.named
  subst hsz
  have hD := hD0.self (sz := s.heap.size)
  generalize hAe : va_A (wTop tp ly lyg lyt LYG LYT tl tlg tlt TLG TLT ne neg net NEG NET su sug sut SUG SUT kp kr KH km sw tps rt pl P st my co C la lag lat LG LT po pog pot OG OT cJ cJJ cI cII mo eo dg to er n E DG tr T) s.heap.size = A at hD hE ⊢
  have hA : ∀ q : Nat, s.heap.size ≤ q → A q := fun q h => by rw [← hAe]; exact Or.inr h
  have hS : va_S A s.heap s.heap [] := va_S.rf
  have hl := lv_entry ([.ref tp, .int v]) (n := 2) (Nat.le_of_ble_eq_true rfl)
  rw [lg_entry_eq]
  generalize (lg_sl ([.ref tp, .int v]) ++ List.replicate (2 - (lg_sl ([.ref tp, .int v])).length) Slot.unset).toArray = ls at hl ⊢
  have hl : lv_has ls 2 [(0, .ref tp), (1, .int v)] := hl
  have hi_X4 : ∀ w ∈ u_ws RX4 TX4 11, w ∈ wsX4_topple := by decide +kernel
  have hf_21 := hts (.fieldLink RX4 21 "Topplemoor" "lying" "LTopplemoor$Heap;") (by decide +kernel)
  have hf_105 := hts (.fieldLink RX4 105 "Topplemoor" "topples" "I") (by decide +kernel)
  have hf_108 := hts (.fieldLink RX4 108 "Topplemoor" "swallowed" "I") (by decide +kernel)
  have hf_10 := hts (.fieldLink RX4 10 "Topplemoor" "moor" "LTopplemoor$Moor;") (by decide +kernel)
  have hi_X2 : ∀ w ∈ u_ws RX2 TX2 4, w ∈ wsX4_topple := by decide +kernel
  have hf_77 := hts (.fieldLink RX4 77 "Topplemoor$Moor" "edges" "[[I") (by decide +kernel)
  refine lv_aload_n hx hb dX4_topple_0 rfl (lv_at hl 0 rfl) ?_
  refine lv_iload_n hx hb dX4_topple_1 rfl (lv_at hl 1 rfl) ?_
  exact kt_xcallv (rest := []) (As := [.int v]) ⟨hx, hb, hml, hown, hts⟩ (x_X4_requireSpot l dC dI cI cII cJ cJJ tp ly lyg lyt LYG LYT tl tlg tlt TLG TLT ne neg net NEG NET su sug sut SUG SUT kp kr KH km sw tps rt pl P st my co C la lag lat LG LT po pog pot OG OT mo eo dg to er n E DG tr T hlt v _ hn hv9) (cwV 1 hts gX4_topple_X4_requireSpot rfl rfl rfl (by decide +kernel) ⟨Nat.le_of_ble_eq_true rfl, Nat.le_of_ble_eq_true rfl⟩) hK hP hD hS hA hE (List.range' 0 45) sw_wTop_wTop_0 rfl 0 kX4 rfl rfl rfl rfl rfl hl.1 (Nat.le_of_ble_eq_true rfl) dX4_topple_2 ⟨by decide, by decide⟩ hex hlocks (by decide) (by decide)

set_option maxHeartbeats 4000000 in
set_option maxRecDepth 100000 in
theorem x_X4_topple_steep (l : Launch) (dC : Nat → ClassId) (dI : Nat → Nat → Nat) (cI cII cJ cJJ : ClassId) (tp : Nat) (ly : Nat) (lyg : Nat) (lyt : Nat) (LYG : Nat → Int32) (LYT : Nat → Int32) (tl : Nat) (tlg : Nat) (tlt : Nat) (TLG : Nat → Int32) (TLT : Nat → Int32) (ne : Nat) (neg : Nat) (net : Nat) (NEG : Nat → Int32) (NET : Nat → Int32) (su : Nat) (sug : Nat) (sut : Nat) (SUG : Nat → Int32) (SUT : Nat → Int32) (kp : Nat) (kr : Nat → Nat) (KH : Nat → Nat → Int32) (km : Nat) (sw : Int32) (tps : Int32) (rt : Nat) (pl : Nat) (P : Nat → Int32) (st : Int32) (my : Nat) (co : Nat) (C : Nat → Int32) (la : Nat) (lag : Nat) (lat : Nat) (LG : Nat → Int32) (LT : Nat → Int32) (po : Nat) (pog : Nat) (pot : Nat) (OG : Nat → Int32) (OT : Nat → Int32) (mo : Nat) (eo : Nat) (dg : Nat) (to : Nat) (er : Nat → Nat) (n : Nat) (E : Nat → Nat → Int32) (DG : Nat → Int32) (tr : Nat → Nat) (T : Nat → Nat → Int64) (hlt : l.stackTraces = false) (j : Nat) (sz : Nat) (hn : n ≤ 6) (hj : j < n) (hst : steepB DG LYG j = false) : vx_Met l yX4_topple wsX4_topple ({ frames := 8, cells := 1, slots := 6, locals := 110 }) (va_Pc [.ref tp, .int (nI j)] (PREE (dC, dI) (tyL cI cII cJ cJJ) (wTop tp ly lyg lyt LYG LYT tl tlg tlt TLG TLT ne neg net NEG NET su sug sut SUG SUT kp kr KH km sw tps rt pl P st my co C la lag lat LG LT po pog pot OG OT cJ cJJ cI cII mo eo dg to er n E DG tr T) sz)) (fun _ _ _ _ => False) (XT exS (dC, dI) (tyL cI cII cJ cJJ) (wTop tp ly lyg lyt LYG LYT tl tlg tlt TLG TLT ne neg net NEG NET su sug sut SUG SUT kp kr KH km sw tps rt pl P st my co C la lag lat LG LT po pog pot OG OT cJ cJJ cI cII mo eo dg to er n E DG tr T) (va_A (wTop tp ly lyg lyt LYG LYT tl tlg tlt TLG TLT ne neg net NEG NET su sug sut SUG SUT kp kr KH km sw tps rt pl P st my co C la lag lat LG LT po pog pot OG OT cJ cJJ cI cII mo eo dg to er n E DG tr T) sz)) 1 6 (va_A (wTop tp ly lyg lyt LYG LYT tl tlg tlt TLG TLT ne neg net NEG NET su sug sut SUG SUT kp kr KH km sw tps rt pl P st my co C la lag lat LG LT po pog pot OG OT cJ cJJ cI cII mo eo dg to er n E DG tr T) sz) := by
  refine vx_ofW (cc := cX4_topple) (maxL := 2) (ret := (some .int)) (by decide) rfl ?_
  intro p e s m args below meth c s₁ B hml hex hv
  obtain ⟨rfl, ⟨hsz, hP, hK, hD0⟩, hE⟩ := hv
  have hx := B.exec
  have hb := B.bytes
  have hlocks := B.notSynchronized
  have hts := atoms_spec (ws := wsX4_topple) B.pre
  have hown : s.vm.findClass RX4 = some m.cls := findClass_of_methodNamed B.named
  subst hsz
  have hD := hD0.self (sz := s.heap.size)
  generalize hAe : va_A (wTop tp ly lyg lyt LYG LYT tl tlg tlt TLG TLT ne neg net NEG NET su sug sut SUG SUT kp kr KH km sw tps rt pl P st my co C la lag lat LG LT po pog pot OG OT cJ cJJ cI cII mo eo dg to er n E DG tr T) s.heap.size = A at hD hE ⊢
  have hA : ∀ q : Nat, s.heap.size ≤ q → A q := fun q h => by rw [← hAe]; exact Or.inr h
  have hS : va_S A s.heap s.heap [] := va_S.rf
  have hl := lv_entry ([.ref tp, .int (nI j)]) (n := 2) (Nat.le_of_ble_eq_true rfl)
  rw [lg_entry_eq]
  generalize (lg_sl ([.ref tp, .int (nI j)]) ++ List.replicate (2 - (lg_sl ([.ref tp, .int (nI j)])).length) Slot.unset).toArray = ls at hl ⊢
  have hl : lv_has ls 2 [(0, .ref tp), (1, .int (nI j))] := hl
  have hi_X4 : ∀ w ∈ u_ws RX4 TX4 11, w ∈ wsX4_topple := by decide +kernel
  have hf_21 := hts (.fieldLink RX4 21 "Topplemoor" "lying" "LTopplemoor$Heap;") (by decide +kernel)
  have hf_105 := hts (.fieldLink RX4 105 "Topplemoor" "topples" "I") (by decide +kernel)
  have hf_108 := hts (.fieldLink RX4 108 "Topplemoor" "swallowed" "I") (by decide +kernel)
  have hf_10 := hts (.fieldLink RX4 10 "Topplemoor" "moor" "LTopplemoor$Moor;") (by decide +kernel)
  have hi_X2 : ∀ w ∈ u_ws RX2 TX2 4, w ∈ wsX4_topple := by decide +kernel
  have hf_77 := hts (.fieldLink RX4 77 "Topplemoor$Moor" "edges" "[[I") (by decide +kernel)
  refine lv_aload_n hx hb dX4_topple_0 rfl (lv_at hl 0 rfl) ?_
  refine lv_iload_n hx hb dX4_topple_1 rfl (lv_at hl 1 rfl) ?_
  refine kt_callv (w' := wTop tp ly lyg lyt LYG LYT tl tlg tlt TLG TLT ne neg net NEG NET su sug sut SUG SUT kp kr KH km sw tps rt pl P st my co C la lag lat LG LT po pog pot OG OT cJ cJJ cI cII mo eo dg to er n E DG tr T) (rest := []) (As := [.int (nI j)]) ⟨hx, hb, hml, hown, hts⟩ (c_X4_requireSpot l dC dI cI cII cJ cJJ tp ly lyg lyt LYG LYT tl tlg tlt TLG TLT ne neg net NEG NET su sug sut SUG SUT kp kr KH km sw tps rt pl P st my co C la lag lat LG LT po pog pot OG OT mo eo dg to er n E DG tr T j _ (hn) (hj)) (cwV 1 hts gX4_topple_X4_requireSpot rfl rfl rfl (by decide +kernel) ⟨Nat.le_of_ble_eq_true rfl, Nat.le_of_ble_eq_true rfl⟩) hK hP hD hS hA (List.range' 0 45) sw_wTop_wTop_0 rfl 0 kX4 rfl rfl rfl rfl rfl hl.1 (Nat.le_of_ble_eq_true rfl) dX4_topple_2 ⟨Nat.zero_le _, Nat.zero_le _⟩ (fun H locs hP hD hS => ?_)
  refine lv_aload_n hx hb dX4_topple_5 rfl (lv_at hl 0 rfl) ?_
  refine va_get (D := (dC, dI)) (ci := kX4) (v := .ref ly) (C := RX4) (T := TX4) (N := 11) hx hb hts hi_X4 hown hK hP 0 rfl rfl 1 (by decide) hf_21 (fun _ h9 => h9) rfl dX4_topple_6 ?_
  refine lv_iload_n hx hb dX4_topple_9 rfl (lv_at hl 1 rfl) ?_
  refine kt_calli (w' := wTop tp ly lyg lyt LYG LYT tl tlg tlt TLG TLT ne neg net NEG NET su sug sut SUG SUT kp kr KH km sw tps rt pl P st my co C la lag lat LG LT po pog pot OG OT cJ cJJ cI cII mo eo dg to er n E DG tr T) (rest := []) (As := [.int (nI j)]) ⟨hx, hb, hml, hown, hts⟩ (c_X0_isSteep l dC dI cI cII cJ cJJ ly lyg lyt LYG LYT mo eo dg to er n E DG j _ (by omega)) (cwV 1 hts gX4_topple_X0_isSteep rfl rfl rfl (by decide +kernel) ⟨Nat.le_of_ble_eq_true rfl, Nat.le_of_ble_eq_true rfl⟩) hK hP hD hS hA [1, 2, 3, 28, 29, 30, 31, 32, 33, 34, 35, 36, 37] sw_wTop_wHM_0 rfl 1 kX0 rfl rfl rfl rfl rfl hl.1 (Nat.le_of_ble_eq_true rfl) dX4_topple_10 ⟨Nat.zero_le _, Nat.zero_le _⟩ (fun H locs hP hD hS => ?_)
  refine lv_if_ne (tgt := 26) hx hb dX4_topple_13 (by decide) (fun c13 => ?_) (fun c13 => ?_)
  · exact absurd (show False by rw [hst] at c13; exact absurd c13 (by decide)) id
  · exact kt_throw exS 57 99 61 "the spot is not steep" hx hb hlt hown (by decide) ex_ng_S ex_ot_S hts (by decide +kernel) (hE.castS) hE (by decide) hP hK hD hS (hl.1.trans hml.symm) dX4_topple_16 dX4_topple_19 dX4_topple_20 dX4_topple_22 dX4_topple_25 (fun x h => (hex x h).elim) (by decide) (by decide) (by decide) (by decide) hlocks (by decide) (by decide)

set_option maxHeartbeats 4000000 in
set_option maxRecDepth 100000 in
theorem x_X4_edge_a (l : Launch) (dC : Nat → ClassId) (dI : Nat → Nat → Nat) (cI cII cJ cJJ : ClassId) (tp : Nat) (ly : Nat) (lyg : Nat) (lyt : Nat) (LYG : Nat → Int32) (LYT : Nat → Int32) (tl : Nat) (tlg : Nat) (tlt : Nat) (TLG : Nat → Int32) (TLT : Nat → Int32) (ne : Nat) (neg : Nat) (net : Nat) (NEG : Nat → Int32) (NET : Nat → Int32) (su : Nat) (sug : Nat) (sut : Nat) (SUG : Nat → Int32) (SUT : Nat → Int32) (kp : Nat) (kr : Nat → Nat) (KH : Nat → Nat → Int32) (km : Nat) (sw : Int32) (tps : Int32) (rt : Nat) (pl : Nat) (P : Nat → Int32) (st : Int32) (my : Nat) (co : Nat) (C : Nat → Int32) (la : Nat) (lag : Nat) (lat : Nat) (LG : Nat → Int32) (LT : Nat → Int32) (po : Nat) (pog : Nat) (pot : Nat) (OG : Nat → Int32) (OT : Nat → Int32) (mo : Nat) (eo : Nat) (dg : Nat) (to : Nat) (er : Nat → Nat) (n : Nat) (E : Nat → Nat → Int32) (DG : Nat → Int32) (tr : Nat → Nat) (T : Nat → Nat → Int64) (hlt : l.stackTraces = false) (v v2 q : Int32) (sz : Nat) (hn : n ≤ 6) (hv9 : isNodeB n v = false) : vx_Met l yX4_edge wsX4_edge ({ frames := 8, cells := 1, slots := 6, locals := 110 }) (va_Pc [.ref tp, .int v, .int v2, .int q] (PREE (dC, dI) (tyL cI cII cJ cJJ) (wTop tp ly lyg lyt LYG LYT tl tlg tlt TLG TLT ne neg net NEG NET su sug sut SUG SUT kp kr KH km sw tps rt pl P st my co C la lag lat LG LT po pog pot OG OT cJ cJJ cI cII mo eo dg to er n E DG tr T) sz)) (fun _ _ _ _ => False) (XT exI (dC, dI) (tyL cI cII cJ cJJ) (wTop tp ly lyg lyt LYG LYT tl tlg tlt TLG TLT ne neg net NEG NET su sug sut SUG SUT kp kr KH km sw tps rt pl P st my co C la lag lat LG LT po pog pot OG OT cJ cJJ cI cII mo eo dg to er n E DG tr T) (va_A (wTop tp ly lyg lyt LYG LYT tl tlg tlt TLG TLT ne neg net NEG NET su sug sut SUG SUT kp kr KH km sw tps rt pl P st my co C la lag lat LG LT po pog pot OG OT cJ cJJ cI cII mo eo dg to er n E DG tr T) sz)) 1 6 (va_A (wTop tp ly lyg lyt LYG LYT tl tlg tlt TLG TLT ne neg net NEG NET su sug sut SUG SUT kp kr KH km sw tps rt pl P st my co C la lag lat LG LT po pog pot OG OT cJ cJJ cI cII mo eo dg to er n E DG tr T) sz) := by
  refine vx_ofW (cc := cX4_edge) (maxL := 5) (ret := (some .int)) (by decide) rfl ?_
  intro p e s m args below meth c s₁ B hml hex hv
  obtain ⟨rfl, ⟨hsz, hP, hK, hD0⟩, hE⟩ := hv
  have hx := B.exec
  have hb := B.bytes
  have hlocks := B.notSynchronized
  have hts := atoms_spec (ws := wsX4_edge) B.pre
  have hown : s.vm.findClass RX4 = some m.cls := findClass_of_methodNamed B.named
  subst hsz
  have hD := hD0.self (sz := s.heap.size)
  generalize hAe : va_A (wTop tp ly lyg lyt LYG LYT tl tlg tlt TLG TLT ne neg net NEG NET su sug sut SUG SUT kp kr KH km sw tps rt pl P st my co C la lag lat LG LT po pog pot OG OT cJ cJJ cI cII mo eo dg to er n E DG tr T) s.heap.size = A at hD hE ⊢
  have hA : ∀ q : Nat, s.heap.size ≤ q → A q := fun q h => by rw [← hAe]; exact Or.inr h
  have hS : va_S A s.heap s.heap [] := va_S.rf
  have hl := lv_entry ([.ref tp, .int v, .int v2, .int q]) (n := 5) (Nat.le_of_ble_eq_true rfl)
  rw [lg_entry_eq]
  generalize (lg_sl ([.ref tp, .int v, .int v2, .int q]) ++ List.replicate (5 - (lg_sl ([.ref tp, .int v, .int v2, .int q])).length) Slot.unset).toArray = ls at hl ⊢
  have hl : lv_has ls 5 [(0, .ref tp), (1, .int v), (2, .int v2), (3, .int q)] := hl
  have hi_X4 : ∀ w ∈ u_ws RX4 TX4 11, w ∈ wsX4_edge := by decide +kernel
  have hf_10 := hts (.fieldLink RX4 10 "Topplemoor" "moor" "LTopplemoor$Moor;") (by decide +kernel)
  have hi_X2 : ∀ w ∈ u_ws RX2 TX2 4, w ∈ wsX4_edge := by decide +kernel
  have hf_77 := hts (.fieldLink RX4 77 "Topplemoor$Moor" "edges" "[[I") (by decide +kernel)
  have hf_37 := hts (.fieldLink RX4 37 "Topplemoor" "rotors" "LTopplemoor$Rotors;") (by decide +kernel)
  refine lv_aload_n hx hb dX4_edge_0 rfl (lv_at hl 0 rfl) ?_
  refine lv_iload_n hx hb dX4_edge_1 rfl (lv_at hl 1 rfl) ?_
  exact kt_xcallv (rest := []) (As := [.int v]) ⟨hx, hb, hml, hown, hts⟩ (x_X4_requireNode l dC dI cI cII cJ cJJ tp ly lyg lyt LYG LYT tl tlg tlt TLG TLT ne neg net NEG NET su sug sut SUG SUT kp kr KH km sw tps rt pl P st my co C la lag lat LG LT po pog pot OG OT mo eo dg to er n E DG tr T hlt v _ hn hv9) (cwV 1 hts gX4_edge_X4_requireNode rfl rfl rfl (by decide +kernel) ⟨Nat.le_of_ble_eq_true rfl, Nat.le_of_ble_eq_true rfl⟩) hK hP hD hS hA hE (List.range' 0 45) sw_wTop_wTop_0 rfl 0 kX4 rfl rfl rfl rfl rfl hl.1 (Nat.le_of_ble_eq_true rfl) dX4_edge_2 ⟨by decide, by decide⟩ hex hlocks (by decide) (by decide)

set_option maxHeartbeats 4000000 in
set_option maxRecDepth 100000 in
theorem x_X4_edge_b (l : Launch) (dC : Nat → ClassId) (dI : Nat → Nat → Nat) (cI cII cJ cJJ : ClassId) (tp : Nat) (ly : Nat) (lyg : Nat) (lyt : Nat) (LYG : Nat → Int32) (LYT : Nat → Int32) (tl : Nat) (tlg : Nat) (tlt : Nat) (TLG : Nat → Int32) (TLT : Nat → Int32) (ne : Nat) (neg : Nat) (net : Nat) (NEG : Nat → Int32) (NET : Nat → Int32) (su : Nat) (sug : Nat) (sut : Nat) (SUG : Nat → Int32) (SUT : Nat → Int32) (kp : Nat) (kr : Nat → Nat) (KH : Nat → Nat → Int32) (km : Nat) (sw : Int32) (tps : Int32) (rt : Nat) (pl : Nat) (P : Nat → Int32) (st : Int32) (my : Nat) (co : Nat) (C : Nat → Int32) (la : Nat) (lag : Nat) (lat : Nat) (LG : Nat → Int32) (LT : Nat → Int32) (po : Nat) (pog : Nat) (pot : Nat) (OG : Nat → Int32) (OT : Nat → Int32) (mo : Nat) (eo : Nat) (dg : Nat) (to : Nat) (er : Nat → Nat) (n : Nat) (E : Nat → Nat → Int32) (DG : Nat → Int32) (tr : Nat → Nat) (T : Nat → Nat → Int64) (hlt : l.stackTraces = false) (a : Nat) (v2 q : Int32) (sz : Nat) (hn : n ≤ 6) (ha : a < n ∨ a = 6) (hv9 : isNodeB n v2 = false) : vx_Met l yX4_edge wsX4_edge ({ frames := 8, cells := 1, slots := 6, locals := 110 }) (va_Pc [.ref tp, .int (nI a), .int v2, .int q] (PREE (dC, dI) (tyL cI cII cJ cJJ) (wTop tp ly lyg lyt LYG LYT tl tlg tlt TLG TLT ne neg net NEG NET su sug sut SUG SUT kp kr KH km sw tps rt pl P st my co C la lag lat LG LT po pog pot OG OT cJ cJJ cI cII mo eo dg to er n E DG tr T) sz)) (fun _ _ _ _ => False) (XT exI (dC, dI) (tyL cI cII cJ cJJ) (wTop tp ly lyg lyt LYG LYT tl tlg tlt TLG TLT ne neg net NEG NET su sug sut SUG SUT kp kr KH km sw tps rt pl P st my co C la lag lat LG LT po pog pot OG OT cJ cJJ cI cII mo eo dg to er n E DG tr T) (va_A (wTop tp ly lyg lyt LYG LYT tl tlg tlt TLG TLT ne neg net NEG NET su sug sut SUG SUT kp kr KH km sw tps rt pl P st my co C la lag lat LG LT po pog pot OG OT cJ cJJ cI cII mo eo dg to er n E DG tr T) sz)) 1 6 (va_A (wTop tp ly lyg lyt LYG LYT tl tlg tlt TLG TLT ne neg net NEG NET su sug sut SUG SUT kp kr KH km sw tps rt pl P st my co C la lag lat LG LT po pog pot OG OT cJ cJJ cI cII mo eo dg to er n E DG tr T) sz) := by
  refine vx_ofW (cc := cX4_edge) (maxL := 5) (ret := (some .int)) (by decide) rfl ?_
  intro p e s m args below meth c s₁ B hml hex hv
  obtain ⟨rfl, ⟨hsz, hP, hK, hD0⟩, hE⟩ := hv
  have hx := B.exec
  have hb := B.bytes
  have hlocks := B.notSynchronized
  have hts := atoms_spec (ws := wsX4_edge) B.pre
  have hown : s.vm.findClass RX4 = some m.cls := findClass_of_methodNamed B.named
  subst hsz
  have hD := hD0.self (sz := s.heap.size)
  generalize hAe : va_A (wTop tp ly lyg lyt LYG LYT tl tlg tlt TLG TLT ne neg net NEG NET su sug sut SUG SUT kp kr KH km sw tps rt pl P st my co C la lag lat LG LT po pog pot OG OT cJ cJJ cI cII mo eo dg to er n E DG tr T) s.heap.size = A at hD hE ⊢
  have hA : ∀ q : Nat, s.heap.size ≤ q → A q := fun q h => by rw [← hAe]; exact Or.inr h
  have hS : va_S A s.heap s.heap [] := va_S.rf
  have hl := lv_entry ([.ref tp, .int (nI a), .int v2, .int q]) (n := 5) (Nat.le_of_ble_eq_true rfl)
  rw [lg_entry_eq]
  generalize (lg_sl ([.ref tp, .int (nI a), .int v2, .int q]) ++ List.replicate (5 - (lg_sl ([.ref tp, .int (nI a), .int v2, .int q])).length) Slot.unset).toArray = ls at hl ⊢
  have hl : lv_has ls 5 [(0, .ref tp), (1, .int (nI a)), (2, .int v2), (3, .int q)] := hl
  have hi_X4 : ∀ w ∈ u_ws RX4 TX4 11, w ∈ wsX4_edge := by decide +kernel
  have hf_10 := hts (.fieldLink RX4 10 "Topplemoor" "moor" "LTopplemoor$Moor;") (by decide +kernel)
  have hi_X2 : ∀ w ∈ u_ws RX2 TX2 4, w ∈ wsX4_edge := by decide +kernel
  have hf_77 := hts (.fieldLink RX4 77 "Topplemoor$Moor" "edges" "[[I") (by decide +kernel)
  have hf_37 := hts (.fieldLink RX4 37 "Topplemoor" "rotors" "LTopplemoor$Rotors;") (by decide +kernel)
  refine lv_aload_n hx hb dX4_edge_0 rfl (lv_at hl 0 rfl) ?_
  refine lv_iload_n hx hb dX4_edge_1 rfl (lv_at hl 1 rfl) ?_
  refine kt_callv (w' := wTop tp ly lyg lyt LYG LYT tl tlg tlt TLG TLT ne neg net NEG NET su sug sut SUG SUT kp kr KH km sw tps rt pl P st my co C la lag lat LG LT po pog pot OG OT cJ cJJ cI cII mo eo dg to er n E DG tr T) (rest := []) (As := [.int (nI a)]) ⟨hx, hb, hml, hown, hts⟩ (c_X4_requireNode l dC dI cI cII cJ cJJ tp ly lyg lyt LYG LYT tl tlg tlt TLG TLT ne neg net NEG NET su sug sut SUG SUT kp kr KH km sw tps rt pl P st my co C la lag lat LG LT po pog pot OG OT mo eo dg to er n E DG tr T a _ (hn) (ha)) (cwV 1 hts gX4_edge_X4_requireNode rfl rfl rfl (by decide +kernel) ⟨Nat.le_of_ble_eq_true rfl, Nat.le_of_ble_eq_true rfl⟩) hK hP hD hS hA (List.range' 0 45) sw_wTop_wTop_0 rfl 0 kX4 rfl rfl rfl rfl rfl hl.1 (Nat.le_of_ble_eq_true rfl) dX4_edge_2 ⟨Nat.zero_le _, Nat.zero_le _⟩ (fun H locs hP hD hS => ?_)
  refine lv_aload_n hx hb dX4_edge_5 rfl (lv_at hl 0 rfl) ?_
  refine lv_iload_n hx hb dX4_edge_6 rfl (lv_at hl 2 rfl) ?_
  exact kt_xcallv (rest := []) (As := [.int v2]) ⟨hx, hb, hml, hown, hts⟩ (x_X4_requireNode l dC dI cI cII cJ cJJ tp ly lyg lyt LYG LYT tl tlg tlt TLG TLT ne neg net NEG NET su sug sut SUG SUT kp kr KH km sw tps rt pl P st my co C la lag lat LG LT po pog pot OG OT mo eo dg to er n E DG tr T hlt v2 _ hn hv9) (cwV 1 hts gX4_edge_X4_requireNode rfl rfl rfl (by decide +kernel) ⟨Nat.le_of_ble_eq_true rfl, Nat.le_of_ble_eq_true rfl⟩) hK hP hD hS hA hE (List.range' 0 45) sw_wTop_wTop_0 rfl 0 kX4 rfl rfl rfl rfl rfl hl.1 (Nat.le_of_ble_eq_true rfl) dX4_edge_7 ⟨by decide, by decide⟩ hex hlocks (by decide) (by decide)

set_option maxHeartbeats 4000000 in
set_option maxRecDepth 100000 in
theorem x_X4_edge_same (l : Launch) (dC : Nat → ClassId) (dI : Nat → Nat → Nat) (cI cII cJ cJJ : ClassId) (tp : Nat) (ly : Nat) (lyg : Nat) (lyt : Nat) (LYG : Nat → Int32) (LYT : Nat → Int32) (tl : Nat) (tlg : Nat) (tlt : Nat) (TLG : Nat → Int32) (TLT : Nat → Int32) (ne : Nat) (neg : Nat) (net : Nat) (NEG : Nat → Int32) (NET : Nat → Int32) (su : Nat) (sug : Nat) (sut : Nat) (SUG : Nat → Int32) (SUT : Nat → Int32) (kp : Nat) (kr : Nat → Nat) (KH : Nat → Nat → Int32) (km : Nat) (sw : Int32) (tps : Int32) (rt : Nat) (pl : Nat) (P : Nat → Int32) (st : Int32) (my : Nat) (co : Nat) (C : Nat → Int32) (la : Nat) (lag : Nat) (lat : Nat) (LG : Nat → Int32) (LT : Nat → Int32) (po : Nat) (pog : Nat) (pot : Nat) (OG : Nat → Int32) (OT : Nat → Int32) (mo : Nat) (eo : Nat) (dg : Nat) (to : Nat) (er : Nat → Nat) (n : Nat) (E : Nat → Nat → Int32) (DG : Nat → Int32) (tr : Nat → Nat) (T : Nat → Nat → Int64) (hlt : l.stackTraces = false) (a b : Nat) (q : Int32) (sz : Nat) (hn : n ≤ 6) (ha : a < n ∨ a = 6) (hb7 : b < n ∨ b = 6) (hne : a = b) : vx_Met l yX4_edge wsX4_edge ({ frames := 8, cells := 1, slots := 6, locals := 110 }) (va_Pc [.ref tp, .int (nI a), .int (nI b), .int q] (PREE (dC, dI) (tyL cI cII cJ cJJ) (wTop tp ly lyg lyt LYG LYT tl tlg tlt TLG TLT ne neg net NEG NET su sug sut SUG SUT kp kr KH km sw tps rt pl P st my co C la lag lat LG LT po pog pot OG OT cJ cJJ cI cII mo eo dg to er n E DG tr T) sz)) (fun _ _ _ _ => False) (XT exA (dC, dI) (tyL cI cII cJ cJJ) (wTop tp ly lyg lyt LYG LYT tl tlg tlt TLG TLT ne neg net NEG NET su sug sut SUG SUT kp kr KH km sw tps rt pl P st my co C la lag lat LG LT po pog pot OG OT cJ cJJ cI cII mo eo dg to er n E DG tr T) (va_A (wTop tp ly lyg lyt LYG LYT tl tlg tlt TLG TLT ne neg net NEG NET su sug sut SUG SUT kp kr KH km sw tps rt pl P st my co C la lag lat LG LT po pog pot OG OT cJ cJJ cI cII mo eo dg to er n E DG tr T) sz)) 1 6 (va_A (wTop tp ly lyg lyt LYG LYT tl tlg tlt TLG TLT ne neg net NEG NET su sug sut SUG SUT kp kr KH km sw tps rt pl P st my co C la lag lat LG LT po pog pot OG OT cJ cJJ cI cII mo eo dg to er n E DG tr T) sz) := by
  refine vx_ofW (cc := cX4_edge) (maxL := 5) (ret := (some .int)) (by decide) rfl ?_
  intro p e s m args below meth c s₁ B hml hex hv
  obtain ⟨rfl, ⟨hsz, hP, hK, hD0⟩, hE⟩ := hv
  have hx := B.exec
  have hb := B.bytes
  have hlocks := B.notSynchronized
  have hts := atoms_spec (ws := wsX4_edge) B.pre
  have hown : s.vm.findClass RX4 = some m.cls := findClass_of_methodNamed B.named
  subst hsz
  have hD := hD0.self (sz := s.heap.size)
  generalize hAe : va_A (wTop tp ly lyg lyt LYG LYT tl tlg tlt TLG TLT ne neg net NEG NET su sug sut SUG SUT kp kr KH km sw tps rt pl P st my co C la lag lat LG LT po pog pot OG OT cJ cJJ cI cII mo eo dg to er n E DG tr T) s.heap.size = A at hD hE ⊢
  have hA : ∀ q : Nat, s.heap.size ≤ q → A q := fun q h => by rw [← hAe]; exact Or.inr h
  have hS : va_S A s.heap s.heap [] := va_S.rf
  have hl := lv_entry ([.ref tp, .int (nI a), .int (nI b), .int q]) (n := 5) (Nat.le_of_ble_eq_true rfl)
  rw [lg_entry_eq]
  generalize (lg_sl ([.ref tp, .int (nI a), .int (nI b), .int q]) ++ List.replicate (5 - (lg_sl ([.ref tp, .int (nI a), .int (nI b), .int q])).length) Slot.unset).toArray = ls at hl ⊢
  have hl : lv_has ls 5 [(0, .ref tp), (1, .int (nI a)), (2, .int (nI b)), (3, .int q)] := hl
  have hi_X4 : ∀ w ∈ u_ws RX4 TX4 11, w ∈ wsX4_edge := by decide +kernel
  have hf_10 := hts (.fieldLink RX4 10 "Topplemoor" "moor" "LTopplemoor$Moor;") (by decide +kernel)
  have hi_X2 : ∀ w ∈ u_ws RX2 TX2 4, w ∈ wsX4_edge := by decide +kernel
  have hf_77 := hts (.fieldLink RX4 77 "Topplemoor$Moor" "edges" "[[I") (by decide +kernel)
  have hf_37 := hts (.fieldLink RX4 37 "Topplemoor" "rotors" "LTopplemoor$Rotors;") (by decide +kernel)
  refine lv_aload_n hx hb dX4_edge_0 rfl (lv_at hl 0 rfl) ?_
  refine lv_iload_n hx hb dX4_edge_1 rfl (lv_at hl 1 rfl) ?_
  refine kt_callv (w' := wTop tp ly lyg lyt LYG LYT tl tlg tlt TLG TLT ne neg net NEG NET su sug sut SUG SUT kp kr KH km sw tps rt pl P st my co C la lag lat LG LT po pog pot OG OT cJ cJJ cI cII mo eo dg to er n E DG tr T) (rest := []) (As := [.int (nI a)]) ⟨hx, hb, hml, hown, hts⟩ (c_X4_requireNode l dC dI cI cII cJ cJJ tp ly lyg lyt LYG LYT tl tlg tlt TLG TLT ne neg net NEG NET su sug sut SUG SUT kp kr KH km sw tps rt pl P st my co C la lag lat LG LT po pog pot OG OT mo eo dg to er n E DG tr T a _ (hn) (ha)) (cwV 1 hts gX4_edge_X4_requireNode rfl rfl rfl (by decide +kernel) ⟨Nat.le_of_ble_eq_true rfl, Nat.le_of_ble_eq_true rfl⟩) hK hP hD hS hA (List.range' 0 45) sw_wTop_wTop_0 rfl 0 kX4 rfl rfl rfl rfl rfl hl.1 (Nat.le_of_ble_eq_true rfl) dX4_edge_2 ⟨Nat.zero_le _, Nat.zero_le _⟩ (fun H locs hP hD hS => ?_)
  refine lv_aload_n hx hb dX4_edge_5 rfl (lv_at hl 0 rfl) ?_
  refine lv_iload_n hx hb dX4_edge_6 rfl (lv_at hl 2 rfl) ?_
  refine kt_callv (w' := wTop tp ly lyg lyt LYG LYT tl tlg tlt TLG TLT ne neg net NEG NET su sug sut SUG SUT kp kr KH km sw tps rt pl P st my co C la lag lat LG LT po pog pot OG OT cJ cJJ cI cII mo eo dg to er n E DG tr T) (rest := []) (As := [.int (nI b)]) ⟨hx, hb, hml, hown, hts⟩ (c_X4_requireNode l dC dI cI cII cJ cJJ tp ly lyg lyt LYG LYT tl tlg tlt TLG TLT ne neg net NEG NET su sug sut SUG SUT kp kr KH km sw tps rt pl P st my co C la lag lat LG LT po pog pot OG OT mo eo dg to er n E DG tr T b _ (hn) (hb7)) (cwV 1 hts gX4_edge_X4_requireNode rfl rfl rfl (by decide +kernel) ⟨Nat.le_of_ble_eq_true rfl, Nat.le_of_ble_eq_true rfl⟩) hK hP hD hS hA (List.range' 0 45) sw_wTop_wTop_0 rfl 0 kX4 rfl rfl rfl rfl rfl hl.1 (Nat.le_of_ble_eq_true rfl) dX4_edge_7 ⟨Nat.zero_le _, Nat.zero_le _⟩ (fun H locs hP hD hS => ?_)
  refine lv_iload_n hx hb dX4_edge_10 rfl (lv_at hl 1 rfl) ?_
  refine lv_iload_n hx hb dX4_edge_11 rfl (lv_at hl 2 rfl) ?_
  refine lv_icmp_ne (tgt := 25) hx hb dX4_edge_12 (by decide) (fun c12 => ?_) (fun c12 => ?_)
  · exact absurd (by rw [hne]) c12
  · exact kt_throw exA 68 70 72 "both are the same" hx hb hlt hown (by decide) ex_ng_A ex_ot_A hts (by decide +kernel) (hE.castA) hE (by decide) hP hK hD hS (hl.1.trans hml.symm) dX4_edge_15 dX4_edge_18 dX4_edge_19 dX4_edge_21 dX4_edge_24 (fun x h => (hex x h).elim) (by decide) (by decide) (by decide) (by decide) hlocks (by decide) (by decide)

set_option maxHeartbeats 4000000 in
set_option maxRecDepth 100000 in
theorem x_X4_edge_within (l : Launch) (dC : Nat → ClassId) (dI : Nat → Nat → Nat) (cI cII cJ cJJ : ClassId) (tp : Nat) (ly : Nat) (lyg : Nat) (lyt : Nat) (LYG : Nat → Int32) (LYT : Nat → Int32) (tl : Nat) (tlg : Nat) (tlt : Nat) (TLG : Nat → Int32) (TLT : Nat → Int32) (ne : Nat) (neg : Nat) (net : Nat) (NEG : Nat → Int32) (NET : Nat → Int32) (su : Nat) (sug : Nat) (sut : Nat) (SUG : Nat → Int32) (SUT : Nat → Int32) (kp : Nat) (kr : Nat → Nat) (KH : Nat → Nat → Int32) (km : Nat) (sw : Int32) (tps : Int32) (rt : Nat) (pl : Nat) (P : Nat → Int32) (st : Int32) (my : Nat) (co : Nat) (C : Nat → Int32) (la : Nat) (lag : Nat) (lat : Nat) (LG : Nat → Int32) (LT : Nat → Int32) (po : Nat) (pog : Nat) (pot : Nat) (OG : Nat → Int32) (OT : Nat → Int32) (mo : Nat) (eo : Nat) (dg : Nat) (to : Nat) (er : Nat → Nat) (n : Nat) (E : Nat → Nat → Int32) (DG : Nat → Int32) (tr : Nat → Nat) (T : Nat → Nat → Int64) (hlt : l.stackTraces = false) (a b : Nat) (q : Int32) (sz : Nat) (hn : n ≤ 6) (ha : a < n ∨ a = 6) (hb7 : b < n ∨ b = 6) (hne : ¬ a = b) (hv9 : q < 0 ∨ ¬ q ≤ 3) : vx_Met l yX4_edge wsX4_edge ({ frames := 8, cells := 1, slots := 6, locals := 110 }) (va_Pc [.ref tp, .int (nI a), .int (nI b), .int q] (PREE (dC, dI) (tyL cI cII cJ cJJ) (wTop tp ly lyg lyt LYG LYT tl tlg tlt TLG TLT ne neg net NEG NET su sug sut SUG SUT kp kr KH km sw tps rt pl P st my co C la lag lat LG LT po pog pot OG OT cJ cJJ cI cII mo eo dg to er n E DG tr T) sz)) (fun _ _ _ _ => False) (XT exA (dC, dI) (tyL cI cII cJ cJJ) (wTop tp ly lyg lyt LYG LYT tl tlg tlt TLG TLT ne neg net NEG NET su sug sut SUG SUT kp kr KH km sw tps rt pl P st my co C la lag lat LG LT po pog pot OG OT cJ cJJ cI cII mo eo dg to er n E DG tr T) (va_A (wTop tp ly lyg lyt LYG LYT tl tlg tlt TLG TLT ne neg net NEG NET su sug sut SUG SUT kp kr KH km sw tps rt pl P st my co C la lag lat LG LT po pog pot OG OT cJ cJJ cI cII mo eo dg to er n E DG tr T) sz)) 1 6 (va_A (wTop tp ly lyg lyt LYG LYT tl tlg tlt TLG TLT ne neg net NEG NET su sug sut SUG SUT kp kr KH km sw tps rt pl P st my co C la lag lat LG LT po pog pot OG OT cJ cJJ cI cII mo eo dg to er n E DG tr T) sz) := by
  refine vx_ofW (cc := cX4_edge) (maxL := 5) (ret := (some .int)) (by decide) rfl ?_
  intro p e s m args below meth c s₁ B hml hex hv
  obtain ⟨rfl, ⟨hsz, hP, hK, hD0⟩, hE⟩ := hv
  have hx := B.exec
  have hb := B.bytes
  have hlocks := B.notSynchronized
  have hts := atoms_spec (ws := wsX4_edge) B.pre
  have hown : s.vm.findClass RX4 = some m.cls := findClass_of_methodNamed B.named
  subst hsz
  have hD := hD0.self (sz := s.heap.size)
  generalize hAe : va_A (wTop tp ly lyg lyt LYG LYT tl tlg tlt TLG TLT ne neg net NEG NET su sug sut SUG SUT kp kr KH km sw tps rt pl P st my co C la lag lat LG LT po pog pot OG OT cJ cJJ cI cII mo eo dg to er n E DG tr T) s.heap.size = A at hD hE ⊢
  have hA : ∀ q : Nat, s.heap.size ≤ q → A q := fun q h => by rw [← hAe]; exact Or.inr h
  have hS : va_S A s.heap s.heap [] := va_S.rf
  have hl := lv_entry ([.ref tp, .int (nI a), .int (nI b), .int q]) (n := 5) (Nat.le_of_ble_eq_true rfl)
  rw [lg_entry_eq]
  generalize (lg_sl ([.ref tp, .int (nI a), .int (nI b), .int q]) ++ List.replicate (5 - (lg_sl ([.ref tp, .int (nI a), .int (nI b), .int q])).length) Slot.unset).toArray = ls at hl ⊢
  have hl : lv_has ls 5 [(0, .ref tp), (1, .int (nI a)), (2, .int (nI b)), (3, .int q)] := hl
  have hi_X4 : ∀ w ∈ u_ws RX4 TX4 11, w ∈ wsX4_edge := by decide +kernel
  have hf_10 := hts (.fieldLink RX4 10 "Topplemoor" "moor" "LTopplemoor$Moor;") (by decide +kernel)
  have hi_X2 : ∀ w ∈ u_ws RX2 TX2 4, w ∈ wsX4_edge := by decide +kernel
  have hf_77 := hts (.fieldLink RX4 77 "Topplemoor$Moor" "edges" "[[I") (by decide +kernel)
  have hf_37 := hts (.fieldLink RX4 37 "Topplemoor" "rotors" "LTopplemoor$Rotors;") (by decide +kernel)
  refine lv_aload_n hx hb dX4_edge_0 rfl (lv_at hl 0 rfl) ?_
  refine lv_iload_n hx hb dX4_edge_1 rfl (lv_at hl 1 rfl) ?_
  refine kt_callv (w' := wTop tp ly lyg lyt LYG LYT tl tlg tlt TLG TLT ne neg net NEG NET su sug sut SUG SUT kp kr KH km sw tps rt pl P st my co C la lag lat LG LT po pog pot OG OT cJ cJJ cI cII mo eo dg to er n E DG tr T) (rest := []) (As := [.int (nI a)]) ⟨hx, hb, hml, hown, hts⟩ (c_X4_requireNode l dC dI cI cII cJ cJJ tp ly lyg lyt LYG LYT tl tlg tlt TLG TLT ne neg net NEG NET su sug sut SUG SUT kp kr KH km sw tps rt pl P st my co C la lag lat LG LT po pog pot OG OT mo eo dg to er n E DG tr T a _ (hn) (ha)) (cwV 1 hts gX4_edge_X4_requireNode rfl rfl rfl (by decide +kernel) ⟨Nat.le_of_ble_eq_true rfl, Nat.le_of_ble_eq_true rfl⟩) hK hP hD hS hA (List.range' 0 45) sw_wTop_wTop_0 rfl 0 kX4 rfl rfl rfl rfl rfl hl.1 (Nat.le_of_ble_eq_true rfl) dX4_edge_2 ⟨Nat.zero_le _, Nat.zero_le _⟩ (fun H locs hP hD hS => ?_)
  refine lv_aload_n hx hb dX4_edge_5 rfl (lv_at hl 0 rfl) ?_
  refine lv_iload_n hx hb dX4_edge_6 rfl (lv_at hl 2 rfl) ?_
  refine kt_callv (w' := wTop tp ly lyg lyt LYG LYT tl tlg tlt TLG TLT ne neg net NEG NET su sug sut SUG SUT kp kr KH km sw tps rt pl P st my co C la lag lat LG LT po pog pot OG OT cJ cJJ cI cII mo eo dg to er n E DG tr T) (rest := []) (As := [.int (nI b)]) ⟨hx, hb, hml, hown, hts⟩ (c_X4_requireNode l dC dI cI cII cJ cJJ tp ly lyg lyt LYG LYT tl tlg tlt TLG TLT ne neg net NEG NET su sug sut SUG SUT kp kr KH km sw tps rt pl P st my co C la lag lat LG LT po pog pot OG OT mo eo dg to er n E DG tr T b _ (hn) (hb7)) (cwV 1 hts gX4_edge_X4_requireNode rfl rfl rfl (by decide +kernel) ⟨Nat.le_of_ble_eq_true rfl, Nat.le_of_ble_eq_true rfl⟩) hK hP hD hS hA (List.range' 0 45) sw_wTop_wTop_0 rfl 0 kX4 rfl rfl rfl rfl rfl hl.1 (Nat.le_of_ble_eq_true rfl) dX4_edge_7 ⟨Nat.zero_le _, Nat.zero_le _⟩ (fun H locs hP hD hS => ?_)
  refine lv_iload_n hx hb dX4_edge_10 rfl (lv_at hl 1 rfl) ?_
  refine lv_iload_n hx hb dX4_edge_11 rfl (lv_at hl 2 rfl) ?_
  refine lv_icmp_ne (tgt := 25) hx hb dX4_edge_12 (by decide) (fun c12 => ?_) (fun c12 => ?_)
  · skip
    refine lv_iload_n hx hb dX4_edge_25 rfl (lv_at hl 3 rfl) ?_
    refine lv_iconst (v := 0) hx hb dX4_edge_26 (by decide) ?_
    refine lv_iconst (v := 3) hx hb dX4_edge_27 (by decide) ?_
    exact kt_xcallS (rest := []) (As := [.int q, .int 0, .int 3]) ⟨hx, hb, hml, hown, hts⟩ (x_X4_requireWithin l dC dI cI cII cJ cJJ hlt q 0 3 _ hv9) (va_cwS 3 hts gX4_edge_X4_requireWithin rfl rfl rfl (by decide +kernel) ⟨Nat.le_of_ble_eq_true rfl, Nat.le_of_ble_eq_true rfl⟩) hK hP hD hS hA hE [] sw_wTop_wE_0 rfl rfl rfl hl.1 (Nat.le_of_ble_eq_true rfl) dX4_edge_28 ⟨by decide, by decide⟩ hex hlocks (by decide) (by decide)
  · exact absurd ((nI_eq (by omega) (by omega)).mp c12) hne

set_option maxHeartbeats 4000000 in
set_option maxRecDepth 100000 in
theorem x_X4_spot (l : Launch) (dC : Nat → ClassId) (dI : Nat → Nat → Nat) (cI cII cJ cJJ : ClassId) (tp : Nat) (ly : Nat) (lyg : Nat) (lyt : Nat) (LYG : Nat → Int32) (LYT : Nat → Int32) (tl : Nat) (tlg : Nat) (tlt : Nat) (TLG : Nat → Int32) (TLT : Nat → Int32) (ne : Nat) (neg : Nat) (net : Nat) (NEG : Nat → Int32) (NET : Nat → Int32) (su : Nat) (sug : Nat) (sut : Nat) (SUG : Nat → Int32) (SUT : Nat → Int32) (kp : Nat) (kr : Nat → Nat) (KH : Nat → Nat → Int32) (km : Nat) (sw : Int32) (tps : Int32) (rt : Nat) (pl : Nat) (P : Nat → Int32) (st : Int32) (my : Nat) (co : Nat) (C : Nat → Int32) (la : Nat) (lag : Nat) (lat : Nat) (LG : Nat → Int32) (LT : Nat → Int32) (po : Nat) (pog : Nat) (pot : Nat) (OG : Nat → Int32) (OT : Nat → Int32) (mo : Nat) (eo : Nat) (dg : Nat) (to : Nat) (er : Nat → Nat) (n : Nat) (E : Nat → Nat → Int32) (DG : Nat → Int32) (tr : Nat → Nat) (T : Nat → Nat → Int64) (hlt : l.stackTraces = false)  (sz : Nat) (hn : n = 6) : vx_Met l yX4_spot wsX4_spot ({ frames := 8, cells := 1, slots := 6, locals := 110 }) (va_Pc [.ref tp] (PREE (dC, dI) (tyL cI cII cJ cJJ) (wTop tp ly lyg lyt LYG LYT tl tlg tlt TLG TLT ne neg net NEG NET su sug sut SUG SUT kp kr KH km sw tps rt pl P st my co C la lag lat LG LT po pog pot OG OT cJ cJJ cI cII mo eo dg to er n E DG tr T) sz)) (fun _ _ _ _ => False) (XT exS (dC, dI) (tyL cI cII cJ cJJ) (wTop tp ly lyg lyt LYG LYT tl tlg tlt TLG TLT ne neg net NEG NET su sug sut SUG SUT kp kr KH km sw tps rt pl P st my co C la lag lat LG LT po pog pot OG OT cJ cJJ cI cII mo eo dg to er n E DG tr T) (va_A (wTop tp ly lyg lyt LYG LYT tl tlg tlt TLG TLT ne neg net NEG NET su sug sut SUG SUT kp kr KH km sw tps rt pl P st my co C la lag lat LG LT po pog pot OG OT cJ cJJ cI cII mo eo dg to er n E DG tr T) sz)) 1 6 (va_A (wTop tp ly lyg lyt LYG LYT tl tlg tlt TLG TLT ne neg net NEG NET su sug sut SUG SUT kp kr KH km sw tps rt pl P st my co C la lag lat LG LT po pog pot OG OT cJ cJJ cI cII mo eo dg to er n E DG tr T) sz) := by
  refine vx_ofW (cc := cX4_spot) (maxL := 1) (ret := (some .int)) (by decide) rfl ?_
  intro p e s m args below meth c s₁ B hml hex hv
  obtain ⟨rfl, ⟨hsz, hP, hK, hD0⟩, hE⟩ := hv
  have hx := B.exec
  have hb := B.bytes
  have hlocks := B.notSynchronized
  have hts := atoms_spec (ws := wsX4_spot) B.pre
  have hown : s.vm.findClass RX4 = some m.cls := findClass_of_methodNamed B.named
  subst hsz
  have hD := hD0.self (sz := s.heap.size)
  generalize hAe : va_A (wTop tp ly lyg lyt LYG LYT tl tlg tlt TLG TLT ne neg net NEG NET su sug sut SUG SUT kp kr KH km sw tps rt pl P st my co C la lag lat LG LT po pog pot OG OT cJ cJJ cI cII mo eo dg to er n E DG tr T) s.heap.size = A at hD hE ⊢
  have hA : ∀ q : Nat, s.heap.size ≤ q → A q := fun q h => by rw [← hAe]; exact Or.inr h
  have hS : va_S A s.heap s.heap [] := va_S.rf
  have hl := lv_entry ([.ref tp]) (n := 1) (Nat.le_of_ble_eq_true rfl)
  rw [lg_entry_eq]
  generalize (lg_sl ([.ref tp]) ++ List.replicate (1 - (lg_sl ([.ref tp])).length) Slot.unset).toArray = ls at hl ⊢
  have hl : lv_has ls 1 [(0, .ref tp)] := hl
  have hi_X4 : ∀ w ∈ u_ws RX4 TX4 11, w ∈ wsX4_spot := by decide +kernel
  have hf_10 := hts (.fieldLink RX4 10 "Topplemoor" "moor" "LTopplemoor$Moor;") (by decide +kernel)
  have hi_X2 : ∀ w ∈ u_ws RX2 TX2 4, w ∈ wsX4_spot := by decide +kernel
  have hf_53 := hts (.fieldLink RX4 53 "Topplemoor$Moor" "spots" "I") (by decide +kernel)
  refine lv_aload_n hx hb dX4_spot_0 rfl (lv_at hl 0 rfl) ?_
  refine va_get (D := (dC, dI)) (ci := kX4) (v := .ref mo) (C := RX4) (T := TX4) (N := 11) hx hb hts hi_X4 hown hK hP 0 rfl rfl 0 (by decide) hf_10 (fun _ h9 => h9) rfl dX4_spot_1 ?_
  refine va_get (D := (dC, dI)) (ci := kX2) (v := .int (nI n)) (C := RX2) (T := TX2) (N := 4) hx hb hts hi_X2 hown hK hP 28 rfl rfl 0 (by decide) hf_53 (fun _ h9 => h9) rfl dX4_spot_4 ?_
  refine lv_bipush (v := nI 6) hx hb dX4_spot_7 (by decide) ?_
  refine kt_ilt (i := n) (n := 6) (tgt := 22) hx hb (by omega) (by omega) dX4_spot_9 (by decide) (fun c9 => ?_) (fun c9 => ?_)
  · omega
  · exact kt_throw exS 57 59 61 "there are 6 spots" hx hb hlt hown (by decide) ex_ng_S ex_ot_S hts (by decide +kernel) (hE.castS) hE (by decide) hP hK hD hS (hl.1.trans hml.symm) dX4_spot_12 dX4_spot_15 dX4_spot_16 dX4_spot_18 dX4_spot_21 (fun x h => (hex x h).elim) (by decide) (by decide) (by decide) (by decide) hlocks (by decide) (by decide)

set_option maxHeartbeats 4000000 in
set_option maxRecDepth 100000 in
theorem x_X4_keep (l : Launch) (dC : Nat → ClassId) (dI : Nat → Nat → Nat) (cI cII cJ cJJ : ClassId) (tp : Nat) (ly : Nat) (lyg : Nat) (lyt : Nat) (LYG : Nat → Int32) (LYT : Nat → Int32) (tl : Nat) (tlg : Nat) (tlt : Nat) (TLG : Nat → Int32) (TLT : Nat → Int32) (ne : Nat) (neg : Nat) (net : Nat) (NEG : Nat → Int32) (NET : Nat → Int32) (su : Nat) (sug : Nat) (sut : Nat) (SUG : Nat → Int32) (SUT : Nat → Int32) (kp : Nat) (kr : Nat → Nat) (KH : Nat → Nat → Int32) (km : Nat) (sw : Int32) (tps : Int32) (rt : Nat) (pl : Nat) (P : Nat → Int32) (st : Int32) (my : Nat) (co : Nat) (C : Nat → Int32) (la : Nat) (lag : Nat) (lat : Nat) (LG : Nat → Int32) (LT : Nat → Int32) (po : Nat) (pog : Nat) (pot : Nat) (OG : Nat → Int32) (OT : Nat → Int32) (mo : Nat) (eo : Nat) (dg : Nat) (to : Nat) (er : Nat → Nat) (n : Nat) (E : Nat → Nat → Int32) (DG : Nat → Int32) (tr : Nat → Nat) (T : Nat → Nat → Int64) (hlt : l.stackTraces = false)  (sz : Nat) (hkm : km = 4) : vx_Met l yX4_keep wsX4_keep ({ frames := 8, cells := 1, slots := 6, locals := 110 }) (va_Pc [.ref tp] (PREE (dC, dI) (tyL cI cII cJ cJJ) (wTop tp ly lyg lyt LYG LYT tl tlg tlt TLG TLT ne neg net NEG NET su sug sut SUG SUT kp kr KH km sw tps rt pl P st my co C la lag lat LG LT po pog pot OG OT cJ cJJ cI cII mo eo dg to er n E DG tr T) sz)) (fun _ _ _ _ => False) (XT exS (dC, dI) (tyL cI cII cJ cJJ) (wTop tp ly lyg lyt LYG LYT tl tlg tlt TLG TLT ne neg net NEG NET su sug sut SUG SUT kp kr KH km sw tps rt pl P st my co C la lag lat LG LT po pog pot OG OT cJ cJJ cI cII mo eo dg to er n E DG tr T) (va_A (wTop tp ly lyg lyt LYG LYT tl tlg tlt TLG TLT ne neg net NEG NET su sug sut SUG SUT kp kr KH km sw tps rt pl P st my co C la lag lat LG LT po pog pot OG OT cJ cJJ cI cII mo eo dg to er n E DG tr T) sz)) 1 6 (va_A (wTop tp ly lyg lyt LYG LYT tl tlg tlt TLG TLT ne neg net NEG NET su sug sut SUG SUT kp kr KH km sw tps rt pl P st my co C la lag lat LG LT po pog pot OG OT cJ cJJ cI cII mo eo dg to er n E DG tr T) sz) := by
  refine vx_ofW (cc := cX4_keep) (maxL := 1) (ret := (some .int)) (by decide) rfl ?_
  intro p e s m args below meth c s₁ B hml hex hv
  obtain ⟨rfl, ⟨hsz, hP, hK, hD0⟩, hE⟩ := hv
  have hx := B.exec
  have hb := B.bytes
  have hlocks := B.notSynchronized
  have hts := atoms_spec (ws := wsX4_keep) B.pre
  have hown : s.vm.findClass RX4 = some m.cls := findClass_of_methodNamed B.named
  subst hsz
  have hD := hD0.self (sz := s.heap.size)
  generalize hAe : va_A (wTop tp ly lyg lyt LYG LYT tl tlg tlt TLG TLT ne neg net NEG NET su sug sut SUG SUT kp kr KH km sw tps rt pl P st my co C la lag lat LG LT po pog pot OG OT cJ cJJ cI cII mo eo dg to er n E DG tr T) s.heap.size = A at hD hE ⊢
  have hA : ∀ q : Nat, s.heap.size ≤ q → A q := fun q h => by rw [← hAe]; exact Or.inr h
  have hS : va_S A s.heap s.heap [] := va_S.rf
  have hl := lv_entry ([.ref tp]) (n := 1) (Nat.le_of_ble_eq_true rfl)
  rw [lg_entry_eq]
  generalize (lg_sl ([.ref tp]) ++ List.replicate (1 - (lg_sl ([.ref tp])).length) Slot.unset).toArray = ls at hl ⊢
  have hl : lv_has ls 1 [(0, .ref tp)] := hl
  have hi_X4 : ∀ w ∈ u_ws RX4 TX4 11, w ∈ wsX4_keep := by decide +kernel
  have hf_118 := hts (.fieldLink RX4 118 "Topplemoor" "keptMany" "I") (by decide +kernel)
  have hf_21 := hts (.fieldLink RX4 21 "Topplemoor" "lying" "LTopplemoor$Heap;") (by decide +kernel)
  have hi_X0 : ∀ w ∈ u_ws RX0 TX0 3, w ∈ wsX4_keep := by decide +kernel
  have hf_89 := hts (.fieldLink RX4 89 "Topplemoor$Heap" "grains" "[I") (by decide +kernel)
  have hf_50 := hts (.fieldLink RX4 50 "Topplemoor" "keptHeaps" "[[I") (by decide +kernel)
  have hm_l := hts (.methodLink RX4 123 arraycopyName) (by decide +kernel)
  have hm_n := hts (.native arraycopyName) (by decide +kernel)
  have hm_s := hts (.static arraycopyName) (by decide +kernel)
  have hm_i := hts (.initialized "java/lang/System") (by decide +kernel)
  refine lv_aload_n hx hb dX4_keep_0 rfl (lv_at hl 0 rfl) ?_
  refine va_get (D := (dC, dI)) (ci := kX4) (v := .int (nI km)) (C := RX4) (T := TX4) (N := 11) hx hb hts hi_X4 hown hK hP 0 rfl rfl 8 (by decide) hf_118 (fun _ h9 => h9) rfl dX4_keep_1 ?_
  refine lv_iconst (v := nI 4) hx hb dX4_keep_4 (by decide) ?_
  refine kt_ilt (i := km) (n := 4) (tgt := 18) hx hb (by omega) (by omega) dX4_keep_5 (by decide) (fun c5 => ?_) (fun c5 => ?_)
  · omega
  · exact kt_throw exS 57 121 61 "there are 4 heaps" hx hb hlt hown (by decide) ex_ng_S ex_ot_S hts (by decide +kernel) (hE.castS) hE (by decide) hP hK hD hS (hl.1.trans hml.symm) dX4_keep_8 dX4_keep_11 dX4_keep_12 dX4_keep_14 dX4_keep_17 (fun x h => (hex x h).elim) (by decide) (by decide) (by decide) (by decide) hlocks (by decide) (by decide)

set_option maxHeartbeats 4000000 in
set_option maxRecDepth 100000 in
theorem x_X4_settle_fast (l : Launch) (dC : Nat → ClassId) (dI : Nat → Nat → Nat) (cI cII cJ cJJ : ClassId) (tp : Nat) (ly : Nat) (lyg : Nat) (lyt : Nat) (LYG : Nat → Int32) (LYT : Nat → Int32) (tl : Nat) (tlg : Nat) (tlt : Nat) (TLG : Nat → Int32) (TLT : Nat → Int32) (ne : Nat) (neg : Nat) (net : Nat) (NEG : Nat → Int32) (NET : Nat → Int32) (su : Nat) (sug : Nat) (sut : Nat) (SUG : Nat → Int32) (SUT : Nat → Int32) (kp : Nat) (kr : Nat → Nat) (KH : Nat → Nat → Int32) (km : Nat) (sw : Int32) (tps : Int32) (rt : Nat) (pl : Nat) (P : Nat → Int32) (st : Int32) (my : Nat) (co : Nat) (C : Nat → Int32) (la : Nat) (lag : Nat) (lat : Nat) (LG : Nat → Int32) (LT : Nat → Int32) (po : Nat) (pog : Nat) (pot : Nat) (OG : Nat → Int32) (OT : Nat → Int32) (mo : Nat) (eo : Nat) (dg : Nat) (to : Nat) (er : Nat → Nat) (n : Nat) (E : Nat → Nat → Int32) (DG : Nat → Int32) (tr : Nat → Nat) (T : Nat → Nat → Int64) (hlt : l.stackTraces = false)  (sz : Nat) (hn : n ≤ 6) (hv9 : fastB n E = false) : vx_Met l yX4_settle wsX4_settle ({ frames := 8, cells := 1, slots := 6, locals := 110 }) (va_Pc [.ref tp] (PREE (dC, dI) (tyL cI cII cJ cJJ) (wTop tp ly lyg lyt LYG LYT tl tlg tlt TLG TLT ne neg net NEG NET su sug sut SUG SUT kp kr KH km sw tps rt pl P st my co C la lag lat LG LT po pog pot OG OT cJ cJJ cI cII mo eo dg to er n E DG tr T) sz)) (fun _ _ _ _ => False) (XT exS (dC, dI) (tyL cI cII cJ cJJ) (wTop tp ly lyg lyt LYG LYT tl tlg tlt TLG TLT ne neg net NEG NET su sug sut SUG SUT kp kr KH km sw tps rt pl P st my co C la lag lat LG LT po pog pot OG OT cJ cJJ cI cII mo eo dg to er n E DG tr T) (va_A (wTop tp ly lyg lyt LYG LYT tl tlg tlt TLG TLT ne neg net NEG NET su sug sut SUG SUT kp kr KH km sw tps rt pl P st my co C la lag lat LG LT po pog pot OG OT cJ cJJ cI cII mo eo dg to er n E DG tr T) sz)) 1 6 (va_A (wTop tp ly lyg lyt LYG LYT tl tlg tlt TLG TLT ne neg net NEG NET su sug sut SUG SUT kp kr KH km sw tps rt pl P st my co C la lag lat LG LT po pog pot OG OT cJ cJJ cI cII mo eo dg to er n E DG tr T) sz) := by
  refine vx_ofW (cc := cX4_settle) (maxL := 1) (ret := (some .int)) (by decide) rfl ?_
  intro p e s m args below meth c s₁ B hml hex hv
  obtain ⟨rfl, ⟨hsz, hP, hK, hD0⟩, hE⟩ := hv
  have hx := B.exec
  have hb := B.bytes
  have hlocks := B.notSynchronized
  have hts := atoms_spec (ws := wsX4_settle) B.pre
  have hown : s.vm.findClass RX4 = some m.cls := findClass_of_methodNamed B.named
  subst hsz
  have hD := hD0.self (sz := s.heap.size)
  generalize hAe : va_A (wTop tp ly lyg lyt LYG LYT tl tlg tlt TLG TLT ne neg net NEG NET su sug sut SUG SUT kp kr KH km sw tps rt pl P st my co C la lag lat LG LT po pog pot OG OT cJ cJJ cI cII mo eo dg to er n E DG tr T) s.heap.size = A at hD hE ⊢
  have hA : ∀ q : Nat, s.heap.size ≤ q → A q := fun q h => by rw [← hAe]; exact Or.inr h
  have hS : va_S A s.heap s.heap [] := va_S.rf
  have hl := lv_entry ([.ref tp]) (n := 1) (Nat.le_of_ble_eq_true rfl)
  rw [lg_entry_eq]
  generalize (lg_sl ([.ref tp]) ++ List.replicate (1 - (lg_sl ([.ref tp])).length) Slot.unset).toArray = ls at hl ⊢
  have hl : lv_has ls 1 [(0, .ref tp)] := hl
  refine lv_aload_n hx hb dX4_settle_0 rfl (lv_at hl 0 rfl) ?_
  exact kt_xcallv (rest := []) (As := []) ⟨hx, hb, hml, hown, hts⟩ (x_X4_requireFast l dC dI cI cII cJ cJJ tp ly lyg lyt LYG LYT tl tlg tlt TLG TLT ne neg net NEG NET su sug sut SUG SUT kp kr KH km sw tps rt pl P st my co C la lag lat LG LT po pog pot OG OT mo eo dg to er n E DG tr T hlt _ hn hv9) (cwV 0 hts gX4_settle_X4_requireFast rfl rfl rfl (by decide +kernel) ⟨Nat.le_of_ble_eq_true rfl, Nat.le_of_ble_eq_true rfl⟩) hK hP hD hS hA hE (List.range' 0 45) sw_wTop_wTop_0 rfl 0 kX4 rfl rfl rfl rfl rfl hl.1 (Nat.le_of_ble_eq_true rfl) dX4_settle_1 ⟨by decide, by decide⟩ hex hlocks (by decide) (by decide)

set_option maxHeartbeats 4000000 in
set_option maxRecDepth 100000 in
theorem x_X4_pay_node (l : Launch) (dC : Nat → ClassId) (dI : Nat → Nat → Nat) (cI cII cJ cJJ : ClassId) (tp : Nat) (ly : Nat) (lyg : Nat) (lyt : Nat) (LYG : Nat → Int32) (LYT : Nat → Int32) (tl : Nat) (tlg : Nat) (tlt : Nat) (TLG : Nat → Int32) (TLT : Nat → Int32) (ne : Nat) (neg : Nat) (net : Nat) (NEG : Nat → Int32) (NET : Nat → Int32) (su : Nat) (sug : Nat) (sut : Nat) (SUG : Nat → Int32) (SUT : Nat → Int32) (kp : Nat) (kr : Nat → Nat) (KH : Nat → Nat → Int32) (km : Nat) (sw : Int32) (tps : Int32) (rt : Nat) (pl : Nat) (P : Nat → Int32) (st : Int32) (my : Nat) (co : Nat) (C : Nat → Int32) (la : Nat) (lag : Nat) (lat : Nat) (LG : Nat → Int32) (LT : Nat → Int32) (po : Nat) (pog : Nat) (pot : Nat) (OG : Nat → Int32) (OT : Nat → Int32) (mo : Nat) (eo : Nat) (dg : Nat) (to : Nat) (er : Nat → Nat) (n : Nat) (E : Nat → Nat → Int32) (DG : Nat → Int32) (tr : Nat → Nat) (T : Nat → Nat → Int64) (hlt : l.stackTraces = false) (v q : Int32) (sz : Nat) (hn : n ≤ 6) (hv9 : isNodeB n v = false) : vx_Met l yX4_pay wsX4_pay ({ frames := 8, cells := 1, slots := 6, locals := 110 }) (va_Pc [.ref tp, .int v, .int q] (PREE (dC, dI) (tyL cI cII cJ cJJ) (wTop tp ly lyg lyt LYG LYT tl tlg tlt TLG TLT ne neg net NEG NET su sug sut SUG SUT kp kr KH km sw tps rt pl P st my co C la lag lat LG LT po pog pot OG OT cJ cJJ cI cII mo eo dg to er n E DG tr T) sz)) (fun _ _ _ _ => False) (XT exI (dC, dI) (tyL cI cII cJ cJJ) (wTop tp ly lyg lyt LYG LYT tl tlg tlt TLG TLT ne neg net NEG NET su sug sut SUG SUT kp kr KH km sw tps rt pl P st my co C la lag lat LG LT po pog pot OG OT cJ cJJ cI cII mo eo dg to er n E DG tr T) (va_A (wTop tp ly lyg lyt LYG LYT tl tlg tlt TLG TLT ne neg net NEG NET su sug sut SUG SUT kp kr KH km sw tps rt pl P st my co C la lag lat LG LT po pog pot OG OT cJ cJJ cI cII mo eo dg to er n E DG tr T) sz)) 1 6 (va_A (wTop tp ly lyg lyt LYG LYT tl tlg tlt TLG TLT ne neg net NEG NET su sug sut SUG SUT kp kr KH km sw tps rt pl P st my co C la lag lat LG LT po pog pot OG OT cJ cJJ cI cII mo eo dg to er n E DG tr T) sz) := by
  refine vx_ofW (cc := cX4_pay) (maxL := 3) (ret := (some .int)) (by decide) rfl ?_
  intro p e s m args below meth c s₁ B hml hex hv
  obtain ⟨rfl, ⟨hsz, hP, hK, hD0⟩, hE⟩ := hv
  have hx := B.exec
  have hb := B.bytes
  have hlocks := B.notSynchronized
  have hts := atoms_spec (ws := wsX4_pay) B.pre
  have hown : s.vm.findClass RX4 = some m.cls := findClass_of_methodNamed B.named
  subst hsz
  have hD := hD0.self (sz := s.heap.size)
  generalize hAe : va_A (wTop tp ly lyg lyt LYG LYT tl tlg tlt TLG TLT ne neg net NEG NET su sug sut SUG SUT kp kr KH km sw tps rt pl P st my co C la lag lat LG LT po pog pot OG OT cJ cJJ cI cII mo eo dg to er n E DG tr T) s.heap.size = A at hD hE ⊢
  have hA : ∀ q : Nat, s.heap.size ≤ q → A q := fun q h => by rw [← hAe]; exact Or.inr h
  have hS : va_S A s.heap s.heap [] := va_S.rf
  have hl := lv_entry ([.ref tp, .int v, .int q]) (n := 3) (Nat.le_of_ble_eq_true rfl)
  rw [lg_entry_eq]
  generalize (lg_sl ([.ref tp, .int v, .int q]) ++ List.replicate (3 - (lg_sl ([.ref tp, .int v, .int q])).length) Slot.unset).toArray = ls at hl ⊢
  have hl : lv_has ls 3 [(0, .ref tp), (1, .int v), (2, .int q)] := hl
  have hi_X4 : ∀ w ∈ u_ws RX4 TX4 11, w ∈ wsX4_pay := by decide +kernel
  have hf_44 := hts (.fieldLink RX4 44 "Topplemoor" "money" "LTopplemoor$Money;") (by decide +kernel)
  have hi_X1 : ∀ w ∈ u_ws RX1 TX1 4, w ∈ wsX4_pay := by decide +kernel
  have hf_149 := hts (.fieldLink RX4 149 "Topplemoor$Money" "coins" "[I") (by decide +kernel)
  refine lv_aload_n hx hb dX4_pay_0 rfl (lv_at hl 0 rfl) ?_
  refine lv_iload_n hx hb dX4_pay_1 rfl (lv_at hl 1 rfl) ?_
  exact kt_xcallv (rest := []) (As := [.int v]) ⟨hx, hb, hml, hown, hts⟩ (x_X4_requireNode l dC dI cI cII cJ cJJ tp ly lyg lyt LYG LYT tl tlg tlt TLG TLT ne neg net NEG NET su sug sut SUG SUT kp kr KH km sw tps rt pl P st my co C la lag lat LG LT po pog pot OG OT mo eo dg to er n E DG tr T hlt v _ hn hv9) (cwV 1 hts gX4_pay_X4_requireNode rfl rfl rfl (by decide +kernel) ⟨Nat.le_of_ble_eq_true rfl, Nat.le_of_ble_eq_true rfl⟩) hK hP hD hS hA hE (List.range' 0 45) sw_wTop_wTop_0 rfl 0 kX4 rfl rfl rfl rfl rfl hl.1 (Nat.le_of_ble_eq_true rfl) dX4_pay_2 ⟨by decide, by decide⟩ hex hlocks (by decide) (by decide)

set_option maxHeartbeats 4000000 in
set_option maxRecDepth 100000 in
theorem x_X4_pay_within (l : Launch) (dC : Nat → ClassId) (dI : Nat → Nat → Nat) (cI cII cJ cJJ : ClassId) (tp : Nat) (ly : Nat) (lyg : Nat) (lyt : Nat) (LYG : Nat → Int32) (LYT : Nat → Int32) (tl : Nat) (tlg : Nat) (tlt : Nat) (TLG : Nat → Int32) (TLT : Nat → Int32) (ne : Nat) (neg : Nat) (net : Nat) (NEG : Nat → Int32) (NET : Nat → Int32) (su : Nat) (sug : Nat) (sut : Nat) (SUG : Nat → Int32) (SUT : Nat → Int32) (kp : Nat) (kr : Nat → Nat) (KH : Nat → Nat → Int32) (km : Nat) (sw : Int32) (tps : Int32) (rt : Nat) (pl : Nat) (P : Nat → Int32) (st : Int32) (my : Nat) (co : Nat) (C : Nat → Int32) (la : Nat) (lag : Nat) (lat : Nat) (LG : Nat → Int32) (LT : Nat → Int32) (po : Nat) (pog : Nat) (pot : Nat) (OG : Nat → Int32) (OT : Nat → Int32) (mo : Nat) (eo : Nat) (dg : Nat) (to : Nat) (er : Nat → Nat) (n : Nat) (E : Nat → Nat → Int32) (DG : Nat → Int32) (tr : Nat → Nat) (T : Nat → Nat → Int64) (hlt : l.stackTraces = false) (a : Nat) (q : Int32) (sz : Nat) (hn : n ≤ 6) (ha : a < n ∨ a = 6) (hv9 : q < -9 ∨ ¬ q ≤ 9) : vx_Met l yX4_pay wsX4_pay ({ frames := 8, cells := 1, slots := 6, locals := 110 }) (va_Pc [.ref tp, .int (nI a), .int q] (PREE (dC, dI) (tyL cI cII cJ cJJ) (wTop tp ly lyg lyt LYG LYT tl tlg tlt TLG TLT ne neg net NEG NET su sug sut SUG SUT kp kr KH km sw tps rt pl P st my co C la lag lat LG LT po pog pot OG OT cJ cJJ cI cII mo eo dg to er n E DG tr T) sz)) (fun _ _ _ _ => False) (XT exA (dC, dI) (tyL cI cII cJ cJJ) (wTop tp ly lyg lyt LYG LYT tl tlg tlt TLG TLT ne neg net NEG NET su sug sut SUG SUT kp kr KH km sw tps rt pl P st my co C la lag lat LG LT po pog pot OG OT cJ cJJ cI cII mo eo dg to er n E DG tr T) (va_A (wTop tp ly lyg lyt LYG LYT tl tlg tlt TLG TLT ne neg net NEG NET su sug sut SUG SUT kp kr KH km sw tps rt pl P st my co C la lag lat LG LT po pog pot OG OT cJ cJJ cI cII mo eo dg to er n E DG tr T) sz)) 1 6 (va_A (wTop tp ly lyg lyt LYG LYT tl tlg tlt TLG TLT ne neg net NEG NET su sug sut SUG SUT kp kr KH km sw tps rt pl P st my co C la lag lat LG LT po pog pot OG OT cJ cJJ cI cII mo eo dg to er n E DG tr T) sz) := by
  refine vx_ofW (cc := cX4_pay) (maxL := 3) (ret := (some .int)) (by decide) rfl ?_
  intro p e s m args below meth c s₁ B hml hex hv
  obtain ⟨rfl, ⟨hsz, hP, hK, hD0⟩, hE⟩ := hv
  have hx := B.exec
  have hb := B.bytes
  have hlocks := B.notSynchronized
  have hts := atoms_spec (ws := wsX4_pay) B.pre
  have hown : s.vm.findClass RX4 = some m.cls := findClass_of_methodNamed B.named
  subst hsz
  have hD := hD0.self (sz := s.heap.size)
  generalize hAe : va_A (wTop tp ly lyg lyt LYG LYT tl tlg tlt TLG TLT ne neg net NEG NET su sug sut SUG SUT kp kr KH km sw tps rt pl P st my co C la lag lat LG LT po pog pot OG OT cJ cJJ cI cII mo eo dg to er n E DG tr T) s.heap.size = A at hD hE ⊢
  have hA : ∀ q : Nat, s.heap.size ≤ q → A q := fun q h => by rw [← hAe]; exact Or.inr h
  have hS : va_S A s.heap s.heap [] := va_S.rf
  have hl := lv_entry ([.ref tp, .int (nI a), .int q]) (n := 3) (Nat.le_of_ble_eq_true rfl)
  rw [lg_entry_eq]
  generalize (lg_sl ([.ref tp, .int (nI a), .int q]) ++ List.replicate (3 - (lg_sl ([.ref tp, .int (nI a), .int q])).length) Slot.unset).toArray = ls at hl ⊢
  have hl : lv_has ls 3 [(0, .ref tp), (1, .int (nI a)), (2, .int q)] := hl
  have hi_X4 : ∀ w ∈ u_ws RX4 TX4 11, w ∈ wsX4_pay := by decide +kernel
  have hf_44 := hts (.fieldLink RX4 44 "Topplemoor" "money" "LTopplemoor$Money;") (by decide +kernel)
  have hi_X1 : ∀ w ∈ u_ws RX1 TX1 4, w ∈ wsX4_pay := by decide +kernel
  have hf_149 := hts (.fieldLink RX4 149 "Topplemoor$Money" "coins" "[I") (by decide +kernel)
  refine lv_aload_n hx hb dX4_pay_0 rfl (lv_at hl 0 rfl) ?_
  refine lv_iload_n hx hb dX4_pay_1 rfl (lv_at hl 1 rfl) ?_
  refine kt_callv (w' := wTop tp ly lyg lyt LYG LYT tl tlg tlt TLG TLT ne neg net NEG NET su sug sut SUG SUT kp kr KH km sw tps rt pl P st my co C la lag lat LG LT po pog pot OG OT cJ cJJ cI cII mo eo dg to er n E DG tr T) (rest := []) (As := [.int (nI a)]) ⟨hx, hb, hml, hown, hts⟩ (c_X4_requireNode l dC dI cI cII cJ cJJ tp ly lyg lyt LYG LYT tl tlg tlt TLG TLT ne neg net NEG NET su sug sut SUG SUT kp kr KH km sw tps rt pl P st my co C la lag lat LG LT po pog pot OG OT mo eo dg to er n E DG tr T a _ (hn) (ha)) (cwV 1 hts gX4_pay_X4_requireNode rfl rfl rfl (by decide +kernel) ⟨Nat.le_of_ble_eq_true rfl, Nat.le_of_ble_eq_true rfl⟩) hK hP hD hS hA (List.range' 0 45) sw_wTop_wTop_0 rfl 0 kX4 rfl rfl rfl rfl rfl hl.1 (Nat.le_of_ble_eq_true rfl) dX4_pay_2 ⟨Nat.zero_le _, Nat.zero_le _⟩ (fun H locs hP hD hS => ?_)
  refine lv_iload_n hx hb dX4_pay_5 rfl (lv_at hl 2 rfl) ?_
  refine lv_bipush (v := (-9)) hx hb dX4_pay_6 (by decide) ?_
  refine lv_bipush (v := 9) hx hb dX4_pay_8 (by decide) ?_
  exact kt_xcallS (rest := []) (As := [.int q, .int (-9), .int 9]) ⟨hx, hb, hml, hown, hts⟩ (x_X4_requireWithin l dC dI cI cII cJ cJJ hlt q (-9) 9 _ hv9) (va_cwS 3 hts gX4_pay_X4_requireWithin rfl rfl rfl (by decide +kernel) ⟨Nat.le_of_ble_eq_true rfl, Nat.le_of_ble_eq_true rfl⟩) hK hP hD hS hA hE [] sw_wTop_wE_0 rfl rfl rfl hl.1 (Nat.le_of_ble_eq_true rfl) dX4_pay_10 ⟨by decide, by decide⟩ hex hlocks (by decide) (by decide)

set_option maxHeartbeats 4000000 in
set_option maxRecDepth 100000 in
theorem x_X4_lend_node (l : Launch) (dC : Nat → ClassId) (dI : Nat → Nat → Nat) (cI cII cJ cJJ : ClassId) (tp : Nat) (ly : Nat) (lyg : Nat) (lyt : Nat) (LYG : Nat → Int32) (LYT : Nat → Int32) (tl : Nat) (tlg : Nat) (tlt : Nat) (TLG : Nat → Int32) (TLT : Nat → Int32) (ne : Nat) (neg : Nat) (net : Nat) (NEG : Nat → Int32) (NET : Nat → Int32) (su : Nat) (sug : Nat) (sut : Nat) (SUG : Nat → Int32) (SUT : Nat → Int32) (kp : Nat) (kr : Nat → Nat) (KH : Nat → Nat → Int32) (km : Nat) (sw : Int32) (tps : Int32) (rt : Nat) (pl : Nat) (P : Nat → Int32) (st : Int32) (my : Nat) (co : Nat) (C : Nat → Int32) (la : Nat) (lag : Nat) (lat : Nat) (LG : Nat → Int32) (LT : Nat → Int32) (po : Nat) (pog : Nat) (pot : Nat) (OG : Nat → Int32) (OT : Nat → Int32) (mo : Nat) (eo : Nat) (dg : Nat) (to : Nat) (er : Nat → Nat) (n : Nat) (E : Nat → Nat → Int32) (DG : Nat → Int32) (tr : Nat → Nat) (T : Nat → Nat → Int64) (hlt : l.stackTraces = false) (v z : Int32) (sz : Nat) (hn : n ≤ 6) (hv9 : isNodeB n v = false) : vx_Met l yX4_lend wsX4_lend ({ frames := 8, cells := 1, slots := 6, locals := 110 }) (va_Pc [.ref tp, .int v, .int z] (PREE (dC, dI) (tyL cI cII cJ cJJ) (wTop tp ly lyg lyt LYG LYT tl tlg tlt TLG TLT ne neg net NEG NET su sug sut SUG SUT kp kr KH km sw tps rt pl P st my co C la lag lat LG LT po pog pot OG OT cJ cJJ cI cII mo eo dg to er n E DG tr T) sz)) (fun _ _ _ _ => False) (XT exI (dC, dI) (tyL cI cII cJ cJJ) (wTop tp ly lyg lyt LYG LYT tl tlg tlt TLG TLT ne neg net NEG NET su sug sut SUG SUT kp kr KH km sw tps rt pl P st my co C la lag lat LG LT po pog pot OG OT cJ cJJ cI cII mo eo dg to er n E DG tr T) (va_A (wTop tp ly lyg lyt LYG LYT tl tlg tlt TLG TLT ne neg net NEG NET su sug sut SUG SUT kp kr KH km sw tps rt pl P st my co C la lag lat LG LT po pog pot OG OT cJ cJJ cI cII mo eo dg to er n E DG tr T) sz)) 1 6 (va_A (wTop tp ly lyg lyt LYG LYT tl tlg tlt TLG TLT ne neg net NEG NET su sug sut SUG SUT kp kr KH km sw tps rt pl P st my co C la lag lat LG LT po pog pot OG OT cJ cJJ cI cII mo eo dg to er n E DG tr T) sz) := by
  refine vx_ofW (cc := cX4_lend) (maxL := 3) (ret := (some .int)) (by decide) rfl ?_
  intro p e s m args below meth c s₁ B hml hex hv
  obtain ⟨rfl, ⟨hsz, hP, hK, hD0⟩, hE⟩ := hv
  have hx := B.exec
  have hb := B.bytes
  have hlocks := B.notSynchronized
  have hts := atoms_spec (ws := wsX4_lend) B.pre
  have hown : s.vm.findClass RX4 = some m.cls := findClass_of_methodNamed B.named
  subst hsz
  have hD := hD0.self (sz := s.heap.size)
  generalize hAe : va_A (wTop tp ly lyg lyt LYG LYT tl tlg tlt TLG TLT ne neg net NEG NET su sug sut SUG SUT kp kr KH km sw tps rt pl P st my co C la lag lat LG LT po pog pot OG OT cJ cJJ cI cII mo eo dg to er n E DG tr T) s.heap.size = A at hD hE ⊢
  have hA : ∀ q : Nat, s.heap.size ≤ q → A q := fun q h => by rw [← hAe]; exact Or.inr h
  have hS : va_S A s.heap s.heap [] := va_S.rf
  have hl := lv_entry ([.ref tp, .int v, .int z]) (n := 3) (Nat.le_of_ble_eq_true rfl)
  rw [lg_entry_eq]
  generalize (lg_sl ([.ref tp, .int v, .int z]) ++ List.replicate (3 - (lg_sl ([.ref tp, .int v, .int z])).length) Slot.unset).toArray = ls at hl ⊢
  have hl : lv_has ls 3 [(0, .ref tp), (1, .int v), (2, .int z)] := hl
  have hi_X4 : ∀ w ∈ u_ws RX4 TX4 11, w ∈ wsX4_lend := by decide +kernel
  have hf_44 := hts (.fieldLink RX4 44 "Topplemoor" "money" "LTopplemoor$Money;") (by decide +kernel)
  have hi_X1 : ∀ w ∈ u_ws RX1 TX1 4, w ∈ wsX4_lend := by decide +kernel
  have hf_149 := hts (.fieldLink RX4 149 "Topplemoor$Money" "coins" "[I") (by decide +kernel)
  refine lv_aload_n hx hb dX4_lend_0 rfl (lv_at hl 0 rfl) ?_
  refine lv_iload_n hx hb dX4_lend_1 rfl (lv_at hl 1 rfl) ?_
  exact kt_xcallv (rest := []) (As := [.int v]) ⟨hx, hb, hml, hown, hts⟩ (x_X4_requireNode l dC dI cI cII cJ cJJ tp ly lyg lyt LYG LYT tl tlg tlt TLG TLT ne neg net NEG NET su sug sut SUG SUT kp kr KH km sw tps rt pl P st my co C la lag lat LG LT po pog pot OG OT mo eo dg to er n E DG tr T hlt v _ hn hv9) (cwV 1 hts gX4_lend_X4_requireNode rfl rfl rfl (by decide +kernel) ⟨Nat.le_of_ble_eq_true rfl, Nat.le_of_ble_eq_true rfl⟩) hK hP hD hS hA hE (List.range' 0 45) sw_wTop_wTop_0 rfl 0 kX4 rfl rfl rfl rfl rfl hl.1 (Nat.le_of_ble_eq_true rfl) dX4_lend_2 ⟨by decide, by decide⟩ hex hlocks (by decide) (by decide)

set_option maxHeartbeats 4000000 in
set_option maxRecDepth 100000 in
theorem x_X4_ofSpot_spot (l : Launch) (dC : Nat → ClassId) (dI : Nat → Nat → Nat) (cI cII cJ cJJ : ClassId) (tp : Nat) (ly : Nat) (lyg : Nat) (lyt : Nat) (LYG : Nat → Int32) (LYT : Nat → Int32) (tl : Nat) (tlg : Nat) (tlt : Nat) (TLG : Nat → Int32) (TLT : Nat → Int32) (ne : Nat) (neg : Nat) (net : Nat) (NEG : Nat → Int32) (NET : Nat → Int32) (su : Nat) (sug : Nat) (sut : Nat) (SUG : Nat → Int32) (SUT : Nat → Int32) (kp : Nat) (kr : Nat → Nat) (KH : Nat → Nat → Int32) (km : Nat) (sw : Int32) (tps : Int32) (rt : Nat) (pl : Nat) (P : Nat → Int32) (st : Int32) (my : Nat) (co : Nat) (C : Nat → Int32) (la : Nat) (lag : Nat) (lat : Nat) (LG : Nat → Int32) (LT : Nat → Int32) (po : Nat) (pog : Nat) (pot : Nat) (OG : Nat → Int32) (OT : Nat → Int32) (mo : Nat) (eo : Nat) (dg : Nat) (to : Nat) (er : Nat → Nat) (n : Nat) (E : Nat → Nat → Int32) (DG : Nat → Int32) (tr : Nat → Nat) (T : Nat → Nat → Int64) (hlt : l.stackTraces = false) (v v2 : Int32) (sz : Nat) (hn : n ≤ 6) (hv9 : isSpotB n v = false) : vx_Met l yX4_ofSpot wsX4_ofSpot ({ frames := 8, cells := 1, slots := 6, locals := 110 }) (va_Pc [.ref tp, .int v, .int v2] (PREE (dC, dI) (tyL cI cII cJ cJJ) (wTop tp ly lyg lyt LYG LYT tl tlg tlt TLG TLT ne neg net NEG NET su sug sut SUG SUT kp kr KH km sw tps rt pl P st my co C la lag lat LG LT po pog pot OG OT cJ cJJ cI cII mo eo dg to er n E DG tr T) sz)) (fun _ _ _ _ => False) (XT exI (dC, dI) (tyL cI cII cJ cJJ) (wTop tp ly lyg lyt LYG LYT tl tlg tlt TLG TLT ne neg net NEG NET su sug sut SUG SUT kp kr KH km sw tps rt pl P st my co C la lag lat LG LT po pog pot OG OT cJ cJJ cI cII mo eo dg to er n E DG tr T) (va_A (wTop tp ly lyg lyt LYG LYT tl tlg tlt TLG TLT ne neg net NEG NET su sug sut SUG SUT kp kr KH km sw tps rt pl P st my co C la lag lat LG LT po pog pot OG OT cJ cJJ cI cII mo eo dg to er n E DG tr T) sz)) 1 6 (va_A (wTop tp ly lyg lyt LYG LYT tl tlg tlt TLG TLT ne neg net NEG NET su sug sut SUG SUT kp kr KH km sw tps rt pl P st my co C la lag lat LG LT po pog pot OG OT cJ cJJ cI cII mo eo dg to er n E DG tr T) sz) := by
  refine vx_ofW (cc := cX4_ofSpot) (maxL := 3) (ret := (some .int)) (by decide) rfl ?_
  intro p e s m args below meth c s₁ B hml hex hv
  obtain ⟨rfl, ⟨hsz, hP, hK, hD0⟩, hE⟩ := hv
  have hx := B.exec
  have hb := B.bytes
  have hlocks := B.notSynchronized
  have hts := atoms_spec (ws := wsX4_ofSpot) B.pre
  have hown : s.vm.findClass RX4 = some m.cls := findClass_of_methodNamed B.named
  subst hsz
  have hD := hD0.self (sz := s.heap.size)
  generalize hAe : va_A (wTop tp ly lyg lyt LYG LYT tl tlg tlt TLG TLT ne neg net NEG NET su sug sut SUG SUT kp kr KH km sw tps rt pl P st my co C la lag lat LG LT po pog pot OG OT cJ cJJ cI cII mo eo dg to er n E DG tr T) s.heap.size = A at hD hE ⊢
  have hA : ∀ q : Nat, s.heap.size ≤ q → A q := fun q h => by rw [← hAe]; exact Or.inr h
  have hS : va_S A s.heap s.heap [] := va_S.rf
  have hl := lv_entry ([.ref tp, .int v, .int v2]) (n := 3) (Nat.le_of_ble_eq_true rfl)
  rw [lg_entry_eq]
  generalize (lg_sl ([.ref tp, .int v, .int v2]) ++ List.replicate (3 - (lg_sl ([.ref tp, .int v, .int v2])).length) Slot.unset).toArray = ls at hl ⊢
  have hl : lv_has ls 3 [(0, .ref tp), (1, .int v), (2, .int v2)] := hl
  refine lv_aload_n hx hb dX4_ofSpot_0 rfl (lv_at hl 0 rfl) ?_
  refine lv_iload_n hx hb dX4_ofSpot_1 rfl (lv_at hl 1 rfl) ?_
  exact kt_xcallv (rest := []) (As := [.int v]) ⟨hx, hb, hml, hown, hts⟩ (x_X4_requireSpot l dC dI cI cII cJ cJJ tp ly lyg lyt LYG LYT tl tlg tlt TLG TLT ne neg net NEG NET su sug sut SUG SUT kp kr KH km sw tps rt pl P st my co C la lag lat LG LT po pog pot OG OT mo eo dg to er n E DG tr T hlt v _ hn hv9) (cwV 1 hts gX4_ofSpot_X4_requireSpot rfl rfl rfl (by decide +kernel) ⟨Nat.le_of_ble_eq_true rfl, Nat.le_of_ble_eq_true rfl⟩) hK hP hD hS hA hE (List.range' 0 45) sw_wTop_wTop_0 rfl 0 kX4 rfl rfl rfl rfl rfl hl.1 (Nat.le_of_ble_eq_true rfl) dX4_ofSpot_2 ⟨by decide, by decide⟩ hex hlocks (by decide) (by decide)

set_option maxHeartbeats 4000000 in
set_option maxRecDepth 100000 in
theorem x_X4_ofSpot_within (l : Launch) (dC : Nat → ClassId) (dI : Nat → Nat → Nat) (cI cII cJ cJJ : ClassId) (tp : Nat) (ly : Nat) (lyg : Nat) (lyt : Nat) (LYG : Nat → Int32) (LYT : Nat → Int32) (tl : Nat) (tlg : Nat) (tlt : Nat) (TLG : Nat → Int32) (TLT : Nat → Int32) (ne : Nat) (neg : Nat) (net : Nat) (NEG : Nat → Int32) (NET : Nat → Int32) (su : Nat) (sug : Nat) (sut : Nat) (SUG : Nat → Int32) (SUT : Nat → Int32) (kp : Nat) (kr : Nat → Nat) (KH : Nat → Nat → Int32) (km : Nat) (sw : Int32) (tps : Int32) (rt : Nat) (pl : Nat) (P : Nat → Int32) (st : Int32) (my : Nat) (co : Nat) (C : Nat → Int32) (la : Nat) (lag : Nat) (lat : Nat) (LG : Nat → Int32) (LT : Nat → Int32) (po : Nat) (pog : Nat) (pot : Nat) (OG : Nat → Int32) (OT : Nat → Int32) (mo : Nat) (eo : Nat) (dg : Nat) (to : Nat) (er : Nat → Nat) (n : Nat) (E : Nat → Nat → Int32) (DG : Nat → Int32) (tr : Nat → Nat) (T : Nat → Nat → Int64) (hlt : l.stackTraces = false) (j : Nat) (q : Int32) (sz : Nat) (hn : n ≤ 6) (hj : j < n) (hv9 : q < 0 ∨ ¬ q ≤ 6) : vx_Met l yX4_ofSpot wsX4_ofSpot ({ frames := 8, cells := 1, slots := 6, locals := 110 }) (va_Pc [.ref tp, .int (nI j), .int q] (PREE (dC, dI) (tyL cI cII cJ cJJ) (wTop tp ly lyg lyt LYG LYT tl tlg tlt TLG TLT ne neg net NEG NET su sug sut SUG SUT kp kr KH km sw tps rt pl P st my co C la lag lat LG LT po pog pot OG OT cJ cJJ cI cII mo eo dg to er n E DG tr T) sz)) (fun _ _ _ _ => False) (XT exA (dC, dI) (tyL cI cII cJ cJJ) (wTop tp ly lyg lyt LYG LYT tl tlg tlt TLG TLT ne neg net NEG NET su sug sut SUG SUT kp kr KH km sw tps rt pl P st my co C la lag lat LG LT po pog pot OG OT cJ cJJ cI cII mo eo dg to er n E DG tr T) (va_A (wTop tp ly lyg lyt LYG LYT tl tlg tlt TLG TLT ne neg net NEG NET su sug sut SUG SUT kp kr KH km sw tps rt pl P st my co C la lag lat LG LT po pog pot OG OT cJ cJJ cI cII mo eo dg to er n E DG tr T) sz)) 1 6 (va_A (wTop tp ly lyg lyt LYG LYT tl tlg tlt TLG TLT ne neg net NEG NET su sug sut SUG SUT kp kr KH km sw tps rt pl P st my co C la lag lat LG LT po pog pot OG OT cJ cJJ cI cII mo eo dg to er n E DG tr T) sz) := by
  refine vx_ofW (cc := cX4_ofSpot) (maxL := 3) (ret := (some .int)) (by decide) rfl ?_
  intro p e s m args below meth c s₁ B hml hex hv
  obtain ⟨rfl, ⟨hsz, hP, hK, hD0⟩, hE⟩ := hv
  have hx := B.exec
  have hb := B.bytes
  have hlocks := B.notSynchronized
  have hts := atoms_spec (ws := wsX4_ofSpot) B.pre
  have hown : s.vm.findClass RX4 = some m.cls := findClass_of_methodNamed B.named
  subst hsz
  have hD := hD0.self (sz := s.heap.size)
  generalize hAe : va_A (wTop tp ly lyg lyt LYG LYT tl tlg tlt TLG TLT ne neg net NEG NET su sug sut SUG SUT kp kr KH km sw tps rt pl P st my co C la lag lat LG LT po pog pot OG OT cJ cJJ cI cII mo eo dg to er n E DG tr T) s.heap.size = A at hD hE ⊢
  have hA : ∀ q : Nat, s.heap.size ≤ q → A q := fun q h => by rw [← hAe]; exact Or.inr h
  have hS : va_S A s.heap s.heap [] := va_S.rf
  have hl := lv_entry ([.ref tp, .int (nI j), .int q]) (n := 3) (Nat.le_of_ble_eq_true rfl)
  rw [lg_entry_eq]
  generalize (lg_sl ([.ref tp, .int (nI j), .int q]) ++ List.replicate (3 - (lg_sl ([.ref tp, .int (nI j), .int q])).length) Slot.unset).toArray = ls at hl ⊢
  have hl : lv_has ls 3 [(0, .ref tp), (1, .int (nI j)), (2, .int q)] := hl
  refine lv_aload_n hx hb dX4_ofSpot_0 rfl (lv_at hl 0 rfl) ?_
  refine lv_iload_n hx hb dX4_ofSpot_1 rfl (lv_at hl 1 rfl) ?_
  refine kt_callv (w' := wTop tp ly lyg lyt LYG LYT tl tlg tlt TLG TLT ne neg net NEG NET su sug sut SUG SUT kp kr KH km sw tps rt pl P st my co C la lag lat LG LT po pog pot OG OT cJ cJJ cI cII mo eo dg to er n E DG tr T) (rest := []) (As := [.int (nI j)]) ⟨hx, hb, hml, hown, hts⟩ (c_X4_requireSpot l dC dI cI cII cJ cJJ tp ly lyg lyt LYG LYT tl tlg tlt TLG TLT ne neg net NEG NET su sug sut SUG SUT kp kr KH km sw tps rt pl P st my co C la lag lat LG LT po pog pot OG OT mo eo dg to er n E DG tr T j _ (hn) (hj)) (cwV 1 hts gX4_ofSpot_X4_requireSpot rfl rfl rfl (by decide +kernel) ⟨Nat.le_of_ble_eq_true rfl, Nat.le_of_ble_eq_true rfl⟩) hK hP hD hS hA (List.range' 0 45) sw_wTop_wTop_0 rfl 0 kX4 rfl rfl rfl rfl rfl hl.1 (Nat.le_of_ble_eq_true rfl) dX4_ofSpot_2 ⟨Nat.zero_le _, Nat.zero_le _⟩ (fun H locs hP hD hS => ?_)
  refine lv_iload_n hx hb dX4_ofSpot_5 rfl (lv_at hl 2 rfl) ?_
  refine lv_iconst (v := 0) hx hb dX4_ofSpot_6 (by decide) ?_
  refine lv_bipush (v := 6) hx hb dX4_ofSpot_7 (by decide) ?_
  exact kt_xcallS (rest := []) (As := [.int q, .int 0, .int 6]) ⟨hx, hb, hml, hown, hts⟩ (x_X4_requireWithin l dC dI cI cII cJ cJJ hlt q 0 6 _ hv9) (va_cwS 3 hts gX4_ofSpot_X4_requireWithin rfl rfl rfl (by decide +kernel) ⟨Nat.le_of_ble_eq_true rfl, Nat.le_of_ble_eq_true rfl⟩) hK hP hD hS hA hE [] sw_wTop_wE_0 rfl rfl rfl hl.1 (Nat.le_of_ble_eq_true rfl) dX4_ofSpot_9 ⟨by decide, by decide⟩ hex hlocks (by decide) (by decide)

set_option maxHeartbeats 4000000 in
set_option maxRecDepth 100000 in
theorem x_X4_between_a (l : Launch) (dC : Nat → ClassId) (dI : Nat → Nat → Nat) (cI cII cJ cJJ : ClassId) (tp : Nat) (ly : Nat) (lyg : Nat) (lyt : Nat) (LYG : Nat → Int32) (LYT : Nat → Int32) (tl : Nat) (tlg : Nat) (tlt : Nat) (TLG : Nat → Int32) (TLT : Nat → Int32) (ne : Nat) (neg : Nat) (net : Nat) (NEG : Nat → Int32) (NET : Nat → Int32) (su : Nat) (sug : Nat) (sut : Nat) (SUG : Nat → Int32) (SUT : Nat → Int32) (kp : Nat) (kr : Nat → Nat) (KH : Nat → Nat → Int32) (km : Nat) (sw : Int32) (tps : Int32) (rt : Nat) (pl : Nat) (P : Nat → Int32) (st : Int32) (my : Nat) (co : Nat) (C : Nat → Int32) (la : Nat) (lag : Nat) (lat : Nat) (LG : Nat → Int32) (LT : Nat → Int32) (po : Nat) (pog : Nat) (pot : Nat) (OG : Nat → Int32) (OT : Nat → Int32) (mo : Nat) (eo : Nat) (dg : Nat) (to : Nat) (er : Nat → Nat) (n : Nat) (E : Nat → Nat → Int32) (DG : Nat → Int32) (tr : Nat → Nat) (T : Nat → Nat → Int64) (hlt : l.stackTraces = false) (v v2 : Int32) (sz : Nat) (hn : n ≤ 6) (hv9 : isNodeB n v = false) : vx_Met l yX4_between wsX4_between ({ frames := 8, cells := 1, slots := 6, locals := 110 }) (va_Pc [.ref tp, .int v, .int v2] (PREE (dC, dI) (tyL cI cII cJ cJJ) (wTop tp ly lyg lyt LYG LYT tl tlg tlt TLG TLT ne neg net NEG NET su sug sut SUG SUT kp kr KH km sw tps rt pl P st my co C la lag lat LG LT po pog pot OG OT cJ cJJ cI cII mo eo dg to er n E DG tr T) sz)) (fun _ _ _ _ => False) (XT exI (dC, dI) (tyL cI cII cJ cJJ) (wTop tp ly lyg lyt LYG LYT tl tlg tlt TLG TLT ne neg net NEG NET su sug sut SUG SUT kp kr KH km sw tps rt pl P st my co C la lag lat LG LT po pog pot OG OT cJ cJJ cI cII mo eo dg to er n E DG tr T) (va_A (wTop tp ly lyg lyt LYG LYT tl tlg tlt TLG TLT ne neg net NEG NET su sug sut SUG SUT kp kr KH km sw tps rt pl P st my co C la lag lat LG LT po pog pot OG OT cJ cJJ cI cII mo eo dg to er n E DG tr T) sz)) 1 6 (va_A (wTop tp ly lyg lyt LYG LYT tl tlg tlt TLG TLT ne neg net NEG NET su sug sut SUG SUT kp kr KH km sw tps rt pl P st my co C la lag lat LG LT po pog pot OG OT cJ cJJ cI cII mo eo dg to er n E DG tr T) sz) := by
  refine vx_ofW (cc := cX4_between) (maxL := 3) (ret := (some .int)) (by decide) rfl ?_
  intro p e s m args below meth c s₁ B hml hex hv
  obtain ⟨rfl, ⟨hsz, hP, hK, hD0⟩, hE⟩ := hv
  have hx := B.exec
  have hb := B.bytes
  have hlocks := B.notSynchronized
  have hts := atoms_spec (ws := wsX4_between) B.pre
  have hown : s.vm.findClass RX4 = some m.cls := findClass_of_methodNamed B.named
  subst hsz
  have hD := hD0.self (sz := s.heap.size)
  generalize hAe : va_A (wTop tp ly lyg lyt LYG LYT tl tlg tlt TLG TLT ne neg net NEG NET su sug sut SUG SUT kp kr KH km sw tps rt pl P st my co C la lag lat LG LT po pog pot OG OT cJ cJJ cI cII mo eo dg to er n E DG tr T) s.heap.size = A at hD hE ⊢
  have hA : ∀ q : Nat, s.heap.size ≤ q → A q := fun q h => by rw [← hAe]; exact Or.inr h
  have hS : va_S A s.heap s.heap [] := va_S.rf
  have hl := lv_entry ([.ref tp, .int v, .int v2]) (n := 3) (Nat.le_of_ble_eq_true rfl)
  rw [lg_entry_eq]
  generalize (lg_sl ([.ref tp, .int v, .int v2]) ++ List.replicate (3 - (lg_sl ([.ref tp, .int v, .int v2])).length) Slot.unset).toArray = ls at hl ⊢
  have hl : lv_has ls 3 [(0, .ref tp), (1, .int v), (2, .int v2)] := hl
  have hi_X4 : ∀ w ∈ u_ws RX4 TX4 11, w ∈ wsX4_between := by decide +kernel
  have hf_10 := hts (.fieldLink RX4 10 "Topplemoor" "moor" "LTopplemoor$Moor;") (by decide +kernel)
  have hi_X2 : ∀ w ∈ u_ws RX2 TX2 4, w ∈ wsX4_between := by decide +kernel
  have hf_77 := hts (.fieldLink RX4 77 "Topplemoor$Moor" "edges" "[[I") (by decide +kernel)
  refine lv_aload_n hx hb dX4_between_0 rfl (lv_at hl 0 rfl) ?_
  refine lv_iload_n hx hb dX4_between_1 rfl (lv_at hl 1 rfl) ?_
  exact kt_xcallv (rest := []) (As := [.int v]) ⟨hx, hb, hml, hown, hts⟩ (x_X4_requireNode l dC dI cI cII cJ cJJ tp ly lyg lyt LYG LYT tl tlg tlt TLG TLT ne neg net NEG NET su sug sut SUG SUT kp kr KH km sw tps rt pl P st my co C la lag lat LG LT po pog pot OG OT mo eo dg to er n E DG tr T hlt v _ hn hv9) (cwV 1 hts gX4_between_X4_requireNode rfl rfl rfl (by decide +kernel) ⟨Nat.le_of_ble_eq_true rfl, Nat.le_of_ble_eq_true rfl⟩) hK hP hD hS hA hE (List.range' 0 45) sw_wTop_wTop_0 rfl 0 kX4 rfl rfl rfl rfl rfl hl.1 (Nat.le_of_ble_eq_true rfl) dX4_between_2 ⟨by decide, by decide⟩ hex hlocks (by decide) (by decide)

set_option maxHeartbeats 4000000 in
set_option maxRecDepth 100000 in
theorem x_X4_between_b (l : Launch) (dC : Nat → ClassId) (dI : Nat → Nat → Nat) (cI cII cJ cJJ : ClassId) (tp : Nat) (ly : Nat) (lyg : Nat) (lyt : Nat) (LYG : Nat → Int32) (LYT : Nat → Int32) (tl : Nat) (tlg : Nat) (tlt : Nat) (TLG : Nat → Int32) (TLT : Nat → Int32) (ne : Nat) (neg : Nat) (net : Nat) (NEG : Nat → Int32) (NET : Nat → Int32) (su : Nat) (sug : Nat) (sut : Nat) (SUG : Nat → Int32) (SUT : Nat → Int32) (kp : Nat) (kr : Nat → Nat) (KH : Nat → Nat → Int32) (km : Nat) (sw : Int32) (tps : Int32) (rt : Nat) (pl : Nat) (P : Nat → Int32) (st : Int32) (my : Nat) (co : Nat) (C : Nat → Int32) (la : Nat) (lag : Nat) (lat : Nat) (LG : Nat → Int32) (LT : Nat → Int32) (po : Nat) (pog : Nat) (pot : Nat) (OG : Nat → Int32) (OT : Nat → Int32) (mo : Nat) (eo : Nat) (dg : Nat) (to : Nat) (er : Nat → Nat) (n : Nat) (E : Nat → Nat → Int32) (DG : Nat → Int32) (tr : Nat → Nat) (T : Nat → Nat → Int64) (hlt : l.stackTraces = false) (a : Nat) (v : Int32) (sz : Nat) (hn : n ≤ 6) (ha : a < n ∨ a = 6) (hv9 : isNodeB n v = false) : vx_Met l yX4_between wsX4_between ({ frames := 8, cells := 1, slots := 6, locals := 110 }) (va_Pc [.ref tp, .int (nI a), .int v] (PREE (dC, dI) (tyL cI cII cJ cJJ) (wTop tp ly lyg lyt LYG LYT tl tlg tlt TLG TLT ne neg net NEG NET su sug sut SUG SUT kp kr KH km sw tps rt pl P st my co C la lag lat LG LT po pog pot OG OT cJ cJJ cI cII mo eo dg to er n E DG tr T) sz)) (fun _ _ _ _ => False) (XT exI (dC, dI) (tyL cI cII cJ cJJ) (wTop tp ly lyg lyt LYG LYT tl tlg tlt TLG TLT ne neg net NEG NET su sug sut SUG SUT kp kr KH km sw tps rt pl P st my co C la lag lat LG LT po pog pot OG OT cJ cJJ cI cII mo eo dg to er n E DG tr T) (va_A (wTop tp ly lyg lyt LYG LYT tl tlg tlt TLG TLT ne neg net NEG NET su sug sut SUG SUT kp kr KH km sw tps rt pl P st my co C la lag lat LG LT po pog pot OG OT cJ cJJ cI cII mo eo dg to er n E DG tr T) sz)) 1 6 (va_A (wTop tp ly lyg lyt LYG LYT tl tlg tlt TLG TLT ne neg net NEG NET su sug sut SUG SUT kp kr KH km sw tps rt pl P st my co C la lag lat LG LT po pog pot OG OT cJ cJJ cI cII mo eo dg to er n E DG tr T) sz) := by
  refine vx_ofW (cc := cX4_between) (maxL := 3) (ret := (some .int)) (by decide) rfl ?_
  intro p e s m args below meth c s₁ B hml hex hv
  obtain ⟨rfl, ⟨hsz, hP, hK, hD0⟩, hE⟩ := hv
  have hx := B.exec
  have hb := B.bytes
  have hlocks := B.notSynchronized
  have hts := atoms_spec (ws := wsX4_between) B.pre
  have hown : s.vm.findClass RX4 = some m.cls := findClass_of_methodNamed B.named
  subst hsz
  have hD := hD0.self (sz := s.heap.size)
  generalize hAe : va_A (wTop tp ly lyg lyt LYG LYT tl tlg tlt TLG TLT ne neg net NEG NET su sug sut SUG SUT kp kr KH km sw tps rt pl P st my co C la lag lat LG LT po pog pot OG OT cJ cJJ cI cII mo eo dg to er n E DG tr T) s.heap.size = A at hD hE ⊢
  have hA : ∀ q : Nat, s.heap.size ≤ q → A q := fun q h => by rw [← hAe]; exact Or.inr h
  have hS : va_S A s.heap s.heap [] := va_S.rf
  have hl := lv_entry ([.ref tp, .int (nI a), .int v]) (n := 3) (Nat.le_of_ble_eq_true rfl)
  rw [lg_entry_eq]
  generalize (lg_sl ([.ref tp, .int (nI a), .int v]) ++ List.replicate (3 - (lg_sl ([.ref tp, .int (nI a), .int v])).length) Slot.unset).toArray = ls at hl ⊢
  have hl : lv_has ls 3 [(0, .ref tp), (1, .int (nI a)), (2, .int v)] := hl
  have hi_X4 : ∀ w ∈ u_ws RX4 TX4 11, w ∈ wsX4_between := by decide +kernel
  have hf_10 := hts (.fieldLink RX4 10 "Topplemoor" "moor" "LTopplemoor$Moor;") (by decide +kernel)
  have hi_X2 : ∀ w ∈ u_ws RX2 TX2 4, w ∈ wsX4_between := by decide +kernel
  have hf_77 := hts (.fieldLink RX4 77 "Topplemoor$Moor" "edges" "[[I") (by decide +kernel)
  refine lv_aload_n hx hb dX4_between_0 rfl (lv_at hl 0 rfl) ?_
  refine lv_iload_n hx hb dX4_between_1 rfl (lv_at hl 1 rfl) ?_
  refine kt_callv (w' := wTop tp ly lyg lyt LYG LYT tl tlg tlt TLG TLT ne neg net NEG NET su sug sut SUG SUT kp kr KH km sw tps rt pl P st my co C la lag lat LG LT po pog pot OG OT cJ cJJ cI cII mo eo dg to er n E DG tr T) (rest := []) (As := [.int (nI a)]) ⟨hx, hb, hml, hown, hts⟩ (c_X4_requireNode l dC dI cI cII cJ cJJ tp ly lyg lyt LYG LYT tl tlg tlt TLG TLT ne neg net NEG NET su sug sut SUG SUT kp kr KH km sw tps rt pl P st my co C la lag lat LG LT po pog pot OG OT mo eo dg to er n E DG tr T a _ (hn) (ha)) (cwV 1 hts gX4_between_X4_requireNode rfl rfl rfl (by decide +kernel) ⟨Nat.le_of_ble_eq_true rfl, Nat.le_of_ble_eq_true rfl⟩) hK hP hD hS hA (List.range' 0 45) sw_wTop_wTop_0 rfl 0 kX4 rfl rfl rfl rfl rfl hl.1 (Nat.le_of_ble_eq_true rfl) dX4_between_2 ⟨Nat.zero_le _, Nat.zero_le _⟩ (fun H locs hP hD hS => ?_)
  refine lv_aload_n hx hb dX4_between_5 rfl (lv_at hl 0 rfl) ?_
  refine lv_iload_n hx hb dX4_between_6 rfl (lv_at hl 2 rfl) ?_
  exact kt_xcallv (rest := []) (As := [.int v]) ⟨hx, hb, hml, hown, hts⟩ (x_X4_requireNode l dC dI cI cII cJ cJJ tp ly lyg lyt LYG LYT tl tlg tlt TLG TLT ne neg net NEG NET su sug sut SUG SUT kp kr KH km sw tps rt pl P st my co C la lag lat LG LT po pog pot OG OT mo eo dg to er n E DG tr T hlt v _ hn hv9) (cwV 1 hts gX4_between_X4_requireNode rfl rfl rfl (by decide +kernel) ⟨Nat.le_of_ble_eq_true rfl, Nat.le_of_ble_eq_true rfl⟩) hK hP hD hS hA hE (List.range' 0 45) sw_wTop_wTop_0 rfl 0 kX4 rfl rfl rfl rfl rfl hl.1 (Nat.le_of_ble_eq_true rfl) dX4_between_7 ⟨by decide, by decide⟩ hex hlocks (by decide) (by decide)

set_option maxHeartbeats 4000000 in
set_option maxRecDepth 100000 in
theorem x_X4_coins_node (l : Launch) (dC : Nat → ClassId) (dI : Nat → Nat → Nat) (cI cII cJ cJJ : ClassId) (tp : Nat) (ly : Nat) (lyg : Nat) (lyt : Nat) (LYG : Nat → Int32) (LYT : Nat → Int32) (tl : Nat) (tlg : Nat) (tlt : Nat) (TLG : Nat → Int32) (TLT : Nat → Int32) (ne : Nat) (neg : Nat) (net : Nat) (NEG : Nat → Int32) (NET : Nat → Int32) (su : Nat) (sug : Nat) (sut : Nat) (SUG : Nat → Int32) (SUT : Nat → Int32) (kp : Nat) (kr : Nat → Nat) (KH : Nat → Nat → Int32) (km : Nat) (sw : Int32) (tps : Int32) (rt : Nat) (pl : Nat) (P : Nat → Int32) (st : Int32) (my : Nat) (co : Nat) (C : Nat → Int32) (la : Nat) (lag : Nat) (lat : Nat) (LG : Nat → Int32) (LT : Nat → Int32) (po : Nat) (pog : Nat) (pot : Nat) (OG : Nat → Int32) (OT : Nat → Int32) (mo : Nat) (eo : Nat) (dg : Nat) (to : Nat) (er : Nat → Nat) (n : Nat) (E : Nat → Nat → Int32) (DG : Nat → Int32) (tr : Nat → Nat) (T : Nat → Nat → Int64) (hlt : l.stackTraces = false) (v : Int32) (sz : Nat) (hn : n ≤ 6) (hv9 : isNodeB n v = false) : vx_Met l yX4_coins wsX4_coins ({ frames := 8, cells := 1, slots := 6, locals := 110 }) (va_Pc [.ref tp, .int v] (PREE (dC, dI) (tyL cI cII cJ cJJ) (wTop tp ly lyg lyt LYG LYT tl tlg tlt TLG TLT ne neg net NEG NET su sug sut SUG SUT kp kr KH km sw tps rt pl P st my co C la lag lat LG LT po pog pot OG OT cJ cJJ cI cII mo eo dg to er n E DG tr T) sz)) (fun _ _ _ _ => False) (XT exI (dC, dI) (tyL cI cII cJ cJJ) (wTop tp ly lyg lyt LYG LYT tl tlg tlt TLG TLT ne neg net NEG NET su sug sut SUG SUT kp kr KH km sw tps rt pl P st my co C la lag lat LG LT po pog pot OG OT cJ cJJ cI cII mo eo dg to er n E DG tr T) (va_A (wTop tp ly lyg lyt LYG LYT tl tlg tlt TLG TLT ne neg net NEG NET su sug sut SUG SUT kp kr KH km sw tps rt pl P st my co C la lag lat LG LT po pog pot OG OT cJ cJJ cI cII mo eo dg to er n E DG tr T) sz)) 1 6 (va_A (wTop tp ly lyg lyt LYG LYT tl tlg tlt TLG TLT ne neg net NEG NET su sug sut SUG SUT kp kr KH km sw tps rt pl P st my co C la lag lat LG LT po pog pot OG OT cJ cJJ cI cII mo eo dg to er n E DG tr T) sz) := by
  refine vx_ofW (cc := cX4_coins) (maxL := 2) (ret := (some .int)) (by decide) rfl ?_
  intro p e s m args below meth c s₁ B hml hex hv
  obtain ⟨rfl, ⟨hsz, hP, hK, hD0⟩, hE⟩ := hv
  have hx := B.exec
  have hb := B.bytes
  have hlocks := B.notSynchronized
  have hts := atoms_spec (ws := wsX4_coins) B.pre
  have hown : s.vm.findClass RX4 = some m.cls := findClass_of_methodNamed B.named
  subst hsz
  have hD := hD0.self (sz := s.heap.size)
  generalize hAe : va_A (wTop tp ly lyg lyt LYG LYT tl tlg tlt TLG TLT ne neg net NEG NET su sug sut SUG SUT kp kr KH km sw tps rt pl P st my co C la lag lat LG LT po pog pot OG OT cJ cJJ cI cII mo eo dg to er n E DG tr T) s.heap.size = A at hD hE ⊢
  have hA : ∀ q : Nat, s.heap.size ≤ q → A q := fun q h => by rw [← hAe]; exact Or.inr h
  have hS : va_S A s.heap s.heap [] := va_S.rf
  have hl := lv_entry ([.ref tp, .int v]) (n := 2) (Nat.le_of_ble_eq_true rfl)
  rw [lg_entry_eq]
  generalize (lg_sl ([.ref tp, .int v]) ++ List.replicate (2 - (lg_sl ([.ref tp, .int v])).length) Slot.unset).toArray = ls at hl ⊢
  have hl : lv_has ls 2 [(0, .ref tp), (1, .int v)] := hl
  have hi_X4 : ∀ w ∈ u_ws RX4 TX4 11, w ∈ wsX4_coins := by decide +kernel
  have hf_44 := hts (.fieldLink RX4 44 "Topplemoor" "money" "LTopplemoor$Money;") (by decide +kernel)
  have hi_X1 : ∀ w ∈ u_ws RX1 TX1 4, w ∈ wsX4_coins := by decide +kernel
  have hf_149 := hts (.fieldLink RX4 149 "Topplemoor$Money" "coins" "[I") (by decide +kernel)
  refine lv_aload_n hx hb dX4_coins_0 rfl (lv_at hl 0 rfl) ?_
  refine lv_iload_n hx hb dX4_coins_1 rfl (lv_at hl 1 rfl) ?_
  exact kt_xcallv (rest := []) (As := [.int v]) ⟨hx, hb, hml, hown, hts⟩ (x_X4_requireNode l dC dI cI cII cJ cJJ tp ly lyg lyt LYG LYT tl tlg tlt TLG TLT ne neg net NEG NET su sug sut SUG SUT kp kr KH km sw tps rt pl P st my co C la lag lat LG LT po pog pot OG OT mo eo dg to er n E DG tr T hlt v _ hn hv9) (cwV 1 hts gX4_coins_X4_requireNode rfl rfl rfl (by decide +kernel) ⟨Nat.le_of_ble_eq_true rfl, Nat.le_of_ble_eq_true rfl⟩) hK hP hD hS hA hE (List.range' 0 45) sw_wTop_wTop_0 rfl 0 kX4 rfl rfl rfl rfl rfl hl.1 (Nat.le_of_ble_eq_true rfl) dX4_coins_2 ⟨by decide, by decide⟩ hex hlocks (by decide) (by decide)

set_option maxHeartbeats 4000000 in
set_option maxRecDepth 100000 in
theorem x_X4_kept_heap (l : Launch) (dC : Nat → ClassId) (dI : Nat → Nat → Nat) (cI cII cJ cJJ : ClassId) (tp : Nat) (ly : Nat) (lyg : Nat) (lyt : Nat) (LYG : Nat → Int32) (LYT : Nat → Int32) (tl : Nat) (tlg : Nat) (tlt : Nat) (TLG : Nat → Int32) (TLT : Nat → Int32) (ne : Nat) (neg : Nat) (net : Nat) (NEG : Nat → Int32) (NET : Nat → Int32) (su : Nat) (sug : Nat) (sut : Nat) (SUG : Nat → Int32) (SUT : Nat → Int32) (kp : Nat) (kr : Nat → Nat) (KH : Nat → Nat → Int32) (km : Nat) (sw : Int32) (tps : Int32) (rt : Nat) (pl : Nat) (P : Nat → Int32) (st : Int32) (my : Nat) (co : Nat) (C : Nat → Int32) (la : Nat) (lag : Nat) (lat : Nat) (LG : Nat → Int32) (LT : Nat → Int32) (po : Nat) (pog : Nat) (pot : Nat) (OG : Nat → Int32) (OT : Nat → Int32) (mo : Nat) (eo : Nat) (dg : Nat) (to : Nat) (er : Nat → Nat) (n : Nat) (E : Nat → Nat → Int32) (DG : Nat → Int32) (tr : Nat → Nat) (T : Nat → Nat → Int64) (hlt : l.stackTraces = false) (v v2 : Int32) (sz : Nat) (hv9 : v < 0 ∨ nI km ≤ v) : vx_Met l yX4_kept wsX4_kept ({ frames := 8, cells := 1, slots := 6, locals := 110 }) (va_Pc [.ref tp, .int v, .int v2] (PREE (dC, dI) (tyL cI cII cJ cJJ) (wTop tp ly lyg lyt LYG LYT tl tlg tlt TLG TLT ne neg net NEG NET su sug sut SUG SUT kp kr KH km sw tps rt pl P st my co C la lag lat LG LT po pog pot OG OT cJ cJJ cI cII mo eo dg to er n E DG tr T) sz)) (fun _ _ _ _ => False) (XT exI (dC, dI) (tyL cI cII cJ cJJ) (wTop tp ly lyg lyt LYG LYT tl tlg tlt TLG TLT ne neg net NEG NET su sug sut SUG SUT kp kr KH km sw tps rt pl P st my co C la lag lat LG LT po pog pot OG OT cJ cJJ cI cII mo eo dg to er n E DG tr T) (va_A (wTop tp ly lyg lyt LYG LYT tl tlg tlt TLG TLT ne neg net NEG NET su sug sut SUG SUT kp kr KH km sw tps rt pl P st my co C la lag lat LG LT po pog pot OG OT cJ cJJ cI cII mo eo dg to er n E DG tr T) sz)) 1 6 (va_A (wTop tp ly lyg lyt LYG LYT tl tlg tlt TLG TLT ne neg net NEG NET su sug sut SUG SUT kp kr KH km sw tps rt pl P st my co C la lag lat LG LT po pog pot OG OT cJ cJJ cI cII mo eo dg to er n E DG tr T) sz) := by
  refine vx_ofW (cc := cX4_kept) (maxL := 3) (ret := (some .int)) (by decide) rfl ?_
  intro p e s m args below meth c s₁ B hml hex hv
  obtain ⟨rfl, ⟨hsz, hP, hK, hD0⟩, hE⟩ := hv
  have hx := B.exec
  have hb := B.bytes
  have hlocks := B.notSynchronized
  have hts := atoms_spec (ws := wsX4_kept) B.pre
  have hown : s.vm.findClass RX4 = some m.cls := findClass_of_methodNamed B.named
  subst hsz
  have hD := hD0.self (sz := s.heap.size)
  generalize hAe : va_A (wTop tp ly lyg lyt LYG LYT tl tlg tlt TLG TLT ne neg net NEG NET su sug sut SUG SUT kp kr KH km sw tps rt pl P st my co C la lag lat LG LT po pog pot OG OT cJ cJJ cI cII mo eo dg to er n E DG tr T) s.heap.size = A at hD hE ⊢
  have hA : ∀ q : Nat, s.heap.size ≤ q → A q := fun q h => by rw [← hAe]; exact Or.inr h
  have hS : va_S A s.heap s.heap [] := va_S.rf
  have hl := lv_entry ([.ref tp, .int v, .int v2]) (n := 3) (Nat.le_of_ble_eq_true rfl)
  rw [lg_entry_eq]
  generalize (lg_sl ([.ref tp, .int v, .int v2]) ++ List.replicate (3 - (lg_sl ([.ref tp, .int v, .int v2])).length) Slot.unset).toArray = ls at hl ⊢
  have hl : lv_has ls 3 [(0, .ref tp), (1, .int v), (2, .int v2)] := hl
  have hi_X4 : ∀ w ∈ u_ws RX4 TX4 11, w ∈ wsX4_kept := by decide +kernel
  have hf_50 := hts (.fieldLink RX4 50 "Topplemoor" "keptHeaps" "[[I") (by decide +kernel)
  refine lv_aload_n hx hb dX4_kept_0 rfl (lv_at hl 0 rfl) ?_
  refine lv_iload_n hx hb dX4_kept_1 rfl (lv_at hl 1 rfl) ?_
  exact kt_xcallv (rest := []) (As := [.int v]) ⟨hx, hb, hml, hown, hts⟩ (x_X4_requireHeap l dC dI cI cII cJ cJJ tp ly lyg lyt LYG LYT tl tlg tlt TLG TLT ne neg net NEG NET su sug sut SUG SUT kp kr KH km sw tps rt pl P st my co C la lag lat LG LT po pog pot OG OT mo eo dg to er n E DG tr T hlt v _ hv9) (cwV 1 hts gX4_kept_X4_requireHeap rfl rfl rfl (by decide +kernel) ⟨Nat.le_of_ble_eq_true rfl, Nat.le_of_ble_eq_true rfl⟩) hK hP hD hS hA hE (List.range' 0 45) sw_wTop_wTop_0 rfl 0 kX4 rfl rfl rfl rfl rfl hl.1 (Nat.le_of_ble_eq_true rfl) dX4_kept_2 ⟨by decide, by decide⟩ hex hlocks (by decide) (by decide)

set_option maxHeartbeats 4000000 in
set_option maxRecDepth 100000 in
theorem x_X4_kept_spot (l : Launch) (dC : Nat → ClassId) (dI : Nat → Nat → Nat) (cI cII cJ cJJ : ClassId) (tp : Nat) (ly : Nat) (lyg : Nat) (lyt : Nat) (LYG : Nat → Int32) (LYT : Nat → Int32) (tl : Nat) (tlg : Nat) (tlt : Nat) (TLG : Nat → Int32) (TLT : Nat → Int32) (ne : Nat) (neg : Nat) (net : Nat) (NEG : Nat → Int32) (NET : Nat → Int32) (su : Nat) (sug : Nat) (sut : Nat) (SUG : Nat → Int32) (SUT : Nat → Int32) (kp : Nat) (kr : Nat → Nat) (KH : Nat → Nat → Int32) (km : Nat) (sw : Int32) (tps : Int32) (rt : Nat) (pl : Nat) (P : Nat → Int32) (st : Int32) (my : Nat) (co : Nat) (C : Nat → Int32) (la : Nat) (lag : Nat) (lat : Nat) (LG : Nat → Int32) (LT : Nat → Int32) (po : Nat) (pog : Nat) (pot : Nat) (OG : Nat → Int32) (OT : Nat → Int32) (mo : Nat) (eo : Nat) (dg : Nat) (to : Nat) (er : Nat → Nat) (n : Nat) (E : Nat → Nat → Int32) (DG : Nat → Int32) (tr : Nat → Nat) (T : Nat → Nat → Int64) (hlt : l.stackTraces = false) (i : Nat) (v : Int32) (sz : Nat) (hn : n ≤ 6) (hkm : km ≤ 4) (hi : i < km) (hv9 : isSpotB n v = false) : vx_Met l yX4_kept wsX4_kept ({ frames := 8, cells := 1, slots := 6, locals := 110 }) (va_Pc [.ref tp, .int (nI i), .int v] (PREE (dC, dI) (tyL cI cII cJ cJJ) (wTop tp ly lyg lyt LYG LYT tl tlg tlt TLG TLT ne neg net NEG NET su sug sut SUG SUT kp kr KH km sw tps rt pl P st my co C la lag lat LG LT po pog pot OG OT cJ cJJ cI cII mo eo dg to er n E DG tr T) sz)) (fun _ _ _ _ => False) (XT exI (dC, dI) (tyL cI cII cJ cJJ) (wTop tp ly lyg lyt LYG LYT tl tlg tlt TLG TLT ne neg net NEG NET su sug sut SUG SUT kp kr KH km sw tps rt pl P st my co C la lag lat LG LT po pog pot OG OT cJ cJJ cI cII mo eo dg to er n E DG tr T) (va_A (wTop tp ly lyg lyt LYG LYT tl tlg tlt TLG TLT ne neg net NEG NET su sug sut SUG SUT kp kr KH km sw tps rt pl P st my co C la lag lat LG LT po pog pot OG OT cJ cJJ cI cII mo eo dg to er n E DG tr T) sz)) 1 6 (va_A (wTop tp ly lyg lyt LYG LYT tl tlg tlt TLG TLT ne neg net NEG NET su sug sut SUG SUT kp kr KH km sw tps rt pl P st my co C la lag lat LG LT po pog pot OG OT cJ cJJ cI cII mo eo dg to er n E DG tr T) sz) := by
  refine vx_ofW (cc := cX4_kept) (maxL := 3) (ret := (some .int)) (by decide) rfl ?_
  intro p e s m args below meth c s₁ B hml hex hv
  obtain ⟨rfl, ⟨hsz, hP, hK, hD0⟩, hE⟩ := hv
  have hx := B.exec
  have hb := B.bytes
  have hlocks := B.notSynchronized
  have hts := atoms_spec (ws := wsX4_kept) B.pre
  have hown : s.vm.findClass RX4 = some m.cls := findClass_of_methodNamed B.named
  subst hsz
  have hD := hD0.self (sz := s.heap.size)
  generalize hAe : va_A (wTop tp ly lyg lyt LYG LYT tl tlg tlt TLG TLT ne neg net NEG NET su sug sut SUG SUT kp kr KH km sw tps rt pl P st my co C la lag lat LG LT po pog pot OG OT cJ cJJ cI cII mo eo dg to er n E DG tr T) s.heap.size = A at hD hE ⊢
  have hA : ∀ q : Nat, s.heap.size ≤ q → A q := fun q h => by rw [← hAe]; exact Or.inr h
  have hS : va_S A s.heap s.heap [] := va_S.rf
  have hl := lv_entry ([.ref tp, .int (nI i), .int v]) (n := 3) (Nat.le_of_ble_eq_true rfl)
  rw [lg_entry_eq]
  generalize (lg_sl ([.ref tp, .int (nI i), .int v]) ++ List.replicate (3 - (lg_sl ([.ref tp, .int (nI i), .int v])).length) Slot.unset).toArray = ls at hl ⊢
  have hl : lv_has ls 3 [(0, .ref tp), (1, .int (nI i)), (2, .int v)] := hl
  have hi_X4 : ∀ w ∈ u_ws RX4 TX4 11, w ∈ wsX4_kept := by decide +kernel
  have hf_50 := hts (.fieldLink RX4 50 "Topplemoor" "keptHeaps" "[[I") (by decide +kernel)
  refine lv_aload_n hx hb dX4_kept_0 rfl (lv_at hl 0 rfl) ?_
  refine lv_iload_n hx hb dX4_kept_1 rfl (lv_at hl 1 rfl) ?_
  refine kt_callv (w' := wTop tp ly lyg lyt LYG LYT tl tlg tlt TLG TLT ne neg net NEG NET su sug sut SUG SUT kp kr KH km sw tps rt pl P st my co C la lag lat LG LT po pog pot OG OT cJ cJJ cI cII mo eo dg to er n E DG tr T) (rest := []) (As := [.int (nI i)]) ⟨hx, hb, hml, hown, hts⟩ (c_X4_requireHeap l dC dI cI cII cJ cJJ tp ly lyg lyt LYG LYT tl tlg tlt TLG TLT ne neg net NEG NET su sug sut SUG SUT kp kr KH km sw tps rt pl P st my co C la lag lat LG LT po pog pot OG OT mo eo dg to er n E DG tr T i _ (hkm) (hi)) (cwV 1 hts gX4_kept_X4_requireHeap rfl rfl rfl (by decide +kernel) ⟨Nat.le_of_ble_eq_true rfl, Nat.le_of_ble_eq_true rfl⟩) hK hP hD hS hA (List.range' 0 45) sw_wTop_wTop_0 rfl 0 kX4 rfl rfl rfl rfl rfl hl.1 (Nat.le_of_ble_eq_true rfl) dX4_kept_2 ⟨Nat.zero_le _, Nat.zero_le _⟩ (fun H locs hP hD hS => ?_)
  refine lv_aload_n hx hb dX4_kept_5 rfl (lv_at hl 0 rfl) ?_
  refine lv_iload_n hx hb dX4_kept_6 rfl (lv_at hl 2 rfl) ?_
  exact kt_xcallv (rest := []) (As := [.int v]) ⟨hx, hb, hml, hown, hts⟩ (x_X4_requireSpot l dC dI cI cII cJ cJJ tp ly lyg lyt LYG LYT tl tlg tlt TLG TLT ne neg net NEG NET su sug sut SUG SUT kp kr KH km sw tps rt pl P st my co C la lag lat LG LT po pog pot OG OT mo eo dg to er n E DG tr T hlt v _ hn hv9) (cwV 1 hts gX4_kept_X4_requireSpot rfl rfl rfl (by decide +kernel) ⟨Nat.le_of_ble_eq_true rfl, Nat.le_of_ble_eq_true rfl⟩) hK hP hD hS hA hE (List.range' 0 45) sw_wTop_wTop_0 rfl 0 kX4 rfl rfl rfl rfl rfl hl.1 (Nat.le_of_ble_eq_true rfl) dX4_kept_7 ⟨by decide, by decide⟩ hex hlocks (by decide) (by decide)

set_option maxHeartbeats 4000000 in
set_option maxRecDepth 100000 in
theorem x_X4_many_within (l : Launch) (dC : Nat → ClassId) (dI : Nat → Nat → Nat) (cI cII cJ cJJ : ClassId) (tp : Nat) (ly : Nat) (lyg : Nat) (lyt : Nat) (LYG : Nat → Int32) (LYT : Nat → Int32) (tl : Nat) (tlg : Nat) (tlt : Nat) (TLG : Nat → Int32) (TLT : Nat → Int32) (ne : Nat) (neg : Nat) (net : Nat) (NEG : Nat → Int32) (NET : Nat → Int32) (su : Nat) (sug : Nat) (sut : Nat) (SUG : Nat → Int32) (SUT : Nat → Int32) (kp : Nat) (kr : Nat → Nat) (KH : Nat → Nat → Int32) (km : Nat) (sw : Int32) (tps : Int32) (rt : Nat) (pl : Nat) (P : Nat → Int32) (st : Int32) (my : Nat) (co : Nat) (C : Nat → Int32) (la : Nat) (lag : Nat) (lat : Nat) (LG : Nat → Int32) (LT : Nat → Int32) (po : Nat) (pog : Nat) (pot : Nat) (OG : Nat → Int32) (OT : Nat → Int32) (mo : Nat) (eo : Nat) (dg : Nat) (to : Nat) (er : Nat → Nat) (n : Nat) (E : Nat → Nat → Int32) (DG : Nat → Int32) (tr : Nat → Nat) (T : Nat → Nat → Int64) (hlt : l.stackTraces = false) (q : Int32) (sz : Nat) (hv9 : q < 0 ∨ ¬ q ≤ 13) : vx_Met l yX4_many wsX4_many ({ frames := 8, cells := 1, slots := 6, locals := 110 }) (va_Pc [.ref tp, .int q] (PREE (dC, dI) (tyL cI cII cJ cJJ) (wTop tp ly lyg lyt LYG LYT tl tlg tlt TLG TLT ne neg net NEG NET su sug sut SUG SUT kp kr KH km sw tps rt pl P st my co C la lag lat LG LT po pog pot OG OT cJ cJJ cI cII mo eo dg to er n E DG tr T) sz)) (fun _ _ _ _ => False) (XT exA (dC, dI) (tyL cI cII cJ cJJ) (wTop tp ly lyg lyt LYG LYT tl tlg tlt TLG TLT ne neg net NEG NET su sug sut SUG SUT kp kr KH km sw tps rt pl P st my co C la lag lat LG LT po pog pot OG OT cJ cJJ cI cII mo eo dg to er n E DG tr T) (va_A (wTop tp ly lyg lyt LYG LYT tl tlg tlt TLG TLT ne neg net NEG NET su sug sut SUG SUT kp kr KH km sw tps rt pl P st my co C la lag lat LG LT po pog pot OG OT cJ cJJ cI cII mo eo dg to er n E DG tr T) sz)) 1 6 (va_A (wTop tp ly lyg lyt LYG LYT tl tlg tlt TLG TLT ne neg net NEG NET su sug sut SUG SUT kp kr KH km sw tps rt pl P st my co C la lag lat LG LT po pog pot OG OT cJ cJJ cI cII mo eo dg to er n E DG tr T) sz) := by
  refine vx_ofW (cc := cX4_many) (maxL := 2) (ret := (some .int)) (by decide) rfl ?_
  intro p e s m args below meth c s₁ B hml hex hv
  obtain ⟨rfl, ⟨hsz, hP, hK, hD0⟩, hE⟩ := hv
  have hx := B.exec
  have hb := B.bytes
  have hlocks := B.notSynchronized
  have hts := atoms_spec (ws := wsX4_many) B.pre
  have hown : s.vm.findClass RX4 = some m.cls := findClass_of_methodNamed B.named
  subst hsz
  have hD := hD0.self (sz := s.heap.size)
  generalize hAe : va_A (wTop tp ly lyg lyt LYG LYT tl tlg tlt TLG TLT ne neg net NEG NET su sug sut SUG SUT kp kr KH km sw tps rt pl P st my co C la lag lat LG LT po pog pot OG OT cJ cJJ cI cII mo eo dg to er n E DG tr T) s.heap.size = A at hD hE ⊢
  have hA : ∀ q : Nat, s.heap.size ≤ q → A q := fun q h => by rw [← hAe]; exact Or.inr h
  have hS : va_S A s.heap s.heap [] := va_S.rf
  have hl := lv_entry ([.ref tp, .int q]) (n := 2) (Nat.le_of_ble_eq_true rfl)
  rw [lg_entry_eq]
  generalize (lg_sl ([.ref tp, .int q]) ++ List.replicate (2 - (lg_sl ([.ref tp, .int q])).length) Slot.unset).toArray = ls at hl ⊢
  have hl : lv_has ls 2 [(0, .ref tp), (1, .int q)] := hl
  refine lv_iload_n hx hb dX4_many_0 rfl (lv_at hl 1 rfl) ?_
  refine lv_iconst (v := 0) hx hb dX4_many_1 (by decide) ?_
  refine lv_bipush (v := 13) hx hb dX4_many_2 (by decide) ?_
  exact kt_xcallS (rest := []) (As := [.int q, .int 0, .int 13]) ⟨hx, hb, hml, hown, hts⟩ (x_X4_requireWithin l dC dI cI cII cJ cJJ hlt q 0 13 _ hv9) (va_cwS 3 hts gX4_many_X4_requireWithin rfl rfl rfl (by decide +kernel) ⟨Nat.le_of_ble_eq_true rfl, Nat.le_of_ble_eq_true rfl⟩) hK hP hD hS hA hE [] sw_wTop_wE_0 rfl rfl rfl hl.1 (Nat.le_of_ble_eq_true rfl) dX4_many_4 ⟨by decide, by decide⟩ hex hlocks (by decide) (by decide)

set_option maxHeartbeats 4000000 in
set_option maxRecDepth 100000 in
theorem x_X4_isLasting_fast (l : Launch) (dC : Nat → ClassId) (dI : Nat → Nat → Nat) (cI cII cJ cJJ : ClassId) (tp : Nat) (ly : Nat) (lyg : Nat) (lyt : Nat) (LYG : Nat → Int32) (LYT : Nat → Int32) (tl : Nat) (tlg : Nat) (tlt : Nat) (TLG : Nat → Int32) (TLT : Nat → Int32) (ne : Nat) (neg : Nat) (net : Nat) (NEG : Nat → Int32) (NET : Nat → Int32) (su : Nat) (sug : Nat) (sut : Nat) (SUG : Nat → Int32) (SUT : Nat → Int32) (kp : Nat) (kr : Nat → Nat) (KH : Nat → Nat → Int32) (km : Nat) (sw : Int32) (tps : Int32) (rt : Nat) (pl : Nat) (P : Nat → Int32) (st : Int32) (my : Nat) (co : Nat) (C : Nat → Int32) (la : Nat) (lag : Nat) (lat : Nat) (LG : Nat → Int32) (LT : Nat → Int32) (po : Nat) (pog : Nat) (pot : Nat) (OG : Nat → Int32) (OT : Nat → Int32) (mo : Nat) (eo : Nat) (dg : Nat) (to : Nat) (er : Nat → Nat) (n : Nat) (E : Nat → Nat → Int32) (DG : Nat → Int32) (tr : Nat → Nat) (T : Nat → Nat → Int64) (hlt : l.stackTraces = false)  (sz : Nat) (hn : n ≤ 6) (hv9 : fastB n E = false) : vx_Met l yX4_isLasting wsX4_isLasting ({ frames := 8, cells := 1, slots := 6, locals := 110 }) (va_Pc [.ref tp] (PREE (dC, dI) (tyL cI cII cJ cJJ) (wTop tp ly lyg lyt LYG LYT tl tlg tlt TLG TLT ne neg net NEG NET su sug sut SUG SUT kp kr KH km sw tps rt pl P st my co C la lag lat LG LT po pog pot OG OT cJ cJJ cI cII mo eo dg to er n E DG tr T) sz)) (fun _ _ _ _ => False) (XT exS (dC, dI) (tyL cI cII cJ cJJ) (wTop tp ly lyg lyt LYG LYT tl tlg tlt TLG TLT ne neg net NEG NET su sug sut SUG SUT kp kr KH km sw tps rt pl P st my co C la lag lat LG LT po pog pot OG OT cJ cJJ cI cII mo eo dg to er n E DG tr T) (va_A (wTop tp ly lyg lyt LYG LYT tl tlg tlt TLG TLT ne neg net NEG NET su sug sut SUG SUT kp kr KH km sw tps rt pl P st my co C la lag lat LG LT po pog pot OG OT cJ cJJ cI cII mo eo dg to er n E DG tr T) sz)) 1 6 (va_A (wTop tp ly lyg lyt LYG LYT tl tlg tlt TLG TLT ne neg net NEG NET su sug sut SUG SUT kp kr KH km sw tps rt pl P st my co C la lag lat LG LT po pog pot OG OT cJ cJJ cI cII mo eo dg to er n E DG tr T) sz) := by
  refine vx_ofW (cc := cX4_isLasting) (maxL := 1) (ret := (some .boolean)) (by decide) rfl ?_
  intro p e s m args below meth c s₁ B hml hex hv
  obtain ⟨rfl, ⟨hsz, hP, hK, hD0⟩, hE⟩ := hv
  have hx := B.exec
  have hb := B.bytes
  have hlocks := B.notSynchronized
  have hts := atoms_spec (ws := wsX4_isLasting) B.pre
  have hown : s.vm.findClass RX4 = some m.cls := findClass_of_methodNamed B.named
  subst hsz
  have hD := hD0.self (sz := s.heap.size)
  generalize hAe : va_A (wTop tp ly lyg lyt LYG LYT tl tlg tlt TLG TLT ne neg net NEG NET su sug sut SUG SUT kp kr KH km sw tps rt pl P st my co C la lag lat LG LT po pog pot OG OT cJ cJJ cI cII mo eo dg to er n E DG tr T) s.heap.size = A at hD hE ⊢
  have hA : ∀ q : Nat, s.heap.size ≤ q → A q := fun q h => by rw [← hAe]; exact Or.inr h
  have hS : va_S A s.heap s.heap [] := va_S.rf
  have hl := lv_entry ([.ref tp]) (n := 1) (Nat.le_of_ble_eq_true rfl)
  rw [lg_entry_eq]
  generalize (lg_sl ([.ref tp]) ++ List.replicate (1 - (lg_sl ([.ref tp])).length) Slot.unset).toArray = ls at hl ⊢
  have hl : lv_has ls 1 [(0, .ref tp)] := hl
  refine lv_aload_n hx hb dX4_isLasting_0 rfl (lv_at hl 0 rfl) ?_
  exact kt_xcallv (rest := []) (As := []) ⟨hx, hb, hml, hown, hts⟩ (x_X4_requireFast l dC dI cI cII cJ cJJ tp ly lyg lyt LYG LYT tl tlg tlt TLG TLT ne neg net NEG NET su sug sut SUG SUT kp kr KH km sw tps rt pl P st my co C la lag lat LG LT po pog pot OG OT mo eo dg to er n E DG tr T hlt _ hn hv9) (cwV 0 hts gX4_isLasting_X4_requireFast rfl rfl rfl (by decide +kernel) ⟨Nat.le_of_ble_eq_true rfl, Nat.le_of_ble_eq_true rfl⟩) hK hP hD hS hA hE (List.range' 0 45) sw_wTop_wTop_0 rfl 0 kX4 rfl rfl rfl rfl rfl hl.1 (Nat.le_of_ble_eq_true rfl) dX4_isLasting_1 ⟨by decide, by decide⟩ hex hlocks (by decide) (by decide)

set_option maxHeartbeats 4000000 in
set_option maxRecDepth 100000 in
theorem x_X4_neutral_spot (l : Launch) (dC : Nat → ClassId) (dI : Nat → Nat → Nat) (cI cII cJ cJJ : ClassId) (tp : Nat) (ly : Nat) (lyg : Nat) (lyt : Nat) (LYG : Nat → Int32) (LYT : Nat → Int32) (tl : Nat) (tlg : Nat) (tlt : Nat) (TLG : Nat → Int32) (TLT : Nat → Int32) (ne : Nat) (neg : Nat) (net : Nat) (NEG : Nat → Int32) (NET : Nat → Int32) (su : Nat) (sug : Nat) (sut : Nat) (SUG : Nat → Int32) (SUT : Nat → Int32) (kp : Nat) (kr : Nat → Nat) (KH : Nat → Nat → Int32) (km : Nat) (sw : Int32) (tps : Int32) (rt : Nat) (pl : Nat) (P : Nat → Int32) (st : Int32) (my : Nat) (co : Nat) (C : Nat → Int32) (la : Nat) (lag : Nat) (lat : Nat) (LG : Nat → Int32) (LT : Nat → Int32) (po : Nat) (pog : Nat) (pot : Nat) (OG : Nat → Int32) (OT : Nat → Int32) (mo : Nat) (eo : Nat) (dg : Nat) (to : Nat) (er : Nat → Nat) (n : Nat) (E : Nat → Nat → Int32) (DG : Nat → Int32) (tr : Nat → Nat) (T : Nat → Nat → Int64) (hlt : l.stackTraces = false) (v : Int32) (sz : Nat) (hn : n ≤ 6) (hv9 : isSpotB n v = false) : vx_Met l yX4_neutral wsX4_neutral ({ frames := 8, cells := 1, slots := 6, locals := 110 }) (va_Pc [.ref tp, .int v] (PREE (dC, dI) (tyL cI cII cJ cJJ) (wTop tp ly lyg lyt LYG LYT tl tlg tlt TLG TLT ne neg net NEG NET su sug sut SUG SUT kp kr KH km sw tps rt pl P st my co C la lag lat LG LT po pog pot OG OT cJ cJJ cI cII mo eo dg to er n E DG tr T) sz)) (fun _ _ _ _ => False) (XT exI (dC, dI) (tyL cI cII cJ cJJ) (wTop tp ly lyg lyt LYG LYT tl tlg tlt TLG TLT ne neg net NEG NET su sug sut SUG SUT kp kr KH km sw tps rt pl P st my co C la lag lat LG LT po pog pot OG OT cJ cJJ cI cII mo eo dg to er n E DG tr T) (va_A (wTop tp ly lyg lyt LYG LYT tl tlg tlt TLG TLT ne neg net NEG NET su sug sut SUG SUT kp kr KH km sw tps rt pl P st my co C la lag lat LG LT po pog pot OG OT cJ cJJ cI cII mo eo dg to er n E DG tr T) sz)) 1 6 (va_A (wTop tp ly lyg lyt LYG LYT tl tlg tlt TLG TLT ne neg net NEG NET su sug sut SUG SUT kp kr KH km sw tps rt pl P st my co C la lag lat LG LT po pog pot OG OT cJ cJJ cI cII mo eo dg to er n E DG tr T) sz) := by
  refine vx_ofW (cc := cX4_neutral) (maxL := 2) (ret := (some .int)) (by decide) rfl ?_
  intro p e s m args below meth c s₁ B hml hex hv
  obtain ⟨rfl, ⟨hsz, hP, hK, hD0⟩, hE⟩ := hv
  have hx := B.exec
  have hb := B.bytes
  have hlocks := B.notSynchronized
  have hts := atoms_spec (ws := wsX4_neutral) B.pre
  have hown : s.vm.findClass RX4 = some m.cls := findClass_of_methodNamed B.named
  subst hsz
  have hD := hD0.self (sz := s.heap.size)
  generalize hAe : va_A (wTop tp ly lyg lyt LYG LYT tl tlg tlt TLG TLT ne neg net NEG NET su sug sut SUG SUT kp kr KH km sw tps rt pl P st my co C la lag lat LG LT po pog pot OG OT cJ cJJ cI cII mo eo dg to er n E DG tr T) s.heap.size = A at hD hE ⊢
  have hA : ∀ q : Nat, s.heap.size ≤ q → A q := fun q h => by rw [← hAe]; exact Or.inr h
  have hS : va_S A s.heap s.heap [] := va_S.rf
  have hl := lv_entry ([.ref tp, .int v]) (n := 2) (Nat.le_of_ble_eq_true rfl)
  rw [lg_entry_eq]
  generalize (lg_sl ([.ref tp, .int v]) ++ List.replicate (2 - (lg_sl ([.ref tp, .int v])).length) Slot.unset).toArray = ls at hl ⊢
  have hl : lv_has ls 2 [(0, .ref tp), (1, .int v)] := hl
  have hi_X4 : ∀ w ∈ u_ws RX4 TX4 11, w ∈ wsX4_neutral := by decide +kernel
  have hf_28 := hts (.fieldLink RX4 28 "Topplemoor" "neutralHeap" "LTopplemoor$Heap;") (by decide +kernel)
  have hi_X0 : ∀ w ∈ u_ws RX0 TX0 3, w ∈ wsX4_neutral := by decide +kernel
  have hf_89 := hts (.fieldLink RX4 89 "Topplemoor$Heap" "grains" "[I") (by decide +kernel)
  refine lv_aload_n hx hb dX4_neutral_0 rfl (lv_at hl 0 rfl) ?_
  refine lv_iload_n hx hb dX4_neutral_1 rfl (lv_at hl 1 rfl) ?_
  exact kt_xcallv (rest := []) (As := [.int v]) ⟨hx, hb, hml, hown, hts⟩ (x_X4_requireSpot l dC dI cI cII cJ cJJ tp ly lyg lyt LYG LYT tl tlg tlt TLG TLT ne neg net NEG NET su sug sut SUG SUT kp kr KH km sw tps rt pl P st my co C la lag lat LG LT po pog pot OG OT mo eo dg to er n E DG tr T hlt v _ hn hv9) (cwV 1 hts gX4_neutral_X4_requireSpot rfl rfl rfl (by decide +kernel) ⟨Nat.le_of_ble_eq_true rfl, Nat.le_of_ble_eq_true rfl⟩) hK hP hD hS hA hE (List.range' 0 45) sw_wTop_wTop_0 rfl 0 kX4 rfl rfl rfl rfl rfl hl.1 (Nat.le_of_ble_eq_true rfl) dX4_neutral_2 ⟨by decide, by decide⟩ hex hlocks (by decide) (by decide)

set_option maxHeartbeats 4000000 in
set_option maxRecDepth 100000 in
theorem x_X4_neutral_fast (l : Launch) (dC : Nat → ClassId) (dI : Nat → Nat → Nat) (cI cII cJ cJJ : ClassId) (tp : Nat) (ly : Nat) (lyg : Nat) (lyt : Nat) (LYG : Nat → Int32) (LYT : Nat → Int32) (tl : Nat) (tlg : Nat) (tlt : Nat) (TLG : Nat → Int32) (TLT : Nat → Int32) (ne : Nat) (neg : Nat) (net : Nat) (NEG : Nat → Int32) (NET : Nat → Int32) (su : Nat) (sug : Nat) (sut : Nat) (SUG : Nat → Int32) (SUT : Nat → Int32) (kp : Nat) (kr : Nat → Nat) (KH : Nat → Nat → Int32) (km : Nat) (sw : Int32) (tps : Int32) (rt : Nat) (pl : Nat) (P : Nat → Int32) (st : Int32) (my : Nat) (co : Nat) (C : Nat → Int32) (la : Nat) (lag : Nat) (lat : Nat) (LG : Nat → Int32) (LT : Nat → Int32) (po : Nat) (pog : Nat) (pot : Nat) (OG : Nat → Int32) (OT : Nat → Int32) (mo : Nat) (eo : Nat) (dg : Nat) (to : Nat) (er : Nat → Nat) (n : Nat) (E : Nat → Nat → Int32) (DG : Nat → Int32) (tr : Nat → Nat) (T : Nat → Nat → Int64) (hlt : l.stackTraces = false) (j : Nat) (sz : Nat) (hn : n ≤ 6) (hj : j < n) (hv9 : fastB n E = false) : vx_Met l yX4_neutral wsX4_neutral ({ frames := 8, cells := 1, slots := 6, locals := 110 }) (va_Pc [.ref tp, .int (nI j)] (PREE (dC, dI) (tyL cI cII cJ cJJ) (wTop tp ly lyg lyt LYG LYT tl tlg tlt TLG TLT ne neg net NEG NET su sug sut SUG SUT kp kr KH km sw tps rt pl P st my co C la lag lat LG LT po pog pot OG OT cJ cJJ cI cII mo eo dg to er n E DG tr T) sz)) (fun _ _ _ _ => False) (XT exS (dC, dI) (tyL cI cII cJ cJJ) (wTop tp ly lyg lyt LYG LYT tl tlg tlt TLG TLT ne neg net NEG NET su sug sut SUG SUT kp kr KH km sw tps rt pl P st my co C la lag lat LG LT po pog pot OG OT cJ cJJ cI cII mo eo dg to er n E DG tr T) (va_A (wTop tp ly lyg lyt LYG LYT tl tlg tlt TLG TLT ne neg net NEG NET su sug sut SUG SUT kp kr KH km sw tps rt pl P st my co C la lag lat LG LT po pog pot OG OT cJ cJJ cI cII mo eo dg to er n E DG tr T) sz)) 1 6 (va_A (wTop tp ly lyg lyt LYG LYT tl tlg tlt TLG TLT ne neg net NEG NET su sug sut SUG SUT kp kr KH km sw tps rt pl P st my co C la lag lat LG LT po pog pot OG OT cJ cJJ cI cII mo eo dg to er n E DG tr T) sz) := by
  refine vx_ofW (cc := cX4_neutral) (maxL := 2) (ret := (some .int)) (by decide) rfl ?_
  intro p e s m args below meth c s₁ B hml hex hv
  obtain ⟨rfl, ⟨hsz, hP, hK, hD0⟩, hE⟩ := hv
  have hx := B.exec
  have hb := B.bytes
  have hlocks := B.notSynchronized
  have hts := atoms_spec (ws := wsX4_neutral) B.pre
  have hown : s.vm.findClass RX4 = some m.cls := findClass_of_methodNamed B.named
  subst hsz
  have hD := hD0.self (sz := s.heap.size)
  generalize hAe : va_A (wTop tp ly lyg lyt LYG LYT tl tlg tlt TLG TLT ne neg net NEG NET su sug sut SUG SUT kp kr KH km sw tps rt pl P st my co C la lag lat LG LT po pog pot OG OT cJ cJJ cI cII mo eo dg to er n E DG tr T) s.heap.size = A at hD hE ⊢
  have hA : ∀ q : Nat, s.heap.size ≤ q → A q := fun q h => by rw [← hAe]; exact Or.inr h
  have hS : va_S A s.heap s.heap [] := va_S.rf
  have hl := lv_entry ([.ref tp, .int (nI j)]) (n := 2) (Nat.le_of_ble_eq_true rfl)
  rw [lg_entry_eq]
  generalize (lg_sl ([.ref tp, .int (nI j)]) ++ List.replicate (2 - (lg_sl ([.ref tp, .int (nI j)])).length) Slot.unset).toArray = ls at hl ⊢
  have hl : lv_has ls 2 [(0, .ref tp), (1, .int (nI j))] := hl
  have hi_X4 : ∀ w ∈ u_ws RX4 TX4 11, w ∈ wsX4_neutral := by decide +kernel
  have hf_28 := hts (.fieldLink RX4 28 "Topplemoor" "neutralHeap" "LTopplemoor$Heap;") (by decide +kernel)
  have hi_X0 : ∀ w ∈ u_ws RX0 TX0 3, w ∈ wsX4_neutral := by decide +kernel
  have hf_89 := hts (.fieldLink RX4 89 "Topplemoor$Heap" "grains" "[I") (by decide +kernel)
  refine lv_aload_n hx hb dX4_neutral_0 rfl (lv_at hl 0 rfl) ?_
  refine lv_iload_n hx hb dX4_neutral_1 rfl (lv_at hl 1 rfl) ?_
  refine kt_callv (w' := wTop tp ly lyg lyt LYG LYT tl tlg tlt TLG TLT ne neg net NEG NET su sug sut SUG SUT kp kr KH km sw tps rt pl P st my co C la lag lat LG LT po pog pot OG OT cJ cJJ cI cII mo eo dg to er n E DG tr T) (rest := []) (As := [.int (nI j)]) ⟨hx, hb, hml, hown, hts⟩ (c_X4_requireSpot l dC dI cI cII cJ cJJ tp ly lyg lyt LYG LYT tl tlg tlt TLG TLT ne neg net NEG NET su sug sut SUG SUT kp kr KH km sw tps rt pl P st my co C la lag lat LG LT po pog pot OG OT mo eo dg to er n E DG tr T j _ (hn) (hj)) (cwV 1 hts gX4_neutral_X4_requireSpot rfl rfl rfl (by decide +kernel) ⟨Nat.le_of_ble_eq_true rfl, Nat.le_of_ble_eq_true rfl⟩) hK hP hD hS hA (List.range' 0 45) sw_wTop_wTop_0 rfl 0 kX4 rfl rfl rfl rfl rfl hl.1 (Nat.le_of_ble_eq_true rfl) dX4_neutral_2 ⟨Nat.zero_le _, Nat.zero_le _⟩ (fun H locs hP hD hS => ?_)
  refine lv_aload_n hx hb dX4_neutral_5 rfl (lv_at hl 0 rfl) ?_
  exact kt_xcallv (rest := []) (As := []) ⟨hx, hb, hml, hown, hts⟩ (x_X4_requireFast l dC dI cI cII cJ cJJ tp ly lyg lyt LYG LYT tl tlg tlt TLG TLT ne neg net NEG NET su sug sut SUG SUT kp kr KH km sw tps rt pl P st my co C la lag lat LG LT po pog pot OG OT mo eo dg to er n E DG tr T hlt _ hn hv9) (cwV 0 hts gX4_neutral_X4_requireFast rfl rfl rfl (by decide +kernel) ⟨Nat.le_of_ble_eq_true rfl, Nat.le_of_ble_eq_true rfl⟩) hK hP hD hS hA hE (List.range' 0 45) sw_wTop_wTop_0 rfl 0 kX4 rfl rfl rfl rfl rfl hl.1 (Nat.le_of_ble_eq_true rfl) dX4_neutral_6 ⟨by decide, by decide⟩ hex hlocks (by decide) (by decide)

set_option maxHeartbeats 4000000 in
set_option maxRecDepth 100000 in
theorem x_X4_order_fast (l : Launch) (dC : Nat → ClassId) (dI : Nat → Nat → Nat) (cI cII cJ cJJ : ClassId) (tp : Nat) (ly : Nat) (lyg : Nat) (lyt : Nat) (LYG : Nat → Int32) (LYT : Nat → Int32) (tl : Nat) (tlg : Nat) (tlt : Nat) (TLG : Nat → Int32) (TLT : Nat → Int32) (ne : Nat) (neg : Nat) (net : Nat) (NEG : Nat → Int32) (NET : Nat → Int32) (su : Nat) (sug : Nat) (sut : Nat) (SUG : Nat → Int32) (SUT : Nat → Int32) (kp : Nat) (kr : Nat → Nat) (KH : Nat → Nat → Int32) (km : Nat) (sw : Int32) (tps : Int32) (rt : Nat) (pl : Nat) (P : Nat → Int32) (st : Int32) (my : Nat) (co : Nat) (C : Nat → Int32) (la : Nat) (lag : Nat) (lat : Nat) (LG : Nat → Int32) (LT : Nat → Int32) (po : Nat) (pog : Nat) (pot : Nat) (OG : Nat → Int32) (OT : Nat → Int32) (mo : Nat) (eo : Nat) (dg : Nat) (to : Nat) (er : Nat → Nat) (n : Nat) (E : Nat → Nat → Int32) (DG : Nat → Int32) (tr : Nat → Nat) (T : Nat → Nat → Int64) (hlt : l.stackTraces = false)  (sz : Nat) (hn : n ≤ 6) (hv9 : fastB n E = false) : vx_Met l yX4_order wsX4_order ({ frames := 8, cells := 1, slots := 6, locals := 110 }) (va_Pc [.ref tp] (PREE (dC, dI) (tyL cI cII cJ cJJ) (wTop tp ly lyg lyt LYG LYT tl tlg tlt TLG TLT ne neg net NEG NET su sug sut SUG SUT kp kr KH km sw tps rt pl P st my co C la lag lat LG LT po pog pot OG OT cJ cJJ cI cII mo eo dg to er n E DG tr T) sz)) (fun _ _ _ _ => False) (XT exS (dC, dI) (tyL cI cII cJ cJJ) (wTop tp ly lyg lyt LYG LYT tl tlg tlt TLG TLT ne neg net NEG NET su sug sut SUG SUT kp kr KH km sw tps rt pl P st my co C la lag lat LG LT po pog pot OG OT cJ cJJ cI cII mo eo dg to er n E DG tr T) (va_A (wTop tp ly lyg lyt LYG LYT tl tlg tlt TLG TLT ne neg net NEG NET su sug sut SUG SUT kp kr KH km sw tps rt pl P st my co C la lag lat LG LT po pog pot OG OT cJ cJJ cI cII mo eo dg to er n E DG tr T) sz)) 1 6 (va_A (wTop tp ly lyg lyt LYG LYT tl tlg tlt TLG TLT ne neg net NEG NET su sug sut SUG SUT kp kr KH km sw tps rt pl P st my co C la lag lat LG LT po pog pot OG OT cJ cJJ cI cII mo eo dg to er n E DG tr T) sz) := by
  refine vx_ofW (cc := cX4_order) (maxL := 2) (ret := (some .int)) (by decide) rfl ?_
  intro p e s m args below meth c s₁ B hml hex hv
  obtain ⟨rfl, ⟨hsz, hP, hK, hD0⟩, hE⟩ := hv
  have hx := B.exec
  have hb := B.bytes
  have hlocks := B.notSynchronized
  have hts := atoms_spec (ws := wsX4_order) B.pre
  have hown : s.vm.findClass RX4 = some m.cls := findClass_of_methodNamed B.named
  subst hsz
  have hD := hD0.self (sz := s.heap.size)
  generalize hAe : va_A (wTop tp ly lyg lyt LYG LYT tl tlg tlt TLG TLT ne neg net NEG NET su sug sut SUG SUT kp kr KH km sw tps rt pl P st my co C la lag lat LG LT po pog pot OG OT cJ cJJ cI cII mo eo dg to er n E DG tr T) s.heap.size = A at hD hE ⊢
  have hA : ∀ q : Nat, s.heap.size ≤ q → A q := fun q h => by rw [← hAe]; exact Or.inr h
  have hS : va_S A s.heap s.heap [] := va_S.rf
  have hl := lv_entry ([.ref tp]) (n := 2) (Nat.le_of_ble_eq_true rfl)
  rw [lg_entry_eq]
  generalize (lg_sl ([.ref tp]) ++ List.replicate (2 - (lg_sl ([.ref tp])).length) Slot.unset).toArray = ls at hl ⊢
  have hl : lv_has ls 2 [(0, .ref tp)] := hl
  have hi_X4 : ∀ w ∈ u_ws RX4 TX4 11, w ∈ wsX4_order := by decide +kernel
  have hf_25 := hts (.fieldLink RX4 25 "Topplemoor" "trial" "LTopplemoor$Heap;") (by decide +kernel)
  have hf_21 := hts (.fieldLink RX4 21 "Topplemoor" "lying" "LTopplemoor$Heap;") (by decide +kernel)
  have hi_X0 : ∀ w ∈ u_ws RX0 TX0 3, w ∈ wsX4_order := by decide +kernel
  have hf_89 := hts (.fieldLink RX4 89 "Topplemoor$Heap" "grains" "[I") (by decide +kernel)
  have hf_28 := hts (.fieldLink RX4 28 "Topplemoor" "neutralHeap" "LTopplemoor$Heap;") (by decide +kernel)
  have hf_31 := hts (.fieldLink RX4 31 "Topplemoor" "sum" "LTopplemoor$Heap;") (by decide +kernel)
  refine lv_aload_n hx hb dX4_order_0 rfl (lv_at hl 0 rfl) ?_
  exact kt_xcallv (rest := []) (As := []) ⟨hx, hb, hml, hown, hts⟩ (x_X4_requireFast l dC dI cI cII cJ cJJ tp ly lyg lyt LYG LYT tl tlg tlt TLG TLT ne neg net NEG NET su sug sut SUG SUT kp kr KH km sw tps rt pl P st my co C la lag lat LG LT po pog pot OG OT mo eo dg to er n E DG tr T hlt _ hn hv9) (cwV 0 hts gX4_order_X4_requireFast rfl rfl rfl (by decide +kernel) ⟨Nat.le_of_ble_eq_true rfl, Nat.le_of_ble_eq_true rfl⟩) hK hP hD hS hA hE (List.range' 0 45) sw_wTop_wTop_0 rfl 0 kX4 rfl rfl rfl rfl rfl hl.1 (Nat.le_of_ble_eq_true rfl) dX4_order_1 ⟨by decide, by decide⟩ hex hlocks (by decide) (by decide)

set_option maxHeartbeats 4000000 in
set_option maxRecDepth 100000 in
theorem x_X4_canPay_fast (l : Launch) (dC : Nat → ClassId) (dI : Nat → Nat → Nat) (cI cII cJ cJJ : ClassId) (tp : Nat) (ly : Nat) (lyg : Nat) (lyt : Nat) (LYG : Nat → Int32) (LYT : Nat → Int32) (tl : Nat) (tlg : Nat) (tlt : Nat) (TLG : Nat → Int32) (TLT : Nat → Int32) (ne : Nat) (neg : Nat) (net : Nat) (NEG : Nat → Int32) (NET : Nat → Int32) (su : Nat) (sug : Nat) (sut : Nat) (SUG : Nat → Int32) (SUT : Nat → Int32) (kp : Nat) (kr : Nat → Nat) (KH : Nat → Nat → Int32) (km : Nat) (sw : Int32) (tps : Int32) (rt : Nat) (pl : Nat) (P : Nat → Int32) (st : Int32) (my : Nat) (co : Nat) (C : Nat → Int32) (la : Nat) (lag : Nat) (lat : Nat) (LG : Nat → Int32) (LT : Nat → Int32) (po : Nat) (pog : Nat) (pot : Nat) (OG : Nat → Int32) (OT : Nat → Int32) (mo : Nat) (eo : Nat) (dg : Nat) (to : Nat) (er : Nat → Nat) (n : Nat) (E : Nat → Nat → Int32) (DG : Nat → Int32) (tr : Nat → Nat) (T : Nat → Nat → Int64) (hlt : l.stackTraces = false)  (sz : Nat) (hn : n ≤ 6) (hv9 : fastB n E = false) : vx_Met l yX4_canPay wsX4_canPay ({ frames := 8, cells := 1, slots := 6, locals := 110 }) (va_Pc [.ref tp] (PREE (dC, dI) (tyL cI cII cJ cJJ) (wTop tp ly lyg lyt LYG LYT tl tlg tlt TLG TLT ne neg net NEG NET su sug sut SUG SUT kp kr KH km sw tps rt pl P st my co C la lag lat LG LT po pog pot OG OT cJ cJJ cI cII mo eo dg to er n E DG tr T) sz)) (fun _ _ _ _ => False) (XT exS (dC, dI) (tyL cI cII cJ cJJ) (wTop tp ly lyg lyt LYG LYT tl tlg tlt TLG TLT ne neg net NEG NET su sug sut SUG SUT kp kr KH km sw tps rt pl P st my co C la lag lat LG LT po pog pot OG OT cJ cJJ cI cII mo eo dg to er n E DG tr T) (va_A (wTop tp ly lyg lyt LYG LYT tl tlg tlt TLG TLT ne neg net NEG NET su sug sut SUG SUT kp kr KH km sw tps rt pl P st my co C la lag lat LG LT po pog pot OG OT cJ cJJ cI cII mo eo dg to er n E DG tr T) sz)) 1 6 (va_A (wTop tp ly lyg lyt LYG LYT tl tlg tlt TLG TLT ne neg net NEG NET su sug sut SUG SUT kp kr KH km sw tps rt pl P st my co C la lag lat LG LT po pog pot OG OT cJ cJJ cI cII mo eo dg to er n E DG tr T) sz) := by
  refine vx_ofW (cc := cX4_canPay) (maxL := 1) (ret := (some .boolean)) (by decide) rfl ?_
  intro p e s m args below meth c s₁ B hml hex hv
  obtain ⟨rfl, ⟨hsz, hP, hK, hD0⟩, hE⟩ := hv
  have hx := B.exec
  have hb := B.bytes
  have hlocks := B.notSynchronized
  have hts := atoms_spec (ws := wsX4_canPay) B.pre
  have hown : s.vm.findClass RX4 = some m.cls := findClass_of_methodNamed B.named
  subst hsz
  have hD := hD0.self (sz := s.heap.size)
  generalize hAe : va_A (wTop tp ly lyg lyt LYG LYT tl tlg tlt TLG TLT ne neg net NEG NET su sug sut SUG SUT kp kr KH km sw tps rt pl P st my co C la lag lat LG LT po pog pot OG OT cJ cJJ cI cII mo eo dg to er n E DG tr T) s.heap.size = A at hD hE ⊢
  have hA : ∀ q : Nat, s.heap.size ≤ q → A q := fun q h => by rw [← hAe]; exact Or.inr h
  have hS : va_S A s.heap s.heap [] := va_S.rf
  have hl := lv_entry ([.ref tp]) (n := 1) (Nat.le_of_ble_eq_true rfl)
  rw [lg_entry_eq]
  generalize (lg_sl ([.ref tp]) ++ List.replicate (1 - (lg_sl ([.ref tp])).length) Slot.unset).toArray = ls at hl ⊢
  have hl : lv_has ls 1 [(0, .ref tp)] := hl
  have hi_X4 : ∀ w ∈ u_ws RX4 TX4 11, w ∈ wsX4_canPay := by decide +kernel
  have hf_44 := hts (.fieldLink RX4 44 "Topplemoor" "money" "LTopplemoor$Money;") (by decide +kernel)
  refine lv_aload_n hx hb dX4_canPay_0 rfl (lv_at hl 0 rfl) ?_
  exact kt_xcallv (rest := []) (As := []) ⟨hx, hb, hml, hown, hts⟩ (x_X4_requireFast l dC dI cI cII cJ cJJ tp ly lyg lyt LYG LYT tl tlg tlt TLG TLT ne neg net NEG NET su sug sut SUG SUT kp kr KH km sw tps rt pl P st my co C la lag lat LG LT po pog pot OG OT mo eo dg to er n E DG tr T hlt _ hn hv9) (cwV 0 hts gX4_canPay_X4_requireFast rfl rfl rfl (by decide +kernel) ⟨Nat.le_of_ble_eq_true rfl, Nat.le_of_ble_eq_true rfl⟩) hK hP hD hS hA hE (List.range' 0 45) sw_wTop_wTop_0 rfl 0 kX4 rfl rfl rfl rfl rfl hl.1 (Nat.le_of_ble_eq_true rfl) dX4_canPay_1 ⟨by decide, by decide⟩ hex hlocks (by decide) (by decide)

set_option maxHeartbeats 4000000 in
set_option maxRecDepth 100000 in
theorem x_X4_weakest_fast (l : Launch) (dC : Nat → ClassId) (dI : Nat → Nat → Nat) (cI cII cJ cJJ : ClassId) (tp : Nat) (ly : Nat) (lyg : Nat) (lyt : Nat) (LYG : Nat → Int32) (LYT : Nat → Int32) (tl : Nat) (tlg : Nat) (tlt : Nat) (TLG : Nat → Int32) (TLT : Nat → Int32) (ne : Nat) (neg : Nat) (net : Nat) (NEG : Nat → Int32) (NET : Nat → Int32) (su : Nat) (sug : Nat) (sut : Nat) (SUG : Nat → Int32) (SUT : Nat → Int32) (kp : Nat) (kr : Nat → Nat) (KH : Nat → Nat → Int32) (km : Nat) (sw : Int32) (tps : Int32) (rt : Nat) (pl : Nat) (P : Nat → Int32) (st : Int32) (my : Nat) (co : Nat) (C : Nat → Int32) (la : Nat) (lag : Nat) (lat : Nat) (LG : Nat → Int32) (LT : Nat → Int32) (po : Nat) (pog : Nat) (pot : Nat) (OG : Nat → Int32) (OT : Nat → Int32) (mo : Nat) (eo : Nat) (dg : Nat) (to : Nat) (er : Nat → Nat) (n : Nat) (E : Nat → Nat → Int32) (DG : Nat → Int32) (tr : Nat → Nat) (T : Nat → Nat → Int64) (hlt : l.stackTraces = false)  (sz : Nat) (hn : n ≤ 6) (hv9 : fastB n E = false) : vx_Met l yX4_weakest wsX4_weakest ({ frames := 8, cells := 1, slots := 6, locals := 110 }) (va_Pc [.ref tp] (PREE (dC, dI) (tyL cI cII cJ cJJ) (wTop tp ly lyg lyt LYG LYT tl tlg tlt TLG TLT ne neg net NEG NET su sug sut SUG SUT kp kr KH km sw tps rt pl P st my co C la lag lat LG LT po pog pot OG OT cJ cJJ cI cII mo eo dg to er n E DG tr T) sz)) (fun _ _ _ _ => False) (XT exS (dC, dI) (tyL cI cII cJ cJJ) (wTop tp ly lyg lyt LYG LYT tl tlg tlt TLG TLT ne neg net NEG NET su sug sut SUG SUT kp kr KH km sw tps rt pl P st my co C la lag lat LG LT po pog pot OG OT cJ cJJ cI cII mo eo dg to er n E DG tr T) (va_A (wTop tp ly lyg lyt LYG LYT tl tlg tlt TLG TLT ne neg net NEG NET su sug sut SUG SUT kp kr KH km sw tps rt pl P st my co C la lag lat LG LT po pog pot OG OT cJ cJJ cI cII mo eo dg to er n E DG tr T) sz)) 1 6 (va_A (wTop tp ly lyg lyt LYG LYT tl tlg tlt TLG TLT ne neg net NEG NET su sug sut SUG SUT kp kr KH km sw tps rt pl P st my co C la lag lat LG LT po pog pot OG OT cJ cJJ cI cII mo eo dg to er n E DG tr T) sz) := by
  refine vx_ofW (cc := cX4_weakest) (maxL := 1) (ret := (some .int)) (by decide) rfl ?_
  intro p e s m args below meth c s₁ B hml hex hv
  obtain ⟨rfl, ⟨hsz, hP, hK, hD0⟩, hE⟩ := hv
  have hx := B.exec
  have hb := B.bytes
  have hlocks := B.notSynchronized
  have hts := atoms_spec (ws := wsX4_weakest) B.pre
  have hown : s.vm.findClass RX4 = some m.cls := findClass_of_methodNamed B.named
  subst hsz
  have hD := hD0.self (sz := s.heap.size)
  generalize hAe : va_A (wTop tp ly lyg lyt LYG LYT tl tlg tlt TLG TLT ne neg net NEG NET su sug sut SUG SUT kp kr KH km sw tps rt pl P st my co C la lag lat LG LT po pog pot OG OT cJ cJJ cI cII mo eo dg to er n E DG tr T) s.heap.size = A at hD hE ⊢
  have hA : ∀ q : Nat, s.heap.size ≤ q → A q := fun q h => by rw [← hAe]; exact Or.inr h
  have hS : va_S A s.heap s.heap [] := va_S.rf
  have hl := lv_entry ([.ref tp]) (n := 1) (Nat.le_of_ble_eq_true rfl)
  rw [lg_entry_eq]
  generalize (lg_sl ([.ref tp]) ++ List.replicate (1 - (lg_sl ([.ref tp])).length) Slot.unset).toArray = ls at hl ⊢
  have hl : lv_has ls 1 [(0, .ref tp)] := hl
  have hi_X4 : ∀ w ∈ u_ws RX4 TX4 11, w ∈ wsX4_weakest := by decide +kernel
  have hf_44 := hts (.fieldLink RX4 44 "Topplemoor" "money" "LTopplemoor$Money;") (by decide +kernel)
  refine lv_aload_n hx hb dX4_weakest_0 rfl (lv_at hl 0 rfl) ?_
  exact kt_xcallv (rest := []) (As := []) ⟨hx, hb, hml, hown, hts⟩ (x_X4_requireFast l dC dI cI cII cJ cJJ tp ly lyg lyt LYG LYT tl tlg tlt TLG TLT ne neg net NEG NET su sug sut SUG SUT kp kr KH km sw tps rt pl P st my co C la lag lat LG LT po pog pot OG OT mo eo dg to er n E DG tr T hlt _ hn hv9) (cwV 0 hts gX4_weakest_X4_requireFast rfl rfl rfl (by decide +kernel) ⟨Nat.le_of_ble_eq_true rfl, Nat.le_of_ble_eq_true rfl⟩) hK hP hD hS hA hE (List.range' 0 45) sw_wTop_wTop_0 rfl 0 kX4 rfl rfl rfl rfl rfl hl.1 (Nat.le_of_ble_eq_true rfl) dX4_weakest_1 ⟨by decide, by decide⟩ hex hlocks (by decide) (by decide)

set_option maxHeartbeats 4000000 in
set_option maxRecDepth 100000 in
theorem x_X4_add_heap (l : Launch) (dC : Nat → ClassId) (dI : Nat → Nat → Nat) (cI cII cJ cJJ : ClassId) (tp : Nat) (ly : Nat) (lyg : Nat) (lyt : Nat) (LYG : Nat → Int32) (LYT : Nat → Int32) (tl : Nat) (tlg : Nat) (tlt : Nat) (TLG : Nat → Int32) (TLT : Nat → Int32) (ne : Nat) (neg : Nat) (net : Nat) (NEG : Nat → Int32) (NET : Nat → Int32) (su : Nat) (sug : Nat) (sut : Nat) (SUG : Nat → Int32) (SUT : Nat → Int32) (kp : Nat) (kr : Nat → Nat) (KH : Nat → Nat → Int32) (km : Nat) (sw : Int32) (tps : Int32) (rt : Nat) (pl : Nat) (P : Nat → Int32) (st : Int32) (my : Nat) (co : Nat) (C : Nat → Int32) (la : Nat) (lag : Nat) (lat : Nat) (LG : Nat → Int32) (LT : Nat → Int32) (po : Nat) (pog : Nat) (pot : Nat) (OG : Nat → Int32) (OT : Nat → Int32) (mo : Nat) (eo : Nat) (dg : Nat) (to : Nat) (er : Nat → Nat) (n : Nat) (E : Nat → Nat → Int32) (DG : Nat → Int32) (tr : Nat → Nat) (T : Nat → Nat → Int64) (hlt : l.stackTraces = false) (v : Int32) (sz : Nat) (hv9 : v < 0 ∨ nI km ≤ v) : vx_Met l yX4_add wsX4_add ({ frames := 8, cells := 1, slots := 6, locals := 110 }) (va_Pc [.ref tp, .int v] (PREE (dC, dI) (tyL cI cII cJ cJJ) (wTop tp ly lyg lyt LYG LYT tl tlg tlt TLG TLT ne neg net NEG NET su sug sut SUG SUT kp kr KH km sw tps rt pl P st my co C la lag lat LG LT po pog pot OG OT cJ cJJ cI cII mo eo dg to er n E DG tr T) sz)) (fun _ _ _ _ => False) (XT exI (dC, dI) (tyL cI cII cJ cJJ) (wTop tp ly lyg lyt LYG LYT tl tlg tlt TLG TLT ne neg net NEG NET su sug sut SUG SUT kp kr KH km sw tps rt pl P st my co C la lag lat LG LT po pog pot OG OT cJ cJJ cI cII mo eo dg to er n E DG tr T) (va_A (wTop tp ly lyg lyt LYG LYT tl tlg tlt TLG TLT ne neg net NEG NET su sug sut SUG SUT kp kr KH km sw tps rt pl P st my co C la lag lat LG LT po pog pot OG OT cJ cJJ cI cII mo eo dg to er n E DG tr T) sz)) 1 6 (va_A (wTop tp ly lyg lyt LYG LYT tl tlg tlt TLG TLT ne neg net NEG NET su sug sut SUG SUT kp kr KH km sw tps rt pl P st my co C la lag lat LG LT po pog pot OG OT cJ cJJ cI cII mo eo dg to er n E DG tr T) sz) := by
  refine vx_ofW (cc := cX4_add) (maxL := 3) (ret := (some .int)) (by decide) rfl ?_
  intro p e s m args below meth c s₁ B hml hex hv
  obtain ⟨rfl, ⟨hsz, hP, hK, hD0⟩, hE⟩ := hv
  have hx := B.exec
  have hb := B.bytes
  have hlocks := B.notSynchronized
  have hts := atoms_spec (ws := wsX4_add) B.pre
  have hown : s.vm.findClass RX4 = some m.cls := findClass_of_methodNamed B.named
  subst hsz
  have hD := hD0.self (sz := s.heap.size)
  generalize hAe : va_A (wTop tp ly lyg lyt LYG LYT tl tlg tlt TLG TLT ne neg net NEG NET su sug sut SUG SUT kp kr KH km sw tps rt pl P st my co C la lag lat LG LT po pog pot OG OT cJ cJJ cI cII mo eo dg to er n E DG tr T) s.heap.size = A at hD hE ⊢
  have hA : ∀ q : Nat, s.heap.size ≤ q → A q := fun q h => by rw [← hAe]; exact Or.inr h
  have hS : va_S A s.heap s.heap [] := va_S.rf
  have hl := lv_entry ([.ref tp, .int v]) (n := 3) (Nat.le_of_ble_eq_true rfl)
  rw [lg_entry_eq]
  generalize (lg_sl ([.ref tp, .int v]) ++ List.replicate (3 - (lg_sl ([.ref tp, .int v])).length) Slot.unset).toArray = ls at hl ⊢
  have hl : lv_has ls 3 [(0, .ref tp), (1, .int v)] := hl
  refine lv_aload_n hx hb dX4_add_0 rfl (lv_at hl 0 rfl) ?_
  refine lv_iload_n hx hb dX4_add_1 rfl (lv_at hl 1 rfl) ?_
  exact kt_xcallv (rest := []) (As := [.int v]) ⟨hx, hb, hml, hown, hts⟩ (x_X4_requireHeap l dC dI cI cII cJ cJJ tp ly lyg lyt LYG LYT tl tlg tlt TLG TLT ne neg net NEG NET su sug sut SUG SUT kp kr KH km sw tps rt pl P st my co C la lag lat LG LT po pog pot OG OT mo eo dg to er n E DG tr T hlt v _ hv9) (cwV 1 hts gX4_add_X4_requireHeap rfl rfl rfl (by decide +kernel) ⟨Nat.le_of_ble_eq_true rfl, Nat.le_of_ble_eq_true rfl⟩) hK hP hD hS hA hE (List.range' 0 45) sw_wTop_wTop_0 rfl 0 kX4 rfl rfl rfl rfl rfl hl.1 (Nat.le_of_ble_eq_true rfl) dX4_add_2 ⟨by decide, by decide⟩ hex hlocks (by decide) (by decide)

set_option maxHeartbeats 4000000 in
set_option maxRecDepth 100000 in
theorem x_X4_walk_spot (l : Launch) (dC : Nat → ClassId) (dI : Nat → Nat → Nat) (cI cII cJ cJJ : ClassId) (tp : Nat) (ly : Nat) (lyg : Nat) (lyt : Nat) (LYG : Nat → Int32) (LYT : Nat → Int32) (tl : Nat) (tlg : Nat) (tlt : Nat) (TLG : Nat → Int32) (TLT : Nat → Int32) (ne : Nat) (neg : Nat) (net : Nat) (NEG : Nat → Int32) (NET : Nat → Int32) (su : Nat) (sug : Nat) (sut : Nat) (SUG : Nat → Int32) (SUT : Nat → Int32) (kp : Nat) (kr : Nat → Nat) (KH : Nat → Nat → Int32) (km : Nat) (sw : Int32) (tps : Int32) (rt : Nat) (pl : Nat) (P : Nat → Int32) (st : Int32) (my : Nat) (co : Nat) (C : Nat → Int32) (la : Nat) (lag : Nat) (lat : Nat) (LG : Nat → Int32) (LT : Nat → Int32) (po : Nat) (pog : Nat) (pot : Nat) (OG : Nat → Int32) (OT : Nat → Int32) (mo : Nat) (eo : Nat) (dg : Nat) (to : Nat) (er : Nat → Nat) (n : Nat) (E : Nat → Nat → Int32) (DG : Nat → Int32) (tr : Nat → Nat) (T : Nat → Nat → Int64) (hlt : l.stackTraces = false) (v : Int32) (sz : Nat) (hn : n ≤ 6) (hv9 : isSpotB n v = false) : vx_Met l yX4_walk wsX4_walk ({ frames := 8, cells := 1, slots := 6, locals := 110 }) (va_Pc [.ref tp, .int v] (PREE (dC, dI) (tyL cI cII cJ cJJ) (wTop tp ly lyg lyt LYG LYT tl tlg tlt TLG TLT ne neg net NEG NET su sug sut SUG SUT kp kr KH km sw tps rt pl P st my co C la lag lat LG LT po pog pot OG OT cJ cJJ cI cII mo eo dg to er n E DG tr T) sz)) (fun _ _ _ _ => False) (XT exI (dC, dI) (tyL cI cII cJ cJJ) (wTop tp ly lyg lyt LYG LYT tl tlg tlt TLG TLT ne neg net NEG NET su sug sut SUG SUT kp kr KH km sw tps rt pl P st my co C la lag lat LG LT po pog pot OG OT cJ cJJ cI cII mo eo dg to er n E DG tr T) (va_A (wTop tp ly lyg lyt LYG LYT tl tlg tlt TLG TLT ne neg net NEG NET su sug sut SUG SUT kp kr KH km sw tps rt pl P st my co C la lag lat LG LT po pog pot OG OT cJ cJJ cI cII mo eo dg to er n E DG tr T) sz)) 1 6 (va_A (wTop tp ly lyg lyt LYG LYT tl tlg tlt TLG TLT ne neg net NEG NET su sug sut SUG SUT kp kr KH km sw tps rt pl P st my co C la lag lat LG LT po pog pot OG OT cJ cJJ cI cII mo eo dg to er n E DG tr T) sz) := by
  refine vx_ofW (cc := cX4_walk) (maxL := 2) (ret := (some .int)) (by decide) rfl ?_
  intro p e s m args below meth c s₁ B hml hex hv
  obtain ⟨rfl, ⟨hsz, hP, hK, hD0⟩, hE⟩ := hv
  have hx := B.exec
  have hb := B.bytes
  have hlocks := B.notSynchronized
  have hts := atoms_spec (ws := wsX4_walk) B.pre
  have hown : s.vm.findClass RX4 = some m.cls := findClass_of_methodNamed B.named
  subst hsz
  have hD := hD0.self (sz := s.heap.size)
  generalize hAe : va_A (wTop tp ly lyg lyt LYG LYT tl tlg tlt TLG TLT ne neg net NEG NET su sug sut SUG SUT kp kr KH km sw tps rt pl P st my co C la lag lat LG LT po pog pot OG OT cJ cJJ cI cII mo eo dg to er n E DG tr T) s.heap.size = A at hD hE ⊢
  have hA : ∀ q : Nat, s.heap.size ≤ q → A q := fun q h => by rw [← hAe]; exact Or.inr h
  have hS : va_S A s.heap s.heap [] := va_S.rf
  have hl := lv_entry ([.ref tp, .int v]) (n := 2) (Nat.le_of_ble_eq_true rfl)
  rw [lg_entry_eq]
  generalize (lg_sl ([.ref tp, .int v]) ++ List.replicate (2 - (lg_sl ([.ref tp, .int v])).length) Slot.unset).toArray = ls at hl ⊢
  have hl : lv_has ls 2 [(0, .ref tp), (1, .int v)] := hl
  refine lv_aload_n hx hb dX4_walk_0 rfl (lv_at hl 0 rfl) ?_
  refine lv_iload_n hx hb dX4_walk_1 rfl (lv_at hl 1 rfl) ?_
  exact kt_xcallv (rest := []) (As := [.int v]) ⟨hx, hb, hml, hown, hts⟩ (x_X4_requireSpot l dC dI cI cII cJ cJJ tp ly lyg lyt LYG LYT tl tlg tlt TLG TLT ne neg net NEG NET su sug sut SUG SUT kp kr KH km sw tps rt pl P st my co C la lag lat LG LT po pog pot OG OT mo eo dg to er n E DG tr T hlt v _ hn hv9) (cwV 1 hts gX4_walk_X4_requireSpot rfl rfl rfl (by decide +kernel) ⟨Nat.le_of_ble_eq_true rfl, Nat.le_of_ble_eq_true rfl⟩) hK hP hD hS hA hE (List.range' 0 45) sw_wTop_wTop_0 rfl 0 kX4 rfl rfl rfl rfl rfl hl.1 (Nat.le_of_ble_eq_true rfl) dX4_walk_2 ⟨by decide, by decide⟩ hex hlocks (by decide) (by decide)

set_option maxHeartbeats 4000000 in
set_option maxRecDepth 100000 in
theorem x_X4_would_spot (l : Launch) (dC : Nat → ClassId) (dI : Nat → Nat → Nat) (cI cII cJ cJJ : ClassId) (tp : Nat) (ly : Nat) (lyg : Nat) (lyt : Nat) (LYG : Nat → Int32) (LYT : Nat → Int32) (tl : Nat) (tlg : Nat) (tlt : Nat) (TLG : Nat → Int32) (TLT : Nat → Int32) (ne : Nat) (neg : Nat) (net : Nat) (NEG : Nat → Int32) (NET : Nat → Int32) (su : Nat) (sug : Nat) (sut : Nat) (SUG : Nat → Int32) (SUT : Nat → Int32) (kp : Nat) (kr : Nat → Nat) (KH : Nat → Nat → Int32) (km : Nat) (sw : Int32) (tps : Int32) (rt : Nat) (pl : Nat) (P : Nat → Int32) (st : Int32) (my : Nat) (co : Nat) (C : Nat → Int32) (la : Nat) (lag : Nat) (lat : Nat) (LG : Nat → Int32) (LT : Nat → Int32) (po : Nat) (pog : Nat) (pot : Nat) (OG : Nat → Int32) (OT : Nat → Int32) (mo : Nat) (eo : Nat) (dg : Nat) (to : Nat) (er : Nat → Nat) (n : Nat) (E : Nat → Nat → Int32) (DG : Nat → Int32) (tr : Nat → Nat) (T : Nat → Nat → Int64) (hlt : l.stackTraces = false) (v v2 v3 : Int32) (sz : Nat) (hn : n ≤ 6) (hv9 : isSpotB n v = false) : vx_Met l yX4_would wsX4_would ({ frames := 8, cells := 1, slots := 6, locals := 110 }) (va_Pc [.ref tp, .int v, .int v2, .int v3] (PREE (dC, dI) (tyL cI cII cJ cJJ) (wTop tp ly lyg lyt LYG LYT tl tlg tlt TLG TLT ne neg net NEG NET su sug sut SUG SUT kp kr KH km sw tps rt pl P st my co C la lag lat LG LT po pog pot OG OT cJ cJJ cI cII mo eo dg to er n E DG tr T) sz)) (fun _ _ _ _ => False) (XT exI (dC, dI) (tyL cI cII cJ cJJ) (wTop tp ly lyg lyt LYG LYT tl tlg tlt TLG TLT ne neg net NEG NET su sug sut SUG SUT kp kr KH km sw tps rt pl P st my co C la lag lat LG LT po pog pot OG OT cJ cJJ cI cII mo eo dg to er n E DG tr T) (va_A (wTop tp ly lyg lyt LYG LYT tl tlg tlt TLG TLT ne neg net NEG NET su sug sut SUG SUT kp kr KH km sw tps rt pl P st my co C la lag lat LG LT po pog pot OG OT cJ cJJ cI cII mo eo dg to er n E DG tr T) sz)) 1 6 (va_A (wTop tp ly lyg lyt LYG LYT tl tlg tlt TLG TLT ne neg net NEG NET su sug sut SUG SUT kp kr KH km sw tps rt pl P st my co C la lag lat LG LT po pog pot OG OT cJ cJJ cI cII mo eo dg to er n E DG tr T) sz) := by
  refine vx_ofW (cc := cX4_would) (maxL := 4) (ret := (some .int)) (by decide) rfl ?_
  intro p e s m args below meth c s₁ B hml hex hv
  obtain ⟨rfl, ⟨hsz, hP, hK, hD0⟩, hE⟩ := hv
  have hx := B.exec
  have hb := B.bytes
  have hlocks := B.notSynchronized
  have hts := atoms_spec (ws := wsX4_would) B.pre
  have hown : s.vm.findClass RX4 = some m.cls := findClass_of_methodNamed B.named
  subst hsz
  have hD := hD0.self (sz := s.heap.size)
  generalize hAe : va_A (wTop tp ly lyg lyt LYG LYT tl tlg tlt TLG TLT ne neg net NEG NET su sug sut SUG SUT kp kr KH km sw tps rt pl P st my co C la lag lat LG LT po pog pot OG OT cJ cJJ cI cII mo eo dg to er n E DG tr T) s.heap.size = A at hD hE ⊢
  have hA : ∀ q : Nat, s.heap.size ≤ q → A q := fun q h => by rw [← hAe]; exact Or.inr h
  have hS : va_S A s.heap s.heap [] := va_S.rf
  have hl := lv_entry ([.ref tp, .int v, .int v2, .int v3]) (n := 4) (Nat.le_of_ble_eq_true rfl)
  rw [lg_entry_eq]
  generalize (lg_sl ([.ref tp, .int v, .int v2, .int v3]) ++ List.replicate (4 - (lg_sl ([.ref tp, .int v, .int v2, .int v3])).length) Slot.unset).toArray = ls at hl ⊢
  have hl : lv_has ls 4 [(0, .ref tp), (1, .int v), (2, .int v2), (3, .int v3)] := hl
  refine lv_aload_n hx hb dX4_would_0 rfl (lv_at hl 0 rfl) ?_
  refine lv_iload_n hx hb dX4_would_1 rfl (lv_at hl 1 rfl) ?_
  exact kt_xcallv (rest := []) (As := [.int v]) ⟨hx, hb, hml, hown, hts⟩ (x_X4_requireSpot l dC dI cI cII cJ cJJ tp ly lyg lyt LYG LYT tl tlg tlt TLG TLT ne neg net NEG NET su sug sut SUG SUT kp kr KH km sw tps rt pl P st my co C la lag lat LG LT po pog pot OG OT mo eo dg to er n E DG tr T hlt v _ hn hv9) (cwV 1 hts gX4_would_X4_requireSpot rfl rfl rfl (by decide +kernel) ⟨Nat.le_of_ble_eq_true rfl, Nat.le_of_ble_eq_true rfl⟩) hK hP hD hS hA hE (List.range' 0 45) sw_wTop_wTop_0 rfl 0 kX4 rfl rfl rfl rfl rfl hl.1 (Nat.le_of_ble_eq_true rfl) dX4_would_2 ⟨by decide, by decide⟩ hex hlocks (by decide) (by decide)
