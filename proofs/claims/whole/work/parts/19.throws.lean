/-! the methods that only throw: nothing is changed -/

set_option maxHeartbeats 4000000 in
set_option maxRecDepth 100000 in
theorem x_X4_requireHeap (l : Launch) (dC : Nat → ClassId) (dI : Nat → Nat → Nat) (cI cII cJ cJJ : ClassId) (tp : Nat) (ly : Nat) (lyg : Nat) (lyt : Nat) (LYG : Nat → Int32) (LYT : Nat → Int32) (tl : Nat) (tlg : Nat) (tlt : Nat) (TLG : Nat → Int32) (TLT : Nat → Int32) (ne : Nat) (neg : Nat) (net : Nat) (NEG : Nat → Int32) (NET : Nat → Int32) (su : Nat) (sug : Nat) (sut : Nat) (SUG : Nat → Int32) (SUT : Nat → Int32) (kp : Nat) (kr : Nat → Nat) (KH : Nat → Nat → Int32) (km : Nat) (sw : Int32) (tps : Int32) (rt : Nat) (pl : Nat) (P : Nat → Int32) (st : Int32) (my : Nat) (co : Nat) (C : Nat → Int32) (la : Nat) (lag : Nat) (lat : Nat) (LG : Nat → Int32) (LT : Nat → Int32) (po : Nat) (pog : Nat) (pot : Nat) (OG : Nat → Int32) (OT : Nat → Int32) (mo : Nat) (eo : Nat) (dg : Nat) (to : Nat) (er : Nat → Nat) (n : Nat) (E : Nat → Nat → Int32) (DG : Nat → Int32) (tr : Nat → Nat) (T : Nat → Nat → Int64) (hlt : l.stackTraces = false) (v : Int32) (sz : Nat) (hv9 : v < 0 ∨ nI km ≤ v) : vx_Met l yX4_requireHeap wsX4_requireHeap ({ frames := 6, cells := 1, slots := 6, locals := 82 }) (va_Pc [.ref tp, .int v] (PREE (dC, dI) (tyL cI cII cJ cJJ) (wTop tp ly lyg lyt LYG LYT tl tlg tlt TLG TLT ne neg net NEG NET su sug sut SUG SUT kp kr KH km sw tps rt pl P st my co C la lag lat LG LT po pog pot OG OT cJ cJJ cI cII mo eo dg to er n E DG tr T) sz)) (fun _ _ _ _ => False) (XT exI (dC, dI) (tyL cI cII cJ cJJ) (wTop tp ly lyg lyt LYG LYT tl tlg tlt TLG TLT ne neg net NEG NET su sug sut SUG SUT kp kr KH km sw tps rt pl P st my co C la lag lat LG LT po pog pot OG OT cJ cJJ cI cII mo eo dg to er n E DG tr T) (va_A (wTop tp ly lyg lyt LYG LYT tl tlg tlt TLG TLT ne neg net NEG NET su sug sut SUG SUT kp kr KH km sw tps rt pl P st my co C la lag lat LG LT po pog pot OG OT cJ cJJ cI cII mo eo dg to er n E DG tr T) sz)) 1 6 (va_A (wTop tp ly lyg lyt LYG LYT tl tlg tlt TLG TLT ne neg net NEG NET su sug sut SUG SUT kp kr KH km sw tps rt pl P st my co C la lag lat LG LT po pog pot OG OT cJ cJJ cI cII mo eo dg to er n E DG tr T) sz) := by
  refine vx_ofW (cc := cX4_requireHeap) (maxL := 2) (ret := none) (by decide) rfl ?_
  intro p e s m args below meth c s₁ B hml hex hv
  obtain ⟨rfl, ⟨hsz, hP, hK, hD0⟩, hE⟩ := hv
  have hx := B.exec
  have hb := B.bytes
  have hlocks := B.notSynchronized
  have hts := atoms_spec (ws := wsX4_requireHeap) B.pre
  have hown : s.vm.findClass RX4 = some m.cls := findClass_of_methodNamed B.named
  subst hsz
  have hD := hD0.self (sz := s.heap.size)
  generalize hAe : va_A (wTop tp ly lyg lyt LYG LYT tl tlg tlt TLG TLT ne neg net NEG NET su sug sut SUG SUT kp kr KH km sw tps rt pl P st my co C la lag lat LG LT po pog pot OG OT cJ cJJ cI cII mo eo dg to er n E DG tr T) s.heap.size = A at hD hE ⊢
  have hA : ∀ q : Nat, s.heap.size ≤ q → A q := fun q h => by rw [← hAe]; exact Or.inr h
  have hS : va_S A s.heap s.heap [] := va_S.rf
  have hl := lv_entry ([.ref tp, .int v]) (n := 2) (Nat.le_of_ble_eq_true rfl)
  rw [lg_entry_eq]
  generalize (lg_sl ([.ref tp, .int v]) ++ List.replicate (2 - (lg_sl ([.ref tp, .int v])).length) Slot.unset).toArray = ls at hl ⊢
  have hl : lv_has ls 2 [(0, .ref tp), (1, .int v)] := hl
  have hi_X4 : ∀ w ∈ u_ws RX4 TX4 11, w ∈ wsX4_requireHeap := by decide +kernel
  have hf_118 := hts (.fieldLink RX4 118 "Topplemoor" "keptMany" "I") (by decide +kernel)
  refine lv_iload_n hx hb dX4_requireHeap_0 rfl (lv_at hl 1 rfl) ?_
  refine lv_if_lt (tgt := 12) hx hb dX4_requireHeap_1 (by decide) (fun c1 => ?_) (fun c1 => ?_)
  · exact kt_throw exI 227 237 231 "no such heap" hx hb hlt hown (by decide) ex_ng_I ex_ot_I hts (by decide +kernel) (hE.castI) hE (by decide) hP hK hD hS (hl.1.trans hml.symm) dX4_requireHeap_12 dX4_requireHeap_15 dX4_requireHeap_16 dX4_requireHeap_18 dX4_requireHeap_21 (fun x h => (hex x h).elim) (by decide) (by decide) (by decide) (by decide) hlocks (by decide) (by decide)
  · refine lv_iload_n hx hb dX4_requireHeap_4 rfl (lv_at hl 1 rfl) ?_
    refine lv_aload_n hx hb dX4_requireHeap_5 rfl (lv_at hl 0 rfl) ?_
    refine va_get (D := (dC, dI)) (ci := kX4) (v := .int (nI km)) (C := RX4) (T := TX4) (N := 11) hx hb hts hi_X4 hown hK hP 0 rfl rfl 8 (by decide) hf_118 (fun _ h9 => h9) rfl dX4_requireHeap_6 ?_
    refine lv_icmp_lt (tgt := 22) hx hb dX4_requireHeap_9 (by decide) (fun c9 => ?_) (fun c9 => ?_)
    · rcases hv9 with h9 | h9
      · exact absurd h9 c1
      · exact absurd c9 (Int32.not_lt.mpr h9)
    · exact kt_throw exI 227 237 231 "no such heap" hx hb hlt hown (by decide) ex_ng_I ex_ot_I hts (by decide +kernel) (hE.castI) hE (by decide) hP hK hD hS (hl.1.trans hml.symm) dX4_requireHeap_12 dX4_requireHeap_15 dX4_requireHeap_16 dX4_requireHeap_18 dX4_requireHeap_21 (fun x h => (hex x h).elim) (by decide) (by decide) (by decide) (by decide) hlocks (by decide) (by decide)

set_option maxHeartbeats 4000000 in
set_option maxRecDepth 100000 in
theorem x_X4_requireSpot (l : Launch) (dC : Nat → ClassId) (dI : Nat → Nat → Nat) (cI cII cJ cJJ : ClassId) (tp : Nat) (ly : Nat) (lyg : Nat) (lyt : Nat) (LYG : Nat → Int32) (LYT : Nat → Int32) (tl : Nat) (tlg : Nat) (tlt : Nat) (TLG : Nat → Int32) (TLT : Nat → Int32) (ne : Nat) (neg : Nat) (net : Nat) (NEG : Nat → Int32) (NET : Nat → Int32) (su : Nat) (sug : Nat) (sut : Nat) (SUG : Nat → Int32) (SUT : Nat → Int32) (kp : Nat) (kr : Nat → Nat) (KH : Nat → Nat → Int32) (km : Nat) (sw : Int32) (tps : Int32) (rt : Nat) (pl : Nat) (P : Nat → Int32) (st : Int32) (my : Nat) (co : Nat) (C : Nat → Int32) (la : Nat) (lag : Nat) (lat : Nat) (LG : Nat → Int32) (LT : Nat → Int32) (po : Nat) (pog : Nat) (pot : Nat) (OG : Nat → Int32) (OT : Nat → Int32) (mo : Nat) (eo : Nat) (dg : Nat) (to : Nat) (er : Nat → Nat) (n : Nat) (E : Nat → Nat → Int32) (DG : Nat → Int32) (tr : Nat → Nat) (T : Nat → Nat → Int64) (hlt : l.stackTraces = false) (v : Int32) (sz : Nat) (hn : n ≤ 6) (hv9 : isSpotB n v = false) : vx_Met l yX4_requireSpot wsX4_requireSpot ({ frames := 6, cells := 1, slots := 6, locals := 82 }) (va_Pc [.ref tp, .int v] (PREE (dC, dI) (tyL cI cII cJ cJJ) (wTop tp ly lyg lyt LYG LYT tl tlg tlt TLG TLT ne neg net NEG NET su sug sut SUG SUT kp kr KH km sw tps rt pl P st my co C la lag lat LG LT po pog pot OG OT cJ cJJ cI cII mo eo dg to er n E DG tr T) sz)) (fun _ _ _ _ => False) (XT exI (dC, dI) (tyL cI cII cJ cJJ) (wTop tp ly lyg lyt LYG LYT tl tlg tlt TLG TLT ne neg net NEG NET su sug sut SUG SUT kp kr KH km sw tps rt pl P st my co C la lag lat LG LT po pog pot OG OT cJ cJJ cI cII mo eo dg to er n E DG tr T) (va_A (wTop tp ly lyg lyt LYG LYT tl tlg tlt TLG TLT ne neg net NEG NET su sug sut SUG SUT kp kr KH km sw tps rt pl P st my co C la lag lat LG LT po pog pot OG OT cJ cJJ cI cII mo eo dg to er n E DG tr T) sz)) 1 6 (va_A (wTop tp ly lyg lyt LYG LYT tl tlg tlt TLG TLT ne neg net NEG NET su sug sut SUG SUT kp kr KH km sw tps rt pl P st my co C la lag lat LG LT po pog pot OG OT cJ cJJ cI cII mo eo dg to er n E DG tr T) sz) := by
  refine vx_ofW (cc := cX4_requireSpot) (maxL := 2) (ret := none) (by decide) rfl ?_
  intro p e s m args below meth c s₁ B hml hex hv
  obtain ⟨rfl, ⟨hsz, hP, hK, hD0⟩, hE⟩ := hv
  have hx := B.exec
  have hb := B.bytes
  have hlocks := B.notSynchronized
  have hts := atoms_spec (ws := wsX4_requireSpot) B.pre
  have hown : s.vm.findClass RX4 = some m.cls := findClass_of_methodNamed B.named
  subst hsz
  have hD := hD0.self (sz := s.heap.size)
  generalize hAe : va_A (wTop tp ly lyg lyt LYG LYT tl tlg tlt TLG TLT ne neg net NEG NET su sug sut SUG SUT kp kr KH km sw tps rt pl P st my co C la lag lat LG LT po pog pot OG OT cJ cJJ cI cII mo eo dg to er n E DG tr T) s.heap.size = A at hD hE ⊢
  have hA : ∀ q : Nat, s.heap.size ≤ q → A q := fun q h => by rw [← hAe]; exact Or.inr h
  have hS : va_S A s.heap s.heap [] := va_S.rf
  have hl := lv_entry ([.ref tp, .int v]) (n := 2) (Nat.le_of_ble_eq_true rfl)
  rw [lg_entry_eq]
  generalize (lg_sl ([.ref tp, .int v]) ++ List.replicate (2 - (lg_sl ([.ref tp, .int v])).length) Slot.unset).toArray = ls at hl ⊢
  have hl : lv_has ls 2 [(0, .ref tp), (1, .int v)] := hl
  have hi_X4 : ∀ w ∈ u_ws RX4 TX4 11, w ∈ wsX4_requireSpot := by decide +kernel
  have hf_10 := hts (.fieldLink RX4 10 "Topplemoor" "moor" "LTopplemoor$Moor;") (by decide +kernel)
  refine lv_aload_n hx hb dX4_requireSpot_0 rfl (lv_at hl 0 rfl) ?_
  refine va_get (D := (dC, dI)) (ci := kX4) (v := .ref mo) (C := RX4) (T := TX4) (N := 11) hx hb hts hi_X4 hown hK hP 0 rfl rfl 0 (by decide) hf_10 (fun _ h9 => h9) rfl dX4_requireSpot_1 ?_
  refine lv_iload_n hx hb dX4_requireSpot_4 rfl (lv_at hl 1 rfl) ?_
  refine kt_calli (w' := wTop tp ly lyg lyt LYG LYT tl tlg tlt TLG TLT ne neg net NEG NET su sug sut SUG SUT kp kr KH km sw tps rt pl P st my co C la lag lat LG LT po pog pot OG OT cJ cJJ cI cII mo eo dg to er n E DG tr T) (rest := []) (As := [.int v]) ⟨hx, hb, hml, hown, hts⟩ (c_X2_isSpot l dC dI cI cII cJ cJJ mo eo dg to er n E DG v _ (hn)) (cwV 1 hts gX4_requireSpot_X2_isSpot rfl rfl rfl (by decide +kernel) ⟨Nat.le_of_ble_eq_true rfl, Nat.le_of_ble_eq_true rfl⟩) hK hP hD hS hA [28, 29, 30, 31, 32, 33, 34, 35, 36, 37] sw_wTop_wM_0 rfl 28 kX2 rfl rfl rfl rfl rfl hl.1 (Nat.le_of_ble_eq_true rfl) dX4_requireSpot_5 ⟨by decide, by decide⟩ (fun H locs hP hD hS => ?_)
  refine lv_if_ne (tgt := 21) hx hb dX4_requireSpot_8 (by decide) (fun c8 => ?_) (fun c8 => ?_)
  · exact absurd (show False by rw [hv9] at c8; exact absurd c8 (by decide)) id
  · exact kt_throw exI 227 229 231 "no such spot" hx hb hlt hown (by decide) ex_ng_I ex_ot_I hts (by decide +kernel) (hE.castI) hE (by decide) hP hK hD hS (hl.1.trans hml.symm) dX4_requireSpot_11 dX4_requireSpot_14 dX4_requireSpot_15 dX4_requireSpot_17 dX4_requireSpot_20 (fun x h => (hex x h).elim) (by decide) (by decide) (by decide) (by decide) hlocks (by decide) (by decide)

set_option maxHeartbeats 4000000 in
set_option maxRecDepth 100000 in
theorem x_X4_requireNode (l : Launch) (dC : Nat → ClassId) (dI : Nat → Nat → Nat) (cI cII cJ cJJ : ClassId) (tp : Nat) (ly : Nat) (lyg : Nat) (lyt : Nat) (LYG : Nat → Int32) (LYT : Nat → Int32) (tl : Nat) (tlg : Nat) (tlt : Nat) (TLG : Nat → Int32) (TLT : Nat → Int32) (ne : Nat) (neg : Nat) (net : Nat) (NEG : Nat → Int32) (NET : Nat → Int32) (su : Nat) (sug : Nat) (sut : Nat) (SUG : Nat → Int32) (SUT : Nat → Int32) (kp : Nat) (kr : Nat → Nat) (KH : Nat → Nat → Int32) (km : Nat) (sw : Int32) (tps : Int32) (rt : Nat) (pl : Nat) (P : Nat → Int32) (st : Int32) (my : Nat) (co : Nat) (C : Nat → Int32) (la : Nat) (lag : Nat) (lat : Nat) (LG : Nat → Int32) (LT : Nat → Int32) (po : Nat) (pog : Nat) (pot : Nat) (OG : Nat → Int32) (OT : Nat → Int32) (mo : Nat) (eo : Nat) (dg : Nat) (to : Nat) (er : Nat → Nat) (n : Nat) (E : Nat → Nat → Int32) (DG : Nat → Int32) (tr : Nat → Nat) (T : Nat → Nat → Int64) (hlt : l.stackTraces = false) (v : Int32) (sz : Nat) (hn : n ≤ 6) (hv9 : isNodeB n v = false) : vx_Met l yX4_requireNode wsX4_requireNode ({ frames := 6, cells := 1, slots := 6, locals := 82 }) (va_Pc [.ref tp, .int v] (PREE (dC, dI) (tyL cI cII cJ cJJ) (wTop tp ly lyg lyt LYG LYT tl tlg tlt TLG TLT ne neg net NEG NET su sug sut SUG SUT kp kr KH km sw tps rt pl P st my co C la lag lat LG LT po pog pot OG OT cJ cJJ cI cII mo eo dg to er n E DG tr T) sz)) (fun _ _ _ _ => False) (XT exI (dC, dI) (tyL cI cII cJ cJJ) (wTop tp ly lyg lyt LYG LYT tl tlg tlt TLG TLT ne neg net NEG NET su sug sut SUG SUT kp kr KH km sw tps rt pl P st my co C la lag lat LG LT po pog pot OG OT cJ cJJ cI cII mo eo dg to er n E DG tr T) (va_A (wTop tp ly lyg lyt LYG LYT tl tlg tlt TLG TLT ne neg net NEG NET su sug sut SUG SUT kp kr KH km sw tps rt pl P st my co C la lag lat LG LT po pog pot OG OT cJ cJJ cI cII mo eo dg to er n E DG tr T) sz)) 1 6 (va_A (wTop tp ly lyg lyt LYG LYT tl tlg tlt TLG TLT ne neg net NEG NET su sug sut SUG SUT kp kr KH km sw tps rt pl P st my co C la lag lat LG LT po pog pot OG OT cJ cJJ cI cII mo eo dg to er n E DG tr T) sz) := by
  refine vx_ofW (cc := cX4_requireNode) (maxL := 2) (ret := none) (by decide) rfl ?_
  intro p e s m args below meth c s₁ B hml hex hv
  obtain ⟨rfl, ⟨hsz, hP, hK, hD0⟩, hE⟩ := hv
  have hx := B.exec
  have hb := B.bytes
  have hlocks := B.notSynchronized
  have hts := atoms_spec (ws := wsX4_requireNode) B.pre
  have hown : s.vm.findClass RX4 = some m.cls := findClass_of_methodNamed B.named
  subst hsz
  have hD := hD0.self (sz := s.heap.size)
  generalize hAe : va_A (wTop tp ly lyg lyt LYG LYT tl tlg tlt TLG TLT ne neg net NEG NET su sug sut SUG SUT kp kr KH km sw tps rt pl P st my co C la lag lat LG LT po pog pot OG OT cJ cJJ cI cII mo eo dg to er n E DG tr T) s.heap.size = A at hD hE ⊢
  have hA : ∀ q : Nat, s.heap.size ≤ q → A q := fun q h => by rw [← hAe]; exact Or.inr h
  have hS : va_S A s.heap s.heap [] := va_S.rf
  have hl := lv_entry ([.ref tp, .int v]) (n := 2) (Nat.le_of_ble_eq_true rfl)
  rw [lg_entry_eq]
  generalize (lg_sl ([.ref tp, .int v]) ++ List.replicate (2 - (lg_sl ([.ref tp, .int v])).length) Slot.unset).toArray = ls at hl ⊢
  have hl : lv_has ls 2 [(0, .ref tp), (1, .int v)] := hl
  have hi_X4 : ∀ w ∈ u_ws RX4 TX4 11, w ∈ wsX4_requireNode := by decide +kernel
  have hf_10 := hts (.fieldLink RX4 10 "Topplemoor" "moor" "LTopplemoor$Moor;") (by decide +kernel)
  refine lv_aload_n hx hb dX4_requireNode_0 rfl (lv_at hl 0 rfl) ?_
  refine va_get (D := (dC, dI)) (ci := kX4) (v := .ref mo) (C := RX4) (T := TX4) (N := 11) hx hb hts hi_X4 hown hK hP 0 rfl rfl 0 (by decide) hf_10 (fun _ h9 => h9) rfl dX4_requireNode_1 ?_
  refine lv_iload_n hx hb dX4_requireNode_4 rfl (lv_at hl 1 rfl) ?_
  refine kt_calli (w' := wTop tp ly lyg lyt LYG LYT tl tlg tlt TLG TLT ne neg net NEG NET su sug sut SUG SUT kp kr KH km sw tps rt pl P st my co C la lag lat LG LT po pog pot OG OT cJ cJJ cI cII mo eo dg to er n E DG tr T) (rest := []) (As := [.int v]) ⟨hx, hb, hml, hown, hts⟩ (c_X2_isNode l dC dI cI cII cJ cJJ mo eo dg to er n E DG v _ (hn)) (cwV 1 hts gX4_requireNode_X2_isNode rfl rfl rfl (by decide +kernel) ⟨Nat.le_of_ble_eq_true rfl, Nat.le_of_ble_eq_true rfl⟩) hK hP hD hS hA [28, 29, 30, 31, 32, 33, 34, 35, 36, 37] sw_wTop_wM_0 rfl 28 kX2 rfl rfl rfl rfl rfl hl.1 (Nat.le_of_ble_eq_true rfl) dX4_requireNode_5 ⟨by decide, by decide⟩ (fun H locs hP hD hS => ?_)
  refine lv_if_ne (tgt := 21) hx hb dX4_requireNode_8 (by decide) (fun c8 => ?_) (fun c8 => ?_)
  · exact absurd (show False by rw [hv9] at c8; exact absurd c8 (by decide)) id
  · exact kt_throw exI 227 235 231 "no such spot, and not the sink" hx hb hlt hown (by decide) ex_ng_I ex_ot_I hts (by decide +kernel) (hE.castI) hE (by decide) hP hK hD hS (hl.1.trans hml.symm) dX4_requireNode_11 dX4_requireNode_14 dX4_requireNode_15 dX4_requireNode_17 dX4_requireNode_20 (fun x h => (hex x h).elim) (by decide) (by decide) (by decide) (by decide) hlocks (by decide) (by decide)

set_option maxHeartbeats 4000000 in
set_option maxRecDepth 100000 in
theorem x_X4_requireFast (l : Launch) (dC : Nat → ClassId) (dI : Nat → Nat → Nat) (cI cII cJ cJJ : ClassId) (tp : Nat) (ly : Nat) (lyg : Nat) (lyt : Nat) (LYG : Nat → Int32) (LYT : Nat → Int32) (tl : Nat) (tlg : Nat) (tlt : Nat) (TLG : Nat → Int32) (TLT : Nat → Int32) (ne : Nat) (neg : Nat) (net : Nat) (NEG : Nat → Int32) (NET : Nat → Int32) (su : Nat) (sug : Nat) (sut : Nat) (SUG : Nat → Int32) (SUT : Nat → Int32) (kp : Nat) (kr : Nat → Nat) (KH : Nat → Nat → Int32) (km : Nat) (sw : Int32) (tps : Int32) (rt : Nat) (pl : Nat) (P : Nat → Int32) (st : Int32) (my : Nat) (co : Nat) (C : Nat → Int32) (la : Nat) (lag : Nat) (lat : Nat) (LG : Nat → Int32) (LT : Nat → Int32) (po : Nat) (pog : Nat) (pot : Nat) (OG : Nat → Int32) (OT : Nat → Int32) (mo : Nat) (eo : Nat) (dg : Nat) (to : Nat) (er : Nat → Nat) (n : Nat) (E : Nat → Nat → Int32) (DG : Nat → Int32) (tr : Nat → Nat) (T : Nat → Nat → Int64) (hlt : l.stackTraces = false)  (sz : Nat) (hn : n ≤ 6) (hfast : fastB n E = false) : vx_Met l yX4_requireFast wsX4_requireFast ({ frames := 6, cells := 1, slots := 6, locals := 82 }) (va_Pc [.ref tp] (PREE (dC, dI) (tyL cI cII cJ cJJ) (wTop tp ly lyg lyt LYG LYT tl tlg tlt TLG TLT ne neg net NEG NET su sug sut SUG SUT kp kr KH km sw tps rt pl P st my co C la lag lat LG LT po pog pot OG OT cJ cJJ cI cII mo eo dg to er n E DG tr T) sz)) (fun _ _ _ _ => False) (XT exS (dC, dI) (tyL cI cII cJ cJJ) (wTop tp ly lyg lyt LYG LYT tl tlg tlt TLG TLT ne neg net NEG NET su sug sut SUG SUT kp kr KH km sw tps rt pl P st my co C la lag lat LG LT po pog pot OG OT cJ cJJ cI cII mo eo dg to er n E DG tr T) (va_A (wTop tp ly lyg lyt LYG LYT tl tlg tlt TLG TLT ne neg net NEG NET su sug sut SUG SUT kp kr KH km sw tps rt pl P st my co C la lag lat LG LT po pog pot OG OT cJ cJJ cI cII mo eo dg to er n E DG tr T) sz)) 1 6 (va_A (wTop tp ly lyg lyt LYG LYT tl tlg tlt TLG TLT ne neg net NEG NET su sug sut SUG SUT kp kr KH km sw tps rt pl P st my co C la lag lat LG LT po pog pot OG OT cJ cJJ cI cII mo eo dg to er n E DG tr T) sz) := by
  refine vx_ofW (cc := cX4_requireFast) (maxL := 1) (ret := none) (by decide) rfl ?_
  intro p e s m args below meth c s₁ B hml hex hv
  obtain ⟨rfl, ⟨hsz, hP, hK, hD0⟩, hE⟩ := hv
  have hx := B.exec
  have hb := B.bytes
  have hlocks := B.notSynchronized
  have hts := atoms_spec (ws := wsX4_requireFast) B.pre
  have hown : s.vm.findClass RX4 = some m.cls := findClass_of_methodNamed B.named
  subst hsz
  have hD := hD0.self (sz := s.heap.size)
  generalize hAe : va_A (wTop tp ly lyg lyt LYG LYT tl tlg tlt TLG TLT ne neg net NEG NET su sug sut SUG SUT kp kr KH km sw tps rt pl P st my co C la lag lat LG LT po pog pot OG OT cJ cJJ cI cII mo eo dg to er n E DG tr T) s.heap.size = A at hD hE ⊢
  have hA : ∀ q : Nat, s.heap.size ≤ q → A q := fun q h => by rw [← hAe]; exact Or.inr h
  have hS : va_S A s.heap s.heap [] := va_S.rf
  have hl := lv_entry ([.ref tp]) (n := 1) (Nat.le_of_ble_eq_true rfl)
  rw [lg_entry_eq]
  generalize (lg_sl ([.ref tp]) ++ List.replicate (1 - (lg_sl ([.ref tp])).length) Slot.unset).toArray = ls at hl ⊢
  have hl : lv_has ls 1 [(0, .ref tp)] := hl
  have hi_X4 : ∀ w ∈ u_ws RX4 TX4 11, w ∈ wsX4_requireFast := by decide +kernel
  have hf_10 := hts (.fieldLink RX4 10 "Topplemoor" "moor" "LTopplemoor$Moor;") (by decide +kernel)
  refine lv_aload_n hx hb dX4_requireFast_0 rfl (lv_at hl 0 rfl) ?_
  refine va_get (D := (dC, dI)) (ci := kX4) (v := .ref mo) (C := RX4) (T := TX4) (N := 11) hx hb hts hi_X4 hown hK hP 0 rfl rfl 0 (by decide) hf_10 (fun _ h9 => h9) rfl dX4_requireFast_1 ?_
  refine kt_calli (w' := wTop tp ly lyg lyt LYG LYT tl tlg tlt TLG TLT ne neg net NEG NET su sug sut SUG SUT kp kr KH km sw tps rt pl P st my co C la lag lat LG LT po pog pot OG OT cJ cJJ cI cII mo eo dg to er n E DG tr T) (rest := []) (As := []) ⟨hx, hb, hml, hown, hts⟩ (c_X2_isFast l dC dI cI cII cJ cJJ mo eo dg to er n E DG _ (hn)) (cwV 0 hts gX4_requireFast_X2_isFast rfl rfl rfl (by decide +kernel) ⟨Nat.le_of_ble_eq_true rfl, Nat.le_of_ble_eq_true rfl⟩) hK hP hD hS hA [28, 29, 30, 31, 32, 33, 34, 35, 36, 37] sw_wTop_wM_0 rfl 28 kX2 rfl rfl rfl rfl rfl hl.1 (Nat.le_of_ble_eq_true rfl) dX4_requireFast_4 ⟨by decide, by decide⟩ (fun H locs hP hD hS => ?_)
  refine lv_if_ne (tgt := 20) hx hb dX4_requireFast_7 (by decide) (fun c7 => ?_) (fun c7 => ?_)
  · exact absurd (show False by rw [hfast] at c7; exact absurd c7 (by decide)) id
  · exact kt_throw exS 57 239 61 "the moor is not fast" hx hb hlt hown (by decide) ex_ng_S ex_ot_S hts (by decide +kernel) (hE.castS) hE (by decide) hP hK hD hS (hl.1.trans hml.symm) dX4_requireFast_10 dX4_requireFast_13 dX4_requireFast_14 dX4_requireFast_16 dX4_requireFast_19 (fun x h => (hex x h).elim) (by decide) (by decide) (by decide) (by decide) hlocks (by decide) (by decide)
