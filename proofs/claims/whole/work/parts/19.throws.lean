/-! the methods that only throw: nothing is changed -/

set_option maxHeartbeats 4000000 in
set_option maxRecDepth 100000 in
theorem x_X4_requireHeap (l : Launch) (dC : Nat → ClassId) (dI : Nat → Nat → Nat) (cI cII cJ cJJ : ClassId) (tp : Nat) (ly : Nat) (lyg : Nat) (lyt : Nat) (LYG : Nat → Int32) (LYT : Nat → Int32) (tl : Nat) (tlg : Nat) (tlt : Nat) (TLG : Nat → Int32) (TLT : Nat → Int32) (ne : Nat) (neg : Nat) (net : Nat) (NEG : Nat → Int32) (NET : Nat → Int32) (su : Nat) (sug : Nat) (sut : Nat) (SUG : Nat → Int32) (SUT : Nat → Int32) (kp : Nat) (kr : Nat → Nat) (KH : Nat → Nat → Int32) (km : Nat) (sw : Int32) (tps : Int32) (rt : Nat) (pl : Nat) (P : Nat → Int32) (st : Int32) (my : Nat) (co : Nat) (C : Nat → Int32) (la : Nat) (lag : Nat) (lat : Nat) (LG : Nat → Int32) (LT : Nat → Int32) (po : Nat) (pog : Nat) (pot : Nat) (OG : Nat → Int32) (OT : Nat → Int32) (mo : Nat) (eo : Nat) (dg : Nat) (to : Nat) (er : Nat → Nat) (n : Nat) (E : Nat → Nat → Int32) (DG : Nat → Int32) (tr : Nat → Nat) (T : Nat → Nat → Int64) (hlt : l.stackTraces = false) (v : Int32) (sz : Nat) (hv9 : v < 0 ∨ nI km ≤ v) : vx_Met l yX4_requireHeap wsX4_requireHeap ({ frames := 6, cells := 1, slots := 6, locals := 82 }) (va_Pc [.ref tp, .int v] (PREE (dC, dI) (tyL cI cII cJ cJJ) (wTop tp ly lyg lyt LYG LYT tl tlg tlt TLG TLT ne neg net NEG NET su sug sut SUG SUT kp kr KH km sw tps rt pl P st my co C la lag lat LG LT po pog pot OG OT cJ cJJ cI cII mo eo dg to er n E DG tr T) sz)) (fun _ _ _ _ => False) (XT exI (dC, dI) (tyL cI cII cJ cJJ) (wTop tp ly lyg lyt LYG LYT tl tlg tlt TLG TLT ne neg net NEG NET su sug sut SUG SUT kp kr KH km sw tps rt pl P st my co C la lag lat LG LT po pog pot OG OT cJ cJJ cI cII mo eo dg to er n E DG tr T) (fun q => sz ≤ q)) 1 6 (fun q => sz ≤ q) := by
  refine vx_ofW (cc := cX4_requireHeap) (maxL := 2) (ret := none) (by decide) rfl ?_
  intro p e s m args below meth c s₁ B hml hex hv
  obtain ⟨rfl, ⟨hsz, hP, hK, hD0⟩, hE0⟩ := hv
  have hx := B.exec
  have hb := B.bytes
  have hlocks := B.notSynchronized
  have hts := atoms_spec (ws := wsX4_requireHeap) B.pre
  have hown : s.vm.findClass RX4 = some m.cls := findClass_of_methodNamed B.named
  subst hsz
  have hD := hD0.self (sz := s.heap.size)
  have hE := hE0.narrow (B := fun q => s.heap.size ≤ q) (fun q h => Or.inr h)
  have hS : va_S (fun q => s.heap.size ≤ q) s.heap s.heap [] := va_S.rf
  have hl := lv_entry ([.ref tp, .int v]) (n := 2) (Nat.le_of_ble_eq_true rfl)
  rw [lg_entry_eq]
  generalize (lg_sl ([.ref tp, .int v]) ++ List.replicate (2 - (lg_sl ([.ref tp, .int v])).length) Slot.unset).toArray = ls at hl ⊢
  have hl : lv_has ls 2 [(0, .ref tp), (1, .int v)] := hl
  have hi_X4 : ∀ w ∈ u_ws RX4 TX4 11, w ∈ wsX4_requireHeap := by decide +kernel
  have hf_118 := hts (.fieldLink RX4 118 "Topplemoor" "keptMany" "I") (by decide +kernel)
  refine lv_iload_n hx hb dX4_requireHeap_0 rfl (lv_at hl 1 rfl) ?_
  refine lv_if_lt (tgt := 12) hx hb dX4_requireHeap_1 (by decide) (fun c1 => ?_) (fun c1 => ?_)
  · exact kt_throw exI 227 237 231 "no such heap" hx hb hlt hown (by decide) ex_ng_I ex_ot_I hts (by decide +kernel) (hE.castI) hE (by decide) hP hK hD0 hS (hl.1.trans hml.symm) dX4_requireHeap_12 dX4_requireHeap_15 dX4_requireHeap_16 dX4_requireHeap_18 dX4_requireHeap_21 (fun x h => (hex x h).elim) (by decide) (by decide) (by decide) (by decide) hlocks (by decide) (by decide)
  · refine lv_iload_n hx hb dX4_requireHeap_4 rfl (lv_at hl 1 rfl) ?_
    refine lv_aload_n hx hb dX4_requireHeap_5 rfl (lv_at hl 0 rfl) ?_
    refine va_get (D := (dC, dI)) (ci := kX4) (v := .int (nI km)) (C := RX4) (T := TX4) (N := 11) hx hb hts hi_X4 hown hK hP 0 rfl rfl 8 (by decide) hf_118 (fun _ h9 => h9) rfl dX4_requireHeap_6 ?_
    refine lv_icmp_lt (tgt := 22) hx hb dX4_requireHeap_9 (by decide) (fun c9 => ?_) (fun c9 => ?_)
    · rcases hv9 with h9 | h9
      · exact absurd h9 c1
      · exact absurd c9 (Int32.not_lt.mpr h9)
    · exact kt_throw exI 227 237 231 "no such heap" hx hb hlt hown (by decide) ex_ng_I ex_ot_I hts (by decide +kernel) (hE.castI) hE (by decide) hP hK hD0 hS (hl.1.trans hml.symm) dX4_requireHeap_12 dX4_requireHeap_15 dX4_requireHeap_16 dX4_requireHeap_18 dX4_requireHeap_21 (fun x h => (hex x h).elim) (by decide) (by decide) (by decide) (by decide) hlocks (by decide) (by decide)
