set_option maxHeartbeats 4000000 in
set_option maxRecDepth 100000 in
theorem c_X4_digest_slow (l : Launch) (dC : Nat → ClassId) (dI : Nat → Nat → Nat) (cI cII cJ cJJ : ClassId) (tp : Nat) (ly : Nat) (lyg : Nat) (lyt : Nat) (LYG : Nat → Int32) (LYT : Nat → Int32) (tl : Nat) (tlg : Nat) (tlt : Nat) (TLG : Nat → Int32) (TLT : Nat → Int32) (ne : Nat) (neg : Nat) (net : Nat) (NEG : Nat → Int32) (NET : Nat → Int32) (su : Nat) (sug : Nat) (sut : Nat) (SUG : Nat → Int32) (SUT : Nat → Int32) (kp : Nat) (kr : Nat → Nat) (KH : Nat → Nat → Int32) (km : Nat) (sw : Int32) (tps : Int32) (rt : Nat) (pl : Nat) (P : Nat → Int32) (st : Int32) (my : Nat) (co : Nat) (C : Nat → Int32) (la : Nat) (lag : Nat) (lat : Nat) (LG : Nat → Int32) (LT : Nat → Int32) (po : Nat) (pog : Nat) (pot : Nat) (OG : Nat → Int32) (OT : Nat → Int32) (mo : Nat) (eo : Nat) (dg : Nat) (to : Nat) (er : Nat → Nat) (n : Nat) (E : Nat → Nat → Int32) (DG : Nat → Int32) (tr : Nat → Nat) (T : Nat → Nat → Int64) (sz : Nat) (hn : n ≤ 6) (hkm : km ≤ 4) (hfast : fastB n E = false) : Met l yX4_digest wsX4_digest ({ frames := 5, cells := 0, slots := 0, locals := 110 }) (va_Pc [.ref tp] (PRE (dC, dI) (tyL cI cII cJ cJJ) (wTop tp ly lyg lyt LYG LYT tl tlg tlt TLG TLT ne neg net NEG NET su sug sut SUG SUT kp kr KH km sw tps rt pl P st my co C la lag lat LG LT po pog pot OG OT cJ cJJ cI cII mo eo dg to er n E DG tr T) sz)) (va_Ql (fun (r' : Int64) (_ : Unit) => r' = dig4 n E DG LYG LYT P C sw tps st km KH T) (fun _ tS => ATW (dC, dI) (tyL cI cII cJ cJJ) (va_A (wTop tp ly lyg lyt LYG LYT tl tlg tlt TLG TLT ne neg net NEG NET su sug sut SUG SUT kp kr KH km sw tps rt pl P st my co C la lag lat LG LT po pog pot OG OT cJ cJJ cI cII mo eo dg to er n E DG tr T) sz) (wTop tp ly lyg lyt LYG LYT tl tlg tlt TLG TLT ne neg net NEG NET su sug sut SUG SUT kp kr KH km sw tps rt pl P st my co C la lag lat LG LT po pog pot OG OT cJ cJJ cI cII mo eo dg to er n E DG tr ((treeF n E DG T).1)) tS) (va_A (wTop tp ly lyg lyt LYG LYT tl tlg tlt TLG TLT ne neg net NEG NET su sug sut SUG SUT kp kr KH km sw tps rt pl P st my co C la lag lat LG LT po pog pot OG OT cJ cJJ cI cII mo eo dg to er n E DG tr T) sz)) 0 0 (va_A (wTop tp ly lyg lyt LYG LYT tl tlg tlt TLG TLT ne neg net NEG NET su sug sut SUG SUT kp kr KH km sw tps rt pl P st my co C la lag lat LG LT po pog pot OG OT cJ cJJ cI cII mo eo dg to er n E DG tr T) sz) := by
  refine Met.ofW (cc := cX4_digest) (maxL := 5) (ret := (some .long)) (by decide) rfl ?_
  intro p e s m args below meth c s₁ B hml hv
  obtain ⟨rfl, hsz, hP, hK, hD0⟩ := hv
  have hx := B.exec
  have hb := B.bytes
  have hr := B.returns
  have hlocks := B.notSynchronized
  have hts := atoms_spec (ws := wsX4_digest) B.pre
  have hown : s.vm.findClass RX4 = some m.cls := findClass_of_methodNamed B.named
  subst hsz
  have hD := hD0.self (sz := s.heap.size)
  generalize hAe : va_A (wTop tp ly lyg lyt LYG LYT tl tlg tlt TLG TLT ne neg net NEG NET su sug sut SUG SUT kp kr KH km sw tps rt pl P st my co C la lag lat LG LT po pog pot OG OT cJ cJJ cI cII mo eo dg to er n E DG tr T) s.heap.size = A at hD ⊢
  have hA : ∀ q : Nat, s.heap.size ≤ q → A q := fun q h => by rw [← hAe]; exact Or.inr h
  have hS : va_S A s.heap s.heap [] := va_S.rf
  have hl := lv_entry ([.ref tp]) (n := 5) (Nat.le_of_ble_eq_true rfl)
  rw [lg_entry_eq]
  generalize (lg_sl ([.ref tp]) ++ List.replicate (5 - (lg_sl ([.ref tp])).length) Slot.unset).toArray = ls at hl ⊢
  have hl : lv_has ls 5 [(0, .ref tp)] := hl
  have hc_206 := hts (.constantLong RX4 206 (58310)) (by decide +kernel)
  have hi_X4 : ∀ w ∈ u_ws RX4 TX4 11, w ∈ wsX4_digest := by decide +kernel
  have hf_10 := hts (.fieldLink RX4 10 "Topplemoor" "moor" "LTopplemoor$Moor;") (by decide +kernel)
  have hi_X2 : ∀ w ∈ u_ws RX2 TX2 4, w ∈ wsX4_digest := by decide +kernel
  have hf_53 := hts (.fieldLink RX4 53 "Topplemoor$Moor" "spots" "I") (by decide +kernel)
  have hc_208 := hts (.constantLong RX4 208 (31)) (by decide +kernel)
  have hf_21 := hts (.fieldLink RX4 21 "Topplemoor" "lying" "LTopplemoor$Heap;") (by decide +kernel)
  refine lv_ldc2 hx hb hown hc_206 dX4_digest_0 ?_
  refine lv_lstore_n (lv' := [(1, .long 58310), (0, .ref tp)]) hx hb dX4_digest_3 rfl hl (by decide) rfl (fun ls hl => ?_)
  refine lv_iconst (v := nI 0) hx hb dX4_digest_4 (by decide) ?_
  refine lv_istore_n (lv' := [(3, .int (nI 0)), (1, .long 58310), (0, .ref tp)]) hx hb dX4_digest_5 rfl hl (by decide) rfl (fun ls hl => ?_)
  refine kt_for (n := 14) (WD := fun (i : Nat) => wTop tp ly lyg lyt LYG LYT tl tlg tlt TLG TLT ne neg net NEG NET su sug sut SUG SUT kp kr KH km sw tps rt pl P st my co C la lag lat LG LT po pog pot OG OT cJ cJJ cI cII mo eo dg to er n E DG tr T) (LV := fun (i : Nat) => [(0, .ref tp), (1, .long (it (manyD n E DG LYG LYT P C sw tps st km) i 58310)), (3, .int (nI i))]) (nL := 5) (hd := 6) ?_ hP hD hS (lv_sub hl [2, 1, 0] rfl)
  intro i hle_i ih_i H locs ls hP hD hS hl
  have hP : va_P (dC, dI) vwCl (wTop tp ly lyg lyt LYG LYT tl tlg tlt TLG TLT ne neg net NEG NET su sug sut SUG SUT kp kr KH km sw tps rt pl P st my co C la lag lat LG LT po pog pot OG OT cJ cJJ cI cII mo eo dg to er n E DG tr T) H := hP
  have hD : va_D A (wTop tp ly lyg lyt LYG LYT tl tlg tlt TLG TLT ne neg net NEG NET su sug sut SUG SUT kp kr KH km sw tps rt pl P st my co C la lag lat LG LT po pog pot OG OT cJ cJJ cI cII mo eo dg to er n E DG tr T) := hD
  have hl : lv_has ls 5 [(0, .ref tp), (1, .long (it (manyD n E DG LYG LYT P C sw tps st km) i 58310)), (3, .int (nI i))] := hl
  refine lv_iload_n hx hb dX4_digest_6 rfl (lv_at hl 2 rfl) ?_
  refine lv_bipush (v := nI 14) hx hb dX4_digest_7 (by decide) ?_
  refine kt_ige (tgt := 31) hx hb (by omega) (by omega) dX4_digest_9 (by decide) (fun hge_i => ?_) (fun hlt_i => ?_)
  · have e_i : 14 = i := by omega
    subst e_i
    obtain ⟨g1, hg1⟩ : ∃ g : Int64, g = it (manyD n E DG LYG LYT P C sw tps st km) 14 58310 := ⟨_, rfl⟩
    rw [← hg1] at hl
    refine lv_iconst (v := nI 0) hx hb dX4_digest_31 (by decide) ?_
    refine lv_istore_n (lv' := [(3, .int (nI 0)), (0, .ref tp), (1, .long g1)]) hx hb dX4_digest_32 rfl hl (by decide) rfl (fun ls hl => ?_)
    refine kt_for (n := n) (WD := fun (i : Nat) => wTop tp ly lyg lyt LYG LYT tl tlg tlt TLG TLT ne neg net NEG NET su sug sut SUG SUT kp kr KH km sw tps rt pl P st my co C la lag lat LG LT po pog pot OG OT cJ cJJ cI cII mo eo dg to er n E DG tr T) (LV := fun (i : Nat) => [(0, .ref tp), (1, .long (it (spotE E DG LYG LYT P) i g1)), (3, .int (nI i))]) (nL := 5) (hd := 33) ?_ hP hD hS (lv_sub hl [1, 2, 0] rfl)
    intro i hle_i ih_i H locs ls hP hD hS hl
    have hP : va_P (dC, dI) vwCl (wTop tp ly lyg lyt LYG LYT tl tlg tlt TLG TLT ne neg net NEG NET su sug sut SUG SUT kp kr KH km sw tps rt pl P st my co C la lag lat LG LT po pog pot OG OT cJ cJJ cI cII mo eo dg to er n E DG tr T) H := hP
    have hD : va_D A (wTop tp ly lyg lyt LYG LYT tl tlg tlt TLG TLT ne neg net NEG NET su sug sut SUG SUT kp kr KH km sw tps rt pl P st my co C la lag lat LG LT po pog pot OG OT cJ cJJ cI cII mo eo dg to er n E DG tr T) := hD
    have hl : lv_has ls 5 [(0, .ref tp), (1, .long (it (spotE E DG LYG LYT P) i g1)), (3, .int (nI i))] := hl
    refine lv_iload_n hx hb dX4_digest_33 rfl (lv_at hl 2 rfl) ?_
    refine lv_aload_n hx hb dX4_digest_34 rfl (lv_at hl 0 rfl) ?_
    refine va_get (D := (dC, dI)) (ci := kX4) (v := .ref mo) (C := RX4) (T := TX4) (N := 11) hx hb hts hi_X4 hown hK hP 0 rfl rfl 0 (by decide) hf_10 (fun _ h9 => h9) rfl dX4_digest_35 ?_
    refine va_get (D := (dC, dI)) (ci := kX2) (v := .int (nI n)) (C := RX2) (T := TX2) (N := 4) hx hb hts hi_X2 hown hK hP 28 rfl rfl 0 (by decide) hf_53 (fun _ h9 => h9) rfl dX4_digest_38 ?_
    refine kt_ige (tgt := 81) hx hb (by omega) (by omega) dX4_digest_41 (by decide) (fun hge_i => ?_) (fun hlt_i => ?_)
    · have e_i : n = i := by omega
      subst e_i
      obtain ⟨g2, hg2⟩ : ∃ g : Int64, g = it (spotE E DG LYG LYT P) n g1 := ⟨_, rfl⟩
      rw [← hg2] at hl
      refine lv_iconst (v := nI 0) hx hb dX4_digest_81 (by decide) ?_
      refine lv_istore_n (lv' := [(3, .int (nI 0)), (0, .ref tp), (1, .long g2)]) hx hb dX4_digest_82 rfl hl (by decide) rfl (fun ls hl => ?_)
      refine kt_for (n := n) (WD := fun (i : Nat) => wTop tp ly lyg lyt LYG LYT tl tlg tlt TLG TLT ne neg net NEG NET su sug sut SUG SUT kp kr KH km sw tps rt pl P st my co C la lag lat LG LT po pog pot OG OT cJ cJJ cI cII mo eo dg to er n E DG tr T) (LV := fun (i : Nat) => [(0, .ref tp), (1, .long (it (nodeD n E C) i g2)), (3, .int (nI i))]) (nL := 5) (hd := 83) ?_ hP hD hS (lv_sub hl [1, 2, 0] rfl)
      intro i hle_i ih_i H locs ls hP hD hS hl
      have hP : va_P (dC, dI) vwCl (wTop tp ly lyg lyt LYG LYT tl tlg tlt TLG TLT ne neg net NEG NET su sug sut SUG SUT kp kr KH km sw tps rt pl P st my co C la lag lat LG LT po pog pot OG OT cJ cJJ cI cII mo eo dg to er n E DG tr T) H := hP
      have hD : va_D A (wTop tp ly lyg lyt LYG LYT tl tlg tlt TLG TLT ne neg net NEG NET su sug sut SUG SUT kp kr KH km sw tps rt pl P st my co C la lag lat LG LT po pog pot OG OT cJ cJJ cI cII mo eo dg to er n E DG tr T) := hD
      have hl : lv_has ls 5 [(0, .ref tp), (1, .long (it (nodeD n E C) i g2)), (3, .int (nI i))] := hl
      refine lv_iload_n hx hb dX4_digest_83 rfl (lv_at hl 2 rfl) ?_
      refine lv_aload_n hx hb dX4_digest_84 rfl (lv_at hl 0 rfl) ?_
      refine va_get (D := (dC, dI)) (ci := kX4) (v := .ref mo) (C := RX4) (T := TX4) (N := 11) hx hb hts hi_X4 hown hK hP 0 rfl rfl 0 (by decide) hf_10 (fun _ h9 => h9) rfl dX4_digest_85 ?_
      refine va_get (D := (dC, dI)) (ci := kX2) (v := .int (nI n)) (C := RX2) (T := TX2) (N := 4) hx hb hts hi_X2 hown hK hP 28 rfl rfl 0 (by decide) hf_53 (fun _ h9 => h9) rfl dX4_digest_88 ?_
      refine kt_ige (tgt := 107) hx hb (by omega) (by omega) dX4_digest_91 (by decide) (fun hge_i => ?_) (fun hlt_i => ?_)
      · have e_i : n = i := by omega
        subst e_i
        refine lv_aload_n hx hb dX4_digest_107 rfl (lv_at hl 0 rfl) ?_
        refine lv_lload_n hx hb dX4_digest_108 rfl (lv_at hl 1 rfl) ?_
        refine lv_bipush (v := nI 6) hx hb dX4_digest_109 (by decide) ?_
        refine kt_calll (w' := wTop tp ly lyg lyt LYG LYT tl tlg tlt TLG TLT ne neg net NEG NET su sug sut SUG SUT kp kr KH km sw tps rt pl P st my co C la lag lat LG LT po pog pot OG OT cJ cJJ cI cII mo eo dg to er n E DG tr T) (rest := []) (As := [.long (it (nodeD n E C) n g2), .int (nI 6)]) ⟨hx, hb, hml, hown, hts⟩ (c_X4_digestNode l dC dI cI cII cJ cJJ tp ly lyg lyt LYG LYT tl tlg tlt TLG TLT ne neg net NEG NET su sug sut SUG SUT kp kr KH km sw tps rt pl P st my co C la lag lat LG LT po pog pot OG OT mo eo dg to er n E DG tr T (it (nodeD n E C) n g2) 6 _ (hn) (by omega)) (cwV 2 hts gX4_digest_X4_digestNode rfl rfl rfl (by decide +kernel) ⟨Nat.le_of_ble_eq_true rfl, Nat.le_of_ble_eq_true rfl⟩) hK hP hD hS hA (List.range' 0 45) sw_wTop_wTop_0 rfl 0 kX4 rfl rfl rfl rfl rfl hl.1 (Nat.le_of_ble_eq_true rfl) dX4_digest_111 ⟨Nat.zero_le _, Nat.zero_le _⟩ (fun H locs hP hD hS => ?_)
        refine lv_lstore_n (lv' := [(1, .long (nodeD n E C 6 (it (nodeD n E C) n g2))), (0, .ref tp), (3, .int (nI n))]) hx hb dX4_digest_114 rfl hl (by decide) rfl (fun ls hl => ?_)
        refine lv_aload_n hx hb dX4_digest_115 rfl (lv_at hl 1 rfl) ?_
        refine lv_lload_n hx hb dX4_digest_116 rfl (lv_at hl 0 rfl) ?_
        refine kt_calll (w' := wTop tp ly lyg lyt LYG LYT tl tlg tlt TLG TLT ne neg net NEG NET su sug sut SUG SUT kp kr KH km sw tps rt pl P st my co C la lag lat LG LT po pog pot OG OT cJ cJJ cI cII mo eo dg to er n E DG tr T) (rest := []) (As := [.long (nodeD n E C 6 (it (nodeD n E C) n g2))]) ⟨hx, hb, hml, hown, hts⟩ (c_X4_digestKept l dC dI cI cII cJ cJJ tp ly lyg lyt LYG LYT tl tlg tlt TLG TLT ne neg net NEG NET su sug sut SUG SUT kp kr KH km sw tps rt pl P st my co C la lag lat LG LT po pog pot OG OT mo eo dg to er n E DG tr T (nodeD n E C 6 (it (nodeD n E C) n g2)) _ (hn) (hkm)) (cwV 1 hts gX4_digest_X4_digestKept rfl rfl rfl (by decide +kernel) ⟨Nat.le_of_ble_eq_true rfl, Nat.le_of_ble_eq_true rfl⟩) hK hP hD hS hA (List.range' 0 45) sw_wTop_wTop_0 rfl 0 kX4 rfl rfl rfl rfl rfl hl.1 (Nat.le_of_ble_eq_true rfl) dX4_digest_117 ⟨Nat.zero_le _, Nat.zero_le _⟩ (fun H locs hP hD hS => ?_)
        refine lv_lstore_n (lv' := [(1, .long (keptD n km KH (nodeD n E C 6 (it (nodeD n E C) n g2)))), (0, .ref tp), (3, .int (nI n))]) hx hb dX4_digest_120 rfl hl (by decide) rfl (fun ls hl => ?_)
        refine lv_lload_n hx hb dX4_digest_121 rfl (lv_at hl 0 rfl) ?_
        refine lv_ldc2 hx hb hown hc_208 dX4_digest_122 ?_
        refine lv_lmul hx hb dX4_digest_125 ?_
        refine lv_aload_n hx hb dX4_digest_126 rfl (lv_at hl 1 rfl) ?_
        refine va_get (D := (dC, dI)) (ci := kX4) (v := .ref mo) (C := RX4) (T := TX4) (N := 11) hx hb hts hi_X4 hown hK hP 0 rfl rfl 0 (by decide) hf_10 (fun _ h9 => h9) rfl dX4_digest_127 ?_
        refine kt_calll (w' := wTop tp ly lyg lyt LYG LYT tl tlg tlt TLG TLT ne neg net NEG NET su sug sut SUG SUT kp kr KH km sw tps rt pl P st my co C la lag lat LG LT po pog pot OG OT cJ cJJ cI cII mo eo dg to er n E DG tr ((treeF n E DG T).1)) (rest := [.long ((keptD n km KH (nodeD n E C 6 (it (nodeD n E C) n g2))) * 31)]) (As := []) ⟨hx, hb, hml, hown, hts⟩ (c_X2_trees l dC dI cI cII cJ cJJ mo eo dg to er n E DG tr T _ (hn)) (cwV 0 hts gX4_digest_X2_trees rfl rfl rfl (by decide +kernel) ⟨Nat.le_of_ble_eq_true rfl, Nat.le_of_ble_eq_true rfl⟩) hK hP hD hS hA [28, 29, 30, 31, 32, 33, 34, 35, 36, 37, 38, 39, 40, 41, 42, 43, 44] sw_wTop_wMT_0 rfl 28 kX2 rfl rfl rfl rfl rfl hl.1 (Nat.le_of_ble_eq_true rfl) dX4_digest_130 ⟨Nat.zero_le _, Nat.zero_le _⟩ (fun H locs hP hD hS => ?_)
        refine lv_ladd hx hb dX4_digest_133 ?_
        refine lv_lstore_n (lv' := [(1, .long (((keptD n km KH (nodeD n E C 6 (it (nodeD n E C) n g2))) * 31) + ((treeF n E DG T).2))), (0, .ref tp), (3, .int (nI n))]) hx hb dX4_digest_134 rfl hl (by decide) rfl (fun ls hl => ?_)
        refine lv_lload_n hx hb dX4_digest_135 rfl (lv_at hl 0 rfl) ?_
        refine lv_ldc2 hx hb hown hc_208 dX4_digest_136 ?_
        refine lv_lmul hx hb dX4_digest_139 ?_
        refine lv_aload_n hx hb dX4_digest_140 rfl (lv_at hl 1 rfl) ?_
        refine va_get (D := (dC, dI)) (ci := kX4) (v := .ref ly) (C := RX4) (T := TX4) (N := 11) hx hb hts hi_X4 hown hK hP 0 rfl rfl 1 (by decide) hf_21 (fun _ h9 => h9) rfl dX4_digest_141 ?_
        refine kt_calli (w' := wTop tp ly lyg lyt LYG LYT tl tlg tlt TLG TLT ne neg net NEG NET su sug sut SUG SUT kp kr KH km sw tps rt pl P st my co C la lag lat LG LT po pog pot OG OT cJ cJJ cI cII mo eo dg to er n E DG tr ((treeF n E DG T).1)) (rest := [.long ((((keptD n km KH (nodeD n E C 6 (it (nodeD n E C) n g2))) * 31) + ((treeF n E DG T).2)) * 31)]) (As := []) ⟨hx, hb, hml, hown, hts⟩ (c_X0_burningOrder l dC dI cI cII cJ cJJ ly lyg lyt LYG LYT mo eo dg to er n E DG _ (hn)) (cwV 0 hts gX4_digest_X0_burningOrder rfl rfl rfl (by decide +kernel) ⟨Nat.le_of_ble_eq_true rfl, Nat.le_of_ble_eq_true rfl⟩) hK hP hD hS hA [1, 2, 3, 28, 29, 30, 31, 32, 33, 34, 35, 36, 37] sw_wTop_wHM_0 rfl 1 kX0 rfl rfl rfl rfl rfl hl.1 (Nat.le_of_ble_eq_true rfl) dX4_digest_144 ⟨Nat.zero_le _, Nat.zero_le _⟩ (fun H locs hP hD hS => ?_)
        refine lv_i2l (v := Int32.toInt64 (fireF n E LYG)) hx hb dX4_digest_147 rfl ?_
        refine lv_ladd hx hb dX4_digest_148 ?_
        refine lv_lstore_n (lv' := [(1, .long (((((keptD n km KH (nodeD n E C 6 (it (nodeD n E C) n g2))) * 31) + ((treeF n E DG T).2)) * 31) + (Int32.toInt64 (fireF n E LYG)))), (0, .ref tp), (3, .int (nI n))]) hx hb dX4_digest_149 rfl hl (by decide) rfl (fun ls hl => ?_)
        refine lv_aload_n hx hb dX4_digest_150 rfl (lv_at hl 1 rfl) ?_
        refine va_get (D := (dC, dI)) (ci := kX4) (v := .ref mo) (C := RX4) (T := TX4) (N := 11) hx hb hts hi_X4 hown hK hP 0 rfl rfl 0 (by decide) hf_10 (fun _ h9 => h9) rfl dX4_digest_151 ?_
        refine kt_calli (w' := wTop tp ly lyg lyt LYG LYT tl tlg tlt TLG TLT ne neg net NEG NET su sug sut SUG SUT kp kr KH km sw tps rt pl P st my co C la lag lat LG LT po pog pot OG OT cJ cJJ cI cII mo eo dg to er n E DG tr ((treeF n E DG T).1)) (rest := []) (As := []) ⟨hx, hb, hml, hown, hts⟩ (c_X2_isFast l dC dI cI cII cJ cJJ mo eo dg to er n E DG _ (hn)) (cwV 0 hts gX4_digest_X2_isFast rfl rfl rfl (by decide +kernel) ⟨Nat.le_of_ble_eq_true rfl, Nat.le_of_ble_eq_true rfl⟩) hK hP hD hS hA [28, 29, 30, 31, 32, 33, 34, 35, 36, 37] sw_wTop_wM_0 rfl 28 kX2 rfl rfl rfl rfl rfl hl.1 (Nat.le_of_ble_eq_true rfl) dX4_digest_154 ⟨Nat.zero_le _, Nat.zero_le _⟩ (fun H locs hP hD hS => ?_)
        refine lv_if_eq (tgt := 168) hx hb dX4_digest_157 (by decide) (fun c157 => ?_) (fun c157 => ?_)
        · skip
          refine lv_lload_n hx hb dX4_digest_168 rfl (lv_at hl 0 rfl) ?_
          subst hg2
          subst hg1
          exact kt_lret (W' := wTop tp ly lyg lyt LYG LYT tl tlg tlt TLG TLT ne neg net NEG NET su sug sut SUG SUT kp kr KH km sw tps rt pl P st my co C la lag lat LG LT po pog pot OG OT cJ cJJ cI cII mo eo dg to er n E DG tr ((treeF n E DG T).1)) hx hb hr hS hP hK hD (rfl) hlocks dX4_digest_169
        · exact absurd (show False by rw [hfast] at c157; exact absurd rfl c157) id
      · skip
        refine lv_aload_n hx hb dX4_digest_94 rfl (lv_at hl 0 rfl) ?_
        refine lv_lload_n hx hb dX4_digest_95 rfl (lv_at hl 1 rfl) ?_
        refine lv_iload_n hx hb dX4_digest_96 rfl (lv_at hl 2 rfl) ?_
        refine kt_calll (w' := wTop tp ly lyg lyt LYG LYT tl tlg tlt TLG TLT ne neg net NEG NET su sug sut SUG SUT kp kr KH km sw tps rt pl P st my co C la lag lat LG LT po pog pot OG OT cJ cJJ cI cII mo eo dg to er n E DG tr T) (rest := []) (As := [.long (it (nodeD n E C) i g2), .int (nI i)]) ⟨hx, hb, hml, hown, hts⟩ (c_X4_digestNode l dC dI cI cII cJ cJJ tp ly lyg lyt LYG LYT tl tlg tlt TLG TLT ne neg net NEG NET su sug sut SUG SUT kp kr KH km sw tps rt pl P st my co C la lag lat LG LT po pog pot OG OT mo eo dg to er n E DG tr T (it (nodeD n E C) i g2) i _ (hn) (by omega)) (cwV 2 hts gX4_digest_X4_digestNode rfl rfl rfl (by decide +kernel) ⟨Nat.le_of_ble_eq_true rfl, Nat.le_of_ble_eq_true rfl⟩) hK hP hD hS hA (List.range' 0 45) sw_wTop_wTop_0 rfl 0 kX4 rfl rfl rfl rfl rfl hl.1 (Nat.le_of_ble_eq_true rfl) dX4_digest_97 ⟨Nat.zero_le _, Nat.zero_le _⟩ (fun H locs hP hD hS => ?_)
        refine lv_lstore_n (lv' := [(1, .long (nodeD n E C i (it (nodeD n E C) i g2))), (0, .ref tp), (3, .int (nI i))]) hx hb dX4_digest_100 rfl hl (by decide) rfl (fun ls hl => ?_)
        refine lv_iinc (v := nI (i + 1)) (lv' := [(3, .int (nI (i + 1))), (1, .long (nodeD n E C i (it (nodeD n E C) i g2))), (0, .ref tp)]) hx hb dX4_digest_101 hl (k := 2) rfl (kt_inc _) (by decide) rfl (fun ls hl => ?_)
        refine lv_goto (tgt := 83) hx hb dX4_digest_104 (by decide) ?_
        exact ih_i H locs ls hlt_i hP hD hS (lv_sub hl [2, 1, 0] rfl)
    · skip
      obtain ⟨g3, hg3⟩ : ∃ g : Int64, g = it (spotE E DG LYG LYT P) i g1 := ⟨_, rfl⟩
      rw [← hg3] at hl
      refine lv_iconst (v := nI 0) hx hb dX4_digest_44 (by decide) ?_
      refine lv_istore (lv' := [(4, .int (nI 0)), (0, .ref tp), (1, .long g3), (3, .int (nI i))]) hx hb dX4_digest_45 hl (by decide) rfl (fun ls hl => ?_)
      refine kt_for (n := 7) (WD := fun (k : Nat) => wTop tp ly lyg lyt LYG LYT tl tlg tlt TLG TLT ne neg net NEG NET su sug sut SUG SUT kp kr KH km sw tps rt pl P st my co C la lag lat LG LT po pog pot OG OT cJ cJJ cI cII mo eo dg to er n E DG tr T) (LV := fun (k : Nat) => [(0, .ref tp), (1, .long (it (spotD E DG LYG LYT P i) k g3)), (3, .int (nI i)), (4, .int (nI k))]) (nL := 5) (hd := 47) ?_ hP hD hS (lv_sub hl [1, 2, 3, 0] rfl)
      intro k hle_k ih_k H locs ls hP hD hS hl
      have hP : va_P (dC, dI) vwCl (wTop tp ly lyg lyt LYG LYT tl tlg tlt TLG TLT ne neg net NEG NET su sug sut SUG SUT kp kr KH km sw tps rt pl P st my co C la lag lat LG LT po pog pot OG OT cJ cJJ cI cII mo eo dg to er n E DG tr T) H := hP
      have hD : va_D A (wTop tp ly lyg lyt LYG LYT tl tlg tlt TLG TLT ne neg net NEG NET su sug sut SUG SUT kp kr KH km sw tps rt pl P st my co C la lag lat LG LT po pog pot OG OT cJ cJJ cI cII mo eo dg to er n E DG tr T) := hD
      have hl : lv_has ls 5 [(0, .ref tp), (1, .long (it (spotD E DG LYG LYT P i) k g3)), (3, .int (nI i)), (4, .int (nI k))] := hl
      refine lv_iload hx hb dX4_digest_47 (lv_at hl 3 rfl) ?_
      refine lv_bipush (v := nI 7) hx hb dX4_digest_49 (by decide) ?_
      refine kt_ige (tgt := 75) hx hb (by omega) (by omega) dX4_digest_51 (by decide) (fun hge_k => ?_) (fun hlt_k => ?_)
      · have e_k : 7 = k := by omega
        subst e_k
        refine lv_iinc (v := nI (i + 1)) (lv' := [(3, .int (nI (i + 1))), (0, .ref tp), (1, .long (it (spotD E DG LYG LYT P i) 7 g3)), (4, .int (nI 7))]) hx hb dX4_digest_75 hl (k := 2) rfl (kt_inc _) (by decide) rfl (fun ls hl => ?_)
        refine lv_goto (tgt := 33) hx hb dX4_digest_78 (by decide) ?_
        have eq0 : it (spotE E DG LYG LYT P) (i + 1) g1 = it (spotD E DG LYG LYT P i) 7 g3 := by rw [spotE_succ, ← hg3]
        exact ih_i H locs ls hlt_i hP hD hS (by show lv_has ls 5 [(0, .ref tp), (1, .long (it (spotE E DG LYG LYT P) (i + 1) g1)), (3, .int (nI (i + 1)))]; rw [eq0]; exact lv_sub hl [1, 2, 0] rfl)
      · skip
        refine lv_lload_n hx hb dX4_digest_54 rfl (lv_at hl 1 rfl) ?_
        refine lv_ldc2 hx hb hown hc_208 dX4_digest_55 ?_
        refine lv_lmul hx hb dX4_digest_58 ?_
        refine lv_aload_n hx hb dX4_digest_59 rfl (lv_at hl 0 rfl) ?_
        refine lv_iload_n hx hb dX4_digest_60 rfl (lv_at hl 2 rfl) ?_
        refine lv_iload hx hb dX4_digest_61 (lv_at hl 3 rfl) ?_
        refine kt_calli (w' := wTop tp ly lyg lyt LYG LYT tl tlg tlt TLG TLT ne neg net NEG NET su sug sut SUG SUT kp kr KH km sw tps rt pl P st my co C la lag lat LG LT po pog pot OG OT cJ cJJ cI cII mo eo dg to er n E DG tr T) (rest := [.long ((it (spotD E DG LYG LYT P i) k g3) * 31)]) (As := [.int (nI i), .int (nI k)]) ⟨hx, hb, hml, hown, hts⟩ (c_X4_spotValue l dC dI cI cII cJ cJJ tp ly lyg lyt LYG LYT tl tlg tlt TLG TLT ne neg net NEG NET su sug sut SUG SUT kp kr KH km sw tps rt pl P st my co C la lag lat LG LT po pog pot OG OT mo eo dg to er n E DG tr T i k _ (hn) (by omega) (by omega)) (cwV 2 hts gX4_digest_X4_spotValue rfl rfl rfl (by decide +kernel) ⟨Nat.le_of_ble_eq_true rfl, Nat.le_of_ble_eq_true rfl⟩) hK hP hD hS hA (List.range' 0 45) sw_wTop_wTop_0 rfl 0 kX4 rfl rfl rfl rfl rfl hl.1 (Nat.le_of_ble_eq_true rfl) dX4_digest_63 ⟨Nat.zero_le _, Nat.zero_le _⟩ (fun H locs hP hD hS => ?_)
        refine lv_i2l (v := Int32.toInt64 (spotF E DG LYG LYT P i k)) hx hb dX4_digest_66 rfl ?_
        refine lv_ladd hx hb dX4_digest_67 ?_
        refine lv_lstore_n (lv' := [(1, .long (((it (spotD E DG LYG LYT P i) k g3) * 31) + (Int32.toInt64 (spotF E DG LYG LYT P i k)))), (0, .ref tp), (3, .int (nI i)), (4, .int (nI k))]) hx hb dX4_digest_68 rfl hl (by decide) rfl (fun ls hl => ?_)
        refine lv_iinc (v := nI (k + 1)) (lv' := [(4, .int (nI (k + 1))), (1, .long (((it (spotD E DG LYG LYT P i) k g3) * 31) + (Int32.toInt64 (spotF E DG LYG LYT P i k)))), (0, .ref tp), (3, .int (nI i))]) hx hb dX4_digest_69 hl (k := 3) rfl (kt_inc _) (by decide) rfl (fun ls hl => ?_)
        refine lv_goto (tgt := 47) hx hb dX4_digest_72 (by decide) ?_
        exact ih_k H locs ls hlt_k hP hD hS (lv_sub hl [2, 1, 3, 0] rfl)
  · skip
    refine lv_lload_n hx hb dX4_digest_12 rfl (lv_at hl 1 rfl) ?_
    refine lv_ldc2 hx hb hown hc_208 dX4_digest_13 ?_
    refine lv_lmul hx hb dX4_digest_16 ?_
    refine lv_aload_n hx hb dX4_digest_17 rfl (lv_at hl 0 rfl) ?_
    refine lv_iload_n hx hb dX4_digest_18 rfl (lv_at hl 2 rfl) ?_
    refine kt_calli (w' := wTop tp ly lyg lyt LYG LYT tl tlg tlt TLG TLT ne neg net NEG NET su sug sut SUG SUT kp kr KH km sw tps rt pl P st my co C la lag lat LG LT po pog pot OG OT cJ cJJ cI cII mo eo dg to er n E DG tr T) (rest := [.long ((it (manyD n E DG LYG LYT P C sw tps st km) i 58310) * 31)]) (As := [.int (nI i)]) ⟨hx, hb, hml, hown, hts⟩ (c_X4_manyValue l dC dI cI cII cJ cJJ tp ly lyg lyt LYG LYT tl tlg tlt TLG TLT ne neg net NEG NET su sug sut SUG SUT kp kr KH km sw tps rt pl P st my co C la lag lat LG LT po pog pot OG OT mo eo dg to er n E DG tr T i _ (hn) (by omega)) (cwV 1 hts gX4_digest_X4_manyValue rfl rfl rfl (by decide +kernel) ⟨Nat.le_of_ble_eq_true rfl, Nat.le_of_ble_eq_true rfl⟩) hK hP hD hS hA (List.range' 0 45) sw_wTop_wTop_0 rfl 0 kX4 rfl rfl rfl rfl rfl hl.1 (Nat.le_of_ble_eq_true rfl) dX4_digest_19 ⟨Nat.zero_le _, Nat.zero_le _⟩ (fun H locs hP hD hS => ?_)
    refine lv_i2l (v := Int32.toInt64 (manyF n E DG LYG LYT P C sw tps st km i)) hx hb dX4_digest_22 rfl ?_
    refine lv_ladd hx hb dX4_digest_23 ?_
    refine lv_lstore_n (lv' := [(1, .long (((it (manyD n E DG LYG LYT P C sw tps st km) i 58310) * 31) + (Int32.toInt64 (manyF n E DG LYG LYT P C sw tps st km i)))), (0, .ref tp), (3, .int (nI i))]) hx hb dX4_digest_24 rfl hl (by decide) rfl (fun ls hl => ?_)
    refine lv_iinc (v := nI (i + 1)) (lv' := [(3, .int (nI (i + 1))), (1, .long (((it (manyD n E DG LYG LYT P C sw tps st km) i 58310) * 31) + (Int32.toInt64 (manyF n E DG LYG LYT P C sw tps st km i)))), (0, .ref tp)]) hx hb dX4_digest_25 hl (k := 2) rfl (kt_inc _) (by decide) rfl (fun ls hl => ?_)
    refine lv_goto (tgt := 6) hx hb dX4_digest_28 (by decide) ?_
    exact ih_i H locs ls hlt_i hP hD hS (lv_sub hl [2, 1, 0] rfl)
set_option maxHeartbeats 4000000 in
set_option maxRecDepth 100000 in
theorem c_X4_density0 (l : Launch) (dC : Nat → ClassId) (dI : Nat → Nat → Nat) (cI cII cJ cJJ : ClassId) (tp : Nat) (f : Nat → Nat) (er tr kr : Nat → Nat) (sz : Nat) : Met l yX4_density wsX4_density ({ frames := 0, cells := 0, slots := 0, locals := 0 }) (va_Pc [.ref tp] (PRE (dC, dI) (tyL cI cII cJ cJJ) (wF tp f er tr kr cI cII cJ cJJ) sz)) (va_Qd (fun (r' : UInt64) (_ : Unit) => r' = FP.dconst0) (fun _ tS => ATW (dC, dI) (tyL cI cII cJ cJJ) (va_A (wF tp f er tr kr cI cII cJ cJJ) sz) (wF tp f er tr kr cI cII cJ cJJ) tS) (va_A (wF tp f er tr kr cI cII cJ cJJ) sz)) 0 0 (va_A (wF tp f er tr kr cI cII cJ cJJ) sz) := by
  refine Met.ofW (cc := cX4_density) (maxL := 5) (ret := some .double) (by decide) rfl ?_
  intro p e s m args below meth c s₁ B hml hv
  obtain ⟨rfl, hsz, hP, hK, hD0⟩ := hv
  have hx := B.exec
  have hb := B.bytes
  have hr := B.returns
  have hlocks := B.notSynchronized
  have hts := atoms_spec (ws := wsX4_density) B.pre
  have hown : s.vm.findClass RX4 = some m.cls := findClass_of_methodNamed B.named
  subst hsz
  have hD := hD0.self (sz := s.heap.size)
  generalize hAe : va_A (wF tp f er tr kr cI cII cJ cJJ) s.heap.size = A at hD ⊢
  have hS : va_S A s.heap s.heap [] := va_S.rf
  have hl := lv_entry ([.ref tp]) (n := 5) (Nat.le_of_ble_eq_true rfl)
  rw [lg_entry_eq]
  generalize (lg_sl ([.ref tp]) ++ List.replicate (5 - (lg_sl ([.ref tp])).length) Slot.unset).toArray = ls at hl ⊢
  have hl : lv_has ls 5 [(0, .ref tp)] := hl
  refine lv_aload_n hx hb dX4_density_0 rfl (lv_at hl 0 rfl) ?_
  refine va_get (D := (dC, dI)) (ci := kX4) (v := .ref (f 23)) (C := RX4) (T := TX4) (N := 11) hx hb hts (by decide +kernel) hown hK hP 0 rfl rfl 0 (by decide) (hts (.fieldLink RX4 10 "Topplemoor" "moor" "LTopplemoor$Moor;") (by decide +kernel)) (fun _ h9 => h9) rfl dX4_density_1 ?_
  refine va_get (D := (dC, dI)) (ci := kX2) (v := .int (nI 0)) (C := RX2) (T := TX2) (N := 4) hx hb hts (by decide +kernel) hown hK hP 28 rfl rfl 0 (by decide) (hts (.fieldLink RX4 53 "Topplemoor$Moor" "spots" "I") (by decide +kernel)) (fun _ h9 => h9) rfl dX4_density_4 ?_
  refine lv_istore_n (lv' := [(1, .int (nI 0)), (0, .ref tp)]) hx hb dX4_density_7 rfl hl (by decide) rfl (fun ls hl => ?_)
  refine lv_iload_n hx hb dX4_density_8 rfl (lv_at hl 0 rfl) ?_
  refine lv_if_gt (tgt := 14) hx hb dX4_density_9 (by decide) (fun c1 => ?_) (fun c1 => ?_)
  · exact absurd c1 (by decide)
  · refine lv_dconst0 hx hb dX4_density_12 ?_
    exact W.dret hx hb hr (fun t ht hW => ⟨⟨FP.dconst0, (), rfl, rfl, by rw [ht]; exact hP, va_K.moved hW.alike hK, hD⟩, hS.F ht⟩) hS.2.2 dX4_density_13 hlocks
