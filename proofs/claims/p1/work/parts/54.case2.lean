/-! cases of the law (printed by wip/gen/lawcase.py) -/
set_option maxHeartbeats 4000000 in
set_option maxRecDepth 100000 in
/-- case 10 of the law: lend -/
theorem law_lend {p : Program} {l : Launch} {e : Env} {s : State} {m : MethodId} {below : List Frame} {meth : Method} {c : Code} {b : Nat} {xs : Nat → Int32} (hlt : l.stackTraces = false) (C0 : lw_At p s m meth c b 4 xs) {dC : Nat → ClassId} {dI : Nat → Nat → Nat} {cI cII cJ cJJ cZ cO : ClassId} {tp : Nat} {f : Nat → Nat} {er tr kr : Nat → Nat} {mo eo : Nat} {e2 : Nat → Nat} {gr av ro co kl dd out : Nat} (hK : va_K (dC, dI) vwCl (tyR cI cII cJ cJJ cZ cO) s) (hE : EnvX (lwA s) s s.heap) (hER : EnvR dd (lwA s) s s.heap) (hnc : va_Nc exA exI s) {H : Heap} {locs : List Loc} {ls : Array Slot} (hP : va_P (dC, dI) vwCl (wR (nI 0) z0 mo eo e2 gr av ro co kl dd cI cII ++ (wF tp f er tr kr cI cII cJ cJJ ++ wO cJ out oZ)) H) (hD : va_D (lwA s) (wR (nI 0) z0 mo eo e2 gr av ro co kl dd cI cII ++ (wF tp f er tr kr cI cII cJ cJJ ++ wO cJ out oZ))) (hS : va_S (lwA s) s.heap H locs) (hl : lv_has ls 9 [(0, .ref b), (1, .ref tp), (2, .ref mo), (3, .ref out), (4, .int (nI 0))]) : W p l e room_1 s m #[Value.ref b] below meth c H locs 100 1000 (lw_Z below #[Value.ref b] s) (F0 m 685 ls []) := by
  obtain ⟨hx, hb, hr, hml, hown, hts0, hX, hbl, hlocks, hgv⟩ := id C0
  have hA : ∀ q : Nat, s.heap.size ≤ q → (lwA s) q := fun _ h => h
  have hbA : ¬ (lwA s) b := Nat.not_le.mpr hbl
  have hts : ∀ w ∈ wsL_law, w.before #[Value.ref b] s = true := fun w h => hts0 w (wsL_law_in w h)
  have hKc : va_K (dC, dI) vwCl (tyL cI cII cJ cJJ) s := hK.sub [0, 1, 2, 3] rfl
  by_cases h1 : xs 1 = nI 6
  · skip
    by_cases h2 : xs 2 = 0
    · skip
      refine lv_aload_n hx hb dL_law_685 rfl (lv_at hl 1 rfl) ?_
      refine lv_aload_n hx hb dL_law_686 rfl (lv_at hl 0 rfl) ?_
      refine lv_iload hx hb dL_law_687 (lv_at hl 4 rfl) ?_
      refine lv_iconst (v := nI 1) hx hb dL_law_689 (by decide) ?_
      refine kt_iadd hx hb dL_law_690 ?_
      refine va_sld hx hb hX hbl hbA hS (vp_in_nI (by omega) (by decide)) dL_law_691 ?_
      refine lv_topi (fun z1 ez1 => ?_)
      have ez1 : z1 = nI 6 := (ez1.trans (congrArg xs (nI_clamp (by decide)))).trans h1
      rw [ez1]
      refine lv_aload_n hx hb dL_law_692 rfl (lv_at hl 0 rfl) ?_
      refine lv_iload hx hb dL_law_693 (lv_at hl 4 rfl) ?_
      refine lv_iconst (v := nI 2) hx hb dL_law_695 (by decide) ?_
      refine kt_iadd hx hb dL_law_696 ?_
      refine va_sld hx hb hX hbl hbA hS (vp_in_nI (by omega) (by decide)) dL_law_697 ?_
      refine lv_topi (fun z2 ez2 => ?_)
      have ez2 : z2 = nI 0 := (ez2.trans (congrArg xs (nI_clamp (by decide)))).trans h2
      rw [ez2]
      refine lv_if_eq (tgt := 705) hx hb dL_law_698 (by decide) (fun c3 => ?_) (fun c3 => ?_)
      · skip
        refine lv_iconst (v := nI 0) hx hb dL_law_705 (by decide) ?_
        refine lv_aload_n hx hb dL_law_706 rfl (lv_at hl 3 rfl) ?_
        have hF9 := va_free (wc := wF tp f er tr kr cI cII cJ cJJ ++ wO cJ out oZ) hD hS hA (List.range' 14 46) rfl
        refine kt_newI (wC := wF tp f er tr kr cI cII cJ cJJ ++ wO cJ out oZ) (wR9 := wR (nI 0) z0 mo eo e2 gr av ro co kl dd cI cII) (wN := fun (_ : Unit) => wO cJ out (vp_updL oZ 0 (Int32.toInt64 (giveC (fun _ _ => 0) (fun _ => 0) 6 (if (nI 0) = 0 then 1 else -1) (fun _ => 0) 6)))) (tys := (tyL cI cII cJ cJJ)) (vx_runSW (As := [.ref tp, .int (nI 6), .int (nI 0), .ref out]) (rest := []) ⟨hx, hb, hml, hown, hts⟩ (h_lend l hlt dC dI cI cII cJ cJJ tp f er tr kr out (nI 0) _ ) (vx_cwSW 4 hts gL_law_L_lend rfl rfl rfl (by decide +kernel) ⟨Nat.le_of_ble_eq_true rfl, Nat.le_of_ble_eq_true rfl⟩) (kt_preSH hKc hP hD hS hE hnc hF9 (List.range' 14 46) rfl rfl) rfl rfl hl.1 rfl (lv_room (Nat.le_of_ble_eq_true rfl)) dL_law_707 ⟨Nat.le_of_ble_eq_true rfl, Nat.le_of_ble_eq_true rfl⟩) hP hD hS hA (List.range' 14 46) (List.range' 0 14) rfl rfl rfl (by decide) (fun u H locs hP hD hS => ?_)
        have hP : va_P (dC, dI) vwCl (wR (nI 0) z0 mo eo e2 gr av ro co kl dd cI cII ++ wO cJ out (vp_updL oZ 0 (Int32.toInt64 (giveC (fun _ _ => 0) (fun _ => 0) 6 (if (nI 0) = 0 then 1 else -1) (fun _ => 0) 6)))) H := hP
        have hD : va_D (lwA s) (wR (nI 0) z0 mo eo e2 gr av ro co kl dd cI cII ++ wO cJ out (vp_updL oZ 0 (Int32.toInt64 (giveC (fun _ _ => 0) (fun _ => 0) 6 (if (nI 0) = 0 then 1 else -1) (fun _ => 0) 6)))) := hD
        refine W.widen (k := 100) (n := 1000) (by omega) (by omega) ?_
        refine lv_istore (lv' := [(5, .int (nI 0)), (0, .ref b), (1, .ref tp), (2, .ref mo), (3, .ref out), (4, .int (nI 0))]) hx hb dL_law_710 hl (by decide) rfl (fun ls hl => ?_)
        refine lv_aload_n hx hb dL_law_712 rfl (lv_at hl 3 rfl) ?_
        refine lv_aload_n hx hb dL_law_713 rfl (lv_at hl 1 rfl) ?_
        refine lv_iload hx hb dL_law_714 (lv_at hl 5 rfl) ?_
        refine lv_iconst (v := nI 1) hx hb dL_law_716 (by decide) ?_
        refine kt_iadd hx hb dL_law_717 ?_
        refine va_sld hx hb hX hbl hbA hS (vp_in_nI (by omega) (by decide)) dL_law_718 ?_
        refine lv_topi (fun z4 ez4 => ?_)
        have ez4 : z4 = nI 6 := (ez4.trans (congrArg xs (nI_clamp (by decide)))).trans h1
        rw [ez4]
        refine lv_aload_n hx hb dL_law_719 rfl (lv_at hl 1 rfl) ?_
        refine lv_iload hx hb dL_law_720 (lv_at hl 5 rfl) ?_
        refine lv_iconst (v := nI 2) hx hb dL_law_722 (by decide) ?_
        refine kt_iadd hx hb dL_law_723 ?_
        refine va_sld hx hb hX hbl hbA hS (vp_in_nI (by omega) (by decide)) dL_law_724 ?_
        refine lv_topi (fun z5 ez5 => ?_)
        have ez5 : z5 = nI 0 := (ez5.trans (congrArg xs (nI_clamp (by decide)))).trans h2
        rw [ez5]
        refine lv_if_eq (tgt := 732) hx hb dL_law_725 (by decide) (fun c6 => ?_) (fun c6 => ?_)
        · skip
          refine lv_iconst (v := nI 0) hx hb dL_law_732 (by decide) ?_
          refine kt_newI (wC := wR (nI 0) z0 mo eo e2 gr av ro co kl dd cI cII) (wR9 := wO cJ out (vp_updL oZ 0 (Int32.toInt64 (giveC (fun _ _ => 0) (fun _ => 0) 6 (if (nI 0) = 0 then 1 else -1) (fun _ => 0) 6)))) (wN := fun (u : List Value) => wU mo (nI 0) u) (va_runV (As := [.int (nI 6), .int (nI 0)]) (rest := []) ⟨hx, hb, hml, hown, hts⟩ (t_lend l dC dI cI cII cJ cJJ cZ cO mo eo e2 gr av ro co kl dd (nI 0) _ ) (cwV 2 hts gL_law_X5_lend rfl rfl rfl (by decide +kernel) ⟨Nat.le_of_ble_eq_true rfl, Nat.le_of_ble_eq_true rfl⟩) (kt_preV (q0 := 0) (ci := kX5) hK hP hD (List.range' 0 14) rfl rfl rfl rfl rfl) rfl rfl hl.1 rfl (lv_room (Nat.le_of_ble_eq_true rfl)) dL_law_733 ⟨Nat.le_of_ble_eq_true rfl, Nat.le_of_ble_eq_true rfl⟩) hP hD hS hA (List.range' 0 14) [14] rfl rfl rfl (by decide) (fun u9 H locs hP hD hS => ?_)
          have hP : va_P (dC, dI) vwCl (wO cJ out (vp_updL oZ 0 (Int32.toInt64 (giveC (fun _ _ => 0) (fun _ => 0) 6 (if (nI 0) = 0 then 1 else -1) (fun _ => 0) 6))) ++ wU mo (nI 0) u9) H := hP
          have hD : va_D (lwA s) (wO cJ out (vp_updL oZ 0 (Int32.toInt64 (giveC (fun _ _ => 0) (fun _ => 0) 6 (if (nI 0) = 0 then 1 else -1) (fun _ => 0) 6))) ++ wU mo (nI 0) u9) := hD
          refine W.widen (k := 100) (n := 1000) (by omega) (by omega) ?_
          refine lv_istore (lv' := [(6, .int (nI 0)), (5, .int (nI 0)), (0, .ref b), (1, .ref tp), (2, .ref mo), (3, .ref out), (4, .int (nI 0))]) hx hb dL_law_736 hl (by decide) rfl (fun ls hl => ?_)
          refine lv_aload_n hx hb dL_law_738 rfl (lv_at hl 4 rfl) ?_
          refine kt_calliM (w' := wO cJ out (vp_updL oZ 0 (Int32.toInt64 (giveC (fun _ _ => 0) (fun _ => 0) 6 (if (nI 0) = 0 then 1 else -1) (fun _ => 0) 6))) ++ wU mo (nI 0) u9) (rest := []) (As := []) ⟨hx, hb, hml, hown, hts⟩ (c_X5_thrown l dC dI cI cII cJ cJJ cZ cO mo (nI 0) u9 _) (cwV 0 hts gL_law_X5_thrown rfl rfl rfl (by decide +kernel) ⟨Nat.le_of_ble_eq_true rfl, Nat.le_of_ble_eq_true rfl⟩) hK hP hD hS hA [1] ⟨rfl, ⟨[none, some 0], rfl, by decide +kernel⟩, rfl⟩ rfl 1 kX5 rfl rfl rfl rfl rfl hl.1 (Nat.le_of_ble_eq_true rfl) dL_law_739 ⟨Nat.le_of_ble_eq_true rfl, Nat.le_of_ble_eq_true rfl⟩ (fun H locs hP hD hS => ?_)
          have hP : va_P (dC, dI) vwCl (wO cJ out (vp_updL oZ 0 (Int32.toInt64 (giveC (fun _ _ => 0) (fun _ => 0) 6 (if (nI 0) = 0 then 1 else -1) (fun _ => 0) 6))) ++ wU mo (nI 0) u9) H := hP
          have hD : va_D (lwA s) (wO cJ out (vp_updL oZ 0 (Int32.toInt64 (giveC (fun _ _ => 0) (fun _ => 0) 6 (if (nI 0) = 0 then 1 else -1) (fun _ => 0) 6))) ++ wU mo (nI 0) u9) := hD
          refine W.widen (k := 100) (n := 1000) (by omega) (by omega) ?_
          refine lv_iload hx hb dL_law_742 (lv_at hl 1 rfl) ?_
          refine lv_icmp_eq (tgt := 749) hx hb dL_law_744 (by decide) (fun c7 => ?_) (fun c7 => ?_)
          · skip
            refine lv_iload hx hb dL_law_749 (lv_at hl 1 rfl) ?_
            refine lv_if_ne (tgt := 766) hx hb dL_law_751 (by decide) (fun c8 => ?_) (fun c8 => ?_)
            · first | exact absurd c8 (by decide) | exact (c8 (by decide)).elim
            · skip
              refine lv_aload_n hx hb dL_law_754 rfl (lv_at hl 5 rfl) ?_
              refine lv_iconst (v := nI 0) hx hb dL_law_755 (by decide) ?_
              refine kt_lald hx hb hK hP 0 2 rfl rfl (by omega) (by decide) dL_law_756 ?_
              refine lv_iload hx hb dL_law_757 (lv_at hl 0 rfl) ?_
              refine lv_i2l (v := Int32.toInt64 (nI 0)) hx hb dL_law_759 rfl ?_
              refine W.lcmp hx hb dL_law_760 ?_
              refine lv_if_eq (tgt := 766) hx hb dL_law_761 (by decide) (fun c9 => ?_) (fun c9 => ?_)
              · skip
                refine lv_goto (tgt := 1493) hx hb dL_law_766 (by decide) ?_
                exact law_end C0 hS (lv_sub hl [2, 6] rfl) (by omega) (by omega)
              · exact absurd ((lg_cmp_eq _ _).mpr (by rw [kt_vpL]; exact congrArg Int32.toInt64 (lend_fresh _))) c9
          · first | exact absurd c7 (by decide) | exact (c7 (by decide)).elim
        · first | exact absurd c6 (by decide) | exact (c6 (by decide)).elim
      · first | exact absurd c3 (by decide) | exact (c3 (by decide)).elim
    · skip
      refine lv_aload_n hx hb dL_law_685 rfl (lv_at hl 1 rfl) ?_
      refine lv_aload_n hx hb dL_law_686 rfl (lv_at hl 0 rfl) ?_
      refine lv_iload hx hb dL_law_687 (lv_at hl 4 rfl) ?_
      refine lv_iconst (v := nI 1) hx hb dL_law_689 (by decide) ?_
      refine kt_iadd hx hb dL_law_690 ?_
      refine va_sld hx hb hX hbl hbA hS (vp_in_nI (by omega) (by decide)) dL_law_691 ?_
      refine lv_topi (fun z10 ez10 => ?_)
      have ez10 : z10 = nI 6 := (ez10.trans (congrArg xs (nI_clamp (by decide)))).trans h1
      rw [ez10]
      refine lv_aload_n hx hb dL_law_692 rfl (lv_at hl 0 rfl) ?_
      refine lv_iload hx hb dL_law_693 (lv_at hl 4 rfl) ?_
      refine lv_iconst (v := nI 2) hx hb dL_law_695 (by decide) ?_
      refine kt_iadd hx hb dL_law_696 ?_
      refine va_sld hx hb hX hbl hbA hS (vp_in_nI (by omega) (by decide)) dL_law_697 ?_
      refine lv_topi (fun z11 ez11 => ?_)
      have ez11 : z11 = xs 2 := (ez11.trans (congrArg xs (nI_clamp (by decide)))).trans rfl
      rw [ez11]
      refine lv_if_eq (tgt := 705) hx hb dL_law_698 (by decide) (fun c12 => ?_) (fun c12 => ?_)
      · exact absurd c12 h2
      · skip
        refine lv_iconst (v := nI 1) hx hb dL_law_701 (by decide) ?_
        refine lv_goto (tgt := 706) hx hb dL_law_702 (by decide) ?_
        refine lv_aload_n hx hb dL_law_706 rfl (lv_at hl 3 rfl) ?_
        have hF9 := va_free (wc := wF tp f er tr kr cI cII cJ cJJ ++ wO cJ out oZ) hD hS hA (List.range' 14 46) rfl
        refine kt_newI (wC := wF tp f er tr kr cI cII cJ cJJ ++ wO cJ out oZ) (wR9 := wR (nI 0) z0 mo eo e2 gr av ro co kl dd cI cII) (wN := fun (_ : Unit) => wO cJ out (vp_updL oZ 0 (Int32.toInt64 (giveC (fun _ _ => 0) (fun _ => 0) 6 (if (nI 1) = 0 then 1 else -1) (fun _ => 0) 6)))) (tys := (tyL cI cII cJ cJJ)) (vx_runSW (As := [.ref tp, .int (nI 6), .int (nI 1), .ref out]) (rest := []) ⟨hx, hb, hml, hown, hts⟩ (h_lend l hlt dC dI cI cII cJ cJJ tp f er tr kr out (nI 1) _ ) (vx_cwSW 4 hts gL_law_L_lend rfl rfl rfl (by decide +kernel) ⟨Nat.le_of_ble_eq_true rfl, Nat.le_of_ble_eq_true rfl⟩) (kt_preSH hKc hP hD hS hE hnc hF9 (List.range' 14 46) rfl rfl) rfl rfl hl.1 rfl (lv_room (Nat.le_of_ble_eq_true rfl)) dL_law_707 ⟨Nat.le_of_ble_eq_true rfl, Nat.le_of_ble_eq_true rfl⟩) hP hD hS hA (List.range' 14 46) (List.range' 0 14) rfl rfl rfl (by decide) (fun u H locs hP hD hS => ?_)
        have hP : va_P (dC, dI) vwCl (wR (nI 0) z0 mo eo e2 gr av ro co kl dd cI cII ++ wO cJ out (vp_updL oZ 0 (Int32.toInt64 (giveC (fun _ _ => 0) (fun _ => 0) 6 (if (nI 1) = 0 then 1 else -1) (fun _ => 0) 6)))) H := hP
        have hD : va_D (lwA s) (wR (nI 0) z0 mo eo e2 gr av ro co kl dd cI cII ++ wO cJ out (vp_updL oZ 0 (Int32.toInt64 (giveC (fun _ _ => 0) (fun _ => 0) 6 (if (nI 1) = 0 then 1 else -1) (fun _ => 0) 6)))) := hD
        refine W.widen (k := 100) (n := 1000) (by omega) (by omega) ?_
        refine lv_istore (lv' := [(5, .int (nI 0)), (0, .ref b), (1, .ref tp), (2, .ref mo), (3, .ref out), (4, .int (nI 0))]) hx hb dL_law_710 hl (by decide) rfl (fun ls hl => ?_)
        refine lv_aload_n hx hb dL_law_712 rfl (lv_at hl 3 rfl) ?_
        refine lv_aload_n hx hb dL_law_713 rfl (lv_at hl 1 rfl) ?_
        refine lv_iload hx hb dL_law_714 (lv_at hl 5 rfl) ?_
        refine lv_iconst (v := nI 1) hx hb dL_law_716 (by decide) ?_
        refine kt_iadd hx hb dL_law_717 ?_
        refine va_sld hx hb hX hbl hbA hS (vp_in_nI (by omega) (by decide)) dL_law_718 ?_
        refine lv_topi (fun z13 ez13 => ?_)
        have ez13 : z13 = nI 6 := (ez13.trans (congrArg xs (nI_clamp (by decide)))).trans h1
        rw [ez13]
        refine lv_aload_n hx hb dL_law_719 rfl (lv_at hl 1 rfl) ?_
        refine lv_iload hx hb dL_law_720 (lv_at hl 5 rfl) ?_
        refine lv_iconst (v := nI 2) hx hb dL_law_722 (by decide) ?_
        refine kt_iadd hx hb dL_law_723 ?_
        refine va_sld hx hb hX hbl hbA hS (vp_in_nI (by omega) (by decide)) dL_law_724 ?_
        refine lv_topi (fun z14 ez14 => ?_)
        have ez14 : z14 = xs 2 := (ez14.trans (congrArg xs (nI_clamp (by decide)))).trans rfl
        rw [ez14]
        refine lv_if_eq (tgt := 732) hx hb dL_law_725 (by decide) (fun c15 => ?_) (fun c15 => ?_)
        · exact absurd c15 h2
        · skip
          refine lv_iconst (v := nI 1) hx hb dL_law_728 (by decide) ?_
          refine lv_goto (tgt := 733) hx hb dL_law_729 (by decide) ?_
          refine kt_newI (wC := wR (nI 0) z0 mo eo e2 gr av ro co kl dd cI cII) (wR9 := wO cJ out (vp_updL oZ 0 (Int32.toInt64 (giveC (fun _ _ => 0) (fun _ => 0) 6 (if (nI 1) = 0 then 1 else -1) (fun _ => 0) 6)))) (wN := fun (u : List Value) => wU mo (nI 0) u) (va_runV (As := [.int (nI 6), .int (nI 1)]) (rest := []) ⟨hx, hb, hml, hown, hts⟩ (t_lend l dC dI cI cII cJ cJJ cZ cO mo eo e2 gr av ro co kl dd (nI 1) _ ) (cwV 2 hts gL_law_X5_lend rfl rfl rfl (by decide +kernel) ⟨Nat.le_of_ble_eq_true rfl, Nat.le_of_ble_eq_true rfl⟩) (kt_preV (q0 := 0) (ci := kX5) hK hP hD (List.range' 0 14) rfl rfl rfl rfl rfl) rfl rfl hl.1 rfl (lv_room (Nat.le_of_ble_eq_true rfl)) dL_law_733 ⟨Nat.le_of_ble_eq_true rfl, Nat.le_of_ble_eq_true rfl⟩) hP hD hS hA (List.range' 0 14) [14] rfl rfl rfl (by decide) (fun u9 H locs hP hD hS => ?_)
          have hP : va_P (dC, dI) vwCl (wO cJ out (vp_updL oZ 0 (Int32.toInt64 (giveC (fun _ _ => 0) (fun _ => 0) 6 (if (nI 1) = 0 then 1 else -1) (fun _ => 0) 6))) ++ wU mo (nI 0) u9) H := hP
          have hD : va_D (lwA s) (wO cJ out (vp_updL oZ 0 (Int32.toInt64 (giveC (fun _ _ => 0) (fun _ => 0) 6 (if (nI 1) = 0 then 1 else -1) (fun _ => 0) 6))) ++ wU mo (nI 0) u9) := hD
          refine W.widen (k := 100) (n := 1000) (by omega) (by omega) ?_
          refine lv_istore (lv' := [(6, .int (nI 0)), (5, .int (nI 0)), (0, .ref b), (1, .ref tp), (2, .ref mo), (3, .ref out), (4, .int (nI 0))]) hx hb dL_law_736 hl (by decide) rfl (fun ls hl => ?_)
          refine lv_aload_n hx hb dL_law_738 rfl (lv_at hl 4 rfl) ?_
          refine kt_calliM (w' := wO cJ out (vp_updL oZ 0 (Int32.toInt64 (giveC (fun _ _ => 0) (fun _ => 0) 6 (if (nI 1) = 0 then 1 else -1) (fun _ => 0) 6))) ++ wU mo (nI 0) u9) (rest := []) (As := []) ⟨hx, hb, hml, hown, hts⟩ (c_X5_thrown l dC dI cI cII cJ cJJ cZ cO mo (nI 0) u9 _) (cwV 0 hts gL_law_X5_thrown rfl rfl rfl (by decide +kernel) ⟨Nat.le_of_ble_eq_true rfl, Nat.le_of_ble_eq_true rfl⟩) hK hP hD hS hA [1] ⟨rfl, ⟨[none, some 0], rfl, by decide +kernel⟩, rfl⟩ rfl 1 kX5 rfl rfl rfl rfl rfl hl.1 (Nat.le_of_ble_eq_true rfl) dL_law_739 ⟨Nat.le_of_ble_eq_true rfl, Nat.le_of_ble_eq_true rfl⟩ (fun H locs hP hD hS => ?_)
          have hP : va_P (dC, dI) vwCl (wO cJ out (vp_updL oZ 0 (Int32.toInt64 (giveC (fun _ _ => 0) (fun _ => 0) 6 (if (nI 1) = 0 then 1 else -1) (fun _ => 0) 6))) ++ wU mo (nI 0) u9) H := hP
          have hD : va_D (lwA s) (wO cJ out (vp_updL oZ 0 (Int32.toInt64 (giveC (fun _ _ => 0) (fun _ => 0) 6 (if (nI 1) = 0 then 1 else -1) (fun _ => 0) 6))) ++ wU mo (nI 0) u9) := hD
          refine W.widen (k := 100) (n := 1000) (by omega) (by omega) ?_
          refine lv_iload hx hb dL_law_742 (lv_at hl 1 rfl) ?_
          refine lv_icmp_eq (tgt := 749) hx hb dL_law_744 (by decide) (fun c16 => ?_) (fun c16 => ?_)
          · skip
            refine lv_iload hx hb dL_law_749 (lv_at hl 1 rfl) ?_
            refine lv_if_ne (tgt := 766) hx hb dL_law_751 (by decide) (fun c17 => ?_) (fun c17 => ?_)
            · first | exact absurd c17 (by decide) | exact (c17 (by decide)).elim
            · skip
              refine lv_aload_n hx hb dL_law_754 rfl (lv_at hl 5 rfl) ?_
              refine lv_iconst (v := nI 0) hx hb dL_law_755 (by decide) ?_
              refine kt_lald hx hb hK hP 0 2 rfl rfl (by omega) (by decide) dL_law_756 ?_
              refine lv_iload hx hb dL_law_757 (lv_at hl 0 rfl) ?_
              refine lv_i2l (v := Int32.toInt64 (nI 0)) hx hb dL_law_759 rfl ?_
              refine W.lcmp hx hb dL_law_760 ?_
              refine lv_if_eq (tgt := 766) hx hb dL_law_761 (by decide) (fun c18 => ?_) (fun c18 => ?_)
              · skip
                refine lv_goto (tgt := 1493) hx hb dL_law_766 (by decide) ?_
                exact law_end C0 hS (lv_sub hl [2, 6] rfl) (by omega) (by omega)
              · exact absurd ((lg_cmp_eq _ _).mpr (by rw [kt_vpL]; exact congrArg Int32.toInt64 (lend_fresh _))) c18
          · first | exact absurd c16 (by decide) | exact (c16 (by decide)).elim
  · skip
    by_cases h2 : xs 2 = 0
    · skip
      refine lv_aload_n hx hb dL_law_685 rfl (lv_at hl 1 rfl) ?_
      refine lv_aload_n hx hb dL_law_686 rfl (lv_at hl 0 rfl) ?_
      refine lv_iload hx hb dL_law_687 (lv_at hl 4 rfl) ?_
      refine lv_iconst (v := nI 1) hx hb dL_law_689 (by decide) ?_
      refine kt_iadd hx hb dL_law_690 ?_
      refine va_sld hx hb hX hbl hbA hS (vp_in_nI (by omega) (by decide)) dL_law_691 ?_
      refine lv_topi (fun z19 ez19 => ?_)
      have ez19 : z19 = xs 1 := (ez19.trans (congrArg xs (nI_clamp (by decide)))).trans rfl
      rw [ez19]
      refine lv_aload_n hx hb dL_law_692 rfl (lv_at hl 0 rfl) ?_
      refine lv_iload hx hb dL_law_693 (lv_at hl 4 rfl) ?_
      refine lv_iconst (v := nI 2) hx hb dL_law_695 (by decide) ?_
      refine kt_iadd hx hb dL_law_696 ?_
      refine va_sld hx hb hX hbl hbA hS (vp_in_nI (by omega) (by decide)) dL_law_697 ?_
      refine lv_topi (fun z20 ez20 => ?_)
      have ez20 : z20 = nI 0 := (ez20.trans (congrArg xs (nI_clamp (by decide)))).trans h2
      rw [ez20]
      refine lv_if_eq (tgt := 705) hx hb dL_law_698 (by decide) (fun c21 => ?_) (fun c21 => ?_)
      · skip
        refine lv_iconst (v := nI 0) hx hb dL_law_705 (by decide) ?_
        refine lv_aload_n hx hb dL_law_706 rfl (lv_at hl 3 rfl) ?_
        have hF9 := va_free (wc := wF tp f er tr kr cI cII cJ cJJ ++ wO cJ out oZ) hD hS hA (List.range' 14 46) rfl
        refine kt_newI (wC := wF tp f er tr kr cI cII cJ cJJ ++ wO cJ out oZ) (wR9 := wR (nI 0) z0 mo eo e2 gr av ro co kl dd cI cII) (wN := fun (_ : Unit) => ([] : va_W)) (tys := (tyL cI cII cJ cJJ)) (vx_runSW (As := [.ref tp, .int (xs 1), .int (nI 0), .ref out]) (rest := []) ⟨hx, hb, hml, hown, hts⟩ (h_lend_node l hlt dC dI cI cII cJ cJJ tp f er tr kr out (xs 1) (nI 0) _ (h1)) (vx_cwSW 4 hts gL_law_L_lend rfl rfl rfl (by decide +kernel) ⟨Nat.le_of_ble_eq_true rfl, Nat.le_of_ble_eq_true rfl⟩) (kt_preSH hKc hP hD hS hE hnc hF9 (List.range' 14 46) rfl rfl) rfl rfl hl.1 rfl (lv_room (Nat.le_of_ble_eq_true rfl)) dL_law_707 ⟨Nat.le_of_ble_eq_true rfl, Nat.le_of_ble_eq_true rfl⟩) hP hD hS hA (List.range' 14 46) (List.range' 0 14) rfl rfl rfl (by decide) (fun u H locs hP hD hS => ?_)
        have hP := kt_sub (wC := wR (nI 0) z0 mo eo e2 gr av ro co kl dd cI cII) hP (List.range' 0 14) rfl
        have hD := hD.sub (ws' := wR (nI 0) z0 mo eo e2 gr av ro co kl dd cI cII) (List.range' 0 14) rfl rfl
        refine W.widen (k := 101) (n := 1006) (by omega) (by omega) ?_
        refine lv_istore (lv' := [(5, .int (nI 1)), (0, .ref b), (1, .ref tp), (2, .ref mo), (3, .ref out), (4, .int (nI 0))]) hx hb dL_law_710 hl (by decide) rfl (fun ls hl => ?_)
        refine lv_aload_n hx hb dL_law_712 rfl (lv_at hl 3 rfl) ?_
        refine lv_aload_n hx hb dL_law_713 rfl (lv_at hl 1 rfl) ?_
        refine lv_iload hx hb dL_law_714 (lv_at hl 5 rfl) ?_
        refine lv_iconst (v := nI 1) hx hb dL_law_716 (by decide) ?_
        refine kt_iadd hx hb dL_law_717 ?_
        refine va_sld hx hb hX hbl hbA hS (vp_in_nI (by omega) (by decide)) dL_law_718 ?_
        refine lv_topi (fun z22 ez22 => ?_)
        have ez22 : z22 = xs 1 := (ez22.trans (congrArg xs (nI_clamp (by decide)))).trans rfl
        rw [ez22]
        refine lv_aload_n hx hb dL_law_719 rfl (lv_at hl 1 rfl) ?_
        refine lv_iload hx hb dL_law_720 (lv_at hl 5 rfl) ?_
        refine lv_iconst (v := nI 2) hx hb dL_law_722 (by decide) ?_
        refine kt_iadd hx hb dL_law_723 ?_
        refine va_sld hx hb hX hbl hbA hS (vp_in_nI (by omega) (by decide)) dL_law_724 ?_
        refine lv_topi (fun z23 ez23 => ?_)
        have ez23 : z23 = nI 0 := (ez23.trans (congrArg xs (nI_clamp (by decide)))).trans h2
        rw [ez23]
        refine lv_if_eq (tgt := 732) hx hb dL_law_725 (by decide) (fun c24 => ?_) (fun c24 => ?_)
        · skip
          refine lv_iconst (v := nI 0) hx hb dL_law_732 (by decide) ?_
          refine kt_newI (wC := wR (nI 0) z0 mo eo e2 gr av ro co kl dd cI cII) (wR9 := ([] : va_W)) (wN := fun (u : List Value) => wU mo (nI 1) u) (va_runV (As := [.int (xs 1), .int (nI 0)]) (rest := []) ⟨hx, hb, hml, hown, hts⟩ (t_lend_node l dC dI cI cII cJ cJJ cZ cO mo eo e2 gr av ro co kl dd (xs 1) (nI 0) _ (h1)) (cwV 2 hts gL_law_X5_lend rfl rfl rfl (by decide +kernel) ⟨Nat.le_of_ble_eq_true rfl, Nat.le_of_ble_eq_true rfl⟩) (kt_preV (q0 := 0) (ci := kX5) hK hP hD (List.range' 0 14) rfl rfl rfl rfl rfl) rfl rfl hl.1 rfl (lv_room (Nat.le_of_ble_eq_true rfl)) dL_law_733 ⟨Nat.le_of_ble_eq_true rfl, Nat.le_of_ble_eq_true rfl⟩) hP hD hS hA (List.range' 0 14) [] rfl rfl rfl (by decide) (fun u9 H locs hP hD hS => ?_)
          have hP : va_P (dC, dI) vwCl (wU mo (nI 1) u9) H := hP
          have hD : va_D (lwA s) (wU mo (nI 1) u9) := hD
          refine W.widen (k := 101) (n := 1006) (by omega) (by omega) ?_
          refine lv_istore (lv' := [(6, .int (nI 0)), (5, .int (nI 1)), (0, .ref b), (1, .ref tp), (2, .ref mo), (3, .ref out), (4, .int (nI 0))]) hx hb dL_law_736 hl (by decide) rfl (fun ls hl => ?_)
          refine lv_aload_n hx hb dL_law_738 rfl (lv_at hl 4 rfl) ?_
          refine kt_calliM (w' := wU mo (nI 1) u9) (rest := []) (As := []) ⟨hx, hb, hml, hown, hts⟩ (c_X5_thrown l dC dI cI cII cJ cJJ cZ cO mo (nI 1) u9 _) (cwV 0 hts gL_law_X5_thrown rfl rfl rfl (by decide +kernel) ⟨Nat.le_of_ble_eq_true rfl, Nat.le_of_ble_eq_true rfl⟩) hK hP hD hS hA [0] ⟨rfl, ⟨[some 0], rfl, by decide +kernel⟩, rfl⟩ rfl 0 kX5 rfl rfl rfl rfl rfl hl.1 (Nat.le_of_ble_eq_true rfl) dL_law_739 ⟨Nat.le_of_ble_eq_true rfl, Nat.le_of_ble_eq_true rfl⟩ (fun H locs hP hD hS => ?_)
          have hP : va_P (dC, dI) vwCl (wU mo (nI 1) u9) H := hP
          have hD : va_D (lwA s) (wU mo (nI 1) u9) := hD
          refine W.widen (k := 101) (n := 1006) (by omega) (by omega) ?_
          refine lv_iload hx hb dL_law_742 (lv_at hl 1 rfl) ?_
          refine lv_icmp_eq (tgt := 749) hx hb dL_law_744 (by decide) (fun c25 => ?_) (fun c25 => ?_)
          · skip
            refine lv_iload hx hb dL_law_749 (lv_at hl 1 rfl) ?_
            refine lv_if_ne (tgt := 766) hx hb dL_law_751 (by decide) (fun c26 => ?_) (fun c26 => ?_)
            · skip
              refine lv_goto (tgt := 1493) hx hb dL_law_766 (by decide) ?_
              exact law_end C0 hS (lv_sub hl [2, 6] rfl) (by omega) (by omega)
            · first | exact absurd c26 (by decide) | exact (c26 (by decide)).elim
          · first | exact absurd c25 (by decide) | exact (c25 (by decide)).elim
        · first | exact absurd c24 (by decide) | exact (c24 (by decide)).elim
      · first | exact absurd c21 (by decide) | exact (c21 (by decide)).elim
    · skip
      refine lv_aload_n hx hb dL_law_685 rfl (lv_at hl 1 rfl) ?_
      refine lv_aload_n hx hb dL_law_686 rfl (lv_at hl 0 rfl) ?_
      refine lv_iload hx hb dL_law_687 (lv_at hl 4 rfl) ?_
      refine lv_iconst (v := nI 1) hx hb dL_law_689 (by decide) ?_
      refine kt_iadd hx hb dL_law_690 ?_
      refine va_sld hx hb hX hbl hbA hS (vp_in_nI (by omega) (by decide)) dL_law_691 ?_
      refine lv_topi (fun z27 ez27 => ?_)
      have ez27 : z27 = xs 1 := (ez27.trans (congrArg xs (nI_clamp (by decide)))).trans rfl
      rw [ez27]
      refine lv_aload_n hx hb dL_law_692 rfl (lv_at hl 0 rfl) ?_
      refine lv_iload hx hb dL_law_693 (lv_at hl 4 rfl) ?_
      refine lv_iconst (v := nI 2) hx hb dL_law_695 (by decide) ?_
      refine kt_iadd hx hb dL_law_696 ?_
      refine va_sld hx hb hX hbl hbA hS (vp_in_nI (by omega) (by decide)) dL_law_697 ?_
      refine lv_topi (fun z28 ez28 => ?_)
      have ez28 : z28 = xs 2 := (ez28.trans (congrArg xs (nI_clamp (by decide)))).trans rfl
      rw [ez28]
      refine lv_if_eq (tgt := 705) hx hb dL_law_698 (by decide) (fun c29 => ?_) (fun c29 => ?_)
      · exact absurd c29 h2
      · skip
        refine lv_iconst (v := nI 1) hx hb dL_law_701 (by decide) ?_
        refine lv_goto (tgt := 706) hx hb dL_law_702 (by decide) ?_
        refine lv_aload_n hx hb dL_law_706 rfl (lv_at hl 3 rfl) ?_
        have hF9 := va_free (wc := wF tp f er tr kr cI cII cJ cJJ ++ wO cJ out oZ) hD hS hA (List.range' 14 46) rfl
        refine kt_newI (wC := wF tp f er tr kr cI cII cJ cJJ ++ wO cJ out oZ) (wR9 := wR (nI 0) z0 mo eo e2 gr av ro co kl dd cI cII) (wN := fun (_ : Unit) => ([] : va_W)) (tys := (tyL cI cII cJ cJJ)) (vx_runSW (As := [.ref tp, .int (xs 1), .int (nI 1), .ref out]) (rest := []) ⟨hx, hb, hml, hown, hts⟩ (h_lend_node l hlt dC dI cI cII cJ cJJ tp f er tr kr out (xs 1) (nI 1) _ (h1)) (vx_cwSW 4 hts gL_law_L_lend rfl rfl rfl (by decide +kernel) ⟨Nat.le_of_ble_eq_true rfl, Nat.le_of_ble_eq_true rfl⟩) (kt_preSH hKc hP hD hS hE hnc hF9 (List.range' 14 46) rfl rfl) rfl rfl hl.1 rfl (lv_room (Nat.le_of_ble_eq_true rfl)) dL_law_707 ⟨Nat.le_of_ble_eq_true rfl, Nat.le_of_ble_eq_true rfl⟩) hP hD hS hA (List.range' 14 46) (List.range' 0 14) rfl rfl rfl (by decide) (fun u H locs hP hD hS => ?_)
        have hP := kt_sub (wC := wR (nI 0) z0 mo eo e2 gr av ro co kl dd cI cII) hP (List.range' 0 14) rfl
        have hD := hD.sub (ws' := wR (nI 0) z0 mo eo e2 gr av ro co kl dd cI cII) (List.range' 0 14) rfl rfl
        refine W.widen (k := 101) (n := 1006) (by omega) (by omega) ?_
        refine lv_istore (lv' := [(5, .int (nI 1)), (0, .ref b), (1, .ref tp), (2, .ref mo), (3, .ref out), (4, .int (nI 0))]) hx hb dL_law_710 hl (by decide) rfl (fun ls hl => ?_)
        refine lv_aload_n hx hb dL_law_712 rfl (lv_at hl 3 rfl) ?_
        refine lv_aload_n hx hb dL_law_713 rfl (lv_at hl 1 rfl) ?_
        refine lv_iload hx hb dL_law_714 (lv_at hl 5 rfl) ?_
        refine lv_iconst (v := nI 1) hx hb dL_law_716 (by decide) ?_
        refine kt_iadd hx hb dL_law_717 ?_
        refine va_sld hx hb hX hbl hbA hS (vp_in_nI (by omega) (by decide)) dL_law_718 ?_
        refine lv_topi (fun z30 ez30 => ?_)
        have ez30 : z30 = xs 1 := (ez30.trans (congrArg xs (nI_clamp (by decide)))).trans rfl
        rw [ez30]
        refine lv_aload_n hx hb dL_law_719 rfl (lv_at hl 1 rfl) ?_
        refine lv_iload hx hb dL_law_720 (lv_at hl 5 rfl) ?_
        refine lv_iconst (v := nI 2) hx hb dL_law_722 (by decide) ?_
        refine kt_iadd hx hb dL_law_723 ?_
        refine va_sld hx hb hX hbl hbA hS (vp_in_nI (by omega) (by decide)) dL_law_724 ?_
        refine lv_topi (fun z31 ez31 => ?_)
        have ez31 : z31 = xs 2 := (ez31.trans (congrArg xs (nI_clamp (by decide)))).trans rfl
        rw [ez31]
        refine lv_if_eq (tgt := 732) hx hb dL_law_725 (by decide) (fun c32 => ?_) (fun c32 => ?_)
        · exact absurd c32 h2
        · skip
          refine lv_iconst (v := nI 1) hx hb dL_law_728 (by decide) ?_
          refine lv_goto (tgt := 733) hx hb dL_law_729 (by decide) ?_
          refine kt_newI (wC := wR (nI 0) z0 mo eo e2 gr av ro co kl dd cI cII) (wR9 := ([] : va_W)) (wN := fun (u : List Value) => wU mo (nI 1) u) (va_runV (As := [.int (xs 1), .int (nI 1)]) (rest := []) ⟨hx, hb, hml, hown, hts⟩ (t_lend_node l dC dI cI cII cJ cJJ cZ cO mo eo e2 gr av ro co kl dd (xs 1) (nI 1) _ (h1)) (cwV 2 hts gL_law_X5_lend rfl rfl rfl (by decide +kernel) ⟨Nat.le_of_ble_eq_true rfl, Nat.le_of_ble_eq_true rfl⟩) (kt_preV (q0 := 0) (ci := kX5) hK hP hD (List.range' 0 14) rfl rfl rfl rfl rfl) rfl rfl hl.1 rfl (lv_room (Nat.le_of_ble_eq_true rfl)) dL_law_733 ⟨Nat.le_of_ble_eq_true rfl, Nat.le_of_ble_eq_true rfl⟩) hP hD hS hA (List.range' 0 14) [] rfl rfl rfl (by decide) (fun u9 H locs hP hD hS => ?_)
          have hP : va_P (dC, dI) vwCl (wU mo (nI 1) u9) H := hP
          have hD : va_D (lwA s) (wU mo (nI 1) u9) := hD
          refine W.widen (k := 101) (n := 1006) (by omega) (by omega) ?_
          refine lv_istore (lv' := [(6, .int (nI 0)), (5, .int (nI 1)), (0, .ref b), (1, .ref tp), (2, .ref mo), (3, .ref out), (4, .int (nI 0))]) hx hb dL_law_736 hl (by decide) rfl (fun ls hl => ?_)
          refine lv_aload_n hx hb dL_law_738 rfl (lv_at hl 4 rfl) ?_
          refine kt_calliM (w' := wU mo (nI 1) u9) (rest := []) (As := []) ⟨hx, hb, hml, hown, hts⟩ (c_X5_thrown l dC dI cI cII cJ cJJ cZ cO mo (nI 1) u9 _) (cwV 0 hts gL_law_X5_thrown rfl rfl rfl (by decide +kernel) ⟨Nat.le_of_ble_eq_true rfl, Nat.le_of_ble_eq_true rfl⟩) hK hP hD hS hA [0] ⟨rfl, ⟨[some 0], rfl, by decide +kernel⟩, rfl⟩ rfl 0 kX5 rfl rfl rfl rfl rfl hl.1 (Nat.le_of_ble_eq_true rfl) dL_law_739 ⟨Nat.le_of_ble_eq_true rfl, Nat.le_of_ble_eq_true rfl⟩ (fun H locs hP hD hS => ?_)
          have hP : va_P (dC, dI) vwCl (wU mo (nI 1) u9) H := hP
          have hD : va_D (lwA s) (wU mo (nI 1) u9) := hD
          refine W.widen (k := 101) (n := 1006) (by omega) (by omega) ?_
          refine lv_iload hx hb dL_law_742 (lv_at hl 1 rfl) ?_
          refine lv_icmp_eq (tgt := 749) hx hb dL_law_744 (by decide) (fun c33 => ?_) (fun c33 => ?_)
          · skip
            refine lv_iload hx hb dL_law_749 (lv_at hl 1 rfl) ?_
            refine lv_if_ne (tgt := 766) hx hb dL_law_751 (by decide) (fun c34 => ?_) (fun c34 => ?_)
            · skip
              refine lv_goto (tgt := 1493) hx hb dL_law_766 (by decide) ?_
              exact law_end C0 hS (lv_sub hl [2, 6] rfl) (by omega) (by omega)
            · first | exact absurd c34 (by decide) | exact (c34 (by decide)).elim
          · first | exact absurd c33 (by decide) | exact (c33 (by decide)).elim

set_option maxHeartbeats 4000000 in
set_option maxRecDepth 100000 in
/-- case 11 of the law: ofSpot -/
theorem law_ofSpot {p : Program} {l : Launch} {e : Env} {s : State} {m : MethodId} {below : List Frame} {meth : Method} {c : Code} {b : Nat} {xs : Nat → Int32} (hlt : l.stackTraces = false) (C0 : lw_At p s m meth c b 4 xs) {dC : Nat → ClassId} {dI : Nat → Nat → Nat} {cI cII cJ cJJ cZ cO : ClassId} {tp : Nat} {f : Nat → Nat} {er tr kr : Nat → Nat} {mo eo : Nat} {e2 : Nat → Nat} {gr av ro co kl dd out : Nat} (hK : va_K (dC, dI) vwCl (tyR cI cII cJ cJJ cZ cO) s) (hE : EnvX (lwA s) s s.heap) (hER : EnvR dd (lwA s) s s.heap) (hnc : va_Nc exA exI s) {H : Heap} {locs : List Loc} {ls : Array Slot} (hP : va_P (dC, dI) vwCl (wR (nI 0) z0 mo eo e2 gr av ro co kl dd cI cII ++ (wF tp f er tr kr cI cII cJ cJJ ++ wO cJ out oZ)) H) (hD : va_D (lwA s) (wR (nI 0) z0 mo eo e2 gr av ro co kl dd cI cII ++ (wF tp f er tr kr cI cII cJ cJJ ++ wO cJ out oZ))) (hS : va_S (lwA s) s.heap H locs) (hl : lv_has ls 9 [(0, .ref b), (1, .ref tp), (2, .ref mo), (3, .ref out), (4, .int (nI 0))]) : W p l e room_1 s m #[Value.ref b] below meth c H locs 100 1000 (lw_Z below #[Value.ref b] s) (F0 m 769 ls []) := by
  obtain ⟨hx, hb, hr, hml, hown, hts0, hX, hbl, hlocks, hgv⟩ := id C0
  have hA : ∀ q : Nat, s.heap.size ≤ q → (lwA s) q := fun _ h => h
  have hbA : ¬ (lwA s) b := Nat.not_le.mpr hbl
  have hts : ∀ w ∈ wsL_law, w.before #[Value.ref b] s = true := fun w h => hts0 w (wsL_law_in w h)
  have hKc : va_K (dC, dI) vwCl (tyL cI cII cJ cJJ) s := hK.sub [0, 1, 2, 3] rfl
  refine lv_aload_n hx hb dL_law_769 rfl (lv_at hl 1 rfl) ?_
  refine lv_aload_n hx hb dL_law_770 rfl (lv_at hl 0 rfl) ?_
  refine lv_iload hx hb dL_law_771 (lv_at hl 4 rfl) ?_
  refine lv_iconst (v := nI 1) hx hb dL_law_773 (by decide) ?_
  refine kt_iadd hx hb dL_law_774 ?_
  refine va_sld hx hb hX hbl hbA hS (vp_in_nI (by omega) (by decide)) dL_law_775 ?_
  refine lv_topi (fun z1 ez1 => ?_)
  have ez1 : z1 = xs 1 := (ez1.trans (congrArg xs (nI_clamp (by decide)))).trans rfl
  rw [ez1]
  refine lv_aload_n hx hb dL_law_776 rfl (lv_at hl 0 rfl) ?_
  refine lv_iload hx hb dL_law_777 (lv_at hl 4 rfl) ?_
  refine lv_iconst (v := nI 2) hx hb dL_law_779 (by decide) ?_
  refine kt_iadd hx hb dL_law_780 ?_
  refine va_sld hx hb hX hbl hbA hS (vp_in_nI (by omega) (by decide)) dL_law_781 ?_
  refine lv_topi (fun z2 ez2 => ?_)
  have ez2 : z2 = xs 2 := (ez2.trans (congrArg xs (nI_clamp (by decide)))).trans rfl
  rw [ez2]
  refine lv_aload_n hx hb dL_law_782 rfl (lv_at hl 3 rfl) ?_
  have hF9 := va_free (wc := wF tp f er tr kr cI cII cJ cJJ ++ wO cJ out oZ) hD hS hA (List.range' 14 46) rfl
  refine kt_newI (wC := wF tp f er tr kr cI cII cJ cJJ ++ wO cJ out oZ) (wR9 := wR (nI 0) z0 mo eo e2 gr av ro co kl dd cI cII) (wN := fun (_ : Unit) => ([] : va_W)) (tys := (tyL cI cII cJ cJJ)) (vx_runSW (As := [.ref tp, .int (xs 1), .int (xs 2), .ref out]) (rest := []) ⟨hx, hb, hml, hown, hts⟩ (h_ofSpot l hlt dC dI cI cII cJ cJJ tp f er tr kr out (xs 1) (xs 2) _ ) (vx_cwSW 4 hts gL_law_L_ofSpot rfl rfl rfl (by decide +kernel) ⟨Nat.le_of_ble_eq_true rfl, Nat.le_of_ble_eq_true rfl⟩) (kt_preSH hKc hP hD hS hE hnc hF9 (List.range' 14 46) rfl rfl) rfl rfl hl.1 rfl (lv_room (Nat.le_of_ble_eq_true rfl)) dL_law_783 ⟨Nat.le_of_ble_eq_true rfl, Nat.le_of_ble_eq_true rfl⟩) hP hD hS hA (List.range' 14 46) (List.range' 0 14) rfl rfl rfl (by decide) (fun u H locs hP hD hS => ?_)
  have hP := kt_sub (wC := wR (nI 0) z0 mo eo e2 gr av ro co kl dd cI cII) hP (List.range' 0 14) rfl
  have hD := hD.sub (ws' := wR (nI 0) z0 mo eo e2 gr av ro co kl dd cI cII) (List.range' 0 14) rfl rfl
  refine W.widen (k := 101) (n := 1006) (by omega) (by omega) ?_
  refine lv_istore (lv' := [(5, .int (nI 1)), (0, .ref b), (1, .ref tp), (2, .ref mo), (3, .ref out), (4, .int (nI 0))]) hx hb dL_law_786 hl (by decide) rfl (fun ls hl => ?_)
  refine lv_aload_n hx hb dL_law_788 rfl (lv_at hl 3 rfl) ?_
  refine lv_aload_n hx hb dL_law_789 rfl (lv_at hl 1 rfl) ?_
  refine lv_iload hx hb dL_law_790 (lv_at hl 5 rfl) ?_
  refine lv_iconst (v := nI 1) hx hb dL_law_792 (by decide) ?_
  refine kt_iadd hx hb dL_law_793 ?_
  refine va_sld hx hb hX hbl hbA hS (vp_in_nI (by omega) (by decide)) dL_law_794 ?_
  refine lv_topi (fun z3 ez3 => ?_)
  have ez3 : z3 = xs 1 := (ez3.trans (congrArg xs (nI_clamp (by decide)))).trans rfl
  rw [ez3]
  refine lv_aload_n hx hb dL_law_795 rfl (lv_at hl 1 rfl) ?_
  refine lv_iload hx hb dL_law_796 (lv_at hl 5 rfl) ?_
  refine lv_iconst (v := nI 2) hx hb dL_law_798 (by decide) ?_
  refine kt_iadd hx hb dL_law_799 ?_
  refine va_sld hx hb hX hbl hbA hS (vp_in_nI (by omega) (by decide)) dL_law_800 ?_
  refine lv_topi (fun z4 ez4 => ?_)
  have ez4 : z4 = xs 2 := (ez4.trans (congrArg xs (nI_clamp (by decide)))).trans rfl
  rw [ez4]
  refine kt_newI (wC := wR (nI 0) z0 mo eo e2 gr av ro co kl dd cI cII) (wR9 := ([] : va_W)) (wN := fun (u : List Value) => wU mo (nI 1) u) (va_runV (As := [.int (xs 1), .int (xs 2)]) (rest := []) ⟨hx, hb, hml, hown, hts⟩ (t_ofSpot l dC dI cI cII cJ cJJ cZ cO mo eo e2 gr av ro co kl dd (xs 1) (xs 2) _ ) (cwV 2 hts gL_law_X5_ofSpot rfl rfl rfl (by decide +kernel) ⟨Nat.le_of_ble_eq_true rfl, Nat.le_of_ble_eq_true rfl⟩) (kt_preV (q0 := 0) (ci := kX5) hK hP hD (List.range' 0 14) rfl rfl rfl rfl rfl) rfl rfl hl.1 rfl (lv_room (Nat.le_of_ble_eq_true rfl)) dL_law_801 ⟨Nat.le_of_ble_eq_true rfl, Nat.le_of_ble_eq_true rfl⟩) hP hD hS hA (List.range' 0 14) [] rfl rfl rfl (by decide) (fun u9 H locs hP hD hS => ?_)
  have hP : va_P (dC, dI) vwCl (wU mo (nI 1) u9) H := hP
  have hD : va_D (lwA s) (wU mo (nI 1) u9) := hD
  refine W.widen (k := 101) (n := 1006) (by omega) (by omega) ?_
  refine lv_istore (lv' := [(6, .int (nI 0)), (5, .int (nI 1)), (0, .ref b), (1, .ref tp), (2, .ref mo), (3, .ref out), (4, .int (nI 0))]) hx hb dL_law_804 hl (by decide) rfl (fun ls hl => ?_)
  refine lv_aload_n hx hb dL_law_806 rfl (lv_at hl 4 rfl) ?_
  refine kt_calliM (w' := wU mo (nI 1) u9) (rest := []) (As := []) ⟨hx, hb, hml, hown, hts⟩ (c_X5_thrown l dC dI cI cII cJ cJJ cZ cO mo (nI 1) u9 _) (cwV 0 hts gL_law_X5_thrown rfl rfl rfl (by decide +kernel) ⟨Nat.le_of_ble_eq_true rfl, Nat.le_of_ble_eq_true rfl⟩) hK hP hD hS hA [0] ⟨rfl, ⟨[some 0], rfl, by decide +kernel⟩, rfl⟩ rfl 0 kX5 rfl rfl rfl rfl rfl hl.1 (Nat.le_of_ble_eq_true rfl) dL_law_807 ⟨Nat.le_of_ble_eq_true rfl, Nat.le_of_ble_eq_true rfl⟩ (fun H locs hP hD hS => ?_)
  have hP : va_P (dC, dI) vwCl (wU mo (nI 1) u9) H := hP
  have hD : va_D (lwA s) (wU mo (nI 1) u9) := hD
  refine W.widen (k := 101) (n := 1006) (by omega) (by omega) ?_
  refine lv_iload hx hb dL_law_810 (lv_at hl 1 rfl) ?_
  refine lv_icmp_eq (tgt := 817) hx hb dL_law_812 (by decide) (fun c5 => ?_) (fun c5 => ?_)
  · skip
    refine lv_iload hx hb dL_law_817 (lv_at hl 1 rfl) ?_
    refine lv_if_ne (tgt := 834) hx hb dL_law_819 (by decide) (fun c6 => ?_) (fun c6 => ?_)
    · skip
      refine lv_goto (tgt := 1493) hx hb dL_law_834 (by decide) ?_
      exact law_end C0 hS (lv_sub hl [2, 6] rfl) (by omega) (by omega)
    · first | exact absurd c6 (by decide) | exact (c6 (by decide)).elim
  · first | exact absurd c5 (by decide) | exact (c5 (by decide)).elim

set_option maxHeartbeats 4000000 in
set_option maxRecDepth 100000 in
/-- case 12 of the law: between -/
theorem law_between {p : Program} {l : Launch} {e : Env} {s : State} {m : MethodId} {below : List Frame} {meth : Method} {c : Code} {b : Nat} {xs : Nat → Int32} (hlt : l.stackTraces = false) (C0 : lw_At p s m meth c b 4 xs) {dC : Nat → ClassId} {dI : Nat → Nat → Nat} {cI cII cJ cJJ cZ cO : ClassId} {tp : Nat} {f : Nat → Nat} {er tr kr : Nat → Nat} {mo eo : Nat} {e2 : Nat → Nat} {gr av ro co kl dd out : Nat} (hK : va_K (dC, dI) vwCl (tyR cI cII cJ cJJ cZ cO) s) (hE : EnvX (lwA s) s s.heap) (hER : EnvR dd (lwA s) s s.heap) (hnc : va_Nc exA exI s) {H : Heap} {locs : List Loc} {ls : Array Slot} (hP : va_P (dC, dI) vwCl (wR (nI 0) z0 mo eo e2 gr av ro co kl dd cI cII ++ (wF tp f er tr kr cI cII cJ cJJ ++ wO cJ out oZ)) H) (hD : va_D (lwA s) (wR (nI 0) z0 mo eo e2 gr av ro co kl dd cI cII ++ (wF tp f er tr kr cI cII cJ cJJ ++ wO cJ out oZ))) (hS : va_S (lwA s) s.heap H locs) (hl : lv_has ls 9 [(0, .ref b), (1, .ref tp), (2, .ref mo), (3, .ref out), (4, .int (nI 0))]) : W p l e room_1 s m #[Value.ref b] below meth c H locs 100 1000 (lw_Z below #[Value.ref b] s) (F0 m 837 ls []) := by
  obtain ⟨hx, hb, hr, hml, hown, hts0, hX, hbl, hlocks, hgv⟩ := id C0
  have hA : ∀ q : Nat, s.heap.size ≤ q → (lwA s) q := fun _ h => h
  have hbA : ¬ (lwA s) b := Nat.not_le.mpr hbl
  have hts : ∀ w ∈ wsL_law, w.before #[Value.ref b] s = true := fun w h => hts0 w (wsL_law_in w h)
  have hKc : va_K (dC, dI) vwCl (tyL cI cII cJ cJJ) s := hK.sub [0, 1, 2, 3] rfl
  by_cases h1 : xs 1 = nI 6
  · skip
    by_cases h2 : xs 2 = nI 6
    · skip
      refine lv_aload_n hx hb dL_law_837 rfl (lv_at hl 1 rfl) ?_
      refine lv_aload_n hx hb dL_law_838 rfl (lv_at hl 0 rfl) ?_
      refine lv_iload hx hb dL_law_839 (lv_at hl 4 rfl) ?_
      refine lv_iconst (v := nI 1) hx hb dL_law_841 (by decide) ?_
      refine kt_iadd hx hb dL_law_842 ?_
      refine va_sld hx hb hX hbl hbA hS (vp_in_nI (by omega) (by decide)) dL_law_843 ?_
      refine lv_topi (fun z1 ez1 => ?_)
      have ez1 : z1 = nI 6 := (ez1.trans (congrArg xs (nI_clamp (by decide)))).trans h1
      rw [ez1]
      refine lv_aload_n hx hb dL_law_844 rfl (lv_at hl 0 rfl) ?_
      refine lv_iload hx hb dL_law_845 (lv_at hl 4 rfl) ?_
      refine lv_iconst (v := nI 2) hx hb dL_law_847 (by decide) ?_
      refine kt_iadd hx hb dL_law_848 ?_
      refine va_sld hx hb hX hbl hbA hS (vp_in_nI (by omega) (by decide)) dL_law_849 ?_
      refine lv_topi (fun z2 ez2 => ?_)
      have ez2 : z2 = nI 6 := (ez2.trans (congrArg xs (nI_clamp (by decide)))).trans h2
      rw [ez2]
      refine lv_aload_n hx hb dL_law_850 rfl (lv_at hl 3 rfl) ?_
      have hF9 := va_free (wc := wF tp f er tr kr cI cII cJ cJJ ++ wO cJ out oZ) hD hS hA (List.range' 14 46) rfl
      refine kt_newI (wC := wF tp f er tr kr cI cII cJ cJJ ++ wO cJ out oZ) (wR9 := wR (nI 0) z0 mo eo e2 gr av ro co kl dd cI cII) (wN := fun (_ : Unit) => wO cJ out (vp_updL oZ 0 (Int32.toInt64 ((fun _ _ => 0) 6 6)))) (tys := (tyL cI cII cJ cJJ)) (vx_runSW (As := [.ref tp, .int (nI 6), .int (nI 6), .ref out]) (rest := []) ⟨hx, hb, hml, hown, hts⟩ (h_between l hlt dC dI cI cII cJ cJJ tp f er tr kr out  _ ) (vx_cwSW 4 hts gL_law_L_between rfl rfl rfl (by decide +kernel) ⟨Nat.le_of_ble_eq_true rfl, Nat.le_of_ble_eq_true rfl⟩) (kt_preSH hKc hP hD hS hE hnc hF9 (List.range' 14 46) rfl rfl) rfl rfl hl.1 rfl (lv_room (Nat.le_of_ble_eq_true rfl)) dL_law_851 ⟨Nat.le_of_ble_eq_true rfl, Nat.le_of_ble_eq_true rfl⟩) hP hD hS hA (List.range' 14 46) (List.range' 0 14) rfl rfl rfl (by decide) (fun u H locs hP hD hS => ?_)
      have hP : va_P (dC, dI) vwCl (wR (nI 0) z0 mo eo e2 gr av ro co kl dd cI cII ++ wO cJ out (vp_updL oZ 0 (Int32.toInt64 ((fun _ _ => 0) 6 6)))) H := hP
      have hD : va_D (lwA s) (wR (nI 0) z0 mo eo e2 gr av ro co kl dd cI cII ++ wO cJ out (vp_updL oZ 0 (Int32.toInt64 ((fun _ _ => 0) 6 6)))) := hD
      refine W.widen (k := 100) (n := 1000) (by omega) (by omega) ?_
      refine lv_istore (lv' := [(5, .int (nI 0)), (0, .ref b), (1, .ref tp), (2, .ref mo), (3, .ref out), (4, .int (nI 0))]) hx hb dL_law_854 hl (by decide) rfl (fun ls hl => ?_)
      refine lv_aload_n hx hb dL_law_856 rfl (lv_at hl 3 rfl) ?_
      refine lv_aload_n hx hb dL_law_857 rfl (lv_at hl 1 rfl) ?_
      refine lv_iload hx hb dL_law_858 (lv_at hl 5 rfl) ?_
      refine lv_iconst (v := nI 1) hx hb dL_law_860 (by decide) ?_
      refine kt_iadd hx hb dL_law_861 ?_
      refine va_sld hx hb hX hbl hbA hS (vp_in_nI (by omega) (by decide)) dL_law_862 ?_
      refine lv_topi (fun z3 ez3 => ?_)
      have ez3 : z3 = nI 6 := (ez3.trans (congrArg xs (nI_clamp (by decide)))).trans h1
      rw [ez3]
      refine lv_aload_n hx hb dL_law_863 rfl (lv_at hl 1 rfl) ?_
      refine lv_iload hx hb dL_law_864 (lv_at hl 5 rfl) ?_
      refine lv_iconst (v := nI 2) hx hb dL_law_866 (by decide) ?_
      refine kt_iadd hx hb dL_law_867 ?_
      refine va_sld hx hb hX hbl hbA hS (vp_in_nI (by omega) (by decide)) dL_law_868 ?_
      refine lv_topi (fun z4 ez4 => ?_)
      have ez4 : z4 = nI 6 := (ez4.trans (congrArg xs (nI_clamp (by decide)))).trans h2
      rw [ez4]
      refine kt_newI (wC := wR (nI 0) z0 mo eo e2 gr av ro co kl dd cI cII) (wR9 := wO cJ out (vp_updL oZ 0 (Int32.toInt64 ((fun _ _ => 0) 6 6)))) (wN := fun (u : List Value) => wU mo (nI 0) u) (va_runV (As := [.int (nI 6), .int (nI 6)]) (rest := []) ⟨hx, hb, hml, hown, hts⟩ (t_between l dC dI cI cII cJ cJJ cZ cO mo eo e2 gr av ro co kl dd _ ) (cwV 2 hts gL_law_X5_between rfl rfl rfl (by decide +kernel) ⟨Nat.le_of_ble_eq_true rfl, Nat.le_of_ble_eq_true rfl⟩) (kt_preV (q0 := 0) (ci := kX5) hK hP hD (List.range' 0 14) rfl rfl rfl rfl rfl) rfl rfl hl.1 rfl (lv_room (Nat.le_of_ble_eq_true rfl)) dL_law_869 ⟨Nat.le_of_ble_eq_true rfl, Nat.le_of_ble_eq_true rfl⟩) hP hD hS hA (List.range' 0 14) [14] rfl rfl rfl (by decide) (fun u9 H locs hP hD hS => ?_)
      have hP : va_P (dC, dI) vwCl (wO cJ out (vp_updL oZ 0 (Int32.toInt64 ((fun _ _ => 0) 6 6))) ++ wU mo (nI 0) u9) H := hP
      have hD : va_D (lwA s) (wO cJ out (vp_updL oZ 0 (Int32.toInt64 ((fun _ _ => 0) 6 6))) ++ wU mo (nI 0) u9) := hD
      refine W.widen (k := 100) (n := 1000) (by omega) (by omega) ?_
      refine lv_istore (lv' := [(6, .int (nI 0)), (5, .int (nI 0)), (0, .ref b), (1, .ref tp), (2, .ref mo), (3, .ref out), (4, .int (nI 0))]) hx hb dL_law_872 hl (by decide) rfl (fun ls hl => ?_)
      refine lv_aload_n hx hb dL_law_874 rfl (lv_at hl 4 rfl) ?_
      refine kt_calliM (w' := wO cJ out (vp_updL oZ 0 (Int32.toInt64 ((fun _ _ => 0) 6 6))) ++ wU mo (nI 0) u9) (rest := []) (As := []) ⟨hx, hb, hml, hown, hts⟩ (c_X5_thrown l dC dI cI cII cJ cJJ cZ cO mo (nI 0) u9 _) (cwV 0 hts gL_law_X5_thrown rfl rfl rfl (by decide +kernel) ⟨Nat.le_of_ble_eq_true rfl, Nat.le_of_ble_eq_true rfl⟩) hK hP hD hS hA [1] ⟨rfl, ⟨[none, some 0], rfl, by decide +kernel⟩, rfl⟩ rfl 1 kX5 rfl rfl rfl rfl rfl hl.1 (Nat.le_of_ble_eq_true rfl) dL_law_875 ⟨Nat.le_of_ble_eq_true rfl, Nat.le_of_ble_eq_true rfl⟩ (fun H locs hP hD hS => ?_)
      have hP : va_P (dC, dI) vwCl (wO cJ out (vp_updL oZ 0 (Int32.toInt64 ((fun _ _ => 0) 6 6))) ++ wU mo (nI 0) u9) H := hP
      have hD : va_D (lwA s) (wO cJ out (vp_updL oZ 0 (Int32.toInt64 ((fun _ _ => 0) 6 6))) ++ wU mo (nI 0) u9) := hD
      refine W.widen (k := 100) (n := 1000) (by omega) (by omega) ?_
      refine lv_iload hx hb dL_law_878 (lv_at hl 1 rfl) ?_
      refine lv_icmp_eq (tgt := 885) hx hb dL_law_880 (by decide) (fun c5 => ?_) (fun c5 => ?_)
      · skip
        refine lv_iload hx hb dL_law_885 (lv_at hl 1 rfl) ?_
        refine lv_if_ne (tgt := 902) hx hb dL_law_887 (by decide) (fun c6 => ?_) (fun c6 => ?_)
        · first | exact absurd c6 (by decide) | exact (c6 (by decide)).elim
        · skip
          refine lv_aload_n hx hb dL_law_890 rfl (lv_at hl 5 rfl) ?_
          refine lv_iconst (v := nI 0) hx hb dL_law_891 (by decide) ?_
          refine kt_lald hx hb hK hP 0 2 rfl rfl (by omega) (by decide) dL_law_892 ?_
          refine lv_iload hx hb dL_law_893 (lv_at hl 0 rfl) ?_
          refine lv_i2l (v := Int32.toInt64 (nI 0)) hx hb dL_law_895 rfl ?_
          refine W.lcmp hx hb dL_law_896 ?_
          refine lv_if_eq (tgt := 902) hx hb dL_law_897 (by decide) (fun c7 => ?_) (fun c7 => ?_)
          · skip
            refine lv_goto (tgt := 1493) hx hb dL_law_902 (by decide) ?_
            exact law_end C0 hS (lv_sub hl [2, 6] rfl) (by omega) (by omega)
          · exact absurd ((lg_cmp_eq _ _).mpr (by first | (rw [kt_vpL]; done) | (rw [kt_vpL]; rfl))) c7
      · first | exact absurd c5 (by decide) | exact (c5 (by decide)).elim
    · skip
      refine lv_aload_n hx hb dL_law_837 rfl (lv_at hl 1 rfl) ?_
      refine lv_aload_n hx hb dL_law_838 rfl (lv_at hl 0 rfl) ?_
      refine lv_iload hx hb dL_law_839 (lv_at hl 4 rfl) ?_
      refine lv_iconst (v := nI 1) hx hb dL_law_841 (by decide) ?_
      refine kt_iadd hx hb dL_law_842 ?_
      refine va_sld hx hb hX hbl hbA hS (vp_in_nI (by omega) (by decide)) dL_law_843 ?_
      refine lv_topi (fun z8 ez8 => ?_)
      have ez8 : z8 = nI 6 := (ez8.trans (congrArg xs (nI_clamp (by decide)))).trans h1
      rw [ez8]
      refine lv_aload_n hx hb dL_law_844 rfl (lv_at hl 0 rfl) ?_
      refine lv_iload hx hb dL_law_845 (lv_at hl 4 rfl) ?_
      refine lv_iconst (v := nI 2) hx hb dL_law_847 (by decide) ?_
      refine kt_iadd hx hb dL_law_848 ?_
      refine va_sld hx hb hX hbl hbA hS (vp_in_nI (by omega) (by decide)) dL_law_849 ?_
      refine lv_topi (fun z9 ez9 => ?_)
      have ez9 : z9 = xs 2 := (ez9.trans (congrArg xs (nI_clamp (by decide)))).trans rfl
      rw [ez9]
      refine lv_aload_n hx hb dL_law_850 rfl (lv_at hl 3 rfl) ?_
      have hF9 := va_free (wc := wF tp f er tr kr cI cII cJ cJJ ++ wO cJ out oZ) hD hS hA (List.range' 14 46) rfl
      refine kt_newI (wC := wF tp f er tr kr cI cII cJ cJJ ++ wO cJ out oZ) (wR9 := wR (nI 0) z0 mo eo e2 gr av ro co kl dd cI cII) (wN := fun (_ : Unit) => ([] : va_W)) (tys := (tyL cI cII cJ cJJ)) (vx_runSW (As := [.ref tp, .int (nI 6), .int (xs 2), .ref out]) (rest := []) ⟨hx, hb, hml, hown, hts⟩ (h_between_b l hlt dC dI cI cII cJ cJJ tp f er tr kr out (xs 2) _ (h2)) (vx_cwSW 4 hts gL_law_L_between rfl rfl rfl (by decide +kernel) ⟨Nat.le_of_ble_eq_true rfl, Nat.le_of_ble_eq_true rfl⟩) (kt_preSH hKc hP hD hS hE hnc hF9 (List.range' 14 46) rfl rfl) rfl rfl hl.1 rfl (lv_room (Nat.le_of_ble_eq_true rfl)) dL_law_851 ⟨Nat.le_of_ble_eq_true rfl, Nat.le_of_ble_eq_true rfl⟩) hP hD hS hA (List.range' 14 46) (List.range' 0 14) rfl rfl rfl (by decide) (fun u H locs hP hD hS => ?_)
      have hP := kt_sub (wC := wR (nI 0) z0 mo eo e2 gr av ro co kl dd cI cII) hP (List.range' 0 14) rfl
      have hD := hD.sub (ws' := wR (nI 0) z0 mo eo e2 gr av ro co kl dd cI cII) (List.range' 0 14) rfl rfl
      refine W.widen (k := 101) (n := 1006) (by omega) (by omega) ?_
      refine lv_istore (lv' := [(5, .int (nI 1)), (0, .ref b), (1, .ref tp), (2, .ref mo), (3, .ref out), (4, .int (nI 0))]) hx hb dL_law_854 hl (by decide) rfl (fun ls hl => ?_)
      refine lv_aload_n hx hb dL_law_856 rfl (lv_at hl 3 rfl) ?_
      refine lv_aload_n hx hb dL_law_857 rfl (lv_at hl 1 rfl) ?_
      refine lv_iload hx hb dL_law_858 (lv_at hl 5 rfl) ?_
      refine lv_iconst (v := nI 1) hx hb dL_law_860 (by decide) ?_
      refine kt_iadd hx hb dL_law_861 ?_
      refine va_sld hx hb hX hbl hbA hS (vp_in_nI (by omega) (by decide)) dL_law_862 ?_
      refine lv_topi (fun z10 ez10 => ?_)
      have ez10 : z10 = nI 6 := (ez10.trans (congrArg xs (nI_clamp (by decide)))).trans h1
      rw [ez10]
      refine lv_aload_n hx hb dL_law_863 rfl (lv_at hl 1 rfl) ?_
      refine lv_iload hx hb dL_law_864 (lv_at hl 5 rfl) ?_
      refine lv_iconst (v := nI 2) hx hb dL_law_866 (by decide) ?_
      refine kt_iadd hx hb dL_law_867 ?_
      refine va_sld hx hb hX hbl hbA hS (vp_in_nI (by omega) (by decide)) dL_law_868 ?_
      refine lv_topi (fun z11 ez11 => ?_)
      have ez11 : z11 = xs 2 := (ez11.trans (congrArg xs (nI_clamp (by decide)))).trans rfl
      rw [ez11]
      refine kt_newI (wC := wR (nI 0) z0 mo eo e2 gr av ro co kl dd cI cII) (wR9 := ([] : va_W)) (wN := fun (u : List Value) => wU mo (nI 1) u) (va_runV (As := [.int (nI 6), .int (xs 2)]) (rest := []) ⟨hx, hb, hml, hown, hts⟩ (t_between_b l dC dI cI cII cJ cJJ cZ cO mo eo e2 gr av ro co kl dd (xs 2) _ (h2)) (cwV 2 hts gL_law_X5_between rfl rfl rfl (by decide +kernel) ⟨Nat.le_of_ble_eq_true rfl, Nat.le_of_ble_eq_true rfl⟩) (kt_preV (q0 := 0) (ci := kX5) hK hP hD (List.range' 0 14) rfl rfl rfl rfl rfl) rfl rfl hl.1 rfl (lv_room (Nat.le_of_ble_eq_true rfl)) dL_law_869 ⟨Nat.le_of_ble_eq_true rfl, Nat.le_of_ble_eq_true rfl⟩) hP hD hS hA (List.range' 0 14) [] rfl rfl rfl (by decide) (fun u9 H locs hP hD hS => ?_)
      have hP : va_P (dC, dI) vwCl (wU mo (nI 1) u9) H := hP
      have hD : va_D (lwA s) (wU mo (nI 1) u9) := hD
      refine W.widen (k := 101) (n := 1006) (by omega) (by omega) ?_
      refine lv_istore (lv' := [(6, .int (nI 0)), (5, .int (nI 1)), (0, .ref b), (1, .ref tp), (2, .ref mo), (3, .ref out), (4, .int (nI 0))]) hx hb dL_law_872 hl (by decide) rfl (fun ls hl => ?_)
      refine lv_aload_n hx hb dL_law_874 rfl (lv_at hl 4 rfl) ?_
      refine kt_calliM (w' := wU mo (nI 1) u9) (rest := []) (As := []) ⟨hx, hb, hml, hown, hts⟩ (c_X5_thrown l dC dI cI cII cJ cJJ cZ cO mo (nI 1) u9 _) (cwV 0 hts gL_law_X5_thrown rfl rfl rfl (by decide +kernel) ⟨Nat.le_of_ble_eq_true rfl, Nat.le_of_ble_eq_true rfl⟩) hK hP hD hS hA [0] ⟨rfl, ⟨[some 0], rfl, by decide +kernel⟩, rfl⟩ rfl 0 kX5 rfl rfl rfl rfl rfl hl.1 (Nat.le_of_ble_eq_true rfl) dL_law_875 ⟨Nat.le_of_ble_eq_true rfl, Nat.le_of_ble_eq_true rfl⟩ (fun H locs hP hD hS => ?_)
      have hP : va_P (dC, dI) vwCl (wU mo (nI 1) u9) H := hP
      have hD : va_D (lwA s) (wU mo (nI 1) u9) := hD
      refine W.widen (k := 101) (n := 1006) (by omega) (by omega) ?_
      refine lv_iload hx hb dL_law_878 (lv_at hl 1 rfl) ?_
      refine lv_icmp_eq (tgt := 885) hx hb dL_law_880 (by decide) (fun c12 => ?_) (fun c12 => ?_)
      · skip
        refine lv_iload hx hb dL_law_885 (lv_at hl 1 rfl) ?_
        refine lv_if_ne (tgt := 902) hx hb dL_law_887 (by decide) (fun c13 => ?_) (fun c13 => ?_)
        · skip
          refine lv_goto (tgt := 1493) hx hb dL_law_902 (by decide) ?_
          exact law_end C0 hS (lv_sub hl [2, 6] rfl) (by omega) (by omega)
        · first | exact absurd c13 (by decide) | exact (c13 (by decide)).elim
      · first | exact absurd c12 (by decide) | exact (c12 (by decide)).elim
  · skip
    refine lv_aload_n hx hb dL_law_837 rfl (lv_at hl 1 rfl) ?_
    refine lv_aload_n hx hb dL_law_838 rfl (lv_at hl 0 rfl) ?_
    refine lv_iload hx hb dL_law_839 (lv_at hl 4 rfl) ?_
    refine lv_iconst (v := nI 1) hx hb dL_law_841 (by decide) ?_
    refine kt_iadd hx hb dL_law_842 ?_
    refine va_sld hx hb hX hbl hbA hS (vp_in_nI (by omega) (by decide)) dL_law_843 ?_
    refine lv_topi (fun z14 ez14 => ?_)
    have ez14 : z14 = xs 1 := (ez14.trans (congrArg xs (nI_clamp (by decide)))).trans rfl
    rw [ez14]
    refine lv_aload_n hx hb dL_law_844 rfl (lv_at hl 0 rfl) ?_
    refine lv_iload hx hb dL_law_845 (lv_at hl 4 rfl) ?_
    refine lv_iconst (v := nI 2) hx hb dL_law_847 (by decide) ?_
    refine kt_iadd hx hb dL_law_848 ?_
    refine va_sld hx hb hX hbl hbA hS (vp_in_nI (by omega) (by decide)) dL_law_849 ?_
    refine lv_topi (fun z15 ez15 => ?_)
    have ez15 : z15 = xs 2 := (ez15.trans (congrArg xs (nI_clamp (by decide)))).trans rfl
    rw [ez15]
    refine lv_aload_n hx hb dL_law_850 rfl (lv_at hl 3 rfl) ?_
    have hF9 := va_free (wc := wF tp f er tr kr cI cII cJ cJJ ++ wO cJ out oZ) hD hS hA (List.range' 14 46) rfl
    refine kt_newI (wC := wF tp f er tr kr cI cII cJ cJJ ++ wO cJ out oZ) (wR9 := wR (nI 0) z0 mo eo e2 gr av ro co kl dd cI cII) (wN := fun (_ : Unit) => ([] : va_W)) (tys := (tyL cI cII cJ cJJ)) (vx_runSW (As := [.ref tp, .int (xs 1), .int (xs 2), .ref out]) (rest := []) ⟨hx, hb, hml, hown, hts⟩ (h_between_a l hlt dC dI cI cII cJ cJJ tp f er tr kr out (xs 1) (xs 2) _ (h1)) (vx_cwSW 4 hts gL_law_L_between rfl rfl rfl (by decide +kernel) ⟨Nat.le_of_ble_eq_true rfl, Nat.le_of_ble_eq_true rfl⟩) (kt_preSH hKc hP hD hS hE hnc hF9 (List.range' 14 46) rfl rfl) rfl rfl hl.1 rfl (lv_room (Nat.le_of_ble_eq_true rfl)) dL_law_851 ⟨Nat.le_of_ble_eq_true rfl, Nat.le_of_ble_eq_true rfl⟩) hP hD hS hA (List.range' 14 46) (List.range' 0 14) rfl rfl rfl (by decide) (fun u H locs hP hD hS => ?_)
    have hP := kt_sub (wC := wR (nI 0) z0 mo eo e2 gr av ro co kl dd cI cII) hP (List.range' 0 14) rfl
    have hD := hD.sub (ws' := wR (nI 0) z0 mo eo e2 gr av ro co kl dd cI cII) (List.range' 0 14) rfl rfl
    refine W.widen (k := 101) (n := 1006) (by omega) (by omega) ?_
    refine lv_istore (lv' := [(5, .int (nI 1)), (0, .ref b), (1, .ref tp), (2, .ref mo), (3, .ref out), (4, .int (nI 0))]) hx hb dL_law_854 hl (by decide) rfl (fun ls hl => ?_)
    refine lv_aload_n hx hb dL_law_856 rfl (lv_at hl 3 rfl) ?_
    refine lv_aload_n hx hb dL_law_857 rfl (lv_at hl 1 rfl) ?_
    refine lv_iload hx hb dL_law_858 (lv_at hl 5 rfl) ?_
    refine lv_iconst (v := nI 1) hx hb dL_law_860 (by decide) ?_
    refine kt_iadd hx hb dL_law_861 ?_
    refine va_sld hx hb hX hbl hbA hS (vp_in_nI (by omega) (by decide)) dL_law_862 ?_
    refine lv_topi (fun z16 ez16 => ?_)
    have ez16 : z16 = xs 1 := (ez16.trans (congrArg xs (nI_clamp (by decide)))).trans rfl
    rw [ez16]
    refine lv_aload_n hx hb dL_law_863 rfl (lv_at hl 1 rfl) ?_
    refine lv_iload hx hb dL_law_864 (lv_at hl 5 rfl) ?_
    refine lv_iconst (v := nI 2) hx hb dL_law_866 (by decide) ?_
    refine kt_iadd hx hb dL_law_867 ?_
    refine va_sld hx hb hX hbl hbA hS (vp_in_nI (by omega) (by decide)) dL_law_868 ?_
    refine lv_topi (fun z17 ez17 => ?_)
    have ez17 : z17 = xs 2 := (ez17.trans (congrArg xs (nI_clamp (by decide)))).trans rfl
    rw [ez17]
    refine kt_newI (wC := wR (nI 0) z0 mo eo e2 gr av ro co kl dd cI cII) (wR9 := ([] : va_W)) (wN := fun (u : List Value) => wU mo (nI 1) u) (va_runV (As := [.int (xs 1), .int (xs 2)]) (rest := []) ⟨hx, hb, hml, hown, hts⟩ (t_between_a l dC dI cI cII cJ cJJ cZ cO mo eo e2 gr av ro co kl dd (xs 1) (xs 2) _ (h1)) (cwV 2 hts gL_law_X5_between rfl rfl rfl (by decide +kernel) ⟨Nat.le_of_ble_eq_true rfl, Nat.le_of_ble_eq_true rfl⟩) (kt_preV (q0 := 0) (ci := kX5) hK hP hD (List.range' 0 14) rfl rfl rfl rfl rfl) rfl rfl hl.1 rfl (lv_room (Nat.le_of_ble_eq_true rfl)) dL_law_869 ⟨Nat.le_of_ble_eq_true rfl, Nat.le_of_ble_eq_true rfl⟩) hP hD hS hA (List.range' 0 14) [] rfl rfl rfl (by decide) (fun u9 H locs hP hD hS => ?_)
    have hP : va_P (dC, dI) vwCl (wU mo (nI 1) u9) H := hP
    have hD : va_D (lwA s) (wU mo (nI 1) u9) := hD
    refine W.widen (k := 101) (n := 1006) (by omega) (by omega) ?_
    refine lv_istore (lv' := [(6, .int (nI 0)), (5, .int (nI 1)), (0, .ref b), (1, .ref tp), (2, .ref mo), (3, .ref out), (4, .int (nI 0))]) hx hb dL_law_872 hl (by decide) rfl (fun ls hl => ?_)
    refine lv_aload_n hx hb dL_law_874 rfl (lv_at hl 4 rfl) ?_
    refine kt_calliM (w' := wU mo (nI 1) u9) (rest := []) (As := []) ⟨hx, hb, hml, hown, hts⟩ (c_X5_thrown l dC dI cI cII cJ cJJ cZ cO mo (nI 1) u9 _) (cwV 0 hts gL_law_X5_thrown rfl rfl rfl (by decide +kernel) ⟨Nat.le_of_ble_eq_true rfl, Nat.le_of_ble_eq_true rfl⟩) hK hP hD hS hA [0] ⟨rfl, ⟨[some 0], rfl, by decide +kernel⟩, rfl⟩ rfl 0 kX5 rfl rfl rfl rfl rfl hl.1 (Nat.le_of_ble_eq_true rfl) dL_law_875 ⟨Nat.le_of_ble_eq_true rfl, Nat.le_of_ble_eq_true rfl⟩ (fun H locs hP hD hS => ?_)
    have hP : va_P (dC, dI) vwCl (wU mo (nI 1) u9) H := hP
    have hD : va_D (lwA s) (wU mo (nI 1) u9) := hD
    refine W.widen (k := 101) (n := 1006) (by omega) (by omega) ?_
    refine lv_iload hx hb dL_law_878 (lv_at hl 1 rfl) ?_
    refine lv_icmp_eq (tgt := 885) hx hb dL_law_880 (by decide) (fun c18 => ?_) (fun c18 => ?_)
    · skip
      refine lv_iload hx hb dL_law_885 (lv_at hl 1 rfl) ?_
      refine lv_if_ne (tgt := 902) hx hb dL_law_887 (by decide) (fun c19 => ?_) (fun c19 => ?_)
      · skip
        refine lv_goto (tgt := 1493) hx hb dL_law_902 (by decide) ?_
        exact law_end C0 hS (lv_sub hl [2, 6] rfl) (by omega) (by omega)
      · first | exact absurd c19 (by decide) | exact (c19 (by decide)).elim
    · first | exact absurd c18 (by decide) | exact (c18 (by decide)).elim

set_option maxHeartbeats 4000000 in
set_option maxRecDepth 100000 in
/-- case 13 of the law: coins -/
theorem law_coins {p : Program} {l : Launch} {e : Env} {s : State} {m : MethodId} {below : List Frame} {meth : Method} {c : Code} {b : Nat} {xs : Nat → Int32} (hlt : l.stackTraces = false) (C0 : lw_At p s m meth c b 4 xs) {dC : Nat → ClassId} {dI : Nat → Nat → Nat} {cI cII cJ cJJ cZ cO : ClassId} {tp : Nat} {f : Nat → Nat} {er tr kr : Nat → Nat} {mo eo : Nat} {e2 : Nat → Nat} {gr av ro co kl dd out : Nat} (hK : va_K (dC, dI) vwCl (tyR cI cII cJ cJJ cZ cO) s) (hE : EnvX (lwA s) s s.heap) (hER : EnvR dd (lwA s) s s.heap) (hnc : va_Nc exA exI s) {H : Heap} {locs : List Loc} {ls : Array Slot} (hP : va_P (dC, dI) vwCl (wR (nI 0) z0 mo eo e2 gr av ro co kl dd cI cII ++ (wF tp f er tr kr cI cII cJ cJJ ++ wO cJ out oZ)) H) (hD : va_D (lwA s) (wR (nI 0) z0 mo eo e2 gr av ro co kl dd cI cII ++ (wF tp f er tr kr cI cII cJ cJJ ++ wO cJ out oZ))) (hS : va_S (lwA s) s.heap H locs) (hl : lv_has ls 9 [(0, .ref b), (1, .ref tp), (2, .ref mo), (3, .ref out), (4, .int (nI 0))]) : W p l e room_1 s m #[Value.ref b] below meth c H locs 100 1000 (lw_Z below #[Value.ref b] s) (F0 m 905 ls []) := by
  obtain ⟨hx, hb, hr, hml, hown, hts0, hX, hbl, hlocks, hgv⟩ := id C0
  have hA : ∀ q : Nat, s.heap.size ≤ q → (lwA s) q := fun _ h => h
  have hbA : ¬ (lwA s) b := Nat.not_le.mpr hbl
  have hts : ∀ w ∈ wsL_law, w.before #[Value.ref b] s = true := fun w h => hts0 w (wsL_law_in w h)
  have hKc : va_K (dC, dI) vwCl (tyL cI cII cJ cJJ) s := hK.sub [0, 1, 2, 3] rfl
  by_cases h1 : xs 1 = nI 6
  · skip
    refine lv_aload_n hx hb dL_law_905 rfl (lv_at hl 1 rfl) ?_
    refine lv_aload_n hx hb dL_law_906 rfl (lv_at hl 0 rfl) ?_
    refine lv_iload hx hb dL_law_907 (lv_at hl 4 rfl) ?_
    refine lv_iconst (v := nI 1) hx hb dL_law_909 (by decide) ?_
    refine kt_iadd hx hb dL_law_910 ?_
    refine va_sld hx hb hX hbl hbA hS (vp_in_nI (by omega) (by decide)) dL_law_911 ?_
    refine lv_topi (fun z1 ez1 => ?_)
    have ez1 : z1 = nI 6 := (ez1.trans (congrArg xs (nI_clamp (by decide)))).trans h1
    rw [ez1]
    refine lv_aload_n hx hb dL_law_912 rfl (lv_at hl 3 rfl) ?_
    have hF9 := va_free (wc := wF tp f er tr kr cI cII cJ cJJ ++ wO cJ out oZ) hD hS hA (List.range' 14 46) rfl
    refine kt_newI (wC := wF tp f er tr kr cI cII cJ cJJ ++ wO cJ out oZ) (wR9 := wR (nI 0) z0 mo eo e2 gr av ro co kl dd cI cII) (wN := fun (_ : Unit) => wO cJ out (vp_updL oZ 0 (Int32.toInt64 ((fun _ => 0) 6)))) (tys := (tyL cI cII cJ cJJ)) (vx_runSW (As := [.ref tp, .int (nI 6), .ref out]) (rest := []) ⟨hx, hb, hml, hown, hts⟩ (h_coins l hlt dC dI cI cII cJ cJJ tp f er tr kr out  _ ) (vx_cwSW 3 hts gL_law_L_coins rfl rfl rfl (by decide +kernel) ⟨Nat.le_of_ble_eq_true rfl, Nat.le_of_ble_eq_true rfl⟩) (kt_preSH hKc hP hD hS hE hnc hF9 (List.range' 14 46) rfl rfl) rfl rfl hl.1 rfl (lv_room (Nat.le_of_ble_eq_true rfl)) dL_law_913 ⟨Nat.le_of_ble_eq_true rfl, Nat.le_of_ble_eq_true rfl⟩) hP hD hS hA (List.range' 14 46) (List.range' 0 14) rfl rfl rfl (by decide) (fun u H locs hP hD hS => ?_)
    have hP : va_P (dC, dI) vwCl (wR (nI 0) z0 mo eo e2 gr av ro co kl dd cI cII ++ wO cJ out (vp_updL oZ 0 (Int32.toInt64 ((fun _ => 0) 6)))) H := hP
    have hD : va_D (lwA s) (wR (nI 0) z0 mo eo e2 gr av ro co kl dd cI cII ++ wO cJ out (vp_updL oZ 0 (Int32.toInt64 ((fun _ => 0) 6)))) := hD
    refine W.widen (k := 100) (n := 1000) (by omega) (by omega) ?_
    refine lv_istore (lv' := [(5, .int (nI 0)), (0, .ref b), (1, .ref tp), (2, .ref mo), (3, .ref out), (4, .int (nI 0))]) hx hb dL_law_916 hl (by decide) rfl (fun ls hl => ?_)
    refine lv_aload_n hx hb dL_law_918 rfl (lv_at hl 3 rfl) ?_
    refine lv_aload_n hx hb dL_law_919 rfl (lv_at hl 1 rfl) ?_
    refine lv_iload hx hb dL_law_920 (lv_at hl 5 rfl) ?_
    refine lv_iconst (v := nI 1) hx hb dL_law_922 (by decide) ?_
    refine kt_iadd hx hb dL_law_923 ?_
    refine va_sld hx hb hX hbl hbA hS (vp_in_nI (by omega) (by decide)) dL_law_924 ?_
    refine lv_topi (fun z2 ez2 => ?_)
    have ez2 : z2 = nI 6 := (ez2.trans (congrArg xs (nI_clamp (by decide)))).trans h1
    rw [ez2]
    refine kt_newI (wC := wR (nI 0) z0 mo eo e2 gr av ro co kl dd cI cII) (wR9 := wO cJ out (vp_updL oZ 0 (Int32.toInt64 ((fun _ => 0) 6)))) (wN := fun (u : List Value) => wU mo (nI 0) u) (va_runV (As := [.int (nI 6)]) (rest := []) ⟨hx, hb, hml, hown, hts⟩ (t_coins l dC dI cI cII cJ cJJ cZ cO mo eo e2 gr av ro co kl dd _ ) (cwV 1 hts gL_law_X5_coins rfl rfl rfl (by decide +kernel) ⟨Nat.le_of_ble_eq_true rfl, Nat.le_of_ble_eq_true rfl⟩) (kt_preV (q0 := 0) (ci := kX5) hK hP hD (List.range' 0 14) rfl rfl rfl rfl rfl) rfl rfl hl.1 rfl (lv_room (Nat.le_of_ble_eq_true rfl)) dL_law_925 ⟨Nat.le_of_ble_eq_true rfl, Nat.le_of_ble_eq_true rfl⟩) hP hD hS hA (List.range' 0 14) [14] rfl rfl rfl (by decide) (fun u9 H locs hP hD hS => ?_)
    have hP : va_P (dC, dI) vwCl (wO cJ out (vp_updL oZ 0 (Int32.toInt64 ((fun _ => 0) 6))) ++ wU mo (nI 0) u9) H := hP
    have hD : va_D (lwA s) (wO cJ out (vp_updL oZ 0 (Int32.toInt64 ((fun _ => 0) 6))) ++ wU mo (nI 0) u9) := hD
    refine W.widen (k := 100) (n := 1000) (by omega) (by omega) ?_
    refine lv_istore (lv' := [(6, .int (nI 0)), (5, .int (nI 0)), (0, .ref b), (1, .ref tp), (2, .ref mo), (3, .ref out), (4, .int (nI 0))]) hx hb dL_law_928 hl (by decide) rfl (fun ls hl => ?_)
    refine lv_aload_n hx hb dL_law_930 rfl (lv_at hl 4 rfl) ?_
    refine kt_calliM (w' := wO cJ out (vp_updL oZ 0 (Int32.toInt64 ((fun _ => 0) 6))) ++ wU mo (nI 0) u9) (rest := []) (As := []) ⟨hx, hb, hml, hown, hts⟩ (c_X5_thrown l dC dI cI cII cJ cJJ cZ cO mo (nI 0) u9 _) (cwV 0 hts gL_law_X5_thrown rfl rfl rfl (by decide +kernel) ⟨Nat.le_of_ble_eq_true rfl, Nat.le_of_ble_eq_true rfl⟩) hK hP hD hS hA [1] ⟨rfl, ⟨[none, some 0], rfl, by decide +kernel⟩, rfl⟩ rfl 1 kX5 rfl rfl rfl rfl rfl hl.1 (Nat.le_of_ble_eq_true rfl) dL_law_931 ⟨Nat.le_of_ble_eq_true rfl, Nat.le_of_ble_eq_true rfl⟩ (fun H locs hP hD hS => ?_)
    have hP : va_P (dC, dI) vwCl (wO cJ out (vp_updL oZ 0 (Int32.toInt64 ((fun _ => 0) 6))) ++ wU mo (nI 0) u9) H := hP
    have hD : va_D (lwA s) (wO cJ out (vp_updL oZ 0 (Int32.toInt64 ((fun _ => 0) 6))) ++ wU mo (nI 0) u9) := hD
    refine W.widen (k := 100) (n := 1000) (by omega) (by omega) ?_
    refine lv_iload hx hb dL_law_934 (lv_at hl 1 rfl) ?_
    refine lv_icmp_eq (tgt := 941) hx hb dL_law_936 (by decide) (fun c3 => ?_) (fun c3 => ?_)
    · skip
      refine lv_iload hx hb dL_law_941 (lv_at hl 1 rfl) ?_
      refine lv_if_ne (tgt := 958) hx hb dL_law_943 (by decide) (fun c4 => ?_) (fun c4 => ?_)
      · first | exact absurd c4 (by decide) | exact (c4 (by decide)).elim
      · skip
        refine lv_aload_n hx hb dL_law_946 rfl (lv_at hl 5 rfl) ?_
        refine lv_iconst (v := nI 0) hx hb dL_law_947 (by decide) ?_
        refine kt_lald hx hb hK hP 0 2 rfl rfl (by omega) (by decide) dL_law_948 ?_
        refine lv_iload hx hb dL_law_949 (lv_at hl 0 rfl) ?_
        refine lv_i2l (v := Int32.toInt64 (nI 0)) hx hb dL_law_951 rfl ?_
        refine W.lcmp hx hb dL_law_952 ?_
        refine lv_if_eq (tgt := 958) hx hb dL_law_953 (by decide) (fun c5 => ?_) (fun c5 => ?_)
        · skip
          refine lv_goto (tgt := 1493) hx hb dL_law_958 (by decide) ?_
          exact law_end C0 hS (lv_sub hl [2, 6] rfl) (by omega) (by omega)
        · exact absurd ((lg_cmp_eq _ _).mpr (by first | (rw [kt_vpL]; done) | (rw [kt_vpL]; rfl))) c5
    · first | exact absurd c3 (by decide) | exact (c3 (by decide)).elim
  · skip
    refine lv_aload_n hx hb dL_law_905 rfl (lv_at hl 1 rfl) ?_
    refine lv_aload_n hx hb dL_law_906 rfl (lv_at hl 0 rfl) ?_
    refine lv_iload hx hb dL_law_907 (lv_at hl 4 rfl) ?_
    refine lv_iconst (v := nI 1) hx hb dL_law_909 (by decide) ?_
    refine kt_iadd hx hb dL_law_910 ?_
    refine va_sld hx hb hX hbl hbA hS (vp_in_nI (by omega) (by decide)) dL_law_911 ?_
    refine lv_topi (fun z6 ez6 => ?_)
    have ez6 : z6 = xs 1 := (ez6.trans (congrArg xs (nI_clamp (by decide)))).trans rfl
    rw [ez6]
    refine lv_aload_n hx hb dL_law_912 rfl (lv_at hl 3 rfl) ?_
    have hF9 := va_free (wc := wF tp f er tr kr cI cII cJ cJJ ++ wO cJ out oZ) hD hS hA (List.range' 14 46) rfl
    refine kt_newI (wC := wF tp f er tr kr cI cII cJ cJJ ++ wO cJ out oZ) (wR9 := wR (nI 0) z0 mo eo e2 gr av ro co kl dd cI cII) (wN := fun (_ : Unit) => ([] : va_W)) (tys := (tyL cI cII cJ cJJ)) (vx_runSW (As := [.ref tp, .int (xs 1), .ref out]) (rest := []) ⟨hx, hb, hml, hown, hts⟩ (h_coins_node l hlt dC dI cI cII cJ cJJ tp f er tr kr out (xs 1) _ (h1)) (vx_cwSW 3 hts gL_law_L_coins rfl rfl rfl (by decide +kernel) ⟨Nat.le_of_ble_eq_true rfl, Nat.le_of_ble_eq_true rfl⟩) (kt_preSH hKc hP hD hS hE hnc hF9 (List.range' 14 46) rfl rfl) rfl rfl hl.1 rfl (lv_room (Nat.le_of_ble_eq_true rfl)) dL_law_913 ⟨Nat.le_of_ble_eq_true rfl, Nat.le_of_ble_eq_true rfl⟩) hP hD hS hA (List.range' 14 46) (List.range' 0 14) rfl rfl rfl (by decide) (fun u H locs hP hD hS => ?_)
    have hP := kt_sub (wC := wR (nI 0) z0 mo eo e2 gr av ro co kl dd cI cII) hP (List.range' 0 14) rfl
    have hD := hD.sub (ws' := wR (nI 0) z0 mo eo e2 gr av ro co kl dd cI cII) (List.range' 0 14) rfl rfl
    refine W.widen (k := 101) (n := 1006) (by omega) (by omega) ?_
    refine lv_istore (lv' := [(5, .int (nI 1)), (0, .ref b), (1, .ref tp), (2, .ref mo), (3, .ref out), (4, .int (nI 0))]) hx hb dL_law_916 hl (by decide) rfl (fun ls hl => ?_)
    refine lv_aload_n hx hb dL_law_918 rfl (lv_at hl 3 rfl) ?_
    refine lv_aload_n hx hb dL_law_919 rfl (lv_at hl 1 rfl) ?_
    refine lv_iload hx hb dL_law_920 (lv_at hl 5 rfl) ?_
    refine lv_iconst (v := nI 1) hx hb dL_law_922 (by decide) ?_
    refine kt_iadd hx hb dL_law_923 ?_
    refine va_sld hx hb hX hbl hbA hS (vp_in_nI (by omega) (by decide)) dL_law_924 ?_
    refine lv_topi (fun z7 ez7 => ?_)
    have ez7 : z7 = xs 1 := (ez7.trans (congrArg xs (nI_clamp (by decide)))).trans rfl
    rw [ez7]
    refine kt_newI (wC := wR (nI 0) z0 mo eo e2 gr av ro co kl dd cI cII) (wR9 := ([] : va_W)) (wN := fun (u : List Value) => wU mo (nI 1) u) (va_runV (As := [.int (xs 1)]) (rest := []) ⟨hx, hb, hml, hown, hts⟩ (t_coins_node l dC dI cI cII cJ cJJ cZ cO mo eo e2 gr av ro co kl dd (xs 1) _ (h1)) (cwV 1 hts gL_law_X5_coins rfl rfl rfl (by decide +kernel) ⟨Nat.le_of_ble_eq_true rfl, Nat.le_of_ble_eq_true rfl⟩) (kt_preV (q0 := 0) (ci := kX5) hK hP hD (List.range' 0 14) rfl rfl rfl rfl rfl) rfl rfl hl.1 rfl (lv_room (Nat.le_of_ble_eq_true rfl)) dL_law_925 ⟨Nat.le_of_ble_eq_true rfl, Nat.le_of_ble_eq_true rfl⟩) hP hD hS hA (List.range' 0 14) [] rfl rfl rfl (by decide) (fun u9 H locs hP hD hS => ?_)
    have hP : va_P (dC, dI) vwCl (wU mo (nI 1) u9) H := hP
    have hD : va_D (lwA s) (wU mo (nI 1) u9) := hD
    refine W.widen (k := 101) (n := 1006) (by omega) (by omega) ?_
    refine lv_istore (lv' := [(6, .int (nI 0)), (5, .int (nI 1)), (0, .ref b), (1, .ref tp), (2, .ref mo), (3, .ref out), (4, .int (nI 0))]) hx hb dL_law_928 hl (by decide) rfl (fun ls hl => ?_)
    refine lv_aload_n hx hb dL_law_930 rfl (lv_at hl 4 rfl) ?_
    refine kt_calliM (w' := wU mo (nI 1) u9) (rest := []) (As := []) ⟨hx, hb, hml, hown, hts⟩ (c_X5_thrown l dC dI cI cII cJ cJJ cZ cO mo (nI 1) u9 _) (cwV 0 hts gL_law_X5_thrown rfl rfl rfl (by decide +kernel) ⟨Nat.le_of_ble_eq_true rfl, Nat.le_of_ble_eq_true rfl⟩) hK hP hD hS hA [0] ⟨rfl, ⟨[some 0], rfl, by decide +kernel⟩, rfl⟩ rfl 0 kX5 rfl rfl rfl rfl rfl hl.1 (Nat.le_of_ble_eq_true rfl) dL_law_931 ⟨Nat.le_of_ble_eq_true rfl, Nat.le_of_ble_eq_true rfl⟩ (fun H locs hP hD hS => ?_)
    have hP : va_P (dC, dI) vwCl (wU mo (nI 1) u9) H := hP
    have hD : va_D (lwA s) (wU mo (nI 1) u9) := hD
    refine W.widen (k := 101) (n := 1006) (by omega) (by omega) ?_
    refine lv_iload hx hb dL_law_934 (lv_at hl 1 rfl) ?_
    refine lv_icmp_eq (tgt := 941) hx hb dL_law_936 (by decide) (fun c8 => ?_) (fun c8 => ?_)
    · skip
      refine lv_iload hx hb dL_law_941 (lv_at hl 1 rfl) ?_
      refine lv_if_ne (tgt := 958) hx hb dL_law_943 (by decide) (fun c9 => ?_) (fun c9 => ?_)
      · skip
        refine lv_goto (tgt := 1493) hx hb dL_law_958 (by decide) ?_
        exact law_end C0 hS (lv_sub hl [2, 6] rfl) (by omega) (by omega)
      · first | exact absurd c9 (by decide) | exact (c9 (by decide)).elim
    · first | exact absurd c8 (by decide) | exact (c8 (by decide)).elim

set_option maxHeartbeats 4000000 in
set_option maxRecDepth 100000 in
/-- case 14 of the law: kept -/
theorem law_kept {p : Program} {l : Launch} {e : Env} {s : State} {m : MethodId} {below : List Frame} {meth : Method} {c : Code} {b : Nat} {xs : Nat → Int32} (hlt : l.stackTraces = false) (C0 : lw_At p s m meth c b 4 xs) {dC : Nat → ClassId} {dI : Nat → Nat → Nat} {cI cII cJ cJJ cZ cO : ClassId} {tp : Nat} {f : Nat → Nat} {er tr kr : Nat → Nat} {mo eo : Nat} {e2 : Nat → Nat} {gr av ro co kl dd out : Nat} (hK : va_K (dC, dI) vwCl (tyR cI cII cJ cJJ cZ cO) s) (hE : EnvX (lwA s) s s.heap) (hER : EnvR dd (lwA s) s s.heap) (hnc : va_Nc exA exI s) {H : Heap} {locs : List Loc} {ls : Array Slot} (hP : va_P (dC, dI) vwCl (wR (nI 0) z0 mo eo e2 gr av ro co kl dd cI cII ++ (wF tp f er tr kr cI cII cJ cJJ ++ wO cJ out oZ)) H) (hD : va_D (lwA s) (wR (nI 0) z0 mo eo e2 gr av ro co kl dd cI cII ++ (wF tp f er tr kr cI cII cJ cJJ ++ wO cJ out oZ))) (hS : va_S (lwA s) s.heap H locs) (hl : lv_has ls 9 [(0, .ref b), (1, .ref tp), (2, .ref mo), (3, .ref out), (4, .int (nI 0))]) : W p l e room_1 s m #[Value.ref b] below meth c H locs 100 1000 (lw_Z below #[Value.ref b] s) (F0 m 961 ls []) := by
  obtain ⟨hx, hb, hr, hml, hown, hts0, hX, hbl, hlocks, hgv⟩ := id C0
  have hA : ∀ q : Nat, s.heap.size ≤ q → (lwA s) q := fun _ h => h
  have hbA : ¬ (lwA s) b := Nat.not_le.mpr hbl
  have hts : ∀ w ∈ wsL_law, w.before #[Value.ref b] s = true := fun w h => hts0 w (wsL_law_in w h)
  have hKc : va_K (dC, dI) vwCl (tyL cI cII cJ cJJ) s := hK.sub [0, 1, 2, 3] rfl
  refine lv_aload_n hx hb dL_law_961 rfl (lv_at hl 1 rfl) ?_
  refine lv_aload_n hx hb dL_law_962 rfl (lv_at hl 0 rfl) ?_
  refine lv_iload hx hb dL_law_963 (lv_at hl 4 rfl) ?_
  refine lv_iconst (v := nI 1) hx hb dL_law_965 (by decide) ?_
  refine kt_iadd hx hb dL_law_966 ?_
  refine va_sld hx hb hX hbl hbA hS (vp_in_nI (by omega) (by decide)) dL_law_967 ?_
  refine lv_topi (fun z1 ez1 => ?_)
  have ez1 : z1 = xs 1 := (ez1.trans (congrArg xs (nI_clamp (by decide)))).trans rfl
  rw [ez1]
  refine lv_aload_n hx hb dL_law_968 rfl (lv_at hl 0 rfl) ?_
  refine lv_iload hx hb dL_law_969 (lv_at hl 4 rfl) ?_
  refine lv_iconst (v := nI 2) hx hb dL_law_971 (by decide) ?_
  refine kt_iadd hx hb dL_law_972 ?_
  refine va_sld hx hb hX hbl hbA hS (vp_in_nI (by omega) (by decide)) dL_law_973 ?_
  refine lv_topi (fun z2 ez2 => ?_)
  have ez2 : z2 = xs 2 := (ez2.trans (congrArg xs (nI_clamp (by decide)))).trans rfl
  rw [ez2]
  refine lv_aload_n hx hb dL_law_974 rfl (lv_at hl 3 rfl) ?_
  have hF9 := va_free (wc := wF tp f er tr kr cI cII cJ cJJ ++ wO cJ out oZ) hD hS hA (List.range' 14 46) rfl
  refine kt_newI (wC := wF tp f er tr kr cI cII cJ cJJ ++ wO cJ out oZ) (wR9 := wR (nI 0) z0 mo eo e2 gr av ro co kl dd cI cII) (wN := fun (_ : Unit) => ([] : va_W)) (tys := (tyL cI cII cJ cJJ)) (vx_runSW (As := [.ref tp, .int (xs 1), .int (xs 2), .ref out]) (rest := []) ⟨hx, hb, hml, hown, hts⟩ (h_kept l hlt dC dI cI cII cJ cJJ tp f er tr kr out (xs 1) (xs 2) _ ) (vx_cwSW 4 hts gL_law_L_kept rfl rfl rfl (by decide +kernel) ⟨Nat.le_of_ble_eq_true rfl, Nat.le_of_ble_eq_true rfl⟩) (kt_preSH hKc hP hD hS hE hnc hF9 (List.range' 14 46) rfl rfl) rfl rfl hl.1 rfl (lv_room (Nat.le_of_ble_eq_true rfl)) dL_law_975 ⟨Nat.le_of_ble_eq_true rfl, Nat.le_of_ble_eq_true rfl⟩) hP hD hS hA (List.range' 14 46) (List.range' 0 14) rfl rfl rfl (by decide) (fun u H locs hP hD hS => ?_)
  have hP := kt_sub (wC := wR (nI 0) z0 mo eo e2 gr av ro co kl dd cI cII) hP (List.range' 0 14) rfl
  have hD := hD.sub (ws' := wR (nI 0) z0 mo eo e2 gr av ro co kl dd cI cII) (List.range' 0 14) rfl rfl
  refine W.widen (k := 101) (n := 1006) (by omega) (by omega) ?_
  refine lv_istore (lv' := [(5, .int (nI 1)), (0, .ref b), (1, .ref tp), (2, .ref mo), (3, .ref out), (4, .int (nI 0))]) hx hb dL_law_978 hl (by decide) rfl (fun ls hl => ?_)
  refine lv_aload_n hx hb dL_law_980 rfl (lv_at hl 3 rfl) ?_
  refine lv_aload_n hx hb dL_law_981 rfl (lv_at hl 1 rfl) ?_
  refine lv_iload hx hb dL_law_982 (lv_at hl 5 rfl) ?_
  refine lv_iconst (v := nI 1) hx hb dL_law_984 (by decide) ?_
  refine kt_iadd hx hb dL_law_985 ?_
  refine va_sld hx hb hX hbl hbA hS (vp_in_nI (by omega) (by decide)) dL_law_986 ?_
  refine lv_topi (fun z3 ez3 => ?_)
  have ez3 : z3 = xs 1 := (ez3.trans (congrArg xs (nI_clamp (by decide)))).trans rfl
  rw [ez3]
  refine lv_aload_n hx hb dL_law_987 rfl (lv_at hl 1 rfl) ?_
  refine lv_iload hx hb dL_law_988 (lv_at hl 5 rfl) ?_
  refine lv_iconst (v := nI 2) hx hb dL_law_990 (by decide) ?_
  refine kt_iadd hx hb dL_law_991 ?_
  refine va_sld hx hb hX hbl hbA hS (vp_in_nI (by omega) (by decide)) dL_law_992 ?_
  refine lv_topi (fun z4 ez4 => ?_)
  have ez4 : z4 = xs 2 := (ez4.trans (congrArg xs (nI_clamp (by decide)))).trans rfl
  rw [ez4]
  refine kt_newI (wC := wR (nI 0) z0 mo eo e2 gr av ro co kl dd cI cII) (wR9 := ([] : va_W)) (wN := fun (u : List Value) => wU mo (nI 1) u) (va_runV (As := [.int (xs 1), .int (xs 2)]) (rest := []) ⟨hx, hb, hml, hown, hts⟩ (t_kept l dC dI cI cII cJ cJJ cZ cO mo eo e2 gr av ro co kl dd (xs 1) (xs 2) _ ) (cwV 2 hts gL_law_X5_kept rfl rfl rfl (by decide +kernel) ⟨Nat.le_of_ble_eq_true rfl, Nat.le_of_ble_eq_true rfl⟩) (kt_preV (q0 := 0) (ci := kX5) hK hP hD (List.range' 0 14) rfl rfl rfl rfl rfl) rfl rfl hl.1 rfl (lv_room (Nat.le_of_ble_eq_true rfl)) dL_law_993 ⟨Nat.le_of_ble_eq_true rfl, Nat.le_of_ble_eq_true rfl⟩) hP hD hS hA (List.range' 0 14) [] rfl rfl rfl (by decide) (fun u9 H locs hP hD hS => ?_)
  have hP : va_P (dC, dI) vwCl (wU mo (nI 1) u9) H := hP
  have hD : va_D (lwA s) (wU mo (nI 1) u9) := hD
  refine W.widen (k := 101) (n := 1006) (by omega) (by omega) ?_
  refine lv_istore (lv' := [(6, .int (nI 0)), (5, .int (nI 1)), (0, .ref b), (1, .ref tp), (2, .ref mo), (3, .ref out), (4, .int (nI 0))]) hx hb dL_law_996 hl (by decide) rfl (fun ls hl => ?_)
  refine lv_aload_n hx hb dL_law_998 rfl (lv_at hl 4 rfl) ?_
  refine kt_calliM (w' := wU mo (nI 1) u9) (rest := []) (As := []) ⟨hx, hb, hml, hown, hts⟩ (c_X5_thrown l dC dI cI cII cJ cJJ cZ cO mo (nI 1) u9 _) (cwV 0 hts gL_law_X5_thrown rfl rfl rfl (by decide +kernel) ⟨Nat.le_of_ble_eq_true rfl, Nat.le_of_ble_eq_true rfl⟩) hK hP hD hS hA [0] ⟨rfl, ⟨[some 0], rfl, by decide +kernel⟩, rfl⟩ rfl 0 kX5 rfl rfl rfl rfl rfl hl.1 (Nat.le_of_ble_eq_true rfl) dL_law_999 ⟨Nat.le_of_ble_eq_true rfl, Nat.le_of_ble_eq_true rfl⟩ (fun H locs hP hD hS => ?_)
  have hP : va_P (dC, dI) vwCl (wU mo (nI 1) u9) H := hP
  have hD : va_D (lwA s) (wU mo (nI 1) u9) := hD
  refine W.widen (k := 101) (n := 1006) (by omega) (by omega) ?_
  refine lv_iload hx hb dL_law_1002 (lv_at hl 1 rfl) ?_
  refine lv_icmp_eq (tgt := 1009) hx hb dL_law_1004 (by decide) (fun c5 => ?_) (fun c5 => ?_)
  · skip
    refine lv_iload hx hb dL_law_1009 (lv_at hl 1 rfl) ?_
    refine lv_if_ne (tgt := 1026) hx hb dL_law_1011 (by decide) (fun c6 => ?_) (fun c6 => ?_)
    · skip
      refine lv_goto (tgt := 1493) hx hb dL_law_1026 (by decide) ?_
      exact law_end C0 hS (lv_sub hl [2, 6] rfl) (by omega) (by omega)
    · first | exact absurd c6 (by decide) | exact (c6 (by decide)).elim
  · first | exact absurd c5 (by decide) | exact (c5 (by decide)).elim
