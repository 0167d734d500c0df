/-! the law's loop -/
abbrev lwA (s : State) : Nat → Prop := fun q => s.heap.size ≤ q
theorem q_ge {q : Int32} (h : 1 ≤ q.toInt) : ¬ q < 1 := fun z => by
  rw [Int32.lt_iff_toInt_lt] at z
  have : (1 : Int32).toInt = 1 := rfl
  omega
theorem q_le40 {q : Int32} (h : q.toInt ≤ 25) : q ≤ 40 := by
  rw [Int32.le_iff_toInt_le]
  have : (40 : Int32).toInt = 40 := rfl
  omega
theorem q_9 {q : Int32} (h : -6 ≤ q.toInt) : ¬ q < -9 := fun z => by
  rw [Int32.lt_iff_toInt_lt] at z
  have : (-9 : Int32).toInt = -9 := rfl
  omega
theorem q_m9 {q : Int32} (h : q.toInt ≤ 6) : q ≤ 9 := by
  rw [Int32.le_iff_toInt_le]
  have : (9 : Int32).toInt = 9 := rfl
  omega
theorem le99 {x : Int32} (h : ¬ nI 99 < x) : x ≤ 99 := Int32.not_lt.mp h
theorem steep_1 {b : Bool} (h : b2i b = nI 1) : b = true := b2i_ne0.mp (by rw [h]; decide)
theorem down_k {i : Nat} (hi : i < 2 ^ 31) (h : ¬ nI i - nI 1 < 0) : ∃ k, i = k + 1 ∧ nI i - nI 1 = nI k := by
  cases i with
  | zero => exact absurd (show nI 0 - nI 1 < 0 by decide) h
  | succ k =>
    refine ⟨k, rfl, ?_⟩
    apply Int32.toInt_inj.mp
    have h1 := nI_toInt (show 1 < 2 ^ 31 by omega)
    have h2 := nI_toInt hi
    rw [i32_sub (by rw [h1, h2]; omega) (by rw [h1, h2]; omega), h1, h2, nI_toInt (by omega)]
    omega
theorem dec_k (k : Nat) : nI k + Int32.ofInt (-1) = nI k - nI 1 := by
  rw [Int32.sub_eq_add_neg]
  rfl
theorem pay_6 {y : Nat} (hy : y < 13) : -6 ≤ (nI y - nI 6).toInt ∧ (nI y - nI 6).toInt ≤ 6 := by
  have h1 := nI_toInt (show 6 < 2 ^ 31 by omega)
  have h2 := nI_toInt (show y < 2 ^ 31 by omega)
  rw [i32_sub (by rw [h1, h2]; omega) (by rw [h1, h2]; omega), h1, h2]
  omega
theorem q_25 {u : Nat} (hu : u < 25) : 1 ≤ (nI 1 + nI u).toInt ∧ (nI 1 + nI u).toInt ≤ 25 := by
  rw [nI_add, nI_toInt (by omega)]
  omega
theorem nI_rem {t k : Nat} (hk : 0 < k) (ht : t < 2 ^ 31) (hk2 : k < 2 ^ 31) : nI t - nI t / nI k * nI k = nI (t % k) := by
  have hm : t % k < k := Nat.mod_lt _ hk
  have tt := nI_toInt ht
  have tk := nI_toInt hk2
  have td : (nI t / nI k).toInt = ((t / k : Nat) : Int) := by rw [i32_div (by omega) (by omega), tt, tk]; rfl
  have hle : (t / k) * k ≤ t := Nat.div_mul_le_self t k
  have hmul : ((t / k : Nat) : Int) * (k : Int) = (((t / k) * k : Nat) : Int) := by rw [Int.natCast_mul]
  have tp : (nI t / nI k * nI k).toInt = (((t / k) * k : Nat) : Int) := by
    rw [i32_mul (by rw [td, tk, hmul]; omega) (by rw [td, tk, hmul]; omega), td, tk, hmul]
  have hmod := Nat.div_add_mod' t k
  apply Int32.toInt_inj.mp
  rw [i32_sub (by rw [tt, tp]; omega) (by rw [tt, tp]; omega), tt, tp, nI_toInt (by omega)]
  omega

set_option maxHeartbeats 4000000 in
set_option maxRecDepth 100000 in
theorem law_389 {p : Program} {l : Launch} {e : Env} {s : State} {m : MethodId} {below : List Frame} {meth : Method} {c : Code} {b L : Nat} {xs : Nat → Int32} (C0 : lw_At p s m meth c b L xs) {dC : Nat → ClassId} {dI : Nat → Nat → Nat} {cI cII cJ cJJ : ClassId} {tp tq : Nat} {f f2 : Nat → Nat} {er tr kr er2 tr2 kr2 : Nat → Nat} (hK : va_K (dC, dI) vwCl (tyL cI cII cJ cJJ) s) {n : Nat} {E : V2} {DG P : V1} (hn0 : 0 < n) (hn : n ≤ 5) (M9 : MOK n n E DG) {t : Nat} (K : ∀ (G1 U1 G2 U2 C1 : V1) (sw1 tp1 sw2 tp2 dr pd : Int32), LInv n E DG (t + 1) G1 G2 sw1 tp1 sw2 tp2 dr C1 pd → ∀ (H : Heap) (locs : List Loc) (ls : Array Slot), va_P (dC, dI) vwCl (wV tp f er tr kr cI cII cJ cJJ n E DG G1 U1 sw1 tp1 C1 P ++ wV tq f2 er2 tr2 kr2 cI cII cJ cJJ n E DG G2 U2 sw2 tp2 (fun _ => 0) P) H → va_D (lwA s) (wV tp f er tr kr cI cII cJ cJJ n E DG G1 U1 sw1 tp1 C1 P ++ wV tq f2 er2 tr2 kr2 cI cII cJ cJJ n E DG G2 U2 sw2 tp2 (fun _ => 0) P) → va_S (lwA s) s.heap H locs → lv_has ls 12 [(6, .int (nI (t + 1))), (5, .int pd), (4, .int dr), (3, .int (nI n)), (2, .ref tq), (1, .ref tp), (0, .ref b)] → W p l e room_1 s m #[Value.ref b] below meth c H locs 1000 10000 (lw_Z below #[Value.ref b] s) (F0 m 53 ls [])) {G1 U1 G2 U2 C1 : V1} {sw1 tp1 sw2 tp2 dr pd : Int32} (I : LInv n E DG (t + 1) G1 G2 sw1 tp1 sw2 tp2 dr C1 pd) {H : Heap} {locs : List Loc} {ls : Array Slot} (hP : va_P (dC, dI) vwCl (wV tp f er tr kr cI cII cJ cJJ n E DG G1 U1 sw1 tp1 C1 P ++ wV tq f2 er2 tr2 kr2 cI cII cJ cJJ n E DG G2 U2 sw2 tp2 (fun _ => 0) P) H) (hD : va_D (lwA s) (wV tp f er tr kr cI cII cJ cJJ n E DG G1 U1 sw1 tp1 C1 P ++ wV tq f2 er2 tr2 kr2 cI cII cJ cJJ n E DG G2 U2 sw2 tp2 (fun _ => 0) P)) (hS : va_S (lwA s) s.heap H locs) (hl : lv_has ls 12 [(6, .int (nI t)), (5, .int pd), (4, .int dr), (3, .int (nI n)), (2, .ref tq), (1, .ref tp), (0, .ref b)]) : W p l e room_1 s m #[Value.ref b] below meth c H locs 1000 10000 (lw_Z below #[Value.ref b] s) (F0 m 389 ls []) := by
  obtain ⟨hx, hb, hr, hml, hown, hts0, hX, hbl, hlocks, hgv⟩ := id C0
  have hA : ∀ q : Nat, s.heap.size ≤ q → (lwA s) q := fun _ h => h
  have hbA : ¬ (lwA s) b := Nat.not_le.mpr hbl
  have hts : ∀ w ∈ wsL_law, w.before #[Value.ref b] s = true := fun w h => hts0 w (wsL_law_in w h)
  obtain ⟨hXm, hCm⟩ := mok_moor M9 (show n ≤ 6 by omega)
  refine lv_aload_n hx hb dL_law_389 rfl (lv_at hl 5 rfl) ?_
  refine lv_iconst (v := nI 2) hx hb dL_law_390 (by decide) ?_
  refine kt_calli (w' := wV tp f er tr kr cI cII cJ cJJ n E DG G1 U1 sw1 tp1 C1 P ++ wV tq f2 er2 tr2 kr2 cI cII cJ cJJ n E DG G2 U2 sw2 tp2 (fun _ => 0) P) (rest := []) (As := [.int (nI 2)]) ⟨hx, hb, hml, hown, hts⟩ (c_X4_many l dC dI cI cII cJ cJJ tp (f 0) (f 1) (f 2) G1 U1 (f 3) (f 4) (f 5) (fun _ => 0) (fun _ => 0) (f 6) (f 7) (f 8) (fun _ => 0) (fun _ => 0) (f 9) (f 10) (f 11) (fun _ => 0) (fun _ => 0) (f 12) kr (fun _ _ => 0) 0 sw1 tp1 (f 13) (f 14) P 0 (f 15) (f 16) C1 (f 17) (f 18) (f 19) (fun _ => 0) (fun _ => 0) (f 20) (f 21) (f 22) (fun _ => 0) (fun _ => 0) (f 23) (f 24) (f 25) (f 26) er n E DG tr (fun _ _ => 0) 2 _ (by omega) (by omega)) (cwV 1 hts gL_law_X4_many rfl rfl rfl (by decide +kernel) ⟨Nat.le_of_ble_eq_true rfl, Nat.le_of_ble_eq_true rfl⟩) hK hP hD hS hA (List.range' 0 45) (by exact sw_V1) rfl 0 kX4 rfl rfl rfl rfl rfl hl.1 (Nat.le_of_ble_eq_true rfl) dL_law_391 ⟨Nat.le_of_ble_eq_true rfl, Nat.le_of_ble_eq_true rfl⟩ (fun H locs hP hD hS => ?_)
  have hP : va_P (dC, dI) vwCl (wV tp f er tr kr cI cII cJ cJJ n E DG G1 U1 sw1 tp1 C1 P ++ wV tq f2 er2 tr2 kr2 cI cII cJ cJJ n E DG G2 U2 sw2 tp2 (fun _ => 0) P) H := hP
  have hD : va_D (lwA s) (wV tp f er tr kr cI cII cJ cJJ n E DG G1 U1 sw1 tp1 C1 P ++ wV tq f2 er2 tr2 kr2 cI cII cJ cJJ n E DG G2 U2 sw2 tp2 (fun _ => 0) P) := hD
  refine lv_aload_n hx hb dL_law_394 rfl (lv_at hl 5 rfl) ?_
  refine lv_iconst (v := nI 3) hx hb dL_law_395 (by decide) ?_
  refine kt_calli (w' := wV tp f er tr kr cI cII cJ cJJ n E DG G1 U1 sw1 tp1 C1 P ++ wV tq f2 er2 tr2 kr2 cI cII cJ cJJ n E DG G2 U2 sw2 tp2 (fun _ => 0) P) (rest := [.int (manyF n E DG G1 U1 P C1 sw1 tp1 0 0 2)]) (As := [.int (nI 3)]) ⟨hx, hb, hml, hown, hts⟩ (c_X4_many l dC dI cI cII cJ cJJ tp (f 0) (f 1) (f 2) G1 U1 (f 3) (f 4) (f 5) (fun _ => 0) (fun _ => 0) (f 6) (f 7) (f 8) (fun _ => 0) (fun _ => 0) (f 9) (f 10) (f 11) (fun _ => 0) (fun _ => 0) (f 12) kr (fun _ _ => 0) 0 sw1 tp1 (f 13) (f 14) P 0 (f 15) (f 16) C1 (f 17) (f 18) (f 19) (fun _ => 0) (fun _ => 0) (f 20) (f 21) (f 22) (fun _ => 0) (fun _ => 0) (f 23) (f 24) (f 25) (f 26) er n E DG tr (fun _ _ => 0) 3 _ (by omega) (by omega)) (cwV 1 hts gL_law_X4_many rfl rfl rfl (by decide +kernel) ⟨Nat.le_of_ble_eq_true rfl, Nat.le_of_ble_eq_true rfl⟩) hK hP hD hS hA (List.range' 0 45) (by exact sw_V1) rfl 0 kX4 rfl rfl rfl rfl rfl hl.1 (Nat.le_of_ble_eq_true rfl) dL_law_396 ⟨Nat.le_of_ble_eq_true rfl, Nat.le_of_ble_eq_true rfl⟩ (fun H locs hP hD hS => ?_)
  have hP : va_P (dC, dI) vwCl (wV tp f er tr kr cI cII cJ cJJ n E DG G1 U1 sw1 tp1 C1 P ++ wV tq f2 er2 tr2 kr2 cI cII cJ cJJ n E DG G2 U2 sw2 tp2 (fun _ => 0) P) H := hP
  have hD : va_D (lwA s) (wV tp f er tr kr cI cII cJ cJJ n E DG G1 U1 sw1 tp1 C1 P ++ wV tq f2 er2 tr2 kr2 cI cII cJ cJJ n E DG G2 U2 sw2 tp2 (fun _ => 0) P) := hD
  refine lv_iadd hx hb dL_law_399 ?_
  refine lv_iload hx hb dL_law_400 (lv_at hl 2 rfl) ?_
  refine lv_icmp_ne (tgt := 432) hx hb dL_law_402 (by decide) (fun c402 => ?_) (fun c402 => ?_)
  · exact absurd (inv_sums hXm I).1 c402
  · skip
    refine lv_aload_n hx hb dL_law_405 rfl (lv_at hl 4 rfl) ?_
    refine lv_iconst (v := nI 2) hx hb dL_law_406 (by decide) ?_
    refine kt_calli (w' := wV tp f er tr kr cI cII cJ cJJ n E DG G1 U1 sw1 tp1 C1 P ++ wV tq f2 er2 tr2 kr2 cI cII cJ cJJ n E DG G2 U2 sw2 tp2 (fun _ => 0) P) (rest := []) (As := [.int (nI 2)]) ⟨hx, hb, hml, hown, hts⟩ (c_X4_many l dC dI cI cII cJ cJJ tq (f2 0) (f2 1) (f2 2) G2 U2 (f2 3) (f2 4) (f2 5) (fun _ => 0) (fun _ => 0) (f2 6) (f2 7) (f2 8) (fun _ => 0) (fun _ => 0) (f2 9) (f2 10) (f2 11) (fun _ => 0) (fun _ => 0) (f2 12) kr2 (fun _ _ => 0) 0 sw2 tp2 (f2 13) (f2 14) P 0 (f2 15) (f2 16) (fun _ => 0) (f2 17) (f2 18) (f2 19) (fun _ => 0) (fun _ => 0) (f2 20) (f2 21) (f2 22) (fun _ => 0) (fun _ => 0) (f2 23) (f2 24) (f2 25) (f2 26) er2 n E DG tr2 (fun _ _ => 0) 2 _ (by omega) (by omega)) (cwV 1 hts gL_law_X4_many rfl rfl rfl (by decide +kernel) ⟨Nat.le_of_ble_eq_true rfl, Nat.le_of_ble_eq_true rfl⟩) hK hP hD hS hA (List.range' 45 45) (by exact sw_V2) rfl 45 kX4 rfl rfl rfl rfl rfl hl.1 (Nat.le_of_ble_eq_true rfl) dL_law_407 ⟨Nat.le_of_ble_eq_true rfl, Nat.le_of_ble_eq_true rfl⟩ (fun H locs hP hD hS => ?_)
    have hP : va_P (dC, dI) vwCl (wV tp f er tr kr cI cII cJ cJJ n E DG G1 U1 sw1 tp1 C1 P ++ wV tq f2 er2 tr2 kr2 cI cII cJ cJJ n E DG G2 U2 sw2 tp2 (fun _ => 0) P) H := hP
    have hD : va_D (lwA s) (wV tp f er tr kr cI cII cJ cJJ n E DG G1 U1 sw1 tp1 C1 P ++ wV tq f2 er2 tr2 kr2 cI cII cJ cJJ n E DG G2 U2 sw2 tp2 (fun _ => 0) P) := hD
    refine lv_aload_n hx hb dL_law_410 rfl (lv_at hl 4 rfl) ?_
    refine lv_iconst (v := nI 3) hx hb dL_law_411 (by decide) ?_
    refine kt_calli (w' := wV tp f er tr kr cI cII cJ cJJ n E DG G1 U1 sw1 tp1 C1 P ++ wV tq f2 er2 tr2 kr2 cI cII cJ cJJ n E DG G2 U2 sw2 tp2 (fun _ => 0) P) (rest := [.int (manyF n E DG G2 U2 P (fun _ => 0) sw2 tp2 0 0 2)]) (As := [.int (nI 3)]) ⟨hx, hb, hml, hown, hts⟩ (c_X4_many l dC dI cI cII cJ cJJ tq (f2 0) (f2 1) (f2 2) G2 U2 (f2 3) (f2 4) (f2 5) (fun _ => 0) (fun _ => 0) (f2 6) (f2 7) (f2 8) (fun _ => 0) (fun _ => 0) (f2 9) (f2 10) (f2 11) (fun _ => 0) (fun _ => 0) (f2 12) kr2 (fun _ _ => 0) 0 sw2 tp2 (f2 13) (f2 14) P 0 (f2 15) (f2 16) (fun _ => 0) (f2 17) (f2 18) (f2 19) (fun _ => 0) (fun _ => 0) (f2 20) (f2 21) (f2 22) (fun _ => 0) (fun _ => 0) (f2 23) (f2 24) (f2 25) (f2 26) er2 n E DG tr2 (fun _ _ => 0) 3 _ (by omega) (by omega)) (cwV 1 hts gL_law_X4_many rfl rfl rfl (by decide +kernel) ⟨Nat.le_of_ble_eq_true rfl, Nat.le_of_ble_eq_true rfl⟩) hK hP hD hS hA (List.range' 45 45) (by exact sw_V2) rfl 45 kX4 rfl rfl rfl rfl rfl hl.1 (Nat.le_of_ble_eq_true rfl) dL_law_412 ⟨Nat.le_of_ble_eq_true rfl, Nat.le_of_ble_eq_true rfl⟩ (fun H locs hP hD hS => ?_)
    have hP : va_P (dC, dI) vwCl (wV tp f er tr kr cI cII cJ cJJ n E DG G1 U1 sw1 tp1 C1 P ++ wV tq f2 er2 tr2 kr2 cI cII cJ cJJ n E DG G2 U2 sw2 tp2 (fun _ => 0) P) H := hP
    have hD : va_D (lwA s) (wV tp f er tr kr cI cII cJ cJJ n E DG G1 U1 sw1 tp1 C1 P ++ wV tq f2 er2 tr2 kr2 cI cII cJ cJJ n E DG G2 U2 sw2 tp2 (fun _ => 0) P) := hD
    refine lv_iadd hx hb dL_law_415 ?_
    refine lv_iload hx hb dL_law_416 (lv_at hl 2 rfl) ?_
    refine lv_icmp_ne (tgt := 432) hx hb dL_law_418 (by decide) (fun c418 => ?_) (fun c418 => ?_)
    · exact absurd (inv_sums hXm I).2.1 c418
    · skip
      refine lv_aload_n hx hb dL_law_421 rfl (lv_at hl 5 rfl) ?_
      refine lv_bipush (v := nI 9) hx hb dL_law_422 (by decide) ?_
      refine kt_calli (w' := wV tp f er tr kr cI cII cJ cJJ n E DG G1 U1 sw1 tp1 C1 P ++ wV tq f2 er2 tr2 kr2 cI cII cJ cJJ n E DG G2 U2 sw2 tp2 (fun _ => 0) P) (rest := []) (As := [.int (nI 9)]) ⟨hx, hb, hml, hown, hts⟩ (c_X4_many l dC dI cI cII cJ cJJ tp (f 0) (f 1) (f 2) G1 U1 (f 3) (f 4) (f 5) (fun _ => 0) (fun _ => 0) (f 6) (f 7) (f 8) (fun _ => 0) (fun _ => 0) (f 9) (f 10) (f 11) (fun _ => 0) (fun _ => 0) (f 12) kr (fun _ _ => 0) 0 sw1 tp1 (f 13) (f 14) P 0 (f 15) (f 16) C1 (f 17) (f 18) (f 19) (fun _ => 0) (fun _ => 0) (f 20) (f 21) (f 22) (fun _ => 0) (fun _ => 0) (f 23) (f 24) (f 25) (f 26) er n E DG tr (fun _ _ => 0) 9 _ (by omega) (by omega)) (cwV 1 hts gL_law_X4_many rfl rfl rfl (by decide +kernel) ⟨Nat.le_of_ble_eq_true rfl, Nat.le_of_ble_eq_true rfl⟩) hK hP hD hS hA (List.range' 0 45) (by exact sw_V1) rfl 0 kX4 rfl rfl rfl rfl rfl hl.1 (Nat.le_of_ble_eq_true rfl) dL_law_424 ⟨Nat.le_of_ble_eq_true rfl, Nat.le_of_ble_eq_true rfl⟩ (fun H locs hP hD hS => ?_)
      have hP : va_P (dC, dI) vwCl (wV tp f er tr kr cI cII cJ cJJ n E DG G1 U1 sw1 tp1 C1 P ++ wV tq f2 er2 tr2 kr2 cI cII cJ cJJ n E DG G2 U2 sw2 tp2 (fun _ => 0) P) H := hP
      have hD : va_D (lwA s) (wV tp f er tr kr cI cII cJ cJJ n E DG G1 U1 sw1 tp1 C1 P ++ wV tq f2 er2 tr2 kr2 cI cII cJ cJJ n E DG G2 U2 sw2 tp2 (fun _ => 0) P) := hD
      refine lv_iload hx hb dL_law_427 (lv_at hl 1 rfl) ?_
      refine lv_icmp_eq (tgt := 434) hx hb dL_law_429 (by decide) (fun c429 => ?_) (fun c429 => ?_)
      · skip
        refine lv_iinc (v := nI (t + 1)) (lv' := [(6, .int (nI (t + 1))), (5, .int pd), (4, .int dr), (3, .int (nI n)), (2, .ref tq), (1, .ref tp), (0, .ref b)]) hx hb dL_law_434 hl (k := 0) rfl (kt_inc t) (by decide) rfl (fun ls hl => ?_)
        refine lv_goto (tgt := 53) hx hb dL_law_437 (by decide) ?_
        exact K G1 U1 G2 U2 C1 sw1 tp1 sw2 tp2 dr pd I H locs ls hP hD hS (lv_sub hl [0, 1, 2, 3, 4, 5, 6] rfl)
      · exact absurd (inv_sums hXm I).2.2 c429

set_option maxHeartbeats 4000000 in
set_option maxRecDepth 100000 in
theorem law_136 {p : Program} {l : Launch} {e : Env} {s : State} {m : MethodId} {below : List Frame} {meth : Method} {c : Code} {b L : Nat} {xs : Nat → Int32} (C0 : lw_At p s m meth c b L xs) {dC : Nat → ClassId} {dI : Nat → Nat → Nat} {cI cII cJ cJJ : ClassId} {tp tq : Nat} {f f2 : Nat → Nat} {er tr kr er2 tr2 kr2 : Nat → Nat} (hK : va_K (dC, dI) vwCl (tyL cI cII cJ cJJ) s) {n : Nat} {E : V2} {DG P : V1} (hn0 : 0 < n) (hn : n ≤ 5) (M9 : MOK n n E DG) {t : Nat} {q x : Int32} {j : Nat} (hj : j < n) (hq1 : 1 ≤ q.toInt) (hq2 : q.toInt ≤ 25) (ht : t < 50) (K : ∀ (G1 U1 G2 U2 C1 : V1) (sw1 tp1 sw2 tp2 dr pd : Int32), LInv n E DG (t + 1) G1 G2 sw1 tp1 sw2 tp2 dr C1 pd → ∀ (H : Heap) (locs : List Loc) (ls : Array Slot), va_P (dC, dI) vwCl (wV tp f er tr kr cI cII cJ cJJ n E DG G1 U1 sw1 tp1 C1 P ++ wV tq f2 er2 tr2 kr2 cI cII cJ cJJ n E DG G2 U2 sw2 tp2 (fun _ => 0) P) H → va_D (lwA s) (wV tp f er tr kr cI cII cJ cJJ n E DG G1 U1 sw1 tp1 C1 P ++ wV tq f2 er2 tr2 kr2 cI cII cJ cJJ n E DG G2 U2 sw2 tp2 (fun _ => 0) P) → va_S (lwA s) s.heap H locs → lv_has ls 12 [(6, .int (nI t)), (5, .int pd), (4, .int dr), (3, .int (nI n)), (2, .ref tq), (1, .ref tp), (0, .ref b)] → W p l e room_1 s m #[Value.ref b] below meth c H locs 1000 10000 (lw_Z below #[Value.ref b] s) (F0 m 389 ls [])) {G1 U1 G2 U2 C1 : V1} {sw1 tp1 sw2 tp2 dr pd : Int32} (I : LInv n E DG t G1 G2 sw1 tp1 sw2 tp2 dr C1 pd) {H : Heap} {locs : List Loc} {ls : Array Slot} (hP : va_P (dC, dI) vwCl (wV tp f er tr kr cI cII cJ cJJ n E DG G1 U1 sw1 tp1 C1 P ++ wV tq f2 er2 tr2 kr2 cI cII cJ cJJ n E DG G2 U2 sw2 tp2 (fun _ => 0) P) H) (hD : va_D (lwA s) (wV tp f er tr kr cI cII cJ cJJ n E DG G1 U1 sw1 tp1 C1 P ++ wV tq f2 er2 tr2 kr2 cI cII cJ cJJ n E DG G2 U2 sw2 tp2 (fun _ => 0) P)) (hS : va_S (lwA s) s.heap H locs) (hl : lv_has ls 12 [(9, .int q), (8, .int (nI j)), (7, .int x), (6, .int (nI t)), (5, .int pd), (4, .int dr), (3, .int (nI n)), (2, .ref tq), (1, .ref tp), (0, .ref b)]) : W p l e room_1 s m #[Value.ref b] below meth c H locs 1000 10000 (lw_Z below #[Value.ref b] s) (F0 m 136 ls []) := by
  obtain ⟨hx, hb, hr, hml, hown, hts0, hX, hbl, hlocks, hgv⟩ := id C0
  have hA : ∀ q : Nat, s.heap.size ≤ q → (lwA s) q := fun _ h => h
  have hbA : ¬ (lwA s) b := Nat.not_le.mpr hbl
  have hts : ∀ w ∈ wsL_law, w.before #[Value.ref b] s = true := fun w h => hts0 w (wsL_law_in w h)
  obtain ⟨hXm, hCm⟩ := mok_moor M9 (show n ≤ 6 by omega)
  refine lv_aload_n hx hb dL_law_136 rfl (lv_at hl 8 rfl) ?_
  refine lv_iload hx hb dL_law_137 (lv_at hl 1 rfl) ?_
  refine lv_iconst (v := nI 0) hx hb dL_law_139 (by decide) ?_
  refine kt_calli (w' := wV tp f er tr kr cI cII cJ cJJ n E DG G1 U1 sw1 tp1 C1 P ++ wV tq f2 er2 tr2 kr2 cI cII cJ cJJ n E DG G2 U2 sw2 tp2 (fun _ => 0) P) (rest := []) (As := [.int (nI j), .int (nI 0)]) ⟨hx, hb, hml, hown, hts⟩ (c_X4_ofSpot l dC dI cI cII cJ cJJ tp (f 0) (f 1) (f 2) G1 U1 (f 3) (f 4) (f 5) (fun _ => 0) (fun _ => 0) (f 6) (f 7) (f 8) (fun _ => 0) (fun _ => 0) (f 9) (f 10) (f 11) (fun _ => 0) (fun _ => 0) (f 12) kr (fun _ _ => 0) 0 sw1 tp1 (f 13) (f 14) P 0 (f 15) (f 16) C1 (f 17) (f 18) (f 19) (fun _ => 0) (fun _ => 0) (f 20) (f 21) (f 22) (fun _ => 0) (fun _ => 0) (f 23) (f 24) (f 25) (f 26) er n E DG tr (fun _ _ => 0) j 0 _ (by omega) (hj) (by omega)) (cwV 2 hts gL_law_X4_ofSpot rfl rfl rfl (by decide +kernel) ⟨Nat.le_of_ble_eq_true rfl, Nat.le_of_ble_eq_true rfl⟩) hK hP hD hS hA (List.range' 0 45) (by exact sw_V1) rfl 0 kX4 rfl rfl rfl rfl rfl hl.1 (Nat.le_of_ble_eq_true rfl) dL_law_140 ⟨Nat.le_of_ble_eq_true rfl, Nat.le_of_ble_eq_true rfl⟩ (fun H locs hP hD hS => ?_)
  have hP : va_P (dC, dI) vwCl (wV tp f er tr kr cI cII cJ cJJ n E DG G1 U1 sw1 tp1 C1 P ++ wV tq f2 er2 tr2 kr2 cI cII cJ cJJ n E DG G2 U2 sw2 tp2 (fun _ => 0) P) H := hP
  have hD : va_D (lwA s) (wV tp f er tr kr cI cII cJ cJJ n E DG G1 U1 sw1 tp1 C1 P ++ wV tq f2 er2 tr2 kr2 cI cII cJ cJJ n E DG G2 U2 sw2 tp2 (fun _ => 0) P) := hD
  refine lv_iload hx hb dL_law_143 (lv_at hl 0 rfl) ?_
  refine lv_iadd hx hb dL_law_145 ?_
  refine lv_bipush (v := nI 99) hx hb dL_law_146 (by decide) ?_
  refine lv_icmp_gt (tgt := 389) hx hb dL_law_148 (by decide) (fun c148 => ?_) (fun c148 => ?_)
  · skip
    exact K G1 U1 G2 U2 C1 sw1 tp1 sw2 tp2 dr pd (inv_later I (Nat.le_succ t)) H locs ls hP hD hS (lv_sub hl [3, 4, 5, 6, 7, 8, 9] rfl)
  · skip
    refine lv_aload_n hx hb dL_law_151 rfl (lv_at hl 7 rfl) ?_
    refine lv_iload hx hb dL_law_152 (lv_at hl 1 rfl) ?_
    refine lv_iconst (v := nI 0) hx hb dL_law_154 (by decide) ?_
    refine kt_calli (w' := wV tp f er tr kr cI cII cJ cJJ n E DG G1 U1 sw1 tp1 C1 P ++ wV tq f2 er2 tr2 kr2 cI cII cJ cJJ n E DG G2 U2 sw2 tp2 (fun _ => 0) P) (rest := []) (As := [.int (nI j), .int (nI 0)]) ⟨hx, hb, hml, hown, hts⟩ (c_X4_ofSpot l dC dI cI cII cJ cJJ tq (f2 0) (f2 1) (f2 2) G2 U2 (f2 3) (f2 4) (f2 5) (fun _ => 0) (fun _ => 0) (f2 6) (f2 7) (f2 8) (fun _ => 0) (fun _ => 0) (f2 9) (f2 10) (f2 11) (fun _ => 0) (fun _ => 0) (f2 12) kr2 (fun _ _ => 0) 0 sw2 tp2 (f2 13) (f2 14) P 0 (f2 15) (f2 16) (fun _ => 0) (f2 17) (f2 18) (f2 19) (fun _ => 0) (fun _ => 0) (f2 20) (f2 21) (f2 22) (fun _ => 0) (fun _ => 0) (f2 23) (f2 24) (f2 25) (f2 26) er2 n E DG tr2 (fun _ _ => 0) j 0 _ (by omega) (hj) (by omega)) (cwV 2 hts gL_law_X4_ofSpot rfl rfl rfl (by decide +kernel) ⟨Nat.le_of_ble_eq_true rfl, Nat.le_of_ble_eq_true rfl⟩) hK hP hD hS hA (List.range' 45 45) (by exact sw_V2) rfl 45 kX4 rfl rfl rfl rfl rfl hl.1 (Nat.le_of_ble_eq_true rfl) dL_law_155 ⟨Nat.le_of_ble_eq_true rfl, Nat.le_of_ble_eq_true rfl⟩ (fun H locs hP hD hS => ?_)
    have hP : va_P (dC, dI) vwCl (wV tp f er tr kr cI cII cJ cJJ n E DG G1 U1 sw1 tp1 C1 P ++ wV tq f2 er2 tr2 kr2 cI cII cJ cJJ n E DG G2 U2 sw2 tp2 (fun _ => 0) P) H := hP
    have hD : va_D (lwA s) (wV tp f er tr kr cI cII cJ cJJ n E DG G1 U1 sw1 tp1 C1 P ++ wV tq f2 er2 tr2 kr2 cI cII cJ cJJ n E DG G2 U2 sw2 tp2 (fun _ => 0) P) := hD
    refine lv_iload hx hb dL_law_158 (lv_at hl 0 rfl) ?_
    refine lv_iadd hx hb dL_law_160 ?_
    refine lv_bipush (v := nI 99) hx hb dL_law_161 (by decide) ?_
    refine lv_icmp_le (tgt := 169) hx hb dL_law_163 (by decide) (fun c163 => ?_) (fun c163 => ?_)
    · skip
      refine lv_aload_n hx hb dL_law_169 rfl (lv_at hl 8 rfl) ?_
      refine lv_iload hx hb dL_law_170 (lv_at hl 1 rfl) ?_
      refine lv_iload hx hb dL_law_172 (lv_at hl 0 rfl) ?_
      refine kt_calli (w' := wV tp f er tr kr cI cII cJ cJJ n E DG (upd G1 j (G1 j + q)) U1 sw1 tp1 C1 P ++ wV tq f2 er2 tr2 kr2 cI cII cJ cJJ n E DG G2 U2 sw2 tp2 (fun _ => 0) P) (rest := []) (As := [.int (nI j), .int q]) ⟨hx, hb, hml, hown, hts⟩ (c_X4_drop l dC dI cI cII cJ cJJ tp (f 0) (f 1) (f 2) G1 U1 (f 3) (f 4) (f 5) (fun _ => 0) (fun _ => 0) (f 6) (f 7) (f 8) (fun _ => 0) (fun _ => 0) (f 9) (f 10) (f 11) (fun _ => 0) (fun _ => 0) (f 12) kr (fun _ _ => 0) 0 sw1 tp1 (f 13) (f 14) P 0 (f 15) (f 16) C1 (f 17) (f 18) (f 19) (fun _ => 0) (fun _ => 0) (f 20) (f 21) (f 22) (fun _ => 0) (fun _ => 0) (f 23) (f 24) (f 25) (f 26) er n E DG tr (fun _ _ => 0) j q _ (by omega) (hj) (q_ge hq1) (q_le40 hq2) (le99 c148)) (cwV 2 hts gL_law_X4_drop rfl rfl rfl (by decide +kernel) ⟨Nat.le_of_ble_eq_true rfl, Nat.le_of_ble_eq_true rfl⟩) hK hP hD hS hA (List.range' 0 45) (by exact sw_V1) rfl 0 kX4 rfl rfl rfl rfl rfl hl.1 (Nat.le_of_ble_eq_true rfl) dL_law_174 ⟨Nat.le_of_ble_eq_true rfl, Nat.le_of_ble_eq_true rfl⟩ (fun H locs hP hD hS => ?_)
      have hP : va_P (dC, dI) vwCl (wV tp f er tr kr cI cII cJ cJJ n E DG (upd G1 j (G1 j + q)) U1 sw1 tp1 C1 P ++ wV tq f2 er2 tr2 kr2 cI cII cJ cJJ n E DG G2 U2 sw2 tp2 (fun _ => 0) P) H := hP
      have hD : va_D (lwA s) (wV tp f er tr kr cI cII cJ cJJ n E DG (upd G1 j (G1 j + q)) U1 sw1 tp1 C1 P ++ wV tq f2 er2 tr2 kr2 cI cII cJ cJJ n E DG G2 U2 sw2 tp2 (fun _ => 0) P) := hD
      refine lv_pop hx hb dL_law_177 rfl ?_
      refine lv_aload_n hx hb dL_law_178 rfl (lv_at hl 7 rfl) ?_
      refine lv_iload hx hb dL_law_179 (lv_at hl 1 rfl) ?_
      refine lv_iload hx hb dL_law_181 (lv_at hl 0 rfl) ?_
      refine kt_calli (w' := wV tp f er tr kr cI cII cJ cJJ n E DG (upd G1 j (G1 j + q)) U1 sw1 tp1 C1 P ++ wV tq f2 er2 tr2 kr2 cI cII cJ cJJ n E DG (upd G2 j (G2 j + q)) U2 sw2 tp2 (fun _ => 0) P) (rest := []) (As := [.int (nI j), .int q]) ⟨hx, hb, hml, hown, hts⟩ (c_X4_drop l dC dI cI cII cJ cJJ tq (f2 0) (f2 1) (f2 2) G2 U2 (f2 3) (f2 4) (f2 5) (fun _ => 0) (fun _ => 0) (f2 6) (f2 7) (f2 8) (fun _ => 0) (fun _ => 0) (f2 9) (f2 10) (f2 11) (fun _ => 0) (fun _ => 0) (f2 12) kr2 (fun _ _ => 0) 0 sw2 tp2 (f2 13) (f2 14) P 0 (f2 15) (f2 16) (fun _ => 0) (f2 17) (f2 18) (f2 19) (fun _ => 0) (fun _ => 0) (f2 20) (f2 21) (f2 22) (fun _ => 0) (fun _ => 0) (f2 23) (f2 24) (f2 25) (f2 26) er2 n E DG tr2 (fun _ _ => 0) j q _ (by omega) (hj) (q_ge hq1) (q_le40 hq2) (c163)) (cwV 2 hts gL_law_X4_drop rfl rfl rfl (by decide +kernel) ⟨Nat.le_of_ble_eq_true rfl, Nat.le_of_ble_eq_true rfl⟩) hK hP hD hS hA (List.range' 45 45) (by exact sw_V2) rfl 45 kX4 rfl rfl rfl rfl rfl hl.1 (Nat.le_of_ble_eq_true rfl) dL_law_183 ⟨Nat.le_of_ble_eq_true rfl, Nat.le_of_ble_eq_true rfl⟩ (fun H locs hP hD hS => ?_)
      have hP : va_P (dC, dI) vwCl (wV tp f er tr kr cI cII cJ cJJ n E DG (upd G1 j (G1 j + q)) U1 sw1 tp1 C1 P ++ wV tq f2 er2 tr2 kr2 cI cII cJ cJJ n E DG (upd G2 j (G2 j + q)) U2 sw2 tp2 (fun _ => 0) P) H := hP
      have hD : va_D (lwA s) (wV tp f er tr kr cI cII cJ cJJ n E DG (upd G1 j (G1 j + q)) U1 sw1 tp1 C1 P ++ wV tq f2 er2 tr2 kr2 cI cII cJ cJJ n E DG (upd G2 j (G2 j + q)) U2 sw2 tp2 (fun _ => 0) P) := hD
      refine lv_pop hx hb dL_law_186 rfl ?_
      refine lv_iload hx hb dL_law_187 (lv_at hl 5 rfl) ?_
      refine lv_iload hx hb dL_law_189 (lv_at hl 0 rfl) ?_
      refine lv_iadd hx hb dL_law_191 ?_
      refine lv_istore (lv' := [(4, .int (dr + q)), (9, .int q), (8, .int (nI j)), (7, .int x), (6, .int (nI t)), (5, .int pd), (3, .int (nI n)), (2, .ref tq), (1, .ref tp), (0, .ref b)]) hx hb dL_law_192 hl (by decide) rfl (fun ls hl => ?_)
      refine lv_goto (tgt := 389) hx hb dL_law_194 (by decide) ?_
      exact K (upd G1 j (G1 j + q)) U1 (upd G2 j (G2 j + q)) U2 C1 sw1 tp1 sw2 tp2 (dr + q) pd (inv_drop hXm I (by omega) hj hq1 hq2) H locs ls hP hD hS (lv_sub hl [4, 5, 0, 6, 7, 8, 9] rfl)
    · skip
      refine lv_goto (tgt := 389) hx hb dL_law_166 (by decide) ?_
      exact K G1 U1 G2 U2 C1 sw1 tp1 sw2 tp2 dr pd (inv_later I (Nat.le_succ t)) H locs ls hP hD hS (lv_sub hl [3, 4, 5, 6, 7, 8, 9] rfl)

set_option maxHeartbeats 4000000 in
set_option maxRecDepth 100000 in
theorem law_197 {p : Program} {l : Launch} {e : Env} {s : State} {m : MethodId} {below : List Frame} {meth : Method} {c : Code} {b L : Nat} {xs : Nat → Int32} (C0 : lw_At p s m meth c b L xs) {dC : Nat → ClassId} {dI : Nat → Nat → Nat} {cI cII cJ cJJ : ClassId} {tp tq : Nat} {f f2 : Nat → Nat} {er tr kr er2 tr2 kr2 : Nat → Nat} (hK : va_K (dC, dI) vwCl (tyL cI cII cJ cJJ) s) {n : Nat} {E : V2} {DG P : V1} (hn0 : 0 < n) (hn : n ≤ 5) (M9 : MOK n n E DG) {t : Nat} {q x : Int32} {j : Nat} (hj : j < n) (hq1 : 1 ≤ q.toInt) (hq2 : q.toInt ≤ 25) (ht : t < 50) (K : ∀ (G1 U1 G2 U2 C1 : V1) (sw1 tp1 sw2 tp2 dr pd : Int32), LInv n E DG (t + 1) G1 G2 sw1 tp1 sw2 tp2 dr C1 pd → ∀ (H : Heap) (locs : List Loc) (ls : Array Slot), va_P (dC, dI) vwCl (wV tp f er tr kr cI cII cJ cJJ n E DG G1 U1 sw1 tp1 C1 P ++ wV tq f2 er2 tr2 kr2 cI cII cJ cJJ n E DG G2 U2 sw2 tp2 (fun _ => 0) P) H → va_D (lwA s) (wV tp f er tr kr cI cII cJ cJJ n E DG G1 U1 sw1 tp1 C1 P ++ wV tq f2 er2 tr2 kr2 cI cII cJ cJJ n E DG G2 U2 sw2 tp2 (fun _ => 0) P) → va_S (lwA s) s.heap H locs → lv_has ls 12 [(6, .int (nI t)), (5, .int pd), (4, .int dr), (3, .int (nI n)), (2, .ref tq), (1, .ref tp), (0, .ref b)] → W p l e room_1 s m #[Value.ref b] below meth c H locs 1000 10000 (lw_Z below #[Value.ref b] s) (F0 m 389 ls [])) {G1 U1 G2 U2 C1 : V1} {sw1 tp1 sw2 tp2 dr pd : Int32} (I : LInv n E DG t G1 G2 sw1 tp1 sw2 tp2 dr C1 pd) {H : Heap} {locs : List Loc} {ls : Array Slot} (hP : va_P (dC, dI) vwCl (wV tp f er tr kr cI cII cJ cJJ n E DG G1 U1 sw1 tp1 C1 P ++ wV tq f2 er2 tr2 kr2 cI cII cJ cJJ n E DG G2 U2 sw2 tp2 (fun _ => 0) P) H) (hD : va_D (lwA s) (wV tp f er tr kr cI cII cJ cJJ n E DG G1 U1 sw1 tp1 C1 P ++ wV tq f2 er2 tr2 kr2 cI cII cJ cJJ n E DG G2 U2 sw2 tp2 (fun _ => 0) P)) (hS : va_S (lwA s) s.heap H locs) (hl : lv_has ls 12 [(9, .int q), (8, .int (nI j)), (7, .int x), (6, .int (nI t)), (5, .int pd), (4, .int dr), (3, .int (nI n)), (2, .ref tq), (1, .ref tp), (0, .ref b)]) : W p l e room_1 s m #[Value.ref b] below meth c H locs 1000 10000 (lw_Z below #[Value.ref b] s) (F0 m 197 ls []) := by
  obtain ⟨hx, hb, hr, hml, hown, hts0, hX, hbl, hlocks, hgv⟩ := id C0
  have hA : ∀ q : Nat, s.heap.size ≤ q → (lwA s) q := fun _ h => h
  have hbA : ¬ (lwA s) b := Nat.not_le.mpr hbl
  have hts : ∀ w ∈ wsL_law, w.before #[Value.ref b] s = true := fun w h => hts0 w (wsL_law_in w h)
  obtain ⟨hXm, hCm⟩ := mok_moor M9 (show n ≤ 6 by omega)
  refine lv_iload_n hx hb dL_law_197 rfl (lv_at hl 6 rfl) ?_
  refine lv_iconst (v := nI 1) hx hb dL_law_198 (by decide) ?_
  refine lv_isub hx hb dL_law_199 ?_
  refine lv_istore (lv' := [(10, .int ((nI n) - (nI 1))), (9, .int q), (8, .int (nI j)), (7, .int x), (6, .int (nI t)), (5, .int pd), (4, .int dr), (3, .int (nI n)), (2, .ref tq), (1, .ref tp), (0, .ref b)]) hx hb dL_law_200 hl (by decide) rfl (fun ls hl => ?_)
  refine kt_loop (σ := Nat × V1 × Int32 × Int32) (μ := fun x => x.1) (I := fun x => x.1 ≤ n ∧ LInv n E DG t G1 x.2.1 sw1 tp1 x.2.2.1 x.2.2.2 dr C1 pd) (WD := fun x => wV tp f er tr kr cI cII cJ cJJ n E DG G1 U1 sw1 tp1 C1 P ++ wV tq f2 er2 tr2 kr2 cI cII cJ cJJ n E DG x.2.1 U2 x.2.2.1 x.2.2.2 (fun _ => 0) P) (LV := fun x => [(10, .int (nI x.1 - nI 1)), (6, .int (nI t)), (5, .int pd), (4, .int dr), (3, .int (nI n)), (2, .ref tq), (1, .ref tp), (0, .ref b)]) (nL := 12) (hd := 202) ?_ (n, G2, sw2, tp2) ⟨Nat.le_refl n, I⟩ hP hD hS (lv_sub hl [0, 4, 5, 6, 7, 8, 9, 10] rfl)
  intro x hI ihk H locs ls hP hD hS hl
  obtain ⟨i, Gk, swk, tpk⟩ := x
  obtain ⟨hi, I2⟩ : i ≤ n ∧ LInv n E DG t G1 Gk sw1 tp1 swk tpk dr C1 pd := hI
  have hP : va_P (dC, dI) vwCl (wV tp f er tr kr cI cII cJ cJJ n E DG G1 U1 sw1 tp1 C1 P ++ wV tq f2 er2 tr2 kr2 cI cII cJ cJJ n E DG Gk U2 swk tpk (fun _ => 0) P) H := hP
  have hD : va_D (lwA s) (wV tp f er tr kr cI cII cJ cJJ n E DG G1 U1 sw1 tp1 C1 P ++ wV tq f2 er2 tr2 kr2 cI cII cJ cJJ n E DG Gk U2 swk tpk (fun _ => 0) P) := hD
  have hl : lv_has ls 12 [(10, .int (nI i - nI 1)), (6, .int (nI t)), (5, .int pd), (4, .int dr), (3, .int (nI n)), (2, .ref tq), (1, .ref tp), (0, .ref b)] := hl
  refine lv_iload hx hb dL_law_202 (lv_at hl 0 rfl) ?_
  refine lv_if_lt (tgt := 231) hx hb dL_law_204 (by decide) (fun c204 => ?_) (fun c204 => ?_)
  · skip
    refine lv_goto (tgt := 389) hx hb dL_law_231 (by decide) ?_
    exact K G1 U1 Gk U2 C1 sw1 tp1 swk tpk dr pd (inv_later I2 (Nat.le_succ t)) H locs ls hP hD hS (lv_sub hl [1, 2, 3, 4, 5, 6, 7] rfl)
  · obtain ⟨k, rfl, ek⟩ := down_k (by omega) c204
    rw [ek] at hl
    have hl : lv_has ls 12 [(10, .int (nI k)), (6, .int (nI t)), (5, .int pd), (4, .int dr), (3, .int (nI n)), (2, .ref tq), (1, .ref tp), (0, .ref b)] := hl
    refine lv_aload_n hx hb dL_law_207 rfl (lv_at hl 5 rfl) ?_
    refine lv_iload hx hb dL_law_208 (lv_at hl 0 rfl) ?_
    refine lv_iconst (v := nI 4) hx hb dL_law_210 (by decide) ?_
    refine kt_calli (w' := wV tp f er tr kr cI cII cJ cJJ n E DG G1 U1 sw1 tp1 C1 P ++ wV tq f2 er2 tr2 kr2 cI cII cJ cJJ n E DG Gk U2 swk tpk (fun _ => 0) P) (rest := []) (As := [.int (nI k), .int (nI 4)]) ⟨hx, hb, hml, hown, hts⟩ (c_X4_ofSpot l dC dI cI cII cJ cJJ tq (f2 0) (f2 1) (f2 2) Gk U2 (f2 3) (f2 4) (f2 5) (fun _ => 0) (fun _ => 0) (f2 6) (f2 7) (f2 8) (fun _ => 0) (fun _ => 0) (f2 9) (f2 10) (f2 11) (fun _ => 0) (fun _ => 0) (f2 12) kr2 (fun _ _ => 0) 0 swk tpk (f2 13) (f2 14) P 0 (f2 15) (f2 16) (fun _ => 0) (f2 17) (f2 18) (f2 19) (fun _ => 0) (fun _ => 0) (f2 20) (f2 21) (f2 22) (fun _ => 0) (fun _ => 0) (f2 23) (f2 24) (f2 25) (f2 26) er2 n E DG tr2 (fun _ _ => 0) k 4 _ (by omega) (by omega) (by omega)) (cwV 2 hts gL_law_X4_ofSpot rfl rfl rfl (by decide +kernel) ⟨Nat.le_of_ble_eq_true rfl, Nat.le_of_ble_eq_true rfl⟩) hK hP hD hS hA (List.range' 45 45) (by exact sw_V2) rfl 45 kX4 rfl rfl rfl rfl rfl hl.1 (Nat.le_of_ble_eq_true rfl) dL_law_211 ⟨Nat.le_of_ble_eq_true rfl, Nat.le_of_ble_eq_true rfl⟩ (fun H locs hP hD hS => ?_)
    have hP : va_P (dC, dI) vwCl (wV tp f er tr kr cI cII cJ cJJ n E DG G1 U1 sw1 tp1 C1 P ++ wV tq f2 er2 tr2 kr2 cI cII cJ cJJ n E DG Gk U2 swk tpk (fun _ => 0) P) H := hP
    have hD : va_D (lwA s) (wV tp f er tr kr cI cII cJ cJJ n E DG G1 U1 sw1 tp1 C1 P ++ wV tq f2 er2 tr2 kr2 cI cII cJ cJJ n E DG Gk U2 swk tpk (fun _ => 0) P) := hD
    refine lv_iconst (v := nI 1) hx hb dL_law_214 (by decide) ?_
    refine lv_icmp_ne (tgt := 225) hx hb dL_law_215 (by decide) (fun c215 => ?_) (fun c215 => ?_)
    · skip
      refine lv_iinc (v := nI k - nI 1) (lv' := [(10, .int (nI k - nI 1)), (6, .int (nI t)), (5, .int pd), (4, .int dr), (3, .int (nI n)), (2, .ref tq), (1, .ref tp), (0, .ref b)]) hx hb dL_law_225 hl (k := 0) rfl (dec_k k) (by decide) rfl (fun ls hl => ?_)
      refine lv_goto (tgt := 202) hx hb dL_law_228 (by decide) ?_
      exact ihk (k, Gk, swk, tpk) H locs ls (Nat.lt_succ_self k) ⟨by show k ≤ n; omega, I2⟩ hP hD hS (lv_sub hl [0, 1, 2, 3, 4, 5, 6, 7] rfl)
    · skip
      refine lv_aload_n hx hb dL_law_218 rfl (lv_at hl 5 rfl) ?_
      refine lv_iload hx hb dL_law_219 (lv_at hl 0 rfl) ?_
      refine kt_calli (w' := wV tp f er tr kr cI cII cJ cJJ n E DG G1 U1 sw1 tp1 C1 P ++ wV tq f2 er2 tr2 kr2 cI cII cJ cJJ n E DG (tipG n E DG k 1 Gk) U2 (swk + E k 6) (tpk + 1) (fun _ => 0) P) (rest := []) (As := [.int (nI k)]) ⟨hx, hb, hml, hown, hts⟩ (c_X4_topple l dC dI cI cII cJ cJJ tq (f2 0) (f2 1) (f2 2) Gk U2 (f2 3) (f2 4) (f2 5) (fun _ => 0) (fun _ => 0) (f2 6) (f2 7) (f2 8) (fun _ => 0) (fun _ => 0) (f2 9) (f2 10) (f2 11) (fun _ => 0) (fun _ => 0) (f2 12) kr2 (fun _ _ => 0) 0 swk tpk (f2 13) (f2 14) P 0 (f2 15) (f2 16) (fun _ => 0) (f2 17) (f2 18) (f2 19) (fun _ => 0) (fun _ => 0) (f2 20) (f2 21) (f2 22) (fun _ => 0) (fun _ => 0) (f2 23) (f2 24) (f2 25) (f2 26) er2 n E DG tr2 (fun _ _ => 0) k _ (by omega) (by omega) (steep_1 c215)) (cwV 1 hts gL_law_X4_topple rfl rfl rfl (by decide +kernel) ⟨Nat.le_of_ble_eq_true rfl, Nat.le_of_ble_eq_true rfl⟩) hK hP hD hS hA (List.range' 45 45) (by exact sw_V2) rfl 45 kX4 rfl rfl rfl rfl rfl hl.1 (Nat.le_of_ble_eq_true rfl) dL_law_221 ⟨Nat.le_of_ble_eq_true rfl, Nat.le_of_ble_eq_true rfl⟩ (fun H locs hP hD hS => ?_)
      have hP : va_P (dC, dI) vwCl (wV tp f er tr kr cI cII cJ cJJ n E DG G1 U1 sw1 tp1 C1 P ++ wV tq f2 er2 tr2 kr2 cI cII cJ cJJ n E DG (tipG n E DG k 1 Gk) U2 (swk + E k 6) (tpk + 1) (fun _ => 0) P) H := hP
      have hD : va_D (lwA s) (wV tp f er tr kr cI cII cJ cJJ n E DG G1 U1 sw1 tp1 C1 P ++ wV tq f2 er2 tr2 kr2 cI cII cJ cJJ n E DG (tipG n E DG k 1 Gk) U2 (swk + E k 6) (tpk + 1) (fun _ => 0) P) := hD
      refine lv_pop hx hb dL_law_224 rfl ?_
      refine lv_iinc (v := nI k - nI 1) (lv' := [(10, .int (nI k - nI 1)), (6, .int (nI t)), (5, .int pd), (4, .int dr), (3, .int (nI n)), (2, .ref tq), (1, .ref tp), (0, .ref b)]) hx hb dL_law_225 hl (k := 0) rfl (dec_k k) (by decide) rfl (fun ls hl => ?_)
      refine lv_goto (tgt := 202) hx hb dL_law_228 (by decide) ?_
      exact ihk (k, (tipG n E DG k 1 Gk), (swk + E k 6), (tpk + 1)) H locs ls (Nat.lt_succ_self k) ⟨by show k ≤ n; omega, inv_top hXm I2 (by omega) (by omega) (steep_1 c215)⟩ hP hD hS (lv_sub hl [0, 1, 2, 3, 4, 5, 6, 7] rfl)

set_option maxHeartbeats 4000000 in
set_option maxRecDepth 100000 in
theorem law_234 {p : Program} {l : Launch} {e : Env} {s : State} {m : MethodId} {below : List Frame} {meth : Method} {c : Code} {b L : Nat} {xs : Nat → Int32} (C0 : lw_At p s m meth c b L xs) {dC : Nat → ClassId} {dI : Nat → Nat → Nat} {cI cII cJ cJJ : ClassId} {tp tq : Nat} {f f2 : Nat → Nat} {er tr kr er2 tr2 kr2 : Nat → Nat} (hK : va_K (dC, dI) vwCl (tyL cI cII cJ cJJ) s) {n : Nat} {E : V2} {DG P : V1} (hn0 : 0 < n) (hn : n ≤ 5) (M9 : MOK n n E DG) {t : Nat} {q x : Int32} {j : Nat} (hj : j < n) (hq1 : 1 ≤ q.toInt) (hq2 : q.toInt ≤ 25) (ht : t < 50) (K : ∀ (G1 U1 G2 U2 C1 : V1) (sw1 tp1 sw2 tp2 dr pd : Int32), LInv n E DG (t + 1) G1 G2 sw1 tp1 sw2 tp2 dr C1 pd → ∀ (H : Heap) (locs : List Loc) (ls : Array Slot), va_P (dC, dI) vwCl (wV tp f er tr kr cI cII cJ cJJ n E DG G1 U1 sw1 tp1 C1 P ++ wV tq f2 er2 tr2 kr2 cI cII cJ cJJ n E DG G2 U2 sw2 tp2 (fun _ => 0) P) H → va_D (lwA s) (wV tp f er tr kr cI cII cJ cJJ n E DG G1 U1 sw1 tp1 C1 P ++ wV tq f2 er2 tr2 kr2 cI cII cJ cJJ n E DG G2 U2 sw2 tp2 (fun _ => 0) P) → va_S (lwA s) s.heap H locs → lv_has ls 12 [(6, .int (nI t)), (5, .int pd), (4, .int dr), (3, .int (nI n)), (2, .ref tq), (1, .ref tp), (0, .ref b)] → W p l e room_1 s m #[Value.ref b] below meth c H locs 1000 10000 (lw_Z below #[Value.ref b] s) (F0 m 389 ls [])) {G1 U1 G2 U2 C1 : V1} {sw1 tp1 sw2 tp2 dr pd : Int32} (I : LInv n E DG t G1 G2 sw1 tp1 sw2 tp2 dr C1 pd) {H : Heap} {locs : List Loc} {ls : Array Slot} (hP : va_P (dC, dI) vwCl (wV tp f er tr kr cI cII cJ cJJ n E DG G1 U1 sw1 tp1 C1 P ++ wV tq f2 er2 tr2 kr2 cI cII cJ cJJ n E DG G2 U2 sw2 tp2 (fun _ => 0) P) H) (hD : va_D (lwA s) (wV tp f er tr kr cI cII cJ cJJ n E DG G1 U1 sw1 tp1 C1 P ++ wV tq f2 er2 tr2 kr2 cI cII cJ cJJ n E DG G2 U2 sw2 tp2 (fun _ => 0) P)) (hS : va_S (lwA s) s.heap H locs) (hl : lv_has ls 12 [(9, .int q), (8, .int (nI j)), (7, .int x), (6, .int (nI t)), (5, .int pd), (4, .int dr), (3, .int (nI n)), (2, .ref tq), (1, .ref tp), (0, .ref b)]) : W p l e room_1 s m #[Value.ref b] below meth c H locs 1000 10000 (lw_Z below #[Value.ref b] s) (F0 m 234 ls []) := by
  obtain ⟨hx, hb, hr, hml, hown, hts0, hX, hbl, hlocks, hgv⟩ := id C0
  have hA : ∀ q : Nat, s.heap.size ≤ q → (lwA s) q := fun _ h => h
  have hbA : ¬ (lwA s) b := Nat.not_le.mpr hbl
  have hts : ∀ w ∈ wsL_law, w.before #[Value.ref b] s = true := fun w h => hts0 w (wsL_law_in w h)
  obtain ⟨hXm, hCm⟩ := mok_moor M9 (show n ≤ 6 by omega)
  refine lv_iload hx hb dL_law_234 (lv_at hl 2 rfl) ?_
  refine lv_iconst (v := nI 5) hx hb dL_law_236 (by decide) ?_
  refine lv_ishr hx hb dL_law_237 ?_
  refine lv_bipush (v := nI 13) hx hb dL_law_238 (by decide) ?_
  refine kt_callSi (w' := wV tp f er tr kr cI cII cJ cJJ n E DG G1 U1 sw1 tp1 C1 P ++ wV tq f2 er2 tr2 kr2 cI cII cJ cJJ n E DG G2 U2 sw2 tp2 (fun _ => 0) P) (rest := []) (As := [.int (x >>> ((nI 5) &&& 31)), .int (nI 13)]) ⟨hx, hb, hml, hown, hts⟩ (c_L_below l dC dI cI cII cJ cJJ (x >>> ((nI 5) &&& 31)) 13 _ (by omega) (by omega)) (va_cwS 2 hts gL_law_L_below rfl rfl rfl (by decide +kernel) ⟨Nat.le_of_ble_eq_true rfl, Nat.le_of_ble_eq_true rfl⟩) hK hP hD hS hA [] (kt_sw_nil _) rfl rfl rfl hl.1 (Nat.le_of_ble_eq_true rfl) dL_law_240 ⟨Nat.le_of_ble_eq_true rfl, Nat.le_of_ble_eq_true rfl⟩ (fun H locs hP hD hS => ?_)
  obtain ⟨y, hy, ey⟩ := belowF_spec (x >>> ((nI 5) &&& 31)) (show 0 < 13 by omega) (by omega)
  refine lv_topi (fun z1 ez1 => ?_)
  have ez1 : z1 = nI y := ez1.trans (ey)
  subst ez1
  refine lv_bipush (v := nI 6) hx hb dL_law_243 (by decide) ?_
  refine lv_isub hx hb dL_law_245 ?_
  refine lv_topi (fun v ev => ?_)
  obtain ⟨hv1, hv2⟩ : -6 ≤ v.toInt ∧ v.toInt ≤ 6 := by rw [ev]; exact pay_6 hy
  refine lv_istore (lv' := [(10, .int v), (9, .int q), (8, .int (nI j)), (7, .int x), (6, .int (nI t)), (5, .int pd), (4, .int dr), (3, .int (nI n)), (2, .ref tq), (1, .ref tp), (0, .ref b)]) hx hb dL_law_246 hl (by decide) rfl (fun ls hl => ?_)
  refine lv_aload_n hx hb dL_law_248 rfl (lv_at hl 9 rfl) ?_
  refine lv_iload hx hb dL_law_249 (lv_at hl 2 rfl) ?_
  refine lv_iload hx hb dL_law_251 (lv_at hl 0 rfl) ?_
  refine kt_calli (w' := wV tp f er tr kr cI cII cJ cJJ n E DG G1 U1 sw1 tp1 (upd C1 j (C1 j + v)) P ++ wV tq f2 er2 tr2 kr2 cI cII cJ cJJ n E DG G2 U2 sw2 tp2 (fun _ => 0) P) (rest := []) (As := [.int (nI j), .int v]) ⟨hx, hb, hml, hown, hts⟩ (c_X4_pay l dC dI cI cII cJ cJJ tp (f 0) (f 1) (f 2) G1 U1 (f 3) (f 4) (f 5) (fun _ => 0) (fun _ => 0) (f 6) (f 7) (f 8) (fun _ => 0) (fun _ => 0) (f 9) (f 10) (f 11) (fun _ => 0) (fun _ => 0) (f 12) kr (fun _ _ => 0) 0 sw1 tp1 (f 13) (f 14) P 0 (f 15) (f 16) C1 (f 17) (f 18) (f 19) (fun _ => 0) (fun _ => 0) (f 20) (f 21) (f 22) (fun _ => 0) (fun _ => 0) (f 23) (f 24) (f 25) (f 26) er n E DG tr (fun _ _ => 0) j v _ (by omega) (Or.inl hj) (q_9 hv1) (q_m9 hv2)) (cwV 2 hts gL_law_X4_pay rfl rfl rfl (by decide +kernel) ⟨Nat.le_of_ble_eq_true rfl, Nat.le_of_ble_eq_true rfl⟩) hK hP hD hS hA (List.range' 0 45) (by exact sw_V1) rfl 0 kX4 rfl rfl rfl rfl rfl hl.1 (Nat.le_of_ble_eq_true rfl) dL_law_253 ⟨Nat.le_of_ble_eq_true rfl, Nat.le_of_ble_eq_true rfl⟩ (fun H locs hP hD hS => ?_)
  have hP : va_P (dC, dI) vwCl (wV tp f er tr kr cI cII cJ cJJ n E DG G1 U1 sw1 tp1 (upd C1 j (C1 j + v)) P ++ wV tq f2 er2 tr2 kr2 cI cII cJ cJJ n E DG G2 U2 sw2 tp2 (fun _ => 0) P) H := hP
  have hD : va_D (lwA s) (wV tp f er tr kr cI cII cJ cJJ n E DG G1 U1 sw1 tp1 (upd C1 j (C1 j + v)) P ++ wV tq f2 er2 tr2 kr2 cI cII cJ cJJ n E DG G2 U2 sw2 tp2 (fun _ => 0) P) := hD
  refine lv_pop hx hb dL_law_256 rfl ?_
  refine lv_iload hx hb dL_law_257 (lv_at hl 5 rfl) ?_
  refine lv_iload hx hb dL_law_259 (lv_at hl 0 rfl) ?_
  refine lv_iadd hx hb dL_law_261 ?_
  refine lv_istore (lv' := [(5, .int (pd + v)), (10, .int v), (9, .int q), (8, .int (nI j)), (7, .int x), (6, .int (nI t)), (4, .int dr), (3, .int (nI n)), (2, .ref tq), (1, .ref tp), (0, .ref b)]) hx hb dL_law_262 hl (by decide) rfl (fun ls hl => ?_)
  refine lv_aload_n hx hb dL_law_264 rfl (lv_at hl 9 rfl) ?_
  refine lv_iload hx hb dL_law_265 (lv_at hl 4 rfl) ?_
  refine lv_iconst (v := nI 3) hx hb dL_law_267 (by decide) ?_
  refine lv_ishr hx hb dL_law_268 ?_
  refine lv_iconst (v := nI 2) hx hb dL_law_269 (by decide) ?_
  refine kt_callSi (w' := wV tp f er tr kr cI cII cJ cJJ n E DG G1 U1 sw1 tp1 (upd C1 j (C1 j + v)) P ++ wV tq f2 er2 tr2 kr2 cI cII cJ cJJ n E DG G2 U2 sw2 tp2 (fun _ => 0) P) (rest := [.ref tp]) (As := [.int (x >>> ((nI 3) &&& 31)), .int (nI 2)]) ⟨hx, hb, hml, hown, hts⟩ (c_L_below l dC dI cI cII cJ cJJ (x >>> ((nI 3) &&& 31)) 2 _ (by omega) (by omega)) (va_cwS 2 hts gL_law_L_below rfl rfl rfl (by decide +kernel) ⟨Nat.le_of_ble_eq_true rfl, Nat.le_of_ble_eq_true rfl⟩) hK hP hD hS hA [] (kt_sw_nil _) rfl rfl rfl hl.1 (Nat.le_of_ble_eq_true rfl) dL_law_270 ⟨Nat.le_of_ble_eq_true rfl, Nat.le_of_ble_eq_true rfl⟩ (fun H locs hP hD hS => ?_)
  refine lv_if_ne (tgt := 281) hx hb dL_law_273 (by decide) (fun c273 => ?_) (fun c273 => ?_)
  · skip
    refine lv_iload hx hb dL_law_281 (lv_at hl 3 rfl) ?_
    refine lv_iload hx hb dL_law_283 (lv_at hl 4 rfl) ?_
    refine lv_bipush (v := nI 6) hx hb dL_law_285 (by decide) ?_
    refine lv_ishr hx hb dL_law_287 ?_
    refine lv_iconst (v := nI 2) hx hb dL_law_288 (by decide) ?_
    refine kt_callSi (w' := wV tp f er tr kr cI cII cJ cJJ n E DG G1 U1 sw1 tp1 (upd C1 j (C1 j + v)) P ++ wV tq f2 er2 tr2 kr2 cI cII cJ cJJ n E DG G2 U2 sw2 tp2 (fun _ => 0) P) (rest := [.int (nI j), .ref tp]) (As := [.int (x >>> ((nI 6) &&& 31)), .int (nI 2)]) ⟨hx, hb, hml, hown, hts⟩ (c_L_below l dC dI cI cII cJ cJJ (x >>> ((nI 6) &&& 31)) 2 _ (by omega) (by omega)) (va_cwS 2 hts gL_law_L_below rfl rfl rfl (by decide +kernel) ⟨Nat.le_of_ble_eq_true rfl, Nat.le_of_ble_eq_true rfl⟩) hK hP hD hS hA [] (kt_sw_nil _) rfl rfl rfl hl.1 (Nat.le_of_ble_eq_true rfl) dL_law_289 ⟨Nat.le_of_ble_eq_true rfl, Nat.le_of_ble_eq_true rfl⟩ (fun H locs hP hD hS => ?_)
    refine lv_if_ne (tgt := 299) hx hb dL_law_292 (by decide) (fun c292 => ?_) (fun c292 => ?_)
    · skip
      refine lv_iconst (v := nI 0) hx hb dL_law_299 (by decide) ?_
      refine kt_calli (w' := wV tp f er tr kr cI cII cJ cJJ n E DG G1 U1 sw1 tp1 (giveC E DG j (if (nI 0) = 0 then 1 else -1) (upd C1 j (C1 j + v))) P ++ wV tq f2 er2 tr2 kr2 cI cII cJ cJJ n E DG G2 U2 sw2 tp2 (fun _ => 0) P) (rest := []) (As := [.int (nI j), .int (nI 0)]) ⟨hx, hb, hml, hown, hts⟩ (c_X4_lend l dC dI cI cII cJ cJJ tp (f 0) (f 1) (f 2) G1 U1 (f 3) (f 4) (f 5) (fun _ => 0) (fun _ => 0) (f 6) (f 7) (f 8) (fun _ => 0) (fun _ => 0) (f 9) (f 10) (f 11) (fun _ => 0) (fun _ => 0) (f 12) kr (fun _ _ => 0) 0 sw1 tp1 (f 13) (f 14) P 0 (f 15) (f 16) (upd C1 j (C1 j + v)) (f 17) (f 18) (f 19) (fun _ => 0) (fun _ => 0) (f 20) (f 21) (f 22) (fun _ => 0) (fun _ => 0) (f 23) (f 24) (f 25) (f 26) er n E DG tr (fun _ _ => 0) j (nI 0) _ (by omega) (Or.inl hj)) (cwV 2 hts gL_law_X4_lend rfl rfl rfl (by decide +kernel) ⟨Nat.le_of_ble_eq_true rfl, Nat.le_of_ble_eq_true rfl⟩) hK hP hD hS hA (List.range' 0 45) (by exact sw_V1) rfl 0 kX4 rfl rfl rfl rfl rfl hl.1 (Nat.le_of_ble_eq_true rfl) dL_law_300 ⟨Nat.le_of_ble_eq_true rfl, Nat.le_of_ble_eq_true rfl⟩ (fun H locs hP hD hS => ?_)
      have hP : va_P (dC, dI) vwCl (wV tp f er tr kr cI cII cJ cJJ n E DG G1 U1 sw1 tp1 (giveC E DG j (if (nI 0) = 0 then 1 else -1) (upd C1 j (C1 j + v))) P ++ wV tq f2 er2 tr2 kr2 cI cII cJ cJJ n E DG G2 U2 sw2 tp2 (fun _ => 0) P) H := hP
      have hD : va_D (lwA s) (wV tp f er tr kr cI cII cJ cJJ n E DG G1 U1 sw1 tp1 (giveC E DG j (if (nI 0) = 0 then 1 else -1) (upd C1 j (C1 j + v))) P ++ wV tq f2 er2 tr2 kr2 cI cII cJ cJJ n E DG G2 U2 sw2 tp2 (fun _ => 0) P) := hD
      refine lv_pop hx hb dL_law_303 rfl ?_
      refine lv_goto (tgt := 389) hx hb dL_law_304 (by decide) ?_
      exact K G1 U1 G2 U2 (giveC E DG j (if (nI 0) = 0 then 1 else -1) (upd C1 j (C1 j + v))) sw1 tp1 sw2 tp2 dr (pd + v) (inv_lend (inv_pay I (by omega) (show j < 7 by omega) hv1 hv2) (show j < 7 by omega) (M9.2.2.2.1 j (by omega))) H locs ls hP hD hS (lv_sub hl [5, 0, 6, 7, 8, 9, 10] rfl)
    · skip
      refine lv_iconst (v := nI 1) hx hb dL_law_295 (by decide) ?_
      refine lv_goto (tgt := 300) hx hb dL_law_296 (by decide) ?_
      refine kt_calli (w' := wV tp f er tr kr cI cII cJ cJJ n E DG G1 U1 sw1 tp1 (giveC E DG j (if (nI 1) = 0 then 1 else -1) (upd C1 j (C1 j + v))) P ++ wV tq f2 er2 tr2 kr2 cI cII cJ cJJ n E DG G2 U2 sw2 tp2 (fun _ => 0) P) (rest := []) (As := [.int (nI j), .int (nI 1)]) ⟨hx, hb, hml, hown, hts⟩ (c_X4_lend l dC dI cI cII cJ cJJ tp (f 0) (f 1) (f 2) G1 U1 (f 3) (f 4) (f 5) (fun _ => 0) (fun _ => 0) (f 6) (f 7) (f 8) (fun _ => 0) (fun _ => 0) (f 9) (f 10) (f 11) (fun _ => 0) (fun _ => 0) (f 12) kr (fun _ _ => 0) 0 sw1 tp1 (f 13) (f 14) P 0 (f 15) (f 16) (upd C1 j (C1 j + v)) (f 17) (f 18) (f 19) (fun _ => 0) (fun _ => 0) (f 20) (f 21) (f 22) (fun _ => 0) (fun _ => 0) (f 23) (f 24) (f 25) (f 26) er n E DG tr (fun _ _ => 0) j (nI 1) _ (by omega) (Or.inl hj)) (cwV 2 hts gL_law_X4_lend rfl rfl rfl (by decide +kernel) ⟨Nat.le_of_ble_eq_true rfl, Nat.le_of_ble_eq_true rfl⟩) hK hP hD hS hA (List.range' 0 45) (by exact sw_V1) rfl 0 kX4 rfl rfl rfl rfl rfl hl.1 (Nat.le_of_ble_eq_true rfl) dL_law_300 ⟨Nat.le_of_ble_eq_true rfl, Nat.le_of_ble_eq_true rfl⟩ (fun H locs hP hD hS => ?_)
      have hP : va_P (dC, dI) vwCl (wV tp f er tr kr cI cII cJ cJJ n E DG G1 U1 sw1 tp1 (giveC E DG j (if (nI 1) = 0 then 1 else -1) (upd C1 j (C1 j + v))) P ++ wV tq f2 er2 tr2 kr2 cI cII cJ cJJ n E DG G2 U2 sw2 tp2 (fun _ => 0) P) H := hP
      have hD : va_D (lwA s) (wV tp f er tr kr cI cII cJ cJJ n E DG G1 U1 sw1 tp1 (giveC E DG j (if (nI 1) = 0 then 1 else -1) (upd C1 j (C1 j + v))) P ++ wV tq f2 er2 tr2 kr2 cI cII cJ cJJ n E DG G2 U2 sw2 tp2 (fun _ => 0) P) := hD
      refine lv_pop hx hb dL_law_303 rfl ?_
      refine lv_goto (tgt := 389) hx hb dL_law_304 (by decide) ?_
      exact K G1 U1 G2 U2 (giveC E DG j (if (nI 1) = 0 then 1 else -1) (upd C1 j (C1 j + v))) sw1 tp1 sw2 tp2 dr (pd + v) (inv_lend (inv_pay I (by omega) (show j < 7 by omega) hv1 hv2) (show j < 7 by omega) (M9.2.2.2.1 j (by omega))) H locs ls hP hD hS (lv_sub hl [5, 0, 6, 7, 8, 9, 10] rfl)
  · skip
    refine lv_bipush (v := nI 6) hx hb dL_law_276 (by decide) ?_
    refine lv_goto (tgt := 283) hx hb dL_law_278 (by decide) ?_
    refine lv_iload hx hb dL_law_283 (lv_at hl 4 rfl) ?_
    refine lv_bipush (v := nI 6) hx hb dL_law_285 (by decide) ?_
    refine lv_ishr hx hb dL_law_287 ?_
    refine lv_iconst (v := nI 2) hx hb dL_law_288 (by decide) ?_
    refine kt_callSi (w' := wV tp f er tr kr cI cII cJ cJJ n E DG G1 U1 sw1 tp1 (upd C1 j (C1 j + v)) P ++ wV tq f2 er2 tr2 kr2 cI cII cJ cJJ n E DG G2 U2 sw2 tp2 (fun _ => 0) P) (rest := [.int (nI 6), .ref tp]) (As := [.int (x >>> ((nI 6) &&& 31)), .int (nI 2)]) ⟨hx, hb, hml, hown, hts⟩ (c_L_below l dC dI cI cII cJ cJJ (x >>> ((nI 6) &&& 31)) 2 _ (by omega) (by omega)) (va_cwS 2 hts gL_law_L_below rfl rfl rfl (by decide +kernel) ⟨Nat.le_of_ble_eq_true rfl, Nat.le_of_ble_eq_true rfl⟩) hK hP hD hS hA [] (kt_sw_nil _) rfl rfl rfl hl.1 (Nat.le_of_ble_eq_true rfl) dL_law_289 ⟨Nat.le_of_ble_eq_true rfl, Nat.le_of_ble_eq_true rfl⟩ (fun H locs hP hD hS => ?_)
    refine lv_if_ne (tgt := 299) hx hb dL_law_292 (by decide) (fun c292 => ?_) (fun c292 => ?_)
    · skip
      refine lv_iconst (v := nI 0) hx hb dL_law_299 (by decide) ?_
      refine kt_calli (w' := wV tp f er tr kr cI cII cJ cJJ n E DG G1 U1 sw1 tp1 (giveC E DG 6 (if (nI 0) = 0 then 1 else -1) (upd C1 j (C1 j + v))) P ++ wV tq f2 er2 tr2 kr2 cI cII cJ cJJ n E DG G2 U2 sw2 tp2 (fun _ => 0) P) (rest := []) (As := [.int (nI 6), .int (nI 0)]) ⟨hx, hb, hml, hown, hts⟩ (c_X4_lend l dC dI cI cII cJ cJJ tp (f 0) (f 1) (f 2) G1 U1 (f 3) (f 4) (f 5) (fun _ => 0) (fun _ => 0) (f 6) (f 7) (f 8) (fun _ => 0) (fun _ => 0) (f 9) (f 10) (f 11) (fun _ => 0) (fun _ => 0) (f 12) kr (fun _ _ => 0) 0 sw1 tp1 (f 13) (f 14) P 0 (f 15) (f 16) (upd C1 j (C1 j + v)) (f 17) (f 18) (f 19) (fun _ => 0) (fun _ => 0) (f 20) (f 21) (f 22) (fun _ => 0) (fun _ => 0) (f 23) (f 24) (f 25) (f 26) er n E DG tr (fun _ _ => 0) 6 (nI 0) _ (by omega) (Or.inr rfl)) (cwV 2 hts gL_law_X4_lend rfl rfl rfl (by decide +kernel) ⟨Nat.le_of_ble_eq_true rfl, Nat.le_of_ble_eq_true rfl⟩) hK hP hD hS hA (List.range' 0 45) (by exact sw_V1) rfl 0 kX4 rfl rfl rfl rfl rfl hl.1 (Nat.le_of_ble_eq_true rfl) dL_law_300 ⟨Nat.le_of_ble_eq_true rfl, Nat.le_of_ble_eq_true rfl⟩ (fun H locs hP hD hS => ?_)
      have hP : va_P (dC, dI) vwCl (wV tp f er tr kr cI cII cJ cJJ n E DG G1 U1 sw1 tp1 (giveC E DG 6 (if (nI 0) = 0 then 1 else -1) (upd C1 j (C1 j + v))) P ++ wV tq f2 er2 tr2 kr2 cI cII cJ cJJ n E DG G2 U2 sw2 tp2 (fun _ => 0) P) H := hP
      have hD : va_D (lwA s) (wV tp f er tr kr cI cII cJ cJJ n E DG G1 U1 sw1 tp1 (giveC E DG 6 (if (nI 0) = 0 then 1 else -1) (upd C1 j (C1 j + v))) P ++ wV tq f2 er2 tr2 kr2 cI cII cJ cJJ n E DG G2 U2 sw2 tp2 (fun _ => 0) P) := hD
      refine lv_pop hx hb dL_law_303 rfl ?_
      refine lv_goto (tgt := 389) hx hb dL_law_304 (by decide) ?_
      exact K G1 U1 G2 U2 (giveC E DG 6 (if (nI 0) = 0 then 1 else -1) (upd C1 j (C1 j + v))) sw1 tp1 sw2 tp2 dr (pd + v) (inv_lend (inv_pay I (by omega) (show j < 7 by omega) hv1 hv2) (show 6 < 7 by omega) (M9.2.2.2.1 6 (by omega))) H locs ls hP hD hS (lv_sub hl [5, 0, 6, 7, 8, 9, 10] rfl)
    · skip
      refine lv_iconst (v := nI 1) hx hb dL_law_295 (by decide) ?_
      refine lv_goto (tgt := 300) hx hb dL_law_296 (by decide) ?_
      refine kt_calli (w' := wV tp f er tr kr cI cII cJ cJJ n E DG G1 U1 sw1 tp1 (giveC E DG 6 (if (nI 1) = 0 then 1 else -1) (upd C1 j (C1 j + v))) P ++ wV tq f2 er2 tr2 kr2 cI cII cJ cJJ n E DG G2 U2 sw2 tp2 (fun _ => 0) P) (rest := []) (As := [.int (nI 6), .int (nI 1)]) ⟨hx, hb, hml, hown, hts⟩ (c_X4_lend l dC dI cI cII cJ cJJ tp (f 0) (f 1) (f 2) G1 U1 (f 3) (f 4) (f 5) (fun _ => 0) (fun _ => 0) (f 6) (f 7) (f 8) (fun _ => 0) (fun _ => 0) (f 9) (f 10) (f 11) (fun _ => 0) (fun _ => 0) (f 12) kr (fun _ _ => 0) 0 sw1 tp1 (f 13) (f 14) P 0 (f 15) (f 16) (upd C1 j (C1 j + v)) (f 17) (f 18) (f 19) (fun _ => 0) (fun _ => 0) (f 20) (f 21) (f 22) (fun _ => 0) (fun _ => 0) (f 23) (f 24) (f 25) (f 26) er n E DG tr (fun _ _ => 0) 6 (nI 1) _ (by omega) (Or.inr rfl)) (cwV 2 hts gL_law_X4_lend rfl rfl rfl (by decide +kernel) ⟨Nat.le_of_ble_eq_true rfl, Nat.le_of_ble_eq_true rfl⟩) hK hP hD hS hA (List.range' 0 45) (by exact sw_V1) rfl 0 kX4 rfl rfl rfl rfl rfl hl.1 (Nat.le_of_ble_eq_true rfl) dL_law_300 ⟨Nat.le_of_ble_eq_true rfl, Nat.le_of_ble_eq_true rfl⟩ (fun H locs hP hD hS => ?_)
      have hP : va_P (dC, dI) vwCl (wV tp f er tr kr cI cII cJ cJJ n E DG G1 U1 sw1 tp1 (giveC E DG 6 (if (nI 1) = 0 then 1 else -1) (upd C1 j (C1 j + v))) P ++ wV tq f2 er2 tr2 kr2 cI cII cJ cJJ n E DG G2 U2 sw2 tp2 (fun _ => 0) P) H := hP
      have hD : va_D (lwA s) (wV tp f er tr kr cI cII cJ cJJ n E DG G1 U1 sw1 tp1 (giveC E DG 6 (if (nI 1) = 0 then 1 else -1) (upd C1 j (C1 j + v))) P ++ wV tq f2 er2 tr2 kr2 cI cII cJ cJJ n E DG G2 U2 sw2 tp2 (fun _ => 0) P) := hD
      refine lv_pop hx hb dL_law_303 rfl ?_
      refine lv_goto (tgt := 389) hx hb dL_law_304 (by decide) ?_
      exact K G1 U1 G2 U2 (giveC E DG 6 (if (nI 1) = 0 then 1 else -1) (upd C1 j (C1 j + v))) sw1 tp1 sw2 tp2 dr (pd + v) (inv_lend (inv_pay I (by omega) (show j < 7 by omega) hv1 hv2) (show 6 < 7 by omega) (M9.2.2.2.1 6 (by omega))) H locs ls hP hD hS (lv_sub hl [5, 0, 6, 7, 8, 9, 10] rfl)

set_option maxHeartbeats 4000000 in
set_option maxRecDepth 100000 in
theorem law_307 {p : Program} {l : Launch} {e : Env} {s : State} {m : MethodId} {below : List Frame} {meth : Method} {c : Code} {b L : Nat} {xs : Nat → Int32} (C0 : lw_At p s m meth c b L xs) {dC : Nat → ClassId} {dI : Nat → Nat → Nat} {cI cII cJ cJJ : ClassId} {tp tq : Nat} {f f2 : Nat → Nat} {er tr kr er2 tr2 kr2 : Nat → Nat} (hK : va_K (dC, dI) vwCl (tyL cI cII cJ cJJ) s) {n : Nat} {E : V2} {DG P : V1} (hn0 : 0 < n) (hn : n ≤ 5) (M9 : MOK n n E DG) {t : Nat} {q x : Int32} {j : Nat} (hj : j < n) (hq1 : 1 ≤ q.toInt) (hq2 : q.toInt ≤ 25) (ht : t < 50) (K : ∀ (G1 U1 G2 U2 C1 : V1) (sw1 tp1 sw2 tp2 dr pd : Int32), LInv n E DG (t + 1) G1 G2 sw1 tp1 sw2 tp2 dr C1 pd → ∀ (H : Heap) (locs : List Loc) (ls : Array Slot), va_P (dC, dI) vwCl (wV tp f er tr kr cI cII cJ cJJ n E DG G1 U1 sw1 tp1 C1 P ++ wV tq f2 er2 tr2 kr2 cI cII cJ cJJ n E DG G2 U2 sw2 tp2 (fun _ => 0) P) H → va_D (lwA s) (wV tp f er tr kr cI cII cJ cJJ n E DG G1 U1 sw1 tp1 C1 P ++ wV tq f2 er2 tr2 kr2 cI cII cJ cJJ n E DG G2 U2 sw2 tp2 (fun _ => 0) P) → va_S (lwA s) s.heap H locs → lv_has ls 12 [(6, .int (nI t)), (5, .int pd), (4, .int dr), (3, .int (nI n)), (2, .ref tq), (1, .ref tp), (0, .ref b)] → W p l e room_1 s m #[Value.ref b] below meth c H locs 1000 10000 (lw_Z below #[Value.ref b] s) (F0 m 389 ls [])) {G1 U1 G2 U2 C1 : V1} {sw1 tp1 sw2 tp2 dr pd : Int32} (I : LInv n E DG t G1 G2 sw1 tp1 sw2 tp2 dr C1 pd) {H : Heap} {locs : List Loc} {ls : Array Slot} (hP : va_P (dC, dI) vwCl (wV tp f er tr kr cI cII cJ cJJ n E DG G1 U1 sw1 tp1 C1 P ++ wV tq f2 er2 tr2 kr2 cI cII cJ cJJ n E DG G2 U2 sw2 tp2 (fun _ => 0) P) H) (hD : va_D (lwA s) (wV tp f er tr kr cI cII cJ cJJ n E DG G1 U1 sw1 tp1 C1 P ++ wV tq f2 er2 tr2 kr2 cI cII cJ cJJ n E DG G2 U2 sw2 tp2 (fun _ => 0) P)) (hS : va_S (lwA s) s.heap H locs) (hl : lv_has ls 12 [(9, .int q), (8, .int (nI j)), (7, .int x), (6, .int (nI t)), (5, .int pd), (4, .int dr), (3, .int (nI n)), (2, .ref tq), (1, .ref tp), (0, .ref b)]) : W p l e room_1 s m #[Value.ref b] below meth c H locs 1000 10000 (lw_Z below #[Value.ref b] s) (F0 m 307 ls []) := by
  obtain ⟨hx, hb, hr, hml, hown, hts0, hX, hbl, hlocks, hgv⟩ := id C0
  have hA : ∀ q : Nat, s.heap.size ≤ q → (lwA s) q := fun _ h => h
  have hbA : ¬ (lwA s) b := Nat.not_le.mpr hbl
  have hts : ∀ w ∈ wsL_law, w.before #[Value.ref b] s = true := fun w h => hts0 w (wsL_law_in w h)
  obtain ⟨hXm, hCm⟩ := mok_moor M9 (show n ≤ 6 by omega)
  have hf : fastB n E = true := mok_fast M9 (by omega) hn0
  refine lv_aload_n hx hb dL_law_307 rfl (lv_at hl 8 rfl) ?_
  refine kt_calli (w' := wV tp f er tr kr cI cII cJ cJJ n E DG ((rollF n E DG G1).1) ((rollF n E DG G1).2) (sw1 + sumN (fun k => (rollF n E DG G1).2 k * E k 6) n) (tp1 + sumN (rollF n E DG G1).2 n) C1 P ++ wV tq f2 er2 tr2 kr2 cI cII cJ cJJ n E DG G2 U2 sw2 tp2 (fun _ => 0) P) (rest := []) (As := []) ⟨hx, hb, hml, hown, hts⟩ (c_X4_settle l dC dI cI cII cJ cJJ tp (f 0) (f 1) (f 2) G1 U1 (f 3) (f 4) (f 5) (fun _ => 0) (fun _ => 0) (f 6) (f 7) (f 8) (fun _ => 0) (fun _ => 0) (f 9) (f 10) (f 11) (fun _ => 0) (fun _ => 0) (f 12) kr (fun _ _ => 0) 0 sw1 tp1 (f 13) (f 14) P 0 (f 15) (f 16) C1 (f 17) (f 18) (f 19) (fun _ => 0) (fun _ => 0) (f 20) (f 21) (f 22) (fun _ => 0) (fun _ => 0) (f 23) (f 24) (f 25) (f 26) er n E DG tr (fun _ _ => 0) _ (by omega) (hf)) (cwV 0 hts gL_law_X4_settle rfl rfl rfl (by decide +kernel) ⟨Nat.le_of_ble_eq_true rfl, Nat.le_of_ble_eq_true rfl⟩) hK hP hD hS hA (List.range' 0 45) (by exact sw_V1) rfl 0 kX4 rfl rfl rfl rfl rfl hl.1 (Nat.le_of_ble_eq_true rfl) dL_law_308 ⟨Nat.le_of_ble_eq_true rfl, Nat.le_of_ble_eq_true rfl⟩ (fun H locs hP hD hS => ?_)
  have hP : va_P (dC, dI) vwCl (wV tp f er tr kr cI cII cJ cJJ n E DG ((rollF n E DG G1).1) ((rollF n E DG G1).2) (sw1 + sumN (fun k => (rollF n E DG G1).2 k * E k 6) n) (tp1 + sumN (rollF n E DG G1).2 n) C1 P ++ wV tq f2 er2 tr2 kr2 cI cII cJ cJJ n E DG G2 U2 sw2 tp2 (fun _ => 0) P) H := hP
  have hD : va_D (lwA s) (wV tp f er tr kr cI cII cJ cJJ n E DG ((rollF n E DG G1).1) ((rollF n E DG G1).2) (sw1 + sumN (fun k => (rollF n E DG G1).2 k * E k 6) n) (tp1 + sumN (rollF n E DG G1).2 n) C1 P ++ wV tq f2 er2 tr2 kr2 cI cII cJ cJJ n E DG G2 U2 sw2 tp2 (fun _ => 0) P) := hD
  refine lv_pop hx hb dL_law_311 rfl ?_
  refine lv_aload_n hx hb dL_law_312 rfl (lv_at hl 7 rfl) ?_
  refine kt_calli (w' := wV tp f er tr kr cI cII cJ cJJ n E DG ((rollF n E DG G1).1) ((rollF n E DG G1).2) (sw1 + sumN (fun k => (rollF n E DG G1).2 k * E k 6) n) (tp1 + sumN (rollF n E DG G1).2 n) C1 P ++ wV tq f2 er2 tr2 kr2 cI cII cJ cJJ n E DG ((rollF n E DG G2).1) ((rollF n E DG G2).2) (sw2 + sumN (fun k => (rollF n E DG G2).2 k * E k 6) n) (tp2 + sumN (rollF n E DG G2).2 n) (fun _ => 0) P) (rest := []) (As := []) ⟨hx, hb, hml, hown, hts⟩ (c_X4_settle l dC dI cI cII cJ cJJ tq (f2 0) (f2 1) (f2 2) G2 U2 (f2 3) (f2 4) (f2 5) (fun _ => 0) (fun _ => 0) (f2 6) (f2 7) (f2 8) (fun _ => 0) (fun _ => 0) (f2 9) (f2 10) (f2 11) (fun _ => 0) (fun _ => 0) (f2 12) kr2 (fun _ _ => 0) 0 sw2 tp2 (f2 13) (f2 14) P 0 (f2 15) (f2 16) (fun _ => 0) (f2 17) (f2 18) (f2 19) (fun _ => 0) (fun _ => 0) (f2 20) (f2 21) (f2 22) (fun _ => 0) (fun _ => 0) (f2 23) (f2 24) (f2 25) (f2 26) er2 n E DG tr2 (fun _ _ => 0) _ (by omega) (hf)) (cwV 0 hts gL_law_X4_settle rfl rfl rfl (by decide +kernel) ⟨Nat.le_of_ble_eq_true rfl, Nat.le_of_ble_eq_true rfl⟩) hK hP hD hS hA (List.range' 45 45) (by exact sw_V2) rfl 45 kX4 rfl rfl rfl rfl rfl hl.1 (Nat.le_of_ble_eq_true rfl) dL_law_313 ⟨Nat.le_of_ble_eq_true rfl, Nat.le_of_ble_eq_true rfl⟩ (fun H locs hP hD hS => ?_)
  have hP : va_P (dC, dI) vwCl (wV tp f er tr kr cI cII cJ cJJ n E DG ((rollF n E DG G1).1) ((rollF n E DG G1).2) (sw1 + sumN (fun k => (rollF n E DG G1).2 k * E k 6) n) (tp1 + sumN (rollF n E DG G1).2 n) C1 P ++ wV tq f2 er2 tr2 kr2 cI cII cJ cJJ n E DG ((rollF n E DG G2).1) ((rollF n E DG G2).2) (sw2 + sumN (fun k => (rollF n E DG G2).2 k * E k 6) n) (tp2 + sumN (rollF n E DG G2).2 n) (fun _ => 0) P) H := hP
  have hD : va_D (lwA s) (wV tp f er tr kr cI cII cJ cJJ n E DG ((rollF n E DG G1).1) ((rollF n E DG G1).2) (sw1 + sumN (fun k => (rollF n E DG G1).2 k * E k 6) n) (tp1 + sumN (rollF n E DG G1).2 n) C1 P ++ wV tq f2 er2 tr2 kr2 cI cII cJ cJJ n E DG ((rollF n E DG G2).1) ((rollF n E DG G2).2) (sw2 + sumN (fun k => (rollF n E DG G2).2 k * E k 6) n) (tp2 + sumN (rollF n E DG G2).2 n) (fun _ => 0) P) := hD
  refine lv_pop hx hb dL_law_316 rfl ?_
  refine lv_iconst (v := nI 0) hx hb dL_law_317 (by decide) ?_
  refine lv_istore (lv' := [(11, .int (nI 0)), (9, .int q), (8, .int (nI j)), (7, .int x), (6, .int (nI t)), (5, .int pd), (4, .int dr), (3, .int (nI n)), (2, .ref tq), (1, .ref tp), (0, .ref b)]) hx hb dL_law_318 hl (by decide) rfl (fun ls hl => ?_)
  obtain ⟨I2, hEq, hSw, hTp⟩ := inv_settle hXm hCm (show n ≤ 6 by omega) I (by omega)
  refine kt_for (n := n) (WD := fun (_ : Nat) => wV tp f er tr kr cI cII cJ cJJ n E DG ((rollF n E DG G1).1) ((rollF n E DG G1).2) (sw1 + sumN (fun k => (rollF n E DG G1).2 k * E k 6) n) (tp1 + sumN (rollF n E DG G1).2 n) C1 P ++ wV tq f2 er2 tr2 kr2 cI cII cJ cJJ n E DG ((rollF n E DG G2).1) ((rollF n E DG G2).2) (sw2 + sumN (fun k => (rollF n E DG G2).2 k * E k 6) n) (tp2 + sumN (rollF n E DG G2).2 n) (fun _ => 0) P) (LV := fun (i : Nat) => [(11, .int (nI i)), (6, .int (nI t)), (5, .int pd), (4, .int dr), (3, .int (nI n)), (2, .ref tq), (1, .ref tp), (0, .ref b)]) (nL := 12) (hd := 320) ?_ hP hD hS (lv_sub hl [0, 4, 5, 6, 7, 8, 9, 10] rfl)
  intro i hi ihi H locs ls hP hD hS hl
  have hP : va_P (dC, dI) vwCl (wV tp f er tr kr cI cII cJ cJJ n E DG ((rollF n E DG G1).1) ((rollF n E DG G1).2) (sw1 + sumN (fun k => (rollF n E DG G1).2 k * E k 6) n) (tp1 + sumN (rollF n E DG G1).2 n) C1 P ++ wV tq f2 er2 tr2 kr2 cI cII cJ cJJ n E DG ((rollF n E DG G2).1) ((rollF n E DG G2).2) (sw2 + sumN (fun k => (rollF n E DG G2).2 k * E k 6) n) (tp2 + sumN (rollF n E DG G2).2 n) (fun _ => 0) P) H := hP
  have hD : va_D (lwA s) (wV tp f er tr kr cI cII cJ cJJ n E DG ((rollF n E DG G1).1) ((rollF n E DG G1).2) (sw1 + sumN (fun k => (rollF n E DG G1).2 k * E k 6) n) (tp1 + sumN (rollF n E DG G1).2 n) C1 P ++ wV tq f2 er2 tr2 kr2 cI cII cJ cJJ n E DG ((rollF n E DG G2).1) ((rollF n E DG G2).2) (sw2 + sumN (fun k => (rollF n E DG G2).2 k * E k 6) n) (tp2 + sumN (rollF n E DG G2).2 n) (fun _ => 0) P) := hD
  have hl : lv_has ls 12 [(11, .int (nI i)), (6, .int (nI t)), (5, .int pd), (4, .int dr), (3, .int (nI n)), (2, .ref tq), (1, .ref tp), (0, .ref b)] := hl
  refine lv_iload hx hb dL_law_320 (lv_at hl 0 rfl) ?_
  refine lv_iload_n hx hb dL_law_322 rfl (lv_at hl 4 rfl) ?_
  refine kt_ige (i := i) (n := n) (tgt := 361) hx hb (by omega) (by omega) dL_law_323 (by decide) (fun ci => ?_) (fun ci => ?_)
  · skip
    refine lv_aload_n hx hb dL_law_361 rfl (lv_at hl 6 rfl) ?_
    refine lv_iconst (v := nI 4) hx hb dL_law_362 (by decide) ?_
    refine kt_calli (w' := wV tp f er tr kr cI cII cJ cJJ n E DG ((rollF n E DG G1).1) ((rollF n E DG G1).2) (sw1 + sumN (fun k => (rollF n E DG G1).2 k * E k 6) n) (tp1 + sumN (rollF n E DG G1).2 n) C1 P ++ wV tq f2 er2 tr2 kr2 cI cII cJ cJJ n E DG ((rollF n E DG G2).1) ((rollF n E DG G2).2) (sw2 + sumN (fun k => (rollF n E DG G2).2 k * E k 6) n) (tp2 + sumN (rollF n E DG G2).2 n) (fun _ => 0) P) (rest := []) (As := [.int (nI 4)]) ⟨hx, hb, hml, hown, hts⟩ (c_X4_many l dC dI cI cII cJ cJJ tp (f 0) (f 1) (f 2) ((rollF n E DG G1).1) ((rollF n E DG G1).2) (f 3) (f 4) (f 5) (fun _ => 0) (fun _ => 0) (f 6) (f 7) (f 8) (fun _ => 0) (fun _ => 0) (f 9) (f 10) (f 11) (fun _ => 0) (fun _ => 0) (f 12) kr (fun _ _ => 0) 0 (sw1 + sumN (fun k => (rollF n E DG G1).2 k * E k 6) n) (tp1 + sumN (rollF n E DG G1).2 n) (f 13) (f 14) P 0 (f 15) (f 16) C1 (f 17) (f 18) (f 19) (fun _ => 0) (fun _ => 0) (f 20) (f 21) (f 22) (fun _ => 0) (fun _ => 0) (f 23) (f 24) (f 25) (f 26) er n E DG tr (fun _ _ => 0) 4 _ (by omega) (by omega)) (cwV 1 hts gL_law_X4_many rfl rfl rfl (by decide +kernel) ⟨Nat.le_of_ble_eq_true rfl, Nat.le_of_ble_eq_true rfl⟩) hK hP hD hS hA (List.range' 0 45) (by exact sw_V1) rfl 0 kX4 rfl rfl rfl rfl rfl hl.1 (Nat.le_of_ble_eq_true rfl) dL_law_363 ⟨Nat.le_of_ble_eq_true rfl, Nat.le_of_ble_eq_true rfl⟩ (fun H locs hP hD hS => ?_)
    have hP : va_P (dC, dI) vwCl (wV tp f er tr kr cI cII cJ cJJ n E DG ((rollF n E DG G1).1) ((rollF n E DG G1).2) (sw1 + sumN (fun k => (rollF n E DG G1).2 k * E k 6) n) (tp1 + sumN (rollF n E DG G1).2 n) C1 P ++ wV tq f2 er2 tr2 kr2 cI cII cJ cJJ n E DG ((rollF n E DG G2).1) ((rollF n E DG G2).2) (sw2 + sumN (fun k => (rollF n E DG G2).2 k * E k 6) n) (tp2 + sumN (rollF n E DG G2).2 n) (fun _ => 0) P) H := hP
    have hD : va_D (lwA s) (wV tp f er tr kr cI cII cJ cJJ n E DG ((rollF n E DG G1).1) ((rollF n E DG G1).2) (sw1 + sumN (fun k => (rollF n E DG G1).2 k * E k 6) n) (tp1 + sumN (rollF n E DG G1).2 n) C1 P ++ wV tq f2 er2 tr2 kr2 cI cII cJ cJJ n E DG ((rollF n E DG G2).1) ((rollF n E DG G2).2) (sw2 + sumN (fun k => (rollF n E DG G2).2 k * E k 6) n) (tp2 + sumN (rollF n E DG G2).2 n) (fun _ => 0) P) := hD
    refine lv_aload_n hx hb dL_law_366 rfl (lv_at hl 5 rfl) ?_
    refine lv_iconst (v := nI 4) hx hb dL_law_367 (by decide) ?_
    refine kt_calli (w' := wV tp f er tr kr cI cII cJ cJJ n E DG ((rollF n E DG G1).1) ((rollF n E DG G1).2) (sw1 + sumN (fun k => (rollF n E DG G1).2 k * E k 6) n) (tp1 + sumN (rollF n E DG G1).2 n) C1 P ++ wV tq f2 er2 tr2 kr2 cI cII cJ cJJ n E DG ((rollF n E DG G2).1) ((rollF n E DG G2).2) (sw2 + sumN (fun k => (rollF n E DG G2).2 k * E k 6) n) (tp2 + sumN (rollF n E DG G2).2 n) (fun _ => 0) P) (rest := [.int (manyF n E DG ((rollF n E DG G1).1) ((rollF n E DG G1).2) P C1 (sw1 + sumN (fun k => (rollF n E DG G1).2 k * E k 6) n) (tp1 + sumN (rollF n E DG G1).2 n) 0 0 4)]) (As := [.int (nI 4)]) ⟨hx, hb, hml, hown, hts⟩ (c_X4_many l dC dI cI cII cJ cJJ tq (f2 0) (f2 1) (f2 2) ((rollF n E DG G2).1) ((rollF n E DG G2).2) (f2 3) (f2 4) (f2 5) (fun _ => 0) (fun _ => 0) (f2 6) (f2 7) (f2 8) (fun _ => 0) (fun _ => 0) (f2 9) (f2 10) (f2 11) (fun _ => 0) (fun _ => 0) (f2 12) kr2 (fun _ _ => 0) 0 (sw2 + sumN (fun k => (rollF n E DG G2).2 k * E k 6) n) (tp2 + sumN (rollF n E DG G2).2 n) (f2 13) (f2 14) P 0 (f2 15) (f2 16) (fun _ => 0) (f2 17) (f2 18) (f2 19) (fun _ => 0) (fun _ => 0) (f2 20) (f2 21) (f2 22) (fun _ => 0) (fun _ => 0) (f2 23) (f2 24) (f2 25) (f2 26) er2 n E DG tr2 (fun _ _ => 0) 4 _ (by omega) (by omega)) (cwV 1 hts gL_law_X4_many rfl rfl rfl (by decide +kernel) ⟨Nat.le_of_ble_eq_true rfl, Nat.le_of_ble_eq_true rfl⟩) hK hP hD hS hA (List.range' 45 45) (by exact sw_V2) rfl 45 kX4 rfl rfl rfl rfl rfl hl.1 (Nat.le_of_ble_eq_true rfl) dL_law_368 ⟨Nat.le_of_ble_eq_true rfl, Nat.le_of_ble_eq_true rfl⟩ (fun H locs hP hD hS => ?_)
    have hP : va_P (dC, dI) vwCl (wV tp f er tr kr cI cII cJ cJJ n E DG ((rollF n E DG G1).1) ((rollF n E DG G1).2) (sw1 + sumN (fun k => (rollF n E DG G1).2 k * E k 6) n) (tp1 + sumN (rollF n E DG G1).2 n) C1 P ++ wV tq f2 er2 tr2 kr2 cI cII cJ cJJ n E DG ((rollF n E DG G2).1) ((rollF n E DG G2).2) (sw2 + sumN (fun k => (rollF n E DG G2).2 k * E k 6) n) (tp2 + sumN (rollF n E DG G2).2 n) (fun _ => 0) P) H := hP
    have hD : va_D (lwA s) (wV tp f er tr kr cI cII cJ cJJ n E DG ((rollF n E DG G1).1) ((rollF n E DG G1).2) (sw1 + sumN (fun k => (rollF n E DG G1).2 k * E k 6) n) (tp1 + sumN (rollF n E DG G1).2 n) C1 P ++ wV tq f2 er2 tr2 kr2 cI cII cJ cJJ n E DG ((rollF n E DG G2).1) ((rollF n E DG G2).2) (sw2 + sumN (fun k => (rollF n E DG G2).2 k * E k 6) n) (tp2 + sumN (rollF n E DG G2).2 n) (fun _ => 0) P) := hD
    refine lv_icmp_ne (tgt := 387) hx hb dL_law_371 (by decide) (fun c371 => ?_) (fun c371 => ?_)
    · exact absurd hTp c371
    · skip
      refine lv_aload_n hx hb dL_law_374 rfl (lv_at hl 6 rfl) ?_
      refine lv_iconst (v := nI 3) hx hb dL_law_375 (by decide) ?_
      refine kt_calli (w' := wV tp f er tr kr cI cII cJ cJJ n E DG ((rollF n E DG G1).1) ((rollF n E DG G1).2) (sw1 + sumN (fun k => (rollF n E DG G1).2 k * E k 6) n) (tp1 + sumN (rollF n E DG G1).2 n) C1 P ++ wV tq f2 er2 tr2 kr2 cI cII cJ cJJ n E DG ((rollF n E DG G2).1) ((rollF n E DG G2).2) (sw2 + sumN (fun k => (rollF n E DG G2).2 k * E k 6) n) (tp2 + sumN (rollF n E DG G2).2 n) (fun _ => 0) P) (rest := []) (As := [.int (nI 3)]) ⟨hx, hb, hml, hown, hts⟩ (c_X4_many l dC dI cI cII cJ cJJ tp (f 0) (f 1) (f 2) ((rollF n E DG G1).1) ((rollF n E DG G1).2) (f 3) (f 4) (f 5) (fun _ => 0) (fun _ => 0) (f 6) (f 7) (f 8) (fun _ => 0) (fun _ => 0) (f 9) (f 10) (f 11) (fun _ => 0) (fun _ => 0) (f 12) kr (fun _ _ => 0) 0 (sw1 + sumN (fun k => (rollF n E DG G1).2 k * E k 6) n) (tp1 + sumN (rollF n E DG G1).2 n) (f 13) (f 14) P 0 (f 15) (f 16) C1 (f 17) (f 18) (f 19) (fun _ => 0) (fun _ => 0) (f 20) (f 21) (f 22) (fun _ => 0) (fun _ => 0) (f 23) (f 24) (f 25) (f 26) er n E DG tr (fun _ _ => 0) 3 _ (by omega) (by omega)) (cwV 1 hts gL_law_X4_many rfl rfl rfl (by decide +kernel) ⟨Nat.le_of_ble_eq_true rfl, Nat.le_of_ble_eq_true rfl⟩) hK hP hD hS hA (List.range' 0 45) (by exact sw_V1) rfl 0 kX4 rfl rfl rfl rfl rfl hl.1 (Nat.le_of_ble_eq_true rfl) dL_law_376 ⟨Nat.le_of_ble_eq_true rfl, Nat.le_of_ble_eq_true rfl⟩ (fun H locs hP hD hS => ?_)
      have hP : va_P (dC, dI) vwCl (wV tp f er tr kr cI cII cJ cJJ n E DG ((rollF n E DG G1).1) ((rollF n E DG G1).2) (sw1 + sumN (fun k => (rollF n E DG G1).2 k * E k 6) n) (tp1 + sumN (rollF n E DG G1).2 n) C1 P ++ wV tq f2 er2 tr2 kr2 cI cII cJ cJJ n E DG ((rollF n E DG G2).1) ((rollF n E DG G2).2) (sw2 + sumN (fun k => (rollF n E DG G2).2 k * E k 6) n) (tp2 + sumN (rollF n E DG G2).2 n) (fun _ => 0) P) H := hP
      have hD : va_D (lwA s) (wV tp f er tr kr cI cII cJ cJJ n E DG ((rollF n E DG G1).1) ((rollF n E DG G1).2) (sw1 + sumN (fun k => (rollF n E DG G1).2 k * E k 6) n) (tp1 + sumN (rollF n E DG G1).2 n) C1 P ++ wV tq f2 er2 tr2 kr2 cI cII cJ cJJ n E DG ((rollF n E DG G2).1) ((rollF n E DG G2).2) (sw2 + sumN (fun k => (rollF n E DG G2).2 k * E k 6) n) (tp2 + sumN (rollF n E DG G2).2 n) (fun _ => 0) P) := hD
      refine lv_aload_n hx hb dL_law_379 rfl (lv_at hl 5 rfl) ?_
      refine lv_iconst (v := nI 3) hx hb dL_law_380 (by decide) ?_
      refine kt_calli (w' := wV tp f er tr kr cI cII cJ cJJ n E DG ((rollF n E DG G1).1) ((rollF n E DG G1).2) (sw1 + sumN (fun k => (rollF n E DG G1).2 k * E k 6) n) (tp1 + sumN (rollF n E DG G1).2 n) C1 P ++ wV tq f2 er2 tr2 kr2 cI cII cJ cJJ n E DG ((rollF n E DG G2).1) ((rollF n E DG G2).2) (sw2 + sumN (fun k => (rollF n E DG G2).2 k * E k 6) n) (tp2 + sumN (rollF n E DG G2).2 n) (fun _ => 0) P) (rest := [.int (manyF n E DG ((rollF n E DG G1).1) ((rollF n E DG G1).2) P C1 (sw1 + sumN (fun k => (rollF n E DG G1).2 k * E k 6) n) (tp1 + sumN (rollF n E DG G1).2 n) 0 0 3)]) (As := [.int (nI 3)]) ⟨hx, hb, hml, hown, hts⟩ (c_X4_many l dC dI cI cII cJ cJJ tq (f2 0) (f2 1) (f2 2) ((rollF n E DG G2).1) ((rollF n E DG G2).2) (f2 3) (f2 4) (f2 5) (fun _ => 0) (fun _ => 0) (f2 6) (f2 7) (f2 8) (fun _ => 0) (fun _ => 0) (f2 9) (f2 10) (f2 11) (fun _ => 0) (fun _ => 0) (f2 12) kr2 (fun _ _ => 0) 0 (sw2 + sumN (fun k => (rollF n E DG G2).2 k * E k 6) n) (tp2 + sumN (rollF n E DG G2).2 n) (f2 13) (f2 14) P 0 (f2 15) (f2 16) (fun _ => 0) (f2 17) (f2 18) (f2 19) (fun _ => 0) (fun _ => 0) (f2 20) (f2 21) (f2 22) (fun _ => 0) (fun _ => 0) (f2 23) (f2 24) (f2 25) (f2 26) er2 n E DG tr2 (fun _ _ => 0) 3 _ (by omega) (by omega)) (cwV 1 hts gL_law_X4_many rfl rfl rfl (by decide +kernel) ⟨Nat.le_of_ble_eq_true rfl, Nat.le_of_ble_eq_true rfl⟩) hK hP hD hS hA (List.range' 45 45) (by exact sw_V2) rfl 45 kX4 rfl rfl rfl rfl rfl hl.1 (Nat.le_of_ble_eq_true rfl) dL_law_381 ⟨Nat.le_of_ble_eq_true rfl, Nat.le_of_ble_eq_true rfl⟩ (fun H locs hP hD hS => ?_)
      have hP : va_P (dC, dI) vwCl (wV tp f er tr kr cI cII cJ cJJ n E DG ((rollF n E DG G1).1) ((rollF n E DG G1).2) (sw1 + sumN (fun k => (rollF n E DG G1).2 k * E k 6) n) (tp1 + sumN (rollF n E DG G1).2 n) C1 P ++ wV tq f2 er2 tr2 kr2 cI cII cJ cJJ n E DG ((rollF n E DG G2).1) ((rollF n E DG G2).2) (sw2 + sumN (fun k => (rollF n E DG G2).2 k * E k 6) n) (tp2 + sumN (rollF n E DG G2).2 n) (fun _ => 0) P) H := hP
      have hD : va_D (lwA s) (wV tp f er tr kr cI cII cJ cJJ n E DG ((rollF n E DG G1).1) ((rollF n E DG G1).2) (sw1 + sumN (fun k => (rollF n E DG G1).2 k * E k 6) n) (tp1 + sumN (rollF n E DG G1).2 n) C1 P ++ wV tq f2 er2 tr2 kr2 cI cII cJ cJJ n E DG ((rollF n E DG G2).1) ((rollF n E DG G2).2) (sw2 + sumN (fun k => (rollF n E DG G2).2 k * E k 6) n) (tp2 + sumN (rollF n E DG G2).2 n) (fun _ => 0) P) := hD
      refine lv_icmp_eq (tgt := 389) hx hb dL_law_384 (by decide) (fun c384 => ?_) (fun c384 => ?_)
      · skip
        exact K ((rollF n E DG G1).1) ((rollF n E DG G1).2) ((rollF n E DG G2).1) ((rollF n E DG G2).2) C1 (sw1 + sumN (fun k => (rollF n E DG G1).2 k * E k 6) n) (tp1 + sumN (rollF n E DG G1).2 n) (sw2 + sumN (fun k => (rollF n E DG G2).2 k * E k 6) n) (tp2 + sumN (rollF n E DG G2).2 n) dr pd (inv_later I2 (Nat.le_succ t)) H locs ls hP hD hS (lv_sub hl [1, 2, 3, 4, 5, 6, 7] rfl)
      · exact absurd hSw c384
  · skip
    refine lv_aload_n hx hb dL_law_326 rfl (lv_at hl 6 rfl) ?_
    refine lv_iload hx hb dL_law_327 (lv_at hl 0 rfl) ?_
    refine lv_iconst (v := nI 0) hx hb dL_law_329 (by decide) ?_
    refine kt_calli (w' := wV tp f er tr kr cI cII cJ cJJ n E DG ((rollF n E DG G1).1) ((rollF n E DG G1).2) (sw1 + sumN (fun k => (rollF n E DG G1).2 k * E k 6) n) (tp1 + sumN (rollF n E DG G1).2 n) C1 P ++ wV tq f2 er2 tr2 kr2 cI cII cJ cJJ n E DG ((rollF n E DG G2).1) ((rollF n E DG G2).2) (sw2 + sumN (fun k => (rollF n E DG G2).2 k * E k 6) n) (tp2 + sumN (rollF n E DG G2).2 n) (fun _ => 0) P) (rest := []) (As := [.int (nI i), .int (nI 0)]) ⟨hx, hb, hml, hown, hts⟩ (c_X4_ofSpot l dC dI cI cII cJ cJJ tp (f 0) (f 1) (f 2) ((rollF n E DG G1).1) ((rollF n E DG G1).2) (f 3) (f 4) (f 5) (fun _ => 0) (fun _ => 0) (f 6) (f 7) (f 8) (fun _ => 0) (fun _ => 0) (f 9) (f 10) (f 11) (fun _ => 0) (fun _ => 0) (f 12) kr (fun _ _ => 0) 0 (sw1 + sumN (fun k => (rollF n E DG G1).2 k * E k 6) n) (tp1 + sumN (rollF n E DG G1).2 n) (f 13) (f 14) P 0 (f 15) (f 16) C1 (f 17) (f 18) (f 19) (fun _ => 0) (fun _ => 0) (f 20) (f 21) (f 22) (fun _ => 0) (fun _ => 0) (f 23) (f 24) (f 25) (f 26) er n E DG tr (fun _ _ => 0) i 0 _ (by omega) (by omega) (by omega)) (cwV 2 hts gL_law_X4_ofSpot rfl rfl rfl (by decide +kernel) ⟨Nat.le_of_ble_eq_true rfl, Nat.le_of_ble_eq_true rfl⟩) hK hP hD hS hA (List.range' 0 45) (by exact sw_V1) rfl 0 kX4 rfl rfl rfl rfl rfl hl.1 (Nat.le_of_ble_eq_true rfl) dL_law_330 ⟨Nat.le_of_ble_eq_true rfl, Nat.le_of_ble_eq_true rfl⟩ (fun H locs hP hD hS => ?_)
    have hP : va_P (dC, dI) vwCl (wV tp f er tr kr cI cII cJ cJJ n E DG ((rollF n E DG G1).1) ((rollF n E DG G1).2) (sw1 + sumN (fun k => (rollF n E DG G1).2 k * E k 6) n) (tp1 + sumN (rollF n E DG G1).2 n) C1 P ++ wV tq f2 er2 tr2 kr2 cI cII cJ cJJ n E DG ((rollF n E DG G2).1) ((rollF n E DG G2).2) (sw2 + sumN (fun k => (rollF n E DG G2).2 k * E k 6) n) (tp2 + sumN (rollF n E DG G2).2 n) (fun _ => 0) P) H := hP
    have hD : va_D (lwA s) (wV tp f er tr kr cI cII cJ cJJ n E DG ((rollF n E DG G1).1) ((rollF n E DG G1).2) (sw1 + sumN (fun k => (rollF n E DG G1).2 k * E k 6) n) (tp1 + sumN (rollF n E DG G1).2 n) C1 P ++ wV tq f2 er2 tr2 kr2 cI cII cJ cJJ n E DG ((rollF n E DG G2).1) ((rollF n E DG G2).2) (sw2 + sumN (fun k => (rollF n E DG G2).2 k * E k 6) n) (tp2 + sumN (rollF n E DG G2).2 n) (fun _ => 0) P) := hD
    refine lv_aload_n hx hb dL_law_333 rfl (lv_at hl 5 rfl) ?_
    refine lv_iload hx hb dL_law_334 (lv_at hl 0 rfl) ?_
    refine lv_iconst (v := nI 0) hx hb dL_law_336 (by decide) ?_
    refine kt_calli (w' := wV tp f er tr kr cI cII cJ cJJ n E DG ((rollF n E DG G1).1) ((rollF n E DG G1).2) (sw1 + sumN (fun k => (rollF n E DG G1).2 k * E k 6) n) (tp1 + sumN (rollF n E DG G1).2 n) C1 P ++ wV tq f2 er2 tr2 kr2 cI cII cJ cJJ n E DG ((rollF n E DG G2).1) ((rollF n E DG G2).2) (sw2 + sumN (fun k => (rollF n E DG G2).2 k * E k 6) n) (tp2 + sumN (rollF n E DG G2).2 n) (fun _ => 0) P) (rest := [.int (spotF E DG ((rollF n E DG G1).1) ((rollF n E DG G1).2) P i 0)]) (As := [.int (nI i), .int (nI 0)]) ⟨hx, hb, hml, hown, hts⟩ (c_X4_ofSpot l dC dI cI cII cJ cJJ tq (f2 0) (f2 1) (f2 2) ((rollF n E DG G2).1) ((rollF n E DG G2).2) (f2 3) (f2 4) (f2 5) (fun _ => 0) (fun _ => 0) (f2 6) (f2 7) (f2 8) (fun _ => 0) (fun _ => 0) (f2 9) (f2 10) (f2 11) (fun _ => 0) (fun _ => 0) (f2 12) kr2 (fun _ _ => 0) 0 (sw2 + sumN (fun k => (rollF n E DG G2).2 k * E k 6) n) (tp2 + sumN (rollF n E DG G2).2 n) (f2 13) (f2 14) P 0 (f2 15) (f2 16) (fun _ => 0) (f2 17) (f2 18) (f2 19) (fun _ => 0) (fun _ => 0) (f2 20) (f2 21) (f2 22) (fun _ => 0) (fun _ => 0) (f2 23) (f2 24) (f2 25) (f2 26) er2 n E DG tr2 (fun _ _ => 0) i 0 _ (by omega) (by omega) (by omega)) (cwV 2 hts gL_law_X4_ofSpot rfl rfl rfl (by decide +kernel) ⟨Nat.le_of_ble_eq_true rfl, Nat.le_of_ble_eq_true rfl⟩) hK hP hD hS hA (List.range' 45 45) (by exact sw_V2) rfl 45 kX4 rfl rfl rfl rfl rfl hl.1 (Nat.le_of_ble_eq_true rfl) dL_law_337 ⟨Nat.le_of_ble_eq_true rfl, Nat.le_of_ble_eq_true rfl⟩ (fun H locs hP hD hS => ?_)
    have hP : va_P (dC, dI) vwCl (wV tp f er tr kr cI cII cJ cJJ n E DG ((rollF n E DG G1).1) ((rollF n E DG G1).2) (sw1 + sumN (fun k => (rollF n E DG G1).2 k * E k 6) n) (tp1 + sumN (rollF n E DG G1).2 n) C1 P ++ wV tq f2 er2 tr2 kr2 cI cII cJ cJJ n E DG ((rollF n E DG G2).1) ((rollF n E DG G2).2) (sw2 + sumN (fun k => (rollF n E DG G2).2 k * E k 6) n) (tp2 + sumN (rollF n E DG G2).2 n) (fun _ => 0) P) H := hP
    have hD : va_D (lwA s) (wV tp f er tr kr cI cII cJ cJJ n E DG ((rollF n E DG G1).1) ((rollF n E DG G1).2) (sw1 + sumN (fun k => (rollF n E DG G1).2 k * E k 6) n) (tp1 + sumN (rollF n E DG G1).2 n) C1 P ++ wV tq f2 er2 tr2 kr2 cI cII cJ cJJ n E DG ((rollF n E DG G2).1) ((rollF n E DG G2).2) (sw2 + sumN (fun k => (rollF n E DG G2).2 k * E k 6) n) (tp2 + sumN (rollF n E DG G2).2 n) (fun _ => 0) P) := hD
    refine lv_icmp_ne (tgt := 353) hx hb dL_law_340 (by decide) (fun c340 => ?_) (fun c340 => ?_)
    · exact absurd (hEq i ci).1 c340
    · skip
      refine lv_aload_n hx hb dL_law_343 rfl (lv_at hl 6 rfl) ?_
      refine lv_iload hx hb dL_law_344 (lv_at hl 0 rfl) ?_
      refine lv_iconst (v := nI 4) hx hb dL_law_346 (by decide) ?_
      refine kt_calli (w' := wV tp f er tr kr cI cII cJ cJJ n E DG ((rollF n E DG G1).1) ((rollF n E DG G1).2) (sw1 + sumN (fun k => (rollF n E DG G1).2 k * E k 6) n) (tp1 + sumN (rollF n E DG G1).2 n) C1 P ++ wV tq f2 er2 tr2 kr2 cI cII cJ cJJ n E DG ((rollF n E DG G2).1) ((rollF n E DG G2).2) (sw2 + sumN (fun k => (rollF n E DG G2).2 k * E k 6) n) (tp2 + sumN (rollF n E DG G2).2 n) (fun _ => 0) P) (rest := []) (As := [.int (nI i), .int (nI 4)]) ⟨hx, hb, hml, hown, hts⟩ (c_X4_ofSpot l dC dI cI cII cJ cJJ tp (f 0) (f 1) (f 2) ((rollF n E DG G1).1) ((rollF n E DG G1).2) (f 3) (f 4) (f 5) (fun _ => 0) (fun _ => 0) (f 6) (f 7) (f 8) (fun _ => 0) (fun _ => 0) (f 9) (f 10) (f 11) (fun _ => 0) (fun _ => 0) (f 12) kr (fun _ _ => 0) 0 (sw1 + sumN (fun k => (rollF n E DG G1).2 k * E k 6) n) (tp1 + sumN (rollF n E DG G1).2 n) (f 13) (f 14) P 0 (f 15) (f 16) C1 (f 17) (f 18) (f 19) (fun _ => 0) (fun _ => 0) (f 20) (f 21) (f 22) (fun _ => 0) (fun _ => 0) (f 23) (f 24) (f 25) (f 26) er n E DG tr (fun _ _ => 0) i 4 _ (by omega) (by omega) (by omega)) (cwV 2 hts gL_law_X4_ofSpot rfl rfl rfl (by decide +kernel) ⟨Nat.le_of_ble_eq_true rfl, Nat.le_of_ble_eq_true rfl⟩) hK hP hD hS hA (List.range' 0 45) (by exact sw_V1) rfl 0 kX4 rfl rfl rfl rfl rfl hl.1 (Nat.le_of_ble_eq_true rfl) dL_law_347 ⟨Nat.le_of_ble_eq_true rfl, Nat.le_of_ble_eq_true rfl⟩ (fun H locs hP hD hS => ?_)
      have hP : va_P (dC, dI) vwCl (wV tp f er tr kr cI cII cJ cJJ n E DG ((rollF n E DG G1).1) ((rollF n E DG G1).2) (sw1 + sumN (fun k => (rollF n E DG G1).2 k * E k 6) n) (tp1 + sumN (rollF n E DG G1).2 n) C1 P ++ wV tq f2 er2 tr2 kr2 cI cII cJ cJJ n E DG ((rollF n E DG G2).1) ((rollF n E DG G2).2) (sw2 + sumN (fun k => (rollF n E DG G2).2 k * E k 6) n) (tp2 + sumN (rollF n E DG G2).2 n) (fun _ => 0) P) H := hP
      have hD : va_D (lwA s) (wV tp f er tr kr cI cII cJ cJJ n E DG ((rollF n E DG G1).1) ((rollF n E DG G1).2) (sw1 + sumN (fun k => (rollF n E DG G1).2 k * E k 6) n) (tp1 + sumN (rollF n E DG G1).2 n) C1 P ++ wV tq f2 er2 tr2 kr2 cI cII cJ cJJ n E DG ((rollF n E DG G2).1) ((rollF n E DG G2).2) (sw2 + sumN (fun k => (rollF n E DG G2).2 k * E k 6) n) (tp2 + sumN (rollF n E DG G2).2 n) (fun _ => 0) P) := hD
      refine lv_if_eq (tgt := 355) hx hb dL_law_350 (by decide) (fun c350 => ?_) (fun c350 => ?_)
      · skip
        refine lv_iinc (v := nI (i + 1)) (lv' := [(11, .int (nI (i + 1))), (6, .int (nI t)), (5, .int pd), (4, .int dr), (3, .int (nI n)), (2, .ref tq), (1, .ref tp), (0, .ref b)]) hx hb dL_law_355 hl (k := 0) rfl (kt_inc i) (by decide) rfl (fun ls hl => ?_)
        refine lv_goto (tgt := 320) hx hb dL_law_358 (by decide) ?_
        exact ihi H locs ls (by omega) hP hD hS (lv_sub hl [0, 1, 2, 3, 4, 5, 6, 7] rfl)
      · exact (c350 (b2i_eq0.mpr (hEq i ci).2)).elim

set_option maxHeartbeats 4000000 in
set_option maxRecDepth 100000 in
theorem law_53 {p : Program} {l : Launch} {e : Env} {s : State} {m : MethodId} {below : List Frame} {meth : Method} {c : Code} {b L : Nat} {xs : Nat → Int32} (C0 : lw_At p s m meth c b L xs) {dC : Nat → ClassId} {dI : Nat → Nat → Nat} {cI cII cJ cJJ : ClassId} {tp tq : Nat} {f f2 : Nat → Nat} {er tr kr er2 tr2 kr2 : Nat → Nat} (hK : va_K (dC, dI) vwCl (tyL cI cII cJ cJJ) s) {n : Nat} {E : V2} {DG P : V1} (hn0 : 0 < n) (hn : n ≤ 5) (M9 : MOK n n E DG) {t : Nat} (haI : va_AOA .int s) (haL : va_AOA .long s) (hL : L < 2 ^ 31) (ht5 : t ≤ 50) (ih : t < 50 → ∀ (G1 U1 G2 U2 C1 : V1) (sw1 tp1 sw2 tp2 dr pd : Int32), LInv n E DG (t + 1) G1 G2 sw1 tp1 sw2 tp2 dr C1 pd → ∀ (H : Heap) (locs : List Loc) (ls : Array Slot), va_P (dC, dI) vwCl (wV tp f er tr kr cI cII cJ cJJ n E DG G1 U1 sw1 tp1 C1 P ++ wV tq f2 er2 tr2 kr2 cI cII cJ cJJ n E DG G2 U2 sw2 tp2 (fun _ => 0) P) H → va_D (lwA s) (wV tp f er tr kr cI cII cJ cJJ n E DG G1 U1 sw1 tp1 C1 P ++ wV tq f2 er2 tr2 kr2 cI cII cJ cJJ n E DG G2 U2 sw2 tp2 (fun _ => 0) P) → va_S (lwA s) s.heap H locs → lv_has ls 12 [(6, .int (nI (t + 1))), (5, .int pd), (4, .int dr), (3, .int (nI n)), (2, .ref tq), (1, .ref tp), (0, .ref b)] → W p l e room_1 s m #[Value.ref b] below meth c H locs 1000 10000 (lw_Z below #[Value.ref b] s) (F0 m 53 ls [])) {G1 U1 G2 U2 C1 : V1} {sw1 tp1 sw2 tp2 dr pd : Int32} (I : LInv n E DG t G1 G2 sw1 tp1 sw2 tp2 dr C1 pd) {H : Heap} {locs : List Loc} {ls : Array Slot} (hP : va_P (dC, dI) vwCl (wV tp f er tr kr cI cII cJ cJJ n E DG G1 U1 sw1 tp1 C1 P ++ wV tq f2 er2 tr2 kr2 cI cII cJ cJJ n E DG G2 U2 sw2 tp2 (fun _ => 0) P) H) (hD : va_D (lwA s) (wV tp f er tr kr cI cII cJ cJJ n E DG G1 U1 sw1 tp1 C1 P ++ wV tq f2 er2 tr2 kr2 cI cII cJ cJJ n E DG G2 U2 sw2 tp2 (fun _ => 0) P)) (hS : va_S (lwA s) s.heap H locs) (hl : lv_has ls 12 [(6, .int (nI t)), (5, .int pd), (4, .int dr), (3, .int (nI n)), (2, .ref tq), (1, .ref tp), (0, .ref b)]) : W p l e room_1 s m #[Value.ref b] below meth c H locs 1000 10000 (lw_Z below #[Value.ref b] s) (F0 m 53 ls []) := by
  obtain ⟨hx, hb, hr, hml, hown, hts0, hX, hbl, hlocks, hgv⟩ := id C0
  have hA : ∀ q : Nat, s.heap.size ≤ q → (lwA s) q := fun _ h => h
  have hbA : ¬ (lwA s) b := Nat.not_le.mpr hbl
  have hts : ∀ w ∈ wsL_law, w.before #[Value.ref b] s = true := fun w h => hts0 w (wsL_law_in w h)
  obtain ⟨hXm, hCm⟩ := mok_moor M9 (show n ≤ 6 by omega)
  have hE : EnvS b L xs (lwA s) s s.heap := ⟨hX, hbl, hbA⟩
  refine lv_iload hx hb dL_law_53 (lv_at hl 0 rfl) ?_
  refine lv_bipush (v := nI 50) hx hb dL_law_55 (by decide) ?_
  refine kt_ige (i := t) (n := 50) (tgt := 440) hx hb (by omega) (by omega) dL_law_57 (by decide) (fun c57 => ?_) (fun c57 => ?_)
  · skip
    refine lv_aload_n hx hb dL_law_440 rfl (lv_at hl 5 rfl) ?_
    refine lv_iload_n hx hb dL_law_441 rfl (lv_at hl 3 rfl) ?_
    have hCc : -300 ≤ (sumN C1 7).toInt := by
      obtain ⟨_, _, _, _, _, _, _, _, _, _, _, _, _, _, h12, h13, _⟩ := I
      rw [h12]
      omega
    refine kt_newI (wC := wV tp f er tr kr cI cII cJ cJJ n E DG G1 U1 sw1 tp1 C1 P) (wR9 := ([] : va_W)) (wN := fun (_ : Unit) => ([] : va_W)) (tys := (tyL cI cII cJ cJJ)) (va_runS (As := [.ref tp, .int (nI n)]) (rest := []) ⟨hx, hb, hml, hown, hts⟩ (c_L_isAsked l dC dI cI cII cJ cJJ tp f er tr kr n E DG G1 U1 sw1 tp1 C1 P _ M9 hn0 hn hCc) (va_cwS 2 hts gL_law_L_isAsked rfl rfl rfl (by decide +kernel) ⟨Nat.le_of_ble_eq_true rfl, Nat.le_of_ble_eq_true rfl⟩) (kt_preS hK hP hD (List.range' 0 45) rfl rfl) rfl rfl hl.1 rfl (lv_room (Nat.le_of_ble_eq_true rfl)) dL_law_442 ⟨Nat.le_of_ble_eq_true rfl, Nat.le_of_ble_eq_true rfl⟩) hP hD hS hA (List.range' 0 45) [] rfl rfl rfl (by decide) (fun _ H locs hP hD hS => ?_)
    refine lv_topi (fun z ez => ?_)
    have ez : z = 1 := ez.trans (by decide)
    subst ez
    refine va_forget (fun q hq => hS.2.2 q hq) ?_
    refine W.widen (k := 635155) (n := 7196002) (by omega) (by omega) ?_
    exact lw_ret hx hb hr hlocks dL_law_445
  · skip
    refine lv_aload_n hx hb dL_law_60 rfl (lv_at hl 6 rfl) ?_
    refine lv_iload hx hb dL_law_61 (lv_at hl 0 rfl) ?_
    refine lv_bipush (v := nI 16) hx hb dL_law_63 (by decide) ?_
    refine lv_irem hx hb dL_law_65 (by decide) ?_
    refine lv_topi (fun z1 ez1 => ?_)
    have ez1 : z1 = nI (t % 16) := ez1.trans (nI_rem (by omega) (by omega) (by omega))
    subst ez1
    refine kt_newI (wC := ([] : va_W)) (wR9 := wV tp f er tr kr cI cII cJ cJJ n E DG G1 U1 sw1 tp1 C1 P ++ wV tq f2 er2 tr2 kr2 cI cII cJ cJJ n E DG G2 U2 sw2 tp2 (fun _ => 0) P) (wN := fun (_ : Unit) => ([] : va_W)) (tys := (tyL cI cII cJ cJJ)) (va_runS (As := [.ref b, .int (nI (t % 16))]) (rest := []) ⟨hx, hb, hml, hown, hts⟩ (c_L_cell l dC dI cI cII cJ cJJ b L xs (t % 16) _ (by omega) (by omega)) (va_cwS 2 hts gL_law_L_cell rfl rfl rfl (by decide +kernel) ⟨Nat.le_of_ble_eq_true rfl, Nat.le_of_ble_eq_true rfl⟩) (kt_preSS hK hP hD hS hE hA haI haL [] rfl rfl) rfl rfl hl.1 rfl (lv_room (Nat.le_of_ble_eq_true rfl)) dL_law_66 ⟨Nat.le_of_ble_eq_true rfl, Nat.le_of_ble_eq_true rfl⟩) hP hD hS hA [] (List.range' 0 90) rfl rfl rfl (by decide) (fun _ H locs hP hD hS => ?_)
    rw [List.append_nil] at hP hD
    have hP : va_P (dC, dI) vwCl (wV tp f er tr kr cI cII cJ cJJ n E DG G1 U1 sw1 tp1 C1 P ++ wV tq f2 er2 tr2 kr2 cI cII cJ cJJ n E DG G2 U2 sw2 tp2 (fun _ => 0) P) H := hP
    have hD : va_D (lwA s) (wV tp f er tr kr cI cII cJ cJJ n E DG G1 U1 sw1 tp1 C1 P ++ wV tq f2 er2 tr2 kr2 cI cII cJ cJJ n E DG G2 U2 sw2 tp2 (fun _ => 0) P) := hD
    refine W.widen (k := 1000) (n := 10000) (by omega) (by omega) ?_
    refine lv_bipush (v := nI 41) hx hb dL_law_69 (by decide) ?_
    refine lv_iload hx hb dL_law_71 (lv_at hl 0 rfl) ?_
    refine lv_imul hx hb dL_law_73 ?_
    refine lv_iadd hx hb dL_law_74 ?_
    refine lv_topi (fun x _ => ?_)
    refine lv_istore (lv' := [(7, .int x), (6, .int (nI t)), (5, .int pd), (4, .int dr), (3, .int (nI n)), (2, .ref tq), (1, .ref tp), (0, .ref b)]) hx hb dL_law_75 hl (by decide) rfl (fun ls hl => ?_)
    refine lv_iload hx hb dL_law_77 (lv_at hl 0 rfl) ?_
    refine lv_iconst (v := nI 2) hx hb dL_law_79 (by decide) ?_
    refine lv_ishr hx hb dL_law_80 ?_
    refine lv_iload_n hx hb dL_law_81 rfl (lv_at hl 4 rfl) ?_
    refine kt_callSi (w' := wV tp f er tr kr cI cII cJ cJJ n E DG G1 U1 sw1 tp1 C1 P ++ wV tq f2 er2 tr2 kr2 cI cII cJ cJJ n E DG G2 U2 sw2 tp2 (fun _ => 0) P) (rest := []) (As := [.int (x >>> ((nI 2) &&& 31)), .int (nI n)]) ⟨hx, hb, hml, hown, hts⟩ (c_L_below l dC dI cI cII cJ cJJ (x >>> ((nI 2) &&& 31)) n _ (hn0) (by omega)) (va_cwS 2 hts gL_law_L_below rfl rfl rfl (by decide +kernel) ⟨Nat.le_of_ble_eq_true rfl, Nat.le_of_ble_eq_true rfl⟩) hK hP hD hS hA [] (kt_sw_nil _) rfl rfl rfl hl.1 (Nat.le_of_ble_eq_true rfl) dL_law_82 ⟨Nat.le_of_ble_eq_true rfl, Nat.le_of_ble_eq_true rfl⟩ (fun H locs hP hD hS => ?_)
    obtain ⟨j, hj, ej⟩ := belowF_spec (x >>> ((nI 2) &&& 31)) (show 0 < n by omega) (by omega)
    refine lv_topi (fun z2 ez2 => ?_)
    have ez2 : z2 = nI j := ez2.trans (ej)
    subst ez2
    refine lv_istore (lv' := [(8, .int (nI j)), (7, .int x), (6, .int (nI t)), (5, .int pd), (4, .int dr), (3, .int (nI n)), (2, .ref tq), (1, .ref tp), (0, .ref b)]) hx hb dL_law_85 hl (by decide) rfl (fun ls hl => ?_)
    refine lv_iconst (v := nI 1) hx hb dL_law_87 (by decide) ?_
    refine lv_iload hx hb dL_law_88 (lv_at hl 1 rfl) ?_
    refine lv_iconst (v := nI 4) hx hb dL_law_90 (by decide) ?_
    refine lv_ishr hx hb dL_law_91 ?_
    refine lv_bipush (v := nI 25) hx hb dL_law_92 (by decide) ?_
    refine kt_callSi (w' := wV tp f er tr kr cI cII cJ cJJ n E DG G1 U1 sw1 tp1 C1 P ++ wV tq f2 er2 tr2 kr2 cI cII cJ cJJ n E DG G2 U2 sw2 tp2 (fun _ => 0) P) (rest := [.int (nI 1)]) (As := [.int (x >>> ((nI 4) &&& 31)), .int (nI 25)]) ⟨hx, hb, hml, hown, hts⟩ (c_L_below l dC dI cI cII cJ cJJ (x >>> ((nI 4) &&& 31)) 25 _ (by omega) (by omega)) (va_cwS 2 hts gL_law_L_below rfl rfl rfl (by decide +kernel) ⟨Nat.le_of_ble_eq_true rfl, Nat.le_of_ble_eq_true rfl⟩) hK hP hD hS hA [] (kt_sw_nil _) rfl rfl rfl hl.1 (Nat.le_of_ble_eq_true rfl) dL_law_94 ⟨Nat.le_of_ble_eq_true rfl, Nat.le_of_ble_eq_true rfl⟩ (fun H locs hP hD hS => ?_)
    obtain ⟨u, hu, eu⟩ := belowF_spec (x >>> ((nI 4) &&& 31)) (show 0 < 25 by omega) (by omega)
    refine lv_topi (fun z3 ez3 => ?_)
    have ez3 : z3 = nI u := ez3.trans (eu)
    subst ez3
    refine lv_iadd hx hb dL_law_97 ?_
    refine lv_topi (fun q eq => ?_)
    obtain ⟨hq1, hq2⟩ : 1 ≤ q.toInt ∧ q.toInt ≤ 25 := by rw [eq]; exact q_25 hu
    refine lv_istore (lv' := [(9, .int q), (8, .int (nI j)), (7, .int x), (6, .int (nI t)), (5, .int pd), (4, .int dr), (3, .int (nI n)), (2, .ref tq), (1, .ref tp), (0, .ref b)]) hx hb dL_law_98 hl (by decide) rfl (fun ls hl => ?_)
    refine lv_iload hx hb dL_law_100 (lv_at hl 2 rfl) ?_
    refine lv_iconst (v := nI 5) hx hb dL_law_102 (by decide) ?_
    refine kt_callSi (w' := wV tp f er tr kr cI cII cJ cJJ n E DG G1 U1 sw1 tp1 C1 P ++ wV tq f2 er2 tr2 kr2 cI cII cJ cJJ n E DG G2 U2 sw2 tp2 (fun _ => 0) P) (rest := []) (As := [.int x, .int (nI 5)]) ⟨hx, hb, hml, hown, hts⟩ (c_L_below l dC dI cI cII cJ cJJ x 5 _ (by omega) (by omega)) (va_cwS 2 hts gL_law_L_below rfl rfl rfl (by decide +kernel) ⟨Nat.le_of_ble_eq_true rfl, Nat.le_of_ble_eq_true rfl⟩) hK hP hD hS hA [] (kt_sw_nil _) rfl rfl rfl hl.1 (Nat.le_of_ble_eq_true rfl) dL_law_103 ⟨Nat.le_of_ble_eq_true rfl, Nat.le_of_ble_eq_true rfl⟩ (fun H locs hP hD hS => ?_)
    obtain ⟨k5, hk5, ek5⟩ := belowF_spec x (show 0 < 5 by omega) (by omega)
    refine lv_topi (fun z4 ez4 => ?_)
    have ez4 : z4 = nI k5 := ez4.trans (ek5)
    subst ez4
    have K : ∀ (G1 U1 G2 U2 C1 : V1) (sw1 tp1 sw2 tp2 dr pd : Int32), LInv n E DG (t + 1) G1 G2 sw1 tp1 sw2 tp2 dr C1 pd → ∀ (H : Heap) (locs : List Loc) (ls : Array Slot), va_P (dC, dI) vwCl (wV tp f er tr kr cI cII cJ cJJ n E DG G1 U1 sw1 tp1 C1 P ++ wV tq f2 er2 tr2 kr2 cI cII cJ cJJ n E DG G2 U2 sw2 tp2 (fun _ => 0) P) H → va_D (lwA s) (wV tp f er tr kr cI cII cJ cJJ n E DG G1 U1 sw1 tp1 C1 P ++ wV tq f2 er2 tr2 kr2 cI cII cJ cJJ n E DG G2 U2 sw2 tp2 (fun _ => 0) P) → va_S (lwA s) s.heap H locs → lv_has ls 12 [(6, .int (nI t)), (5, .int pd), (4, .int dr), (3, .int (nI n)), (2, .ref tq), (1, .ref tp), (0, .ref b)] → W p l e room_1 s m #[Value.ref b] below meth c H locs 1000 10000 (lw_Z below #[Value.ref b] s) (F0 m 389 ls []) := fun G1 U1 G2 U2 C1 sw1 tp1 sw2 tp2 dr pd I H locs ls hP hD hS hl => law_389 C0 hK hn0 hn M9 (ih c57) I hP hD hS hl
    rcases (show k5 = 0 ∨ k5 = 1 ∨ k5 = 2 ∨ k5 = 3 ∨ k5 = 4 by omega) with rfl | rfl | rfl | rfl | rfl
    · refine lv_tableIn (off := 30) (tgt := 136) hx hb dL_law_106 (by decide) (by decide) (by decide) (by decide) ?_
      exact law_136 C0 hK hn0 hn M9 hj hq1 hq2 c57 K I hP hD hS (lv_sub hl [0, 1, 2, 3, 4, 5, 6, 7, 8, 9] rfl)
    · refine lv_tableIn (off := 30) (tgt := 136) hx hb dL_law_106 (by decide) (by decide) (by decide) (by decide) ?_
      exact law_136 C0 hK hn0 hn M9 hj hq1 hq2 c57 K I hP hD hS (lv_sub hl [0, 1, 2, 3, 4, 5, 6, 7, 8, 9] rfl)
    · refine lv_tableIn (off := 91) (tgt := 197) hx hb dL_law_106 (by decide) (by decide) (by decide) (by decide) ?_
      exact law_197 C0 hK hn0 hn M9 hj hq1 hq2 c57 K I hP hD hS (lv_sub hl [0, 1, 2, 3, 4, 5, 6, 7, 8, 9] rfl)
    · refine lv_tableIn (off := 128) (tgt := 234) hx hb dL_law_106 (by decide) (by decide) (by decide) (by decide) ?_
      exact law_234 C0 hK hn0 hn M9 hj hq1 hq2 c57 K I hP hD hS (lv_sub hl [0, 1, 2, 3, 4, 5, 6, 7, 8, 9] rfl)
    · refine lv_tableOut (tgt := 307) hx hb dL_law_106 (by decide) (by decide) ?_
      exact law_307 C0 hK hn0 hn M9 hj hq1 hq2 c57 K I hP hD hS (lv_sub hl [0, 1, 2, 3, 4, 5, 6, 7, 8, 9] rfl)

theorem law_loop {p : Program} {l : Launch} {e : Env} {s : State} {m : MethodId} {below : List Frame} {meth : Method} {c : Code} {b L : Nat} {xs : Nat → Int32} (C0 : lw_At p s m meth c b L xs) {dC : Nat → ClassId} {dI : Nat → Nat → Nat} {cI cII cJ cJJ : ClassId} {tp tq : Nat} {f f2 : Nat → Nat} {er tr kr er2 tr2 kr2 : Nat → Nat} (hK : va_K (dC, dI) vwCl (tyL cI cII cJ cJJ) s) {n : Nat} {E : V2} {DG P : V1} (hn0 : 0 < n) (hn : n ≤ 5) (M9 : MOK n n E DG) (haI : va_AOA .int s) (haL : va_AOA .long s) (hL : L < 2 ^ 31) : ∀ (d : Nat) (t : Nat), t ≤ 50 → 50 - t ≤ d → ∀ (G1 U1 G2 U2 C1 : V1) (sw1 tp1 sw2 tp2 dr pd : Int32), LInv n E DG t G1 G2 sw1 tp1 sw2 tp2 dr C1 pd → ∀ (H : Heap) (locs : List Loc) (ls : Array Slot), va_P (dC, dI) vwCl (wV tp f er tr kr cI cII cJ cJJ n E DG G1 U1 sw1 tp1 C1 P ++ wV tq f2 er2 tr2 kr2 cI cII cJ cJJ n E DG G2 U2 sw2 tp2 (fun _ => 0) P) H → va_D (lwA s) (wV tp f er tr kr cI cII cJ cJJ n E DG G1 U1 sw1 tp1 C1 P ++ wV tq f2 er2 tr2 kr2 cI cII cJ cJJ n E DG G2 U2 sw2 tp2 (fun _ => 0) P) → va_S (lwA s) s.heap H locs → lv_has ls 12 [(6, .int (nI t)), (5, .int pd), (4, .int dr), (3, .int (nI n)), (2, .ref tq), (1, .ref tp), (0, .ref b)] → W p l e room_1 s m #[Value.ref b] below meth c H locs 1000 10000 (lw_Z below #[Value.ref b] s) (F0 m 53 ls [])
  | 0, t, h1, h2 => fun G1 U1 G2 U2 C1 sw1 tp1 sw2 tp2 dr pd I H locs ls hP hD hS hl => law_53 C0 hK hn0 hn M9 haI haL hL h1 (fun h => absurd h (by omega)) I hP hD hS hl
  | d + 1, t, h1, h2 => fun G1 U1 G2 U2 C1 sw1 tp1 sw2 tp2 dr pd I H locs ls hP hD hS hl => law_53 C0 hK hn0 hn M9 haI haL hL h1 (fun h => law_loop C0 hK hn0 hn M9 haI haL hL d (t + 1) (by omega) (by omega)) I hP hD hS hl

