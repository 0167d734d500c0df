/-! what the law's loop keeps -/
abbrev ofI : Int → Int32 := Int32.ofInt
theorem ofI_add (x y : Int) : ofI (x + y) = ofI x + ofI y := Int32.ofInt_add x y
theorem ofI_mul (x y : Int) : ofI (x * y) = ofI x * ofI y := Int32.ofInt_mul x y
theorem ofI_to (x : Int32) : ofI x.toInt = x := Int32.ofInt_toInt x
theorem sumN_ofI (G : V1) : ∀ m : Nat, sumN G m = ofI (sg (fun i => (G i).toInt) m)
  | 0 => rfl
  | m + 1 => by
    show sumN G m + G m = ofI (sg (fun i => (G i).toInt) m + (G m).toInt)
    rw [ofI_add, ofI_to, sumN_ofI G m]
theorem sumN_cfg {n : Nat} {G : V1} {c : Z1} (h : Cfg n G c) : sumN G n = ofI (sg c n) := by
  rw [sumN_ofI]
  exact congrArg ofI (sg_congr h)
theorem sumN_lin (F X : V1) (q : Int32) : ∀ m : Nat, sumN (fun j => F j + q * X j) m = sumN F m + q * sumN X m
  | 0 => by simp [sumN]
  | m + 1 => by
    show sumN (fun j => F j + q * X j) m + (F m + q * X m) = sumN F m + F m + q * (sumN X m + X m)
    rw [sumN_lin F X q m]
    grind
theorem sumN_give {E : V2} {DG C : V1} {a : Nat} {q : Int32} (ha : a < 7) (hd : DG a = sumN (E a) 7) : sumN (giveC E DG a q C) 7 = sumN C 7 := by
  have e : sumN (giveC E DG a q C) 7 = sumN (fun j => upd C a (C a - q * DG a) j + q * E a j) 7 := sumN_agr (fun j hj => by
    unfold giveC
    rw [it_tip, if_pos hj])
  rw [e, sumN_lin, sumN_upd, if_pos ha, hd]
  grind
def LInv (n : Nat) (E : V2) (DG : V1) (t : Nat) (G1 G2 : V1) (sw1 tp1 sw2 tp2 dr : Int32) (C : V1) (pd : Int32) : Prop :=
  ∃ d v1 v2 : Z1, (∀ i, i < n → 0 ≤ d i) ∧ sg d n ≤ 25 * t ∧ Reach n (aE E) (gE DG) d v1 ∧ Cfg n G1 (conf n (aE E) (gE DG) d v1) ∧ Reach n (aE E) (gE DG) d v2 ∧ Cfg n G2 (conf n (aE E) (gE DG) d v2) ∧
    sw1 = ofI (sg (fun i => v1 i * bE E i) n) ∧ tp1 = ofI (sg v1 n) ∧ sw2 = ofI (sg (fun i => v2 i * bE E i) n) ∧ tp2 = ofI (sg v2 n) ∧ dr = ofI (sg d n) ∧ sumN C 7 = pd ∧ -(6 * t) ≤ pd.toInt ∧ pd.toInt ≤ 6 * t
theorem inv_zero (n : Nat) (E : V2) (DG : V1) : LInv n E DG 0 (fun _ => 0) (fun _ => 0) 0 0 0 0 0 (fun _ => 0) 0 := by
  have hc : Cfg n (fun _ => 0) (conf n (aE E) (gE DG) (fun _ => 0) (fun _ => 0)) := fun i hi => by
    rw [conf_zero]
    rfl
  refine ⟨fun _ => 0, fun _ => 0, fun _ => 0, fun _ _ => Int.le_refl 0, ?_, Reach.zero, hc, Reach.zero, hc, ?_, ?_, ?_, ?_, ?_, by decide, by decide, by decide⟩
  · rw [sg_zero]; decide
  all_goals first
    | (rw [sg_zero]; rfl)
    | (simp only [Int.zero_mul]; rw [sg_zero]; rfl)
section INV
variable {n : Nat} {E : V2} {DG : V1} {t : Nat} {G1 G2 : V1} {sw1 tp1 sw2 tp2 dr : Int32} {C : V1} {pd : Int32}
theorem conf_cut (X : MoorI n E DG (aE E) (bE E) (gE DG)) {d v : Z1} (hd : ∀ i, i < n → 0 ≤ d i) (h : Reach n (aE E) (gE DG) d v) : (∀ i, i < n → 0 ≤ conf n (aE E) (gE DG) d v i ∧ conf n (aE E) (gE DG) d v i ≤ sg d n) ∧ sg (conf n (aE E) (gE DG) d v) n ≤ sg d n := by
  refine ⟨fun i hi => ⟨h.pos X.1 hd i hi, conf_le X.1 h hd hi⟩, ?_⟩
  rw [sum_conf X.1]
  have := sg_nonneg (f := fun i => v i * bE E i) (n := n) (fun i hi => Int.mul_nonneg (h.nonneg i) (X.1.2.2.2.1 i hi))
  omega
theorem inv_later (I : LInv n E DG t G1 G2 sw1 tp1 sw2 tp2 dr C pd) {t' : Nat} (h : t ≤ t') : LInv n E DG t' G1 G2 sw1 tp1 sw2 tp2 dr C pd := by
  obtain ⟨d, v1, v2, h1, h2, h3, h4, h5, h6, h7, h8, h9, h10, h11, h12, h13, h14⟩ := I
  exact ⟨d, v1, v2, h1, by omega, h3, h4, h5, h6, h7, h8, h9, h10, h11, h12, by omega, by omega⟩
theorem sg_at {j : Nat} (hj : j < n) (q : Int) (d : Z1) : sg (fun i => d i + (if i = j then q else 0)) n = sg d n + q := by
  rw [sg_add, sg_one hj (fun i _ hi => if_neg hi), if_pos rfl]
theorem cfg_drop {j : Nat} {q : Int32} {d v : Z1} {G : V1} (X : MoorI n E DG (aE E) (bE E) (gE DG)) (hd : ∀ i, i < n → 0 ≤ d i) (hs : sg d n ≤ 100000) (hv : Reach n (aE E) (gE DG) d v) (hG : Cfg n G (conf n (aE E) (gE DG) d v)) (h1 : 1 ≤ q.toInt) (h2 : q.toInt ≤ 100) : Cfg n (upd G j (G j + q)) (conf n (aE E) (gE DG) (fun i => d i + (if i = j then q.toInt else 0)) v) := by
  intro i hi
  rw [conf_lin]
  unfold upd
  by_cases h : i = j
  · subst h
    rw [if_pos rfl, if_pos rfl]
    have hb := (conf_cut X hd hv).1 i hi
    have hg := hG i hi
    rw [i32_add (by omega) (by omega), hg]
  · rw [if_neg h, if_neg h, hG i hi]
    omega
theorem inv_drop (X : MoorI n E DG (aE E) (bE E) (gE DG)) (I : LInv n E DG t G1 G2 sw1 tp1 sw2 tp2 dr C pd) (ht : t ≤ 50) {j : Nat} (hj : j < n) {q : Int32} (h1 : 1 ≤ q.toInt) (h2 : q.toInt ≤ 25) : LInv n E DG (t + 1) (upd G1 j (G1 j + q)) (upd G2 j (G2 j + q)) sw1 tp1 sw2 tp2 (dr + q) C pd := by
  obtain ⟨d, v1, v2, hd, hs, r1, c1, r2, c2, h7, h8, h9, h10, h11, h12, h13, h14⟩ := I
  have hm : ∀ i, i < n → d i ≤ d i + (if i = j then q.toInt else 0) := fun i _ => by split <;> omega
  refine ⟨fun i => d i + (if i = j then q.toInt else 0), v1, v2, fun i hi => ?_, ?_, r1.mono hm, cfg_drop X hd (by omega) r1 c1 h1 (by omega), r2.mono hm, cfg_drop X hd (by omega) r2 c2 h1 (by omega), h7, h8, h9, h10, ?_, h12, by omega, by omega⟩
  · have := hd i hi
    have := hm i hi
    show 0 ≤ d i + (if i = j then q.toInt else 0)
    omega
  · rw [sg_at hj]
    omega
  · rw [sg_at hj, ofI_add, ofI_to, h11]
theorem steep_of {k : Nat} (h : steepB DG G1 k = true) : 1 ≤ (DG k).toInt ∧ (DG k).toInt ≤ (G1 k).toInt := by
  unfold steepB at h
  simp only [Bool.and_eq_true, Bool.not_eq_true', decide_eq_false_iff_not] at h
  obtain ⟨a, b⟩ := h
  have a' := Int32.not_le.mp a
  have b' := Int32.not_lt.mp b
  rw [Int32.lt_iff_toInt_lt] at a'
  rw [Int32.le_iff_toInt_le] at b'
  have : (0 : Int32).toInt = 0 := rfl
  omega
theorem steep_not {k : Nat} (h : (G1 k).toInt < (DG k).toInt) : steepB DG G1 k = false := by
  unfold steepB
  have : G1 k < DG k := Int32.lt_iff_toInt_lt.mpr h
  rw [decide_eq_true this, Bool.not_true, Bool.and_false]
theorem inv_top (X : MoorI n E DG (aE E) (bE E) (gE DG)) (I : LInv n E DG t G1 G2 sw1 tp1 sw2 tp2 dr C pd) (ht : t ≤ 50) {k : Nat} (hk : k < n) (hst : steepB DG G2 k = true) : LInv n E DG t G1 (tipG n E DG k 1 G2) sw1 tp1 (sw2 + E k 6) (tp2 + 1) dr C pd := by
  obtain ⟨d, v1, v2, hd, hs, r1, c1, r2, c2, h7, h8, h9, h10, h11, h12, h13, h14⟩ := I
  obtain ⟨s1, s2⟩ := steep_of hst
  have hg := c2 k hk
  have hb := (conf_cut X hd r2).1
  have e1 : (1 : Int32).toInt = 1 := rfl
  have hle : gE DG k ≤ conf n (aE E) (gE DG) d v2 k := by
    show (DG k).toInt ≤ _
    omega
  have hT := tip_spec X (q := 1) hk c2 (fun j hj => by have := hb j hj; omega) (by rw [e1]; decide) (by rw [e1]; omega) (by show 1 ≤ (DG k).toInt; omega)
  have eb : bump v2 k = fun i => v2 i + hop k 1 i := by
    rw [bump_eq]
    rfl
  refine ⟨d, v1, bump v2 k, hd, hs, r1, c1, r2.step hk hle, fun i hi => ?_, h7, h8, ?_, ?_, h11, h12, h13, h14⟩
  · rw [hT i hi, e1, eb, conf_add]
  · have e : sg (fun i => bump v2 k i * bE E i) n = sg (fun i => v2 i * bE E i) n + bE E k := by
      rw [bump_eq]
      have e2 : (fun i => (v2 i + if i = k then 1 else 0) * bE E i) = fun i => v2 i * bE E i + (if i = k then bE E k else 0) := by
        funext i
        rw [Int.add_mul]
        by_cases h : i = k
        · subst h; simp
        · simp [h]
      rw [e2, sg_at hk]
    rw [e, ofI_add, h9]
    show _ = _ + ofI (E k 6).toInt
    rw [ofI_to]
  · rw [sg_bump hk, ofI_add, h10]
    rfl
theorem inv_pay (I : LInv n E DG t G1 G2 sw1 tp1 sw2 tp2 dr C pd) (ht : t ≤ 50) {a : Nat} (ha : a < 7) {q : Int32} (h1 : -6 ≤ q.toInt) (h2 : q.toInt ≤ 6) : LInv n E DG (t + 1) G1 G2 sw1 tp1 sw2 tp2 dr (upd C a (C a + q)) (pd + q) := by
  obtain ⟨d, v1, v2, hd, hs, r1, c1, r2, c2, h7, h8, h9, h10, h11, h12, h13, h14⟩ := I
  have e : (pd + q).toInt = pd.toInt + q.toInt := i32_add (by omega) (by omega)
  refine ⟨d, v1, v2, hd, by omega, r1, c1, r2, c2, h7, h8, h9, h10, h11, ?_, by omega, by omega⟩
  rw [sumN_upd, if_pos ha, h12]
  grind
theorem inv_lend (I : LInv n E DG t G1 G2 sw1 tp1 sw2 tp2 dr C pd) {a : Nat} {q : Int32} (ha : a < 7) (hd : DG a = sumN (E a) 7) : LInv n E DG t G1 G2 sw1 tp1 sw2 tp2 dr (giveC E DG a q C) pd := by
  obtain ⟨d, v1, v2, h1, h2, h3, h4, h5, h6, h7, h8, h9, h10, h11, h12, h13, h14⟩ := I
  exact ⟨d, v1, v2, h1, h2, h3, h4, h5, h6, h7, h8, h9, h10, h11, (sumN_give ha hd).trans h12, h13, h14⟩
theorem times_of {T : V1} {w : Z1} (h : Cfg n T w) : sumN T n = ofI (sg w n) ∧ sumN (fun k => T k * E k 6) n = ofI (sg (fun i => w i * bE E i) n) := by
  refine ⟨sumN_cfg h, ?_⟩
  have key : ∀ m, m ≤ n → sumN (fun k => T k * E k 6) m = ofI (sg (fun i => w i * bE E i) m) := by
    intro m
    induction m with
    | zero => intro _; rfl
    | succ m ih =>
      intro hm
      show sumN (fun k => T k * E k 6) m + T m * E m 6 = ofI (sg (fun i => w i * bE E i) m + w m * bE E m)
      rw [ih (by omega), ofI_add, ofI_mul]
      have e1 : ofI (w m) = T m := by rw [← h m (by omega), ofI_to]
      have e2 : ofI (bE E m) = E m 6 := ofI_to _
      rw [e1, e2]
  exact key n (Nat.le_refl n)
/-- one side settles -/
theorem settle_one (X : MoorI n E DG (aE E) (bE E) (gE DG)) (K : Conn n (aE E) (bE E)) (hn : n ≤ 6) {d v : Z1} {G : V1} {sw tp : Int32} (hd : ∀ i, i < n → 0 ≤ d i) (hs : sg d n ≤ 20000) (r : Reach n (aE E) (gE DG) d v) (c : Cfg n G (conf n (aE E) (gE DG) d v)) (hsw : sw = ofI (sg (fun i => v i * bE E i) n)) (htp : tp = ofI (sg v n)) :
    ∃ v' : Z1, Reach n (aE E) (gE DG) d v' ∧ Stable n (gE DG) (conf n (aE E) (gE DG) d v') ∧ Cfg n (rollF n E DG G).1 (conf n (aE E) (gE DG) d v') ∧ sw + sumN (fun k => (rollF n E DG G).2 k * E k 6) n = ofI (sg (fun i => v' i * bE E i) n) ∧ tp + sumN (rollF n E DG G).2 n = ofI (sg v' n) := by
  obtain ⟨b1, b2⟩ := conf_cut X hd r
  obtain ⟨w, w1, w2, w3, w4⟩ := roll_spec X K hn c (fun i hi => (b1 i hi).1) (Int.le_trans b2 hs)
  have ec : conf n (aE E) (gE DG) (conf n (aE E) (gE DG) d v) w = conf n (aE E) (gE DG) d (fun i => v i + w i) := by
    funext j
    rw [conf_add]
  rw [ec] at w2 w3
  obtain ⟨t1, t2⟩ := times_of (E := E) w4
  refine ⟨fun i => v i + w i, r.trans w1, w2, w3, ?_, ?_⟩
  · rw [t2, hsw, ← ofI_add, ← sg_add]
    congr 2
    funext i
    rw [Int.add_mul]
  · rw [t1, htp, ← ofI_add, ← sg_add]
theorem inv_settle (X : MoorI n E DG (aE E) (bE E) (gE DG)) (K : Conn n (aE E) (bE E)) (hn : n ≤ 6) (I : LInv n E DG t G1 G2 sw1 tp1 sw2 tp2 dr C pd) (ht : t ≤ 50) :
    LInv n E DG t (rollF n E DG G1).1 (rollF n E DG G2).1 (sw1 + sumN (fun k => (rollF n E DG G1).2 k * E k 6) n) (tp1 + sumN (rollF n E DG G1).2 n) (sw2 + sumN (fun k => (rollF n E DG G2).2 k * E k 6) n) (tp2 + sumN (rollF n E DG G2).2 n) dr C pd ∧
    (∀ i, i < n → (rollF n E DG G1).1 i = (rollF n E DG G2).1 i ∧ steepB DG (rollF n E DG G1).1 i = false) ∧ sw1 + sumN (fun k => (rollF n E DG G1).2 k * E k 6) n = sw2 + sumN (fun k => (rollF n E DG G2).2 k * E k 6) n ∧ tp1 + sumN (rollF n E DG G1).2 n = tp2 + sumN (rollF n E DG G2).2 n := by
  obtain ⟨d, v1, v2, hd, hs, r1, c1, r2, c2, h7, h8, h9, h10, h11, h12, h13, h14⟩ := I
  obtain ⟨u1, a1, a2, a3, a4, a5⟩ := settle_one X K hn hd (by omega) r1 c1 h7 h8
  obtain ⟨u2, b1, b2, b3, b4, b5⟩ := settle_one X K hn hd (by omega) r2 c2 h9 h10
  have e : u1 = u2 := Reach.unique X.1.2.1 a1 b1 a2 b2
  subst e
  refine ⟨⟨d, u1, u1, hd, hs, a1, a3, b1, b3, a4, a5, b4, b5, h11, h12, h13, h14⟩, fun i hi => ⟨?_, ?_⟩, a4.trans b4.symm, a5.trans b5.symm⟩
  · exact Int32.toInt_inj.mp ((a3 i hi).trans (b3 i hi).symm)
  · refine steep_not ?_
    rw [a3 i hi]
    exact a2 i hi
theorem inv_sums (X : MoorI n E DG (aE E) (bE E) (gE DG)) (I : LInv n E DG t G1 G2 sw1 tp1 sw2 tp2 dr C pd) : sumN G1 n + sw1 = dr ∧ sumN G2 n + sw2 = dr ∧ sumN C 7 = pd := by
  obtain ⟨d, v1, v2, hd, hs, r1, c1, r2, c2, h7, h8, h9, h10, h11, h12, h13, h14⟩ := I
  refine ⟨?_, ?_, h12⟩
  · rw [sumN_cfg c1, h7, h11, ← ofI_add, sum_conf X.1]
    congr 1
    omega
  · rw [sumN_cfg c2, h9, h11, ← ofI_add, sum_conf X.1]
    congr 1
    omega
end INV
