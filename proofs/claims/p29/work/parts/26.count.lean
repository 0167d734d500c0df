/-! count: the last pivot, in 64-bit numbers too -/
theorem i64_mul {x y : Int64} (h1 : -9223372036854775808 ≤ x.toInt * y.toInt) (h2 : x.toInt * y.toInt < 9223372036854775808) : (x * y).toInt = x.toInt * y.toInt := by
  rw [Int64.toInt_mul]
  exact Int.bmod_eq_of_le (by omega) (by omega)
theorem i64_sub {x y : Int64} (h1 : -9223372036854775808 ≤ x.toInt - y.toInt) (h2 : x.toInt - y.toInt < 9223372036854775808) : (x - y).toInt = x.toInt - y.toInt := by
  rw [Int64.toInt_sub]
  exact Int.bmod_eq_of_le (by omega) (by omega)
theorem i64_div {x y : Int64} {m : Int} (hy : 1 ≤ y.toInt) (he : x.toInt = y.toInt * m) (h1 : -9223372036854775808 ≤ m) (h2 : m < 9223372036854775808) : (x / y).toInt = m := by
  rw [Int64.toInt_div, he, Int.mul_tdiv_cancel_left m (by omega)]
  exact Int.bmod_eq_of_le (by omega) (by omega)
theorem updR_at {α : Type} {E : Nat → Nat → α} {j i c : Nat} {r : Nat → α} : updR E j r i c = if i = j then r c else E i c := by
  unfold updR
  split <;> rfl
theorem elimC_at (st : Nat) (pb pv : Int64) (r : Nat) (T : L2) (hr : st < r) : ∀ (k i c : Nat), it (elimC st pb pv r) k T i c = if i = r ∧ st < c ∧ c < st + 1 + k then (T r c * pv - T r st * T st c) / pb else T i c
  | 0, i, c => by
    rw [if_neg (by omega)]
    rfl
  | k + 1, i, c => by
    have ih := elimC_at st pb pv r T hr k
    show updR (it (elimC st pb pv r) k T) r _ i c = _
    rw [updR_at]
    by_cases e : i = r
    · rw [if_pos e]
      subst e
      unfold vp_updL
      by_cases h : c = st + 1 + k
      · rw [if_pos h, if_pos ⟨rfl, by omega, by omega⟩, ih i (st + 1 + k), ih i st, ih st (st + 1 + k), if_neg (by omega), if_neg (by omega), if_neg (by omega), h]
      · rw [if_neg h, ih i c]
        by_cases h2 : st < c ∧ c < st + 1 + k
        · rw [if_pos ⟨rfl, h2⟩, if_pos ⟨rfl, by omega, by omega⟩]
        · rw [if_neg (fun z => h2 z.2), if_neg (by omega)]
    · rw [if_neg e, ih i c, if_neg (fun z => e z.1), if_neg (fun z => e z.1)]
theorem elimR_at (st : Nat) (pb pv : Int64) (n : Nat) (T : L2) : ∀ (k i c : Nat), it (elimR st pb pv n) k T i c = if st < i ∧ i < st + 1 + k ∧ st < c ∧ c < n then (T i c * pv - T i st * T st c) / pb else T i c
  | 0, i, c => by
    rw [if_neg (by omega)]
    rfl
  | k + 1, i, c => by
    have ih := elimR_at st pb pv n T k
    show it (elimC st pb pv (st + 1 + k)) (n - (st + 1)) (it (elimR st pb pv n) k T) i c = _
    rw [elimC_at st pb pv (st + 1 + k) _ (by omega)]
    by_cases e : i = st + 1 + k ∧ st < c ∧ c < st + 1 + (n - (st + 1))
    · rw [if_pos e, if_pos (by omega), ih (st + 1 + k) c, ih (st + 1 + k) st, ih st c, if_neg (by omega), if_neg (by omega), if_neg (by omega), e.1]
    · rw [if_neg e, ih i c]
      by_cases h2 : st < i ∧ i < st + 1 + k ∧ st < c ∧ c < n
      · rw [if_pos h2, if_pos (by omega)]
      · rw [if_neg h2, if_neg (by omega)]
theorem elimT_at {n st : Nat} {pb : Int64} {T : L2} {i c : Nat} (hst : st < n) : elimT n st pb T i c = if st < i ∧ i < n ∧ st < c ∧ c < n then (T i c * T st st - T i st * T st c) / pb else T i c := by
  unfold elimT
  rw [elimR_at]
  by_cases h : st < i ∧ i < n ∧ st < c ∧ c < n
  · rw [if_pos h, if_pos (by omega)]
  · rw [if_neg h, if_neg (by omega)]
theorem fillC_at (E : V2) (DG : V1) (r : Nat) (T : L2) : ∀ (k i c : Nat), it (fillC E DG r) k T i c = if i = r ∧ c < k then (if r = c then (DG r).toInt64 else (-(E r c)).toInt64) else T i c
  | 0, i, c => (if_neg (fun z => Nat.not_lt_zero _ z.2)).symm
  | k + 1, i, c => by
    have ih := fillC_at E DG r T k
    show updR (it (fillC E DG r) k T) r _ i c = _
    rw [updR_at]
    by_cases e : i = r
    · rw [if_pos e]
      subst e
      unfold vp_updL
      by_cases h : c = k
      · rw [if_pos h, ← h]
        exact (if_pos ⟨rfl, Nat.lt_succ_self c⟩).symm
      · rw [if_neg h, ih i c]
        by_cases h2 : c < k
        · exact (if_pos ⟨rfl, h2⟩).trans (if_pos ⟨rfl, Nat.lt_succ_of_lt h2⟩).symm
        · exact (if_neg (fun z => h2 z.2)).trans (if_neg (fun z => h (by have := z.2; omega))).symm
    · rw [if_neg e, ih i c]
      exact (if_neg (fun z => e z.1)).trans (if_neg (fun z => e z.1)).symm
theorem fillR_at (n : Nat) (E : V2) (DG : V1) (T : L2) : ∀ (k i c : Nat), it (fillR n E DG) k T i c = if i < k ∧ c < n then (if i = c then (DG i).toInt64 else (-(E i c)).toInt64) else T i c
  | 0, i, c => (if_neg (fun z => Nat.not_lt_zero _ z.1)).symm
  | k + 1, i, c => by
    have ih := fillR_at n E DG T k
    show it (fillC E DG k) n (it (fillR n E DG) k T) i c = _
    rw [fillC_at]
    by_cases e : i = k ∧ c < n
    · obtain ⟨rfl, hc⟩ := e
      exact (if_pos ⟨rfl, hc⟩).trans (if_pos ⟨Nat.lt_succ_self i, hc⟩).symm
    · rw [ih i c]
      by_cases h2 : i < k ∧ c < n
      · exact (if_neg e).trans ((if_pos h2).trans (if_pos ⟨Nat.lt_succ_of_lt h2.1, h2.2⟩).symm)
      · exact (if_neg e).trans ((if_neg h2).trans (if_neg (by omega)).symm)
def tI (T : L2) : Z2 := fun r c => (T r c).toInt
/-- the entries from row and column k on are no greater than the pivots allow -/
theorem Piv.abs {n k : Nat} {L : Z2} {q : Int} (h : Piv n k L q) {r c : Nat} (hr : k ≤ r) (hrn : r < n) (hc : k ≤ c) (hcn : c < n) : - (18 * q) ≤ L r c ∧ L r c ≤ 18 * q := by
  obtain ⟨hq, hoff, hR, -, hdg, -⟩ := h
  by_cases e : r = c
  · subst e
    refine ⟨?_, hdg r hr hrn⟩
    have h1 := hR r hr hrn
    have h2 : sg (fun c => if k ≤ c then L r c else 0) n ≤ L r r := by
      have e1 : sg (fun c => if k ≤ c then L r c else 0) n = sg (fun c => (if c = r then L r r else 0) + (if k ≤ c ∧ c ≠ r then L r c else 0)) n := sg_congr (fun c _ => by
        by_cases h1 : c = r
        · subst h1; rw [if_pos hr, if_pos rfl, if_neg (fun z => z.2 rfl)]; omega
        · by_cases h2 : k ≤ c
          · rw [if_pos h2, if_neg h1, if_pos ⟨h2, h1⟩]; omega
          · rw [if_neg h2, if_neg h1, if_neg (fun z => h2 z.1)]; omega)
      rw [e1, sg_add, sg_one (f := fun c => if c = r then L r r else 0) hrn (fun c _ hne => if_neg hne)]
      have h3 : sg (fun c => if k ≤ c ∧ c ≠ r then L r c else 0) n ≤ 0 := Int.le_trans (sg_le (g := fun _ => 0) (fun c hc => by
        split
        · rename_i z; exact hoff r c hr hrn z.1 hc (fun e => z.2 e.symm)
        · exact Int.le_refl 0)) (Int.le_of_eq (sg_zero n))
      simp only [if_true]
      omega
    omega
  · have h0 := hoff r c hr hrn hc hcn e
    refine ⟨?_, by omega⟩
    have h1 := hR r hr hrn
    have h2 : sg (fun c => if k ≤ c then L r c else 0) n ≤ L r r + L r c := by
      have e1 : sg (fun x => if k ≤ x then L r x else 0) n = sg (fun x => ((if x = r then L r r else 0) + (if x = c then L r c else 0)) + (if k ≤ x ∧ x ≠ r ∧ x ≠ c then L r x else 0)) n := sg_congr (fun x _ => by
        by_cases h1 : x = r
        · subst h1; rw [if_pos hr, if_pos rfl, if_neg e, if_neg (fun z => z.2.1 rfl)]; omega
        · by_cases h2 : x = c
          · subst h2; rw [if_pos hc, if_neg h1, if_pos rfl, if_neg (fun z => z.2.2 rfl)]; omega
          · by_cases h3 : k ≤ x
            · rw [if_pos h3, if_neg h1, if_neg h2, if_pos ⟨h3, h1, h2⟩]; omega
            · rw [if_neg h3, if_neg h1, if_neg h2, if_neg (fun z => h3 z.1)]; omega)
      rw [e1, sg_add, sg_add, sg_one (f := fun x => if x = r then L r r else 0) hrn (fun x _ hne => if_neg hne), sg_one (f := fun x => if x = c then L r c else 0) hcn (fun x _ hne => if_neg hne)]
      have h3 : sg (fun x => if k ≤ x ∧ x ≠ r ∧ x ≠ c then L r x else 0) n ≤ 0 := Int.le_trans (sg_le (g := fun _ => 0) (fun x hx => by
        split
        · rename_i z; exact hoff r x hr hrn z.1 hx (fun e => z.2.1 e.symm)
        · exact Int.le_refl 0)) (Int.le_of_eq (sg_zero n))
      simp only [if_true]
      omega
    have := hdg r hr hrn
    omega
theorem mul_bound {x y B : Int} (hx : -B ≤ x ∧ x ≤ B) (hy : -B ≤ y ∧ y ≤ B) : -(B * B) ≤ x * y ∧ x * y ≤ B * B := by
  have hB : 0 ≤ B := by omega
  obtain ⟨k, rfl⟩ : ∃ k : Nat, B = k := ⟨B.toNat, by omega⟩
  have h1 : x.natAbs ≤ k := by omega
  have h2 : y.natAbs ≤ k := by omega
  have h3 : (x * y).natAbs ≤ k * k := by rw [Int.natAbs_mul]; exact Nat.mul_le_mul h1 h2
  have h4 : ((k * k : Nat) : Int) = (k : Int) * k := Int.natCast_mul k k
  omega
theorem fact_bound {q m X : Int} (hq : 1 ≤ q) (h : X = q * m) {B : Int} (hX : -B ≤ X ∧ X ≤ B) : -B ≤ m ∧ m ≤ B := by
  have h1 : m.natAbs ≤ X.natAbs := by
    rw [h, Int.natAbs_mul]
    exact Nat.le_mul_of_pos_left _ (by omega)
  omega
section COUNT
variable {n : Nat} {E : V2} {DG : V1} {a : Z2} {b d : Z1} {T : L2}
theorem step64 {k : Nat} {pb : Int64} (hP : Piv n k (tI T) pb.toInt) (hk : k < n) (hq : pb.toInt ≤ 104976) (hex : ∀ r c, k < r → r < n → k < c → c < n → ∃ m, tI T r c * tI T k k - tI T r k * tI T k c = pb.toInt * m) : StepM n k pb.toInt (tI T) (tI (elimT n k pb T)) ∧ elimT n k pb T k k = T k k := by
  refine ⟨fun r c hr hrn hc hcn => ?_, by rw [elimT_at hk, if_neg (by omega)]⟩
  have hq1 := hP.1
  have e : elimT n k pb T r c = (T r c * T k k - T r k * T k c) / pb := by rw [elimT_at hk, if_pos ⟨hr, hrn, hc, hcn⟩]
  obtain ⟨m, hm⟩ := hex r c hr hrn hc hcn
  have B : ∀ i j, k ≤ i → i < n → k ≤ j → j < n → -1889568 ≤ (T i j).toInt ∧ (T i j).toInt ≤ 1889568 := fun i j a1 a2 a3 a4 => by
    have := hP.abs a1 a2 a3 a4
    unfold tI at this
    omega
  have b1 := mul_bound (B r c (by omega) hrn (by omega) hcn) (B k k (Nat.le_refl k) hk (Nat.le_refl k) hk)
  have b2 := mul_bound (B r k (by omega) hrn (Nat.le_refl k) hk) (B k c (Nat.le_refl k) hk (by omega) hcn)
  have e1 : (T r c * T k k).toInt = (T r c).toInt * (T k k).toInt := i64_mul (by omega) (by omega)
  have e2 : (T r k * T k c).toInt = (T r k).toInt * (T k c).toInt := i64_mul (by omega) (by omega)
  have e3 : (T r c * T k k - T r k * T k c).toInt = (T r c).toInt * (T k k).toInt - (T r k).toInt * (T k c).toInt := by
    rw [i64_sub (by rw [e1, e2]; omega) (by rw [e1, e2]; omega), e1, e2]
  have hm' : (T r c).toInt * (T k k).toInt - (T r k).toInt * (T k c).toInt = pb.toInt * m := hm
  have bm := fact_bound hq1 hm' (B := 7140934452224 + 7140934452224) (by omega)
  show pb.toInt * (elimT n k pb T r c).toInt = (T r c).toInt * (T k k).toInt - (T r k).toInt * (T k c).toInt
  rw [e, i64_div hq1 (e3.trans hm') (by omega) (by omega), hm']
theorem adv {k : Nat} {s : L2 × Int64} (hP : Piv n k (tI s.1) s.2.toInt) (hk : k < n) (hq : s.2.toInt ≤ 104976) (hex : ∀ r c, k < r → r < n → k < c → c < n → ∃ m, tI s.1 r c * tI s.1 k k - tI s.1 r k * tI s.1 k c = s.2.toInt * m) :
    StepM n k s.2.toInt (tI s.1) (tI (treeS n k s).1) ∧ Piv n (k + 1) (tI (treeS n k s).1) (treeS n k s).2.toInt ∧ (treeS n k s).2.toInt = tI s.1 k k ∧ (treeS n k s).2.toInt ≤ 18 * s.2.toInt := by
  have hne : ¬ s.2 = 0 := fun z => by
    have := hP.1
    rw [z] at this
    exact absurd this (by decide)
  have e : treeS n k s = (elimT n k s.2 s.1, elimT n k s.2 s.1 k k) := if_neg hne
  obtain ⟨h1, h2⟩ := step64 hP hk hq hex
  rw [e]
  have e2 : (elimT n k s.2 s.1 k k).toInt = tI s.1 k k := by rw [h2]; rfl
  refine ⟨h1, ?_, e2, ?_⟩
  · show Piv n (k + 1) (tI (elimT n k s.2 s.1)) (elimT n k s.2 s.1 k k).toInt
    rw [e2]
    exact hP.step hk h1
  · show (elimT n k s.2 s.1 k k).toInt ≤ _
    rw [e2]
    exact hP.2.2.2.2.1 k (Nat.le_refl k) hk
/-- count of a fast moor of at most five spots is at least 1 -/
theorem count_pos (X : MoorI n E DG a b d) (K : Conn n a b) (hn : n ≤ 5) (hd : ∀ i, i < n → d i ≤ 18) (ha : ∀ i j, i < n → j < n → a i j ≤ 18) : 1 ≤ (treeF n E DG T).2.toInt := by
  obtain ⟨M, hE, -, hDG⟩ := X
  have hL : ∀ r c, r < n → c < n → tI (it (fillR n E DG) n T) r c = if r = c then d r else - a r c := fun r c hr hc => by
    unfold tI
    rw [fillR_at, if_pos ⟨hr, hc⟩]
    by_cases e : r = c
    · rw [if_pos e, if_pos e, Int32.toInt_toInt64, hDG r hr]
    · rw [if_neg e, if_neg e, Int32.toInt_toInt64, Int32.toInt_neg, hE r c hr hc]
      have h1 := M.2.1 r c hr hc
      have h2 := ha r c hr hc
      exact Int.bmod_eq_of_le (by omega) (by omega)
  have P0 : Piv n 0 (tI (it (fillR n E DG) n T)) 1 := Piv.base M K hd hL
  unfold treeF
  generalize hs0 : (it (fillR n E DG) n T, (1 : Int64)) = s0
  have P0 : Piv n 0 (tI s0.1) s0.2.toInt := by rw [← hs0]; exact P0
  have q0 : s0.2.toInt = 1 := by rw [← hs0]; rfl
  rcases Nat.lt_or_ge 0 n with c0 | c0
  · obtain ⟨S0, P1, e1, b1⟩ := adv P0 c0 (by omega) (fun r c _ _ _ _ => ⟨tI s0.1 r c * tI s0.1 0 0 - tI s0.1 r 0 * tI s0.1 0 c, by rw [q0]; omega⟩)
    have i1 : it (treeS n) 1 s0 = treeS n 0 s0 := rfl
    generalize hs1 : treeS n 0 s0 = s1 at S0 P1 e1 b1 i1
    rw [q0] at S0 b1
    rcases Nat.lt_or_ge 1 n with c1 | c1
    · obtain ⟨S1, P2, e2, b2⟩ := adv P1 c1 (by omega) (fun r c a1 a2 a3 a4 => ⟨_, by rw [e1]; exact exact1 S0 a1 a2 a3 a4⟩)
      have i2 : it (treeS n) 2 s0 = treeS n 1 s1 := by rw [it_succ, i1]
      generalize hs2 : treeS n 1 s1 = s2 at S1 P2 e2 b2 i2
      rw [e1] at S1
      have p0 : tI s0.1 0 0 ≠ 0 := by have := P1.1; omega
      rcases Nat.lt_or_ge 2 n with c2 | c2
      · obtain ⟨S2, P3, e3, b3⟩ := adv P2 c2 (by omega) (fun r c a1 a2 a3 a4 => ⟨_, by rw [e2]; exact exact2 S0 S1 p0 a1 a2 a3 a4⟩)
        have i3 : it (treeS n) 3 s0 = treeS n 2 s2 := by rw [it_succ, i2]
        generalize hs3 : treeS n 2 s2 = s3 at S2 P3 e3 b3 i3
        rw [e2] at S2
        have p1 : tI s1.1 1 1 ≠ 0 := by have := P2.1; have e2' : s2.2.toInt = tI s1.1 1 1 := e2; omega
        rcases Nat.lt_or_ge 3 n with c3 | c3
        · obtain ⟨S3, P4, e4, b4⟩ := adv P3 c3 (by omega) (fun r c a1 a2 a3 a4 => ⟨_, by rw [e3]; exact exact3 S0 S1 S2 p0 p1 a1 a2 a3 a4⟩)
          have i4 : it (treeS n) 4 s0 = treeS n 3 s3 := by rw [it_succ, i3]
          generalize hs4 : treeS n 3 s3 = s4 at S3 P4 e4 b4 i4
          rcases Nat.lt_or_ge 4 n with c4 | c4
          · obtain ⟨-, P5, -, -⟩ := adv P4 c4 (by omega) (fun r c a1 a2 a3 a4 => by omega)
            have i5 : it (treeS n) 5 s0 = treeS n 4 s4 := by rw [it_succ, i4]
            rw [show n = 5 by omega] at P5 i5 ⊢
            rw [i5]
            exact P5.1
          · rw [show n = 4 by omega] at P4 i4 ⊢
            rw [i4]
            exact P4.1
        · rw [show n = 3 by omega] at P3 i3 ⊢
          rw [i3]
          exact P3.1
      · rw [show n = 2 by omega] at P2 i2 ⊢
        rw [i2]
        exact P2.1
    · rw [show n = 1 by omega] at P1 i1 ⊢
      rw [i1]
      exact P1.1
  · rw [show n = 0 by omega]
    show 1 ≤ s0.2.toInt
    omega
end COUNT
