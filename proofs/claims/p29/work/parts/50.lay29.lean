/-! the moor that the law lays, as a function of the script's cells -/
def belowF (v n : Int32) : Int32 := (v &&& 2147483647) - (v &&& 2147483647) / n * n
theorem and_max (v : Int32) : ∃ m : Nat, m < 2 ^ 31 ∧ v &&& 2147483647 = nI m := by
  refine ⟨(v.toBitVec &&& 2147483647#32).toNat, ?_, ?_⟩
  · rw [BitVec.toNat_and]
    exact Nat.lt_of_le_of_lt Nat.and_le_right (by decide)
  · apply Int32.toBitVec_inj.mp
    show v.toBitVec &&& 2147483647#32 = BitVec.ofNat 32 _
    rw [BitVec.ofNat_toNat, BitVec.setWidth_eq]
theorem belowF_spec (v : Int32) {n : Nat} (h0 : 0 < n) (h : n < 2 ^ 31) : ∃ j : Nat, j < n ∧ belowF v (nI n) = nI j := by
  obtain ⟨m, hm, e⟩ := and_max v
  unfold belowF
  rw [e]
  have hm' : m % n < n := Nat.mod_lt _ h0
  refine ⟨m % n, hm', ?_⟩
  apply Int32.toInt_inj.mp
  have tm := nI_toInt hm
  have tn := nI_toInt h
  have tr := nI_toInt (show m % n < 2 ^ 31 by omega)
  have td : (nI m / nI n).toInt = ((m / n : Nat) : Int) := by rw [i32_div (by omega) (by omega), tm, tn]; rfl
  have hle : (m / n) * n ≤ m := Nat.div_mul_le_self m n
  have hmul : ((m / n : Nat) : Int) * (n : Int) = (((m / n) * n : Nat) : Int) := by rw [Int.natCast_mul]
  have tp : (nI m / nI n * nI n).toInt = (((m / n) * n : Nat) : Int) := by
    rw [i32_mul (by rw [td, tn, hmul]; omega) (by rw [td, tn, hmul]; omega), td, tn, hmul]
  have hmod := Nat.div_add_mod' m n
  rw [i32_sub (by rw [tm, tp]; omega) (by rw [tm, tp]; omega), tm, tp, tr]
  omega
abbrev SM : Type := V2 × V1 × V1
def layX (n a b : Nat) (q : Int32) (s : SM) : SM := (layE s.1 a b q, layD s.1 s.2.1 a b q, resetP n b (resetP n a s.2.2))
def cellF (xs : Nat → Int32) (L k : Nat) : Int32 := if k < L then xs k else 790386105 * (nI k + nI 3)
def xF (xs : Nat → Int32) (L k : Nat) : Int32 := cellF xs L (3 + k) + nI 5 * nI k
def t1F (x : Int32) (k : Nat) : Nat := if k = 0 then 6 else if belowF x (nI 3) = 0 then 6 else (belowF (x >>> (nI 2 &&& 31)) (nI k)).toNatClampNeg
def q1F (x : Int32) : Int32 := nI 1 + belowF (x >>> (nI 4 &&& 31)) (nI 3)
def o2F (n : Nat) (x : Int32) : Nat := (belowF (x >>> (nI 3 &&& 31)) (nI (n + 1))).toNatClampNeg
def t2F (n : Nat) (x : Int32) : Nat := if o2F n x = n then 6 else o2F n x
def q2F (x : Int32) : Int32 := if nI 1 < belowF (x >>> (nI 5 &&& 31)) (nI 4) then belowF (x >>> (nI 5 &&& 31)) (nI 4) else nI 1
def stepM (n : Nat) (xs : Nat → Int32) (L k : Nat) (s : SM) : SM :=
  if o2F n (xF xs L k) = k then layX n k (t1F (xF xs L k) k) (q1F (xF xs L k)) s
  else if belowF (xF xs L k >>> (nI 6 &&& 31)) (nI 2) = 0 then layX n k (t2F n (xF xs L k)) (q2F (xF xs L k)) (layX n k (t1F (xF xs L k) k) (q1F (xF xs L k)) s)
  else layX n k (t1F (xF xs L k) k) (q1F (xF xs L k)) s
def moorX (n : Nat) (xs : Nat → Int32) (L k : Nat) : SM := it (stepM n xs L) k (fun _ _ => 0, fun _ => 0, fun _ => 0)
theorem layE_at {E : V2} {a b : Nat} {q : Int32} (hab : a ≠ b) (i j : Nat) : layE E a b q i j = if (i = a ∧ j = b) ∨ (i = b ∧ j = a) then q else E i j := by
  unfold layE updR upd
  by_cases h1 : i = b
  · subst h1
    have h2 : ¬ i = a := fun z => hab z.symm
    by_cases h3 : j = a
    · simp [h3]
    · simp [h2, h3]
  · by_cases h2 : i = a
    · subst h2
      by_cases h3 : j = b
      · simp [h1, h3]
      · simp [h1, h3]
    · simp [h1, h2]
theorem layD_at {E : V2} {DG : V1} {a b : Nat} {q : Int32} (hab : a ≠ b) (i : Nat) : layD E DG a b q i = if i = a ∨ i = b then DG i + (q - E a b) else DG i := by
  unfold layD upd
  by_cases h1 : i = b
  · subst h1
    have h2 : ¬ i = a := fun z => hab z.symm
    simp [h2]
  · by_cases h2 : i = a
    · subst h2
      simp [h1]
    · simp [h1, h2]
theorem sumN_upd (F : V1) (k : Nat) (q : Int32) : ∀ m : Nat, sumN (upd F k q) m = if k < m then sumN F m + (q - F k) else sumN F m
  | 0 => by simp [sumN]
  | m + 1 => by
    show sumN (upd F k q) m + upd F k q m = _
    rw [sumN_upd F k q m]
    show _ = if k < m + 1 then sumN F m + F m + (q - F k) else sumN F m + F m
    unfold upd
    by_cases h : k < m
    · rw [if_pos h, if_neg (show ¬ m = k by omega), if_pos (show k < m + 1 by omega)]
      grind
    · by_cases e : m = k
      · subst e
        rw [if_neg h, if_pos rfl, if_pos (Nat.lt_succ_self m)]
        grind
      · rw [if_neg h, if_neg e, if_neg (show ¬ k < m + 1 by omega)]
def MOK (n k : Nat) (E : V2) (DG : V1) : Prop :=
  (∀ i j, i < 7 → j < 7 → E i j = E j i) ∧ (∀ i, i < 7 → E i i = 0) ∧ (∀ i j, i < 7 → j < 7 → 0 ≤ (E i j).toInt ∧ (E i j).toInt ≤ 3) ∧ (∀ i, i < 7 → DG i = sumN (E i) 7) ∧ (∀ i j, i < 7 → n ≤ j → j < 6 → E i j = 0) ∧ ∀ i, i < k → 0 < (E i 6).toInt ∨ ∃ j, j < i ∧ 0 < (E i j).toInt
theorem mok_zero (n : Nat) : MOK n 0 (fun _ _ => 0) (fun _ => 0) :=
  ⟨fun _ _ _ _ => rfl, fun _ _ => rfl, fun _ _ _ _ => (show 0 ≤ (0 : Int32).toInt ∧ (0 : Int32).toInt ≤ 3 by decide), fun _ _ => (show (0 : Int32) = sumN (fun _ => 0) 7 by decide), fun _ _ _ _ _ => rfl, fun i h => absurd h (Nat.not_lt_zero i)⟩
theorem mok_lay {n k a b : Nat} {q : Int32} {E : V2} {DG : V1} (M : MOK n k E DG) (hn : n ≤ 6) (ha : a < n ∨ a = 6) (hb : b < n ∨ b = 6) (hab : a ≠ b) (hq : 1 ≤ q.toInt ∧ q.toInt ≤ 3) : MOK n k (layE E a b q) (layD E DG a b q) := by
  obtain ⟨m1, m2, m3, m4, m5, m6⟩ := M
  have ha7 : a < 7 := by omega
  have hb7 : b < 7 := by omega
  refine ⟨fun i j hi hj => ?_, fun i hi => ?_, fun i j hi hj => ?_, fun i hi => ?_, fun i j hi hnj hj => ?_, fun i hi => ?_⟩
  · rw [layE_at hab, layE_at hab, m1 i j hi hj]
    by_cases h : (i = a ∧ j = b) ∨ (i = b ∧ j = a)
    · rw [if_pos h, if_pos (by omega)]
    · rw [if_neg h, if_neg (by omega)]
  · rw [layE_at hab, if_neg (by omega)]
    exact m2 i hi
  · rw [layE_at hab]
    split
    · omega
    · exact m3 i j hi hj
  · rw [layD_at hab]
    by_cases h1 : i = a
    · subst h1
      rw [if_pos (Or.inl rfl)]
      have e : layE E i b q i = upd (E i) b q := by
        funext j
        rw [layE_at hab]
        unfold upd
        by_cases h : j = b
        · simp [h]
        · simp [h, hab]
      rw [e, sumN_upd, if_pos hb7, m4 i hi]
    · by_cases h2 : i = b
      · subst h2
        rw [if_pos (Or.inr rfl)]
        have e : layE E a i q i = upd (E i) a q := by
          funext j
          rw [layE_at hab]
          unfold upd
          by_cases h : j = a
          · simp [h]
          · simp [h, h1]
        rw [e, sumN_upd, if_pos ha7, m4 i hi, m1 a i ha7 hi]
      · rw [if_neg (by omega), m4 i hi]
        have e : layE E a b q i = E i := by
          funext j
          rw [layE_at hab, if_neg (by omega)]
        rw [e]
  · rw [layE_at hab, if_neg (by omega)]
    exact m5 i j hi hnj hj
  · rcases m6 i hi with h | ⟨j, hj, h⟩
    · refine Or.inl ?_
      rw [layE_at hab]
      split <;> omega
    · refine Or.inr ⟨j, hj, ?_⟩
      rw [layE_at hab]
      split <;> omega
theorem mok_new {n k b : Nat} {q : Int32} {E : V2} {DG : V1} (M : MOK n k E DG) (hn : n ≤ 6) (hk : k < n) (hb : b < k ∨ b = 6) (hq : 1 ≤ q.toInt ∧ q.toInt ≤ 3) : MOK n (k + 1) (layE E k b q) (layD E DG k b q) := by
  have hab : k ≠ b := by omega
  obtain ⟨m1, m2, m3, m4, m5, m6⟩ := mok_lay M hn (Or.inl hk) (hb.imp (fun h => by omega) id) hab hq
  refine ⟨m1, m2, m3, m4, m5, fun i hi => ?_⟩
  rcases Nat.lt_or_ge i k with h | h
  · exact m6 i h
  · have e : i = k := by omega
    subst e
    have e2 : layE E i b q i b = q := by rw [layE_at hab, if_pos (Or.inl ⟨rfl, rfl⟩)]
    rcases hb with h2 | h2
    · exact Or.inr ⟨b, h2, by rw [e2]; omega⟩
    · subst h2
      exact Or.inl (by rw [e2]; omega)
theorem t1F_lt (x : Int32) {k : Nat} (hk : k < 6) : t1F x k < k ∨ t1F x k = 6 := by
  unfold t1F
  by_cases h : k = 0
  · exact Or.inr (if_pos h)
  · rw [if_neg h]
    by_cases h2 : belowF x (nI 3) = 0
    · exact Or.inr (if_pos h2)
    · rw [if_neg h2]
      obtain ⟨j, hj, e⟩ := belowF_spec (x >>> (nI 2 &&& 31)) (show 0 < k by omega) (by omega)
      rw [e, nI_clamp (by omega)]
      exact Or.inl hj
theorem q1F_in (x : Int32) : 1 ≤ (q1F x).toInt ∧ (q1F x).toInt ≤ 3 := by
  unfold q1F
  obtain ⟨j, hj, e⟩ := belowF_spec (x >>> (nI 4 &&& 31)) (show 0 < 3 by omega) (by omega)
  rw [e, nI_add, nI_toInt (by omega)]
  omega
theorem q2F_in (x : Int32) : 1 ≤ (q2F x).toInt ∧ (q2F x).toInt ≤ 3 := by
  unfold q2F
  obtain ⟨j, hj, e⟩ := belowF_spec (x >>> (nI 5 &&& 31)) (show 0 < 4 by omega) (by omega)
  rw [e]
  split
  · rename_i h
    have := (nI_ltI (by omega) (by omega)).mp h
    rw [nI_toInt (by omega)]
    omega
  · rw [nI_toInt (by omega)]
    omega
theorem o2F_lt (n : Nat) (x : Int32) (hn : n ≤ 6) : o2F n x < n + 1 := by
  unfold o2F
  obtain ⟨j, hj, e⟩ := belowF_spec (x >>> (nI 3 &&& 31)) (show 0 < n + 1 by omega) (by omega)
  rw [e, nI_clamp (by omega)]
  exact hj
theorem t2F_in {n k : Nat} {x : Int32} (hn : n ≤ 6) (hk : k < n) (h : ¬ o2F n x = k) : (t2F n x < n ∨ t2F n x = 6) ∧ k ≠ t2F n x := by
  have := o2F_lt n x hn
  unfold t2F
  split <;> omega
theorem mok_step {n k : Nat} {xs : Nat → Int32} {L : Nat} {s : SM} (M : MOK n k s.1 s.2.1) (hn : n ≤ 6) (hk : k < n) : MOK n (k + 1) (stepM n xs L k s).1 (stepM n xs L k s).2.1 := by
  have h1 : MOK n (k + 1) (layX n k (t1F (xF xs L k) k) (q1F (xF xs L k)) s).1 (layX n k (t1F (xF xs L k) k) (q1F (xF xs L k)) s).2.1 := mok_new M hn hk (t1F_lt _ (by omega)) (q1F_in _)
  unfold stepM
  split
  · exact h1
  · rename_i h
    split
    · obtain ⟨h2, h3⟩ := t2F_in (x := xF xs L k) hn hk h
      exact mok_lay h1 hn (Or.inl hk) h2 h3 (q2F_in _)
    · exact h1
theorem mok_all {n : Nat} (xs : Nat → Int32) (L : Nat) (hn : n ≤ 6) : ∀ k, k ≤ n → MOK n k (moorX n xs L k).1 (moorX n xs L k).2.1
  | 0, _ => mok_zero n
  | k + 1, h => mok_step (s := moorX n xs L k) (mok_all xs L hn k (by omega)) hn (by omega)
def aE (E : V2) : Z2 := fun i j => (E i j).toInt
def bE (E : V2) : Z1 := fun i => (E i 6).toInt
def gE (DG : V1) : Z1 := fun i => (DG i).toInt
theorem sumN_toInt {F : V1} {m : Nat} (hm : m ≤ 7) (h : ∀ j, j < 7 → 0 ≤ (F j).toInt ∧ (F j).toInt ≤ 3) : ∀ i, i ≤ m → (sumN F i).toInt = sg (fun j => (F j).toInt) i ∧ 0 ≤ sg (fun j => (F j).toInt) i ∧ sg (fun j => (F j).toInt) i ≤ 3 * i
  | 0, _ => ⟨rfl, Int.le_refl 0, Int.le_refl 0⟩
  | i + 1, hi => by
    obtain ⟨e, h0, h3⟩ := sumN_toInt hm h i (by omega)
    obtain ⟨f0, f3⟩ := h i (by omega)
    have es : sg (fun j => (F j).toInt) (i + 1) = sg (fun j => (F j).toInt) i + (F i).toInt := rfl
    refine ⟨?_, by rw [es]; omega, by rw [es]; omega⟩
    show (sumN F i + F i).toInt = _
    rw [i32_add (by rw [e]; omega) (by rw [e]; omega), e, es]
theorem sg_tail {f : Nat → Int} {n : Nat} (h : ∀ j, n ≤ j → j < 6 → f j = 0) : ∀ m, n ≤ m → m ≤ 6 → sg f m = sg f n
  | 0, h1, _ => by rw [show n = 0 by omega]
  | m + 1, h1, h2 => by
    rcases Nat.lt_or_ge m n with q | q
    · rw [show n = m + 1 by omega]
    · show sg f m + f m = sg f n
      rw [sg_tail h m q (by omega), h m q (by omega)]
      omega
theorem mok_moor {n : Nat} {E : V2} {DG : V1} (M : MOK n n E DG) (hn : n ≤ 6) : MoorI n E DG (aE E) (bE E) (gE DG) ∧ Conn n (aE E) (bE E) := by
  obtain ⟨m1, m2, m3, m4, m5, m6⟩ := M
  refine ⟨⟨⟨fun i j hi hj => congrArg Int32.toInt (m1 i j (by omega) (by omega)), fun i j hi hj => (m3 i j (by omega) (by omega)).1, fun i hi => ?_, fun i hi => (m3 i 6 (by omega) (by omega)).1, fun i hi => ?_⟩, fun _ _ _ _ => rfl, fun _ _ => rfl, fun _ _ => rfl⟩, par_conn ?_⟩
  · show (E i i).toInt = 0
    rw [m2 i (by omega)]
    rfl
  · show (DG i).toInt = (E i 6).toInt + sg (fun j => (E i j).toInt) n
    rw [m4 i (by omega), (sumN_toInt (Nat.le_refl 7) (fun j hj => m3 i j (by omega) hj) 7 (Nat.le_refl 7)).1]
    show sg (fun j => (E i j).toInt) 6 + (E i 6).toInt = _
    rw [sg_tail (fun j h1 h2 => by rw [m5 i j (by omega) h1 h2]; rfl) 6 hn (Nat.le_refl 6)]
    omega
  · intro k hk
    exact m6 k hk
theorem mok_fast {n : Nat} {E : V2} {DG : V1} (M : MOK n n E DG) (hn : n ≤ 6) (h0 : 0 < n) : fastB n E = true := by
  obtain ⟨m1, m2, m3, m4, m5, m6⟩ := M
  refine par_fast hn h0 (fun i j hi hj => ?_) m6
  have := m3 i j (by omega) hj
  omega
theorem mok_deg {n : Nat} {E : V2} {DG : V1} (M : MOK n n E DG) (hn : n ≤ 6) {i : Nat} (hi : i < n) : 1 ≤ (DG i).toInt ∧ (DG i).toInt ≤ 18 := by
  obtain ⟨X, K⟩ := mok_moor M hn
  refine ⟨degree_pos X.1 K hi, ?_⟩
  obtain ⟨m1, m2, m3, m4, m5, m6⟩ := M
  have hs : ∀ j, j < 7 → 0 ≤ (E i j).toInt ∧ (E i j).toInt ≤ 3 := fun j hj => m3 i j (by omega) hj
  rw [m4 i (by omega), (sumN_toInt (Nat.le_refl 7) hs 7 (Nat.le_refl 7)).1]
  have hz : (E i i).toInt = 0 := by rw [m2 i (by omega)]; rfl
  have e : sg (fun j => (E i j).toInt) 7 = (E i 0).toInt + (E i 1).toInt + (E i 2).toInt + (E i 3).toInt + (E i 4).toInt + (E i 5).toInt + (E i 6).toInt := by
    show 0 + (E i 0).toInt + (E i 1).toInt + (E i 2).toInt + (E i 3).toInt + (E i 4).toInt + (E i 5).toInt + (E i 6).toInt = _
    omega
  rw [e]
  have h0 := hs 0 (by omega)
  have h1 := hs 1 (by omega)
  have h2 := hs 2 (by omega)
  have h3 := hs 3 (by omega)
  have h4 := hs 4 (by omega)
  have h5 := hs 5 (by omega)
  have h6 := hs 6 (by omega)
  have hc : i = 0 ∨ i = 1 ∨ i = 2 ∨ i = 3 ∨ i = 4 ∨ i = 5 := by omega
  rcases hc with rfl | rfl | rfl | rfl | rfl | rfl <;> omega
