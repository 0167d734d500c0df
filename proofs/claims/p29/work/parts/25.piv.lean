/-! pivot by pivot: none is below 1 -/
section PIV
variable {n k : Nat} {L N : Z2} {q : Int}
theorem Piv.pivot (h : Piv n k L q) (hk : k < n) : 1 ≤ L k k := by
  obtain ⟨hq, hoff, hrow, hcon, -, -⟩ := h
  obtain ⟨i, hki, hi, rfl, hor⟩ := hcon (fun i => i = k) ⟨k, Nat.le_refl k, hk, rfl⟩
  have e := rest_split L n i i hi
  have hneg : sg (fun c => if i + 1 ≤ c then L i c else 0) n ≤ 0 := by
    refine Int.le_trans (sg_le (g := fun _ => 0) (fun c hc => ?_)) (Int.le_of_eq (sg_zero n))
    split
    · exact hoff i c (Nat.le_refl i) hi (by omega) hc (by omega)
    · exact Int.le_refl 0
  rcases hor with h | ⟨j, hkj, hj, hne, hlt⟩
  · omega
  · have h0 := hrow i (Nat.le_refl i) hi
    have hm := sg_mem (f := fun c => if i + 1 ≤ c then - L i c else 0) hj (fun c hc => by
      split
      · have := hoff i c (Nat.le_refl i) hi (by omega) hc (by omega); omega
      · exact Int.le_refl 0)
    have e2 : sg (fun c => if i + 1 ≤ c then - L i c else 0) n = (-1) * sg (fun c => if i + 1 ≤ c then L i c else 0) n := by
      rw [← sg_mul]
      exact sg_congr (fun c _ => by split <;> omega)
    have hji : i + 1 ≤ j := by
      have : j ≠ i := hne
      omega
    simp only [hji, if_true] at hm
    omega
theorem Piv.row (h : Piv n k L q) (hs : StepM n k q L N) (hk : k < n) {r : Nat} (hr : k < r) (hrn : r < n) : q * sg (fun c => if k + 1 ≤ c then N r c else 0) n = L k k * sg (fun c => if k ≤ c then L r c else 0) n - L r k * sg (fun c => if k ≤ c then L k c else 0) n := by
  rw [rest_split L n k r hk, rest_split L n k k hk, ← sg_mul]
  have e : sg (fun c => q * (if k + 1 ≤ c then N r c else 0)) n = sg (fun c => L k k * (if k + 1 ≤ c then L r c else 0) - L r k * (if k + 1 ≤ c then L k c else 0)) n := sg_congr (fun c hc => by
    by_cases h1 : k + 1 ≤ c
    · rw [if_pos h1, if_pos h1, if_pos h1, hs r c hr hrn (by omega) hc, Int.mul_comm (L r c)]
    · rw [if_neg h1, if_neg h1, if_neg h1]; simp)
  rw [e, sg_sub, sg_mul, sg_mul, Int.mul_add, Int.mul_add, Int.mul_comm (L k k) (L r k)]
  omega
theorem pos_of_mul {q x : Int} (hq : 1 ≤ q) (h : 0 < q * x) : 0 < x := by
  refine Int.lt_of_not_ge (fun z => ?_)
  have := Int.mul_le_mul_of_nonneg_left z (show 0 ≤ q by omega)
  simp at this
  omega
theorem neg_of_mul {q x : Int} (hq : 1 ≤ q) (h : q * x < 0) : x < 0 := by
  refine Int.lt_of_not_ge (fun z => ?_)
  have := Int.mul_nonneg (show 0 ≤ q by omega) z
  omega
theorem nonneg_of_mul {q x : Int} (hq : 1 ≤ q) (h : 0 ≤ q * x) : 0 ≤ x := by
  refine Int.le_of_not_gt (fun z => ?_)
  have : q * x ≤ q * (-1) := Int.mul_le_mul_of_nonneg_left (by omega) (show 0 ≤ q by omega)
  omega
theorem nonpos_of_mul {q x : Int} (hq : 1 ≤ q) (h : q * x ≤ 0) : x ≤ 0 := by
  refine Int.le_of_not_gt (fun z => ?_)
  have : q * 1 ≤ q * x := Int.mul_le_mul_of_nonneg_left (by omega) (show 0 ≤ q by omega)
  omega
theorem Piv.step (h : Piv n k L q) (hk : k < n) (hs : StepM n k q L N) : Piv n (k + 1) N (L k k) := by
  have hp := h.pivot hk
  have hrow := fun (r : Nat) (a : k < r) (b : r < n) => h.row hs hk a b
  obtain ⟨hq, hoff, hR, hcon, hdg, hsym⟩ := h
  have hRk := hR k (Nat.le_refl k) hk
  have hkr : ∀ r, k < r → r < n → L r k ≤ 0 := fun r a b => hoff r k (by omega) b (Nat.le_refl k) hk (by omega)
  have hkc : ∀ c, k < c → c < n → L k c ≤ 0 := fun c a b => hoff k c (Nat.le_refl k) hk (by omega) b (by omega)
  have hprod : ∀ r c, k < r → r < n → k < c → c < n → 0 ≤ L r k * L k c := fun r c a b a2 b2 => by
    have := Int.mul_nonneg (show 0 ≤ - L r k by have := hkr r a b; omega) (show 0 ≤ - L k c by have := hkc c a2 b2; omega)
    rw [Int.neg_mul_neg] at this
    exact this
  refine ⟨hp, fun r c hr hrn hc hcn hne => ?_, fun r hr hrn => ?_, fun S hex => ?_, fun r hr hrn => ?_, fun r c hr hrn hc hcn => ?_⟩
  · refine nonpos_of_mul hq ?_
    rw [hs r c hr hrn hc hcn]
    have h1 := hoff r c (by omega) hrn (by omega) hcn hne
    have h2 := hprod r c hr hrn hc hcn
    have h3 : L r c * L k k ≤ 0 * L k k := Int.mul_le_mul_of_nonneg_right h1 (by omega)
    omega
  · refine nonneg_of_mul hq ?_
    rw [hrow r hr hrn]
    have h1 := Int.mul_nonneg (show 0 ≤ L k k by omega) (hR r (by omega) hrn)
    have h2 := Int.mul_le_mul_of_nonneg_right (hkr r hr hrn) hRk
    omega
  · -- an edge leads out of S, here too
    have pos : ∀ i, k < i → i < n → 0 < sg (fun c => if k ≤ c then L i c else 0) n → 0 < sg (fun c => if k + 1 ≤ c then N i c else 0) n := fun i a b hpos => by
      refine pos_of_mul hq ?_
      rw [hrow i a b]
      have h1 := Int.mul_le_mul_of_nonneg_right (hkr i a b) hRk
      have h2 : 0 < L k k * sg (fun c => if k ≤ c then L i c else 0) n := Int.mul_pos (by omega) hpos
      omega
    have neg : ∀ i j, k < i → i < n → k < j → j < n → L i j < 0 → N i j < 0 := fun i j a b a2 b2 hlt => by
      refine neg_of_mul hq ?_
      rw [hs i j a b a2 b2]
      have h2 := hprod i j a b a2 b2
      have h3 : L i j * L k k ≤ (-1) * L k k := Int.mul_le_mul_of_nonneg_right (by omega) (by omega)
      omega
    by_cases hB : ∃ i, k < i ∧ i < n ∧ S i ∧ L i k < 0
    · obtain ⟨i0, hki0, hi0, hS0, hlt0⟩ := hB
      obtain ⟨i, hki, hi, hSi, hor⟩ := hcon (fun i => i = k ∨ (k < i ∧ S i)) ⟨i0, by omega, hi0, Or.inr ⟨hki0, hS0⟩⟩
      rcases hSi with rfl | ⟨hlt, hSi⟩
      · refine ⟨i0, by omega, hi0, hS0, ?_⟩
        rcases hor with hpos | ⟨j, hkj, hj, hnS, hneg⟩
        · refine Or.inl (pos_of_mul hq ?_)
          rw [hrow i0 hki0 hi0]
          have h1 := Int.mul_nonneg (show 0 ≤ L i i by omega) (hR i0 (by omega) hi0)
          have h2 : L i0 i * sg (fun c => if i ≤ c then L i c else 0) n ≤ (-1) * sg (fun c => if i ≤ c then L i c else 0) n := Int.mul_le_mul_of_nonneg_right (by omega) (by omega)
          omega
        · have hij : i < j := by
            have : j ≠ i := fun e => hnS (Or.inl e)
            omega
          have hjS : ¬ S j := fun z => hnS (Or.inr ⟨hij, z⟩)
          refine Or.inr ⟨j, by omega, hj, hjS, neg_of_mul hq ?_⟩
          rw [hs i0 j hki0 hi0 hij hj]
          have hne : i0 ≠ j := fun e => hjS (by rw [← e]; exact hS0)
          have h1 := hoff i0 j (by omega) hi0 (by omega) hj hne
          have h3 : L i0 j * L i i ≤ 0 * L i i := Int.mul_le_mul_of_nonneg_right h1 (by omega)
          have h4 := Int.mul_pos (show 0 < - L i0 i by omega) (show 0 < - L i j by omega)
          rw [Int.neg_mul_neg] at h4
          omega
      · refine ⟨i, by omega, hi, hSi, ?_⟩
        rcases hor with hpos | ⟨j, hkj, hj, hnS, hneg⟩
        · exact Or.inl (pos i hlt hi hpos)
        · have hij : k < j := by
            have : j ≠ k := fun e => hnS (Or.inl e)
            omega
          exact Or.inr ⟨j, by omega, hj, fun z => hnS (Or.inr ⟨hij, z⟩), neg i j hlt hi hij hj hneg⟩
    · obtain ⟨i1, a1, b1, c1⟩ := hex
      obtain ⟨i, hki, hi, ⟨hlt, hSi⟩, hor⟩ := hcon (fun i => k < i ∧ S i) ⟨i1, by omega, b1, by omega, c1⟩
      refine ⟨i, by omega, hi, hSi, ?_⟩
      rcases hor with hpos | ⟨j, hkj, hj, hnS, hneg⟩
      · exact Or.inl (pos i hlt hi hpos)
      · have hij : k < j := by
          have : j ≠ k := fun e => hB ⟨i, hlt, hi, hSi, by rw [← e]; exact hneg⟩
          omega
        exact Or.inr ⟨j, by omega, hj, fun z => hnS ⟨hij, z⟩, neg i j hlt hi hij hj hneg⟩
  · have h1 := hs r r hr hrn hr hrn
    have h2 := hprod r r hr hrn hr hrn
    have h3 : L r r * L k k ≤ (18 * q) * L k k := Int.mul_le_mul_of_nonneg_right (hdg r (by omega) hrn) (by omega)
    refine Int.le_of_not_gt (fun z => ?_)
    have h4 : q * (18 * L k k + 1) ≤ q * N r r := Int.mul_le_mul_of_nonneg_left (by omega) (by omega)
    rw [Int.mul_add, Int.mul_one] at h4
    have h5 : (18 * q) * L k k = q * (18 * L k k) := by rw [Int.mul_comm 18 q, Int.mul_assoc]
    omega
  · refine Int.eq_of_mul_eq_mul_left (show q ≠ 0 by omega) ?_
    rw [hs r c hr hrn hc hcn, hs c r hc hcn hr hrn, hsym r c (by omega) hrn (by omega) hcn, hsym r k (by omega) hrn (Nat.le_refl k) hk, hsym k c (Nat.le_refl k) hk (by omega) hcn, Int.mul_comm (L k r)]
theorem Piv.base {a : Z2} {b d : Z1} (M : Moor n a b d) (K : Conn n a b) (hd : ∀ i, i < n → d i ≤ 18) (hL : ∀ r c, r < n → c < n → L r c = if r = c then d r else - a r c) : Piv n 0 L 1 := by
  have hrow : ∀ r, r < n → sg (fun c => if 0 ≤ c then L r c else 0) n = b r := fun r hr => by
    have e : sg (fun c => if 0 ≤ c then L r c else 0) n = sg (fun c => (if c = r then d r else 0) - a r c) n := sg_congr (fun c hc => by
      rw [if_pos (Nat.zero_le c), hL r c hr hc]
      by_cases h : r = c
      · subst h; rw [if_pos rfl, if_pos rfl, M.2.2.1 r hr]; omega
      · rw [if_neg h, if_neg (fun z => h z.symm)]; omega)
    rw [e, sg_sub, sg_one (f := fun c => if c = r then d r else 0) hr (fun c _ hne => if_neg hne), M.2.2.2.2 r hr]
    have e2 : sg (a r) n = sg (fun c => a r c) n := rfl
    simp
  refine ⟨Int.le_refl 1, fun r c _ hr _ hc hne => ?_, fun r _ hr => ?_, fun S hex => ?_, fun r _ hr => ?_, fun r c _ hr _ hc => ?_⟩
  · rw [hL r c hr hc, if_neg hne]
    have := M.2.1 r c hr hc
    omega
  · rw [hrow r hr]
    exact M.2.2.2.1 r hr
  · obtain ⟨i, -, hi, hS⟩ := hex
    obtain ⟨i, hi, hSi, hor⟩ := K S ⟨i, hi, hS⟩
    refine ⟨i, Nat.zero_le i, hi, hSi, ?_⟩
    rcases hor with h | ⟨j, hj, hnS, hpos⟩
    · exact Or.inl (by rw [hrow i hi]; exact h)
    · refine Or.inr ⟨j, Nat.zero_le j, hj, hnS, ?_⟩
      rw [hL i j hi hj, if_neg (fun e => hnS (by rw [← e]; exact hSi))]
      omega
  · rw [hL r r hr hr, if_pos rfl]
    have := hd r hr
    omega
  · rw [hL r c hr hc, hL c r hc hr]
    by_cases h : r = c
    · subst h; rfl
    · rw [if_neg h, if_neg (fun z => h z.symm), M.1 r c hr hc]
end PIV
