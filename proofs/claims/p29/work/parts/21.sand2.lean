/-! how much can topple at most; each heap comes to rest -/
section SAND2
variable {n : Nat} {a : Z2} {b d : Z1}
theorem conf_flow (M : Moor n a b d) (c v : Z1) {i : Nat} (hi : i < n) : conf n a d c v i = c i - v i * b i - sg (fun k => (v i - v k) * a i k) n := by
  obtain ⟨hsym, -, -, -, hd⟩ := M
  unfold conf
  rw [hd i hi]
  have e1 : sg (fun k => v k * a k i) n = sg (fun k => v k * a i k) n := sg_congr (fun k hk => by rw [hsym k i hk hi])
  have e2 : sg (fun k => (v i - v k) * a i k) n = v i * sg (fun k => a i k) n - sg (fun k => v k * a i k) n := by
    rw [← sg_mul, ← sg_sub]
    exact sg_congr (fun k _ => Int.sub_mul _ _ _)
  rw [e1, e2, Int.mul_add]
  have : sg (a i) n = sg (fun k => a i k) n := rfl
  omega
theorem Reach.cut {c v : Z1} {T t : Int} (M : Moor n a b d) (K : Conn n a b) (h : Reach n a d c v) (hc : ∀ i, i < n → 0 ≤ c i) (hT : sg c n ≤ T) (ht : 0 ≤ t) (hex : ∃ i, i < n ∧ t < v i) : ∃ i, i < n ∧ t < v i ∧ v i ≤ t + T := by
  obtain ⟨i, hi, hti, hout⟩ := K (fun i => t < v i) hex
  refine ⟨i, hi, hti, ?_⟩
  have hpos := h.pos M hc
  -- the sums over those above t
  have hA : sg (fun j => if t < v j then c j - v j * b j - sg (fun k => (v j - v k) * a j k) n else 0) n = sg (fun j => if t < v j then conf n a d c v j else 0) n :=
    sg_congr (fun j hj => by split; exact (conf_flow M c v hj).symm; rfl)
  have hA0 : 0 ≤ sg (fun j => if t < v j then conf n a d c v j else 0) n := sg_nonneg (fun j hj => by
    show 0 ≤ (if t < v j then conf n a d c v j else 0)
    split
    · exact hpos j hj
    · exact Int.le_refl 0)
  have hin : sg (fun j => sg (fun k => if t < v j ∧ t < v k then (v j - v k) * a j k else 0) n) n = 0 := sg_anti (fun j k hj hk => by
    by_cases h1 : t < v j <;> by_cases h2 : t < v k <;> simp [h1, h2]
    rw [M.1 j k hj hk, ← Int.neg_mul]
    congr 1
    omega)
  have hs : sg (fun j => if t < v j then c j - v j * b j - sg (fun k => (v j - v k) * a j k) n else 0) n = sg (fun j => if t < v j then c j else 0) n - sg (fun j => if t < v j then v j * b j else 0) n - sg (fun j => sg (fun k => if t < v j ∧ t < v k then (v j - v k) * a j k else 0) n) n - sg (fun j => sg (fun k => if t < v j ∧ ¬ t < v k then (v j - v k) * a j k else 0) n) n := by
    rw [← sg_sub, ← sg_sub, ← sg_sub]
    refine sg_congr (fun j hj => ?_)
    by_cases h1 : t < v j
    · simp only [h1, if_true, true_and]
      have : sg (fun k => (v j - v k) * a j k) n = sg (fun k => if t < v k then (v j - v k) * a j k else 0) n + sg (fun k => if ¬ t < v k then (v j - v k) * a j k else 0) n := by
        rw [← sg_add]
        exact sg_congr (fun k _ => by by_cases h2 : t < v k <;> simp [h2])
      omega
    · simp only [h1, if_false, false_and]
      rw [sg_zero]
      omega
  have hcs : sg (fun j => if t < v j then c j else 0) n ≤ T := Int.le_trans (sg_le (fun j hj => by split; exact Int.le_refl _; exact hc j hj)) hT
  have hb0 : ∀ j, j < n → 0 ≤ (if t < v j then v j * b j else 0) := fun j hj => by
    split
    · exact Int.mul_nonneg (by omega) (M.2.2.2.1 j hj)
    · exact Int.le_refl 0
  have hg0 : ∀ j, j < n → ∀ k, k < n → 0 ≤ (if t < v j ∧ ¬ t < v k then (v j - v k) * a j k else 0) := fun j hj k hk => by
    split
    · exact Int.mul_nonneg (by omega) (M.2.1 j k hj hk)
    · exact Int.le_refl 0
  have hgs : ∀ j, j < n → 0 ≤ sg (fun k => if t < v j ∧ ¬ t < v k then (v j - v k) * a j k else 0) n := fun j hj => sg_nonneg (hg0 j hj)
  have hbs := sg_nonneg (f := fun j => if t < v j then v j * b j else 0) hb0
  have hgg := sg_nonneg (f := fun j => sg (fun k => if t < v j ∧ ¬ t < v k then (v j - v k) * a j k else 0) n) hgs
  rcases hout with hb | ⟨k, hk, hnk, hak⟩
  · have h1 := sg_mem (f := fun j => if t < v j then v j * b j else 0) hi hb0
    have h2 : v i * 1 ≤ v i * b i := Int.mul_le_mul_of_nonneg_left (by omega) (by omega)
    simp only [hti, if_true] at h1
    omega
  · have h1 := sg_mem (f := fun j => sg (fun k => if t < v j ∧ ¬ t < v k then (v j - v k) * a j k else 0) n) hi hgs
    have h3 : (if t < v i ∧ ¬ t < v k then (v i - v k) * a i k else 0) ≤ sg (fun k => if t < v i ∧ ¬ t < v k then (v i - v k) * a i k else 0) n := sg_mem (f := fun k => if t < v i ∧ ¬ t < v k then (v i - v k) * a i k else 0) hk (hg0 i hi)
    rw [if_pos ⟨hti, hnk⟩] at h3
    have h1 : sg (fun k => if t < v i ∧ ¬ t < v k then (v i - v k) * a i k else 0) n ≤ _ := h1
    have h2 : (v i - v k) * 1 ≤ (v i - v k) * a i k := Int.mul_le_mul_of_nonneg_left (by omega) (by omega)
    omega
/-- how many are above t -/
def above (n : Nat) (v : Z1) (t : Int) : Int := sg (fun i => if t < v i then 1 else 0) n
theorem above_0 {v : Z1} {t : Int} (h : above n v t ≤ 0) : ∀ i, i < n → v i ≤ t := fun i hi => by
  have := sg_mem (f := fun i => if t < v i then (1 : Int) else 0) hi (fun j _ => by split <;> omega)
  unfold above at h
  by_cases q : t < v i
  · simp only [q, if_true] at this; omega
  · omega
theorem Reach.bound {c v : Z1} {T : Int} (M : Moor n a b d) (K : Conn n a b) (h : Reach n a d c v) (hc : ∀ i, i < n → 0 ≤ c i) (hT : sg c n ≤ T) : ∀ i, i < n → v i ≤ n * T := by
  have hT0 : 0 ≤ T := Int.le_trans (sg_nonneg hc) hT
  have key : ∀ k : Nat, above n v (k * T) ≤ 0 ∨ above n v (k * T) ≤ n - k := by
    intro k
    induction k with
    | zero =>
      refine Or.inr ?_
      have : above n v ((0 : Nat) * T) ≤ sg (fun _ => 1) n := sg_le (fun i _ => by split <;> omega)
      have e : ∀ m : Nat, sg (fun _ => 1) m = m := fun m => by
        induction m with
        | zero => rfl
        | succ m ih => show sg (fun _ => 1) m + 1 = _; rw [ih]; rfl
      rw [e] at this
      simpa using this
    | succ k ih =>
      have e : ((k + 1 : Nat) : Int) * T = k * T + T := by
        rw [Int.natCast_succ, Int.add_mul, Int.one_mul]
      have hkT : 0 ≤ (k : Int) * T := Int.mul_nonneg (by omega) hT0
      rw [e]
      have hle : above n v (k * T + T) ≤ above n v (k * T) := sg_le (fun i _ => by
        by_cases q : k * T + T < v i
        · rw [if_pos q, if_pos (by omega)]; exact Int.le_refl 1
        · rw [if_neg q]; split <;> omega)
      by_cases hex : ∃ i, i < n ∧ (k : Int) * T < v i
      · obtain ⟨i, hi, h1, h2⟩ := h.cut M K hc hT hkT hex
        have hlt : above n v (k * T + T) + 1 ≤ above n v (k * T) := by
          have hm : sg (fun j => if j = i then (1 : Int) else 0) n = 1 := by
            rw [sg_one (f := fun j => if j = i then (1 : Int) else 0) hi (fun j _ hne => if_neg hne)]; simp
          have h5 : sg (fun j => if k * T + T < v j then (1 : Int) else 0) n + sg (fun j => if j = i then (1 : Int) else 0) n ≤ sg (fun j => if k * T < v j then (1 : Int) else 0) n := by
            rw [← sg_add]
            refine sg_le (fun j hj => ?_)
            by_cases ej : j = i
            · subst ej
              rw [if_neg (by omega), if_pos rfl, if_pos h1]; exact Int.le_refl 1
            · rw [if_neg ej]
              by_cases q : k * T + T < v j
              · rw [if_pos q, if_pos (by omega)]; omega
              · rw [if_neg q]; split <;> omega
          unfold above
          omega
        rcases ih with ih | ih
        · exact Or.inl (by omega)
        · exact Or.inr (by omega)
      · refine Or.inl (Int.le_trans hle ?_)
        unfold above
        rw [sg_congr (g := fun _ => 0) (fun i hi => if_neg (fun q => hex ⟨i, hi, q⟩)), sg_zero]
        exact Int.le_refl 0
  refine above_0 ?_
  rcases key n with h | h
  · exact h
  · omega
theorem sg_bump {v : Z1} {i : Nat} (hi : i < n) : sg (bump v i) n = sg v n + 1 := by
  rw [bump_eq, sg_add, sg_one (f := fun j => if j = i then (1 : Int) else 0) hi (fun j _ hne => if_neg hne)]
  simp
theorem Reach.total {c v : Z1} {T : Int} (M : Moor n a b d) (K : Conn n a b) (h : Reach n a d c v) (hc : ∀ i, i < n → 0 ≤ c i) (hT : sg c n ≤ T) : sg v n ≤ n * (n * T) := by
  have h1 := sg_le (n := n) (h.bound M K hc hT)
  have e : ∀ m : Nat, ∀ x : Int, sg (fun _ => x) m = m * x := fun m x => by
    induction m with
    | zero => simp [sg]
    | succ m ih => show sg (fun _ => x) m + x = _; rw [ih, Int.natCast_succ, Int.add_mul, Int.one_mul]
  rw [e] at h1
  exact h1
theorem stab_ex {c : Z1} (M : Moor n a b d) (K : Conn n a b) (hc : ∀ i, i < n → 0 ≤ c i) : ∃ v, Reach n a d c v ∧ Stable n d (conf n a d c v) := by
  have key : ∀ (k : Nat) (v : Z1), Reach n a d c v → n * (n * sg c n) - sg v n < k → ∃ v, Reach n a d c v ∧ Stable n d (conf n a d c v) := by
    intro k
    induction k with
    | zero =>
      intro v h hk
      have := h.total M K hc (Int.le_refl _)
      omega
    | succ k ih =>
      intro v h hk
      by_cases hs : Stable n d (conf n a d c v)
      · exact ⟨v, h, hs⟩
      · have hex : ∃ i, i < n ∧ d i ≤ conf n a d c v i := by
          refine Classical.byContradiction (fun q => hs (fun i hi => ?_))
          refine Int.lt_of_not_ge (fun z => q ⟨i, hi, z⟩)
        obtain ⟨i, hi, hd⟩ := hex
        refine ih (bump v i) (h.step hi hd) ?_
        rw [sg_bump hi]
        omega
  exact key ((n * (n * sg c n) - sg (fun _ => 0) n).toNat + 1) _ Reach.zero (by omega)
end SAND2
