/-! a moor in which each spot has an edge to one of a smaller number, or to the sink, is fast -/
def Par (n : Nat) (a : Z2) (b : Z1) : Prop := ∀ k, k < n → 0 < b k ∨ ∃ j, j < k ∧ 0 < a k j
theorem least_of {S : Nat → Prop} : ∀ i : Nat, S i → ∃ k, k ≤ i ∧ S k ∧ ∀ j, j < k → ¬ S j := by
  intro i
  induction i using Nat.strongRecOn with
  | ind i ih =>
    intro h
    by_cases q : ∃ j, j < i ∧ S j
    · obtain ⟨j, hj, hS⟩ := q
      obtain ⟨k, a1, a2, a3⟩ := ih j hj hS
      exact ⟨k, by omega, a2, a3⟩
    · exact ⟨i, Nat.le_refl i, h, fun j hj hS => q ⟨j, hj, hS⟩⟩
theorem par_conn {n : Nat} {a : Z2} {b : Z1} (h : Par n a b) : Conn n a b := by
  intro S ⟨i, hi, hS⟩
  obtain ⟨k, hk, hSk, hno⟩ := least_of (S := S) i hS
  refine ⟨k, by omega, hSk, ?_⟩
  rcases h k (by omega) with hb | ⟨j, hj, hpos⟩
  · exact Or.inl hb
  · exact Or.inr ⟨j, by omega, hno j hj, hpos⟩
def fullS : Nat → Int32
  | 0 => 64
  | 1 => 65
  | 2 => 67
  | 3 => 71
  | 4 => 79
  | 5 => 95
  | _ => 127
theorem full_bits : ∀ k, k < 7 → ∀ j, j < 7 → bitB (fullS k) j = (decide (j < k) || decide (j = 6)) := by decide +kernel
theorem full_next : ∀ k, k < 6 → fullS k ||| (1 <<< (nI k &&& 31)) = fullS (k + 1) := by decide +kernel
theorem full_stay : ∀ n, n < 7 → ∀ k, k < n → fullS n ||| (1 <<< (nI k &&& 31)) = fullS n := by decide +kernel
theorem full_count : ∀ n, n < 7 → bitC (fullS n) = nI n + 1 := by decide +kernel
theorem into_val {E : V2} {k : Nat} {set : Int32} (hE : ∀ j, j < 7 → 0 ≤ (E k j).toInt ∧ (E k j).toInt ≤ 18) : ∀ m, m ≤ 7 → (it (intoS E k set) m 0).toInt = sg (fun j => if bitB set j = true then (E k j).toInt else 0) m ∧ 0 ≤ sg (fun j => if bitB set j = true then (E k j).toInt else 0) m ∧ sg (fun j => if bitB set j = true then (E k j).toInt else 0) m ≤ 18 * m
  | 0, _ => ⟨rfl, Int.le_refl 0, Int.le_refl 0⟩
  | m + 1, hm => by
    obtain ⟨h1, h2, h3⟩ := into_val (set := set) hE m (by omega)
    have hm' := hE m (by omega)
    show (intoS E k set m (it (intoS E k set) m 0)).toInt = sg (fun j => if bitB set j = true then (E k j).toInt else 0) m + (if bitB set m = true then (E k m).toInt else 0) ∧ 0 ≤ sg (fun j => if bitB set j = true then (E k j).toInt else 0) m + (if bitB set m = true then (E k m).toInt else 0) ∧ sg (fun j => if bitB set j = true then (E k j).toInt else 0) m + (if bitB set m = true then (E k m).toInt else 0) ≤ 18 * (m + 1 : Nat)
    unfold intoS
    by_cases q : bitB set m = true
    · rw [if_pos q, if_pos q]
      refine ⟨?_, by omega, by omega⟩
      have e0 : (it (fun k_1 a => if bitB set k_1 = true then a + E k k_1 else a) m 0) = it (intoS E k set) m 0 := rfl
      rw [e0, i32_add (by rw [h1]; omega) (by rw [h1]; omega), h1]
    · rw [if_neg q, if_neg q]
      have e0 : (it (fun k_1 a => if bitB set k_1 = true then a + E k k_1 else a) m 0) = it (intoS E k set) m 0 := rfl
      rw [e0]
      exact ⟨by omega, by omega, by omega⟩
section FAST
variable {n : Nat} {E : V2} {a : Z2} {b : Z1}
theorem into_pos {k : Nat} (hk : k < 6) (hE : ∀ j, j < 7 → 0 ≤ (E k j).toInt ∧ (E k j).toInt ≤ 18) (h : 0 < (E k 6).toInt ∨ ∃ j, j < k ∧ 0 < (E k j).toInt) : 0 < intoF E k (fullS k) := by
  obtain ⟨h1, -, -⟩ := into_val (set := fullS k) hE 7 (Nat.le_refl 7)
  rw [Int32.lt_iff_toInt_lt]
  show (0 : Int) < (it (intoS E k (fullS k)) 7 0).toInt
  rw [h1]
  have hnn : ∀ j, j < 7 → 0 ≤ (if bitB (fullS k) j = true then (E k j).toInt else 0) := fun j hj => by
    split
    · exact (hE j hj).1
    · exact Int.le_refl 0
  rcases h with h | ⟨j, hj, h⟩
  · have := sg_mem (f := fun j => if bitB (fullS k) j = true then (E k j).toInt else 0) (show 6 < 7 by omega) hnn
    have e : bitB (fullS k) 6 = true := by rw [full_bits k (by omega) 6 (by omega)]; simp
    simp only [e, if_true] at this
    omega
  · have := sg_mem (f := fun j => if bitB (fullS k) j = true then (E k j).toInt else 0) (show j < 7 by omega) hnn
    have e : bitB (fullS k) j = true := by rw [full_bits k (by omega) j (by omega)]; simp [hj]
    simp only [e, if_true] at this
    omega
theorem par_fast (hn : n ≤ 6) (hn0 : 0 < n) (hE : ∀ i j, i < n → j < 7 → 0 ≤ (E i j).toInt ∧ (E i j).toInt ≤ 18) (h : ∀ k, k < n → 0 < (E k 6).toInt ∨ ∃ j, j < k ∧ 0 < (E k j).toInt) : fastB n E = true := by
  have first : ∀ k, k ≤ n → it (reachS E) k 64 = fullS k := by
    intro k
    induction k with
    | zero => exact fun _ => rfl
    | succ k ih =>
      intro hk
      show reachS E k (it (reachS E) k 64) = _
      rw [ih (by omega)]
      unfold reachS
      rw [if_pos (into_pos (by omega) (hE k · (by omega)) (h k (by omega)))]
      exact full_next k (by omega)
  have stay : ∀ k, k ≤ n → it (reachS E) k (fullS n) = fullS n := by
    intro k
    induction k with
    | zero => exact fun _ => rfl
    | succ k ih =>
      intro hk
      show reachS E k (it (reachS E) k (fullS n)) = _
      rw [ih (by omega)]
      unfold reachS
      split
      · exact full_stay n (by omega) k (by omega)
      · rfl
  have all : ∀ m, it (fun _ r => it (reachS E) n r) (m + 1) 64 = fullS n := by
    intro m
    induction m with
    | zero => exact first n (Nat.le_refl n)
    | succ m ih =>
      show it (reachS E) n (it (fun _ r => it (reachS E) n r) (m + 1) 64) = _
      rw [ih]
      exact stay n (Nat.le_refl n)
  have hr : reachF n E = fullS n := by
    unfold reachF
    obtain ⟨m, rfl⟩ : ∃ m, n = m + 1 := ⟨n - 1, by omega⟩
    exact all m
  unfold fastB
  rw [hr, full_count n (by omega), decide_eq_true rfl, decide_eq_false (nI_nle hn0 (by omega))]
  rfl
end FAST
