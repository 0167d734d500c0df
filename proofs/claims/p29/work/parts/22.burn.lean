/-! heaps that last, and the neutral heap -/
section BURN
variable {n : Nat} {a : Z2} {b d : Z1}
def ones (n : Nat) : Z1 := fun i => if i < n then 1 else 0
theorem sg_ones (M : Moor n a b d) {i : Nat} (hi : i < n) (k : Int) : sg (fun j => k * ones n j * a j i) n = k * sg (fun j => a i j) n := by
  rw [← sg_mul]
  refine sg_congr (fun j hj => ?_)
  unfold ones
  rw [if_pos hj, Int.mul_one, M.1 j i hj hi]
theorem conf_ones (M : Moor n a b d) (c : Z1) (k : Int) {i : Nat} (hi : i < n) : conf n a d (fun i => c i + k * b i) (fun j => k * ones n j) i = c i := by
  show c i + k * b i - k * ones n i * d i + sg (fun j => k * ones n j * a j i) n = c i
  rw [sg_ones M hi, M.2.2.2.2 i hi]
  unfold ones
  rw [if_pos hi, Int.mul_one, Int.mul_add]
  have : sg (a i) n = sg (fun j => a i j) n := rfl
  omega
theorem conf_one (M : Moor n a b d) (c : Z1) {i : Nat} (hi : i < n) : conf n a d (fun i => c i + b i) (ones n) i = c i := by
  have h := conf_ones M c 1 hi
  have e1 : (fun i => c i + 1 * b i) = (fun i => c i + b i) := by funext i; omega
  have e2 : (fun j => 1 * ones n j) = ones n := by funext i; omega
  rw [e1, e2] at h
  exact h
theorem conf_cong {c c' v : Z1} {j : Nat} (h : c j = c' j) : conf n a d c v j = conf n a d c' v j := by
  unfold conf
  rw [h]
/-- with as many more as there are edges to the sink, each one topples just once, legally -/
def Burns (n : Nat) (a : Z2) (b d c : Z1) : Prop := Reach n a d (fun i => c i + b i) (ones n)
theorem Burns.mono {c c' : Z1} (h : Burns n a b d c) (hc : ∀ i, i < n → c i ≤ c' i) : Burns n a b d c' := Reach.mono h (fun i hi => by have := hc i hi; show c i + b i ≤ c' i + b i; omega)
theorem degree_pos (M : Moor n a b d) (K : Conn n a b) {i : Nat} (hi : i < n) : 1 ≤ d i := by
  obtain ⟨j, hj, rfl, h⟩ := K (fun j => j = i) ⟨i, hi, rfl⟩
  rw [M.2.2.2.2 j hj]
  have h0 := M.2.2.2.1 j hj
  have h1 := sg_nonneg (f := fun k => a j k) (fun k hk => M.2.1 j k hj hk)
  have e : sg (a j) n = sg (fun k => a j k) n := rfl
  rcases h with h | ⟨k, hk, -, hak⟩
  · omega
  · have := sg_mem (f := fun k => a j k) hk (fun k hk => M.2.1 j k hj hk)
    omega
theorem burns_max (M : Moor n a b d) (K : Conn n a b) : Burns n a b d (fun i => d i - 1) := by
  have hpos : ∀ i, i < n → 0 ≤ (d i - 1) + b i := fun i hi => by
    have := degree_pos M K hi
    have := M.2.2.2.1 i hi
    omega
  obtain ⟨v, hv, hs⟩ := stab_ex (c := fun i => (d i - 1) + b i) M K hpos
  have hle : ∀ i, i < n → v i ≤ ones n i := hv.least M.2.1 (fun i hi => by unfold ones; rw [if_pos hi]; omega) (fun i hi => by rw [conf_one M (fun i => d i - 1) hi]; show d i - 1 < d i; omega)
  have he : v = ones n := by
    funext i
    rcases Nat.lt_or_ge i n with q | q
    · refine Classical.byContradiction (fun hne => ?_)
      obtain ⟨j, hj, hSj, h⟩ := K (fun i => v i ≠ ones n i) ⟨i, q, hne⟩
      have hvj : v j = 0 := by
        have h1 := hle j hj
        have h2 := hv.nonneg j
        have h3 : ones n j = 1 := if_pos hj
        rw [h3] at hSj h1
        omega
      have h1 := hs j hj
      have h2 : conf n a d (fun i => (d i - 1) + b i) v j = (d j - 1) + b j + sg (fun k => v k * a k j) n := by
        show (d j - 1) + b j - v j * d j + sg (fun k => v k * a k j) n = _
        rw [hvj, Int.zero_mul]; omega
      have hterm : ∀ k, k < n → 0 ≤ v k * a k j := fun k hk => Int.mul_nonneg (hv.nonneg k) (M.2.1 k j hk hj)
      have h3 := sg_nonneg hterm
      rcases h with h | ⟨k, hk, hSk, hak⟩
      · omega
      · have hvk : v k = 1 := by
          have h5 : v k = ones n k := Classical.byContradiction hSk
          rw [h5]; exact if_pos hk
        have h4 := sg_mem (f := fun k => v k * a k j) hk hterm
        simp only [hvk, Int.one_mul] at h4
        rw [M.1 k j hk hj] at h4
        have h6 := M.2.2.2.1 j hj
        omega
    · rw [hv.supp i q]
      unfold ones
      rw [if_neg (by omega)]
  rw [he] at hv
  exact hv
theorem Burns.stab {c u : Z1} (M : Moor n a b d) (K : Conn n a b) (h : Burns n a b d c) (hc : ∀ i, i < n → 0 ≤ c i) (hu : Reach n a d c u) (hs : Stable n d (conf n a d c u)) : Burns n a b d (conf n a d c u) := by
  have hp := hu.pos M hc
  obtain ⟨v, hv, hvs⟩ := stab_ex (c := fun i => conf n a d c u i + b i) M K (fun i hi => by have := hp i hi; have := M.2.2.2.1 i hi; omega)
  -- first all once, then u
  have r1 : Reach n a d (fun i => c i + b i) (fun i => ones n i + u i) := Reach.trans h (hu.congr (fun i hi => (conf_one M c hi).symm))
  have s1 : Stable n d (conf n a d (fun i => c i + b i) (fun i => ones n i + u i)) := fun i hi => by
    rw [conf_add, conf_cong (conf_one M c hi)]
    exact hs i hi
  -- first u, then what is wanted
  have r2 : Reach n a d (fun i => c i + b i) (fun i => u i + v i) := Reach.trans (hu.mono (fun i hi => by have := M.2.2.2.1 i hi; omega)) (hv.congr (fun i hi => (conf_lin c b u i).symm))
  have s2 : Stable n d (conf n a d (fun i => c i + b i) (fun i => u i + v i)) := fun i hi => by
    rw [conf_add, conf_cong (c' := fun i => conf n a d c u i + b i) (conf_lin c b u i)]
    exact hvs i hi
  have e := r1.unique M.2.1 r2 s1 s2
  have e2 : v = ones n := by
    funext i
    have := congrFun e i
    omega
  rw [e2] at hv
  exact hv
theorem Burns.times {c : Z1} (M : Moor n a b d) (h : Burns n a b d c) : ∀ k : Nat, Reach n a d (fun i => c i + (k : Int) * b i) (fun j => (k : Int) * ones n j)
  | 0 => by
    have e : (fun j => ((0 : Nat) : Int) * ones n j) = fun _ => 0 := by funext j; simp
    rw [e]
    exact Reach.zero
  | k + 1 => by
    have ih := Burns.times M h k
    have r0 : Reach n a d (fun i => c i + ((k + 1 : Nat) : Int) * b i) (ones n) := Reach.mono h (fun i hi => by
      have := M.2.2.2.1 i hi
      have h2 : 0 ≤ (k : Int) * b i := Int.mul_nonneg (by omega) this
      have e : ((k + 1 : Nat) : Int) * b i = k * b i + b i := by rw [Int.natCast_succ, Int.add_mul, Int.one_mul]
      show c i + b i ≤ c i + ((k + 1 : Nat) : Int) * b i
      omega)
    have e1 : ∀ i, i < n → c i + (k : Int) * b i = conf n a d (fun i => c i + ((k + 1 : Nat) : Int) * b i) (ones n) i := fun i hi => by
      have h3 := conf_one M (fun i => c i + (k : Int) * b i) hi
      have e : (fun i => c i + (k : Int) * b i + b i) = (fun i => c i + ((k + 1 : Nat) : Int) * b i) := by
        funext i
        rw [Int.natCast_succ, Int.add_mul, Int.one_mul]
        omega
      rw [e] at h3
      exact h3.symm
    have r := Reach.trans r0 (ih.congr e1)
    have e2 : (fun i => ones n i + (k : Int) * ones n i) = fun j => ((k + 1 : Nat) : Int) * ones n j := by
      funext i
      rw [Int.natCast_succ, Int.add_mul, Int.one_mul]
      omega
    rw [e2] at r
    exact r
theorem below_ex (z : Z1) : ∀ n : Nat, ∃ k : Nat, ∀ i, i < n → 0 ≤ (k : Int) + z i
  | 0 => ⟨0, fun i h => absurd h (Nat.not_lt_zero i)⟩
  | n + 1 => by
    obtain ⟨k, hk⟩ := below_ex z n
    refine ⟨k + (z n).natAbs, fun i hi => ?_⟩
    rcases Nat.lt_or_ge i n with q | q
    · have := hk i q; omega
    · have e : i = n := by omega
      subst e
      omega
theorem Burns.above {c1 c2 z : Z1} (M : Moor n a b d) (h2 : Burns n a b d c2) (s1 : Stable n d c1) (hz : ∀ i, i < n → c1 i = conf n a d c2 z i) : ∀ i, i < n → 0 ≤ z i := by
  intro i hi
  obtain ⟨k, hk⟩ := below_ex z n
  have hr := h2.times M k
  have := hr.least M.2.1 (w := fun j => (k : Int) * ones n j + z j) (fun j hj => by
    have e : ones n j = 1 := if_pos hj
    show 0 ≤ (k : Int) * ones n j + z j
    rw [e, Int.mul_one]; exact hk j hj) (fun j hj => by
    rw [conf_add, conf_cong (conf_ones M c2 k hj), ← hz j hj]
    exact s1 j hj) i hi
  omega
theorem Burns.unique {c1 c2 z : Z1} (M : Moor n a b d) (h1 : Burns n a b d c1) (h2 : Burns n a b d c2) (s1 : Stable n d c1) (s2 : Stable n d c2) (hz : ∀ i, i < n → c1 i = conf n a d c2 z i) : ∀ i, i < n → c1 i = c2 i := by
  have p := h2.above M s1 hz
  have q := h1.above M s2 (z := fun i => - z i) (fun i hi => by
    rw [conf_cong (hz i hi), ← conf_add]
    have e : (fun i => z i + - z i) = fun _ => 0 := by funext i; omega
    rw [e, conf_zero])
  intro i hi
  have e0 : ∀ j, j < n → z j = 0 := fun j hj => by have := p j hj; have := q j hj; omega
  rw [hz i hi]
  unfold conf
  rw [e0 i hi, sg_congr (g := fun _ => 0) (fun j hj => by rw [e0 j hj, Int.zero_mul]), sg_zero]
  omega
/-- the neutral heap lasts, and added to itself it stays -/
theorem neutral_spec {v1 v2 : Z1} (M : Moor n a b d) (K : Conn n a b) (h1 : Reach n a d (fun i => 2 * (d i - 1)) v1) (s1 : Stable n d (conf n a d (fun i => 2 * (d i - 1)) v1))
    (h2 : Reach n a d (fun i => 2 * (d i - 1) - conf n a d (fun i => 2 * (d i - 1)) v1 i) v2) (s2 : Stable n d (conf n a d (fun i => 2 * (d i - 1) - conf n a d (fun i => 2 * (d i - 1)) v1 i) v2)) :
    Burns n a b d (conf n a d (fun i => 2 * (d i - 1) - conf n a d (fun i => 2 * (d i - 1)) v1 i) v2) ∧
    ∀ w, Reach n a d (fun i => conf n a d (fun i => 2 * (d i - 1) - conf n a d (fun i => 2 * (d i - 1)) v1 i) v2 i + conf n a d (fun i => 2 * (d i - 1) - conf n a d (fun i => 2 * (d i - 1)) v1 i) v2 i) w →
      Stable n d (conf n a d (fun i => conf n a d (fun i => 2 * (d i - 1) - conf n a d (fun i => 2 * (d i - 1)) v1 i) v2 i + conf n a d (fun i => 2 * (d i - 1) - conf n a d (fun i => 2 * (d i - 1)) v1 i) v2 i) w) →
      ∀ i, i < n → conf n a d (fun i => conf n a d (fun i => 2 * (d i - 1) - conf n a d (fun i => 2 * (d i - 1)) v1 i) v2 i + conf n a d (fun i => 2 * (d i - 1) - conf n a d (fun i => 2 * (d i - 1)) v1 i) v2 i) w i = conf n a d (fun i => 2 * (d i - 1) - conf n a d (fun i => 2 * (d i - 1)) v1 i) v2 i := by
  generalize hx : (fun i => 2 * (d i - 1) - conf n a d (fun i => 2 * (d i - 1)) v1 i) = x at h2 s2 ⊢
  generalize he : conf n a d x v2 = e at s2 ⊢
  have hxm : ∀ i, i < n → d i - 1 ≤ x i := fun i hi => by
    have := s1 i hi
    rw [← hx]
    show d i - 1 ≤ 2 * (d i - 1) - conf n a d (fun i => 2 * (d i - 1)) v1 i
    omega
  have hx0 : ∀ i, i < n → 0 ≤ x i := fun i hi => by have := hxm i hi; have := degree_pos M K hi; omega
  have hbx : Burns n a b d x := (burns_max M K).mono hxm
  have hbe : Burns n a b d e := by
    have := hbx.stab M K hx0 h2 (by rw [he]; exact s2)
    rw [he] at this
    exact this
  have he0 : ∀ i, i < n → 0 ≤ e i := by
    have := h2.pos M hx0
    rw [he] at this
    exact this
  refine ⟨hbe, fun w hw hws i hi => ?_⟩
  have hbf : Burns n a b d (conf n a d (fun i => e i + e i) w) := (hbe.mono (fun i hi => by have := he0 i hi; omega)).stab M K (fun i hi => by have := he0 i hi; show 0 ≤ e i + e i; omega) hw hws
  refine Burns.unique (z := fun i => w i + (v2 i + - v1 i)) M hbf hbe hws s2 (fun j hj => ?_) i hi
  -- e is nothing but topplings
  have hxj : x j = conf n a d (fun _ => 0) (fun i => - v1 i) j := by
    rw [← hx]
    show 2 * (d j - 1) - (2 * (d j - 1) - v1 j * d j + sg (fun i => v1 i * a i j) n) = 0 - (- v1 j) * d j + sg (fun i => - v1 i * a i j) n
    have e1 : sg (fun i => - v1 i * a i j) n = (-1) * sg (fun i => v1 i * a i j) n := by
      rw [← sg_mul]
      exact sg_congr (fun i _ => by rw [Int.neg_mul]; omega)
    rw [e1, Int.neg_mul]
    omega
  have hej : e j = conf n a d (fun _ => 0) (fun i => v2 i + - v1 i) j := by
    rw [← he]
    have e2 : (fun i => v2 i + - v1 i) = fun i => - v1 i + v2 i := by funext i; omega
    rw [e2, conf_add]
    exact conf_cong hxj
  rw [conf_lin, conf_add]
  have e3 : conf n a d (conf n a d e w) (fun i => v2 i + - v1 i) j = conf n a d e w j + conf n a d (fun _ => 0) (fun i => v2 i + - v1 i) j := by
    show conf n a d e w j - _ * d j + sg _ n = conf n a d e w j + (0 - _ * d j + sg _ n)
    omega
  rw [e3, ← hej]
end BURN
