/-! sand, as whole numbers: what topples legally, in which order does not matter -/
def sg (f : Nat → Int) : Nat → Int
  | 0 => 0
  | k + 1 => sg f k + f k
theorem sg_congr {f g : Nat → Int} {n : Nat} (h : ∀ i, i < n → f i = g i) : sg f n = sg g n := by
  induction n with
  | zero => rfl
  | succ n ih =>
    show sg f n + f n = sg g n + g n
    rw [ih (fun i hi => h i (by omega)), h n (by omega)]
theorem sg_le {f g : Nat → Int} {n : Nat} (h : ∀ i, i < n → f i ≤ g i) : sg f n ≤ sg g n := by
  induction n with
  | zero => exact Int.le_refl 0
  | succ n ih =>
    show sg f n + f n ≤ sg g n + g n
    have := ih (fun i hi => h i (by omega))
    have := h n (by omega)
    omega
theorem sg_add (f g : Nat → Int) (n : Nat) : sg (fun i => f i + g i) n = sg f n + sg g n := by
  induction n with
  | zero => rfl
  | succ n ih =>
    show sg (fun i => f i + g i) n + (f n + g n) = (sg f n + f n) + (sg g n + g n)
    omega
theorem sg_sub (f g : Nat → Int) (n : Nat) : sg (fun i => f i - g i) n = sg f n - sg g n := by
  induction n with
  | zero => rfl
  | succ n ih =>
    show sg (fun i => f i - g i) n + (f n - g n) = (sg f n + f n) - (sg g n + g n)
    omega
theorem sg_zero (n : Nat) : sg (fun _ => 0) n = 0 := by
  induction n with
  | zero => rfl
  | succ n ih => show sg (fun _ => 0) n + 0 = 0; omega
theorem sg_nonneg {f : Nat → Int} {n : Nat} (h : ∀ i, i < n → 0 ≤ f i) : 0 ≤ sg f n := by
  rw [← sg_zero n]
  exact sg_le h
theorem sg_mul (k : Int) (f : Nat → Int) (n : Nat) : sg (fun i => k * f i) n = k * sg f n := by
  induction n with
  | zero => simp [sg]
  | succ n ih =>
    show sg (fun i => k * f i) n + k * f n = k * (sg f n + f n)
    rw [ih, Int.mul_add]
theorem sg_one {f : Nat → Int} {n i : Nat} (hi : i < n) (h : ∀ j, j < n → j ≠ i → f j = 0) : sg f n = f i := by
  induction n with
  | zero => omega
  | succ n ih =>
    show sg f n + f n = f i
    rcases Nat.lt_or_ge i n with q | q
    · rw [ih q (fun j hj hne => h j (by omega) hne), h n (by omega) (by omega)]; omega
    · have e : i = n := by omega
      subst e
      rw [sg_congr (g := fun _ => 0) (fun j hj => h j (by omega) (by omega)), sg_zero]; omega
theorem sg_swap (f : Nat → Nat → Int) (n m : Nat) : sg (fun i => sg (fun j => f i j) m) n = sg (fun j => sg (fun i => f i j) n) m := by
  induction n with
  | zero =>
    show 0 = sg (fun j => 0) m
    rw [sg_zero]
  | succ n ih =>
    show sg (fun i => sg (fun j => f i j) m) n + sg (fun j => f n j) m = sg (fun j => sg (fun i => f i j) n + f n j) m
    rw [ih, sg_add]
theorem sg_mem {f : Nat → Int} {n i : Nat} (hi : i < n) (h : ∀ j, j < n → 0 ≤ f j) : f i ≤ sg f n := by
  induction n with
  | zero => omega
  | succ n ih =>
    show f i ≤ sg f n + f n
    rcases Nat.lt_or_ge i n with q | q
    · have := ih q (fun j hj => h j (by omega)); have := h n (by omega); omega
    · have e : i = n := by omega
      subst e
      have := sg_nonneg (n := i) (fun j hj => h j (by omega)); omega
abbrev Z1 : Type := Nat → Int
abbrev Z2 : Type := Nat → Nat → Int
/-- c, when each i has toppled v i times -/
def conf (n : Nat) (a : Z2) (d : Z1) (c v : Z1) (j : Nat) : Int := c j - v j * d j + sg (fun i => v i * a i j) n
def bump (v : Z1) (i : Nat) : Z1 := fun j => if j = i then v j + 1 else v j
/-- v is how often each one toppled, in some row of legal topplings from c on -/
def Reach (n : Nat) (a : Z2) (d c v : Z1) : Prop := ∀ P : Z1 → Prop, P (fun _ => 0) → (∀ v i, P v → i < n → d i ≤ conf n a d c v i → P (bump v i)) → P v
def Stable (n : Nat) (d c : Z1) : Prop := ∀ i, i < n → c i < d i
/-- the moor, as whole numbers: edges between spots (a), to the sink (b), all (d) -/
def Moor (n : Nat) (a : Z2) (b d : Z1) : Prop := (∀ i j, i < n → j < n → a i j = a j i) ∧ (∀ i j, i < n → j < n → 0 ≤ a i j) ∧ (∀ i, i < n → a i i = 0) ∧ (∀ i, i < n → 0 ≤ b i) ∧ ∀ i, i < n → d i = b i + sg (fun j => a i j) n
/-- from each set of spots an edge leads out -/
def Conn (n : Nat) (a : Z2) (b : Z1) : Prop := ∀ S : Nat → Prop, (∃ i, i < n ∧ S i) → ∃ i, i < n ∧ S i ∧ (0 < b i ∨ ∃ j, j < n ∧ ¬ S j ∧ 0 < a i j)
section SAND
variable {n : Nat} {a : Z2} {b d : Z1}
theorem Reach.zero {c : Z1} : Reach n a d c (fun _ => 0) := fun P h0 _ => h0
theorem Reach.step {c v : Z1} {i : Nat} (h : Reach n a d c v) (hi : i < n) (hd : d i ≤ conf n a d c v i) : Reach n a d c (bump v i) := fun P h0 hs => hs v i (h P h0 hs) hi hd
theorem Reach.ind {c v : Z1} {Q : Z1 → Prop} (h : Reach n a d c v) (h0 : Q (fun _ => 0)) (hs : ∀ v i, Reach n a d c v → Q v → i < n → d i ≤ conf n a d c v i → Q (bump v i)) : Q v :=
  (h (fun v => Reach n a d c v ∧ Q v) ⟨Reach.zero, h0⟩ (fun v i q hi hd => ⟨q.1.step hi hd, hs v i q.1 q.2 hi hd⟩)).2
theorem conf_zero (c : Z1) (j : Nat) : conf n a d c (fun _ => 0) j = c j := by
  unfold conf
  rw [sg_congr (g := fun _ => 0) (fun i _ => Int.zero_mul _), sg_zero]
  simp
theorem conf_add (c v w : Z1) (j : Nat) : conf n a d c (fun i => v i + w i) j = conf n a d (conf n a d c v) w j := by
  unfold conf
  rw [sg_congr (g := fun i => v i * a i j + w i * a i j) (fun i _ => Int.add_mul _ _ _), sg_add, Int.add_mul]
  omega
theorem conf_lin (c e v : Z1) (j : Nat) : conf n a d (fun i => c i + e i) v j = conf n a d c v j + e j := by
  show c j + e j - v j * d j + sg (fun i => v i * a i j) n = c j - v j * d j + sg (fun i => v i * a i j) n + e j
  omega
theorem bump_eq (v : Z1) (i : Nat) : bump v i = fun j => v j + (if j = i then 1 else 0) := by
  funext j
  unfold bump
  split <;> omega
theorem conf_unit {i : Nat} (hi : i < n) (c : Z1) (j : Nat) : conf n a d c (fun j => if j = i then 1 else 0) j = c j - (if j = i then d j else 0) + a i j := by
  unfold conf
  have e : sg (fun k => (if k = i then (1 : Int) else 0) * a k j) n = a i j := by
    rw [sg_one (i := i) hi (fun k _ hk => by simp [hk])]
    simp
  rw [e]
  by_cases h : j = i <;> simp [h]
theorem conf_bump {i : Nat} (hi : i < n) (c v : Z1) (j : Nat) : conf n a d c (bump v i) j = conf n a d c v j - (if j = i then d j else 0) + a i j := by
  rw [bump_eq, conf_add, conf_unit hi]
theorem Reach.nonneg {c v : Z1} (h : Reach n a d c v) (i : Nat) : 0 ≤ v i := by
  refine h.ind (Q := fun v => 0 ≤ v i) (Int.le_refl 0) (fun v k _ q _ _ => ?_)
  show 0 ≤ bump v k i
  unfold bump
  split <;> omega
theorem Reach.supp {c v : Z1} (h : Reach n a d c v) (i : Nat) (hi : n ≤ i) : v i = 0 := by
  refine h.ind (Q := fun v => v i = 0) rfl (fun v k _ q hk _ => ?_)
  show bump v k i = 0
  unfold bump
  rw [if_neg (by omega)]
  exact q
/-- no legal row topples more than what makes still -/
theorem Reach.least {c v w : Z1} (ha : ∀ i j, i < n → j < n → 0 ≤ a i j) (h : Reach n a d c v) (hw : ∀ i, i < n → 0 ≤ w i) (hs : Stable n d (conf n a d c w)) : ∀ i, i < n → v i ≤ w i := by
  refine h.ind (Q := fun v => ∀ i, i < n → v i ≤ w i) hw (fun v k _ q hk hd i hi => ?_)
  unfold bump
  split
  · rename_i e
    subst e
    by_cases e : v i = w i
    · exfalso
      have h1 : conf n a d c v i ≤ conf n a d c w i := by
        unfold conf
        rw [e]
        have : sg (fun j => v j * a j i) n ≤ sg (fun j => w j * a j i) n := sg_le (fun j hj => Int.mul_le_mul_of_nonneg_right (q j hj) (ha j i hj hi))
        omega
      have := hs i hi
      omega
    · have := q i hi
      omega
  · exact q i hi
theorem Reach.mono {c c' v : Z1} (h : Reach n a d c v) (hc : ∀ i, i < n → c i ≤ c' i) : Reach n a d c' v := by
  refine h.ind (Q := fun v => Reach n a d c' v) Reach.zero (fun v i _ q hi hd => q.step hi ?_)
  have : conf n a d c v i ≤ conf n a d c' v i := by unfold conf; have := hc i hi; omega
  omega
theorem Reach.trans {c v w : Z1} (h : Reach n a d c v) (h2 : Reach n a d (conf n a d c v) w) : Reach n a d c (fun i => v i + w i) := by
  refine h2.ind (Q := fun w => Reach n a d c (fun i => v i + w i)) (by simpa using h) (fun w i _ q hi hd => ?_)
  have e : (fun j => v j + bump w i j) = bump (fun j => v j + w j) i := by
    funext j
    show v j + (if j = i then w j + 1 else w j) = if j = i then v j + w j + 1 else v j + w j
    split <;> omega
  rw [e]
  refine q.step hi ?_
  rw [conf_add]
  exact hd
/-- toppling to the still heap is the same in any order -/
theorem Reach.unique {c v w : Z1} (ha : ∀ i j, i < n → j < n → 0 ≤ a i j) (hv : Reach n a d c v) (hw : Reach n a d c w) (sv : Stable n d (conf n a d c v)) (sw : Stable n d (conf n a d c w)) : v = w := by
  funext i
  rcases Nat.lt_or_ge i n with q | q
  · exact Int.le_antisymm (hv.least ha (fun i _ => hw.nonneg i) sw i q) (hw.least ha (fun i _ => hv.nonneg i) sv i q)
  · rw [hv.supp i q, hw.supp i q]
theorem Reach.pos {c v : Z1} (M : Moor n a b d) (h : Reach n a d c v) (hc : ∀ i, i < n → 0 ≤ c i) : ∀ i, i < n → 0 ≤ conf n a d c v i := by
  refine h.ind (Q := fun v => ∀ i, i < n → 0 ≤ conf n a d c v i) (fun i hi => by rw [conf_zero]; exact hc i hi) (fun v k _ q hk hd i hi => ?_)
  rw [conf_bump hk]
  have := q i hi
  have := M.2.1 k i hk hi
  split
  · rename_i e; subst e; omega
  · omega
theorem Reach.congr {c c' v : Z1} (h : Reach n a d c v) (hc : ∀ i, i < n → c i = c' i) : Reach n a d c' v := h.mono (fun i hi => Int.le_of_eq (hc i hi))
theorem sg_anti {f : Nat → Nat → Int} {n : Nat} (h : ∀ i j, i < n → j < n → f i j = - f j i) : sg (fun i => sg (fun j => f i j) n) n = 0 := by
  have h1 := sg_swap f n n
  have h2 : sg (fun j => sg (fun i => f i j) n) n = - sg (fun i => sg (fun j => f i j) n) n := by
    have : sg (fun j => sg (fun i => f i j) n) n = sg (fun j => (-1) * sg (fun i => f j i) n) n := sg_congr (fun j hj => by
      rw [← sg_mul]
      exact sg_congr (fun i hi => by rw [h i j hi hj]; omega))
    rw [this, sg_mul]
    omega
  omega
end SAND
