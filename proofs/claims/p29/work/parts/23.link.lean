/-! the class's settling is legal toppling until all is still -/
theorem i32_add {x y : Int32} (h1 : -2147483648 ≤ x.toInt + y.toInt) (h2 : x.toInt + y.toInt < 2147483648) : (x + y).toInt = x.toInt + y.toInt := by
  rw [Int32.toInt_add]
  exact Int.bmod_eq_of_le (by omega) (by omega)
theorem i32_sub {x y : Int32} (h1 : -2147483648 ≤ x.toInt - y.toInt) (h2 : x.toInt - y.toInt < 2147483648) : (x - y).toInt = x.toInt - y.toInt := by
  rw [Int32.toInt_sub]
  exact Int.bmod_eq_of_le (by omega) (by omega)
theorem i32_mul {x y : Int32} (h1 : -2147483648 ≤ x.toInt * y.toInt) (h2 : x.toInt * y.toInt < 2147483648) : (x * y).toInt = x.toInt * y.toInt := by
  rw [Int32.toInt_mul]
  exact Int.bmod_eq_of_le (by omega) (by omega)
theorem i32_div {x y : Int32} (hx : 0 ≤ x.toInt) (hy : 1 ≤ y.toInt) : (x / y).toInt = x.toInt / y.toInt := by
  rw [Int32.toInt_div, Int.tdiv_eq_ediv_of_nonneg hx]
  have h1 : x.toInt / y.toInt ≤ x.toInt := Int.ediv_le_self _ hx
  have h2 : 0 ≤ x.toInt / y.toInt := Int.ediv_nonneg hx (by omega)
  have h3 : x.toInt < 2147483648 := by have := Int32.toInt_lt x; omega
  exact Int.bmod_eq_of_le (by omega) (by omega)
theorem it_tip (E : V2) (fr : Nat) (q : Int32) (F : V1) : ∀ k j : Nat, it (tipS E fr q) k F j = if j < k then F j + q * E fr j else F j
  | 0, j => (if_neg (Nat.not_lt_zero j)).symm
  | k + 1, j => by
    show upd (it (tipS E fr q) k F) k (it (tipS E fr q) k F k + q * E fr k) j = _
    by_cases e : j = k
    · subst e
      rw [pk_us, it_tip E fr q F j j, if_neg (Nat.lt_irrefl j), if_pos (Nat.lt_succ_self j)]
    · rw [pk_un e, it_tip E fr q F k j]
      by_cases h : j < k
      · rw [if_pos h, if_pos (by omega)]
      · rw [if_neg h, if_neg (by omega)]
/-- the class's numbers for a moor, and what they mean -/
def MoorI (n : Nat) (E : V2) (DG : V1) (a : Z2) (b d : Z1) : Prop := Moor n a b d ∧ (∀ i j, i < n → j < n → (E i j).toInt = a i j) ∧ (∀ i, i < n → (E i 6).toInt = b i) ∧ ∀ i, i < n → (DG i).toInt = d i
def Cfg (n : Nat) (G : V1) (c : Z1) : Prop := ∀ i, i < n → (G i).toInt = c i
section LINK
variable {n : Nat} {E : V2} {DG : V1} {a : Z2} {b d : Z1}
theorem sum_conf (M : Moor n a b d) (c v : Z1) : sg (conf n a d c v) n = sg c n - sg (fun i => v i * b i) n := by
  have h1 : sg (conf n a d c v) n = sg (fun i => c i - v i * b i - sg (fun k => (v i - v k) * a i k) n) n := sg_congr (fun i hi => conf_flow M c v hi)
  rw [h1, sg_sub, sg_sub, sg_anti (fun i j hi hj => by rw [M.1 i j hi hj, ← Int.neg_mul]; congr 1; omega)]
  omega
theorem conf_le (M : Moor n a b d) {c v : Z1} (h : Reach n a d c v) (hc : ∀ i, i < n → 0 ≤ c i) {i : Nat} (hi : i < n) : conf n a d c v i ≤ sg c n := by
  have h1 := sg_mem hi (h.pos M hc)
  have h2 := sum_conf M c v
  have h3 := sg_nonneg (f := fun i => v i * b i) (n := n) (fun i hi => Int.mul_nonneg (h.nonneg i) (M.2.2.2.1 i hi))
  omega
theorem edge_le (M : Moor n a b d) {i j : Nat} (hi : i < n) (hj : j < n) : a i j ≤ d i := by
  rw [M.2.2.2.2 i hi]
  have h0 := M.2.2.2.1 i hi
  have := sg_mem (f := fun k => a i k) hj (fun k hk => M.2.1 i k hi hk)
  have e : sg (a i) n = sg (fun k => a i k) n := rfl
  omega
/-- i topples q times at once -/
def hop (i : Nat) (q : Int) : Z1 := fun j => if j = i then q else 0
theorem conf_hop {i : Nat} (hi : i < n) (q : Int) (c : Z1) (j : Nat) : conf n a d c (hop i q) j = c j - (if j = i then q * d j else 0) + q * a i j := by
  unfold conf hop
  have e : sg (fun k => (if k = i then q else 0) * a k j) n = q * a i j := by
    rw [sg_one (i := i) hi (fun k _ hk => by simp [hk])]
    simp
  rw [e]
  by_cases h : j = i <;> simp [h]
theorem reach_hop (M : Moor n a b d) {i : Nat} (hi : i < n) (c : Z1) : ∀ q : Nat, (q : Int) * d i ≤ c i → 0 ≤ d i → Reach n a d c (hop i q)
  | 0, _, _ => by
    have e : hop i ((0 : Nat) : Int) = fun _ => 0 := by funext j; unfold hop; split <;> rfl
    rw [e]
    exact Reach.zero
  | q + 1, h, hd => by
    have e1 : ((q + 1 : Nat) : Int) * d i = q * d i + d i := by rw [Int.natCast_succ, Int.add_mul, Int.one_mul]
    have r := reach_hop M hi c q (by omega) hd
    have e : hop i ((q + 1 : Nat) : Int) = bump (hop i q) i := by
      funext j
      unfold hop bump
      by_cases h : j = i <;> simp [h]
    rw [e]
    refine r.step hi ?_
    rw [conf_hop hi, if_pos rfl, M.2.2.1 i hi]
    omega
theorem tip_spec (X : MoorI n E DG a b d) {c : Z1} {G : V1} {q : Int32} {i : Nat} (hi : i < n) (hG : Cfg n G c) (hc : ∀ j, j < n → 0 ≤ c j ∧ c j ≤ 1000000) (hq : 0 ≤ q.toInt) (hqd : q.toInt * d i ≤ c i) (hd : 1 ≤ d i) : Cfg n (tipG n E DG i q G) (conf n a d c (hop i q.toInt)) := by
  obtain ⟨M, hE, -, hDG⟩ := X
  intro j hj
  have hqi : q.toInt * 1 ≤ q.toInt * d i := Int.mul_le_mul_of_nonneg_left hd hq
  have hci := hc i hi
  have hcj := hc j hj
  have haj := M.2.1 i j hi hj
  have h1 : 0 ≤ q.toInt * a i j := Int.mul_nonneg hq haj
  have h2 : q.toInt * a i j ≤ q.toInt * d i := Int.mul_le_mul_of_nonneg_left (edge_le M hi hj) hq
  have h3 : 0 ≤ q.toInt * d i := Int.mul_nonneg hq (by omega)
  have e1 : (q * E i j).toInt = q.toInt * a i j := by rw [← hE i j hi hj]; exact i32_mul (by rw [hE i j hi hj]; omega) (by rw [hE i j hi hj]; omega)
  have e2 : (q * DG i).toInt = q.toInt * d i := by rw [← hDG i hi]; exact i32_mul (by rw [hDG i hi]; omega) (by rw [hDG i hi]; omega)
  rw [conf_hop hi]
  unfold tipG
  rw [it_tip, if_pos hj]
  by_cases e : j = i
  · subst e
    rw [pk_us, if_pos rfl]
    have e3 : (G j - q * DG j).toInt = c j - q.toInt * d j := by
      rw [i32_sub (by rw [hG j hj, e2]; omega) (by rw [hG j hj, e2]; omega), hG j hj, e2]
    rw [i32_add (by rw [e3, e1]; omega) (by rw [e3, e1]; omega), e3, e1]
  · rw [pk_un e, if_neg e, i32_add (by rw [hG j hj, e1]; omega) (by rw [hG j hj, e1]; omega), hG j hj, e1]
    omega
/-- one round, up to spot i -/
def RI (n : Nat) (a : Z2) (d c v : Z1) (s : S3) (i : Nat) : Prop := ∃ w : Z1, Reach n a d c w ∧ Cfg n s.1 (conf n a d c w) ∧ Cfg n s.2.1 w ∧ ((s.2.2 = 0 ∧ w = v ∧ ∀ k, k < i → conf n a d c v k < d k) ∨ (¬ s.2.2 = 0 ∧ sg v n + 1 ≤ sg w n))
theorem sg_add_hop {i : Nat} (hi : i < n) (w : Z1) (q : Int) : sg (fun j => w j + hop i q j) n = sg w n + q := by
  rw [sg_add, sg_one (f := hop i q) hi (fun j _ hne => if_neg hne)]
  unfold hop
  simp
theorem rr_spec (X : MoorI n E DG a b d) (K : Conn n a b) {c v : Z1} {G T : V1} (hn : n ≤ 6) (hc : ∀ j, j < n → 0 ≤ c j) (hT : sg c n ≤ 20000) (hv : Reach n a d c v) (hG : Cfg n G (conf n a d c v)) (hTv : Cfg n T v) : ∀ i, i ≤ n → RI n a d c v (rr n E DG G T i) i := by
  intro i
  induction i with
  | zero => exact fun _ => ⟨v, hv, hG, hTv, Or.inl ⟨rfl, rfl, fun k h => absurd h (Nat.not_lt_zero k)⟩⟩
  | succ i ih =>
    intro hi
    obtain ⟨w, hw, hGw, hTw, hor⟩ := ih (by omega)
    have hin : i < n := by omega
    have M := X.1
    have hd := degree_pos M K hin
    have hDi := X.2.2.2 i hin
    show RI n a d c v (rrS n E DG i (rr n E DG G T i)) (i + 1)
    generalize rr n E DG G T i = s at hGw hTw hor ⊢
    have hpos := hw.pos M hc
    have hle := fun (j : Nat) (hj : j < n) => conf_le M hw hc hj
    unfold rrS
    rw [if_neg (by rw [Int32.le_iff_toInt_le, hDi]; show ¬ d i ≤ 0; omega)]
    by_cases hlt : s.1 i < DG i
    · rw [if_pos hlt]
      have hlt' : conf n a d c w i < d i := by
        have := Int32.lt_iff_toInt_lt.mp hlt
        rw [hGw i hin, hDi] at this
        exact this
      refine ⟨w, hw, hGw, hTw, ?_⟩
      rcases hor with ⟨h1, h2, h3⟩ | h
      · refine Or.inl ⟨h1, h2, fun k hk => ?_⟩
        rcases Nat.lt_or_ge k i with q | q
        · exact h3 k q
        · rw [show k = i by omega, ← h2]; exact hlt'
      · exact Or.inr h
    · rw [if_neg hlt]
      have hge : d i ≤ conf n a d c w i := by
        have : ¬ (s.1 i).toInt < (DG i).toInt := fun z => hlt (Int32.lt_iff_toInt_lt.mpr z)
        rw [hGw i hin, hDi] at this
        omega
      have hq : (s.1 i / DG i).toInt = conf n a d c w i / d i := by
        rw [i32_div (by rw [hGw i hin]; omega) (by rw [hDi]; omega), hGw i hin, hDi]
      have hq1 : 1 ≤ conf n a d c w i / d i := by
        rw [Int.le_ediv_iff_mul_le (by omega)]
        omega
      have hqd : conf n a d c w i / d i * d i ≤ conf n a d c w i := Int.ediv_mul_le _ (by omega)
      have hbig : ∀ j, j < n → 0 ≤ conf n a d c w j ∧ conf n a d c w j ≤ 1000000 := fun j hj => ⟨hpos j hj, by have := hle j hj; omega⟩
      have ht := tip_spec X (q := s.1 i / DG i) hin hGw hbig (by rw [hq]; omega) (by rw [hq]; exact hqd) hd
      rw [hq] at ht
      obtain ⟨qn, hqn⟩ : ∃ qn : Nat, (qn : Int) = conf n a d c w i / d i := ⟨(conf n a d c w i / d i).toNat, by omega⟩
      have hr := hw.trans (reach_hop M hin (conf n a d c w) qn (by rw [hqn]; exact hqd) (by omega))
      rw [hqn] at hr
      refine ⟨_, hr, fun j hj => ?_, fun j hj => ?_, Or.inr ⟨by simp, ?_⟩⟩
      · rw [conf_add]
        exact ht j hj
      · show (upd s.2.1 i (s.2.1 i + s.1 i / DG i) j).toInt = w j + hop i (conf n a d c w i / d i) j
        by_cases e : j = i
        · subst e
          have hb := hr.bound M K hc (Int.le_refl _) j hj
          have h0 := hw.nonneg j
          have hn2 : (n : Int) * sg c n ≤ 6 * 20000 := by
            have h0 := sg_nonneg hc
            exact Int.le_trans (Int.mul_le_mul_of_nonneg_right (show (n : Int) ≤ 6 by omega) h0) (by omega)
          have e5 : w j + hop j (conf n a d c w j / d j) j = w j + conf n a d c w j / d j := by unfold hop; rw [if_pos rfl]
          rw [e5] at hb ⊢
          rw [pk_us, i32_add (by rw [hTw j hj, hq]; omega) (by rw [hTw j hj, hq]; omega), hTw j hj, hq]
        · rw [pk_un e, hTw j hj]
          unfold hop
          rw [if_neg e]
          omega
      · rw [sg_add_hop hin]
        rcases hor with ⟨-, h2, -⟩ | ⟨-, h⟩
        · rw [h2] at hq1 ⊢; omega
        · omega
theorem rollR_spec (X : MoorI n E DG a b d) (K : Conn n a b) {c : Z1} (hn : n ≤ 6) (hc : ∀ j, j < n → 0 ≤ c j) (hT : sg c n ≤ 20000) : ∀ (k : Nat) (s : S3) (v : Z1), Reach n a d c v → Cfg n s.1 (conf n a d c v) → Cfg n s.2.1 v → (s.2.2 = 0 → Stable n d (conf n a d c v)) → n * (n * sg c n) - sg v n < k →
    ∃ w, Reach n a d c w ∧ Stable n d (conf n a d c w) ∧ Cfg n (rollR n E DG k s).1 (conf n a d c w) ∧ Cfg n (rollR n E DG k s).2 w := by
  intro k
  induction k with
  | zero =>
    intro s v hv _ _ _ hk
    have := hv.total X.1 K hc (Int.le_refl _)
    omega
  | succ k ih =>
    intro s v hv hG hTv hst hk
    by_cases h0 : s.2.2 = 0
    · rw [rollR_0 h0]
      exact ⟨v, hv, hst h0, hG, hTv⟩
    · rw [rollR_1 h0 (Nat.succ_pos k)]
      obtain ⟨w, hw, hGw, hTw, hor⟩ := rr_spec X K hn hc hT hv hG hTv n (Nat.le_refl n)
      rcases hor with ⟨h1, h2, h3⟩ | ⟨h1, h2⟩
      · show ∃ w, Reach n a d c w ∧ Stable n d (conf n a d c w) ∧ Cfg n (rollR n E DG k _).1 (conf n a d c w) ∧ Cfg n (rollR n E DG k _).2 w
        rw [rollR_0 h1]
        subst h2
        exact ⟨w, hw, fun i hi => h3 i hi, hGw, hTw⟩
      · exact ih _ w hw hGw hTw (fun z => absurd z h1) (by omega)
/-- settling: as legal topplings lead to the still heap -/
theorem roll_spec (X : MoorI n E DG a b d) (K : Conn n a b) {c : Z1} {G : V1} (hn : n ≤ 6) (hG : Cfg n G c) (hc : ∀ j, j < n → 0 ≤ c j) (hT : sg c n ≤ 20000) : ∃ w, Reach n a d c w ∧ Stable n d (conf n a d c w) ∧ Cfg n (rollF n E DG G).1 (conf n a d c w) ∧ Cfg n (rollF n E DG G).2 w := by
  have h0 := sg_nonneg hc
  have h1 : (n : Int) * sg c n ≤ 6 * 20000 := Int.le_trans (Int.mul_le_mul_of_nonneg_right (show (n : Int) ≤ 6 by omega) h0) (by omega)
  have h2 : 0 ≤ (n : Int) * sg c n := Int.mul_nonneg (by omega) h0
  have h3 : (n : Int) * (n * sg c n) ≤ 6 * (6 * 20000) := Int.le_trans (Int.mul_le_mul_of_nonneg_right (show (n : Int) ≤ 6 by omega) h2) (by omega)
  have hR := rounds_eq
  exact rollR_spec X K hn hc hT rounds (G, fun _ => 0, 1) (fun _ => 0) Reach.zero (fun i hi => by rw [conf_zero]; exact hG i hi) (fun _ _ => rfl) (fun z => absurd (show (1 : Int32) = 0 from z) (by decide)) (by rw [sg_zero]; omega)
end LINK
