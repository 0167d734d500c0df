/-! what the law asks at its end -/
theorem weak_pay {n : Nat} {E : V2} {DG C LG LG' : V1} (hn : n ≤ 6) (h : weakF n E DG C LG = -1) (hb : -300 ≤ (sumN C 7).toInt) : payB n E DG C LG' = true := by
  rw [payB_same C LG' LG]
  unfold weakF at h
  cases hf : fstO (poorB n E DG C (findF n E DG C LG).1) n with
  | some j =>
    rw [hf] at h
    have hj := (fstO_lt hf).1
    have h2 : nI j = -1 := h
    have h3 := congrArg Int32.toInt h2
    rw [nI_toInt (by omega)] at h3
    have : (-1 : Int32).toInt = -1 := rfl
    omega
  | none =>
    rw [hf] at h
    have h2 : (if sumN C 7 - 1 < leastF n DG (findF n E DG C LG).1 then (6 : Int32) else -1) = -1 := h
    by_cases h3 : sumN C 7 - 1 < leastF n DG (findF n E DG C LG).1
    · rw [if_pos h3] at h2
      exact absurd h2 (by decide)
    · unfold payB
      have h4 : ¬ sumN C 7 < leastF n DG (findF n E DG C LG).1 := by
        intro h5
        apply h3
        rw [Int32.lt_iff_toInt_lt] at h5 ⊢
        have e1 : (1 : Int32).toInt = 1 := rfl
        have hr := Int32.toInt_lt (sumN C 7)
        rw [i32_sub (by rw [e1]; omega) (by rw [e1]; omega), e1]
        omega
      rw [decide_eq_false h4]
      rfl
theorem ordF_in {n : Nat} {E : V2} {DG TL NE SUT : V1} : ordF n E DG TL NE SUT = -1 ∨ ∃ j, j < 100 ∧ ordF n E DG TL NE SUT = nI (1 + j) := by
  unfold ordF
  cases hf : fstO (ordB n E DG TL NE SUT) 100 with
  | some j => exact Or.inr ⟨j, (fstO_lt hf).1, rfl⟩
  | none => exact Or.inl rfl
theorem ordF_ok {n : Nat} {E : V2} {DG TL NE SUT : V1} : ¬ ordF n E DG TL NE SUT = 0 ∧ ¬ ordF n E DG TL NE SUT < -1 ∧ ¬ nI 100 < ordF n E DG TL NE SUT := by
  rcases ordF_in (n := n) (E := E) (DG := DG) (TL := TL) (NE := NE) (SUT := SUT) with h | ⟨j, hj, h⟩
  · rw [h]
    exact ⟨by decide, by decide, by decide⟩
  · rw [h]
    refine ⟨nI_ne0 (by omega) (by omega), fun z => ?_, fun z => ?_⟩
    · rw [Int32.lt_iff_toInt_lt, nI_toInt (by omega)] at z
      have : (-1 : Int32).toInt = -1 := rfl
      omega
    · have := (nI_ltI (by omega) (by omega)).mp z
      omega
theorem set_zero {p : Nat → Bool} : ∀ m : Nat, (∀ i, i < m → p i = false) → it (setS p) m 0 = 0
  | 0, _ => rfl
  | m + 1, h => by
    show setS p m (it (setS p) m 0) = 0
    unfold setS
    rw [h m (Nat.lt_succ_self m)]
    exact set_zero m (fun i hi => h i (Nat.lt_succ_of_lt hi))
theorem sg_const (k : Int) : ∀ m : Nat, sg (fun _ => k) m = k * m
  | 0 => by simp [sg]
  | m + 1 => by
    show sg (fun _ => k) m + k = k * ((m + 1 : Nat) : Int)
    rw [sg_const k m, Int.natCast_add, Int.mul_add]
    omega
section ASK
variable {n : Nat} {E : V2} {DG : V1}
/-- the neutral heap -/
def Neu (n : Nat) (E : V2) (DG : V1) (c : Z1) : Prop :=
  (∀ i, i < n → 0 ≤ c i ∧ c i < gE DG i ∧ gE DG i ≤ 18) ∧ Burns n (aE E) (bE E) (gE DG) c ∧ ∀ w, Reach n (aE E) (gE DG) (fun i => c i + c i) w → Stable n (gE DG) (conf n (aE E) (gE DG) (fun i => c i + c i) w) → ∀ i, i < n → conf n (aE E) (gE DG) (fun i => c i + c i) w i = c i
theorem neut_spec (M : MOK n n E DG) (hn : n ≤ 6) (G : V1) : ∃ c, Neu n E DG c ∧ Cfg n (neutF n E DG G).1 c := by
  obtain ⟨X, K⟩ := mok_moor M hn
  have hg : ∀ i, i < n → 1 ≤ gE DG i ∧ gE DG i ≤ 18 := fun i hi => mok_deg M hn hi
  have e1 : (1 : Int32).toInt = 1 := rfl
  have e2 : (2 : Int32).toInt = 2 := rfl
  have hm : ∀ i, i < n → (2 * (DG i - 1)).toInt = 2 * (gE DG i - 1) := fun i hi => by
    obtain ⟨a1, a2⟩ := hg i hi
    have a1' : 1 ≤ (DG i).toInt := a1
    have a2' : (DG i).toInt ≤ 18 := a2
    have es : (DG i - 1).toInt = (DG i).toInt - 1 := by rw [i32_sub (by rw [e1]; omega) (by rw [e1]; omega), e1]
    rw [i32_mul (by rw [e2, es]; omega) (by rw [e2, es]; omega), e2, es]
    rfl
  have hsum : ∀ f : Z1, (∀ i, i < n → f i ≤ 34) → sg f n ≤ 20000 := fun f hf => by
    have h1 := sg_le (g := fun _ => 34) hf
    rw [sg_const] at h1
    omega
  have c0 : Cfg n (it (maxS DG) n G) (fun i => 2 * (gE DG i - 1)) := fun i hi => by
    rw [maxS_at G hi]
    exact hm i hi
  obtain ⟨v1, r1, s1, k1, -⟩ := roll_spec X K hn c0 (fun i hi => by have := hg i hi; omega) (hsum _ (fun i hi => by have := hg i hi; omega))
  have p1 := r1.pos X.1 (fun i hi => by have := hg i hi; omega)
  have c1 : Cfg n (it (offS DG) n (rollF n E DG (it (maxS DG) n G)).1) (fun i => 2 * (gE DG i - 1) - conf n (aE E) (gE DG) (fun i => 2 * (gE DG i - 1)) v1 i) := fun i hi => by
    rw [offS_at _ hi]
    have q1 := p1 i hi
    have q2 := s1 i hi
    have q3 := hg i hi
    have q4 := k1 i hi
    have q5 := hm i hi
    rw [i32_sub (by rw [q5, q4]; omega) (by rw [q5, q4]; omega), q5, q4]
  have nn : ∀ i, i < n → 0 ≤ 2 * (gE DG i - 1) - conf n (aE E) (gE DG) (fun i => 2 * (gE DG i - 1)) v1 i := fun i hi => by
    have q2 := s1 i hi
    have q3 := hg i hi
    omega
  obtain ⟨v2, r2, s2, k2, -⟩ := roll_spec X K hn c1 nn (hsum _ (fun i hi => by
    have q1 := p1 i hi
    have q3 := hg i hi
    omega))
  obtain ⟨B, W⟩ := neutral_spec X.1 K r1 s1 r2 s2
  exact ⟨_, ⟨fun i hi => ⟨r2.pos X.1 nn i hi, s2 i hi, (hg i hi).2⟩, B, W⟩, k2⟩
theorem cfg_stable {c : Z1} {G : V1} (X : MoorI n E DG (aE E) (bE E) (gE DG)) (K : Conn n (aE E) (bE E)) (hn : n ≤ 6) (N : Neu n E DG c) (hG : Cfg n G c) : Cfg n (rollF n E DG G).1 c := by
  have hs : Stable n (gE DG) (conf n (aE E) (gE DG) c (fun _ => 0)) := fun i hi => by
    rw [conf_zero]
    exact (N.1 i hi).2.1
  have h1 := sg_le (f := c) (g := fun _ => 18) (n := n) (fun i hi => by have := N.1 i hi; omega)
  rw [sg_const] at h1
  obtain ⟨w, r, s, k, -⟩ := roll_spec X K hn hG (fun i hi => (N.1 i hi).1) (by omega)
  have e : w = fun _ => 0 := Reach.unique X.1.2.1 r Reach.zero s hs
  subst e
  intro i hi
  rw [k i hi, conf_zero]
theorem neu_lies {c : Z1} {G : V1} (X : MoorI n E DG (aE E) (bE E) (gE DG)) (K : Conn n (aE E) (bE E)) (hn : n ≤ 6) (N : Neu n E DG c) (hG : Cfg n G c) : it (setS (steepB DG G)) n 0 = 0 ∧ lieB n E DG G = true := by
  have hz : it (setS (steepB DG G)) n 0 = 0 := set_zero n (fun i hi => steep_not (by
    rw [hG i hi]
    exact (N.1 i hi).2.1))
  refine ⟨hz, ?_⟩
  have hb : ∀ i, i < n → 0 ≤ bE E i ∧ bE E i ≤ gE DG i := fun i hi => by
    have h1 := X.1.2.2.2.1 i hi
    have h2 := X.1.2.2.2.2 i hi
    have h3 := sg_nonneg (f := fun j => aE E i j) (n := n) (fun j hj => X.1.2.1 i j hi hj)
    exact ⟨h1, by omega⟩
  have hc : Cfg n (it (sinkS E) n G) (fun i => c i + bE E i) := fun i hi => by
    rw [sinkS_at G hi]
    have h1 := N.1 i hi
    have h2 := hb i hi
    have h3 := hG i hi
    have h4 : (E i 6).toInt = bE E i := rfl
    rw [i32_add (by rw [h3, h4]; omega) (by rw [h3, h4]; omega), h3, h4]
  have h1 := sg_le (f := fun i => c i + bE E i) (g := fun _ => 36) (n := n) (fun i hi => by have := N.1 i hi; have := hb i hi; omega)
  rw [sg_const] at h1
  obtain ⟨w, r, s, -, k⟩ := roll_spec X K hn hc (fun i hi => by have := N.1 i hi; have := hb i hi; omega) (by omega)
  have so : Stable n (gE DG) (conf n (aE E) (gE DG) (fun i => c i + bE E i) (ones n)) := fun i hi => by
    rw [conf_one X.1 c hi]
    exact (N.1 i hi).2.1
  have e : w = ones n := Reach.unique X.1.2.1 r N.2.1 s so
  unfold lieB
  rw [hz]
  have ha : allN (onceB (lieR n E DG G).2) n = true := allN_iff.mpr (fun i hi => by
    unfold onceB
    apply decide_eq_true
    apply Int32.toInt_inj.mp
    have h2 := k i hi
    show ((rollF n E DG (it (sinkS E) n G)).2 i).toInt = _
    rw [h2, e]
    show ones n i = 1
    unfold ones
    rw [if_pos hi])
  rw [ha]
  rfl
theorem neu_order {c : Z1} {G NE SUT : V1} (X : MoorI n E DG (aE E) (bE E) (gE DG)) (K : Conn n (aE E) (bE E)) (hn : n ≤ 6) (N : Neu n E DG c) (hG : Cfg n G c) (hN : Cfg n NE c) : ordF n E DG (rollF n E DG G).1 NE SUT = nI 1 := by
  have hT := cfg_stable X K hn N hG
  have hc : Cfg n (it (addS (rollF n E DG G).1) n NE) (fun i => c i + c i) := fun i hi => by
    rw [addS_at _ _ hi]
    have h1 := N.1 i hi
    have h2 := hT i hi
    have h3 := hN i hi
    rw [i32_add (by rw [h2, h3]; omega) (by rw [h2, h3]; omega), h2, h3]
  have h1 := sg_le (f := fun i => c i + c i) (g := fun _ => 36) (n := n) (fun i hi => by have := N.1 i hi; omega)
  rw [sg_const] at h1
  obtain ⟨w, r, s, k, -⟩ := roll_spec X K hn hc (fun i hi => by have := N.1 i hi; omega) (by omega)
  have he := N.2.2 w r s
  have hb : ordB n E DG (rollF n E DG G).1 NE SUT 0 = true := by
    unfold ordB
    refine allN_iff.mpr (fun i hi => ?_)
    unfold likeB
    apply decide_eq_true
    apply Int32.toInt_inj.mp
    show ((rollF n E DG (it (addS (rollF n E DG G).1) n NE)).1 i).toInt = _
    rw [k i hi, he i hi, hN i hi]
  have hf : fstO (ordB n E DG (rollF n E DG G).1 NE SUT) 100 = some 0 := fstO_some (by omega) rfl hb
  unfold ordF
  rw [hf]
/-- the neutral heap, dropped spot by spot -/
def Put (n : Nat) (c : Z1) (k : Nat) (G : V1) : Prop := ∀ i, i < n → (G i).toInt = if i < k then c i else 0
theorem put_zero (c : Z1) : Put n c 0 (fun _ => 0) := fun i _ => by
  rw [if_neg (Nat.not_lt_zero i)]
  rfl
theorem put_skip {c : Z1} {k : Nat} {G : V1} (h : Put n c k G) (h0 : c k = 0) : Put n c (k + 1) G := fun i hi => by
  rw [h i hi]
  by_cases h1 : i < k
  · rw [if_pos h1, if_pos (by omega)]
  · by_cases h2 : i = k
    · subst h2
      rw [if_neg h1, if_pos (by omega), h0]
    · rw [if_neg h1, if_neg (by omega)]
theorem put_drop {c : Z1} {k : Nat} {G : V1} {q : Int32} (h : Put n c k G) (hk : k < n) (hq : q.toInt = c k) (hc : 0 ≤ c k ∧ c k ≤ 18) : Put n c (k + 1) (upd G k (G k + q)) := fun i hi => by
  unfold upd
  by_cases h2 : i = k
  · subst h2
    have h3 := h i hi
    rw [if_neg (Nat.lt_irrefl i)] at h3
    rw [if_pos rfl, if_pos (by omega), i32_add (by rw [h3, hq]; omega) (by rw [h3, hq]; omega), h3, hq]
    omega
  · rw [if_neg h2, h i hi]
    by_cases h1 : i < k
    · rw [if_pos h1, if_pos (by omega)]
    · rw [if_neg h1, if_neg (by omega)]
theorem put_ok {c : Z1} {k : Nat} {G : V1} {q : Int32} (h : Put n c k G) (hk : k < n) (hq : q.toInt = c k) (hc : 0 ≤ c k ∧ c k ≤ 18) (hp : ¬ q ≤ 0) : ¬ q < 1 ∧ q ≤ 40 ∧ G k + q ≤ 99 := by
  have h3 := h k hk
  rw [if_neg (Nat.lt_irrefl k)] at h3
  have e0 : (0 : Int32).toInt = 0 := rfl
  have e1 : (1 : Int32).toInt = 1 := rfl
  have e2 : (40 : Int32).toInt = 40 := rfl
  have e3 : (99 : Int32).toInt = 99 := rfl
  rw [Int32.le_iff_toInt_le, e0, hq] at hp
  have hs : (G k + q).toInt = (G k).toInt + q.toInt := i32_add (by omega) (by omega)
  refine ⟨fun z => ?_, ?_, ?_⟩
  · rw [Int32.lt_iff_toInt_lt, e1] at z
    omega
  · rw [Int32.le_iff_toInt_le, e2]
    omega
  · rw [Int32.le_iff_toInt_le, e3]
    omega
theorem put_all {c : Z1} {G : V1} (h : Put n c n G) : Cfg n G c := fun i hi => by
  rw [h i hi, if_pos hi]
end ASK
