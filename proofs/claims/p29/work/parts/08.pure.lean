/-! the class's methods as functions: what each loop does to the numbers -/
theorem rounds_ex : ∃ k : Nat, k = 1000000 := ⟨_, rfl⟩
noncomputable def rounds : Nat := Classical.choose rounds_ex
theorem rounds_eq : rounds = 1000000 := Classical.choose_spec rounds_ex
abbrev V1 : Type := Nat → Int32
abbrev V2 : Type := Nat → Nat → Int32
abbrev S2 : Type := V1 × V1
abbrev S3 : Type := V1 × V1 × Int32
theorem it_stable {σ : Type} {f : Nat → σ → σ} {s : σ} {i n : Nat} (h : ∀ k, i ≤ k → f k (it f i s) = it f i s) (hin : i ≤ n) : it f n s = it f i s := by
  induction n with
  | zero => rw [show i = 0 by omega]
  | succ n ih =>
    rcases Nat.lt_or_ge n i with q | q
    · rw [show i = n + 1 by omega]
    · show f n (it f n s) = _
      rw [ih q, h n q]
def fillS (v : Int32) (k : Nat) (F : V1) : V1 := upd F k v
theorem fill_at (v : Int32) (F : V1) : ∀ (n j : Nat), j < n → it (fillS v) n F j = v
  | 0, j, h => absurd h (Nat.not_lt_zero j)
  | n + 1, j, h => by
    show upd (it (fillS v) n F) n v j = v
    by_cases e : j = n
    · rw [e]; exact pk_us
    · rw [pk_un e]; exact fill_at v F n j (by omega)
def addS (r : V1) (k : Nat) (G : V1) : V1 := upd G k (G k + r k)
def sinkS (E : V2) (k : Nat) (G : V1) : V1 := upd G k (G k + E k 6)
def tipS (E : V2) (fr : Nat) (q : Int32) (k : Nat) (G : V1) : V1 := upd G k (G k + q * E fr k)
def tipG (n : Nat) (E : V2) (DG : V1) (fr : Nat) (q : Int32) (G : V1) : V1 := it (tipS E fr q) n (upd G fr (G fr - q * DG fr))
def steepB (DG G : V1) (k : Nat) : Bool := !decide (DG k ≤ 0) && !decide (G k < DG k)
def likeB (G H : V1) (k : Nat) : Bool := decide (G k = H k)
def onceB (T : V1) (k : Nat) : Bool := decide (T k = 1)
def setS (p : Nat → Bool) (k : Nat) (s : Int32) : Int32 := if p k = true then s ||| (1 <<< (nI k &&& 31)) else s
def rrS (n : Nat) (E : V2) (DG : V1) (k : Nat) (s : S3) : S3 := if DG k ≤ 0 then s else if s.1 k < DG k then s else (tipG n E DG k (s.1 k / DG k) s.1, upd s.2.1 k (s.2.1 k + s.1 k / DG k), 1)
def rr (n : Nat) (E : V2) (DG G T : V1) (i : Nat) : S3 := it (rrS n E DG) i (G, T, 0)
def rollR (n : Nat) (E : V2) (DG : V1) : Nat → S3 → S2
  | 0, X => (X.1, X.2.1)
  | k + 1, X => if X.2.2 = 0 then (X.1, X.2.1) else rollR n E DG k (rr n E DG X.1 X.2.1 n)
theorem rollR_0 {n : Nat} {E : V2} {DG : V1} {X : S3} (h : X.2.2 = 0) (k : Nat) : rollR n E DG k X = (X.1, X.2.1) := by
  cases k with
  | zero => rfl
  | succ k => exact if_pos h
theorem rollR_1 {n : Nat} {E : V2} {DG : V1} {X : S3} {k : Nat} (h : ¬ X.2.2 = 0) (hk : 0 < k) : rollR n E DG k X = rollR n E DG (k - 1) (rr n E DG X.1 X.2.1 n) := by
  cases k with
  | zero => omega
  | succ k => exact if_neg h
noncomputable def rollF (n : Nat) (E : V2) (DG G : V1) : S2 := rollR n E DG rounds (G, fun _ => 0, 1)
def maxS (DG : V1) (k : Nat) (G : V1) : V1 := upd G k (2 * (DG k - 1))
def offS (DG : V1) (k : Nat) (G : V1) : V1 := upd G k (2 * (DG k - 1) - G k)
noncomputable def neutF (n : Nat) (E : V2) (DG G : V1) : S2 := rollF n E DG (it (offS DG) n (rollF n E DG (it (maxS DG) n G)).1)
/-- the first i below n with p -/
def fstO (p : Nat → Bool) : Nat → Option Nat
  | 0 => none
  | k + 1 => match fstO p k with
    | some j => some j
    | none => if p k = true then some k else none
def optI : Option Nat → Int32
  | none => -1
  | some j => nI j
theorem fstO_succ {p : Nat → Bool} {k : Nat} (h : fstO p k = none) : fstO p (k + 1) = if p k = true then some k else none := by
  show (match fstO p k with | some j => some j | none => if p k = true then some k else none) = _
  rw [h]
theorem fstO_some {p : Nat → Bool} {i n : Nat} (hi : i < n) (h : fstO p i = none) (hp : p i = true) : fstO p n = some i := by
  induction n with
  | zero => omega
  | succ n ih =>
    rcases Nat.lt_or_ge i n with q | q
    · show (match fstO p n with | some j => some j | none => if p n = true then some n else none) = _
      rw [ih q]
    · rw [show n = i by omega, fstO_succ h, if_pos hp]
def bitB (x : Int32) (k : Nat) : Bool := !decide ((x >>> (nI k &&& 31)) &&& 1 = 0)
def intoS (E : V2) (spot : Nat) (set : Int32) (k : Nat) (a : Int32) : Int32 := if bitB set k = true then a + E spot k else a
def intoF (E : V2) (spot : Nat) (set : Int32) : Int32 := it (intoS E spot set) 7 0
def burnB (E : V2) (G : V1) (b : Int32) (k : Nat) : Bool := !bitB b k && !decide (intoF E k b ≤ G k)
def nextF (n : Nat) (E : V2) (G : V1) (b : Int32) : Int32 := optI (fstO (burnB E G b) n)
def fireS (n : Nat) (E : V2) (G : V1) (_ : Nat) (s : Int32 × Int32) : Int32 × Int32 := if nextF n E G s.1 = -1 then s else (s.1 ||| (1 <<< (nextF n E G s.1 &&& 31)), s.2 * 10 + nextF n E G s.1 + 1)
def fireF (n : Nat) (E : V2) (G : V1) : Int32 := (it (fireS n E G) n (64, 0)).2
theorem kt_chg {D : va_G} {cl : List vw_C} {A : Nat → Prop} {w : va_W} {H : Heap} {a : Nat} {cA : ClassId} {n : Nat} {f : V1} (g : V1) (hP : va_P D cl w H) (hD : va_D A w) (q0 : Nat) (ha : w[q0]? = some (a, .inl (cA, n, .inl f))) (h : ∀ j, j < n → f j = g j) : va_P D cl (w.set q0 (a, .inl (cA, n, .inl g))) H ∧ va_D A (w.set q0 (a, .inl (cA, n, .inl g))) := by
  refine ⟨hP.set hD ha ?_ (fun _ _ => rfl), hD.set ha⟩
  show H[a]? = some (vp_cell cA (n, .inl g))
  rw [← vp_congr_i h]
  exact hP q0 _ ha
theorem nar_bool {x : Int32} (h : x = 0 ∨ x = 1) : narrow .boolean (.int x) = .int x := by
  rcases h with rfl | rfl <;> rfl
theorem rr_bool (n : Nat) (E : V2) (DG G T : V1) : ∀ i : Nat, (rr n E DG G T i).2.2 = 0 ∨ (rr n E DG G T i).2.2 = 1
  | 0 => Or.inl rfl
  | i + 1 => by
    show (rrS n E DG i (rr n E DG G T i)).2.2 = 0 ∨ (rrS n E DG i (rr n E DG G T i)).2.2 = 1
    unfold rrS
    split
    · exact rr_bool n E DG G T i
    · split
      · exact rr_bool n E DG G T i
      · exact Or.inr rfl
theorem b2i_bool (b : Bool) : b2i b = 0 ∨ b2i b = 1 := by cases b <;> simp [b2i]
theorem kt_cpy {f g : V1} {j : Nat} (hj : j < 6) : va_cpy f g (Int32.toNatClampNeg 0) (Int32.toNatClampNeg 0) (Int32.toNatClampNeg 6) j = f j := by
  have h : (6 : Int32).toNatClampNeg = 6 := rfl
  have h0 : (0 : Int32).toNatClampNeg = 0 := rfl
  unfold va_cpy
  rw [h, h0, if_pos ⟨Nat.zero_le _, by omega⟩]
  simp
theorem updR_updR {α : Type} {E : Nat → Nat → α} {j : Nat} {r r2 : Nat → α} : updR (updR E j r) j r2 = updR E j r2 := by
  funext i
  unfold updR
  by_cases h : i = j
  · rw [if_pos h, if_pos h]
  · rw [if_neg h, if_neg h, if_neg h]
def ushr (x k : Int32) : Int32 := (x.toUInt32 >>> (k.toUInt32 &&& Int32.toUInt32 31)).toInt32
def bc1 (x : Int32) : Int32 := x - (ushr x 1 &&& 1431655765)
def bc2 (x : Int32) : Int32 := (x &&& 858993459) + (ushr x 2 &&& 858993459)
def bc3 (x : Int32) : Int32 := (x + ushr x 4) &&& 252645135
def bc4 (x : Int32) : Int32 := x + ushr x 8
def bc5 (x : Int32) : Int32 := x + ushr x 16
def bitC (x : Int32) : Int32 := bc5 (bc4 (bc3 (bc2 (bc1 x)))) &&& 63
def isSpotB (n : Nat) (p : Int32) : Bool := !decide (p < 0) && !decide (nI n ≤ p)
def isNodeB (n : Nat) (p : Int32) : Bool := decide (p = 6) || isSpotB n p
def layE (E : V2) (a b : Nat) (q : Int32) : V2 := updR (updR E a (upd (E a) b q)) b (upd (updR E a (upd (E a) b q) b) a q)
def layD (E : V2) (DG : V1) (a b : Nat) (q : Int32) : V1 := upd (upd DG a (DG a + (q - E a b))) b (upd DG a (DG a + (q - E a b)) b + (q - E a b))
def reachS (E : V2) (k : Nat) (r : Int32) : Int32 := if 0 < intoF E k r then r ||| (1 <<< (nI k &&& 31)) else r
def reachF (n : Nat) (E : V2) : Int32 := it (fun _ r => it (reachS E) n r) n 64
def fastB (n : Nat) (E : V2) : Bool := !decide (nI n ≤ 0) && decide (bitC (reachF n E) = nI n + 1)
def leftF (E : V2) (sp : Nat) (pl : Int32) (i : Nat) : Int32 := it (fun k a => a - E sp k) i pl
def nbF (E : V2) (sp : Nat) (pl : Int32) : Int32 := optI (fstO (fun k => decide (leftF E sp pl (k + 1) < 0)) 7)
abbrev L2 : Type := Nat → Nat → Int64
def fillC (E : V2) (DG : V1) (r k : Nat) (T : L2) : L2 := updR T r (vp_updL (T r) k (if r = k then (DG r).toInt64 else (-(E r k)).toInt64))
def fillR (n : Nat) (E : V2) (DG : V1) (r : Nat) (T : L2) : L2 := it (fillC E DG r) n T
def elimC (st : Nat) (pb pv : Int64) (r k : Nat) (T : L2) : L2 := updR T r (vp_updL (T r) (st + 1 + k) ((T r (st + 1 + k) * pv - T r st * T st (st + 1 + k)) / pb))
def elimR (st : Nat) (pb pv : Int64) (n i : Nat) (T : L2) : L2 := it (elimC st pb pv (st + 1 + i)) (n - (st + 1)) T
def elimT (n st : Nat) (pb : Int64) (T : L2) : L2 := it (elimR st pb (T st st) n) (n - (st + 1)) T
def treeS (n k : Nat) (s : L2 × Int64) : L2 × Int64 := if s.2 = 0 then s else (elimT n k s.2 s.1, elimT n k s.2 s.1 k k)
def treeF (n : Nat) (E : V2) (DG : V1) (T : L2) : L2 × Int64 := it (treeS n) n (it (fillR n E DG) n T, 1)
theorem fstO_lt {p : Nat → Bool} {n j : Nat} (h : fstO p n = some j) : j < n ∧ p j = true := by
  induction n with
  | zero => cases h
  | succ n ih =>
    cases hq : fstO p n with
    | some k =>
      have h2 : fstO p (n + 1) = some k := by show (match fstO p n with | some j => some j | none => if p n = true then some n else none) = _; rw [hq]
      rw [h2] at h
      cases h
      exact ⟨Nat.lt_succ_of_lt (ih hq).1, (ih hq).2⟩
    | none =>
      rw [fstO_succ hq] at h
      split at h
      · rename_i hp
        have h9 := Option.some.inj h
        subst h9
        exact ⟨Nat.lt_succ_self _, hp⟩
      · cases h
def resetP (n a : Nat) (P : V1) : V1 := if a < n then upd P a 0 else P
theorem isSpotB_nI {n a : Nat} (hn : n < 2 ^ 31) (ha : a < 2 ^ 31) : isSpotB n (nI a) = decide (a < n) := by
  unfold isSpotB
  rw [decide_eq_false (nI_pos ha)]
  rcases Nat.lt_or_ge a n with h | h
  · rw [decide_eq_true h, decide_eq_false (nI_ge h hn)]; rfl
  · rw [decide_eq_false (Nat.not_lt.mpr h), decide_eq_true (nI_le h ha)]; rfl
def ptF (E : V2) (P : V1) (sp : Nat) : Option Nat := fstO (fun k => decide (leftF E sp (P sp) (k + 1) < 0)) 7
theorem ptF_lt {E : V2} {P : V1} {sp j : Nat} (h : ptF E P sp = some j) : j < 7 := (fstO_lt h).1
def leadS (n : Nat) (E : V2) (P : V1) : Option Nat → Option Nat
  | some j => if j < n then ptF E P j else some j
  | none => none
def leadB (n : Nat) (E : V2) (P : V1) (sp : Nat) : Bool := decide (it (fun _ o => leadS n E P o) n (some sp) = some 6)
theorem spot_of {n : Nat} {o : Option Nat} (hn : n ≤ 6) (h : isSpotB n (optI o) = true) (hq : ∀ j, o = some j → j < 7) : ∃ j, j < n ∧ o = some j := by
  cases o with
  | none =>
    have : isSpotB n (-1) = false := by unfold isSpotB; rw [decide_eq_true (show (-1 : Int32) < 0 by decide)]; rfl
    exact absurd (this.symm.trans h) (by decide)
  | some j =>
    have h2 : isSpotB n (nI j) = true := h
    have := hq j rfl
    rw [isSpotB_nI (by omega) (by omega)] at h2
    exact ⟨j, of_decide_eq_true h2, rfl⟩
theorem leadS_stop {n : Nat} {E : V2} {P : V1} {o : Option Nat} (hn : n ≤ 6) (h : isSpotB n (optI o) = false) (hq : ∀ j, o = some j → j < 7) : leadS n E P o = o := by
  cases o with
  | none => rfl
  | some j =>
    have h2 : isSpotB n (nI j) = false := h
    have := hq j rfl
    rw [isSpotB_nI (by omega) (by omega)] at h2
    exact if_neg (of_decide_eq_false h2)
theorem lead_t {o : Option Nat} (h : optI o = 6) (hq : ∀ j, o = some j → j < 7) : o = some 6 := by
  cases o with
  | none => exact absurd h (by decide)
  | some j =>
    have h2 : nI j = nI 6 := h
    have := hq j rfl
    rw [(nI_eq (by omega) (by omega)).mp h2]
theorem lead_f {o : Option Nat} (h : ¬ optI o = 6) : ¬ o = some 6 := fun z => h (by rw [z]; rfl)
def giveC (E : V2) (DG : V1) (fr : Nat) (q : Int32) (C : V1) : V1 := it (tipS E fr q) 7 (upd C fr (C fr - q * DG fr))
def debtS (C : V1) (k : Nat) (a : Int32) : Int32 := if 0 ≤ C k then a else a + 1
def otherS (DG : V1) (k : Nat) (G : V1) : V1 := upd G k (DG k - 1 - G k)
def othF (n : Nat) (DG G : V1) : V1 := it (otherS DG) n G
def leastF (n : Nat) (DG G : V1) : Int32 := sumN (fun k => DG k - 1 - G k) n
def copyS (C : V1) (k : Nat) (G : V1) : V1 := upd G k (C k)
noncomputable def lastS (n : Nat) (E : V2) (DG : V1) (X : S3) : S3 := ((rollF n E DG (it (sinkS E) n X.1)).1, (rollF n E DG (it (sinkS E) n X.1)).2, b2i (allN (onceB (rollF n E DG (it (sinkS E) n X.1)).2) n))
noncomputable def lastR (n : Nat) (E : V2) (DG : V1) : Nat → S3 → S2
  | 0, X => (X.1, X.2.1)
  | k + 1, X => if X.2.2 = 0 then lastR n E DG k (lastS n E DG X) else (X.1, X.2.1)
theorem lastR_0 {n : Nat} {E : V2} {DG : V1} {X : S3} (h : ¬ X.2.2 = 0) (k : Nat) : lastR n E DG k X = (X.1, X.2.1) := by
  cases k with
  | zero => rfl
  | succ k => exact if_neg h
theorem lastR_1 {n : Nat} {E : V2} {DG : V1} {X : S3} {k : Nat} (h : X.2.2 = 0) (hk : 0 < k) : lastR n E DG k X = lastR n E DG (k - 1) (lastS n E DG X) := by
  cases k with
  | zero => omega
  | succ k => exact if_pos h
noncomputable def fl1 (n : Nat) (E : V2) (DG C LG : V1) : S2 := rollF n E DG (othF n DG (it (copyS C) n LG))
noncomputable def fl2 (n : Nat) (E : V2) (DG C LG : V1) : S2 := rollF n E DG (othF n DG (fl1 n E DG C LG).1)
noncomputable def findF (n : Nat) (E : V2) (DG C LG : V1) : S2 := lastR n E DG rounds (othF n DG (fl2 n E DG C LG).1, (fl2 n E DG C LG).2, 0)
noncomputable def payB (n : Nat) (E : V2) (DG C LG : V1) : Bool := !decide (sumN C 7 < leastF n DG (findF n E DG C LG).1)
noncomputable def poorS (n : Nat) (E : V2) (DG L : V1) (k : Nat) (_ : S2) : S2 := rollF n E DG (upd L k (L k + 1))
noncomputable def poorB (n : Nat) (E : V2) (DG C L : V1) (k : Nat) : Bool := decide (sumN C 7 - 1 < leastF n DG (rollF n E DG (upd L k (L k + 1))).1)
noncomputable def poorX (n : Nat) (E : V2) (DG C LG OG OT : V1) : S2 := match fstO (poorB n E DG C (findF n E DG C LG).1) n with
  | some j => rollF n E DG (upd (findF n E DG C LG).1 j ((findF n E DG C LG).1 j + 1))
  | none => it (poorS n E DG (findF n E DG C LG).1) n (OG, OT)
noncomputable def weakF (n : Nat) (E : V2) (DG C LG : V1) : Int32 := match fstO (poorB n E DG C (findF n E DG C LG).1) n with
  | some j => nI j
  | none => if sumN C 7 - 1 < leastF n DG (findF n E DG C LG).1 then 6 else -1
theorem isNodeB_nI {n a : Nat} (hn : n ≤ 6) (ha : a < n ∨ a = 6) : isNodeB n (nI a) = true := by
  unfold isNodeB
  rcases ha with h | h
  · rw [isSpotB_nI (by omega) (by omega), decide_eq_true h, Bool.or_true]
  · subst h
    rfl
def spotF (E : V2) (DG LYG LYT P : V1) (sp : Nat) (w : Nat) : Int32 := match w with
  | 0 => LYG sp
  | 1 => DG sp
  | 2 => E sp 6
  | 3 => LYT sp
  | 4 => b2i (steepB DG LYG sp)
  | 5 => P sp
  | _ => optI (ptF E P sp)
def manyF (n : Nat) (E : V2) (DG LYG LYT P C : V1) (sw tps st : Int32) (km : Nat) (w : Nat) : Int32 := match w with
  | 0 => nI n
  | 1 => sumN DG 7 / 2
  | 2 => sumN LYG n
  | 3 => sw
  | 4 => tps
  | 5 => sumN LYT n
  | 6 => it (setS (steepB DG LYG)) n 0
  | 7 => b2i (fastB n E)
  | 8 => nI km
  | 9 => sumN C 7
  | 10 => sumN DG 7 / 2 - nI n
  | 11 => it (debtS C) 7 0
  | 12 => st
  | _ => b2i (allN (leadB n E P) n)
noncomputable def lieR (n : Nat) (E : V2) (DG LYG : V1) : S2 := rollF n E DG (it (sinkS E) n LYG)
noncomputable def lieB (n : Nat) (E : V2) (DG LYG : V1) : Bool := decide (it (setS (steepB DG LYG)) n 0 = 0) && allN (onceB (lieR n E DG LYG).2) n
noncomputable def lieX (n : Nat) (E : V2) (DG LYG TLG TLT : V1) : S2 := if it (setS (steepB DG LYG)) n 0 = 0 then lieR n E DG LYG else (TLG, TLT)
noncomputable def ordS (n : Nat) (E : V2) (DG TL : V1) (_ : Nat) (X : S2) : S2 := rollF n E DG (it (addS TL) n X.1)
noncomputable def ordI (n : Nat) (E : V2) (DG TL NE SUT : V1) (i : Nat) : S2 := it (ordS n E DG TL) i (NE, SUT)
noncomputable def ordB (n : Nat) (E : V2) (DG TL NE SUT : V1) (k : Nat) : Bool := allN (likeB (ordI n E DG TL NE SUT (k + 1)).1 NE) n
noncomputable def ordX (n : Nat) (E : V2) (DG TL NE SUT : V1) : S2 := match fstO (ordB n E DG TL NE SUT) 100 with
  | some j => ordI n E DG TL NE SUT (j + 1)
  | none => ordI n E DG TL NE SUT 100
noncomputable def ordF (n : Nat) (E : V2) (DG TL NE SUT : V1) : Int32 := match fstO (ordB n E DG TL NE SUT) 100 with
  | some j => nI (1 + j)
  | none => -1
def manyD (n : Nat) (E : V2) (DG LYG LYT P C : V1) (sw tps st : Int32) (km : Nat) (w : Nat) (d : Int64) : Int64 := d * 31 + Int32.toInt64 (manyF n E DG LYG LYT P C sw tps st km w)
def spotD (E : V2) (DG LYG LYT P : V1) (sp w : Nat) (d : Int64) : Int64 := d * 31 + Int32.toInt64 (spotF E DG LYG LYT P sp w)
def spotE (E : V2) (DG LYG LYT P : V1) (sp : Nat) (d : Int64) : Int64 := it (spotD E DG LYG LYT P sp) 7 d
def rowD (E : V2) (nd k : Nat) (d : Int64) : Int64 := d * 31 + Int32.toInt64 (E nd k)
def nodeD (n : Nat) (E : V2) (C : V1) (nd : Nat) (d : Int64) : Int64 := it (rowD E nd) n (d * 31 + Int32.toInt64 (C nd)) * 31 + Int32.toInt64 (E nd 6)
def keptE (n : Nat) (KH : V2) (hp : Nat) (d : Int64) : Int64 := it (rowD KH hp) n d
def keptD (n km : Nat) (KH : V2) (d : Int64) : Int64 := it (keptE n KH) km d
noncomputable def wouldR (n : Nat) (E : V2) (DG LYG : V1) (j : Nat) (q : Int32) : S2 := rollF n E DG (upd LYG j (LYG j + q))
noncomputable def fastS (n : Nat) (E : V2) (DG LYG NE : V1) (k : Nat) (s : Int64 × S2) : Int64 × S2 := ((s.1 * 31 + Int32.toInt64 (NE k)) * 31 + Int32.toInt64 (sumN (wouldR n E DG LYG k 1).2 n), wouldR n E DG LYG k 1)
/-- digest of a fast moor: what is added, and the trial heap then -/
noncomputable def fastX (n : Nat) (E : V2) (DG LYG TLG TLT NEG : V1) (d : Int64) : Int64 × S2 := it (fastS n E DG LYG (neutF n E DG NEG).1) n (d * 31 + Int32.toInt64 (b2i (lieB n E DG LYG)), lieX n E DG LYG TLG TLT)
noncomputable def fastD (n : Nat) (E : V2) (DG LYG TLG TLT NEG C LG : V1) (d : Int64) : Int64 := ((fastX n E DG LYG TLG TLT NEG d).1 * 31 + Int32.toInt64 (b2i (payB n E DG C LG))) * 31 + Int32.toInt64 (weakF n E DG C (findF n E DG C LG).1)
def dig1 (n : Nat) (E : V2) (DG LYG LYT P C : V1) (sw tps st : Int32) (km : Nat) : Int64 := it (manyD n E DG LYG LYT P C sw tps st km) 14 58310
def dig2 (n : Nat) (E : V2) (DG LYG LYT P C : V1) (sw tps st : Int32) (km : Nat) : Int64 := it (spotE E DG LYG LYT P) n (dig1 n E DG LYG LYT P C sw tps st km)
def dig3 (n : Nat) (E : V2) (DG LYG LYT P C : V1) (sw tps st : Int32) (km : Nat) (KH : V2) : Int64 := keptD n km KH (nodeD n E C 6 (it (nodeD n E C) n (dig2 n E DG LYG LYT P C sw tps st km)))
def dig4 (n : Nat) (E : V2) (DG LYG LYT P C : V1) (sw tps st : Int32) (km : Nat) (KH : V2) (T : L2) : Int64 := (dig3 n E DG LYG LYT P C sw tps st km KH * 31 + (treeF n E DG T).2) * 31 + Int32.toInt64 (fireF n E LYG)
theorem it_succ {σ : Type} (f : Nat → σ → σ) (k : Nat) (s : σ) : it f (k + 1) s = f k (it f k s) := rfl
theorem spotE_succ {E : V2} {DG LYG LYT P : V1} {i : Nat} {g : Int64} : it (spotE E DG LYG LYT P) (i + 1) g = it (spotD E DG LYG LYT P i) 7 (it (spotE E DG LYG LYT P) i g) := by
  rw [it_succ]
  unfold spotE
  rfl
