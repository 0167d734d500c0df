theorem chio_2 (a00 a01 a02 a10 a11 a12 a20 a21 a22 : Int) : (a11 * a00 - a10 * a01) * ((a22 * a00 - a20 * a02)) - (a12 * a00 - a10 * a02) * ((a21 * a00 - a20 * a01)) = a00 ^ 1 * (a00 * (a11 * (a22) - a12 * (a21)) - a01 * (a10 * (a22) - a12 * (a20)) + a02 * (a10 * (a21) - a11 * (a20))) := by grind
theorem chio_3 (a00 a01 a02 a03 a10 a11 a12 a13 a20 a21 a22 a23 a30 a31 a32 a33 : Int) : (a11 * a00 - a10 * a01) * ((a22 * a00 - a20 * a02) * ((a33 * a00 - a30 * a03)) - (a23 * a00 - a20 * a03) * ((a32 * a00 - a30 * a02))) - (a12 * a00 - a10 * a02) * ((a21 * a00 - a20 * a01) * ((a33 * a00 - a30 * a03)) - (a23 * a00 - a20 * a03) * ((a31 * a00 - a30 * a01))) + (a13 * a00 - a10 * a03) * ((a21 * a00 - a20 * a01) * ((a32 * a00 - a30 * a02)) - (a22 * a00 - a20 * a02) * ((a31 * a00 - a30 * a01))) = a00 ^ 2 * (a00 * (a11 * (a22 * (a33) - a23 * (a32)) - a12 * (a21 * (a33) - a23 * (a31)) + a13 * (a21 * (a32) - a22 * (a31))) - a01 * (a10 * (a22 * (a33) - a23 * (a32)) - a12 * (a20 * (a33) - a23 * (a30)) + a13 * (a20 * (a32) - a22 * (a30))) + a02 * (a10 * (a21 * (a33) - a23 * (a31)) - a11 * (a20 * (a33) - a23 * (a30)) + a13 * (a20 * (a31) - a21 * (a30))) - a03 * (a10 * (a21 * (a32) - a22 * (a31)) - a11 * (a20 * (a32) - a22 * (a30)) + a12 * (a20 * (a31) - a21 * (a30)))) := by grind
set_option maxRecDepth 100000 in
set_option maxHeartbeats 4000000 in
theorem chio_4 (a00 a01 a02 a03 a04 a10 a11 a12 a13 a14 a20 a21 a22 a23 a24 a30 a31 a32 a33 a34 a40 a41 a42 a43 a44 : Int) : (a11 * a00 - a10 * a01) * ((a22 * a00 - a20 * a02) * ((a33 * a00 - a30 * a03) * ((a44 * a00 - a40 * a04)) - (a34 * a00 - a30 * a04) * ((a43 * a00 - a40 * a03))) - (a23 * a00 - a20 * a03) * ((a32 * a00 - a30 * a02) * ((a44 * a00 - a40 * a04)) - (a34 * a00 - a30 * a04) * ((a42 * a00 - a40 * a02))) + (a24 * a00 - a20 * a04) * ((a32 * a00 - a30 * a02) * ((a43 * a00 - a40 * a03)) - (a33 * a00 - a30 * a03) * ((a42 * a00 - a40 * a02)))) - (a12 * a00 - a10 * a02) * ((a21 * a00 - a20 * a01) * ((a33 * a00 - a30 * a03) * ((a44 * a00 - a40 * a04)) - (a34 * a00 - a30 * a04) * ((a43 * a00 - a40 * a03))) - (a23 * a00 - a20 * a03) * ((a31 * a00 - a30 * a01) * ((a44 * a00 - a40 * a04)) - (a34 * a00 - a30 * a04) * ((a41 * a00 - a40 * a01))) + (a24 * a00 - a20 * a04) * ((a31 * a00 - a30 * a01) * ((a43 * a00 - a40 * a03)) - (a33 * a00 - a30 * a03) * ((a41 * a00 - a40 * a01)))) + (a13 * a00 - a10 * a03) * ((a21 * a00 - a20 * a01) * ((a32 * a00 - a30 * a02) * ((a44 * a00 - a40 * a04)) - (a34 * a00 - a30 * a04) * ((a42 * a00 - a40 * a02))) - (a22 * a00 - a20 * a02) * ((a31 * a00 - a30 * a01) * ((a44 * a00 - a40 * a04)) - (a34 * a00 - a30 * a04) * ((a41 * a00 - a40 * a01))) + (a24 * a00 - a20 * a04) * ((a31 * a00 - a30 * a01) * ((a42 * a00 - a40 * a02)) - (a32 * a00 - a30 * a02) * ((a41 * a00 - a40 * a01)))) - (a14 * a00 - a10 * a04) * ((a21 * a00 - a20 * a01) * ((a32 * a00 - a30 * a02) * ((a43 * a00 - a40 * a03)) - (a33 * a00 - a30 * a03) * ((a42 * a00 - a40 * a02))) - (a22 * a00 - a20 * a02) * ((a31 * a00 - a30 * a01) * ((a43 * a00 - a40 * a03)) - (a33 * a00 - a30 * a03) * ((a41 * a00 - a40 * a01))) + (a23 * a00 - a20 * a03) * ((a31 * a00 - a30 * a01) * ((a42 * a00 - a40 * a02)) - (a32 * a00 - a30 * a02) * ((a41 * a00 - a40 * a01)))) = a00 ^ 3 * (a00 * (a11 * (a22 * (a33 * (a44) - a34 * (a43)) - a23 * (a32 * (a44) - a34 * (a42)) + a24 * (a32 * (a43) - a33 * (a42))) - a12 * (a21 * (a33 * (a44) - a34 * (a43)) - a23 * (a31 * (a44) - a34 * (a41)) + a24 * (a31 * (a43) - a33 * (a41))) + a13 * (a21 * (a32 * (a44) - a34 * (a42)) - a22 * (a31 * (a44) - a34 * (a41)) + a24 * (a31 * (a42) - a32 * (a41))) - a14 * (a21 * (a32 * (a43) - a33 * (a42)) - a22 * (a31 * (a43) - a33 * (a41)) + a23 * (a31 * (a42) - a32 * (a41)))) - a01 * (a10 * (a22 * (a33 * (a44) - a34 * (a43)) - a23 * (a32 * (a44) - a34 * (a42)) + a24 * (a32 * (a43) - a33 * (a42))) - a12 * (a20 * (a33 * (a44) - a34 * (a43)) - a23 * (a30 * (a44) - a34 * (a40)) + a24 * (a30 * (a43) - a33 * (a40))) + a13 * (a20 * (a32 * (a44) - a34 * (a42)) - a22 * (a30 * (a44) - a34 * (a40)) + a24 * (a30 * (a42) - a32 * (a40))) - a14 * (a20 * (a32 * (a43) - a33 * (a42)) - a22 * (a30 * (a43) - a33 * (a40)) + a23 * (a30 * (a42) - a32 * (a40)))) + a02 * (a10 * (a21 * (a33 * (a44) - a34 * (a43)) - a23 * (a31 * (a44) - a34 * (a41)) + a24 * (a31 * (a43) - a33 * (a41))) - a11 * (a20 * (a33 * (a44) - a34 * (a43)) - a23 * (a30 * (a44) - a34 * (a40)) + a24 * (a30 * (a43) - a33 * (a40))) + a13 * (a20 * (a31 * (a44) - a34 * (a41)) - a21 * (a30 * (a44) - a34 * (a40)) + a24 * (a30 * (a41) - a31 * (a40))) - a14 * (a20 * (a31 * (a43) - a33 * (a41)) - a21 * (a30 * (a43) - a33 * (a40)) + a23 * (a30 * (a41) - a31 * (a40)))) - a03 * (a10 * (a21 * (a32 * (a44) - a34 * (a42)) - a22 * (a31 * (a44) - a34 * (a41)) + a24 * (a31 * (a42) - a32 * (a41))) - a11 * (a20 * (a32 * (a44) - a34 * (a42)) - a22 * (a30 * (a44) - a34 * (a40)) + a24 * (a30 * (a42) - a32 * (a40))) + a12 * (a20 * (a31 * (a44) - a34 * (a41)) - a21 * (a30 * (a44) - a34 * (a40)) + a24 * (a30 * (a41) - a31 * (a40))) - a14 * (a20 * (a31 * (a42) - a32 * (a41)) - a21 * (a30 * (a42) - a32 * (a40)) + a22 * (a30 * (a41) - a31 * (a40)))) + a04 * (a10 * (a21 * (a32 * (a43) - a33 * (a42)) - a22 * (a31 * (a43) - a33 * (a41)) + a23 * (a31 * (a42) - a32 * (a41))) - a11 * (a20 * (a32 * (a43) - a33 * (a42)) - a22 * (a30 * (a43) - a33 * (a40)) + a23 * (a30 * (a42) - a32 * (a40))) + a12 * (a20 * (a31 * (a43) - a33 * (a41)) - a21 * (a30 * (a43) - a33 * (a40)) + a23 * (a30 * (a41) - a31 * (a40))) - a13 * (a20 * (a31 * (a42) - a32 * (a41)) - a21 * (a30 * (a42) - a32 * (a40)) + a22 * (a30 * (a41) - a31 * (a40))))) := by grind
/-! the elimination without fractions: each division goes up, up to five spots -/
def D2 (M : Z2) (r s c e : Nat) : Int := M r c * M s e - M r e * M s c
def D3 (M : Z2) (r s t c e f : Nat) : Int := M r c * D2 M s t e f - M r e * D2 M s t c f + M r f * D2 M s t c e
def D4 (M : Z2) (r s t u c e f g : Nat) : Int := M r c * D3 M s t u e f g - M r e * D3 M s t u c f g + M r f * D3 M s t u c e g - M r g * D3 M s t u c e f
def D5 (M : Z2) (r s t u x c e f g y : Nat) : Int := M r c * D4 M s t u x e f g y - M r e * D4 M s t u x c f g y + M r f * D4 M s t u x c e g y - M r g * D4 M s t u x c e f y + M r y * D4 M s t u x c e f g
/-- N r c is what is left of M r c behind the row and the column k -/
def Chio (M N : Z2) (k r c : Nat) : Prop := N r c = M r c * M k k - M r k * M k c
theorem chio2 {M N : Z2} {k r s c e : Nat} (h1 : Chio M N k r c) (h2 : Chio M N k s e) (h3 : Chio M N k r e) (h4 : Chio M N k s c) : D2 N r s c e = M k k * D3 M k r s k c e := by
  unfold Chio at h1 h2 h3 h4
  unfold D2 D3 D2
  rw [h1, h2, h3, h4]
  have := chio_2 (M k k) (M k c) (M k e) (M r k) (M r c) (M r e) (M s k) (M s c) (M s e)
  rw [Int.pow_succ, Int.pow_zero, Int.one_mul] at this
  rw [this]
theorem chio3 {M N : Z2} {k r s t c e f : Nat} (h11 : Chio M N k r c) (h12 : Chio M N k r e) (h13 : Chio M N k r f) (h21 : Chio M N k s c) (h22 : Chio M N k s e) (h23 : Chio M N k s f) (h31 : Chio M N k t c) (h32 : Chio M N k t e) (h33 : Chio M N k t f) : D3 N r s t c e f = M k k ^ 2 * D4 M k r s t k c e f := by
  unfold Chio at *
  unfold D4 D3 D2
  rw [h11, h12, h13, h21, h22, h23, h31, h32, h33]
  exact chio_3 (M k k) (M k c) (M k e) (M k f) (M r k) (M r c) (M r e) (M r f) (M s k) (M s c) (M s e) (M s f) (M t k) (M t c) (M t e) (M t f)
theorem chio4 {M N : Z2} {k r s t u c e f g : Nat} (h11 : Chio M N k r c) (h12 : Chio M N k r e) (h13 : Chio M N k r f) (h14 : Chio M N k r g) (h21 : Chio M N k s c) (h22 : Chio M N k s e) (h23 : Chio M N k s f) (h24 : Chio M N k s g) (h31 : Chio M N k t c) (h32 : Chio M N k t e) (h33 : Chio M N k t f) (h34 : Chio M N k t g) (h41 : Chio M N k u c) (h42 : Chio M N k u e) (h43 : Chio M N k u f) (h44 : Chio M N k u g) : D4 N r s t u c e f g = M k k ^ 3 * D5 M k r s t u k c e f g := by
  unfold Chio at *
  unfold D5 D4 D3 D2
  rw [h11, h12, h13, h14, h21, h22, h23, h24, h31, h32, h33, h34, h41, h42, h43, h44]
  exact chio_4 (M k k) (M k c) (M k e) (M k f) (M k g) (M r k) (M r c) (M r e) (M r f) (M r g) (M s k) (M s c) (M s e) (M s f) (M s g) (M t k) (M t c) (M t e) (M t f) (M t g) (M u k) (M u c) (M u e) (M u f) (M u g)
def mulM (q : Int) (M : Z2) : Z2 := fun r c => q * M r c
theorem D2_mul (q : Int) (M : Z2) (r s c e : Nat) : D2 (mulM q M) r s c e = q ^ 2 * D2 M r s c e := by
  unfold D2 mulM
  grind
theorem D3_mul (q : Int) (M : Z2) (r s t c e f : Nat) : D3 (mulM q M) r s t c e f = q ^ 3 * D3 M r s t c e f := by
  unfold D3 D2 mulM
  grind
/-- one step: behind k, above a pivot q before -/
def StepM (n k : Nat) (q : Int) (M N : Z2) : Prop := ∀ r c, k < r → r < n → k < c → c < n → q * N r c = M r c * M k k - M r k * M k c
section EXACT
variable {n : Nat} {A L1 L2 L3 : Z2}
theorem exact1 (h0 : StepM n 0 1 A L1) {r c : Nat} (hr : 1 < r) (hrn : r < n) (hc : 1 < c) (hcn : c < n) : L1 r c * L1 1 1 - L1 r 1 * L1 1 c = A 0 0 * D3 A 0 1 r 0 1 c := by
  have H : ∀ i j, 0 < i → i < n → 0 < j → j < n → Chio A L1 0 i j := fun i j a b c d => by
    have := h0 i j a b c d
    unfold Chio
    omega
  have := chio2 (H 1 1 (by omega) (by omega) (by omega) (by omega)) (H r c (by omega) (by omega) (by omega) (by omega)) (H 1 c (by omega) (by omega) (by omega) (by omega)) (H r 1 (by omega) (by omega) (by omega) (by omega))
  rw [← this]
  unfold D2
  rw [Int.mul_comm (L1 1 1), Int.mul_comm (L1 1 c)]
theorem exact2 (h0 : StepM n 0 1 A L1) (h1 : StepM n 1 (A 0 0) L1 L2) (p0 : A 0 0 ≠ 0) {r c : Nat} (hr : 2 < r) (hrn : r < n) (hc : 2 < c) (hcn : c < n) : L2 r c * L2 2 2 - L2 r 2 * L2 2 c = L1 1 1 * D4 A 0 1 2 r 0 1 2 c := by
  have H : ∀ i j, 0 < i → i < n → 0 < j → j < n → Chio A L1 0 i j := fun i j a b c d => by
    have := h0 i j a b c d
    unfold Chio
    omega
  have H1 : ∀ i j, 1 < i → i < n → 1 < j → j < n → Chio L1 (mulM (A 0 0) L2) 1 i j := fun i j a b c d => h1 i j a b c d
  have e1 := chio2 (H1 2 2 (by omega) (by omega) (by omega) (by omega)) (H1 r c (by omega) (by omega) (by omega) (by omega)) (H1 2 c (by omega) (by omega) (by omega) (by omega)) (H1 r 2 (by omega) (by omega) (by omega) (by omega))
  have e2 := chio3 (H 1 1 (by omega) (by omega) (by omega) (by omega)) (H 1 2 (by omega) (by omega) (by omega) (by omega)) (H 1 c (by omega) (by omega) (by omega) (by omega)) (H 2 1 (by omega) (by omega) (by omega) (by omega)) (H 2 2 (by omega) (by omega) (by omega) (by omega)) (H 2 c (by omega) (by omega) (by omega) (by omega)) (H r 1 (by omega) (by omega) (by omega) (by omega)) (H r 2 (by omega) (by omega) (by omega) (by omega)) (H r c (by omega) (by omega) (by omega) (by omega))
  rw [D2_mul, e2] at e1
  have hq : A 0 0 ^ 2 ≠ 0 := Int.pow_ne_zero p0
  have e3 : A 0 0 ^ 2 * D2 L2 2 r 2 c = A 0 0 ^ 2 * (L1 1 1 * D4 A 0 1 2 r 0 1 2 c) := by rw [e1]; grind
  have e4 := Int.eq_of_mul_eq_mul_left hq e3
  rw [← e4]
  unfold D2
  rw [Int.mul_comm (L2 2 2), Int.mul_comm (L2 2 c)]
theorem exact3 (h0 : StepM n 0 1 A L1) (h1 : StepM n 1 (A 0 0) L1 L2) (h2 : StepM n 2 (L1 1 1) L2 L3) (p0 : A 0 0 ≠ 0) (p1 : L1 1 1 ≠ 0) {r c : Nat} (hr : 3 < r) (hrn : r < n) (hc : 3 < c) (hcn : c < n) : L3 r c * L3 3 3 - L3 r 3 * L3 3 c = L2 2 2 * D5 A 0 1 2 3 r 0 1 2 3 c := by
  have H : ∀ i j, 0 < i → i < n → 0 < j → j < n → Chio A L1 0 i j := fun i j a b c d => by
    have := h0 i j a b c d
    unfold Chio
    omega
  have H1 : ∀ i j, 1 < i → i < n → 1 < j → j < n → Chio L1 (mulM (A 0 0) L2) 1 i j := fun i j a b c d => h1 i j a b c d
  have H2 : ∀ i j, 2 < i → i < n → 2 < j → j < n → Chio L2 (mulM (L1 1 1) L3) 2 i j := fun i j a b c d => h2 i j a b c d
  have e1 := chio2 (H2 3 3 (by omega) (by omega) (by omega) (by omega)) (H2 r c (by omega) (by omega) (by omega) (by omega)) (H2 3 c (by omega) (by omega) (by omega) (by omega)) (H2 r 3 (by omega) (by omega) (by omega) (by omega))
  have e2 := chio3 (H1 2 2 (by omega) (by omega) (by omega) (by omega)) (H1 2 3 (by omega) (by omega) (by omega) (by omega)) (H1 2 c (by omega) (by omega) (by omega) (by omega)) (H1 3 2 (by omega) (by omega) (by omega) (by omega)) (H1 3 3 (by omega) (by omega) (by omega) (by omega)) (H1 3 c (by omega) (by omega) (by omega) (by omega)) (H1 r 2 (by omega) (by omega) (by omega) (by omega)) (H1 r 3 (by omega) (by omega) (by omega) (by omega)) (H1 r c (by omega) (by omega) (by omega) (by omega))
  have e3 := chio4 (H 1 1 (by omega) (by omega) (by omega) (by omega)) (H 1 2 (by omega) (by omega) (by omega) (by omega)) (H 1 3 (by omega) (by omega) (by omega) (by omega)) (H 1 c (by omega) (by omega) (by omega) (by omega)) (H 2 1 (by omega) (by omega) (by omega) (by omega)) (H 2 2 (by omega) (by omega) (by omega) (by omega)) (H 2 3 (by omega) (by omega) (by omega) (by omega)) (H 2 c (by omega) (by omega) (by omega) (by omega)) (H 3 1 (by omega) (by omega) (by omega) (by omega)) (H 3 2 (by omega) (by omega) (by omega) (by omega)) (H 3 3 (by omega) (by omega) (by omega) (by omega)) (H 3 c (by omega) (by omega) (by omega) (by omega)) (H r 1 (by omega) (by omega) (by omega) (by omega)) (H r 2 (by omega) (by omega) (by omega) (by omega)) (H r 3 (by omega) (by omega) (by omega) (by omega)) (H r c (by omega) (by omega) (by omega) (by omega))
  rw [D3_mul, e3] at e2
  rw [D2_mul] at e1
  have hq0 : A 0 0 ^ 3 ≠ 0 := Int.pow_ne_zero p0
  have hq1 : L1 1 1 ^ 2 ≠ 0 := Int.pow_ne_zero p1
  have e4 : A 0 0 ^ 3 * D3 L2 2 3 r 2 3 c = A 0 0 ^ 3 * (L1 1 1 ^ 2 * D5 A 0 1 2 3 r 0 1 2 3 c) := by rw [e2]; grind
  have e5 := Int.eq_of_mul_eq_mul_left hq0 e4
  have e6 : L1 1 1 ^ 2 * D2 L3 3 r 3 c = L1 1 1 ^ 2 * (L2 2 2 * D5 A 0 1 2 3 r 0 1 2 3 c) := by rw [e1, e5]; grind
  have e7 := Int.eq_of_mul_eq_mul_left hq1 e6
  rw [← e7]
  unfold D2
  rw [Int.mul_comm (L3 3 3), Int.mul_comm (L3 3 c)]
end EXACT
/-- what stays true of the table from pivot to pivot: from row and column k on, above the pivot q before -/
def Piv (n k : Nat) (L : Z2) (q : Int) : Prop :=
  1 ≤ q ∧ (∀ r c, k ≤ r → r < n → k ≤ c → c < n → r ≠ c → L r c ≤ 0) ∧ (∀ r, k ≤ r → r < n → 0 ≤ sg (fun c => if k ≤ c then L r c else 0) n) ∧
  (∀ S : Nat → Prop, (∃ i, k ≤ i ∧ i < n ∧ S i) → ∃ i, k ≤ i ∧ i < n ∧ S i ∧ (0 < sg (fun c => if k ≤ c then L i c else 0) n ∨ ∃ j, k ≤ j ∧ j < n ∧ ¬ S j ∧ L i j < 0)) ∧
  (∀ r, k ≤ r → r < n → L r r ≤ 18 * q) ∧ ∀ r c, k ≤ r → r < n → k ≤ c → c < n → L r c = L c r
theorem rest_split (L : Z2) (n k r : Nat) (hk : k < n) : sg (fun c => if k ≤ c then L r c else 0) n = L r k + sg (fun c => if k + 1 ≤ c then L r c else 0) n := by
  have e : sg (fun c => if k ≤ c then L r c else 0) n = sg (fun c => (if c = k then L r c else 0) + (if k + 1 ≤ c then L r c else 0)) n := sg_congr (fun c _ => by
    by_cases h1 : c = k
    · subst h1; rw [if_pos (Nat.le_refl _), if_pos rfl, if_neg (by omega)]; omega
    · by_cases h2 : k ≤ c
      · rw [if_pos h2, if_neg h1, if_pos (by omega)]; omega
      · rw [if_neg h2, if_neg h1, if_neg (by omega)]; omega)
  rw [e, sg_add, sg_one (f := fun c => if c = k then L r c else 0) hk (fun c _ hne => if_neg hne)]
  simp
