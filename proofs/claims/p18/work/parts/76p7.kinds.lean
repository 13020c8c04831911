/-! pulls' numbers: products, beliefs, what is said -/
theorem zf_mulr {a b : Int32} {x y m : Int} (ha : a.toInt = x) (hb : b.toInt = y) (h1 : 0 ≤ x ∧ x ≤ 99) (h2 : 0 ≤ y ∧ y ≤ 12) (hm : m = x * y) : (a * b).toInt = m ∧ 0 ≤ m ∧ m ≤ 1188 := by
  have h3 : 0 ≤ x * y := Int.mul_nonneg h1.1 h2.1
  have h4 : x * y ≤ 99 * 12 := Int.mul_le_mul h1.2 h2.2 h2.1 (by omega)
  subst hm
  exact ⟨zf_mul ha hb (by omega) (by omega), h3, by omega⟩
/-- a belief that may be: so long, of such weights -/
def zBel (c : Nat → Int64) : Prop := ∀ i : Nat, i < 25 → 0 ≤ zTl c (i : Int) ∧ zTl c (i : Int) ≤ 99
def zBelR (he si : Int) (c : Nat → Int64) (r : Int) : Prop := (he = -1 ∧ r = 3) ∨ (he ≠ -1 ∧ he < 100 ∧ r = 2) ∨ (100 ≤ he ∧ si < 25 ∧ r = 5) ∨ (100 ≤ he ∧ 25 ≤ si ∧ ¬ zBel c ∧ r = 6) ∨ (100 ≤ he ∧ 25 ≤ si ∧ zBel c ∧ r = 0)
theorem zBelR_one {he si : Int} {c : Nat → Int64} {r q : Int} (h : zBelR he si c r) (g : zBelR he si c q) : r = q := by
  unfold zBelR at h g
  by_cases e : zBel c
  · simp only [e, not_true, true_and, false_and, and_false, or_false, false_or] at h g
    omega
  · simp only [e, not_false_eq_true, true_and, false_and, and_false, or_false] at h g
    omega
/-- what a pull says, taken for one of a kind -/
def zSy (k a t h w : Int) : Int := if ¬ zIsOf k w then -2 else if w = 0 then t else if w = 2 ∨ w = 5 then zStp k a else if w = 4 then zWy k a h 12 else zWy k a h 8
theorem zSy_no {k a t h w : Int} (h0 : ¬ zIsOf k w) : zSy k a t h w = -2 := by unfold zSy; rw [if_pos h0]
theorem zSy_yes {k a t h w : Int} (h0 : zIsOf k w) : zSy k a t h w = if w = 0 then t else if w = 2 ∨ w = 5 then zStp k a else if w = 4 then zWy k a h 12 else zWy k a h 8 := by unfold zSy; rw [if_neg (fun z => z h0)]
/-- the best pull by a belief: of most, of several the first -/
def zBst (c : Nat → Int64) (K A : Nat → Int32) (h : Int) (n : Nat) (b : Int) : Prop := (n = 0 ∧ b = -1) ∨ (∃ p : Nat, p < n ∧ b = (p : Int) ∧ (∀ j : Nat, j < n → zFd c (K j).toInt (A j).toInt h 24 ≤ zFd c (K p).toInt (A p).toInt h 24) ∧ ∀ j : Nat, j < p → zFd c (K j).toInt (A j).toInt h 24 < zFd c (K p).toInt (A p).toInt h 24)
theorem zBst_one {c : Nat → Int64} {K A : Nat → Int32} {h : Int} {n : Nat} {b q : Int} (x : zBst c K A h n b) (y : zBst c K A h n q) : b = q := by
  rcases x with ⟨x1, x2⟩ | ⟨p, x1, x2, x3, x4⟩ <;> rcases y with ⟨y1, y2⟩ | ⟨u, y1, y2, y3, y4⟩
  · omega
  · omega
  · omega
  · have e : p = u := by
      rcases Nat.lt_trichotomy p u with e | e | e
      · have z1 := y4 p e; have z2 := x3 u y1; omega
      · exact e
      · have z1 := x4 u e; have z2 := y3 p x1; omega
    omega
theorem zBst_S {c : Nat → Int64} {K A : Nat → Int32} {h : Int} {n : Nat} {b : Int} (x : zBst c K A h n b) : ((b = -1 ∨ ∃ p : Nat, b = (p : Int) ∧ p < n ∧ zFd c (K p).toInt (A p).toInt h 24 < zFd c (K n).toInt (A n).toInt h 24) → zBst c K A h (n + 1) (n : Int)) ∧ ((∃ p : Nat, b = (p : Int) ∧ p < n ∧ zFd c (K n).toInt (A n).toInt h 24 ≤ zFd c (K p).toInt (A p).toInt h 24) → zBst c K A h (n + 1) b) := by
  refine ⟨fun z => Or.inr ⟨n, by omega, rfl, fun j hj => ?_, fun j hj => ?_⟩, fun z => ?_⟩
  · rcases x with ⟨x1, x2⟩ | ⟨p, x1, x2, x3, x4⟩
    · obtain rfl : j = n := by omega
      exact Int.le_refl _
    · rcases Nat.lt_or_ge j n with h5 | h5
      · rcases z with z | ⟨u, z1, z2, z3⟩
        · omega
        · obtain rfl : u = p := by omega
          have := x3 j h5
          omega
      · obtain rfl : j = n := by omega
        exact Int.le_refl _
  · rcases x with ⟨x1, x2⟩ | ⟨p, x1, x2, x3, x4⟩
    · omega
    · rcases z with z | ⟨u, z1, z2, z3⟩
      · omega
      · obtain rfl : u = p := by omega
        have := x3 j hj
        omega
  · obtain ⟨u, z1, z2, z3⟩ := z
    rcases x with ⟨x1, x2⟩ | ⟨p, x1, x2, x3, x4⟩
    · omega
    · obtain rfl : u = p := by omega
      refine Or.inr ⟨u, by omega, x2, fun j hj => ?_, x4⟩
      rcases Nat.lt_or_ge j n with h5 | h5
      · exact x3 j h5
      · obtain rfl : j = n := by omega
        exact z3
theorem zBel_congr {c e : Nat → Int64} (h : ∀ i : Nat, i < 25 → c i = e i) : zBel c ↔ zBel e := by
  have h2 : ∀ i : Nat, i < 25 → zTl c (i : Int) = zTl e (i : Int) := fun i hi => by
    unfold zTl; rw [show ((i : Int)).toNat = i from by omega, h i hi]
  constructor
  · intro z i hi; rw [← h2 i hi]; exact z i hi
  · intro z i hi; rw [h2 i hi]; exact z i hi
theorem zTl_congr {c e : Nat → Int64} (h : ∀ i : Nat, i < 25 → c i = e i) {i : Int} (h0 : 0 ≤ i) (h1 : i ≤ 24) : zTl c i = zTl e i := by
  unfold zTl; rw [h i.toNat (by omega)]
theorem zFd_congr {c e : Nat → Int64} (h : ∀ i : Nat, i < 25 → c i = e i) {k a hu : Int} : ∀ d : Nat, d ≤ 24 → zFd c k a hu d = zFd e k a hu d := by
  intro d
  induction d with
  | zero => intro _; show 12 * zTl c 0 = 12 * zTl e 0; rw [zTl_congr h (by omega) (by omega)]
  | succ d ih => intro hd; rw [zFd_s, zFd_s, ih (by omega), zTl_congr h (by omega) (by omega)]
theorem zBh_congr {c e : Nat → Int64} (h : ∀ i : Nat, i < 25 → c i = e i) {k a hu to : Int} : ∀ d : Nat, d ≤ 24 → zBh c k a hu to d = zBh e k a hu to d := by
  intro d
  induction d with
  | zero => intro _; show (if to = 0 then 12 * zTl c 0 else 0) = (if to = 0 then 12 * zTl e 0 else 0); rw [zTl_congr h (by omega) (by omega)]
  | succ d ih => intro hd; rw [zBh_s, zBh_s, ih (by omega), zTl_congr h (by omega) (by omega)]
theorem zTl_b {c : Nat → Int64} {si i r : Int32} (hb : zBel c) (h : 0 ≤ i.toInt → i.toInt < si.toInt → r = (c i.toNatClampNeg).toInt32) (h25 : 25 ≤ si.toInt) (h0 : 0 ≤ i.toInt) (h1 : i.toInt ≤ 24) : r.toInt = zTl c i.toInt ∧ 0 ≤ r.toInt ∧ r.toInt ≤ 99 := by
  have e : r.toInt = zTl c i.toInt := by rw [h h0 (by omega)]; rfl
  have z := hb i.toInt.toNat (by omega)
  rw [show ((i.toInt.toNat : Nat) : Int) = i.toInt from by omega] at z
  omega
/-- a row of the reference's cells -/
def zRw (g : Nat → Int64) (b : Int) : Nat → Int64 := fun j => g (b + (j : Int)).toNat
theorem zRw_tl {g : Nat → Int64} {b : Int} {i : Int} (h : 0 ≤ i) : zTl (zRw g b) i = (g (b + i).toNat).toInt32.toInt := by
  unfold zTl zRw
  rw [show ((i.toNat : Nat) : Int) = i from by omega]
theorem zTl_m {g : Nat → Int64} {b i : Int} {r : Int32} (hb : zBel (zRw g b)) (h : r.toInt = (g (b + i).toNat).toInt32.toInt) (h0 : 0 ≤ i) (h1 : i ≤ 24) : r.toInt = zTl (zRw g b) i ∧ 0 ≤ r.toInt ∧ r.toInt ≤ 99 := by
  have e : r.toInt = zTl (zRw g b) i := by rw [h, zRw_tl h0]
  have z := hb i.toNat (by omega)
  rw [show ((i.toNat : Nat) : Int) = i from by omega] at z
  omega

