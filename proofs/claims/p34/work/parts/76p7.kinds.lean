section
/-! pulls' numbers: products, beliefs, what is said -/
theorem zf_mulr {a b : Int32} {x y m : Int} (ha : a.toInt = x) (hb : b.toInt = y) (h1 : 0 ≤ x ∧ x ≤ 99) (h2 : 0 ≤ y ∧ y ≤ 12) (hm : m = x * y) : (a * b).toInt = m ∧ 0 ≤ m ∧ m ≤ 1188 := by
  have h3 : 0 ≤ x * y := Int.mul_nonneg h1.1 h2.1
  have h4 : x * y ≤ 99 * 12 := Int.mul_le_mul h1.2 h2.2 h2.1 (by omega)
  subst hm
  exact ⟨zf_mul ha hb (by omega) (by omega), h3, by omega⟩
/-- a belief that may be: so long, of such weights -/
def zBel (c : Nat → Int64) : Prop := ∀ i : Nat, i < 25 → 0 ≤ zTl c (i : Int) ∧ zTl c (i : Int) ≤ 99
def zBelR (he si : Int) (c : Nat → Int64) (r : Int) : Prop := (he = -1 ∧ r = 3) ∨ (he ≠ -1 ∧ he < 100 ∧ r = 2) ∨ (100 ≤ he ∧ si < 25 ∧ r = 5) ∨ (100 ≤ he ∧ 25 ≤ si ∧ ¬ zBel c ∧ r = 6) ∨ (100 ≤ he ∧ 25 ≤ si ∧ zBel c ∧ r = 0)
theorem zBelR_one {he si : Int} {c : Nat → Int64} {r q : Int} (h : zBelR he si c r) (g : zBelR he si c q) : r = q := by
  unfold zBelR at h g
  by_cases e : zBel c
  · simp only [e, not_true, true_and, false_and, and_false, or_false, false_or] at h g
    omega
  · simp only [e, not_false_eq_true, true_and, false_and, and_false, or_false] at h g
    omega
/-- what a pull says, taken for one of a kind -/
def zSy (k a t h w : Int) : Int := if ¬ zIsOf k w then -2 else if w = 0 then t else if w = 2 ∨ w = 5 then zStp k a else if w = 4 then zWy k a h 12 else zWy k a h 8
theorem zSy_no {k a t h w : Int} (h0 : ¬ zIsOf k w) : zSy k a t h w = -2 := by unfold zSy; rw [if_pos h0]
theorem zSy_yes {k a t h w : Int} (h0 : zIsOf k w) : zSy k a t h w = if w = 0 then t else if w = 2 ∨ w = 5 then zStp k a else if w = 4 then zWy k a h 12 else zWy k a h 8 := by unfold zSy; rw [if_neg (fun z => z h0)]
/-- the best pull by a belief: of most, of several the first -/
def zBst (c : Nat → Int64) (K A : Nat → Int32) (h : Int) (n : Nat) (b : Int) : Prop := (n = 0 ∧ b = -1) ∨ (∃ p : Nat, p < n ∧ b = (p : Int) ∧ (∀ j : Nat, j < n → zFd c (K j).toInt (A j).toInt h 24 ≤ zFd c (K p).toInt (A p).toInt h 24) ∧ ∀ j : Nat, j < p → zFd c (K j).toInt (A j).toInt h 24 < zFd c (K p).toInt (A p).toInt h 24)
theorem zBst_one {c : Nat → Int64} {K A : Nat → Int32} {h : Int} {n : Nat} {b q : Int} (x : zBst c K A h n b) (y : zBst c K A h n q) : b = q := by
  rcases x with ⟨x1, x2⟩ | ⟨p, x1, x2, x3, x4⟩ <;> rcases y with ⟨y1, y2⟩ | ⟨u, y1, y2, y3, y4⟩
  · omega
  · omega
  · omega
  · have e : p = u := by
      rcases Nat.lt_trichotomy p u with e | e | e
      · have z1 := y4 p e; have z2 := x3 u y1; omega
      · exact e
      · have z1 := x4 u e; have z2 := y3 p x1; omega
    omega
theorem zBst_S {c : Nat → Int64} {K A : Nat → Int32} {h : Int} {n : Nat} {b : Int} (x : zBst c K A h n b) : ((b = -1 ∨ ∃ p : Nat, b = (p : Int) ∧ p < n ∧ zFd c (K p).toInt (A p).toInt h 24 < zFd c (K n).toInt (A n).toInt h 24) → zBst c K A h (n + 1) (n : Int)) ∧ ((∃ p : Nat, b = (p : Int) ∧ p < n ∧ zFd c (K n).toInt (A n).toInt h 24 ≤ zFd c (K p).toInt (A p).toInt h 24) → zBst c K A h (n + 1) b) := by
  refine ⟨fun z => Or.inr ⟨n, by omega, rfl, fun j hj => ?_, fun j hj => ?_⟩, fun z => ?_⟩
  · rcases x with ⟨x1, x2⟩ | ⟨p, x1, x2, x3, x4⟩
    · obtain rfl : j = n := by omega
      exact Int.le_refl _
    · rcases Nat.lt_or_ge j n with h5 | h5
      · rcases z with z | ⟨u, z1, z2, z3⟩
        · omega
        · obtain rfl : u = p := by omega
          have := x3 j h5
          omega
      · obtain rfl : j = n := by omega
        exact Int.le_refl _
  · rcases x with ⟨x1, x2⟩ | ⟨p, x1, x2, x3, x4⟩
    · omega
    · rcases z with z | ⟨u, z1, z2, z3⟩
      · omega
      · obtain rfl : u = p := by omega
        have := x3 j hj
        omega
  · obtain ⟨u, z1, z2, z3⟩ := z
    rcases x with ⟨x1, x2⟩ | ⟨p, x1, x2, x3, x4⟩
    · omega
    · obtain rfl : u = p := by omega
      refine Or.inr ⟨u, by omega, x2, fun j hj => ?_, x4⟩
      rcases Nat.lt_or_ge j n with h5 | h5
      · exact x3 j h5
      · obtain rfl : j = n := by omega
        exact z3
theorem zBel_congr {c e : Nat → Int64} (h : ∀ i : Nat, i < 25 → c i = e i) : zBel c ↔ zBel e := by
  have h2 : ∀ i : Nat, i < 25 → zTl c (i : Int) = zTl e (i : Int) := fun i hi => by
    unfold zTl; rw [show ((i : Int)).toNat = i from by omega, h i hi]
  constructor
  · intro z i hi; rw [← h2 i hi]; exact z i hi
  · intro z i hi; rw [h2 i hi]; exact z i hi
theorem zTl_congr {c e : Nat → Int64} (h : ∀ i : Nat, i < 25 → c i = e i) {i : Int} (h0 : 0 ≤ i) (h1 : i ≤ 24) : zTl c i = zTl e i := by
  unfold zTl; rw [h i.toNat (by omega)]
theorem zFd_congr {c e : Nat → Int64} (h : ∀ i : Nat, i < 25 → c i = e i) {k a hu : Int} : ∀ d : Nat, d ≤ 24 → zFd c k a hu d = zFd e k a hu d := by
  intro d
  induction d with
  | zero => intro _; show 12 * zTl c 0 = 12 * zTl e 0; rw [zTl_congr h (by omega) (by omega)]
  | succ d ih => intro hd; rw [zFd_s, zFd_s, ih (by omega), zTl_congr h (by omega) (by omega)]
theorem zBh_congr {c e : Nat → Int64} (h : ∀ i : Nat, i < 25 → c i = e i) {k a hu to : Int} : ∀ d : Nat, d ≤ 24 → zBh c k a hu to d = zBh e k a hu to d := by
  intro d
  induction d with
  | zero => intro _; show (if to = 0 then 12 * zTl c 0 else 0) = (if to = 0 then 12 * zTl e 0 else 0); rw [zTl_congr h (by omega) (by omega)]
  | succ d ih => intro hd; rw [zBh_s, zBh_s, ih (by omega), zTl_congr h (by omega) (by omega)]
theorem zTl_b {c : Nat → Int64} {si i r : Int32} (hb : zBel c) (h : 0 ≤ i.toInt → i.toInt < si.toInt → r = (c i.toNatClampNeg).toInt32) (h25 : 25 ≤ si.toInt) (h0 : 0 ≤ i.toInt) (h1 : i.toInt ≤ 24) : r.toInt = zTl c i.toInt ∧ 0 ≤ r.toInt ∧ r.toInt ≤ 99 := by
  have e : r.toInt = zTl c i.toInt := by rw [h h0 (by omega)]; rfl
  have z := hb i.toInt.toNat (by omega)
  rw [show ((i.toInt.toNat : Nat) : Int) = i.toInt from by omega] at z
  omega
/-- a row of the reference's cells -/
def zRw (g : Nat → Int64) (b : Int) : Nat → Int64 := fun j => g (b + (j : Int)).toNat
theorem zRw_tl {g : Nat → Int64} {b : Int} {i : Int} (h : 0 ≤ i) : zTl (zRw g b) i = (g (b + i).toNat).toInt32.toInt := by
  unfold zTl zRw
  rw [show ((i.toNat : Nat) : Int) = i from by omega]
theorem zTl_m {g : Nat → Int64} {b i : Int} {r : Int32} (hb : zBel (zRw g b)) (h : r.toInt = (g (b + i).toNat).toInt32.toInt) (h0 : 0 ≤ i) (h1 : i ≤ 24) : r.toInt = zTl (zRw g b) i ∧ 0 ≤ r.toInt ∧ r.toInt ≤ 99 := by
  have e : r.toInt = zTl (zRw g b) i := by rw [h, zRw_tl h0]
  have z := hb i.toNat (by omega)
  rw [show ((i.toNat : Nat) : Int) = i from by omega] at z
  omega
end
section
/-! the cases ahead and the line: what both worlds reckon -/
def zPw : Nat → Int
  | 0 => 1
  | n + 1 => 12 * zPw n
theorem zPw_pos : ∀ n : Nat, 1 ≤ zPw n := by
  intro n
  induction n with
  | zero => decide
  | succ n ih => show 1 ≤ 12 * zPw n; omega
/-- a pull that may be -/
def zOk (K T : Nat → Int32) (tw d s : Int) (p : Nat) : Prop := 1 ≤ d ∧ (T p).toInt ≤ s ∧ (tw ≠ 0 ∨ (K p).toInt ≠ 5)
def zBy1 (f : Int → Int → Int) (k a t h d s : Int) : Int := zWy k a h d * f (zShl k a d) (s - t) + (12 - zWy k a h d) * f (zDpr k a h d) (s - t)
def zBy (f : Int → Int → Int) (K A T : Nat → Int32) (h d s : Int) (p : Nat) : Int := zBy1 f (K p).toInt (A p).toInt (T p).toInt h d s
def zFo (K T : Nat → Int32) (tw d s b : Int) (v : Nat → Int) : Nat → Int
  | 0 => b
  | p + 1 => if 1 ≤ d ∧ (T p).toInt ≤ s ∧ (tw ≠ 0 ∨ (K p).toInt ≠ 5) then max (zFo K T tw d s b v p) (v p) else zFo K T tw d s b v p
theorem zFo_y {K T : Nat → Int32} {tw d s b : Int} {v : Nat → Int} {p : Nat} (h : zOk K T tw d s p) : zFo K T tw d s b v (p + 1) = max (zFo K T tw d s b v p) (v p) := if_pos h
theorem zFo_n {K T : Nat → Int32} {tw d s b : Int} {v : Nat → Int} {p : Nat} (h : ¬ zOk K T tw d s p) : zFo K T tw d s b v (p + 1) = zFo K T tw d s b v p := if_neg h
def zM (K A T : Nat → Int32) (N : Nat) (h tw : Int) : Nat → Int → Int → Int
  | 0 => fun d _ => if d = 0 then 1 else 0
  | n + 1 => fun d s => if d = 0 then zPw (n + 1) else zFo K T tw d s 0 (zBy (zM K A T N h tw n) K A T h d s) N
theorem zM_0 {K A T : Nat → Int32} {N : Nat} {h tw d s : Int} : zM K A T N h tw 0 d s = if d = 0 then 1 else 0 := rfl
theorem zM_s {K A T : Nat → Int32} {N n : Nat} {h tw d s : Int} : zM K A T N h tw (n + 1) d s = if d = 0 then zPw (n + 1) else zFo K T tw d s 0 (zBy (zM K A T N h tw n) K A T h d s) N := rfl
theorem zMix {w x y P : Int} (hw : 0 ≤ w ∧ w ≤ 12) (hx : 0 ≤ x ∧ x ≤ P) (hy : 0 ≤ y ∧ y ≤ P) : 0 ≤ w * x + (12 - w) * y ∧ w * x + (12 - w) * y ≤ 12 * P := by
  have a1 : 0 ≤ w * x := Int.mul_nonneg hw.1 hx.1
  have a2 : 0 ≤ (12 - w) * y := Int.mul_nonneg (by omega) hy.1
  have a3 : w * x ≤ w * P := Int.mul_le_mul_of_nonneg_left hx.2 hw.1
  have a4 : (12 - w) * y ≤ (12 - w) * P := Int.mul_le_mul_of_nonneg_left hy.2 (by omega)
  have a5 : w * P + (12 - w) * P = 12 * P := by
    rw [← Int.add_mul, show w + (12 - w) = 12 from by omega]
  omega
theorem zMixM {w x y x2 y2 : Int} (hw : 0 ≤ w ∧ w ≤ 12) (hx : x ≤ x2) (hy : y ≤ y2) : w * x + (12 - w) * y ≤ w * x2 + (12 - w) * y2 := by
  have a3 : w * x ≤ w * x2 := Int.mul_le_mul_of_nonneg_left hx hw.1
  have a4 : (12 - w) * y ≤ (12 - w) * y2 := Int.mul_le_mul_of_nonneg_left hy (by omega)
  omega
theorem zFo_ge {K T : Nat → Int32} {tw d s b : Int} {v : Nat → Int} : ∀ N : Nat, b ≤ zFo K T tw d s b v N := by
  intro N
  induction N with
  | zero => exact Int.le_refl _
  | succ N ih =>
    by_cases c : zOk K T tw d s N
    · rw [zFo_y c]; omega
    · rw [zFo_n c]; exact ih
theorem zFo_le {K T : Nat → Int32} {tw d s b P : Int} {v : Nat → Int} (hb : b ≤ P) : ∀ N : Nat, (∀ p : Nat, p < N → zOk K T tw d s p → v p ≤ P) → zFo K T tw d s b v N ≤ P := by
  intro N
  induction N with
  | zero => intro _; exact hb
  | succ N ih =>
    intro hv
    have h1 := ih (fun p hp => hv p (by omega))
    by_cases c : zOk K T tw d s N
    · rw [zFo_y c]
      have := hv N (by omega) c
      omega
    · rw [zFo_n c]; exact h1
theorem zFo_base {K T : Nat → Int32} {tw d s b : Int} {v : Nat → Int} (hb : 0 ≤ b) : ∀ N : Nat, zFo K T tw d s b v N = max b (zFo K T tw d s 0 v N) := by
  intro N
  induction N with
  | zero => show b = max b 0; omega
  | succ N ih =>
    by_cases c : zOk K T tw d s N
    · rw [zFo_y c, zFo_y c, ih]; omega
    · rw [zFo_n c, zFo_n c, ih]
theorem zFo_congr {K T K2 T2 : Nat → Int32} {tw d s s2 b : Int} {v u : Nat → Int} : ∀ N : Nat, (∀ p : Nat, p < N → (zOk K T tw d s p ↔ zOk K2 T2 tw d s2 p) ∧ (zOk K T tw d s p → v p = u p)) → zFo K T tw d s b v N = zFo K2 T2 tw d s2 b u N := by
  intro N
  induction N with
  | zero => intro _; rfl
  | succ N ih =>
    intro h
    have h1 := ih (fun p hp => h p (by omega))
    obtain ⟨h2, h3⟩ := h N (by omega)
    by_cases c : zOk K T tw d s N
    · rw [zFo_y c, zFo_y (h2.mp c), h1, h3 c]
    · rw [zFo_n c, zFo_n (fun z => c (h2.mpr z)), h1]
theorem zFo_up {K T : Nat → Int32} {tw d s : Int} {v u : Nat → Int} : ∀ N : Nat, (∀ p : Nat, p < N → 12 * v p ≤ u p) → 12 * zFo K T tw d s 0 v N ≤ zFo K T tw d s 0 u N := by
  intro N
  induction N with
  | zero => intro _; show 12 * (0 : Int) ≤ 0; omega
  | succ N ih =>
    intro h
    have h1 := ih (fun p hp => h p (by omega))
    have h2 := h N (by omega)
    by_cases c : zOk K T tw d s N
    · rw [zFo_y c, zFo_y c]; omega
    · rw [zFo_n c, zFo_n c]; exact h1
theorem zM_rg {K A T : Nat → Int32} {N : Nat} {h tw : Int} : ∀ (n : Nat) (d s : Int), 0 ≤ zM K A T N h tw n d s ∧ zM K A T N h tw n d s ≤ zPw n := by
  intro n
  induction n with
  | zero =>
    intro d s
    rw [zM_0]
    have : zPw 0 = 1 := rfl
    split <;> omega
  | succ n ih =>
    intro d s
    rw [zM_s]
    have h1 := zPw_pos (n + 1)
    split
    · omega
    · exact ⟨zFo_ge N, zFo_le (by omega) N (fun p _ _ => (zMix zWy_rg (ih _ _) (ih _ _)).2)⟩
theorem zM_up {K A T : Nat → Int32} {N : Nat} {h tw : Int} : ∀ (n : Nat) (d s : Int), 12 * zM K A T N h tw n d s ≤ zM K A T N h tw (n + 1) d s := by
  intro n
  induction n with
  | zero =>
    intro d s
    rw [zM_0, zM_s]
    by_cases c : d = 0
    · rw [if_pos c, if_pos c]; show (12 : Int) * 1 ≤ 12 * 1; omega
    · rw [if_neg c, if_neg c]
      exact Int.le_trans (by omega) (zFo_ge N)
  | succ n ih =>
    intro d s
    rw [zM_s, zM_s (n := n + 1)]
    by_cases c : d = 0
    · rw [if_pos c, if_pos c]; exact Int.le_refl _
    · rw [if_neg c, if_neg c]
      refine zFo_up N (fun p _ => ?_)
      unfold zBy zBy1
      rw [Int.mul_add, Int.mul_left_comm 12, Int.mul_left_comm 12]
      exact zMixM zWy_rg (ih _ _) (ih _ _)
/-- not pulling is no better -/
theorem zM_ref {K A T : Nat → Int32} {N n : Nat} {h tw d s : Int} (hd : d ≠ 0) : zFo K T tw d s (12 * zM K A T N h tw n d s) (zBy (zM K A T N h tw n) K A T h d s) N = zM K A T N h tw (n + 1) d s := by
  have h1 := zM_rg (K := K) (A := A) (T := T) (N := N) (h := h) (tw := tw) n d s
  have h2 := zM_up (K := K) (A := A) (T := T) (N := N) (h := h) (tw := tw) n d s
  have h3 := zM_s (K := K) (A := A) (T := T) (N := N) (n := n) (h := h) (tw := tw) (d := d) (s := s)
  rw [if_neg hd] at h3
  rw [zFo_base (by omega), ← h3]
  omega
/-- seconds enough for all pulls: then they don't matter -/
theorem zM_en {K A T : Nat → Int32} {N : Nat} {h tw g : Int} (hg0 : 0 ≤ g) (hg : ∀ p : Nat, p < N → (tw ≠ 0 ∨ (K p).toInt ≠ 5) → (T p).toInt ≤ g) : ∀ (n : Nat) (d s s2 : Int), (n : Int) * g ≤ s → (n : Int) * g ≤ s2 → zM K A T N h tw n d s = zM K A T N h tw n d s2 := by
  intro n
  induction n with
  | zero => intro d s s2 _ _; rfl
  | succ n ih =>
    intro d s s2 h1 h2
    have e : ((n + 1 : Nat) : Int) * g = (n : Int) * g + g := by
      rw [show ((n + 1 : Nat) : Int) = (n : Int) + 1 from by omega, Int.add_mul, Int.one_mul]
    have e2 : 0 ≤ (n : Int) * g := Int.mul_nonneg (by omega) hg0
    rw [zM_s, zM_s]
    split
    · rfl
    · refine zFo_congr N (fun p hp => ⟨?_, fun ho => ?_⟩)
      · have := hg p hp
        unfold zOk
        constructor
        · rintro ⟨z1, z2, z3⟩; have := this z3; exact ⟨z1, by omega, z3⟩
        · rintro ⟨z1, z2, z3⟩; have := this z3; exact ⟨z1, by omega, z3⟩
      · have := hg p hp ho.2.2
        unfold zBy zBy1
        rw [ih _ (s - (T p).toInt) (s2 - (T p).toInt) (by omega) (by omega), ih (zDpr (K p).toInt (A p).toInt h d) (s - (T p).toInt) (s2 - (T p).toInt) (by omega) (by omega)]
/-- what is kept of the cases -/
def zKm (K A T : Nat → Int32) (N : Nat) (h tw g : Int) (f : Nat → Int32) : Prop := ∀ m : Nat, 1 ≤ m → m ≤ 4 → ∀ d : Nat, 1 ≤ d → d ≤ 24 → (f (25 * m + d)).toInt = -1 ∨ ∀ s : Int, (m : Int) * g ≤ s → (f (25 * m + d)).toInt = zM K A T N h tw m (d : Int) s
theorem zKm_0 {K A T : Nat → Int32} {N : Nat} {h tw g : Int} {f : Nat → Int32} (hf : ∀ j : Nat, j < 125 → (f j).toInt = -1) : zKm K A T N h tw g f := fun m h1 h2 d h3 h4 => Or.inl (hf _ (by omega))
theorem zKm_u {K A T : Nat → Int32} {N : Nat} {h tw g : Int} {f : Nat → Int32} {m : Nat} {i v d s : Int32} (hk : zKm K A T N h tw g f) (hg0 : 0 ≤ g) (hg : ∀ p : Nat, p < N → (tw ≠ 0 ∨ (K p).toInt ≠ 5) → (T p).toInt ≤ g) (hi : i.toInt = 25 * (m : Int) + d.toInt) (hd : 1 ≤ d.toInt ∧ d.toInt ≤ 24) (hs : (m : Int) * g ≤ s.toInt) (hv : v.toInt = zM K A T N h tw m d.toInt s.toInt) : zKm K A T N h tw g (upd f i.toNatClampNeg v) := by
  intro m2 h1 h2 d2 h3 h4
  have e1 : i.toNatClampNeg = i.toInt.toNat := rfl
  simp only [upd]
  by_cases c : 25 * m2 + d2 = i.toNatClampNeg
  · rw [if_pos c]
    obtain rfl : m2 = m := by omega
    refine Or.inr (fun s2 hs2 => ?_)
    rw [hv, show (d2 : Int) = d.toInt from by omega]
    exact zM_en hg0 hg m2 _ _ _ hs hs2
  · rw [if_neg c]
    exact hk m2 h1 h2 d2 h3 h4
theorem zKm_at {K A T : Nat → Int32} {N : Nat} {h tw g : Int} {f : Nat → Int32} {m : Nat} {i d s : Int32} (hk : zKm K A T N h tw g f) (hm : 1 ≤ m ∧ m ≤ 4) (hi : i.toInt = 25 * (m : Int) + d.toInt) (hd : 1 ≤ d.toInt ∧ d.toInt ≤ 24) (hs : (m : Int) * g ≤ s.toInt) (hn : (f i.toNatClampNeg).toInt ≠ -1) : (f i.toNatClampNeg).toInt = zM K A T N h tw m d.toInt s.toInt := by
  have e1 : i.toNatClampNeg = i.toInt.toNat := rfl
  have e2 : i.toNatClampNeg = 25 * m + d.toInt.toNat := by omega
  rw [e2] at hn ⊢
  rcases hk m hm.1 hm.2 d.toInt.toNat (by omega) (by omega) with h1 | h1
  · exact absurd h1 hn
  · rw [h1 s.toInt hs, show ((d.toInt.toNat : Nat) : Int) = d.toInt from by omega]
/-- the pull to begin with: of most, of several the first -/
def zNg (K T : Nat → Int32) (tw d s : Int) (v : Nat → Int) : Nat → Int
  | 0 => -1
  | p + 1 => if (1 ≤ d ∧ (T p).toInt ≤ s ∧ (tw ≠ 0 ∨ (K p).toInt ≠ 5)) ∧ (zNg K T tw d s v p = -1 ∨ v (zNg K T tw d s v p).toNat < v p) then (p : Int) else zNg K T tw d s v p
theorem zNg_y {K T : Nat → Int32} {tw d s : Int} {v : Nat → Int} {p : Nat} (h : zOk K T tw d s p) (h2 : zNg K T tw d s v p = -1 ∨ v (zNg K T tw d s v p).toNat < v p) : zNg K T tw d s v (p + 1) = (p : Int) := if_pos ⟨h, h2⟩
theorem zNg_n {K T : Nat → Int32} {tw d s : Int} {v : Nat → Int} {p : Nat} (h : ¬ (zOk K T tw d s p ∧ (zNg K T tw d s v p = -1 ∨ v (zNg K T tw d s v p).toNat < v p))) : zNg K T tw d s v (p + 1) = zNg K T tw d s v p := if_neg h
theorem zNg_rg {K T : Nat → Int32} {tw d s : Int} {v : Nat → Int} : ∀ N : Nat, zNg K T tw d s v N = -1 ∨ ∃ p : Nat, p < N ∧ zNg K T tw d s v N = (p : Int) ∧ zOk K T tw d s p := by
  intro N
  induction N with
  | zero => exact Or.inl rfl
  | succ N ih =>
    by_cases c : zOk K T tw d s N ∧ (zNg K T tw d s v N = -1 ∨ v (zNg K T tw d s v N).toNat < v N)
    · exact Or.inr ⟨N, by omega, zNg_y c.1 c.2, c.1⟩
    · rw [zNg_n c]
      rcases ih with h | ⟨p, h1, h2, h3⟩
      · exact Or.inl h
      · exact Or.inr ⟨p, by omega, h2, h3⟩
theorem zNg_congr {K T K2 T2 : Nat → Int32} {tw d s : Int} {v u : Nat → Int} : ∀ N : Nat, (∀ p : Nat, p < N → (zOk K T tw d s p ↔ zOk K2 T2 tw d s p) ∧ v p = u p) → zNg K T tw d s v N = zNg K2 T2 tw d s u N := by
  intro N
  induction N with
  | zero => intro _; rfl
  | succ N ih =>
    intro h
    have h1 := ih (fun p hp => h p (by omega))
    obtain ⟨h2, h3⟩ := h N (by omega)
    have h4 : zNg K T tw d s v N = -1 ∨ v (zNg K T tw d s v N).toNat = u (zNg K T tw d s v N).toNat := by
      rcases zNg_rg (K := K) (T := T) (tw := tw) (d := d) (s := s) (v := v) N with z | ⟨p, z1, z2, -⟩
      · exact Or.inl z
      · rw [z2]; exact Or.inr (h p (by omega)).2
    by_cases c : zOk K T tw d s N ∧ (zNg K T tw d s v N = -1 ∨ v (zNg K T tw d s v N).toNat < v N)
    · rw [zNg_y c.1 c.2, zNg_y (h2.mp c.1) (by rw [← h1]; omega)]
    · rw [zNg_n c, zNg_n (fun z => c ⟨h2.mpr z.1, by have z2 := z.2; rw [← h1] at z2; omega⟩), h1]
theorem zM_congr {K A T K2 A2 T2 : Nat → Int32} {N : Nat} {h tw : Int} (hk : ∀ p : Nat, p < N → K p = K2 p ∧ A p = A2 p ∧ T p = T2 p) : ∀ (n : Nat) (d s : Int), zM K A T N h tw n d s = zM K2 A2 T2 N h tw n d s := by
  intro n
  induction n with
  | zero => intro d s; rfl
  | succ n ih =>
    intro d s
    rw [zM_s, zM_s]
    split
    · rfl
    · refine zFo_congr N (fun p hp => ?_)
      obtain ⟨h1, h2, h3⟩ := hk p hp
      unfold zOk zBy zBy1
      rw [h1, h2, h3]
      exact ⟨Iff.rfl, fun _ => by rw [ih, ih]⟩
theorem zBy_congr {K A T K2 A2 T2 : Nat → Int32} {N p : Nat} {h tw d s : Int} {n : Nat} (hk : ∀ p : Nat, p < N → K p = K2 p ∧ A p = A2 p ∧ T p = T2 p) (hp : p < N) : zBy (zM K A T N h tw n) K A T h d s p = zBy (zM K2 A2 T2 N h tw n) K2 A2 T2 h d s p := by
  obtain ⟨h1, h2, h3⟩ := hk p hp
  unfold zBy zBy1
  rw [h1, h2, h3, zM_congr hk, zM_congr hk]
theorem zf_mulc {a b : Int32} {x y P : Int} (ha : a.toInt = x) (hb : b.toInt = y) (h1 : 0 ≤ x ∧ x ≤ 12) (h2 : 0 ≤ y ∧ y ≤ P) (hP : 12 * P ≤ 2147483647) : (a * b).toInt = x * y ∧ 0 ≤ x * y ∧ x * y ≤ 12 * P := by
  have h3 : 0 ≤ x * y := Int.mul_nonneg h1.1 h2.1
  have h4 : x * y ≤ 12 * P := Int.mul_le_mul h1.2 h2.2 h2.1 (by omega)
  exact ⟨zf_mul ha hb (by omega) (by omega), h3, h4⟩
/-- the pulls looked at: those left, told -/
def zJW (po : zPool) (f : Nat → Option Nat) (n : Int32) (K A T : Nat → Int32) (tw : Int32) : Prop := ∀ j : Nat, (j : Int) < n.toInt → (f j = none ∧ ¬ (tw.toInt ≠ 0 ∨ (K j).toInt ≠ 5)) ∨ ∃ u : Nat, f j = some u ∧ zPu po u (K j) (A j) (T j) ∧ (tw.toInt ≠ 0 ∨ (K j).toInt ≠ 5)
theorem zJW_S {po : zPool} {f : Nat → Option Nat} {i i2 tw : Int32} {K A T : Nat → Int32} {v : Option Nat} (h : zJW po f i K A T tw) (h0 : 0 ≤ i.toInt) (hi : i2.toInt = i.toInt + 1) (hv : (v = none ∧ ¬ (tw.toInt ≠ 0 ∨ (K i.toNatClampNeg).toInt ≠ 5)) ∨ ∃ u : Nat, v = some u ∧ zPu po u (K i.toNatClampNeg) (A i.toNatClampNeg) (T i.toNatClampNeg) ∧ (tw.toInt ≠ 0 ∨ (K i.toNatClampNeg).toInt ≠ 5)) : zJW po (va_up f i.toNatClampNeg v) i2 K A T tw := by
  intro j hj
  have e1 : i.toNatClampNeg = i.toInt.toNat := rfl
  simp only [va_up]
  by_cases c : j = i.toNatClampNeg
  · subst c
    rw [if_pos rfl]
    exact hv
  · rw [if_neg c]
    exact h j (by omega)
end
section
/-! the line -/
def zAt (c1 c2 s : Int) : Int := if 30 ≤ s then min c1 c2 else c2
theorem zAt_rg {c1 c2 s : Int} (h1 : 0 ≤ c1 ∧ c1 ≤ 99) (h2 : 0 ≤ c2 ∧ c2 ≤ 99) : 0 ≤ zAt c1 c2 s ∧ zAt c1 c2 s ≤ 99 := by
  unfold zAt
  split <;> omega
def zFi (T : Nat → Int32) (d s b : Int) (v : Nat → Int) : Nat → Int
  | 0 => b
  | p + 1 => if 1 ≤ d ∧ (T p).toInt ≤ s then min (zFi T d s b v p) (v p) else zFi T d s b v p
theorem zFi_y {T : Nat → Int32} {d s b : Int} {v : Nat → Int} {p : Nat} (h : 1 ≤ d ∧ (T p).toInt ≤ s) : zFi T d s b v (p + 1) = min (zFi T d s b v p) (v p) := if_pos h
theorem zFi_n {T : Nat → Int32} {d s b : Int} {v : Nat → Int} {p : Nat} (h : ¬ (1 ≤ d ∧ (T p).toInt ≤ s)) : zFi T d s b v (p + 1) = zFi T d s b v p := if_neg h
def zLb (f : Int → Int → Int) (c0 P k a t h d s : Int) : Int := (if k = 5 then P * c0 else 0) + zBy1 f k a t h d s
def zLv (f : Int → Int → Int) (K A T : Nat → Int32) (c0 P h d s : Int) (p : Nat) : Int := zLb f c0 P (K p).toInt (A p).toInt (T p).toInt h d s
def zLn (K A T : Nat → Int32) (N : Nat) (h c0 c1 c2 : Int) : Nat → Int → Int → Int
  | 0 => fun d s => if d = 0 then 0 else zPw 0 * zAt c1 c2 s
  | n + 1 => fun d s => if d = 0 then 0 else zFi T d s (zPw (n + 1) * zAt c1 c2 s) (zLv (zLn K A T N h c0 c1 c2 n) K A T c0 (zPw (n + 1)) h d s) N
theorem zLn_0 {K A T : Nat → Int32} {N : Nat} {h c0 c1 c2 d s : Int} : zLn K A T N h c0 c1 c2 0 d s = if d = 0 then 0 else zPw 0 * zAt c1 c2 s := rfl
theorem zLn_s {K A T : Nat → Int32} {N n : Nat} {h c0 c1 c2 d s : Int} : zLn K A T N h c0 c1 c2 (n + 1) d s = if d = 0 then 0 else zFi T d s (zPw (n + 1) * zAt c1 c2 s) (zLv (zLn K A T N h c0 c1 c2 n) K A T c0 (zPw (n + 1)) h d s) N := rfl
theorem zFi_le {T : Nat → Int32} {d s b : Int} {v : Nat → Int} : ∀ N : Nat, zFi T d s b v N ≤ b := by
  intro N
  induction N with
  | zero => exact Int.le_refl _
  | succ N ih =>
    by_cases c : 1 ≤ d ∧ (T N).toInt ≤ s
    · rw [zFi_y c]; omega
    · rw [zFi_n c]; exact ih
theorem zFi_ge {T : Nat → Int32} {d s b P : Int} {v : Nat → Int} (hb : P ≤ b) : ∀ N : Nat, (∀ p : Nat, p < N → P ≤ v p) → P ≤ zFi T d s b v N := by
  intro N
  induction N with
  | zero => intro _; exact hb
  | succ N ih =>
    intro hv
    have h1 := ih (fun p hp => hv p (by omega))
    have h2 := hv N (by omega)
    by_cases c : 1 ≤ d ∧ (T N).toInt ≤ s
    · rw [zFi_y c]; omega
    · rw [zFi_n c]; exact h1
theorem zFi_congr {T T2 : Nat → Int32} {d s s2 b : Int} {v u : Nat → Int} : ∀ N : Nat, (∀ p : Nat, p < N → ((1 ≤ d ∧ (T p).toInt ≤ s) ↔ (1 ≤ d ∧ (T2 p).toInt ≤ s2)) ∧ ((1 ≤ d ∧ (T p).toInt ≤ s) → v p = u p)) → zFi T d s b v N = zFi T2 d s2 b u N := by
  intro N
  induction N with
  | zero => intro _; rfl
  | succ N ih =>
    intro h
    have h1 := ih (fun p hp => h p (by omega))
    obtain ⟨h2, h3⟩ := h N (by omega)
    by_cases c : 1 ≤ d ∧ (T N).toInt ≤ s
    · rw [zFi_y c, zFi_y (h2.mp c), h1, h3 c]
    · rw [zFi_n c, zFi_n (fun z => c (h2.mpr z)), h1]
theorem zPw_at {n : Nat} {c1 c2 s : Int} (h1 : 0 ≤ c1 ∧ c1 ≤ 99) (h2 : 0 ≤ c2 ∧ c2 ≤ 99) : 0 ≤ zPw n * zAt c1 c2 s ∧ zPw n * zAt c1 c2 s ≤ 99 * zPw n := by
  have a := zAt_rg (s := s) h1 h2
  have p := zPw_pos n
  refine ⟨Int.mul_nonneg (by omega) a.1, ?_⟩
  have := Int.mul_le_mul_of_nonneg_left a.2 (show 0 ≤ zPw n by omega)
  omega
theorem zLn_rg {K A T : Nat → Int32} {N : Nat} {h c0 c1 c2 : Int} (h0 : 0 ≤ c0 ∧ c0 ≤ 99) (h1 : 0 ≤ c1 ∧ c1 ≤ 99) (h2 : 0 ≤ c2 ∧ c2 ≤ 99) : ∀ (n : Nat) (d s : Int), 0 ≤ zLn K A T N h c0 c1 c2 n d s ∧ zLn K A T N h c0 c1 c2 n d s ≤ 99 * zPw n := by
  intro n
  induction n with
  | zero =>
    intro d s
    rw [zLn_0]
    have a := zPw_at (n := 0) (s := s) h1 h2
    have p := zPw_pos 0
    split <;> omega
  | succ n ih =>
    intro d s
    rw [zLn_s]
    have a := zPw_at (n := n + 1) (s := s) h1 h2
    have p := zPw_pos (n + 1)
    split
    · omega
    · have b := zFi_le (T := T) (d := d) (s := s) (b := zPw (n + 1) * zAt c1 c2 s) (v := zLv (zLn K A T N h c0 c1 c2 n) K A T c0 (zPw (n + 1)) h d s) N
      refine ⟨zFi_ge a.1 N (fun p _ => ?_), by omega⟩
      unfold zLv zLb zBy1
      have m := (zMix (w := zWy (K p).toInt (A p).toInt h d) zWy_rg (ih (zShl (K p).toInt (A p).toInt d) (s - (T p).toInt)) (ih (zDpr (K p).toInt (A p).toInt h d) (s - (T p).toInt))).1
      have q : 0 ≤ zPw (n + 1) * c0 := Int.mul_nonneg (by omega) h0.1
      split <;> omega
theorem zLn_en {K A T : Nat → Int32} {N : Nat} {h c0 c1 c2 g : Int} (hg0 : 0 ≤ g) (hg : ∀ p : Nat, p < N → (T p).toInt ≤ g) : ∀ (n : Nat) (d s s2 : Int), (n : Int) * g + 30 ≤ s → (n : Int) * g + 30 ≤ s2 → zLn K A T N h c0 c1 c2 n d s = zLn K A T N h c0 c1 c2 n d s2 := by
  intro n
  induction n with
  | zero =>
    intro d s s2 h1 h2
    rw [zLn_0, zLn_0]
    have e2 : 0 ≤ ((0 : Nat) : Int) * g := by omega
    unfold zAt
    rw [if_pos (show (30 : Int) ≤ s by omega), if_pos (show (30 : Int) ≤ s2 by omega)]
  | succ n ih =>
    intro d s s2 h1 h2
    have e : ((n + 1 : Nat) : Int) * g = (n : Int) * g + g := by
      rw [show ((n + 1 : Nat) : Int) = (n : Int) + 1 from by omega, Int.add_mul, Int.one_mul]
    have e2 : 0 ≤ (n : Int) * g := Int.mul_nonneg (by omega) hg0
    rw [zLn_s, zLn_s]
    split
    · rfl
    · rw [show zAt c1 c2 s = zAt c1 c2 s2 from by unfold zAt; rw [if_pos (show (30 : Int) ≤ s by omega), if_pos (show (30 : Int) ≤ s2 by omega)]]
      refine zFi_congr N (fun p hp => ?_)
      have := hg p hp
      refine ⟨⟨fun z => ⟨z.1, by omega⟩, fun z => ⟨z.1, by omega⟩⟩, fun _ => ?_⟩
      unfold zLv zLb zBy1
      rw [ih (zShl (K p).toInt (A p).toInt d) (s - (T p).toInt) (s2 - (T p).toInt) (by omega) (by omega), ih (zDpr (K p).toInt (A p).toInt h d) (s - (T p).toInt) (s2 - (T p).toInt) (by omega) (by omega)]
def zKn (K A T : Nat → Int32) (N : Nat) (h c0 c1 c2 g : Int) (f : Nat → Int32) : Prop := ∀ m : Nat, m ≤ 4 → ∀ d : Nat, 1 ≤ d → d ≤ 24 → (f (25 * m + d)).toInt = -1 ∨ ∀ s : Int, (m : Int) * g + 30 ≤ s → (f (25 * m + d)).toInt = zLn K A T N h c0 c1 c2 m (d : Int) s
theorem zKn_0 {K A T : Nat → Int32} {N : Nat} {h c0 c1 c2 g : Int} {f : Nat → Int32} (hf : ∀ j : Nat, j < 125 → (f j).toInt = -1) : zKn K A T N h c0 c1 c2 g f := fun m h1 d h3 h4 => Or.inl (hf _ (by omega))
theorem zKn_u {K A T : Nat → Int32} {N : Nat} {h c0 c1 c2 g : Int} {f : Nat → Int32} {m : Nat} {i v d s : Int32} (hk : zKn K A T N h c0 c1 c2 g f) (hg0 : 0 ≤ g) (hg : ∀ p : Nat, p < N → (T p).toInt ≤ g) (hi : i.toInt = 25 * (m : Int) + d.toInt) (hd : 1 ≤ d.toInt ∧ d.toInt ≤ 24) (hs : (m : Int) * g + 30 ≤ s.toInt) (hv : v.toInt = zLn K A T N h c0 c1 c2 m d.toInt s.toInt) : zKn K A T N h c0 c1 c2 g (upd f i.toNatClampNeg v) := by
  intro m2 h1 d2 h3 h4
  have e1 : i.toNatClampNeg = i.toInt.toNat := rfl
  simp only [upd]
  by_cases c : 25 * m2 + d2 = i.toNatClampNeg
  · rw [if_pos c]
    obtain rfl : m2 = m := by omega
    refine Or.inr (fun s2 hs2 => ?_)
    rw [hv, show (d2 : Int) = d.toInt from by omega]
    exact zLn_en hg0 hg m2 _ _ _ hs hs2
  · rw [if_neg c]
    exact hk m2 h1 d2 h3 h4
theorem zKn_at {K A T : Nat → Int32} {N : Nat} {h c0 c1 c2 g : Int} {f : Nat → Int32} {m : Nat} {i d s : Int32} (hk : zKn K A T N h c0 c1 c2 g f) (hm : m ≤ 4) (hi : i.toInt = 25 * (m : Int) + d.toInt) (hd : 1 ≤ d.toInt ∧ d.toInt ≤ 24) (hs : (m : Int) * g + 30 ≤ s.toInt) (hn : (f i.toNatClampNeg).toInt ≠ -1) : (f i.toNatClampNeg).toInt = zLn K A T N h c0 c1 c2 m d.toInt s.toInt := by
  have e1 : i.toNatClampNeg = i.toInt.toNat := rfl
  have e2 : i.toNatClampNeg = 25 * m + d.toInt.toNat := by omega
  rw [e2] at hn ⊢
  rcases hk m hm d.toInt.toNat (by omega) (by omega) with h1 | h1
  · exact absurd h1 hn
  · rw [h1 s.toInt hs, show ((d.toInt.toNat : Nat) : Int) = d.toInt from by omega]
/-- what the line begins with: the first that does as well -/
def zFf (T : Nat → Int32) (d s L : Int) (v : Nat → Int) : Nat → Int
  | 0 => -1
  | p + 1 => if zFf T d s L v p = -1 ∧ (1 ≤ d ∧ (T p).toInt ≤ s) ∧ v p = L then (p : Int) else zFf T d s L v p
theorem zFf_s {T : Nat → Int32} {d s L : Int} {v : Nat → Int} {p : Nat} : zFf T d s L v (p + 1) = if zFf T d s L v p = -1 ∧ (1 ≤ d ∧ (T p).toInt ≤ s) ∧ v p = L then (p : Int) else zFf T d s L v p := rfl
theorem zFf_stay {T : Nat → Int32} {d s L : Int} {v : Nat → Int} {p : Nat} (h : zFf T d s L v p ≠ -1) : ∀ N : Nat, p ≤ N → zFf T d s L v N = zFf T d s L v p := by
  intro N
  induction N with
  | zero => intro hp; rw [show p = 0 from by omega]
  | succ N ih =>
    intro hp
    rcases Nat.lt_or_ge N p with h1 | h1
    · rw [show p = N + 1 from by omega]
    · rw [zFf_s, ih h1, if_neg (fun z => h z.1)]
theorem zFf_at {T : Nat → Int32} {d s L : Int} {v : Nat → Int} {p N : Nat} (h : zFf T d s L v p = -1) (ho : 1 ≤ d ∧ (T p).toInt ≤ s) (hv : v p = L) (hp : p < N) : zFf T d s L v N = (p : Int) := by
  have e : zFf T d s L v (p + 1) = (p : Int) := by rw [zFf_s, if_pos ⟨h, ho, hv⟩]
  rw [zFf_stay (p := p + 1) (by rw [e]; omega) N (by omega), e]
theorem zFf_nx {T : Nat → Int32} {d s L : Int} {v : Nat → Int} {p : Nat} (h : zFf T d s L v p = -1) (ho : ¬ ((1 ≤ d ∧ (T p).toInt ≤ s) ∧ v p = L)) : zFf T d s L v (p + 1) = -1 := by rw [zFf_s, if_neg (fun z => ho z.2), h]
/-- where none does as well, the line is at once -/
theorem zFf_no {T : Nat → Int32} {d s b L : Int} {v : Nat → Int} : ∀ N : Nat, (L = zFi T d s b v N ∨ L < zFi T d s b v N) → zFf T d s L v N = -1 → L = zFi T d s b v N → L = b := by
  intro N
  induction N with
  | zero => intro _ _ h; exact h
  | succ N ih =>
    intro _ h2 h3
    rw [zFf_s] at h2
    by_cases c : zFf T d s L v N = -1 ∧ (1 ≤ d ∧ (T N).toInt ≤ s) ∧ v N = L
    · rw [if_pos c] at h2; omega
    · rw [if_neg c] at h2
      by_cases c2 : 1 ≤ d ∧ (T N).toInt ≤ s
      · rw [zFi_y c2] at h3
        have c3 : v N ≠ L := fun z => c ⟨h2, c2, z⟩
        have e : L = zFi T d s b v N := by omega
        exact ih (Or.inl e) h2 e
      · rw [zFi_n c2] at h3
        exact ih (Or.inl h3) h2 h3
/-- head or miss, told either way -/
theorem zHead {P c1 c2 s : Int} (hp : 1 ≤ P) : (30 ≤ s ∧ P * c1 = P * zAt c1 c2 s) ↔ (30 ≤ s ∧ c1 ≤ c2) := by
  constructor
  · rintro ⟨h1, h2⟩
    have e := Int.eq_of_mul_eq_mul_left (show P ≠ 0 by omega) h2
    unfold zAt at e
    rw [if_pos h1] at e
    exact ⟨h1, by omega⟩
  · rintro ⟨h1, h2⟩
    refine ⟨h1, ?_⟩
    unfold zAt
    rw [if_pos h1, show min c1 c2 = c1 from by omega]
theorem zLn_congr {K A T K2 A2 T2 : Nat → Int32} {N : Nat} {h c0 c1 c2 : Int} (hk : ∀ p : Nat, p < N → K p = K2 p ∧ A p = A2 p ∧ T p = T2 p) : ∀ (n : Nat) (d s : Int), zLn K A T N h c0 c1 c2 n d s = zLn K2 A2 T2 N h c0 c1 c2 n d s := by
  intro n
  induction n with
  | zero => intro d s; rfl
  | succ n ih =>
    intro d s
    rw [zLn_s, zLn_s]
    split
    · rfl
    · refine zFi_congr N (fun p hp => ?_)
      obtain ⟨h1, h2, h3⟩ := hk p hp
      unfold zLv zLb zBy1
      rw [h1, h2, h3]
      exact ⟨Iff.rfl, fun _ => by rw [ih, ih]⟩
theorem zFf_congr {T T2 : Nat → Int32} {d s L : Int} {v u : Nat → Int} : ∀ N : Nat, (∀ p : Nat, p < N → T p = T2 p ∧ v p = u p) → zFf T d s L v N = zFf T2 d s L u N := by
  intro N
  induction N with
  | zero => intro _; rfl
  | succ N ih =>
    intro h
    obtain ⟨h1, h2⟩ := h N (by omega)
    rw [zFf_s, zFf_s, ih (fun p hp => h p (by omega)), h1, h2]
/-! the hurry of most cases; a told row of pulls -/
def zHs (v : Nat → Int) : Nat → Nat
  | 0 => 0
  | h + 1 => if v (zHs v h) < v (h + 1) then h + 1 else zHs v h
theorem zHs_s {v : Nat → Int} {h : Nat} : zHs v (h + 1) = if v (zHs v h) < v (h + 1) then h + 1 else zHs v h := rfl
def zJg (K A T : Nat → Int32) (N h : Int) (c : Nat → Int64) : Nat → Int → Int → Int → Int
  | 0, _, _, _ => -1
  | k + 1, i, d, s => if (0 ≤ zTl c i ∧ zTl c i < N) ∧ 1 ≤ d ∧ (T (zTl c i).toNat).toInt ≤ s then zJg K A T N h c k (i + 1) (if 6 ≤ zWy (K (zTl c i).toNat).toInt (A (zTl c i).toNat).toInt h d then zShl (K (zTl c i).toNat).toInt (A (zTl c i).toNat).toInt d else zDpr (K (zTl c i).toNat).toInt (A (zTl c i).toNat).toInt h d) (s - (T (zTl c i).toNat).toInt) else i
theorem zJg_s {K A T : Nat → Int32} {N h : Int} {c : Nat → Int64} {k : Nat} {i d s : Int} : zJg K A T N h c (k + 1) i d s = if (0 ≤ zTl c i ∧ zTl c i < N) ∧ 1 ≤ d ∧ (T (zTl c i).toNat).toInt ≤ s then zJg K A T N h c k (i + 1) (if 6 ≤ zWy (K (zTl c i).toNat).toInt (A (zTl c i).toNat).toInt h d then zShl (K (zTl c i).toNat).toInt (A (zTl c i).toNat).toInt d else zDpr (K (zTl c i).toNat).toInt (A (zTl c i).toNat).toInt h d) (s - (T (zTl c i).toNat).toInt) else i := rfl
theorem zJg_congr {K A T K2 A2 T2 : Nat → Int32} {N h : Int} {c e : Nat → Int64} (hN : N ≤ 8) (hk : ∀ p : Nat, p < 8 → K p = K2 p ∧ A p = A2 p ∧ T p = T2 p) : ∀ (k : Nat) (i d s : Int), (∀ j : Int, i ≤ j → j < i + (k : Int) → zTl c j = zTl e j) → zJg K A T N h c k i d s = zJg K2 A2 T2 N h e k i d s := by
  intro k
  induction k with
  | zero => intro i d s _; rfl
  | succ k ih =>
    intro i d s hc
    rw [zJg_s, zJg_s, hc i (by omega) (by omega)]
    by_cases c9 : 0 ≤ zTl e i ∧ zTl e i < N
    · obtain ⟨h1, h2, h3⟩ := hk (zTl e i).toNat (by omega)
      rw [h1, h2, h3, ih _ _ _ (fun j a b => hc j (by omega) (by omega))]
    · rw [if_neg (fun z => c9 z.1), if_neg (fun z => c9 z.1)]
end
section
/-! the runner, the pulls in truth, the days -/
theorem zSd_ex : ∃ f : Int32 → Int32, ∀ s : Int32, f s = s * 1103515245 + 12345 := ⟨fun s => s * 1103515245 + 12345, fun _ => rfl⟩
/-- the seed's step; by choice, so that nothing looks into the product when it compares two -/
noncomputable def zSd (s : Int32) : Int32 := Classical.choose zSd_ex s
theorem zSd_eq (s : Int32) : zSd s = s * 1103515245 + 12345 := Classical.choose_spec zSd_ex s
theorem zDr_ex : ∃ f : Int32 → Int → Int, ∀ (s : Int32) (n : Int), f s n = ((zSd s).toUInt32 >>> ((16 : Int32).toUInt32 &&& Int32.toUInt32 31)).toInt32.toInt - ((zSd s).toUInt32 >>> ((16 : Int32).toUInt32 &&& Int32.toUInt32 31)).toInt32.toInt / n * n := ⟨fun s n => ((zSd s).toUInt32 >>> ((16 : Int32).toUInt32 &&& Int32.toUInt32 31)).toInt32.toInt - ((zSd s).toUInt32 >>> ((16 : Int32).toUInt32 &&& Int32.toUInt32 31)).toInt32.toInt / n * n, fun _ _ => rfl⟩
noncomputable def zDr (s : Int32) (n : Int) : Int := Classical.choose zDr_ex s n
theorem zDr_eq (s : Int32) (n : Int) : zDr s n = ((zSd s).toUInt32 >>> ((16 : Int32).toUInt32 &&& Int32.toUInt32 31)).toInt32.toInt - ((zSd s).toUInt32 >>> ((16 : Int32).toUInt32 &&& Int32.toUInt32 31)).toInt32.toInt / n * n := Classical.choose_spec zDr_ex s n
/-- where the runner comes to by itself -/
def zRu (l s : Nat → Int32) (g n : Int) : Nat → Int → Int
  | 0, t => t
  | k + 1, t => if n ≤ t ∨ zCa l s g t ∨ zOp l n t then t else zRu l s g n k (t + 1)
theorem zRu_s {l s : Nat → Int32} {g n t : Int} {k : Nat} : zRu l s g n (k + 1) t = if n ≤ t ∨ zCa l s g t ∨ zOp l n t then t else zRu l s g n k (t + 1) := rfl
theorem zOp_congr {l m : Nat → Int32} {n t : Int} (hn : n ≤ 40) (h : ∀ j : Nat, j < 40 → l j = m j) : zOp l n t ↔ zOp m n t := by
  unfold zOp
  rw [zLkA_congr hn h, zLkA_congr hn h, zLkA_congr hn h]
theorem zCa_congr2 {l s m u : Nat → Int32} {g t n : Int} (h : ∀ j : Nat, j < 40 → l j = m j) (h2 : ∀ j : Nat, j < 40 → s j = u j) (hn : n ≤ 40) (h0 : 0 ≤ t) (h1 : t < n) : zCa l s g t ↔ zCa m u g t := by
  unfold zCa
  rw [h t.toNat (by omega), h2 t.toNat (by omega)]
theorem zRu_congr {l s m u : Nat → Int32} {g n : Int} (h : ∀ j : Nat, j < 40 → l j = m j) (h2 : ∀ j : Nat, j < 40 → s j = u j) (hn : n ≤ 40) : ∀ (k : Nat) (t : Int), 0 ≤ t → zRu l s g n k t = zRu m u g n k t := by
  intro k
  induction k with
  | zero => intro t _; rfl
  | succ k ih =>
    intro t h0
    rw [zRu_s, zRu_s, ih (t + 1) (by omega)]
    by_cases c : n ≤ t
    · rw [if_pos (Or.inl c), if_pos (Or.inl c)]
    · have a := zCa_congr2 (g := g) h h2 hn h0 (show t < n by omega)
      have b := zOp_congr (t := t) hn h
      by_cases d : n ≤ t ∨ zCa l s g t ∨ zOp l n t
      · rw [if_pos d, if_pos (by rw [← a, ← b]; exact d)]
      · rw [if_neg d, if_neg (by rw [← a, ← b]; exact d)]
/-- a closing in truth: where, the depth, the seed -/
noncomputable def zCz (l s : Nat → Int32) (g n : Int) : Nat → Int → Int → Int32 → Int × Int × Int32
  | 0, t, de, sd => (t, de, sd)
  | k + 1, t, de, sd => if n ≤ t ∨ zOp l n t then (t, de, sd) else if zCa l s g t then (if zDr sd 10 < (s t.toNat).toInt - g + 1 then (t, 1 + zDr (zSd sd) 6, zSd (zSd sd)) else zCz l s g n k (t + 1) de (zSd sd)) else zCz l s g n k (t + 1) de sd
theorem zCz_s {l s : Nat → Int32} {g n t de : Int} {sd : Int32} {k : Nat} : zCz l s g n (k + 1) t de sd = if n ≤ t ∨ zOp l n t then (t, de, sd) else if zCa l s g t then (if zDr sd 10 < (s t.toNat).toInt - g + 1 then (t, 1 + zDr (zSd sd) 6, zSd (zSd sd)) else zCz l s g n k (t + 1) de (zSd sd)) else zCz l s g n k (t + 1) de sd := rfl
theorem zOp_Ca {l s : Nat → Int32} {g n t : Int} (h : zOp l n t) : ¬ zCa l s g t := fun c => by
  have a := h.1.2.2
  have b := c.1
  omega
theorem zDr_rg {s : Int32} {n : Int} (hn : 1 ≤ n) : 0 ≤ zDr s n ∧ zDr s n < n := by
  rw [zDr_eq]
  have h := zf_ushr (x := zSd s)
  have p := Int.emod_nonneg ((zSd s).toUInt32 >>> ((16 : Int32).toUInt32 &&& Int32.toUInt32 31)).toInt32.toInt (show n ≠ 0 by omega)
  have q := Int.emod_lt_of_pos ((zSd s).toUInt32 >>> ((16 : Int32).toUInt32 &&& Int32.toUInt32 31)).toInt32.toInt (show 0 < n by omega)
  rw [Int.emod_def, Int.mul_comm] at p q
  exact ⟨p, q⟩
theorem zCz_rg {l s : Nat → Int32} {g n : Int} : ∀ (k : Nat) (t de : Int) (sd : Int32), 0 ≤ t → t + (k : Int) ≤ n → (0 ≤ de ∧ de ≤ 24) → (0 ≤ (zCz l s g n k t de sd).1 ∧ (zCz l s g n k t de sd).1 ≤ n) ∧ 0 ≤ (zCz l s g n k t de sd).2.1 ∧ (zCz l s g n k t de sd).2.1 ≤ 24 := by
  intro k
  induction k with
  | zero => intro t de sd h0 h1 h2; exact ⟨⟨h0, by show t ≤ n; omega⟩, h2⟩
  | succ k ih =>
    intro t de sd h0 h1 h2
    rw [zCz_s]
    split
    · exact ⟨⟨h0, by show t ≤ n; omega⟩, h2⟩
    · split
      · split
        · have r := zDr_rg (s := zSd sd) (n := 6) (by omega)
          exact ⟨⟨h0, by show t ≤ n; omega⟩, by show 0 ≤ 1 + zDr (zSd sd) 6; omega, by show 1 + zDr (zSd sd) 6 ≤ 24; omega⟩
        · exact ih _ _ _ (by omega) (by omega) h2
      · exact ih _ _ _ (by omega) (by omega) h2
theorem zCz_congr {l s m u : Nat → Int32} {g n : Int} (h : ∀ j : Nat, j < 40 → l j = m j) (h2 : ∀ j : Nat, j < 40 → s j = u j) (hn : n ≤ 40) : ∀ (k : Nat) (t de : Int) (sd : Int32), 0 ≤ t → zCz l s g n k t de sd = zCz m u g n k t de sd := by
  intro k
  induction k with
  | zero => intro t de sd _; rfl
  | succ k ih =>
    intro t de sd h0
    rw [zCz_s, zCz_s, ih (t + 1) de sd (by omega), ih (t + 1) de (zSd sd) (by omega)]
    by_cases c : n ≤ t
    · rw [if_pos (Or.inl c), if_pos (Or.inl c)]
    · have a := zCa_congr2 (g := g) h h2 hn h0 (show t < n by omega)
      have b := zOp_congr (t := t) hn h
      by_cases d : n ≤ t ∨ zOp l n t
      · rw [if_pos d, if_pos (by rw [← b]; exact d)]
      · rw [if_neg d, if_neg (show ¬ (n ≤ t ∨ zOp m n t) by rw [← b]; exact d)]
        by_cases e : zCa l s g t
        · rw [if_pos e, if_pos (a.mp e), h2 t.toNat (by omega)]
        · rw [if_neg e, if_neg (fun z => e (a.mpr z))]
/-- a pull in truth: depth, seconds, torn, seed -/
noncomputable def zP1 (k a t h : Int) (z : Int × Int × Int32 × Int32) : Int × Int × Int32 × Int32 := (if zDr z.2.2.2 12 < zWy k a h z.1 then zShl k a z.1 else zDpr k a h z.1, z.2.1 - t, if k = 5 then z.2.2.1 + 1 else z.2.2.1, zSd z.2.2.2)
def zNq (K A T : Nat → Int32) (N : Nat) (h n : Int) (d s : Int) : Int := if n = 0 then -1 else zNg K T 1 d s (zBy (zM K A T N h 1 (n - 1).toNat) K A T h d s) N
/-- pulling free in truth -/
noncomputable def zPf (K A T : Nat → Int32) (N : Nat) (h : Int) : Nat → Int × Int × Int32 × Int32 → Int × Int × Int32 × Int32
  | 0, z => z
  | k + 1, z => if z.1 = 0 ∨ zNq K A T N h 2 z.1 z.2.1 = -1 then z else zPf K A T N h k (zP1 (K (zNq K A T N h 2 z.1 z.2.1).toNat).toInt (A (zNq K A T N h 2 z.1 z.2.1).toNat).toInt (T (zNq K A T N h 2 z.1 z.2.1).toNat).toInt h z)
theorem zPf_s {K A T : Nat → Int32} {N k : Nat} {h : Int} {z : Int × Int × Int32 × Int32} : zPf K A T N h (k + 1) z = if z.1 = 0 ∨ zNq K A T N h 2 z.1 z.2.1 = -1 then z else zPf K A T N h k (zP1 (K (zNq K A T N h 2 z.1 z.2.1).toNat).toInt (A (zNq K A T N h 2 z.1 z.2.1).toNat).toInt (T (zNq K A T N h 2 z.1 z.2.1).toNat).toInt h z) := rfl
theorem zPf_stop {K A T : Nat → Int32} {N : Nat} {h : Int} {z : Int × Int × Int32 × Int32} (hz : z.1 = 0 ∨ zNq K A T N h 2 z.1 z.2.1 = -1) : ∀ k : Nat, zPf K A T N h k z = z := by
  intro k
  cases k with
  | zero => rfl
  | succ k => rw [zPf_s, if_pos hz]
theorem zNq_congr {K A T K2 A2 T2 : Nat → Int32} {N : Nat} {h n d s : Int} (hk : ∀ p : Nat, p < N → K p = K2 p ∧ A p = A2 p ∧ T p = T2 p) : zNq K A T N h n d s = zNq K2 A2 T2 N h n d s := by
  unfold zNq
  split
  · rfl
  · refine zNg_congr N (fun p hp => ⟨?_, zBy_congr hk hp⟩)
    obtain ⟨h1, h2, h3⟩ := hk p hp
    unfold zOk
    rw [h1, h3]
theorem zNq_rg {K A T : Nat → Int32} {N : Nat} {h n d s : Int} : zNq K A T N h n d s = -1 ∨ (0 ≤ zNq K A T N h n d s ∧ zNq K A T N h n d s < (N : Int) ∧ 1 ≤ d ∧ (T (zNq K A T N h n d s).toNat).toInt ≤ s) := by
  unfold zNq
  split
  · exact Or.inl rfl
  · rcases zNg_rg (K := K) (T := T) (tw := 1) (d := d) (s := s) (v := zBy (zM K A T N h 1 (n - 1).toNat) K A T h d s) N with z | ⟨p, z1, z2, z3⟩
    · exact Or.inl z
    · rw [z2]
      exact Or.inr ⟨by omega, by omega, z3.1, by rw [show ((p : Nat) : Int).toNat = p from by omega]; exact z3.2.1⟩
theorem zPf_congr {K A T K2 A2 T2 : Nat → Int32} {N : Nat} {h : Int} (hk : ∀ p : Nat, p < N → K p = K2 p ∧ A p = A2 p ∧ T p = T2 p) : ∀ (k : Nat) (z : Int × Int × Int32 × Int32), zPf K A T N h k z = zPf K2 A2 T2 N h k z := by
  intro k
  induction k with
  | zero => intro z; rfl
  | succ k ih =>
    intro z
    rw [zPf_s, zPf_s, ← zNq_congr hk]
    rcases zNq_rg (K := K) (A := A) (T := T) (N := N) (h := h) (n := 2) (d := z.1) (s := z.2.1) with c | ⟨c1, c2, -⟩
    · rw [if_pos (Or.inr c), if_pos (Or.inr c)]
    · obtain ⟨h1, h2, h3⟩ := hk (zNq K A T N h 2 z.1 z.2.1).toNat (by omega)
      rw [h1, h2, h3, ih]
/-- a day: whether to the top, where, depth, seconds, torn, seed -/
noncomputable def zDy (l s : Nat → Int32) (g n : Int) (K A T : Nat → Int32) (N : Nat) (h : Int) : Nat → Int → Int → Int → Int32 → Int32 → Int × Int × Int × Int × Int32 × Int32
  | 0, t, de, se, tr, sd => (0, t, de, se, tr, sd)
  | k + 1, t, de, se, tr, sd => if de ≠ 0 then (0, t, de, se, tr, sd) else if (zCz l s g n (n - t).toNat t de sd).1 = n then (1, (zCz l s g n (n - t).toNat t de sd).1, (zCz l s g n (n - t).toNat t de sd).2.1, se, tr, (zCz l s g n (n - t).toNat t de sd).2.2) else zDy l s g n K A T N h k (zCz l s g n (n - t).toNat t de sd).1 (zPf K A T N h 12 ((zCz l s g n (n - t).toNat t de sd).2.1, se, tr, (zCz l s g n (n - t).toNat t de sd).2.2)).1 (zPf K A T N h 12 ((zCz l s g n (n - t).toNat t de sd).2.1, se, tr, (zCz l s g n (n - t).toNat t de sd).2.2)).2.1 (zPf K A T N h 12 ((zCz l s g n (n - t).toNat t de sd).2.1, se, tr, (zCz l s g n (n - t).toNat t de sd).2.2)).2.2.1 (zPf K A T N h 12 ((zCz l s g n (n - t).toNat t de sd).2.1, se, tr, (zCz l s g n (n - t).toNat t de sd).2.2)).2.2.2
theorem zDy_s {l s : Nat → Int32} {g n : Int} {K A T : Nat → Int32} {N k : Nat} {h t de se : Int} {tr sd : Int32} : zDy l s g n K A T N h (k + 1) t de se tr sd = (if de ≠ 0 then (0, t, de, se, tr, sd) else if (zCz l s g n (n - t).toNat t de sd).1 = n then (1, (zCz l s g n (n - t).toNat t de sd).1, (zCz l s g n (n - t).toNat t de sd).2.1, se, tr, (zCz l s g n (n - t).toNat t de sd).2.2) else zDy l s g n K A T N h k (zCz l s g n (n - t).toNat t de sd).1 (zPf K A T N h 12 ((zCz l s g n (n - t).toNat t de sd).2.1, se, tr, (zCz l s g n (n - t).toNat t de sd).2.2)).1 (zPf K A T N h 12 ((zCz l s g n (n - t).toNat t de sd).2.1, se, tr, (zCz l s g n (n - t).toNat t de sd).2.2)).2.1 (zPf K A T N h 12 ((zCz l s g n (n - t).toNat t de sd).2.1, se, tr, (zCz l s g n (n - t).toNat t de sd).2.2)).2.2.1 (zPf K A T N h 12 ((zCz l s g n (n - t).toNat t de sd).2.1, se, tr, (zCz l s g n (n - t).toNat t de sd).2.2)).2.2.2) := rfl
theorem zDy_out {l s : Nat → Int32} {g n : Int} {K A T : Nat → Int32} {N k : Nat} {h t de se : Int} {tr sd : Int32} (hd : de ≠ 0) : zDy l s g n K A T N h k t de se tr sd = (0, t, de, se, tr, sd) := by
  cases k with
  | zero => rfl
  | succ k => exact if_pos hd
theorem zDy_top {l s : Nat → Int32} {g n : Int} {K A T : Nat → Int32} {N k : Nat} {h t de se t2 de2 : Int} {tr sd sd2 : Int32} (hd : de = 0) (hc : zCz l s g n (n - t).toNat t de sd = (t2, de2, sd2)) (ht : t2 = n) : zDy l s g n K A T N h (k + 1) t de se tr sd = (1, t2, de2, se, tr, sd2) := by
  rw [zDy_s, if_neg (fun z => z hd), hc, if_pos ht]
theorem zDy_on {l s : Nat → Int32} {g n : Int} {K A T : Nat → Int32} {N k : Nat} {h t de se t2 de2 de3 se3 : Int} {tr sd sd2 tr3 sd3 : Int32} (hd : de = 0) (hc : zCz l s g n (n - t).toNat t de sd = (t2, de2, sd2)) (ht : t2 ≠ n) (hp : zPf K A T N h 12 (de2, se, tr, sd2) = (de3, se3, tr3, sd3)) : zDy l s g n K A T N h (k + 1) t de se tr sd = zDy l s g n K A T N h k t2 de3 se3 tr3 sd3 := by
  rw [zDy_s, if_neg (fun z => z hd), hc, if_neg ht]
  dsimp only
  rw [hp]
theorem zDy_congr {l s m u : Nat → Int32} {g n : Int} {K A T K2 A2 T2 : Nat → Int32} {N : Nat} {h : Int} (hl : ∀ j : Nat, j < 40 → l j = m j) (hs : ∀ j : Nat, j < 40 → s j = u j) (hn : 0 ≤ n ∧ n ≤ 40) (hk : ∀ p : Nat, p < N → K p = K2 p ∧ A p = A2 p ∧ T p = T2 p) : ∀ (k : Nat) (t de se : Int) (tr sd : Int32), 0 ≤ t → t ≤ n → zDy l s g n K A T N h k t de se tr sd = zDy m u g n K2 A2 T2 N h k t de se tr sd := by
  intro k
  induction k with
  | zero => intro t de se tr sd _ _; rfl
  | succ k ih =>
    intro t de se tr sd h0 h1
    by_cases c : de = 0
    · have ec := zCz_congr (g := g) (n := n) hl hs hn.2 (n - t).toNat t de sd h0
      have rg := (zCz_rg (l := l) (s := s) (g := g) (n := n) (n - t).toNat t de sd h0 (by omega) ⟨by omega, by omega⟩).1
      generalize hq : zCz l s g n (n - t).toNat t de sd = q at ec rg
      obtain ⟨t2, de2, sd2⟩ := q
      by_cases c2 : t2 = n
      · rw [zDy_top c hq c2, zDy_top c ec.symm c2]
      · have ep := zPf_congr (h := h) hk 12 (de2, se, tr, sd2)
        generalize hr : zPf K A T N h 12 (de2, se, tr, sd2) = r at ep
        obtain ⟨de3, se3, tr3, sd3⟩ := r
        rw [zDy_on c hq c2 hr, zDy_on c ec.symm c2 ep.symm]
        exact ih _ _ _ _ _ rg.1 rg.2
    · rw [zDy_out c, zDy_out c]
/-- a winter: how many days to the top, and what is behind it -/
noncomputable def zWi (l s : Nat → Int32) (g n : Int) (K A T : Nat → Int32) (N : Nat) (h : Int) : Nat → Int → Int → Int → Int → Int32 → Int32 → Int × Int × Int × Int × Int32 × Int32
  | 0, c, t, de, se, tr, sd => (c, t, de, se, tr, sd)
  | k + 1, c, _, _, _, tr, sd => zWi l s g n K A T N h k (c + (zDy l s g n K A T N h 3 0 0 60 tr sd).1) (zDy l s g n K A T N h 3 0 0 60 tr sd).2.1 (zDy l s g n K A T N h 3 0 0 60 tr sd).2.2.1 (zDy l s g n K A T N h 3 0 0 60 tr sd).2.2.2.1 (zDy l s g n K A T N h 3 0 0 60 tr sd).2.2.2.2.1 (zDy l s g n K A T N h 3 0 0 60 tr sd).2.2.2.2.2
theorem zWi_s {l s : Nat → Int32} {g n : Int} {K A T : Nat → Int32} {N k : Nat} {h c t de se r t2 de2 se2 : Int} {tr sd tr2 sd2 : Int32} (hd : zDy l s g n K A T N h 3 0 0 60 tr sd = (r, t2, de2, se2, tr2, sd2)) : zWi l s g n K A T N h (k + 1) c t de se tr sd = zWi l s g n K A T N h k (c + r) t2 de2 se2 tr2 sd2 := by
  have e : zWi l s g n K A T N h (k + 1) c t de se tr sd = zWi l s g n K A T N h k (c + (zDy l s g n K A T N h 3 0 0 60 tr sd).1) (zDy l s g n K A T N h 3 0 0 60 tr sd).2.1 (zDy l s g n K A T N h 3 0 0 60 tr sd).2.2.1 (zDy l s g n K A T N h 3 0 0 60 tr sd).2.2.2.1 (zDy l s g n K A T N h 3 0 0 60 tr sd).2.2.2.2.1 (zDy l s g n K A T N h 3 0 0 60 tr sd).2.2.2.2.2 := rfl
  rw [e, hd]
theorem zWi_congr {l s m u : Nat → Int32} {g n : Int} {K A T K2 A2 T2 : Nat → Int32} {N : Nat} {h : Int} (hl : ∀ j : Nat, j < 40 → l j = m j) (hs : ∀ j : Nat, j < 40 → s j = u j) (hn : 0 ≤ n ∧ n ≤ 40) (hk : ∀ p : Nat, p < N → K p = K2 p ∧ A p = A2 p ∧ T p = T2 p) : ∀ (k : Nat) (c t de se : Int) (tr sd : Int32), zWi l s g n K A T N h k c t de se tr sd = zWi m u g n K2 A2 T2 N h k c t de se tr sd := by
  intro k
  induction k with
  | zero => intro c t de se tr sd; rfl
  | succ k ih =>
    intro c t de se tr sd
    have e := zDy_congr (g := g) (h := h) hl hs hn hk 3 0 0 60 tr sd (by omega) hn.1
    generalize hq : zDy l s g n K A T N h 3 0 0 60 tr sd = q at e
    obtain ⟨r, t2, de2, se2, tr2, sd2⟩ := q
    rw [zWi_s hq, zWi_s e.symm, ih]
/-- what the line begins with -/
def zLr (K A T : Nat → Int32) (N : Nat) (h c0 c1 c2 : Int) (n : Nat) (d s : Int) : Int := if d = 0 then -1 else if n = 0 ∨ zFf T d s (zLn K A T N h c0 c1 c2 n d s) (zLv (zLn K A T N h c0 c1 c2 (n - 1)) K A T c0 (zPw n) h d s) N = -1 then (if 30 ≤ s ∧ c1 ≤ c2 then 101 else 100) else zFf T d s (zLn K A T N h c0 c1 c2 n d s) (zLv (zLn K A T N h c0 c1 c2 (n - 1)) K A T c0 (zPw n) h d s) N
def zHv (K A T : Nat → Int32) (N : Nat) (n : Nat) (d s : Int) (h : Nat) : Int := zM K A T N (h : Int) 1 n d s
theorem zLr_congr {K A T K2 A2 T2 : Nat → Int32} {N n : Nat} {h c0 c1 c2 d s : Int} (hk : ∀ p : Nat, p < N → K p = K2 p ∧ A p = A2 p ∧ T p = T2 p) : zLr K A T N h c0 c1 c2 n d s = zLr K2 A2 T2 N h c0 c1 c2 n d s := by
  unfold zLr
  have e := zLn_congr (h := h) (c0 := c0) (c1 := c1) (c2 := c2) hk n d s
  rw [e, zFf_congr (T2 := T2) (u := zLv (zLn K2 A2 T2 N h c0 c1 c2 (n - 1)) K2 A2 T2 c0 (zPw n) h d s) N (fun p hp => ?_)]
  obtain ⟨h1, h2, h3⟩ := hk p hp
  refine ⟨h3, ?_⟩
  unfold zLv zLb zBy1
  rw [h1, h2, h3, zLn_congr hk, zLn_congr hk]
end
section
/-! what is pulled, freed, rested: what comes of it, and the bodies that ran -/
end
section
set_option maxHeartbeats 4000000 in
set_option maxRecDepth 100000 in
theorem c_F_R_letters (l : Launch) (D : va_G) (cI cJ cZ cP cS : ClassId) (po : zPool) (rd ri rl : Nat) (rz rc rp rf rt ru : Int32) (fl : Nat → Int32) (i : Nat) (hy0 : 0 ≤ rz.toInt) (hy1 : rz.toInt ≤ 160) (hy2 : 0 ≤ rc.toInt) (hy3 : rc.toInt ≤ 40) (hy4 : 0 ≤ rp.toInt) (hy5 : rp.toInt ≤ 160) (hy6 : rp.toInt ≤ rz.toInt) (hy7 : (-1) ≤ rf.toInt) (hy8 : rf.toInt ≤ 160) (hy9 : 0 ≤ rt.toInt) (hy10 : rt.toInt ≤ 40) (hy11 : 0 ≤ ru.toInt) (hy12 : ru.toInt ≤ 8) (hi : i < 10) (hpz : Nat) : Met l yX3_lettersStanding wsX3_lettersStanding ({ frames := 4, cells := 0, slots := 0, locals := 85 }) (va_Pc [.ref rd, .ref (po.2.1 i)] (zW D (zKT cI cJ cZ cP cS) po [(rd, .inr (3, [.ref ri, .ref rl, .int rz, .int rc, .int rp, .int rf, .int rt, .int ru])), (rl, .inl (cI, 160, .inl fl))] hpz)) (va_Qi (fun (r : Int32) (_ : Unit) => (rp.toInt + r.toInt ≤ rz.toInt ∧ r.toInt ≤ (zLen.getD i 0 : Nat)) ∧ (r.toInt = (zLc fl rz.toInt rp.toInt (zWds i) : Nat)) ∧ (0 ≤ r.toInt ∧ r.toInt ≤ 7)) (zB D [(rd, .inr (3, [.ref ri, .ref rl, .int rz, .int rc, .int rp, .int rf, .int rt, .int ru])), (rl, .inl (cI, 160, .inl fl))] hpz (fun (_ : Unit) => [(rd, .inr (3, [.ref ri, .ref rl, .int rz, .int rc, .int rp, .int rf, .int rt, .int ru])), (rl, .inl (cI, 160, .inl fl))])) (va_A [(rd, .inr (3, [.ref ri, .ref rl, .int rz, .int rc, .int rp, .int rf, .int rt, .int ru])), (rl, .inl (cI, 160, .inl fl))] hpz)) 0 0 (va_A [(rd, .inr (3, [.ref ri, .ref rl, .int rz, .int rc, .int rp, .int rf, .int rt, .int ru])), (rl, .inl (cI, 160, .inl fl))] hpz) := by
  refine Met.ofW (cc := cX3_lettersStanding) (maxL := 3) (ret := (some .int)) (by decide) rfl ?_
  intro p e s m args below meth c s₁ B hml hv
  obtain ⟨rfl, hsz, hP, hK, hD0, hN, hZ⟩ := hv
  have hx := B.exec
  have hb := B.bytes
  have hr := B.returns
  have hts := atoms_spec (ws := wsX3_lettersStanding) B.pre
  have hown : s.vm.findClass RX3 = some m.cls := findClass_of_methodNamed B.named
  have hlocks := B.notSynchronized
  subst hsz
  have hD := hD0.self (sz := s.heap.size)
  have hA := zA_of hD
  have hl := lv_entry ([.ref rd, .ref (po.2.1 i)]) (n := 3) (Nat.le_of_ble_eq_true rfl)
  rw [lg_entry_eq]
  generalize (lg_sl ([.ref rd, .ref (po.2.1 i)]) ++ List.replicate (3 - (lg_sl ([.ref rd, .ref (po.2.1 i)])).length) Slot.unset).toArray = ls at hl ⊢
  replace hl : lv_has ls 3 [(0, .ref rd), (1, .ref (po.2.1 i))] := hl
  refine zw_begin hP hD (fun H locs hP1 hS => ?_)
  clear hP
  have hP := hP1
  clear hP1
  refine lv_iconst (v := 0) hx hb dX3_lettersStanding_0 (by decide) ?_
  refine lv_istore_n (lv' := [(2, .int 0), (0, .ref rd), (1, .ref (po.2.1 i))]) hx hb dX3_lettersStanding_1 rfl hl (by decide) rfl (fun ls hl => ?_)
  obtain ⟨i_2, hi_2⟩ : ∃ i : Int32, i = 0 := ⟨_, rfl⟩
  replace hl : lv_has ls 3 [(2, .int i_2), (0, .ref rd), (1, .ref (po.2.1 i))] := by rw [hi_2]; exact lv_sub hl [0, 1, 2] rfl
  have h1i_2 : i_2.toInt = 0 := by rw [hi_2]; decide
  obtain ⟨nfu, hni_2⟩ : ∃ nq9 : Nat, 8 ≤ i_2.toInt + (nq9 : Int) := ⟨((8 : Int) - 0).toNat, by omega⟩
  have hloi_2 : 0 ≤ i_2.toInt := by omega
  have hvi_2_0 : rp.toInt + i_2.toInt ≤ rz.toInt ∧ i_2.toInt ≤ (zLen.getD i 0 : Nat) := by
    (try rw [hi_2]); (first | omega | (refine ⟨?_, ?_⟩ <;> simp <;> omega))
  have hvi_2_1 : (∀ j : Nat, j < i_2.toInt.toNat → rp.toInt + (j : Int) < rz.toInt ∧ fl (rp.toInt + (j : Int)).toNat = (zWds i).getD j 0) := by
    (try rw [hi_2]); (intro j hj; exfalso; have h8 : ((0 : Int32).toInt.toNat = 0) := (by decide); omega)
  clear h1i_2 hi_2
  skip
  revert hni_2
  revert hloi_2
  revert hvi_2_1
  revert hvi_2_0
  revert hl
  revert hS
  revert hD
  revert hP
  revert ls
  revert locs
  revert H
  revert i_2
  induction nfu with
  | zero =>
    intro i_2 H locs ls hP hD hS hl hvi_2_0 hvi_2_1 hloi_2 hni_2
    have hzi_2 : 8 ≤ i_2.toInt := by omega
    refine lv_iload_n hx hb dX3_lettersStanding_2 rfl (lv_at hl 0 rfl) ?_
    refine lv_aload_n hx hb dX3_lettersStanding_3 rfl (lv_at hl 2 rfl) ?_
    refine zc_V (As := []) (rest := [.int i_2]) ⟨hx, hb, hml, hown, hts⟩ (c_S_length l D cI cJ cZ cP cS po i hi) (cwV 0 hts gX3_lettersStanding_J0_length_8abf5 rfl rfl rfl ⟨rfl, dh_J0_length_8abf5⟩ ⟨Nat.le_of_ble_eq_true rfl, Nat.le_of_ble_eq_true rfl⟩) hK hN (hZ.kept hS) hP zP_nil (vk_recv hZ.2.2.1 hi hS) rfl hl.1 rfl (Nat.le_of_ble_eq_true rfl) dX3_lettersStanding_4 ⟨Nat.le_of_ble_eq_true rfl, Nat.le_of_ble_eq_true rfl⟩ (fun r_1 hr_1 => ?_)
    obtain ⟨g_2, g_3, hsr_1_0⟩ := hr_1
    refine lv_icmp_ge (tgt := 34) hx hb dX3_lettersStanding_7 (by decide) (fun c_4 => ?_) (fun c_4 => ?_)
    · have fc_4 : r_1.toInt ≤ i_2.toInt := zf_le c_4 rfl rfl
      refine lv_iload_n hx hb dX3_lettersStanding_34 rfl (lv_at hl 0 rfl) ?_
      exact W.iret (v := i_2) hx hb hr (fun t ht hW => ⟨⟨i_2, (), rfl, ⟨(show rp.toInt + (i_2 : Int32).toInt ≤ rz.toInt ∧ (i_2 : Int32).toInt ≤ (zLen.getD i 0 : Nat) from by exact ⟨by omega, by omega⟩), (show (i_2 : Int32).toInt = (zLc fl rz.toInt rp.toInt (zWds i) : Nat) from by exact zLt_end hi (by omega) (by omega) hvi_2_1 (Or.inl (by omega))), ⟨by omega, by omega⟩⟩, zRet ht hP hD [0, 1] (by decide) rfl⟩, hS.F ht⟩) hS.2.2 dX3_lettersStanding_35
    · exfalso; have fc_4 : i_2.toInt < r_1.toInt := zf_nle c_4 rfl rfl; omega
  | succ nfu ih =>
    intro i_2 H locs ls hP hD hS hl hvi_2_0 hvi_2_1 hloi_2 hni_2
    refine lv_iload_n hx hb dX3_lettersStanding_2 rfl (lv_at hl 0 rfl) ?_
    refine lv_aload_n hx hb dX3_lettersStanding_3 rfl (lv_at hl 2 rfl) ?_
    refine zc_V (As := []) (rest := [.int i_2]) ⟨hx, hb, hml, hown, hts⟩ (c_S_length l D cI cJ cZ cP cS po i hi) (cwV 0 hts gX3_lettersStanding_J0_length_8abf5 rfl rfl rfl ⟨rfl, dh_J0_length_8abf5⟩ ⟨Nat.le_of_ble_eq_true rfl, Nat.le_of_ble_eq_true rfl⟩) hK hN (hZ.kept hS) hP zP_nil (vk_recv hZ.2.2.1 hi hS) rfl hl.1 rfl (Nat.le_of_ble_eq_true rfl) dX3_lettersStanding_4 ⟨Nat.le_of_ble_eq_true rfl, Nat.le_of_ble_eq_true rfl⟩ (fun r_5 hr_5 => ?_)
    obtain ⟨g_6, g_7, hsr_5_0⟩ := hr_5
    refine lv_icmp_ge (tgt := 34) hx hb dX3_lettersStanding_7 (by decide) (fun c_8 => ?_) (fun c_8 => ?_)
    · have fc_8 : r_5.toInt ≤ i_2.toInt := zf_le c_8 rfl rfl
      refine lv_iload_n hx hb dX3_lettersStanding_34 rfl (lv_at hl 0 rfl) ?_
      exact W.iret (v := i_2) hx hb hr (fun t ht hW => ⟨⟨i_2, (), rfl, ⟨(show rp.toInt + (i_2 : Int32).toInt ≤ rz.toInt ∧ (i_2 : Int32).toInt ≤ (zLen.getD i 0 : Nat) from by exact ⟨by omega, by omega⟩), (show (i_2 : Int32).toInt = (zLc fl rz.toInt rp.toInt (zWds i) : Nat) from by exact zLt_end hi (by omega) (by omega) hvi_2_1 (Or.inl (by omega))), ⟨by omega, by omega⟩⟩, zRet ht hP hD [0, 1] (by decide) rfl⟩, hS.F ht⟩) hS.2.2 dX3_lettersStanding_35
    · have fc_8 : i_2.toInt < r_5.toInt := zf_nle c_8 rfl rfl
      refine lv_aload_n hx hb dX3_lettersStanding_10 rfl (lv_at hl 1 rfl) ?_
      refine lv_aload_n hx hb dX3_lettersStanding_11 rfl (lv_at hl 1 rfl) ?_
      refine va_get (D := D) (ci := 3) (v := .int rp) (C := RX3) (T := TX3) (N := 8) hx hb hts hi_X3_lettersStanding_3 hown hK hP 0 rfl rfl 4 (by decide) (hts (.fieldLink RX3 25 "TheLiningsInIt$Reader" "place" "I") (List.mem_of_getElem? (i := 1) rfl)) (fun _ h9 => h9) rfl dX3_lettersStanding_12 ?_
      refine lv_iload_n hx hb dX3_lettersStanding_15 rfl (lv_at hl 0 rfl) ?_
      refine lv_iadd hx hb dX3_lettersStanding_16 ?_
      refine lv_topi (fun x_9 ex_9 => ?_)
      have qx_9 : x_9.toInt = rp.toInt + i_2.toInt := by rw [ex_9]; exact zf_add rfl rfl (by omega) (by omega)
      refine lv_aload_n hx hb dX3_lettersStanding_17 rfl (lv_at hl 2 rfl) ?_
      refine lv_iload_n hx hb dX3_lettersStanding_18 rfl (lv_at hl 0 rfl) ?_
      skip
      refine zw_V (As := [.int i_2]) (rest := [.int x_9, .ref rd]) (wr := [(rd, .inr (3, [.ref ri, .ref rl, .int rz, .int rc, .int rp, .int rf, .int rt, .int ru])), (rl, .inl (cI, 160, .inl fl))]) ⟨hx, hb, hml, hown, hts⟩ (c_S_charAt l D cI cJ cZ cP cS po i (i_2) hi (by first | assumption | omega) H.size) (cwV 1 hts gX3_lettersStanding_J0_charAt_5068e rfl rfl rfl ⟨rfl, dh_J0_charAt_5068e⟩ ⟨Nat.le_of_ble_eq_true rfl, Nat.le_of_ble_eq_true rfl⟩) hK hN (hZ.kept hS) hP hD hS hA [] [0, 1] rfl rfl (by decide) (by decide) (by decide) (vk_recv hZ.2.2.1 hi hS) rfl hl.1 rfl (Nat.le_of_ble_eq_true rfl) dX3_lettersStanding_19 ⟨Nat.le_of_ble_eq_true rfl, Nat.le_of_ble_eq_true rfl⟩ (fun r_10 u_11 H locs hr_10 hP hD hS => ?_)
      obtain ⟨hsr_10_0, hr_10⟩ := hr_10
      have h9R := zRe (ws' := [(rd, .inr (3, [.ref ri, .ref rl, .int rz, .int rc, .int rp, .int rf, .int rt, .int ru])), (rl, .inl (cI, 160, .inl fl))]) hP hD rfl
      clear hP hD
      obtain ⟨hP, hD⟩ := h9R
      refine zc_V (As := [.int x_9, .int r_10]) (rest := []) ⟨hx, hb, hml, hown, hts⟩ (c_R_stands l D cI cJ cZ cP cS po rd ri rl (rz) (rc) (rp) (rf) (rt) (ru) fl (x_9) (r_10) hy0 hy1 hy2 hy3 hy4 hy5 (by omega) hy7 hy8 hy9 hy10 hy11 hy12) (cwV 2 hts gX3_lettersStanding_X3_stands rfl rfl rfl ⟨rfl, dh_X3_stands⟩ ⟨Nat.le_of_ble_eq_true rfl, Nat.le_of_ble_eq_true rfl⟩) hK hN (hZ.kept hS) hP (hP.sub [0, 1] rfl) (va_recv (q := (RX3, TX3, 8)) hK hP (ci := 3) (q0 := 0) rfl rfl) rfl hl.1 rfl (Nat.le_of_ble_eq_true rfl) dX3_lettersStanding_22 ⟨Nat.le_of_ble_eq_true rfl, Nat.le_of_ble_eq_true rfl⟩ (fun r_12 hr_12 => ?_)
      obtain ⟨g_13, g_14, hsr_12_0, hsr_12_1⟩ := hr_12
      refine lv_if_eq (tgt := 34) hx hb dX3_lettersStanding_25 (by decide) (fun c_15 => ?_) (fun c_15 => ?_)
      · have fc_15 : r_12.toInt = 0 := zf_eq c_15 rfl (by decide)
        refine lv_iload_n hx hb dX3_lettersStanding_34 rfl (lv_at hl 0 rfl) ?_
        exact W.iret (v := i_2) hx hb hr (fun t ht hW => ⟨⟨i_2, (), rfl, ⟨(show rp.toInt + (i_2 : Int32).toInt ≤ rz.toInt ∧ (i_2 : Int32).toInt ≤ (zLen.getD i 0 : Nat) from by exact ⟨by omega, by omega⟩), (show (i_2 : Int32).toInt = (zLc fl rz.toInt rp.toInt (zWds i) : Nat) from by exact zLt_end hi (by omega) (by omega) hvi_2_1 (Or.inr (zLt_no qx_9 hsr_10_0 hsr_12_1 (by omega) (by omega)))), ⟨by omega, by omega⟩⟩, zRet ht hP hD [0, 1] (by decide) rfl⟩, hS.F ht⟩) hS.2.2 dX3_lettersStanding_35
      · have fc_15 : r_12.toInt ≠ 0 := zf_ne c_15 rfl (by decide)
        obtain ⟨x_16, ex_16⟩ : ∃ y : Int32, y = i_2 + 1 := ⟨_, rfl⟩
        have qx_16 : x_16.toInt = i_2.toInt + 1 := dw_inc ex_16 fc_8
        refine lv_iinc (v := x_16) (lv' := [(2, .int x_16), (0, .ref rd), (1, .ref (po.2.1 i))]) hx hb dX3_lettersStanding_28 hl (k := 0) rfl ex_16.symm (by decide) rfl (fun ls hl => ?_)
        refine lv_goto (tgt := 2) hx hb dX3_lettersStanding_31 (by decide) ?_
        exact ih x_16 _ _ _ (hP.sub [0, 1] rfl) (hD.sub [0, 1] (by decide) rfl) hS (lv_sub hl [0, 1, 2] rfl) (show rp.toInt + x_16.toInt ≤ rz.toInt ∧ x_16.toInt ≤ (zLen.getD i 0 : Nat) from by exact ⟨by omega, by omega⟩) (show (∀ j : Nat, j < x_16.toInt.toNat → rp.toInt + (j : Int) < rz.toInt ∧ fl (rp.toInt + (j : Int)).toNat = (zWds i).getD j 0) from by exact zLt_S hvi_2_1 qx_9 hsr_10_0 hsr_12_1 (by omega) (by omega) (by omega)) (dw_lo hloi_2 qx_16) (dw_hn hni_2 qx_16)
set_option maxHeartbeats 4000000 in
set_option maxRecDepth 100000 in
theorem c_F_R_takeWord (l : Launch) (D : va_G) (cI cJ cZ cP cS : ClassId) (po : zPool) (rd ri rl : Nat) (rz rc rp rf rt ru : Int32) (w n : Int32) (hy0 : 0 ≤ rz.toInt) (hy1 : rz.toInt ≤ 160) (hy2 : 0 ≤ rc.toInt) (hy3 : rc.toInt ≤ 40) (hy4 : 0 ≤ rp.toInt) (hy5 : rp.toInt ≤ 160) (hy6 : rp.toInt ≤ rz.toInt) (hy7 : (-1) ≤ rf.toInt) (hy8 : rf.toInt ≤ 160) (hy9 : 0 ≤ rt.toInt) (hy10 : rt.toInt ≤ 40) (hy11 : 0 ≤ ru.toInt) (hy12 : ru.toInt ≤ 8) (hy13 : 0 ≤ w.toInt) (hy14 : w.toInt ≤ 9) (hy15 : 0 ≤ n.toInt) (hy16 : n.toInt ≤ 7) (hpn : rp.toInt + n.toInt ≤ rz.toInt) (hpz : Nat) : Met l yX3_takeWord wsX3_takeWord ({ frames := 0, cells := 0, slots := 0, locals := 0 }) (va_Pc [.ref rd, .int w, .int n] (zW D (zKT cI cJ cZ cP cS) po [(rd, .inr (3, [.ref ri, .ref rl, .int rz, .int rc, .int rp, .int rf, .int rt, .int ru]))] hpz)) (va_Qi (fun (r : Int32) (u : (Int32) × (Int32)) => (0 ≤ u.1.toInt ∧ u.1.toInt ≤ 160) ∧ ((-1) ≤ u.2.toInt ∧ u.2.toInt ≤ 160) ∧ (u.1.toInt ≤ rz.toInt) ∧ (((w.toInt = 3 ∧ ru.toInt = 8 ∧ r.toInt = -1 ∧ u.2.toInt = rp.toInt) ∨ (¬ (w.toInt = 3 ∧ ru.toInt = 8) ∧ r.toInt = w.toInt ∧ u.2.toInt = rf.toInt ∧ u.1.toInt = rp.toInt + n.toInt))) ∧ (-1 ≤ r.toInt ∧ r.toInt ≤ 9)) (zB D [(rd, .inr (3, [.ref ri, .ref rl, .int rz, .int rc, .int rp, .int rf, .int rt, .int ru]))] hpz (fun (u : (Int32) × (Int32)) => [(rd, .inr (3, [.ref ri, .ref rl, .int rz, .int rc, .int u.1, .int u.2, .int rt, .int ru]))])) (va_A [(rd, .inr (3, [.ref ri, .ref rl, .int rz, .int rc, .int rp, .int rf, .int rt, .int ru]))] hpz)) 0 0 (va_A [(rd, .inr (3, [.ref ri, .ref rl, .int rz, .int rc, .int rp, .int rf, .int rt, .int ru]))] hpz) := by
  refine Met.ofW (cc := cX3_takeWord) (maxL := 3) (ret := (some .int)) (by decide) rfl ?_
  intro p e s m args below meth c s₁ B hml hv
  obtain ⟨rfl, hsz, hP, hK, hD0, hN, hZ⟩ := hv
  have hx := B.exec
  have hb := B.bytes
  have hr := B.returns
  have hts := atoms_spec (ws := wsX3_takeWord) B.pre
  have hown : s.vm.findClass RX3 = some m.cls := findClass_of_methodNamed B.named
  have hlocks := B.notSynchronized
  subst hsz
  have hD := hD0.self (sz := s.heap.size)
  have hA := zA_of hD
  have hl := lv_entry ([.ref rd, .int w, .int n]) (n := 3) (Nat.le_of_ble_eq_true rfl)
  rw [lg_entry_eq]
  generalize (lg_sl ([.ref rd, .int w, .int n]) ++ List.replicate (3 - (lg_sl ([.ref rd, .int w, .int n])).length) Slot.unset).toArray = ls at hl ⊢
  replace hl : lv_has ls 3 [(0, .ref rd), (1, .int w), (2, .int n)] := hl
  refine zw_begin hP hD (fun H locs hP1 hS => ?_)
  clear hP
  have hP := hP1
  clear hP1
  refine lv_iload_n hx hb dX3_takeWord_0 rfl (lv_at hl 1 rfl) ?_
  refine lv_iconst (v := 3) hx hb dX3_takeWord_1 (by decide) ?_
  refine lv_icmp_ne (tgt := 24) hx hb dX3_takeWord_2 (by decide) (fun c_1 => ?_) (fun c_1 => ?_)
  · have fc_1 : w.toInt ≠ 3 := zf_ne c_1 rfl (by decide)
    refine lv_aload_n hx hb dX3_takeWord_24 rfl (lv_at hl 0 rfl) ?_
    refine lv_dup hx hb dX3_takeWord_25 rfl ?_
    refine va_get (D := D) (ci := 3) (v := .int rp) (C := RX3) (T := TX3) (N := 8) hx hb hts hi_X3_takeWord_3 hown hK hP 0 rfl rfl 4 (by decide) (hts (.fieldLink RX3 25 "TheLiningsInIt$Reader" "place" "I") (List.mem_of_getElem? (i := 2) rfl)) (fun _ h9 => h9) rfl dX3_takeWord_26 ?_
    refine lv_iload_n hx hb dX3_takeWord_29 rfl (lv_at hl 2 rfl) ?_
    refine lv_iadd hx hb dX3_takeWord_30 ?_
    refine lv_topi (fun x_2 ex_2 => ?_)
    have qx_2 : x_2.toInt = rp.toInt + n.toInt := by rw [ex_2]; exact zf_add rfl rfl (by omega) (by omega)
    refine va_put (D := D) (ci := 3) (v := .int x_2) (ty := .int) (C := RX3) (T := TX3) (N := 8) hx hb hts hi_X3_takeWord_3 tyX3 tyX3_ok nmX3 hown hK hP hD hS 0 rfl rfl 4 (by decide) (hts (.fieldLink RX3 25 "TheLiningsInIt$Reader" "place" "I") (List.mem_of_getElem? (i := 2) rfl)) (fun _ h9 => h9) rfl (tyX3_ok 4 (Nat.le_of_ble_eq_true rfl)) rfl rfl (Nat.le_of_ble_eq_true rfl) dX3_takeWord_31 (fun H locs hP hD hS => ?_)
    have h9R := zRe (ws' := [(rd, .inr (3, [.ref ri, .ref rl, .int rz, .int rc, .int x_2, .int rf, .int rt, .int ru]))]) hP hD rfl
    clear hP hD
    obtain ⟨hP, hD⟩ := h9R
    refine lv_iload_n hx hb dX3_takeWord_34 rfl (lv_at hl 1 rfl) ?_
    exact W.iret (v := w) hx hb hr (fun t ht hW => ⟨⟨w, (x_2, rf), rfl, ⟨(show 0 ≤ x_2.toInt ∧ x_2.toInt ≤ 160 from ⟨by omega, by omega⟩), (show (-1) ≤ rf.toInt ∧ rf.toInt ≤ 160 from ⟨hy7, hy8⟩), (show x_2.toInt ≤ rz.toInt from by omega), (show ((w.toInt = 3 ∧ ru.toInt = 8 ∧ (w : Int32).toInt = -1 ∧ rf.toInt = rp.toInt) ∨ (¬ (w.toInt = 3 ∧ ru.toInt = 8) ∧ (w : Int32).toInt = w.toInt ∧ rf.toInt = rf.toInt ∧ x_2.toInt = rp.toInt + n.toInt)) from by (omega)), ⟨by omega, by omega⟩⟩, zRet ht hP hD [0] (by decide) rfl⟩, hS.F ht⟩) hS.2.2 dX3_takeWord_35
  · have fc_1 : w.toInt = 3 := zf_eq c_1 rfl (by decide)
    refine lv_aload_n hx hb dX3_takeWord_5 rfl (lv_at hl 0 rfl) ?_
    refine va_get (D := D) (ci := 3) (v := .int ru) (C := RX3) (T := TX3) (N := 8) hx hb hts hi_X3_takeWord_3 hown hK hP 0 rfl rfl 7 (by decide) (hts (.fieldLink RX3 34 "TheLiningsInIt$Reader" "pulls" "I") (List.mem_of_getElem? (i := 1) rfl)) (fun _ h9 => h9) rfl dX3_takeWord_6 ?_
    refine lv_bipush (v := 8) hx hb dX3_takeWord_9 (by decide) ?_
    refine lv_icmp_lt (tgt := 24) hx hb dX3_takeWord_11 (by decide) (fun c_3 => ?_) (fun c_3 => ?_)
    · have fc_3 : ru.toInt < 8 := zf_lt c_3 rfl (by decide)
      refine lv_aload_n hx hb dX3_takeWord_24 rfl (lv_at hl 0 rfl) ?_
      refine lv_dup hx hb dX3_takeWord_25 rfl ?_
      refine va_get (D := D) (ci := 3) (v := .int rp) (C := RX3) (T := TX3) (N := 8) hx hb hts hi_X3_takeWord_3 hown hK hP 0 rfl rfl 4 (by decide) (hts (.fieldLink RX3 25 "TheLiningsInIt$Reader" "place" "I") (List.mem_of_getElem? (i := 2) rfl)) (fun _ h9 => h9) rfl dX3_takeWord_26 ?_
      refine lv_iload_n hx hb dX3_takeWord_29 rfl (lv_at hl 2 rfl) ?_
      refine lv_iadd hx hb dX3_takeWord_30 ?_
      refine lv_topi (fun x_4 ex_4 => ?_)
      have qx_4 : x_4.toInt = rp.toInt + n.toInt := by rw [ex_4]; exact zf_add rfl rfl (by omega) (by omega)
      refine va_put (D := D) (ci := 3) (v := .int x_4) (ty := .int) (C := RX3) (T := TX3) (N := 8) hx hb hts hi_X3_takeWord_3 tyX3 tyX3_ok nmX3 hown hK hP hD hS 0 rfl rfl 4 (by decide) (hts (.fieldLink RX3 25 "TheLiningsInIt$Reader" "place" "I") (List.mem_of_getElem? (i := 2) rfl)) (fun _ h9 => h9) rfl (tyX3_ok 4 (Nat.le_of_ble_eq_true rfl)) rfl rfl (Nat.le_of_ble_eq_true rfl) dX3_takeWord_31 (fun H locs hP hD hS => ?_)
      have h9R := zRe (ws' := [(rd, .inr (3, [.ref ri, .ref rl, .int rz, .int rc, .int x_4, .int rf, .int rt, .int ru]))]) hP hD rfl
      clear hP hD
      obtain ⟨hP, hD⟩ := h9R
      refine lv_iload_n hx hb dX3_takeWord_34 rfl (lv_at hl 1 rfl) ?_
      exact W.iret (v := w) hx hb hr (fun t ht hW => ⟨⟨w, (x_4, rf), rfl, ⟨(show 0 ≤ x_4.toInt ∧ x_4.toInt ≤ 160 from ⟨by omega, by omega⟩), (show (-1) ≤ rf.toInt ∧ rf.toInt ≤ 160 from ⟨hy7, hy8⟩), (show x_4.toInt ≤ rz.toInt from by omega), (show ((w.toInt = 3 ∧ ru.toInt = 8 ∧ (w : Int32).toInt = -1 ∧ rf.toInt = rp.toInt) ∨ (¬ (w.toInt = 3 ∧ ru.toInt = 8) ∧ (w : Int32).toInt = w.toInt ∧ rf.toInt = rf.toInt ∧ x_4.toInt = rp.toInt + n.toInt)) from by (omega)), ⟨by omega, by omega⟩⟩, zRet ht hP hD [0] (by decide) rfl⟩, hS.F ht⟩) hS.2.2 dX3_takeWord_35
    · have fc_3 : 8 ≤ ru.toInt := zf_nlt c_3 rfl (by decide)
      refine lv_aload_n hx hb dX3_takeWord_14 rfl (lv_at hl 0 rfl) ?_
      refine lv_aload_n hx hb dX3_takeWord_15 rfl (lv_at hl 0 rfl) ?_
      refine va_get (D := D) (ci := 3) (v := .int rp) (C := RX3) (T := TX3) (N := 8) hx hb hts hi_X3_takeWord_3 hown hK hP 0 rfl rfl 4 (by decide) (hts (.fieldLink RX3 25 "TheLiningsInIt$Reader" "place" "I") (List.mem_of_getElem? (i := 2) rfl)) (fun _ h9 => h9) rfl dX3_takeWord_16 ?_
      refine va_put (D := D) (ci := 3) (v := .int rp) (ty := .int) (C := RX3) (T := TX3) (N := 8) hx hb hts hi_X3_takeWord_3 tyX3 tyX3_ok nmX3 hown hK hP hD hS 0 rfl rfl 5 (by decide) (hts (.fieldLink RX3 28 "TheLiningsInIt$Reader" "fault" "I") (List.mem_of_getElem? (i := 3) rfl)) (fun _ h9 => h9) rfl (tyX3_ok 5 (Nat.le_of_ble_eq_true rfl)) rfl rfl (Nat.le_of_ble_eq_true rfl) dX3_takeWord_19 (fun H locs hP hD hS => ?_)
      have h9R := zRe (ws' := [(rd, .inr (3, [.ref ri, .ref rl, .int rz, .int rc, .int rp, .int rp, .int rt, .int ru]))]) hP hD rfl
      clear hP hD
      obtain ⟨hP, hD⟩ := h9R
      refine lv_iconst (v := (-1)) hx hb dX3_takeWord_22 (by decide) ?_
      exact W.iret (v := (-1)) hx hb hr (fun t ht hW => ⟨⟨(-1), (rp, rp), rfl, ⟨(show 0 ≤ rp.toInt ∧ rp.toInt ≤ 160 from ⟨hy4, hy5⟩), (show (-1) ≤ rp.toInt ∧ rp.toInt ≤ 160 from ⟨by omega, hy5⟩), (show rp.toInt ≤ rz.toInt from by omega), (show ((w.toInt = 3 ∧ ru.toInt = 8 ∧ ((-1) : Int32).toInt = -1 ∧ rp.toInt = rp.toInt) ∨ (¬ (w.toInt = 3 ∧ ru.toInt = 8) ∧ ((-1) : Int32).toInt = w.toInt ∧ rp.toInt = rf.toInt ∧ rp.toInt = rp.toInt + n.toInt)) from by (have k9 : ((-1) : Int32).toInt = -1 := (by decide); omega)), ⟨by decide, by decide⟩⟩, zRet ht hP hD [0] (by decide) rfl⟩, hS.F ht⟩) hS.2.2 dX3_takeWord_23
set_option maxHeartbeats 4000000 in
set_option maxRecDepth 100000 in
theorem c_F_R_readWord (l : Launch) (D : va_G) (cI cJ cZ cP cS : ClassId) (po : zPool) (rd ri rl : Nat) (rz rc rp rf rt ru : Int32) (fl : Nat → Int32) (hy0 : 0 ≤ rz.toInt) (hy1 : rz.toInt ≤ 160) (hy2 : 0 ≤ rc.toInt) (hy3 : rc.toInt ≤ 40) (hy4 : 0 ≤ rp.toInt) (hy5 : rp.toInt ≤ 160) (hy6 : rp.toInt ≤ rz.toInt) (hy7 : (-1) ≤ rf.toInt) (hy8 : rf.toInt ≤ 160) (hy9 : 0 ≤ rt.toInt) (hy10 : rt.toInt ≤ 40) (hy11 : 0 ≤ ru.toInt) (hy12 : ru.toInt ≤ 8) (hpz : Nat) : Met l yX3_readWord wsX3_readWord ({ frames := 5, cells := 0, slots := 0, locals := 107 }) (va_Pc [.ref rd] (zW D (zKT cI cJ cZ cP cS) po [(rd, .inr (3, [.ref ri, .ref rl, .int rz, .int rc, .int rp, .int rf, .int rt, .int ru])), (rl, .inl (cI, 160, .inl fl))] hpz)) (va_Qi (fun (r : Int32) (u : (Int32) × (Int32)) => (0 ≤ u.1.toInt ∧ u.1.toInt ≤ 160) ∧ ((-1) ≤ u.2.toInt ∧ u.2.toInt ≤ 160) ∧ (u.1.toInt ≤ rz.toInt) ∧ (((zFst fl rz.toInt rp.toInt zWds 10 = -1 ∧ r.toInt = -1 ∧ u.2.toInt = rp.toInt + (zMx fl rz.toInt rp.toInt zWds 10 : Nat)) ∨ (zFst fl rz.toInt rp.toInt zWds 10 = 3 ∧ ru.toInt = 8 ∧ r.toInt = -1 ∧ u.2.toInt = rp.toInt) ∨ (zFst fl rz.toInt rp.toInt zWds 10 = r.toInt ∧ 0 ≤ r.toInt ∧ ¬ (r.toInt = 3 ∧ ru.toInt = 8) ∧ u.2.toInt = rf.toInt ∧ u.1.toInt = rp.toInt + ((zWds r.toInt.toNat).length : Nat)))) ∧ (-1 ≤ r.toInt ∧ r.toInt ≤ 9)) (zB D [(rd, .inr (3, [.ref ri, .ref rl, .int rz, .int rc, .int rp, .int rf, .int rt, .int ru])), (rl, .inl (cI, 160, .inl fl))] hpz (fun (u : (Int32) × (Int32)) => [(rd, .inr (3, [.ref ri, .ref rl, .int rz, .int rc, .int u.1, .int u.2, .int rt, .int ru])), (rl, .inl (cI, 160, .inl fl))])) (va_A [(rd, .inr (3, [.ref ri, .ref rl, .int rz, .int rc, .int rp, .int rf, .int rt, .int ru])), (rl, .inl (cI, 160, .inl fl))] hpz)) 0 0 (va_A [(rd, .inr (3, [.ref ri, .ref rl, .int rz, .int rc, .int rp, .int rf, .int rt, .int ru])), (rl, .inl (cI, 160, .inl fl))] hpz) := by
  refine Met.ofW (cc := cX3_readWord) (maxL := 5) (ret := (some .int)) (by decide) rfl ?_
  intro p e s m args below meth c s₁ B hml hv
  obtain ⟨rfl, hsz, hP, hK, hD0, hN, hZ⟩ := hv
  have hx := B.exec
  have hb := B.bytes
  have hr := B.returns
  have hts := atoms_spec (ws := wsX3_readWord) B.pre
  have hown : s.vm.findClass RX3 = some m.cls := findClass_of_methodNamed B.named
  have hlocks := B.notSynchronized
  subst hsz
  have hD := hD0.self (sz := s.heap.size)
  have hA := zA_of hD
  have hl := lv_entry ([.ref rd]) (n := 5) (Nat.le_of_ble_eq_true rfl)
  rw [lg_entry_eq]
  generalize (lg_sl ([.ref rd]) ++ List.replicate (5 - (lg_sl ([.ref rd])).length) Slot.unset).toArray = ls at hl ⊢
  replace hl : lv_has ls 5 [(0, .ref rd)] := hl
  refine zw_begin hP hD (fun H locs hP1 hS => ?_)
  clear hP
  have hP := hP1
  clear hP1
  refine lv_iconst (v := 0) hx hb dX3_readWord_0 (by decide) ?_
  refine lv_istore_n (lv' := [(1, .int 0), (0, .ref rd)]) hx hb dX3_readWord_1 rfl hl (by decide) rfl (fun ls hl => ?_)
  refine lv_iconst (v := 0) hx hb dX3_readWord_2 (by decide) ?_
  refine lv_istore_n (lv' := [(2, .int 0), (1, .int 0), (0, .ref rd)]) hx hb dX3_readWord_3 rfl hl (by decide) rfl (fun ls hl => ?_)
  obtain ⟨i_4, hi_4⟩ : ∃ i : Int32, i = 0 := ⟨_, rfl⟩
  replace hl : lv_has ls 5 [(2, .int i_4), (1, .int 0), (0, .ref rd)] := by rw [hi_4]; exact lv_sub hl [0, 1, 2] rfl
  have h1i_4 : i_4.toInt = 0 := by rw [hi_4]; decide
  obtain ⟨nfu, hni_4⟩ : ∃ nq9 : Nat, 10 ≤ i_4.toInt + (nq9 : Int) := ⟨((10 : Int) - 0).toNat, by omega⟩
  have hloi_4 : 0 ≤ i_4.toInt := by omega
  obtain ⟨v_1, hv_1⟩ : ∃ g : Int32, g = 0 := ⟨_, rfl⟩
  replace hl : lv_has ls 5 [(2, .int i_4), (1, .int v_1), (0, .ref rd)] := by rw [hv_1]; exact hl
  have hbv_1 : 0 ≤ v_1.toInt ∧ v_1.toInt ≤ 7 := by rw [hv_1]; exact ⟨by decide, by decide⟩
  have hvi_4_0 : rp.toInt + (v_1 : Int32).toInt ≤ rz.toInt := by
    (try rw [hi_4]); (try rw [hv_1]); have k0 : (0 : Int32).toInt = 0 := (by decide); omega
  have hvi_4_1 : zFst fl rz.toInt rp.toInt zWds i_4.toInt.toNat = -1 := by
    (try rw [hi_4]); (try rw [hv_1]); (rw [show ((0 : Int32).toInt.toNat) = 0 from by decide]; rfl)
  have hvi_4_2 : (v_1 : Int32).toInt = (zMx fl rz.toInt rp.toInt zWds i_4.toInt.toNat : Nat) := by
    (try rw [hi_4]); (try rw [hv_1]); (rw [show ((0 : Int32).toInt.toNat) = 0 from by decide]; show _ = ((0 : Nat) : Int); decide)
  have hvi_4_3 : i_4.toInt ≤ 10 := by
    (try rw [hi_4]); (try rw [hv_1]); first | omega | decide
  clear h1i_4 hi_4 hv_1
  skip
  revert hni_4
  revert hloi_4
  revert hvi_4_3
  revert hvi_4_2
  revert hvi_4_1
  revert hvi_4_0
  revert hbv_1
  revert hl
  revert hS
  revert hD
  revert hP
  revert ls
  revert locs
  revert H
  revert v_1
  revert i_4
  induction nfu with
  | zero =>
    intro i_4 v_1 H locs ls hP hD hS hl hbv_1 hvi_4_0 hvi_4_1 hvi_4_2 hvi_4_3 hloi_4 hni_4
    have hzi_4 : 10 ≤ i_4.toInt := by omega
    refine lv_iload_n hx hb dX3_readWord_4 rfl (lv_at hl 0 rfl) ?_
    refine lv_bipush (v := 10) hx hb dX3_readWord_5 (by decide) ?_
    refine lv_icmp_ge (tgt := 52) hx hb dX3_readWord_7 (by decide) (fun c_2 => ?_) (fun c_2 => ?_)
    · have fc_2 : 10 ≤ i_4.toInt := zf_le c_2 (by decide) rfl
      refine lv_aload_n hx hb dX3_readWord_52 rfl (lv_at hl 2 rfl) ?_
      refine lv_aload_n hx hb dX3_readWord_53 rfl (lv_at hl 2 rfl) ?_
      refine va_get (D := D) (ci := 3) (v := .int rp) (C := RX3) (T := TX3) (N := 8) hx hb hts hi_X3_readWord_3 hown hK hP 0 rfl rfl 4 (by decide) (hts (.fieldLink RX3 25 "TheLiningsInIt$Reader" "place" "I") (List.mem_of_getElem? (i := 5) rfl)) (fun _ h9 => h9) rfl dX3_readWord_54 ?_
      refine lv_iload_n hx hb dX3_readWord_57 rfl (lv_at hl 1 rfl) ?_
      refine lv_iadd hx hb dX3_readWord_58 ?_
      refine lv_topi (fun x_3 ex_3 => ?_)
      have qx_3 : x_3.toInt = rp.toInt + v_1.toInt := by rw [ex_3]; exact zf_add rfl rfl (by omega) (by omega)
      refine va_put (D := D) (ci := 3) (v := .int x_3) (ty := .int) (C := RX3) (T := TX3) (N := 8) hx hb hts hi_X3_readWord_3 tyX3 tyX3_ok nmX3 hown hK hP hD hS 0 rfl rfl 5 (by decide) (hts (.fieldLink RX3 28 "TheLiningsInIt$Reader" "fault" "I") (List.mem_of_getElem? (i := 6) rfl)) (fun _ h9 => h9) rfl (tyX3_ok 5 (Nat.le_of_ble_eq_true rfl)) rfl rfl (Nat.le_of_ble_eq_true rfl) dX3_readWord_59 (fun H locs hP hD hS => ?_)
      have h9R := zRe (ws' := [(rd, .inr (3, [.ref ri, .ref rl, .int rz, .int rc, .int rp, .int x_3, .int rt, .int ru])), (rl, .inl (cI, 160, .inl fl))]) hP hD rfl
      clear hP hD
      obtain ⟨hP, hD⟩ := h9R
      refine lv_iconst (v := (-1)) hx hb dX3_readWord_62 (by decide) ?_
      exact W.iret (v := (-1)) hx hb hr (fun t ht hW => ⟨⟨(-1), (rp, x_3), rfl, ⟨(show 0 ≤ rp.toInt ∧ rp.toInt ≤ 160 from ⟨hy4, hy5⟩), (show (-1) ≤ x_3.toInt ∧ x_3.toInt ≤ 160 from ⟨by omega, by omega⟩), (show rp.toInt ≤ rz.toInt from by omega), (show ((zFst fl rz.toInt rp.toInt zWds 10 = -1 ∧ ((-1) : Int32).toInt = -1 ∧ x_3.toInt = rp.toInt + (zMx fl rz.toInt rp.toInt zWds 10 : Nat)) ∨ (zFst fl rz.toInt rp.toInt zWds 10 = 3 ∧ ru.toInt = 8 ∧ ((-1) : Int32).toInt = -1 ∧ x_3.toInt = rp.toInt) ∨ (zFst fl rz.toInt rp.toInt zWds 10 = ((-1) : Int32).toInt ∧ 0 ≤ ((-1) : Int32).toInt ∧ ¬ (((-1) : Int32).toInt = 3 ∧ ru.toInt = 8) ∧ x_3.toInt = rf.toInt ∧ rp.toInt = rp.toInt + ((zWds ((-1) : Int32).toInt.toNat).length : Nat))) from by (have h10 : i_4.toInt.toNat = 10 := (by omega); have z1 := hvi_4_1; have z2 := hvi_4_2; rw [h10] at z1 z2; exact Or.inl ⟨z1, by decide, by omega⟩)), ⟨by decide, by decide⟩⟩, zRet ht hP hD [0, 1] (by decide) rfl⟩, hS.F ht⟩) hS.2.2 dX3_readWord_63
    · exfalso; have fc_2 : i_4.toInt < 10 := zf_nle c_2 (by decide) rfl; omega
  | succ nfu ih =>
    intro i_4 v_1 H locs ls hP hD hS hl hbv_1 hvi_4_0 hvi_4_1 hvi_4_2 hvi_4_3 hloi_4 hni_4
    refine lv_iload_n hx hb dX3_readWord_4 rfl (lv_at hl 0 rfl) ?_
    refine lv_bipush (v := 10) hx hb dX3_readWord_5 (by decide) ?_
    refine lv_icmp_ge (tgt := 52) hx hb dX3_readWord_7 (by decide) (fun c_4 => ?_) (fun c_4 => ?_)
    · have fc_4 : 10 ≤ i_4.toInt := zf_le c_4 (by decide) rfl
      refine lv_aload_n hx hb dX3_readWord_52 rfl (lv_at hl 2 rfl) ?_
      refine lv_aload_n hx hb dX3_readWord_53 rfl (lv_at hl 2 rfl) ?_
      refine va_get (D := D) (ci := 3) (v := .int rp) (C := RX3) (T := TX3) (N := 8) hx hb hts hi_X3_readWord_3 hown hK hP 0 rfl rfl 4 (by decide) (hts (.fieldLink RX3 25 "TheLiningsInIt$Reader" "place" "I") (List.mem_of_getElem? (i := 5) rfl)) (fun _ h9 => h9) rfl dX3_readWord_54 ?_
      refine lv_iload_n hx hb dX3_readWord_57 rfl (lv_at hl 1 rfl) ?_
      refine lv_iadd hx hb dX3_readWord_58 ?_
      refine lv_topi (fun x_5 ex_5 => ?_)
      have qx_5 : x_5.toInt = rp.toInt + v_1.toInt := by rw [ex_5]; exact zf_add rfl rfl (by omega) (by omega)
      refine va_put (D := D) (ci := 3) (v := .int x_5) (ty := .int) (C := RX3) (T := TX3) (N := 8) hx hb hts hi_X3_readWord_3 tyX3 tyX3_ok nmX3 hown hK hP hD hS 0 rfl rfl 5 (by decide) (hts (.fieldLink RX3 28 "TheLiningsInIt$Reader" "fault" "I") (List.mem_of_getElem? (i := 6) rfl)) (fun _ h9 => h9) rfl (tyX3_ok 5 (Nat.le_of_ble_eq_true rfl)) rfl rfl (Nat.le_of_ble_eq_true rfl) dX3_readWord_59 (fun H locs hP hD hS => ?_)
      have h9R := zRe (ws' := [(rd, .inr (3, [.ref ri, .ref rl, .int rz, .int rc, .int rp, .int x_5, .int rt, .int ru])), (rl, .inl (cI, 160, .inl fl))]) hP hD rfl
      clear hP hD
      obtain ⟨hP, hD⟩ := h9R
      refine lv_iconst (v := (-1)) hx hb dX3_readWord_62 (by decide) ?_
      exact W.iret (v := (-1)) hx hb hr (fun t ht hW => ⟨⟨(-1), (rp, x_5), rfl, ⟨(show 0 ≤ rp.toInt ∧ rp.toInt ≤ 160 from ⟨hy4, hy5⟩), (show (-1) ≤ x_5.toInt ∧ x_5.toInt ≤ 160 from ⟨by omega, by omega⟩), (show rp.toInt ≤ rz.toInt from by omega), (show ((zFst fl rz.toInt rp.toInt zWds 10 = -1 ∧ ((-1) : Int32).toInt = -1 ∧ x_5.toInt = rp.toInt + (zMx fl rz.toInt rp.toInt zWds 10 : Nat)) ∨ (zFst fl rz.toInt rp.toInt zWds 10 = 3 ∧ ru.toInt = 8 ∧ ((-1) : Int32).toInt = -1 ∧ x_5.toInt = rp.toInt) ∨ (zFst fl rz.toInt rp.toInt zWds 10 = ((-1) : Int32).toInt ∧ 0 ≤ ((-1) : Int32).toInt ∧ ¬ (((-1) : Int32).toInt = 3 ∧ ru.toInt = 8) ∧ x_5.toInt = rf.toInt ∧ rp.toInt = rp.toInt + ((zWds ((-1) : Int32).toInt.toNat).length : Nat))) from by (have h10 : i_4.toInt.toNat = 10 := (by omega); have z1 := hvi_4_1; have z2 := hvi_4_2; rw [h10] at z1 z2; exact Or.inl ⟨z1, by decide, by omega⟩)), ⟨by decide, by decide⟩⟩, zRet ht hP hD [0, 1] (by decide) rfl⟩, hS.F ht⟩) hS.2.2 dX3_readWord_63
    · have fc_4 : i_4.toInt < 10 := zf_nle c_4 (by decide) rfl
      refine lv_iload_n hx hb dX3_readWord_10 rfl (lv_at hl 0 rfl) ?_
      refine zc_Sq (As := [.int i_4]) (rest := []) ⟨hx, hb, hml, hown, hts⟩ (c_R_wordAt l D cI cJ cZ cP cS po (i_4) (by omega) (by omega)) (va_cwS 1 hts gX3_readWord_X3_wordAt rfl rfl rfl dh_X3_wordAt ⟨Nat.le_of_ble_eq_true rfl, Nat.le_of_ble_eq_true rfl⟩) hK hN (hZ.kept hS) rfl hl.1 rfl (Nat.le_of_ble_eq_true rfl) dX3_readWord_11 ⟨Nat.le_of_ble_eq_true rfl, Nat.le_of_ble_eq_true rfl⟩ (fun r_6 hr_6 => ?_)
      obtain ⟨i_7, hi_7, hwi_7, rfl⟩ := hr_6
      refine W.eq (g2 := F0 m 14 ls (.ref (po.2.1 i_7) :: [])) rfl ?_
      refine lv_astore_n (lv' := [(3, .ref (po.2.1 i_7)), (2, .int i_4), (1, .int v_1), (0, .ref rd)]) hx hb dX3_readWord_14 rfl hl (by decide) rfl (fun ls hl => ?_)
      refine lv_aload_n hx hb dX3_readWord_15 rfl (lv_at hl 3 rfl) ?_
      refine lv_aload_n hx hb dX3_readWord_16 rfl (lv_at hl 0 rfl) ?_
      skip
      refine zw_V (As := [.ref (po.2.1 i_7)]) (rest := []) (wr := []) ⟨hx, hb, hml, hown, hts⟩ (c_F_R_letters l D cI cJ cZ cP cS po rd ri rl (rz) (rc) (rp) (rf) (rt) (ru) fl i_7 hy0 hy1 hy2 hy3 hy4 hy5 (by omega) hy7 hy8 hy9 hy10 hy11 hy12 hi_7 H.size) (cwV 1 hts gX3_readWord_X3_lettersStanding rfl rfl rfl ⟨rfl, dh_X3_lettersStanding⟩ ⟨Nat.le_of_ble_eq_true rfl, Nat.le_of_ble_eq_true rfl⟩) hK hN (hZ.kept hS) hP hD hS hA [0, 1] [] rfl rfl (by decide) (by decide) (by decide) (va_recv (q := (RX3, TX3, 8)) hK hP (ci := 3) (q0 := 0) rfl rfl) rfl hl.1 rfl (Nat.le_of_ble_eq_true rfl) dX3_readWord_17 ⟨Nat.le_of_ble_eq_true rfl, Nat.le_of_ble_eq_true rfl⟩ (fun r_8 u_9 H locs hr_8 hP hD hS => ?_)
      obtain ⟨hsr_8_0, hsr_8_1, hr_8⟩ := hr_8
      have h9R := zRe (ws' := [(rd, .inr (3, [.ref ri, .ref rl, .int rz, .int rc, .int rp, .int rf, .int rt, .int ru])), (rl, .inl (cI, 160, .inl fl))]) hP hD rfl
      clear hP hD
      obtain ⟨hP, hD⟩ := h9R
      obtain ⟨g_10, g_11⟩ := hr_8
      refine lv_istore (lv' := [(4, .int r_8), (3, .ref (po.2.1 i_7)), (2, .int i_4), (1, .int v_1), (0, .ref rd)]) hx hb dX3_readWord_20 hl (by decide) rfl (fun ls hl => ?_)
      refine lv_iload hx hb dX3_readWord_22 (lv_at hl 0 rfl) ?_
      refine lv_aload_n hx hb dX3_readWord_24 rfl (lv_at hl 1 rfl) ?_
      refine zc_V (As := []) (rest := [.int r_8]) ⟨hx, hb, hml, hown, hts⟩ (c_S_length l D cI cJ cZ cP cS po i_7 hi_7) (cwV 0 hts gX3_readWord_J0_length_8abf5 rfl rfl rfl ⟨rfl, dh_J0_length_8abf5⟩ ⟨Nat.le_of_ble_eq_true rfl, Nat.le_of_ble_eq_true rfl⟩) hK hN (hZ.kept hS) hP zP_nil (vk_recv hZ.2.2.1 hi_7 hS) rfl hl.1 rfl (Nat.le_of_ble_eq_true rfl) dX3_readWord_25 ⟨Nat.le_of_ble_eq_true rfl, Nat.le_of_ble_eq_true rfl⟩ (fun r_12 hr_12 => ?_)
      obtain ⟨g_13, g_14, hsr_12_0⟩ := hr_12
      refine lv_icmp_ne (tgt := 39) hx hb dX3_readWord_28 (by decide) (fun c_15 => ?_) (fun c_15 => ?_)
      · have fc_15 : r_8.toInt ≠ r_12.toInt := zf_ne c_15 rfl rfl
        refine lv_iload_n hx hb dX3_readWord_39 rfl (lv_at hl 3 rfl) ?_
        refine lv_iload hx hb dX3_readWord_40 (lv_at hl 0 rfl) ?_
        refine va_mmax hx hb (hml.trans hl.1.symm) hown (hts (.methodLink RX3 98 Lib.Math.max.name) (List.mem_of_getElem? (i := 1) rfl)) (hts _ (List.mem_of_getElem? (i := 2) rfl)) (hts _ (List.mem_of_getElem? (i := 3) rfl)) (hts _ (List.mem_of_getElem? (i := 4) rfl)) (Nat.le_of_ble_eq_true rfl) (Nat.le_of_ble_eq_true rfl) (Nat.le_of_ble_eq_true rfl) (Nat.le_of_ble_eq_true rfl) dX3_readWord_42 ?_
        refine lv_topi (fun x_16 ex_16 => ?_)
        have qx_16 := zf_max ex_16 (x1 := v_1.toInt) (y1 := r_8.toInt) rfl rfl
        refine lv_istore_n (lv' := [(1, .int x_16), (4, .int r_8), (3, .ref (po.2.1 i_7)), (2, .int i_4), (0, .ref rd)]) hx hb dX3_readWord_45 rfl hl (by decide) rfl (fun ls hl => ?_)
        obtain ⟨x_17, ex_17⟩ : ∃ y : Int32, y = i_4 + 1 := ⟨_, rfl⟩
        have qx_17 : x_17.toInt = i_4.toInt + 1 := dw_incK ex_17 fc_4 (by decide)
        refine lv_iinc (v := x_17) (lv' := [(2, .int x_17), (1, .int x_16), (4, .int r_8), (3, .ref (po.2.1 i_7)), (0, .ref rd)]) hx hb dX3_readWord_46 hl (k := 3) rfl ex_17.symm (by decide) rfl (fun ls hl => ?_)
        refine lv_goto (tgt := 4) hx hb dX3_readWord_49 (by decide) ?_
        exact ih x_17 x_16 _ _ _ (hP.sub [0, 1] rfl) (hD.sub [0, 1] (by decide) rfl) hS (lv_sub hl [0, 1, 4] rfl) ⟨by omega, by omega⟩ (show rp.toInt + (x_16 : Int32).toInt ≤ rz.toInt from by omega) (show zFst fl rz.toInt rp.toInt zWds x_17.toInt.toNat = -1 from by exact zRW_S hi_7 hwi_7 hvi_4_1 hsr_8_1 hsr_12_0 (by omega) (by omega)) (show (x_16 : Int32).toInt = (zMx fl rz.toInt rp.toInt zWds x_17.toInt.toNat : Nat) from by exact zRW_M hwi_7 hsr_8_1 (by omega) hvi_4_2 (by omega)) (show x_17.toInt ≤ 10 from by omega) (dw_lo hloi_4 qx_17) (dw_hn hni_4 qx_17)
      · have fc_15 : r_8.toInt = r_12.toInt := zf_eq c_15 rfl rfl
        refine lv_aload_n hx hb dX3_readWord_31 rfl (lv_at hl 4 rfl) ?_
        refine lv_iload_n hx hb dX3_readWord_32 rfl (lv_at hl 2 rfl) ?_
        refine lv_iload hx hb dX3_readWord_33 (lv_at hl 0 rfl) ?_
        skip
        refine zw_V (As := [.int i_4, .int r_8]) (rest := []) (wr := [(rl, .inl (cI, 160, .inl fl))]) ⟨hx, hb, hml, hown, hts⟩ (c_F_R_takeWord l D cI cJ cZ cP cS po rd ri rl (rz) (rc) (rp) (rf) (rt) (ru) (i_4) (r_8) hy0 hy1 hy2 hy3 hy4 hy5 (by omega) hy7 hy8 hy9 hy10 hy11 hy12 (by omega) (by omega) (by omega) (by omega) (by omega) H.size) (cwV 2 hts gX3_readWord_X3_takeWord rfl rfl rfl ⟨rfl, dh_X3_takeWord⟩ ⟨Nat.le_of_ble_eq_true rfl, Nat.le_of_ble_eq_true rfl⟩) hK hN (hZ.kept hS) hP hD hS hA [0] [1] rfl rfl (by decide) (by decide) (by decide) (va_recv (q := (RX3, TX3, 8)) hK hP (ci := 3) (q0 := 0) rfl rfl) rfl hl.1 rfl (Nat.le_of_ble_eq_true rfl) dX3_readWord_35 ⟨Nat.le_of_ble_eq_true rfl, Nat.le_of_ble_eq_true rfl⟩ (fun r_18 u_19 H locs hr_18 hP hD hS => ?_)
        obtain ⟨q_20, q_21⟩ := u_19
        try dsimp only at hr_18
        obtain ⟨hbq_20, hbq_21, hsr_18_0, hsr_18_1, hr_18⟩ := hr_18
        have h9R := zRe (ws' := [(rl, .inl (cI, 160, .inl fl)), (rd, .inr (3, [.ref ri, .ref rl, .int rz, .int rc, .int q_20, .int q_21, .int rt, .int ru]))]) hP hD rfl
        clear hP hD
        obtain ⟨hP, hD⟩ := h9R
        obtain ⟨g_22, g_23⟩ := hr_18
        exact W.iret (v := r_18) hx hb hr (fun t ht hW => ⟨⟨r_18, (q_20, q_21), rfl, ⟨(show 0 ≤ q_20.toInt ∧ q_20.toInt ≤ 160 from hbq_20), (show (-1) ≤ q_21.toInt ∧ q_21.toInt ≤ 160 from hbq_21), (show q_20.toInt ≤ rz.toInt from by omega), (show ((zFst fl rz.toInt rp.toInt zWds 10 = -1 ∧ (r_18 : Int32).toInt = -1 ∧ q_21.toInt = rp.toInt + (zMx fl rz.toInt rp.toInt zWds 10 : Nat)) ∨ (zFst fl rz.toInt rp.toInt zWds 10 = 3 ∧ ru.toInt = 8 ∧ (r_18 : Int32).toInt = -1 ∧ q_21.toInt = rp.toInt) ∨ (zFst fl rz.toInt rp.toInt zWds 10 = (r_18 : Int32).toInt ∧ 0 ≤ (r_18 : Int32).toInt ∧ ¬ ((r_18 : Int32).toInt = 3 ∧ ru.toInt = 8) ∧ q_21.toInt = rf.toInt ∧ q_20.toInt = rp.toInt + ((zWds (r_18 : Int32).toInt.toNat).length : Nat))) from by exact zRW hi_7 hwi_7 hvi_4_1 hsr_8_1 hsr_12_0 (by omega) (by omega)), ⟨by omega, by omega⟩⟩, zRet ht hP hD [1, 0] (by decide) rfl⟩, hS.F ht⟩) hS.2.2 dX3_readWord_38
set_option maxHeartbeats 4000000 in
set_option maxRecDepth 100000 in
theorem c_F_R_expect (l : Launch) (D : va_G) (cI cJ cZ cP cS : ClassId) (po : zPool) (rd ri rl : Nat) (rz rc rp rf rt ru : Int32) (fl : Nat → Int32) (ch : Int32) (hy0 : 0 ≤ rz.toInt) (hy1 : rz.toInt ≤ 160) (hy2 : 0 ≤ rc.toInt) (hy3 : rc.toInt ≤ 40) (hy4 : 0 ≤ rp.toInt) (hy5 : rp.toInt ≤ 160) (hy6 : rp.toInt ≤ rz.toInt) (hy7 : (-1) ≤ rf.toInt) (hy8 : rf.toInt ≤ 160) (hy9 : 0 ≤ rt.toInt) (hy10 : rt.toInt ≤ 40) (hy11 : 0 ≤ ru.toInt) (hy12 : ru.toInt ≤ 8) (hpz : Nat) : Met l yX3_expect wsX3_expect ({ frames := 1, cells := 0, slots := 0, locals := 22 }) (va_Pc [.ref rd, .int ch] (zW D (zKT cI cJ cZ cP cS) po [(rd, .inr (3, [.ref ri, .ref rl, .int rz, .int rc, .int rp, .int rf, .int rt, .int ru])), (rl, .inl (cI, 160, .inl fl))] hpz)) (va_Qv (fun (u : (Int32) × (Int32)) => (0 ≤ u.1.toInt ∧ u.1.toInt ≤ 160) ∧ ((-1) ≤ u.2.toInt ∧ u.2.toInt ≤ 160) ∧ (u.1.toInt ≤ rz.toInt) ∧ (((rp.toInt < rz.toInt ∧ (fl rp.toInt.toNat).toInt = ch.toInt ∧ u.1.toInt = rp.toInt + 1 ∧ u.2.toInt = rf.toInt) ∨ (¬ (rp.toInt < rz.toInt ∧ (fl rp.toInt.toNat).toInt = ch.toInt) ∧ u.2.toInt = rp.toInt ∧ u.1.toInt = rp.toInt))) ∧ (True)) (zB D [(rd, .inr (3, [.ref ri, .ref rl, .int rz, .int rc, .int rp, .int rf, .int rt, .int ru])), (rl, .inl (cI, 160, .inl fl))] hpz (fun (u : (Int32) × (Int32)) => [(rd, .inr (3, [.ref ri, .ref rl, .int rz, .int rc, .int u.1, .int u.2, .int rt, .int ru])), (rl, .inl (cI, 160, .inl fl))])) (va_A [(rd, .inr (3, [.ref ri, .ref rl, .int rz, .int rc, .int rp, .int rf, .int rt, .int ru])), (rl, .inl (cI, 160, .inl fl))] hpz)) 0 0 (va_A [(rd, .inr (3, [.ref ri, .ref rl, .int rz, .int rc, .int rp, .int rf, .int rt, .int ru])), (rl, .inl (cI, 160, .inl fl))] hpz) := by
  refine Met.ofW (cc := cX3_expect) (maxL := 2) (ret := none) (by decide) rfl ?_
  intro p e s m args below meth c s₁ B hml hv
  obtain ⟨rfl, hsz, hP, hK, hD0, hN, hZ⟩ := hv
  have hx := B.exec
  have hb := B.bytes
  have hr := B.returns
  have hts := atoms_spec (ws := wsX3_expect) B.pre
  have hown : s.vm.findClass RX3 = some m.cls := findClass_of_methodNamed B.named
  have hlocks := B.notSynchronized
  subst hsz
  have hD := hD0.self (sz := s.heap.size)
  have hA := zA_of hD
  have hl := lv_entry ([.ref rd, .int ch]) (n := 2) (Nat.le_of_ble_eq_true rfl)
  rw [lg_entry_eq]
  generalize (lg_sl ([.ref rd, .int ch]) ++ List.replicate (2 - (lg_sl ([.ref rd, .int ch])).length) Slot.unset).toArray = ls at hl ⊢
  replace hl : lv_has ls 2 [(0, .ref rd), (1, .int ch)] := hl
  refine zw_begin hP hD (fun H locs hP1 hS => ?_)
  clear hP
  have hP := hP1
  clear hP1
  refine lv_aload_n hx hb dX3_expect_0 rfl (lv_at hl 0 rfl) ?_
  refine lv_aload_n hx hb dX3_expect_1 rfl (lv_at hl 0 rfl) ?_
  refine va_get (D := D) (ci := 3) (v := .int rp) (C := RX3) (T := TX3) (N := 8) hx hb hts hi_X3_expect_3 hown hK hP 0 rfl rfl 4 (by decide) (hts (.fieldLink RX3 25 "TheLiningsInIt$Reader" "place" "I") (List.mem_of_getElem? (i := 1) rfl)) (fun _ h9 => h9) rfl dX3_expect_2 ?_
  refine lv_iload_n hx hb dX3_expect_5 rfl (lv_at hl 1 rfl) ?_
  refine zc_V (As := [.int rp, .int ch]) (rest := []) ⟨hx, hb, hml, hown, hts⟩ (c_R_stands l D cI cJ cZ cP cS po rd ri rl (rz) (rc) (rp) (rf) (rt) (ru) fl (rp) (ch) hy0 hy1 hy2 hy3 hy4 hy5 (by omega) hy7 hy8 hy9 hy10 hy11 hy12) (cwV 2 hts gX3_expect_X3_stands rfl rfl rfl ⟨rfl, dh_X3_stands⟩ ⟨Nat.le_of_ble_eq_true rfl, Nat.le_of_ble_eq_true rfl⟩) hK hN (hZ.kept hS) hP (hP.sub [0, 1] rfl) (va_recv (q := (RX3, TX3, 8)) hK hP (ci := 3) (q0 := 0) rfl rfl) rfl hl.1 rfl (Nat.le_of_ble_eq_true rfl) dX3_expect_6 ⟨Nat.le_of_ble_eq_true rfl, Nat.le_of_ble_eq_true rfl⟩ (fun r_1 hr_1 => ?_)
  obtain ⟨g_2, g_3, hsr_1_0, hsr_1_1⟩ := hr_1
  refine lv_if_eq (tgt := 25) hx hb dX3_expect_9 (by decide) (fun c_4 => ?_) (fun c_4 => ?_)
  · have fc_4 : r_1.toInt = 0 := zf_eq c_4 rfl (by decide)
    refine lv_aload_n hx hb dX3_expect_25 rfl (lv_at hl 0 rfl) ?_
    refine lv_aload_n hx hb dX3_expect_26 rfl (lv_at hl 0 rfl) ?_
    refine va_get (D := D) (ci := 3) (v := .int rp) (C := RX3) (T := TX3) (N := 8) hx hb hts hi_X3_expect_3 hown hK hP 0 rfl rfl 4 (by decide) (hts (.fieldLink RX3 25 "TheLiningsInIt$Reader" "place" "I") (List.mem_of_getElem? (i := 1) rfl)) (fun _ h9 => h9) rfl dX3_expect_27 ?_
    refine va_put (D := D) (ci := 3) (v := .int rp) (ty := .int) (C := RX3) (T := TX3) (N := 8) hx hb hts hi_X3_expect_3 tyX3 tyX3_ok nmX3 hown hK hP hD hS 0 rfl rfl 5 (by decide) (hts (.fieldLink RX3 28 "TheLiningsInIt$Reader" "fault" "I") (List.mem_of_getElem? (i := 2) rfl)) (fun _ h9 => h9) rfl (tyX3_ok 5 (Nat.le_of_ble_eq_true rfl)) rfl rfl (Nat.le_of_ble_eq_true rfl) dX3_expect_30 (fun H locs hP hD hS => ?_)
    have h9R := zRe (ws' := [(rd, .inr (3, [.ref ri, .ref rl, .int rz, .int rc, .int rp, .int rp, .int rt, .int ru])), (rl, .inl (cI, 160, .inl fl))]) hP hD rfl
    clear hP hD
    obtain ⟨hP, hD⟩ := h9R
    exact W.vret hx hb hr (fun t ht hW => ⟨⟨(rp, rp), rfl, ⟨(show 0 ≤ rp.toInt ∧ rp.toInt ≤ 160 from ⟨hy4, hy5⟩), (show (-1) ≤ rp.toInt ∧ rp.toInt ≤ 160 from ⟨by omega, hy5⟩), (show rp.toInt ≤ rz.toInt from by omega), (show ((rp.toInt < rz.toInt ∧ (fl rp.toInt.toNat).toInt = ch.toInt ∧ rp.toInt = rp.toInt + 1 ∧ rp.toInt = rf.toInt) ∨ (¬ (rp.toInt < rz.toInt ∧ (fl rp.toInt.toNat).toInt = ch.toInt) ∧ rp.toInt = rp.toInt ∧ rp.toInt = rp.toInt)) from by first | exact Or.inl ⟨(zSt_yes hsr_1_1 (by omega)).1, (zSt_yes hsr_1_1 (by omega)).2, by omega, by omega⟩ | exact Or.inr ⟨zSt_no hsr_1_1 (by omega) (by omega), by omega, by omega⟩), trivial⟩, zRet ht hP hD [0, 1] (by decide) rfl⟩, hS.F ht⟩) hS.2.2 dX3_expect_33
  · have fc_4 : r_1.toInt ≠ 0 := zf_ne c_4 rfl (by decide)
    refine lv_aload_n hx hb dX3_expect_12 rfl (lv_at hl 0 rfl) ?_
    refine lv_dup hx hb dX3_expect_13 rfl ?_
    refine va_get (D := D) (ci := 3) (v := .int rp) (C := RX3) (T := TX3) (N := 8) hx hb hts hi_X3_expect_3 hown hK hP 0 rfl rfl 4 (by decide) (hts (.fieldLink RX3 25 "TheLiningsInIt$Reader" "place" "I") (List.mem_of_getElem? (i := 1) rfl)) (fun _ h9 => h9) rfl dX3_expect_14 ?_
    refine lv_iconst (v := 1) hx hb dX3_expect_17 (by decide) ?_
    refine lv_iadd hx hb dX3_expect_18 ?_
    refine lv_topi (fun x_5 ex_5 => ?_)
    have qx_5 : x_5.toInt = rp.toInt + 1 := by rw [ex_5]; exact zf_add rfl (by decide) (by omega) (by omega)
    refine va_put (D := D) (ci := 3) (v := .int x_5) (ty := .int) (C := RX3) (T := TX3) (N := 8) hx hb hts hi_X3_expect_3 tyX3 tyX3_ok nmX3 hown hK hP hD hS 0 rfl rfl 4 (by decide) (hts (.fieldLink RX3 25 "TheLiningsInIt$Reader" "place" "I") (List.mem_of_getElem? (i := 1) rfl)) (fun _ h9 => h9) rfl (tyX3_ok 4 (Nat.le_of_ble_eq_true rfl)) rfl rfl (Nat.le_of_ble_eq_true rfl) dX3_expect_19 (fun H locs hP hD hS => ?_)
    have h9R := zRe (ws' := [(rd, .inr (3, [.ref ri, .ref rl, .int rz, .int rc, .int x_5, .int rf, .int rt, .int ru])), (rl, .inl (cI, 160, .inl fl))]) hP hD rfl
    clear hP hD
    obtain ⟨hP, hD⟩ := h9R
    refine lv_goto (tgt := 33) hx hb dX3_expect_22 (by decide) ?_
    exact W.vret hx hb hr (fun t ht hW => ⟨⟨(x_5, rf), rfl, ⟨(show 0 ≤ x_5.toInt ∧ x_5.toInt ≤ 160 from ⟨by omega, by omega⟩), (show (-1) ≤ rf.toInt ∧ rf.toInt ≤ 160 from ⟨hy7, hy8⟩), (show x_5.toInt ≤ rz.toInt from by omega), (show ((rp.toInt < rz.toInt ∧ (fl rp.toInt.toNat).toInt = ch.toInt ∧ x_5.toInt = rp.toInt + 1 ∧ rf.toInt = rf.toInt) ∨ (¬ (rp.toInt < rz.toInt ∧ (fl rp.toInt.toNat).toInt = ch.toInt) ∧ rf.toInt = rp.toInt ∧ x_5.toInt = rp.toInt)) from by first | exact Or.inl ⟨(zSt_yes hsr_1_1 (by omega)).1, (zSt_yes hsr_1_1 (by omega)).2, by omega, by omega⟩ | exact Or.inr ⟨zSt_no hsr_1_1 (by omega) (by omega), by omega, by omega⟩), trivial⟩, zRet ht hP hD [0, 1] (by decide) rfl⟩, hS.F ht⟩) hS.2.2 dX3_expect_33
set_option maxHeartbeats 4000000 in
set_option maxRecDepth 100000 in
theorem c_F_R_readNumber (l : Launch) (D : va_G) (cI cJ cZ cP cS : ClassId) (po : zPool) (rd ri rl : Nat) (rz rc rp rf rt ru : Int32) (fl : Nat → Int32) (lo hi : Int32) (hy0 : 0 ≤ rz.toInt) (hy1 : rz.toInt ≤ 160) (hy2 : 0 ≤ rc.toInt) (hy3 : rc.toInt ≤ 40) (hy4 : 0 ≤ rp.toInt) (hy5 : rp.toInt ≤ 160) (hy6 : rp.toInt ≤ rz.toInt) (hy7 : (-1) ≤ rf.toInt) (hy8 : rf.toInt ≤ 160) (hy9 : 0 ≤ rt.toInt) (hy10 : rt.toInt ≤ 40) (hy11 : 0 ≤ ru.toInt) (hy12 : ru.toInt ≤ 8) (hpz : Nat) : Met l yX3_readNumber wsX3_readNumber ({ frames := 1, cells := 0, slots := 0, locals := 22 }) (va_Pc [.ref rd, .int lo, .int hi] (zW D (zKT cI cJ cZ cP cS) po [(rd, .inr (3, [.ref ri, .ref rl, .int rz, .int rc, .int rp, .int rf, .int rt, .int ru])), (rl, .inl (cI, 160, .inl fl))] hpz)) (va_Qi (fun (r : Int32) (u : (Int32) × (Int32)) => (0 ≤ u.1.toInt ∧ u.1.toInt ≤ 160) ∧ ((-1) ≤ u.2.toInt ∧ u.2.toInt ≤ 160) ∧ (u.1.toInt ≤ rz.toInt) ∧ (u.1.toInt = zNe fl rz.toInt rp.toInt) ∧ (r.toInt = zNv fl rp.toInt u.1.toInt) ∧ (((u.2.toInt = rp.toInt ∧ (u.1.toInt = rp.toInt ∨ r.toInt < lo.toInt ∨ hi.toInt < r.toInt)) ∨ (u.2.toInt = rf.toInt ∧ u.1.toInt ≠ rp.toInt ∧ lo.toInt ≤ r.toInt ∧ r.toInt ≤ hi.toInt))) ∧ (0 ≤ r.toInt ∧ r.toInt ≤ 999)) (zB D [(rd, .inr (3, [.ref ri, .ref rl, .int rz, .int rc, .int rp, .int rf, .int rt, .int ru])), (rl, .inl (cI, 160, .inl fl))] hpz (fun (u : (Int32) × (Int32)) => [(rd, .inr (3, [.ref ri, .ref rl, .int rz, .int rc, .int u.1, .int u.2, .int rt, .int ru])), (rl, .inl (cI, 160, .inl fl))])) (va_A [(rd, .inr (3, [.ref ri, .ref rl, .int rz, .int rc, .int rp, .int rf, .int rt, .int ru])), (rl, .inl (cI, 160, .inl fl))] hpz)) 0 0 (va_A [(rd, .inr (3, [.ref ri, .ref rl, .int rz, .int rc, .int rp, .int rf, .int rt, .int ru])), (rl, .inl (cI, 160, .inl fl))] hpz) := by
  refine Met.ofW (cc := cX3_readNumber) (maxL := 5) (ret := (some .int)) (by decide) rfl ?_
  intro p e s m args below meth c s₁ B hml hv
  obtain ⟨rfl, hsz, hP, hK, hD0, hN, hZ⟩ := hv
  have hx := B.exec
  have hb := B.bytes
  have hr := B.returns
  have hts := atoms_spec (ws := wsX3_readNumber) B.pre
  have hown : s.vm.findClass RX3 = some m.cls := findClass_of_methodNamed B.named
  have hlocks := B.notSynchronized
  subst hsz
  have hD := hD0.self (sz := s.heap.size)
  have hA := zA_of hD
  have hl := lv_entry ([.ref rd, .int lo, .int hi]) (n := 5) (Nat.le_of_ble_eq_true rfl)
  rw [lg_entry_eq]
  generalize (lg_sl ([.ref rd, .int lo, .int hi]) ++ List.replicate (5 - (lg_sl ([.ref rd, .int lo, .int hi])).length) Slot.unset).toArray = ls at hl ⊢
  replace hl : lv_has ls 5 [(0, .ref rd), (1, .int lo), (2, .int hi)] := hl
  refine zw_begin hP hD (fun H locs hP1 hS => ?_)
  clear hP
  have hP := hP1
  clear hP1
  refine lv_aload_n hx hb dX3_readNumber_0 rfl (lv_at hl 0 rfl) ?_
  refine va_get (D := D) (ci := 3) (v := .int rp) (C := RX3) (T := TX3) (N := 8) hx hb hts hi_X3_readNumber_3 hown hK hP 0 rfl rfl 4 (by decide) (hts (.fieldLink RX3 25 "TheLiningsInIt$Reader" "place" "I") (List.mem_of_getElem? (i := 1) rfl)) (fun _ h9 => h9) rfl dX3_readNumber_1 ?_
  refine lv_istore_n (lv' := [(3, .int rp), (0, .ref rd), (1, .int lo), (2, .int hi)]) hx hb dX3_readNumber_4 rfl hl (by decide) rfl (fun ls hl => ?_)
  refine lv_iconst (v := 0) hx hb dX3_readNumber_5 (by decide) ?_
  refine lv_istore (lv' := [(4, .int 0), (3, .int rp), (0, .ref rd), (1, .int lo), (2, .int hi)]) hx hb dX3_readNumber_6 hl (by decide) rfl (fun ls hl => ?_)
  obtain ⟨i_8, hi_8⟩ : ∃ i : Int32, i = rp := ⟨_, rfl⟩
  replace hl : lv_has ls 5 [(4, .int 0), (3, .int rp), (0, .ref rd), (1, .int lo), (2, .int hi)] := lv_sub hl [0, 1, 2, 3, 4] rfl
  replace hP : va_P D vwCl [(rd, .inr (3, [.ref ri, .ref rl, .int rz, .int rc, .int i_8, .int rf, .int rt, .int ru])), (rl, .inl (cI, 160, .inl fl))] H := by rw [hi_8]; exact hP
  replace hD : va_D (va_A [(rd, .inr (3, [.ref ri, .ref rl, .int rz, .int rc, .int rp, .int rf, .int rt, .int ru])), (rl, .inl (cI, 160, .inl fl))] s.heap.size) [(rd, .inr (3, [.ref ri, .ref rl, .int rz, .int rc, .int i_8, .int rf, .int rt, .int ru])), (rl, .inl (cI, 160, .inl fl))] := by rw [hi_8]; exact hD
  have h1i_8 : i_8.toInt = rp.toInt := by rw [hi_8]
  obtain ⟨nfu, hni_8⟩ : ∃ nq9 : Nat, rz.toInt ≤ i_8.toInt + (nq9 : Int) := ⟨((rz.toInt : Int) - rp.toInt).toNat, by omega⟩
  have hloi_8 : 0 ≤ i_8.toInt := by omega
  obtain ⟨v_1, hv_1⟩ : ∃ g : Int32, g = 0 := ⟨_, rfl⟩
  replace hl : lv_has ls 5 [(4, .int v_1), (3, .int rp), (0, .ref rd), (1, .int lo), (2, .int hi)] := by rw [hv_1]; exact hl
  have hbv_1 : 0 ≤ v_1.toInt ∧ v_1.toInt ≤ 999 := by rw [hv_1]; exact ⟨by decide, by decide⟩
  have hvi_8_0 : rp.toInt ≤ i_8.toInt ∧ i_8.toInt ≤ rz.toInt := by
    (try rw [hi_8]); (try rw [hv_1]); exact ⟨by omega, by omega⟩
  have hvi_8_1 : i_8.toInt ≤ rp.toInt + 3 := by
    (try rw [hi_8]); (try rw [hv_1]); omega
  have hvi_8_2 : (∀ j : Int, rp.toInt ≤ j → j < i_8.toInt → zDg fl rz.toInt j) := by
    (try rw [hi_8]); (try rw [hv_1]); (intro j h1 h2; exfalso; omega)
  have hvi_8_3 : (v_1 : Int32).toInt = zNv fl rp.toInt i_8.toInt := by
    (try rw [hi_8]); (try rw [hv_1]); (rw [show ((0 : Int32).toInt) = 0 from by decide]; exact zNv_0.symm)
  have hvi_8_4 : (i_8.toInt = rp.toInt → (v_1 : Int32).toInt = 0) ∧ (i_8.toInt ≤ rp.toInt + 1 → (v_1 : Int32).toInt ≤ 9) ∧ (i_8.toInt ≤ rp.toInt + 2 → (v_1 : Int32).toInt ≤ 99) := by
    (try rw [hi_8]); (try rw [hv_1]); (have k0 : (0 : Int32).toInt = 0 := (by decide); omega)
  clear h1i_8 hi_8 hv_1
  skip
  revert hni_8
  revert hloi_8
  revert hvi_8_4
  revert hvi_8_3
  revert hvi_8_2
  revert hvi_8_1
  revert hvi_8_0
  revert hbv_1
  revert hl
  revert hS
  revert hD
  revert hP
  revert ls
  revert locs
  revert H
  revert v_1
  revert i_8
  induction nfu with
  | zero =>
    intro i_8 v_1 H locs ls hP hD hS hl hbv_1 hvi_8_0 hvi_8_1 hvi_8_2 hvi_8_3 hvi_8_4 hloi_8 hni_8
    have hzi_8 : rz.toInt ≤ i_8.toInt := by omega
    refine lv_aload_n hx hb dX3_readNumber_8 rfl (lv_at hl 2 rfl) ?_
    refine va_get (D := D) (ci := 3) (v := .int i_8) (C := RX3) (T := TX3) (N := 8) hx hb hts hi_X3_readNumber_3 hown hK hP 0 rfl rfl 4 (by decide) (hts (.fieldLink RX3 25 "TheLiningsInIt$Reader" "place" "I") (List.mem_of_getElem? (i := 1) rfl)) (fun _ h9 => h9) rfl dX3_readNumber_9 ?_
    refine lv_aload_n hx hb dX3_readNumber_12 rfl (lv_at hl 2 rfl) ?_
    refine va_get (D := D) (ci := 3) (v := .int rz) (C := RX3) (T := TX3) (N := 8) hx hb hts hi_X3_readNumber_3 hown hK hP 0 rfl rfl 2 (by decide) (hts (.fieldLink RX3 18 "TheLiningsInIt$Reader" "size" "I") (List.mem_of_getElem? (i := 2) rfl)) (fun _ h9 => h9) rfl dX3_readNumber_13 ?_
    refine lv_icmp_ge (tgt := 77) hx hb dX3_readNumber_16 (by decide) (fun c_2 => ?_) (fun c_2 => ?_)
    · have fc_2 : rz.toInt ≤ i_8.toInt := zf_le c_2 rfl rfl
      refine lv_aload_n hx hb dX3_readNumber_77 rfl (lv_at hl 2 rfl) ?_
      refine va_get (D := D) (ci := 3) (v := .int i_8) (C := RX3) (T := TX3) (N := 8) hx hb hts hi_X3_readNumber_3 hown hK hP 0 rfl rfl 4 (by decide) (hts (.fieldLink RX3 25 "TheLiningsInIt$Reader" "place" "I") (List.mem_of_getElem? (i := 1) rfl)) (fun _ h9 => h9) rfl dX3_readNumber_78 ?_
      refine lv_iload_n hx hb dX3_readNumber_81 rfl (lv_at hl 1 rfl) ?_
      refine lv_icmp_eq (tgt := 95) hx hb dX3_readNumber_82 (by decide) (fun c_3 => ?_) (fun c_3 => ?_)
      · have fc_3 : i_8.toInt = rp.toInt := zf_eq c_3 rfl rfl
        refine lv_aload_n hx hb dX3_readNumber_95 rfl (lv_at hl 2 rfl) ?_
        refine lv_iload_n hx hb dX3_readNumber_96 rfl (lv_at hl 1 rfl) ?_
        refine va_put (D := D) (ci := 3) (v := .int rp) (ty := .int) (C := RX3) (T := TX3) (N := 8) hx hb hts hi_X3_readNumber_3 tyX3 tyX3_ok nmX3 hown hK hP hD hS 0 rfl rfl 5 (by decide) (hts (.fieldLink RX3 28 "TheLiningsInIt$Reader" "fault" "I") (List.mem_of_getElem? (i := 4) rfl)) (fun _ h9 => h9) rfl (tyX3_ok 5 (Nat.le_of_ble_eq_true rfl)) rfl rfl (Nat.le_of_ble_eq_true rfl) dX3_readNumber_97 (fun H locs hP hD hS => ?_)
        have h9R := zRe (ws' := [(rd, .inr (3, [.ref ri, .ref rl, .int rz, .int rc, .int i_8, .int rp, .int rt, .int ru])), (rl, .inl (cI, 160, .inl fl))]) hP hD rfl
        clear hP hD
        obtain ⟨hP, hD⟩ := h9R
        refine lv_iload hx hb dX3_readNumber_100 (lv_at hl 0 rfl) ?_
        exact W.iret (v := v_1) hx hb hr (fun t ht hW => ⟨⟨v_1, (i_8, rp), rfl, ⟨(show 0 ≤ i_8.toInt ∧ i_8.toInt ≤ 160 from ⟨by omega, by omega⟩), (show (-1) ≤ rp.toInt ∧ rp.toInt ≤ 160 from ⟨by omega, hy5⟩), (show i_8.toInt ≤ rz.toInt from by omega), (show i_8.toInt = zNe fl rz.toInt rp.toInt from by first | exact (zNe_eq (by omega) (by omega) hvi_8_2 (Or.inr (fun z => by (have z1 := z.1; omega)))).symm | exact (zNe_eq (by omega) (by omega) hvi_8_2 (Or.inl (by omega))).symm), (show (v_1 : Int32).toInt = zNv fl rp.toInt i_8.toInt from by assumption), (show ((rp.toInt = rp.toInt ∧ (i_8.toInt = rp.toInt ∨ (v_1 : Int32).toInt < lo.toInt ∨ hi.toInt < (v_1 : Int32).toInt)) ∨ (rp.toInt = rf.toInt ∧ i_8.toInt ≠ rp.toInt ∧ lo.toInt ≤ (v_1 : Int32).toInt ∧ (v_1 : Int32).toInt ≤ hi.toInt)) from by omega), ⟨by omega, by omega⟩⟩, zRet ht hP hD [0, 1] (by decide) rfl⟩, hS.F ht⟩) hS.2.2 dX3_readNumber_102
      · have fc_3 : i_8.toInt ≠ rp.toInt := zf_ne c_3 rfl rfl
        refine lv_iload hx hb dX3_readNumber_85 (lv_at hl 0 rfl) ?_
        refine lv_iload_n hx hb dX3_readNumber_87 rfl (lv_at hl 3 rfl) ?_
        refine lv_iload_n hx hb dX3_readNumber_88 rfl (lv_at hl 4 rfl) ?_
        refine zc_SN (As := [.int v_1, .int lo, .int hi]) (rest := []) ⟨hx, hb, hml, hown, hts⟩ (c_within l D cI cJ cZ cP cS po (v_1) (lo) (hi) ) ⟨(va_cnB 3 hts gX3_readNumber_X7_within_n109 rfl rfl rfl (hN.1 (RX3, 109, yX7_within) (List.mem_of_getElem? (i := 8) rfl)) (hts _ (List.mem_of_getElem? (i := 10) rfl)) dh_X7_within ⟨Nat.le_of_ble_eq_true rfl, Nat.le_of_ble_eq_true rfl⟩), (hts _ (List.mem_of_getElem? (i := 9) rfl)), trivial⟩ hK hN (hZ.kept hS) rfl hl.1 rfl (Nat.le_of_ble_eq_true rfl) dX3_readNumber_89 ⟨Nat.le_of_ble_eq_true rfl, Nat.le_of_ble_eq_true rfl⟩ (fun r_4 hr_4 => ?_)
        rcases hr_4 with ⟨rfl, g_5⟩ | ⟨rfl, g_6, g_7⟩ | ⟨rfl, g_8, g_9⟩
        · refine lv_if_ne (tgt := 100) hx hb dX3_readNumber_92 (by decide) (fun c_10 => ?_) (fun c_10 => ?_)
          · exact absurd c_10 (by decide)
          · refine lv_aload_n hx hb dX3_readNumber_95 rfl (lv_at hl 2 rfl) ?_
            refine lv_iload_n hx hb dX3_readNumber_96 rfl (lv_at hl 1 rfl) ?_
            refine va_put (D := D) (ci := 3) (v := .int rp) (ty := .int) (C := RX3) (T := TX3) (N := 8) hx hb hts hi_X3_readNumber_3 tyX3 tyX3_ok nmX3 hown hK hP hD hS 0 rfl rfl 5 (by decide) (hts (.fieldLink RX3 28 "TheLiningsInIt$Reader" "fault" "I") (List.mem_of_getElem? (i := 4) rfl)) (fun _ h9 => h9) rfl (tyX3_ok 5 (Nat.le_of_ble_eq_true rfl)) rfl rfl (Nat.le_of_ble_eq_true rfl) dX3_readNumber_97 (fun H locs hP hD hS => ?_)
            have h9R := zRe (ws' := [(rd, .inr (3, [.ref ri, .ref rl, .int rz, .int rc, .int i_8, .int rp, .int rt, .int ru])), (rl, .inl (cI, 160, .inl fl))]) hP hD rfl
            clear hP hD
            obtain ⟨hP, hD⟩ := h9R
            refine lv_iload hx hb dX3_readNumber_100 (lv_at hl 0 rfl) ?_
            exact W.iret (v := v_1) hx hb hr (fun t ht hW => ⟨⟨v_1, (i_8, rp), rfl, ⟨(show 0 ≤ i_8.toInt ∧ i_8.toInt ≤ 160 from ⟨by omega, by omega⟩), (show (-1) ≤ rp.toInt ∧ rp.toInt ≤ 160 from ⟨by omega, hy5⟩), (show i_8.toInt ≤ rz.toInt from by omega), (show i_8.toInt = zNe fl rz.toInt rp.toInt from by first | exact (zNe_eq (by omega) (by omega) hvi_8_2 (Or.inr (fun z => by (have z1 := z.1; omega)))).symm | exact (zNe_eq (by omega) (by omega) hvi_8_2 (Or.inl (by omega))).symm), (show (v_1 : Int32).toInt = zNv fl rp.toInt i_8.toInt from by assumption), (show ((rp.toInt = rp.toInt ∧ (i_8.toInt = rp.toInt ∨ (v_1 : Int32).toInt < lo.toInt ∨ hi.toInt < (v_1 : Int32).toInt)) ∨ (rp.toInt = rf.toInt ∧ i_8.toInt ≠ rp.toInt ∧ lo.toInt ≤ (v_1 : Int32).toInt ∧ (v_1 : Int32).toInt ≤ hi.toInt)) from by omega), ⟨by omega, by omega⟩⟩, zRet ht hP hD [0, 1] (by decide) rfl⟩, hS.F ht⟩) hS.2.2 dX3_readNumber_102
        · refine lv_if_ne (tgt := 100) hx hb dX3_readNumber_92 (by decide) (fun c_11 => ?_) (fun c_11 => ?_)
          · exact absurd c_11 (by decide)
          · refine lv_aload_n hx hb dX3_readNumber_95 rfl (lv_at hl 2 rfl) ?_
            refine lv_iload_n hx hb dX3_readNumber_96 rfl (lv_at hl 1 rfl) ?_
            refine va_put (D := D) (ci := 3) (v := .int rp) (ty := .int) (C := RX3) (T := TX3) (N := 8) hx hb hts hi_X3_readNumber_3 tyX3 tyX3_ok nmX3 hown hK hP hD hS 0 rfl rfl 5 (by decide) (hts (.fieldLink RX3 28 "TheLiningsInIt$Reader" "fault" "I") (List.mem_of_getElem? (i := 4) rfl)) (fun _ h9 => h9) rfl (tyX3_ok 5 (Nat.le_of_ble_eq_true rfl)) rfl rfl (Nat.le_of_ble_eq_true rfl) dX3_readNumber_97 (fun H locs hP hD hS => ?_)
            have h9R := zRe (ws' := [(rd, .inr (3, [.ref ri, .ref rl, .int rz, .int rc, .int i_8, .int rp, .int rt, .int ru])), (rl, .inl (cI, 160, .inl fl))]) hP hD rfl
            clear hP hD
            obtain ⟨hP, hD⟩ := h9R
            refine lv_iload hx hb dX3_readNumber_100 (lv_at hl 0 rfl) ?_
            exact W.iret (v := v_1) hx hb hr (fun t ht hW => ⟨⟨v_1, (i_8, rp), rfl, ⟨(show 0 ≤ i_8.toInt ∧ i_8.toInt ≤ 160 from ⟨by omega, by omega⟩), (show (-1) ≤ rp.toInt ∧ rp.toInt ≤ 160 from ⟨by omega, hy5⟩), (show i_8.toInt ≤ rz.toInt from by omega), (show i_8.toInt = zNe fl rz.toInt rp.toInt from by first | exact (zNe_eq (by omega) (by omega) hvi_8_2 (Or.inr (fun z => by (have z1 := z.1; omega)))).symm | exact (zNe_eq (by omega) (by omega) hvi_8_2 (Or.inl (by omega))).symm), (show (v_1 : Int32).toInt = zNv fl rp.toInt i_8.toInt from by assumption), (show ((rp.toInt = rp.toInt ∧ (i_8.toInt = rp.toInt ∨ (v_1 : Int32).toInt < lo.toInt ∨ hi.toInt < (v_1 : Int32).toInt)) ∨ (rp.toInt = rf.toInt ∧ i_8.toInt ≠ rp.toInt ∧ lo.toInt ≤ (v_1 : Int32).toInt ∧ (v_1 : Int32).toInt ≤ hi.toInt)) from by omega), ⟨by omega, by omega⟩⟩, zRet ht hP hD [0, 1] (by decide) rfl⟩, hS.F ht⟩) hS.2.2 dX3_readNumber_102
        · refine lv_if_ne (tgt := 100) hx hb dX3_readNumber_92 (by decide) (fun c_12 => ?_) (fun c_12 => ?_)
          · refine lv_iload hx hb dX3_readNumber_100 (lv_at hl 0 rfl) ?_
            exact W.iret (v := v_1) hx hb hr (fun t ht hW => ⟨⟨v_1, (i_8, rf), rfl, ⟨(show 0 ≤ i_8.toInt ∧ i_8.toInt ≤ 160 from ⟨by omega, by omega⟩), (show (-1) ≤ rf.toInt ∧ rf.toInt ≤ 160 from ⟨hy7, hy8⟩), (show i_8.toInt ≤ rz.toInt from by omega), (show i_8.toInt = zNe fl rz.toInt rp.toInt from by first | exact (zNe_eq (by omega) (by omega) hvi_8_2 (Or.inr (fun z => by (have z1 := z.1; omega)))).symm | exact (zNe_eq (by omega) (by omega) hvi_8_2 (Or.inl (by omega))).symm), (show (v_1 : Int32).toInt = zNv fl rp.toInt i_8.toInt from by assumption), (show ((rf.toInt = rp.toInt ∧ (i_8.toInt = rp.toInt ∨ (v_1 : Int32).toInt < lo.toInt ∨ hi.toInt < (v_1 : Int32).toInt)) ∨ (rf.toInt = rf.toInt ∧ i_8.toInt ≠ rp.toInt ∧ lo.toInt ≤ (v_1 : Int32).toInt ∧ (v_1 : Int32).toInt ≤ hi.toInt)) from by omega), ⟨by omega, by omega⟩⟩, zRet ht hP hD [0, 1] (by decide) rfl⟩, hS.F ht⟩) hS.2.2 dX3_readNumber_102
          · exact absurd c_12 (by decide)
    · exfalso; have fc_2 : i_8.toInt < rz.toInt := zf_nle c_2 rfl rfl; omega
  | succ nfu ih =>
    intro i_8 v_1 H locs ls hP hD hS hl hbv_1 hvi_8_0 hvi_8_1 hvi_8_2 hvi_8_3 hvi_8_4 hloi_8 hni_8
    refine lv_aload_n hx hb dX3_readNumber_8 rfl (lv_at hl 2 rfl) ?_
    refine va_get (D := D) (ci := 3) (v := .int i_8) (C := RX3) (T := TX3) (N := 8) hx hb hts hi_X3_readNumber_3 hown hK hP 0 rfl rfl 4 (by decide) (hts (.fieldLink RX3 25 "TheLiningsInIt$Reader" "place" "I") (List.mem_of_getElem? (i := 1) rfl)) (fun _ h9 => h9) rfl dX3_readNumber_9 ?_
    refine lv_aload_n hx hb dX3_readNumber_12 rfl (lv_at hl 2 rfl) ?_
    refine va_get (D := D) (ci := 3) (v := .int rz) (C := RX3) (T := TX3) (N := 8) hx hb hts hi_X3_readNumber_3 hown hK hP 0 rfl rfl 2 (by decide) (hts (.fieldLink RX3 18 "TheLiningsInIt$Reader" "size" "I") (List.mem_of_getElem? (i := 2) rfl)) (fun _ h9 => h9) rfl dX3_readNumber_13 ?_
    refine lv_icmp_ge (tgt := 77) hx hb dX3_readNumber_16 (by decide) (fun c_13 => ?_) (fun c_13 => ?_)
    · have fc_13 : rz.toInt ≤ i_8.toInt := zf_le c_13 rfl rfl
      refine lv_aload_n hx hb dX3_readNumber_77 rfl (lv_at hl 2 rfl) ?_
      refine va_get (D := D) (ci := 3) (v := .int i_8) (C := RX3) (T := TX3) (N := 8) hx hb hts hi_X3_readNumber_3 hown hK hP 0 rfl rfl 4 (by decide) (hts (.fieldLink RX3 25 "TheLiningsInIt$Reader" "place" "I") (List.mem_of_getElem? (i := 1) rfl)) (fun _ h9 => h9) rfl dX3_readNumber_78 ?_
      refine lv_iload_n hx hb dX3_readNumber_81 rfl (lv_at hl 1 rfl) ?_
      refine lv_icmp_eq (tgt := 95) hx hb dX3_readNumber_82 (by decide) (fun c_14 => ?_) (fun c_14 => ?_)
      · have fc_14 : i_8.toInt = rp.toInt := zf_eq c_14 rfl rfl
        refine lv_aload_n hx hb dX3_readNumber_95 rfl (lv_at hl 2 rfl) ?_
        refine lv_iload_n hx hb dX3_readNumber_96 rfl (lv_at hl 1 rfl) ?_
        refine va_put (D := D) (ci := 3) (v := .int rp) (ty := .int) (C := RX3) (T := TX3) (N := 8) hx hb hts hi_X3_readNumber_3 tyX3 tyX3_ok nmX3 hown hK hP hD hS 0 rfl rfl 5 (by decide) (hts (.fieldLink RX3 28 "TheLiningsInIt$Reader" "fault" "I") (List.mem_of_getElem? (i := 4) rfl)) (fun _ h9 => h9) rfl (tyX3_ok 5 (Nat.le_of_ble_eq_true rfl)) rfl rfl (Nat.le_of_ble_eq_true rfl) dX3_readNumber_97 (fun H locs hP hD hS => ?_)
        have h9R := zRe (ws' := [(rd, .inr (3, [.ref ri, .ref rl, .int rz, .int rc, .int i_8, .int rp, .int rt, .int ru])), (rl, .inl (cI, 160, .inl fl))]) hP hD rfl
        clear hP hD
        obtain ⟨hP, hD⟩ := h9R
        refine lv_iload hx hb dX3_readNumber_100 (lv_at hl 0 rfl) ?_
        exact W.iret (v := v_1) hx hb hr (fun t ht hW => ⟨⟨v_1, (i_8, rp), rfl, ⟨(show 0 ≤ i_8.toInt ∧ i_8.toInt ≤ 160 from ⟨by omega, by omega⟩), (show (-1) ≤ rp.toInt ∧ rp.toInt ≤ 160 from ⟨by omega, hy5⟩), (show i_8.toInt ≤ rz.toInt from by omega), (show i_8.toInt = zNe fl rz.toInt rp.toInt from by first | exact (zNe_eq (by omega) (by omega) hvi_8_2 (Or.inr (fun z => by (have z1 := z.1; omega)))).symm | exact (zNe_eq (by omega) (by omega) hvi_8_2 (Or.inl (by omega))).symm), (show (v_1 : Int32).toInt = zNv fl rp.toInt i_8.toInt from by assumption), (show ((rp.toInt = rp.toInt ∧ (i_8.toInt = rp.toInt ∨ (v_1 : Int32).toInt < lo.toInt ∨ hi.toInt < (v_1 : Int32).toInt)) ∨ (rp.toInt = rf.toInt ∧ i_8.toInt ≠ rp.toInt ∧ lo.toInt ≤ (v_1 : Int32).toInt ∧ (v_1 : Int32).toInt ≤ hi.toInt)) from by omega), ⟨by omega, by omega⟩⟩, zRet ht hP hD [0, 1] (by decide) rfl⟩, hS.F ht⟩) hS.2.2 dX3_readNumber_102
      · have fc_14 : i_8.toInt ≠ rp.toInt := zf_ne c_14 rfl rfl
        refine lv_iload hx hb dX3_readNumber_85 (lv_at hl 0 rfl) ?_
        refine lv_iload_n hx hb dX3_readNumber_87 rfl (lv_at hl 3 rfl) ?_
        refine lv_iload_n hx hb dX3_readNumber_88 rfl (lv_at hl 4 rfl) ?_
        refine zc_SN (As := [.int v_1, .int lo, .int hi]) (rest := []) ⟨hx, hb, hml, hown, hts⟩ (c_within l D cI cJ cZ cP cS po (v_1) (lo) (hi) ) ⟨(va_cnB 3 hts gX3_readNumber_X7_within_n109 rfl rfl rfl (hN.1 (RX3, 109, yX7_within) (List.mem_of_getElem? (i := 8) rfl)) (hts _ (List.mem_of_getElem? (i := 10) rfl)) dh_X7_within ⟨Nat.le_of_ble_eq_true rfl, Nat.le_of_ble_eq_true rfl⟩), (hts _ (List.mem_of_getElem? (i := 9) rfl)), trivial⟩ hK hN (hZ.kept hS) rfl hl.1 rfl (Nat.le_of_ble_eq_true rfl) dX3_readNumber_89 ⟨Nat.le_of_ble_eq_true rfl, Nat.le_of_ble_eq_true rfl⟩ (fun r_15 hr_15 => ?_)
        rcases hr_15 with ⟨rfl, g_16⟩ | ⟨rfl, g_17, g_18⟩ | ⟨rfl, g_19, g_20⟩
        · refine lv_if_ne (tgt := 100) hx hb dX3_readNumber_92 (by decide) (fun c_21 => ?_) (fun c_21 => ?_)
          · exact absurd c_21 (by decide)
          · refine lv_aload_n hx hb dX3_readNumber_95 rfl (lv_at hl 2 rfl) ?_
            refine lv_iload_n hx hb dX3_readNumber_96 rfl (lv_at hl 1 rfl) ?_
            refine va_put (D := D) (ci := 3) (v := .int rp) (ty := .int) (C := RX3) (T := TX3) (N := 8) hx hb hts hi_X3_readNumber_3 tyX3 tyX3_ok nmX3 hown hK hP hD hS 0 rfl rfl 5 (by decide) (hts (.fieldLink RX3 28 "TheLiningsInIt$Reader" "fault" "I") (List.mem_of_getElem? (i := 4) rfl)) (fun _ h9 => h9) rfl (tyX3_ok 5 (Nat.le_of_ble_eq_true rfl)) rfl rfl (Nat.le_of_ble_eq_true rfl) dX3_readNumber_97 (fun H locs hP hD hS => ?_)
            have h9R := zRe (ws' := [(rd, .inr (3, [.ref ri, .ref rl, .int rz, .int rc, .int i_8, .int rp, .int rt, .int ru])), (rl, .inl (cI, 160, .inl fl))]) hP hD rfl
            clear hP hD
            obtain ⟨hP, hD⟩ := h9R
            refine lv_iload hx hb dX3_readNumber_100 (lv_at hl 0 rfl) ?_
            exact W.iret (v := v_1) hx hb hr (fun t ht hW => ⟨⟨v_1, (i_8, rp), rfl, ⟨(show 0 ≤ i_8.toInt ∧ i_8.toInt ≤ 160 from ⟨by omega, by omega⟩), (show (-1) ≤ rp.toInt ∧ rp.toInt ≤ 160 from ⟨by omega, hy5⟩), (show i_8.toInt ≤ rz.toInt from by omega), (show i_8.toInt = zNe fl rz.toInt rp.toInt from by first | exact (zNe_eq (by omega) (by omega) hvi_8_2 (Or.inr (fun z => by (have z1 := z.1; omega)))).symm | exact (zNe_eq (by omega) (by omega) hvi_8_2 (Or.inl (by omega))).symm), (show (v_1 : Int32).toInt = zNv fl rp.toInt i_8.toInt from by assumption), (show ((rp.toInt = rp.toInt ∧ (i_8.toInt = rp.toInt ∨ (v_1 : Int32).toInt < lo.toInt ∨ hi.toInt < (v_1 : Int32).toInt)) ∨ (rp.toInt = rf.toInt ∧ i_8.toInt ≠ rp.toInt ∧ lo.toInt ≤ (v_1 : Int32).toInt ∧ (v_1 : Int32).toInt ≤ hi.toInt)) from by omega), ⟨by omega, by omega⟩⟩, zRet ht hP hD [0, 1] (by decide) rfl⟩, hS.F ht⟩) hS.2.2 dX3_readNumber_102
        · refine lv_if_ne (tgt := 100) hx hb dX3_readNumber_92 (by decide) (fun c_22 => ?_) (fun c_22 => ?_)
          · exact absurd c_22 (by decide)
          · refine lv_aload_n hx hb dX3_readNumber_95 rfl (lv_at hl 2 rfl) ?_
            refine lv_iload_n hx hb dX3_readNumber_96 rfl (lv_at hl 1 rfl) ?_
            refine va_put (D := D) (ci := 3) (v := .int rp) (ty := .int) (C := RX3) (T := TX3) (N := 8) hx hb hts hi_X3_readNumber_3 tyX3 tyX3_ok nmX3 hown hK hP hD hS 0 rfl rfl 5 (by decide) (hts (.fieldLink RX3 28 "TheLiningsInIt$Reader" "fault" "I") (List.mem_of_getElem? (i := 4) rfl)) (fun _ h9 => h9) rfl (tyX3_ok 5 (Nat.le_of_ble_eq_true rfl)) rfl rfl (Nat.le_of_ble_eq_true rfl) dX3_readNumber_97 (fun H locs hP hD hS => ?_)
            have h9R := zRe (ws' := [(rd, .inr (3, [.ref ri, .ref rl, .int rz, .int rc, .int i_8, .int rp, .int rt, .int ru])), (rl, .inl (cI, 160, .inl fl))]) hP hD rfl
            clear hP hD
            obtain ⟨hP, hD⟩ := h9R
            refine lv_iload hx hb dX3_readNumber_100 (lv_at hl 0 rfl) ?_
            exact W.iret (v := v_1) hx hb hr (fun t ht hW => ⟨⟨v_1, (i_8, rp), rfl, ⟨(show 0 ≤ i_8.toInt ∧ i_8.toInt ≤ 160 from ⟨by omega, by omega⟩), (show (-1) ≤ rp.toInt ∧ rp.toInt ≤ 160 from ⟨by omega, hy5⟩), (show i_8.toInt ≤ rz.toInt from by omega), (show i_8.toInt = zNe fl rz.toInt rp.toInt from by first | exact (zNe_eq (by omega) (by omega) hvi_8_2 (Or.inr (fun z => by (have z1 := z.1; omega)))).symm | exact (zNe_eq (by omega) (by omega) hvi_8_2 (Or.inl (by omega))).symm), (show (v_1 : Int32).toInt = zNv fl rp.toInt i_8.toInt from by assumption), (show ((rp.toInt = rp.toInt ∧ (i_8.toInt = rp.toInt ∨ (v_1 : Int32).toInt < lo.toInt ∨ hi.toInt < (v_1 : Int32).toInt)) ∨ (rp.toInt = rf.toInt ∧ i_8.toInt ≠ rp.toInt ∧ lo.toInt ≤ (v_1 : Int32).toInt ∧ (v_1 : Int32).toInt ≤ hi.toInt)) from by omega), ⟨by omega, by omega⟩⟩, zRet ht hP hD [0, 1] (by decide) rfl⟩, hS.F ht⟩) hS.2.2 dX3_readNumber_102
        · refine lv_if_ne (tgt := 100) hx hb dX3_readNumber_92 (by decide) (fun c_23 => ?_) (fun c_23 => ?_)
          · refine lv_iload hx hb dX3_readNumber_100 (lv_at hl 0 rfl) ?_
            exact W.iret (v := v_1) hx hb hr (fun t ht hW => ⟨⟨v_1, (i_8, rf), rfl, ⟨(show 0 ≤ i_8.toInt ∧ i_8.toInt ≤ 160 from ⟨by omega, by omega⟩), (show (-1) ≤ rf.toInt ∧ rf.toInt ≤ 160 from ⟨hy7, hy8⟩), (show i_8.toInt ≤ rz.toInt from by omega), (show i_8.toInt = zNe fl rz.toInt rp.toInt from by first | exact (zNe_eq (by omega) (by omega) hvi_8_2 (Or.inr (fun z => by (have z1 := z.1; omega)))).symm | exact (zNe_eq (by omega) (by omega) hvi_8_2 (Or.inl (by omega))).symm), (show (v_1 : Int32).toInt = zNv fl rp.toInt i_8.toInt from by assumption), (show ((rf.toInt = rp.toInt ∧ (i_8.toInt = rp.toInt ∨ (v_1 : Int32).toInt < lo.toInt ∨ hi.toInt < (v_1 : Int32).toInt)) ∨ (rf.toInt = rf.toInt ∧ i_8.toInt ≠ rp.toInt ∧ lo.toInt ≤ (v_1 : Int32).toInt ∧ (v_1 : Int32).toInt ≤ hi.toInt)) from by omega), ⟨by omega, by omega⟩⟩, zRet ht hP hD [0, 1] (by decide) rfl⟩, hS.F ht⟩) hS.2.2 dX3_readNumber_102
          · exact absurd c_23 (by decide)
    · have fc_13 : i_8.toInt < rz.toInt := zf_nle c_13 rfl rfl
      refine lv_aload_n hx hb dX3_readNumber_19 rfl (lv_at hl 2 rfl) ?_
      refine va_get (D := D) (ci := 3) (v := .int i_8) (C := RX3) (T := TX3) (N := 8) hx hb hts hi_X3_readNumber_3 hown hK hP 0 rfl rfl 4 (by decide) (hts (.fieldLink RX3 25 "TheLiningsInIt$Reader" "place" "I") (List.mem_of_getElem? (i := 1) rfl)) (fun _ h9 => h9) rfl dX3_readNumber_20 ?_
      refine lv_iload_n hx hb dX3_readNumber_23 rfl (lv_at hl 1 rfl) ?_
      refine lv_iconst (v := 3) hx hb dX3_readNumber_24 (by decide) ?_
      refine lv_iadd hx hb dX3_readNumber_25 ?_
      refine lv_topi (fun x_24 ex_24 => ?_)
      have qx_24 : x_24.toInt = rp.toInt + 3 := by rw [ex_24]; exact zf_add rfl (by decide) (by omega) (by omega)
      refine lv_icmp_ge (tgt := 77) hx hb dX3_readNumber_26 (by decide) (fun c_25 => ?_) (fun c_25 => ?_)
      · have fc_25 : x_24.toInt ≤ i_8.toInt := zf_le c_25 rfl rfl
        refine lv_aload_n hx hb dX3_readNumber_77 rfl (lv_at hl 2 rfl) ?_
        refine va_get (D := D) (ci := 3) (v := .int i_8) (C := RX3) (T := TX3) (N := 8) hx hb hts hi_X3_readNumber_3 hown hK hP 0 rfl rfl 4 (by decide) (hts (.fieldLink RX3 25 "TheLiningsInIt$Reader" "place" "I") (List.mem_of_getElem? (i := 1) rfl)) (fun _ h9 => h9) rfl dX3_readNumber_78 ?_
        refine lv_iload_n hx hb dX3_readNumber_81 rfl (lv_at hl 1 rfl) ?_
        refine lv_icmp_eq (tgt := 95) hx hb dX3_readNumber_82 (by decide) (fun c_26 => ?_) (fun c_26 => ?_)
        · have fc_26 : i_8.toInt = rp.toInt := zf_eq c_26 rfl rfl
          refine lv_aload_n hx hb dX3_readNumber_95 rfl (lv_at hl 2 rfl) ?_
          refine lv_iload_n hx hb dX3_readNumber_96 rfl (lv_at hl 1 rfl) ?_
          refine va_put (D := D) (ci := 3) (v := .int rp) (ty := .int) (C := RX3) (T := TX3) (N := 8) hx hb hts hi_X3_readNumber_3 tyX3 tyX3_ok nmX3 hown hK hP hD hS 0 rfl rfl 5 (by decide) (hts (.fieldLink RX3 28 "TheLiningsInIt$Reader" "fault" "I") (List.mem_of_getElem? (i := 4) rfl)) (fun _ h9 => h9) rfl (tyX3_ok 5 (Nat.le_of_ble_eq_true rfl)) rfl rfl (Nat.le_of_ble_eq_true rfl) dX3_readNumber_97 (fun H locs hP hD hS => ?_)
          have h9R := zRe (ws' := [(rd, .inr (3, [.ref ri, .ref rl, .int rz, .int rc, .int i_8, .int rp, .int rt, .int ru])), (rl, .inl (cI, 160, .inl fl))]) hP hD rfl
          clear hP hD
          obtain ⟨hP, hD⟩ := h9R
          refine lv_iload hx hb dX3_readNumber_100 (lv_at hl 0 rfl) ?_
          exact W.iret (v := v_1) hx hb hr (fun t ht hW => ⟨⟨v_1, (i_8, rp), rfl, ⟨(show 0 ≤ i_8.toInt ∧ i_8.toInt ≤ 160 from ⟨by omega, by omega⟩), (show (-1) ≤ rp.toInt ∧ rp.toInt ≤ 160 from ⟨by omega, hy5⟩), (show i_8.toInt ≤ rz.toInt from by omega), (show i_8.toInt = zNe fl rz.toInt rp.toInt from by first | exact (zNe_eq (by omega) (by omega) hvi_8_2 (Or.inr (fun z => by (have z1 := z.1; omega)))).symm | exact (zNe_eq (by omega) (by omega) hvi_8_2 (Or.inl (by omega))).symm), (show (v_1 : Int32).toInt = zNv fl rp.toInt i_8.toInt from by assumption), (show ((rp.toInt = rp.toInt ∧ (i_8.toInt = rp.toInt ∨ (v_1 : Int32).toInt < lo.toInt ∨ hi.toInt < (v_1 : Int32).toInt)) ∨ (rp.toInt = rf.toInt ∧ i_8.toInt ≠ rp.toInt ∧ lo.toInt ≤ (v_1 : Int32).toInt ∧ (v_1 : Int32).toInt ≤ hi.toInt)) from by omega), ⟨by omega, by omega⟩⟩, zRet ht hP hD [0, 1] (by decide) rfl⟩, hS.F ht⟩) hS.2.2 dX3_readNumber_102
        · have fc_26 : i_8.toInt ≠ rp.toInt := zf_ne c_26 rfl rfl
          refine lv_iload hx hb dX3_readNumber_85 (lv_at hl 0 rfl) ?_
          refine lv_iload_n hx hb dX3_readNumber_87 rfl (lv_at hl 3 rfl) ?_
          refine lv_iload_n hx hb dX3_readNumber_88 rfl (lv_at hl 4 rfl) ?_
          refine zc_SN (As := [.int v_1, .int lo, .int hi]) (rest := []) ⟨hx, hb, hml, hown, hts⟩ (c_within l D cI cJ cZ cP cS po (v_1) (lo) (hi) ) ⟨(va_cnB 3 hts gX3_readNumber_X7_within_n109 rfl rfl rfl (hN.1 (RX3, 109, yX7_within) (List.mem_of_getElem? (i := 8) rfl)) (hts _ (List.mem_of_getElem? (i := 10) rfl)) dh_X7_within ⟨Nat.le_of_ble_eq_true rfl, Nat.le_of_ble_eq_true rfl⟩), (hts _ (List.mem_of_getElem? (i := 9) rfl)), trivial⟩ hK hN (hZ.kept hS) rfl hl.1 rfl (Nat.le_of_ble_eq_true rfl) dX3_readNumber_89 ⟨Nat.le_of_ble_eq_true rfl, Nat.le_of_ble_eq_true rfl⟩ (fun r_27 hr_27 => ?_)
          rcases hr_27 with ⟨rfl, g_28⟩ | ⟨rfl, g_29, g_30⟩ | ⟨rfl, g_31, g_32⟩
          · refine lv_if_ne (tgt := 100) hx hb dX3_readNumber_92 (by decide) (fun c_33 => ?_) (fun c_33 => ?_)
            · exact absurd c_33 (by decide)
            · refine lv_aload_n hx hb dX3_readNumber_95 rfl (lv_at hl 2 rfl) ?_
              refine lv_iload_n hx hb dX3_readNumber_96 rfl (lv_at hl 1 rfl) ?_
              refine va_put (D := D) (ci := 3) (v := .int rp) (ty := .int) (C := RX3) (T := TX3) (N := 8) hx hb hts hi_X3_readNumber_3 tyX3 tyX3_ok nmX3 hown hK hP hD hS 0 rfl rfl 5 (by decide) (hts (.fieldLink RX3 28 "TheLiningsInIt$Reader" "fault" "I") (List.mem_of_getElem? (i := 4) rfl)) (fun _ h9 => h9) rfl (tyX3_ok 5 (Nat.le_of_ble_eq_true rfl)) rfl rfl (Nat.le_of_ble_eq_true rfl) dX3_readNumber_97 (fun H locs hP hD hS => ?_)
              have h9R := zRe (ws' := [(rd, .inr (3, [.ref ri, .ref rl, .int rz, .int rc, .int i_8, .int rp, .int rt, .int ru])), (rl, .inl (cI, 160, .inl fl))]) hP hD rfl
              clear hP hD
              obtain ⟨hP, hD⟩ := h9R
              refine lv_iload hx hb dX3_readNumber_100 (lv_at hl 0 rfl) ?_
              exact W.iret (v := v_1) hx hb hr (fun t ht hW => ⟨⟨v_1, (i_8, rp), rfl, ⟨(show 0 ≤ i_8.toInt ∧ i_8.toInt ≤ 160 from ⟨by omega, by omega⟩), (show (-1) ≤ rp.toInt ∧ rp.toInt ≤ 160 from ⟨by omega, hy5⟩), (show i_8.toInt ≤ rz.toInt from by omega), (show i_8.toInt = zNe fl rz.toInt rp.toInt from by first | exact (zNe_eq (by omega) (by omega) hvi_8_2 (Or.inr (fun z => by (have z1 := z.1; omega)))).symm | exact (zNe_eq (by omega) (by omega) hvi_8_2 (Or.inl (by omega))).symm), (show (v_1 : Int32).toInt = zNv fl rp.toInt i_8.toInt from by assumption), (show ((rp.toInt = rp.toInt ∧ (i_8.toInt = rp.toInt ∨ (v_1 : Int32).toInt < lo.toInt ∨ hi.toInt < (v_1 : Int32).toInt)) ∨ (rp.toInt = rf.toInt ∧ i_8.toInt ≠ rp.toInt ∧ lo.toInt ≤ (v_1 : Int32).toInt ∧ (v_1 : Int32).toInt ≤ hi.toInt)) from by omega), ⟨by omega, by omega⟩⟩, zRet ht hP hD [0, 1] (by decide) rfl⟩, hS.F ht⟩) hS.2.2 dX3_readNumber_102
          · refine lv_if_ne (tgt := 100) hx hb dX3_readNumber_92 (by decide) (fun c_34 => ?_) (fun c_34 => ?_)
            · exact absurd c_34 (by decide)
            · refine lv_aload_n hx hb dX3_readNumber_95 rfl (lv_at hl 2 rfl) ?_
              refine lv_iload_n hx hb dX3_readNumber_96 rfl (lv_at hl 1 rfl) ?_
              refine va_put (D := D) (ci := 3) (v := .int rp) (ty := .int) (C := RX3) (T := TX3) (N := 8) hx hb hts hi_X3_readNumber_3 tyX3 tyX3_ok nmX3 hown hK hP hD hS 0 rfl rfl 5 (by decide) (hts (.fieldLink RX3 28 "TheLiningsInIt$Reader" "fault" "I") (List.mem_of_getElem? (i := 4) rfl)) (fun _ h9 => h9) rfl (tyX3_ok 5 (Nat.le_of_ble_eq_true rfl)) rfl rfl (Nat.le_of_ble_eq_true rfl) dX3_readNumber_97 (fun H locs hP hD hS => ?_)
              have h9R := zRe (ws' := [(rd, .inr (3, [.ref ri, .ref rl, .int rz, .int rc, .int i_8, .int rp, .int rt, .int ru])), (rl, .inl (cI, 160, .inl fl))]) hP hD rfl
              clear hP hD
              obtain ⟨hP, hD⟩ := h9R
              refine lv_iload hx hb dX3_readNumber_100 (lv_at hl 0 rfl) ?_
              exact W.iret (v := v_1) hx hb hr (fun t ht hW => ⟨⟨v_1, (i_8, rp), rfl, ⟨(show 0 ≤ i_8.toInt ∧ i_8.toInt ≤ 160 from ⟨by omega, by omega⟩), (show (-1) ≤ rp.toInt ∧ rp.toInt ≤ 160 from ⟨by omega, hy5⟩), (show i_8.toInt ≤ rz.toInt from by omega), (show i_8.toInt = zNe fl rz.toInt rp.toInt from by first | exact (zNe_eq (by omega) (by omega) hvi_8_2 (Or.inr (fun z => by (have z1 := z.1; omega)))).symm | exact (zNe_eq (by omega) (by omega) hvi_8_2 (Or.inl (by omega))).symm), (show (v_1 : Int32).toInt = zNv fl rp.toInt i_8.toInt from by assumption), (show ((rp.toInt = rp.toInt ∧ (i_8.toInt = rp.toInt ∨ (v_1 : Int32).toInt < lo.toInt ∨ hi.toInt < (v_1 : Int32).toInt)) ∨ (rp.toInt = rf.toInt ∧ i_8.toInt ≠ rp.toInt ∧ lo.toInt ≤ (v_1 : Int32).toInt ∧ (v_1 : Int32).toInt ≤ hi.toInt)) from by omega), ⟨by omega, by omega⟩⟩, zRet ht hP hD [0, 1] (by decide) rfl⟩, hS.F ht⟩) hS.2.2 dX3_readNumber_102
          · refine lv_if_ne (tgt := 100) hx hb dX3_readNumber_92 (by decide) (fun c_35 => ?_) (fun c_35 => ?_)
            · refine lv_iload hx hb dX3_readNumber_100 (lv_at hl 0 rfl) ?_
              exact W.iret (v := v_1) hx hb hr (fun t ht hW => ⟨⟨v_1, (i_8, rf), rfl, ⟨(show 0 ≤ i_8.toInt ∧ i_8.toInt ≤ 160 from ⟨by omega, by omega⟩), (show (-1) ≤ rf.toInt ∧ rf.toInt ≤ 160 from ⟨hy7, hy8⟩), (show i_8.toInt ≤ rz.toInt from by omega), (show i_8.toInt = zNe fl rz.toInt rp.toInt from by first | exact (zNe_eq (by omega) (by omega) hvi_8_2 (Or.inr (fun z => by (have z1 := z.1; omega)))).symm | exact (zNe_eq (by omega) (by omega) hvi_8_2 (Or.inl (by omega))).symm), (show (v_1 : Int32).toInt = zNv fl rp.toInt i_8.toInt from by assumption), (show ((rf.toInt = rp.toInt ∧ (i_8.toInt = rp.toInt ∨ (v_1 : Int32).toInt < lo.toInt ∨ hi.toInt < (v_1 : Int32).toInt)) ∨ (rf.toInt = rf.toInt ∧ i_8.toInt ≠ rp.toInt ∧ lo.toInt ≤ (v_1 : Int32).toInt ∧ (v_1 : Int32).toInt ≤ hi.toInt)) from by omega), ⟨by omega, by omega⟩⟩, zRet ht hP hD [0, 1] (by decide) rfl⟩, hS.F ht⟩) hS.2.2 dX3_readNumber_102
            · exact absurd c_35 (by decide)
      · have fc_25 : i_8.toInt < x_24.toInt := zf_nle c_25 rfl rfl
        refine lv_aload_n hx hb dX3_readNumber_29 rfl (lv_at hl 2 rfl) ?_
        refine va_get (D := D) (ci := 3) (v := .ref rl) (C := RX3) (T := TX3) (N := 8) hx hb hts hi_X3_readNumber_3 hown hK hP 0 rfl rfl 1 (by decide) (hts (.fieldLink RX3 15 "TheLiningsInIt$Reader" "letters" "[I") (List.mem_of_getElem? (i := 3) rfl)) (fun _ h9 => h9) rfl dX3_readNumber_30 ?_
        refine lv_aload_n hx hb dX3_readNumber_33 rfl (lv_at hl 2 rfl) ?_
        refine va_get (D := D) (ci := 3) (v := .int i_8) (C := RX3) (T := TX3) (N := 8) hx hb hts hi_X3_readNumber_3 hown hK hP 0 rfl rfl 4 (by decide) (hts (.fieldLink RX3 25 "TheLiningsInIt$Reader" "place" "I") (List.mem_of_getElem? (i := 1) rfl)) (fun _ h9 => h9) rfl dX3_readNumber_34 ?_
        refine va_iald hx hb hK hP 1 0 rfl rfl (zf_in (by omega) (by omega)) dX3_readNumber_37 ?_
        refine lv_topi (fun x_36 ex_36 => ?_)
        refine zc_S (As := [.int x_36]) (rest := []) ⟨hx, hb, hml, hown, hts⟩ (c_R_isDigit l D cI cJ cZ cP cS po (x_36) ) (va_cwS 1 hts gX3_readNumber_X3_isDigit rfl rfl rfl dh_X3_isDigit ⟨Nat.le_of_ble_eq_true rfl, Nat.le_of_ble_eq_true rfl⟩) hK hN (hZ.kept hS) rfl hl.1 rfl (Nat.le_of_ble_eq_true rfl) dX3_readNumber_38 ⟨Nat.le_of_ble_eq_true rfl, Nat.le_of_ble_eq_true rfl⟩ (fun r_37 hr_37 => ?_)
        rcases hr_37 with ⟨rfl, g_38⟩ | ⟨rfl, g_39, g_40⟩ | ⟨rfl, g_41, g_42⟩
        · refine lv_if_eq (tgt := 77) hx hb dX3_readNumber_41 (by decide) (fun c_43 => ?_) (fun c_43 => ?_)
          · refine lv_aload_n hx hb dX3_readNumber_77 rfl (lv_at hl 2 rfl) ?_
            refine va_get (D := D) (ci := 3) (v := .int i_8) (C := RX3) (T := TX3) (N := 8) hx hb hts hi_X3_readNumber_3 hown hK hP 0 rfl rfl 4 (by decide) (hts (.fieldLink RX3 25 "TheLiningsInIt$Reader" "place" "I") (List.mem_of_getElem? (i := 1) rfl)) (fun _ h9 => h9) rfl dX3_readNumber_78 ?_
            refine lv_iload_n hx hb dX3_readNumber_81 rfl (lv_at hl 1 rfl) ?_
            refine lv_icmp_eq (tgt := 95) hx hb dX3_readNumber_82 (by decide) (fun c_44 => ?_) (fun c_44 => ?_)
            · have fc_44 : i_8.toInt = rp.toInt := zf_eq c_44 rfl rfl
              refine lv_aload_n hx hb dX3_readNumber_95 rfl (lv_at hl 2 rfl) ?_
              refine lv_iload_n hx hb dX3_readNumber_96 rfl (lv_at hl 1 rfl) ?_
              refine va_put (D := D) (ci := 3) (v := .int rp) (ty := .int) (C := RX3) (T := TX3) (N := 8) hx hb hts hi_X3_readNumber_3 tyX3 tyX3_ok nmX3 hown hK hP hD hS 0 rfl rfl 5 (by decide) (hts (.fieldLink RX3 28 "TheLiningsInIt$Reader" "fault" "I") (List.mem_of_getElem? (i := 4) rfl)) (fun _ h9 => h9) rfl (tyX3_ok 5 (Nat.le_of_ble_eq_true rfl)) rfl rfl (Nat.le_of_ble_eq_true rfl) dX3_readNumber_97 (fun H locs hP hD hS => ?_)
              have h9R := zRe (ws' := [(rd, .inr (3, [.ref ri, .ref rl, .int rz, .int rc, .int i_8, .int rp, .int rt, .int ru])), (rl, .inl (cI, 160, .inl fl))]) hP hD rfl
              clear hP hD
              obtain ⟨hP, hD⟩ := h9R
              refine lv_iload hx hb dX3_readNumber_100 (lv_at hl 0 rfl) ?_
              exact W.iret (v := v_1) hx hb hr (fun t ht hW => ⟨⟨v_1, (i_8, rp), rfl, ⟨(show 0 ≤ i_8.toInt ∧ i_8.toInt ≤ 160 from ⟨by omega, by omega⟩), (show (-1) ≤ rp.toInt ∧ rp.toInt ≤ 160 from ⟨by omega, hy5⟩), (show i_8.toInt ≤ rz.toInt from by omega), (show i_8.toInt = zNe fl rz.toInt rp.toInt from by first | exact (zNe_eq (by omega) (by omega) hvi_8_2 (Or.inr (fun z => by (have z1 := z.1; omega)))).symm | exact (zNe_eq (by omega) (by omega) hvi_8_2 (Or.inl (by omega))).symm | exact (zNe_eq (by omega) (by omega) hvi_8_2 (Or.inr (fun z => by (have h8 : (fl i_8.toInt.toNat).toInt = x_36.toInt := (by rw [ex_36]; rfl); have z1 := z.2.1; have z2 := z.2.2; omega)))).symm), (show (v_1 : Int32).toInt = zNv fl rp.toInt i_8.toInt from by assumption), (show ((rp.toInt = rp.toInt ∧ (i_8.toInt = rp.toInt ∨ (v_1 : Int32).toInt < lo.toInt ∨ hi.toInt < (v_1 : Int32).toInt)) ∨ (rp.toInt = rf.toInt ∧ i_8.toInt ≠ rp.toInt ∧ lo.toInt ≤ (v_1 : Int32).toInt ∧ (v_1 : Int32).toInt ≤ hi.toInt)) from by omega), ⟨by omega, by omega⟩⟩, zRet ht hP hD [0, 1] (by decide) rfl⟩, hS.F ht⟩) hS.2.2 dX3_readNumber_102
            · have fc_44 : i_8.toInt ≠ rp.toInt := zf_ne c_44 rfl rfl
              refine lv_iload hx hb dX3_readNumber_85 (lv_at hl 0 rfl) ?_
              refine lv_iload_n hx hb dX3_readNumber_87 rfl (lv_at hl 3 rfl) ?_
              refine lv_iload_n hx hb dX3_readNumber_88 rfl (lv_at hl 4 rfl) ?_
              refine zc_SN (As := [.int v_1, .int lo, .int hi]) (rest := []) ⟨hx, hb, hml, hown, hts⟩ (c_within l D cI cJ cZ cP cS po (v_1) (lo) (hi) ) ⟨(va_cnB 3 hts gX3_readNumber_X7_within_n109 rfl rfl rfl (hN.1 (RX3, 109, yX7_within) (List.mem_of_getElem? (i := 8) rfl)) (hts _ (List.mem_of_getElem? (i := 10) rfl)) dh_X7_within ⟨Nat.le_of_ble_eq_true rfl, Nat.le_of_ble_eq_true rfl⟩), (hts _ (List.mem_of_getElem? (i := 9) rfl)), trivial⟩ hK hN (hZ.kept hS) rfl hl.1 rfl (Nat.le_of_ble_eq_true rfl) dX3_readNumber_89 ⟨Nat.le_of_ble_eq_true rfl, Nat.le_of_ble_eq_true rfl⟩ (fun r_45 hr_45 => ?_)
              rcases hr_45 with ⟨rfl, g_46⟩ | ⟨rfl, g_47, g_48⟩ | ⟨rfl, g_49, g_50⟩
              · refine lv_if_ne (tgt := 100) hx hb dX3_readNumber_92 (by decide) (fun c_51 => ?_) (fun c_51 => ?_)
                · exact absurd c_51 (by decide)
                · refine lv_aload_n hx hb dX3_readNumber_95 rfl (lv_at hl 2 rfl) ?_
                  refine lv_iload_n hx hb dX3_readNumber_96 rfl (lv_at hl 1 rfl) ?_
                  refine va_put (D := D) (ci := 3) (v := .int rp) (ty := .int) (C := RX3) (T := TX3) (N := 8) hx hb hts hi_X3_readNumber_3 tyX3 tyX3_ok nmX3 hown hK hP hD hS 0 rfl rfl 5 (by decide) (hts (.fieldLink RX3 28 "TheLiningsInIt$Reader" "fault" "I") (List.mem_of_getElem? (i := 4) rfl)) (fun _ h9 => h9) rfl (tyX3_ok 5 (Nat.le_of_ble_eq_true rfl)) rfl rfl (Nat.le_of_ble_eq_true rfl) dX3_readNumber_97 (fun H locs hP hD hS => ?_)
                  have h9R := zRe (ws' := [(rd, .inr (3, [.ref ri, .ref rl, .int rz, .int rc, .int i_8, .int rp, .int rt, .int ru])), (rl, .inl (cI, 160, .inl fl))]) hP hD rfl
                  clear hP hD
                  obtain ⟨hP, hD⟩ := h9R
                  refine lv_iload hx hb dX3_readNumber_100 (lv_at hl 0 rfl) ?_
                  exact W.iret (v := v_1) hx hb hr (fun t ht hW => ⟨⟨v_1, (i_8, rp), rfl, ⟨(show 0 ≤ i_8.toInt ∧ i_8.toInt ≤ 160 from ⟨by omega, by omega⟩), (show (-1) ≤ rp.toInt ∧ rp.toInt ≤ 160 from ⟨by omega, hy5⟩), (show i_8.toInt ≤ rz.toInt from by omega), (show i_8.toInt = zNe fl rz.toInt rp.toInt from by first | exact (zNe_eq (by omega) (by omega) hvi_8_2 (Or.inr (fun z => by (have z1 := z.1; omega)))).symm | exact (zNe_eq (by omega) (by omega) hvi_8_2 (Or.inl (by omega))).symm | exact (zNe_eq (by omega) (by omega) hvi_8_2 (Or.inr (fun z => by (have h8 : (fl i_8.toInt.toNat).toInt = x_36.toInt := (by rw [ex_36]; rfl); have z1 := z.2.1; have z2 := z.2.2; omega)))).symm), (show (v_1 : Int32).toInt = zNv fl rp.toInt i_8.toInt from by assumption), (show ((rp.toInt = rp.toInt ∧ (i_8.toInt = rp.toInt ∨ (v_1 : Int32).toInt < lo.toInt ∨ hi.toInt < (v_1 : Int32).toInt)) ∨ (rp.toInt = rf.toInt ∧ i_8.toInt ≠ rp.toInt ∧ lo.toInt ≤ (v_1 : Int32).toInt ∧ (v_1 : Int32).toInt ≤ hi.toInt)) from by omega), ⟨by omega, by omega⟩⟩, zRet ht hP hD [0, 1] (by decide) rfl⟩, hS.F ht⟩) hS.2.2 dX3_readNumber_102
              · refine lv_if_ne (tgt := 100) hx hb dX3_readNumber_92 (by decide) (fun c_52 => ?_) (fun c_52 => ?_)
                · exact absurd c_52 (by decide)
                · refine lv_aload_n hx hb dX3_readNumber_95 rfl (lv_at hl 2 rfl) ?_
                  refine lv_iload_n hx hb dX3_readNumber_96 rfl (lv_at hl 1 rfl) ?_
                  refine va_put (D := D) (ci := 3) (v := .int rp) (ty := .int) (C := RX3) (T := TX3) (N := 8) hx hb hts hi_X3_readNumber_3 tyX3 tyX3_ok nmX3 hown hK hP hD hS 0 rfl rfl 5 (by decide) (hts (.fieldLink RX3 28 "TheLiningsInIt$Reader" "fault" "I") (List.mem_of_getElem? (i := 4) rfl)) (fun _ h9 => h9) rfl (tyX3_ok 5 (Nat.le_of_ble_eq_true rfl)) rfl rfl (Nat.le_of_ble_eq_true rfl) dX3_readNumber_97 (fun H locs hP hD hS => ?_)
                  have h9R := zRe (ws' := [(rd, .inr (3, [.ref ri, .ref rl, .int rz, .int rc, .int i_8, .int rp, .int rt, .int ru])), (rl, .inl (cI, 160, .inl fl))]) hP hD rfl
                  clear hP hD
                  obtain ⟨hP, hD⟩ := h9R
                  refine lv_iload hx hb dX3_readNumber_100 (lv_at hl 0 rfl) ?_
                  exact W.iret (v := v_1) hx hb hr (fun t ht hW => ⟨⟨v_1, (i_8, rp), rfl, ⟨(show 0 ≤ i_8.toInt ∧ i_8.toInt ≤ 160 from ⟨by omega, by omega⟩), (show (-1) ≤ rp.toInt ∧ rp.toInt ≤ 160 from ⟨by omega, hy5⟩), (show i_8.toInt ≤ rz.toInt from by omega), (show i_8.toInt = zNe fl rz.toInt rp.toInt from by first | exact (zNe_eq (by omega) (by omega) hvi_8_2 (Or.inr (fun z => by (have z1 := z.1; omega)))).symm | exact (zNe_eq (by omega) (by omega) hvi_8_2 (Or.inl (by omega))).symm | exact (zNe_eq (by omega) (by omega) hvi_8_2 (Or.inr (fun z => by (have h8 : (fl i_8.toInt.toNat).toInt = x_36.toInt := (by rw [ex_36]; rfl); have z1 := z.2.1; have z2 := z.2.2; omega)))).symm), (show (v_1 : Int32).toInt = zNv fl rp.toInt i_8.toInt from by assumption), (show ((rp.toInt = rp.toInt ∧ (i_8.toInt = rp.toInt ∨ (v_1 : Int32).toInt < lo.toInt ∨ hi.toInt < (v_1 : Int32).toInt)) ∨ (rp.toInt = rf.toInt ∧ i_8.toInt ≠ rp.toInt ∧ lo.toInt ≤ (v_1 : Int32).toInt ∧ (v_1 : Int32).toInt ≤ hi.toInt)) from by omega), ⟨by omega, by omega⟩⟩, zRet ht hP hD [0, 1] (by decide) rfl⟩, hS.F ht⟩) hS.2.2 dX3_readNumber_102
              · refine lv_if_ne (tgt := 100) hx hb dX3_readNumber_92 (by decide) (fun c_53 => ?_) (fun c_53 => ?_)
                · refine lv_iload hx hb dX3_readNumber_100 (lv_at hl 0 rfl) ?_
                  exact W.iret (v := v_1) hx hb hr (fun t ht hW => ⟨⟨v_1, (i_8, rf), rfl, ⟨(show 0 ≤ i_8.toInt ∧ i_8.toInt ≤ 160 from ⟨by omega, by omega⟩), (show (-1) ≤ rf.toInt ∧ rf.toInt ≤ 160 from ⟨hy7, hy8⟩), (show i_8.toInt ≤ rz.toInt from by omega), (show i_8.toInt = zNe fl rz.toInt rp.toInt from by first | exact (zNe_eq (by omega) (by omega) hvi_8_2 (Or.inr (fun z => by (have z1 := z.1; omega)))).symm | exact (zNe_eq (by omega) (by omega) hvi_8_2 (Or.inl (by omega))).symm | exact (zNe_eq (by omega) (by omega) hvi_8_2 (Or.inr (fun z => by (have h8 : (fl i_8.toInt.toNat).toInt = x_36.toInt := (by rw [ex_36]; rfl); have z1 := z.2.1; have z2 := z.2.2; omega)))).symm), (show (v_1 : Int32).toInt = zNv fl rp.toInt i_8.toInt from by assumption), (show ((rf.toInt = rp.toInt ∧ (i_8.toInt = rp.toInt ∨ (v_1 : Int32).toInt < lo.toInt ∨ hi.toInt < (v_1 : Int32).toInt)) ∨ (rf.toInt = rf.toInt ∧ i_8.toInt ≠ rp.toInt ∧ lo.toInt ≤ (v_1 : Int32).toInt ∧ (v_1 : Int32).toInt ≤ hi.toInt)) from by omega), ⟨by omega, by omega⟩⟩, zRet ht hP hD [0, 1] (by decide) rfl⟩, hS.F ht⟩) hS.2.2 dX3_readNumber_102
                · exact absurd c_53 (by decide)
          · exact absurd c_43 (by decide)
        · refine lv_if_eq (tgt := 77) hx hb dX3_readNumber_41 (by decide) (fun c_54 => ?_) (fun c_54 => ?_)
          · refine lv_aload_n hx hb dX3_readNumber_77 rfl (lv_at hl 2 rfl) ?_
            refine va_get (D := D) (ci := 3) (v := .int i_8) (C := RX3) (T := TX3) (N := 8) hx hb hts hi_X3_readNumber_3 hown hK hP 0 rfl rfl 4 (by decide) (hts (.fieldLink RX3 25 "TheLiningsInIt$Reader" "place" "I") (List.mem_of_getElem? (i := 1) rfl)) (fun _ h9 => h9) rfl dX3_readNumber_78 ?_
            refine lv_iload_n hx hb dX3_readNumber_81 rfl (lv_at hl 1 rfl) ?_
            refine lv_icmp_eq (tgt := 95) hx hb dX3_readNumber_82 (by decide) (fun c_55 => ?_) (fun c_55 => ?_)
            · have fc_55 : i_8.toInt = rp.toInt := zf_eq c_55 rfl rfl
              refine lv_aload_n hx hb dX3_readNumber_95 rfl (lv_at hl 2 rfl) ?_
              refine lv_iload_n hx hb dX3_readNumber_96 rfl (lv_at hl 1 rfl) ?_
              refine va_put (D := D) (ci := 3) (v := .int rp) (ty := .int) (C := RX3) (T := TX3) (N := 8) hx hb hts hi_X3_readNumber_3 tyX3 tyX3_ok nmX3 hown hK hP hD hS 0 rfl rfl 5 (by decide) (hts (.fieldLink RX3 28 "TheLiningsInIt$Reader" "fault" "I") (List.mem_of_getElem? (i := 4) rfl)) (fun _ h9 => h9) rfl (tyX3_ok 5 (Nat.le_of_ble_eq_true rfl)) rfl rfl (Nat.le_of_ble_eq_true rfl) dX3_readNumber_97 (fun H locs hP hD hS => ?_)
              have h9R := zRe (ws' := [(rd, .inr (3, [.ref ri, .ref rl, .int rz, .int rc, .int i_8, .int rp, .int rt, .int ru])), (rl, .inl (cI, 160, .inl fl))]) hP hD rfl
              clear hP hD
              obtain ⟨hP, hD⟩ := h9R
              refine lv_iload hx hb dX3_readNumber_100 (lv_at hl 0 rfl) ?_
              exact W.iret (v := v_1) hx hb hr (fun t ht hW => ⟨⟨v_1, (i_8, rp), rfl, ⟨(show 0 ≤ i_8.toInt ∧ i_8.toInt ≤ 160 from ⟨by omega, by omega⟩), (show (-1) ≤ rp.toInt ∧ rp.toInt ≤ 160 from ⟨by omega, hy5⟩), (show i_8.toInt ≤ rz.toInt from by omega), (show i_8.toInt = zNe fl rz.toInt rp.toInt from by first | exact (zNe_eq (by omega) (by omega) hvi_8_2 (Or.inr (fun z => by (have z1 := z.1; omega)))).symm | exact (zNe_eq (by omega) (by omega) hvi_8_2 (Or.inl (by omega))).symm | exact (zNe_eq (by omega) (by omega) hvi_8_2 (Or.inr (fun z => by (have h8 : (fl i_8.toInt.toNat).toInt = x_36.toInt := (by rw [ex_36]; rfl); have z1 := z.2.1; have z2 := z.2.2; omega)))).symm), (show (v_1 : Int32).toInt = zNv fl rp.toInt i_8.toInt from by assumption), (show ((rp.toInt = rp.toInt ∧ (i_8.toInt = rp.toInt ∨ (v_1 : Int32).toInt < lo.toInt ∨ hi.toInt < (v_1 : Int32).toInt)) ∨ (rp.toInt = rf.toInt ∧ i_8.toInt ≠ rp.toInt ∧ lo.toInt ≤ (v_1 : Int32).toInt ∧ (v_1 : Int32).toInt ≤ hi.toInt)) from by omega), ⟨by omega, by omega⟩⟩, zRet ht hP hD [0, 1] (by decide) rfl⟩, hS.F ht⟩) hS.2.2 dX3_readNumber_102
            · have fc_55 : i_8.toInt ≠ rp.toInt := zf_ne c_55 rfl rfl
              refine lv_iload hx hb dX3_readNumber_85 (lv_at hl 0 rfl) ?_
              refine lv_iload_n hx hb dX3_readNumber_87 rfl (lv_at hl 3 rfl) ?_
              refine lv_iload_n hx hb dX3_readNumber_88 rfl (lv_at hl 4 rfl) ?_
              refine zc_SN (As := [.int v_1, .int lo, .int hi]) (rest := []) ⟨hx, hb, hml, hown, hts⟩ (c_within l D cI cJ cZ cP cS po (v_1) (lo) (hi) ) ⟨(va_cnB 3 hts gX3_readNumber_X7_within_n109 rfl rfl rfl (hN.1 (RX3, 109, yX7_within) (List.mem_of_getElem? (i := 8) rfl)) (hts _ (List.mem_of_getElem? (i := 10) rfl)) dh_X7_within ⟨Nat.le_of_ble_eq_true rfl, Nat.le_of_ble_eq_true rfl⟩), (hts _ (List.mem_of_getElem? (i := 9) rfl)), trivial⟩ hK hN (hZ.kept hS) rfl hl.1 rfl (Nat.le_of_ble_eq_true rfl) dX3_readNumber_89 ⟨Nat.le_of_ble_eq_true rfl, Nat.le_of_ble_eq_true rfl⟩ (fun r_56 hr_56 => ?_)
              rcases hr_56 with ⟨rfl, g_57⟩ | ⟨rfl, g_58, g_59⟩ | ⟨rfl, g_60, g_61⟩
              · refine lv_if_ne (tgt := 100) hx hb dX3_readNumber_92 (by decide) (fun c_62 => ?_) (fun c_62 => ?_)
                · exact absurd c_62 (by decide)
                · refine lv_aload_n hx hb dX3_readNumber_95 rfl (lv_at hl 2 rfl) ?_
                  refine lv_iload_n hx hb dX3_readNumber_96 rfl (lv_at hl 1 rfl) ?_
                  refine va_put (D := D) (ci := 3) (v := .int rp) (ty := .int) (C := RX3) (T := TX3) (N := 8) hx hb hts hi_X3_readNumber_3 tyX3 tyX3_ok nmX3 hown hK hP hD hS 0 rfl rfl 5 (by decide) (hts (.fieldLink RX3 28 "TheLiningsInIt$Reader" "fault" "I") (List.mem_of_getElem? (i := 4) rfl)) (fun _ h9 => h9) rfl (tyX3_ok 5 (Nat.le_of_ble_eq_true rfl)) rfl rfl (Nat.le_of_ble_eq_true rfl) dX3_readNumber_97 (fun H locs hP hD hS => ?_)
                  have h9R := zRe (ws' := [(rd, .inr (3, [.ref ri, .ref rl, .int rz, .int rc, .int i_8, .int rp, .int rt, .int ru])), (rl, .inl (cI, 160, .inl fl))]) hP hD rfl
                  clear hP hD
                  obtain ⟨hP, hD⟩ := h9R
                  refine lv_iload hx hb dX3_readNumber_100 (lv_at hl 0 rfl) ?_
                  exact W.iret (v := v_1) hx hb hr (fun t ht hW => ⟨⟨v_1, (i_8, rp), rfl, ⟨(show 0 ≤ i_8.toInt ∧ i_8.toInt ≤ 160 from ⟨by omega, by omega⟩), (show (-1) ≤ rp.toInt ∧ rp.toInt ≤ 160 from ⟨by omega, hy5⟩), (show i_8.toInt ≤ rz.toInt from by omega), (show i_8.toInt = zNe fl rz.toInt rp.toInt from by first | exact (zNe_eq (by omega) (by omega) hvi_8_2 (Or.inr (fun z => by (have z1 := z.1; omega)))).symm | exact (zNe_eq (by omega) (by omega) hvi_8_2 (Or.inl (by omega))).symm | exact (zNe_eq (by omega) (by omega) hvi_8_2 (Or.inr (fun z => by (have h8 : (fl i_8.toInt.toNat).toInt = x_36.toInt := (by rw [ex_36]; rfl); have z1 := z.2.1; have z2 := z.2.2; omega)))).symm), (show (v_1 : Int32).toInt = zNv fl rp.toInt i_8.toInt from by assumption), (show ((rp.toInt = rp.toInt ∧ (i_8.toInt = rp.toInt ∨ (v_1 : Int32).toInt < lo.toInt ∨ hi.toInt < (v_1 : Int32).toInt)) ∨ (rp.toInt = rf.toInt ∧ i_8.toInt ≠ rp.toInt ∧ lo.toInt ≤ (v_1 : Int32).toInt ∧ (v_1 : Int32).toInt ≤ hi.toInt)) from by omega), ⟨by omega, by omega⟩⟩, zRet ht hP hD [0, 1] (by decide) rfl⟩, hS.F ht⟩) hS.2.2 dX3_readNumber_102
              · refine lv_if_ne (tgt := 100) hx hb dX3_readNumber_92 (by decide) (fun c_63 => ?_) (fun c_63 => ?_)
                · exact absurd c_63 (by decide)
                · refine lv_aload_n hx hb dX3_readNumber_95 rfl (lv_at hl 2 rfl) ?_
                  refine lv_iload_n hx hb dX3_readNumber_96 rfl (lv_at hl 1 rfl) ?_
                  refine va_put (D := D) (ci := 3) (v := .int rp) (ty := .int) (C := RX3) (T := TX3) (N := 8) hx hb hts hi_X3_readNumber_3 tyX3 tyX3_ok nmX3 hown hK hP hD hS 0 rfl rfl 5 (by decide) (hts (.fieldLink RX3 28 "TheLiningsInIt$Reader" "fault" "I") (List.mem_of_getElem? (i := 4) rfl)) (fun _ h9 => h9) rfl (tyX3_ok 5 (Nat.le_of_ble_eq_true rfl)) rfl rfl (Nat.le_of_ble_eq_true rfl) dX3_readNumber_97 (fun H locs hP hD hS => ?_)
                  have h9R := zRe (ws' := [(rd, .inr (3, [.ref ri, .ref rl, .int rz, .int rc, .int i_8, .int rp, .int rt, .int ru])), (rl, .inl (cI, 160, .inl fl))]) hP hD rfl
                  clear hP hD
                  obtain ⟨hP, hD⟩ := h9R
                  refine lv_iload hx hb dX3_readNumber_100 (lv_at hl 0 rfl) ?_
                  exact W.iret (v := v_1) hx hb hr (fun t ht hW => ⟨⟨v_1, (i_8, rp), rfl, ⟨(show 0 ≤ i_8.toInt ∧ i_8.toInt ≤ 160 from ⟨by omega, by omega⟩), (show (-1) ≤ rp.toInt ∧ rp.toInt ≤ 160 from ⟨by omega, hy5⟩), (show i_8.toInt ≤ rz.toInt from by omega), (show i_8.toInt = zNe fl rz.toInt rp.toInt from by first | exact (zNe_eq (by omega) (by omega) hvi_8_2 (Or.inr (fun z => by (have z1 := z.1; omega)))).symm | exact (zNe_eq (by omega) (by omega) hvi_8_2 (Or.inl (by omega))).symm | exact (zNe_eq (by omega) (by omega) hvi_8_2 (Or.inr (fun z => by (have h8 : (fl i_8.toInt.toNat).toInt = x_36.toInt := (by rw [ex_36]; rfl); have z1 := z.2.1; have z2 := z.2.2; omega)))).symm), (show (v_1 : Int32).toInt = zNv fl rp.toInt i_8.toInt from by assumption), (show ((rp.toInt = rp.toInt ∧ (i_8.toInt = rp.toInt ∨ (v_1 : Int32).toInt < lo.toInt ∨ hi.toInt < (v_1 : Int32).toInt)) ∨ (rp.toInt = rf.toInt ∧ i_8.toInt ≠ rp.toInt ∧ lo.toInt ≤ (v_1 : Int32).toInt ∧ (v_1 : Int32).toInt ≤ hi.toInt)) from by omega), ⟨by omega, by omega⟩⟩, zRet ht hP hD [0, 1] (by decide) rfl⟩, hS.F ht⟩) hS.2.2 dX3_readNumber_102
              · refine lv_if_ne (tgt := 100) hx hb dX3_readNumber_92 (by decide) (fun c_64 => ?_) (fun c_64 => ?_)
                · refine lv_iload hx hb dX3_readNumber_100 (lv_at hl 0 rfl) ?_
                  exact W.iret (v := v_1) hx hb hr (fun t ht hW => ⟨⟨v_1, (i_8, rf), rfl, ⟨(show 0 ≤ i_8.toInt ∧ i_8.toInt ≤ 160 from ⟨by omega, by omega⟩), (show (-1) ≤ rf.toInt ∧ rf.toInt ≤ 160 from ⟨hy7, hy8⟩), (show i_8.toInt ≤ rz.toInt from by omega), (show i_8.toInt = zNe fl rz.toInt rp.toInt from by first | exact (zNe_eq (by omega) (by omega) hvi_8_2 (Or.inr (fun z => by (have z1 := z.1; omega)))).symm | exact (zNe_eq (by omega) (by omega) hvi_8_2 (Or.inl (by omega))).symm | exact (zNe_eq (by omega) (by omega) hvi_8_2 (Or.inr (fun z => by (have h8 : (fl i_8.toInt.toNat).toInt = x_36.toInt := (by rw [ex_36]; rfl); have z1 := z.2.1; have z2 := z.2.2; omega)))).symm), (show (v_1 : Int32).toInt = zNv fl rp.toInt i_8.toInt from by assumption), (show ((rf.toInt = rp.toInt ∧ (i_8.toInt = rp.toInt ∨ (v_1 : Int32).toInt < lo.toInt ∨ hi.toInt < (v_1 : Int32).toInt)) ∨ (rf.toInt = rf.toInt ∧ i_8.toInt ≠ rp.toInt ∧ lo.toInt ≤ (v_1 : Int32).toInt ∧ (v_1 : Int32).toInt ≤ hi.toInt)) from by omega), ⟨by omega, by omega⟩⟩, zRet ht hP hD [0, 1] (by decide) rfl⟩, hS.F ht⟩) hS.2.2 dX3_readNumber_102
                · exact absurd c_64 (by decide)
          · exact absurd c_54 (by decide)
        · refine lv_if_eq (tgt := 77) hx hb dX3_readNumber_41 (by decide) (fun c_65 => ?_) (fun c_65 => ?_)
          · exact absurd c_65 (by decide)
          · refine lv_iload hx hb dX3_readNumber_44 (lv_at hl 0 rfl) ?_
            refine lv_bipush (v := 10) hx hb dX3_readNumber_46 (by decide) ?_
            refine lv_imul hx hb dX3_readNumber_48 ?_
            refine lv_topi (fun x_66 ex_66 => ?_)
            have qx_66 : x_66.toInt = v_1.toInt * 10 := by rw [ex_66]; exact zf_mul rfl (by decide) (by omega) (by omega)
            refine lv_aload_n hx hb dX3_readNumber_49 rfl (lv_at hl 2 rfl) ?_
            refine va_get (D := D) (ci := 3) (v := .ref rl) (C := RX3) (T := TX3) (N := 8) hx hb hts hi_X3_readNumber_3 hown hK hP 0 rfl rfl 1 (by decide) (hts (.fieldLink RX3 15 "TheLiningsInIt$Reader" "letters" "[I") (List.mem_of_getElem? (i := 3) rfl)) (fun _ h9 => h9) rfl dX3_readNumber_50 ?_
            refine lv_aload_n hx hb dX3_readNumber_53 rfl (lv_at hl 2 rfl) ?_
            refine va_get (D := D) (ci := 3) (v := .int i_8) (C := RX3) (T := TX3) (N := 8) hx hb hts hi_X3_readNumber_3 hown hK hP 0 rfl rfl 4 (by decide) (hts (.fieldLink RX3 25 "TheLiningsInIt$Reader" "place" "I") (List.mem_of_getElem? (i := 1) rfl)) (fun _ h9 => h9) rfl dX3_readNumber_54 ?_
            refine va_iald hx hb hK hP 1 0 rfl rfl (zf_in (by omega) (by omega)) dX3_readNumber_57 ?_
            refine lv_topi (fun y_67 ey_67 => ?_)
            obtain rfl : x_36 = y_67 := ex_36.trans ey_67.symm
            refine lv_iadd hx hb dX3_readNumber_58 ?_
            refine lv_topi (fun x_68 ex_68 => ?_)
            have qx_68 : x_68.toInt = x_66.toInt + x_36.toInt := by rw [ex_68]; exact zf_add rfl rfl (by omega) (by omega)
            refine lv_bipush (v := 48) hx hb dX3_readNumber_59 (by decide) ?_
            refine lv_isub hx hb dX3_readNumber_61 ?_
            refine lv_topi (fun x_69 ex_69 => ?_)
            have qx_69 : x_69.toInt = x_68.toInt - 48 := by rw [ex_69]; exact zf_sub rfl (by decide) (by omega) (by omega)
            refine lv_istore (lv' := [(4, .int x_69), (3, .int rp), (0, .ref rd), (1, .int lo), (2, .int hi)]) hx hb dX3_readNumber_62 hl (by decide) rfl (fun ls hl => ?_)
            refine lv_aload_n hx hb dX3_readNumber_64 rfl (lv_at hl 2 rfl) ?_
            refine lv_dup hx hb dX3_readNumber_65 rfl ?_
            refine va_get (D := D) (ci := 3) (v := .int i_8) (C := RX3) (T := TX3) (N := 8) hx hb hts hi_X3_readNumber_3 hown hK hP 0 rfl rfl 4 (by decide) (hts (.fieldLink RX3 25 "TheLiningsInIt$Reader" "place" "I") (List.mem_of_getElem? (i := 1) rfl)) (fun _ h9 => h9) rfl dX3_readNumber_66 ?_
            refine lv_iconst (v := 1) hx hb dX3_readNumber_69 (by decide) ?_
            refine lv_iadd hx hb dX3_readNumber_70 ?_
            refine lv_topi (fun x_70 ex_70 => ?_)
            have qx_70 : x_70.toInt = i_8.toInt + 1 := dw_inc ex_70 fc_25
            refine va_put (D := D) (ci := 3) (v := .int x_70) (ty := .int) (C := RX3) (T := TX3) (N := 8) hx hb hts hi_X3_readNumber_3 tyX3 tyX3_ok nmX3 hown hK hP hD hS 0 rfl rfl 4 (by decide) (hts (.fieldLink RX3 25 "TheLiningsInIt$Reader" "place" "I") (List.mem_of_getElem? (i := 1) rfl)) (fun _ h9 => h9) rfl (tyX3_ok 4 (Nat.le_of_ble_eq_true rfl)) rfl rfl (Nat.le_of_ble_eq_true rfl) dX3_readNumber_71 (fun H locs hP hD hS => ?_)
            have h9R := zRe (ws' := [(rd, .inr (3, [.ref ri, .ref rl, .int rz, .int rc, .int x_70, .int rf, .int rt, .int ru])), (rl, .inl (cI, 160, .inl fl))]) hP hD rfl
            clear hP hD
            obtain ⟨hP, hD⟩ := h9R
            refine lv_goto (tgt := 8) hx hb dX3_readNumber_74 (by decide) ?_
            exact ih x_70 x_69 _ _ _ (hP.sub [0, 1] rfl) (hD.sub [0, 1] (by decide) rfl) hS (lv_sub hl [0, 1, 2, 3, 4] rfl) ⟨by omega, by omega⟩ (show rp.toInt ≤ x_70.toInt ∧ x_70.toInt ≤ rz.toInt from by exact ⟨by omega, by omega⟩) (show x_70.toInt ≤ rp.toInt + 3 from by omega) (show (∀ j : Int, rp.toInt ≤ j → j < x_70.toInt → zDg fl rz.toInt j) from by (have h8 : (fl i_8.toInt.toNat).toInt = x_36.toInt := (by rw [ex_36]; rfl); exact zAll_S (P := fun j => zDg fl rz.toInt j) hvi_8_2 ⟨by omega, by omega, by omega⟩ (by omega))) (show (x_69 : Int32).toInt = zNv fl rp.toInt x_70.toInt from by (have h8 : (fl i_8.toInt.toNat).toInt = x_36.toInt := (by rw [ex_36]; rfl); have z := zNv_S (f := fl) (p := rp.toInt) (q := i_8.toInt) (by omega) (by omega); unfold zDv at z; rw [h8] at z; rw [show x_70.toInt = i_8.toInt + 1 from by omega, z]; omega)) (show (x_70.toInt = rp.toInt → (x_69 : Int32).toInt = 0) ∧ (x_70.toInt ≤ rp.toInt + 1 → (x_69 : Int32).toInt ≤ 9) ∧ (x_70.toInt ≤ rp.toInt + 2 → (x_69 : Int32).toInt ≤ 99) from by omega) (dw_lo hloi_8 qx_70) (dw_hn hni_8 qx_70)
end
section
set_option maxHeartbeats 4000000 in
set_option maxRecDepth 100000 in
theorem c_F_R_readItem (l : Launch) (D : va_G) (cI cJ cZ cP cS : ClassId) (po : zPool) (rd ri rl : Nat) (rz rc rp rf rt ru : Int32) (fl : Nat → Int32) (fi : Nat → Int32) (slot : Int32) (hy0 : 0 ≤ rz.toInt) (hy1 : rz.toInt ≤ 160) (hy2 : 0 ≤ rc.toInt) (hy3 : rc.toInt ≤ 40) (hy4 : 0 ≤ rp.toInt) (hy5 : rp.toInt ≤ 160) (hy6 : rp.toInt ≤ rz.toInt) (hy7 : (-1) ≤ rf.toInt) (hy8 : rf.toInt ≤ 160) (hy9 : 0 ≤ rt.toInt) (hy10 : rt.toInt ≤ 40) (hy11 : 0 ≤ ru.toInt) (hy12 : ru.toInt ≤ 8) (hy13 : 0 ≤ slot.toInt) (hy14 : slot.toInt ≤ 128) (hy15 : rf.toInt = (-1)) (hpz : Nat) : Met l yX3_readItem wsX3_readItem ({ frames := 6, cells := 0, slots := 0, locals := 131 }) (va_Pc [.ref rd, .int slot] (zW D (zKT cI cJ cZ cP cS) po [(rd, .inr (3, [.ref ri, .ref rl, .int rz, .int rc, .int rp, .int rf, .int rt, .int ru])), (rl, .inl (cI, 160, .inl fl)), (ri, .inl (cI, 132, .inl fi))] hpz)) (va_Qv (fun (u : (Int32) × (Int32) × (Int32) × (Int32) × (Nat → Int32)) => (0 ≤ u.1.toInt ∧ u.1.toInt ≤ 160) ∧ ((-1) ≤ u.2.1.toInt ∧ u.2.1.toInt ≤ 160) ∧ (0 ≤ u.2.2.1.toInt ∧ u.2.2.1.toInt ≤ 40) ∧ (0 ≤ u.2.2.2.1.toInt ∧ u.2.2.2.1.toInt ≤ 8) ∧ (u.1.toInt ≤ rz.toInt) ∧ ((u.2.1.toInt = -1 → zIt u.2.2.2.2 slot.toInt.toNat)) ∧ ((∀ j : Nat, j < slot.toInt.toNat → u.2.2.2.2 j = fi j)) ∧ ((u.2.1.toInt = (zItem fl rz.toInt rp.toInt rt.toInt ru.toInt).1 ∧ (u.2.1.toInt = -1 → u.1.toInt = (zItem fl rz.toInt rp.toInt rt.toInt ru.toInt).2.1 ∧ u.2.2.1.toInt = (zItem fl rz.toInt rp.toInt rt.toInt ru.toInt).2.2.1 ∧ u.2.2.2.1.toInt = (zItem fl rz.toInt rp.toInt rt.toInt ru.toInt).2.2.2))) ∧ ((u.2.1.toInt = -1 → ((u.2.2.2.2 slot.toInt.toNat).toInt = 0 → u.2.2.1.toInt = (u.2.2.2.2 (slot.toInt.toNat + 1)).toInt) ∧ ((u.2.2.2.2 slot.toInt.toNat).toInt ≠ 0 → u.2.2.1.toInt = rt.toInt) ∧ ((u.2.2.2.2 slot.toInt.toNat).toInt = 3 → u.2.2.2.1.toInt = ru.toInt + 1) ∧ ((u.2.2.2.2 slot.toInt.toNat).toInt ≠ 3 → u.2.2.2.1.toInt = ru.toInt))) ∧ ((u.2.1.toInt = -1 → zSm (zDS u.2.2.2.2 slot.toInt.toNat) (zIm fl rz.toInt rp.toInt rt.toInt))) ∧ (True)) (zB D [(rd, .inr (3, [.ref ri, .ref rl, .int rz, .int rc, .int rp, .int rf, .int rt, .int ru])), (rl, .inl (cI, 160, .inl fl)), (ri, .inl (cI, 132, .inl fi))] hpz (fun (u : (Int32) × (Int32) × (Int32) × (Int32) × (Nat → Int32)) => [(rd, .inr (3, [.ref ri, .ref rl, .int rz, .int rc, .int u.1, .int u.2.1, .int u.2.2.1, .int u.2.2.2.1])), (rl, .inl (cI, 160, .inl fl)), (ri, .inl (cI, 132, .inl u.2.2.2.2))])) (va_A [(rd, .inr (3, [.ref ri, .ref rl, .int rz, .int rc, .int rp, .int rf, .int rt, .int ru])), (rl, .inl (cI, 160, .inl fl)), (ri, .inl (cI, 132, .inl fi))] hpz)) 0 0 (va_A [(rd, .inr (3, [.ref ri, .ref rl, .int rz, .int rc, .int rp, .int rf, .int rt, .int ru])), (rl, .inl (cI, 160, .inl fl)), (ri, .inl (cI, 132, .inl fi))] hpz) := by
  refine Met.ofW (cc := cX3_readItem) (maxL := 4) (ret := none) (by decide) rfl ?_
  intro p e s m args below meth c s₁ B hml hv
  obtain ⟨rfl, hsz, hP, hK, hD0, hN, hZ⟩ := hv
  have hx := B.exec
  have hb := B.bytes
  have hr := B.returns
  have hts := atoms_spec (ws := wsX3_readItem) B.pre
  have hown : s.vm.findClass RX3 = some m.cls := findClass_of_methodNamed B.named
  have hlocks := B.notSynchronized
  subst hsz
  have hD := hD0.self (sz := s.heap.size)
  have hA := zA_of hD
  have hl := lv_entry ([.ref rd, .int slot]) (n := 4) (Nat.le_of_ble_eq_true rfl)
  rw [lg_entry_eq]
  generalize (lg_sl ([.ref rd, .int slot]) ++ List.replicate (4 - (lg_sl ([.ref rd, .int slot])).length) Slot.unset).toArray = ls at hl ⊢
  replace hl : lv_has ls 4 [(0, .ref rd), (1, .int slot)] := hl
  refine zw_begin hP hD (fun H locs hP1 hS => ?_)
  clear hP
  have hP := hP1
  clear hP1
  refine lv_aload_n hx hb dX3_readItem_0 rfl (lv_at hl 0 rfl) ?_
  skip
  refine zw_V (As := []) (rest := []) (wr := [(ri, .inl (cI, 132, .inl fi))]) ⟨hx, hb, hml, hown, hts⟩ (c_F_R_readWord l D cI cJ cZ cP cS po rd ri rl (rz) (rc) (rp) (rf) (rt) (ru) fl hy0 hy1 hy2 hy3 hy4 hy5 (by omega) hy7 hy8 hy9 hy10 hy11 hy12 H.size) (cwV 0 hts gX3_readItem_X3_readWord rfl rfl rfl ⟨rfl, dh_X3_readWord⟩ ⟨Nat.le_of_ble_eq_true rfl, Nat.le_of_ble_eq_true rfl⟩) hK hN (hZ.kept hS) hP hD hS hA [0, 1] [2] rfl rfl (by decide) (by decide) (by decide) (va_recv (q := (RX3, TX3, 8)) hK hP (ci := 3) (q0 := 0) rfl rfl) rfl hl.1 rfl (Nat.le_of_ble_eq_true rfl) dX3_readItem_1 ⟨Nat.le_of_ble_eq_true rfl, Nat.le_of_ble_eq_true rfl⟩ (fun r_1 u_2 H locs hr_1 hP hD hS => ?_)
  obtain ⟨q_3, q_4⟩ := u_2
  try dsimp only at hr_1
  obtain ⟨hbq_3, hbq_4, hsr_1_0, hsr_1_1, hr_1⟩ := hr_1
  have h9R := zRe (ws' := [(ri, .inl (cI, 132, .inl fi)), (rd, .inr (3, [.ref ri, .ref rl, .int rz, .int rc, .int q_3, .int q_4, .int rt, .int ru])), (rl, .inl (cI, 160, .inl fl))]) hP hD rfl
  clear hP hD
  obtain ⟨hP, hD⟩ := h9R
  obtain ⟨g_5, g_6⟩ := hr_1
  refine lv_istore_n (lv' := [(2, .int r_1), (0, .ref rd), (1, .int slot)]) hx hb dX3_readItem_4 rfl hl (by decide) rfl (fun ls hl => ?_)
  refine lv_iload_n hx hb dX3_readItem_5 rfl (lv_at hl 0 rfl) ?_
  refine lv_iconst (v := (-1)) hx hb dX3_readItem_6 (by decide) ?_
  refine lv_icmp_ne (tgt := 11) hx hb dX3_readItem_7 (by decide) (fun c_7 => ?_) (fun c_7 => ?_)
  · have fc_7 : r_1.toInt ≠ (-1) := zf_ne c_7 rfl (by decide)
    have hsp : r_1 = 0 ∨ r_1 = 1 ∨ r_1 = 2 ∨ r_1 = 3 ∨ r_1 = 4 ∨ r_1 = 5 ∨ r_1 = 6 ∨ r_1 = 7 ∨ r_1 = 8 ∨ r_1 = 9 := by
      rcases (show r_1.toInt = 0 ∨ r_1.toInt = 1 ∨ r_1.toInt = 2 ∨ r_1.toInt = 3 ∨ r_1.toInt = 4 ∨ r_1.toInt = 5 ∨ r_1.toInt = 6 ∨ r_1.toInt = 7 ∨ r_1.toInt = 8 ∨ r_1.toInt = 9 by omega) with h9 | h9 | h9 | h9 | h9 | h9 | h9 | h9 | h9 | h9
      · refine Or.inl ?_; exact zf_val h9 (by decide)
      · refine Or.inr (Or.inl ?_); exact zf_val h9 (by decide)
      · refine Or.inr (Or.inr (Or.inl ?_)); exact zf_val h9 (by decide)
      · refine Or.inr (Or.inr (Or.inr (Or.inl ?_))); exact zf_val h9 (by decide)
      · refine Or.inr (Or.inr (Or.inr (Or.inr (Or.inl ?_)))); exact zf_val h9 (by decide)
      · refine Or.inr (Or.inr (Or.inr (Or.inr (Or.inr (Or.inl ?_))))); exact zf_val h9 (by decide)
      · refine Or.inr (Or.inr (Or.inr (Or.inr (Or.inr (Or.inr (Or.inl ?_)))))); exact zf_val h9 (by decide)
      · refine Or.inr (Or.inr (Or.inr (Or.inr (Or.inr (Or.inr (Or.inr (Or.inl ?_))))))); exact zf_val h9 (by decide)
      · refine Or.inr (Or.inr (Or.inr (Or.inr (Or.inr (Or.inr (Or.inr (Or.inr (Or.inl ?_)))))))); exact zf_val h9 (by decide)
      · refine Or.inr (Or.inr (Or.inr (Or.inr (Or.inr (Or.inr (Or.inr (Or.inr (Or.inr (?_))))))))); exact zf_val h9 (by decide)
    rcases hsp with rfl | rfl | rfl | rfl | rfl | rfl | rfl | rfl | rfl | rfl
    · have kc0 : (0 : Int32).toInt = 0 := by decide
      refine lv_aload_n hx hb dX3_readItem_11 rfl (lv_at hl 1 rfl) ?_
      refine va_get (D := D) (ci := 3) (v := .ref ri) (C := RX3) (T := TX3) (N := 8) hx hb hts hi_X3_readItem_3 hown hK hP 1 rfl rfl 0 (by decide) (hts (.fieldLink RX3 11 "TheLiningsInIt$Reader" "items" "[I") (List.mem_of_getElem? (i := 1) rfl)) (fun _ h9 => h9) rfl dX3_readItem_12 ?_
      refine lv_iload_n hx hb dX3_readItem_15 rfl (lv_at hl 2 rfl) ?_
      refine lv_iload_n hx hb dX3_readItem_16 rfl (lv_at hl 0 rfl) ?_
      refine va_iast hx hb hK hP hD hS 0 0 rfl rfl (zf_in (by omega) (by omega)) dX3_readItem_17 (fun H locs hP hD hS => ?_)
      have h9R := zRe (ws' := [(ri, .inl (cI, 132, .inl (upd fi slot.toNatClampNeg 0))), (rd, .inr (3, [.ref ri, .ref rl, .int rz, .int rc, .int q_3, .int q_4, .int rt, .int ru])), (rl, .inl (cI, 160, .inl fl))]) hP hD rfl
      clear hP hD
      obtain ⟨hP, hD⟩ := h9R
      refine lv_iconst (v := 0) hx hb dX3_readItem_18 (by decide) ?_
      refine lv_istore_n (lv' := [(3, .int 0), (2, .int 0), (0, .ref rd), (1, .int slot)]) hx hb dX3_readItem_19 rfl hl (by decide) rfl (fun ls hl => ?_)
      refine lv_iload_n hx hb dX3_readItem_20 rfl (lv_at hl 0 rfl) ?_
      refine lv_iload_n hx hb dX3_readItem_21 rfl (lv_at hl 1 rfl) ?_
      refine zc_S (As := [.int 0]) (rest := [.int 0]) ⟨hx, hb, hml, hown, hts⟩ (c_R_numbersOf_0 l D cI cJ cZ cP cS po  ) (va_cwS 1 hts gX3_readItem_X3_numbersOf rfl rfl rfl dh_X3_numbersOf ⟨Nat.le_of_ble_eq_true rfl, Nat.le_of_ble_eq_true rfl⟩) hK hN (hZ.kept hS) rfl hl.1 rfl (Nat.le_of_ble_eq_true rfl) dX3_readItem_22 ⟨Nat.le_of_ble_eq_true rfl, Nat.le_of_ble_eq_true rfl⟩ (fun r_8 hr_8 => ?_)
      obtain rfl := hr_8
      refine lv_icmp_ge (tgt := 82) hx hb dX3_readItem_25 (by decide) (fun c_9 => ?_) (fun c_9 => ?_)
      · exact absurd c_9 (by decide)
      · refine lv_aload_n hx hb dX3_readItem_28 rfl (lv_at hl 2 rfl) ?_
        refine lv_bipush (v := 32) hx hb dX3_readItem_29 (by decide) ?_
        have kc32 : (32 : Int32).toInt = 32 := by decide
        skip
        refine zw_Vv (As := [.int 32]) (rest := []) (wr := [(ri, .inl (cI, 132, .inl (upd fi slot.toNatClampNeg 0)))]) ⟨hx, hb, hml, hown, hts⟩ (c_F_R_expect l D cI cJ cZ cP cS po rd ri rl (rz) (rc) (q_3) (q_4) (rt) (ru) fl (32) hy0 hy1 hy2 hy3 hbq_3.1 hbq_3.2 (by omega) hbq_4.1 hbq_4.2 hy9 hy10 hy11 hy12 H.size) (cwV 1 hts gX3_readItem_X3_expect rfl rfl rfl ⟨rfl, dh_X3_expect⟩ ⟨Nat.le_of_ble_eq_true rfl, Nat.le_of_ble_eq_true rfl⟩) hK hN (hZ.kept hS) hP hD hS hA [1, 2] [0] rfl rfl (by decide) (by decide) (by decide) (va_recv (q := (RX3, TX3, 8)) hK hP (ci := 3) (q0 := 1) rfl rfl) rfl hl.1 rfl (Nat.le_of_ble_eq_true rfl) dX3_readItem_31 ⟨Nat.le_of_ble_eq_true rfl, Nat.le_of_ble_eq_true rfl⟩ (fun u_11 H locs hr_10 hP hD hS => ?_)
        obtain ⟨q_12, q_13⟩ := u_11
        try dsimp only at hr_10
        obtain ⟨hbq_12, hbq_13, hsr_10_0, hsr_10_1, hr_10⟩ := hr_10
        have h9R := zRe (ws' := [(ri, .inl (cI, 132, .inl (upd fi slot.toNatClampNeg 0))), (rd, .inr (3, [.ref ri, .ref rl, .int rz, .int rc, .int q_12, .int q_13, .int rt, .int ru])), (rl, .inl (cI, 160, .inl fl))]) hP hD rfl
        clear hP hD
        obtain ⟨hP, hD⟩ := h9R
        refine lv_aload_n hx hb dX3_readItem_34 rfl (lv_at hl 2 rfl) ?_
        refine va_get (D := D) (ci := 3) (v := .int q_13) (C := RX3) (T := TX3) (N := 8) hx hb hts hi_X3_readItem_3 hown hK hP 1 rfl rfl 5 (by decide) (hts (.fieldLink RX3 28 "TheLiningsInIt$Reader" "fault" "I") (List.mem_of_getElem? (i := 2) rfl)) (fun _ h9 => h9) rfl dX3_readItem_35 ?_
        refine lv_iconst (v := (-1)) hx hb dX3_readItem_38 (by decide) ?_
        refine lv_icmp_ne (tgt := 67) hx hb dX3_readItem_39 (by decide) (fun c_14 => ?_) (fun c_14 => ?_)
        · have fc_14 : q_13.toInt ≠ (-1) := zf_ne c_14 rfl (by decide)
          have hn0 : zN1 fl rz.toInt (q_3 : Int32).toInt (zLo 0 0) (zHi 0 0 rt.toInt) = ((q_3 : Int32).toInt, (q_3 : Int32).toInt, 0) := zN1_no (by omega)
          refine lv_aload_n hx hb dX3_readItem_67 rfl (lv_at hl 2 rfl) ?_
          refine va_get (D := D) (ci := 3) (v := .int q_13) (C := RX3) (T := TX3) (N := 8) hx hb hts hi_X3_readItem_3 hown hK hP 1 rfl rfl 5 (by decide) (hts (.fieldLink RX3 28 "TheLiningsInIt$Reader" "fault" "I") (List.mem_of_getElem? (i := 2) rfl)) (fun _ h9 => h9) rfl dX3_readItem_68 ?_
          refine lv_iconst (v := (-1)) hx hb dX3_readItem_71 (by decide) ?_
          refine lv_icmp_eq (tgt := 76) hx hb dX3_readItem_72 (by decide) (fun c_15 => ?_) (fun c_15 => ?_)
          · exfalso; have fc_15 : q_13.toInt = (-1) := zf_eq c_15 rfl (by decide); omega
          · have fc_15 : q_13.toInt ≠ (-1) := zf_ne c_15 rfl (by decide)
            have e0 : slot.toNatClampNeg = slot.toInt.toNat + 0 := (by show (slot : Int32).toInt.toNat = _; omega)
            have hI := zIn_a hn0 (by first | (right; decide) | (left; omega))
            exact W.vret hx hb hr (fun t ht hW => ⟨⟨(q_12, q_13, rt, ru, (upd fi slot.toNatClampNeg 0)), rfl, ⟨(show 0 ≤ q_12.toInt ∧ q_12.toInt ≤ 160 from hbq_12), (show (-1) ≤ q_13.toInt ∧ q_13.toInt ≤ 160 from hbq_13), (show 0 ≤ rt.toInt ∧ rt.toInt ≤ 40 from ⟨hy9, hy10⟩), (show 0 ≤ ru.toInt ∧ ru.toInt ≤ 8 from ⟨hy11, hy12⟩), (show q_12.toInt ≤ rz.toInt from by omega), (show (q_13.toInt = -1 → zIt (upd fi slot.toNatClampNeg 0) slot.toInt.toNat) from by (intro h; exfalso; omega)), (show (∀ j : Nat, j < slot.toInt.toNat → (upd fi slot.toNatClampNeg 0) j = fi j) from by (intro j hj; simp only [upd]; rw [if_neg (by omega)])), (show (q_13.toInt = (zItem fl rz.toInt rp.toInt rt.toInt ru.toInt).1 ∧ (q_13.toInt = -1 → q_12.toInt = (zItem fl rz.toInt rp.toInt rt.toInt ru.toInt).2.1 ∧ rt.toInt = (zItem fl rz.toInt rp.toInt rt.toInt ru.toInt).2.2.1 ∧ ru.toInt = (zItem fl rz.toInt rp.toInt rt.toInt ru.toInt).2.2.2)) from by (have z9 := hsr_1_1; rw [kc0] at z9; have hq : zFst fl rz.toInt rp.toInt zWds 10 = 0 ∧ ¬ ((0 : Int) = 3 ∧ ru.toInt = 8) := (by omega); have hl9 : (q_3 : Int32).toInt = rp.toInt + ((zWds ((0 : Int)).toNat).length : Nat) := (by omega); rw [zItem_w hq.1 (by decide) hq.2 hl9 hI]; dsimp only; exact ⟨by (first | rfl | omega), fun h => ⟨by (first | rfl | omega), by (show _ = (if (0 : Int) = 0 then _ else _); first | (rw [if_pos rfl]; done) | (rw [if_pos rfl]; first | rfl | omega)), by (show _ = (if (0 : Int) = 3 then _ else _); rw [if_neg (by decide)])⟩⟩)), (show (q_13.toInt = -1 → (((upd fi slot.toNatClampNeg 0) slot.toInt.toNat).toInt = 0 → rt.toInt = ((upd fi slot.toNatClampNeg 0) (slot.toInt.toNat + 1)).toInt) ∧ (((upd fi slot.toNatClampNeg 0) slot.toInt.toNat).toInt ≠ 0 → rt.toInt = rt.toInt) ∧ (((upd fi slot.toNatClampNeg 0) slot.toInt.toNat).toInt = 3 → ru.toInt = ru.toInt + 1) ∧ (((upd fi slot.toNatClampNeg 0) slot.toInt.toNat).toInt ≠ 3 → ru.toInt = ru.toInt)) from by (intro h; exfalso; omega)), (show (q_13.toInt = -1 → zSm (zDS (upd fi slot.toNatClampNeg 0) slot.toInt.toNat) (zIm fl rz.toInt rp.toInt rt.toInt)) from by (intro h; exfalso; omega)), trivial⟩, zRet ht hP hD [1, 2, 0] (by decide) rfl⟩, hS.F ht⟩) hS.2.2 dX3_readItem_75
        · have fc_14 : q_13.toInt = (-1) := zf_eq c_14 rfl (by decide)
          refine lv_aload_n hx hb dX3_readItem_42 rfl (lv_at hl 2 rfl) ?_
          refine va_get (D := D) (ci := 3) (v := .ref ri) (C := RX3) (T := TX3) (N := 8) hx hb hts hi_X3_readItem_3 hown hK hP 1 rfl rfl 0 (by decide) (hts (.fieldLink RX3 11 "TheLiningsInIt$Reader" "items" "[I") (List.mem_of_getElem? (i := 1) rfl)) (fun _ h9 => h9) rfl dX3_readItem_43 ?_
          refine lv_iload_n hx hb dX3_readItem_46 rfl (lv_at hl 3 rfl) ?_
          refine lv_iconst (v := 1) hx hb dX3_readItem_47 (by decide) ?_
          refine lv_iadd hx hb dX3_readItem_48 ?_
          refine lv_topi (fun x_16 ex_16 => ?_)
          have qx_16 : x_16.toInt = slot.toInt + 1 := by rw [ex_16]; exact zf_add rfl (by decide) (by omega) (by omega)
          refine lv_iload_n hx hb dX3_readItem_49 rfl (lv_at hl 0 rfl) ?_
          refine lv_iadd hx hb dX3_readItem_50 ?_
          refine lv_topi (fun y_17 ey_17 => ?_)
          obtain rfl : x_16 = y_17 := (ey_17.trans (Int32.add_zero x_16)).symm
          refine lv_aload_n hx hb dX3_readItem_51 rfl (lv_at hl 2 rfl) ?_
          refine lv_iload_n hx hb dX3_readItem_52 rfl (lv_at hl 1 rfl) ?_
          refine lv_iload_n hx hb dX3_readItem_53 rfl (lv_at hl 0 rfl) ?_
          refine zc_S (As := [.int 0, .int 0]) (rest := [.ref rd, .int x_16, .ref ri]) ⟨hx, hb, hml, hown, hts⟩ (c_R_leastOf_0_0 l D cI cJ cZ cP cS po  ) (va_cwS 2 hts gX3_readItem_X3_leastOf rfl rfl rfl dh_X3_leastOf ⟨Nat.le_of_ble_eq_true rfl, Nat.le_of_ble_eq_true rfl⟩) hK hN (hZ.kept hS) rfl hl.1 rfl (Nat.le_of_ble_eq_true rfl) dX3_readItem_54 ⟨Nat.le_of_ble_eq_true rfl, Nat.le_of_ble_eq_true rfl⟩ (fun r_18 hr_18 => ?_)
          obtain rfl := hr_18
          refine lv_aload_n hx hb dX3_readItem_57 rfl (lv_at hl 2 rfl) ?_
          refine lv_iload_n hx hb dX3_readItem_58 rfl (lv_at hl 1 rfl) ?_
          refine lv_iload_n hx hb dX3_readItem_59 rfl (lv_at hl 0 rfl) ?_
          refine zc_V (As := [.int 0, .int 0]) (rest := [.int 4, .ref rd, .int x_16, .ref ri]) ⟨hx, hb, hml, hown, hts⟩ (c_R_mostOf_0_0 l D cI cJ cZ cP cS po rd ri rl (rz) (rc) (q_12) (q_13) (rt) (ru) hy0 hy1 hy2 hy3 hbq_12.1 hbq_12.2 (by omega) hbq_13.1 hbq_13.2 hy9 hy10 hy11 hy12) (cwV 2 hts gX3_readItem_X3_mostOf rfl rfl rfl ⟨rfl, dh_X3_mostOf⟩ ⟨Nat.le_of_ble_eq_true rfl, Nat.le_of_ble_eq_true rfl⟩) hK hN (hZ.kept hS) hP (hP.sub [1] rfl) (va_recv (q := (RX3, TX3, 8)) hK hP (ci := 3) (q0 := 1) rfl rfl) rfl hl.1 rfl (Nat.le_of_ble_eq_true rfl) dX3_readItem_60 ⟨Nat.le_of_ble_eq_true rfl, Nat.le_of_ble_eq_true rfl⟩ (fun r_19 hr_19 => ?_)
          obtain rfl := hr_19
          have kc4 : (4 : Int32).toInt = 4 := by decide
          have kc40 : (40 : Int32).toInt = 40 := by decide
          skip
          refine zw_V (As := [.int 4, .int 40]) (rest := [.int x_16, .ref ri]) (wr := [(ri, .inl (cI, 132, .inl (upd fi slot.toNatClampNeg 0)))]) ⟨hx, hb, hml, hown, hts⟩ (c_F_R_readNumber l D cI cJ cZ cP cS po rd ri rl (rz) (rc) (q_12) (q_13) (rt) (ru) fl (4) (40) hy0 hy1 hy2 hy3 hbq_12.1 hbq_12.2 (by omega) hbq_13.1 hbq_13.2 hy9 hy10 hy11 hy12 H.size) (cwV 2 hts gX3_readItem_X3_readNumber rfl rfl rfl ⟨rfl, dh_X3_readNumber⟩ ⟨Nat.le_of_ble_eq_true rfl, Nat.le_of_ble_eq_true rfl⟩) hK hN (hZ.kept hS) hP hD hS hA [1, 2] [0] rfl rfl (by decide) (by decide) (by decide) (va_recv (q := (RX3, TX3, 8)) hK hP (ci := 3) (q0 := 1) rfl rfl) rfl hl.1 rfl (Nat.le_of_ble_eq_true rfl) dX3_readItem_63 ⟨Nat.le_of_ble_eq_true rfl, Nat.le_of_ble_eq_true rfl⟩ (fun r_20 u_21 H locs hr_20 hP hD hS => ?_)
          obtain ⟨q_22, q_23⟩ := u_21
          try dsimp only at hr_20
          obtain ⟨hbq_22, hbq_23, hsr_20_0, hsr_20_1, hsr_20_2, hsr_20_3, hr_20⟩ := hr_20
          have h9R := zRe (ws' := [(ri, .inl (cI, 132, .inl (upd fi slot.toNatClampNeg 0))), (rd, .inr (3, [.ref ri, .ref rl, .int rz, .int rc, .int q_22, .int q_23, .int rt, .int ru])), (rl, .inl (cI, 160, .inl fl))]) hP hD rfl
          clear hP hD
          obtain ⟨hP, hD⟩ := h9R
          obtain ⟨g_24, g_25⟩ := hr_20
          refine va_iast hx hb hK hP hD hS 0 0 rfl rfl (zf_in (by omega) (by omega)) dX3_readItem_66 (fun H locs hP hD hS => ?_)
          have h9R := zRe (ws' := [(ri, .inl (cI, 132, .inl (upd (upd fi slot.toNatClampNeg 0) x_16.toNatClampNeg r_20))), (rd, .inr (3, [.ref ri, .ref rl, .int rz, .int rc, .int q_22, .int q_23, .int rt, .int ru])), (rl, .inl (cI, 160, .inl fl))]) hP hD rfl
          clear hP hD
          obtain ⟨hP, hD⟩ := h9R
          have hn0 : zN1 fl rz.toInt (q_3 : Int32).toInt (zLo 0 0) (zHi 0 0 rt.toInt) = ((q_23 : Int32).toInt, (q_22 : Int32).toInt, r_20.toInt) := zN1_yes (p1 := (q_12 : Int32).toInt) (lo2 := ((4 : Int32)).toInt) (hi2 := ((40 : Int32)).toInt) (by omega) (by omega) hsr_20_1 hsr_20_2 (by first | decide | (show (0 : Int) = _; omega)) (by first | decide | (show (40 : Int) = _; decide) | (show rt.toInt - 1 = _; omega) | (show rt.toInt = _; omega)) (by omega)
          refine lv_aload_n hx hb dX3_readItem_67 rfl (lv_at hl 2 rfl) ?_
          refine va_get (D := D) (ci := 3) (v := .int q_23) (C := RX3) (T := TX3) (N := 8) hx hb hts hi_X3_readItem_3 hown hK hP 1 rfl rfl 5 (by decide) (hts (.fieldLink RX3 28 "TheLiningsInIt$Reader" "fault" "I") (List.mem_of_getElem? (i := 2) rfl)) (fun _ h9 => h9) rfl dX3_readItem_68 ?_
          refine lv_iconst (v := (-1)) hx hb dX3_readItem_71 (by decide) ?_
          refine lv_icmp_eq (tgt := 76) hx hb dX3_readItem_72 (by decide) (fun c_26 => ?_) (fun c_26 => ?_)
          · have fc_26 : q_23.toInt = (-1) := zf_eq c_26 rfl (by decide)
            refine lv_iinc (v := 1) (lv' := [(3, .int 1), (2, .int 0), (0, .ref rd), (1, .int slot)]) hx hb dX3_readItem_76 hl (k := 0) rfl (by decide) (by decide) rfl (fun ls hl => ?_)
            refine lv_goto (tgt := 20) hx hb dX3_readItem_79 (by decide) ?_
            refine lv_iload_n hx hb dX3_readItem_20 rfl (lv_at hl 0 rfl) ?_
            refine lv_iload_n hx hb dX3_readItem_21 rfl (lv_at hl 1 rfl) ?_
            refine zc_S (As := [.int 0]) (rest := [.int 1]) ⟨hx, hb, hml, hown, hts⟩ (c_R_numbersOf_0 l D cI cJ cZ cP cS po  ) (va_cwS 1 hts gX3_readItem_X3_numbersOf rfl rfl rfl dh_X3_numbersOf ⟨Nat.le_of_ble_eq_true rfl, Nat.le_of_ble_eq_true rfl⟩) hK hN (hZ.kept hS) rfl hl.1 rfl (Nat.le_of_ble_eq_true rfl) dX3_readItem_22 ⟨Nat.le_of_ble_eq_true rfl, Nat.le_of_ble_eq_true rfl⟩ (fun r_27 hr_27 => ?_)
            obtain rfl := hr_27
            refine lv_icmp_ge (tgt := 82) hx hb dX3_readItem_25 (by decide) (fun c_28 => ?_) (fun c_28 => ?_)
            · refine lv_iload_n hx hb dX3_readItem_82 rfl (lv_at hl 1 rfl) ?_
              refine lv_if_ne (tgt := 101) hx hb dX3_readItem_83 (by decide) (fun c_29 => ?_) (fun c_29 => ?_)
              · exact absurd c_29 (by decide)
              · refine lv_aload_n hx hb dX3_readItem_86 rfl (lv_at hl 2 rfl) ?_
                refine lv_aload_n hx hb dX3_readItem_87 rfl (lv_at hl 2 rfl) ?_
                refine va_get (D := D) (ci := 3) (v := .ref ri) (C := RX3) (T := TX3) (N := 8) hx hb hts hi_X3_readItem_3 hown hK hP 1 rfl rfl 0 (by decide) (hts (.fieldLink RX3 11 "TheLiningsInIt$Reader" "items" "[I") (List.mem_of_getElem? (i := 1) rfl)) (fun _ h9 => h9) rfl dX3_readItem_88 ?_
                refine lv_iload_n hx hb dX3_readItem_91 rfl (lv_at hl 3 rfl) ?_
                refine lv_iconst (v := 1) hx hb dX3_readItem_92 (by decide) ?_
                refine lv_iadd hx hb dX3_readItem_93 ?_
                refine lv_topi (fun y_30 ey_30 => ?_)
                obtain rfl : x_16 = y_30 := ex_16.trans ey_30.symm
                refine va_iald hx hb hK hP 0 0 rfl rfl (zf_in (by omega) (by omega)) dX3_readItem_94 ?_
                refine lv_topi (fun x_31 ex_31 => ?_)
                obtain rfl : r_20 = x_31 := (ex_31.trans (by simp [upd])).symm
                refine va_put (D := D) (ci := 3) (v := .int r_20) (ty := .int) (C := RX3) (T := TX3) (N := 8) hx hb hts hi_X3_readItem_3 tyX3 tyX3_ok nmX3 hown hK hP hD hS 1 rfl rfl 6 (by decide) (hts (.fieldLink RX3 31 "TheLiningsInIt$Reader" "teeth" "I") (List.mem_of_getElem? (i := 3) rfl)) (fun _ h9 => h9) rfl (tyX3_ok 6 (Nat.le_of_ble_eq_true rfl)) rfl rfl (Nat.le_of_ble_eq_true rfl) dX3_readItem_95 (fun H locs hP hD hS => ?_)
                have h9R := zRe (ws' := [(ri, .inl (cI, 132, .inl (upd (upd fi slot.toNatClampNeg 0) x_16.toNatClampNeg r_20))), (rd, .inr (3, [.ref ri, .ref rl, .int rz, .int rc, .int q_22, .int q_23, .int r_20, .int ru])), (rl, .inl (cI, 160, .inl fl))]) hP hD rfl
                clear hP hD
                obtain ⟨hP, hD⟩ := h9R
                refine lv_goto (tgt := 116) hx hb dX3_readItem_98 (by decide) ?_
                have e0 : slot.toNatClampNeg = slot.toInt.toNat + 0 := (by show (slot : Int32).toInt.toNat = _; omega)
                have e1 : x_16.toNatClampNeg = slot.toInt.toNat + 1 := (by show (x_16 : Int32).toInt.toNat = _; omega)
                have hI := zIn_a hn0 (by first | (right; decide) | (left; omega))
                exact W.vret hx hb hr (fun t ht hW => ⟨⟨(q_22, q_23, r_20, ru, (upd (upd fi slot.toNatClampNeg 0) x_16.toNatClampNeg r_20)), rfl, ⟨(show 0 ≤ q_22.toInt ∧ q_22.toInt ≤ 160 from hbq_22), (show (-1) ≤ q_23.toInt ∧ q_23.toInt ≤ 160 from hbq_23), (show 0 ≤ r_20.toInt ∧ r_20.toInt ≤ 40 from ⟨by omega, by omega⟩), (show 0 ≤ ru.toInt ∧ ru.toInt ≤ 8 from ⟨hy11, hy12⟩), (show q_22.toInt ≤ rz.toInt from by omega), (show (q_23.toInt = -1 → zIt (upd (upd fi slot.toNatClampNeg 0) x_16.toNatClampNeg r_20) slot.toInt.toNat) from by (intro h; have k3 : (0 : Int32).toInt = 0 := (by decide); exact zIt_mk (by simp only [upd]; rw [if_neg (by omega), if_pos (by omega)]) (by simp only [upd]; rw [if_pos (by omega)]) (rfl) (rfl) (by unfold zItv; refine ⟨?_, ?_, ?_, ?_, ?_, ?_, ?_, ?_, ?_, ?_, ?_⟩ <;> (intros; omega)))), (show (∀ j : Nat, j < slot.toInt.toNat → (upd (upd fi slot.toNatClampNeg 0) x_16.toNatClampNeg r_20) j = fi j) from by (intro j hj; simp only [upd]; rw [if_neg (by omega), if_neg (by omega)])), (show (q_23.toInt = (zItem fl rz.toInt rp.toInt rt.toInt ru.toInt).1 ∧ (q_23.toInt = -1 → q_22.toInt = (zItem fl rz.toInt rp.toInt rt.toInt ru.toInt).2.1 ∧ r_20.toInt = (zItem fl rz.toInt rp.toInt rt.toInt ru.toInt).2.2.1 ∧ ru.toInt = (zItem fl rz.toInt rp.toInt rt.toInt ru.toInt).2.2.2)) from by (have z9 := hsr_1_1; rw [kc0] at z9; have hq : zFst fl rz.toInt rp.toInt zWds 10 = 0 ∧ ¬ ((0 : Int) = 3 ∧ ru.toInt = 8) := (by omega); have hl9 : (q_3 : Int32).toInt = rp.toInt + ((zWds ((0 : Int)).toNat).length : Nat) := (by omega); rw [zItem_w hq.1 (by decide) hq.2 hl9 hI]; dsimp only; exact ⟨by (first | rfl | omega), fun h => ⟨by (first | rfl | omega), by (show _ = (if (0 : Int) = 0 then _ else _); first | (rw [if_pos rfl]; done) | (rw [if_pos rfl]; first | rfl | omega)), by (show _ = (if (0 : Int) = 3 then _ else _); rw [if_neg (by decide)])⟩⟩)), (show (q_23.toInt = -1 → (((upd (upd fi slot.toNatClampNeg 0) x_16.toNatClampNeg r_20) slot.toInt.toNat).toInt = 0 → r_20.toInt = ((upd (upd fi slot.toNatClampNeg 0) x_16.toNatClampNeg r_20) (slot.toInt.toNat + 1)).toInt) ∧ (((upd (upd fi slot.toNatClampNeg 0) x_16.toNatClampNeg r_20) slot.toInt.toNat).toInt ≠ 0 → r_20.toInt = rt.toInt) ∧ (((upd (upd fi slot.toNatClampNeg 0) x_16.toNatClampNeg r_20) slot.toInt.toNat).toInt = 3 → ru.toInt = ru.toInt + 1) ∧ (((upd (upd fi slot.toNatClampNeg 0) x_16.toNatClampNeg r_20) slot.toInt.toNat).toInt ≠ 3 → ru.toInt = ru.toInt)) from by (intro h; have g0 : (upd (upd fi slot.toNatClampNeg 0) x_16.toNatClampNeg r_20) slot.toInt.toNat = (0 : Int32) := (by simp only [upd]; rw [if_neg (by omega), if_pos (by omega)]); have g1 : (upd (upd fi slot.toNatClampNeg 0) x_16.toNatClampNeg r_20) (slot.toInt.toNat + 1) = (r_20 : Int32) := (by simp only [upd]; rw [if_pos (by omega)]); rw [g0, g1]; refine ⟨?_, ?_, ?_, ?_⟩ <;> (intro h9; first | rfl | omega | (exfalso; omega)))), (show (q_23.toInt = -1 → zSm (zDS (upd (upd fi slot.toNatClampNeg 0) x_16.toNatClampNeg r_20) slot.toInt.toNat) (zIm fl rz.toInt rp.toInt rt.toInt)) from by (intro h; have g0 : (upd (upd fi slot.toNatClampNeg 0) x_16.toNatClampNeg r_20) (slot.toInt.toNat + 0) = (0 : Int32) := (by simp only [upd]; rw [if_neg (by omega), if_pos (by omega)]); have g1 : (upd (upd fi slot.toNatClampNeg 0) x_16.toNatClampNeg r_20) (slot.toInt.toNat + 1) = (r_20 : Int32) := (by simp only [upd]; rw [if_pos (by omega)]); have z9 := hsr_1_1; rw [kc0] at z9; have hW : zIW fl rz.toInt rp.toInt = 0 := (by unfold zIW; omega); have hP9 : zIP fl rz.toInt rp.toInt = (q_3 : Int32).toInt := (by unfold zIP; rw [hW]; have hl9 : (q_3 : Int32).toInt = rp.toInt + ((zWds ((0 : Int)).toNat).length : Nat) := (by omega); exact hl9.symm); exact ⟨(show ((upd (upd fi slot.toNatClampNeg 0) x_16.toNatClampNeg r_20) (slot.toInt.toNat + 0)).toInt = zIW fl rz.toInt rp.toInt from by (rw [g0, hW]; omega)), (show ((upd (upd fi slot.toNatClampNeg 0) x_16.toNatClampNeg r_20) (slot.toInt.toNat + 1)).toInt = (zIn fl rz.toInt (zIP fl rz.toInt rp.toInt) rt.toInt (zIW fl rz.toInt rp.toInt)).2.2 from by (rw [g1, hP9, hW, hI])), fun hz => absurd (show ((upd (upd fi slot.toNatClampNeg 0) x_16.toNatClampNeg r_20) (slot.toInt.toNat + 0)).toInt = 2 ∨ ((upd (upd fi slot.toNatClampNeg 0) x_16.toNatClampNeg r_20) (slot.toInt.toNat + 0)).toInt = 3 ∨ ((upd (upd fi slot.toNatClampNeg 0) x_16.toNatClampNeg r_20) (slot.toInt.toNat + 0)).toInt = 8 from hz) (by rw [g0]; omega), fun hz => absurd (show ((upd (upd fi slot.toNatClampNeg 0) x_16.toNatClampNeg r_20) (slot.toInt.toNat + 0)).toInt = 3 from hz) (by rw [g0]; omega)⟩)), trivial⟩, zRet ht hP hD [1, 2, 0] (by decide) rfl⟩, hS.F ht⟩) hS.2.2 dX3_readItem_116
            · exact absurd c_28 (by decide)
          · have fc_26 : q_23.toInt ≠ (-1) := zf_ne c_26 rfl (by decide)
            have e0 : slot.toNatClampNeg = slot.toInt.toNat + 0 := (by show (slot : Int32).toInt.toNat = _; omega)
            have e1 : x_16.toNatClampNeg = slot.toInt.toNat + 1 := (by show (x_16 : Int32).toInt.toNat = _; omega)
            have hI := zIn_a hn0 (by first | (right; decide) | (left; omega))
            exact W.vret hx hb hr (fun t ht hW => ⟨⟨(q_22, q_23, rt, ru, (upd (upd fi slot.toNatClampNeg 0) x_16.toNatClampNeg r_20)), rfl, ⟨(show 0 ≤ q_22.toInt ∧ q_22.toInt ≤ 160 from hbq_22), (show (-1) ≤ q_23.toInt ∧ q_23.toInt ≤ 160 from hbq_23), (show 0 ≤ rt.toInt ∧ rt.toInt ≤ 40 from ⟨hy9, hy10⟩), (show 0 ≤ ru.toInt ∧ ru.toInt ≤ 8 from ⟨hy11, hy12⟩), (show q_22.toInt ≤ rz.toInt from by omega), (show (q_23.toInt = -1 → zIt (upd (upd fi slot.toNatClampNeg 0) x_16.toNatClampNeg r_20) slot.toInt.toNat) from by (intro h; exfalso; omega)), (show (∀ j : Nat, j < slot.toInt.toNat → (upd (upd fi slot.toNatClampNeg 0) x_16.toNatClampNeg r_20) j = fi j) from by (intro j hj; simp only [upd]; rw [if_neg (by omega), if_neg (by omega)])), (show (q_23.toInt = (zItem fl rz.toInt rp.toInt rt.toInt ru.toInt).1 ∧ (q_23.toInt = -1 → q_22.toInt = (zItem fl rz.toInt rp.toInt rt.toInt ru.toInt).2.1 ∧ rt.toInt = (zItem fl rz.toInt rp.toInt rt.toInt ru.toInt).2.2.1 ∧ ru.toInt = (zItem fl rz.toInt rp.toInt rt.toInt ru.toInt).2.2.2)) from by (have z9 := hsr_1_1; rw [kc0] at z9; have hq : zFst fl rz.toInt rp.toInt zWds 10 = 0 ∧ ¬ ((0 : Int) = 3 ∧ ru.toInt = 8) := (by omega); have hl9 : (q_3 : Int32).toInt = rp.toInt + ((zWds ((0 : Int)).toNat).length : Nat) := (by omega); rw [zItem_w hq.1 (by decide) hq.2 hl9 hI]; dsimp only; exact ⟨by (first | rfl | omega), fun h => ⟨by (first | rfl | omega), by (show _ = (if (0 : Int) = 0 then _ else _); first | (rw [if_pos rfl]; done) | (rw [if_pos rfl]; first | rfl | omega)), by (show _ = (if (0 : Int) = 3 then _ else _); rw [if_neg (by decide)])⟩⟩)), (show (q_23.toInt = -1 → (((upd (upd fi slot.toNatClampNeg 0) x_16.toNatClampNeg r_20) slot.toInt.toNat).toInt = 0 → rt.toInt = ((upd (upd fi slot.toNatClampNeg 0) x_16.toNatClampNeg r_20) (slot.toInt.toNat + 1)).toInt) ∧ (((upd (upd fi slot.toNatClampNeg 0) x_16.toNatClampNeg r_20) slot.toInt.toNat).toInt ≠ 0 → rt.toInt = rt.toInt) ∧ (((upd (upd fi slot.toNatClampNeg 0) x_16.toNatClampNeg r_20) slot.toInt.toNat).toInt = 3 → ru.toInt = ru.toInt + 1) ∧ (((upd (upd fi slot.toNatClampNeg 0) x_16.toNatClampNeg r_20) slot.toInt.toNat).toInt ≠ 3 → ru.toInt = ru.toInt)) from by (intro h; exfalso; omega)), (show (q_23.toInt = -1 → zSm (zDS (upd (upd fi slot.toNatClampNeg 0) x_16.toNatClampNeg r_20) slot.toInt.toNat) (zIm fl rz.toInt rp.toInt rt.toInt)) from by (intro h; exfalso; omega)), trivial⟩, zRet ht hP hD [1, 2, 0] (by decide) rfl⟩, hS.F ht⟩) hS.2.2 dX3_readItem_75
    · have kc1 : (1 : Int32).toInt = 1 := by decide
      refine lv_aload_n hx hb dX3_readItem_11 rfl (lv_at hl 1 rfl) ?_
      refine va_get (D := D) (ci := 3) (v := .ref ri) (C := RX3) (T := TX3) (N := 8) hx hb hts hi_X3_readItem_3 hown hK hP 1 rfl rfl 0 (by decide) (hts (.fieldLink RX3 11 "TheLiningsInIt$Reader" "items" "[I") (List.mem_of_getElem? (i := 1) rfl)) (fun _ h9 => h9) rfl dX3_readItem_12 ?_
      refine lv_iload_n hx hb dX3_readItem_15 rfl (lv_at hl 2 rfl) ?_
      refine lv_iload_n hx hb dX3_readItem_16 rfl (lv_at hl 0 rfl) ?_
      refine va_iast hx hb hK hP hD hS 0 0 rfl rfl (zf_in (by omega) (by omega)) dX3_readItem_17 (fun H locs hP hD hS => ?_)
      have h9R := zRe (ws' := [(ri, .inl (cI, 132, .inl (upd fi slot.toNatClampNeg 1))), (rd, .inr (3, [.ref ri, .ref rl, .int rz, .int rc, .int q_3, .int q_4, .int rt, .int ru])), (rl, .inl (cI, 160, .inl fl))]) hP hD rfl
      clear hP hD
      obtain ⟨hP, hD⟩ := h9R
      refine lv_iconst (v := 0) hx hb dX3_readItem_18 (by decide) ?_
      refine lv_istore_n (lv' := [(3, .int 0), (2, .int 1), (0, .ref rd), (1, .int slot)]) hx hb dX3_readItem_19 rfl hl (by decide) rfl (fun ls hl => ?_)
      refine lv_iload_n hx hb dX3_readItem_20 rfl (lv_at hl 0 rfl) ?_
      refine lv_iload_n hx hb dX3_readItem_21 rfl (lv_at hl 1 rfl) ?_
      refine zc_S (As := [.int 1]) (rest := [.int 0]) ⟨hx, hb, hml, hown, hts⟩ (c_R_numbersOf_1 l D cI cJ cZ cP cS po  ) (va_cwS 1 hts gX3_readItem_X3_numbersOf rfl rfl rfl dh_X3_numbersOf ⟨Nat.le_of_ble_eq_true rfl, Nat.le_of_ble_eq_true rfl⟩) hK hN (hZ.kept hS) rfl hl.1 rfl (Nat.le_of_ble_eq_true rfl) dX3_readItem_22 ⟨Nat.le_of_ble_eq_true rfl, Nat.le_of_ble_eq_true rfl⟩ (fun r_32 hr_32 => ?_)
      obtain rfl := hr_32
      refine lv_icmp_ge (tgt := 82) hx hb dX3_readItem_25 (by decide) (fun c_33 => ?_) (fun c_33 => ?_)
      · exact absurd c_33 (by decide)
      · refine lv_aload_n hx hb dX3_readItem_28 rfl (lv_at hl 2 rfl) ?_
        refine lv_bipush (v := 32) hx hb dX3_readItem_29 (by decide) ?_
        have kc32 : (32 : Int32).toInt = 32 := by decide
        skip
        refine zw_Vv (As := [.int 32]) (rest := []) (wr := [(ri, .inl (cI, 132, .inl (upd fi slot.toNatClampNeg 1)))]) ⟨hx, hb, hml, hown, hts⟩ (c_F_R_expect l D cI cJ cZ cP cS po rd ri rl (rz) (rc) (q_3) (q_4) (rt) (ru) fl (32) hy0 hy1 hy2 hy3 hbq_3.1 hbq_3.2 (by omega) hbq_4.1 hbq_4.2 hy9 hy10 hy11 hy12 H.size) (cwV 1 hts gX3_readItem_X3_expect rfl rfl rfl ⟨rfl, dh_X3_expect⟩ ⟨Nat.le_of_ble_eq_true rfl, Nat.le_of_ble_eq_true rfl⟩) hK hN (hZ.kept hS) hP hD hS hA [1, 2] [0] rfl rfl (by decide) (by decide) (by decide) (va_recv (q := (RX3, TX3, 8)) hK hP (ci := 3) (q0 := 1) rfl rfl) rfl hl.1 rfl (Nat.le_of_ble_eq_true rfl) dX3_readItem_31 ⟨Nat.le_of_ble_eq_true rfl, Nat.le_of_ble_eq_true rfl⟩ (fun u_35 H locs hr_34 hP hD hS => ?_)
        obtain ⟨q_36, q_37⟩ := u_35
        try dsimp only at hr_34
        obtain ⟨hbq_36, hbq_37, hsr_34_0, hsr_34_1, hr_34⟩ := hr_34
        have h9R := zRe (ws' := [(ri, .inl (cI, 132, .inl (upd fi slot.toNatClampNeg 1))), (rd, .inr (3, [.ref ri, .ref rl, .int rz, .int rc, .int q_36, .int q_37, .int rt, .int ru])), (rl, .inl (cI, 160, .inl fl))]) hP hD rfl
        clear hP hD
        obtain ⟨hP, hD⟩ := h9R
        refine lv_aload_n hx hb dX3_readItem_34 rfl (lv_at hl 2 rfl) ?_
        refine va_get (D := D) (ci := 3) (v := .int q_37) (C := RX3) (T := TX3) (N := 8) hx hb hts hi_X3_readItem_3 hown hK hP 1 rfl rfl 5 (by decide) (hts (.fieldLink RX3 28 "TheLiningsInIt$Reader" "fault" "I") (List.mem_of_getElem? (i := 2) rfl)) (fun _ h9 => h9) rfl dX3_readItem_35 ?_
        refine lv_iconst (v := (-1)) hx hb dX3_readItem_38 (by decide) ?_
        refine lv_icmp_ne (tgt := 67) hx hb dX3_readItem_39 (by decide) (fun c_38 => ?_) (fun c_38 => ?_)
        · have fc_38 : q_37.toInt ≠ (-1) := zf_ne c_38 rfl (by decide)
          have hn0 : zN1 fl rz.toInt (q_3 : Int32).toInt (zLo 1 0) (zHi 1 0 rt.toInt) = ((q_3 : Int32).toInt, (q_3 : Int32).toInt, 0) := zN1_no (by omega)
          refine lv_aload_n hx hb dX3_readItem_67 rfl (lv_at hl 2 rfl) ?_
          refine va_get (D := D) (ci := 3) (v := .int q_37) (C := RX3) (T := TX3) (N := 8) hx hb hts hi_X3_readItem_3 hown hK hP 1 rfl rfl 5 (by decide) (hts (.fieldLink RX3 28 "TheLiningsInIt$Reader" "fault" "I") (List.mem_of_getElem? (i := 2) rfl)) (fun _ h9 => h9) rfl dX3_readItem_68 ?_
          refine lv_iconst (v := (-1)) hx hb dX3_readItem_71 (by decide) ?_
          refine lv_icmp_eq (tgt := 76) hx hb dX3_readItem_72 (by decide) (fun c_39 => ?_) (fun c_39 => ?_)
          · exfalso; have fc_39 : q_37.toInt = (-1) := zf_eq c_39 rfl (by decide); omega
          · have fc_39 : q_37.toInt ≠ (-1) := zf_ne c_39 rfl (by decide)
            have e0 : slot.toNatClampNeg = slot.toInt.toNat + 0 := (by show (slot : Int32).toInt.toNat = _; omega)
            have hI := zIn_a hn0 (by first | (right; decide) | (left; omega))
            exact W.vret hx hb hr (fun t ht hW => ⟨⟨(q_36, q_37, rt, ru, (upd fi slot.toNatClampNeg 1)), rfl, ⟨(show 0 ≤ q_36.toInt ∧ q_36.toInt ≤ 160 from hbq_36), (show (-1) ≤ q_37.toInt ∧ q_37.toInt ≤ 160 from hbq_37), (show 0 ≤ rt.toInt ∧ rt.toInt ≤ 40 from ⟨hy9, hy10⟩), (show 0 ≤ ru.toInt ∧ ru.toInt ≤ 8 from ⟨hy11, hy12⟩), (show q_36.toInt ≤ rz.toInt from by omega), (show (q_37.toInt = -1 → zIt (upd fi slot.toNatClampNeg 1) slot.toInt.toNat) from by (intro h; exfalso; omega)), (show (∀ j : Nat, j < slot.toInt.toNat → (upd fi slot.toNatClampNeg 1) j = fi j) from by (intro j hj; simp only [upd]; rw [if_neg (by omega)])), (show (q_37.toInt = (zItem fl rz.toInt rp.toInt rt.toInt ru.toInt).1 ∧ (q_37.toInt = -1 → q_36.toInt = (zItem fl rz.toInt rp.toInt rt.toInt ru.toInt).2.1 ∧ rt.toInt = (zItem fl rz.toInt rp.toInt rt.toInt ru.toInt).2.2.1 ∧ ru.toInt = (zItem fl rz.toInt rp.toInt rt.toInt ru.toInt).2.2.2)) from by (have z9 := hsr_1_1; rw [kc1] at z9; have hq : zFst fl rz.toInt rp.toInt zWds 10 = 1 ∧ ¬ ((1 : Int) = 3 ∧ ru.toInt = 8) := (by omega); have hl9 : (q_3 : Int32).toInt = rp.toInt + ((zWds ((1 : Int)).toNat).length : Nat) := (by omega); rw [zItem_w hq.1 (by decide) hq.2 hl9 hI]; dsimp only; exact ⟨by (first | rfl | omega), fun h => ⟨by (first | rfl | omega), by (show _ = (if (1 : Int) = 0 then _ else _); rw [if_neg (by decide)]), by (show _ = (if (1 : Int) = 3 then _ else _); rw [if_neg (by decide)])⟩⟩)), (show (q_37.toInt = -1 → (((upd fi slot.toNatClampNeg 1) slot.toInt.toNat).toInt = 0 → rt.toInt = ((upd fi slot.toNatClampNeg 1) (slot.toInt.toNat + 1)).toInt) ∧ (((upd fi slot.toNatClampNeg 1) slot.toInt.toNat).toInt ≠ 0 → rt.toInt = rt.toInt) ∧ (((upd fi slot.toNatClampNeg 1) slot.toInt.toNat).toInt = 3 → ru.toInt = ru.toInt + 1) ∧ (((upd fi slot.toNatClampNeg 1) slot.toInt.toNat).toInt ≠ 3 → ru.toInt = ru.toInt)) from by (intro h; exfalso; omega)), (show (q_37.toInt = -1 → zSm (zDS (upd fi slot.toNatClampNeg 1) slot.toInt.toNat) (zIm fl rz.toInt rp.toInt rt.toInt)) from by (intro h; exfalso; omega)), trivial⟩, zRet ht hP hD [1, 2, 0] (by decide) rfl⟩, hS.F ht⟩) hS.2.2 dX3_readItem_75
        · have fc_38 : q_37.toInt = (-1) := zf_eq c_38 rfl (by decide)
          refine lv_aload_n hx hb dX3_readItem_42 rfl (lv_at hl 2 rfl) ?_
          refine va_get (D := D) (ci := 3) (v := .ref ri) (C := RX3) (T := TX3) (N := 8) hx hb hts hi_X3_readItem_3 hown hK hP 1 rfl rfl 0 (by decide) (hts (.fieldLink RX3 11 "TheLiningsInIt$Reader" "items" "[I") (List.mem_of_getElem? (i := 1) rfl)) (fun _ h9 => h9) rfl dX3_readItem_43 ?_
          refine lv_iload_n hx hb dX3_readItem_46 rfl (lv_at hl 3 rfl) ?_
          refine lv_iconst (v := 1) hx hb dX3_readItem_47 (by decide) ?_
          refine lv_iadd hx hb dX3_readItem_48 ?_
          refine lv_topi (fun x_40 ex_40 => ?_)
          have qx_40 : x_40.toInt = slot.toInt + 1 := by rw [ex_40]; exact zf_add rfl (by decide) (by omega) (by omega)
          refine lv_iload_n hx hb dX3_readItem_49 rfl (lv_at hl 0 rfl) ?_
          refine lv_iadd hx hb dX3_readItem_50 ?_
          refine lv_topi (fun y_41 ey_41 => ?_)
          obtain rfl : x_40 = y_41 := (ey_41.trans (Int32.add_zero x_40)).symm
          refine lv_aload_n hx hb dX3_readItem_51 rfl (lv_at hl 2 rfl) ?_
          refine lv_iload_n hx hb dX3_readItem_52 rfl (lv_at hl 1 rfl) ?_
          refine lv_iload_n hx hb dX3_readItem_53 rfl (lv_at hl 0 rfl) ?_
          refine zc_S (As := [.int 1, .int 0]) (rest := [.ref rd, .int x_40, .ref ri]) ⟨hx, hb, hml, hown, hts⟩ (c_R_leastOf_1_0 l D cI cJ cZ cP cS po  ) (va_cwS 2 hts gX3_readItem_X3_leastOf rfl rfl rfl dh_X3_leastOf ⟨Nat.le_of_ble_eq_true rfl, Nat.le_of_ble_eq_true rfl⟩) hK hN (hZ.kept hS) rfl hl.1 rfl (Nat.le_of_ble_eq_true rfl) dX3_readItem_54 ⟨Nat.le_of_ble_eq_true rfl, Nat.le_of_ble_eq_true rfl⟩ (fun r_42 hr_42 => ?_)
          obtain rfl := hr_42
          refine lv_aload_n hx hb dX3_readItem_57 rfl (lv_at hl 2 rfl) ?_
          refine lv_iload_n hx hb dX3_readItem_58 rfl (lv_at hl 1 rfl) ?_
          refine lv_iload_n hx hb dX3_readItem_59 rfl (lv_at hl 0 rfl) ?_
          refine zc_V (As := [.int 1, .int 0]) (rest := [.int 0, .ref rd, .int x_40, .ref ri]) ⟨hx, hb, hml, hown, hts⟩ (c_R_mostOf_1_0 l D cI cJ cZ cP cS po rd ri rl (rz) (rc) (q_36) (q_37) (rt) (ru) hy0 hy1 hy2 hy3 hbq_36.1 hbq_36.2 (by omega) hbq_37.1 hbq_37.2 hy9 hy10 hy11 hy12) (cwV 2 hts gX3_readItem_X3_mostOf rfl rfl rfl ⟨rfl, dh_X3_mostOf⟩ ⟨Nat.le_of_ble_eq_true rfl, Nat.le_of_ble_eq_true rfl⟩) hK hN (hZ.kept hS) hP (hP.sub [1] rfl) (va_recv (q := (RX3, TX3, 8)) hK hP (ci := 3) (q0 := 1) rfl rfl) rfl hl.1 rfl (Nat.le_of_ble_eq_true rfl) dX3_readItem_60 ⟨Nat.le_of_ble_eq_true rfl, Nat.le_of_ble_eq_true rfl⟩ (fun r_43 hr_43 => ?_)
          obtain ⟨g_44, g_45, hsr_43_0⟩ := hr_43
          have kc0 : (0 : Int32).toInt = 0 := by decide
          skip
          refine zw_V (As := [.int 0, .int r_43]) (rest := [.int x_40, .ref ri]) (wr := [(ri, .inl (cI, 132, .inl (upd fi slot.toNatClampNeg 1)))]) ⟨hx, hb, hml, hown, hts⟩ (c_F_R_readNumber l D cI cJ cZ cP cS po rd ri rl (rz) (rc) (q_36) (q_37) (rt) (ru) fl (0) (r_43) hy0 hy1 hy2 hy3 hbq_36.1 hbq_36.2 (by omega) hbq_37.1 hbq_37.2 hy9 hy10 hy11 hy12 H.size) (cwV 2 hts gX3_readItem_X3_readNumber rfl rfl rfl ⟨rfl, dh_X3_readNumber⟩ ⟨Nat.le_of_ble_eq_true rfl, Nat.le_of_ble_eq_true rfl⟩) hK hN (hZ.kept hS) hP hD hS hA [1, 2] [0] rfl rfl (by decide) (by decide) (by decide) (va_recv (q := (RX3, TX3, 8)) hK hP (ci := 3) (q0 := 1) rfl rfl) rfl hl.1 rfl (Nat.le_of_ble_eq_true rfl) dX3_readItem_63 ⟨Nat.le_of_ble_eq_true rfl, Nat.le_of_ble_eq_true rfl⟩ (fun r_46 u_47 H locs hr_46 hP hD hS => ?_)
          obtain ⟨q_48, q_49⟩ := u_47
          try dsimp only at hr_46
          obtain ⟨hbq_48, hbq_49, hsr_46_0, hsr_46_1, hsr_46_2, hsr_46_3, hr_46⟩ := hr_46
          have h9R := zRe (ws' := [(ri, .inl (cI, 132, .inl (upd fi slot.toNatClampNeg 1))), (rd, .inr (3, [.ref ri, .ref rl, .int rz, .int rc, .int q_48, .int q_49, .int rt, .int ru])), (rl, .inl (cI, 160, .inl fl))]) hP hD rfl
          clear hP hD
          obtain ⟨hP, hD⟩ := h9R
          obtain ⟨g_50, g_51⟩ := hr_46
          refine va_iast hx hb hK hP hD hS 0 0 rfl rfl (zf_in (by omega) (by omega)) dX3_readItem_66 (fun H locs hP hD hS => ?_)
          have h9R := zRe (ws' := [(ri, .inl (cI, 132, .inl (upd (upd fi slot.toNatClampNeg 1) x_40.toNatClampNeg r_46))), (rd, .inr (3, [.ref ri, .ref rl, .int rz, .int rc, .int q_48, .int q_49, .int rt, .int ru])), (rl, .inl (cI, 160, .inl fl))]) hP hD rfl
          clear hP hD
          obtain ⟨hP, hD⟩ := h9R
          have hn0 : zN1 fl rz.toInt (q_3 : Int32).toInt (zLo 1 0) (zHi 1 0 rt.toInt) = ((q_49 : Int32).toInt, (q_48 : Int32).toInt, r_46.toInt) := zN1_yes (p1 := (q_36 : Int32).toInt) (lo2 := ((0 : Int32)).toInt) (hi2 := ((r_43 : Int32)).toInt) (by omega) (by omega) hsr_46_1 hsr_46_2 (by first | decide | (show (0 : Int) = _; omega)) (by first | decide | (show rt.toInt - 1 = _; omega) | (show rt.toInt = _; omega)) (by omega)
          refine lv_aload_n hx hb dX3_readItem_67 rfl (lv_at hl 2 rfl) ?_
          refine va_get (D := D) (ci := 3) (v := .int q_49) (C := RX3) (T := TX3) (N := 8) hx hb hts hi_X3_readItem_3 hown hK hP 1 rfl rfl 5 (by decide) (hts (.fieldLink RX3 28 "TheLiningsInIt$Reader" "fault" "I") (List.mem_of_getElem? (i := 2) rfl)) (fun _ h9 => h9) rfl dX3_readItem_68 ?_
          refine lv_iconst (v := (-1)) hx hb dX3_readItem_71 (by decide) ?_
          refine lv_icmp_eq (tgt := 76) hx hb dX3_readItem_72 (by decide) (fun c_52 => ?_) (fun c_52 => ?_)
          · have fc_52 : q_49.toInt = (-1) := zf_eq c_52 rfl (by decide)
            refine lv_iinc (v := 1) (lv' := [(3, .int 1), (2, .int 1), (0, .ref rd), (1, .int slot)]) hx hb dX3_readItem_76 hl (k := 0) rfl (by decide) (by decide) rfl (fun ls hl => ?_)
            refine lv_goto (tgt := 20) hx hb dX3_readItem_79 (by decide) ?_
            refine lv_iload_n hx hb dX3_readItem_20 rfl (lv_at hl 0 rfl) ?_
            refine lv_iload_n hx hb dX3_readItem_21 rfl (lv_at hl 1 rfl) ?_
            refine zc_S (As := [.int 1]) (rest := [.int 1]) ⟨hx, hb, hml, hown, hts⟩ (c_R_numbersOf_1 l D cI cJ cZ cP cS po  ) (va_cwS 1 hts gX3_readItem_X3_numbersOf rfl rfl rfl dh_X3_numbersOf ⟨Nat.le_of_ble_eq_true rfl, Nat.le_of_ble_eq_true rfl⟩) hK hN (hZ.kept hS) rfl hl.1 rfl (Nat.le_of_ble_eq_true rfl) dX3_readItem_22 ⟨Nat.le_of_ble_eq_true rfl, Nat.le_of_ble_eq_true rfl⟩ (fun r_53 hr_53 => ?_)
            obtain rfl := hr_53
            refine lv_icmp_ge (tgt := 82) hx hb dX3_readItem_25 (by decide) (fun c_54 => ?_) (fun c_54 => ?_)
            · refine lv_iload_n hx hb dX3_readItem_82 rfl (lv_at hl 1 rfl) ?_
              refine lv_if_ne (tgt := 101) hx hb dX3_readItem_83 (by decide) (fun c_55 => ?_) (fun c_55 => ?_)
              · refine lv_iload_n hx hb dX3_readItem_101 rfl (lv_at hl 1 rfl) ?_
                refine lv_iconst (v := 3) hx hb dX3_readItem_102 (by decide) ?_
                refine lv_icmp_ne (tgt := 116) hx hb dX3_readItem_103 (by decide) (fun c_56 => ?_) (fun c_56 => ?_)
                · have e0 : slot.toNatClampNeg = slot.toInt.toNat + 0 := (by show (slot : Int32).toInt.toNat = _; omega)
                  have e1 : x_40.toNatClampNeg = slot.toInt.toNat + 1 := (by show (x_40 : Int32).toInt.toNat = _; omega)
                  have hI := zIn_a hn0 (by first | (right; decide) | (left; omega))
                  exact W.vret hx hb hr (fun t ht hW => ⟨⟨(q_48, q_49, rt, ru, (upd (upd fi slot.toNatClampNeg 1) x_40.toNatClampNeg r_46)), rfl, ⟨(show 0 ≤ q_48.toInt ∧ q_48.toInt ≤ 160 from hbq_48), (show (-1) ≤ q_49.toInt ∧ q_49.toInt ≤ 160 from hbq_49), (show 0 ≤ rt.toInt ∧ rt.toInt ≤ 40 from ⟨hy9, hy10⟩), (show 0 ≤ ru.toInt ∧ ru.toInt ≤ 8 from ⟨hy11, hy12⟩), (show q_48.toInt ≤ rz.toInt from by omega), (show (q_49.toInt = -1 → zIt (upd (upd fi slot.toNatClampNeg 1) x_40.toNatClampNeg r_46) slot.toInt.toNat) from by (intro h; have k3 : (1 : Int32).toInt = 1 := (by decide); exact zIt_mk (by simp only [upd]; rw [if_neg (by omega), if_pos (by omega)]) (by simp only [upd]; rw [if_pos (by omega)]) (rfl) (rfl) (by unfold zItv; refine ⟨?_, ?_, ?_, ?_, ?_, ?_, ?_, ?_, ?_, ?_, ?_⟩ <;> (intros; omega)))), (show (∀ j : Nat, j < slot.toInt.toNat → (upd (upd fi slot.toNatClampNeg 1) x_40.toNatClampNeg r_46) j = fi j) from by (intro j hj; simp only [upd]; rw [if_neg (by omega), if_neg (by omega)])), (show (q_49.toInt = (zItem fl rz.toInt rp.toInt rt.toInt ru.toInt).1 ∧ (q_49.toInt = -1 → q_48.toInt = (zItem fl rz.toInt rp.toInt rt.toInt ru.toInt).2.1 ∧ rt.toInt = (zItem fl rz.toInt rp.toInt rt.toInt ru.toInt).2.2.1 ∧ ru.toInt = (zItem fl rz.toInt rp.toInt rt.toInt ru.toInt).2.2.2)) from by (have z9 := hsr_1_1; rw [kc1] at z9; have hq : zFst fl rz.toInt rp.toInt zWds 10 = 1 ∧ ¬ ((1 : Int) = 3 ∧ ru.toInt = 8) := (by omega); have hl9 : (q_3 : Int32).toInt = rp.toInt + ((zWds ((1 : Int)).toNat).length : Nat) := (by omega); rw [zItem_w hq.1 (by decide) hq.2 hl9 hI]; dsimp only; exact ⟨by (first | rfl | omega), fun h => ⟨by (first | rfl | omega), by (show _ = (if (1 : Int) = 0 then _ else _); rw [if_neg (by decide)]), by (show _ = (if (1 : Int) = 3 then _ else _); rw [if_neg (by decide)])⟩⟩)), (show (q_49.toInt = -1 → (((upd (upd fi slot.toNatClampNeg 1) x_40.toNatClampNeg r_46) slot.toInt.toNat).toInt = 0 → rt.toInt = ((upd (upd fi slot.toNatClampNeg 1) x_40.toNatClampNeg r_46) (slot.toInt.toNat + 1)).toInt) ∧ (((upd (upd fi slot.toNatClampNeg 1) x_40.toNatClampNeg r_46) slot.toInt.toNat).toInt ≠ 0 → rt.toInt = rt.toInt) ∧ (((upd (upd fi slot.toNatClampNeg 1) x_40.toNatClampNeg r_46) slot.toInt.toNat).toInt = 3 → ru.toInt = ru.toInt + 1) ∧ (((upd (upd fi slot.toNatClampNeg 1) x_40.toNatClampNeg r_46) slot.toInt.toNat).toInt ≠ 3 → ru.toInt = ru.toInt)) from by (intro h; have g0 : (upd (upd fi slot.toNatClampNeg 1) x_40.toNatClampNeg r_46) slot.toInt.toNat = (1 : Int32) := (by simp only [upd]; rw [if_neg (by omega), if_pos (by omega)]); have g1 : (upd (upd fi slot.toNatClampNeg 1) x_40.toNatClampNeg r_46) (slot.toInt.toNat + 1) = (r_46 : Int32) := (by simp only [upd]; rw [if_pos (by omega)]); rw [g0, g1]; refine ⟨?_, ?_, ?_, ?_⟩ <;> (intro h9; first | rfl | omega | (exfalso; omega)))), (show (q_49.toInt = -1 → zSm (zDS (upd (upd fi slot.toNatClampNeg 1) x_40.toNatClampNeg r_46) slot.toInt.toNat) (zIm fl rz.toInt rp.toInt rt.toInt)) from by (intro h; have g0 : (upd (upd fi slot.toNatClampNeg 1) x_40.toNatClampNeg r_46) (slot.toInt.toNat + 0) = (1 : Int32) := (by simp only [upd]; rw [if_neg (by omega), if_pos (by omega)]); have g1 : (upd (upd fi slot.toNatClampNeg 1) x_40.toNatClampNeg r_46) (slot.toInt.toNat + 1) = (r_46 : Int32) := (by simp only [upd]; rw [if_pos (by omega)]); have z9 := hsr_1_1; rw [kc1] at z9; have hW : zIW fl rz.toInt rp.toInt = 1 := (by unfold zIW; omega); have hP9 : zIP fl rz.toInt rp.toInt = (q_3 : Int32).toInt := (by unfold zIP; rw [hW]; have hl9 : (q_3 : Int32).toInt = rp.toInt + ((zWds ((1 : Int)).toNat).length : Nat) := (by omega); exact hl9.symm); exact ⟨(show ((upd (upd fi slot.toNatClampNeg 1) x_40.toNatClampNeg r_46) (slot.toInt.toNat + 0)).toInt = zIW fl rz.toInt rp.toInt from by (rw [g0, hW]; omega)), (show ((upd (upd fi slot.toNatClampNeg 1) x_40.toNatClampNeg r_46) (slot.toInt.toNat + 1)).toInt = (zIn fl rz.toInt (zIP fl rz.toInt rp.toInt) rt.toInt (zIW fl rz.toInt rp.toInt)).2.2 from by (rw [g1, hP9, hW, hI])), fun hz => absurd (show ((upd (upd fi slot.toNatClampNeg 1) x_40.toNatClampNeg r_46) (slot.toInt.toNat + 0)).toInt = 2 ∨ ((upd (upd fi slot.toNatClampNeg 1) x_40.toNatClampNeg r_46) (slot.toInt.toNat + 0)).toInt = 3 ∨ ((upd (upd fi slot.toNatClampNeg 1) x_40.toNatClampNeg r_46) (slot.toInt.toNat + 0)).toInt = 8 from hz) (by rw [g0]; omega), fun hz => absurd (show ((upd (upd fi slot.toNatClampNeg 1) x_40.toNatClampNeg r_46) (slot.toInt.toNat + 0)).toInt = 3 from hz) (by rw [g0]; omega)⟩)), trivial⟩, zRet ht hP hD [1, 2, 0] (by decide) rfl⟩, hS.F ht⟩) hS.2.2 dX3_readItem_116
                · exact absurd c_56 (by decide)
              · exact absurd c_55 (by decide)
            · exact absurd c_54 (by decide)
          · have fc_52 : q_49.toInt ≠ (-1) := zf_ne c_52 rfl (by decide)
            have e0 : slot.toNatClampNeg = slot.toInt.toNat + 0 := (by show (slot : Int32).toInt.toNat = _; omega)
            have e1 : x_40.toNatClampNeg = slot.toInt.toNat + 1 := (by show (x_40 : Int32).toInt.toNat = _; omega)
            have hI := zIn_a hn0 (by first | (right; decide) | (left; omega))
            exact W.vret hx hb hr (fun t ht hW => ⟨⟨(q_48, q_49, rt, ru, (upd (upd fi slot.toNatClampNeg 1) x_40.toNatClampNeg r_46)), rfl, ⟨(show 0 ≤ q_48.toInt ∧ q_48.toInt ≤ 160 from hbq_48), (show (-1) ≤ q_49.toInt ∧ q_49.toInt ≤ 160 from hbq_49), (show 0 ≤ rt.toInt ∧ rt.toInt ≤ 40 from ⟨hy9, hy10⟩), (show 0 ≤ ru.toInt ∧ ru.toInt ≤ 8 from ⟨hy11, hy12⟩), (show q_48.toInt ≤ rz.toInt from by omega), (show (q_49.toInt = -1 → zIt (upd (upd fi slot.toNatClampNeg 1) x_40.toNatClampNeg r_46) slot.toInt.toNat) from by (intro h; exfalso; omega)), (show (∀ j : Nat, j < slot.toInt.toNat → (upd (upd fi slot.toNatClampNeg 1) x_40.toNatClampNeg r_46) j = fi j) from by (intro j hj; simp only [upd]; rw [if_neg (by omega), if_neg (by omega)])), (show (q_49.toInt = (zItem fl rz.toInt rp.toInt rt.toInt ru.toInt).1 ∧ (q_49.toInt = -1 → q_48.toInt = (zItem fl rz.toInt rp.toInt rt.toInt ru.toInt).2.1 ∧ rt.toInt = (zItem fl rz.toInt rp.toInt rt.toInt ru.toInt).2.2.1 ∧ ru.toInt = (zItem fl rz.toInt rp.toInt rt.toInt ru.toInt).2.2.2)) from by (have z9 := hsr_1_1; rw [kc1] at z9; have hq : zFst fl rz.toInt rp.toInt zWds 10 = 1 ∧ ¬ ((1 : Int) = 3 ∧ ru.toInt = 8) := (by omega); have hl9 : (q_3 : Int32).toInt = rp.toInt + ((zWds ((1 : Int)).toNat).length : Nat) := (by omega); rw [zItem_w hq.1 (by decide) hq.2 hl9 hI]; dsimp only; exact ⟨by (first | rfl | omega), fun h => ⟨by (first | rfl | omega), by (show _ = (if (1 : Int) = 0 then _ else _); rw [if_neg (by decide)]), by (show _ = (if (1 : Int) = 3 then _ else _); rw [if_neg (by decide)])⟩⟩)), (show (q_49.toInt = -1 → (((upd (upd fi slot.toNatClampNeg 1) x_40.toNatClampNeg r_46) slot.toInt.toNat).toInt = 0 → rt.toInt = ((upd (upd fi slot.toNatClampNeg 1) x_40.toNatClampNeg r_46) (slot.toInt.toNat + 1)).toInt) ∧ (((upd (upd fi slot.toNatClampNeg 1) x_40.toNatClampNeg r_46) slot.toInt.toNat).toInt ≠ 0 → rt.toInt = rt.toInt) ∧ (((upd (upd fi slot.toNatClampNeg 1) x_40.toNatClampNeg r_46) slot.toInt.toNat).toInt = 3 → ru.toInt = ru.toInt + 1) ∧ (((upd (upd fi slot.toNatClampNeg 1) x_40.toNatClampNeg r_46) slot.toInt.toNat).toInt ≠ 3 → ru.toInt = ru.toInt)) from by (intro h; exfalso; omega)), (show (q_49.toInt = -1 → zSm (zDS (upd (upd fi slot.toNatClampNeg 1) x_40.toNatClampNeg r_46) slot.toInt.toNat) (zIm fl rz.toInt rp.toInt rt.toInt)) from by (intro h; exfalso; omega)), trivial⟩, zRet ht hP hD [1, 2, 0] (by decide) rfl⟩, hS.F ht⟩) hS.2.2 dX3_readItem_75
    · have kc2 : (2 : Int32).toInt = 2 := by decide
      refine lv_aload_n hx hb dX3_readItem_11 rfl (lv_at hl 1 rfl) ?_
      refine va_get (D := D) (ci := 3) (v := .ref ri) (C := RX3) (T := TX3) (N := 8) hx hb hts hi_X3_readItem_3 hown hK hP 1 rfl rfl 0 (by decide) (hts (.fieldLink RX3 11 "TheLiningsInIt$Reader" "items" "[I") (List.mem_of_getElem? (i := 1) rfl)) (fun _ h9 => h9) rfl dX3_readItem_12 ?_
      refine lv_iload_n hx hb dX3_readItem_15 rfl (lv_at hl 2 rfl) ?_
      refine lv_iload_n hx hb dX3_readItem_16 rfl (lv_at hl 0 rfl) ?_
      refine va_iast hx hb hK hP hD hS 0 0 rfl rfl (zf_in (by omega) (by omega)) dX3_readItem_17 (fun H locs hP hD hS => ?_)
      have h9R := zRe (ws' := [(ri, .inl (cI, 132, .inl (upd fi slot.toNatClampNeg 2))), (rd, .inr (3, [.ref ri, .ref rl, .int rz, .int rc, .int q_3, .int q_4, .int rt, .int ru])), (rl, .inl (cI, 160, .inl fl))]) hP hD rfl
      clear hP hD
      obtain ⟨hP, hD⟩ := h9R
      refine lv_iconst (v := 0) hx hb dX3_readItem_18 (by decide) ?_
      refine lv_istore_n (lv' := [(3, .int 0), (2, .int 2), (0, .ref rd), (1, .int slot)]) hx hb dX3_readItem_19 rfl hl (by decide) rfl (fun ls hl => ?_)
      refine lv_iload_n hx hb dX3_readItem_20 rfl (lv_at hl 0 rfl) ?_
      refine lv_iload_n hx hb dX3_readItem_21 rfl (lv_at hl 1 rfl) ?_
      refine zc_S (As := [.int 2]) (rest := [.int 0]) ⟨hx, hb, hml, hown, hts⟩ (c_R_numbersOf_2 l D cI cJ cZ cP cS po  ) (va_cwS 1 hts gX3_readItem_X3_numbersOf rfl rfl rfl dh_X3_numbersOf ⟨Nat.le_of_ble_eq_true rfl, Nat.le_of_ble_eq_true rfl⟩) hK hN (hZ.kept hS) rfl hl.1 rfl (Nat.le_of_ble_eq_true rfl) dX3_readItem_22 ⟨Nat.le_of_ble_eq_true rfl, Nat.le_of_ble_eq_true rfl⟩ (fun r_57 hr_57 => ?_)
      obtain rfl := hr_57
      refine lv_icmp_ge (tgt := 82) hx hb dX3_readItem_25 (by decide) (fun c_58 => ?_) (fun c_58 => ?_)
      · exact absurd c_58 (by decide)
      · refine lv_aload_n hx hb dX3_readItem_28 rfl (lv_at hl 2 rfl) ?_
        refine lv_bipush (v := 32) hx hb dX3_readItem_29 (by decide) ?_
        have kc32 : (32 : Int32).toInt = 32 := by decide
        skip
        refine zw_Vv (As := [.int 32]) (rest := []) (wr := [(ri, .inl (cI, 132, .inl (upd fi slot.toNatClampNeg 2)))]) ⟨hx, hb, hml, hown, hts⟩ (c_F_R_expect l D cI cJ cZ cP cS po rd ri rl (rz) (rc) (q_3) (q_4) (rt) (ru) fl (32) hy0 hy1 hy2 hy3 hbq_3.1 hbq_3.2 (by omega) hbq_4.1 hbq_4.2 hy9 hy10 hy11 hy12 H.size) (cwV 1 hts gX3_readItem_X3_expect rfl rfl rfl ⟨rfl, dh_X3_expect⟩ ⟨Nat.le_of_ble_eq_true rfl, Nat.le_of_ble_eq_true rfl⟩) hK hN (hZ.kept hS) hP hD hS hA [1, 2] [0] rfl rfl (by decide) (by decide) (by decide) (va_recv (q := (RX3, TX3, 8)) hK hP (ci := 3) (q0 := 1) rfl rfl) rfl hl.1 rfl (Nat.le_of_ble_eq_true rfl) dX3_readItem_31 ⟨Nat.le_of_ble_eq_true rfl, Nat.le_of_ble_eq_true rfl⟩ (fun u_60 H locs hr_59 hP hD hS => ?_)
        obtain ⟨q_61, q_62⟩ := u_60
        try dsimp only at hr_59
        obtain ⟨hbq_61, hbq_62, hsr_59_0, hsr_59_1, hr_59⟩ := hr_59
        have h9R := zRe (ws' := [(ri, .inl (cI, 132, .inl (upd fi slot.toNatClampNeg 2))), (rd, .inr (3, [.ref ri, .ref rl, .int rz, .int rc, .int q_61, .int q_62, .int rt, .int ru])), (rl, .inl (cI, 160, .inl fl))]) hP hD rfl
        clear hP hD
        obtain ⟨hP, hD⟩ := h9R
        refine lv_aload_n hx hb dX3_readItem_34 rfl (lv_at hl 2 rfl) ?_
        refine va_get (D := D) (ci := 3) (v := .int q_62) (C := RX3) (T := TX3) (N := 8) hx hb hts hi_X3_readItem_3 hown hK hP 1 rfl rfl 5 (by decide) (hts (.fieldLink RX3 28 "TheLiningsInIt$Reader" "fault" "I") (List.mem_of_getElem? (i := 2) rfl)) (fun _ h9 => h9) rfl dX3_readItem_35 ?_
        refine lv_iconst (v := (-1)) hx hb dX3_readItem_38 (by decide) ?_
        refine lv_icmp_ne (tgt := 67) hx hb dX3_readItem_39 (by decide) (fun c_63 => ?_) (fun c_63 => ?_)
        · have fc_63 : q_62.toInt ≠ (-1) := zf_ne c_63 rfl (by decide)
          have hn0 : zN1 fl rz.toInt (q_3 : Int32).toInt (zLo 2 0) (zHi 2 0 rt.toInt) = ((q_3 : Int32).toInt, (q_3 : Int32).toInt, 0) := zN1_no (by omega)
          refine lv_aload_n hx hb dX3_readItem_67 rfl (lv_at hl 2 rfl) ?_
          refine va_get (D := D) (ci := 3) (v := .int q_62) (C := RX3) (T := TX3) (N := 8) hx hb hts hi_X3_readItem_3 hown hK hP 1 rfl rfl 5 (by decide) (hts (.fieldLink RX3 28 "TheLiningsInIt$Reader" "fault" "I") (List.mem_of_getElem? (i := 2) rfl)) (fun _ h9 => h9) rfl dX3_readItem_68 ?_
          refine lv_iconst (v := (-1)) hx hb dX3_readItem_71 (by decide) ?_
          refine lv_icmp_eq (tgt := 76) hx hb dX3_readItem_72 (by decide) (fun c_64 => ?_) (fun c_64 => ?_)
          · exfalso; have fc_64 : q_62.toInt = (-1) := zf_eq c_64 rfl (by decide); omega
          · have fc_64 : q_62.toInt ≠ (-1) := zf_ne c_64 rfl (by decide)
            have e0 : slot.toNatClampNeg = slot.toInt.toNat + 0 := (by show (slot : Int32).toInt.toNat = _; omega)
            have hI := zIn_a hn0 (by first | (right; decide) | (left; omega))
            exact W.vret hx hb hr (fun t ht hW => ⟨⟨(q_61, q_62, rt, ru, (upd fi slot.toNatClampNeg 2)), rfl, ⟨(show 0 ≤ q_61.toInt ∧ q_61.toInt ≤ 160 from hbq_61), (show (-1) ≤ q_62.toInt ∧ q_62.toInt ≤ 160 from hbq_62), (show 0 ≤ rt.toInt ∧ rt.toInt ≤ 40 from ⟨hy9, hy10⟩), (show 0 ≤ ru.toInt ∧ ru.toInt ≤ 8 from ⟨hy11, hy12⟩), (show q_61.toInt ≤ rz.toInt from by omega), (show (q_62.toInt = -1 → zIt (upd fi slot.toNatClampNeg 2) slot.toInt.toNat) from by (intro h; exfalso; omega)), (show (∀ j : Nat, j < slot.toInt.toNat → (upd fi slot.toNatClampNeg 2) j = fi j) from by (intro j hj; simp only [upd]; rw [if_neg (by omega)])), (show (q_62.toInt = (zItem fl rz.toInt rp.toInt rt.toInt ru.toInt).1 ∧ (q_62.toInt = -1 → q_61.toInt = (zItem fl rz.toInt rp.toInt rt.toInt ru.toInt).2.1 ∧ rt.toInt = (zItem fl rz.toInt rp.toInt rt.toInt ru.toInt).2.2.1 ∧ ru.toInt = (zItem fl rz.toInt rp.toInt rt.toInt ru.toInt).2.2.2)) from by (have z9 := hsr_1_1; rw [kc2] at z9; have hq : zFst fl rz.toInt rp.toInt zWds 10 = 2 ∧ ¬ ((2 : Int) = 3 ∧ ru.toInt = 8) := (by omega); have hl9 : (q_3 : Int32).toInt = rp.toInt + ((zWds ((2 : Int)).toNat).length : Nat) := (by omega); rw [zItem_w hq.1 (by decide) hq.2 hl9 hI]; dsimp only; exact ⟨by (first | rfl | omega), fun h => ⟨by (first | rfl | omega), by (show _ = (if (2 : Int) = 0 then _ else _); rw [if_neg (by decide)]), by (show _ = (if (2 : Int) = 3 then _ else _); rw [if_neg (by decide)])⟩⟩)), (show (q_62.toInt = -1 → (((upd fi slot.toNatClampNeg 2) slot.toInt.toNat).toInt = 0 → rt.toInt = ((upd fi slot.toNatClampNeg 2) (slot.toInt.toNat + 1)).toInt) ∧ (((upd fi slot.toNatClampNeg 2) slot.toInt.toNat).toInt ≠ 0 → rt.toInt = rt.toInt) ∧ (((upd fi slot.toNatClampNeg 2) slot.toInt.toNat).toInt = 3 → ru.toInt = ru.toInt + 1) ∧ (((upd fi slot.toNatClampNeg 2) slot.toInt.toNat).toInt ≠ 3 → ru.toInt = ru.toInt)) from by (intro h; exfalso; omega)), (show (q_62.toInt = -1 → zSm (zDS (upd fi slot.toNatClampNeg 2) slot.toInt.toNat) (zIm fl rz.toInt rp.toInt rt.toInt)) from by (intro h; exfalso; omega)), trivial⟩, zRet ht hP hD [1, 2, 0] (by decide) rfl⟩, hS.F ht⟩) hS.2.2 dX3_readItem_75
        · have fc_63 : q_62.toInt = (-1) := zf_eq c_63 rfl (by decide)
          refine lv_aload_n hx hb dX3_readItem_42 rfl (lv_at hl 2 rfl) ?_
          refine va_get (D := D) (ci := 3) (v := .ref ri) (C := RX3) (T := TX3) (N := 8) hx hb hts hi_X3_readItem_3 hown hK hP 1 rfl rfl 0 (by decide) (hts (.fieldLink RX3 11 "TheLiningsInIt$Reader" "items" "[I") (List.mem_of_getElem? (i := 1) rfl)) (fun _ h9 => h9) rfl dX3_readItem_43 ?_
          refine lv_iload_n hx hb dX3_readItem_46 rfl (lv_at hl 3 rfl) ?_
          refine lv_iconst (v := 1) hx hb dX3_readItem_47 (by decide) ?_
          refine lv_iadd hx hb dX3_readItem_48 ?_
          refine lv_topi (fun x_65 ex_65 => ?_)
          have qx_65 : x_65.toInt = slot.toInt + 1 := by rw [ex_65]; exact zf_add rfl (by decide) (by omega) (by omega)
          refine lv_iload_n hx hb dX3_readItem_49 rfl (lv_at hl 0 rfl) ?_
          refine lv_iadd hx hb dX3_readItem_50 ?_
          refine lv_topi (fun y_66 ey_66 => ?_)
          obtain rfl : x_65 = y_66 := (ey_66.trans (Int32.add_zero x_65)).symm
          refine lv_aload_n hx hb dX3_readItem_51 rfl (lv_at hl 2 rfl) ?_
          refine lv_iload_n hx hb dX3_readItem_52 rfl (lv_at hl 1 rfl) ?_
          refine lv_iload_n hx hb dX3_readItem_53 rfl (lv_at hl 0 rfl) ?_
          refine zc_S (As := [.int 2, .int 0]) (rest := [.ref rd, .int x_65, .ref ri]) ⟨hx, hb, hml, hown, hts⟩ (c_R_leastOf_2_0 l D cI cJ cZ cP cS po  ) (va_cwS 2 hts gX3_readItem_X3_leastOf rfl rfl rfl dh_X3_leastOf ⟨Nat.le_of_ble_eq_true rfl, Nat.le_of_ble_eq_true rfl⟩) hK hN (hZ.kept hS) rfl hl.1 rfl (Nat.le_of_ble_eq_true rfl) dX3_readItem_54 ⟨Nat.le_of_ble_eq_true rfl, Nat.le_of_ble_eq_true rfl⟩ (fun r_67 hr_67 => ?_)
          obtain rfl := hr_67
          refine lv_aload_n hx hb dX3_readItem_57 rfl (lv_at hl 2 rfl) ?_
          refine lv_iload_n hx hb dX3_readItem_58 rfl (lv_at hl 1 rfl) ?_
          refine lv_iload_n hx hb dX3_readItem_59 rfl (lv_at hl 0 rfl) ?_
          refine zc_V (As := [.int 2, .int 0]) (rest := [.int 0, .ref rd, .int x_65, .ref ri]) ⟨hx, hb, hml, hown, hts⟩ (c_R_mostOf_2_0 l D cI cJ cZ cP cS po rd ri rl (rz) (rc) (q_61) (q_62) (rt) (ru) hy0 hy1 hy2 hy3 hbq_61.1 hbq_61.2 (by omega) hbq_62.1 hbq_62.2 hy9 hy10 hy11 hy12) (cwV 2 hts gX3_readItem_X3_mostOf rfl rfl rfl ⟨rfl, dh_X3_mostOf⟩ ⟨Nat.le_of_ble_eq_true rfl, Nat.le_of_ble_eq_true rfl⟩) hK hN (hZ.kept hS) hP (hP.sub [1] rfl) (va_recv (q := (RX3, TX3, 8)) hK hP (ci := 3) (q0 := 1) rfl rfl) rfl hl.1 rfl (Nat.le_of_ble_eq_true rfl) dX3_readItem_60 ⟨Nat.le_of_ble_eq_true rfl, Nat.le_of_ble_eq_true rfl⟩ (fun r_68 hr_68 => ?_)
          obtain ⟨g_69, g_70, hsr_68_0⟩ := hr_68
          have kc0 : (0 : Int32).toInt = 0 := by decide
          skip
          refine zw_V (As := [.int 0, .int r_68]) (rest := [.int x_65, .ref ri]) (wr := [(ri, .inl (cI, 132, .inl (upd fi slot.toNatClampNeg 2)))]) ⟨hx, hb, hml, hown, hts⟩ (c_F_R_readNumber l D cI cJ cZ cP cS po rd ri rl (rz) (rc) (q_61) (q_62) (rt) (ru) fl (0) (r_68) hy0 hy1 hy2 hy3 hbq_61.1 hbq_61.2 (by omega) hbq_62.1 hbq_62.2 hy9 hy10 hy11 hy12 H.size) (cwV 2 hts gX3_readItem_X3_readNumber rfl rfl rfl ⟨rfl, dh_X3_readNumber⟩ ⟨Nat.le_of_ble_eq_true rfl, Nat.le_of_ble_eq_true rfl⟩) hK hN (hZ.kept hS) hP hD hS hA [1, 2] [0] rfl rfl (by decide) (by decide) (by decide) (va_recv (q := (RX3, TX3, 8)) hK hP (ci := 3) (q0 := 1) rfl rfl) rfl hl.1 rfl (Nat.le_of_ble_eq_true rfl) dX3_readItem_63 ⟨Nat.le_of_ble_eq_true rfl, Nat.le_of_ble_eq_true rfl⟩ (fun r_71 u_72 H locs hr_71 hP hD hS => ?_)
          obtain ⟨q_73, q_74⟩ := u_72
          try dsimp only at hr_71
          obtain ⟨hbq_73, hbq_74, hsr_71_0, hsr_71_1, hsr_71_2, hsr_71_3, hr_71⟩ := hr_71
          have h9R := zRe (ws' := [(ri, .inl (cI, 132, .inl (upd fi slot.toNatClampNeg 2))), (rd, .inr (3, [.ref ri, .ref rl, .int rz, .int rc, .int q_73, .int q_74, .int rt, .int ru])), (rl, .inl (cI, 160, .inl fl))]) hP hD rfl
          clear hP hD
          obtain ⟨hP, hD⟩ := h9R
          obtain ⟨g_75, g_76⟩ := hr_71
          refine va_iast hx hb hK hP hD hS 0 0 rfl rfl (zf_in (by omega) (by omega)) dX3_readItem_66 (fun H locs hP hD hS => ?_)
          have h9R := zRe (ws' := [(ri, .inl (cI, 132, .inl (upd (upd fi slot.toNatClampNeg 2) x_65.toNatClampNeg r_71))), (rd, .inr (3, [.ref ri, .ref rl, .int rz, .int rc, .int q_73, .int q_74, .int rt, .int ru])), (rl, .inl (cI, 160, .inl fl))]) hP hD rfl
          clear hP hD
          obtain ⟨hP, hD⟩ := h9R
          have hn0 : zN1 fl rz.toInt (q_3 : Int32).toInt (zLo 2 0) (zHi 2 0 rt.toInt) = ((q_74 : Int32).toInt, (q_73 : Int32).toInt, r_71.toInt) := zN1_yes (p1 := (q_61 : Int32).toInt) (lo2 := ((0 : Int32)).toInt) (hi2 := ((r_68 : Int32)).toInt) (by omega) (by omega) hsr_71_1 hsr_71_2 (by first | decide | (show (0 : Int) = _; omega)) (by first | decide | (show rt.toInt - 1 = _; omega) | (show rt.toInt = _; omega)) (by omega)
          refine lv_aload_n hx hb dX3_readItem_67 rfl (lv_at hl 2 rfl) ?_
          refine va_get (D := D) (ci := 3) (v := .int q_74) (C := RX3) (T := TX3) (N := 8) hx hb hts hi_X3_readItem_3 hown hK hP 1 rfl rfl 5 (by decide) (hts (.fieldLink RX3 28 "TheLiningsInIt$Reader" "fault" "I") (List.mem_of_getElem? (i := 2) rfl)) (fun _ h9 => h9) rfl dX3_readItem_68 ?_
          refine lv_iconst (v := (-1)) hx hb dX3_readItem_71 (by decide) ?_
          refine lv_icmp_eq (tgt := 76) hx hb dX3_readItem_72 (by decide) (fun c_77 => ?_) (fun c_77 => ?_)
          · have fc_77 : q_74.toInt = (-1) := zf_eq c_77 rfl (by decide)
            refine lv_iinc (v := 1) (lv' := [(3, .int 1), (2, .int 2), (0, .ref rd), (1, .int slot)]) hx hb dX3_readItem_76 hl (k := 0) rfl (by decide) (by decide) rfl (fun ls hl => ?_)
            refine lv_goto (tgt := 20) hx hb dX3_readItem_79 (by decide) ?_
            refine lv_iload_n hx hb dX3_readItem_20 rfl (lv_at hl 0 rfl) ?_
            refine lv_iload_n hx hb dX3_readItem_21 rfl (lv_at hl 1 rfl) ?_
            refine zc_S (As := [.int 2]) (rest := [.int 1]) ⟨hx, hb, hml, hown, hts⟩ (c_R_numbersOf_2 l D cI cJ cZ cP cS po  ) (va_cwS 1 hts gX3_readItem_X3_numbersOf rfl rfl rfl dh_X3_numbersOf ⟨Nat.le_of_ble_eq_true rfl, Nat.le_of_ble_eq_true rfl⟩) hK hN (hZ.kept hS) rfl hl.1 rfl (Nat.le_of_ble_eq_true rfl) dX3_readItem_22 ⟨Nat.le_of_ble_eq_true rfl, Nat.le_of_ble_eq_true rfl⟩ (fun r_78 hr_78 => ?_)
            obtain rfl := hr_78
            refine lv_icmp_ge (tgt := 82) hx hb dX3_readItem_25 (by decide) (fun c_79 => ?_) (fun c_79 => ?_)
            · exact absurd c_79 (by decide)
            · refine lv_aload_n hx hb dX3_readItem_28 rfl (lv_at hl 2 rfl) ?_
              refine lv_bipush (v := 32) hx hb dX3_readItem_29 (by decide) ?_
              skip
              refine zw_Vv (As := [.int 32]) (rest := []) (wr := [(ri, .inl (cI, 132, .inl (upd (upd fi slot.toNatClampNeg 2) x_65.toNatClampNeg r_71)))]) ⟨hx, hb, hml, hown, hts⟩ (c_F_R_expect l D cI cJ cZ cP cS po rd ri rl (rz) (rc) (q_73) (q_74) (rt) (ru) fl (32) hy0 hy1 hy2 hy3 hbq_73.1 hbq_73.2 (by omega) hbq_74.1 hbq_74.2 hy9 hy10 hy11 hy12 H.size) (cwV 1 hts gX3_readItem_X3_expect rfl rfl rfl ⟨rfl, dh_X3_expect⟩ ⟨Nat.le_of_ble_eq_true rfl, Nat.le_of_ble_eq_true rfl⟩) hK hN (hZ.kept hS) hP hD hS hA [1, 2] [0] rfl rfl (by decide) (by decide) (by decide) (va_recv (q := (RX3, TX3, 8)) hK hP (ci := 3) (q0 := 1) rfl rfl) rfl hl.1 rfl (Nat.le_of_ble_eq_true rfl) dX3_readItem_31 ⟨Nat.le_of_ble_eq_true rfl, Nat.le_of_ble_eq_true rfl⟩ (fun u_81 H locs hr_80 hP hD hS => ?_)
              obtain ⟨q_82, q_83⟩ := u_81
              try dsimp only at hr_80
              obtain ⟨hbq_82, hbq_83, hsr_80_0, hsr_80_1, hr_80⟩ := hr_80
              have h9R := zRe (ws' := [(ri, .inl (cI, 132, .inl (upd (upd fi slot.toNatClampNeg 2) x_65.toNatClampNeg r_71))), (rd, .inr (3, [.ref ri, .ref rl, .int rz, .int rc, .int q_82, .int q_83, .int rt, .int ru])), (rl, .inl (cI, 160, .inl fl))]) hP hD rfl
              clear hP hD
              obtain ⟨hP, hD⟩ := h9R
              refine lv_aload_n hx hb dX3_readItem_34 rfl (lv_at hl 2 rfl) ?_
              refine va_get (D := D) (ci := 3) (v := .int q_83) (C := RX3) (T := TX3) (N := 8) hx hb hts hi_X3_readItem_3 hown hK hP 1 rfl rfl 5 (by decide) (hts (.fieldLink RX3 28 "TheLiningsInIt$Reader" "fault" "I") (List.mem_of_getElem? (i := 2) rfl)) (fun _ h9 => h9) rfl dX3_readItem_35 ?_
              refine lv_iconst (v := (-1)) hx hb dX3_readItem_38 (by decide) ?_
              refine lv_icmp_ne (tgt := 67) hx hb dX3_readItem_39 (by decide) (fun c_84 => ?_) (fun c_84 => ?_)
              · have fc_84 : q_83.toInt ≠ (-1) := zf_ne c_84 rfl (by decide)
                have hn1 : zN1 fl rz.toInt (q_73 : Int32).toInt (zLo 2 1) (zHi 2 1 rt.toInt) = ((q_73 : Int32).toInt, (q_73 : Int32).toInt, 0) := zN1_no (by omega)
                refine lv_aload_n hx hb dX3_readItem_67 rfl (lv_at hl 2 rfl) ?_
                refine va_get (D := D) (ci := 3) (v := .int q_83) (C := RX3) (T := TX3) (N := 8) hx hb hts hi_X3_readItem_3 hown hK hP 1 rfl rfl 5 (by decide) (hts (.fieldLink RX3 28 "TheLiningsInIt$Reader" "fault" "I") (List.mem_of_getElem? (i := 2) rfl)) (fun _ h9 => h9) rfl dX3_readItem_68 ?_
                refine lv_iconst (v := (-1)) hx hb dX3_readItem_71 (by decide) ?_
                refine lv_icmp_eq (tgt := 76) hx hb dX3_readItem_72 (by decide) (fun c_85 => ?_) (fun c_85 => ?_)
                · exfalso; have fc_85 : q_83.toInt = (-1) := zf_eq c_85 rfl (by decide); omega
                · have fc_85 : q_83.toInt ≠ (-1) := zf_ne c_85 rfl (by decide)
                  have e0 : slot.toNatClampNeg = slot.toInt.toNat + 0 := (by show (slot : Int32).toInt.toNat = _; omega)
                  have e1 : x_65.toNatClampNeg = slot.toInt.toNat + 1 := (by show (x_65 : Int32).toInt.toNat = _; omega)
                  have hI := zIn_b (by have z := hn0; rw [show (q_74 : Int32).toInt = -1 from by omega] at z; exact z) (by decide) hn1 (by first | (right; decide) | (left; omega))
                  exact W.vret hx hb hr (fun t ht hW => ⟨⟨(q_82, q_83, rt, ru, (upd (upd fi slot.toNatClampNeg 2) x_65.toNatClampNeg r_71)), rfl, ⟨(show 0 ≤ q_82.toInt ∧ q_82.toInt ≤ 160 from hbq_82), (show (-1) ≤ q_83.toInt ∧ q_83.toInt ≤ 160 from hbq_83), (show 0 ≤ rt.toInt ∧ rt.toInt ≤ 40 from ⟨hy9, hy10⟩), (show 0 ≤ ru.toInt ∧ ru.toInt ≤ 8 from ⟨hy11, hy12⟩), (show q_82.toInt ≤ rz.toInt from by omega), (show (q_83.toInt = -1 → zIt (upd (upd fi slot.toNatClampNeg 2) x_65.toNatClampNeg r_71) slot.toInt.toNat) from by (intro h; exfalso; omega)), (show (∀ j : Nat, j < slot.toInt.toNat → (upd (upd fi slot.toNatClampNeg 2) x_65.toNatClampNeg r_71) j = fi j) from by (intro j hj; simp only [upd]; rw [if_neg (by omega), if_neg (by omega)])), (show (q_83.toInt = (zItem fl rz.toInt rp.toInt rt.toInt ru.toInt).1 ∧ (q_83.toInt = -1 → q_82.toInt = (zItem fl rz.toInt rp.toInt rt.toInt ru.toInt).2.1 ∧ rt.toInt = (zItem fl rz.toInt rp.toInt rt.toInt ru.toInt).2.2.1 ∧ ru.toInt = (zItem fl rz.toInt rp.toInt rt.toInt ru.toInt).2.2.2)) from by (have z9 := hsr_1_1; rw [kc2] at z9; have hq : zFst fl rz.toInt rp.toInt zWds 10 = 2 ∧ ¬ ((2 : Int) = 3 ∧ ru.toInt = 8) := (by omega); have hl9 : (q_3 : Int32).toInt = rp.toInt + ((zWds ((2 : Int)).toNat).length : Nat) := (by omega); rw [zItem_w hq.1 (by decide) hq.2 hl9 hI]; dsimp only; exact ⟨by (first | rfl | omega), fun h => ⟨by (first | rfl | omega), by (show _ = (if (2 : Int) = 0 then _ else _); rw [if_neg (by decide)]), by (show _ = (if (2 : Int) = 3 then _ else _); rw [if_neg (by decide)])⟩⟩)), (show (q_83.toInt = -1 → (((upd (upd fi slot.toNatClampNeg 2) x_65.toNatClampNeg r_71) slot.toInt.toNat).toInt = 0 → rt.toInt = ((upd (upd fi slot.toNatClampNeg 2) x_65.toNatClampNeg r_71) (slot.toInt.toNat + 1)).toInt) ∧ (((upd (upd fi slot.toNatClampNeg 2) x_65.toNatClampNeg r_71) slot.toInt.toNat).toInt ≠ 0 → rt.toInt = rt.toInt) ∧ (((upd (upd fi slot.toNatClampNeg 2) x_65.toNatClampNeg r_71) slot.toInt.toNat).toInt = 3 → ru.toInt = ru.toInt + 1) ∧ (((upd (upd fi slot.toNatClampNeg 2) x_65.toNatClampNeg r_71) slot.toInt.toNat).toInt ≠ 3 → ru.toInt = ru.toInt)) from by (intro h; exfalso; omega)), (show (q_83.toInt = -1 → zSm (zDS (upd (upd fi slot.toNatClampNeg 2) x_65.toNatClampNeg r_71) slot.toInt.toNat) (zIm fl rz.toInt rp.toInt rt.toInt)) from by (intro h; exfalso; omega)), trivial⟩, zRet ht hP hD [1, 2, 0] (by decide) rfl⟩, hS.F ht⟩) hS.2.2 dX3_readItem_75
              · have fc_84 : q_83.toInt = (-1) := zf_eq c_84 rfl (by decide)
                refine lv_aload_n hx hb dX3_readItem_42 rfl (lv_at hl 2 rfl) ?_
                refine va_get (D := D) (ci := 3) (v := .ref ri) (C := RX3) (T := TX3) (N := 8) hx hb hts hi_X3_readItem_3 hown hK hP 1 rfl rfl 0 (by decide) (hts (.fieldLink RX3 11 "TheLiningsInIt$Reader" "items" "[I") (List.mem_of_getElem? (i := 1) rfl)) (fun _ h9 => h9) rfl dX3_readItem_43 ?_
                refine lv_iload_n hx hb dX3_readItem_46 rfl (lv_at hl 3 rfl) ?_
                refine lv_iconst (v := 1) hx hb dX3_readItem_47 (by decide) ?_
                refine lv_iadd hx hb dX3_readItem_48 ?_
                refine lv_topi (fun y_86 ey_86 => ?_)
                obtain rfl : x_65 = y_86 := ex_65.trans ey_86.symm
                refine lv_iload_n hx hb dX3_readItem_49 rfl (lv_at hl 0 rfl) ?_
                refine lv_iadd hx hb dX3_readItem_50 ?_
                refine lv_topi (fun x_87 ex_87 => ?_)
                have qx_87 : x_87.toInt = x_65.toInt + 1 := by rw [ex_87]; exact zf_add rfl (by decide) (by omega) (by omega)
                refine lv_aload_n hx hb dX3_readItem_51 rfl (lv_at hl 2 rfl) ?_
                refine lv_iload_n hx hb dX3_readItem_52 rfl (lv_at hl 1 rfl) ?_
                refine lv_iload_n hx hb dX3_readItem_53 rfl (lv_at hl 0 rfl) ?_
                refine zc_S (As := [.int 2, .int 1]) (rest := [.ref rd, .int x_87, .ref ri]) ⟨hx, hb, hml, hown, hts⟩ (c_R_leastOf_2_1 l D cI cJ cZ cP cS po  ) (va_cwS 2 hts gX3_readItem_X3_leastOf rfl rfl rfl dh_X3_leastOf ⟨Nat.le_of_ble_eq_true rfl, Nat.le_of_ble_eq_true rfl⟩) hK hN (hZ.kept hS) rfl hl.1 rfl (Nat.le_of_ble_eq_true rfl) dX3_readItem_54 ⟨Nat.le_of_ble_eq_true rfl, Nat.le_of_ble_eq_true rfl⟩ (fun r_88 hr_88 => ?_)
                obtain rfl := hr_88
                refine lv_aload_n hx hb dX3_readItem_57 rfl (lv_at hl 2 rfl) ?_
                refine lv_iload_n hx hb dX3_readItem_58 rfl (lv_at hl 1 rfl) ?_
                refine lv_iload_n hx hb dX3_readItem_59 rfl (lv_at hl 0 rfl) ?_
                refine zc_V (As := [.int 2, .int 1]) (rest := [.int 0, .ref rd, .int x_87, .ref ri]) ⟨hx, hb, hml, hown, hts⟩ (c_R_mostOf_2_1 l D cI cJ cZ cP cS po rd ri rl (rz) (rc) (q_82) (q_83) (rt) (ru) hy0 hy1 hy2 hy3 hbq_82.1 hbq_82.2 (by omega) hbq_83.1 hbq_83.2 hy9 hy10 hy11 hy12) (cwV 2 hts gX3_readItem_X3_mostOf rfl rfl rfl ⟨rfl, dh_X3_mostOf⟩ ⟨Nat.le_of_ble_eq_true rfl, Nat.le_of_ble_eq_true rfl⟩) hK hN (hZ.kept hS) hP (hP.sub [1] rfl) (va_recv (q := (RX3, TX3, 8)) hK hP (ci := 3) (q0 := 1) rfl rfl) rfl hl.1 rfl (Nat.le_of_ble_eq_true rfl) dX3_readItem_60 ⟨Nat.le_of_ble_eq_true rfl, Nat.le_of_ble_eq_true rfl⟩ (fun r_89 hr_89 => ?_)
                obtain rfl := hr_89
                have kc9 : (9 : Int32).toInt = 9 := by decide
                skip
                refine zw_V (As := [.int 0, .int 9]) (rest := [.int x_87, .ref ri]) (wr := [(ri, .inl (cI, 132, .inl (upd (upd fi slot.toNatClampNeg 2) x_65.toNatClampNeg r_71)))]) ⟨hx, hb, hml, hown, hts⟩ (c_F_R_readNumber l D cI cJ cZ cP cS po rd ri rl (rz) (rc) (q_82) (q_83) (rt) (ru) fl (0) (9) hy0 hy1 hy2 hy3 hbq_82.1 hbq_82.2 (by omega) hbq_83.1 hbq_83.2 hy9 hy10 hy11 hy12 H.size) (cwV 2 hts gX3_readItem_X3_readNumber rfl rfl rfl ⟨rfl, dh_X3_readNumber⟩ ⟨Nat.le_of_ble_eq_true rfl, Nat.le_of_ble_eq_true rfl⟩) hK hN (hZ.kept hS) hP hD hS hA [1, 2] [0] rfl rfl (by decide) (by decide) (by decide) (va_recv (q := (RX3, TX3, 8)) hK hP (ci := 3) (q0 := 1) rfl rfl) rfl hl.1 rfl (Nat.le_of_ble_eq_true rfl) dX3_readItem_63 ⟨Nat.le_of_ble_eq_true rfl, Nat.le_of_ble_eq_true rfl⟩ (fun r_90 u_91 H locs hr_90 hP hD hS => ?_)
                obtain ⟨q_92, q_93⟩ := u_91
                try dsimp only at hr_90
                obtain ⟨hbq_92, hbq_93, hsr_90_0, hsr_90_1, hsr_90_2, hsr_90_3, hr_90⟩ := hr_90
                have h9R := zRe (ws' := [(ri, .inl (cI, 132, .inl (upd (upd fi slot.toNatClampNeg 2) x_65.toNatClampNeg r_71))), (rd, .inr (3, [.ref ri, .ref rl, .int rz, .int rc, .int q_92, .int q_93, .int rt, .int ru])), (rl, .inl (cI, 160, .inl fl))]) hP hD rfl
                clear hP hD
                obtain ⟨hP, hD⟩ := h9R
                obtain ⟨g_94, g_95⟩ := hr_90
                refine va_iast hx hb hK hP hD hS 0 0 rfl rfl (zf_in (by omega) (by omega)) dX3_readItem_66 (fun H locs hP hD hS => ?_)
                have h9R := zRe (ws' := [(ri, .inl (cI, 132, .inl (upd (upd (upd fi slot.toNatClampNeg 2) x_65.toNatClampNeg r_71) x_87.toNatClampNeg r_90))), (rd, .inr (3, [.ref ri, .ref rl, .int rz, .int rc, .int q_92, .int q_93, .int rt, .int ru])), (rl, .inl (cI, 160, .inl fl))]) hP hD rfl
                clear hP hD
                obtain ⟨hP, hD⟩ := h9R
                have hn1 : zN1 fl rz.toInt (q_73 : Int32).toInt (zLo 2 1) (zHi 2 1 rt.toInt) = ((q_93 : Int32).toInt, (q_92 : Int32).toInt, r_90.toInt) := zN1_yes (p1 := (q_82 : Int32).toInt) (lo2 := ((0 : Int32)).toInt) (hi2 := ((9 : Int32)).toInt) (by omega) (by omega) hsr_90_1 hsr_90_2 (by first | decide | (show (0 : Int) = _; omega)) (by first | decide | (show (9 : Int) = _; decide) | (show rt.toInt - 1 = _; omega) | (show rt.toInt = _; omega)) (by omega)
                refine lv_aload_n hx hb dX3_readItem_67 rfl (lv_at hl 2 rfl) ?_
                refine va_get (D := D) (ci := 3) (v := .int q_93) (C := RX3) (T := TX3) (N := 8) hx hb hts hi_X3_readItem_3 hown hK hP 1 rfl rfl 5 (by decide) (hts (.fieldLink RX3 28 "TheLiningsInIt$Reader" "fault" "I") (List.mem_of_getElem? (i := 2) rfl)) (fun _ h9 => h9) rfl dX3_readItem_68 ?_
                refine lv_iconst (v := (-1)) hx hb dX3_readItem_71 (by decide) ?_
                refine lv_icmp_eq (tgt := 76) hx hb dX3_readItem_72 (by decide) (fun c_96 => ?_) (fun c_96 => ?_)
                · have fc_96 : q_93.toInt = (-1) := zf_eq c_96 rfl (by decide)
                  refine lv_iinc (v := 2) (lv' := [(3, .int 2), (2, .int 2), (0, .ref rd), (1, .int slot)]) hx hb dX3_readItem_76 hl (k := 0) rfl (by decide) (by decide) rfl (fun ls hl => ?_)
                  refine lv_goto (tgt := 20) hx hb dX3_readItem_79 (by decide) ?_
                  refine lv_iload_n hx hb dX3_readItem_20 rfl (lv_at hl 0 rfl) ?_
                  refine lv_iload_n hx hb dX3_readItem_21 rfl (lv_at hl 1 rfl) ?_
                  refine zc_S (As := [.int 2]) (rest := [.int 2]) ⟨hx, hb, hml, hown, hts⟩ (c_R_numbersOf_2 l D cI cJ cZ cP cS po  ) (va_cwS 1 hts gX3_readItem_X3_numbersOf rfl rfl rfl dh_X3_numbersOf ⟨Nat.le_of_ble_eq_true rfl, Nat.le_of_ble_eq_true rfl⟩) hK hN (hZ.kept hS) rfl hl.1 rfl (Nat.le_of_ble_eq_true rfl) dX3_readItem_22 ⟨Nat.le_of_ble_eq_true rfl, Nat.le_of_ble_eq_true rfl⟩ (fun r_97 hr_97 => ?_)
                  obtain rfl := hr_97
                  refine lv_icmp_ge (tgt := 82) hx hb dX3_readItem_25 (by decide) (fun c_98 => ?_) (fun c_98 => ?_)
                  · refine lv_iload_n hx hb dX3_readItem_82 rfl (lv_at hl 1 rfl) ?_
                    refine lv_if_ne (tgt := 101) hx hb dX3_readItem_83 (by decide) (fun c_99 => ?_) (fun c_99 => ?_)
                    · refine lv_iload_n hx hb dX3_readItem_101 rfl (lv_at hl 1 rfl) ?_
                      refine lv_iconst (v := 3) hx hb dX3_readItem_102 (by decide) ?_
                      refine lv_icmp_ne (tgt := 116) hx hb dX3_readItem_103 (by decide) (fun c_100 => ?_) (fun c_100 => ?_)
                      · have e0 : slot.toNatClampNeg = slot.toInt.toNat + 0 := (by show (slot : Int32).toInt.toNat = _; omega)
                        have e1 : x_65.toNatClampNeg = slot.toInt.toNat + 1 := (by show (x_65 : Int32).toInt.toNat = _; omega)
                        have e2 : x_87.toNatClampNeg = slot.toInt.toNat + 2 := (by show (x_87 : Int32).toInt.toNat = _; omega)
                        have hI := zIn_b (by have z := hn0; rw [show (q_74 : Int32).toInt = -1 from by omega] at z; exact z) (by decide) hn1 (by first | (right; decide) | (left; omega))
                        exact W.vret hx hb hr (fun t ht hW => ⟨⟨(q_92, q_93, rt, ru, (upd (upd (upd fi slot.toNatClampNeg 2) x_65.toNatClampNeg r_71) x_87.toNatClampNeg r_90)), rfl, ⟨(show 0 ≤ q_92.toInt ∧ q_92.toInt ≤ 160 from hbq_92), (show (-1) ≤ q_93.toInt ∧ q_93.toInt ≤ 160 from hbq_93), (show 0 ≤ rt.toInt ∧ rt.toInt ≤ 40 from ⟨hy9, hy10⟩), (show 0 ≤ ru.toInt ∧ ru.toInt ≤ 8 from ⟨hy11, hy12⟩), (show q_92.toInt ≤ rz.toInt from by omega), (show (q_93.toInt = -1 → zIt (upd (upd (upd fi slot.toNatClampNeg 2) x_65.toNatClampNeg r_71) x_87.toNatClampNeg r_90) slot.toInt.toNat) from by (intro h; have k4 : (2 : Int32).toInt = 2 := (by decide); exact zIt_mk (by simp only [upd]; rw [if_neg (by omega), if_neg (by omega), if_pos (by omega)]) (by simp only [upd]; rw [if_neg (by omega), if_pos (by omega)]) (by simp only [upd]; rw [if_pos (by omega)]) (rfl) (by unfold zItv; refine ⟨?_, ?_, ?_, ?_, ?_, ?_, ?_, ?_, ?_, ?_, ?_⟩ <;> (intros; omega)))), (show (∀ j : Nat, j < slot.toInt.toNat → (upd (upd (upd fi slot.toNatClampNeg 2) x_65.toNatClampNeg r_71) x_87.toNatClampNeg r_90) j = fi j) from by (intro j hj; simp only [upd]; rw [if_neg (by omega), if_neg (by omega), if_neg (by omega)])), (show (q_93.toInt = (zItem fl rz.toInt rp.toInt rt.toInt ru.toInt).1 ∧ (q_93.toInt = -1 → q_92.toInt = (zItem fl rz.toInt rp.toInt rt.toInt ru.toInt).2.1 ∧ rt.toInt = (zItem fl rz.toInt rp.toInt rt.toInt ru.toInt).2.2.1 ∧ ru.toInt = (zItem fl rz.toInt rp.toInt rt.toInt ru.toInt).2.2.2)) from by (have z9 := hsr_1_1; rw [kc2] at z9; have hq : zFst fl rz.toInt rp.toInt zWds 10 = 2 ∧ ¬ ((2 : Int) = 3 ∧ ru.toInt = 8) := (by omega); have hl9 : (q_3 : Int32).toInt = rp.toInt + ((zWds ((2 : Int)).toNat).length : Nat) := (by omega); rw [zItem_w hq.1 (by decide) hq.2 hl9 hI]; dsimp only; exact ⟨by (first | rfl | omega), fun h => ⟨by (first | rfl | omega), by (show _ = (if (2 : Int) = 0 then _ else _); rw [if_neg (by decide)]), by (show _ = (if (2 : Int) = 3 then _ else _); rw [if_neg (by decide)])⟩⟩)), (show (q_93.toInt = -1 → (((upd (upd (upd fi slot.toNatClampNeg 2) x_65.toNatClampNeg r_71) x_87.toNatClampNeg r_90) slot.toInt.toNat).toInt = 0 → rt.toInt = ((upd (upd (upd fi slot.toNatClampNeg 2) x_65.toNatClampNeg r_71) x_87.toNatClampNeg r_90) (slot.toInt.toNat + 1)).toInt) ∧ (((upd (upd (upd fi slot.toNatClampNeg 2) x_65.toNatClampNeg r_71) x_87.toNatClampNeg r_90) slot.toInt.toNat).toInt ≠ 0 → rt.toInt = rt.toInt) ∧ (((upd (upd (upd fi slot.toNatClampNeg 2) x_65.toNatClampNeg r_71) x_87.toNatClampNeg r_90) slot.toInt.toNat).toInt = 3 → ru.toInt = ru.toInt + 1) ∧ (((upd (upd (upd fi slot.toNatClampNeg 2) x_65.toNatClampNeg r_71) x_87.toNatClampNeg r_90) slot.toInt.toNat).toInt ≠ 3 → ru.toInt = ru.toInt)) from by (intro h; have g0 : (upd (upd (upd fi slot.toNatClampNeg 2) x_65.toNatClampNeg r_71) x_87.toNatClampNeg r_90) slot.toInt.toNat = (2 : Int32) := (by simp only [upd]; rw [if_neg (by omega), if_neg (by omega), if_pos (by omega)]); have g1 : (upd (upd (upd fi slot.toNatClampNeg 2) x_65.toNatClampNeg r_71) x_87.toNatClampNeg r_90) (slot.toInt.toNat + 1) = (r_71 : Int32) := (by simp only [upd]; rw [if_neg (by omega), if_pos (by omega)]); rw [g0, g1]; refine ⟨?_, ?_, ?_, ?_⟩ <;> (intro h9; first | rfl | omega | (exfalso; omega)))), (show (q_93.toInt = -1 → zSm (zDS (upd (upd (upd fi slot.toNatClampNeg 2) x_65.toNatClampNeg r_71) x_87.toNatClampNeg r_90) slot.toInt.toNat) (zIm fl rz.toInt rp.toInt rt.toInt)) from by (intro h; have g0 : (upd (upd (upd fi slot.toNatClampNeg 2) x_65.toNatClampNeg r_71) x_87.toNatClampNeg r_90) (slot.toInt.toNat + 0) = (2 : Int32) := (by simp only [upd]; rw [if_neg (by omega), if_neg (by omega), if_pos (by omega)]); have g1 : (upd (upd (upd fi slot.toNatClampNeg 2) x_65.toNatClampNeg r_71) x_87.toNatClampNeg r_90) (slot.toInt.toNat + 1) = (r_71 : Int32) := (by simp only [upd]; rw [if_neg (by omega), if_pos (by omega)]); have g2 : (upd (upd (upd fi slot.toNatClampNeg 2) x_65.toNatClampNeg r_71) x_87.toNatClampNeg r_90) (slot.toInt.toNat + 2) = (r_90 : Int32) := (by simp only [upd]; rw [if_pos (by omega)]); have z9 := hsr_1_1; rw [kc2] at z9; have hW : zIW fl rz.toInt rp.toInt = 2 := (by unfold zIW; omega); have hP9 : zIP fl rz.toInt rp.toInt = (q_3 : Int32).toInt := (by unfold zIP; rw [hW]; have hl9 : (q_3 : Int32).toInt = rp.toInt + ((zWds ((2 : Int)).toNat).length : Nat) := (by omega); exact hl9.symm); exact ⟨(show ((upd (upd (upd fi slot.toNatClampNeg 2) x_65.toNatClampNeg r_71) x_87.toNatClampNeg r_90) (slot.toInt.toNat + 0)).toInt = zIW fl rz.toInt rp.toInt from by (rw [g0, hW]; omega)), (show ((upd (upd (upd fi slot.toNatClampNeg 2) x_65.toNatClampNeg r_71) x_87.toNatClampNeg r_90) (slot.toInt.toNat + 1)).toInt = (zIn fl rz.toInt (zIP fl rz.toInt rp.toInt) rt.toInt (zIW fl rz.toInt rp.toInt)).2.2 from by (rw [g1, hP9, hW, hI])), fun hz => (show ((upd (upd (upd fi slot.toNatClampNeg 2) x_65.toNatClampNeg r_71) x_87.toNatClampNeg r_90) (slot.toInt.toNat + 2)).toInt = zV2 fl rz.toInt (zIP fl rz.toInt rp.toInt) rt.toInt (zIW fl rz.toInt rp.toInt) from by (rw [g2, hP9, hW]; exact (zV2_eq hn0 hn1).symm)), fun hz => absurd (show ((upd (upd (upd fi slot.toNatClampNeg 2) x_65.toNatClampNeg r_71) x_87.toNatClampNeg r_90) (slot.toInt.toNat + 0)).toInt = 3 from hz) (by rw [g0]; omega)⟩)), trivial⟩, zRet ht hP hD [1, 2, 0] (by decide) rfl⟩, hS.F ht⟩) hS.2.2 dX3_readItem_116
                      · exact absurd c_100 (by decide)
                    · exact absurd c_99 (by decide)
                  · exact absurd c_98 (by decide)
                · have fc_96 : q_93.toInt ≠ (-1) := zf_ne c_96 rfl (by decide)
                  have e0 : slot.toNatClampNeg = slot.toInt.toNat + 0 := (by show (slot : Int32).toInt.toNat = _; omega)
                  have e1 : x_65.toNatClampNeg = slot.toInt.toNat + 1 := (by show (x_65 : Int32).toInt.toNat = _; omega)
                  have e2 : x_87.toNatClampNeg = slot.toInt.toNat + 2 := (by show (x_87 : Int32).toInt.toNat = _; omega)
                  have hI := zIn_b (by have z := hn0; rw [show (q_74 : Int32).toInt = -1 from by omega] at z; exact z) (by decide) hn1 (by first | (right; decide) | (left; omega))
                  exact W.vret hx hb hr (fun t ht hW => ⟨⟨(q_92, q_93, rt, ru, (upd (upd (upd fi slot.toNatClampNeg 2) x_65.toNatClampNeg r_71) x_87.toNatClampNeg r_90)), rfl, ⟨(show 0 ≤ q_92.toInt ∧ q_92.toInt ≤ 160 from hbq_92), (show (-1) ≤ q_93.toInt ∧ q_93.toInt ≤ 160 from hbq_93), (show 0 ≤ rt.toInt ∧ rt.toInt ≤ 40 from ⟨hy9, hy10⟩), (show 0 ≤ ru.toInt ∧ ru.toInt ≤ 8 from ⟨hy11, hy12⟩), (show q_92.toInt ≤ rz.toInt from by omega), (show (q_93.toInt = -1 → zIt (upd (upd (upd fi slot.toNatClampNeg 2) x_65.toNatClampNeg r_71) x_87.toNatClampNeg r_90) slot.toInt.toNat) from by (intro h; exfalso; omega)), (show (∀ j : Nat, j < slot.toInt.toNat → (upd (upd (upd fi slot.toNatClampNeg 2) x_65.toNatClampNeg r_71) x_87.toNatClampNeg r_90) j = fi j) from by (intro j hj; simp only [upd]; rw [if_neg (by omega), if_neg (by omega), if_neg (by omega)])), (show (q_93.toInt = (zItem fl rz.toInt rp.toInt rt.toInt ru.toInt).1 ∧ (q_93.toInt = -1 → q_92.toInt = (zItem fl rz.toInt rp.toInt rt.toInt ru.toInt).2.1 ∧ rt.toInt = (zItem fl rz.toInt rp.toInt rt.toInt ru.toInt).2.2.1 ∧ ru.toInt = (zItem fl rz.toInt rp.toInt rt.toInt ru.toInt).2.2.2)) from by (have z9 := hsr_1_1; rw [kc2] at z9; have hq : zFst fl rz.toInt rp.toInt zWds 10 = 2 ∧ ¬ ((2 : Int) = 3 ∧ ru.toInt = 8) := (by omega); have hl9 : (q_3 : Int32).toInt = rp.toInt + ((zWds ((2 : Int)).toNat).length : Nat) := (by omega); rw [zItem_w hq.1 (by decide) hq.2 hl9 hI]; dsimp only; exact ⟨by (first | rfl | omega), fun h => ⟨by (first | rfl | omega), by (show _ = (if (2 : Int) = 0 then _ else _); rw [if_neg (by decide)]), by (show _ = (if (2 : Int) = 3 then _ else _); rw [if_neg (by decide)])⟩⟩)), (show (q_93.toInt = -1 → (((upd (upd (upd fi slot.toNatClampNeg 2) x_65.toNatClampNeg r_71) x_87.toNatClampNeg r_90) slot.toInt.toNat).toInt = 0 → rt.toInt = ((upd (upd (upd fi slot.toNatClampNeg 2) x_65.toNatClampNeg r_71) x_87.toNatClampNeg r_90) (slot.toInt.toNat + 1)).toInt) ∧ (((upd (upd (upd fi slot.toNatClampNeg 2) x_65.toNatClampNeg r_71) x_87.toNatClampNeg r_90) slot.toInt.toNat).toInt ≠ 0 → rt.toInt = rt.toInt) ∧ (((upd (upd (upd fi slot.toNatClampNeg 2) x_65.toNatClampNeg r_71) x_87.toNatClampNeg r_90) slot.toInt.toNat).toInt = 3 → ru.toInt = ru.toInt + 1) ∧ (((upd (upd (upd fi slot.toNatClampNeg 2) x_65.toNatClampNeg r_71) x_87.toNatClampNeg r_90) slot.toInt.toNat).toInt ≠ 3 → ru.toInt = ru.toInt)) from by (intro h; exfalso; omega)), (show (q_93.toInt = -1 → zSm (zDS (upd (upd (upd fi slot.toNatClampNeg 2) x_65.toNatClampNeg r_71) x_87.toNatClampNeg r_90) slot.toInt.toNat) (zIm fl rz.toInt rp.toInt rt.toInt)) from by (intro h; exfalso; omega)), trivial⟩, zRet ht hP hD [1, 2, 0] (by decide) rfl⟩, hS.F ht⟩) hS.2.2 dX3_readItem_75
          · have fc_77 : q_74.toInt ≠ (-1) := zf_ne c_77 rfl (by decide)
            have e0 : slot.toNatClampNeg = slot.toInt.toNat + 0 := (by show (slot : Int32).toInt.toNat = _; omega)
            have e1 : x_65.toNatClampNeg = slot.toInt.toNat + 1 := (by show (x_65 : Int32).toInt.toNat = _; omega)
            have hI := zIn_a hn0 (by first | (right; decide) | (left; omega))
            exact W.vret hx hb hr (fun t ht hW => ⟨⟨(q_73, q_74, rt, ru, (upd (upd fi slot.toNatClampNeg 2) x_65.toNatClampNeg r_71)), rfl, ⟨(show 0 ≤ q_73.toInt ∧ q_73.toInt ≤ 160 from hbq_73), (show (-1) ≤ q_74.toInt ∧ q_74.toInt ≤ 160 from hbq_74), (show 0 ≤ rt.toInt ∧ rt.toInt ≤ 40 from ⟨hy9, hy10⟩), (show 0 ≤ ru.toInt ∧ ru.toInt ≤ 8 from ⟨hy11, hy12⟩), (show q_73.toInt ≤ rz.toInt from by omega), (show (q_74.toInt = -1 → zIt (upd (upd fi slot.toNatClampNeg 2) x_65.toNatClampNeg r_71) slot.toInt.toNat) from by (intro h; exfalso; omega)), (show (∀ j : Nat, j < slot.toInt.toNat → (upd (upd fi slot.toNatClampNeg 2) x_65.toNatClampNeg r_71) j = fi j) from by (intro j hj; simp only [upd]; rw [if_neg (by omega), if_neg (by omega)])), (show (q_74.toInt = (zItem fl rz.toInt rp.toInt rt.toInt ru.toInt).1 ∧ (q_74.toInt = -1 → q_73.toInt = (zItem fl rz.toInt rp.toInt rt.toInt ru.toInt).2.1 ∧ rt.toInt = (zItem fl rz.toInt rp.toInt rt.toInt ru.toInt).2.2.1 ∧ ru.toInt = (zItem fl rz.toInt rp.toInt rt.toInt ru.toInt).2.2.2)) from by (have z9 := hsr_1_1; rw [kc2] at z9; have hq : zFst fl rz.toInt rp.toInt zWds 10 = 2 ∧ ¬ ((2 : Int) = 3 ∧ ru.toInt = 8) := (by omega); have hl9 : (q_3 : Int32).toInt = rp.toInt + ((zWds ((2 : Int)).toNat).length : Nat) := (by omega); rw [zItem_w hq.1 (by decide) hq.2 hl9 hI]; dsimp only; exact ⟨by (first | rfl | omega), fun h => ⟨by (first | rfl | omega), by (show _ = (if (2 : Int) = 0 then _ else _); rw [if_neg (by decide)]), by (show _ = (if (2 : Int) = 3 then _ else _); rw [if_neg (by decide)])⟩⟩)), (show (q_74.toInt = -1 → (((upd (upd fi slot.toNatClampNeg 2) x_65.toNatClampNeg r_71) slot.toInt.toNat).toInt = 0 → rt.toInt = ((upd (upd fi slot.toNatClampNeg 2) x_65.toNatClampNeg r_71) (slot.toInt.toNat + 1)).toInt) ∧ (((upd (upd fi slot.toNatClampNeg 2) x_65.toNatClampNeg r_71) slot.toInt.toNat).toInt ≠ 0 → rt.toInt = rt.toInt) ∧ (((upd (upd fi slot.toNatClampNeg 2) x_65.toNatClampNeg r_71) slot.toInt.toNat).toInt = 3 → ru.toInt = ru.toInt + 1) ∧ (((upd (upd fi slot.toNatClampNeg 2) x_65.toNatClampNeg r_71) slot.toInt.toNat).toInt ≠ 3 → ru.toInt = ru.toInt)) from by (intro h; exfalso; omega)), (show (q_74.toInt = -1 → zSm (zDS (upd (upd fi slot.toNatClampNeg 2) x_65.toNatClampNeg r_71) slot.toInt.toNat) (zIm fl rz.toInt rp.toInt rt.toInt)) from by (intro h; exfalso; omega)), trivial⟩, zRet ht hP hD [1, 2, 0] (by decide) rfl⟩, hS.F ht⟩) hS.2.2 dX3_readItem_75
    · have kc3 : (3 : Int32).toInt = 3 := by decide
      refine lv_aload_n hx hb dX3_readItem_11 rfl (lv_at hl 1 rfl) ?_
      refine va_get (D := D) (ci := 3) (v := .ref ri) (C := RX3) (T := TX3) (N := 8) hx hb hts hi_X3_readItem_3 hown hK hP 1 rfl rfl 0 (by decide) (hts (.fieldLink RX3 11 "TheLiningsInIt$Reader" "items" "[I") (List.mem_of_getElem? (i := 1) rfl)) (fun _ h9 => h9) rfl dX3_readItem_12 ?_
      refine lv_iload_n hx hb dX3_readItem_15 rfl (lv_at hl 2 rfl) ?_
      refine lv_iload_n hx hb dX3_readItem_16 rfl (lv_at hl 0 rfl) ?_
      refine va_iast hx hb hK hP hD hS 0 0 rfl rfl (zf_in (by omega) (by omega)) dX3_readItem_17 (fun H locs hP hD hS => ?_)
      have h9R := zRe (ws' := [(ri, .inl (cI, 132, .inl (upd fi slot.toNatClampNeg 3))), (rd, .inr (3, [.ref ri, .ref rl, .int rz, .int rc, .int q_3, .int q_4, .int rt, .int ru])), (rl, .inl (cI, 160, .inl fl))]) hP hD rfl
      clear hP hD
      obtain ⟨hP, hD⟩ := h9R
      refine lv_iconst (v := 0) hx hb dX3_readItem_18 (by decide) ?_
      refine lv_istore_n (lv' := [(3, .int 0), (2, .int 3), (0, .ref rd), (1, .int slot)]) hx hb dX3_readItem_19 rfl hl (by decide) rfl (fun ls hl => ?_)
      refine lv_iload_n hx hb dX3_readItem_20 rfl (lv_at hl 0 rfl) ?_
      refine lv_iload_n hx hb dX3_readItem_21 rfl (lv_at hl 1 rfl) ?_
      refine zc_S (As := [.int 3]) (rest := [.int 0]) ⟨hx, hb, hml, hown, hts⟩ (c_R_numbersOf_3 l D cI cJ cZ cP cS po  ) (va_cwS 1 hts gX3_readItem_X3_numbersOf rfl rfl rfl dh_X3_numbersOf ⟨Nat.le_of_ble_eq_true rfl, Nat.le_of_ble_eq_true rfl⟩) hK hN (hZ.kept hS) rfl hl.1 rfl (Nat.le_of_ble_eq_true rfl) dX3_readItem_22 ⟨Nat.le_of_ble_eq_true rfl, Nat.le_of_ble_eq_true rfl⟩ (fun r_101 hr_101 => ?_)
      obtain rfl := hr_101
      refine lv_icmp_ge (tgt := 82) hx hb dX3_readItem_25 (by decide) (fun c_102 => ?_) (fun c_102 => ?_)
      · exact absurd c_102 (by decide)
      · refine lv_aload_n hx hb dX3_readItem_28 rfl (lv_at hl 2 rfl) ?_
        refine lv_bipush (v := 32) hx hb dX3_readItem_29 (by decide) ?_
        have kc32 : (32 : Int32).toInt = 32 := by decide
        skip
        refine zw_Vv (As := [.int 32]) (rest := []) (wr := [(ri, .inl (cI, 132, .inl (upd fi slot.toNatClampNeg 3)))]) ⟨hx, hb, hml, hown, hts⟩ (c_F_R_expect l D cI cJ cZ cP cS po rd ri rl (rz) (rc) (q_3) (q_4) (rt) (ru) fl (32) hy0 hy1 hy2 hy3 hbq_3.1 hbq_3.2 (by omega) hbq_4.1 hbq_4.2 hy9 hy10 hy11 hy12 H.size) (cwV 1 hts gX3_readItem_X3_expect rfl rfl rfl ⟨rfl, dh_X3_expect⟩ ⟨Nat.le_of_ble_eq_true rfl, Nat.le_of_ble_eq_true rfl⟩) hK hN (hZ.kept hS) hP hD hS hA [1, 2] [0] rfl rfl (by decide) (by decide) (by decide) (va_recv (q := (RX3, TX3, 8)) hK hP (ci := 3) (q0 := 1) rfl rfl) rfl hl.1 rfl (Nat.le_of_ble_eq_true rfl) dX3_readItem_31 ⟨Nat.le_of_ble_eq_true rfl, Nat.le_of_ble_eq_true rfl⟩ (fun u_104 H locs hr_103 hP hD hS => ?_)
        obtain ⟨q_105, q_106⟩ := u_104
        try dsimp only at hr_103
        obtain ⟨hbq_105, hbq_106, hsr_103_0, hsr_103_1, hr_103⟩ := hr_103
        have h9R := zRe (ws' := [(ri, .inl (cI, 132, .inl (upd fi slot.toNatClampNeg 3))), (rd, .inr (3, [.ref ri, .ref rl, .int rz, .int rc, .int q_105, .int q_106, .int rt, .int ru])), (rl, .inl (cI, 160, .inl fl))]) hP hD rfl
        clear hP hD
        obtain ⟨hP, hD⟩ := h9R
        refine lv_aload_n hx hb dX3_readItem_34 rfl (lv_at hl 2 rfl) ?_
        refine va_get (D := D) (ci := 3) (v := .int q_106) (C := RX3) (T := TX3) (N := 8) hx hb hts hi_X3_readItem_3 hown hK hP 1 rfl rfl 5 (by decide) (hts (.fieldLink RX3 28 "TheLiningsInIt$Reader" "fault" "I") (List.mem_of_getElem? (i := 2) rfl)) (fun _ h9 => h9) rfl dX3_readItem_35 ?_
        refine lv_iconst (v := (-1)) hx hb dX3_readItem_38 (by decide) ?_
        refine lv_icmp_ne (tgt := 67) hx hb dX3_readItem_39 (by decide) (fun c_107 => ?_) (fun c_107 => ?_)
        · have fc_107 : q_106.toInt ≠ (-1) := zf_ne c_107 rfl (by decide)
          have hn0 : zN1 fl rz.toInt (q_3 : Int32).toInt (zLo 3 0) (zHi 3 0 rt.toInt) = ((q_3 : Int32).toInt, (q_3 : Int32).toInt, 0) := zN1_no (by omega)
          refine lv_aload_n hx hb dX3_readItem_67 rfl (lv_at hl 2 rfl) ?_
          refine va_get (D := D) (ci := 3) (v := .int q_106) (C := RX3) (T := TX3) (N := 8) hx hb hts hi_X3_readItem_3 hown hK hP 1 rfl rfl 5 (by decide) (hts (.fieldLink RX3 28 "TheLiningsInIt$Reader" "fault" "I") (List.mem_of_getElem? (i := 2) rfl)) (fun _ h9 => h9) rfl dX3_readItem_68 ?_
          refine lv_iconst (v := (-1)) hx hb dX3_readItem_71 (by decide) ?_
          refine lv_icmp_eq (tgt := 76) hx hb dX3_readItem_72 (by decide) (fun c_108 => ?_) (fun c_108 => ?_)
          · exfalso; have fc_108 : q_106.toInt = (-1) := zf_eq c_108 rfl (by decide); omega
          · have fc_108 : q_106.toInt ≠ (-1) := zf_ne c_108 rfl (by decide)
            have e0 : slot.toNatClampNeg = slot.toInt.toNat + 0 := (by show (slot : Int32).toInt.toNat = _; omega)
            have hI := zIn_a hn0 (by first | (right; decide) | (left; omega))
            exact W.vret hx hb hr (fun t ht hW => ⟨⟨(q_105, q_106, rt, ru, (upd fi slot.toNatClampNeg 3)), rfl, ⟨(show 0 ≤ q_105.toInt ∧ q_105.toInt ≤ 160 from hbq_105), (show (-1) ≤ q_106.toInt ∧ q_106.toInt ≤ 160 from hbq_106), (show 0 ≤ rt.toInt ∧ rt.toInt ≤ 40 from ⟨hy9, hy10⟩), (show 0 ≤ ru.toInt ∧ ru.toInt ≤ 8 from ⟨hy11, hy12⟩), (show q_105.toInt ≤ rz.toInt from by omega), (show (q_106.toInt = -1 → zIt (upd fi slot.toNatClampNeg 3) slot.toInt.toNat) from by (intro h; exfalso; omega)), (show (∀ j : Nat, j < slot.toInt.toNat → (upd fi slot.toNatClampNeg 3) j = fi j) from by (intro j hj; simp only [upd]; rw [if_neg (by omega)])), (show (q_106.toInt = (zItem fl rz.toInt rp.toInt rt.toInt ru.toInt).1 ∧ (q_106.toInt = -1 → q_105.toInt = (zItem fl rz.toInt rp.toInt rt.toInt ru.toInt).2.1 ∧ rt.toInt = (zItem fl rz.toInt rp.toInt rt.toInt ru.toInt).2.2.1 ∧ ru.toInt = (zItem fl rz.toInt rp.toInt rt.toInt ru.toInt).2.2.2)) from by (have z9 := hsr_1_1; rw [kc3] at z9; have hq : zFst fl rz.toInt rp.toInt zWds 10 = 3 ∧ ¬ ((3 : Int) = 3 ∧ ru.toInt = 8) := (by omega); have hl9 : (q_3 : Int32).toInt = rp.toInt + ((zWds ((3 : Int)).toNat).length : Nat) := (by omega); rw [zItem_w hq.1 (by decide) hq.2 hl9 hI]; dsimp only; exact ⟨by (first | rfl | omega), fun h => ⟨by (first | rfl | omega), by (show _ = (if (3 : Int) = 0 then _ else _); rw [if_neg (by decide)]), by (show _ = (if (3 : Int) = 3 then _ else _); first | (rw [if_pos rfl]; done) | (rw [if_pos rfl]; omega))⟩⟩)), (show (q_106.toInt = -1 → (((upd fi slot.toNatClampNeg 3) slot.toInt.toNat).toInt = 0 → rt.toInt = ((upd fi slot.toNatClampNeg 3) (slot.toInt.toNat + 1)).toInt) ∧ (((upd fi slot.toNatClampNeg 3) slot.toInt.toNat).toInt ≠ 0 → rt.toInt = rt.toInt) ∧ (((upd fi slot.toNatClampNeg 3) slot.toInt.toNat).toInt = 3 → ru.toInt = ru.toInt + 1) ∧ (((upd fi slot.toNatClampNeg 3) slot.toInt.toNat).toInt ≠ 3 → ru.toInt = ru.toInt)) from by (intro h; exfalso; omega)), (show (q_106.toInt = -1 → zSm (zDS (upd fi slot.toNatClampNeg 3) slot.toInt.toNat) (zIm fl rz.toInt rp.toInt rt.toInt)) from by (intro h; exfalso; omega)), trivial⟩, zRet ht hP hD [1, 2, 0] (by decide) rfl⟩, hS.F ht⟩) hS.2.2 dX3_readItem_75
        · have fc_107 : q_106.toInt = (-1) := zf_eq c_107 rfl (by decide)
          refine lv_aload_n hx hb dX3_readItem_42 rfl (lv_at hl 2 rfl) ?_
          refine va_get (D := D) (ci := 3) (v := .ref ri) (C := RX3) (T := TX3) (N := 8) hx hb hts hi_X3_readItem_3 hown hK hP 1 rfl rfl 0 (by decide) (hts (.fieldLink RX3 11 "TheLiningsInIt$Reader" "items" "[I") (List.mem_of_getElem? (i := 1) rfl)) (fun _ h9 => h9) rfl dX3_readItem_43 ?_
          refine lv_iload_n hx hb dX3_readItem_46 rfl (lv_at hl 3 rfl) ?_
          refine lv_iconst (v := 1) hx hb dX3_readItem_47 (by decide) ?_
          refine lv_iadd hx hb dX3_readItem_48 ?_
          refine lv_topi (fun x_109 ex_109 => ?_)
          have qx_109 : x_109.toInt = slot.toInt + 1 := by rw [ex_109]; exact zf_add rfl (by decide) (by omega) (by omega)
          refine lv_iload_n hx hb dX3_readItem_49 rfl (lv_at hl 0 rfl) ?_
          refine lv_iadd hx hb dX3_readItem_50 ?_
          refine lv_topi (fun y_110 ey_110 => ?_)
          obtain rfl : x_109 = y_110 := (ey_110.trans (Int32.add_zero x_109)).symm
          refine lv_aload_n hx hb dX3_readItem_51 rfl (lv_at hl 2 rfl) ?_
          refine lv_iload_n hx hb dX3_readItem_52 rfl (lv_at hl 1 rfl) ?_
          refine lv_iload_n hx hb dX3_readItem_53 rfl (lv_at hl 0 rfl) ?_
          refine zc_S (As := [.int 3, .int 0]) (rest := [.ref rd, .int x_109, .ref ri]) ⟨hx, hb, hml, hown, hts⟩ (c_R_leastOf_3_0 l D cI cJ cZ cP cS po  ) (va_cwS 2 hts gX3_readItem_X3_leastOf rfl rfl rfl dh_X3_leastOf ⟨Nat.le_of_ble_eq_true rfl, Nat.le_of_ble_eq_true rfl⟩) hK hN (hZ.kept hS) rfl hl.1 rfl (Nat.le_of_ble_eq_true rfl) dX3_readItem_54 ⟨Nat.le_of_ble_eq_true rfl, Nat.le_of_ble_eq_true rfl⟩ (fun r_111 hr_111 => ?_)
          obtain rfl := hr_111
          refine lv_aload_n hx hb dX3_readItem_57 rfl (lv_at hl 2 rfl) ?_
          refine lv_iload_n hx hb dX3_readItem_58 rfl (lv_at hl 1 rfl) ?_
          refine lv_iload_n hx hb dX3_readItem_59 rfl (lv_at hl 0 rfl) ?_
          refine zc_V (As := [.int 3, .int 0]) (rest := [.int 0, .ref rd, .int x_109, .ref ri]) ⟨hx, hb, hml, hown, hts⟩ (c_R_mostOf_3_0 l D cI cJ cZ cP cS po rd ri rl (rz) (rc) (q_105) (q_106) (rt) (ru) hy0 hy1 hy2 hy3 hbq_105.1 hbq_105.2 (by omega) hbq_106.1 hbq_106.2 hy9 hy10 hy11 hy12) (cwV 2 hts gX3_readItem_X3_mostOf rfl rfl rfl ⟨rfl, dh_X3_mostOf⟩ ⟨Nat.le_of_ble_eq_true rfl, Nat.le_of_ble_eq_true rfl⟩) hK hN (hZ.kept hS) hP (hP.sub [1] rfl) (va_recv (q := (RX3, TX3, 8)) hK hP (ci := 3) (q0 := 1) rfl rfl) rfl hl.1 rfl (Nat.le_of_ble_eq_true rfl) dX3_readItem_60 ⟨Nat.le_of_ble_eq_true rfl, Nat.le_of_ble_eq_true rfl⟩ (fun r_112 hr_112 => ?_)
          obtain rfl := hr_112
          have kc0 : (0 : Int32).toInt = 0 := by decide
          have kc6 : (6 : Int32).toInt = 6 := by decide
          skip
          refine zw_V (As := [.int 0, .int 6]) (rest := [.int x_109, .ref ri]) (wr := [(ri, .inl (cI, 132, .inl (upd fi slot.toNatClampNeg 3)))]) ⟨hx, hb, hml, hown, hts⟩ (c_F_R_readNumber l D cI cJ cZ cP cS po rd ri rl (rz) (rc) (q_105) (q_106) (rt) (ru) fl (0) (6) hy0 hy1 hy2 hy3 hbq_105.1 hbq_105.2 (by omega) hbq_106.1 hbq_106.2 hy9 hy10 hy11 hy12 H.size) (cwV 2 hts gX3_readItem_X3_readNumber rfl rfl rfl ⟨rfl, dh_X3_readNumber⟩ ⟨Nat.le_of_ble_eq_true rfl, Nat.le_of_ble_eq_true rfl⟩) hK hN (hZ.kept hS) hP hD hS hA [1, 2] [0] rfl rfl (by decide) (by decide) (by decide) (va_recv (q := (RX3, TX3, 8)) hK hP (ci := 3) (q0 := 1) rfl rfl) rfl hl.1 rfl (Nat.le_of_ble_eq_true rfl) dX3_readItem_63 ⟨Nat.le_of_ble_eq_true rfl, Nat.le_of_ble_eq_true rfl⟩ (fun r_113 u_114 H locs hr_113 hP hD hS => ?_)
          obtain ⟨q_115, q_116⟩ := u_114
          try dsimp only at hr_113
          obtain ⟨hbq_115, hbq_116, hsr_113_0, hsr_113_1, hsr_113_2, hsr_113_3, hr_113⟩ := hr_113
          have h9R := zRe (ws' := [(ri, .inl (cI, 132, .inl (upd fi slot.toNatClampNeg 3))), (rd, .inr (3, [.ref ri, .ref rl, .int rz, .int rc, .int q_115, .int q_116, .int rt, .int ru])), (rl, .inl (cI, 160, .inl fl))]) hP hD rfl
          clear hP hD
          obtain ⟨hP, hD⟩ := h9R
          obtain ⟨g_117, g_118⟩ := hr_113
          refine va_iast hx hb hK hP hD hS 0 0 rfl rfl (zf_in (by omega) (by omega)) dX3_readItem_66 (fun H locs hP hD hS => ?_)
          have h9R := zRe (ws' := [(ri, .inl (cI, 132, .inl (upd (upd fi slot.toNatClampNeg 3) x_109.toNatClampNeg r_113))), (rd, .inr (3, [.ref ri, .ref rl, .int rz, .int rc, .int q_115, .int q_116, .int rt, .int ru])), (rl, .inl (cI, 160, .inl fl))]) hP hD rfl
          clear hP hD
          obtain ⟨hP, hD⟩ := h9R
          have hn0 : zN1 fl rz.toInt (q_3 : Int32).toInt (zLo 3 0) (zHi 3 0 rt.toInt) = ((q_116 : Int32).toInt, (q_115 : Int32).toInt, r_113.toInt) := zN1_yes (p1 := (q_105 : Int32).toInt) (lo2 := ((0 : Int32)).toInt) (hi2 := ((6 : Int32)).toInt) (by omega) (by omega) hsr_113_1 hsr_113_2 (by first | decide | (show (0 : Int) = _; omega)) (by first | decide | (show (6 : Int) = _; decide) | (show rt.toInt - 1 = _; omega) | (show rt.toInt = _; omega)) (by omega)
          refine lv_aload_n hx hb dX3_readItem_67 rfl (lv_at hl 2 rfl) ?_
          refine va_get (D := D) (ci := 3) (v := .int q_116) (C := RX3) (T := TX3) (N := 8) hx hb hts hi_X3_readItem_3 hown hK hP 1 rfl rfl 5 (by decide) (hts (.fieldLink RX3 28 "TheLiningsInIt$Reader" "fault" "I") (List.mem_of_getElem? (i := 2) rfl)) (fun _ h9 => h9) rfl dX3_readItem_68 ?_
          refine lv_iconst (v := (-1)) hx hb dX3_readItem_71 (by decide) ?_
          refine lv_icmp_eq (tgt := 76) hx hb dX3_readItem_72 (by decide) (fun c_119 => ?_) (fun c_119 => ?_)
          · have fc_119 : q_116.toInt = (-1) := zf_eq c_119 rfl (by decide)
            refine lv_iinc (v := 1) (lv' := [(3, .int 1), (2, .int 3), (0, .ref rd), (1, .int slot)]) hx hb dX3_readItem_76 hl (k := 0) rfl (by decide) (by decide) rfl (fun ls hl => ?_)
            refine lv_goto (tgt := 20) hx hb dX3_readItem_79 (by decide) ?_
            refine lv_iload_n hx hb dX3_readItem_20 rfl (lv_at hl 0 rfl) ?_
            refine lv_iload_n hx hb dX3_readItem_21 rfl (lv_at hl 1 rfl) ?_
            refine zc_S (As := [.int 3]) (rest := [.int 1]) ⟨hx, hb, hml, hown, hts⟩ (c_R_numbersOf_3 l D cI cJ cZ cP cS po  ) (va_cwS 1 hts gX3_readItem_X3_numbersOf rfl rfl rfl dh_X3_numbersOf ⟨Nat.le_of_ble_eq_true rfl, Nat.le_of_ble_eq_true rfl⟩) hK hN (hZ.kept hS) rfl hl.1 rfl (Nat.le_of_ble_eq_true rfl) dX3_readItem_22 ⟨Nat.le_of_ble_eq_true rfl, Nat.le_of_ble_eq_true rfl⟩ (fun r_120 hr_120 => ?_)
            obtain rfl := hr_120
            refine lv_icmp_ge (tgt := 82) hx hb dX3_readItem_25 (by decide) (fun c_121 => ?_) (fun c_121 => ?_)
            · exact absurd c_121 (by decide)
            · refine lv_aload_n hx hb dX3_readItem_28 rfl (lv_at hl 2 rfl) ?_
              refine lv_bipush (v := 32) hx hb dX3_readItem_29 (by decide) ?_
              skip
              refine zw_Vv (As := [.int 32]) (rest := []) (wr := [(ri, .inl (cI, 132, .inl (upd (upd fi slot.toNatClampNeg 3) x_109.toNatClampNeg r_113)))]) ⟨hx, hb, hml, hown, hts⟩ (c_F_R_expect l D cI cJ cZ cP cS po rd ri rl (rz) (rc) (q_115) (q_116) (rt) (ru) fl (32) hy0 hy1 hy2 hy3 hbq_115.1 hbq_115.2 (by omega) hbq_116.1 hbq_116.2 hy9 hy10 hy11 hy12 H.size) (cwV 1 hts gX3_readItem_X3_expect rfl rfl rfl ⟨rfl, dh_X3_expect⟩ ⟨Nat.le_of_ble_eq_true rfl, Nat.le_of_ble_eq_true rfl⟩) hK hN (hZ.kept hS) hP hD hS hA [1, 2] [0] rfl rfl (by decide) (by decide) (by decide) (va_recv (q := (RX3, TX3, 8)) hK hP (ci := 3) (q0 := 1) rfl rfl) rfl hl.1 rfl (Nat.le_of_ble_eq_true rfl) dX3_readItem_31 ⟨Nat.le_of_ble_eq_true rfl, Nat.le_of_ble_eq_true rfl⟩ (fun u_123 H locs hr_122 hP hD hS => ?_)
              obtain ⟨q_124, q_125⟩ := u_123
              try dsimp only at hr_122
              obtain ⟨hbq_124, hbq_125, hsr_122_0, hsr_122_1, hr_122⟩ := hr_122
              have h9R := zRe (ws' := [(ri, .inl (cI, 132, .inl (upd (upd fi slot.toNatClampNeg 3) x_109.toNatClampNeg r_113))), (rd, .inr (3, [.ref ri, .ref rl, .int rz, .int rc, .int q_124, .int q_125, .int rt, .int ru])), (rl, .inl (cI, 160, .inl fl))]) hP hD rfl
              clear hP hD
              obtain ⟨hP, hD⟩ := h9R
              refine lv_aload_n hx hb dX3_readItem_34 rfl (lv_at hl 2 rfl) ?_
              refine va_get (D := D) (ci := 3) (v := .int q_125) (C := RX3) (T := TX3) (N := 8) hx hb hts hi_X3_readItem_3 hown hK hP 1 rfl rfl 5 (by decide) (hts (.fieldLink RX3 28 "TheLiningsInIt$Reader" "fault" "I") (List.mem_of_getElem? (i := 2) rfl)) (fun _ h9 => h9) rfl dX3_readItem_35 ?_
              refine lv_iconst (v := (-1)) hx hb dX3_readItem_38 (by decide) ?_
              refine lv_icmp_ne (tgt := 67) hx hb dX3_readItem_39 (by decide) (fun c_126 => ?_) (fun c_126 => ?_)
              · have fc_126 : q_125.toInt ≠ (-1) := zf_ne c_126 rfl (by decide)
                have hn1 : zN1 fl rz.toInt (q_115 : Int32).toInt (zLo 3 1) (zHi 3 1 rt.toInt) = ((q_115 : Int32).toInt, (q_115 : Int32).toInt, 0) := zN1_no (by omega)
                refine lv_aload_n hx hb dX3_readItem_67 rfl (lv_at hl 2 rfl) ?_
                refine va_get (D := D) (ci := 3) (v := .int q_125) (C := RX3) (T := TX3) (N := 8) hx hb hts hi_X3_readItem_3 hown hK hP 1 rfl rfl 5 (by decide) (hts (.fieldLink RX3 28 "TheLiningsInIt$Reader" "fault" "I") (List.mem_of_getElem? (i := 2) rfl)) (fun _ h9 => h9) rfl dX3_readItem_68 ?_
                refine lv_iconst (v := (-1)) hx hb dX3_readItem_71 (by decide) ?_
                refine lv_icmp_eq (tgt := 76) hx hb dX3_readItem_72 (by decide) (fun c_127 => ?_) (fun c_127 => ?_)
                · exfalso; have fc_127 : q_125.toInt = (-1) := zf_eq c_127 rfl (by decide); omega
                · have fc_127 : q_125.toInt ≠ (-1) := zf_ne c_127 rfl (by decide)
                  have e0 : slot.toNatClampNeg = slot.toInt.toNat + 0 := (by show (slot : Int32).toInt.toNat = _; omega)
                  have e1 : x_109.toNatClampNeg = slot.toInt.toNat + 1 := (by show (x_109 : Int32).toInt.toNat = _; omega)
                  have hI := zIn_b (by have z := hn0; rw [show (q_116 : Int32).toInt = -1 from by omega] at z; exact z) (by decide) hn1 (by first | (right; decide) | (left; omega))
                  exact W.vret hx hb hr (fun t ht hW => ⟨⟨(q_124, q_125, rt, ru, (upd (upd fi slot.toNatClampNeg 3) x_109.toNatClampNeg r_113)), rfl, ⟨(show 0 ≤ q_124.toInt ∧ q_124.toInt ≤ 160 from hbq_124), (show (-1) ≤ q_125.toInt ∧ q_125.toInt ≤ 160 from hbq_125), (show 0 ≤ rt.toInt ∧ rt.toInt ≤ 40 from ⟨hy9, hy10⟩), (show 0 ≤ ru.toInt ∧ ru.toInt ≤ 8 from ⟨hy11, hy12⟩), (show q_124.toInt ≤ rz.toInt from by omega), (show (q_125.toInt = -1 → zIt (upd (upd fi slot.toNatClampNeg 3) x_109.toNatClampNeg r_113) slot.toInt.toNat) from by (intro h; exfalso; omega)), (show (∀ j : Nat, j < slot.toInt.toNat → (upd (upd fi slot.toNatClampNeg 3) x_109.toNatClampNeg r_113) j = fi j) from by (intro j hj; simp only [upd]; rw [if_neg (by omega), if_neg (by omega)])), (show (q_125.toInt = (zItem fl rz.toInt rp.toInt rt.toInt ru.toInt).1 ∧ (q_125.toInt = -1 → q_124.toInt = (zItem fl rz.toInt rp.toInt rt.toInt ru.toInt).2.1 ∧ rt.toInt = (zItem fl rz.toInt rp.toInt rt.toInt ru.toInt).2.2.1 ∧ ru.toInt = (zItem fl rz.toInt rp.toInt rt.toInt ru.toInt).2.2.2)) from by (have z9 := hsr_1_1; rw [kc3] at z9; have hq : zFst fl rz.toInt rp.toInt zWds 10 = 3 ∧ ¬ ((3 : Int) = 3 ∧ ru.toInt = 8) := (by omega); have hl9 : (q_3 : Int32).toInt = rp.toInt + ((zWds ((3 : Int)).toNat).length : Nat) := (by omega); rw [zItem_w hq.1 (by decide) hq.2 hl9 hI]; dsimp only; exact ⟨by (first | rfl | omega), fun h => ⟨by (first | rfl | omega), by (show _ = (if (3 : Int) = 0 then _ else _); rw [if_neg (by decide)]), by (show _ = (if (3 : Int) = 3 then _ else _); first | (rw [if_pos rfl]; done) | (rw [if_pos rfl]; omega))⟩⟩)), (show (q_125.toInt = -1 → (((upd (upd fi slot.toNatClampNeg 3) x_109.toNatClampNeg r_113) slot.toInt.toNat).toInt = 0 → rt.toInt = ((upd (upd fi slot.toNatClampNeg 3) x_109.toNatClampNeg r_113) (slot.toInt.toNat + 1)).toInt) ∧ (((upd (upd fi slot.toNatClampNeg 3) x_109.toNatClampNeg r_113) slot.toInt.toNat).toInt ≠ 0 → rt.toInt = rt.toInt) ∧ (((upd (upd fi slot.toNatClampNeg 3) x_109.toNatClampNeg r_113) slot.toInt.toNat).toInt = 3 → ru.toInt = ru.toInt + 1) ∧ (((upd (upd fi slot.toNatClampNeg 3) x_109.toNatClampNeg r_113) slot.toInt.toNat).toInt ≠ 3 → ru.toInt = ru.toInt)) from by (intro h; exfalso; omega)), (show (q_125.toInt = -1 → zSm (zDS (upd (upd fi slot.toNatClampNeg 3) x_109.toNatClampNeg r_113) slot.toInt.toNat) (zIm fl rz.toInt rp.toInt rt.toInt)) from by (intro h; exfalso; omega)), trivial⟩, zRet ht hP hD [1, 2, 0] (by decide) rfl⟩, hS.F ht⟩) hS.2.2 dX3_readItem_75
              · have fc_126 : q_125.toInt = (-1) := zf_eq c_126 rfl (by decide)
                refine lv_aload_n hx hb dX3_readItem_42 rfl (lv_at hl 2 rfl) ?_
                refine va_get (D := D) (ci := 3) (v := .ref ri) (C := RX3) (T := TX3) (N := 8) hx hb hts hi_X3_readItem_3 hown hK hP 1 rfl rfl 0 (by decide) (hts (.fieldLink RX3 11 "TheLiningsInIt$Reader" "items" "[I") (List.mem_of_getElem? (i := 1) rfl)) (fun _ h9 => h9) rfl dX3_readItem_43 ?_
                refine lv_iload_n hx hb dX3_readItem_46 rfl (lv_at hl 3 rfl) ?_
                refine lv_iconst (v := 1) hx hb dX3_readItem_47 (by decide) ?_
                refine lv_iadd hx hb dX3_readItem_48 ?_
                refine lv_topi (fun y_128 ey_128 => ?_)
                obtain rfl : x_109 = y_128 := ex_109.trans ey_128.symm
                refine lv_iload_n hx hb dX3_readItem_49 rfl (lv_at hl 0 rfl) ?_
                refine lv_iadd hx hb dX3_readItem_50 ?_
                refine lv_topi (fun x_129 ex_129 => ?_)
                have qx_129 : x_129.toInt = x_109.toInt + 1 := by rw [ex_129]; exact zf_add rfl (by decide) (by omega) (by omega)
                refine lv_aload_n hx hb dX3_readItem_51 rfl (lv_at hl 2 rfl) ?_
                refine lv_iload_n hx hb dX3_readItem_52 rfl (lv_at hl 1 rfl) ?_
                refine lv_iload_n hx hb dX3_readItem_53 rfl (lv_at hl 0 rfl) ?_
                refine zc_S (As := [.int 3, .int 1]) (rest := [.ref rd, .int x_129, .ref ri]) ⟨hx, hb, hml, hown, hts⟩ (c_R_leastOf_3_1 l D cI cJ cZ cP cS po  ) (va_cwS 2 hts gX3_readItem_X3_leastOf rfl rfl rfl dh_X3_leastOf ⟨Nat.le_of_ble_eq_true rfl, Nat.le_of_ble_eq_true rfl⟩) hK hN (hZ.kept hS) rfl hl.1 rfl (Nat.le_of_ble_eq_true rfl) dX3_readItem_54 ⟨Nat.le_of_ble_eq_true rfl, Nat.le_of_ble_eq_true rfl⟩ (fun r_130 hr_130 => ?_)
                obtain rfl := hr_130
                refine lv_aload_n hx hb dX3_readItem_57 rfl (lv_at hl 2 rfl) ?_
                refine lv_iload_n hx hb dX3_readItem_58 rfl (lv_at hl 1 rfl) ?_
                refine lv_iload_n hx hb dX3_readItem_59 rfl (lv_at hl 0 rfl) ?_
                refine zc_V (As := [.int 3, .int 1]) (rest := [.int 0, .ref rd, .int x_129, .ref ri]) ⟨hx, hb, hml, hown, hts⟩ (c_R_mostOf_3_1 l D cI cJ cZ cP cS po rd ri rl (rz) (rc) (q_124) (q_125) (rt) (ru) hy0 hy1 hy2 hy3 hbq_124.1 hbq_124.2 (by omega) hbq_125.1 hbq_125.2 hy9 hy10 hy11 hy12) (cwV 2 hts gX3_readItem_X3_mostOf rfl rfl rfl ⟨rfl, dh_X3_mostOf⟩ ⟨Nat.le_of_ble_eq_true rfl, Nat.le_of_ble_eq_true rfl⟩) hK hN (hZ.kept hS) hP (hP.sub [1] rfl) (va_recv (q := (RX3, TX3, 8)) hK hP (ci := 3) (q0 := 1) rfl rfl) rfl hl.1 rfl (Nat.le_of_ble_eq_true rfl) dX3_readItem_60 ⟨Nat.le_of_ble_eq_true rfl, Nat.le_of_ble_eq_true rfl⟩ (fun r_131 hr_131 => ?_)
                obtain rfl := hr_131
                have kc9 : (9 : Int32).toInt = 9 := by decide
                skip
                refine zw_V (As := [.int 0, .int 9]) (rest := [.int x_129, .ref ri]) (wr := [(ri, .inl (cI, 132, .inl (upd (upd fi slot.toNatClampNeg 3) x_109.toNatClampNeg r_113)))]) ⟨hx, hb, hml, hown, hts⟩ (c_F_R_readNumber l D cI cJ cZ cP cS po rd ri rl (rz) (rc) (q_124) (q_125) (rt) (ru) fl (0) (9) hy0 hy1 hy2 hy3 hbq_124.1 hbq_124.2 (by omega) hbq_125.1 hbq_125.2 hy9 hy10 hy11 hy12 H.size) (cwV 2 hts gX3_readItem_X3_readNumber rfl rfl rfl ⟨rfl, dh_X3_readNumber⟩ ⟨Nat.le_of_ble_eq_true rfl, Nat.le_of_ble_eq_true rfl⟩) hK hN (hZ.kept hS) hP hD hS hA [1, 2] [0] rfl rfl (by decide) (by decide) (by decide) (va_recv (q := (RX3, TX3, 8)) hK hP (ci := 3) (q0 := 1) rfl rfl) rfl hl.1 rfl (Nat.le_of_ble_eq_true rfl) dX3_readItem_63 ⟨Nat.le_of_ble_eq_true rfl, Nat.le_of_ble_eq_true rfl⟩ (fun r_132 u_133 H locs hr_132 hP hD hS => ?_)
                obtain ⟨q_134, q_135⟩ := u_133
                try dsimp only at hr_132
                obtain ⟨hbq_134, hbq_135, hsr_132_0, hsr_132_1, hsr_132_2, hsr_132_3, hr_132⟩ := hr_132
                have h9R := zRe (ws' := [(ri, .inl (cI, 132, .inl (upd (upd fi slot.toNatClampNeg 3) x_109.toNatClampNeg r_113))), (rd, .inr (3, [.ref ri, .ref rl, .int rz, .int rc, .int q_134, .int q_135, .int rt, .int ru])), (rl, .inl (cI, 160, .inl fl))]) hP hD rfl
                clear hP hD
                obtain ⟨hP, hD⟩ := h9R
                obtain ⟨g_136, g_137⟩ := hr_132
                refine va_iast hx hb hK hP hD hS 0 0 rfl rfl (zf_in (by omega) (by omega)) dX3_readItem_66 (fun H locs hP hD hS => ?_)
                have h9R := zRe (ws' := [(ri, .inl (cI, 132, .inl (upd (upd (upd fi slot.toNatClampNeg 3) x_109.toNatClampNeg r_113) x_129.toNatClampNeg r_132))), (rd, .inr (3, [.ref ri, .ref rl, .int rz, .int rc, .int q_134, .int q_135, .int rt, .int ru])), (rl, .inl (cI, 160, .inl fl))]) hP hD rfl
                clear hP hD
                obtain ⟨hP, hD⟩ := h9R
                have hn1 : zN1 fl rz.toInt (q_115 : Int32).toInt (zLo 3 1) (zHi 3 1 rt.toInt) = ((q_135 : Int32).toInt, (q_134 : Int32).toInt, r_132.toInt) := zN1_yes (p1 := (q_124 : Int32).toInt) (lo2 := ((0 : Int32)).toInt) (hi2 := ((9 : Int32)).toInt) (by omega) (by omega) hsr_132_1 hsr_132_2 (by first | decide | (show (0 : Int) = _; omega)) (by first | decide | (show (9 : Int) = _; decide) | (show rt.toInt - 1 = _; omega) | (show rt.toInt = _; omega)) (by omega)
                refine lv_aload_n hx hb dX3_readItem_67 rfl (lv_at hl 2 rfl) ?_
                refine va_get (D := D) (ci := 3) (v := .int q_135) (C := RX3) (T := TX3) (N := 8) hx hb hts hi_X3_readItem_3 hown hK hP 1 rfl rfl 5 (by decide) (hts (.fieldLink RX3 28 "TheLiningsInIt$Reader" "fault" "I") (List.mem_of_getElem? (i := 2) rfl)) (fun _ h9 => h9) rfl dX3_readItem_68 ?_
                refine lv_iconst (v := (-1)) hx hb dX3_readItem_71 (by decide) ?_
                refine lv_icmp_eq (tgt := 76) hx hb dX3_readItem_72 (by decide) (fun c_138 => ?_) (fun c_138 => ?_)
                · have fc_138 : q_135.toInt = (-1) := zf_eq c_138 rfl (by decide)
                  refine lv_iinc (v := 2) (lv' := [(3, .int 2), (2, .int 3), (0, .ref rd), (1, .int slot)]) hx hb dX3_readItem_76 hl (k := 0) rfl (by decide) (by decide) rfl (fun ls hl => ?_)
                  refine lv_goto (tgt := 20) hx hb dX3_readItem_79 (by decide) ?_
                  refine lv_iload_n hx hb dX3_readItem_20 rfl (lv_at hl 0 rfl) ?_
                  refine lv_iload_n hx hb dX3_readItem_21 rfl (lv_at hl 1 rfl) ?_
                  refine zc_S (As := [.int 3]) (rest := [.int 2]) ⟨hx, hb, hml, hown, hts⟩ (c_R_numbersOf_3 l D cI cJ cZ cP cS po  ) (va_cwS 1 hts gX3_readItem_X3_numbersOf rfl rfl rfl dh_X3_numbersOf ⟨Nat.le_of_ble_eq_true rfl, Nat.le_of_ble_eq_true rfl⟩) hK hN (hZ.kept hS) rfl hl.1 rfl (Nat.le_of_ble_eq_true rfl) dX3_readItem_22 ⟨Nat.le_of_ble_eq_true rfl, Nat.le_of_ble_eq_true rfl⟩ (fun r_139 hr_139 => ?_)
                  obtain rfl := hr_139
                  refine lv_icmp_ge (tgt := 82) hx hb dX3_readItem_25 (by decide) (fun c_140 => ?_) (fun c_140 => ?_)
                  · exact absurd c_140 (by decide)
                  · refine lv_aload_n hx hb dX3_readItem_28 rfl (lv_at hl 2 rfl) ?_
                    refine lv_bipush (v := 32) hx hb dX3_readItem_29 (by decide) ?_
                    skip
                    refine zw_Vv (As := [.int 32]) (rest := []) (wr := [(ri, .inl (cI, 132, .inl (upd (upd (upd fi slot.toNatClampNeg 3) x_109.toNatClampNeg r_113) x_129.toNatClampNeg r_132)))]) ⟨hx, hb, hml, hown, hts⟩ (c_F_R_expect l D cI cJ cZ cP cS po rd ri rl (rz) (rc) (q_134) (q_135) (rt) (ru) fl (32) hy0 hy1 hy2 hy3 hbq_134.1 hbq_134.2 (by omega) hbq_135.1 hbq_135.2 hy9 hy10 hy11 hy12 H.size) (cwV 1 hts gX3_readItem_X3_expect rfl rfl rfl ⟨rfl, dh_X3_expect⟩ ⟨Nat.le_of_ble_eq_true rfl, Nat.le_of_ble_eq_true rfl⟩) hK hN (hZ.kept hS) hP hD hS hA [1, 2] [0] rfl rfl (by decide) (by decide) (by decide) (va_recv (q := (RX3, TX3, 8)) hK hP (ci := 3) (q0 := 1) rfl rfl) rfl hl.1 rfl (Nat.le_of_ble_eq_true rfl) dX3_readItem_31 ⟨Nat.le_of_ble_eq_true rfl, Nat.le_of_ble_eq_true rfl⟩ (fun u_142 H locs hr_141 hP hD hS => ?_)
                    obtain ⟨q_143, q_144⟩ := u_142
                    try dsimp only at hr_141
                    obtain ⟨hbq_143, hbq_144, hsr_141_0, hsr_141_1, hr_141⟩ := hr_141
                    have h9R := zRe (ws' := [(ri, .inl (cI, 132, .inl (upd (upd (upd fi slot.toNatClampNeg 3) x_109.toNatClampNeg r_113) x_129.toNatClampNeg r_132))), (rd, .inr (3, [.ref ri, .ref rl, .int rz, .int rc, .int q_143, .int q_144, .int rt, .int ru])), (rl, .inl (cI, 160, .inl fl))]) hP hD rfl
                    clear hP hD
                    obtain ⟨hP, hD⟩ := h9R
                    refine lv_aload_n hx hb dX3_readItem_34 rfl (lv_at hl 2 rfl) ?_
                    refine va_get (D := D) (ci := 3) (v := .int q_144) (C := RX3) (T := TX3) (N := 8) hx hb hts hi_X3_readItem_3 hown hK hP 1 rfl rfl 5 (by decide) (hts (.fieldLink RX3 28 "TheLiningsInIt$Reader" "fault" "I") (List.mem_of_getElem? (i := 2) rfl)) (fun _ h9 => h9) rfl dX3_readItem_35 ?_
                    refine lv_iconst (v := (-1)) hx hb dX3_readItem_38 (by decide) ?_
                    refine lv_icmp_ne (tgt := 67) hx hb dX3_readItem_39 (by decide) (fun c_145 => ?_) (fun c_145 => ?_)
                    · have fc_145 : q_144.toInt ≠ (-1) := zf_ne c_145 rfl (by decide)
                      have hn2 : zN1 fl rz.toInt (q_134 : Int32).toInt (zLo 3 2) (zHi 3 2 rt.toInt) = ((q_134 : Int32).toInt, (q_134 : Int32).toInt, 0) := zN1_no (by omega)
                      refine lv_aload_n hx hb dX3_readItem_67 rfl (lv_at hl 2 rfl) ?_
                      refine va_get (D := D) (ci := 3) (v := .int q_144) (C := RX3) (T := TX3) (N := 8) hx hb hts hi_X3_readItem_3 hown hK hP 1 rfl rfl 5 (by decide) (hts (.fieldLink RX3 28 "TheLiningsInIt$Reader" "fault" "I") (List.mem_of_getElem? (i := 2) rfl)) (fun _ h9 => h9) rfl dX3_readItem_68 ?_
                      refine lv_iconst (v := (-1)) hx hb dX3_readItem_71 (by decide) ?_
                      refine lv_icmp_eq (tgt := 76) hx hb dX3_readItem_72 (by decide) (fun c_146 => ?_) (fun c_146 => ?_)
                      · exfalso; have fc_146 : q_144.toInt = (-1) := zf_eq c_146 rfl (by decide); omega
                      · have fc_146 : q_144.toInt ≠ (-1) := zf_ne c_146 rfl (by decide)
                        have e0 : slot.toNatClampNeg = slot.toInt.toNat + 0 := (by show (slot : Int32).toInt.toNat = _; omega)
                        have e1 : x_109.toNatClampNeg = slot.toInt.toNat + 1 := (by show (x_109 : Int32).toInt.toNat = _; omega)
                        have e2 : x_129.toNatClampNeg = slot.toInt.toNat + 2 := (by show (x_129 : Int32).toInt.toNat = _; omega)
                        have hI := zIn_c (by have z := hn0; rw [show (q_116 : Int32).toInt = -1 from by omega] at z; exact z) (by decide) (by have z := hn1; rw [show (q_135 : Int32).toInt = -1 from by omega] at z; exact z) (by decide) hn2
                        exact W.vret hx hb hr (fun t ht hW => ⟨⟨(q_143, q_144, rt, ru, (upd (upd (upd fi slot.toNatClampNeg 3) x_109.toNatClampNeg r_113) x_129.toNatClampNeg r_132)), rfl, ⟨(show 0 ≤ q_143.toInt ∧ q_143.toInt ≤ 160 from hbq_143), (show (-1) ≤ q_144.toInt ∧ q_144.toInt ≤ 160 from hbq_144), (show 0 ≤ rt.toInt ∧ rt.toInt ≤ 40 from ⟨hy9, hy10⟩), (show 0 ≤ ru.toInt ∧ ru.toInt ≤ 8 from ⟨hy11, hy12⟩), (show q_143.toInt ≤ rz.toInt from by omega), (show (q_144.toInt = -1 → zIt (upd (upd (upd fi slot.toNatClampNeg 3) x_109.toNatClampNeg r_113) x_129.toNatClampNeg r_132) slot.toInt.toNat) from by (intro h; exfalso; omega)), (show (∀ j : Nat, j < slot.toInt.toNat → (upd (upd (upd fi slot.toNatClampNeg 3) x_109.toNatClampNeg r_113) x_129.toNatClampNeg r_132) j = fi j) from by (intro j hj; simp only [upd]; rw [if_neg (by omega), if_neg (by omega), if_neg (by omega)])), (show (q_144.toInt = (zItem fl rz.toInt rp.toInt rt.toInt ru.toInt).1 ∧ (q_144.toInt = -1 → q_143.toInt = (zItem fl rz.toInt rp.toInt rt.toInt ru.toInt).2.1 ∧ rt.toInt = (zItem fl rz.toInt rp.toInt rt.toInt ru.toInt).2.2.1 ∧ ru.toInt = (zItem fl rz.toInt rp.toInt rt.toInt ru.toInt).2.2.2)) from by (have z9 := hsr_1_1; rw [kc3] at z9; have hq : zFst fl rz.toInt rp.toInt zWds 10 = 3 ∧ ¬ ((3 : Int) = 3 ∧ ru.toInt = 8) := (by omega); have hl9 : (q_3 : Int32).toInt = rp.toInt + ((zWds ((3 : Int)).toNat).length : Nat) := (by omega); rw [zItem_w hq.1 (by decide) hq.2 hl9 hI]; dsimp only; exact ⟨by (first | rfl | omega), fun h => ⟨by (first | rfl | omega), by (show _ = (if (3 : Int) = 0 then _ else _); rw [if_neg (by decide)]), by (show _ = (if (3 : Int) = 3 then _ else _); first | (rw [if_pos rfl]; done) | (rw [if_pos rfl]; omega))⟩⟩)), (show (q_144.toInt = -1 → (((upd (upd (upd fi slot.toNatClampNeg 3) x_109.toNatClampNeg r_113) x_129.toNatClampNeg r_132) slot.toInt.toNat).toInt = 0 → rt.toInt = ((upd (upd (upd fi slot.toNatClampNeg 3) x_109.toNatClampNeg r_113) x_129.toNatClampNeg r_132) (slot.toInt.toNat + 1)).toInt) ∧ (((upd (upd (upd fi slot.toNatClampNeg 3) x_109.toNatClampNeg r_113) x_129.toNatClampNeg r_132) slot.toInt.toNat).toInt ≠ 0 → rt.toInt = rt.toInt) ∧ (((upd (upd (upd fi slot.toNatClampNeg 3) x_109.toNatClampNeg r_113) x_129.toNatClampNeg r_132) slot.toInt.toNat).toInt = 3 → ru.toInt = ru.toInt + 1) ∧ (((upd (upd (upd fi slot.toNatClampNeg 3) x_109.toNatClampNeg r_113) x_129.toNatClampNeg r_132) slot.toInt.toNat).toInt ≠ 3 → ru.toInt = ru.toInt)) from by (intro h; exfalso; omega)), (show (q_144.toInt = -1 → zSm (zDS (upd (upd (upd fi slot.toNatClampNeg 3) x_109.toNatClampNeg r_113) x_129.toNatClampNeg r_132) slot.toInt.toNat) (zIm fl rz.toInt rp.toInt rt.toInt)) from by (intro h; exfalso; omega)), trivial⟩, zRet ht hP hD [1, 2, 0] (by decide) rfl⟩, hS.F ht⟩) hS.2.2 dX3_readItem_75
                    · have fc_145 : q_144.toInt = (-1) := zf_eq c_145 rfl (by decide)
                      refine lv_aload_n hx hb dX3_readItem_42 rfl (lv_at hl 2 rfl) ?_
                      refine va_get (D := D) (ci := 3) (v := .ref ri) (C := RX3) (T := TX3) (N := 8) hx hb hts hi_X3_readItem_3 hown hK hP 1 rfl rfl 0 (by decide) (hts (.fieldLink RX3 11 "TheLiningsInIt$Reader" "items" "[I") (List.mem_of_getElem? (i := 1) rfl)) (fun _ h9 => h9) rfl dX3_readItem_43 ?_
                      refine lv_iload_n hx hb dX3_readItem_46 rfl (lv_at hl 3 rfl) ?_
                      refine lv_iconst (v := 1) hx hb dX3_readItem_47 (by decide) ?_
                      refine lv_iadd hx hb dX3_readItem_48 ?_
                      refine lv_topi (fun y_147 ey_147 => ?_)
                      obtain rfl : x_109 = y_147 := ex_109.trans ey_147.symm
                      refine lv_iload_n hx hb dX3_readItem_49 rfl (lv_at hl 0 rfl) ?_
                      refine lv_iadd hx hb dX3_readItem_50 ?_
                      refine lv_topi (fun x_148 ex_148 => ?_)
                      have qx_148 : x_148.toInt = x_109.toInt + 2 := by rw [ex_148]; exact zf_add rfl (by decide) (by omega) (by omega)
                      refine lv_aload_n hx hb dX3_readItem_51 rfl (lv_at hl 2 rfl) ?_
                      refine lv_iload_n hx hb dX3_readItem_52 rfl (lv_at hl 1 rfl) ?_
                      refine lv_iload_n hx hb dX3_readItem_53 rfl (lv_at hl 0 rfl) ?_
                      refine zc_S (As := [.int 3, .int 2]) (rest := [.ref rd, .int x_148, .ref ri]) ⟨hx, hb, hml, hown, hts⟩ (c_R_leastOf_3_2 l D cI cJ cZ cP cS po  ) (va_cwS 2 hts gX3_readItem_X3_leastOf rfl rfl rfl dh_X3_leastOf ⟨Nat.le_of_ble_eq_true rfl, Nat.le_of_ble_eq_true rfl⟩) hK hN (hZ.kept hS) rfl hl.1 rfl (Nat.le_of_ble_eq_true rfl) dX3_readItem_54 ⟨Nat.le_of_ble_eq_true rfl, Nat.le_of_ble_eq_true rfl⟩ (fun r_149 hr_149 => ?_)
                      obtain rfl := hr_149
                      refine lv_aload_n hx hb dX3_readItem_57 rfl (lv_at hl 2 rfl) ?_
                      refine lv_iload_n hx hb dX3_readItem_58 rfl (lv_at hl 1 rfl) ?_
                      refine lv_iload_n hx hb dX3_readItem_59 rfl (lv_at hl 0 rfl) ?_
                      refine zc_V (As := [.int 3, .int 2]) (rest := [.int 1, .ref rd, .int x_148, .ref ri]) ⟨hx, hb, hml, hown, hts⟩ (c_R_mostOf_3_2 l D cI cJ cZ cP cS po rd ri rl (rz) (rc) (q_143) (q_144) (rt) (ru) hy0 hy1 hy2 hy3 hbq_143.1 hbq_143.2 (by omega) hbq_144.1 hbq_144.2 hy9 hy10 hy11 hy12) (cwV 2 hts gX3_readItem_X3_mostOf rfl rfl rfl ⟨rfl, dh_X3_mostOf⟩ ⟨Nat.le_of_ble_eq_true rfl, Nat.le_of_ble_eq_true rfl⟩) hK hN (hZ.kept hS) hP (hP.sub [1] rfl) (va_recv (q := (RX3, TX3, 8)) hK hP (ci := 3) (q0 := 1) rfl rfl) rfl hl.1 rfl (Nat.le_of_ble_eq_true rfl) dX3_readItem_60 ⟨Nat.le_of_ble_eq_true rfl, Nat.le_of_ble_eq_true rfl⟩ (fun r_150 hr_150 => ?_)
                      obtain rfl := hr_150
                      have kc1 : (1 : Int32).toInt = 1 := by decide
                      have kc60 : (60 : Int32).toInt = 60 := by decide
                      skip
                      refine zw_V (As := [.int 1, .int 60]) (rest := [.int x_148, .ref ri]) (wr := [(ri, .inl (cI, 132, .inl (upd (upd (upd fi slot.toNatClampNeg 3) x_109.toNatClampNeg r_113) x_129.toNatClampNeg r_132)))]) ⟨hx, hb, hml, hown, hts⟩ (c_F_R_readNumber l D cI cJ cZ cP cS po rd ri rl (rz) (rc) (q_143) (q_144) (rt) (ru) fl (1) (60) hy0 hy1 hy2 hy3 hbq_143.1 hbq_143.2 (by omega) hbq_144.1 hbq_144.2 hy9 hy10 hy11 hy12 H.size) (cwV 2 hts gX3_readItem_X3_readNumber rfl rfl rfl ⟨rfl, dh_X3_readNumber⟩ ⟨Nat.le_of_ble_eq_true rfl, Nat.le_of_ble_eq_true rfl⟩) hK hN (hZ.kept hS) hP hD hS hA [1, 2] [0] rfl rfl (by decide) (by decide) (by decide) (va_recv (q := (RX3, TX3, 8)) hK hP (ci := 3) (q0 := 1) rfl rfl) rfl hl.1 rfl (Nat.le_of_ble_eq_true rfl) dX3_readItem_63 ⟨Nat.le_of_ble_eq_true rfl, Nat.le_of_ble_eq_true rfl⟩ (fun r_151 u_152 H locs hr_151 hP hD hS => ?_)
                      obtain ⟨q_153, q_154⟩ := u_152
                      try dsimp only at hr_151
                      obtain ⟨hbq_153, hbq_154, hsr_151_0, hsr_151_1, hsr_151_2, hsr_151_3, hr_151⟩ := hr_151
                      have h9R := zRe (ws' := [(ri, .inl (cI, 132, .inl (upd (upd (upd fi slot.toNatClampNeg 3) x_109.toNatClampNeg r_113) x_129.toNatClampNeg r_132))), (rd, .inr (3, [.ref ri, .ref rl, .int rz, .int rc, .int q_153, .int q_154, .int rt, .int ru])), (rl, .inl (cI, 160, .inl fl))]) hP hD rfl
                      clear hP hD
                      obtain ⟨hP, hD⟩ := h9R
                      obtain ⟨g_155, g_156⟩ := hr_151
                      refine va_iast hx hb hK hP hD hS 0 0 rfl rfl (zf_in (by omega) (by omega)) dX3_readItem_66 (fun H locs hP hD hS => ?_)
                      have h9R := zRe (ws' := [(ri, .inl (cI, 132, .inl (upd (upd (upd (upd fi slot.toNatClampNeg 3) x_109.toNatClampNeg r_113) x_129.toNatClampNeg r_132) x_148.toNatClampNeg r_151))), (rd, .inr (3, [.ref ri, .ref rl, .int rz, .int rc, .int q_153, .int q_154, .int rt, .int ru])), (rl, .inl (cI, 160, .inl fl))]) hP hD rfl
                      clear hP hD
                      obtain ⟨hP, hD⟩ := h9R
                      have hn2 : zN1 fl rz.toInt (q_134 : Int32).toInt (zLo 3 2) (zHi 3 2 rt.toInt) = ((q_154 : Int32).toInt, (q_153 : Int32).toInt, r_151.toInt) := zN1_yes (p1 := (q_143 : Int32).toInt) (lo2 := ((1 : Int32)).toInt) (hi2 := ((60 : Int32)).toInt) (by omega) (by omega) hsr_151_1 hsr_151_2 (by first | decide | (show (0 : Int) = _; omega)) (by first | decide | (show (60 : Int) = _; decide) | (show rt.toInt - 1 = _; omega) | (show rt.toInt = _; omega)) (by omega)
                      refine lv_aload_n hx hb dX3_readItem_67 rfl (lv_at hl 2 rfl) ?_
                      refine va_get (D := D) (ci := 3) (v := .int q_154) (C := RX3) (T := TX3) (N := 8) hx hb hts hi_X3_readItem_3 hown hK hP 1 rfl rfl 5 (by decide) (hts (.fieldLink RX3 28 "TheLiningsInIt$Reader" "fault" "I") (List.mem_of_getElem? (i := 2) rfl)) (fun _ h9 => h9) rfl dX3_readItem_68 ?_
                      refine lv_iconst (v := (-1)) hx hb dX3_readItem_71 (by decide) ?_
                      refine lv_icmp_eq (tgt := 76) hx hb dX3_readItem_72 (by decide) (fun c_157 => ?_) (fun c_157 => ?_)
                      · have fc_157 : q_154.toInt = (-1) := zf_eq c_157 rfl (by decide)
                        refine lv_iinc (v := 3) (lv' := [(3, .int 3), (2, .int 3), (0, .ref rd), (1, .int slot)]) hx hb dX3_readItem_76 hl (k := 0) rfl (by decide) (by decide) rfl (fun ls hl => ?_)
                        refine lv_goto (tgt := 20) hx hb dX3_readItem_79 (by decide) ?_
                        refine lv_iload_n hx hb dX3_readItem_20 rfl (lv_at hl 0 rfl) ?_
                        refine lv_iload_n hx hb dX3_readItem_21 rfl (lv_at hl 1 rfl) ?_
                        refine zc_S (As := [.int 3]) (rest := [.int 3]) ⟨hx, hb, hml, hown, hts⟩ (c_R_numbersOf_3 l D cI cJ cZ cP cS po  ) (va_cwS 1 hts gX3_readItem_X3_numbersOf rfl rfl rfl dh_X3_numbersOf ⟨Nat.le_of_ble_eq_true rfl, Nat.le_of_ble_eq_true rfl⟩) hK hN (hZ.kept hS) rfl hl.1 rfl (Nat.le_of_ble_eq_true rfl) dX3_readItem_22 ⟨Nat.le_of_ble_eq_true rfl, Nat.le_of_ble_eq_true rfl⟩ (fun r_158 hr_158 => ?_)
                        obtain rfl := hr_158
                        refine lv_icmp_ge (tgt := 82) hx hb dX3_readItem_25 (by decide) (fun c_159 => ?_) (fun c_159 => ?_)
                        · refine lv_iload_n hx hb dX3_readItem_82 rfl (lv_at hl 1 rfl) ?_
                          refine lv_if_ne (tgt := 101) hx hb dX3_readItem_83 (by decide) (fun c_160 => ?_) (fun c_160 => ?_)
                          · refine lv_iload_n hx hb dX3_readItem_101 rfl (lv_at hl 1 rfl) ?_
                            refine lv_iconst (v := 3) hx hb dX3_readItem_102 (by decide) ?_
                            refine lv_icmp_ne (tgt := 116) hx hb dX3_readItem_103 (by decide) (fun c_161 => ?_) (fun c_161 => ?_)
                            · exact absurd c_161 (by decide)
                            · refine lv_aload_n hx hb dX3_readItem_106 rfl (lv_at hl 2 rfl) ?_
                              refine lv_dup hx hb dX3_readItem_107 rfl ?_
                              refine va_get (D := D) (ci := 3) (v := .int ru) (C := RX3) (T := TX3) (N := 8) hx hb hts hi_X3_readItem_3 hown hK hP 1 rfl rfl 7 (by decide) (hts (.fieldLink RX3 34 "TheLiningsInIt$Reader" "pulls" "I") (List.mem_of_getElem? (i := 4) rfl)) (fun _ h9 => h9) rfl dX3_readItem_108 ?_
                              refine lv_iconst (v := 1) hx hb dX3_readItem_111 (by decide) ?_
                              refine lv_iadd hx hb dX3_readItem_112 ?_
                              refine lv_topi (fun x_162 ex_162 => ?_)
                              have qx_162 : x_162.toInt = ru.toInt + 1 := by rw [ex_162]; exact zf_add rfl (by decide) (by omega) (by omega)
                              refine va_put (D := D) (ci := 3) (v := .int x_162) (ty := .int) (C := RX3) (T := TX3) (N := 8) hx hb hts hi_X3_readItem_3 tyX3 tyX3_ok nmX3 hown hK hP hD hS 1 rfl rfl 7 (by decide) (hts (.fieldLink RX3 34 "TheLiningsInIt$Reader" "pulls" "I") (List.mem_of_getElem? (i := 4) rfl)) (fun _ h9 => h9) rfl (tyX3_ok 7 (Nat.le_of_ble_eq_true rfl)) rfl rfl (Nat.le_of_ble_eq_true rfl) dX3_readItem_113 (fun H locs hP hD hS => ?_)
                              have h9R := zRe (ws' := [(ri, .inl (cI, 132, .inl (upd (upd (upd (upd fi slot.toNatClampNeg 3) x_109.toNatClampNeg r_113) x_129.toNatClampNeg r_132) x_148.toNatClampNeg r_151))), (rd, .inr (3, [.ref ri, .ref rl, .int rz, .int rc, .int q_153, .int q_154, .int rt, .int x_162])), (rl, .inl (cI, 160, .inl fl))]) hP hD rfl
                              clear hP hD
                              obtain ⟨hP, hD⟩ := h9R
                              have e0 : slot.toNatClampNeg = slot.toInt.toNat + 0 := (by show (slot : Int32).toInt.toNat = _; omega)
                              have e1 : x_109.toNatClampNeg = slot.toInt.toNat + 1 := (by show (x_109 : Int32).toInt.toNat = _; omega)
                              have e2 : x_129.toNatClampNeg = slot.toInt.toNat + 2 := (by show (x_129 : Int32).toInt.toNat = _; omega)
                              have e3 : x_148.toNatClampNeg = slot.toInt.toNat + 3 := (by show (x_148 : Int32).toInt.toNat = _; omega)
                              have hI := zIn_c (by have z := hn0; rw [show (q_116 : Int32).toInt = -1 from by omega] at z; exact z) (by decide) (by have z := hn1; rw [show (q_135 : Int32).toInt = -1 from by omega] at z; exact z) (by decide) hn2
                              exact W.vret hx hb hr (fun t ht hW => ⟨⟨(q_153, q_154, rt, x_162, (upd (upd (upd (upd fi slot.toNatClampNeg 3) x_109.toNatClampNeg r_113) x_129.toNatClampNeg r_132) x_148.toNatClampNeg r_151)), rfl, ⟨(show 0 ≤ q_153.toInt ∧ q_153.toInt ≤ 160 from hbq_153), (show (-1) ≤ q_154.toInt ∧ q_154.toInt ≤ 160 from hbq_154), (show 0 ≤ rt.toInt ∧ rt.toInt ≤ 40 from ⟨hy9, hy10⟩), (show 0 ≤ x_162.toInt ∧ x_162.toInt ≤ 8 from ⟨by omega, by omega⟩), (show q_153.toInt ≤ rz.toInt from by omega), (show (q_154.toInt = -1 → zIt (upd (upd (upd (upd fi slot.toNatClampNeg 3) x_109.toNatClampNeg r_113) x_129.toNatClampNeg r_132) x_148.toNatClampNeg r_151) slot.toInt.toNat) from by (intro h; have k5 : (3 : Int32).toInt = 3 := (by decide); exact zIt_mk (by simp only [upd]; rw [if_neg (by omega), if_neg (by omega), if_neg (by omega), if_pos (by omega)]) (by simp only [upd]; rw [if_neg (by omega), if_neg (by omega), if_pos (by omega)]) (by simp only [upd]; rw [if_neg (by omega), if_pos (by omega)]) (by simp only [upd]; rw [if_pos (by omega)]) (by unfold zItv; refine ⟨?_, ?_, ?_, ?_, ?_, ?_, ?_, ?_, ?_, ?_, ?_⟩ <;> (intros; omega)))), (show (∀ j : Nat, j < slot.toInt.toNat → (upd (upd (upd (upd fi slot.toNatClampNeg 3) x_109.toNatClampNeg r_113) x_129.toNatClampNeg r_132) x_148.toNatClampNeg r_151) j = fi j) from by (intro j hj; simp only [upd]; rw [if_neg (by omega), if_neg (by omega), if_neg (by omega), if_neg (by omega)])), (show (q_154.toInt = (zItem fl rz.toInt rp.toInt rt.toInt ru.toInt).1 ∧ (q_154.toInt = -1 → q_153.toInt = (zItem fl rz.toInt rp.toInt rt.toInt ru.toInt).2.1 ∧ rt.toInt = (zItem fl rz.toInt rp.toInt rt.toInt ru.toInt).2.2.1 ∧ x_162.toInt = (zItem fl rz.toInt rp.toInt rt.toInt ru.toInt).2.2.2)) from by (have z9 := hsr_1_1; rw [kc3] at z9; have hq : zFst fl rz.toInt rp.toInt zWds 10 = 3 ∧ ¬ ((3 : Int) = 3 ∧ ru.toInt = 8) := (by omega); have hl9 : (q_3 : Int32).toInt = rp.toInt + ((zWds ((3 : Int)).toNat).length : Nat) := (by omega); rw [zItem_w hq.1 (by decide) hq.2 hl9 hI]; dsimp only; exact ⟨by (first | rfl | omega), fun h => ⟨by (first | rfl | omega), by (show _ = (if (3 : Int) = 0 then _ else _); rw [if_neg (by decide)]), by (show _ = (if (3 : Int) = 3 then _ else _); first | (rw [if_pos rfl]; done) | (rw [if_pos rfl]; omega))⟩⟩)), (show (q_154.toInt = -1 → (((upd (upd (upd (upd fi slot.toNatClampNeg 3) x_109.toNatClampNeg r_113) x_129.toNatClampNeg r_132) x_148.toNatClampNeg r_151) slot.toInt.toNat).toInt = 0 → rt.toInt = ((upd (upd (upd (upd fi slot.toNatClampNeg 3) x_109.toNatClampNeg r_113) x_129.toNatClampNeg r_132) x_148.toNatClampNeg r_151) (slot.toInt.toNat + 1)).toInt) ∧ (((upd (upd (upd (upd fi slot.toNatClampNeg 3) x_109.toNatClampNeg r_113) x_129.toNatClampNeg r_132) x_148.toNatClampNeg r_151) slot.toInt.toNat).toInt ≠ 0 → rt.toInt = rt.toInt) ∧ (((upd (upd (upd (upd fi slot.toNatClampNeg 3) x_109.toNatClampNeg r_113) x_129.toNatClampNeg r_132) x_148.toNatClampNeg r_151) slot.toInt.toNat).toInt = 3 → x_162.toInt = ru.toInt + 1) ∧ (((upd (upd (upd (upd fi slot.toNatClampNeg 3) x_109.toNatClampNeg r_113) x_129.toNatClampNeg r_132) x_148.toNatClampNeg r_151) slot.toInt.toNat).toInt ≠ 3 → x_162.toInt = ru.toInt)) from by (intro h; have g0 : (upd (upd (upd (upd fi slot.toNatClampNeg 3) x_109.toNatClampNeg r_113) x_129.toNatClampNeg r_132) x_148.toNatClampNeg r_151) slot.toInt.toNat = (3 : Int32) := (by simp only [upd]; rw [if_neg (by omega), if_neg (by omega), if_neg (by omega), if_pos (by omega)]); have g1 : (upd (upd (upd (upd fi slot.toNatClampNeg 3) x_109.toNatClampNeg r_113) x_129.toNatClampNeg r_132) x_148.toNatClampNeg r_151) (slot.toInt.toNat + 1) = (r_113 : Int32) := (by simp only [upd]; rw [if_neg (by omega), if_neg (by omega), if_pos (by omega)]); rw [g0, g1]; refine ⟨?_, ?_, ?_, ?_⟩ <;> (intro h9; first | rfl | omega | (exfalso; omega)))), (show (q_154.toInt = -1 → zSm (zDS (upd (upd (upd (upd fi slot.toNatClampNeg 3) x_109.toNatClampNeg r_113) x_129.toNatClampNeg r_132) x_148.toNatClampNeg r_151) slot.toInt.toNat) (zIm fl rz.toInt rp.toInt rt.toInt)) from by (intro h; have g0 : (upd (upd (upd (upd fi slot.toNatClampNeg 3) x_109.toNatClampNeg r_113) x_129.toNatClampNeg r_132) x_148.toNatClampNeg r_151) (slot.toInt.toNat + 0) = (3 : Int32) := (by simp only [upd]; rw [if_neg (by omega), if_neg (by omega), if_neg (by omega), if_pos (by omega)]); have g1 : (upd (upd (upd (upd fi slot.toNatClampNeg 3) x_109.toNatClampNeg r_113) x_129.toNatClampNeg r_132) x_148.toNatClampNeg r_151) (slot.toInt.toNat + 1) = (r_113 : Int32) := (by simp only [upd]; rw [if_neg (by omega), if_neg (by omega), if_pos (by omega)]); have g2 : (upd (upd (upd (upd fi slot.toNatClampNeg 3) x_109.toNatClampNeg r_113) x_129.toNatClampNeg r_132) x_148.toNatClampNeg r_151) (slot.toInt.toNat + 2) = (r_132 : Int32) := (by simp only [upd]; rw [if_neg (by omega), if_pos (by omega)]); have g3 : (upd (upd (upd (upd fi slot.toNatClampNeg 3) x_109.toNatClampNeg r_113) x_129.toNatClampNeg r_132) x_148.toNatClampNeg r_151) (slot.toInt.toNat + 3) = (r_151 : Int32) := (by simp only [upd]; rw [if_pos (by omega)]); have z9 := hsr_1_1; rw [kc3] at z9; have hW : zIW fl rz.toInt rp.toInt = 3 := (by unfold zIW; omega); have hP9 : zIP fl rz.toInt rp.toInt = (q_3 : Int32).toInt := (by unfold zIP; rw [hW]; have hl9 : (q_3 : Int32).toInt = rp.toInt + ((zWds ((3 : Int)).toNat).length : Nat) := (by omega); exact hl9.symm); exact ⟨(show ((upd (upd (upd (upd fi slot.toNatClampNeg 3) x_109.toNatClampNeg r_113) x_129.toNatClampNeg r_132) x_148.toNatClampNeg r_151) (slot.toInt.toNat + 0)).toInt = zIW fl rz.toInt rp.toInt from by (rw [g0, hW]; omega)), (show ((upd (upd (upd (upd fi slot.toNatClampNeg 3) x_109.toNatClampNeg r_113) x_129.toNatClampNeg r_132) x_148.toNatClampNeg r_151) (slot.toInt.toNat + 1)).toInt = (zIn fl rz.toInt (zIP fl rz.toInt rp.toInt) rt.toInt (zIW fl rz.toInt rp.toInt)).2.2 from by (rw [g1, hP9, hW, hI])), fun hz => (show ((upd (upd (upd (upd fi slot.toNatClampNeg 3) x_109.toNatClampNeg r_113) x_129.toNatClampNeg r_132) x_148.toNatClampNeg r_151) (slot.toInt.toNat + 2)).toInt = zV2 fl rz.toInt (zIP fl rz.toInt rp.toInt) rt.toInt (zIW fl rz.toInt rp.toInt) from by (rw [g2, hP9, hW]; exact (zV2_eq hn0 hn1).symm)), fun hz => (show ((upd (upd (upd (upd fi slot.toNatClampNeg 3) x_109.toNatClampNeg r_113) x_129.toNatClampNeg r_132) x_148.toNatClampNeg r_151) (slot.toInt.toNat + 3)).toInt = zV3 fl rz.toInt (zIP fl rz.toInt rp.toInt) rt.toInt (zIW fl rz.toInt rp.toInt) from by (rw [g3, hP9, hW]; exact (zV3_eq hn0 hn1 hn2).symm))⟩)), trivial⟩, zRet ht hP hD [1, 2, 0] (by decide) rfl⟩, hS.F ht⟩) hS.2.2 dX3_readItem_116
                          · exact absurd c_160 (by decide)
                        · exact absurd c_159 (by decide)
                      · have fc_157 : q_154.toInt ≠ (-1) := zf_ne c_157 rfl (by decide)
                        have e0 : slot.toNatClampNeg = slot.toInt.toNat + 0 := (by show (slot : Int32).toInt.toNat = _; omega)
                        have e1 : x_109.toNatClampNeg = slot.toInt.toNat + 1 := (by show (x_109 : Int32).toInt.toNat = _; omega)
                        have e2 : x_129.toNatClampNeg = slot.toInt.toNat + 2 := (by show (x_129 : Int32).toInt.toNat = _; omega)
                        have e3 : x_148.toNatClampNeg = slot.toInt.toNat + 3 := (by show (x_148 : Int32).toInt.toNat = _; omega)
                        have hI := zIn_c (by have z := hn0; rw [show (q_116 : Int32).toInt = -1 from by omega] at z; exact z) (by decide) (by have z := hn1; rw [show (q_135 : Int32).toInt = -1 from by omega] at z; exact z) (by decide) hn2
                        exact W.vret hx hb hr (fun t ht hW => ⟨⟨(q_153, q_154, rt, ru, (upd (upd (upd (upd fi slot.toNatClampNeg 3) x_109.toNatClampNeg r_113) x_129.toNatClampNeg r_132) x_148.toNatClampNeg r_151)), rfl, ⟨(show 0 ≤ q_153.toInt ∧ q_153.toInt ≤ 160 from hbq_153), (show (-1) ≤ q_154.toInt ∧ q_154.toInt ≤ 160 from hbq_154), (show 0 ≤ rt.toInt ∧ rt.toInt ≤ 40 from ⟨hy9, hy10⟩), (show 0 ≤ ru.toInt ∧ ru.toInt ≤ 8 from ⟨hy11, hy12⟩), (show q_153.toInt ≤ rz.toInt from by omega), (show (q_154.toInt = -1 → zIt (upd (upd (upd (upd fi slot.toNatClampNeg 3) x_109.toNatClampNeg r_113) x_129.toNatClampNeg r_132) x_148.toNatClampNeg r_151) slot.toInt.toNat) from by (intro h; exfalso; omega)), (show (∀ j : Nat, j < slot.toInt.toNat → (upd (upd (upd (upd fi slot.toNatClampNeg 3) x_109.toNatClampNeg r_113) x_129.toNatClampNeg r_132) x_148.toNatClampNeg r_151) j = fi j) from by (intro j hj; simp only [upd]; rw [if_neg (by omega), if_neg (by omega), if_neg (by omega), if_neg (by omega)])), (show (q_154.toInt = (zItem fl rz.toInt rp.toInt rt.toInt ru.toInt).1 ∧ (q_154.toInt = -1 → q_153.toInt = (zItem fl rz.toInt rp.toInt rt.toInt ru.toInt).2.1 ∧ rt.toInt = (zItem fl rz.toInt rp.toInt rt.toInt ru.toInt).2.2.1 ∧ ru.toInt = (zItem fl rz.toInt rp.toInt rt.toInt ru.toInt).2.2.2)) from by (have z9 := hsr_1_1; rw [kc3] at z9; have hq : zFst fl rz.toInt rp.toInt zWds 10 = 3 ∧ ¬ ((3 : Int) = 3 ∧ ru.toInt = 8) := (by omega); have hl9 : (q_3 : Int32).toInt = rp.toInt + ((zWds ((3 : Int)).toNat).length : Nat) := (by omega); rw [zItem_w hq.1 (by decide) hq.2 hl9 hI]; dsimp only; exact ⟨by (first | rfl | omega), fun h => ⟨by (first | rfl | omega), by (show _ = (if (3 : Int) = 0 then _ else _); rw [if_neg (by decide)]), by (show _ = (if (3 : Int) = 3 then _ else _); first | (rw [if_pos rfl]; done) | (rw [if_pos rfl]; omega))⟩⟩)), (show (q_154.toInt = -1 → (((upd (upd (upd (upd fi slot.toNatClampNeg 3) x_109.toNatClampNeg r_113) x_129.toNatClampNeg r_132) x_148.toNatClampNeg r_151) slot.toInt.toNat).toInt = 0 → rt.toInt = ((upd (upd (upd (upd fi slot.toNatClampNeg 3) x_109.toNatClampNeg r_113) x_129.toNatClampNeg r_132) x_148.toNatClampNeg r_151) (slot.toInt.toNat + 1)).toInt) ∧ (((upd (upd (upd (upd fi slot.toNatClampNeg 3) x_109.toNatClampNeg r_113) x_129.toNatClampNeg r_132) x_148.toNatClampNeg r_151) slot.toInt.toNat).toInt ≠ 0 → rt.toInt = rt.toInt) ∧ (((upd (upd (upd (upd fi slot.toNatClampNeg 3) x_109.toNatClampNeg r_113) x_129.toNatClampNeg r_132) x_148.toNatClampNeg r_151) slot.toInt.toNat).toInt = 3 → ru.toInt = ru.toInt + 1) ∧ (((upd (upd (upd (upd fi slot.toNatClampNeg 3) x_109.toNatClampNeg r_113) x_129.toNatClampNeg r_132) x_148.toNatClampNeg r_151) slot.toInt.toNat).toInt ≠ 3 → ru.toInt = ru.toInt)) from by (intro h; exfalso; omega)), (show (q_154.toInt = -1 → zSm (zDS (upd (upd (upd (upd fi slot.toNatClampNeg 3) x_109.toNatClampNeg r_113) x_129.toNatClampNeg r_132) x_148.toNatClampNeg r_151) slot.toInt.toNat) (zIm fl rz.toInt rp.toInt rt.toInt)) from by (intro h; exfalso; omega)), trivial⟩, zRet ht hP hD [1, 2, 0] (by decide) rfl⟩, hS.F ht⟩) hS.2.2 dX3_readItem_75
                · have fc_138 : q_135.toInt ≠ (-1) := zf_ne c_138 rfl (by decide)
                  have e0 : slot.toNatClampNeg = slot.toInt.toNat + 0 := (by show (slot : Int32).toInt.toNat = _; omega)
                  have e1 : x_109.toNatClampNeg = slot.toInt.toNat + 1 := (by show (x_109 : Int32).toInt.toNat = _; omega)
                  have e2 : x_129.toNatClampNeg = slot.toInt.toNat + 2 := (by show (x_129 : Int32).toInt.toNat = _; omega)
                  have hI := zIn_b (by have z := hn0; rw [show (q_116 : Int32).toInt = -1 from by omega] at z; exact z) (by decide) hn1 (by first | (right; decide) | (left; omega))
                  exact W.vret hx hb hr (fun t ht hW => ⟨⟨(q_134, q_135, rt, ru, (upd (upd (upd fi slot.toNatClampNeg 3) x_109.toNatClampNeg r_113) x_129.toNatClampNeg r_132)), rfl, ⟨(show 0 ≤ q_134.toInt ∧ q_134.toInt ≤ 160 from hbq_134), (show (-1) ≤ q_135.toInt ∧ q_135.toInt ≤ 160 from hbq_135), (show 0 ≤ rt.toInt ∧ rt.toInt ≤ 40 from ⟨hy9, hy10⟩), (show 0 ≤ ru.toInt ∧ ru.toInt ≤ 8 from ⟨hy11, hy12⟩), (show q_134.toInt ≤ rz.toInt from by omega), (show (q_135.toInt = -1 → zIt (upd (upd (upd fi slot.toNatClampNeg 3) x_109.toNatClampNeg r_113) x_129.toNatClampNeg r_132) slot.toInt.toNat) from by (intro h; exfalso; omega)), (show (∀ j : Nat, j < slot.toInt.toNat → (upd (upd (upd fi slot.toNatClampNeg 3) x_109.toNatClampNeg r_113) x_129.toNatClampNeg r_132) j = fi j) from by (intro j hj; simp only [upd]; rw [if_neg (by omega), if_neg (by omega), if_neg (by omega)])), (show (q_135.toInt = (zItem fl rz.toInt rp.toInt rt.toInt ru.toInt).1 ∧ (q_135.toInt = -1 → q_134.toInt = (zItem fl rz.toInt rp.toInt rt.toInt ru.toInt).2.1 ∧ rt.toInt = (zItem fl rz.toInt rp.toInt rt.toInt ru.toInt).2.2.1 ∧ ru.toInt = (zItem fl rz.toInt rp.toInt rt.toInt ru.toInt).2.2.2)) from by (have z9 := hsr_1_1; rw [kc3] at z9; have hq : zFst fl rz.toInt rp.toInt zWds 10 = 3 ∧ ¬ ((3 : Int) = 3 ∧ ru.toInt = 8) := (by omega); have hl9 : (q_3 : Int32).toInt = rp.toInt + ((zWds ((3 : Int)).toNat).length : Nat) := (by omega); rw [zItem_w hq.1 (by decide) hq.2 hl9 hI]; dsimp only; exact ⟨by (first | rfl | omega), fun h => ⟨by (first | rfl | omega), by (show _ = (if (3 : Int) = 0 then _ else _); rw [if_neg (by decide)]), by (show _ = (if (3 : Int) = 3 then _ else _); first | (rw [if_pos rfl]; done) | (rw [if_pos rfl]; omega))⟩⟩)), (show (q_135.toInt = -1 → (((upd (upd (upd fi slot.toNatClampNeg 3) x_109.toNatClampNeg r_113) x_129.toNatClampNeg r_132) slot.toInt.toNat).toInt = 0 → rt.toInt = ((upd (upd (upd fi slot.toNatClampNeg 3) x_109.toNatClampNeg r_113) x_129.toNatClampNeg r_132) (slot.toInt.toNat + 1)).toInt) ∧ (((upd (upd (upd fi slot.toNatClampNeg 3) x_109.toNatClampNeg r_113) x_129.toNatClampNeg r_132) slot.toInt.toNat).toInt ≠ 0 → rt.toInt = rt.toInt) ∧ (((upd (upd (upd fi slot.toNatClampNeg 3) x_109.toNatClampNeg r_113) x_129.toNatClampNeg r_132) slot.toInt.toNat).toInt = 3 → ru.toInt = ru.toInt + 1) ∧ (((upd (upd (upd fi slot.toNatClampNeg 3) x_109.toNatClampNeg r_113) x_129.toNatClampNeg r_132) slot.toInt.toNat).toInt ≠ 3 → ru.toInt = ru.toInt)) from by (intro h; exfalso; omega)), (show (q_135.toInt = -1 → zSm (zDS (upd (upd (upd fi slot.toNatClampNeg 3) x_109.toNatClampNeg r_113) x_129.toNatClampNeg r_132) slot.toInt.toNat) (zIm fl rz.toInt rp.toInt rt.toInt)) from by (intro h; exfalso; omega)), trivial⟩, zRet ht hP hD [1, 2, 0] (by decide) rfl⟩, hS.F ht⟩) hS.2.2 dX3_readItem_75
          · have fc_119 : q_116.toInt ≠ (-1) := zf_ne c_119 rfl (by decide)
            have e0 : slot.toNatClampNeg = slot.toInt.toNat + 0 := (by show (slot : Int32).toInt.toNat = _; omega)
            have e1 : x_109.toNatClampNeg = slot.toInt.toNat + 1 := (by show (x_109 : Int32).toInt.toNat = _; omega)
            have hI := zIn_a hn0 (by first | (right; decide) | (left; omega))
            exact W.vret hx hb hr (fun t ht hW => ⟨⟨(q_115, q_116, rt, ru, (upd (upd fi slot.toNatClampNeg 3) x_109.toNatClampNeg r_113)), rfl, ⟨(show 0 ≤ q_115.toInt ∧ q_115.toInt ≤ 160 from hbq_115), (show (-1) ≤ q_116.toInt ∧ q_116.toInt ≤ 160 from hbq_116), (show 0 ≤ rt.toInt ∧ rt.toInt ≤ 40 from ⟨hy9, hy10⟩), (show 0 ≤ ru.toInt ∧ ru.toInt ≤ 8 from ⟨hy11, hy12⟩), (show q_115.toInt ≤ rz.toInt from by omega), (show (q_116.toInt = -1 → zIt (upd (upd fi slot.toNatClampNeg 3) x_109.toNatClampNeg r_113) slot.toInt.toNat) from by (intro h; exfalso; omega)), (show (∀ j : Nat, j < slot.toInt.toNat → (upd (upd fi slot.toNatClampNeg 3) x_109.toNatClampNeg r_113) j = fi j) from by (intro j hj; simp only [upd]; rw [if_neg (by omega), if_neg (by omega)])), (show (q_116.toInt = (zItem fl rz.toInt rp.toInt rt.toInt ru.toInt).1 ∧ (q_116.toInt = -1 → q_115.toInt = (zItem fl rz.toInt rp.toInt rt.toInt ru.toInt).2.1 ∧ rt.toInt = (zItem fl rz.toInt rp.toInt rt.toInt ru.toInt).2.2.1 ∧ ru.toInt = (zItem fl rz.toInt rp.toInt rt.toInt ru.toInt).2.2.2)) from by (have z9 := hsr_1_1; rw [kc3] at z9; have hq : zFst fl rz.toInt rp.toInt zWds 10 = 3 ∧ ¬ ((3 : Int) = 3 ∧ ru.toInt = 8) := (by omega); have hl9 : (q_3 : Int32).toInt = rp.toInt + ((zWds ((3 : Int)).toNat).length : Nat) := (by omega); rw [zItem_w hq.1 (by decide) hq.2 hl9 hI]; dsimp only; exact ⟨by (first | rfl | omega), fun h => ⟨by (first | rfl | omega), by (show _ = (if (3 : Int) = 0 then _ else _); rw [if_neg (by decide)]), by (show _ = (if (3 : Int) = 3 then _ else _); first | (rw [if_pos rfl]; done) | (rw [if_pos rfl]; omega))⟩⟩)), (show (q_116.toInt = -1 → (((upd (upd fi slot.toNatClampNeg 3) x_109.toNatClampNeg r_113) slot.toInt.toNat).toInt = 0 → rt.toInt = ((upd (upd fi slot.toNatClampNeg 3) x_109.toNatClampNeg r_113) (slot.toInt.toNat + 1)).toInt) ∧ (((upd (upd fi slot.toNatClampNeg 3) x_109.toNatClampNeg r_113) slot.toInt.toNat).toInt ≠ 0 → rt.toInt = rt.toInt) ∧ (((upd (upd fi slot.toNatClampNeg 3) x_109.toNatClampNeg r_113) slot.toInt.toNat).toInt = 3 → ru.toInt = ru.toInt + 1) ∧ (((upd (upd fi slot.toNatClampNeg 3) x_109.toNatClampNeg r_113) slot.toInt.toNat).toInt ≠ 3 → ru.toInt = ru.toInt)) from by (intro h; exfalso; omega)), (show (q_116.toInt = -1 → zSm (zDS (upd (upd fi slot.toNatClampNeg 3) x_109.toNatClampNeg r_113) slot.toInt.toNat) (zIm fl rz.toInt rp.toInt rt.toInt)) from by (intro h; exfalso; omega)), trivial⟩, zRet ht hP hD [1, 2, 0] (by decide) rfl⟩, hS.F ht⟩) hS.2.2 dX3_readItem_75
    · have kc4 : (4 : Int32).toInt = 4 := by decide
      refine lv_aload_n hx hb dX3_readItem_11 rfl (lv_at hl 1 rfl) ?_
      refine va_get (D := D) (ci := 3) (v := .ref ri) (C := RX3) (T := TX3) (N := 8) hx hb hts hi_X3_readItem_3 hown hK hP 1 rfl rfl 0 (by decide) (hts (.fieldLink RX3 11 "TheLiningsInIt$Reader" "items" "[I") (List.mem_of_getElem? (i := 1) rfl)) (fun _ h9 => h9) rfl dX3_readItem_12 ?_
      refine lv_iload_n hx hb dX3_readItem_15 rfl (lv_at hl 2 rfl) ?_
      refine lv_iload_n hx hb dX3_readItem_16 rfl (lv_at hl 0 rfl) ?_
      refine va_iast hx hb hK hP hD hS 0 0 rfl rfl (zf_in (by omega) (by omega)) dX3_readItem_17 (fun H locs hP hD hS => ?_)
      have h9R := zRe (ws' := [(ri, .inl (cI, 132, .inl (upd fi slot.toNatClampNeg 4))), (rd, .inr (3, [.ref ri, .ref rl, .int rz, .int rc, .int q_3, .int q_4, .int rt, .int ru])), (rl, .inl (cI, 160, .inl fl))]) hP hD rfl
      clear hP hD
      obtain ⟨hP, hD⟩ := h9R
      refine lv_iconst (v := 0) hx hb dX3_readItem_18 (by decide) ?_
      refine lv_istore_n (lv' := [(3, .int 0), (2, .int 4), (0, .ref rd), (1, .int slot)]) hx hb dX3_readItem_19 rfl hl (by decide) rfl (fun ls hl => ?_)
      refine lv_iload_n hx hb dX3_readItem_20 rfl (lv_at hl 0 rfl) ?_
      refine lv_iload_n hx hb dX3_readItem_21 rfl (lv_at hl 1 rfl) ?_
      refine zc_S (As := [.int 4]) (rest := [.int 0]) ⟨hx, hb, hml, hown, hts⟩ (c_R_numbersOf_4 l D cI cJ cZ cP cS po  ) (va_cwS 1 hts gX3_readItem_X3_numbersOf rfl rfl rfl dh_X3_numbersOf ⟨Nat.le_of_ble_eq_true rfl, Nat.le_of_ble_eq_true rfl⟩) hK hN (hZ.kept hS) rfl hl.1 rfl (Nat.le_of_ble_eq_true rfl) dX3_readItem_22 ⟨Nat.le_of_ble_eq_true rfl, Nat.le_of_ble_eq_true rfl⟩ (fun r_163 hr_163 => ?_)
      obtain rfl := hr_163
      refine lv_icmp_ge (tgt := 82) hx hb dX3_readItem_25 (by decide) (fun c_164 => ?_) (fun c_164 => ?_)
      · exact absurd c_164 (by decide)
      · refine lv_aload_n hx hb dX3_readItem_28 rfl (lv_at hl 2 rfl) ?_
        refine lv_bipush (v := 32) hx hb dX3_readItem_29 (by decide) ?_
        have kc32 : (32 : Int32).toInt = 32 := by decide
        skip
        refine zw_Vv (As := [.int 32]) (rest := []) (wr := [(ri, .inl (cI, 132, .inl (upd fi slot.toNatClampNeg 4)))]) ⟨hx, hb, hml, hown, hts⟩ (c_F_R_expect l D cI cJ cZ cP cS po rd ri rl (rz) (rc) (q_3) (q_4) (rt) (ru) fl (32) hy0 hy1 hy2 hy3 hbq_3.1 hbq_3.2 (by omega) hbq_4.1 hbq_4.2 hy9 hy10 hy11 hy12 H.size) (cwV 1 hts gX3_readItem_X3_expect rfl rfl rfl ⟨rfl, dh_X3_expect⟩ ⟨Nat.le_of_ble_eq_true rfl, Nat.le_of_ble_eq_true rfl⟩) hK hN (hZ.kept hS) hP hD hS hA [1, 2] [0] rfl rfl (by decide) (by decide) (by decide) (va_recv (q := (RX3, TX3, 8)) hK hP (ci := 3) (q0 := 1) rfl rfl) rfl hl.1 rfl (Nat.le_of_ble_eq_true rfl) dX3_readItem_31 ⟨Nat.le_of_ble_eq_true rfl, Nat.le_of_ble_eq_true rfl⟩ (fun u_166 H locs hr_165 hP hD hS => ?_)
        obtain ⟨q_167, q_168⟩ := u_166
        try dsimp only at hr_165
        obtain ⟨hbq_167, hbq_168, hsr_165_0, hsr_165_1, hr_165⟩ := hr_165
        have h9R := zRe (ws' := [(ri, .inl (cI, 132, .inl (upd fi slot.toNatClampNeg 4))), (rd, .inr (3, [.ref ri, .ref rl, .int rz, .int rc, .int q_167, .int q_168, .int rt, .int ru])), (rl, .inl (cI, 160, .inl fl))]) hP hD rfl
        clear hP hD
        obtain ⟨hP, hD⟩ := h9R
        refine lv_aload_n hx hb dX3_readItem_34 rfl (lv_at hl 2 rfl) ?_
        refine va_get (D := D) (ci := 3) (v := .int q_168) (C := RX3) (T := TX3) (N := 8) hx hb hts hi_X3_readItem_3 hown hK hP 1 rfl rfl 5 (by decide) (hts (.fieldLink RX3 28 "TheLiningsInIt$Reader" "fault" "I") (List.mem_of_getElem? (i := 2) rfl)) (fun _ h9 => h9) rfl dX3_readItem_35 ?_
        refine lv_iconst (v := (-1)) hx hb dX3_readItem_38 (by decide) ?_
        refine lv_icmp_ne (tgt := 67) hx hb dX3_readItem_39 (by decide) (fun c_169 => ?_) (fun c_169 => ?_)
        · have fc_169 : q_168.toInt ≠ (-1) := zf_ne c_169 rfl (by decide)
          have hn0 : zN1 fl rz.toInt (q_3 : Int32).toInt (zLo 4 0) (zHi 4 0 rt.toInt) = ((q_3 : Int32).toInt, (q_3 : Int32).toInt, 0) := zN1_no (by omega)
          refine lv_aload_n hx hb dX3_readItem_67 rfl (lv_at hl 2 rfl) ?_
          refine va_get (D := D) (ci := 3) (v := .int q_168) (C := RX3) (T := TX3) (N := 8) hx hb hts hi_X3_readItem_3 hown hK hP 1 rfl rfl 5 (by decide) (hts (.fieldLink RX3 28 "TheLiningsInIt$Reader" "fault" "I") (List.mem_of_getElem? (i := 2) rfl)) (fun _ h9 => h9) rfl dX3_readItem_68 ?_
          refine lv_iconst (v := (-1)) hx hb dX3_readItem_71 (by decide) ?_
          refine lv_icmp_eq (tgt := 76) hx hb dX3_readItem_72 (by decide) (fun c_170 => ?_) (fun c_170 => ?_)
          · exfalso; have fc_170 : q_168.toInt = (-1) := zf_eq c_170 rfl (by decide); omega
          · have fc_170 : q_168.toInt ≠ (-1) := zf_ne c_170 rfl (by decide)
            have e0 : slot.toNatClampNeg = slot.toInt.toNat + 0 := (by show (slot : Int32).toInt.toNat = _; omega)
            have hI := zIn_a hn0 (by first | (right; decide) | (left; omega))
            exact W.vret hx hb hr (fun t ht hW => ⟨⟨(q_167, q_168, rt, ru, (upd fi slot.toNatClampNeg 4)), rfl, ⟨(show 0 ≤ q_167.toInt ∧ q_167.toInt ≤ 160 from hbq_167), (show (-1) ≤ q_168.toInt ∧ q_168.toInt ≤ 160 from hbq_168), (show 0 ≤ rt.toInt ∧ rt.toInt ≤ 40 from ⟨hy9, hy10⟩), (show 0 ≤ ru.toInt ∧ ru.toInt ≤ 8 from ⟨hy11, hy12⟩), (show q_167.toInt ≤ rz.toInt from by omega), (show (q_168.toInt = -1 → zIt (upd fi slot.toNatClampNeg 4) slot.toInt.toNat) from by (intro h; exfalso; omega)), (show (∀ j : Nat, j < slot.toInt.toNat → (upd fi slot.toNatClampNeg 4) j = fi j) from by (intro j hj; simp only [upd]; rw [if_neg (by omega)])), (show (q_168.toInt = (zItem fl rz.toInt rp.toInt rt.toInt ru.toInt).1 ∧ (q_168.toInt = -1 → q_167.toInt = (zItem fl rz.toInt rp.toInt rt.toInt ru.toInt).2.1 ∧ rt.toInt = (zItem fl rz.toInt rp.toInt rt.toInt ru.toInt).2.2.1 ∧ ru.toInt = (zItem fl rz.toInt rp.toInt rt.toInt ru.toInt).2.2.2)) from by (have z9 := hsr_1_1; rw [kc4] at z9; have hq : zFst fl rz.toInt rp.toInt zWds 10 = 4 ∧ ¬ ((4 : Int) = 3 ∧ ru.toInt = 8) := (by omega); have hl9 : (q_3 : Int32).toInt = rp.toInt + ((zWds ((4 : Int)).toNat).length : Nat) := (by omega); rw [zItem_w hq.1 (by decide) hq.2 hl9 hI]; dsimp only; exact ⟨by (first | rfl | omega), fun h => ⟨by (first | rfl | omega), by (show _ = (if (4 : Int) = 0 then _ else _); rw [if_neg (by decide)]), by (show _ = (if (4 : Int) = 3 then _ else _); rw [if_neg (by decide)])⟩⟩)), (show (q_168.toInt = -1 → (((upd fi slot.toNatClampNeg 4) slot.toInt.toNat).toInt = 0 → rt.toInt = ((upd fi slot.toNatClampNeg 4) (slot.toInt.toNat + 1)).toInt) ∧ (((upd fi slot.toNatClampNeg 4) slot.toInt.toNat).toInt ≠ 0 → rt.toInt = rt.toInt) ∧ (((upd fi slot.toNatClampNeg 4) slot.toInt.toNat).toInt = 3 → ru.toInt = ru.toInt + 1) ∧ (((upd fi slot.toNatClampNeg 4) slot.toInt.toNat).toInt ≠ 3 → ru.toInt = ru.toInt)) from by (intro h; exfalso; omega)), (show (q_168.toInt = -1 → zSm (zDS (upd fi slot.toNatClampNeg 4) slot.toInt.toNat) (zIm fl rz.toInt rp.toInt rt.toInt)) from by (intro h; exfalso; omega)), trivial⟩, zRet ht hP hD [1, 2, 0] (by decide) rfl⟩, hS.F ht⟩) hS.2.2 dX3_readItem_75
        · have fc_169 : q_168.toInt = (-1) := zf_eq c_169 rfl (by decide)
          refine lv_aload_n hx hb dX3_readItem_42 rfl (lv_at hl 2 rfl) ?_
          refine va_get (D := D) (ci := 3) (v := .ref ri) (C := RX3) (T := TX3) (N := 8) hx hb hts hi_X3_readItem_3 hown hK hP 1 rfl rfl 0 (by decide) (hts (.fieldLink RX3 11 "TheLiningsInIt$Reader" "items" "[I") (List.mem_of_getElem? (i := 1) rfl)) (fun _ h9 => h9) rfl dX3_readItem_43 ?_
          refine lv_iload_n hx hb dX3_readItem_46 rfl (lv_at hl 3 rfl) ?_
          refine lv_iconst (v := 1) hx hb dX3_readItem_47 (by decide) ?_
          refine lv_iadd hx hb dX3_readItem_48 ?_
          refine lv_topi (fun x_171 ex_171 => ?_)
          have qx_171 : x_171.toInt = slot.toInt + 1 := by rw [ex_171]; exact zf_add rfl (by decide) (by omega) (by omega)
          refine lv_iload_n hx hb dX3_readItem_49 rfl (lv_at hl 0 rfl) ?_
          refine lv_iadd hx hb dX3_readItem_50 ?_
          refine lv_topi (fun y_172 ey_172 => ?_)
          obtain rfl : x_171 = y_172 := (ey_172.trans (Int32.add_zero x_171)).symm
          refine lv_aload_n hx hb dX3_readItem_51 rfl (lv_at hl 2 rfl) ?_
          refine lv_iload_n hx hb dX3_readItem_52 rfl (lv_at hl 1 rfl) ?_
          refine lv_iload_n hx hb dX3_readItem_53 rfl (lv_at hl 0 rfl) ?_
          refine zc_S (As := [.int 4, .int 0]) (rest := [.ref rd, .int x_171, .ref ri]) ⟨hx, hb, hml, hown, hts⟩ (c_R_leastOf_4_0 l D cI cJ cZ cP cS po  ) (va_cwS 2 hts gX3_readItem_X3_leastOf rfl rfl rfl dh_X3_leastOf ⟨Nat.le_of_ble_eq_true rfl, Nat.le_of_ble_eq_true rfl⟩) hK hN (hZ.kept hS) rfl hl.1 rfl (Nat.le_of_ble_eq_true rfl) dX3_readItem_54 ⟨Nat.le_of_ble_eq_true rfl, Nat.le_of_ble_eq_true rfl⟩ (fun r_173 hr_173 => ?_)
          obtain rfl := hr_173
          refine lv_aload_n hx hb dX3_readItem_57 rfl (lv_at hl 2 rfl) ?_
          refine lv_iload_n hx hb dX3_readItem_58 rfl (lv_at hl 1 rfl) ?_
          refine lv_iload_n hx hb dX3_readItem_59 rfl (lv_at hl 0 rfl) ?_
          refine zc_V (As := [.int 4, .int 0]) (rest := [.int 0, .ref rd, .int x_171, .ref ri]) ⟨hx, hb, hml, hown, hts⟩ (c_R_mostOf_4_0 l D cI cJ cZ cP cS po rd ri rl (rz) (rc) (q_167) (q_168) (rt) (ru) hy0 hy1 hy2 hy3 hbq_167.1 hbq_167.2 (by omega) hbq_168.1 hbq_168.2 hy9 hy10 hy11 hy12) (cwV 2 hts gX3_readItem_X3_mostOf rfl rfl rfl ⟨rfl, dh_X3_mostOf⟩ ⟨Nat.le_of_ble_eq_true rfl, Nat.le_of_ble_eq_true rfl⟩) hK hN (hZ.kept hS) hP (hP.sub [1] rfl) (va_recv (q := (RX3, TX3, 8)) hK hP (ci := 3) (q0 := 1) rfl rfl) rfl hl.1 rfl (Nat.le_of_ble_eq_true rfl) dX3_readItem_60 ⟨Nat.le_of_ble_eq_true rfl, Nat.le_of_ble_eq_true rfl⟩ (fun r_174 hr_174 => ?_)
          obtain rfl := hr_174
          have kc0 : (0 : Int32).toInt = 0 := by decide
          have kc24 : (24 : Int32).toInt = 24 := by decide
          skip
          refine zw_V (As := [.int 0, .int 24]) (rest := [.int x_171, .ref ri]) (wr := [(ri, .inl (cI, 132, .inl (upd fi slot.toNatClampNeg 4)))]) ⟨hx, hb, hml, hown, hts⟩ (c_F_R_readNumber l D cI cJ cZ cP cS po rd ri rl (rz) (rc) (q_167) (q_168) (rt) (ru) fl (0) (24) hy0 hy1 hy2 hy3 hbq_167.1 hbq_167.2 (by omega) hbq_168.1 hbq_168.2 hy9 hy10 hy11 hy12 H.size) (cwV 2 hts gX3_readItem_X3_readNumber rfl rfl rfl ⟨rfl, dh_X3_readNumber⟩ ⟨Nat.le_of_ble_eq_true rfl, Nat.le_of_ble_eq_true rfl⟩) hK hN (hZ.kept hS) hP hD hS hA [1, 2] [0] rfl rfl (by decide) (by decide) (by decide) (va_recv (q := (RX3, TX3, 8)) hK hP (ci := 3) (q0 := 1) rfl rfl) rfl hl.1 rfl (Nat.le_of_ble_eq_true rfl) dX3_readItem_63 ⟨Nat.le_of_ble_eq_true rfl, Nat.le_of_ble_eq_true rfl⟩ (fun r_175 u_176 H locs hr_175 hP hD hS => ?_)
          obtain ⟨q_177, q_178⟩ := u_176
          try dsimp only at hr_175
          obtain ⟨hbq_177, hbq_178, hsr_175_0, hsr_175_1, hsr_175_2, hsr_175_3, hr_175⟩ := hr_175
          have h9R := zRe (ws' := [(ri, .inl (cI, 132, .inl (upd fi slot.toNatClampNeg 4))), (rd, .inr (3, [.ref ri, .ref rl, .int rz, .int rc, .int q_177, .int q_178, .int rt, .int ru])), (rl, .inl (cI, 160, .inl fl))]) hP hD rfl
          clear hP hD
          obtain ⟨hP, hD⟩ := h9R
          obtain ⟨g_179, g_180⟩ := hr_175
          refine va_iast hx hb hK hP hD hS 0 0 rfl rfl (zf_in (by omega) (by omega)) dX3_readItem_66 (fun H locs hP hD hS => ?_)
          have h9R := zRe (ws' := [(ri, .inl (cI, 132, .inl (upd (upd fi slot.toNatClampNeg 4) x_171.toNatClampNeg r_175))), (rd, .inr (3, [.ref ri, .ref rl, .int rz, .int rc, .int q_177, .int q_178, .int rt, .int ru])), (rl, .inl (cI, 160, .inl fl))]) hP hD rfl
          clear hP hD
          obtain ⟨hP, hD⟩ := h9R
          have hn0 : zN1 fl rz.toInt (q_3 : Int32).toInt (zLo 4 0) (zHi 4 0 rt.toInt) = ((q_178 : Int32).toInt, (q_177 : Int32).toInt, r_175.toInt) := zN1_yes (p1 := (q_167 : Int32).toInt) (lo2 := ((0 : Int32)).toInt) (hi2 := ((24 : Int32)).toInt) (by omega) (by omega) hsr_175_1 hsr_175_2 (by first | decide | (show (0 : Int) = _; omega)) (by first | decide | (show (24 : Int) = _; decide) | (show rt.toInt - 1 = _; omega) | (show rt.toInt = _; omega)) (by omega)
          refine lv_aload_n hx hb dX3_readItem_67 rfl (lv_at hl 2 rfl) ?_
          refine va_get (D := D) (ci := 3) (v := .int q_178) (C := RX3) (T := TX3) (N := 8) hx hb hts hi_X3_readItem_3 hown hK hP 1 rfl rfl 5 (by decide) (hts (.fieldLink RX3 28 "TheLiningsInIt$Reader" "fault" "I") (List.mem_of_getElem? (i := 2) rfl)) (fun _ h9 => h9) rfl dX3_readItem_68 ?_
          refine lv_iconst (v := (-1)) hx hb dX3_readItem_71 (by decide) ?_
          refine lv_icmp_eq (tgt := 76) hx hb dX3_readItem_72 (by decide) (fun c_181 => ?_) (fun c_181 => ?_)
          · have fc_181 : q_178.toInt = (-1) := zf_eq c_181 rfl (by decide)
            refine lv_iinc (v := 1) (lv' := [(3, .int 1), (2, .int 4), (0, .ref rd), (1, .int slot)]) hx hb dX3_readItem_76 hl (k := 0) rfl (by decide) (by decide) rfl (fun ls hl => ?_)
            refine lv_goto (tgt := 20) hx hb dX3_readItem_79 (by decide) ?_
            refine lv_iload_n hx hb dX3_readItem_20 rfl (lv_at hl 0 rfl) ?_
            refine lv_iload_n hx hb dX3_readItem_21 rfl (lv_at hl 1 rfl) ?_
            refine zc_S (As := [.int 4]) (rest := [.int 1]) ⟨hx, hb, hml, hown, hts⟩ (c_R_numbersOf_4 l D cI cJ cZ cP cS po  ) (va_cwS 1 hts gX3_readItem_X3_numbersOf rfl rfl rfl dh_X3_numbersOf ⟨Nat.le_of_ble_eq_true rfl, Nat.le_of_ble_eq_true rfl⟩) hK hN (hZ.kept hS) rfl hl.1 rfl (Nat.le_of_ble_eq_true rfl) dX3_readItem_22 ⟨Nat.le_of_ble_eq_true rfl, Nat.le_of_ble_eq_true rfl⟩ (fun r_182 hr_182 => ?_)
            obtain rfl := hr_182
            refine lv_icmp_ge (tgt := 82) hx hb dX3_readItem_25 (by decide) (fun c_183 => ?_) (fun c_183 => ?_)
            · refine lv_iload_n hx hb dX3_readItem_82 rfl (lv_at hl 1 rfl) ?_
              refine lv_if_ne (tgt := 101) hx hb dX3_readItem_83 (by decide) (fun c_184 => ?_) (fun c_184 => ?_)
              · refine lv_iload_n hx hb dX3_readItem_101 rfl (lv_at hl 1 rfl) ?_
                refine lv_iconst (v := 3) hx hb dX3_readItem_102 (by decide) ?_
                refine lv_icmp_ne (tgt := 116) hx hb dX3_readItem_103 (by decide) (fun c_185 => ?_) (fun c_185 => ?_)
                · have e0 : slot.toNatClampNeg = slot.toInt.toNat + 0 := (by show (slot : Int32).toInt.toNat = _; omega)
                  have e1 : x_171.toNatClampNeg = slot.toInt.toNat + 1 := (by show (x_171 : Int32).toInt.toNat = _; omega)
                  have hI := zIn_a hn0 (by first | (right; decide) | (left; omega))
                  exact W.vret hx hb hr (fun t ht hW => ⟨⟨(q_177, q_178, rt, ru, (upd (upd fi slot.toNatClampNeg 4) x_171.toNatClampNeg r_175)), rfl, ⟨(show 0 ≤ q_177.toInt ∧ q_177.toInt ≤ 160 from hbq_177), (show (-1) ≤ q_178.toInt ∧ q_178.toInt ≤ 160 from hbq_178), (show 0 ≤ rt.toInt ∧ rt.toInt ≤ 40 from ⟨hy9, hy10⟩), (show 0 ≤ ru.toInt ∧ ru.toInt ≤ 8 from ⟨hy11, hy12⟩), (show q_177.toInt ≤ rz.toInt from by omega), (show (q_178.toInt = -1 → zIt (upd (upd fi slot.toNatClampNeg 4) x_171.toNatClampNeg r_175) slot.toInt.toNat) from by (intro h; have k3 : (4 : Int32).toInt = 4 := (by decide); exact zIt_mk (by simp only [upd]; rw [if_neg (by omega), if_pos (by omega)]) (by simp only [upd]; rw [if_pos (by omega)]) (rfl) (rfl) (by unfold zItv; refine ⟨?_, ?_, ?_, ?_, ?_, ?_, ?_, ?_, ?_, ?_, ?_⟩ <;> (intros; omega)))), (show (∀ j : Nat, j < slot.toInt.toNat → (upd (upd fi slot.toNatClampNeg 4) x_171.toNatClampNeg r_175) j = fi j) from by (intro j hj; simp only [upd]; rw [if_neg (by omega), if_neg (by omega)])), (show (q_178.toInt = (zItem fl rz.toInt rp.toInt rt.toInt ru.toInt).1 ∧ (q_178.toInt = -1 → q_177.toInt = (zItem fl rz.toInt rp.toInt rt.toInt ru.toInt).2.1 ∧ rt.toInt = (zItem fl rz.toInt rp.toInt rt.toInt ru.toInt).2.2.1 ∧ ru.toInt = (zItem fl rz.toInt rp.toInt rt.toInt ru.toInt).2.2.2)) from by (have z9 := hsr_1_1; rw [kc4] at z9; have hq : zFst fl rz.toInt rp.toInt zWds 10 = 4 ∧ ¬ ((4 : Int) = 3 ∧ ru.toInt = 8) := (by omega); have hl9 : (q_3 : Int32).toInt = rp.toInt + ((zWds ((4 : Int)).toNat).length : Nat) := (by omega); rw [zItem_w hq.1 (by decide) hq.2 hl9 hI]; dsimp only; exact ⟨by (first | rfl | omega), fun h => ⟨by (first | rfl | omega), by (show _ = (if (4 : Int) = 0 then _ else _); rw [if_neg (by decide)]), by (show _ = (if (4 : Int) = 3 then _ else _); rw [if_neg (by decide)])⟩⟩)), (show (q_178.toInt = -1 → (((upd (upd fi slot.toNatClampNeg 4) x_171.toNatClampNeg r_175) slot.toInt.toNat).toInt = 0 → rt.toInt = ((upd (upd fi slot.toNatClampNeg 4) x_171.toNatClampNeg r_175) (slot.toInt.toNat + 1)).toInt) ∧ (((upd (upd fi slot.toNatClampNeg 4) x_171.toNatClampNeg r_175) slot.toInt.toNat).toInt ≠ 0 → rt.toInt = rt.toInt) ∧ (((upd (upd fi slot.toNatClampNeg 4) x_171.toNatClampNeg r_175) slot.toInt.toNat).toInt = 3 → ru.toInt = ru.toInt + 1) ∧ (((upd (upd fi slot.toNatClampNeg 4) x_171.toNatClampNeg r_175) slot.toInt.toNat).toInt ≠ 3 → ru.toInt = ru.toInt)) from by (intro h; have g0 : (upd (upd fi slot.toNatClampNeg 4) x_171.toNatClampNeg r_175) slot.toInt.toNat = (4 : Int32) := (by simp only [upd]; rw [if_neg (by omega), if_pos (by omega)]); have g1 : (upd (upd fi slot.toNatClampNeg 4) x_171.toNatClampNeg r_175) (slot.toInt.toNat + 1) = (r_175 : Int32) := (by simp only [upd]; rw [if_pos (by omega)]); rw [g0, g1]; refine ⟨?_, ?_, ?_, ?_⟩ <;> (intro h9; first | rfl | omega | (exfalso; omega)))), (show (q_178.toInt = -1 → zSm (zDS (upd (upd fi slot.toNatClampNeg 4) x_171.toNatClampNeg r_175) slot.toInt.toNat) (zIm fl rz.toInt rp.toInt rt.toInt)) from by (intro h; have g0 : (upd (upd fi slot.toNatClampNeg 4) x_171.toNatClampNeg r_175) (slot.toInt.toNat + 0) = (4 : Int32) := (by simp only [upd]; rw [if_neg (by omega), if_pos (by omega)]); have g1 : (upd (upd fi slot.toNatClampNeg 4) x_171.toNatClampNeg r_175) (slot.toInt.toNat + 1) = (r_175 : Int32) := (by simp only [upd]; rw [if_pos (by omega)]); have z9 := hsr_1_1; rw [kc4] at z9; have hW : zIW fl rz.toInt rp.toInt = 4 := (by unfold zIW; omega); have hP9 : zIP fl rz.toInt rp.toInt = (q_3 : Int32).toInt := (by unfold zIP; rw [hW]; have hl9 : (q_3 : Int32).toInt = rp.toInt + ((zWds ((4 : Int)).toNat).length : Nat) := (by omega); exact hl9.symm); exact ⟨(show ((upd (upd fi slot.toNatClampNeg 4) x_171.toNatClampNeg r_175) (slot.toInt.toNat + 0)).toInt = zIW fl rz.toInt rp.toInt from by (rw [g0, hW]; omega)), (show ((upd (upd fi slot.toNatClampNeg 4) x_171.toNatClampNeg r_175) (slot.toInt.toNat + 1)).toInt = (zIn fl rz.toInt (zIP fl rz.toInt rp.toInt) rt.toInt (zIW fl rz.toInt rp.toInt)).2.2 from by (rw [g1, hP9, hW, hI])), fun hz => absurd (show ((upd (upd fi slot.toNatClampNeg 4) x_171.toNatClampNeg r_175) (slot.toInt.toNat + 0)).toInt = 2 ∨ ((upd (upd fi slot.toNatClampNeg 4) x_171.toNatClampNeg r_175) (slot.toInt.toNat + 0)).toInt = 3 ∨ ((upd (upd fi slot.toNatClampNeg 4) x_171.toNatClampNeg r_175) (slot.toInt.toNat + 0)).toInt = 8 from hz) (by rw [g0]; omega), fun hz => absurd (show ((upd (upd fi slot.toNatClampNeg 4) x_171.toNatClampNeg r_175) (slot.toInt.toNat + 0)).toInt = 3 from hz) (by rw [g0]; omega)⟩)), trivial⟩, zRet ht hP hD [1, 2, 0] (by decide) rfl⟩, hS.F ht⟩) hS.2.2 dX3_readItem_116
                · exact absurd c_185 (by decide)
              · exact absurd c_184 (by decide)
            · exact absurd c_183 (by decide)
          · have fc_181 : q_178.toInt ≠ (-1) := zf_ne c_181 rfl (by decide)
            have e0 : slot.toNatClampNeg = slot.toInt.toNat + 0 := (by show (slot : Int32).toInt.toNat = _; omega)
            have e1 : x_171.toNatClampNeg = slot.toInt.toNat + 1 := (by show (x_171 : Int32).toInt.toNat = _; omega)
            have hI := zIn_a hn0 (by first | (right; decide) | (left; omega))
            exact W.vret hx hb hr (fun t ht hW => ⟨⟨(q_177, q_178, rt, ru, (upd (upd fi slot.toNatClampNeg 4) x_171.toNatClampNeg r_175)), rfl, ⟨(show 0 ≤ q_177.toInt ∧ q_177.toInt ≤ 160 from hbq_177), (show (-1) ≤ q_178.toInt ∧ q_178.toInt ≤ 160 from hbq_178), (show 0 ≤ rt.toInt ∧ rt.toInt ≤ 40 from ⟨hy9, hy10⟩), (show 0 ≤ ru.toInt ∧ ru.toInt ≤ 8 from ⟨hy11, hy12⟩), (show q_177.toInt ≤ rz.toInt from by omega), (show (q_178.toInt = -1 → zIt (upd (upd fi slot.toNatClampNeg 4) x_171.toNatClampNeg r_175) slot.toInt.toNat) from by (intro h; exfalso; omega)), (show (∀ j : Nat, j < slot.toInt.toNat → (upd (upd fi slot.toNatClampNeg 4) x_171.toNatClampNeg r_175) j = fi j) from by (intro j hj; simp only [upd]; rw [if_neg (by omega), if_neg (by omega)])), (show (q_178.toInt = (zItem fl rz.toInt rp.toInt rt.toInt ru.toInt).1 ∧ (q_178.toInt = -1 → q_177.toInt = (zItem fl rz.toInt rp.toInt rt.toInt ru.toInt).2.1 ∧ rt.toInt = (zItem fl rz.toInt rp.toInt rt.toInt ru.toInt).2.2.1 ∧ ru.toInt = (zItem fl rz.toInt rp.toInt rt.toInt ru.toInt).2.2.2)) from by (have z9 := hsr_1_1; rw [kc4] at z9; have hq : zFst fl rz.toInt rp.toInt zWds 10 = 4 ∧ ¬ ((4 : Int) = 3 ∧ ru.toInt = 8) := (by omega); have hl9 : (q_3 : Int32).toInt = rp.toInt + ((zWds ((4 : Int)).toNat).length : Nat) := (by omega); rw [zItem_w hq.1 (by decide) hq.2 hl9 hI]; dsimp only; exact ⟨by (first | rfl | omega), fun h => ⟨by (first | rfl | omega), by (show _ = (if (4 : Int) = 0 then _ else _); rw [if_neg (by decide)]), by (show _ = (if (4 : Int) = 3 then _ else _); rw [if_neg (by decide)])⟩⟩)), (show (q_178.toInt = -1 → (((upd (upd fi slot.toNatClampNeg 4) x_171.toNatClampNeg r_175) slot.toInt.toNat).toInt = 0 → rt.toInt = ((upd (upd fi slot.toNatClampNeg 4) x_171.toNatClampNeg r_175) (slot.toInt.toNat + 1)).toInt) ∧ (((upd (upd fi slot.toNatClampNeg 4) x_171.toNatClampNeg r_175) slot.toInt.toNat).toInt ≠ 0 → rt.toInt = rt.toInt) ∧ (((upd (upd fi slot.toNatClampNeg 4) x_171.toNatClampNeg r_175) slot.toInt.toNat).toInt = 3 → ru.toInt = ru.toInt + 1) ∧ (((upd (upd fi slot.toNatClampNeg 4) x_171.toNatClampNeg r_175) slot.toInt.toNat).toInt ≠ 3 → ru.toInt = ru.toInt)) from by (intro h; exfalso; omega)), (show (q_178.toInt = -1 → zSm (zDS (upd (upd fi slot.toNatClampNeg 4) x_171.toNatClampNeg r_175) slot.toInt.toNat) (zIm fl rz.toInt rp.toInt rt.toInt)) from by (intro h; exfalso; omega)), trivial⟩, zRet ht hP hD [1, 2, 0] (by decide) rfl⟩, hS.F ht⟩) hS.2.2 dX3_readItem_75
    · have kc5 : (5 : Int32).toInt = 5 := by decide
      refine lv_aload_n hx hb dX3_readItem_11 rfl (lv_at hl 1 rfl) ?_
      refine va_get (D := D) (ci := 3) (v := .ref ri) (C := RX3) (T := TX3) (N := 8) hx hb hts hi_X3_readItem_3 hown hK hP 1 rfl rfl 0 (by decide) (hts (.fieldLink RX3 11 "TheLiningsInIt$Reader" "items" "[I") (List.mem_of_getElem? (i := 1) rfl)) (fun _ h9 => h9) rfl dX3_readItem_12 ?_
      refine lv_iload_n hx hb dX3_readItem_15 rfl (lv_at hl 2 rfl) ?_
      refine lv_iload_n hx hb dX3_readItem_16 rfl (lv_at hl 0 rfl) ?_
      refine va_iast hx hb hK hP hD hS 0 0 rfl rfl (zf_in (by omega) (by omega)) dX3_readItem_17 (fun H locs hP hD hS => ?_)
      have h9R := zRe (ws' := [(ri, .inl (cI, 132, .inl (upd fi slot.toNatClampNeg 5))), (rd, .inr (3, [.ref ri, .ref rl, .int rz, .int rc, .int q_3, .int q_4, .int rt, .int ru])), (rl, .inl (cI, 160, .inl fl))]) hP hD rfl
      clear hP hD
      obtain ⟨hP, hD⟩ := h9R
      refine lv_iconst (v := 0) hx hb dX3_readItem_18 (by decide) ?_
      refine lv_istore_n (lv' := [(3, .int 0), (2, .int 5), (0, .ref rd), (1, .int slot)]) hx hb dX3_readItem_19 rfl hl (by decide) rfl (fun ls hl => ?_)
      refine lv_iload_n hx hb dX3_readItem_20 rfl (lv_at hl 0 rfl) ?_
      refine lv_iload_n hx hb dX3_readItem_21 rfl (lv_at hl 1 rfl) ?_
      refine zc_S (As := [.int 5]) (rest := [.int 0]) ⟨hx, hb, hml, hown, hts⟩ (c_R_numbersOf_5 l D cI cJ cZ cP cS po  ) (va_cwS 1 hts gX3_readItem_X3_numbersOf rfl rfl rfl dh_X3_numbersOf ⟨Nat.le_of_ble_eq_true rfl, Nat.le_of_ble_eq_true rfl⟩) hK hN (hZ.kept hS) rfl hl.1 rfl (Nat.le_of_ble_eq_true rfl) dX3_readItem_22 ⟨Nat.le_of_ble_eq_true rfl, Nat.le_of_ble_eq_true rfl⟩ (fun r_186 hr_186 => ?_)
      obtain rfl := hr_186
      refine lv_icmp_ge (tgt := 82) hx hb dX3_readItem_25 (by decide) (fun c_187 => ?_) (fun c_187 => ?_)
      · exact absurd c_187 (by decide)
      · refine lv_aload_n hx hb dX3_readItem_28 rfl (lv_at hl 2 rfl) ?_
        refine lv_bipush (v := 32) hx hb dX3_readItem_29 (by decide) ?_
        have kc32 : (32 : Int32).toInt = 32 := by decide
        skip
        refine zw_Vv (As := [.int 32]) (rest := []) (wr := [(ri, .inl (cI, 132, .inl (upd fi slot.toNatClampNeg 5)))]) ⟨hx, hb, hml, hown, hts⟩ (c_F_R_expect l D cI cJ cZ cP cS po rd ri rl (rz) (rc) (q_3) (q_4) (rt) (ru) fl (32) hy0 hy1 hy2 hy3 hbq_3.1 hbq_3.2 (by omega) hbq_4.1 hbq_4.2 hy9 hy10 hy11 hy12 H.size) (cwV 1 hts gX3_readItem_X3_expect rfl rfl rfl ⟨rfl, dh_X3_expect⟩ ⟨Nat.le_of_ble_eq_true rfl, Nat.le_of_ble_eq_true rfl⟩) hK hN (hZ.kept hS) hP hD hS hA [1, 2] [0] rfl rfl (by decide) (by decide) (by decide) (va_recv (q := (RX3, TX3, 8)) hK hP (ci := 3) (q0 := 1) rfl rfl) rfl hl.1 rfl (Nat.le_of_ble_eq_true rfl) dX3_readItem_31 ⟨Nat.le_of_ble_eq_true rfl, Nat.le_of_ble_eq_true rfl⟩ (fun u_189 H locs hr_188 hP hD hS => ?_)
        obtain ⟨q_190, q_191⟩ := u_189
        try dsimp only at hr_188
        obtain ⟨hbq_190, hbq_191, hsr_188_0, hsr_188_1, hr_188⟩ := hr_188
        have h9R := zRe (ws' := [(ri, .inl (cI, 132, .inl (upd fi slot.toNatClampNeg 5))), (rd, .inr (3, [.ref ri, .ref rl, .int rz, .int rc, .int q_190, .int q_191, .int rt, .int ru])), (rl, .inl (cI, 160, .inl fl))]) hP hD rfl
        clear hP hD
        obtain ⟨hP, hD⟩ := h9R
        refine lv_aload_n hx hb dX3_readItem_34 rfl (lv_at hl 2 rfl) ?_
        refine va_get (D := D) (ci := 3) (v := .int q_191) (C := RX3) (T := TX3) (N := 8) hx hb hts hi_X3_readItem_3 hown hK hP 1 rfl rfl 5 (by decide) (hts (.fieldLink RX3 28 "TheLiningsInIt$Reader" "fault" "I") (List.mem_of_getElem? (i := 2) rfl)) (fun _ h9 => h9) rfl dX3_readItem_35 ?_
        refine lv_iconst (v := (-1)) hx hb dX3_readItem_38 (by decide) ?_
        refine lv_icmp_ne (tgt := 67) hx hb dX3_readItem_39 (by decide) (fun c_192 => ?_) (fun c_192 => ?_)
        · have fc_192 : q_191.toInt ≠ (-1) := zf_ne c_192 rfl (by decide)
          have hn0 : zN1 fl rz.toInt (q_3 : Int32).toInt (zLo 5 0) (zHi 5 0 rt.toInt) = ((q_3 : Int32).toInt, (q_3 : Int32).toInt, 0) := zN1_no (by omega)
          refine lv_aload_n hx hb dX3_readItem_67 rfl (lv_at hl 2 rfl) ?_
          refine va_get (D := D) (ci := 3) (v := .int q_191) (C := RX3) (T := TX3) (N := 8) hx hb hts hi_X3_readItem_3 hown hK hP 1 rfl rfl 5 (by decide) (hts (.fieldLink RX3 28 "TheLiningsInIt$Reader" "fault" "I") (List.mem_of_getElem? (i := 2) rfl)) (fun _ h9 => h9) rfl dX3_readItem_68 ?_
          refine lv_iconst (v := (-1)) hx hb dX3_readItem_71 (by decide) ?_
          refine lv_icmp_eq (tgt := 76) hx hb dX3_readItem_72 (by decide) (fun c_193 => ?_) (fun c_193 => ?_)
          · exfalso; have fc_193 : q_191.toInt = (-1) := zf_eq c_193 rfl (by decide); omega
          · have fc_193 : q_191.toInt ≠ (-1) := zf_ne c_193 rfl (by decide)
            have e0 : slot.toNatClampNeg = slot.toInt.toNat + 0 := (by show (slot : Int32).toInt.toNat = _; omega)
            have hI := zIn_a hn0 (by first | (right; decide) | (left; omega))
            exact W.vret hx hb hr (fun t ht hW => ⟨⟨(q_190, q_191, rt, ru, (upd fi slot.toNatClampNeg 5)), rfl, ⟨(show 0 ≤ q_190.toInt ∧ q_190.toInt ≤ 160 from hbq_190), (show (-1) ≤ q_191.toInt ∧ q_191.toInt ≤ 160 from hbq_191), (show 0 ≤ rt.toInt ∧ rt.toInt ≤ 40 from ⟨hy9, hy10⟩), (show 0 ≤ ru.toInt ∧ ru.toInt ≤ 8 from ⟨hy11, hy12⟩), (show q_190.toInt ≤ rz.toInt from by omega), (show (q_191.toInt = -1 → zIt (upd fi slot.toNatClampNeg 5) slot.toInt.toNat) from by (intro h; exfalso; omega)), (show (∀ j : Nat, j < slot.toInt.toNat → (upd fi slot.toNatClampNeg 5) j = fi j) from by (intro j hj; simp only [upd]; rw [if_neg (by omega)])), (show (q_191.toInt = (zItem fl rz.toInt rp.toInt rt.toInt ru.toInt).1 ∧ (q_191.toInt = -1 → q_190.toInt = (zItem fl rz.toInt rp.toInt rt.toInt ru.toInt).2.1 ∧ rt.toInt = (zItem fl rz.toInt rp.toInt rt.toInt ru.toInt).2.2.1 ∧ ru.toInt = (zItem fl rz.toInt rp.toInt rt.toInt ru.toInt).2.2.2)) from by (have z9 := hsr_1_1; rw [kc5] at z9; have hq : zFst fl rz.toInt rp.toInt zWds 10 = 5 ∧ ¬ ((5 : Int) = 3 ∧ ru.toInt = 8) := (by omega); have hl9 : (q_3 : Int32).toInt = rp.toInt + ((zWds ((5 : Int)).toNat).length : Nat) := (by omega); rw [zItem_w hq.1 (by decide) hq.2 hl9 hI]; dsimp only; exact ⟨by (first | rfl | omega), fun h => ⟨by (first | rfl | omega), by (show _ = (if (5 : Int) = 0 then _ else _); rw [if_neg (by decide)]), by (show _ = (if (5 : Int) = 3 then _ else _); rw [if_neg (by decide)])⟩⟩)), (show (q_191.toInt = -1 → (((upd fi slot.toNatClampNeg 5) slot.toInt.toNat).toInt = 0 → rt.toInt = ((upd fi slot.toNatClampNeg 5) (slot.toInt.toNat + 1)).toInt) ∧ (((upd fi slot.toNatClampNeg 5) slot.toInt.toNat).toInt ≠ 0 → rt.toInt = rt.toInt) ∧ (((upd fi slot.toNatClampNeg 5) slot.toInt.toNat).toInt = 3 → ru.toInt = ru.toInt + 1) ∧ (((upd fi slot.toNatClampNeg 5) slot.toInt.toNat).toInt ≠ 3 → ru.toInt = ru.toInt)) from by (intro h; exfalso; omega)), (show (q_191.toInt = -1 → zSm (zDS (upd fi slot.toNatClampNeg 5) slot.toInt.toNat) (zIm fl rz.toInt rp.toInt rt.toInt)) from by (intro h; exfalso; omega)), trivial⟩, zRet ht hP hD [1, 2, 0] (by decide) rfl⟩, hS.F ht⟩) hS.2.2 dX3_readItem_75
        · have fc_192 : q_191.toInt = (-1) := zf_eq c_192 rfl (by decide)
          refine lv_aload_n hx hb dX3_readItem_42 rfl (lv_at hl 2 rfl) ?_
          refine va_get (D := D) (ci := 3) (v := .ref ri) (C := RX3) (T := TX3) (N := 8) hx hb hts hi_X3_readItem_3 hown hK hP 1 rfl rfl 0 (by decide) (hts (.fieldLink RX3 11 "TheLiningsInIt$Reader" "items" "[I") (List.mem_of_getElem? (i := 1) rfl)) (fun _ h9 => h9) rfl dX3_readItem_43 ?_
          refine lv_iload_n hx hb dX3_readItem_46 rfl (lv_at hl 3 rfl) ?_
          refine lv_iconst (v := 1) hx hb dX3_readItem_47 (by decide) ?_
          refine lv_iadd hx hb dX3_readItem_48 ?_
          refine lv_topi (fun x_194 ex_194 => ?_)
          have qx_194 : x_194.toInt = slot.toInt + 1 := by rw [ex_194]; exact zf_add rfl (by decide) (by omega) (by omega)
          refine lv_iload_n hx hb dX3_readItem_49 rfl (lv_at hl 0 rfl) ?_
          refine lv_iadd hx hb dX3_readItem_50 ?_
          refine lv_topi (fun y_195 ey_195 => ?_)
          obtain rfl : x_194 = y_195 := (ey_195.trans (Int32.add_zero x_194)).symm
          refine lv_aload_n hx hb dX3_readItem_51 rfl (lv_at hl 2 rfl) ?_
          refine lv_iload_n hx hb dX3_readItem_52 rfl (lv_at hl 1 rfl) ?_
          refine lv_iload_n hx hb dX3_readItem_53 rfl (lv_at hl 0 rfl) ?_
          refine zc_S (As := [.int 5, .int 0]) (rest := [.ref rd, .int x_194, .ref ri]) ⟨hx, hb, hml, hown, hts⟩ (c_R_leastOf_5_0 l D cI cJ cZ cP cS po  ) (va_cwS 2 hts gX3_readItem_X3_leastOf rfl rfl rfl dh_X3_leastOf ⟨Nat.le_of_ble_eq_true rfl, Nat.le_of_ble_eq_true rfl⟩) hK hN (hZ.kept hS) rfl hl.1 rfl (Nat.le_of_ble_eq_true rfl) dX3_readItem_54 ⟨Nat.le_of_ble_eq_true rfl, Nat.le_of_ble_eq_true rfl⟩ (fun r_196 hr_196 => ?_)
          obtain rfl := hr_196
          refine lv_aload_n hx hb dX3_readItem_57 rfl (lv_at hl 2 rfl) ?_
          refine lv_iload_n hx hb dX3_readItem_58 rfl (lv_at hl 1 rfl) ?_
          refine lv_iload_n hx hb dX3_readItem_59 rfl (lv_at hl 0 rfl) ?_
          refine zc_V (As := [.int 5, .int 0]) (rest := [.int 0, .ref rd, .int x_194, .ref ri]) ⟨hx, hb, hml, hown, hts⟩ (c_R_mostOf_5_0 l D cI cJ cZ cP cS po rd ri rl (rz) (rc) (q_190) (q_191) (rt) (ru) hy0 hy1 hy2 hy3 hbq_190.1 hbq_190.2 (by omega) hbq_191.1 hbq_191.2 hy9 hy10 hy11 hy12) (cwV 2 hts gX3_readItem_X3_mostOf rfl rfl rfl ⟨rfl, dh_X3_mostOf⟩ ⟨Nat.le_of_ble_eq_true rfl, Nat.le_of_ble_eq_true rfl⟩) hK hN (hZ.kept hS) hP (hP.sub [1] rfl) (va_recv (q := (RX3, TX3, 8)) hK hP (ci := 3) (q0 := 1) rfl rfl) rfl hl.1 rfl (Nat.le_of_ble_eq_true rfl) dX3_readItem_60 ⟨Nat.le_of_ble_eq_true rfl, Nat.le_of_ble_eq_true rfl⟩ (fun r_197 hr_197 => ?_)
          obtain rfl := hr_197
          have kc0 : (0 : Int32).toInt = 0 := by decide
          have kc300 : (300 : Int32).toInt = 300 := by decide
          skip
          refine zw_V (As := [.int 0, .int 300]) (rest := [.int x_194, .ref ri]) (wr := [(ri, .inl (cI, 132, .inl (upd fi slot.toNatClampNeg 5)))]) ⟨hx, hb, hml, hown, hts⟩ (c_F_R_readNumber l D cI cJ cZ cP cS po rd ri rl (rz) (rc) (q_190) (q_191) (rt) (ru) fl (0) (300) hy0 hy1 hy2 hy3 hbq_190.1 hbq_190.2 (by omega) hbq_191.1 hbq_191.2 hy9 hy10 hy11 hy12 H.size) (cwV 2 hts gX3_readItem_X3_readNumber rfl rfl rfl ⟨rfl, dh_X3_readNumber⟩ ⟨Nat.le_of_ble_eq_true rfl, Nat.le_of_ble_eq_true rfl⟩) hK hN (hZ.kept hS) hP hD hS hA [1, 2] [0] rfl rfl (by decide) (by decide) (by decide) (va_recv (q := (RX3, TX3, 8)) hK hP (ci := 3) (q0 := 1) rfl rfl) rfl hl.1 rfl (Nat.le_of_ble_eq_true rfl) dX3_readItem_63 ⟨Nat.le_of_ble_eq_true rfl, Nat.le_of_ble_eq_true rfl⟩ (fun r_198 u_199 H locs hr_198 hP hD hS => ?_)
          obtain ⟨q_200, q_201⟩ := u_199
          try dsimp only at hr_198
          obtain ⟨hbq_200, hbq_201, hsr_198_0, hsr_198_1, hsr_198_2, hsr_198_3, hr_198⟩ := hr_198
          have h9R := zRe (ws' := [(ri, .inl (cI, 132, .inl (upd fi slot.toNatClampNeg 5))), (rd, .inr (3, [.ref ri, .ref rl, .int rz, .int rc, .int q_200, .int q_201, .int rt, .int ru])), (rl, .inl (cI, 160, .inl fl))]) hP hD rfl
          clear hP hD
          obtain ⟨hP, hD⟩ := h9R
          obtain ⟨g_202, g_203⟩ := hr_198
          refine va_iast hx hb hK hP hD hS 0 0 rfl rfl (zf_in (by omega) (by omega)) dX3_readItem_66 (fun H locs hP hD hS => ?_)
          have h9R := zRe (ws' := [(ri, .inl (cI, 132, .inl (upd (upd fi slot.toNatClampNeg 5) x_194.toNatClampNeg r_198))), (rd, .inr (3, [.ref ri, .ref rl, .int rz, .int rc, .int q_200, .int q_201, .int rt, .int ru])), (rl, .inl (cI, 160, .inl fl))]) hP hD rfl
          clear hP hD
          obtain ⟨hP, hD⟩ := h9R
          have hn0 : zN1 fl rz.toInt (q_3 : Int32).toInt (zLo 5 0) (zHi 5 0 rt.toInt) = ((q_201 : Int32).toInt, (q_200 : Int32).toInt, r_198.toInt) := zN1_yes (p1 := (q_190 : Int32).toInt) (lo2 := ((0 : Int32)).toInt) (hi2 := ((300 : Int32)).toInt) (by omega) (by omega) hsr_198_1 hsr_198_2 (by first | decide | (show (0 : Int) = _; omega)) (by first | decide | (show (300 : Int) = _; decide) | (show rt.toInt - 1 = _; omega) | (show rt.toInt = _; omega)) (by omega)
          refine lv_aload_n hx hb dX3_readItem_67 rfl (lv_at hl 2 rfl) ?_
          refine va_get (D := D) (ci := 3) (v := .int q_201) (C := RX3) (T := TX3) (N := 8) hx hb hts hi_X3_readItem_3 hown hK hP 1 rfl rfl 5 (by decide) (hts (.fieldLink RX3 28 "TheLiningsInIt$Reader" "fault" "I") (List.mem_of_getElem? (i := 2) rfl)) (fun _ h9 => h9) rfl dX3_readItem_68 ?_
          refine lv_iconst (v := (-1)) hx hb dX3_readItem_71 (by decide) ?_
          refine lv_icmp_eq (tgt := 76) hx hb dX3_readItem_72 (by decide) (fun c_204 => ?_) (fun c_204 => ?_)
          · have fc_204 : q_201.toInt = (-1) := zf_eq c_204 rfl (by decide)
            refine lv_iinc (v := 1) (lv' := [(3, .int 1), (2, .int 5), (0, .ref rd), (1, .int slot)]) hx hb dX3_readItem_76 hl (k := 0) rfl (by decide) (by decide) rfl (fun ls hl => ?_)
            refine lv_goto (tgt := 20) hx hb dX3_readItem_79 (by decide) ?_
            refine lv_iload_n hx hb dX3_readItem_20 rfl (lv_at hl 0 rfl) ?_
            refine lv_iload_n hx hb dX3_readItem_21 rfl (lv_at hl 1 rfl) ?_
            refine zc_S (As := [.int 5]) (rest := [.int 1]) ⟨hx, hb, hml, hown, hts⟩ (c_R_numbersOf_5 l D cI cJ cZ cP cS po  ) (va_cwS 1 hts gX3_readItem_X3_numbersOf rfl rfl rfl dh_X3_numbersOf ⟨Nat.le_of_ble_eq_true rfl, Nat.le_of_ble_eq_true rfl⟩) hK hN (hZ.kept hS) rfl hl.1 rfl (Nat.le_of_ble_eq_true rfl) dX3_readItem_22 ⟨Nat.le_of_ble_eq_true rfl, Nat.le_of_ble_eq_true rfl⟩ (fun r_205 hr_205 => ?_)
            obtain rfl := hr_205
            refine lv_icmp_ge (tgt := 82) hx hb dX3_readItem_25 (by decide) (fun c_206 => ?_) (fun c_206 => ?_)
            · refine lv_iload_n hx hb dX3_readItem_82 rfl (lv_at hl 1 rfl) ?_
              refine lv_if_ne (tgt := 101) hx hb dX3_readItem_83 (by decide) (fun c_207 => ?_) (fun c_207 => ?_)
              · refine lv_iload_n hx hb dX3_readItem_101 rfl (lv_at hl 1 rfl) ?_
                refine lv_iconst (v := 3) hx hb dX3_readItem_102 (by decide) ?_
                refine lv_icmp_ne (tgt := 116) hx hb dX3_readItem_103 (by decide) (fun c_208 => ?_) (fun c_208 => ?_)
                · have e0 : slot.toNatClampNeg = slot.toInt.toNat + 0 := (by show (slot : Int32).toInt.toNat = _; omega)
                  have e1 : x_194.toNatClampNeg = slot.toInt.toNat + 1 := (by show (x_194 : Int32).toInt.toNat = _; omega)
                  have hI := zIn_a hn0 (by first | (right; decide) | (left; omega))
                  exact W.vret hx hb hr (fun t ht hW => ⟨⟨(q_200, q_201, rt, ru, (upd (upd fi slot.toNatClampNeg 5) x_194.toNatClampNeg r_198)), rfl, ⟨(show 0 ≤ q_200.toInt ∧ q_200.toInt ≤ 160 from hbq_200), (show (-1) ≤ q_201.toInt ∧ q_201.toInt ≤ 160 from hbq_201), (show 0 ≤ rt.toInt ∧ rt.toInt ≤ 40 from ⟨hy9, hy10⟩), (show 0 ≤ ru.toInt ∧ ru.toInt ≤ 8 from ⟨hy11, hy12⟩), (show q_200.toInt ≤ rz.toInt from by omega), (show (q_201.toInt = -1 → zIt (upd (upd fi slot.toNatClampNeg 5) x_194.toNatClampNeg r_198) slot.toInt.toNat) from by (intro h; have k3 : (5 : Int32).toInt = 5 := (by decide); exact zIt_mk (by simp only [upd]; rw [if_neg (by omega), if_pos (by omega)]) (by simp only [upd]; rw [if_pos (by omega)]) (rfl) (rfl) (by unfold zItv; refine ⟨?_, ?_, ?_, ?_, ?_, ?_, ?_, ?_, ?_, ?_, ?_⟩ <;> (intros; omega)))), (show (∀ j : Nat, j < slot.toInt.toNat → (upd (upd fi slot.toNatClampNeg 5) x_194.toNatClampNeg r_198) j = fi j) from by (intro j hj; simp only [upd]; rw [if_neg (by omega), if_neg (by omega)])), (show (q_201.toInt = (zItem fl rz.toInt rp.toInt rt.toInt ru.toInt).1 ∧ (q_201.toInt = -1 → q_200.toInt = (zItem fl rz.toInt rp.toInt rt.toInt ru.toInt).2.1 ∧ rt.toInt = (zItem fl rz.toInt rp.toInt rt.toInt ru.toInt).2.2.1 ∧ ru.toInt = (zItem fl rz.toInt rp.toInt rt.toInt ru.toInt).2.2.2)) from by (have z9 := hsr_1_1; rw [kc5] at z9; have hq : zFst fl rz.toInt rp.toInt zWds 10 = 5 ∧ ¬ ((5 : Int) = 3 ∧ ru.toInt = 8) := (by omega); have hl9 : (q_3 : Int32).toInt = rp.toInt + ((zWds ((5 : Int)).toNat).length : Nat) := (by omega); rw [zItem_w hq.1 (by decide) hq.2 hl9 hI]; dsimp only; exact ⟨by (first | rfl | omega), fun h => ⟨by (first | rfl | omega), by (show _ = (if (5 : Int) = 0 then _ else _); rw [if_neg (by decide)]), by (show _ = (if (5 : Int) = 3 then _ else _); rw [if_neg (by decide)])⟩⟩)), (show (q_201.toInt = -1 → (((upd (upd fi slot.toNatClampNeg 5) x_194.toNatClampNeg r_198) slot.toInt.toNat).toInt = 0 → rt.toInt = ((upd (upd fi slot.toNatClampNeg 5) x_194.toNatClampNeg r_198) (slot.toInt.toNat + 1)).toInt) ∧ (((upd (upd fi slot.toNatClampNeg 5) x_194.toNatClampNeg r_198) slot.toInt.toNat).toInt ≠ 0 → rt.toInt = rt.toInt) ∧ (((upd (upd fi slot.toNatClampNeg 5) x_194.toNatClampNeg r_198) slot.toInt.toNat).toInt = 3 → ru.toInt = ru.toInt + 1) ∧ (((upd (upd fi slot.toNatClampNeg 5) x_194.toNatClampNeg r_198) slot.toInt.toNat).toInt ≠ 3 → ru.toInt = ru.toInt)) from by (intro h; have g0 : (upd (upd fi slot.toNatClampNeg 5) x_194.toNatClampNeg r_198) slot.toInt.toNat = (5 : Int32) := (by simp only [upd]; rw [if_neg (by omega), if_pos (by omega)]); have g1 : (upd (upd fi slot.toNatClampNeg 5) x_194.toNatClampNeg r_198) (slot.toInt.toNat + 1) = (r_198 : Int32) := (by simp only [upd]; rw [if_pos (by omega)]); rw [g0, g1]; refine ⟨?_, ?_, ?_, ?_⟩ <;> (intro h9; first | rfl | omega | (exfalso; omega)))), (show (q_201.toInt = -1 → zSm (zDS (upd (upd fi slot.toNatClampNeg 5) x_194.toNatClampNeg r_198) slot.toInt.toNat) (zIm fl rz.toInt rp.toInt rt.toInt)) from by (intro h; have g0 : (upd (upd fi slot.toNatClampNeg 5) x_194.toNatClampNeg r_198) (slot.toInt.toNat + 0) = (5 : Int32) := (by simp only [upd]; rw [if_neg (by omega), if_pos (by omega)]); have g1 : (upd (upd fi slot.toNatClampNeg 5) x_194.toNatClampNeg r_198) (slot.toInt.toNat + 1) = (r_198 : Int32) := (by simp only [upd]; rw [if_pos (by omega)]); have z9 := hsr_1_1; rw [kc5] at z9; have hW : zIW fl rz.toInt rp.toInt = 5 := (by unfold zIW; omega); have hP9 : zIP fl rz.toInt rp.toInt = (q_3 : Int32).toInt := (by unfold zIP; rw [hW]; have hl9 : (q_3 : Int32).toInt = rp.toInt + ((zWds ((5 : Int)).toNat).length : Nat) := (by omega); exact hl9.symm); exact ⟨(show ((upd (upd fi slot.toNatClampNeg 5) x_194.toNatClampNeg r_198) (slot.toInt.toNat + 0)).toInt = zIW fl rz.toInt rp.toInt from by (rw [g0, hW]; omega)), (show ((upd (upd fi slot.toNatClampNeg 5) x_194.toNatClampNeg r_198) (slot.toInt.toNat + 1)).toInt = (zIn fl rz.toInt (zIP fl rz.toInt rp.toInt) rt.toInt (zIW fl rz.toInt rp.toInt)).2.2 from by (rw [g1, hP9, hW, hI])), fun hz => absurd (show ((upd (upd fi slot.toNatClampNeg 5) x_194.toNatClampNeg r_198) (slot.toInt.toNat + 0)).toInt = 2 ∨ ((upd (upd fi slot.toNatClampNeg 5) x_194.toNatClampNeg r_198) (slot.toInt.toNat + 0)).toInt = 3 ∨ ((upd (upd fi slot.toNatClampNeg 5) x_194.toNatClampNeg r_198) (slot.toInt.toNat + 0)).toInt = 8 from hz) (by rw [g0]; omega), fun hz => absurd (show ((upd (upd fi slot.toNatClampNeg 5) x_194.toNatClampNeg r_198) (slot.toInt.toNat + 0)).toInt = 3 from hz) (by rw [g0]; omega)⟩)), trivial⟩, zRet ht hP hD [1, 2, 0] (by decide) rfl⟩, hS.F ht⟩) hS.2.2 dX3_readItem_116
                · exact absurd c_208 (by decide)
              · exact absurd c_207 (by decide)
            · exact absurd c_206 (by decide)
          · have fc_204 : q_201.toInt ≠ (-1) := zf_ne c_204 rfl (by decide)
            have e0 : slot.toNatClampNeg = slot.toInt.toNat + 0 := (by show (slot : Int32).toInt.toNat = _; omega)
            have e1 : x_194.toNatClampNeg = slot.toInt.toNat + 1 := (by show (x_194 : Int32).toInt.toNat = _; omega)
            have hI := zIn_a hn0 (by first | (right; decide) | (left; omega))
            exact W.vret hx hb hr (fun t ht hW => ⟨⟨(q_200, q_201, rt, ru, (upd (upd fi slot.toNatClampNeg 5) x_194.toNatClampNeg r_198)), rfl, ⟨(show 0 ≤ q_200.toInt ∧ q_200.toInt ≤ 160 from hbq_200), (show (-1) ≤ q_201.toInt ∧ q_201.toInt ≤ 160 from hbq_201), (show 0 ≤ rt.toInt ∧ rt.toInt ≤ 40 from ⟨hy9, hy10⟩), (show 0 ≤ ru.toInt ∧ ru.toInt ≤ 8 from ⟨hy11, hy12⟩), (show q_200.toInt ≤ rz.toInt from by omega), (show (q_201.toInt = -1 → zIt (upd (upd fi slot.toNatClampNeg 5) x_194.toNatClampNeg r_198) slot.toInt.toNat) from by (intro h; exfalso; omega)), (show (∀ j : Nat, j < slot.toInt.toNat → (upd (upd fi slot.toNatClampNeg 5) x_194.toNatClampNeg r_198) j = fi j) from by (intro j hj; simp only [upd]; rw [if_neg (by omega), if_neg (by omega)])), (show (q_201.toInt = (zItem fl rz.toInt rp.toInt rt.toInt ru.toInt).1 ∧ (q_201.toInt = -1 → q_200.toInt = (zItem fl rz.toInt rp.toInt rt.toInt ru.toInt).2.1 ∧ rt.toInt = (zItem fl rz.toInt rp.toInt rt.toInt ru.toInt).2.2.1 ∧ ru.toInt = (zItem fl rz.toInt rp.toInt rt.toInt ru.toInt).2.2.2)) from by (have z9 := hsr_1_1; rw [kc5] at z9; have hq : zFst fl rz.toInt rp.toInt zWds 10 = 5 ∧ ¬ ((5 : Int) = 3 ∧ ru.toInt = 8) := (by omega); have hl9 : (q_3 : Int32).toInt = rp.toInt + ((zWds ((5 : Int)).toNat).length : Nat) := (by omega); rw [zItem_w hq.1 (by decide) hq.2 hl9 hI]; dsimp only; exact ⟨by (first | rfl | omega), fun h => ⟨by (first | rfl | omega), by (show _ = (if (5 : Int) = 0 then _ else _); rw [if_neg (by decide)]), by (show _ = (if (5 : Int) = 3 then _ else _); rw [if_neg (by decide)])⟩⟩)), (show (q_201.toInt = -1 → (((upd (upd fi slot.toNatClampNeg 5) x_194.toNatClampNeg r_198) slot.toInt.toNat).toInt = 0 → rt.toInt = ((upd (upd fi slot.toNatClampNeg 5) x_194.toNatClampNeg r_198) (slot.toInt.toNat + 1)).toInt) ∧ (((upd (upd fi slot.toNatClampNeg 5) x_194.toNatClampNeg r_198) slot.toInt.toNat).toInt ≠ 0 → rt.toInt = rt.toInt) ∧ (((upd (upd fi slot.toNatClampNeg 5) x_194.toNatClampNeg r_198) slot.toInt.toNat).toInt = 3 → ru.toInt = ru.toInt + 1) ∧ (((upd (upd fi slot.toNatClampNeg 5) x_194.toNatClampNeg r_198) slot.toInt.toNat).toInt ≠ 3 → ru.toInt = ru.toInt)) from by (intro h; exfalso; omega)), (show (q_201.toInt = -1 → zSm (zDS (upd (upd fi slot.toNatClampNeg 5) x_194.toNatClampNeg r_198) slot.toInt.toNat) (zIm fl rz.toInt rp.toInt rt.toInt)) from by (intro h; exfalso; omega)), trivial⟩, zRet ht hP hD [1, 2, 0] (by decide) rfl⟩, hS.F ht⟩) hS.2.2 dX3_readItem_75
    · have kc6 : (6 : Int32).toInt = 6 := by decide
      refine lv_aload_n hx hb dX3_readItem_11 rfl (lv_at hl 1 rfl) ?_
      refine va_get (D := D) (ci := 3) (v := .ref ri) (C := RX3) (T := TX3) (N := 8) hx hb hts hi_X3_readItem_3 hown hK hP 1 rfl rfl 0 (by decide) (hts (.fieldLink RX3 11 "TheLiningsInIt$Reader" "items" "[I") (List.mem_of_getElem? (i := 1) rfl)) (fun _ h9 => h9) rfl dX3_readItem_12 ?_
      refine lv_iload_n hx hb dX3_readItem_15 rfl (lv_at hl 2 rfl) ?_
      refine lv_iload_n hx hb dX3_readItem_16 rfl (lv_at hl 0 rfl) ?_
      refine va_iast hx hb hK hP hD hS 0 0 rfl rfl (zf_in (by omega) (by omega)) dX3_readItem_17 (fun H locs hP hD hS => ?_)
      have h9R := zRe (ws' := [(ri, .inl (cI, 132, .inl (upd fi slot.toNatClampNeg 6))), (rd, .inr (3, [.ref ri, .ref rl, .int rz, .int rc, .int q_3, .int q_4, .int rt, .int ru])), (rl, .inl (cI, 160, .inl fl))]) hP hD rfl
      clear hP hD
      obtain ⟨hP, hD⟩ := h9R
      refine lv_iconst (v := 0) hx hb dX3_readItem_18 (by decide) ?_
      refine lv_istore_n (lv' := [(3, .int 0), (2, .int 6), (0, .ref rd), (1, .int slot)]) hx hb dX3_readItem_19 rfl hl (by decide) rfl (fun ls hl => ?_)
      refine lv_iload_n hx hb dX3_readItem_20 rfl (lv_at hl 0 rfl) ?_
      refine lv_iload_n hx hb dX3_readItem_21 rfl (lv_at hl 1 rfl) ?_
      refine zc_S (As := [.int 6]) (rest := [.int 0]) ⟨hx, hb, hml, hown, hts⟩ (c_R_numbersOf_6 l D cI cJ cZ cP cS po  ) (va_cwS 1 hts gX3_readItem_X3_numbersOf rfl rfl rfl dh_X3_numbersOf ⟨Nat.le_of_ble_eq_true rfl, Nat.le_of_ble_eq_true rfl⟩) hK hN (hZ.kept hS) rfl hl.1 rfl (Nat.le_of_ble_eq_true rfl) dX3_readItem_22 ⟨Nat.le_of_ble_eq_true rfl, Nat.le_of_ble_eq_true rfl⟩ (fun r_209 hr_209 => ?_)
      obtain rfl := hr_209
      refine lv_icmp_ge (tgt := 82) hx hb dX3_readItem_25 (by decide) (fun c_210 => ?_) (fun c_210 => ?_)
      · exact absurd c_210 (by decide)
      · refine lv_aload_n hx hb dX3_readItem_28 rfl (lv_at hl 2 rfl) ?_
        refine lv_bipush (v := 32) hx hb dX3_readItem_29 (by decide) ?_
        have kc32 : (32 : Int32).toInt = 32 := by decide
        skip
        refine zw_Vv (As := [.int 32]) (rest := []) (wr := [(ri, .inl (cI, 132, .inl (upd fi slot.toNatClampNeg 6)))]) ⟨hx, hb, hml, hown, hts⟩ (c_F_R_expect l D cI cJ cZ cP cS po rd ri rl (rz) (rc) (q_3) (q_4) (rt) (ru) fl (32) hy0 hy1 hy2 hy3 hbq_3.1 hbq_3.2 (by omega) hbq_4.1 hbq_4.2 hy9 hy10 hy11 hy12 H.size) (cwV 1 hts gX3_readItem_X3_expect rfl rfl rfl ⟨rfl, dh_X3_expect⟩ ⟨Nat.le_of_ble_eq_true rfl, Nat.le_of_ble_eq_true rfl⟩) hK hN (hZ.kept hS) hP hD hS hA [1, 2] [0] rfl rfl (by decide) (by decide) (by decide) (va_recv (q := (RX3, TX3, 8)) hK hP (ci := 3) (q0 := 1) rfl rfl) rfl hl.1 rfl (Nat.le_of_ble_eq_true rfl) dX3_readItem_31 ⟨Nat.le_of_ble_eq_true rfl, Nat.le_of_ble_eq_true rfl⟩ (fun u_212 H locs hr_211 hP hD hS => ?_)
        obtain ⟨q_213, q_214⟩ := u_212
        try dsimp only at hr_211
        obtain ⟨hbq_213, hbq_214, hsr_211_0, hsr_211_1, hr_211⟩ := hr_211
        have h9R := zRe (ws' := [(ri, .inl (cI, 132, .inl (upd fi slot.toNatClampNeg 6))), (rd, .inr (3, [.ref ri, .ref rl, .int rz, .int rc, .int q_213, .int q_214, .int rt, .int ru])), (rl, .inl (cI, 160, .inl fl))]) hP hD rfl
        clear hP hD
        obtain ⟨hP, hD⟩ := h9R
        refine lv_aload_n hx hb dX3_readItem_34 rfl (lv_at hl 2 rfl) ?_
        refine va_get (D := D) (ci := 3) (v := .int q_214) (C := RX3) (T := TX3) (N := 8) hx hb hts hi_X3_readItem_3 hown hK hP 1 rfl rfl 5 (by decide) (hts (.fieldLink RX3 28 "TheLiningsInIt$Reader" "fault" "I") (List.mem_of_getElem? (i := 2) rfl)) (fun _ h9 => h9) rfl dX3_readItem_35 ?_
        refine lv_iconst (v := (-1)) hx hb dX3_readItem_38 (by decide) ?_
        refine lv_icmp_ne (tgt := 67) hx hb dX3_readItem_39 (by decide) (fun c_215 => ?_) (fun c_215 => ?_)
        · have fc_215 : q_214.toInt ≠ (-1) := zf_ne c_215 rfl (by decide)
          have hn0 : zN1 fl rz.toInt (q_3 : Int32).toInt (zLo 6 0) (zHi 6 0 rt.toInt) = ((q_3 : Int32).toInt, (q_3 : Int32).toInt, 0) := zN1_no (by omega)
          refine lv_aload_n hx hb dX3_readItem_67 rfl (lv_at hl 2 rfl) ?_
          refine va_get (D := D) (ci := 3) (v := .int q_214) (C := RX3) (T := TX3) (N := 8) hx hb hts hi_X3_readItem_3 hown hK hP 1 rfl rfl 5 (by decide) (hts (.fieldLink RX3 28 "TheLiningsInIt$Reader" "fault" "I") (List.mem_of_getElem? (i := 2) rfl)) (fun _ h9 => h9) rfl dX3_readItem_68 ?_
          refine lv_iconst (v := (-1)) hx hb dX3_readItem_71 (by decide) ?_
          refine lv_icmp_eq (tgt := 76) hx hb dX3_readItem_72 (by decide) (fun c_216 => ?_) (fun c_216 => ?_)
          · exfalso; have fc_216 : q_214.toInt = (-1) := zf_eq c_216 rfl (by decide); omega
          · have fc_216 : q_214.toInt ≠ (-1) := zf_ne c_216 rfl (by decide)
            have e0 : slot.toNatClampNeg = slot.toInt.toNat + 0 := (by show (slot : Int32).toInt.toNat = _; omega)
            have hI := zIn_a hn0 (by first | (right; decide) | (left; omega))
            exact W.vret hx hb hr (fun t ht hW => ⟨⟨(q_213, q_214, rt, ru, (upd fi slot.toNatClampNeg 6)), rfl, ⟨(show 0 ≤ q_213.toInt ∧ q_213.toInt ≤ 160 from hbq_213), (show (-1) ≤ q_214.toInt ∧ q_214.toInt ≤ 160 from hbq_214), (show 0 ≤ rt.toInt ∧ rt.toInt ≤ 40 from ⟨hy9, hy10⟩), (show 0 ≤ ru.toInt ∧ ru.toInt ≤ 8 from ⟨hy11, hy12⟩), (show q_213.toInt ≤ rz.toInt from by omega), (show (q_214.toInt = -1 → zIt (upd fi slot.toNatClampNeg 6) slot.toInt.toNat) from by (intro h; exfalso; omega)), (show (∀ j : Nat, j < slot.toInt.toNat → (upd fi slot.toNatClampNeg 6) j = fi j) from by (intro j hj; simp only [upd]; rw [if_neg (by omega)])), (show (q_214.toInt = (zItem fl rz.toInt rp.toInt rt.toInt ru.toInt).1 ∧ (q_214.toInt = -1 → q_213.toInt = (zItem fl rz.toInt rp.toInt rt.toInt ru.toInt).2.1 ∧ rt.toInt = (zItem fl rz.toInt rp.toInt rt.toInt ru.toInt).2.2.1 ∧ ru.toInt = (zItem fl rz.toInt rp.toInt rt.toInt ru.toInt).2.2.2)) from by (have z9 := hsr_1_1; rw [kc6] at z9; have hq : zFst fl rz.toInt rp.toInt zWds 10 = 6 ∧ ¬ ((6 : Int) = 3 ∧ ru.toInt = 8) := (by omega); have hl9 : (q_3 : Int32).toInt = rp.toInt + ((zWds ((6 : Int)).toNat).length : Nat) := (by omega); rw [zItem_w hq.1 (by decide) hq.2 hl9 hI]; dsimp only; exact ⟨by (first | rfl | omega), fun h => ⟨by (first | rfl | omega), by (show _ = (if (6 : Int) = 0 then _ else _); rw [if_neg (by decide)]), by (show _ = (if (6 : Int) = 3 then _ else _); rw [if_neg (by decide)])⟩⟩)), (show (q_214.toInt = -1 → (((upd fi slot.toNatClampNeg 6) slot.toInt.toNat).toInt = 0 → rt.toInt = ((upd fi slot.toNatClampNeg 6) (slot.toInt.toNat + 1)).toInt) ∧ (((upd fi slot.toNatClampNeg 6) slot.toInt.toNat).toInt ≠ 0 → rt.toInt = rt.toInt) ∧ (((upd fi slot.toNatClampNeg 6) slot.toInt.toNat).toInt = 3 → ru.toInt = ru.toInt + 1) ∧ (((upd fi slot.toNatClampNeg 6) slot.toInt.toNat).toInt ≠ 3 → ru.toInt = ru.toInt)) from by (intro h; exfalso; omega)), (show (q_214.toInt = -1 → zSm (zDS (upd fi slot.toNatClampNeg 6) slot.toInt.toNat) (zIm fl rz.toInt rp.toInt rt.toInt)) from by (intro h; exfalso; omega)), trivial⟩, zRet ht hP hD [1, 2, 0] (by decide) rfl⟩, hS.F ht⟩) hS.2.2 dX3_readItem_75
        · have fc_215 : q_214.toInt = (-1) := zf_eq c_215 rfl (by decide)
          refine lv_aload_n hx hb dX3_readItem_42 rfl (lv_at hl 2 rfl) ?_
          refine va_get (D := D) (ci := 3) (v := .ref ri) (C := RX3) (T := TX3) (N := 8) hx hb hts hi_X3_readItem_3 hown hK hP 1 rfl rfl 0 (by decide) (hts (.fieldLink RX3 11 "TheLiningsInIt$Reader" "items" "[I") (List.mem_of_getElem? (i := 1) rfl)) (fun _ h9 => h9) rfl dX3_readItem_43 ?_
          refine lv_iload_n hx hb dX3_readItem_46 rfl (lv_at hl 3 rfl) ?_
          refine lv_iconst (v := 1) hx hb dX3_readItem_47 (by decide) ?_
          refine lv_iadd hx hb dX3_readItem_48 ?_
          refine lv_topi (fun x_217 ex_217 => ?_)
          have qx_217 : x_217.toInt = slot.toInt + 1 := by rw [ex_217]; exact zf_add rfl (by decide) (by omega) (by omega)
          refine lv_iload_n hx hb dX3_readItem_49 rfl (lv_at hl 0 rfl) ?_
          refine lv_iadd hx hb dX3_readItem_50 ?_
          refine lv_topi (fun y_218 ey_218 => ?_)
          obtain rfl : x_217 = y_218 := (ey_218.trans (Int32.add_zero x_217)).symm
          refine lv_aload_n hx hb dX3_readItem_51 rfl (lv_at hl 2 rfl) ?_
          refine lv_iload_n hx hb dX3_readItem_52 rfl (lv_at hl 1 rfl) ?_
          refine lv_iload_n hx hb dX3_readItem_53 rfl (lv_at hl 0 rfl) ?_
          refine zc_S (As := [.int 6, .int 0]) (rest := [.ref rd, .int x_217, .ref ri]) ⟨hx, hb, hml, hown, hts⟩ (c_R_leastOf_6_0 l D cI cJ cZ cP cS po  ) (va_cwS 2 hts gX3_readItem_X3_leastOf rfl rfl rfl dh_X3_leastOf ⟨Nat.le_of_ble_eq_true rfl, Nat.le_of_ble_eq_true rfl⟩) hK hN (hZ.kept hS) rfl hl.1 rfl (Nat.le_of_ble_eq_true rfl) dX3_readItem_54 ⟨Nat.le_of_ble_eq_true rfl, Nat.le_of_ble_eq_true rfl⟩ (fun r_219 hr_219 => ?_)
          obtain rfl := hr_219
          refine lv_aload_n hx hb dX3_readItem_57 rfl (lv_at hl 2 rfl) ?_
          refine lv_iload_n hx hb dX3_readItem_58 rfl (lv_at hl 1 rfl) ?_
          refine lv_iload_n hx hb dX3_readItem_59 rfl (lv_at hl 0 rfl) ?_
          refine zc_V (As := [.int 6, .int 0]) (rest := [.int 0, .ref rd, .int x_217, .ref ri]) ⟨hx, hb, hml, hown, hts⟩ (c_R_mostOf_6_0 l D cI cJ cZ cP cS po rd ri rl (rz) (rc) (q_213) (q_214) (rt) (ru) hy0 hy1 hy2 hy3 hbq_213.1 hbq_213.2 (by omega) hbq_214.1 hbq_214.2 hy9 hy10 hy11 hy12) (cwV 2 hts gX3_readItem_X3_mostOf rfl rfl rfl ⟨rfl, dh_X3_mostOf⟩ ⟨Nat.le_of_ble_eq_true rfl, Nat.le_of_ble_eq_true rfl⟩) hK hN (hZ.kept hS) hP (hP.sub [1] rfl) (va_recv (q := (RX3, TX3, 8)) hK hP (ci := 3) (q0 := 1) rfl rfl) rfl hl.1 rfl (Nat.le_of_ble_eq_true rfl) dX3_readItem_60 ⟨Nat.le_of_ble_eq_true rfl, Nat.le_of_ble_eq_true rfl⟩ (fun r_220 hr_220 => ?_)
          obtain rfl := hr_220
          have kc0 : (0 : Int32).toInt = 0 := by decide
          have kc9 : (9 : Int32).toInt = 9 := by decide
          skip
          refine zw_V (As := [.int 0, .int 9]) (rest := [.int x_217, .ref ri]) (wr := [(ri, .inl (cI, 132, .inl (upd fi slot.toNatClampNeg 6)))]) ⟨hx, hb, hml, hown, hts⟩ (c_F_R_readNumber l D cI cJ cZ cP cS po rd ri rl (rz) (rc) (q_213) (q_214) (rt) (ru) fl (0) (9) hy0 hy1 hy2 hy3 hbq_213.1 hbq_213.2 (by omega) hbq_214.1 hbq_214.2 hy9 hy10 hy11 hy12 H.size) (cwV 2 hts gX3_readItem_X3_readNumber rfl rfl rfl ⟨rfl, dh_X3_readNumber⟩ ⟨Nat.le_of_ble_eq_true rfl, Nat.le_of_ble_eq_true rfl⟩) hK hN (hZ.kept hS) hP hD hS hA [1, 2] [0] rfl rfl (by decide) (by decide) (by decide) (va_recv (q := (RX3, TX3, 8)) hK hP (ci := 3) (q0 := 1) rfl rfl) rfl hl.1 rfl (Nat.le_of_ble_eq_true rfl) dX3_readItem_63 ⟨Nat.le_of_ble_eq_true rfl, Nat.le_of_ble_eq_true rfl⟩ (fun r_221 u_222 H locs hr_221 hP hD hS => ?_)
          obtain ⟨q_223, q_224⟩ := u_222
          try dsimp only at hr_221
          obtain ⟨hbq_223, hbq_224, hsr_221_0, hsr_221_1, hsr_221_2, hsr_221_3, hr_221⟩ := hr_221
          have h9R := zRe (ws' := [(ri, .inl (cI, 132, .inl (upd fi slot.toNatClampNeg 6))), (rd, .inr (3, [.ref ri, .ref rl, .int rz, .int rc, .int q_223, .int q_224, .int rt, .int ru])), (rl, .inl (cI, 160, .inl fl))]) hP hD rfl
          clear hP hD
          obtain ⟨hP, hD⟩ := h9R
          obtain ⟨g_225, g_226⟩ := hr_221
          refine va_iast hx hb hK hP hD hS 0 0 rfl rfl (zf_in (by omega) (by omega)) dX3_readItem_66 (fun H locs hP hD hS => ?_)
          have h9R := zRe (ws' := [(ri, .inl (cI, 132, .inl (upd (upd fi slot.toNatClampNeg 6) x_217.toNatClampNeg r_221))), (rd, .inr (3, [.ref ri, .ref rl, .int rz, .int rc, .int q_223, .int q_224, .int rt, .int ru])), (rl, .inl (cI, 160, .inl fl))]) hP hD rfl
          clear hP hD
          obtain ⟨hP, hD⟩ := h9R
          have hn0 : zN1 fl rz.toInt (q_3 : Int32).toInt (zLo 6 0) (zHi 6 0 rt.toInt) = ((q_224 : Int32).toInt, (q_223 : Int32).toInt, r_221.toInt) := zN1_yes (p1 := (q_213 : Int32).toInt) (lo2 := ((0 : Int32)).toInt) (hi2 := ((9 : Int32)).toInt) (by omega) (by omega) hsr_221_1 hsr_221_2 (by first | decide | (show (0 : Int) = _; omega)) (by first | decide | (show (9 : Int) = _; decide) | (show rt.toInt - 1 = _; omega) | (show rt.toInt = _; omega)) (by omega)
          refine lv_aload_n hx hb dX3_readItem_67 rfl (lv_at hl 2 rfl) ?_
          refine va_get (D := D) (ci := 3) (v := .int q_224) (C := RX3) (T := TX3) (N := 8) hx hb hts hi_X3_readItem_3 hown hK hP 1 rfl rfl 5 (by decide) (hts (.fieldLink RX3 28 "TheLiningsInIt$Reader" "fault" "I") (List.mem_of_getElem? (i := 2) rfl)) (fun _ h9 => h9) rfl dX3_readItem_68 ?_
          refine lv_iconst (v := (-1)) hx hb dX3_readItem_71 (by decide) ?_
          refine lv_icmp_eq (tgt := 76) hx hb dX3_readItem_72 (by decide) (fun c_227 => ?_) (fun c_227 => ?_)
          · have fc_227 : q_224.toInt = (-1) := zf_eq c_227 rfl (by decide)
            refine lv_iinc (v := 1) (lv' := [(3, .int 1), (2, .int 6), (0, .ref rd), (1, .int slot)]) hx hb dX3_readItem_76 hl (k := 0) rfl (by decide) (by decide) rfl (fun ls hl => ?_)
            refine lv_goto (tgt := 20) hx hb dX3_readItem_79 (by decide) ?_
            refine lv_iload_n hx hb dX3_readItem_20 rfl (lv_at hl 0 rfl) ?_
            refine lv_iload_n hx hb dX3_readItem_21 rfl (lv_at hl 1 rfl) ?_
            refine zc_S (As := [.int 6]) (rest := [.int 1]) ⟨hx, hb, hml, hown, hts⟩ (c_R_numbersOf_6 l D cI cJ cZ cP cS po  ) (va_cwS 1 hts gX3_readItem_X3_numbersOf rfl rfl rfl dh_X3_numbersOf ⟨Nat.le_of_ble_eq_true rfl, Nat.le_of_ble_eq_true rfl⟩) hK hN (hZ.kept hS) rfl hl.1 rfl (Nat.le_of_ble_eq_true rfl) dX3_readItem_22 ⟨Nat.le_of_ble_eq_true rfl, Nat.le_of_ble_eq_true rfl⟩ (fun r_228 hr_228 => ?_)
            obtain rfl := hr_228
            refine lv_icmp_ge (tgt := 82) hx hb dX3_readItem_25 (by decide) (fun c_229 => ?_) (fun c_229 => ?_)
            · refine lv_iload_n hx hb dX3_readItem_82 rfl (lv_at hl 1 rfl) ?_
              refine lv_if_ne (tgt := 101) hx hb dX3_readItem_83 (by decide) (fun c_230 => ?_) (fun c_230 => ?_)
              · refine lv_iload_n hx hb dX3_readItem_101 rfl (lv_at hl 1 rfl) ?_
                refine lv_iconst (v := 3) hx hb dX3_readItem_102 (by decide) ?_
                refine lv_icmp_ne (tgt := 116) hx hb dX3_readItem_103 (by decide) (fun c_231 => ?_) (fun c_231 => ?_)
                · have e0 : slot.toNatClampNeg = slot.toInt.toNat + 0 := (by show (slot : Int32).toInt.toNat = _; omega)
                  have e1 : x_217.toNatClampNeg = slot.toInt.toNat + 1 := (by show (x_217 : Int32).toInt.toNat = _; omega)
                  have hI := zIn_a hn0 (by first | (right; decide) | (left; omega))
                  exact W.vret hx hb hr (fun t ht hW => ⟨⟨(q_223, q_224, rt, ru, (upd (upd fi slot.toNatClampNeg 6) x_217.toNatClampNeg r_221)), rfl, ⟨(show 0 ≤ q_223.toInt ∧ q_223.toInt ≤ 160 from hbq_223), (show (-1) ≤ q_224.toInt ∧ q_224.toInt ≤ 160 from hbq_224), (show 0 ≤ rt.toInt ∧ rt.toInt ≤ 40 from ⟨hy9, hy10⟩), (show 0 ≤ ru.toInt ∧ ru.toInt ≤ 8 from ⟨hy11, hy12⟩), (show q_223.toInt ≤ rz.toInt from by omega), (show (q_224.toInt = -1 → zIt (upd (upd fi slot.toNatClampNeg 6) x_217.toNatClampNeg r_221) slot.toInt.toNat) from by (intro h; have k3 : (6 : Int32).toInt = 6 := (by decide); exact zIt_mk (by simp only [upd]; rw [if_neg (by omega), if_pos (by omega)]) (by simp only [upd]; rw [if_pos (by omega)]) (rfl) (rfl) (by unfold zItv; refine ⟨?_, ?_, ?_, ?_, ?_, ?_, ?_, ?_, ?_, ?_, ?_⟩ <;> (intros; omega)))), (show (∀ j : Nat, j < slot.toInt.toNat → (upd (upd fi slot.toNatClampNeg 6) x_217.toNatClampNeg r_221) j = fi j) from by (intro j hj; simp only [upd]; rw [if_neg (by omega), if_neg (by omega)])), (show (q_224.toInt = (zItem fl rz.toInt rp.toInt rt.toInt ru.toInt).1 ∧ (q_224.toInt = -1 → q_223.toInt = (zItem fl rz.toInt rp.toInt rt.toInt ru.toInt).2.1 ∧ rt.toInt = (zItem fl rz.toInt rp.toInt rt.toInt ru.toInt).2.2.1 ∧ ru.toInt = (zItem fl rz.toInt rp.toInt rt.toInt ru.toInt).2.2.2)) from by (have z9 := hsr_1_1; rw [kc6] at z9; have hq : zFst fl rz.toInt rp.toInt zWds 10 = 6 ∧ ¬ ((6 : Int) = 3 ∧ ru.toInt = 8) := (by omega); have hl9 : (q_3 : Int32).toInt = rp.toInt + ((zWds ((6 : Int)).toNat).length : Nat) := (by omega); rw [zItem_w hq.1 (by decide) hq.2 hl9 hI]; dsimp only; exact ⟨by (first | rfl | omega), fun h => ⟨by (first | rfl | omega), by (show _ = (if (6 : Int) = 0 then _ else _); rw [if_neg (by decide)]), by (show _ = (if (6 : Int) = 3 then _ else _); rw [if_neg (by decide)])⟩⟩)), (show (q_224.toInt = -1 → (((upd (upd fi slot.toNatClampNeg 6) x_217.toNatClampNeg r_221) slot.toInt.toNat).toInt = 0 → rt.toInt = ((upd (upd fi slot.toNatClampNeg 6) x_217.toNatClampNeg r_221) (slot.toInt.toNat + 1)).toInt) ∧ (((upd (upd fi slot.toNatClampNeg 6) x_217.toNatClampNeg r_221) slot.toInt.toNat).toInt ≠ 0 → rt.toInt = rt.toInt) ∧ (((upd (upd fi slot.toNatClampNeg 6) x_217.toNatClampNeg r_221) slot.toInt.toNat).toInt = 3 → ru.toInt = ru.toInt + 1) ∧ (((upd (upd fi slot.toNatClampNeg 6) x_217.toNatClampNeg r_221) slot.toInt.toNat).toInt ≠ 3 → ru.toInt = ru.toInt)) from by (intro h; have g0 : (upd (upd fi slot.toNatClampNeg 6) x_217.toNatClampNeg r_221) slot.toInt.toNat = (6 : Int32) := (by simp only [upd]; rw [if_neg (by omega), if_pos (by omega)]); have g1 : (upd (upd fi slot.toNatClampNeg 6) x_217.toNatClampNeg r_221) (slot.toInt.toNat + 1) = (r_221 : Int32) := (by simp only [upd]; rw [if_pos (by omega)]); rw [g0, g1]; refine ⟨?_, ?_, ?_, ?_⟩ <;> (intro h9; first | rfl | omega | (exfalso; omega)))), (show (q_224.toInt = -1 → zSm (zDS (upd (upd fi slot.toNatClampNeg 6) x_217.toNatClampNeg r_221) slot.toInt.toNat) (zIm fl rz.toInt rp.toInt rt.toInt)) from by (intro h; have g0 : (upd (upd fi slot.toNatClampNeg 6) x_217.toNatClampNeg r_221) (slot.toInt.toNat + 0) = (6 : Int32) := (by simp only [upd]; rw [if_neg (by omega), if_pos (by omega)]); have g1 : (upd (upd fi slot.toNatClampNeg 6) x_217.toNatClampNeg r_221) (slot.toInt.toNat + 1) = (r_221 : Int32) := (by simp only [upd]; rw [if_pos (by omega)]); have z9 := hsr_1_1; rw [kc6] at z9; have hW : zIW fl rz.toInt rp.toInt = 6 := (by unfold zIW; omega); have hP9 : zIP fl rz.toInt rp.toInt = (q_3 : Int32).toInt := (by unfold zIP; rw [hW]; have hl9 : (q_3 : Int32).toInt = rp.toInt + ((zWds ((6 : Int)).toNat).length : Nat) := (by omega); exact hl9.symm); exact ⟨(show ((upd (upd fi slot.toNatClampNeg 6) x_217.toNatClampNeg r_221) (slot.toInt.toNat + 0)).toInt = zIW fl rz.toInt rp.toInt from by (rw [g0, hW]; omega)), (show ((upd (upd fi slot.toNatClampNeg 6) x_217.toNatClampNeg r_221) (slot.toInt.toNat + 1)).toInt = (zIn fl rz.toInt (zIP fl rz.toInt rp.toInt) rt.toInt (zIW fl rz.toInt rp.toInt)).2.2 from by (rw [g1, hP9, hW, hI])), fun hz => absurd (show ((upd (upd fi slot.toNatClampNeg 6) x_217.toNatClampNeg r_221) (slot.toInt.toNat + 0)).toInt = 2 ∨ ((upd (upd fi slot.toNatClampNeg 6) x_217.toNatClampNeg r_221) (slot.toInt.toNat + 0)).toInt = 3 ∨ ((upd (upd fi slot.toNatClampNeg 6) x_217.toNatClampNeg r_221) (slot.toInt.toNat + 0)).toInt = 8 from hz) (by rw [g0]; omega), fun hz => absurd (show ((upd (upd fi slot.toNatClampNeg 6) x_217.toNatClampNeg r_221) (slot.toInt.toNat + 0)).toInt = 3 from hz) (by rw [g0]; omega)⟩)), trivial⟩, zRet ht hP hD [1, 2, 0] (by decide) rfl⟩, hS.F ht⟩) hS.2.2 dX3_readItem_116
                · exact absurd c_231 (by decide)
              · exact absurd c_230 (by decide)
            · exact absurd c_229 (by decide)
          · have fc_227 : q_224.toInt ≠ (-1) := zf_ne c_227 rfl (by decide)
            have e0 : slot.toNatClampNeg = slot.toInt.toNat + 0 := (by show (slot : Int32).toInt.toNat = _; omega)
            have e1 : x_217.toNatClampNeg = slot.toInt.toNat + 1 := (by show (x_217 : Int32).toInt.toNat = _; omega)
            have hI := zIn_a hn0 (by first | (right; decide) | (left; omega))
            exact W.vret hx hb hr (fun t ht hW => ⟨⟨(q_223, q_224, rt, ru, (upd (upd fi slot.toNatClampNeg 6) x_217.toNatClampNeg r_221)), rfl, ⟨(show 0 ≤ q_223.toInt ∧ q_223.toInt ≤ 160 from hbq_223), (show (-1) ≤ q_224.toInt ∧ q_224.toInt ≤ 160 from hbq_224), (show 0 ≤ rt.toInt ∧ rt.toInt ≤ 40 from ⟨hy9, hy10⟩), (show 0 ≤ ru.toInt ∧ ru.toInt ≤ 8 from ⟨hy11, hy12⟩), (show q_223.toInt ≤ rz.toInt from by omega), (show (q_224.toInt = -1 → zIt (upd (upd fi slot.toNatClampNeg 6) x_217.toNatClampNeg r_221) slot.toInt.toNat) from by (intro h; exfalso; omega)), (show (∀ j : Nat, j < slot.toInt.toNat → (upd (upd fi slot.toNatClampNeg 6) x_217.toNatClampNeg r_221) j = fi j) from by (intro j hj; simp only [upd]; rw [if_neg (by omega), if_neg (by omega)])), (show (q_224.toInt = (zItem fl rz.toInt rp.toInt rt.toInt ru.toInt).1 ∧ (q_224.toInt = -1 → q_223.toInt = (zItem fl rz.toInt rp.toInt rt.toInt ru.toInt).2.1 ∧ rt.toInt = (zItem fl rz.toInt rp.toInt rt.toInt ru.toInt).2.2.1 ∧ ru.toInt = (zItem fl rz.toInt rp.toInt rt.toInt ru.toInt).2.2.2)) from by (have z9 := hsr_1_1; rw [kc6] at z9; have hq : zFst fl rz.toInt rp.toInt zWds 10 = 6 ∧ ¬ ((6 : Int) = 3 ∧ ru.toInt = 8) := (by omega); have hl9 : (q_3 : Int32).toInt = rp.toInt + ((zWds ((6 : Int)).toNat).length : Nat) := (by omega); rw [zItem_w hq.1 (by decide) hq.2 hl9 hI]; dsimp only; exact ⟨by (first | rfl | omega), fun h => ⟨by (first | rfl | omega), by (show _ = (if (6 : Int) = 0 then _ else _); rw [if_neg (by decide)]), by (show _ = (if (6 : Int) = 3 then _ else _); rw [if_neg (by decide)])⟩⟩)), (show (q_224.toInt = -1 → (((upd (upd fi slot.toNatClampNeg 6) x_217.toNatClampNeg r_221) slot.toInt.toNat).toInt = 0 → rt.toInt = ((upd (upd fi slot.toNatClampNeg 6) x_217.toNatClampNeg r_221) (slot.toInt.toNat + 1)).toInt) ∧ (((upd (upd fi slot.toNatClampNeg 6) x_217.toNatClampNeg r_221) slot.toInt.toNat).toInt ≠ 0 → rt.toInt = rt.toInt) ∧ (((upd (upd fi slot.toNatClampNeg 6) x_217.toNatClampNeg r_221) slot.toInt.toNat).toInt = 3 → ru.toInt = ru.toInt + 1) ∧ (((upd (upd fi slot.toNatClampNeg 6) x_217.toNatClampNeg r_221) slot.toInt.toNat).toInt ≠ 3 → ru.toInt = ru.toInt)) from by (intro h; exfalso; omega)), (show (q_224.toInt = -1 → zSm (zDS (upd (upd fi slot.toNatClampNeg 6) x_217.toNatClampNeg r_221) slot.toInt.toNat) (zIm fl rz.toInt rp.toInt rt.toInt)) from by (intro h; exfalso; omega)), trivial⟩, zRet ht hP hD [1, 2, 0] (by decide) rfl⟩, hS.F ht⟩) hS.2.2 dX3_readItem_75
    · have kc7 : (7 : Int32).toInt = 7 := by decide
      refine lv_aload_n hx hb dX3_readItem_11 rfl (lv_at hl 1 rfl) ?_
      refine va_get (D := D) (ci := 3) (v := .ref ri) (C := RX3) (T := TX3) (N := 8) hx hb hts hi_X3_readItem_3 hown hK hP 1 rfl rfl 0 (by decide) (hts (.fieldLink RX3 11 "TheLiningsInIt$Reader" "items" "[I") (List.mem_of_getElem? (i := 1) rfl)) (fun _ h9 => h9) rfl dX3_readItem_12 ?_
      refine lv_iload_n hx hb dX3_readItem_15 rfl (lv_at hl 2 rfl) ?_
      refine lv_iload_n hx hb dX3_readItem_16 rfl (lv_at hl 0 rfl) ?_
      refine va_iast hx hb hK hP hD hS 0 0 rfl rfl (zf_in (by omega) (by omega)) dX3_readItem_17 (fun H locs hP hD hS => ?_)
      have h9R := zRe (ws' := [(ri, .inl (cI, 132, .inl (upd fi slot.toNatClampNeg 7))), (rd, .inr (3, [.ref ri, .ref rl, .int rz, .int rc, .int q_3, .int q_4, .int rt, .int ru])), (rl, .inl (cI, 160, .inl fl))]) hP hD rfl
      clear hP hD
      obtain ⟨hP, hD⟩ := h9R
      refine lv_iconst (v := 0) hx hb dX3_readItem_18 (by decide) ?_
      refine lv_istore_n (lv' := [(3, .int 0), (2, .int 7), (0, .ref rd), (1, .int slot)]) hx hb dX3_readItem_19 rfl hl (by decide) rfl (fun ls hl => ?_)
      refine lv_iload_n hx hb dX3_readItem_20 rfl (lv_at hl 0 rfl) ?_
      refine lv_iload_n hx hb dX3_readItem_21 rfl (lv_at hl 1 rfl) ?_
      refine zc_S (As := [.int 7]) (rest := [.int 0]) ⟨hx, hb, hml, hown, hts⟩ (c_R_numbersOf_7 l D cI cJ cZ cP cS po  ) (va_cwS 1 hts gX3_readItem_X3_numbersOf rfl rfl rfl dh_X3_numbersOf ⟨Nat.le_of_ble_eq_true rfl, Nat.le_of_ble_eq_true rfl⟩) hK hN (hZ.kept hS) rfl hl.1 rfl (Nat.le_of_ble_eq_true rfl) dX3_readItem_22 ⟨Nat.le_of_ble_eq_true rfl, Nat.le_of_ble_eq_true rfl⟩ (fun r_232 hr_232 => ?_)
      obtain rfl := hr_232
      refine lv_icmp_ge (tgt := 82) hx hb dX3_readItem_25 (by decide) (fun c_233 => ?_) (fun c_233 => ?_)
      · exact absurd c_233 (by decide)
      · refine lv_aload_n hx hb dX3_readItem_28 rfl (lv_at hl 2 rfl) ?_
        refine lv_bipush (v := 32) hx hb dX3_readItem_29 (by decide) ?_
        have kc32 : (32 : Int32).toInt = 32 := by decide
        skip
        refine zw_Vv (As := [.int 32]) (rest := []) (wr := [(ri, .inl (cI, 132, .inl (upd fi slot.toNatClampNeg 7)))]) ⟨hx, hb, hml, hown, hts⟩ (c_F_R_expect l D cI cJ cZ cP cS po rd ri rl (rz) (rc) (q_3) (q_4) (rt) (ru) fl (32) hy0 hy1 hy2 hy3 hbq_3.1 hbq_3.2 (by omega) hbq_4.1 hbq_4.2 hy9 hy10 hy11 hy12 H.size) (cwV 1 hts gX3_readItem_X3_expect rfl rfl rfl ⟨rfl, dh_X3_expect⟩ ⟨Nat.le_of_ble_eq_true rfl, Nat.le_of_ble_eq_true rfl⟩) hK hN (hZ.kept hS) hP hD hS hA [1, 2] [0] rfl rfl (by decide) (by decide) (by decide) (va_recv (q := (RX3, TX3, 8)) hK hP (ci := 3) (q0 := 1) rfl rfl) rfl hl.1 rfl (Nat.le_of_ble_eq_true rfl) dX3_readItem_31 ⟨Nat.le_of_ble_eq_true rfl, Nat.le_of_ble_eq_true rfl⟩ (fun u_235 H locs hr_234 hP hD hS => ?_)
        obtain ⟨q_236, q_237⟩ := u_235
        try dsimp only at hr_234
        obtain ⟨hbq_236, hbq_237, hsr_234_0, hsr_234_1, hr_234⟩ := hr_234
        have h9R := zRe (ws' := [(ri, .inl (cI, 132, .inl (upd fi slot.toNatClampNeg 7))), (rd, .inr (3, [.ref ri, .ref rl, .int rz, .int rc, .int q_236, .int q_237, .int rt, .int ru])), (rl, .inl (cI, 160, .inl fl))]) hP hD rfl
        clear hP hD
        obtain ⟨hP, hD⟩ := h9R
        refine lv_aload_n hx hb dX3_readItem_34 rfl (lv_at hl 2 rfl) ?_
        refine va_get (D := D) (ci := 3) (v := .int q_237) (C := RX3) (T := TX3) (N := 8) hx hb hts hi_X3_readItem_3 hown hK hP 1 rfl rfl 5 (by decide) (hts (.fieldLink RX3 28 "TheLiningsInIt$Reader" "fault" "I") (List.mem_of_getElem? (i := 2) rfl)) (fun _ h9 => h9) rfl dX3_readItem_35 ?_
        refine lv_iconst (v := (-1)) hx hb dX3_readItem_38 (by decide) ?_
        refine lv_icmp_ne (tgt := 67) hx hb dX3_readItem_39 (by decide) (fun c_238 => ?_) (fun c_238 => ?_)
        · have fc_238 : q_237.toInt ≠ (-1) := zf_ne c_238 rfl (by decide)
          have hn0 : zN1 fl rz.toInt (q_3 : Int32).toInt (zLo 7 0) (zHi 7 0 rt.toInt) = ((q_3 : Int32).toInt, (q_3 : Int32).toInt, 0) := zN1_no (by omega)
          refine lv_aload_n hx hb dX3_readItem_67 rfl (lv_at hl 2 rfl) ?_
          refine va_get (D := D) (ci := 3) (v := .int q_237) (C := RX3) (T := TX3) (N := 8) hx hb hts hi_X3_readItem_3 hown hK hP 1 rfl rfl 5 (by decide) (hts (.fieldLink RX3 28 "TheLiningsInIt$Reader" "fault" "I") (List.mem_of_getElem? (i := 2) rfl)) (fun _ h9 => h9) rfl dX3_readItem_68 ?_
          refine lv_iconst (v := (-1)) hx hb dX3_readItem_71 (by decide) ?_
          refine lv_icmp_eq (tgt := 76) hx hb dX3_readItem_72 (by decide) (fun c_239 => ?_) (fun c_239 => ?_)
          · exfalso; have fc_239 : q_237.toInt = (-1) := zf_eq c_239 rfl (by decide); omega
          · have fc_239 : q_237.toInt ≠ (-1) := zf_ne c_239 rfl (by decide)
            have e0 : slot.toNatClampNeg = slot.toInt.toNat + 0 := (by show (slot : Int32).toInt.toNat = _; omega)
            have hI := zIn_a hn0 (by first | (right; decide) | (left; omega))
            exact W.vret hx hb hr (fun t ht hW => ⟨⟨(q_236, q_237, rt, ru, (upd fi slot.toNatClampNeg 7)), rfl, ⟨(show 0 ≤ q_236.toInt ∧ q_236.toInt ≤ 160 from hbq_236), (show (-1) ≤ q_237.toInt ∧ q_237.toInt ≤ 160 from hbq_237), (show 0 ≤ rt.toInt ∧ rt.toInt ≤ 40 from ⟨hy9, hy10⟩), (show 0 ≤ ru.toInt ∧ ru.toInt ≤ 8 from ⟨hy11, hy12⟩), (show q_236.toInt ≤ rz.toInt from by omega), (show (q_237.toInt = -1 → zIt (upd fi slot.toNatClampNeg 7) slot.toInt.toNat) from by (intro h; exfalso; omega)), (show (∀ j : Nat, j < slot.toInt.toNat → (upd fi slot.toNatClampNeg 7) j = fi j) from by (intro j hj; simp only [upd]; rw [if_neg (by omega)])), (show (q_237.toInt = (zItem fl rz.toInt rp.toInt rt.toInt ru.toInt).1 ∧ (q_237.toInt = -1 → q_236.toInt = (zItem fl rz.toInt rp.toInt rt.toInt ru.toInt).2.1 ∧ rt.toInt = (zItem fl rz.toInt rp.toInt rt.toInt ru.toInt).2.2.1 ∧ ru.toInt = (zItem fl rz.toInt rp.toInt rt.toInt ru.toInt).2.2.2)) from by (have z9 := hsr_1_1; rw [kc7] at z9; have hq : zFst fl rz.toInt rp.toInt zWds 10 = 7 ∧ ¬ ((7 : Int) = 3 ∧ ru.toInt = 8) := (by omega); have hl9 : (q_3 : Int32).toInt = rp.toInt + ((zWds ((7 : Int)).toNat).length : Nat) := (by omega); rw [zItem_w hq.1 (by decide) hq.2 hl9 hI]; dsimp only; exact ⟨by (first | rfl | omega), fun h => ⟨by (first | rfl | omega), by (show _ = (if (7 : Int) = 0 then _ else _); rw [if_neg (by decide)]), by (show _ = (if (7 : Int) = 3 then _ else _); rw [if_neg (by decide)])⟩⟩)), (show (q_237.toInt = -1 → (((upd fi slot.toNatClampNeg 7) slot.toInt.toNat).toInt = 0 → rt.toInt = ((upd fi slot.toNatClampNeg 7) (slot.toInt.toNat + 1)).toInt) ∧ (((upd fi slot.toNatClampNeg 7) slot.toInt.toNat).toInt ≠ 0 → rt.toInt = rt.toInt) ∧ (((upd fi slot.toNatClampNeg 7) slot.toInt.toNat).toInt = 3 → ru.toInt = ru.toInt + 1) ∧ (((upd fi slot.toNatClampNeg 7) slot.toInt.toNat).toInt ≠ 3 → ru.toInt = ru.toInt)) from by (intro h; exfalso; omega)), (show (q_237.toInt = -1 → zSm (zDS (upd fi slot.toNatClampNeg 7) slot.toInt.toNat) (zIm fl rz.toInt rp.toInt rt.toInt)) from by (intro h; exfalso; omega)), trivial⟩, zRet ht hP hD [1, 2, 0] (by decide) rfl⟩, hS.F ht⟩) hS.2.2 dX3_readItem_75
        · have fc_238 : q_237.toInt = (-1) := zf_eq c_238 rfl (by decide)
          refine lv_aload_n hx hb dX3_readItem_42 rfl (lv_at hl 2 rfl) ?_
          refine va_get (D := D) (ci := 3) (v := .ref ri) (C := RX3) (T := TX3) (N := 8) hx hb hts hi_X3_readItem_3 hown hK hP 1 rfl rfl 0 (by decide) (hts (.fieldLink RX3 11 "TheLiningsInIt$Reader" "items" "[I") (List.mem_of_getElem? (i := 1) rfl)) (fun _ h9 => h9) rfl dX3_readItem_43 ?_
          refine lv_iload_n hx hb dX3_readItem_46 rfl (lv_at hl 3 rfl) ?_
          refine lv_iconst (v := 1) hx hb dX3_readItem_47 (by decide) ?_
          refine lv_iadd hx hb dX3_readItem_48 ?_
          refine lv_topi (fun x_240 ex_240 => ?_)
          have qx_240 : x_240.toInt = slot.toInt + 1 := by rw [ex_240]; exact zf_add rfl (by decide) (by omega) (by omega)
          refine lv_iload_n hx hb dX3_readItem_49 rfl (lv_at hl 0 rfl) ?_
          refine lv_iadd hx hb dX3_readItem_50 ?_
          refine lv_topi (fun y_241 ey_241 => ?_)
          obtain rfl : x_240 = y_241 := (ey_241.trans (Int32.add_zero x_240)).symm
          refine lv_aload_n hx hb dX3_readItem_51 rfl (lv_at hl 2 rfl) ?_
          refine lv_iload_n hx hb dX3_readItem_52 rfl (lv_at hl 1 rfl) ?_
          refine lv_iload_n hx hb dX3_readItem_53 rfl (lv_at hl 0 rfl) ?_
          refine zc_S (As := [.int 7, .int 0]) (rest := [.ref rd, .int x_240, .ref ri]) ⟨hx, hb, hml, hown, hts⟩ (c_R_leastOf_7_0 l D cI cJ cZ cP cS po  ) (va_cwS 2 hts gX3_readItem_X3_leastOf rfl rfl rfl dh_X3_leastOf ⟨Nat.le_of_ble_eq_true rfl, Nat.le_of_ble_eq_true rfl⟩) hK hN (hZ.kept hS) rfl hl.1 rfl (Nat.le_of_ble_eq_true rfl) dX3_readItem_54 ⟨Nat.le_of_ble_eq_true rfl, Nat.le_of_ble_eq_true rfl⟩ (fun r_242 hr_242 => ?_)
          obtain rfl := hr_242
          refine lv_aload_n hx hb dX3_readItem_57 rfl (lv_at hl 2 rfl) ?_
          refine lv_iload_n hx hb dX3_readItem_58 rfl (lv_at hl 1 rfl) ?_
          refine lv_iload_n hx hb dX3_readItem_59 rfl (lv_at hl 0 rfl) ?_
          refine zc_V (As := [.int 7, .int 0]) (rest := [.int 1, .ref rd, .int x_240, .ref ri]) ⟨hx, hb, hml, hown, hts⟩ (c_R_mostOf_7_0 l D cI cJ cZ cP cS po rd ri rl (rz) (rc) (q_236) (q_237) (rt) (ru) hy0 hy1 hy2 hy3 hbq_236.1 hbq_236.2 (by omega) hbq_237.1 hbq_237.2 hy9 hy10 hy11 hy12) (cwV 2 hts gX3_readItem_X3_mostOf rfl rfl rfl ⟨rfl, dh_X3_mostOf⟩ ⟨Nat.le_of_ble_eq_true rfl, Nat.le_of_ble_eq_true rfl⟩) hK hN (hZ.kept hS) hP (hP.sub [1] rfl) (va_recv (q := (RX3, TX3, 8)) hK hP (ci := 3) (q0 := 1) rfl rfl) rfl hl.1 rfl (Nat.le_of_ble_eq_true rfl) dX3_readItem_60 ⟨Nat.le_of_ble_eq_true rfl, Nat.le_of_ble_eq_true rfl⟩ (fun r_243 hr_243 => ?_)
          obtain rfl := hr_243
          have kc1 : (1 : Int32).toInt = 1 := by decide
          have kc9 : (9 : Int32).toInt = 9 := by decide
          skip
          refine zw_V (As := [.int 1, .int 9]) (rest := [.int x_240, .ref ri]) (wr := [(ri, .inl (cI, 132, .inl (upd fi slot.toNatClampNeg 7)))]) ⟨hx, hb, hml, hown, hts⟩ (c_F_R_readNumber l D cI cJ cZ cP cS po rd ri rl (rz) (rc) (q_236) (q_237) (rt) (ru) fl (1) (9) hy0 hy1 hy2 hy3 hbq_236.1 hbq_236.2 (by omega) hbq_237.1 hbq_237.2 hy9 hy10 hy11 hy12 H.size) (cwV 2 hts gX3_readItem_X3_readNumber rfl rfl rfl ⟨rfl, dh_X3_readNumber⟩ ⟨Nat.le_of_ble_eq_true rfl, Nat.le_of_ble_eq_true rfl⟩) hK hN (hZ.kept hS) hP hD hS hA [1, 2] [0] rfl rfl (by decide) (by decide) (by decide) (va_recv (q := (RX3, TX3, 8)) hK hP (ci := 3) (q0 := 1) rfl rfl) rfl hl.1 rfl (Nat.le_of_ble_eq_true rfl) dX3_readItem_63 ⟨Nat.le_of_ble_eq_true rfl, Nat.le_of_ble_eq_true rfl⟩ (fun r_244 u_245 H locs hr_244 hP hD hS => ?_)
          obtain ⟨q_246, q_247⟩ := u_245
          try dsimp only at hr_244
          obtain ⟨hbq_246, hbq_247, hsr_244_0, hsr_244_1, hsr_244_2, hsr_244_3, hr_244⟩ := hr_244
          have h9R := zRe (ws' := [(ri, .inl (cI, 132, .inl (upd fi slot.toNatClampNeg 7))), (rd, .inr (3, [.ref ri, .ref rl, .int rz, .int rc, .int q_246, .int q_247, .int rt, .int ru])), (rl, .inl (cI, 160, .inl fl))]) hP hD rfl
          clear hP hD
          obtain ⟨hP, hD⟩ := h9R
          obtain ⟨g_248, g_249⟩ := hr_244
          refine va_iast hx hb hK hP hD hS 0 0 rfl rfl (zf_in (by omega) (by omega)) dX3_readItem_66 (fun H locs hP hD hS => ?_)
          have h9R := zRe (ws' := [(ri, .inl (cI, 132, .inl (upd (upd fi slot.toNatClampNeg 7) x_240.toNatClampNeg r_244))), (rd, .inr (3, [.ref ri, .ref rl, .int rz, .int rc, .int q_246, .int q_247, .int rt, .int ru])), (rl, .inl (cI, 160, .inl fl))]) hP hD rfl
          clear hP hD
          obtain ⟨hP, hD⟩ := h9R
          have hn0 : zN1 fl rz.toInt (q_3 : Int32).toInt (zLo 7 0) (zHi 7 0 rt.toInt) = ((q_247 : Int32).toInt, (q_246 : Int32).toInt, r_244.toInt) := zN1_yes (p1 := (q_236 : Int32).toInt) (lo2 := ((1 : Int32)).toInt) (hi2 := ((9 : Int32)).toInt) (by omega) (by omega) hsr_244_1 hsr_244_2 (by first | decide | (show (0 : Int) = _; omega)) (by first | decide | (show (9 : Int) = _; decide) | (show rt.toInt - 1 = _; omega) | (show rt.toInt = _; omega)) (by omega)
          refine lv_aload_n hx hb dX3_readItem_67 rfl (lv_at hl 2 rfl) ?_
          refine va_get (D := D) (ci := 3) (v := .int q_247) (C := RX3) (T := TX3) (N := 8) hx hb hts hi_X3_readItem_3 hown hK hP 1 rfl rfl 5 (by decide) (hts (.fieldLink RX3 28 "TheLiningsInIt$Reader" "fault" "I") (List.mem_of_getElem? (i := 2) rfl)) (fun _ h9 => h9) rfl dX3_readItem_68 ?_
          refine lv_iconst (v := (-1)) hx hb dX3_readItem_71 (by decide) ?_
          refine lv_icmp_eq (tgt := 76) hx hb dX3_readItem_72 (by decide) (fun c_250 => ?_) (fun c_250 => ?_)
          · have fc_250 : q_247.toInt = (-1) := zf_eq c_250 rfl (by decide)
            refine lv_iinc (v := 1) (lv' := [(3, .int 1), (2, .int 7), (0, .ref rd), (1, .int slot)]) hx hb dX3_readItem_76 hl (k := 0) rfl (by decide) (by decide) rfl (fun ls hl => ?_)
            refine lv_goto (tgt := 20) hx hb dX3_readItem_79 (by decide) ?_
            refine lv_iload_n hx hb dX3_readItem_20 rfl (lv_at hl 0 rfl) ?_
            refine lv_iload_n hx hb dX3_readItem_21 rfl (lv_at hl 1 rfl) ?_
            refine zc_S (As := [.int 7]) (rest := [.int 1]) ⟨hx, hb, hml, hown, hts⟩ (c_R_numbersOf_7 l D cI cJ cZ cP cS po  ) (va_cwS 1 hts gX3_readItem_X3_numbersOf rfl rfl rfl dh_X3_numbersOf ⟨Nat.le_of_ble_eq_true rfl, Nat.le_of_ble_eq_true rfl⟩) hK hN (hZ.kept hS) rfl hl.1 rfl (Nat.le_of_ble_eq_true rfl) dX3_readItem_22 ⟨Nat.le_of_ble_eq_true rfl, Nat.le_of_ble_eq_true rfl⟩ (fun r_251 hr_251 => ?_)
            obtain rfl := hr_251
            refine lv_icmp_ge (tgt := 82) hx hb dX3_readItem_25 (by decide) (fun c_252 => ?_) (fun c_252 => ?_)
            · refine lv_iload_n hx hb dX3_readItem_82 rfl (lv_at hl 1 rfl) ?_
              refine lv_if_ne (tgt := 101) hx hb dX3_readItem_83 (by decide) (fun c_253 => ?_) (fun c_253 => ?_)
              · refine lv_iload_n hx hb dX3_readItem_101 rfl (lv_at hl 1 rfl) ?_
                refine lv_iconst (v := 3) hx hb dX3_readItem_102 (by decide) ?_
                refine lv_icmp_ne (tgt := 116) hx hb dX3_readItem_103 (by decide) (fun c_254 => ?_) (fun c_254 => ?_)
                · have e0 : slot.toNatClampNeg = slot.toInt.toNat + 0 := (by show (slot : Int32).toInt.toNat = _; omega)
                  have e1 : x_240.toNatClampNeg = slot.toInt.toNat + 1 := (by show (x_240 : Int32).toInt.toNat = _; omega)
                  have hI := zIn_a hn0 (by first | (right; decide) | (left; omega))
                  exact W.vret hx hb hr (fun t ht hW => ⟨⟨(q_246, q_247, rt, ru, (upd (upd fi slot.toNatClampNeg 7) x_240.toNatClampNeg r_244)), rfl, ⟨(show 0 ≤ q_246.toInt ∧ q_246.toInt ≤ 160 from hbq_246), (show (-1) ≤ q_247.toInt ∧ q_247.toInt ≤ 160 from hbq_247), (show 0 ≤ rt.toInt ∧ rt.toInt ≤ 40 from ⟨hy9, hy10⟩), (show 0 ≤ ru.toInt ∧ ru.toInt ≤ 8 from ⟨hy11, hy12⟩), (show q_246.toInt ≤ rz.toInt from by omega), (show (q_247.toInt = -1 → zIt (upd (upd fi slot.toNatClampNeg 7) x_240.toNatClampNeg r_244) slot.toInt.toNat) from by (intro h; have k3 : (7 : Int32).toInt = 7 := (by decide); exact zIt_mk (by simp only [upd]; rw [if_neg (by omega), if_pos (by omega)]) (by simp only [upd]; rw [if_pos (by omega)]) (rfl) (rfl) (by unfold zItv; refine ⟨?_, ?_, ?_, ?_, ?_, ?_, ?_, ?_, ?_, ?_, ?_⟩ <;> (intros; omega)))), (show (∀ j : Nat, j < slot.toInt.toNat → (upd (upd fi slot.toNatClampNeg 7) x_240.toNatClampNeg r_244) j = fi j) from by (intro j hj; simp only [upd]; rw [if_neg (by omega), if_neg (by omega)])), (show (q_247.toInt = (zItem fl rz.toInt rp.toInt rt.toInt ru.toInt).1 ∧ (q_247.toInt = -1 → q_246.toInt = (zItem fl rz.toInt rp.toInt rt.toInt ru.toInt).2.1 ∧ rt.toInt = (zItem fl rz.toInt rp.toInt rt.toInt ru.toInt).2.2.1 ∧ ru.toInt = (zItem fl rz.toInt rp.toInt rt.toInt ru.toInt).2.2.2)) from by (have z9 := hsr_1_1; rw [kc7] at z9; have hq : zFst fl rz.toInt rp.toInt zWds 10 = 7 ∧ ¬ ((7 : Int) = 3 ∧ ru.toInt = 8) := (by omega); have hl9 : (q_3 : Int32).toInt = rp.toInt + ((zWds ((7 : Int)).toNat).length : Nat) := (by omega); rw [zItem_w hq.1 (by decide) hq.2 hl9 hI]; dsimp only; exact ⟨by (first | rfl | omega), fun h => ⟨by (first | rfl | omega), by (show _ = (if (7 : Int) = 0 then _ else _); rw [if_neg (by decide)]), by (show _ = (if (7 : Int) = 3 then _ else _); rw [if_neg (by decide)])⟩⟩)), (show (q_247.toInt = -1 → (((upd (upd fi slot.toNatClampNeg 7) x_240.toNatClampNeg r_244) slot.toInt.toNat).toInt = 0 → rt.toInt = ((upd (upd fi slot.toNatClampNeg 7) x_240.toNatClampNeg r_244) (slot.toInt.toNat + 1)).toInt) ∧ (((upd (upd fi slot.toNatClampNeg 7) x_240.toNatClampNeg r_244) slot.toInt.toNat).toInt ≠ 0 → rt.toInt = rt.toInt) ∧ (((upd (upd fi slot.toNatClampNeg 7) x_240.toNatClampNeg r_244) slot.toInt.toNat).toInt = 3 → ru.toInt = ru.toInt + 1) ∧ (((upd (upd fi slot.toNatClampNeg 7) x_240.toNatClampNeg r_244) slot.toInt.toNat).toInt ≠ 3 → ru.toInt = ru.toInt)) from by (intro h; have g0 : (upd (upd fi slot.toNatClampNeg 7) x_240.toNatClampNeg r_244) slot.toInt.toNat = (7 : Int32) := (by simp only [upd]; rw [if_neg (by omega), if_pos (by omega)]); have g1 : (upd (upd fi slot.toNatClampNeg 7) x_240.toNatClampNeg r_244) (slot.toInt.toNat + 1) = (r_244 : Int32) := (by simp only [upd]; rw [if_pos (by omega)]); rw [g0, g1]; refine ⟨?_, ?_, ?_, ?_⟩ <;> (intro h9; first | rfl | omega | (exfalso; omega)))), (show (q_247.toInt = -1 → zSm (zDS (upd (upd fi slot.toNatClampNeg 7) x_240.toNatClampNeg r_244) slot.toInt.toNat) (zIm fl rz.toInt rp.toInt rt.toInt)) from by (intro h; have g0 : (upd (upd fi slot.toNatClampNeg 7) x_240.toNatClampNeg r_244) (slot.toInt.toNat + 0) = (7 : Int32) := (by simp only [upd]; rw [if_neg (by omega), if_pos (by omega)]); have g1 : (upd (upd fi slot.toNatClampNeg 7) x_240.toNatClampNeg r_244) (slot.toInt.toNat + 1) = (r_244 : Int32) := (by simp only [upd]; rw [if_pos (by omega)]); have z9 := hsr_1_1; rw [kc7] at z9; have hW : zIW fl rz.toInt rp.toInt = 7 := (by unfold zIW; omega); have hP9 : zIP fl rz.toInt rp.toInt = (q_3 : Int32).toInt := (by unfold zIP; rw [hW]; have hl9 : (q_3 : Int32).toInt = rp.toInt + ((zWds ((7 : Int)).toNat).length : Nat) := (by omega); exact hl9.symm); exact ⟨(show ((upd (upd fi slot.toNatClampNeg 7) x_240.toNatClampNeg r_244) (slot.toInt.toNat + 0)).toInt = zIW fl rz.toInt rp.toInt from by (rw [g0, hW]; omega)), (show ((upd (upd fi slot.toNatClampNeg 7) x_240.toNatClampNeg r_244) (slot.toInt.toNat + 1)).toInt = (zIn fl rz.toInt (zIP fl rz.toInt rp.toInt) rt.toInt (zIW fl rz.toInt rp.toInt)).2.2 from by (rw [g1, hP9, hW, hI])), fun hz => absurd (show ((upd (upd fi slot.toNatClampNeg 7) x_240.toNatClampNeg r_244) (slot.toInt.toNat + 0)).toInt = 2 ∨ ((upd (upd fi slot.toNatClampNeg 7) x_240.toNatClampNeg r_244) (slot.toInt.toNat + 0)).toInt = 3 ∨ ((upd (upd fi slot.toNatClampNeg 7) x_240.toNatClampNeg r_244) (slot.toInt.toNat + 0)).toInt = 8 from hz) (by rw [g0]; omega), fun hz => absurd (show ((upd (upd fi slot.toNatClampNeg 7) x_240.toNatClampNeg r_244) (slot.toInt.toNat + 0)).toInt = 3 from hz) (by rw [g0]; omega)⟩)), trivial⟩, zRet ht hP hD [1, 2, 0] (by decide) rfl⟩, hS.F ht⟩) hS.2.2 dX3_readItem_116
                · exact absurd c_254 (by decide)
              · exact absurd c_253 (by decide)
            · exact absurd c_252 (by decide)
          · have fc_250 : q_247.toInt ≠ (-1) := zf_ne c_250 rfl (by decide)
            have e0 : slot.toNatClampNeg = slot.toInt.toNat + 0 := (by show (slot : Int32).toInt.toNat = _; omega)
            have e1 : x_240.toNatClampNeg = slot.toInt.toNat + 1 := (by show (x_240 : Int32).toInt.toNat = _; omega)
            have hI := zIn_a hn0 (by first | (right; decide) | (left; omega))
            exact W.vret hx hb hr (fun t ht hW => ⟨⟨(q_246, q_247, rt, ru, (upd (upd fi slot.toNatClampNeg 7) x_240.toNatClampNeg r_244)), rfl, ⟨(show 0 ≤ q_246.toInt ∧ q_246.toInt ≤ 160 from hbq_246), (show (-1) ≤ q_247.toInt ∧ q_247.toInt ≤ 160 from hbq_247), (show 0 ≤ rt.toInt ∧ rt.toInt ≤ 40 from ⟨hy9, hy10⟩), (show 0 ≤ ru.toInt ∧ ru.toInt ≤ 8 from ⟨hy11, hy12⟩), (show q_246.toInt ≤ rz.toInt from by omega), (show (q_247.toInt = -1 → zIt (upd (upd fi slot.toNatClampNeg 7) x_240.toNatClampNeg r_244) slot.toInt.toNat) from by (intro h; exfalso; omega)), (show (∀ j : Nat, j < slot.toInt.toNat → (upd (upd fi slot.toNatClampNeg 7) x_240.toNatClampNeg r_244) j = fi j) from by (intro j hj; simp only [upd]; rw [if_neg (by omega), if_neg (by omega)])), (show (q_247.toInt = (zItem fl rz.toInt rp.toInt rt.toInt ru.toInt).1 ∧ (q_247.toInt = -1 → q_246.toInt = (zItem fl rz.toInt rp.toInt rt.toInt ru.toInt).2.1 ∧ rt.toInt = (zItem fl rz.toInt rp.toInt rt.toInt ru.toInt).2.2.1 ∧ ru.toInt = (zItem fl rz.toInt rp.toInt rt.toInt ru.toInt).2.2.2)) from by (have z9 := hsr_1_1; rw [kc7] at z9; have hq : zFst fl rz.toInt rp.toInt zWds 10 = 7 ∧ ¬ ((7 : Int) = 3 ∧ ru.toInt = 8) := (by omega); have hl9 : (q_3 : Int32).toInt = rp.toInt + ((zWds ((7 : Int)).toNat).length : Nat) := (by omega); rw [zItem_w hq.1 (by decide) hq.2 hl9 hI]; dsimp only; exact ⟨by (first | rfl | omega), fun h => ⟨by (first | rfl | omega), by (show _ = (if (7 : Int) = 0 then _ else _); rw [if_neg (by decide)]), by (show _ = (if (7 : Int) = 3 then _ else _); rw [if_neg (by decide)])⟩⟩)), (show (q_247.toInt = -1 → (((upd (upd fi slot.toNatClampNeg 7) x_240.toNatClampNeg r_244) slot.toInt.toNat).toInt = 0 → rt.toInt = ((upd (upd fi slot.toNatClampNeg 7) x_240.toNatClampNeg r_244) (slot.toInt.toNat + 1)).toInt) ∧ (((upd (upd fi slot.toNatClampNeg 7) x_240.toNatClampNeg r_244) slot.toInt.toNat).toInt ≠ 0 → rt.toInt = rt.toInt) ∧ (((upd (upd fi slot.toNatClampNeg 7) x_240.toNatClampNeg r_244) slot.toInt.toNat).toInt = 3 → ru.toInt = ru.toInt + 1) ∧ (((upd (upd fi slot.toNatClampNeg 7) x_240.toNatClampNeg r_244) slot.toInt.toNat).toInt ≠ 3 → ru.toInt = ru.toInt)) from by (intro h; exfalso; omega)), (show (q_247.toInt = -1 → zSm (zDS (upd (upd fi slot.toNatClampNeg 7) x_240.toNatClampNeg r_244) slot.toInt.toNat) (zIm fl rz.toInt rp.toInt rt.toInt)) from by (intro h; exfalso; omega)), trivial⟩, zRet ht hP hD [1, 2, 0] (by decide) rfl⟩, hS.F ht⟩) hS.2.2 dX3_readItem_75
    · have kc8 : (8 : Int32).toInt = 8 := by decide
      refine lv_aload_n hx hb dX3_readItem_11 rfl (lv_at hl 1 rfl) ?_
      refine va_get (D := D) (ci := 3) (v := .ref ri) (C := RX3) (T := TX3) (N := 8) hx hb hts hi_X3_readItem_3 hown hK hP 1 rfl rfl 0 (by decide) (hts (.fieldLink RX3 11 "TheLiningsInIt$Reader" "items" "[I") (List.mem_of_getElem? (i := 1) rfl)) (fun _ h9 => h9) rfl dX3_readItem_12 ?_
      refine lv_iload_n hx hb dX3_readItem_15 rfl (lv_at hl 2 rfl) ?_
      refine lv_iload_n hx hb dX3_readItem_16 rfl (lv_at hl 0 rfl) ?_
      refine va_iast hx hb hK hP hD hS 0 0 rfl rfl (zf_in (by omega) (by omega)) dX3_readItem_17 (fun H locs hP hD hS => ?_)
      have h9R := zRe (ws' := [(ri, .inl (cI, 132, .inl (upd fi slot.toNatClampNeg 8))), (rd, .inr (3, [.ref ri, .ref rl, .int rz, .int rc, .int q_3, .int q_4, .int rt, .int ru])), (rl, .inl (cI, 160, .inl fl))]) hP hD rfl
      clear hP hD
      obtain ⟨hP, hD⟩ := h9R
      refine lv_iconst (v := 0) hx hb dX3_readItem_18 (by decide) ?_
      refine lv_istore_n (lv' := [(3, .int 0), (2, .int 8), (0, .ref rd), (1, .int slot)]) hx hb dX3_readItem_19 rfl hl (by decide) rfl (fun ls hl => ?_)
      refine lv_iload_n hx hb dX3_readItem_20 rfl (lv_at hl 0 rfl) ?_
      refine lv_iload_n hx hb dX3_readItem_21 rfl (lv_at hl 1 rfl) ?_
      refine zc_S (As := [.int 8]) (rest := [.int 0]) ⟨hx, hb, hml, hown, hts⟩ (c_R_numbersOf_8 l D cI cJ cZ cP cS po  ) (va_cwS 1 hts gX3_readItem_X3_numbersOf rfl rfl rfl dh_X3_numbersOf ⟨Nat.le_of_ble_eq_true rfl, Nat.le_of_ble_eq_true rfl⟩) hK hN (hZ.kept hS) rfl hl.1 rfl (Nat.le_of_ble_eq_true rfl) dX3_readItem_22 ⟨Nat.le_of_ble_eq_true rfl, Nat.le_of_ble_eq_true rfl⟩ (fun r_255 hr_255 => ?_)
      obtain rfl := hr_255
      refine lv_icmp_ge (tgt := 82) hx hb dX3_readItem_25 (by decide) (fun c_256 => ?_) (fun c_256 => ?_)
      · exact absurd c_256 (by decide)
      · refine lv_aload_n hx hb dX3_readItem_28 rfl (lv_at hl 2 rfl) ?_
        refine lv_bipush (v := 32) hx hb dX3_readItem_29 (by decide) ?_
        have kc32 : (32 : Int32).toInt = 32 := by decide
        skip
        refine zw_Vv (As := [.int 32]) (rest := []) (wr := [(ri, .inl (cI, 132, .inl (upd fi slot.toNatClampNeg 8)))]) ⟨hx, hb, hml, hown, hts⟩ (c_F_R_expect l D cI cJ cZ cP cS po rd ri rl (rz) (rc) (q_3) (q_4) (rt) (ru) fl (32) hy0 hy1 hy2 hy3 hbq_3.1 hbq_3.2 (by omega) hbq_4.1 hbq_4.2 hy9 hy10 hy11 hy12 H.size) (cwV 1 hts gX3_readItem_X3_expect rfl rfl rfl ⟨rfl, dh_X3_expect⟩ ⟨Nat.le_of_ble_eq_true rfl, Nat.le_of_ble_eq_true rfl⟩) hK hN (hZ.kept hS) hP hD hS hA [1, 2] [0] rfl rfl (by decide) (by decide) (by decide) (va_recv (q := (RX3, TX3, 8)) hK hP (ci := 3) (q0 := 1) rfl rfl) rfl hl.1 rfl (Nat.le_of_ble_eq_true rfl) dX3_readItem_31 ⟨Nat.le_of_ble_eq_true rfl, Nat.le_of_ble_eq_true rfl⟩ (fun u_258 H locs hr_257 hP hD hS => ?_)
        obtain ⟨q_259, q_260⟩ := u_258
        try dsimp only at hr_257
        obtain ⟨hbq_259, hbq_260, hsr_257_0, hsr_257_1, hr_257⟩ := hr_257
        have h9R := zRe (ws' := [(ri, .inl (cI, 132, .inl (upd fi slot.toNatClampNeg 8))), (rd, .inr (3, [.ref ri, .ref rl, .int rz, .int rc, .int q_259, .int q_260, .int rt, .int ru])), (rl, .inl (cI, 160, .inl fl))]) hP hD rfl
        clear hP hD
        obtain ⟨hP, hD⟩ := h9R
        refine lv_aload_n hx hb dX3_readItem_34 rfl (lv_at hl 2 rfl) ?_
        refine va_get (D := D) (ci := 3) (v := .int q_260) (C := RX3) (T := TX3) (N := 8) hx hb hts hi_X3_readItem_3 hown hK hP 1 rfl rfl 5 (by decide) (hts (.fieldLink RX3 28 "TheLiningsInIt$Reader" "fault" "I") (List.mem_of_getElem? (i := 2) rfl)) (fun _ h9 => h9) rfl dX3_readItem_35 ?_
        refine lv_iconst (v := (-1)) hx hb dX3_readItem_38 (by decide) ?_
        refine lv_icmp_ne (tgt := 67) hx hb dX3_readItem_39 (by decide) (fun c_261 => ?_) (fun c_261 => ?_)
        · have fc_261 : q_260.toInt ≠ (-1) := zf_ne c_261 rfl (by decide)
          have hn0 : zN1 fl rz.toInt (q_3 : Int32).toInt (zLo 8 0) (zHi 8 0 rt.toInt) = ((q_3 : Int32).toInt, (q_3 : Int32).toInt, 0) := zN1_no (by omega)
          refine lv_aload_n hx hb dX3_readItem_67 rfl (lv_at hl 2 rfl) ?_
          refine va_get (D := D) (ci := 3) (v := .int q_260) (C := RX3) (T := TX3) (N := 8) hx hb hts hi_X3_readItem_3 hown hK hP 1 rfl rfl 5 (by decide) (hts (.fieldLink RX3 28 "TheLiningsInIt$Reader" "fault" "I") (List.mem_of_getElem? (i := 2) rfl)) (fun _ h9 => h9) rfl dX3_readItem_68 ?_
          refine lv_iconst (v := (-1)) hx hb dX3_readItem_71 (by decide) ?_
          refine lv_icmp_eq (tgt := 76) hx hb dX3_readItem_72 (by decide) (fun c_262 => ?_) (fun c_262 => ?_)
          · exfalso; have fc_262 : q_260.toInt = (-1) := zf_eq c_262 rfl (by decide); omega
          · have fc_262 : q_260.toInt ≠ (-1) := zf_ne c_262 rfl (by decide)
            have e0 : slot.toNatClampNeg = slot.toInt.toNat + 0 := (by show (slot : Int32).toInt.toNat = _; omega)
            have hI := zIn_a hn0 (by first | (right; decide) | (left; omega))
            exact W.vret hx hb hr (fun t ht hW => ⟨⟨(q_259, q_260, rt, ru, (upd fi slot.toNatClampNeg 8)), rfl, ⟨(show 0 ≤ q_259.toInt ∧ q_259.toInt ≤ 160 from hbq_259), (show (-1) ≤ q_260.toInt ∧ q_260.toInt ≤ 160 from hbq_260), (show 0 ≤ rt.toInt ∧ rt.toInt ≤ 40 from ⟨hy9, hy10⟩), (show 0 ≤ ru.toInt ∧ ru.toInt ≤ 8 from ⟨hy11, hy12⟩), (show q_259.toInt ≤ rz.toInt from by omega), (show (q_260.toInt = -1 → zIt (upd fi slot.toNatClampNeg 8) slot.toInt.toNat) from by (intro h; exfalso; omega)), (show (∀ j : Nat, j < slot.toInt.toNat → (upd fi slot.toNatClampNeg 8) j = fi j) from by (intro j hj; simp only [upd]; rw [if_neg (by omega)])), (show (q_260.toInt = (zItem fl rz.toInt rp.toInt rt.toInt ru.toInt).1 ∧ (q_260.toInt = -1 → q_259.toInt = (zItem fl rz.toInt rp.toInt rt.toInt ru.toInt).2.1 ∧ rt.toInt = (zItem fl rz.toInt rp.toInt rt.toInt ru.toInt).2.2.1 ∧ ru.toInt = (zItem fl rz.toInt rp.toInt rt.toInt ru.toInt).2.2.2)) from by (have z9 := hsr_1_1; rw [kc8] at z9; have hq : zFst fl rz.toInt rp.toInt zWds 10 = 8 ∧ ¬ ((8 : Int) = 3 ∧ ru.toInt = 8) := (by omega); have hl9 : (q_3 : Int32).toInt = rp.toInt + ((zWds ((8 : Int)).toNat).length : Nat) := (by omega); rw [zItem_w hq.1 (by decide) hq.2 hl9 hI]; dsimp only; exact ⟨by (first | rfl | omega), fun h => ⟨by (first | rfl | omega), by (show _ = (if (8 : Int) = 0 then _ else _); rw [if_neg (by decide)]), by (show _ = (if (8 : Int) = 3 then _ else _); rw [if_neg (by decide)])⟩⟩)), (show (q_260.toInt = -1 → (((upd fi slot.toNatClampNeg 8) slot.toInt.toNat).toInt = 0 → rt.toInt = ((upd fi slot.toNatClampNeg 8) (slot.toInt.toNat + 1)).toInt) ∧ (((upd fi slot.toNatClampNeg 8) slot.toInt.toNat).toInt ≠ 0 → rt.toInt = rt.toInt) ∧ (((upd fi slot.toNatClampNeg 8) slot.toInt.toNat).toInt = 3 → ru.toInt = ru.toInt + 1) ∧ (((upd fi slot.toNatClampNeg 8) slot.toInt.toNat).toInt ≠ 3 → ru.toInt = ru.toInt)) from by (intro h; exfalso; omega)), (show (q_260.toInt = -1 → zSm (zDS (upd fi slot.toNatClampNeg 8) slot.toInt.toNat) (zIm fl rz.toInt rp.toInt rt.toInt)) from by (intro h; exfalso; omega)), trivial⟩, zRet ht hP hD [1, 2, 0] (by decide) rfl⟩, hS.F ht⟩) hS.2.2 dX3_readItem_75
        · have fc_261 : q_260.toInt = (-1) := zf_eq c_261 rfl (by decide)
          refine lv_aload_n hx hb dX3_readItem_42 rfl (lv_at hl 2 rfl) ?_
          refine va_get (D := D) (ci := 3) (v := .ref ri) (C := RX3) (T := TX3) (N := 8) hx hb hts hi_X3_readItem_3 hown hK hP 1 rfl rfl 0 (by decide) (hts (.fieldLink RX3 11 "TheLiningsInIt$Reader" "items" "[I") (List.mem_of_getElem? (i := 1) rfl)) (fun _ h9 => h9) rfl dX3_readItem_43 ?_
          refine lv_iload_n hx hb dX3_readItem_46 rfl (lv_at hl 3 rfl) ?_
          refine lv_iconst (v := 1) hx hb dX3_readItem_47 (by decide) ?_
          refine lv_iadd hx hb dX3_readItem_48 ?_
          refine lv_topi (fun x_263 ex_263 => ?_)
          have qx_263 : x_263.toInt = slot.toInt + 1 := by rw [ex_263]; exact zf_add rfl (by decide) (by omega) (by omega)
          refine lv_iload_n hx hb dX3_readItem_49 rfl (lv_at hl 0 rfl) ?_
          refine lv_iadd hx hb dX3_readItem_50 ?_
          refine lv_topi (fun y_264 ey_264 => ?_)
          obtain rfl : x_263 = y_264 := (ey_264.trans (Int32.add_zero x_263)).symm
          refine lv_aload_n hx hb dX3_readItem_51 rfl (lv_at hl 2 rfl) ?_
          refine lv_iload_n hx hb dX3_readItem_52 rfl (lv_at hl 1 rfl) ?_
          refine lv_iload_n hx hb dX3_readItem_53 rfl (lv_at hl 0 rfl) ?_
          refine zc_S (As := [.int 8, .int 0]) (rest := [.ref rd, .int x_263, .ref ri]) ⟨hx, hb, hml, hown, hts⟩ (c_R_leastOf_8_0 l D cI cJ cZ cP cS po  ) (va_cwS 2 hts gX3_readItem_X3_leastOf rfl rfl rfl dh_X3_leastOf ⟨Nat.le_of_ble_eq_true rfl, Nat.le_of_ble_eq_true rfl⟩) hK hN (hZ.kept hS) rfl hl.1 rfl (Nat.le_of_ble_eq_true rfl) dX3_readItem_54 ⟨Nat.le_of_ble_eq_true rfl, Nat.le_of_ble_eq_true rfl⟩ (fun r_265 hr_265 => ?_)
          obtain rfl := hr_265
          refine lv_aload_n hx hb dX3_readItem_57 rfl (lv_at hl 2 rfl) ?_
          refine lv_iload_n hx hb dX3_readItem_58 rfl (lv_at hl 1 rfl) ?_
          refine lv_iload_n hx hb dX3_readItem_59 rfl (lv_at hl 0 rfl) ?_
          refine zc_V (As := [.int 8, .int 0]) (rest := [.int 0, .ref rd, .int x_263, .ref ri]) ⟨hx, hb, hml, hown, hts⟩ (c_R_mostOf_8_0 l D cI cJ cZ cP cS po rd ri rl (rz) (rc) (q_259) (q_260) (rt) (ru) hy0 hy1 hy2 hy3 hbq_259.1 hbq_259.2 (by omega) hbq_260.1 hbq_260.2 hy9 hy10 hy11 hy12) (cwV 2 hts gX3_readItem_X3_mostOf rfl rfl rfl ⟨rfl, dh_X3_mostOf⟩ ⟨Nat.le_of_ble_eq_true rfl, Nat.le_of_ble_eq_true rfl⟩) hK hN (hZ.kept hS) hP (hP.sub [1] rfl) (va_recv (q := (RX3, TX3, 8)) hK hP (ci := 3) (q0 := 1) rfl rfl) rfl hl.1 rfl (Nat.le_of_ble_eq_true rfl) dX3_readItem_60 ⟨Nat.le_of_ble_eq_true rfl, Nat.le_of_ble_eq_true rfl⟩ (fun r_266 hr_266 => ?_)
          obtain rfl := hr_266
          have kc0 : (0 : Int32).toInt = 0 := by decide
          have kc2 : (2 : Int32).toInt = 2 := by decide
          skip
          refine zw_V (As := [.int 0, .int 2]) (rest := [.int x_263, .ref ri]) (wr := [(ri, .inl (cI, 132, .inl (upd fi slot.toNatClampNeg 8)))]) ⟨hx, hb, hml, hown, hts⟩ (c_F_R_readNumber l D cI cJ cZ cP cS po rd ri rl (rz) (rc) (q_259) (q_260) (rt) (ru) fl (0) (2) hy0 hy1 hy2 hy3 hbq_259.1 hbq_259.2 (by omega) hbq_260.1 hbq_260.2 hy9 hy10 hy11 hy12 H.size) (cwV 2 hts gX3_readItem_X3_readNumber rfl rfl rfl ⟨rfl, dh_X3_readNumber⟩ ⟨Nat.le_of_ble_eq_true rfl, Nat.le_of_ble_eq_true rfl⟩) hK hN (hZ.kept hS) hP hD hS hA [1, 2] [0] rfl rfl (by decide) (by decide) (by decide) (va_recv (q := (RX3, TX3, 8)) hK hP (ci := 3) (q0 := 1) rfl rfl) rfl hl.1 rfl (Nat.le_of_ble_eq_true rfl) dX3_readItem_63 ⟨Nat.le_of_ble_eq_true rfl, Nat.le_of_ble_eq_true rfl⟩ (fun r_267 u_268 H locs hr_267 hP hD hS => ?_)
          obtain ⟨q_269, q_270⟩ := u_268
          try dsimp only at hr_267
          obtain ⟨hbq_269, hbq_270, hsr_267_0, hsr_267_1, hsr_267_2, hsr_267_3, hr_267⟩ := hr_267
          have h9R := zRe (ws' := [(ri, .inl (cI, 132, .inl (upd fi slot.toNatClampNeg 8))), (rd, .inr (3, [.ref ri, .ref rl, .int rz, .int rc, .int q_269, .int q_270, .int rt, .int ru])), (rl, .inl (cI, 160, .inl fl))]) hP hD rfl
          clear hP hD
          obtain ⟨hP, hD⟩ := h9R
          obtain ⟨g_271, g_272⟩ := hr_267
          refine va_iast hx hb hK hP hD hS 0 0 rfl rfl (zf_in (by omega) (by omega)) dX3_readItem_66 (fun H locs hP hD hS => ?_)
          have h9R := zRe (ws' := [(ri, .inl (cI, 132, .inl (upd (upd fi slot.toNatClampNeg 8) x_263.toNatClampNeg r_267))), (rd, .inr (3, [.ref ri, .ref rl, .int rz, .int rc, .int q_269, .int q_270, .int rt, .int ru])), (rl, .inl (cI, 160, .inl fl))]) hP hD rfl
          clear hP hD
          obtain ⟨hP, hD⟩ := h9R
          have hn0 : zN1 fl rz.toInt (q_3 : Int32).toInt (zLo 8 0) (zHi 8 0 rt.toInt) = ((q_270 : Int32).toInt, (q_269 : Int32).toInt, r_267.toInt) := zN1_yes (p1 := (q_259 : Int32).toInt) (lo2 := ((0 : Int32)).toInt) (hi2 := ((2 : Int32)).toInt) (by omega) (by omega) hsr_267_1 hsr_267_2 (by first | decide | (show (0 : Int) = _; omega)) (by first | decide | (show (2 : Int) = _; decide) | (show rt.toInt - 1 = _; omega) | (show rt.toInt = _; omega)) (by omega)
          refine lv_aload_n hx hb dX3_readItem_67 rfl (lv_at hl 2 rfl) ?_
          refine va_get (D := D) (ci := 3) (v := .int q_270) (C := RX3) (T := TX3) (N := 8) hx hb hts hi_X3_readItem_3 hown hK hP 1 rfl rfl 5 (by decide) (hts (.fieldLink RX3 28 "TheLiningsInIt$Reader" "fault" "I") (List.mem_of_getElem? (i := 2) rfl)) (fun _ h9 => h9) rfl dX3_readItem_68 ?_
          refine lv_iconst (v := (-1)) hx hb dX3_readItem_71 (by decide) ?_
          refine lv_icmp_eq (tgt := 76) hx hb dX3_readItem_72 (by decide) (fun c_273 => ?_) (fun c_273 => ?_)
          · have fc_273 : q_270.toInt = (-1) := zf_eq c_273 rfl (by decide)
            refine lv_iinc (v := 1) (lv' := [(3, .int 1), (2, .int 8), (0, .ref rd), (1, .int slot)]) hx hb dX3_readItem_76 hl (k := 0) rfl (by decide) (by decide) rfl (fun ls hl => ?_)
            refine lv_goto (tgt := 20) hx hb dX3_readItem_79 (by decide) ?_
            refine lv_iload_n hx hb dX3_readItem_20 rfl (lv_at hl 0 rfl) ?_
            refine lv_iload_n hx hb dX3_readItem_21 rfl (lv_at hl 1 rfl) ?_
            refine zc_S (As := [.int 8]) (rest := [.int 1]) ⟨hx, hb, hml, hown, hts⟩ (c_R_numbersOf_8 l D cI cJ cZ cP cS po  ) (va_cwS 1 hts gX3_readItem_X3_numbersOf rfl rfl rfl dh_X3_numbersOf ⟨Nat.le_of_ble_eq_true rfl, Nat.le_of_ble_eq_true rfl⟩) hK hN (hZ.kept hS) rfl hl.1 rfl (Nat.le_of_ble_eq_true rfl) dX3_readItem_22 ⟨Nat.le_of_ble_eq_true rfl, Nat.le_of_ble_eq_true rfl⟩ (fun r_274 hr_274 => ?_)
            obtain rfl := hr_274
            refine lv_icmp_ge (tgt := 82) hx hb dX3_readItem_25 (by decide) (fun c_275 => ?_) (fun c_275 => ?_)
            · exact absurd c_275 (by decide)
            · refine lv_aload_n hx hb dX3_readItem_28 rfl (lv_at hl 2 rfl) ?_
              refine lv_bipush (v := 32) hx hb dX3_readItem_29 (by decide) ?_
              skip
              refine zw_Vv (As := [.int 32]) (rest := []) (wr := [(ri, .inl (cI, 132, .inl (upd (upd fi slot.toNatClampNeg 8) x_263.toNatClampNeg r_267)))]) ⟨hx, hb, hml, hown, hts⟩ (c_F_R_expect l D cI cJ cZ cP cS po rd ri rl (rz) (rc) (q_269) (q_270) (rt) (ru) fl (32) hy0 hy1 hy2 hy3 hbq_269.1 hbq_269.2 (by omega) hbq_270.1 hbq_270.2 hy9 hy10 hy11 hy12 H.size) (cwV 1 hts gX3_readItem_X3_expect rfl rfl rfl ⟨rfl, dh_X3_expect⟩ ⟨Nat.le_of_ble_eq_true rfl, Nat.le_of_ble_eq_true rfl⟩) hK hN (hZ.kept hS) hP hD hS hA [1, 2] [0] rfl rfl (by decide) (by decide) (by decide) (va_recv (q := (RX3, TX3, 8)) hK hP (ci := 3) (q0 := 1) rfl rfl) rfl hl.1 rfl (Nat.le_of_ble_eq_true rfl) dX3_readItem_31 ⟨Nat.le_of_ble_eq_true rfl, Nat.le_of_ble_eq_true rfl⟩ (fun u_277 H locs hr_276 hP hD hS => ?_)
              obtain ⟨q_278, q_279⟩ := u_277
              try dsimp only at hr_276
              obtain ⟨hbq_278, hbq_279, hsr_276_0, hsr_276_1, hr_276⟩ := hr_276
              have h9R := zRe (ws' := [(ri, .inl (cI, 132, .inl (upd (upd fi slot.toNatClampNeg 8) x_263.toNatClampNeg r_267))), (rd, .inr (3, [.ref ri, .ref rl, .int rz, .int rc, .int q_278, .int q_279, .int rt, .int ru])), (rl, .inl (cI, 160, .inl fl))]) hP hD rfl
              clear hP hD
              obtain ⟨hP, hD⟩ := h9R
              refine lv_aload_n hx hb dX3_readItem_34 rfl (lv_at hl 2 rfl) ?_
              refine va_get (D := D) (ci := 3) (v := .int q_279) (C := RX3) (T := TX3) (N := 8) hx hb hts hi_X3_readItem_3 hown hK hP 1 rfl rfl 5 (by decide) (hts (.fieldLink RX3 28 "TheLiningsInIt$Reader" "fault" "I") (List.mem_of_getElem? (i := 2) rfl)) (fun _ h9 => h9) rfl dX3_readItem_35 ?_
              refine lv_iconst (v := (-1)) hx hb dX3_readItem_38 (by decide) ?_
              refine lv_icmp_ne (tgt := 67) hx hb dX3_readItem_39 (by decide) (fun c_280 => ?_) (fun c_280 => ?_)
              · have fc_280 : q_279.toInt ≠ (-1) := zf_ne c_280 rfl (by decide)
                have hn1 : zN1 fl rz.toInt (q_269 : Int32).toInt (zLo 8 1) (zHi 8 1 rt.toInt) = ((q_269 : Int32).toInt, (q_269 : Int32).toInt, 0) := zN1_no (by omega)
                refine lv_aload_n hx hb dX3_readItem_67 rfl (lv_at hl 2 rfl) ?_
                refine va_get (D := D) (ci := 3) (v := .int q_279) (C := RX3) (T := TX3) (N := 8) hx hb hts hi_X3_readItem_3 hown hK hP 1 rfl rfl 5 (by decide) (hts (.fieldLink RX3 28 "TheLiningsInIt$Reader" "fault" "I") (List.mem_of_getElem? (i := 2) rfl)) (fun _ h9 => h9) rfl dX3_readItem_68 ?_
                refine lv_iconst (v := (-1)) hx hb dX3_readItem_71 (by decide) ?_
                refine lv_icmp_eq (tgt := 76) hx hb dX3_readItem_72 (by decide) (fun c_281 => ?_) (fun c_281 => ?_)
                · exfalso; have fc_281 : q_279.toInt = (-1) := zf_eq c_281 rfl (by decide); omega
                · have fc_281 : q_279.toInt ≠ (-1) := zf_ne c_281 rfl (by decide)
                  have e0 : slot.toNatClampNeg = slot.toInt.toNat + 0 := (by show (slot : Int32).toInt.toNat = _; omega)
                  have e1 : x_263.toNatClampNeg = slot.toInt.toNat + 1 := (by show (x_263 : Int32).toInt.toNat = _; omega)
                  have hI := zIn_b (by have z := hn0; rw [show (q_270 : Int32).toInt = -1 from by omega] at z; exact z) (by decide) hn1 (by first | (right; decide) | (left; omega))
                  exact W.vret hx hb hr (fun t ht hW => ⟨⟨(q_278, q_279, rt, ru, (upd (upd fi slot.toNatClampNeg 8) x_263.toNatClampNeg r_267)), rfl, ⟨(show 0 ≤ q_278.toInt ∧ q_278.toInt ≤ 160 from hbq_278), (show (-1) ≤ q_279.toInt ∧ q_279.toInt ≤ 160 from hbq_279), (show 0 ≤ rt.toInt ∧ rt.toInt ≤ 40 from ⟨hy9, hy10⟩), (show 0 ≤ ru.toInt ∧ ru.toInt ≤ 8 from ⟨hy11, hy12⟩), (show q_278.toInt ≤ rz.toInt from by omega), (show (q_279.toInt = -1 → zIt (upd (upd fi slot.toNatClampNeg 8) x_263.toNatClampNeg r_267) slot.toInt.toNat) from by (intro h; exfalso; omega)), (show (∀ j : Nat, j < slot.toInt.toNat → (upd (upd fi slot.toNatClampNeg 8) x_263.toNatClampNeg r_267) j = fi j) from by (intro j hj; simp only [upd]; rw [if_neg (by omega), if_neg (by omega)])), (show (q_279.toInt = (zItem fl rz.toInt rp.toInt rt.toInt ru.toInt).1 ∧ (q_279.toInt = -1 → q_278.toInt = (zItem fl rz.toInt rp.toInt rt.toInt ru.toInt).2.1 ∧ rt.toInt = (zItem fl rz.toInt rp.toInt rt.toInt ru.toInt).2.2.1 ∧ ru.toInt = (zItem fl rz.toInt rp.toInt rt.toInt ru.toInt).2.2.2)) from by (have z9 := hsr_1_1; rw [kc8] at z9; have hq : zFst fl rz.toInt rp.toInt zWds 10 = 8 ∧ ¬ ((8 : Int) = 3 ∧ ru.toInt = 8) := (by omega); have hl9 : (q_3 : Int32).toInt = rp.toInt + ((zWds ((8 : Int)).toNat).length : Nat) := (by omega); rw [zItem_w hq.1 (by decide) hq.2 hl9 hI]; dsimp only; exact ⟨by (first | rfl | omega), fun h => ⟨by (first | rfl | omega), by (show _ = (if (8 : Int) = 0 then _ else _); rw [if_neg (by decide)]), by (show _ = (if (8 : Int) = 3 then _ else _); rw [if_neg (by decide)])⟩⟩)), (show (q_279.toInt = -1 → (((upd (upd fi slot.toNatClampNeg 8) x_263.toNatClampNeg r_267) slot.toInt.toNat).toInt = 0 → rt.toInt = ((upd (upd fi slot.toNatClampNeg 8) x_263.toNatClampNeg r_267) (slot.toInt.toNat + 1)).toInt) ∧ (((upd (upd fi slot.toNatClampNeg 8) x_263.toNatClampNeg r_267) slot.toInt.toNat).toInt ≠ 0 → rt.toInt = rt.toInt) ∧ (((upd (upd fi slot.toNatClampNeg 8) x_263.toNatClampNeg r_267) slot.toInt.toNat).toInt = 3 → ru.toInt = ru.toInt + 1) ∧ (((upd (upd fi slot.toNatClampNeg 8) x_263.toNatClampNeg r_267) slot.toInt.toNat).toInt ≠ 3 → ru.toInt = ru.toInt)) from by (intro h; exfalso; omega)), (show (q_279.toInt = -1 → zSm (zDS (upd (upd fi slot.toNatClampNeg 8) x_263.toNatClampNeg r_267) slot.toInt.toNat) (zIm fl rz.toInt rp.toInt rt.toInt)) from by (intro h; exfalso; omega)), trivial⟩, zRet ht hP hD [1, 2, 0] (by decide) rfl⟩, hS.F ht⟩) hS.2.2 dX3_readItem_75
              · have fc_280 : q_279.toInt = (-1) := zf_eq c_280 rfl (by decide)
                refine lv_aload_n hx hb dX3_readItem_42 rfl (lv_at hl 2 rfl) ?_
                refine va_get (D := D) (ci := 3) (v := .ref ri) (C := RX3) (T := TX3) (N := 8) hx hb hts hi_X3_readItem_3 hown hK hP 1 rfl rfl 0 (by decide) (hts (.fieldLink RX3 11 "TheLiningsInIt$Reader" "items" "[I") (List.mem_of_getElem? (i := 1) rfl)) (fun _ h9 => h9) rfl dX3_readItem_43 ?_
                refine lv_iload_n hx hb dX3_readItem_46 rfl (lv_at hl 3 rfl) ?_
                refine lv_iconst (v := 1) hx hb dX3_readItem_47 (by decide) ?_
                refine lv_iadd hx hb dX3_readItem_48 ?_
                refine lv_topi (fun y_282 ey_282 => ?_)
                obtain rfl : x_263 = y_282 := ex_263.trans ey_282.symm
                refine lv_iload_n hx hb dX3_readItem_49 rfl (lv_at hl 0 rfl) ?_
                refine lv_iadd hx hb dX3_readItem_50 ?_
                refine lv_topi (fun x_283 ex_283 => ?_)
                have qx_283 : x_283.toInt = x_263.toInt + 1 := by rw [ex_283]; exact zf_add rfl (by decide) (by omega) (by omega)
                refine lv_aload_n hx hb dX3_readItem_51 rfl (lv_at hl 2 rfl) ?_
                refine lv_iload_n hx hb dX3_readItem_52 rfl (lv_at hl 1 rfl) ?_
                refine lv_iload_n hx hb dX3_readItem_53 rfl (lv_at hl 0 rfl) ?_
                refine zc_S (As := [.int 8, .int 1]) (rest := [.ref rd, .int x_283, .ref ri]) ⟨hx, hb, hml, hown, hts⟩ (c_R_leastOf_8_1 l D cI cJ cZ cP cS po  ) (va_cwS 2 hts gX3_readItem_X3_leastOf rfl rfl rfl dh_X3_leastOf ⟨Nat.le_of_ble_eq_true rfl, Nat.le_of_ble_eq_true rfl⟩) hK hN (hZ.kept hS) rfl hl.1 rfl (Nat.le_of_ble_eq_true rfl) dX3_readItem_54 ⟨Nat.le_of_ble_eq_true rfl, Nat.le_of_ble_eq_true rfl⟩ (fun r_284 hr_284 => ?_)
                obtain rfl := hr_284
                refine lv_aload_n hx hb dX3_readItem_57 rfl (lv_at hl 2 rfl) ?_
                refine lv_iload_n hx hb dX3_readItem_58 rfl (lv_at hl 1 rfl) ?_
                refine lv_iload_n hx hb dX3_readItem_59 rfl (lv_at hl 0 rfl) ?_
                refine zc_V (As := [.int 8, .int 1]) (rest := [.int 0, .ref rd, .int x_283, .ref ri]) ⟨hx, hb, hml, hown, hts⟩ (c_R_mostOf_8_1 l D cI cJ cZ cP cS po rd ri rl (rz) (rc) (q_278) (q_279) (rt) (ru) hy0 hy1 hy2 hy3 hbq_278.1 hbq_278.2 (by omega) hbq_279.1 hbq_279.2 hy9 hy10 hy11 hy12) (cwV 2 hts gX3_readItem_X3_mostOf rfl rfl rfl ⟨rfl, dh_X3_mostOf⟩ ⟨Nat.le_of_ble_eq_true rfl, Nat.le_of_ble_eq_true rfl⟩) hK hN (hZ.kept hS) hP (hP.sub [1] rfl) (va_recv (q := (RX3, TX3, 8)) hK hP (ci := 3) (q0 := 1) rfl rfl) rfl hl.1 rfl (Nat.le_of_ble_eq_true rfl) dX3_readItem_60 ⟨Nat.le_of_ble_eq_true rfl, Nat.le_of_ble_eq_true rfl⟩ (fun r_285 hr_285 => ?_)
                obtain rfl := hr_285
                have kc99 : (99 : Int32).toInt = 99 := by decide
                skip
                refine zw_V (As := [.int 0, .int 99]) (rest := [.int x_283, .ref ri]) (wr := [(ri, .inl (cI, 132, .inl (upd (upd fi slot.toNatClampNeg 8) x_263.toNatClampNeg r_267)))]) ⟨hx, hb, hml, hown, hts⟩ (c_F_R_readNumber l D cI cJ cZ cP cS po rd ri rl (rz) (rc) (q_278) (q_279) (rt) (ru) fl (0) (99) hy0 hy1 hy2 hy3 hbq_278.1 hbq_278.2 (by omega) hbq_279.1 hbq_279.2 hy9 hy10 hy11 hy12 H.size) (cwV 2 hts gX3_readItem_X3_readNumber rfl rfl rfl ⟨rfl, dh_X3_readNumber⟩ ⟨Nat.le_of_ble_eq_true rfl, Nat.le_of_ble_eq_true rfl⟩) hK hN (hZ.kept hS) hP hD hS hA [1, 2] [0] rfl rfl (by decide) (by decide) (by decide) (va_recv (q := (RX3, TX3, 8)) hK hP (ci := 3) (q0 := 1) rfl rfl) rfl hl.1 rfl (Nat.le_of_ble_eq_true rfl) dX3_readItem_63 ⟨Nat.le_of_ble_eq_true rfl, Nat.le_of_ble_eq_true rfl⟩ (fun r_286 u_287 H locs hr_286 hP hD hS => ?_)
                obtain ⟨q_288, q_289⟩ := u_287
                try dsimp only at hr_286
                obtain ⟨hbq_288, hbq_289, hsr_286_0, hsr_286_1, hsr_286_2, hsr_286_3, hr_286⟩ := hr_286
                have h9R := zRe (ws' := [(ri, .inl (cI, 132, .inl (upd (upd fi slot.toNatClampNeg 8) x_263.toNatClampNeg r_267))), (rd, .inr (3, [.ref ri, .ref rl, .int rz, .int rc, .int q_288, .int q_289, .int rt, .int ru])), (rl, .inl (cI, 160, .inl fl))]) hP hD rfl
                clear hP hD
                obtain ⟨hP, hD⟩ := h9R
                obtain ⟨g_290, g_291⟩ := hr_286
                refine va_iast hx hb hK hP hD hS 0 0 rfl rfl (zf_in (by omega) (by omega)) dX3_readItem_66 (fun H locs hP hD hS => ?_)
                have h9R := zRe (ws' := [(ri, .inl (cI, 132, .inl (upd (upd (upd fi slot.toNatClampNeg 8) x_263.toNatClampNeg r_267) x_283.toNatClampNeg r_286))), (rd, .inr (3, [.ref ri, .ref rl, .int rz, .int rc, .int q_288, .int q_289, .int rt, .int ru])), (rl, .inl (cI, 160, .inl fl))]) hP hD rfl
                clear hP hD
                obtain ⟨hP, hD⟩ := h9R
                have hn1 : zN1 fl rz.toInt (q_269 : Int32).toInt (zLo 8 1) (zHi 8 1 rt.toInt) = ((q_289 : Int32).toInt, (q_288 : Int32).toInt, r_286.toInt) := zN1_yes (p1 := (q_278 : Int32).toInt) (lo2 := ((0 : Int32)).toInt) (hi2 := ((99 : Int32)).toInt) (by omega) (by omega) hsr_286_1 hsr_286_2 (by first | decide | (show (0 : Int) = _; omega)) (by first | decide | (show (99 : Int) = _; decide) | (show rt.toInt - 1 = _; omega) | (show rt.toInt = _; omega)) (by omega)
                refine lv_aload_n hx hb dX3_readItem_67 rfl (lv_at hl 2 rfl) ?_
                refine va_get (D := D) (ci := 3) (v := .int q_289) (C := RX3) (T := TX3) (N := 8) hx hb hts hi_X3_readItem_3 hown hK hP 1 rfl rfl 5 (by decide) (hts (.fieldLink RX3 28 "TheLiningsInIt$Reader" "fault" "I") (List.mem_of_getElem? (i := 2) rfl)) (fun _ h9 => h9) rfl dX3_readItem_68 ?_
                refine lv_iconst (v := (-1)) hx hb dX3_readItem_71 (by decide) ?_
                refine lv_icmp_eq (tgt := 76) hx hb dX3_readItem_72 (by decide) (fun c_292 => ?_) (fun c_292 => ?_)
                · have fc_292 : q_289.toInt = (-1) := zf_eq c_292 rfl (by decide)
                  refine lv_iinc (v := 2) (lv' := [(3, .int 2), (2, .int 8), (0, .ref rd), (1, .int slot)]) hx hb dX3_readItem_76 hl (k := 0) rfl (by decide) (by decide) rfl (fun ls hl => ?_)
                  refine lv_goto (tgt := 20) hx hb dX3_readItem_79 (by decide) ?_
                  refine lv_iload_n hx hb dX3_readItem_20 rfl (lv_at hl 0 rfl) ?_
                  refine lv_iload_n hx hb dX3_readItem_21 rfl (lv_at hl 1 rfl) ?_
                  refine zc_S (As := [.int 8]) (rest := [.int 2]) ⟨hx, hb, hml, hown, hts⟩ (c_R_numbersOf_8 l D cI cJ cZ cP cS po  ) (va_cwS 1 hts gX3_readItem_X3_numbersOf rfl rfl rfl dh_X3_numbersOf ⟨Nat.le_of_ble_eq_true rfl, Nat.le_of_ble_eq_true rfl⟩) hK hN (hZ.kept hS) rfl hl.1 rfl (Nat.le_of_ble_eq_true rfl) dX3_readItem_22 ⟨Nat.le_of_ble_eq_true rfl, Nat.le_of_ble_eq_true rfl⟩ (fun r_293 hr_293 => ?_)
                  obtain rfl := hr_293
                  refine lv_icmp_ge (tgt := 82) hx hb dX3_readItem_25 (by decide) (fun c_294 => ?_) (fun c_294 => ?_)
                  · refine lv_iload_n hx hb dX3_readItem_82 rfl (lv_at hl 1 rfl) ?_
                    refine lv_if_ne (tgt := 101) hx hb dX3_readItem_83 (by decide) (fun c_295 => ?_) (fun c_295 => ?_)
                    · refine lv_iload_n hx hb dX3_readItem_101 rfl (lv_at hl 1 rfl) ?_
                      refine lv_iconst (v := 3) hx hb dX3_readItem_102 (by decide) ?_
                      refine lv_icmp_ne (tgt := 116) hx hb dX3_readItem_103 (by decide) (fun c_296 => ?_) (fun c_296 => ?_)
                      · have e0 : slot.toNatClampNeg = slot.toInt.toNat + 0 := (by show (slot : Int32).toInt.toNat = _; omega)
                        have e1 : x_263.toNatClampNeg = slot.toInt.toNat + 1 := (by show (x_263 : Int32).toInt.toNat = _; omega)
                        have e2 : x_283.toNatClampNeg = slot.toInt.toNat + 2 := (by show (x_283 : Int32).toInt.toNat = _; omega)
                        have hI := zIn_b (by have z := hn0; rw [show (q_270 : Int32).toInt = -1 from by omega] at z; exact z) (by decide) hn1 (by first | (right; decide) | (left; omega))
                        exact W.vret hx hb hr (fun t ht hW => ⟨⟨(q_288, q_289, rt, ru, (upd (upd (upd fi slot.toNatClampNeg 8) x_263.toNatClampNeg r_267) x_283.toNatClampNeg r_286)), rfl, ⟨(show 0 ≤ q_288.toInt ∧ q_288.toInt ≤ 160 from hbq_288), (show (-1) ≤ q_289.toInt ∧ q_289.toInt ≤ 160 from hbq_289), (show 0 ≤ rt.toInt ∧ rt.toInt ≤ 40 from ⟨hy9, hy10⟩), (show 0 ≤ ru.toInt ∧ ru.toInt ≤ 8 from ⟨hy11, hy12⟩), (show q_288.toInt ≤ rz.toInt from by omega), (show (q_289.toInt = -1 → zIt (upd (upd (upd fi slot.toNatClampNeg 8) x_263.toNatClampNeg r_267) x_283.toNatClampNeg r_286) slot.toInt.toNat) from by (intro h; have k4 : (8 : Int32).toInt = 8 := (by decide); exact zIt_mk (by simp only [upd]; rw [if_neg (by omega), if_neg (by omega), if_pos (by omega)]) (by simp only [upd]; rw [if_neg (by omega), if_pos (by omega)]) (by simp only [upd]; rw [if_pos (by omega)]) (rfl) (by unfold zItv; refine ⟨?_, ?_, ?_, ?_, ?_, ?_, ?_, ?_, ?_, ?_, ?_⟩ <;> (intros; omega)))), (show (∀ j : Nat, j < slot.toInt.toNat → (upd (upd (upd fi slot.toNatClampNeg 8) x_263.toNatClampNeg r_267) x_283.toNatClampNeg r_286) j = fi j) from by (intro j hj; simp only [upd]; rw [if_neg (by omega), if_neg (by omega), if_neg (by omega)])), (show (q_289.toInt = (zItem fl rz.toInt rp.toInt rt.toInt ru.toInt).1 ∧ (q_289.toInt = -1 → q_288.toInt = (zItem fl rz.toInt rp.toInt rt.toInt ru.toInt).2.1 ∧ rt.toInt = (zItem fl rz.toInt rp.toInt rt.toInt ru.toInt).2.2.1 ∧ ru.toInt = (zItem fl rz.toInt rp.toInt rt.toInt ru.toInt).2.2.2)) from by (have z9 := hsr_1_1; rw [kc8] at z9; have hq : zFst fl rz.toInt rp.toInt zWds 10 = 8 ∧ ¬ ((8 : Int) = 3 ∧ ru.toInt = 8) := (by omega); have hl9 : (q_3 : Int32).toInt = rp.toInt + ((zWds ((8 : Int)).toNat).length : Nat) := (by omega); rw [zItem_w hq.1 (by decide) hq.2 hl9 hI]; dsimp only; exact ⟨by (first | rfl | omega), fun h => ⟨by (first | rfl | omega), by (show _ = (if (8 : Int) = 0 then _ else _); rw [if_neg (by decide)]), by (show _ = (if (8 : Int) = 3 then _ else _); rw [if_neg (by decide)])⟩⟩)), (show (q_289.toInt = -1 → (((upd (upd (upd fi slot.toNatClampNeg 8) x_263.toNatClampNeg r_267) x_283.toNatClampNeg r_286) slot.toInt.toNat).toInt = 0 → rt.toInt = ((upd (upd (upd fi slot.toNatClampNeg 8) x_263.toNatClampNeg r_267) x_283.toNatClampNeg r_286) (slot.toInt.toNat + 1)).toInt) ∧ (((upd (upd (upd fi slot.toNatClampNeg 8) x_263.toNatClampNeg r_267) x_283.toNatClampNeg r_286) slot.toInt.toNat).toInt ≠ 0 → rt.toInt = rt.toInt) ∧ (((upd (upd (upd fi slot.toNatClampNeg 8) x_263.toNatClampNeg r_267) x_283.toNatClampNeg r_286) slot.toInt.toNat).toInt = 3 → ru.toInt = ru.toInt + 1) ∧ (((upd (upd (upd fi slot.toNatClampNeg 8) x_263.toNatClampNeg r_267) x_283.toNatClampNeg r_286) slot.toInt.toNat).toInt ≠ 3 → ru.toInt = ru.toInt)) from by (intro h; have g0 : (upd (upd (upd fi slot.toNatClampNeg 8) x_263.toNatClampNeg r_267) x_283.toNatClampNeg r_286) slot.toInt.toNat = (8 : Int32) := (by simp only [upd]; rw [if_neg (by omega), if_neg (by omega), if_pos (by omega)]); have g1 : (upd (upd (upd fi slot.toNatClampNeg 8) x_263.toNatClampNeg r_267) x_283.toNatClampNeg r_286) (slot.toInt.toNat + 1) = (r_267 : Int32) := (by simp only [upd]; rw [if_neg (by omega), if_pos (by omega)]); rw [g0, g1]; refine ⟨?_, ?_, ?_, ?_⟩ <;> (intro h9; first | rfl | omega | (exfalso; omega)))), (show (q_289.toInt = -1 → zSm (zDS (upd (upd (upd fi slot.toNatClampNeg 8) x_263.toNatClampNeg r_267) x_283.toNatClampNeg r_286) slot.toInt.toNat) (zIm fl rz.toInt rp.toInt rt.toInt)) from by (intro h; have g0 : (upd (upd (upd fi slot.toNatClampNeg 8) x_263.toNatClampNeg r_267) x_283.toNatClampNeg r_286) (slot.toInt.toNat + 0) = (8 : Int32) := (by simp only [upd]; rw [if_neg (by omega), if_neg (by omega), if_pos (by omega)]); have g1 : (upd (upd (upd fi slot.toNatClampNeg 8) x_263.toNatClampNeg r_267) x_283.toNatClampNeg r_286) (slot.toInt.toNat + 1) = (r_267 : Int32) := (by simp only [upd]; rw [if_neg (by omega), if_pos (by omega)]); have g2 : (upd (upd (upd fi slot.toNatClampNeg 8) x_263.toNatClampNeg r_267) x_283.toNatClampNeg r_286) (slot.toInt.toNat + 2) = (r_286 : Int32) := (by simp only [upd]; rw [if_pos (by omega)]); have z9 := hsr_1_1; rw [kc8] at z9; have hW : zIW fl rz.toInt rp.toInt = 8 := (by unfold zIW; omega); have hP9 : zIP fl rz.toInt rp.toInt = (q_3 : Int32).toInt := (by unfold zIP; rw [hW]; have hl9 : (q_3 : Int32).toInt = rp.toInt + ((zWds ((8 : Int)).toNat).length : Nat) := (by omega); exact hl9.symm); exact ⟨(show ((upd (upd (upd fi slot.toNatClampNeg 8) x_263.toNatClampNeg r_267) x_283.toNatClampNeg r_286) (slot.toInt.toNat + 0)).toInt = zIW fl rz.toInt rp.toInt from by (rw [g0, hW]; omega)), (show ((upd (upd (upd fi slot.toNatClampNeg 8) x_263.toNatClampNeg r_267) x_283.toNatClampNeg r_286) (slot.toInt.toNat + 1)).toInt = (zIn fl rz.toInt (zIP fl rz.toInt rp.toInt) rt.toInt (zIW fl rz.toInt rp.toInt)).2.2 from by (rw [g1, hP9, hW, hI])), fun hz => (show ((upd (upd (upd fi slot.toNatClampNeg 8) x_263.toNatClampNeg r_267) x_283.toNatClampNeg r_286) (slot.toInt.toNat + 2)).toInt = zV2 fl rz.toInt (zIP fl rz.toInt rp.toInt) rt.toInt (zIW fl rz.toInt rp.toInt) from by (rw [g2, hP9, hW]; exact (zV2_eq hn0 hn1).symm)), fun hz => absurd (show ((upd (upd (upd fi slot.toNatClampNeg 8) x_263.toNatClampNeg r_267) x_283.toNatClampNeg r_286) (slot.toInt.toNat + 0)).toInt = 3 from hz) (by rw [g0]; omega)⟩)), trivial⟩, zRet ht hP hD [1, 2, 0] (by decide) rfl⟩, hS.F ht⟩) hS.2.2 dX3_readItem_116
                      · exact absurd c_296 (by decide)
                    · exact absurd c_295 (by decide)
                  · exact absurd c_294 (by decide)
                · have fc_292 : q_289.toInt ≠ (-1) := zf_ne c_292 rfl (by decide)
                  have e0 : slot.toNatClampNeg = slot.toInt.toNat + 0 := (by show (slot : Int32).toInt.toNat = _; omega)
                  have e1 : x_263.toNatClampNeg = slot.toInt.toNat + 1 := (by show (x_263 : Int32).toInt.toNat = _; omega)
                  have e2 : x_283.toNatClampNeg = slot.toInt.toNat + 2 := (by show (x_283 : Int32).toInt.toNat = _; omega)
                  have hI := zIn_b (by have z := hn0; rw [show (q_270 : Int32).toInt = -1 from by omega] at z; exact z) (by decide) hn1 (by first | (right; decide) | (left; omega))
                  exact W.vret hx hb hr (fun t ht hW => ⟨⟨(q_288, q_289, rt, ru, (upd (upd (upd fi slot.toNatClampNeg 8) x_263.toNatClampNeg r_267) x_283.toNatClampNeg r_286)), rfl, ⟨(show 0 ≤ q_288.toInt ∧ q_288.toInt ≤ 160 from hbq_288), (show (-1) ≤ q_289.toInt ∧ q_289.toInt ≤ 160 from hbq_289), (show 0 ≤ rt.toInt ∧ rt.toInt ≤ 40 from ⟨hy9, hy10⟩), (show 0 ≤ ru.toInt ∧ ru.toInt ≤ 8 from ⟨hy11, hy12⟩), (show q_288.toInt ≤ rz.toInt from by omega), (show (q_289.toInt = -1 → zIt (upd (upd (upd fi slot.toNatClampNeg 8) x_263.toNatClampNeg r_267) x_283.toNatClampNeg r_286) slot.toInt.toNat) from by (intro h; exfalso; omega)), (show (∀ j : Nat, j < slot.toInt.toNat → (upd (upd (upd fi slot.toNatClampNeg 8) x_263.toNatClampNeg r_267) x_283.toNatClampNeg r_286) j = fi j) from by (intro j hj; simp only [upd]; rw [if_neg (by omega), if_neg (by omega), if_neg (by omega)])), (show (q_289.toInt = (zItem fl rz.toInt rp.toInt rt.toInt ru.toInt).1 ∧ (q_289.toInt = -1 → q_288.toInt = (zItem fl rz.toInt rp.toInt rt.toInt ru.toInt).2.1 ∧ rt.toInt = (zItem fl rz.toInt rp.toInt rt.toInt ru.toInt).2.2.1 ∧ ru.toInt = (zItem fl rz.toInt rp.toInt rt.toInt ru.toInt).2.2.2)) from by (have z9 := hsr_1_1; rw [kc8] at z9; have hq : zFst fl rz.toInt rp.toInt zWds 10 = 8 ∧ ¬ ((8 : Int) = 3 ∧ ru.toInt = 8) := (by omega); have hl9 : (q_3 : Int32).toInt = rp.toInt + ((zWds ((8 : Int)).toNat).length : Nat) := (by omega); rw [zItem_w hq.1 (by decide) hq.2 hl9 hI]; dsimp only; exact ⟨by (first | rfl | omega), fun h => ⟨by (first | rfl | omega), by (show _ = (if (8 : Int) = 0 then _ else _); rw [if_neg (by decide)]), by (show _ = (if (8 : Int) = 3 then _ else _); rw [if_neg (by decide)])⟩⟩)), (show (q_289.toInt = -1 → (((upd (upd (upd fi slot.toNatClampNeg 8) x_263.toNatClampNeg r_267) x_283.toNatClampNeg r_286) slot.toInt.toNat).toInt = 0 → rt.toInt = ((upd (upd (upd fi slot.toNatClampNeg 8) x_263.toNatClampNeg r_267) x_283.toNatClampNeg r_286) (slot.toInt.toNat + 1)).toInt) ∧ (((upd (upd (upd fi slot.toNatClampNeg 8) x_263.toNatClampNeg r_267) x_283.toNatClampNeg r_286) slot.toInt.toNat).toInt ≠ 0 → rt.toInt = rt.toInt) ∧ (((upd (upd (upd fi slot.toNatClampNeg 8) x_263.toNatClampNeg r_267) x_283.toNatClampNeg r_286) slot.toInt.toNat).toInt = 3 → ru.toInt = ru.toInt + 1) ∧ (((upd (upd (upd fi slot.toNatClampNeg 8) x_263.toNatClampNeg r_267) x_283.toNatClampNeg r_286) slot.toInt.toNat).toInt ≠ 3 → ru.toInt = ru.toInt)) from by (intro h; exfalso; omega)), (show (q_289.toInt = -1 → zSm (zDS (upd (upd (upd fi slot.toNatClampNeg 8) x_263.toNatClampNeg r_267) x_283.toNatClampNeg r_286) slot.toInt.toNat) (zIm fl rz.toInt rp.toInt rt.toInt)) from by (intro h; exfalso; omega)), trivial⟩, zRet ht hP hD [1, 2, 0] (by decide) rfl⟩, hS.F ht⟩) hS.2.2 dX3_readItem_75
          · have fc_273 : q_270.toInt ≠ (-1) := zf_ne c_273 rfl (by decide)
            have e0 : slot.toNatClampNeg = slot.toInt.toNat + 0 := (by show (slot : Int32).toInt.toNat = _; omega)
            have e1 : x_263.toNatClampNeg = slot.toInt.toNat + 1 := (by show (x_263 : Int32).toInt.toNat = _; omega)
            have hI := zIn_a hn0 (by first | (right; decide) | (left; omega))
            exact W.vret hx hb hr (fun t ht hW => ⟨⟨(q_269, q_270, rt, ru, (upd (upd fi slot.toNatClampNeg 8) x_263.toNatClampNeg r_267)), rfl, ⟨(show 0 ≤ q_269.toInt ∧ q_269.toInt ≤ 160 from hbq_269), (show (-1) ≤ q_270.toInt ∧ q_270.toInt ≤ 160 from hbq_270), (show 0 ≤ rt.toInt ∧ rt.toInt ≤ 40 from ⟨hy9, hy10⟩), (show 0 ≤ ru.toInt ∧ ru.toInt ≤ 8 from ⟨hy11, hy12⟩), (show q_269.toInt ≤ rz.toInt from by omega), (show (q_270.toInt = -1 → zIt (upd (upd fi slot.toNatClampNeg 8) x_263.toNatClampNeg r_267) slot.toInt.toNat) from by (intro h; exfalso; omega)), (show (∀ j : Nat, j < slot.toInt.toNat → (upd (upd fi slot.toNatClampNeg 8) x_263.toNatClampNeg r_267) j = fi j) from by (intro j hj; simp only [upd]; rw [if_neg (by omega), if_neg (by omega)])), (show (q_270.toInt = (zItem fl rz.toInt rp.toInt rt.toInt ru.toInt).1 ∧ (q_270.toInt = -1 → q_269.toInt = (zItem fl rz.toInt rp.toInt rt.toInt ru.toInt).2.1 ∧ rt.toInt = (zItem fl rz.toInt rp.toInt rt.toInt ru.toInt).2.2.1 ∧ ru.toInt = (zItem fl rz.toInt rp.toInt rt.toInt ru.toInt).2.2.2)) from by (have z9 := hsr_1_1; rw [kc8] at z9; have hq : zFst fl rz.toInt rp.toInt zWds 10 = 8 ∧ ¬ ((8 : Int) = 3 ∧ ru.toInt = 8) := (by omega); have hl9 : (q_3 : Int32).toInt = rp.toInt + ((zWds ((8 : Int)).toNat).length : Nat) := (by omega); rw [zItem_w hq.1 (by decide) hq.2 hl9 hI]; dsimp only; exact ⟨by (first | rfl | omega), fun h => ⟨by (first | rfl | omega), by (show _ = (if (8 : Int) = 0 then _ else _); rw [if_neg (by decide)]), by (show _ = (if (8 : Int) = 3 then _ else _); rw [if_neg (by decide)])⟩⟩)), (show (q_270.toInt = -1 → (((upd (upd fi slot.toNatClampNeg 8) x_263.toNatClampNeg r_267) slot.toInt.toNat).toInt = 0 → rt.toInt = ((upd (upd fi slot.toNatClampNeg 8) x_263.toNatClampNeg r_267) (slot.toInt.toNat + 1)).toInt) ∧ (((upd (upd fi slot.toNatClampNeg 8) x_263.toNatClampNeg r_267) slot.toInt.toNat).toInt ≠ 0 → rt.toInt = rt.toInt) ∧ (((upd (upd fi slot.toNatClampNeg 8) x_263.toNatClampNeg r_267) slot.toInt.toNat).toInt = 3 → ru.toInt = ru.toInt + 1) ∧ (((upd (upd fi slot.toNatClampNeg 8) x_263.toNatClampNeg r_267) slot.toInt.toNat).toInt ≠ 3 → ru.toInt = ru.toInt)) from by (intro h; exfalso; omega)), (show (q_270.toInt = -1 → zSm (zDS (upd (upd fi slot.toNatClampNeg 8) x_263.toNatClampNeg r_267) slot.toInt.toNat) (zIm fl rz.toInt rp.toInt rt.toInt)) from by (intro h; exfalso; omega)), trivial⟩, zRet ht hP hD [1, 2, 0] (by decide) rfl⟩, hS.F ht⟩) hS.2.2 dX3_readItem_75
    · have kc9 : (9 : Int32).toInt = 9 := by decide
      refine lv_aload_n hx hb dX3_readItem_11 rfl (lv_at hl 1 rfl) ?_
      refine va_get (D := D) (ci := 3) (v := .ref ri) (C := RX3) (T := TX3) (N := 8) hx hb hts hi_X3_readItem_3 hown hK hP 1 rfl rfl 0 (by decide) (hts (.fieldLink RX3 11 "TheLiningsInIt$Reader" "items" "[I") (List.mem_of_getElem? (i := 1) rfl)) (fun _ h9 => h9) rfl dX3_readItem_12 ?_
      refine lv_iload_n hx hb dX3_readItem_15 rfl (lv_at hl 2 rfl) ?_
      refine lv_iload_n hx hb dX3_readItem_16 rfl (lv_at hl 0 rfl) ?_
      refine va_iast hx hb hK hP hD hS 0 0 rfl rfl (zf_in (by omega) (by omega)) dX3_readItem_17 (fun H locs hP hD hS => ?_)
      have h9R := zRe (ws' := [(ri, .inl (cI, 132, .inl (upd fi slot.toNatClampNeg 9))), (rd, .inr (3, [.ref ri, .ref rl, .int rz, .int rc, .int q_3, .int q_4, .int rt, .int ru])), (rl, .inl (cI, 160, .inl fl))]) hP hD rfl
      clear hP hD
      obtain ⟨hP, hD⟩ := h9R
      refine lv_iconst (v := 0) hx hb dX3_readItem_18 (by decide) ?_
      refine lv_istore_n (lv' := [(3, .int 0), (2, .int 9), (0, .ref rd), (1, .int slot)]) hx hb dX3_readItem_19 rfl hl (by decide) rfl (fun ls hl => ?_)
      refine lv_iload_n hx hb dX3_readItem_20 rfl (lv_at hl 0 rfl) ?_
      refine lv_iload_n hx hb dX3_readItem_21 rfl (lv_at hl 1 rfl) ?_
      refine zc_S (As := [.int 9]) (rest := [.int 0]) ⟨hx, hb, hml, hown, hts⟩ (c_R_numbersOf_9 l D cI cJ cZ cP cS po  ) (va_cwS 1 hts gX3_readItem_X3_numbersOf rfl rfl rfl dh_X3_numbersOf ⟨Nat.le_of_ble_eq_true rfl, Nat.le_of_ble_eq_true rfl⟩) hK hN (hZ.kept hS) rfl hl.1 rfl (Nat.le_of_ble_eq_true rfl) dX3_readItem_22 ⟨Nat.le_of_ble_eq_true rfl, Nat.le_of_ble_eq_true rfl⟩ (fun r_297 hr_297 => ?_)
      obtain rfl := hr_297
      refine lv_icmp_ge (tgt := 82) hx hb dX3_readItem_25 (by decide) (fun c_298 => ?_) (fun c_298 => ?_)
      · exact absurd c_298 (by decide)
      · refine lv_aload_n hx hb dX3_readItem_28 rfl (lv_at hl 2 rfl) ?_
        refine lv_bipush (v := 32) hx hb dX3_readItem_29 (by decide) ?_
        have kc32 : (32 : Int32).toInt = 32 := by decide
        skip
        refine zw_Vv (As := [.int 32]) (rest := []) (wr := [(ri, .inl (cI, 132, .inl (upd fi slot.toNatClampNeg 9)))]) ⟨hx, hb, hml, hown, hts⟩ (c_F_R_expect l D cI cJ cZ cP cS po rd ri rl (rz) (rc) (q_3) (q_4) (rt) (ru) fl (32) hy0 hy1 hy2 hy3 hbq_3.1 hbq_3.2 (by omega) hbq_4.1 hbq_4.2 hy9 hy10 hy11 hy12 H.size) (cwV 1 hts gX3_readItem_X3_expect rfl rfl rfl ⟨rfl, dh_X3_expect⟩ ⟨Nat.le_of_ble_eq_true rfl, Nat.le_of_ble_eq_true rfl⟩) hK hN (hZ.kept hS) hP hD hS hA [1, 2] [0] rfl rfl (by decide) (by decide) (by decide) (va_recv (q := (RX3, TX3, 8)) hK hP (ci := 3) (q0 := 1) rfl rfl) rfl hl.1 rfl (Nat.le_of_ble_eq_true rfl) dX3_readItem_31 ⟨Nat.le_of_ble_eq_true rfl, Nat.le_of_ble_eq_true rfl⟩ (fun u_300 H locs hr_299 hP hD hS => ?_)
        obtain ⟨q_301, q_302⟩ := u_300
        try dsimp only at hr_299
        obtain ⟨hbq_301, hbq_302, hsr_299_0, hsr_299_1, hr_299⟩ := hr_299
        have h9R := zRe (ws' := [(ri, .inl (cI, 132, .inl (upd fi slot.toNatClampNeg 9))), (rd, .inr (3, [.ref ri, .ref rl, .int rz, .int rc, .int q_301, .int q_302, .int rt, .int ru])), (rl, .inl (cI, 160, .inl fl))]) hP hD rfl
        clear hP hD
        obtain ⟨hP, hD⟩ := h9R
        refine lv_aload_n hx hb dX3_readItem_34 rfl (lv_at hl 2 rfl) ?_
        refine va_get (D := D) (ci := 3) (v := .int q_302) (C := RX3) (T := TX3) (N := 8) hx hb hts hi_X3_readItem_3 hown hK hP 1 rfl rfl 5 (by decide) (hts (.fieldLink RX3 28 "TheLiningsInIt$Reader" "fault" "I") (List.mem_of_getElem? (i := 2) rfl)) (fun _ h9 => h9) rfl dX3_readItem_35 ?_
        refine lv_iconst (v := (-1)) hx hb dX3_readItem_38 (by decide) ?_
        refine lv_icmp_ne (tgt := 67) hx hb dX3_readItem_39 (by decide) (fun c_303 => ?_) (fun c_303 => ?_)
        · have fc_303 : q_302.toInt ≠ (-1) := zf_ne c_303 rfl (by decide)
          have hn0 : zN1 fl rz.toInt (q_3 : Int32).toInt (zLo 9 0) (zHi 9 0 rt.toInt) = ((q_3 : Int32).toInt, (q_3 : Int32).toInt, 0) := zN1_no (by omega)
          refine lv_aload_n hx hb dX3_readItem_67 rfl (lv_at hl 2 rfl) ?_
          refine va_get (D := D) (ci := 3) (v := .int q_302) (C := RX3) (T := TX3) (N := 8) hx hb hts hi_X3_readItem_3 hown hK hP 1 rfl rfl 5 (by decide) (hts (.fieldLink RX3 28 "TheLiningsInIt$Reader" "fault" "I") (List.mem_of_getElem? (i := 2) rfl)) (fun _ h9 => h9) rfl dX3_readItem_68 ?_
          refine lv_iconst (v := (-1)) hx hb dX3_readItem_71 (by decide) ?_
          refine lv_icmp_eq (tgt := 76) hx hb dX3_readItem_72 (by decide) (fun c_304 => ?_) (fun c_304 => ?_)
          · exfalso; have fc_304 : q_302.toInt = (-1) := zf_eq c_304 rfl (by decide); omega
          · have fc_304 : q_302.toInt ≠ (-1) := zf_ne c_304 rfl (by decide)
            have e0 : slot.toNatClampNeg = slot.toInt.toNat + 0 := (by show (slot : Int32).toInt.toNat = _; omega)
            have hI := zIn_a hn0 (by first | (right; decide) | (left; omega))
            exact W.vret hx hb hr (fun t ht hW => ⟨⟨(q_301, q_302, rt, ru, (upd fi slot.toNatClampNeg 9)), rfl, ⟨(show 0 ≤ q_301.toInt ∧ q_301.toInt ≤ 160 from hbq_301), (show (-1) ≤ q_302.toInt ∧ q_302.toInt ≤ 160 from hbq_302), (show 0 ≤ rt.toInt ∧ rt.toInt ≤ 40 from ⟨hy9, hy10⟩), (show 0 ≤ ru.toInt ∧ ru.toInt ≤ 8 from ⟨hy11, hy12⟩), (show q_301.toInt ≤ rz.toInt from by omega), (show (q_302.toInt = -1 → zIt (upd fi slot.toNatClampNeg 9) slot.toInt.toNat) from by (intro h; exfalso; omega)), (show (∀ j : Nat, j < slot.toInt.toNat → (upd fi slot.toNatClampNeg 9) j = fi j) from by (intro j hj; simp only [upd]; rw [if_neg (by omega)])), (show (q_302.toInt = (zItem fl rz.toInt rp.toInt rt.toInt ru.toInt).1 ∧ (q_302.toInt = -1 → q_301.toInt = (zItem fl rz.toInt rp.toInt rt.toInt ru.toInt).2.1 ∧ rt.toInt = (zItem fl rz.toInt rp.toInt rt.toInt ru.toInt).2.2.1 ∧ ru.toInt = (zItem fl rz.toInt rp.toInt rt.toInt ru.toInt).2.2.2)) from by (have z9 := hsr_1_1; rw [kc9] at z9; have hq : zFst fl rz.toInt rp.toInt zWds 10 = 9 ∧ ¬ ((9 : Int) = 3 ∧ ru.toInt = 8) := (by omega); have hl9 : (q_3 : Int32).toInt = rp.toInt + ((zWds ((9 : Int)).toNat).length : Nat) := (by omega); rw [zItem_w hq.1 (by decide) hq.2 hl9 hI]; dsimp only; exact ⟨by (first | rfl | omega), fun h => ⟨by (first | rfl | omega), by (show _ = (if (9 : Int) = 0 then _ else _); rw [if_neg (by decide)]), by (show _ = (if (9 : Int) = 3 then _ else _); rw [if_neg (by decide)])⟩⟩)), (show (q_302.toInt = -1 → (((upd fi slot.toNatClampNeg 9) slot.toInt.toNat).toInt = 0 → rt.toInt = ((upd fi slot.toNatClampNeg 9) (slot.toInt.toNat + 1)).toInt) ∧ (((upd fi slot.toNatClampNeg 9) slot.toInt.toNat).toInt ≠ 0 → rt.toInt = rt.toInt) ∧ (((upd fi slot.toNatClampNeg 9) slot.toInt.toNat).toInt = 3 → ru.toInt = ru.toInt + 1) ∧ (((upd fi slot.toNatClampNeg 9) slot.toInt.toNat).toInt ≠ 3 → ru.toInt = ru.toInt)) from by (intro h; exfalso; omega)), (show (q_302.toInt = -1 → zSm (zDS (upd fi slot.toNatClampNeg 9) slot.toInt.toNat) (zIm fl rz.toInt rp.toInt rt.toInt)) from by (intro h; exfalso; omega)), trivial⟩, zRet ht hP hD [1, 2, 0] (by decide) rfl⟩, hS.F ht⟩) hS.2.2 dX3_readItem_75
        · have fc_303 : q_302.toInt = (-1) := zf_eq c_303 rfl (by decide)
          refine lv_aload_n hx hb dX3_readItem_42 rfl (lv_at hl 2 rfl) ?_
          refine va_get (D := D) (ci := 3) (v := .ref ri) (C := RX3) (T := TX3) (N := 8) hx hb hts hi_X3_readItem_3 hown hK hP 1 rfl rfl 0 (by decide) (hts (.fieldLink RX3 11 "TheLiningsInIt$Reader" "items" "[I") (List.mem_of_getElem? (i := 1) rfl)) (fun _ h9 => h9) rfl dX3_readItem_43 ?_
          refine lv_iload_n hx hb dX3_readItem_46 rfl (lv_at hl 3 rfl) ?_
          refine lv_iconst (v := 1) hx hb dX3_readItem_47 (by decide) ?_
          refine lv_iadd hx hb dX3_readItem_48 ?_
          refine lv_topi (fun x_305 ex_305 => ?_)
          have qx_305 : x_305.toInt = slot.toInt + 1 := by rw [ex_305]; exact zf_add rfl (by decide) (by omega) (by omega)
          refine lv_iload_n hx hb dX3_readItem_49 rfl (lv_at hl 0 rfl) ?_
          refine lv_iadd hx hb dX3_readItem_50 ?_
          refine lv_topi (fun y_306 ey_306 => ?_)
          obtain rfl : x_305 = y_306 := (ey_306.trans (Int32.add_zero x_305)).symm
          refine lv_aload_n hx hb dX3_readItem_51 rfl (lv_at hl 2 rfl) ?_
          refine lv_iload_n hx hb dX3_readItem_52 rfl (lv_at hl 1 rfl) ?_
          refine lv_iload_n hx hb dX3_readItem_53 rfl (lv_at hl 0 rfl) ?_
          refine zc_S (As := [.int 9, .int 0]) (rest := [.ref rd, .int x_305, .ref ri]) ⟨hx, hb, hml, hown, hts⟩ (c_R_leastOf_9_0 l D cI cJ cZ cP cS po  ) (va_cwS 2 hts gX3_readItem_X3_leastOf rfl rfl rfl dh_X3_leastOf ⟨Nat.le_of_ble_eq_true rfl, Nat.le_of_ble_eq_true rfl⟩) hK hN (hZ.kept hS) rfl hl.1 rfl (Nat.le_of_ble_eq_true rfl) dX3_readItem_54 ⟨Nat.le_of_ble_eq_true rfl, Nat.le_of_ble_eq_true rfl⟩ (fun r_307 hr_307 => ?_)
          obtain rfl := hr_307
          refine lv_aload_n hx hb dX3_readItem_57 rfl (lv_at hl 2 rfl) ?_
          refine lv_iload_n hx hb dX3_readItem_58 rfl (lv_at hl 1 rfl) ?_
          refine lv_iload_n hx hb dX3_readItem_59 rfl (lv_at hl 0 rfl) ?_
          refine zc_V (As := [.int 9, .int 0]) (rest := [.int 0, .ref rd, .int x_305, .ref ri]) ⟨hx, hb, hml, hown, hts⟩ (c_R_mostOf_9_0 l D cI cJ cZ cP cS po rd ri rl (rz) (rc) (q_301) (q_302) (rt) (ru) hy0 hy1 hy2 hy3 hbq_301.1 hbq_301.2 (by omega) hbq_302.1 hbq_302.2 hy9 hy10 hy11 hy12) (cwV 2 hts gX3_readItem_X3_mostOf rfl rfl rfl ⟨rfl, dh_X3_mostOf⟩ ⟨Nat.le_of_ble_eq_true rfl, Nat.le_of_ble_eq_true rfl⟩) hK hN (hZ.kept hS) hP (hP.sub [1] rfl) (va_recv (q := (RX3, TX3, 8)) hK hP (ci := 3) (q0 := 1) rfl rfl) rfl hl.1 rfl (Nat.le_of_ble_eq_true rfl) dX3_readItem_60 ⟨Nat.le_of_ble_eq_true rfl, Nat.le_of_ble_eq_true rfl⟩ (fun r_308 hr_308 => ?_)
          obtain ⟨g_309, g_310, hsr_308_0⟩ := hr_308
          have kc0 : (0 : Int32).toInt = 0 := by decide
          skip
          refine zw_V (As := [.int 0, .int r_308]) (rest := [.int x_305, .ref ri]) (wr := [(ri, .inl (cI, 132, .inl (upd fi slot.toNatClampNeg 9)))]) ⟨hx, hb, hml, hown, hts⟩ (c_F_R_readNumber l D cI cJ cZ cP cS po rd ri rl (rz) (rc) (q_301) (q_302) (rt) (ru) fl (0) (r_308) hy0 hy1 hy2 hy3 hbq_301.1 hbq_301.2 (by omega) hbq_302.1 hbq_302.2 hy9 hy10 hy11 hy12 H.size) (cwV 2 hts gX3_readItem_X3_readNumber rfl rfl rfl ⟨rfl, dh_X3_readNumber⟩ ⟨Nat.le_of_ble_eq_true rfl, Nat.le_of_ble_eq_true rfl⟩) hK hN (hZ.kept hS) hP hD hS hA [1, 2] [0] rfl rfl (by decide) (by decide) (by decide) (va_recv (q := (RX3, TX3, 8)) hK hP (ci := 3) (q0 := 1) rfl rfl) rfl hl.1 rfl (Nat.le_of_ble_eq_true rfl) dX3_readItem_63 ⟨Nat.le_of_ble_eq_true rfl, Nat.le_of_ble_eq_true rfl⟩ (fun r_311 u_312 H locs hr_311 hP hD hS => ?_)
          obtain ⟨q_313, q_314⟩ := u_312
          try dsimp only at hr_311
          obtain ⟨hbq_313, hbq_314, hsr_311_0, hsr_311_1, hsr_311_2, hsr_311_3, hr_311⟩ := hr_311
          have h9R := zRe (ws' := [(ri, .inl (cI, 132, .inl (upd fi slot.toNatClampNeg 9))), (rd, .inr (3, [.ref ri, .ref rl, .int rz, .int rc, .int q_313, .int q_314, .int rt, .int ru])), (rl, .inl (cI, 160, .inl fl))]) hP hD rfl
          clear hP hD
          obtain ⟨hP, hD⟩ := h9R
          obtain ⟨g_315, g_316⟩ := hr_311
          refine va_iast hx hb hK hP hD hS 0 0 rfl rfl (zf_in (by omega) (by omega)) dX3_readItem_66 (fun H locs hP hD hS => ?_)
          have h9R := zRe (ws' := [(ri, .inl (cI, 132, .inl (upd (upd fi slot.toNatClampNeg 9) x_305.toNatClampNeg r_311))), (rd, .inr (3, [.ref ri, .ref rl, .int rz, .int rc, .int q_313, .int q_314, .int rt, .int ru])), (rl, .inl (cI, 160, .inl fl))]) hP hD rfl
          clear hP hD
          obtain ⟨hP, hD⟩ := h9R
          have hn0 : zN1 fl rz.toInt (q_3 : Int32).toInt (zLo 9 0) (zHi 9 0 rt.toInt) = ((q_314 : Int32).toInt, (q_313 : Int32).toInt, r_311.toInt) := zN1_yes (p1 := (q_301 : Int32).toInt) (lo2 := ((0 : Int32)).toInt) (hi2 := ((r_308 : Int32)).toInt) (by omega) (by omega) hsr_311_1 hsr_311_2 (by first | decide | (show (0 : Int) = _; omega)) (by first | decide | (show rt.toInt - 1 = _; omega) | (show rt.toInt = _; omega)) (by omega)
          refine lv_aload_n hx hb dX3_readItem_67 rfl (lv_at hl 2 rfl) ?_
          refine va_get (D := D) (ci := 3) (v := .int q_314) (C := RX3) (T := TX3) (N := 8) hx hb hts hi_X3_readItem_3 hown hK hP 1 rfl rfl 5 (by decide) (hts (.fieldLink RX3 28 "TheLiningsInIt$Reader" "fault" "I") (List.mem_of_getElem? (i := 2) rfl)) (fun _ h9 => h9) rfl dX3_readItem_68 ?_
          refine lv_iconst (v := (-1)) hx hb dX3_readItem_71 (by decide) ?_
          refine lv_icmp_eq (tgt := 76) hx hb dX3_readItem_72 (by decide) (fun c_317 => ?_) (fun c_317 => ?_)
          · have fc_317 : q_314.toInt = (-1) := zf_eq c_317 rfl (by decide)
            refine lv_iinc (v := 1) (lv' := [(3, .int 1), (2, .int 9), (0, .ref rd), (1, .int slot)]) hx hb dX3_readItem_76 hl (k := 0) rfl (by decide) (by decide) rfl (fun ls hl => ?_)
            refine lv_goto (tgt := 20) hx hb dX3_readItem_79 (by decide) ?_
            refine lv_iload_n hx hb dX3_readItem_20 rfl (lv_at hl 0 rfl) ?_
            refine lv_iload_n hx hb dX3_readItem_21 rfl (lv_at hl 1 rfl) ?_
            refine zc_S (As := [.int 9]) (rest := [.int 1]) ⟨hx, hb, hml, hown, hts⟩ (c_R_numbersOf_9 l D cI cJ cZ cP cS po  ) (va_cwS 1 hts gX3_readItem_X3_numbersOf rfl rfl rfl dh_X3_numbersOf ⟨Nat.le_of_ble_eq_true rfl, Nat.le_of_ble_eq_true rfl⟩) hK hN (hZ.kept hS) rfl hl.1 rfl (Nat.le_of_ble_eq_true rfl) dX3_readItem_22 ⟨Nat.le_of_ble_eq_true rfl, Nat.le_of_ble_eq_true rfl⟩ (fun r_318 hr_318 => ?_)
            obtain rfl := hr_318
            refine lv_icmp_ge (tgt := 82) hx hb dX3_readItem_25 (by decide) (fun c_319 => ?_) (fun c_319 => ?_)
            · refine lv_iload_n hx hb dX3_readItem_82 rfl (lv_at hl 1 rfl) ?_
              refine lv_if_ne (tgt := 101) hx hb dX3_readItem_83 (by decide) (fun c_320 => ?_) (fun c_320 => ?_)
              · refine lv_iload_n hx hb dX3_readItem_101 rfl (lv_at hl 1 rfl) ?_
                refine lv_iconst (v := 3) hx hb dX3_readItem_102 (by decide) ?_
                refine lv_icmp_ne (tgt := 116) hx hb dX3_readItem_103 (by decide) (fun c_321 => ?_) (fun c_321 => ?_)
                · have e0 : slot.toNatClampNeg = slot.toInt.toNat + 0 := (by show (slot : Int32).toInt.toNat = _; omega)
                  have e1 : x_305.toNatClampNeg = slot.toInt.toNat + 1 := (by show (x_305 : Int32).toInt.toNat = _; omega)
                  have hI := zIn_a hn0 (by first | (right; decide) | (left; omega))
                  exact W.vret hx hb hr (fun t ht hW => ⟨⟨(q_313, q_314, rt, ru, (upd (upd fi slot.toNatClampNeg 9) x_305.toNatClampNeg r_311)), rfl, ⟨(show 0 ≤ q_313.toInt ∧ q_313.toInt ≤ 160 from hbq_313), (show (-1) ≤ q_314.toInt ∧ q_314.toInt ≤ 160 from hbq_314), (show 0 ≤ rt.toInt ∧ rt.toInt ≤ 40 from ⟨hy9, hy10⟩), (show 0 ≤ ru.toInt ∧ ru.toInt ≤ 8 from ⟨hy11, hy12⟩), (show q_313.toInt ≤ rz.toInt from by omega), (show (q_314.toInt = -1 → zIt (upd (upd fi slot.toNatClampNeg 9) x_305.toNatClampNeg r_311) slot.toInt.toNat) from by (intro h; have k3 : (9 : Int32).toInt = 9 := (by decide); exact zIt_mk (by simp only [upd]; rw [if_neg (by omega), if_pos (by omega)]) (by simp only [upd]; rw [if_pos (by omega)]) (rfl) (rfl) (by unfold zItv; refine ⟨?_, ?_, ?_, ?_, ?_, ?_, ?_, ?_, ?_, ?_, ?_⟩ <;> (intros; omega)))), (show (∀ j : Nat, j < slot.toInt.toNat → (upd (upd fi slot.toNatClampNeg 9) x_305.toNatClampNeg r_311) j = fi j) from by (intro j hj; simp only [upd]; rw [if_neg (by omega), if_neg (by omega)])), (show (q_314.toInt = (zItem fl rz.toInt rp.toInt rt.toInt ru.toInt).1 ∧ (q_314.toInt = -1 → q_313.toInt = (zItem fl rz.toInt rp.toInt rt.toInt ru.toInt).2.1 ∧ rt.toInt = (zItem fl rz.toInt rp.toInt rt.toInt ru.toInt).2.2.1 ∧ ru.toInt = (zItem fl rz.toInt rp.toInt rt.toInt ru.toInt).2.2.2)) from by (have z9 := hsr_1_1; rw [kc9] at z9; have hq : zFst fl rz.toInt rp.toInt zWds 10 = 9 ∧ ¬ ((9 : Int) = 3 ∧ ru.toInt = 8) := (by omega); have hl9 : (q_3 : Int32).toInt = rp.toInt + ((zWds ((9 : Int)).toNat).length : Nat) := (by omega); rw [zItem_w hq.1 (by decide) hq.2 hl9 hI]; dsimp only; exact ⟨by (first | rfl | omega), fun h => ⟨by (first | rfl | omega), by (show _ = (if (9 : Int) = 0 then _ else _); rw [if_neg (by decide)]), by (show _ = (if (9 : Int) = 3 then _ else _); rw [if_neg (by decide)])⟩⟩)), (show (q_314.toInt = -1 → (((upd (upd fi slot.toNatClampNeg 9) x_305.toNatClampNeg r_311) slot.toInt.toNat).toInt = 0 → rt.toInt = ((upd (upd fi slot.toNatClampNeg 9) x_305.toNatClampNeg r_311) (slot.toInt.toNat + 1)).toInt) ∧ (((upd (upd fi slot.toNatClampNeg 9) x_305.toNatClampNeg r_311) slot.toInt.toNat).toInt ≠ 0 → rt.toInt = rt.toInt) ∧ (((upd (upd fi slot.toNatClampNeg 9) x_305.toNatClampNeg r_311) slot.toInt.toNat).toInt = 3 → ru.toInt = ru.toInt + 1) ∧ (((upd (upd fi slot.toNatClampNeg 9) x_305.toNatClampNeg r_311) slot.toInt.toNat).toInt ≠ 3 → ru.toInt = ru.toInt)) from by (intro h; have g0 : (upd (upd fi slot.toNatClampNeg 9) x_305.toNatClampNeg r_311) slot.toInt.toNat = (9 : Int32) := (by simp only [upd]; rw [if_neg (by omega), if_pos (by omega)]); have g1 : (upd (upd fi slot.toNatClampNeg 9) x_305.toNatClampNeg r_311) (slot.toInt.toNat + 1) = (r_311 : Int32) := (by simp only [upd]; rw [if_pos (by omega)]); rw [g0, g1]; refine ⟨?_, ?_, ?_, ?_⟩ <;> (intro h9; first | rfl | omega | (exfalso; omega)))), (show (q_314.toInt = -1 → zSm (zDS (upd (upd fi slot.toNatClampNeg 9) x_305.toNatClampNeg r_311) slot.toInt.toNat) (zIm fl rz.toInt rp.toInt rt.toInt)) from by (intro h; have g0 : (upd (upd fi slot.toNatClampNeg 9) x_305.toNatClampNeg r_311) (slot.toInt.toNat + 0) = (9 : Int32) := (by simp only [upd]; rw [if_neg (by omega), if_pos (by omega)]); have g1 : (upd (upd fi slot.toNatClampNeg 9) x_305.toNatClampNeg r_311) (slot.toInt.toNat + 1) = (r_311 : Int32) := (by simp only [upd]; rw [if_pos (by omega)]); have z9 := hsr_1_1; rw [kc9] at z9; have hW : zIW fl rz.toInt rp.toInt = 9 := (by unfold zIW; omega); have hP9 : zIP fl rz.toInt rp.toInt = (q_3 : Int32).toInt := (by unfold zIP; rw [hW]; have hl9 : (q_3 : Int32).toInt = rp.toInt + ((zWds ((9 : Int)).toNat).length : Nat) := (by omega); exact hl9.symm); exact ⟨(show ((upd (upd fi slot.toNatClampNeg 9) x_305.toNatClampNeg r_311) (slot.toInt.toNat + 0)).toInt = zIW fl rz.toInt rp.toInt from by (rw [g0, hW]; omega)), (show ((upd (upd fi slot.toNatClampNeg 9) x_305.toNatClampNeg r_311) (slot.toInt.toNat + 1)).toInt = (zIn fl rz.toInt (zIP fl rz.toInt rp.toInt) rt.toInt (zIW fl rz.toInt rp.toInt)).2.2 from by (rw [g1, hP9, hW, hI])), fun hz => absurd (show ((upd (upd fi slot.toNatClampNeg 9) x_305.toNatClampNeg r_311) (slot.toInt.toNat + 0)).toInt = 2 ∨ ((upd (upd fi slot.toNatClampNeg 9) x_305.toNatClampNeg r_311) (slot.toInt.toNat + 0)).toInt = 3 ∨ ((upd (upd fi slot.toNatClampNeg 9) x_305.toNatClampNeg r_311) (slot.toInt.toNat + 0)).toInt = 8 from hz) (by rw [g0]; omega), fun hz => absurd (show ((upd (upd fi slot.toNatClampNeg 9) x_305.toNatClampNeg r_311) (slot.toInt.toNat + 0)).toInt = 3 from hz) (by rw [g0]; omega)⟩)), trivial⟩, zRet ht hP hD [1, 2, 0] (by decide) rfl⟩, hS.F ht⟩) hS.2.2 dX3_readItem_116
                · exact absurd c_321 (by decide)
              · exact absurd c_320 (by decide)
            · exact absurd c_319 (by decide)
          · have fc_317 : q_314.toInt ≠ (-1) := zf_ne c_317 rfl (by decide)
            have e0 : slot.toNatClampNeg = slot.toInt.toNat + 0 := (by show (slot : Int32).toInt.toNat = _; omega)
            have e1 : x_305.toNatClampNeg = slot.toInt.toNat + 1 := (by show (x_305 : Int32).toInt.toNat = _; omega)
            have hI := zIn_a hn0 (by first | (right; decide) | (left; omega))
            exact W.vret hx hb hr (fun t ht hW => ⟨⟨(q_313, q_314, rt, ru, (upd (upd fi slot.toNatClampNeg 9) x_305.toNatClampNeg r_311)), rfl, ⟨(show 0 ≤ q_313.toInt ∧ q_313.toInt ≤ 160 from hbq_313), (show (-1) ≤ q_314.toInt ∧ q_314.toInt ≤ 160 from hbq_314), (show 0 ≤ rt.toInt ∧ rt.toInt ≤ 40 from ⟨hy9, hy10⟩), (show 0 ≤ ru.toInt ∧ ru.toInt ≤ 8 from ⟨hy11, hy12⟩), (show q_313.toInt ≤ rz.toInt from by omega), (show (q_314.toInt = -1 → zIt (upd (upd fi slot.toNatClampNeg 9) x_305.toNatClampNeg r_311) slot.toInt.toNat) from by (intro h; exfalso; omega)), (show (∀ j : Nat, j < slot.toInt.toNat → (upd (upd fi slot.toNatClampNeg 9) x_305.toNatClampNeg r_311) j = fi j) from by (intro j hj; simp only [upd]; rw [if_neg (by omega), if_neg (by omega)])), (show (q_314.toInt = (zItem fl rz.toInt rp.toInt rt.toInt ru.toInt).1 ∧ (q_314.toInt = -1 → q_313.toInt = (zItem fl rz.toInt rp.toInt rt.toInt ru.toInt).2.1 ∧ rt.toInt = (zItem fl rz.toInt rp.toInt rt.toInt ru.toInt).2.2.1 ∧ ru.toInt = (zItem fl rz.toInt rp.toInt rt.toInt ru.toInt).2.2.2)) from by (have z9 := hsr_1_1; rw [kc9] at z9; have hq : zFst fl rz.toInt rp.toInt zWds 10 = 9 ∧ ¬ ((9 : Int) = 3 ∧ ru.toInt = 8) := (by omega); have hl9 : (q_3 : Int32).toInt = rp.toInt + ((zWds ((9 : Int)).toNat).length : Nat) := (by omega); rw [zItem_w hq.1 (by decide) hq.2 hl9 hI]; dsimp only; exact ⟨by (first | rfl | omega), fun h => ⟨by (first | rfl | omega), by (show _ = (if (9 : Int) = 0 then _ else _); rw [if_neg (by decide)]), by (show _ = (if (9 : Int) = 3 then _ else _); rw [if_neg (by decide)])⟩⟩)), (show (q_314.toInt = -1 → (((upd (upd fi slot.toNatClampNeg 9) x_305.toNatClampNeg r_311) slot.toInt.toNat).toInt = 0 → rt.toInt = ((upd (upd fi slot.toNatClampNeg 9) x_305.toNatClampNeg r_311) (slot.toInt.toNat + 1)).toInt) ∧ (((upd (upd fi slot.toNatClampNeg 9) x_305.toNatClampNeg r_311) slot.toInt.toNat).toInt ≠ 0 → rt.toInt = rt.toInt) ∧ (((upd (upd fi slot.toNatClampNeg 9) x_305.toNatClampNeg r_311) slot.toInt.toNat).toInt = 3 → ru.toInt = ru.toInt + 1) ∧ (((upd (upd fi slot.toNatClampNeg 9) x_305.toNatClampNeg r_311) slot.toInt.toNat).toInt ≠ 3 → ru.toInt = ru.toInt)) from by (intro h; exfalso; omega)), (show (q_314.toInt = -1 → zSm (zDS (upd (upd fi slot.toNatClampNeg 9) x_305.toNatClampNeg r_311) slot.toInt.toNat) (zIm fl rz.toInt rp.toInt rt.toInt)) from by (intro h; exfalso; omega)), trivial⟩, zRet ht hP hD [1, 2, 0] (by decide) rfl⟩, hS.F ht⟩) hS.2.2 dX3_readItem_75
  · have fc_7 : r_1.toInt = (-1) := zf_eq c_7 rfl (by decide)
    exact W.vret hx hb hr (fun t ht hW => ⟨⟨(q_3, q_4, rt, ru, fi), rfl, ⟨(show 0 ≤ q_3.toInt ∧ q_3.toInt ≤ 160 from hbq_3), (show (-1) ≤ q_4.toInt ∧ q_4.toInt ≤ 160 from hbq_4), (show 0 ≤ rt.toInt ∧ rt.toInt ≤ 40 from ⟨hy9, hy10⟩), (show 0 ≤ ru.toInt ∧ ru.toInt ≤ 8 from ⟨hy11, hy12⟩), (show q_3.toInt ≤ rz.toInt from by omega), (show (q_4.toInt = -1 → zIt fi slot.toInt.toNat) from by intro h; exfalso; omega), (show (∀ j : Nat, j < slot.toInt.toNat → fi j = fi j) from by exact fun _ _ => rfl), (show (q_4.toInt = (zItem fl rz.toInt rp.toInt rt.toInt ru.toInt).1 ∧ (q_4.toInt = -1 → q_3.toInt = (zItem fl rz.toInt rp.toInt rt.toInt ru.toInt).2.1 ∧ rt.toInt = (zItem fl rz.toInt rp.toInt rt.toInt ru.toInt).2.2.1 ∧ ru.toInt = (zItem fl rz.toInt rp.toInt rt.toInt ru.toInt).2.2.2)) from by (rcases hsr_1_1 with ⟨h1, h2, h3⟩ | ⟨h1, h2, h3, h4⟩ | ⟨h1, h2, h3⟩ <;> first | (rw [zItem_none h1]; dsimp only; exact ⟨by omega, fun h => by (exfalso; omega)⟩) | (rw [zItem_room h1 h2]; dsimp only; exact ⟨by omega, fun h => by (exfalso; omega)⟩) | (exfalso; omega))), (show (q_4.toInt = -1 → ((fi slot.toInt.toNat).toInt = 0 → rt.toInt = (fi (slot.toInt.toNat + 1)).toInt) ∧ ((fi slot.toInt.toNat).toInt ≠ 0 → rt.toInt = rt.toInt) ∧ ((fi slot.toInt.toNat).toInt = 3 → ru.toInt = ru.toInt + 1) ∧ ((fi slot.toInt.toNat).toInt ≠ 3 → ru.toInt = ru.toInt)) from by (intro h; exfalso; omega)), (show (q_4.toInt = -1 → zSm (zDS fi slot.toInt.toNat) (zIm fl rz.toInt rp.toInt rt.toInt)) from by (intro h; exfalso; omega)), trivial⟩, zRet ht hP hD [1, 2, 0] (by decide) rfl⟩, hS.F ht⟩) hS.2.2 dX3_readItem_10
end
section
set_option maxHeartbeats 4000000 in
set_option maxRecDepth 100000 in
theorem c_F_Sh_tells (l : Launch) (D : va_G) (cI cJ cZ cP cS : ClassId) (po : zPool) (h0 e0 : Nat) (he si : Int32) (fe : Nat → Int64) (i : Int32) (hy0 : (-1) ≤ he.toInt) (hy1 : he.toInt ≤ 103) (hy2 : 0 ≤ si.toInt) (hy3 : si.toInt ≤ 160) : Met l yX4_tells wsX4_tells ({ frames := 1, cells := 0, slots := 0, locals := 22 }) (va_Pc [.ref h0, .int i] (zR D (zKT cI cJ cZ cP cS) po [(h0, .inr (4, [.ref e0, .int he, .int si])), (e0, .inl (cJ, 160, .inr (.inl fe)))])) (vp_Si (fun r => ((0 ≤ i.toInt → i.toInt < si.toInt → r = (fe i.toNatClampNeg).toInt32)))) 0 0 (fun _ => False) := by
  refine Met.ofW (cc := cX4_tells) (maxL := 2) (ret := (some .int)) (by decide) rfl ?_
  intro p e s m args below meth c s₁ B hml hv
  obtain ⟨rfl, hP, hK, hN, hZ⟩ := hv
  have hx := B.exec
  have hb := B.bytes
  have hr := B.returns
  have hts := atoms_spec (ws := wsX4_tells) B.pre
  have hown : s.vm.findClass RX4 = some m.cls := findClass_of_methodNamed B.named
  have hlocks := B.notSynchronized
  have hl := lv_entry ([.ref h0, .int i]) (n := 2) (Nat.le_of_ble_eq_true rfl)
  rw [lg_entry_eq]
  generalize (lg_sl ([.ref h0, .int i]) ++ List.replicate (2 - (lg_sl ([.ref h0, .int i])).length) Slot.unset).toArray = ls at hl ⊢
  replace hl : lv_has ls 2 [(0, .ref h0), (1, .int i)] := hl
  refine lv_aload_n hx hb dX4_tells_0 rfl (lv_at hl 0 rfl) ?_
  refine lv_iload_n hx hb dX4_tells_1 rfl (lv_at hl 1 rfl) ?_
  refine lv_iconst (v := 1) hx hb dX4_tells_2 (by decide) ?_
  have kc1 : (1 : Int32).toInt = 1 := by decide
  refine zc_V (As := [.int i, .int 1]) (rest := []) ⟨hx, hb, hml, hown, hts⟩ (c_Sh_hasSpan l D cI cJ cZ cP cS po h0 e0 (he) (si) (i) (1) hy0 hy1 hy2 hy3) (cwV 2 hts gX4_tells_X4_hasSpan rfl rfl rfl ⟨rfl, dh_X4_hasSpan⟩ ⟨Nat.le_of_ble_eq_true rfl, Nat.le_of_ble_eq_true rfl⟩) hK hN hZ hP (hP.sub [0] rfl) (va_recv (q := (RX4, TX4, 3)) hK hP (ci := 4) (q0 := 0) rfl rfl) rfl hl.1 rfl (Nat.le_of_ble_eq_true rfl) dX4_tells_3 ⟨Nat.le_of_ble_eq_true rfl, Nat.le_of_ble_eq_true rfl⟩ (fun r_1 hr_1 => ?_)
  rcases hr_1 with ⟨rfl, g_2⟩ | ⟨rfl, g_3, g_4⟩ | ⟨rfl, g_5, g_6, g_7⟩ | ⟨rfl, g_8, g_9, g_10, g_11⟩ | ⟨rfl, g_12, g_13, g_14, g_15⟩
  · refine lv_if_eq (tgt := 19) hx hb dX4_tells_6 (by decide) (fun c_16 => ?_) (fun c_16 => ?_)
    · refine lv_iconst (v := 0) hx hb dX4_tells_19 (by decide) ?_
      exact W.iret (v := 0) hx hb hr (fun t ht hW => ⟨0, rfl, (show (0 ≤ i.toInt → i.toInt < si.toInt → (0 : Int32) = (fe i.toNatClampNeg).toInt32) from by (intro h1 h2; exfalso; omega)), ht⟩) (fun q hq => by cases hq) dX4_tells_20
    · exact absurd c_16 (by decide)
  · exfalso; omega
  · refine lv_if_eq (tgt := 19) hx hb dX4_tells_6 (by decide) (fun c_17 => ?_) (fun c_17 => ?_)
    · refine lv_iconst (v := 0) hx hb dX4_tells_19 (by decide) ?_
      exact W.iret (v := 0) hx hb hr (fun t ht hW => ⟨0, rfl, (show (0 ≤ i.toInt → i.toInt < si.toInt → (0 : Int32) = (fe i.toNatClampNeg).toInt32) from by (intro h1 h2; exfalso; omega)), ht⟩) (fun q hq => by cases hq) dX4_tells_20
    · exact absurd c_17 (by decide)
  · refine lv_if_eq (tgt := 19) hx hb dX4_tells_6 (by decide) (fun c_18 => ?_) (fun c_18 => ?_)
    · refine lv_iconst (v := 0) hx hb dX4_tells_19 (by decide) ?_
      exact W.iret (v := 0) hx hb hr (fun t ht hW => ⟨0, rfl, (show (0 ≤ i.toInt → i.toInt < si.toInt → (0 : Int32) = (fe i.toNatClampNeg).toInt32) from by (intro h1 h2; exfalso; omega)), ht⟩) (fun q hq => by cases hq) dX4_tells_20
    · exact absurd c_18 (by decide)
  · refine lv_if_eq (tgt := 19) hx hb dX4_tells_6 (by decide) (fun c_19 => ?_) (fun c_19 => ?_)
    · exact absurd c_19 (by decide)
    · refine lv_aload_n hx hb dX4_tells_9 rfl (lv_at hl 0 rfl) ?_
      refine va_get (D := D) (ci := 4) (v := .ref e0) (C := RX4) (T := TX4) (N := 3) hx hb hts hi_X4_tells_4 hown hK hP 0 rfl rfl 0 (by decide) (hts (.fieldLink RX4 9 "TheLiningsInIt$Shelf" "elements" "[J") (List.mem_of_getElem? (i := 1) rfl)) (fun _ h9 => h9) rfl dX4_tells_10 ?_
      refine lv_iload_n hx hb dX4_tells_13 rfl (lv_at hl 1 rfl) ?_
      refine va_lald hx hb hK hP 1 1 rfl rfl (zf_in (by omega) (by omega)) dX4_tells_14 ?_
      refine lv_topl (fun x_20 ex_20 => ?_)
      refine lv_l2i hx hb dX4_tells_15 rfl ?_
      refine lv_topi (fun x_21 ex_21 => ?_)
      refine lv_goto (tgt := 20) hx hb dX4_tells_16 (by decide) ?_
      exact W.iret (v := x_21) hx hb hr (fun t ht hW => ⟨x_21, rfl, (show (0 ≤ i.toInt → i.toInt < si.toInt → (x_21 : Int32) = (fe i.toNatClampNeg).toInt32) from by (intro _ _; rw [ex_21, ex_20])), ht⟩) (fun q hq => by cases hq) dX4_tells_20
set_option maxHeartbeats 4000000 in
set_option maxRecDepth 100000 in
theorem c_F_R_takeLetters (l : Launch) (D : va_G) (cI cJ cZ cP cS : ClassId) (po : zPool) (rd ri rl : Nat) (rz rc rp rf rt ru : Int32) (fl : Nat → Int32) (h0 e0 : Nat) (he si : Int32) (fe : Nat → Int64) (hy0 : 0 ≤ rz.toInt) (hy1 : rz.toInt ≤ 160) (hy2 : 0 ≤ rc.toInt) (hy3 : rc.toInt ≤ 40) (hy4 : 0 ≤ rp.toInt) (hy5 : rp.toInt ≤ 160) (hy6 : rp.toInt ≤ rz.toInt) (hy7 : (-1) ≤ rf.toInt) (hy8 : rf.toInt ≤ 160) (hy9 : 0 ≤ rt.toInt) (hy10 : rt.toInt ≤ 40) (hy11 : 0 ≤ ru.toInt) (hy12 : ru.toInt ≤ 8) (hy13 : (-1) ≤ he.toInt) (hy14 : he.toInt ≤ 103) (hy15 : 0 ≤ si.toInt) (hy16 : si.toInt ≤ 160) (hpz : Nat) : Met l yX3_takeLetters wsX3_takeLetters ({ frames := 2, cells := 0, slots := 0, locals := 43 }) (va_Pc [.ref rd, .ref h0] (zW D (zKT cI cJ cZ cP cS) po [(rd, .inr (3, [.ref ri, .ref rl, .int rz, .int rc, .int rp, .int rf, .int rt, .int ru])), (rl, .inl (cI, 160, .inl fl)), (h0, .inr (4, [.ref e0, .int he, .int si])), (e0, .inl (cJ, 160, .inr (.inl fe)))] hpz)) (va_Qv (fun (u : (Int32) × (Nat → Int32)) => (0 ≤ u.1.toInt ∧ u.1.toInt ≤ 160) ∧ (u.1.toInt = si.toInt) ∧ ((∀ j : Nat, (j : Int) < u.1.toInt → u.2 j = (fe j).toInt32)) ∧ (True)) (zB D [(rd, .inr (3, [.ref ri, .ref rl, .int rz, .int rc, .int rp, .int rf, .int rt, .int ru])), (rl, .inl (cI, 160, .inl fl)), (h0, .inr (4, [.ref e0, .int he, .int si])), (e0, .inl (cJ, 160, .inr (.inl fe)))] hpz (fun (u : (Int32) × (Nat → Int32)) => [(rd, .inr (3, [.ref ri, .ref rl, .int u.1, .int rc, .int rp, .int rf, .int rt, .int ru])), (rl, .inl (cI, 160, .inl u.2)), (h0, .inr (4, [.ref e0, .int he, .int si])), (e0, .inl (cJ, 160, .inr (.inl fe)))])) (va_A [(rd, .inr (3, [.ref ri, .ref rl, .int rz, .int rc, .int rp, .int rf, .int rt, .int ru])), (rl, .inl (cI, 160, .inl fl)), (h0, .inr (4, [.ref e0, .int he, .int si])), (e0, .inl (cJ, 160, .inr (.inl fe)))] hpz)) 0 0 (va_A [(rd, .inr (3, [.ref ri, .ref rl, .int rz, .int rc, .int rp, .int rf, .int rt, .int ru])), (rl, .inl (cI, 160, .inl fl)), (h0, .inr (4, [.ref e0, .int he, .int si])), (e0, .inl (cJ, 160, .inr (.inl fe)))] hpz) := by
  refine Met.ofW (cc := cX3_takeLetters) (maxL := 3) (ret := none) (by decide) rfl ?_
  intro p e s m args below meth c s₁ B hml hv
  obtain ⟨rfl, hsz, hP, hK, hD0, hN, hZ⟩ := hv
  have hx := B.exec
  have hb := B.bytes
  have hr := B.returns
  have hts := atoms_spec (ws := wsX3_takeLetters) B.pre
  have hown : s.vm.findClass RX3 = some m.cls := findClass_of_methodNamed B.named
  have hlocks := B.notSynchronized
  subst hsz
  have hD := hD0.self (sz := s.heap.size)
  have hA := zA_of hD
  have hl := lv_entry ([.ref rd, .ref h0]) (n := 3) (Nat.le_of_ble_eq_true rfl)
  rw [lg_entry_eq]
  generalize (lg_sl ([.ref rd, .ref h0]) ++ List.replicate (3 - (lg_sl ([.ref rd, .ref h0])).length) Slot.unset).toArray = ls at hl ⊢
  replace hl : lv_has ls 3 [(0, .ref rd), (1, .ref h0)] := hl
  refine zw_begin hP hD (fun H locs hP1 hS => ?_)
  clear hP
  have hP := hP1
  clear hP1
  refine lv_aload_n hx hb dX3_takeLetters_0 rfl (lv_at hl 0 rfl) ?_
  refine lv_aload_n hx hb dX3_takeLetters_1 rfl (lv_at hl 1 rfl) ?_
  refine va_get (D := D) (ci := 4) (v := .int si) (C := RX4) (T := TX4) (N := 3) hx hb hts hi_X3_takeLetters_4 hown hK hP 2 rfl rfl 2 (by decide) (hts (.fieldLink RX3 49 "TheLiningsInIt$Shelf" "size" "I") (List.mem_of_getElem? (i := 1) rfl)) (fun _ h9 => h9) rfl dX3_takeLetters_2 ?_
  refine lv_sipush (v := 160) hx hb dX3_takeLetters_5 (by decide) ?_
  refine va_mmin hx hb (hml.trans hl.1.symm) hown (hts (.methodLink RX3 52 Lib.Math.min.name) (List.mem_of_getElem? (i := 2) rfl)) (hts _ (List.mem_of_getElem? (i := 3) rfl)) (hts _ (List.mem_of_getElem? (i := 4) rfl)) (hts _ (List.mem_of_getElem? (i := 5) rfl)) (Nat.le_of_ble_eq_true rfl) (Nat.le_of_ble_eq_true rfl) (Nat.le_of_ble_eq_true rfl) (Nat.le_of_ble_eq_true rfl) dX3_takeLetters_8 ?_
  refine lv_topi (fun x_1 ex_1 => ?_)
  have qx_1 := zf_min ex_1 (x1 := si.toInt) (y1 := 160) rfl (by decide)
  refine va_put (D := D) (ci := 3) (v := .int x_1) (ty := .int) (C := RX3) (T := TX3) (N := 8) hx hb hts hi_X3_takeLetters_3 tyX3 tyX3_ok nmX3 hown hK hP hD hS 0 rfl rfl 2 (by decide) (hts (.fieldLink RX3 18 "TheLiningsInIt$Reader" "size" "I") (List.mem_of_getElem? (i := 6) rfl)) (fun _ h9 => h9) rfl (tyX3_ok 2 (Nat.le_of_ble_eq_true rfl)) rfl rfl (Nat.le_of_ble_eq_true rfl) dX3_takeLetters_11 (fun H locs hP hD hS => ?_)
  have h9R := zRe (ws' := [(rd, .inr (3, [.ref ri, .ref rl, .int x_1, .int rc, .int rp, .int rf, .int rt, .int ru])), (rl, .inl (cI, 160, .inl fl)), (h0, .inr (4, [.ref e0, .int he, .int si])), (e0, .inl (cJ, 160, .inr (.inl fe)))]) hP hD rfl
  clear hP hD
  obtain ⟨hP, hD⟩ := h9R
  refine lv_iconst (v := 0) hx hb dX3_takeLetters_14 (by decide) ?_
  refine lv_istore_n (lv' := [(2, .int 0), (0, .ref rd), (1, .ref h0)]) hx hb dX3_takeLetters_15 rfl hl (by decide) rfl (fun ls hl => ?_)
  obtain ⟨i_16, hi_16⟩ : ∃ i : Int32, i = 0 := ⟨_, rfl⟩
  replace hl : lv_has ls 3 [(2, .int i_16), (0, .ref rd), (1, .ref h0)] := by rw [hi_16]; exact lv_sub hl [0, 1, 2] rfl
  have h1i_16 : i_16.toInt = 0 := by rw [hi_16]; decide
  obtain ⟨nfu, hni_16⟩ : ∃ nq9 : Nat, 160 ≤ i_16.toInt + (nq9 : Int) := ⟨((160 : Int) - 0).toNat, by omega⟩
  have hloi_16 : 0 ≤ i_16.toInt := by omega
  obtain ⟨g_2, hg_2⟩ : ∃ g : Nat → Int32, g = fl := ⟨_, rfl⟩
  replace hP : va_P D vwCl [(rd, .inr (3, [.ref ri, .ref rl, .int x_1, .int rc, .int rp, .int rf, .int rt, .int ru])), (rl, .inl (cI, 160, .inl g_2)), (h0, .inr (4, [.ref e0, .int he, .int si])), (e0, .inl (cJ, 160, .inr (.inl fe)))] H := by rw [hg_2]; exact hP
  replace hD : va_D (va_A [(rd, .inr (3, [.ref ri, .ref rl, .int rz, .int rc, .int rp, .int rf, .int rt, .int ru])), (rl, .inl (cI, 160, .inl fl)), (h0, .inr (4, [.ref e0, .int he, .int si])), (e0, .inl (cJ, 160, .inr (.inl fe)))] s.heap.size) [(rd, .inr (3, [.ref ri, .ref rl, .int x_1, .int rc, .int rp, .int rf, .int rt, .int ru])), (rl, .inl (cI, 160, .inl g_2)), (h0, .inr (4, [.ref e0, .int he, .int si])), (e0, .inl (cJ, 160, .inr (.inl fe)))] := by rw [hg_2]; exact hD
  have hvi_16_0 : (∀ j : Nat, (j : Int) < i_16.toInt → g_2 j = (fe j).toInt32) := by
    (try rw [hi_16]); (try rw [hg_2]); (intro j hj; exfalso; have k0 : (0 : Int32).toInt = 0 := (by decide); omega)
  clear h1i_16 hi_16 hg_2
  skip
  revert hni_16
  revert hloi_16
  revert hvi_16_0
  revert hl
  revert hS
  revert hD
  revert hP
  revert ls
  revert locs
  revert H
  revert g_2
  revert i_16
  induction nfu with
  | zero =>
    intro i_16 g_2 H locs ls hP hD hS hl hvi_16_0 hloi_16 hni_16
    have hzi_16 : 160 ≤ i_16.toInt := by omega
    refine lv_iload_n hx hb dX3_takeLetters_16 rfl (lv_at hl 0 rfl) ?_
    refine lv_aload_n hx hb dX3_takeLetters_17 rfl (lv_at hl 1 rfl) ?_
    refine va_get (D := D) (ci := 3) (v := .int x_1) (C := RX3) (T := TX3) (N := 8) hx hb hts hi_X3_takeLetters_3 hown hK hP 0 rfl rfl 2 (by decide) (hts (.fieldLink RX3 18 "TheLiningsInIt$Reader" "size" "I") (List.mem_of_getElem? (i := 6) rfl)) (fun _ h9 => h9) rfl dX3_takeLetters_18 ?_
    refine lv_icmp_ge (tgt := 41) hx hb dX3_takeLetters_21 (by decide) (fun c_3 => ?_) (fun c_3 => ?_)
    · have fc_3 : x_1.toInt ≤ i_16.toInt := zf_le c_3 rfl rfl
      exact W.vret hx hb hr (fun t ht hW => ⟨⟨(x_1, g_2), rfl, ⟨(show 0 ≤ x_1.toInt ∧ x_1.toInt ≤ 160 from ⟨by omega, by omega⟩), (show x_1.toInt = si.toInt from by omega), (show (∀ j : Nat, (j : Int) < x_1.toInt → g_2 j = (fe j).toInt32) from by (intro j hj; exact hvi_16_0 j (by omega))), trivial⟩, zRet ht hP hD [0, 1, 2, 3] (by decide) rfl⟩, hS.F ht⟩) hS.2.2 dX3_takeLetters_41
    · exfalso; have fc_3 : i_16.toInt < x_1.toInt := zf_nle c_3 rfl rfl; omega
  | succ nfu ih =>
    intro i_16 g_2 H locs ls hP hD hS hl hvi_16_0 hloi_16 hni_16
    refine lv_iload_n hx hb dX3_takeLetters_16 rfl (lv_at hl 0 rfl) ?_
    refine lv_aload_n hx hb dX3_takeLetters_17 rfl (lv_at hl 1 rfl) ?_
    refine va_get (D := D) (ci := 3) (v := .int x_1) (C := RX3) (T := TX3) (N := 8) hx hb hts hi_X3_takeLetters_3 hown hK hP 0 rfl rfl 2 (by decide) (hts (.fieldLink RX3 18 "TheLiningsInIt$Reader" "size" "I") (List.mem_of_getElem? (i := 6) rfl)) (fun _ h9 => h9) rfl dX3_takeLetters_18 ?_
    refine lv_icmp_ge (tgt := 41) hx hb dX3_takeLetters_21 (by decide) (fun c_4 => ?_) (fun c_4 => ?_)
    · have fc_4 : x_1.toInt ≤ i_16.toInt := zf_le c_4 rfl rfl
      exact W.vret hx hb hr (fun t ht hW => ⟨⟨(x_1, g_2), rfl, ⟨(show 0 ≤ x_1.toInt ∧ x_1.toInt ≤ 160 from ⟨by omega, by omega⟩), (show x_1.toInt = si.toInt from by omega), (show (∀ j : Nat, (j : Int) < x_1.toInt → g_2 j = (fe j).toInt32) from by (intro j hj; exact hvi_16_0 j (by omega))), trivial⟩, zRet ht hP hD [0, 1, 2, 3] (by decide) rfl⟩, hS.F ht⟩) hS.2.2 dX3_takeLetters_41
    · have fc_4 : i_16.toInt < x_1.toInt := zf_nle c_4 rfl rfl
      refine lv_aload_n hx hb dX3_takeLetters_24 rfl (lv_at hl 1 rfl) ?_
      refine va_get (D := D) (ci := 3) (v := .ref rl) (C := RX3) (T := TX3) (N := 8) hx hb hts hi_X3_takeLetters_3 hown hK hP 0 rfl rfl 1 (by decide) (hts (.fieldLink RX3 15 "TheLiningsInIt$Reader" "letters" "[I") (List.mem_of_getElem? (i := 7) rfl)) (fun _ h9 => h9) rfl dX3_takeLetters_25 ?_
      refine lv_iload_n hx hb dX3_takeLetters_28 rfl (lv_at hl 0 rfl) ?_
      refine lv_aload_n hx hb dX3_takeLetters_29 rfl (lv_at hl 2 rfl) ?_
      refine lv_iload_n hx hb dX3_takeLetters_30 rfl (lv_at hl 0 rfl) ?_
      refine zc_V (As := [.int i_16]) (rest := [.int i_16, .ref rl]) ⟨hx, hb, hml, hown, hts⟩ (c_F_Sh_tells l D cI cJ cZ cP cS po h0 e0 (he) (si) fe (i_16) hy13 hy14 hy15 hy16) (cwV 1 hts gX3_takeLetters_X4_tells rfl rfl rfl ⟨rfl, dh_X4_tells⟩ ⟨Nat.le_of_ble_eq_true rfl, Nat.le_of_ble_eq_true rfl⟩) hK hN (hZ.kept hS) hP (hP.sub [2, 3] rfl) (va_recv (q := (RX4, TX4, 3)) hK hP (ci := 4) (q0 := 2) rfl rfl) rfl hl.1 rfl (Nat.le_of_ble_eq_true rfl) dX3_takeLetters_31 ⟨Nat.le_of_ble_eq_true rfl, Nat.le_of_ble_eq_true rfl⟩ (fun r_5 hr_5 => ?_)
      have hsr_5_0 := hr_5
      refine va_iast hx hb hK hP hD hS 1 0 rfl rfl (zf_in (by omega) (by omega)) dX3_takeLetters_34 (fun H locs hP hD hS => ?_)
      obtain ⟨g_6, hg_6⟩ : ∃ g : Nat → Int32, g = upd g_2 i_16.toNatClampNeg r_5 := ⟨_, rfl⟩
      rw [← hg_6] at hP hD
      have h9R := zRe (ws' := [(rd, .inr (3, [.ref ri, .ref rl, .int x_1, .int rc, .int rp, .int rf, .int rt, .int ru])), (rl, .inl (cI, 160, .inl g_6)), (h0, .inr (4, [.ref e0, .int he, .int si])), (e0, .inl (cJ, 160, .inr (.inl fe)))]) hP hD rfl
      clear hP hD
      obtain ⟨hP, hD⟩ := h9R
      obtain ⟨x_7, ex_7⟩ : ∃ y : Int32, y = i_16 + 1 := ⟨_, rfl⟩
      have qx_7 : x_7.toInt = i_16.toInt + 1 := dw_inc ex_7 fc_4
      refine lv_iinc (v := x_7) (lv' := [(2, .int x_7), (0, .ref rd), (1, .ref h0)]) hx hb dX3_takeLetters_35 hl (k := 0) rfl ex_7.symm (by decide) rfl (fun ls hl => ?_)
      refine lv_goto (tgt := 16) hx hb dX3_takeLetters_38 (by decide) ?_
      exact ih x_7 (g_6) _ _ _ (hP.sub [0, 1, 2, 3] rfl) (hD.sub [0, 1, 2, 3] (by decide) rfl) hS (lv_sub hl [0, 1, 2] rfl) (show (∀ j : Nat, (j : Int) < x_7.toInt → g_6 j = (fe j).toInt32) from by (intro j hj; rw [hg_6]; simp only [upd]; by_cases e9 : j = i_16.toNatClampNeg; (rw [if_pos e9, hsr_5_0 (by omega) (by omega), e9]); (have h7 : i_16.toNatClampNeg = i_16.toInt.toNat := rfl; rw [if_neg e9]; exact hvi_16_0 j (by omega)))) (dw_lo hloi_16 qx_7) (dw_hn hni_16 qx_7)
set_option maxHeartbeats 4000000 in
set_option maxRecDepth 100000 in
theorem c_F_R_read (l : Launch) (D : va_G) (cI cJ cZ cP cS : ClassId) (po : zPool) (rd ri rl : Nat) (rz rc rp rf rt ru : Int32) (fl : Nat → Int32) (fi : Nat → Int32) (h0 e0 : Nat) (he si : Int32) (fe : Nat → Int64) (te pu : Int32) (hy0 : 0 ≤ rz.toInt) (hy1 : rz.toInt ≤ 160) (hy2 : 0 ≤ rc.toInt) (hy3 : rc.toInt ≤ 40) (hy4 : 0 ≤ rp.toInt) (hy5 : rp.toInt ≤ 160) (hy6 : rp.toInt ≤ rz.toInt) (hy7 : (-1) ≤ rf.toInt) (hy8 : rf.toInt ≤ 160) (hy9 : 0 ≤ rt.toInt) (hy10 : rt.toInt ≤ 40) (hy11 : 0 ≤ ru.toInt) (hy12 : ru.toInt ≤ 8) (hy13 : (-1) ≤ he.toInt) (hy14 : he.toInt ≤ 103) (hy15 : 0 ≤ si.toInt) (hy16 : si.toInt ≤ 160) (hy17 : 4 ≤ te.toInt) (hy18 : te.toInt ≤ 40) (hy19 : 0 ≤ pu.toInt) (hy20 : pu.toInt ≤ 8) (hpz : Nat) : Met l yX3_read wsX3_read ({ frames := 7, cells := 0, slots := 0, locals := 154 }) (va_Pc [.ref rd, .ref h0, .int te, .int pu] (zW D (zKT cI cJ cZ cP cS) po [(rd, .inr (3, [.ref ri, .ref rl, .int rz, .int rc, .int rp, .int rf, .int rt, .int ru])), (rl, .inl (cI, 160, .inl fl)), (ri, .inl (cI, 132, .inl fi)), (h0, .inr (4, [.ref e0, .int he, .int si])), (e0, .inl (cJ, 160, .inr (.inl fe)))] hpz)) (va_Qi (fun (r : Int32) (u : (Int32) × (Int32) × (Int32) × (Int32) × (Int32) × (Int32) × (Nat → Int32) × (Nat → Int32)) => (0 ≤ u.1.toInt ∧ u.1.toInt ≤ 160) ∧ (0 ≤ u.2.1.toInt ∧ u.2.1.toInt ≤ 33) ∧ (0 ≤ u.2.2.1.toInt ∧ u.2.2.1.toInt ≤ 160) ∧ ((-1) ≤ u.2.2.2.1.toInt ∧ u.2.2.2.1.toInt ≤ 160) ∧ (0 ≤ u.2.2.2.2.1.toInt ∧ u.2.2.2.2.1.toInt ≤ 40) ∧ (0 ≤ u.2.2.2.2.2.1.toInt ∧ u.2.2.2.2.2.1.toInt ≤ 8) ∧ (u.2.2.1.toInt ≤ u.1.toInt) ∧ (r.toInt = u.2.2.2.1.toInt) ∧ ((r.toInt = -1 → ∀ k : Nat, k < u.2.1.toInt.toNat → zIt u.2.2.2.2.2.2.1 (4 * k))) ∧ (u.1.toInt = si.toInt) ∧ ((∀ j : Nat, (j : Int) < u.1.toInt → u.2.2.2.2.2.2.2 j = (fe j).toInt32)) ∧ (zEnd u.2.2.2.2.2.2.2 u.1.toInt te.toInt pu.toInt (u.2.1.toInt - 1).toNat u.2.2.2.1.toInt u.2.2.2.2.1.toInt u.2.2.2.2.2.1.toInt) ∧ (1 ≤ u.2.1.toInt) ∧ ((u.2.2.2.1.toInt = -1 → u.2.2.2.2.2.1.toInt = pu.toInt + zCP u.2.2.2.2.2.2.1 u.2.1.toInt.toNat ∧ u.2.2.2.2.1.toInt = zLT u.2.2.2.2.2.2.1 te.toInt u.2.1.toInt.toNat)) ∧ ((u.2.2.2.1.toInt = -1 → ∀ k : Nat, k < u.2.1.toInt.toNat → zKI u.2.2.2.2.2.2.2 u.1.toInt te.toInt pu.toInt u.2.2.2.2.2.2.1 k)) ∧ (-1 ≤ r.toInt ∧ r.toInt ≤ 160)) (zB D [(rd, .inr (3, [.ref ri, .ref rl, .int rz, .int rc, .int rp, .int rf, .int rt, .int ru])), (rl, .inl (cI, 160, .inl fl)), (ri, .inl (cI, 132, .inl fi)), (h0, .inr (4, [.ref e0, .int he, .int si])), (e0, .inl (cJ, 160, .inr (.inl fe)))] hpz (fun (u : (Int32) × (Int32) × (Int32) × (Int32) × (Int32) × (Int32) × (Nat → Int32) × (Nat → Int32)) => [(rd, .inr (3, [.ref ri, .ref rl, .int u.1, .int u.2.1, .int u.2.2.1, .int u.2.2.2.1, .int u.2.2.2.2.1, .int u.2.2.2.2.2.1])), (rl, .inl (cI, 160, .inl u.2.2.2.2.2.2.2)), (ri, .inl (cI, 132, .inl u.2.2.2.2.2.2.1)), (h0, .inr (4, [.ref e0, .int he, .int si])), (e0, .inl (cJ, 160, .inr (.inl fe)))])) (va_A [(rd, .inr (3, [.ref ri, .ref rl, .int rz, .int rc, .int rp, .int rf, .int rt, .int ru])), (rl, .inl (cI, 160, .inl fl)), (ri, .inl (cI, 132, .inl fi)), (h0, .inr (4, [.ref e0, .int he, .int si])), (e0, .inl (cJ, 160, .inr (.inl fe)))] hpz)) 0 0 (va_A [(rd, .inr (3, [.ref ri, .ref rl, .int rz, .int rc, .int rp, .int rf, .int rt, .int ru])), (rl, .inl (cI, 160, .inl fl)), (ri, .inl (cI, 132, .inl fi)), (h0, .inr (4, [.ref e0, .int he, .int si])), (e0, .inl (cJ, 160, .inr (.inl fe)))] hpz) := by
  refine Met.ofW (cc := cX3_read) (maxL := 5) (ret := (some .int)) (by decide) rfl ?_
  intro p e s m args below meth c s₁ B hml hv
  obtain ⟨rfl, hsz, hP, hK, hD0, hN, hZ⟩ := hv
  have hx := B.exec
  have hb := B.bytes
  have hr := B.returns
  have hts := atoms_spec (ws := wsX3_read) B.pre
  have hown : s.vm.findClass RX3 = some m.cls := findClass_of_methodNamed B.named
  have hlocks := B.notSynchronized
  subst hsz
  have hD := hD0.self (sz := s.heap.size)
  have hA := zA_of hD
  have hl := lv_entry ([.ref rd, .ref h0, .int te, .int pu]) (n := 5) (Nat.le_of_ble_eq_true rfl)
  rw [lg_entry_eq]
  generalize (lg_sl ([.ref rd, .ref h0, .int te, .int pu]) ++ List.replicate (5 - (lg_sl ([.ref rd, .ref h0, .int te, .int pu])).length) Slot.unset).toArray = ls at hl ⊢
  replace hl : lv_has ls 5 [(0, .ref rd), (1, .ref h0), (2, .int te), (3, .int pu)] := hl
  refine zw_begin hP hD (fun H locs hP1 hS => ?_)
  clear hP
  have hP := hP1
  clear hP1
  refine lv_aload_n hx hb dX3_read_0 rfl (lv_at hl 0 rfl) ?_
  refine lv_aload_n hx hb dX3_read_1 rfl (lv_at hl 1 rfl) ?_
  skip
  refine zw_Vv (As := [.ref h0]) (rest := []) (wr := [(ri, .inl (cI, 132, .inl fi))]) ⟨hx, hb, hml, hown, hts⟩ (c_F_R_takeLetters l D cI cJ cZ cP cS po rd ri rl (rz) (rc) (rp) (rf) (rt) (ru) fl h0 e0 (he) (si) fe hy0 hy1 hy2 hy3 hy4 hy5 (by omega) hy7 hy8 hy9 hy10 hy11 hy12 hy13 hy14 hy15 hy16 H.size) (cwV 1 hts gX3_read_X3_takeLetters rfl rfl rfl ⟨rfl, dh_X3_takeLetters⟩ ⟨Nat.le_of_ble_eq_true rfl, Nat.le_of_ble_eq_true rfl⟩) hK hN (hZ.kept hS) hP hD hS hA [0, 1, 3, 4] [2] rfl rfl (by decide) (by decide) (by decide) (va_recv (q := (RX3, TX3, 8)) hK hP (ci := 3) (q0 := 0) rfl rfl) rfl hl.1 rfl (Nat.le_of_ble_eq_true rfl) dX3_read_2 ⟨Nat.le_of_ble_eq_true rfl, Nat.le_of_ble_eq_true rfl⟩ (fun u_2 H locs hr_1 hP hD hS => ?_)
  obtain ⟨q_3, q_4⟩ := u_2
  try dsimp only at hr_1
  obtain ⟨hbq_3, hsr_1_0, hsr_1_1, hr_1⟩ := hr_1
  have h9R := zRe (ws' := [(ri, .inl (cI, 132, .inl fi)), (rd, .inr (3, [.ref ri, .ref rl, .int q_3, .int rc, .int rp, .int rf, .int rt, .int ru])), (rl, .inl (cI, 160, .inl q_4)), (h0, .inr (4, [.ref e0, .int he, .int si])), (e0, .inl (cJ, 160, .inr (.inl fe)))]) hP hD rfl
  clear hP hD
  obtain ⟨hP, hD⟩ := h9R
  refine lv_aload_n hx hb dX3_read_5 rfl (lv_at hl 0 rfl) ?_
  refine lv_iload_n hx hb dX3_read_6 rfl (lv_at hl 2 rfl) ?_
  refine va_put (D := D) (ci := 3) (v := .int te) (ty := .int) (C := RX3) (T := TX3) (N := 8) hx hb hts hi_X3_read_3 tyX3 tyX3_ok nmX3 hown hK hP hD hS 1 rfl rfl 6 (by decide) (hts (.fieldLink RX3 31 "TheLiningsInIt$Reader" "teeth" "I") (List.mem_of_getElem? (i := 1) rfl)) (fun _ h9 => h9) rfl (tyX3_ok 6 (Nat.le_of_ble_eq_true rfl)) rfl rfl (Nat.le_of_ble_eq_true rfl) dX3_read_7 (fun H locs hP hD hS => ?_)
  have h9R := zRe (ws' := [(ri, .inl (cI, 132, .inl fi)), (rd, .inr (3, [.ref ri, .ref rl, .int q_3, .int rc, .int rp, .int rf, .int te, .int ru])), (rl, .inl (cI, 160, .inl q_4)), (h0, .inr (4, [.ref e0, .int he, .int si])), (e0, .inl (cJ, 160, .inr (.inl fe)))]) hP hD rfl
  clear hP hD
  obtain ⟨hP, hD⟩ := h9R
  refine lv_aload_n hx hb dX3_read_10 rfl (lv_at hl 0 rfl) ?_
  refine lv_iload_n hx hb dX3_read_11 rfl (lv_at hl 3 rfl) ?_
  refine va_put (D := D) (ci := 3) (v := .int pu) (ty := .int) (C := RX3) (T := TX3) (N := 8) hx hb hts hi_X3_read_3 tyX3 tyX3_ok nmX3 hown hK hP hD hS 1 rfl rfl 7 (by decide) (hts (.fieldLink RX3 34 "TheLiningsInIt$Reader" "pulls" "I") (List.mem_of_getElem? (i := 2) rfl)) (fun _ h9 => h9) rfl (tyX3_ok 7 (Nat.le_of_ble_eq_true rfl)) rfl rfl (Nat.le_of_ble_eq_true rfl) dX3_read_12 (fun H locs hP hD hS => ?_)
  have h9R := zRe (ws' := [(ri, .inl (cI, 132, .inl fi)), (rd, .inr (3, [.ref ri, .ref rl, .int q_3, .int rc, .int rp, .int rf, .int te, .int pu])), (rl, .inl (cI, 160, .inl q_4)), (h0, .inr (4, [.ref e0, .int he, .int si])), (e0, .inl (cJ, 160, .inr (.inl fe)))]) hP hD rfl
  clear hP hD
  obtain ⟨hP, hD⟩ := h9R
  refine lv_aload_n hx hb dX3_read_15 rfl (lv_at hl 0 rfl) ?_
  refine lv_iconst (v := 0) hx hb dX3_read_16 (by decide) ?_
  refine va_put (D := D) (ci := 3) (v := .int 0) (ty := .int) (C := RX3) (T := TX3) (N := 8) hx hb hts hi_X3_read_3 tyX3 tyX3_ok nmX3 hown hK hP hD hS 1 rfl rfl 4 (by decide) (hts (.fieldLink RX3 25 "TheLiningsInIt$Reader" "place" "I") (List.mem_of_getElem? (i := 3) rfl)) (fun _ h9 => h9) rfl (tyX3_ok 4 (Nat.le_of_ble_eq_true rfl)) rfl rfl (Nat.le_of_ble_eq_true rfl) dX3_read_17 (fun H locs hP hD hS => ?_)
  have h9R := zRe (ws' := [(ri, .inl (cI, 132, .inl fi)), (rd, .inr (3, [.ref ri, .ref rl, .int q_3, .int rc, .int 0, .int rf, .int te, .int pu])), (rl, .inl (cI, 160, .inl q_4)), (h0, .inr (4, [.ref e0, .int he, .int si])), (e0, .inl (cJ, 160, .inr (.inl fe)))]) hP hD rfl
  clear hP hD
  obtain ⟨hP, hD⟩ := h9R
  refine lv_aload_n hx hb dX3_read_20 rfl (lv_at hl 0 rfl) ?_
  refine lv_iconst (v := (-1)) hx hb dX3_read_21 (by decide) ?_
  refine va_put (D := D) (ci := 3) (v := .int (-1)) (ty := .int) (C := RX3) (T := TX3) (N := 8) hx hb hts hi_X3_read_3 tyX3 tyX3_ok nmX3 hown hK hP hD hS 1 rfl rfl 5 (by decide) (hts (.fieldLink RX3 28 "TheLiningsInIt$Reader" "fault" "I") (List.mem_of_getElem? (i := 4) rfl)) (fun _ h9 => h9) rfl (tyX3_ok 5 (Nat.le_of_ble_eq_true rfl)) rfl rfl (Nat.le_of_ble_eq_true rfl) dX3_read_22 (fun H locs hP hD hS => ?_)
  have h9R := zRe (ws' := [(ri, .inl (cI, 132, .inl fi)), (rd, .inr (3, [.ref ri, .ref rl, .int q_3, .int rc, .int 0, .int (-1), .int te, .int pu])), (rl, .inl (cI, 160, .inl q_4)), (h0, .inr (4, [.ref e0, .int he, .int si])), (e0, .inl (cJ, 160, .inr (.inl fe)))]) hP hD rfl
  clear hP hD
  obtain ⟨hP, hD⟩ := h9R
  refine lv_iconst (v := 1) hx hb dX3_read_25 (by decide) ?_
  refine lv_istore (lv' := [(4, .int 1), (0, .ref rd), (1, .ref h0), (2, .int te), (3, .int pu)]) hx hb dX3_read_26 hl (by decide) rfl (fun ls hl => ?_)
  refine lv_aload_n hx hb dX3_read_28 rfl (lv_at hl 1 rfl) ?_
  refine lv_iconst (v := 0) hx hb dX3_read_29 (by decide) ?_
  refine va_put (D := D) (ci := 3) (v := .int 0) (ty := .int) (C := RX3) (T := TX3) (N := 8) hx hb hts hi_X3_read_3 tyX3 tyX3_ok nmX3 hown hK hP hD hS 1 rfl rfl 3 (by decide) (hts (.fieldLink RX3 22 "TheLiningsInIt$Reader" "count" "I") (List.mem_of_getElem? (i := 5) rfl)) (fun _ h9 => h9) rfl (tyX3_ok 3 (Nat.le_of_ble_eq_true rfl)) rfl rfl (Nat.le_of_ble_eq_true rfl) dX3_read_30 (fun H locs hP hD hS => ?_)
  have h9R := zRe (ws' := [(ri, .inl (cI, 132, .inl fi)), (rd, .inr (3, [.ref ri, .ref rl, .int q_3, .int 0, .int 0, .int (-1), .int te, .int pu])), (rl, .inl (cI, 160, .inl q_4)), (h0, .inr (4, [.ref e0, .int he, .int si])), (e0, .inl (cJ, 160, .inr (.inl fe)))]) hP hD rfl
  clear hP hD
  obtain ⟨hP, hD⟩ := h9R
  obtain ⟨i_33, hi_33⟩ : ∃ i : Int32, i = 0 := ⟨_, rfl⟩
  replace hl : lv_has ls 5 [(4, .int 1), (0, .ref rd), (1, .ref h0), (2, .int te), (3, .int pu)] := lv_sub hl [0, 1, 2, 3, 4] rfl
  replace hP : va_P D vwCl [(ri, .inl (cI, 132, .inl fi)), (rd, .inr (3, [.ref ri, .ref rl, .int q_3, .int i_33, .int 0, .int (-1), .int te, .int pu])), (rl, .inl (cI, 160, .inl q_4)), (h0, .inr (4, [.ref e0, .int he, .int si])), (e0, .inl (cJ, 160, .inr (.inl fe)))] H := by rw [hi_33]; exact hP
  replace hD : va_D (va_A [(rd, .inr (3, [.ref ri, .ref rl, .int rz, .int rc, .int rp, .int rf, .int rt, .int ru])), (rl, .inl (cI, 160, .inl fl)), (ri, .inl (cI, 132, .inl fi)), (h0, .inr (4, [.ref e0, .int he, .int si])), (e0, .inl (cJ, 160, .inr (.inl fe)))] s.heap.size) [(ri, .inl (cI, 132, .inl fi)), (rd, .inr (3, [.ref ri, .ref rl, .int q_3, .int i_33, .int 0, .int (-1), .int te, .int pu])), (rl, .inl (cI, 160, .inl q_4)), (h0, .inr (4, [.ref e0, .int he, .int si])), (e0, .inl (cJ, 160, .inr (.inl fe)))] := by rw [hi_33]; exact hD
  have h1i_33 : i_33.toInt = 0 := by rw [hi_33]; decide
  obtain ⟨nfu, hni_33⟩ : ∃ nq9 : Nat, 33 ≤ i_33.toInt + (nq9 : Int) := ⟨((33 : Int) - 0).toNat, by omega⟩
  have hloi_33 : 0 ≤ i_33.toInt := by omega
  obtain ⟨g_5, hg_5⟩ : ∃ g : Nat → Int32, g = fi := ⟨_, rfl⟩
  obtain ⟨v_6, hv_6⟩ : ∃ g : Int32, g = 0 := ⟨_, rfl⟩
  have hbv_6 : 0 ≤ v_6.toInt ∧ v_6.toInt ≤ 160 := by rw [hv_6]; exact ⟨by decide, by decide⟩
  obtain ⟨v_7, hv_7⟩ : ∃ g : Int32, g = (-1) := ⟨_, rfl⟩
  have hbv_7 : -1 ≤ v_7.toInt ∧ v_7.toInt ≤ 160 := by rw [hv_7]; exact ⟨by decide, by decide⟩
  obtain ⟨v_8, hv_8⟩ : ∃ g : Int32, g = te := ⟨_, rfl⟩
  have hbv_8 : 0 ≤ v_8.toInt ∧ v_8.toInt ≤ 40 := by rw [hv_8]; exact ⟨by omega, by omega⟩
  obtain ⟨v_9, hv_9⟩ : ∃ g : Int32, g = pu := ⟨_, rfl⟩
  have hbv_9 : 0 ≤ v_9.toInt ∧ v_9.toInt ≤ 8 := by rw [hv_9]; exact ⟨by omega, by omega⟩
  replace hP : va_P D vwCl [(ri, .inl (cI, 132, .inl g_5)), (rd, .inr (3, [.ref ri, .ref rl, .int q_3, .int i_33, .int v_6, .int v_7, .int v_8, .int v_9])), (rl, .inl (cI, 160, .inl q_4)), (h0, .inr (4, [.ref e0, .int he, .int si])), (e0, .inl (cJ, 160, .inr (.inl fe)))] H := by rw [hg_5, hv_6, hv_7, hv_8, hv_9]; exact hP
  replace hD : va_D (va_A [(rd, .inr (3, [.ref ri, .ref rl, .int rz, .int rc, .int rp, .int rf, .int rt, .int ru])), (rl, .inl (cI, 160, .inl fl)), (ri, .inl (cI, 132, .inl fi)), (h0, .inr (4, [.ref e0, .int he, .int si])), (e0, .inl (cJ, 160, .inr (.inl fe)))] s.heap.size) [(ri, .inl (cI, 132, .inl g_5)), (rd, .inr (3, [.ref ri, .ref rl, .int q_3, .int i_33, .int v_6, .int v_7, .int v_8, .int v_9])), (rl, .inl (cI, 160, .inl q_4)), (h0, .inr (4, [.ref e0, .int he, .int si])), (e0, .inl (cJ, 160, .inr (.inl fe)))] := by rw [hg_5, hv_6, hv_7, hv_8, hv_9]; exact hD
  obtain ⟨v_10, hv_10⟩ : ∃ g : Int32, g = 1 := ⟨_, rfl⟩
  replace hl : lv_has ls 5 [(4, .int v_10), (0, .ref rd), (1, .ref h0), (2, .int te), (3, .int pu)] := by rw [hv_10]; exact hl
  have hbv_10 : 0 ≤ v_10.toInt ∧ v_10.toInt ≤ 1 := by rw [hv_10]; exact ⟨by decide, by decide⟩
  have hvi_33_0 : (v_6 : Int32).toInt ≤ (q_3 : Int32).toInt := by
    (try rw [hi_33]); (try rw [hg_5]); (try rw [hv_6]); (try rw [hv_7]); (try rw [hv_8]); (try rw [hv_9]); (try rw [hv_10]); first | omega | (simp; omega)
  have hvi_33_1 : ((v_7 : Int32).toInt = -1 → ∀ k : Nat, k < i_33.toInt.toNat → zIt g_5 (4 * k)) := by
    (try rw [hi_33]); (try rw [hg_5]); (try rw [hv_6]); (try rw [hv_7]); (try rw [hv_8]); (try rw [hv_9]); (try rw [hv_10]); (intro _ k hk; simp at hk)
  have hvi_33_2 : i_33.toInt ≤ 33 := by
    (try rw [hi_33]); (try rw [hg_5]); (try rw [hv_6]); (try rw [hv_7]); (try rw [hv_8]); (try rw [hv_9]); (try rw [hv_10]); first | omega | simp
  have hvi_33_3 : ((v_10 : Int32).toInt = 1 → (v_7 : Int32).toInt = -1) := by
    (try rw [hi_33]); (try rw [hg_5]); (try rw [hv_6]); (try rw [hv_7]); (try rw [hv_8]); (try rw [hv_9]); (try rw [hv_10]); (intro _; decide)
  have hvi_33_4 : ((v_10 : Int32).toInt = 1 → zRgo q_4 (q_3 : Int32).toInt te.toInt pu.toInt i_33.toInt.toNat = some ((v_6 : Int32).toInt, (v_8 : Int32).toInt, (v_9 : Int32).toInt)) := by
    (try rw [hi_33]); (try rw [hg_5]); (try rw [hv_6]); (try rw [hv_7]); (try rw [hv_8]); (try rw [hv_9]); (try rw [hv_10]); (intro _; rw [show ((0 : Int32).toInt.toNat) = 0 from by decide, show ((0 : Int32).toInt) = 0 from by decide]; rfl)
  have hvi_33_5 : ((v_10 : Int32).toInt = 0 → 1 ≤ i_33.toInt ∧ zEnd q_4 (q_3 : Int32).toInt te.toInt pu.toInt (i_33.toInt - 1).toNat (v_7 : Int32).toInt (v_8 : Int32).toInt (v_9 : Int32).toInt) := by
    (try rw [hi_33]); (try rw [hg_5]); (try rw [hv_6]); (try rw [hv_7]); (try rw [hv_8]); (try rw [hv_9]); (try rw [hv_10]); (intro h; exact absurd h (by decide))
  have hvi_33_6 : ((v_7 : Int32).toInt = -1 → (v_9 : Int32).toInt = pu.toInt + zCP g_5 i_33.toInt.toNat ∧ (v_8 : Int32).toInt = zLT g_5 te.toInt i_33.toInt.toNat) := by
    (try rw [hi_33]); (try rw [hg_5]); (try rw [hv_6]); (try rw [hv_7]); (try rw [hv_8]); (try rw [hv_9]); (try rw [hv_10]); (intro _; rw [show ((0 : Int32).toInt.toNat) = 0 from by decide]; first | (unfold zCP zLT; omega) | (simp [zCP, zLT]; done) | (simp [zCP, zLT]; omega))
  have hvi_33_7 : ((v_7 : Int32).toInt = -1 → ∀ k : Nat, k < i_33.toInt.toNat → zKI q_4 (q_3 : Int32).toInt te.toInt pu.toInt g_5 k) := by
    (try rw [hi_33]); (try rw [hg_5]); (try rw [hv_6]); (try rw [hv_7]); (try rw [hv_8]); (try rw [hv_9]); (try rw [hv_10]); (intro _ k hk; simp at hk)
  clear h1i_33 hi_33 hg_5 hv_6 hv_7 hv_8 hv_9 hv_10
  skip
  revert hni_33
  revert hloi_33
  revert hvi_33_7
  revert hvi_33_6
  revert hvi_33_5
  revert hvi_33_4
  revert hvi_33_3
  revert hvi_33_2
  revert hvi_33_1
  revert hvi_33_0
  revert hbv_10
  revert hbv_9
  revert hbv_8
  revert hbv_7
  revert hbv_6
  revert hl
  revert hS
  revert hD
  revert hP
  revert ls
  revert locs
  revert H
  revert g_5
  revert v_6
  revert v_7
  revert v_8
  revert v_9
  revert v_10
  revert i_33
  induction nfu with
  | zero =>
    intro i_33 v_10 v_9 v_8 v_7 v_6 g_5 H locs ls hP hD hS hl hbv_6 hbv_7 hbv_8 hbv_9 hbv_10 hvi_33_0 hvi_33_1 hvi_33_2 hvi_33_3 hvi_33_4 hvi_33_5 hvi_33_6 hvi_33_7 hloi_33 hni_33
    have hzi_33 : 33 ≤ i_33.toInt := by omega
    refine lv_iload hx hb dX3_read_33 (lv_at hl 0 rfl) ?_
    refine lv_if_eq (tgt := 122) hx hb dX3_read_35 (by decide) (fun c_11 => ?_) (fun c_11 => ?_)
    · have fc_11 : v_10.toInt = 0 := zf_eq c_11 rfl (by decide)
      refine lv_aload_n hx hb dX3_read_122 rfl (lv_at hl 1 rfl) ?_
      refine va_get (D := D) (ci := 3) (v := .int v_7) (C := RX3) (T := TX3) (N := 8) hx hb hts hi_X3_read_3 hown hK hP 1 rfl rfl 5 (by decide) (hts (.fieldLink RX3 28 "TheLiningsInIt$Reader" "fault" "I") (List.mem_of_getElem? (i := 4) rfl)) (fun _ h9 => h9) rfl dX3_read_123 ?_
      exact W.iret (v := v_7) hx hb hr (fun t ht hW => ⟨⟨v_7, (q_3, i_33, v_6, v_7, v_8, v_9, g_5, q_4), rfl, ⟨(show 0 ≤ q_3.toInt ∧ q_3.toInt ≤ 160 from hbq_3), (show 0 ≤ i_33.toInt ∧ i_33.toInt ≤ 33 from ⟨by omega, by omega⟩), (show 0 ≤ v_6.toInt ∧ v_6.toInt ≤ 160 from hbv_6), (show (-1) ≤ v_7.toInt ∧ v_7.toInt ≤ 160 from hbv_7), (show 0 ≤ v_8.toInt ∧ v_8.toInt ≤ 40 from hbv_8), (show 0 ≤ v_9.toInt ∧ v_9.toInt ≤ 8 from hbv_9), (show v_6.toInt ≤ q_3.toInt from by omega), (show (v_7 : Int32).toInt = v_7.toInt from by rfl), (show ((v_7 : Int32).toInt = -1 → ∀ k : Nat, k < i_33.toInt.toNat → zIt g_5 (4 * k)) from by exact hvi_33_1), (show q_3.toInt = si.toInt from by omega), (show (∀ j : Nat, (j : Int) < q_3.toInt → q_4 j = (fe j).toInt32) from by exact hsr_1_1), (show zEnd q_4 q_3.toInt te.toInt pu.toInt (i_33.toInt - 1).toNat v_7.toInt v_8.toInt v_9.toInt from by (rcases (show (v_10 : Int32).toInt = 0 ∨ (v_10 : Int32).toInt = 1 by omega) with h | h; exact (hvi_33_5 h).2; (exfalso; have z := zRgo_rg (by omega) ⟨by omega, by omega⟩ ⟨by omega, by omega⟩ _ _ _ _ (hvi_33_4 h); omega))), (show 1 ≤ i_33.toInt from by (rcases (show (v_10 : Int32).toInt = 0 ∨ (v_10 : Int32).toInt = 1 by omega) with h | h; exact (hvi_33_5 h).1; (exfalso; have z := zRgo_rg (by omega) ⟨by omega, by omega⟩ ⟨by omega, by omega⟩ _ _ _ _ (hvi_33_4 h); omega))), (show (v_7.toInt = -1 → v_9.toInt = pu.toInt + zCP g_5 i_33.toInt.toNat ∧ v_8.toInt = zLT g_5 te.toInt i_33.toInt.toNat) from by exact hvi_33_6), (show (v_7.toInt = -1 → ∀ k : Nat, k < i_33.toInt.toNat → zKI q_4 q_3.toInt te.toInt pu.toInt g_5 k) from by exact hvi_33_7), ⟨by omega, by omega⟩⟩, zRet ht hP hD [1, 2, 0, 3, 4] (by decide) rfl⟩, hS.F ht⟩) hS.2.2 dX3_read_126
    · have fc_11 : v_10.toInt ≠ 0 := zf_ne c_11 rfl (by decide)
      refine lv_aload_n hx hb dX3_read_38 rfl (lv_at hl 1 rfl) ?_
      refine va_get (D := D) (ci := 3) (v := .int i_33) (C := RX3) (T := TX3) (N := 8) hx hb hts hi_X3_read_3 hown hK hP 1 rfl rfl 3 (by decide) (hts (.fieldLink RX3 22 "TheLiningsInIt$Reader" "count" "I") (List.mem_of_getElem? (i := 5) rfl)) (fun _ h9 => h9) rfl dX3_read_39 ?_
      refine lv_bipush (v := 33) hx hb dX3_read_42 (by decide) ?_
      refine lv_icmp_ge (tgt := 122) hx hb dX3_read_44 (by decide) (fun c_12 => ?_) (fun c_12 => ?_)
      · have fc_12 : 33 ≤ i_33.toInt := zf_le c_12 (by decide) rfl
        refine lv_aload_n hx hb dX3_read_122 rfl (lv_at hl 1 rfl) ?_
        refine va_get (D := D) (ci := 3) (v := .int v_7) (C := RX3) (T := TX3) (N := 8) hx hb hts hi_X3_read_3 hown hK hP 1 rfl rfl 5 (by decide) (hts (.fieldLink RX3 28 "TheLiningsInIt$Reader" "fault" "I") (List.mem_of_getElem? (i := 4) rfl)) (fun _ h9 => h9) rfl dX3_read_123 ?_
        exact W.iret (v := v_7) hx hb hr (fun t ht hW => ⟨⟨v_7, (q_3, i_33, v_6, v_7, v_8, v_9, g_5, q_4), rfl, ⟨(show 0 ≤ q_3.toInt ∧ q_3.toInt ≤ 160 from hbq_3), (show 0 ≤ i_33.toInt ∧ i_33.toInt ≤ 33 from ⟨by omega, by omega⟩), (show 0 ≤ v_6.toInt ∧ v_6.toInt ≤ 160 from hbv_6), (show (-1) ≤ v_7.toInt ∧ v_7.toInt ≤ 160 from hbv_7), (show 0 ≤ v_8.toInt ∧ v_8.toInt ≤ 40 from hbv_8), (show 0 ≤ v_9.toInt ∧ v_9.toInt ≤ 8 from hbv_9), (show v_6.toInt ≤ q_3.toInt from by omega), (show (v_7 : Int32).toInt = v_7.toInt from by rfl), (show ((v_7 : Int32).toInt = -1 → ∀ k : Nat, k < i_33.toInt.toNat → zIt g_5 (4 * k)) from by exact hvi_33_1), (show q_3.toInt = si.toInt from by omega), (show (∀ j : Nat, (j : Int) < q_3.toInt → q_4 j = (fe j).toInt32) from by exact hsr_1_1), (show zEnd q_4 q_3.toInt te.toInt pu.toInt (i_33.toInt - 1).toNat v_7.toInt v_8.toInt v_9.toInt from by (rcases (show (v_10 : Int32).toInt = 0 ∨ (v_10 : Int32).toInt = 1 by omega) with h | h; exact (hvi_33_5 h).2; (exfalso; have z := zRgo_rg (by omega) ⟨by omega, by omega⟩ ⟨by omega, by omega⟩ _ _ _ _ (hvi_33_4 h); omega))), (show 1 ≤ i_33.toInt from by (rcases (show (v_10 : Int32).toInt = 0 ∨ (v_10 : Int32).toInt = 1 by omega) with h | h; exact (hvi_33_5 h).1; (exfalso; have z := zRgo_rg (by omega) ⟨by omega, by omega⟩ ⟨by omega, by omega⟩ _ _ _ _ (hvi_33_4 h); omega))), (show (v_7.toInt = -1 → v_9.toInt = pu.toInt + zCP g_5 i_33.toInt.toNat ∧ v_8.toInt = zLT g_5 te.toInt i_33.toInt.toNat) from by exact hvi_33_6), (show (v_7.toInt = -1 → ∀ k : Nat, k < i_33.toInt.toNat → zKI q_4 q_3.toInt te.toInt pu.toInt g_5 k) from by exact hvi_33_7), ⟨by omega, by omega⟩⟩, zRet ht hP hD [1, 2, 0, 3, 4] (by decide) rfl⟩, hS.F ht⟩) hS.2.2 dX3_read_126
      · exfalso; have fc_12 : i_33.toInt < 33 := zf_nle c_12 (by decide) rfl; omega
  | succ nfu ih =>
    intro i_33 v_10 v_9 v_8 v_7 v_6 g_5 H locs ls hP hD hS hl hbv_6 hbv_7 hbv_8 hbv_9 hbv_10 hvi_33_0 hvi_33_1 hvi_33_2 hvi_33_3 hvi_33_4 hvi_33_5 hvi_33_6 hvi_33_7 hloi_33 hni_33
    refine lv_iload hx hb dX3_read_33 (lv_at hl 0 rfl) ?_
    refine lv_if_eq (tgt := 122) hx hb dX3_read_35 (by decide) (fun c_13 => ?_) (fun c_13 => ?_)
    · have fc_13 : v_10.toInt = 0 := zf_eq c_13 rfl (by decide)
      refine lv_aload_n hx hb dX3_read_122 rfl (lv_at hl 1 rfl) ?_
      refine va_get (D := D) (ci := 3) (v := .int v_7) (C := RX3) (T := TX3) (N := 8) hx hb hts hi_X3_read_3 hown hK hP 1 rfl rfl 5 (by decide) (hts (.fieldLink RX3 28 "TheLiningsInIt$Reader" "fault" "I") (List.mem_of_getElem? (i := 4) rfl)) (fun _ h9 => h9) rfl dX3_read_123 ?_
      exact W.iret (v := v_7) hx hb hr (fun t ht hW => ⟨⟨v_7, (q_3, i_33, v_6, v_7, v_8, v_9, g_5, q_4), rfl, ⟨(show 0 ≤ q_3.toInt ∧ q_3.toInt ≤ 160 from hbq_3), (show 0 ≤ i_33.toInt ∧ i_33.toInt ≤ 33 from ⟨by omega, by omega⟩), (show 0 ≤ v_6.toInt ∧ v_6.toInt ≤ 160 from hbv_6), (show (-1) ≤ v_7.toInt ∧ v_7.toInt ≤ 160 from hbv_7), (show 0 ≤ v_8.toInt ∧ v_8.toInt ≤ 40 from hbv_8), (show 0 ≤ v_9.toInt ∧ v_9.toInt ≤ 8 from hbv_9), (show v_6.toInt ≤ q_3.toInt from by omega), (show (v_7 : Int32).toInt = v_7.toInt from by rfl), (show ((v_7 : Int32).toInt = -1 → ∀ k : Nat, k < i_33.toInt.toNat → zIt g_5 (4 * k)) from by exact hvi_33_1), (show q_3.toInt = si.toInt from by omega), (show (∀ j : Nat, (j : Int) < q_3.toInt → q_4 j = (fe j).toInt32) from by exact hsr_1_1), (show zEnd q_4 q_3.toInt te.toInt pu.toInt (i_33.toInt - 1).toNat v_7.toInt v_8.toInt v_9.toInt from by (rcases (show (v_10 : Int32).toInt = 0 ∨ (v_10 : Int32).toInt = 1 by omega) with h | h; exact (hvi_33_5 h).2; (exfalso; have z := zRgo_rg (by omega) ⟨by omega, by omega⟩ ⟨by omega, by omega⟩ _ _ _ _ (hvi_33_4 h); omega))), (show 1 ≤ i_33.toInt from by (rcases (show (v_10 : Int32).toInt = 0 ∨ (v_10 : Int32).toInt = 1 by omega) with h | h; exact (hvi_33_5 h).1; (exfalso; have z := zRgo_rg (by omega) ⟨by omega, by omega⟩ ⟨by omega, by omega⟩ _ _ _ _ (hvi_33_4 h); omega))), (show (v_7.toInt = -1 → v_9.toInt = pu.toInt + zCP g_5 i_33.toInt.toNat ∧ v_8.toInt = zLT g_5 te.toInt i_33.toInt.toNat) from by exact hvi_33_6), (show (v_7.toInt = -1 → ∀ k : Nat, k < i_33.toInt.toNat → zKI q_4 q_3.toInt te.toInt pu.toInt g_5 k) from by exact hvi_33_7), ⟨by omega, by omega⟩⟩, zRet ht hP hD [1, 2, 0, 3, 4] (by decide) rfl⟩, hS.F ht⟩) hS.2.2 dX3_read_126
    · have fc_13 : v_10.toInt ≠ 0 := zf_ne c_13 rfl (by decide)
      refine lv_aload_n hx hb dX3_read_38 rfl (lv_at hl 1 rfl) ?_
      refine va_get (D := D) (ci := 3) (v := .int i_33) (C := RX3) (T := TX3) (N := 8) hx hb hts hi_X3_read_3 hown hK hP 1 rfl rfl 3 (by decide) (hts (.fieldLink RX3 22 "TheLiningsInIt$Reader" "count" "I") (List.mem_of_getElem? (i := 5) rfl)) (fun _ h9 => h9) rfl dX3_read_39 ?_
      refine lv_bipush (v := 33) hx hb dX3_read_42 (by decide) ?_
      refine lv_icmp_ge (tgt := 122) hx hb dX3_read_44 (by decide) (fun c_14 => ?_) (fun c_14 => ?_)
      · have fc_14 : 33 ≤ i_33.toInt := zf_le c_14 (by decide) rfl
        refine lv_aload_n hx hb dX3_read_122 rfl (lv_at hl 1 rfl) ?_
        refine va_get (D := D) (ci := 3) (v := .int v_7) (C := RX3) (T := TX3) (N := 8) hx hb hts hi_X3_read_3 hown hK hP 1 rfl rfl 5 (by decide) (hts (.fieldLink RX3 28 "TheLiningsInIt$Reader" "fault" "I") (List.mem_of_getElem? (i := 4) rfl)) (fun _ h9 => h9) rfl dX3_read_123 ?_
        exact W.iret (v := v_7) hx hb hr (fun t ht hW => ⟨⟨v_7, (q_3, i_33, v_6, v_7, v_8, v_9, g_5, q_4), rfl, ⟨(show 0 ≤ q_3.toInt ∧ q_3.toInt ≤ 160 from hbq_3), (show 0 ≤ i_33.toInt ∧ i_33.toInt ≤ 33 from ⟨by omega, by omega⟩), (show 0 ≤ v_6.toInt ∧ v_6.toInt ≤ 160 from hbv_6), (show (-1) ≤ v_7.toInt ∧ v_7.toInt ≤ 160 from hbv_7), (show 0 ≤ v_8.toInt ∧ v_8.toInt ≤ 40 from hbv_8), (show 0 ≤ v_9.toInt ∧ v_9.toInt ≤ 8 from hbv_9), (show v_6.toInt ≤ q_3.toInt from by omega), (show (v_7 : Int32).toInt = v_7.toInt from by rfl), (show ((v_7 : Int32).toInt = -1 → ∀ k : Nat, k < i_33.toInt.toNat → zIt g_5 (4 * k)) from by exact hvi_33_1), (show q_3.toInt = si.toInt from by omega), (show (∀ j : Nat, (j : Int) < q_3.toInt → q_4 j = (fe j).toInt32) from by exact hsr_1_1), (show zEnd q_4 q_3.toInt te.toInt pu.toInt (i_33.toInt - 1).toNat v_7.toInt v_8.toInt v_9.toInt from by (rcases (show (v_10 : Int32).toInt = 0 ∨ (v_10 : Int32).toInt = 1 by omega) with h | h; exact (hvi_33_5 h).2; (exfalso; have z := zRgo_rg (by omega) ⟨by omega, by omega⟩ ⟨by omega, by omega⟩ _ _ _ _ (hvi_33_4 h); omega))), (show 1 ≤ i_33.toInt from by (rcases (show (v_10 : Int32).toInt = 0 ∨ (v_10 : Int32).toInt = 1 by omega) with h | h; exact (hvi_33_5 h).1; (exfalso; have z := zRgo_rg (by omega) ⟨by omega, by omega⟩ ⟨by omega, by omega⟩ _ _ _ _ (hvi_33_4 h); omega))), (show (v_7.toInt = -1 → v_9.toInt = pu.toInt + zCP g_5 i_33.toInt.toNat ∧ v_8.toInt = zLT g_5 te.toInt i_33.toInt.toNat) from by exact hvi_33_6), (show (v_7.toInt = -1 → ∀ k : Nat, k < i_33.toInt.toNat → zKI q_4 q_3.toInt te.toInt pu.toInt g_5 k) from by exact hvi_33_7), ⟨by omega, by omega⟩⟩, zRet ht hP hD [1, 2, 0, 3, 4] (by decide) rfl⟩, hS.F ht⟩) hS.2.2 dX3_read_126
      · have fc_14 : i_33.toInt < 33 := zf_nle c_14 (by decide) rfl
        refine lv_aload_n hx hb dX3_read_47 rfl (lv_at hl 1 rfl) ?_
        refine lv_aload_n hx hb dX3_read_48 rfl (lv_at hl 1 rfl) ?_
        refine va_get (D := D) (ci := 3) (v := .int i_33) (C := RX3) (T := TX3) (N := 8) hx hb hts hi_X3_read_3 hown hK hP 1 rfl rfl 3 (by decide) (hts (.fieldLink RX3 22 "TheLiningsInIt$Reader" "count" "I") (List.mem_of_getElem? (i := 5) rfl)) (fun _ h9 => h9) rfl dX3_read_49 ?_
        refine lv_iconst (v := 4) hx hb dX3_read_52 (by decide) ?_
        refine lv_imul hx hb dX3_read_53 ?_
        refine lv_topi (fun x_15 ex_15 => ?_)
        have qx_15 : x_15.toInt = i_33.toInt * 4 := by rw [ex_15]; exact zf_mul rfl (by decide) (by omega) (by omega)
        skip
        refine zw_Vv (As := [.int x_15]) (rest := []) (wr := [(h0, .inr (4, [.ref e0, .int he, .int si])), (e0, .inl (cJ, 160, .inr (.inl fe)))]) ⟨hx, hb, hml, hown, hts⟩ (c_F_R_readItem l D cI cJ cZ cP cS po rd ri rl (q_3) (i_33) (v_6) (v_7) (v_8) (v_9) q_4 g_5 (x_15) hbq_3.1 hbq_3.2 (by omega) (by omega) hbv_6.1 hbv_6.2 (by omega) hbv_7.1 hbv_7.2 hbv_8.1 hbv_8.2 hbv_9.1 hbv_9.2 (by omega) (by omega) (by omega) H.size) (cwV 1 hts gX3_read_X3_readItem rfl rfl rfl ⟨rfl, dh_X3_readItem⟩ ⟨Nat.le_of_ble_eq_true rfl, Nat.le_of_ble_eq_true rfl⟩) hK hN (hZ.kept hS) hP hD hS hA [1, 2, 0] [3, 4] rfl rfl (by decide) (by decide) (by decide) (va_recv (q := (RX3, TX3, 8)) hK hP (ci := 3) (q0 := 1) rfl rfl) rfl hl.1 rfl (Nat.le_of_ble_eq_true rfl) dX3_read_54 ⟨Nat.le_of_ble_eq_true rfl, Nat.le_of_ble_eq_true rfl⟩ (fun u_17 H locs hr_16 hP hD hS => ?_)
        obtain ⟨q_18, q_19, q_20, q_21, q_22⟩ := u_17
        try dsimp only at hr_16
        obtain ⟨hbq_18, hbq_19, hbq_20, hbq_21, hsr_16_0, hsr_16_1, hsr_16_2, hsr_16_3, hsr_16_4, hsr_16_5, hr_16⟩ := hr_16
        have h9R := zRe (ws' := [(h0, .inr (4, [.ref e0, .int he, .int si])), (e0, .inl (cJ, 160, .inr (.inl fe))), (rd, .inr (3, [.ref ri, .ref rl, .int q_3, .int i_33, .int q_18, .int q_19, .int q_20, .int q_21])), (rl, .inl (cI, 160, .inl q_4)), (ri, .inl (cI, 132, .inl q_22))]) hP hD rfl
        clear hP hD
        obtain ⟨hP, hD⟩ := h9R
        refine lv_aload_n hx hb dX3_read_57 rfl (lv_at hl 1 rfl) ?_
        refine va_get (D := D) (ci := 3) (v := .int q_19) (C := RX3) (T := TX3) (N := 8) hx hb hts hi_X3_read_3 hown hK hP 2 rfl rfl 5 (by decide) (hts (.fieldLink RX3 28 "TheLiningsInIt$Reader" "fault" "I") (List.mem_of_getElem? (i := 4) rfl)) (fun _ h9 => h9) rfl dX3_read_58 ?_
        refine lv_iconst (v := (-1)) hx hb dX3_read_61 (by decide) ?_
        refine lv_icmp_ne (tgt := 80) hx hb dX3_read_62 (by decide) (fun c_23 => ?_) (fun c_23 => ?_)
        · have fc_23 : q_19.toInt ≠ (-1) := zf_ne c_23 rfl (by decide)
          refine lv_iconst (v := 0) hx hb dX3_read_80 (by decide) ?_
          refine lv_istore (lv' := [(4, .int 0), (0, .ref rd), (1, .ref h0), (2, .int te), (3, .int pu)]) hx hb dX3_read_81 hl (by decide) rfl (fun ls hl => ?_)
          refine lv_iload hx hb dX3_read_83 (lv_at hl 0 rfl) ?_
          refine lv_if_eq (tgt := 109) hx hb dX3_read_85 (by decide) (fun c_24 => ?_) (fun c_24 => ?_)
          · refine lv_aload_n hx hb dX3_read_109 rfl (lv_at hl 1 rfl) ?_
            refine lv_dup hx hb dX3_read_110 rfl ?_
            refine va_get (D := D) (ci := 3) (v := .int i_33) (C := RX3) (T := TX3) (N := 8) hx hb hts hi_X3_read_3 hown hK hP 2 rfl rfl 3 (by decide) (hts (.fieldLink RX3 22 "TheLiningsInIt$Reader" "count" "I") (List.mem_of_getElem? (i := 5) rfl)) (fun _ h9 => h9) rfl dX3_read_111 ?_
            refine lv_iconst (v := 1) hx hb dX3_read_114 (by decide) ?_
            refine lv_iadd hx hb dX3_read_115 ?_
            refine lv_topi (fun x_25 ex_25 => ?_)
            have qx_25 : x_25.toInt = i_33.toInt + 1 := dw_incK ex_25 fc_14 (by decide)
            refine va_put (D := D) (ci := 3) (v := .int x_25) (ty := .int) (C := RX3) (T := TX3) (N := 8) hx hb hts hi_X3_read_3 tyX3 tyX3_ok nmX3 hown hK hP hD hS 2 rfl rfl 3 (by decide) (hts (.fieldLink RX3 22 "TheLiningsInIt$Reader" "count" "I") (List.mem_of_getElem? (i := 5) rfl)) (fun _ h9 => h9) rfl (tyX3_ok 3 (Nat.le_of_ble_eq_true rfl)) rfl rfl (Nat.le_of_ble_eq_true rfl) dX3_read_116 (fun H locs hP hD hS => ?_)
            have h9R := zRe (ws' := [(h0, .inr (4, [.ref e0, .int he, .int si])), (e0, .inl (cJ, 160, .inr (.inl fe))), (rd, .inr (3, [.ref ri, .ref rl, .int q_3, .int x_25, .int q_18, .int q_19, .int q_20, .int q_21])), (rl, .inl (cI, 160, .inl q_4)), (ri, .inl (cI, 132, .inl q_22))]) hP hD rfl
            clear hP hD
            obtain ⟨hP, hD⟩ := h9R
            refine lv_goto (tgt := 33) hx hb dX3_read_119 (by decide) ?_
            exact ih x_25 0 (q_21) (q_20) (q_19) (q_18) (q_22) _ _ _ (hP.sub [4, 2, 3, 0, 1] rfl) (hD.sub [4, 2, 3, 0, 1] (by decide) rfl) hS (lv_sub hl [0, 1, 2, 3, 4] rfl) hbq_18 hbq_19 hbq_20 hbq_21 ⟨by decide, by decide⟩ (show (q_18 : Int32).toInt ≤ (q_3 : Int32).toInt from by omega) (show ((q_19 : Int32).toInt = -1 → ∀ k : Nat, k < x_25.toInt.toNat → zIt q_22 (4 * k)) from by (intro hrf k hk; exact (Nat.lt_or_ge k i_33.toInt.toNat).elim (fun h => zIt_keep hsr_16_2 (by omega) (hvi_33_1 (hvi_33_3 (by omega)) k h)) (fun h => by (have e4 : x_15.toInt.toNat = 4 * k := (by omega); have z := hsr_16_1 (by omega); rw [e4] at z; exact z)))) (show x_25.toInt ≤ 33 from by omega) (show ((0 : Int32).toInt = 1 → (q_19 : Int32).toInt = -1) from by (intro h; first | omega | exact absurd h (by decide))) (show ((0 : Int32).toInt = 1 → zRgo q_4 (q_3 : Int32).toInt te.toInt pu.toInt x_25.toInt.toNat = some ((q_18 : Int32).toInt, (q_20 : Int32).toInt, (q_21 : Int32).toInt)) from by (intro h; exact absurd h (by decide))) (show ((0 : Int32).toInt = 0 → 1 ≤ x_25.toInt ∧ zEnd q_4 (q_3 : Int32).toInt te.toInt pu.toInt (x_25.toInt - 1).toNat (q_19 : Int32).toInt (q_20 : Int32).toInt (q_21 : Int32).toInt) from by (intro _; obtain ⟨z1, z2⟩ := hsr_16_3; refine ⟨by omega, ?_⟩; first | exact zEnd_a (hvi_33_4 (by omega)) (by omega) (by omega) (by omega) | (obtain ⟨z3, z4, z5⟩ := z2 (by omega); exact zEnd_b (hvi_33_4 (by omega)) (by omega) (by omega) (by omega) z4 z5 (by omega)) | (obtain ⟨z3, z4, z5⟩ := z2 (by omega); exact zEnd_c (hvi_33_4 (by omega)) (by omega) (by omega) (by rw [← z3]; omega) (by omega) (by omega)))) (show ((q_19 : Int32).toInt = -1 → (q_21 : Int32).toInt = pu.toInt + zCP q_22 x_25.toInt.toNat ∧ (q_20 : Int32).toInt = zLT q_22 te.toInt x_25.toInt.toNat) from by (intro hrf; obtain ⟨c1, c2⟩ := hvi_33_6 (hvi_33_3 (by omega)); have e4 : x_15.toInt.toNat = 4 * i_33.toInt.toNat := (by omega); have z := hsr_16_4 (by omega); have z2 := hsr_16_2; rw [e4] at z z2; exact ⟨zCP_S (i := i_33.toInt) (n := i_33.toInt.toNat) (by omega) (by omega) z2 c1 z.2.2.1 z.2.2.2, zLT_S (i := i_33.toInt) (n := i_33.toInt.toNat) (by omega) (by omega) z2 c2 z.1 z.2.1⟩)) (show ((q_19 : Int32).toInt = -1 → ∀ k : Nat, k < x_25.toInt.toNat → zKI q_4 (q_3 : Int32).toInt te.toInt pu.toInt q_22 k) from by (intro hrf k hk; exact (Nat.lt_or_ge k i_33.toInt.toNat).elim (fun h => zKI_keep (hvi_33_7 (hvi_33_3 (by omega)) k h) (fun j hj => hsr_16_2 j (by omega))) (fun h => by (have e4 : x_15.toInt.toNat = 4 * k := (by omega); obtain rfl : k = i_33.toInt.toNat := (by omega); have z0 := hvi_33_4 (by omega); have z1 := hsr_16_3.1; have z := hsr_16_5 (by omega); rw [e4] at z; exact ⟨_, _, _, z0, by omega, z⟩)))) (dw_lo hloi_33 qx_25) (dw_hn hni_33 qx_25)
          · exact absurd c_24 (by decide)
        · have fc_23 : q_19.toInt = (-1) := zf_eq c_23 rfl (by decide)
          refine lv_aload_n hx hb dX3_read_65 rfl (lv_at hl 1 rfl) ?_
          refine va_get (D := D) (ci := 3) (v := .int q_18) (C := RX3) (T := TX3) (N := 8) hx hb hts hi_X3_read_3 hown hK hP 2 rfl rfl 4 (by decide) (hts (.fieldLink RX3 25 "TheLiningsInIt$Reader" "place" "I") (List.mem_of_getElem? (i := 3) rfl)) (fun _ h9 => h9) rfl dX3_read_66 ?_
          refine lv_aload_n hx hb dX3_read_69 rfl (lv_at hl 1 rfl) ?_
          refine va_get (D := D) (ci := 3) (v := .int q_3) (C := RX3) (T := TX3) (N := 8) hx hb hts hi_X3_read_3 hown hK hP 2 rfl rfl 2 (by decide) (hts (.fieldLink RX3 18 "TheLiningsInIt$Reader" "size" "I") (List.mem_of_getElem? (i := 6) rfl)) (fun _ h9 => h9) rfl dX3_read_70 ?_
          refine lv_icmp_ge (tgt := 80) hx hb dX3_read_73 (by decide) (fun c_26 => ?_) (fun c_26 => ?_)
          · have fc_26 : q_3.toInt ≤ q_18.toInt := zf_le c_26 rfl rfl
            refine lv_iconst (v := 0) hx hb dX3_read_80 (by decide) ?_
            refine lv_istore (lv' := [(4, .int 0), (0, .ref rd), (1, .ref h0), (2, .int te), (3, .int pu)]) hx hb dX3_read_81 hl (by decide) rfl (fun ls hl => ?_)
            refine lv_iload hx hb dX3_read_83 (lv_at hl 0 rfl) ?_
            refine lv_if_eq (tgt := 109) hx hb dX3_read_85 (by decide) (fun c_27 => ?_) (fun c_27 => ?_)
            · refine lv_aload_n hx hb dX3_read_109 rfl (lv_at hl 1 rfl) ?_
              refine lv_dup hx hb dX3_read_110 rfl ?_
              refine va_get (D := D) (ci := 3) (v := .int i_33) (C := RX3) (T := TX3) (N := 8) hx hb hts hi_X3_read_3 hown hK hP 2 rfl rfl 3 (by decide) (hts (.fieldLink RX3 22 "TheLiningsInIt$Reader" "count" "I") (List.mem_of_getElem? (i := 5) rfl)) (fun _ h9 => h9) rfl dX3_read_111 ?_
              refine lv_iconst (v := 1) hx hb dX3_read_114 (by decide) ?_
              refine lv_iadd hx hb dX3_read_115 ?_
              refine lv_topi (fun x_28 ex_28 => ?_)
              have qx_28 : x_28.toInt = i_33.toInt + 1 := dw_incK ex_28 fc_14 (by decide)
              refine va_put (D := D) (ci := 3) (v := .int x_28) (ty := .int) (C := RX3) (T := TX3) (N := 8) hx hb hts hi_X3_read_3 tyX3 tyX3_ok nmX3 hown hK hP hD hS 2 rfl rfl 3 (by decide) (hts (.fieldLink RX3 22 "TheLiningsInIt$Reader" "count" "I") (List.mem_of_getElem? (i := 5) rfl)) (fun _ h9 => h9) rfl (tyX3_ok 3 (Nat.le_of_ble_eq_true rfl)) rfl rfl (Nat.le_of_ble_eq_true rfl) dX3_read_116 (fun H locs hP hD hS => ?_)
              have h9R := zRe (ws' := [(h0, .inr (4, [.ref e0, .int he, .int si])), (e0, .inl (cJ, 160, .inr (.inl fe))), (rd, .inr (3, [.ref ri, .ref rl, .int q_3, .int x_28, .int q_18, .int q_19, .int q_20, .int q_21])), (rl, .inl (cI, 160, .inl q_4)), (ri, .inl (cI, 132, .inl q_22))]) hP hD rfl
              clear hP hD
              obtain ⟨hP, hD⟩ := h9R
              refine lv_goto (tgt := 33) hx hb dX3_read_119 (by decide) ?_
              exact ih x_28 0 (q_21) (q_20) (q_19) (q_18) (q_22) _ _ _ (hP.sub [4, 2, 3, 0, 1] rfl) (hD.sub [4, 2, 3, 0, 1] (by decide) rfl) hS (lv_sub hl [0, 1, 2, 3, 4] rfl) hbq_18 hbq_19 hbq_20 hbq_21 ⟨by decide, by decide⟩ (show (q_18 : Int32).toInt ≤ (q_3 : Int32).toInt from by omega) (show ((q_19 : Int32).toInt = -1 → ∀ k : Nat, k < x_28.toInt.toNat → zIt q_22 (4 * k)) from by (intro hrf k hk; exact (Nat.lt_or_ge k i_33.toInt.toNat).elim (fun h => zIt_keep hsr_16_2 (by omega) (hvi_33_1 (hvi_33_3 (by omega)) k h)) (fun h => by (have e4 : x_15.toInt.toNat = 4 * k := (by omega); have z := hsr_16_1 (by omega); rw [e4] at z; exact z)))) (show x_28.toInt ≤ 33 from by omega) (show ((0 : Int32).toInt = 1 → (q_19 : Int32).toInt = -1) from by (intro h; first | omega | exact absurd h (by decide))) (show ((0 : Int32).toInt = 1 → zRgo q_4 (q_3 : Int32).toInt te.toInt pu.toInt x_28.toInt.toNat = some ((q_18 : Int32).toInt, (q_20 : Int32).toInt, (q_21 : Int32).toInt)) from by (intro h; exact absurd h (by decide))) (show ((0 : Int32).toInt = 0 → 1 ≤ x_28.toInt ∧ zEnd q_4 (q_3 : Int32).toInt te.toInt pu.toInt (x_28.toInt - 1).toNat (q_19 : Int32).toInt (q_20 : Int32).toInt (q_21 : Int32).toInt) from by (intro _; obtain ⟨z1, z2⟩ := hsr_16_3; refine ⟨by omega, ?_⟩; first | exact zEnd_a (hvi_33_4 (by omega)) (by omega) (by omega) (by omega) | (obtain ⟨z3, z4, z5⟩ := z2 (by omega); exact zEnd_b (hvi_33_4 (by omega)) (by omega) (by omega) (by omega) z4 z5 (by omega)) | (obtain ⟨z3, z4, z5⟩ := z2 (by omega); exact zEnd_c (hvi_33_4 (by omega)) (by omega) (by omega) (by rw [← z3]; omega) (by omega) (by omega)))) (show ((q_19 : Int32).toInt = -1 → (q_21 : Int32).toInt = pu.toInt + zCP q_22 x_28.toInt.toNat ∧ (q_20 : Int32).toInt = zLT q_22 te.toInt x_28.toInt.toNat) from by (intro hrf; obtain ⟨c1, c2⟩ := hvi_33_6 (hvi_33_3 (by omega)); have e4 : x_15.toInt.toNat = 4 * i_33.toInt.toNat := (by omega); have z := hsr_16_4 (by omega); have z2 := hsr_16_2; rw [e4] at z z2; exact ⟨zCP_S (i := i_33.toInt) (n := i_33.toInt.toNat) (by omega) (by omega) z2 c1 z.2.2.1 z.2.2.2, zLT_S (i := i_33.toInt) (n := i_33.toInt.toNat) (by omega) (by omega) z2 c2 z.1 z.2.1⟩)) (show ((q_19 : Int32).toInt = -1 → ∀ k : Nat, k < x_28.toInt.toNat → zKI q_4 (q_3 : Int32).toInt te.toInt pu.toInt q_22 k) from by (intro hrf k hk; exact (Nat.lt_or_ge k i_33.toInt.toNat).elim (fun h => zKI_keep (hvi_33_7 (hvi_33_3 (by omega)) k h) (fun j hj => hsr_16_2 j (by omega))) (fun h => by (have e4 : x_15.toInt.toNat = 4 * k := (by omega); obtain rfl : k = i_33.toInt.toNat := (by omega); have z0 := hvi_33_4 (by omega); have z1 := hsr_16_3.1; have z := hsr_16_5 (by omega); rw [e4] at z; exact ⟨_, _, _, z0, by omega, z⟩)))) (dw_lo hloi_33 qx_28) (dw_hn hni_33 qx_28)
            · exact absurd c_27 (by decide)
          · have fc_26 : q_18.toInt < q_3.toInt := zf_nle c_26 rfl rfl
            refine lv_iconst (v := 1) hx hb dX3_read_76 (by decide) ?_
            refine lv_goto (tgt := 81) hx hb dX3_read_77 (by decide) ?_
            refine lv_istore (lv' := [(4, .int 1), (0, .ref rd), (1, .ref h0), (2, .int te), (3, .int pu)]) hx hb dX3_read_81 hl (by decide) rfl (fun ls hl => ?_)
            refine lv_iload hx hb dX3_read_83 (lv_at hl 0 rfl) ?_
            refine lv_if_eq (tgt := 109) hx hb dX3_read_85 (by decide) (fun c_29 => ?_) (fun c_29 => ?_)
            · exact absurd c_29 (by decide)
            · refine lv_aload_n hx hb dX3_read_88 rfl (lv_at hl 1 rfl) ?_
              refine lv_bipush (v := 59) hx hb dX3_read_89 (by decide) ?_
              have kc59 : (59 : Int32).toInt = 59 := by decide
              skip
              refine zw_Vv (As := [.int 59]) (rest := []) (wr := [(h0, .inr (4, [.ref e0, .int he, .int si])), (e0, .inl (cJ, 160, .inr (.inl fe))), (ri, .inl (cI, 132, .inl q_22))]) ⟨hx, hb, hml, hown, hts⟩ (c_F_R_expect l D cI cJ cZ cP cS po rd ri rl (q_3) (i_33) (q_18) (q_19) (q_20) (q_21) q_4 (59) hbq_3.1 hbq_3.2 (by omega) (by omega) hbq_18.1 hbq_18.2 (by omega) hbq_19.1 hbq_19.2 hbq_20.1 hbq_20.2 hbq_21.1 hbq_21.2 H.size) (cwV 1 hts gX3_read_X3_expect rfl rfl rfl ⟨rfl, dh_X3_expect⟩ ⟨Nat.le_of_ble_eq_true rfl, Nat.le_of_ble_eq_true rfl⟩) hK hN (hZ.kept hS) hP hD hS hA [2, 3] [0, 1, 4] rfl rfl (by decide) (by decide) (by decide) (va_recv (q := (RX3, TX3, 8)) hK hP (ci := 3) (q0 := 2) rfl rfl) rfl hl.1 rfl (Nat.le_of_ble_eq_true rfl) dX3_read_91 ⟨Nat.le_of_ble_eq_true rfl, Nat.le_of_ble_eq_true rfl⟩ (fun u_31 H locs hr_30 hP hD hS => ?_)
              obtain ⟨q_32, q_33⟩ := u_31
              try dsimp only at hr_30
              obtain ⟨hbq_32, hbq_33, hsr_30_0, hsr_30_1, hr_30⟩ := hr_30
              have h9R := zRe (ws' := [(h0, .inr (4, [.ref e0, .int he, .int si])), (e0, .inl (cJ, 160, .inr (.inl fe))), (ri, .inl (cI, 132, .inl q_22)), (rd, .inr (3, [.ref ri, .ref rl, .int q_3, .int i_33, .int q_32, .int q_33, .int q_20, .int q_21])), (rl, .inl (cI, 160, .inl q_4))]) hP hD rfl
              clear hP hD
              obtain ⟨hP, hD⟩ := h9R
              refine lv_aload_n hx hb dX3_read_94 rfl (lv_at hl 1 rfl) ?_
              refine va_get (D := D) (ci := 3) (v := .int q_33) (C := RX3) (T := TX3) (N := 8) hx hb hts hi_X3_read_3 hown hK hP 3 rfl rfl 5 (by decide) (hts (.fieldLink RX3 28 "TheLiningsInIt$Reader" "fault" "I") (List.mem_of_getElem? (i := 4) rfl)) (fun _ h9 => h9) rfl dX3_read_95 ?_
              refine lv_iconst (v := (-1)) hx hb dX3_read_98 (by decide) ?_
              refine lv_icmp_ne (tgt := 106) hx hb dX3_read_99 (by decide) (fun c_34 => ?_) (fun c_34 => ?_)
              · have fc_34 : q_33.toInt ≠ (-1) := zf_ne c_34 rfl (by decide)
                refine lv_iconst (v := 0) hx hb dX3_read_106 (by decide) ?_
                refine lv_istore (lv' := [(4, .int 0), (0, .ref rd), (1, .ref h0), (2, .int te), (3, .int pu)]) hx hb dX3_read_107 hl (by decide) rfl (fun ls hl => ?_)
                refine lv_aload_n hx hb dX3_read_109 rfl (lv_at hl 1 rfl) ?_
                refine lv_dup hx hb dX3_read_110 rfl ?_
                refine va_get (D := D) (ci := 3) (v := .int i_33) (C := RX3) (T := TX3) (N := 8) hx hb hts hi_X3_read_3 hown hK hP 3 rfl rfl 3 (by decide) (hts (.fieldLink RX3 22 "TheLiningsInIt$Reader" "count" "I") (List.mem_of_getElem? (i := 5) rfl)) (fun _ h9 => h9) rfl dX3_read_111 ?_
                refine lv_iconst (v := 1) hx hb dX3_read_114 (by decide) ?_
                refine lv_iadd hx hb dX3_read_115 ?_
                refine lv_topi (fun x_35 ex_35 => ?_)
                have qx_35 : x_35.toInt = i_33.toInt + 1 := dw_incK ex_35 fc_14 (by decide)
                refine va_put (D := D) (ci := 3) (v := .int x_35) (ty := .int) (C := RX3) (T := TX3) (N := 8) hx hb hts hi_X3_read_3 tyX3 tyX3_ok nmX3 hown hK hP hD hS 3 rfl rfl 3 (by decide) (hts (.fieldLink RX3 22 "TheLiningsInIt$Reader" "count" "I") (List.mem_of_getElem? (i := 5) rfl)) (fun _ h9 => h9) rfl (tyX3_ok 3 (Nat.le_of_ble_eq_true rfl)) rfl rfl (Nat.le_of_ble_eq_true rfl) dX3_read_116 (fun H locs hP hD hS => ?_)
                have h9R := zRe (ws' := [(h0, .inr (4, [.ref e0, .int he, .int si])), (e0, .inl (cJ, 160, .inr (.inl fe))), (ri, .inl (cI, 132, .inl q_22)), (rd, .inr (3, [.ref ri, .ref rl, .int q_3, .int x_35, .int q_32, .int q_33, .int q_20, .int q_21])), (rl, .inl (cI, 160, .inl q_4))]) hP hD rfl
                clear hP hD
                obtain ⟨hP, hD⟩ := h9R
                refine lv_goto (tgt := 33) hx hb dX3_read_119 (by decide) ?_
                exact ih x_35 0 (q_21) (q_20) (q_33) (q_32) (q_22) _ _ _ (hP.sub [2, 3, 4, 0, 1] rfl) (hD.sub [2, 3, 4, 0, 1] (by decide) rfl) hS (lv_sub hl [0, 1, 2, 3, 4] rfl) hbq_32 hbq_33 hbq_20 hbq_21 ⟨by decide, by decide⟩ (show (q_32 : Int32).toInt ≤ (q_3 : Int32).toInt from by omega) (show ((q_33 : Int32).toInt = -1 → ∀ k : Nat, k < x_35.toInt.toNat → zIt q_22 (4 * k)) from by (intro hrf k hk; exact (Nat.lt_or_ge k i_33.toInt.toNat).elim (fun h => zIt_keep hsr_16_2 (by omega) (hvi_33_1 (hvi_33_3 (by omega)) k h)) (fun h => by (have e4 : x_15.toInt.toNat = 4 * k := (by omega); have z := hsr_16_1 (by omega); rw [e4] at z; exact z)))) (show x_35.toInt ≤ 33 from by omega) (show ((0 : Int32).toInt = 1 → (q_33 : Int32).toInt = -1) from by (intro h; first | omega | exact absurd h (by decide))) (show ((0 : Int32).toInt = 1 → zRgo q_4 (q_3 : Int32).toInt te.toInt pu.toInt x_35.toInt.toNat = some ((q_32 : Int32).toInt, (q_20 : Int32).toInt, (q_21 : Int32).toInt)) from by (intro h; exact absurd h (by decide))) (show ((0 : Int32).toInt = 0 → 1 ≤ x_35.toInt ∧ zEnd q_4 (q_3 : Int32).toInt te.toInt pu.toInt (x_35.toInt - 1).toNat (q_33 : Int32).toInt (q_20 : Int32).toInt (q_21 : Int32).toInt) from by (intro _; obtain ⟨z1, z2⟩ := hsr_16_3; refine ⟨by omega, ?_⟩; first | exact zEnd_a (hvi_33_4 (by omega)) (by omega) (by omega) (by omega) | (obtain ⟨z3, z4, z5⟩ := z2 (by omega); exact zEnd_b (hvi_33_4 (by omega)) (by omega) (by omega) (by omega) z4 z5 (by omega)) | (obtain ⟨z3, z4, z5⟩ := z2 (by omega); exact zEnd_c (hvi_33_4 (by omega)) (by omega) (by omega) (by rw [← z3]; omega) (by omega) (by omega)))) (show ((q_33 : Int32).toInt = -1 → (q_21 : Int32).toInt = pu.toInt + zCP q_22 x_35.toInt.toNat ∧ (q_20 : Int32).toInt = zLT q_22 te.toInt x_35.toInt.toNat) from by (intro hrf; obtain ⟨c1, c2⟩ := hvi_33_6 (hvi_33_3 (by omega)); have e4 : x_15.toInt.toNat = 4 * i_33.toInt.toNat := (by omega); have z := hsr_16_4 (by omega); have z2 := hsr_16_2; rw [e4] at z z2; exact ⟨zCP_S (i := i_33.toInt) (n := i_33.toInt.toNat) (by omega) (by omega) z2 c1 z.2.2.1 z.2.2.2, zLT_S (i := i_33.toInt) (n := i_33.toInt.toNat) (by omega) (by omega) z2 c2 z.1 z.2.1⟩)) (show ((q_33 : Int32).toInt = -1 → ∀ k : Nat, k < x_35.toInt.toNat → zKI q_4 (q_3 : Int32).toInt te.toInt pu.toInt q_22 k) from by (intro hrf k hk; exact (Nat.lt_or_ge k i_33.toInt.toNat).elim (fun h => zKI_keep (hvi_33_7 (hvi_33_3 (by omega)) k h) (fun j hj => hsr_16_2 j (by omega))) (fun h => by (have e4 : x_15.toInt.toNat = 4 * k := (by omega); obtain rfl : k = i_33.toInt.toNat := (by omega); have z0 := hvi_33_4 (by omega); have z1 := hsr_16_3.1; have z := hsr_16_5 (by omega); rw [e4] at z; exact ⟨_, _, _, z0, by omega, z⟩)))) (dw_lo hloi_33 qx_35) (dw_hn hni_33 qx_35)
              · have fc_34 : q_33.toInt = (-1) := zf_eq c_34 rfl (by decide)
                refine lv_iconst (v := 1) hx hb dX3_read_102 (by decide) ?_
                refine lv_goto (tgt := 107) hx hb dX3_read_103 (by decide) ?_
                refine lv_istore (lv' := [(4, .int 1), (0, .ref rd), (1, .ref h0), (2, .int te), (3, .int pu)]) hx hb dX3_read_107 hl (by decide) rfl (fun ls hl => ?_)
                refine lv_aload_n hx hb dX3_read_109 rfl (lv_at hl 1 rfl) ?_
                refine lv_dup hx hb dX3_read_110 rfl ?_
                refine va_get (D := D) (ci := 3) (v := .int i_33) (C := RX3) (T := TX3) (N := 8) hx hb hts hi_X3_read_3 hown hK hP 3 rfl rfl 3 (by decide) (hts (.fieldLink RX3 22 "TheLiningsInIt$Reader" "count" "I") (List.mem_of_getElem? (i := 5) rfl)) (fun _ h9 => h9) rfl dX3_read_111 ?_
                refine lv_iconst (v := 1) hx hb dX3_read_114 (by decide) ?_
                refine lv_iadd hx hb dX3_read_115 ?_
                refine lv_topi (fun x_36 ex_36 => ?_)
                have qx_36 : x_36.toInt = i_33.toInt + 1 := dw_incK ex_36 fc_14 (by decide)
                refine va_put (D := D) (ci := 3) (v := .int x_36) (ty := .int) (C := RX3) (T := TX3) (N := 8) hx hb hts hi_X3_read_3 tyX3 tyX3_ok nmX3 hown hK hP hD hS 3 rfl rfl 3 (by decide) (hts (.fieldLink RX3 22 "TheLiningsInIt$Reader" "count" "I") (List.mem_of_getElem? (i := 5) rfl)) (fun _ h9 => h9) rfl (tyX3_ok 3 (Nat.le_of_ble_eq_true rfl)) rfl rfl (Nat.le_of_ble_eq_true rfl) dX3_read_116 (fun H locs hP hD hS => ?_)
                have h9R := zRe (ws' := [(h0, .inr (4, [.ref e0, .int he, .int si])), (e0, .inl (cJ, 160, .inr (.inl fe))), (ri, .inl (cI, 132, .inl q_22)), (rd, .inr (3, [.ref ri, .ref rl, .int q_3, .int x_36, .int q_32, .int q_33, .int q_20, .int q_21])), (rl, .inl (cI, 160, .inl q_4))]) hP hD rfl
                clear hP hD
                obtain ⟨hP, hD⟩ := h9R
                refine lv_goto (tgt := 33) hx hb dX3_read_119 (by decide) ?_
                exact ih x_36 1 (q_21) (q_20) (q_33) (q_32) (q_22) _ _ _ (hP.sub [2, 3, 4, 0, 1] rfl) (hD.sub [2, 3, 4, 0, 1] (by decide) rfl) hS (lv_sub hl [0, 1, 2, 3, 4] rfl) hbq_32 hbq_33 hbq_20 hbq_21 ⟨by decide, by decide⟩ (show (q_32 : Int32).toInt ≤ (q_3 : Int32).toInt from by omega) (show ((q_33 : Int32).toInt = -1 → ∀ k : Nat, k < x_36.toInt.toNat → zIt q_22 (4 * k)) from by (intro hrf k hk; exact (Nat.lt_or_ge k i_33.toInt.toNat).elim (fun h => zIt_keep hsr_16_2 (by omega) (hvi_33_1 (hvi_33_3 (by omega)) k h)) (fun h => by (have e4 : x_15.toInt.toNat = 4 * k := (by omega); have z := hsr_16_1 (by omega); rw [e4] at z; exact z)))) (show x_36.toInt ≤ 33 from by omega) (show ((1 : Int32).toInt = 1 → (q_33 : Int32).toInt = -1) from by (intro h; first | omega | exact absurd h (by decide))) (show ((1 : Int32).toInt = 1 → zRgo q_4 (q_3 : Int32).toInt te.toInt pu.toInt x_36.toInt.toNat = some ((q_32 : Int32).toInt, (q_20 : Int32).toInt, (q_21 : Int32).toInt)) from by (intro _; obtain ⟨z1, z2⟩ := hsr_16_3; obtain ⟨z3, z4, z5⟩ := z2 (by omega); exact zRgo_S (hvi_33_4 (by omega)) (by omega) (by omega) (by rw [← z3]; omega) (by omega) z4 z5 (by omega))) (show ((1 : Int32).toInt = 0 → 1 ≤ x_36.toInt ∧ zEnd q_4 (q_3 : Int32).toInt te.toInt pu.toInt (x_36.toInt - 1).toNat (q_33 : Int32).toInt (q_20 : Int32).toInt (q_21 : Int32).toInt) from by (intro h; exact absurd h (by decide))) (show ((q_33 : Int32).toInt = -1 → (q_21 : Int32).toInt = pu.toInt + zCP q_22 x_36.toInt.toNat ∧ (q_20 : Int32).toInt = zLT q_22 te.toInt x_36.toInt.toNat) from by (intro hrf; obtain ⟨c1, c2⟩ := hvi_33_6 (hvi_33_3 (by omega)); have e4 : x_15.toInt.toNat = 4 * i_33.toInt.toNat := (by omega); have z := hsr_16_4 (by omega); have z2 := hsr_16_2; rw [e4] at z z2; exact ⟨zCP_S (i := i_33.toInt) (n := i_33.toInt.toNat) (by omega) (by omega) z2 c1 z.2.2.1 z.2.2.2, zLT_S (i := i_33.toInt) (n := i_33.toInt.toNat) (by omega) (by omega) z2 c2 z.1 z.2.1⟩)) (show ((q_33 : Int32).toInt = -1 → ∀ k : Nat, k < x_36.toInt.toNat → zKI q_4 (q_3 : Int32).toInt te.toInt pu.toInt q_22 k) from by (intro hrf k hk; exact (Nat.lt_or_ge k i_33.toInt.toNat).elim (fun h => zKI_keep (hvi_33_7 (hvi_33_3 (by omega)) k h) (fun j hj => hsr_16_2 j (by omega))) (fun h => by (have e4 : x_15.toInt.toNat = 4 * k := (by omega); obtain rfl : k = i_33.toInt.toNat := (by omega); have z0 := hvi_33_4 (by omega); have z1 := hsr_16_3.1; have z := hsr_16_5 (by omega); rw [e4] at z; exact ⟨_, _, _, z0, by omega, z⟩)))) (dw_lo hloi_33 qx_36) (dw_hn hni_33 qx_36)
end
