/-! the line -/
def zAt (c1 c2 s : Int) : Int := if 30 ≤ s then min c1 c2 else c2
theorem zAt_rg {c1 c2 s : Int} (h1 : 0 ≤ c1 ∧ c1 ≤ 99) (h2 : 0 ≤ c2 ∧ c2 ≤ 99) : 0 ≤ zAt c1 c2 s ∧ zAt c1 c2 s ≤ 99 := by
  unfold zAt
  split <;> omega
def zFi (T : Nat → Int32) (d s b : Int) (v : Nat → Int) : Nat → Int
  | 0 => b
  | p + 1 => if 1 ≤ d ∧ (T p).toInt ≤ s then min (zFi T d s b v p) (v p) else zFi T d s b v p
theorem zFi_y {T : Nat → Int32} {d s b : Int} {v : Nat → Int} {p : Nat} (h : 1 ≤ d ∧ (T p).toInt ≤ s) : zFi T d s b v (p + 1) = min (zFi T d s b v p) (v p) := if_pos h
theorem zFi_n {T : Nat → Int32} {d s b : Int} {v : Nat → Int} {p : Nat} (h : ¬ (1 ≤ d ∧ (T p).toInt ≤ s)) : zFi T d s b v (p + 1) = zFi T d s b v p := if_neg h
def zLb (f : Int → Int → Int) (c0 P k a t h d s : Int) : Int := (if k = 5 then P * c0 else 0) + zBy1 f k a t h d s
def zLv (f : Int → Int → Int) (K A T : Nat → Int32) (c0 P h d s : Int) (p : Nat) : Int := zLb f c0 P (K p).toInt (A p).toInt (T p).toInt h d s
def zLn (K A T : Nat → Int32) (N : Nat) (h c0 c1 c2 : Int) : Nat → Int → Int → Int
  | 0 => fun d s => if d = 0 then 0 else zPw 0 * zAt c1 c2 s
  | n + 1 => fun d s => if d = 0 then 0 else zFi T d s (zPw (n + 1) * zAt c1 c2 s) (zLv (zLn K A T N h c0 c1 c2 n) K A T c0 (zPw (n + 1)) h d s) N
theorem zLn_0 {K A T : Nat → Int32} {N : Nat} {h c0 c1 c2 d s : Int} : zLn K A T N h c0 c1 c2 0 d s = if d = 0 then 0 else zPw 0 * zAt c1 c2 s := rfl
theorem zLn_s {K A T : Nat → Int32} {N n : Nat} {h c0 c1 c2 d s : Int} : zLn K A T N h c0 c1 c2 (n + 1) d s = if d = 0 then 0 else zFi T d s (zPw (n + 1) * zAt c1 c2 s) (zLv (zLn K A T N h c0 c1 c2 n) K A T c0 (zPw (n + 1)) h d s) N := rfl
theorem zFi_le {T : Nat → Int32} {d s b : Int} {v : Nat → Int} : ∀ N : Nat, zFi T d s b v N ≤ b := by
  intro N
  induction N with
  | zero => exact Int.le_refl _
  | succ N ih =>
    by_cases c : 1 ≤ d ∧ (T N).toInt ≤ s
    · rw [zFi_y c]; omega
    · rw [zFi_n c]; exact ih
theorem zFi_ge {T : Nat → Int32} {d s b P : Int} {v : Nat → Int} (hb : P ≤ b) : ∀ N : Nat, (∀ p : Nat, p < N → P ≤ v p) → P ≤ zFi T d s b v N := by
  intro N
  induction N with
  | zero => intro _; exact hb
  | succ N ih =>
    intro hv
    have h1 := ih (fun p hp => hv p (by omega))
    have h2 := hv N (by omega)
    by_cases c : 1 ≤ d ∧ (T N).toInt ≤ s
    · rw [zFi_y c]; omega
    · rw [zFi_n c]; exact h1
theorem zFi_congr {T T2 : Nat → Int32} {d s s2 b : Int} {v u : Nat → Int} : ∀ N : Nat, (∀ p : Nat, p < N → ((1 ≤ d ∧ (T p).toInt ≤ s) ↔ (1 ≤ d ∧ (T2 p).toInt ≤ s2)) ∧ ((1 ≤ d ∧ (T p).toInt ≤ s) → v p = u p)) → zFi T d s b v N = zFi T2 d s2 b u N := by
  intro N
  induction N with
  | zero => intro _; rfl
  | succ N ih =>
    intro h
    have h1 := ih (fun p hp => h p (by omega))
    obtain ⟨h2, h3⟩ := h N (by omega)
    by_cases c : 1 ≤ d ∧ (T N).toInt ≤ s
    · rw [zFi_y c, zFi_y (h2.mp c), h1, h3 c]
    · rw [zFi_n c, zFi_n (fun z => c (h2.mpr z)), h1]
theorem zPw_at {n : Nat} {c1 c2 s : Int} (h1 : 0 ≤ c1 ∧ c1 ≤ 99) (h2 : 0 ≤ c2 ∧ c2 ≤ 99) : 0 ≤ zPw n * zAt c1 c2 s ∧ zPw n * zAt c1 c2 s ≤ 99 * zPw n := by
  have a := zAt_rg (s := s) h1 h2
  have p := zPw_pos n
  refine ⟨Int.mul_nonneg (by omega) a.1, ?_⟩
  have := Int.mul_le_mul_of_nonneg_left a.2 (show 0 ≤ zPw n by omega)
  omega
theorem zLn_rg {K A T : Nat → Int32} {N : Nat} {h c0 c1 c2 : Int} (h0 : 0 ≤ c0 ∧ c0 ≤ 99) (h1 : 0 ≤ c1 ∧ c1 ≤ 99) (h2 : 0 ≤ c2 ∧ c2 ≤ 99) : ∀ (n : Nat) (d s : Int), 0 ≤ zLn K A T N h c0 c1 c2 n d s ∧ zLn K A T N h c0 c1 c2 n d s ≤ 99 * zPw n := by
  intro n
  induction n with
  | zero =>
    intro d s
    rw [zLn_0]
    have a := zPw_at (n := 0) (s := s) h1 h2
    have p := zPw_pos 0
    split <;> omega
  | succ n ih =>
    intro d s
    rw [zLn_s]
    have a := zPw_at (n := n + 1) (s := s) h1 h2
    have p := zPw_pos (n + 1)
    split
    · omega
    · have b := zFi_le (T := T) (d := d) (s := s) (b := zPw (n + 1) * zAt c1 c2 s) (v := zLv (zLn K A T N h c0 c1 c2 n) K A T c0 (zPw (n + 1)) h d s) N
      refine ⟨zFi_ge a.1 N (fun p _ => ?_), by omega⟩
      unfold zLv zLb zBy1
      have m := (zMix (w := zWy (K p).toInt (A p).toInt h d) zWy_rg (ih (zShl (K p).toInt (A p).toInt d) (s - (T p).toInt)) (ih (zDpr (K p).toInt (A p).toInt h d) (s - (T p).toInt))).1
      have q : 0 ≤ zPw (n + 1) * c0 := Int.mul_nonneg (by omega) h0.1
      split <;> omega
theorem zLn_en {K A T : Nat → Int32} {N : Nat} {h c0 c1 c2 g : Int} (hg0 : 0 ≤ g) (hg : ∀ p : Nat, p < N → (T p).toInt ≤ g) : ∀ (n : Nat) (d s s2 : Int), (n : Int) * g + 30 ≤ s → (n : Int) * g + 30 ≤ s2 → zLn K A T N h c0 c1 c2 n d s = zLn K A T N h c0 c1 c2 n d s2 := by
  intro n
  induction n with
  | zero =>
    intro d s s2 h1 h2
    rw [zLn_0, zLn_0]
    have e2 : 0 ≤ ((0 : Nat) : Int) * g := by omega
    unfold zAt
    rw [if_pos (show (30 : Int) ≤ s by omega), if_pos (show (30 : Int) ≤ s2 by omega)]
  | succ n ih =>
    intro d s s2 h1 h2
    have e : ((n + 1 : Nat) : Int) * g = (n : Int) * g + g := by
      rw [show ((n + 1 : Nat) : Int) = (n : Int) + 1 from by omega, Int.add_mul, Int.one_mul]
    have e2 : 0 ≤ (n : Int) * g := Int.mul_nonneg (by omega) hg0
    rw [zLn_s, zLn_s]
    split
    · rfl
    · rw [show zAt c1 c2 s = zAt c1 c2 s2 from by unfold zAt; rw [if_pos (show (30 : Int) ≤ s by omega), if_pos (show (30 : Int) ≤ s2 by omega)]]
      refine zFi_congr N (fun p hp => ?_)
      have := hg p hp
      refine ⟨⟨fun z => ⟨z.1, by omega⟩, fun z => ⟨z.1, by omega⟩⟩, fun _ => ?_⟩
      unfold zLv zLb zBy1
      rw [ih (zShl (K p).toInt (A p).toInt d) (s - (T p).toInt) (s2 - (T p).toInt) (by omega) (by omega), ih (zDpr (K p).toInt (A p).toInt h d) (s - (T p).toInt) (s2 - (T p).toInt) (by omega) (by omega)]
def zKn (K A T : Nat → Int32) (N : Nat) (h c0 c1 c2 g : Int) (f : Nat → Int32) : Prop := ∀ m : Nat, m ≤ 4 → ∀ d : Nat, 1 ≤ d → d ≤ 24 → (f (25 * m + d)).toInt = -1 ∨ ∀ s : Int, (m : Int) * g + 30 ≤ s → (f (25 * m + d)).toInt = zLn K A T N h c0 c1 c2 m (d : Int) s
theorem zKn_0 {K A T : Nat → Int32} {N : Nat} {h c0 c1 c2 g : Int} {f : Nat → Int32} (hf : ∀ j : Nat, j < 125 → (f j).toInt = -1) : zKn K A T N h c0 c1 c2 g f := fun m h1 d h3 h4 => Or.inl (hf _ (by omega))
theorem zKn_u {K A T : Nat → Int32} {N : Nat} {h c0 c1 c2 g : Int} {f : Nat → Int32} {m : Nat} {i v d s : Int32} (hk : zKn K A T N h c0 c1 c2 g f) (hg0 : 0 ≤ g) (hg : ∀ p : Nat, p < N → (T p).toInt ≤ g) (hi : i.toInt = 25 * (m : Int) + d.toInt) (hd : 1 ≤ d.toInt ∧ d.toInt ≤ 24) (hs : (m : Int) * g + 30 ≤ s.toInt) (hv : v.toInt = zLn K A T N h c0 c1 c2 m d.toInt s.toInt) : zKn K A T N h c0 c1 c2 g (upd f i.toNatClampNeg v) := by
  intro m2 h1 d2 h3 h4
  have e1 : i.toNatClampNeg = i.toInt.toNat := rfl
  simp only [upd]
  by_cases c : 25 * m2 + d2 = i.toNatClampNeg
  · rw [if_pos c]
    obtain rfl : m2 = m := by omega
    refine Or.inr (fun s2 hs2 => ?_)
    rw [hv, show (d2 : Int) = d.toInt from by omega]
    exact zLn_en hg0 hg m2 _ _ _ hs hs2
  · rw [if_neg c]
    exact hk m2 h1 d2 h3 h4
theorem zKn_at {K A T : Nat → Int32} {N : Nat} {h c0 c1 c2 g : Int} {f : Nat → Int32} {m : Nat} {i d s : Int32} (hk : zKn K A T N h c0 c1 c2 g f) (hm : m ≤ 4) (hi : i.toInt = 25 * (m : Int) + d.toInt) (hd : 1 ≤ d.toInt ∧ d.toInt ≤ 24) (hs : (m : Int) * g + 30 ≤ s.toInt) (hn : (f i.toNatClampNeg).toInt ≠ -1) : (f i.toNatClampNeg).toInt = zLn K A T N h c0 c1 c2 m d.toInt s.toInt := by
  have e1 : i.toNatClampNeg = i.toInt.toNat := rfl
  have e2 : i.toNatClampNeg = 25 * m + d.toInt.toNat := by omega
  rw [e2] at hn ⊢
  rcases hk m hm d.toInt.toNat (by omega) (by omega) with h1 | h1
  · exact absurd h1 hn
  · rw [h1 s.toInt hs, show ((d.toInt.toNat : Nat) : Int) = d.toInt from by omega]
/-- what the line begins with: the first that does as well -/
def zFf (T : Nat → Int32) (d s L : Int) (v : Nat → Int) : Nat → Int
  | 0 => -1
  | p + 1 => if zFf T d s L v p = -1 ∧ (1 ≤ d ∧ (T p).toInt ≤ s) ∧ v p = L then (p : Int) else zFf T d s L v p
theorem zFf_s {T : Nat → Int32} {d s L : Int} {v : Nat → Int} {p : Nat} : zFf T d s L v (p + 1) = if zFf T d s L v p = -1 ∧ (1 ≤ d ∧ (T p).toInt ≤ s) ∧ v p = L then (p : Int) else zFf T d s L v p := rfl
theorem zFf_stay {T : Nat → Int32} {d s L : Int} {v : Nat → Int} {p : Nat} (h : zFf T d s L v p ≠ -1) : ∀ N : Nat, p ≤ N → zFf T d s L v N = zFf T d s L v p := by
  intro N
  induction N with
  | zero => intro hp; rw [show p = 0 from by omega]
  | succ N ih =>
    intro hp
    rcases Nat.lt_or_ge N p with h1 | h1
    · rw [show p = N + 1 from by omega]
    · rw [zFf_s, ih h1, if_neg (fun z => h z.1)]
theorem zFf_at {T : Nat → Int32} {d s L : Int} {v : Nat → Int} {p N : Nat} (h : zFf T d s L v p = -1) (ho : 1 ≤ d ∧ (T p).toInt ≤ s) (hv : v p = L) (hp : p < N) : zFf T d s L v N = (p : Int) := by
  have e : zFf T d s L v (p + 1) = (p : Int) := by rw [zFf_s, if_pos ⟨h, ho, hv⟩]
  rw [zFf_stay (p := p + 1) (by rw [e]; omega) N (by omega), e]
theorem zFf_nx {T : Nat → Int32} {d s L : Int} {v : Nat → Int} {p : Nat} (h : zFf T d s L v p = -1) (ho : ¬ ((1 ≤ d ∧ (T p).toInt ≤ s) ∧ v p = L)) : zFf T d s L v (p + 1) = -1 := by rw [zFf_s, if_neg (fun z => ho z.2), h]
/-- where none does as well, the line is at once -/
theorem zFf_no {T : Nat → Int32} {d s b L : Int} {v : Nat → Int} : ∀ N : Nat, (L = zFi T d s b v N ∨ L < zFi T d s b v N) → zFf T d s L v N = -1 → L = zFi T d s b v N → L = b := by
  intro N
  induction N with
  | zero => intro _ _ h; exact h
  | succ N ih =>
    intro _ h2 h3
    rw [zFf_s] at h2
    by_cases c : zFf T d s L v N = -1 ∧ (1 ≤ d ∧ (T N).toInt ≤ s) ∧ v N = L
    · rw [if_pos c] at h2; omega
    · rw [if_neg c] at h2
      by_cases c2 : 1 ≤ d ∧ (T N).toInt ≤ s
      · rw [zFi_y c2] at h3
        have c3 : v N ≠ L := fun z => c ⟨h2, c2, z⟩
        have e : L = zFi T d s b v N := by omega
        exact ih (Or.inl e) h2 e
      · rw [zFi_n c2] at h3
        exact ih (Or.inl h3) h2 h3
/-- head or miss, told either way -/
theorem zHead {P c1 c2 s : Int} (hp : 1 ≤ P) : (30 ≤ s ∧ P * c1 = P * zAt c1 c2 s) ↔ (30 ≤ s ∧ c1 ≤ c2) := by
  constructor
  · rintro ⟨h1, h2⟩
    have e := Int.eq_of_mul_eq_mul_left (show P ≠ 0 by omega) h2
    unfold zAt at e
    rw [if_pos h1] at e
    exact ⟨h1, by omega⟩
  · rintro ⟨h1, h2⟩
    refine ⟨h1, ?_⟩
    unfold zAt
    rw [if_pos h1, show min c1 c2 = c1 from by omega]
theorem zLn_congr {K A T K2 A2 T2 : Nat → Int32} {N : Nat} {h c0 c1 c2 : Int} (hk : ∀ p : Nat, p < N → K p = K2 p ∧ A p = A2 p ∧ T p = T2 p) : ∀ (n : Nat) (d s : Int), zLn K A T N h c0 c1 c2 n d s = zLn K2 A2 T2 N h c0 c1 c2 n d s := by
  intro n
  induction n with
  | zero => intro d s; rfl
  | succ n ih =>
    intro d s
    rw [zLn_s, zLn_s]
    split
    · rfl
    · refine zFi_congr N (fun p hp => ?_)
      obtain ⟨h1, h2, h3⟩ := hk p hp
      unfold zLv zLb zBy1
      rw [h1, h2, h3]
      exact ⟨Iff.rfl, fun _ => by rw [ih, ih]⟩
theorem zFf_congr {T T2 : Nat → Int32} {d s L : Int} {v u : Nat → Int} : ∀ N : Nat, (∀ p : Nat, p < N → T p = T2 p ∧ v p = u p) → zFf T d s L v N = zFf T2 d s L u N := by
  intro N
  induction N with
  | zero => intro _; rfl
  | succ N ih =>
    intro h
    obtain ⟨h1, h2⟩ := h N (by omega)
    rw [zFf_s, zFf_s, ih (fun p hp => h p (by omega)), h1, h2]
/-! the hurry of most cases; a told row of pulls -/
def zHs (v : Nat → Int) : Nat → Nat
  | 0 => 0
  | h + 1 => if v (zHs v h) < v (h + 1) then h + 1 else zHs v h
theorem zHs_s {v : Nat → Int} {h : Nat} : zHs v (h + 1) = if v (zHs v h) < v (h + 1) then h + 1 else zHs v h := rfl
def zJg (K A T : Nat → Int32) (N h : Int) (c : Nat → Int64) : Nat → Int → Int → Int → Int
  | 0, _, _, _ => -1
  | k + 1, i, d, s => if (0 ≤ zTl c i ∧ zTl c i < N) ∧ 1 ≤ d ∧ (T (zTl c i).toNat).toInt ≤ s then zJg K A T N h c k (i + 1) (if 6 ≤ zWy (K (zTl c i).toNat).toInt (A (zTl c i).toNat).toInt h d then zShl (K (zTl c i).toNat).toInt (A (zTl c i).toNat).toInt d else zDpr (K (zTl c i).toNat).toInt (A (zTl c i).toNat).toInt h d) (s - (T (zTl c i).toNat).toInt) else i
theorem zJg_s {K A T : Nat → Int32} {N h : Int} {c : Nat → Int64} {k : Nat} {i d s : Int} : zJg K A T N h c (k + 1) i d s = if (0 ≤ zTl c i ∧ zTl c i < N) ∧ 1 ≤ d ∧ (T (zTl c i).toNat).toInt ≤ s then zJg K A T N h c k (i + 1) (if 6 ≤ zWy (K (zTl c i).toNat).toInt (A (zTl c i).toNat).toInt h d then zShl (K (zTl c i).toNat).toInt (A (zTl c i).toNat).toInt d else zDpr (K (zTl c i).toNat).toInt (A (zTl c i).toNat).toInt h d) (s - (T (zTl c i).toNat).toInt) else i := rfl
theorem zJg_congr {K A T K2 A2 T2 : Nat → Int32} {N h : Int} {c e : Nat → Int64} (hN : N ≤ 8) (hk : ∀ p : Nat, p < 8 → K p = K2 p ∧ A p = A2 p ∧ T p = T2 p) : ∀ (k : Nat) (i d s : Int), (∀ j : Int, i ≤ j → j < i + (k : Int) → zTl c j = zTl e j) → zJg K A T N h c k i d s = zJg K2 A2 T2 N h e k i d s := by
  intro k
  induction k with
  | zero => intro i d s _; rfl
  | succ k ih =>
    intro i d s hc
    rw [zJg_s, zJg_s, hc i (by omega) (by omega)]
    by_cases c9 : 0 ≤ zTl e i ∧ zTl e i < N
    · obtain ⟨h1, h2, h3⟩ := hk (zTl e i).toNat (by omega)
      rw [h1, h2, h3, ih _ _ _ (fun j a b => hc j (by omega) (by omega))]
    · rw [if_neg (fun z => c9 z.1), if_neg (fun z => c9 z.1)]

