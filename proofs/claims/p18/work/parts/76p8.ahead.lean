/-! the cases ahead and the line: what both worlds reckon -/
def zPw : Nat → Int
  | 0 => 1
  | n + 1 => 12 * zPw n
theorem zPw_pos : ∀ n : Nat, 1 ≤ zPw n := by
  intro n
  induction n with
  | zero => decide
  | succ n ih => show 1 ≤ 12 * zPw n; omega
/-- a pull that may be -/
def zOk (K T : Nat → Int32) (tw d s : Int) (p : Nat) : Prop := 1 ≤ d ∧ (T p).toInt ≤ s ∧ (tw ≠ 0 ∨ (K p).toInt ≠ 5)
def zBy1 (f : Int → Int → Int) (k a t h d s : Int) : Int := zWy k a h d * f (zShl k a d) (s - t) + (12 - zWy k a h d) * f (zDpr k a h d) (s - t)
def zBy (f : Int → Int → Int) (K A T : Nat → Int32) (h d s : Int) (p : Nat) : Int := zBy1 f (K p).toInt (A p).toInt (T p).toInt h d s
def zFo (K T : Nat → Int32) (tw d s b : Int) (v : Nat → Int) : Nat → Int
  | 0 => b
  | p + 1 => if 1 ≤ d ∧ (T p).toInt ≤ s ∧ (tw ≠ 0 ∨ (K p).toInt ≠ 5) then max (zFo K T tw d s b v p) (v p) else zFo K T tw d s b v p
theorem zFo_y {K T : Nat → Int32} {tw d s b : Int} {v : Nat → Int} {p : Nat} (h : zOk K T tw d s p) : zFo K T tw d s b v (p + 1) = max (zFo K T tw d s b v p) (v p) := if_pos h
theorem zFo_n {K T : Nat → Int32} {tw d s b : Int} {v : Nat → Int} {p : Nat} (h : ¬ zOk K T tw d s p) : zFo K T tw d s b v (p + 1) = zFo K T tw d s b v p := if_neg h
def zM (K A T : Nat → Int32) (N : Nat) (h tw : Int) : Nat → Int → Int → Int
  | 0 => fun d _ => if d = 0 then 1 else 0
  | n + 1 => fun d s => if d = 0 then zPw (n + 1) else zFo K T tw d s 0 (zBy (zM K A T N h tw n) K A T h d s) N
theorem zM_0 {K A T : Nat → Int32} {N : Nat} {h tw d s : Int} : zM K A T N h tw 0 d s = if d = 0 then 1 else 0 := rfl
theorem zM_s {K A T : Nat → Int32} {N n : Nat} {h tw d s : Int} : zM K A T N h tw (n + 1) d s = if d = 0 then zPw (n + 1) else zFo K T tw d s 0 (zBy (zM K A T N h tw n) K A T h d s) N := rfl
theorem zMix {w x y P : Int} (hw : 0 ≤ w ∧ w ≤ 12) (hx : 0 ≤ x ∧ x ≤ P) (hy : 0 ≤ y ∧ y ≤ P) : 0 ≤ w * x + (12 - w) * y ∧ w * x + (12 - w) * y ≤ 12 * P := by
  have a1 : 0 ≤ w * x := Int.mul_nonneg hw.1 hx.1
  have a2 : 0 ≤ (12 - w) * y := Int.mul_nonneg (by omega) hy.1
  have a3 : w * x ≤ w * P := Int.mul_le_mul_of_nonneg_left hx.2 hw.1
  have a4 : (12 - w) * y ≤ (12 - w) * P := Int.mul_le_mul_of_nonneg_left hy.2 (by omega)
  have a5 : w * P + (12 - w) * P = 12 * P := by
    rw [← Int.add_mul, show w + (12 - w) = 12 from by omega]
  omega
theorem zMixM {w x y x2 y2 : Int} (hw : 0 ≤ w ∧ w ≤ 12) (hx : x ≤ x2) (hy : y ≤ y2) : w * x + (12 - w) * y ≤ w * x2 + (12 - w) * y2 := by
  have a3 : w * x ≤ w * x2 := Int.mul_le_mul_of_nonneg_left hx hw.1
  have a4 : (12 - w) * y ≤ (12 - w) * y2 := Int.mul_le_mul_of_nonneg_left hy (by omega)
  omega
theorem zFo_ge {K T : Nat → Int32} {tw d s b : Int} {v : Nat → Int} : ∀ N : Nat, b ≤ zFo K T tw d s b v N := by
  intro N
  induction N with
  | zero => exact Int.le_refl _
  | succ N ih =>
    by_cases c : zOk K T tw d s N
    · rw [zFo_y c]; omega
    · rw [zFo_n c]; exact ih
theorem zFo_le {K T : Nat → Int32} {tw d s b P : Int} {v : Nat → Int} (hb : b ≤ P) : ∀ N : Nat, (∀ p : Nat, p < N → zOk K T tw d s p → v p ≤ P) → zFo K T tw d s b v N ≤ P := by
  intro N
  induction N with
  | zero => intro _; exact hb
  | succ N ih =>
    intro hv
    have h1 := ih (fun p hp => hv p (by omega))
    by_cases c : zOk K T tw d s N
    · rw [zFo_y c]
      have := hv N (by omega) c
      omega
    · rw [zFo_n c]; exact h1
theorem zFo_base {K T : Nat → Int32} {tw d s b : Int} {v : Nat → Int} (hb : 0 ≤ b) : ∀ N : Nat, zFo K T tw d s b v N = max b (zFo K T tw d s 0 v N) := by
  intro N
  induction N with
  | zero => show b = max b 0; omega
  | succ N ih =>
    by_cases c : zOk K T tw d s N
    · rw [zFo_y c, zFo_y c, ih]; omega
    · rw [zFo_n c, zFo_n c, ih]
theorem zFo_congr {K T K2 T2 : Nat → Int32} {tw d s s2 b : Int} {v u : Nat → Int} : ∀ N : Nat, (∀ p : Nat, p < N → (zOk K T tw d s p ↔ zOk K2 T2 tw d s2 p) ∧ (zOk K T tw d s p → v p = u p)) → zFo K T tw d s b v N = zFo K2 T2 tw d s2 b u N := by
  intro N
  induction N with
  | zero => intro _; rfl
  | succ N ih =>
    intro h
    have h1 := ih (fun p hp => h p (by omega))
    obtain ⟨h2, h3⟩ := h N (by omega)
    by_cases c : zOk K T tw d s N
    · rw [zFo_y c, zFo_y (h2.mp c), h1, h3 c]
    · rw [zFo_n c, zFo_n (fun z => c (h2.mpr z)), h1]
theorem zFo_up {K T : Nat → Int32} {tw d s : Int} {v u : Nat → Int} : ∀ N : Nat, (∀ p : Nat, p < N → 12 * v p ≤ u p) → 12 * zFo K T tw d s 0 v N ≤ zFo K T tw d s 0 u N := by
  intro N
  induction N with
  | zero => intro _; show 12 * (0 : Int) ≤ 0; omega
  | succ N ih =>
    intro h
    have h1 := ih (fun p hp => h p (by omega))
    have h2 := h N (by omega)
    by_cases c : zOk K T tw d s N
    · rw [zFo_y c, zFo_y c]; omega
    · rw [zFo_n c, zFo_n c]; exact h1
theorem zM_rg {K A T : Nat → Int32} {N : Nat} {h tw : Int} : ∀ (n : Nat) (d s : Int), 0 ≤ zM K A T N h tw n d s ∧ zM K A T N h tw n d s ≤ zPw n := by
  intro n
  induction n with
  | zero =>
    intro d s
    rw [zM_0]
    have : zPw 0 = 1 := rfl
    split <;> omega
  | succ n ih =>
    intro d s
    rw [zM_s]
    have h1 := zPw_pos (n + 1)
    split
    · omega
    · exact ⟨zFo_ge N, zFo_le (by omega) N (fun p _ _ => (zMix zWy_rg (ih _ _) (ih _ _)).2)⟩
theorem zM_up {K A T : Nat → Int32} {N : Nat} {h tw : Int} : ∀ (n : Nat) (d s : Int), 12 * zM K A T N h tw n d s ≤ zM K A T N h tw (n + 1) d s := by
  intro n
  induction n with
  | zero =>
    intro d s
    rw [zM_0, zM_s]
    by_cases c : d = 0
    · rw [if_pos c, if_pos c]; show (12 : Int) * 1 ≤ 12 * 1; omega
    · rw [if_neg c, if_neg c]
      exact Int.le_trans (by omega) (zFo_ge N)
  | succ n ih =>
    intro d s
    rw [zM_s, zM_s (n := n + 1)]
    by_cases c : d = 0
    · rw [if_pos c, if_pos c]; exact Int.le_refl _
    · rw [if_neg c, if_neg c]
      refine zFo_up N (fun p _ => ?_)
      unfold zBy zBy1
      rw [Int.mul_add, Int.mul_left_comm 12, Int.mul_left_comm 12]
      exact zMixM zWy_rg (ih _ _) (ih _ _)
/-- not pulling is no better -/
theorem zM_ref {K A T : Nat → Int32} {N n : Nat} {h tw d s : Int} (hd : d ≠ 0) : zFo K T tw d s (12 * zM K A T N h tw n d s) (zBy (zM K A T N h tw n) K A T h d s) N = zM K A T N h tw (n + 1) d s := by
  have h1 := zM_rg (K := K) (A := A) (T := T) (N := N) (h := h) (tw := tw) n d s
  have h2 := zM_up (K := K) (A := A) (T := T) (N := N) (h := h) (tw := tw) n d s
  have h3 := zM_s (K := K) (A := A) (T := T) (N := N) (n := n) (h := h) (tw := tw) (d := d) (s := s)
  rw [if_neg hd] at h3
  rw [zFo_base (by omega), ← h3]
  omega
/-- seconds enough for all pulls: then they don't matter -/
theorem zM_en {K A T : Nat → Int32} {N : Nat} {h tw g : Int} (hg0 : 0 ≤ g) (hg : ∀ p : Nat, p < N → (tw ≠ 0 ∨ (K p).toInt ≠ 5) → (T p).toInt ≤ g) : ∀ (n : Nat) (d s s2 : Int), (n : Int) * g ≤ s → (n : Int) * g ≤ s2 → zM K A T N h tw n d s = zM K A T N h tw n d s2 := by
  intro n
  induction n with
  | zero => intro d s s2 _ _; rfl
  | succ n ih =>
    intro d s s2 h1 h2
    have e : ((n + 1 : Nat) : Int) * g = (n : Int) * g + g := by
      rw [show ((n + 1 : Nat) : Int) = (n : Int) + 1 from by omega, Int.add_mul, Int.one_mul]
    have e2 : 0 ≤ (n : Int) * g := Int.mul_nonneg (by omega) hg0
    rw [zM_s, zM_s]
    split
    · rfl
    · refine zFo_congr N (fun p hp => ⟨?_, fun ho => ?_⟩)
      · have := hg p hp
        unfold zOk
        constructor
        · rintro ⟨z1, z2, z3⟩; have := this z3; exact ⟨z1, by omega, z3⟩
        · rintro ⟨z1, z2, z3⟩; have := this z3; exact ⟨z1, by omega, z3⟩
      · have := hg p hp ho.2.2
        unfold zBy zBy1
        rw [ih _ (s - (T p).toInt) (s2 - (T p).toInt) (by omega) (by omega), ih (zDpr (K p).toInt (A p).toInt h d) (s - (T p).toInt) (s2 - (T p).toInt) (by omega) (by omega)]
/-- what is kept of the cases -/
def zKm (K A T : Nat → Int32) (N : Nat) (h tw g : Int) (f : Nat → Int32) : Prop := ∀ m : Nat, 1 ≤ m → m ≤ 4 → ∀ d : Nat, 1 ≤ d → d ≤ 24 → (f (25 * m + d)).toInt = -1 ∨ ∀ s : Int, (m : Int) * g ≤ s → (f (25 * m + d)).toInt = zM K A T N h tw m (d : Int) s
theorem zKm_0 {K A T : Nat → Int32} {N : Nat} {h tw g : Int} {f : Nat → Int32} (hf : ∀ j : Nat, j < 125 → (f j).toInt = -1) : zKm K A T N h tw g f := fun m h1 h2 d h3 h4 => Or.inl (hf _ (by omega))
theorem zKm_u {K A T : Nat → Int32} {N : Nat} {h tw g : Int} {f : Nat → Int32} {m : Nat} {i v d s : Int32} (hk : zKm K A T N h tw g f) (hg0 : 0 ≤ g) (hg : ∀ p : Nat, p < N → (tw ≠ 0 ∨ (K p).toInt ≠ 5) → (T p).toInt ≤ g) (hi : i.toInt = 25 * (m : Int) + d.toInt) (hd : 1 ≤ d.toInt ∧ d.toInt ≤ 24) (hs : (m : Int) * g ≤ s.toInt) (hv : v.toInt = zM K A T N h tw m d.toInt s.toInt) : zKm K A T N h tw g (upd f i.toNatClampNeg v) := by
  intro m2 h1 h2 d2 h3 h4
  have e1 : i.toNatClampNeg = i.toInt.toNat := rfl
  simp only [upd]
  by_cases c : 25 * m2 + d2 = i.toNatClampNeg
  · rw [if_pos c]
    obtain rfl : m2 = m := by omega
    refine Or.inr (fun s2 hs2 => ?_)
    rw [hv, show (d2 : Int) = d.toInt from by omega]
    exact zM_en hg0 hg m2 _ _ _ hs hs2
  · rw [if_neg c]
    exact hk m2 h1 h2 d2 h3 h4
theorem zKm_at {K A T : Nat → Int32} {N : Nat} {h tw g : Int} {f : Nat → Int32} {m : Nat} {i d s : Int32} (hk : zKm K A T N h tw g f) (hm : 1 ≤ m ∧ m ≤ 4) (hi : i.toInt = 25 * (m : Int) + d.toInt) (hd : 1 ≤ d.toInt ∧ d.toInt ≤ 24) (hs : (m : Int) * g ≤ s.toInt) (hn : (f i.toNatClampNeg).toInt ≠ -1) : (f i.toNatClampNeg).toInt = zM K A T N h tw m d.toInt s.toInt := by
  have e1 : i.toNatClampNeg = i.toInt.toNat := rfl
  have e2 : i.toNatClampNeg = 25 * m + d.toInt.toNat := by omega
  rw [e2] at hn ⊢
  rcases hk m hm.1 hm.2 d.toInt.toNat (by omega) (by omega) with h1 | h1
  · exact absurd h1 hn
  · rw [h1 s.toInt hs, show ((d.toInt.toNat : Nat) : Int) = d.toInt from by omega]
/-- the pull to begin with: of most, of several the first -/
def zNg (K T : Nat → Int32) (tw d s : Int) (v : Nat → Int) : Nat → Int
  | 0 => -1
  | p + 1 => if (1 ≤ d ∧ (T p).toInt ≤ s ∧ (tw ≠ 0 ∨ (K p).toInt ≠ 5)) ∧ (zNg K T tw d s v p = -1 ∨ v (zNg K T tw d s v p).toNat < v p) then (p : Int) else zNg K T tw d s v p
theorem zNg_y {K T : Nat → Int32} {tw d s : Int} {v : Nat → Int} {p : Nat} (h : zOk K T tw d s p) (h2 : zNg K T tw d s v p = -1 ∨ v (zNg K T tw d s v p).toNat < v p) : zNg K T tw d s v (p + 1) = (p : Int) := if_pos ⟨h, h2⟩
theorem zNg_n {K T : Nat → Int32} {tw d s : Int} {v : Nat → Int} {p : Nat} (h : ¬ (zOk K T tw d s p ∧ (zNg K T tw d s v p = -1 ∨ v (zNg K T tw d s v p).toNat < v p))) : zNg K T tw d s v (p + 1) = zNg K T tw d s v p := if_neg h
theorem zNg_rg {K T : Nat → Int32} {tw d s : Int} {v : Nat → Int} : ∀ N : Nat, zNg K T tw d s v N = -1 ∨ ∃ p : Nat, p < N ∧ zNg K T tw d s v N = (p : Int) ∧ zOk K T tw d s p := by
  intro N
  induction N with
  | zero => exact Or.inl rfl
  | succ N ih =>
    by_cases c : zOk K T tw d s N ∧ (zNg K T tw d s v N = -1 ∨ v (zNg K T tw d s v N).toNat < v N)
    · exact Or.inr ⟨N, by omega, zNg_y c.1 c.2, c.1⟩
    · rw [zNg_n c]
      rcases ih with h | ⟨p, h1, h2, h3⟩
      · exact Or.inl h
      · exact Or.inr ⟨p, by omega, h2, h3⟩
theorem zNg_congr {K T K2 T2 : Nat → Int32} {tw d s : Int} {v u : Nat → Int} : ∀ N : Nat, (∀ p : Nat, p < N → (zOk K T tw d s p ↔ zOk K2 T2 tw d s p) ∧ v p = u p) → zNg K T tw d s v N = zNg K2 T2 tw d s u N := by
  intro N
  induction N with
  | zero => intro _; rfl
  | succ N ih =>
    intro h
    have h1 := ih (fun p hp => h p (by omega))
    obtain ⟨h2, h3⟩ := h N (by omega)
    have h4 : zNg K T tw d s v N = -1 ∨ v (zNg K T tw d s v N).toNat = u (zNg K T tw d s v N).toNat := by
      rcases zNg_rg (K := K) (T := T) (tw := tw) (d := d) (s := s) (v := v) N with z | ⟨p, z1, z2, -⟩
      · exact Or.inl z
      · rw [z2]; exact Or.inr (h p (by omega)).2
    by_cases c : zOk K T tw d s N ∧ (zNg K T tw d s v N = -1 ∨ v (zNg K T tw d s v N).toNat < v N)
    · rw [zNg_y c.1 c.2, zNg_y (h2.mp c.1) (by rw [← h1]; omega)]
    · rw [zNg_n c, zNg_n (fun z => c ⟨h2.mpr z.1, by have z2 := z.2; rw [← h1] at z2; omega⟩), h1]
theorem zM_congr {K A T K2 A2 T2 : Nat → Int32} {N : Nat} {h tw : Int} (hk : ∀ p : Nat, p < N → K p = K2 p ∧ A p = A2 p ∧ T p = T2 p) : ∀ (n : Nat) (d s : Int), zM K A T N h tw n d s = zM K2 A2 T2 N h tw n d s := by
  intro n
  induction n with
  | zero => intro d s; rfl
  | succ n ih =>
    intro d s
    rw [zM_s, zM_s]
    split
    · rfl
    · refine zFo_congr N (fun p hp => ?_)
      obtain ⟨h1, h2, h3⟩ := hk p hp
      unfold zOk zBy zBy1
      rw [h1, h2, h3]
      exact ⟨Iff.rfl, fun _ => by rw [ih, ih]⟩
theorem zBy_congr {K A T K2 A2 T2 : Nat → Int32} {N p : Nat} {h tw d s : Int} {n : Nat} (hk : ∀ p : Nat, p < N → K p = K2 p ∧ A p = A2 p ∧ T p = T2 p) (hp : p < N) : zBy (zM K A T N h tw n) K A T h d s p = zBy (zM K2 A2 T2 N h tw n) K2 A2 T2 h d s p := by
  obtain ⟨h1, h2, h3⟩ := hk p hp
  unfold zBy zBy1
  rw [h1, h2, h3, zM_congr hk, zM_congr hk]
theorem zf_mulc {a b : Int32} {x y P : Int} (ha : a.toInt = x) (hb : b.toInt = y) (h1 : 0 ≤ x ∧ x ≤ 12) (h2 : 0 ≤ y ∧ y ≤ P) (hP : 12 * P ≤ 2147483647) : (a * b).toInt = x * y ∧ 0 ≤ x * y ∧ x * y ≤ 12 * P := by
  have h3 : 0 ≤ x * y := Int.mul_nonneg h1.1 h2.1
  have h4 : x * y ≤ 12 * P := Int.mul_le_mul h1.2 h2.2 h2.1 (by omega)
  exact ⟨zf_mul ha hb (by omega) (by omega), h3, h4⟩
/-- the pulls looked at: those left, told -/
def zJW (po : zPool) (f : Nat → Option Nat) (n : Int32) (K A T : Nat → Int32) (tw : Int32) : Prop := ∀ j : Nat, (j : Int) < n.toInt → (f j = none ∧ ¬ (tw.toInt ≠ 0 ∨ (K j).toInt ≠ 5)) ∨ ∃ u : Nat, f j = some u ∧ zPu po u (K j) (A j) (T j) ∧ (tw.toInt ≠ 0 ∨ (K j).toInt ≠ 5)
theorem zJW_S {po : zPool} {f : Nat → Option Nat} {i i2 tw : Int32} {K A T : Nat → Int32} {v : Option Nat} (h : zJW po f i K A T tw) (h0 : 0 ≤ i.toInt) (hi : i2.toInt = i.toInt + 1) (hv : (v = none ∧ ¬ (tw.toInt ≠ 0 ∨ (K i.toNatClampNeg).toInt ≠ 5)) ∨ ∃ u : Nat, v = some u ∧ zPu po u (K i.toNatClampNeg) (A i.toNatClampNeg) (T i.toNatClampNeg) ∧ (tw.toInt ≠ 0 ∨ (K i.toNatClampNeg).toInt ≠ 5)) : zJW po (va_up f i.toNatClampNeg v) i2 K A T tw := by
  intro j hj
  have e1 : i.toNatClampNeg = i.toInt.toNat := rfl
  simp only [va_up]
  by_cases c : j = i.toNatClampNeg
  · subst c
    rw [if_pos rfl]
    exact hv
  · rw [if_neg c]
    exact h j (by omega)

