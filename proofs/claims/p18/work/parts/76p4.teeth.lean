/-! the teeth: those that lack, that catch; what comes of them -/
abbrev zLkA (l : Nat → Int32) (n t : Int) : Prop := 0 ≤ t ∧ t < n ∧ (l t.toNat).toInt = 1
abbrev zOp (l : Nat → Int32) (n t : Int) : Prop := zLkA l n t ∧ zLkA l n (t + 1) ∧ zLkA l n (t + 2)
def zHd (l : Nat → Int32) (n : Int) : Prop := ∀ t : Int, 0 ≤ t → t < n → ¬ zOp l n t
abbrev zFr (l : Nat → Int32) (n t : Int) : Prop := (zLkA l n (t - 1) ∧ zLkA l n (t - 2)) ∨ (zLkA l n (t - 1) ∧ zLkA l n (t + 1)) ∨ (zLkA l n (t + 1) ∧ zLkA l n (t + 2))
abbrev zCa (l s : Nat → Int32) (g t : Int) : Prop := (l t.toNat).toInt = 0 ∧ g ≤ (s t.toNat).toInt
theorem zLkA_congr {l m : Nat → Int32} {n t : Int} (hn : n ≤ 40) (h : ∀ j : Nat, j < 40 → l j = m j) : zLkA l n t ↔ zLkA m n t := by
  constructor
  · rintro ⟨a, b, c⟩; exact ⟨a, b, by rw [← h t.toNat (by omega)]; exact c⟩
  · rintro ⟨a, b, c⟩; exact ⟨a, b, by rw [h t.toNat (by omega)]; exact c⟩
theorem zHd_congr {l m : Nat → Int32} {n : Int} (hn : n ≤ 40) (h : ∀ j : Nat, j < 40 → l j = m j) (hd : zHd l n) : zHd m n := by
  intro t h0 h1 ⟨a, b, c⟩
  exact hd t h0 h1 ⟨(zLkA_congr hn h).mpr a, (zLkA_congr hn h).mpr b, (zLkA_congr hn h).mpr c⟩
/-- a lacking tooth more -/
theorem zLkA_up {l : Nat → Int32} {n t u : Int} (h0 : 0 ≤ t) : zLkA (upd l t.toNat 1) n u ↔ (zLkA l n u ∨ (u = t ∧ u < n)) := by
  have h1 : (1 : Int32).toInt = 1 := by decide
  unfold zLkA
  simp only [upd]
  by_cases e : u = t
  · subst e
    rw [if_pos rfl]
    constructor
    · rintro ⟨a, b, -⟩; exact Or.inr ⟨rfl, b⟩
    · intro z
      refine ⟨h0, ?_, h1⟩
      rcases z with z | z
      · exact z.2.1
      · exact z.2
  · constructor
    · rintro ⟨a, b, c⟩
      rw [if_neg (by omega)] at c
      exact Or.inl ⟨a, b, c⟩
    · rintro (⟨a, b, c⟩ | ⟨a, -⟩)
      · exact ⟨a, b, by rw [if_neg (by omega)]; exact c⟩
      · exact absurd a e
theorem zFr_iff {l : Nat → Int32} {n t : Int} (hd : zHd l n) (h0 : 0 ≤ t) (h1 : t < n) (hl : (l t.toNat).toInt ≠ 1) : ¬ zHd (upd l t.toNat 1) n ↔ zFr l n t := by
  constructor
  · intro h
    refine Classical.byContradiction (fun h2 => h (fun u a b z => ?_))
    obtain ⟨z1, z2, z3⟩ := z
    rw [zLkA_up h0] at z1 z2 z3
    have hn : ¬ zLkA l n t := fun q => hl q.2.2
    by_cases e1 : u = t
    · subst e1
      have y2 : zLkA l n (u + 1) := by rcases z2 with z2 | z2; exact z2; omega
      have y3 : zLkA l n (u + 2) := by rcases z3 with z3 | z3; exact z3; omega
      exact h2 (Or.inr (Or.inr ⟨y2, y3⟩))
    · have y1 : zLkA l n u := by rcases z1 with z1 | z1; exact z1; omega
      by_cases e2 : u + 1 = t
      · have y3 : zLkA l n (u + 2) := by rcases z3 with z3 | z3; exact z3; omega
        exact h2 (Or.inr (Or.inl ⟨by rw [show t - 1 = u from by omega]; exact y1, by rw [show t + 1 = u + 2 from by omega]; exact y3⟩))
      · have y2 : zLkA l n (u + 1) := by rcases z2 with z2 | z2; exact z2; omega
        by_cases e3 : u + 2 = t
        · exact h2 (Or.inl ⟨by rw [show t - 1 = u + 1 from by omega]; exact y2, by rw [show t - 2 = u from by omega]; exact y1⟩)
        · have y3 : zLkA l n (u + 2) := by rcases z3 with z3 | z3; exact z3; omega
          exact hd u a b ⟨y1, y2, y3⟩
  · rintro (⟨a, b⟩ | ⟨a, b⟩ | ⟨a, b⟩) h
    · refine h (t - 2) b.1 b.2.1 ⟨(zLkA_up h0).mpr (Or.inl b), (zLkA_up h0).mpr (Or.inl ?_), (zLkA_up h0).mpr (Or.inr ?_)⟩
      · rw [show t - 2 + 1 = t - 1 from by omega]; exact a
      · omega
    · refine h (t - 1) a.1 a.2.1 ⟨(zLkA_up h0).mpr (Or.inl a), (zLkA_up h0).mpr (Or.inr ?_), (zLkA_up h0).mpr (Or.inl ?_)⟩
      · omega
      · rw [show t - 1 + 2 = t + 1 from by omega]; exact b
    · exact h t h0 h1 ⟨(zLkA_up h0).mpr (Or.inr ⟨rfl, h1⟩), (zLkA_up h0).mpr (Or.inl a), (zLkA_up h0).mpr (Or.inl b)⟩
/-- how many lack, how many are frail, how many catch -/
def zCl (l : Nat → Int32) : Nat → Int
  | 0 => 0
  | k + 1 => zCl l k + (l k).toInt
def zCf (l : Nat → Int32) (n : Int) : Nat → Int
  | 0 => 0
  | k + 1 => zCf l n k + (if (l k).toInt ≠ 1 ∧ zFr l n (k : Int) then 1 else 0)
def zCn (l s : Nat → Int32) (g : Int) : Nat → Int
  | 0 => 0
  | k + 1 => zCn l s g k + (if zCa l s g (k : Int) then 1 else 0)
theorem zCl_s {l : Nat → Int32} {k : Nat} : zCl l (k + 1) = zCl l k + (l k).toInt := rfl
theorem zCf_s {l : Nat → Int32} {n : Int} {k : Nat} : zCf l n (k + 1) = zCf l n k + (if (l k).toInt ≠ 1 ∧ zFr l n (k : Int) then 1 else 0) := rfl
theorem zCn_s {l s : Nat → Int32} {g : Int} {k : Nat} : zCn l s g (k + 1) = zCn l s g k + (if zCa l s g (k : Int) then 1 else 0) := rfl
theorem zCn_rg {l s : Nat → Int32} {g : Int} : ∀ k : Nat, 0 ≤ zCn l s g k ∧ zCn l s g k ≤ (k : Int) := by
  intro k
  induction k with
  | zero => exact ⟨Int.le_refl _, Int.le_refl _⟩
  | succ k ih => rw [zCn_s]; split <;> omega
theorem zCn_mono {l s : Nat → Int32} {g : Int} : ∀ (m k : Nat), k ≤ m → zCn l s g k ≤ zCn l s g m := by
  intro m
  induction m with
  | zero => intro k hk; obtain rfl : k = 0 := (by omega); exact Int.le_refl _
  | succ m ih =>
    intro k hk
    rcases Nat.lt_or_ge k (m + 1) with h | h
    · have h1 := ih k (by omega)
      rw [zCn_s]
      split <;> omega
    · obtain rfl : k = m + 1 := (by omega)
      exact Int.le_refl _
/-- the i-th that catches is one -/
theorem zCn_one {l s : Nat → Int32} {g i : Int} {a b : Nat} (ha : zCa l s g (a : Int)) (hb : zCa l s g (b : Int)) (h1 : zCn l s g a = i) (h2 : zCn l s g b = i) : a = b := by
  rcases Nat.lt_trichotomy a b with h | h | h
  · have h3 := zCn_mono (l := l) (s := s) (g := g) b (a + 1) h
    rw [zCn_s, if_pos ha] at h3
    omega
  · exact h
  · have h3 := zCn_mono (l := l) (s := s) (g := g) a (b + 1) h
    rw [zCn_s, if_pos hb] at h3
    omega
/-- what catching() answers: the i-th, how many, or none -/
def zCat (l s : Nat → Int32) (g n i r : Int) : Prop := (∃ t : Nat, (t : Int) < n ∧ zCa l s g (t : Int) ∧ zCn l s g t = i ∧ r = (t : Int)) ∨ ((∀ t : Nat, (t : Int) < n → zCa l s g (t : Int) → zCn l s g t ≠ i) ∧ r = (if i = -1 then zCn l s g n.toNat else -1))
theorem zCat_one {l s : Nat → Int32} {g n i r r2 : Int} (h : zCat l s g n i r) (h2 : zCat l s g n i r2) : r = r2 := by
  rcases h with ⟨t, a1, a2, a3, a4⟩ | ⟨a1, a2⟩ <;> rcases h2 with ⟨u, b1, b2, b3, b4⟩ | ⟨b1, b2⟩
  · rw [a4, b4, zCn_one a2 b2 a3 b3]
  · exact absurd a3 (b1 t a1 a2)
  · exact absurd b3 (a1 u b1 b2)
  · rw [a2, b2]
theorem zCa_congr {l s m u : Nat → Int32} {g : Int} (h : ∀ j : Nat, j < 40 → l j = m j) (h2 : ∀ j : Nat, j < 40 → s j = u j) {t : Nat} (ht : t < 40) : zCa l s g (t : Int) ↔ zCa m u g (t : Int) := by
  show ((l t).toInt = 0 ∧ g ≤ (s t).toInt) ↔ ((m t).toInt = 0 ∧ g ≤ (u t).toInt)
  rw [h t ht, h2 t ht]
theorem zCn_congr {l s m u : Nat → Int32} {g : Int} (h : ∀ j : Nat, j < 40 → l j = m j) (h2 : ∀ j : Nat, j < 40 → s j = u j) : ∀ k : Nat, k ≤ 40 → zCn l s g k = zCn m u g k := by
  intro k
  induction k with
  | zero => intro _; rfl
  | succ k ih =>
    intro hk
    rw [zCn_s, zCn_s, ih (by omega)]
    have e := zCa_congr (g := g) h h2 (t := k) (by omega)
    by_cases c : zCa l s g (k : Int)
    · rw [if_pos c, if_pos (e.mp c)]
    · rw [if_neg c, if_neg (fun z => c (e.mpr z))]
theorem zCat_congr {l s m u : Nat → Int32} {g n i r : Int} (h : ∀ j : Nat, j < 40 → l j = m j) (h2 : ∀ j : Nat, j < 40 → s j = u j) (hn : 0 ≤ n ∧ n ≤ 40) (h0 : zCat l s g n i r) : zCat m u g n i r := by
  rcases h0 with ⟨t, a1, a2, a3, a4⟩ | ⟨a1, a2⟩
  · exact Or.inl ⟨t, a1, (zCa_congr h h2 (by omega)).mp a2, by rw [← zCn_congr h h2 t (by omega)]; exact a3, a4⟩
  · refine Or.inr ⟨fun t b1 b2 => ?_, ?_⟩
    · rw [← zCn_congr h h2 t (by omega)]; exact a1 t b1 ((zCa_congr h h2 (by omega)).mpr b2)
    · rw [a2, zCn_congr h h2 n.toNat (by omega)]
theorem zCl_congr {l m : Nat → Int32} (h : ∀ j : Nat, j < 40 → l j = m j) : ∀ k : Nat, k ≤ 40 → zCl l k = zCl m k := by
  intro k
  induction k with
  | zero => intro _; rfl
  | succ k ih => intro hk; rw [zCl_s, zCl_s, ih (by omega), h k (by omega)]
theorem zFr_congr {l m : Nat → Int32} {n t : Int} (hn : n ≤ 40) (h : ∀ j : Nat, j < 40 → l j = m j) : zFr l n t ↔ zFr m n t := by
  unfold zFr
  rw [zLkA_congr hn h, zLkA_congr (t := t - 2) hn h, zLkA_congr (t := t + 1) hn h, zLkA_congr (t := t + 2) hn h]
theorem zCf_congr {l m : Nat → Int32} {n : Int} (hn : n ≤ 40) (h : ∀ j : Nat, j < 40 → l j = m j) : ∀ k : Nat, k ≤ 40 → zCf l n k = zCf m n k := by
  intro k
  induction k with
  | zero => intro _; rfl
  | succ k ih =>
    intro hk
    rw [zCf_s, zCf_s, ih (by omega), h k (by omega)]
    have e := zFr_congr (t := (k : Int)) hn h
    by_cases c : zFr l n (k : Int)
    · have c2 := e.mp c
      by_cases d : (m k).toInt ≠ 1
      · rw [if_pos ⟨d, c⟩, if_pos ⟨d, c2⟩]
      · rw [if_neg (fun z => d z.1), if_neg (fun z => d z.1)]
    · rw [if_neg (fun z => c z.2), if_neg (fun z => c (e.mpr z.2))]
/-- the most that may lack besides, by how many lack just ahead: 'v' where it can't be so -/
def zSp (v : Int) (l : Nat → Int32) : Nat → Int × Int × Int
  | 0 => (0, v, v)
  | k + 1 => (if (l k).toInt = 1 then v else max (zSp v l k).1 (max (zSp v l k).2.1 (zSp v l k).2.2), (zSp v l k).1 + (1 - (l k).toInt), (zSp v l k).2.1 + (1 - (l k).toInt))
theorem zSp_s {v : Int} {l : Nat → Int32} {k : Nat} : zSp v l (k + 1) = (if (l k).toInt = 1 then v else max (zSp v l k).1 (max (zSp v l k).2.1 (zSp v l k).2.2), (zSp v l k).1 + (1 - (l k).toInt), (zSp v l k).2.1 + (1 - (l k).toInt)) := rfl
abbrev zSpE (v w : Int) (k : Nat) (a b : Int) : Prop := (a = b ∧ 0 ≤ a) ∨ (a ≤ v + (k : Int) ∧ b ≤ w + (k : Int))
theorem zSp_eq {v w : Int} {l : Nat → Int32} (hl : ∀ j : Nat, 0 ≤ (l j).toInt ∧ (l j).toInt ≤ 1) (hv : v ≤ -41) (hw : w ≤ -41) : ∀ k : Nat, k ≤ 40 → zSpE v w k (zSp v l k).1 (zSp w l k).1 ∧ zSpE v w k (zSp v l k).2.1 (zSp w l k).2.1 ∧ zSpE v w k (zSp v l k).2.2 (zSp w l k).2.2 := by
  intro k
  induction k with
  | zero => intro _; exact ⟨Or.inl ⟨rfl, Int.le_refl _⟩, Or.inr ⟨by show v ≤ v + ((0 : Nat) : Int); omega, by show w ≤ w + ((0 : Nat) : Int); omega⟩, Or.inr ⟨by show v ≤ v + ((0 : Nat) : Int); omega, by show w ≤ w + ((0 : Nat) : Int); omega⟩⟩
  | succ k ih =>
    intro hk
    obtain ⟨h1, h2, h3⟩ := ih (by omega)
    have h4 := hl k
    rw [zSp_s, zSp_s]
    dsimp only
    generalize (zSp v l k).1 = a1 at *
    generalize (zSp v l k).2.1 = a2 at *
    generalize (zSp v l k).2.2 = a3 at *
    generalize (zSp w l k).1 = b1 at *
    generalize (zSp w l k).2.1 = b2 at *
    generalize (zSp w l k).2.2 = b3 at *
    generalize (l k).toInt = x at *
    unfold zSpE at *
    refine ⟨?_, by omega, by omega⟩
    by_cases e : x = 1
    · rw [if_pos e, if_pos e]; omega
    · rw [if_neg e, if_neg e]; omega
/-- where no three lack, one of the three ways goes on -/
theorem zSp_on {v : Int} {l : Nat → Int32} {n : Int} (hl : ∀ j : Nat, 0 ≤ (l j).toInt ∧ (l j).toInt ≤ 1) (hd : zHd l n) : ∀ k : Nat, (k : Int) ≤ n → 0 ≤ (zSp v l k).1 ∨ (1 ≤ k ∧ (l (k - 1)).toInt = 1 ∧ 0 ≤ (zSp v l k).2.1) ∨ (2 ≤ k ∧ (l (k - 1)).toInt = 1 ∧ (l (k - 2)).toInt = 1 ∧ 0 ≤ (zSp v l k).2.2) := by
  intro k
  induction k with
  | zero => intro _; exact Or.inl (Int.le_refl _)
  | succ k ih =>
    intro hk
    have h4 := hl k
    rw [zSp_s]
    dsimp only
    by_cases e : (l k).toInt = 1
    · rcases ih (by omega) with h | ⟨h, h5, h6⟩ | ⟨h, h5, h6, h7⟩
      · exact Or.inr (Or.inl ⟨by omega, e, by omega⟩)
      · exact Or.inr (Or.inr ⟨by omega, e, by rw [show k + 1 - 2 = k - 1 from by omega]; exact h5, by omega⟩)
      · exfalso
        refine hd ((k : Int) - 2) (by omega) (by omega) ⟨⟨by omega, by omega, ?_⟩, ⟨by omega, by omega, ?_⟩, by omega, by omega, ?_⟩
        · rw [show ((k : Int) - 2).toNat = k - 2 from by omega]; exact h6
        · rw [show ((k : Int) - 2 + 1).toNat = k - 1 from by omega]; exact h5
        · rw [show ((k : Int) - 2 + 2).toNat = k from by omega]; exact e
    · rw [if_neg e]
      rcases ih (by omega) with h | ⟨h, h5, h6⟩ | ⟨h, h5, h6, h7⟩ <;> exact Or.inl (by omega)
def zMx3 (a : Int × Int × Int) : Int := max a.1 (max a.2.1 a.2.2)
theorem zSp_max {v w : Int} {l : Nat → Int32} {n : Int} {k : Nat} (hl : ∀ j : Nat, 0 ≤ (l j).toInt ∧ (l j).toInt ≤ 1) (hd : zHd l n) (hv : v ≤ -41) (hw : w ≤ -41) (hk : k ≤ 40) (hn : (k : Int) ≤ n) : zMx3 (zSp v l k) = zMx3 (zSp w l k) := by
  obtain ⟨h1, h2, h3⟩ := zSp_eq hl hv hw k hk
  have h4 := zSp_on (v := v) hl hd k hn
  unfold zMx3
  unfold zSpE at h1 h2 h3
  rcases h4 with h | ⟨-, -, h⟩ | ⟨-, -, -, h⟩ <;> omega
theorem zSp_congr {v : Int} {l m : Nat → Int32} (h : ∀ j : Nat, j < 40 → l j = m j) : ∀ k : Nat, k ≤ 40 → zSp v l k = zSp v m k := by
  intro k
  induction k with
  | zero => intro _; rfl
  | succ k ih => intro hk; rw [zSp_s, zSp_s, ih (by omega), h k (by omega)]
/-- the stitches, from the first tooth on: how many, from where on the next may be -/
def zSg (l s : Nat → Int32) (g n : Int) : Nat → Int × Int
  | 0 => (0, 0)
  | k + 1 => if (zSg l s g n k).2 ≤ (k : Int) ∧ zCa l s g (k : Int) then ((zSg l s g n k).1 + 1, min ((k : Int) + 2) (n - 1) + 3) else zSg l s g n k
theorem zSg_s {l s : Nat → Int32} {g n : Int} {k : Nat} : zSg l s g n (k + 1) = (if (zSg l s g n k).2 ≤ (k : Int) ∧ zCa l s g (k : Int) then ((zSg l s g n k).1 + 1, min ((k : Int) + 2) (n - 1) + 3) else zSg l s g n k) := rfl
abbrev zSgA (l s : Nat → Int32) (g n : Int) (k : Nat) : Prop := (zSg l s g n k).2 ≤ (k : Int) ∧ zCa l s g (k : Int)
def zSti (l s : Nat → Int32) (g n i r : Int) : Prop := (∃ t : Nat, (t : Int) < n ∧ zSgA l s g n t ∧ (zSg l s g n t).1 = i ∧ r = min ((t : Int) + 2) (n - 1)) ∨ ((∀ t : Nat, (t : Int) < n → zSgA l s g n t → (zSg l s g n t).1 ≠ i) ∧ r = (if i = -1 then (zSg l s g n n.toNat).1 else -1))
theorem zSg_mono {l s : Nat → Int32} {g n : Int} : ∀ (m k : Nat), k ≤ m → (zSg l s g n k).1 ≤ (zSg l s g n m).1 := by
  intro m
  induction m with
  | zero => intro k hk; obtain rfl : k = 0 := (by omega); exact Int.le_refl _
  | succ m ih =>
    intro k hk
    rcases Nat.lt_or_ge k (m + 1) with h | h
    · have h1 := ih k (by omega)
      rw [zSg_s]
      split
      · show _ ≤ (zSg l s g n m).1 + 1; omega
      · exact h1
    · obtain rfl : k = m + 1 := (by omega)
      exact Int.le_refl _
theorem zSti_one {l s : Nat → Int32} {g n i r r2 : Int} (h : zSti l s g n i r) (h2 : zSti l s g n i r2) : r = r2 := by
  have key : ∀ a b : Nat, zSgA l s g n a → (zSg l s g n a).1 = i → (zSg l s g n b).1 = i → ¬ a < b := by
    intro a b ha h1 h2 hab
    have h3 := zSg_mono (l := l) (s := s) (g := g) (n := n) b (a + 1) hab
    rw [zSg_s, if_pos ha] at h3
    have h4 : (zSg l s g n a).1 + 1 ≤ (zSg l s g n b).1 := h3
    omega
  rcases h with ⟨t, a1, a2, a3, a4⟩ | ⟨a1, a2⟩ <;> rcases h2 with ⟨u, b1, b2, b3, b4⟩ | ⟨b1, b2⟩
  · have e : t = u := by
      have k1 := key t u a2 a3 b3
      have k2 := key u t b2 b3 a3
      omega
    rw [a4, b4, e]
  · exact absurd a3 (b1 t a1 a2)
  · exact absurd b3 (a1 u b1 b2)
  · rw [a2, b2]
theorem zSg_congr {l s m u : Nat → Int32} {g n : Int} (h : ∀ j : Nat, j < 40 → l j = m j) (h2 : ∀ j : Nat, j < 40 → s j = u j) : ∀ k : Nat, k ≤ 40 → zSg l s g n k = zSg m u g n k := by
  intro k
  induction k with
  | zero => intro _; rfl
  | succ k ih =>
    intro hk
    rw [zSg_s, zSg_s, ih (by omega)]
    have e := zCa_congr (g := g) h h2 (t := k) (by omega)
    by_cases c : (zSg m u g n k).2 ≤ (k : Int) ∧ zCa l s g (k : Int)
    · rw [if_pos c, if_pos ⟨c.1, e.mp c.2⟩]
    · rw [if_neg c, if_neg (fun z => c ⟨z.1, e.mpr z.2⟩)]
theorem zSti_congr {l s m u : Nat → Int32} {g n i r : Int} (h : ∀ j : Nat, j < 40 → l j = m j) (h2 : ∀ j : Nat, j < 40 → s j = u j) (hn : 0 ≤ n ∧ n ≤ 40) (h0 : zSti l s g n i r) : zSti m u g n i r := by
  have q : ∀ t : Nat, (t : Int) < n → (zSgA l s g n t ↔ zSgA m u g n t) := fun t ht => by
    unfold zSgA
    rw [zSg_congr h h2 t (by omega), zCa_congr h h2 (by omega)]
  rcases h0 with ⟨t, a1, a2, a3, a4⟩ | ⟨a1, a2⟩
  · exact Or.inl ⟨t, a1, (q t a1).mp a2, by rw [← zSg_congr h h2 t (by omega)]; exact a3, a4⟩
  · refine Or.inr ⟨fun t b1 b2 => ?_, ?_⟩
    · rw [← zSg_congr h h2 t (by omega)]; exact a1 t b1 ((q t b1).mpr b2)
    · rw [a2, zSg_congr h h2 n.toNat (by omega)]
/-- the slack that a stitch takes: what lies from 'a' on, k teeth -/
def zTk (s : Nat → Int32) (n a : Int) : Nat → Int
  | 0 => 0
  | k + 1 => zTk s n a k + (if 0 ≤ a + (k : Int) ∧ a + (k : Int) < n then (s (a + (k : Int)).toNat).toInt else 0)
theorem zTk_s {s : Nat → Int32} {n a : Int} {k : Nat} : zTk s n a (k + 1) = zTk s n a k + (if 0 ≤ a + (k : Int) ∧ a + (k : Int) < n then (s (a + (k : Int)).toNat).toInt else 0) := rfl
theorem zTk_congr {s u : Nat → Int32} {n a : Int} (hn : n ≤ 40) (h : ∀ j : Nat, j < 40 → s j = u j) : ∀ k : Nat, zTk s n a k = zTk u n a k := by
  intro k
  induction k with
  | zero => rfl
  | succ k ih =>
    rw [zTk_s, zTk_s, ih]
    by_cases c : 0 ≤ a + (k : Int) ∧ a + (k : Int) < n
    · rw [if_pos c, if_pos c, h _ (by omega)]
    · rw [if_neg c, if_neg c]

