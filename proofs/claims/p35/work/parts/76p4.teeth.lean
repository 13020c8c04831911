/-! the teeth: those that lack, that catch; what comes of them -/
abbrev zLkA (l : Nat → Int32) (n t : Int) : Prop := 0 ≤ t ∧ t < n ∧ (l t.toNat).toInt = 1
abbrev zOp (l : Nat → Int32) (n t : Int) : Prop := zLkA l n t ∧ zLkA l n (t + 1) ∧ zLkA l n (t + 2)
def zHd (l : Nat → Int32) (n : Int) : Prop := ∀ t : Int, 0 ≤ t → t < n → ¬ zOp l n t
abbrev zFr (l : Nat → Int32) (n t : Int) : Prop := (zLkA l n (t - 1) ∧ zLkA l n (t - 2)) ∨ (zLkA l n (t - 1) ∧ zLkA l n (t + 1)) ∨ (zLkA l n (t + 1) ∧ zLkA l n (t + 2))
abbrev zCa (l s : Nat → Int32) (g t : Int) : Prop := (l t.toNat).toInt = 0 ∧ g ≤ (s t.toNat).toInt
/-- a lacking tooth more -/
theorem zLkA_up {l : Nat → Int32} {n t u : Int} (h0 : 0 ≤ t) : zLkA (upd l t.toNat 1) n u ↔ (zLkA l n u ∨ (u = t ∧ u < n)) := by
  have h1 : (1 : Int32).toInt = 1 := by decide
  unfold zLkA
  simp only [upd]
  by_cases e : u = t
  · subst e
    rw [if_pos rfl]
    constructor
    · rintro ⟨a, b, -⟩; exact Or.inr ⟨rfl, b⟩
    · intro z
      refine ⟨h0, ?_, h1⟩
      rcases z with z | z
      · exact z.2.1
      · exact z.2
  · constructor
    · rintro ⟨a, b, c⟩
      rw [if_neg (by omega)] at c
      exact Or.inl ⟨a, b, c⟩
    · rintro (⟨a, b, c⟩ | ⟨a, -⟩)
      · exact ⟨a, b, by rw [if_neg (by omega)]; exact c⟩
      · exact absurd a e
theorem zFr_iff {l : Nat → Int32} {n t : Int} (hd : zHd l n) (h0 : 0 ≤ t) (h1 : t < n) (hl : (l t.toNat).toInt ≠ 1) : ¬ zHd (upd l t.toNat 1) n ↔ zFr l n t := by
  constructor
  · intro h
    refine Classical.byContradiction (fun h2 => h (fun u a b z => ?_))
    obtain ⟨z1, z2, z3⟩ := z
    rw [zLkA_up h0] at z1 z2 z3
    have hn : ¬ zLkA l n t := fun q => hl q.2.2
    by_cases e1 : u = t
    · subst e1
      have y2 : zLkA l n (u + 1) := by rcases z2 with z2 | z2; exact z2; omega
      have y3 : zLkA l n (u + 2) := by rcases z3 with z3 | z3; exact z3; omega
      exact h2 (Or.inr (Or.inr ⟨y2, y3⟩))
    · have y1 : zLkA l n u := by rcases z1 with z1 | z1; exact z1; omega
      by_cases e2 : u + 1 = t
      · have y3 : zLkA l n (u + 2) := by rcases z3 with z3 | z3; exact z3; omega
        exact h2 (Or.inr (Or.inl ⟨by rw [show t - 1 = u from by omega]; exact y1, by rw [show t + 1 = u + 2 from by omega]; exact y3⟩))
      · have y2 : zLkA l n (u + 1) := by rcases z2 with z2 | z2; exact z2; omega
        by_cases e3 : u + 2 = t
        · exact h2 (Or.inl ⟨by rw [show t - 1 = u + 1 from by omega]; exact y2, by rw [show t - 2 = u from by omega]; exact y1⟩)
        · have y3 : zLkA l n (u + 2) := by rcases z3 with z3 | z3; exact z3; omega
          exact hd u a b ⟨y1, y2, y3⟩
  · rintro (⟨a, b⟩ | ⟨a, b⟩ | ⟨a, b⟩) h
    · refine h (t - 2) b.1 b.2.1 ⟨(zLkA_up h0).mpr (Or.inl b), (zLkA_up h0).mpr (Or.inl ?_), (zLkA_up h0).mpr (Or.inr ?_)⟩
      · rw [show t - 2 + 1 = t - 1 from by omega]; exact a
      · omega
    · refine h (t - 1) a.1 a.2.1 ⟨(zLkA_up h0).mpr (Or.inl a), (zLkA_up h0).mpr (Or.inr ?_), (zLkA_up h0).mpr (Or.inl ?_)⟩
      · omega
      · rw [show t - 1 + 2 = t + 1 from by omega]; exact b
    · exact h t h0 h1 ⟨(zLkA_up h0).mpr (Or.inr ⟨rfl, h1⟩), (zLkA_up h0).mpr (Or.inl a), (zLkA_up h0).mpr (Or.inl b)⟩
/-- how many lack, how many are frail, how many catch -/
def zCl (l : Nat → Int32) : Nat → Int
  | 0 => 0
  | k + 1 => zCl l k + (l k).toInt
def zCf (l : Nat → Int32) (n : Int) : Nat → Int
  | 0 => 0
  | k + 1 => zCf l n k + (if (l k).toInt ≠ 1 ∧ zFr l n (k : Int) then 1 else 0)
def zCn (l s : Nat → Int32) (g : Int) : Nat → Int
  | 0 => 0
  | k + 1 => zCn l s g k + (if zCa l s g (k : Int) then 1 else 0)
theorem zCl_s {l : Nat → Int32} {k : Nat} : zCl l (k + 1) = zCl l k + (l k).toInt := rfl
theorem zCf_s {l : Nat → Int32} {n : Int} {k : Nat} : zCf l n (k + 1) = zCf l n k + (if (l k).toInt ≠ 1 ∧ zFr l n (k : Int) then 1 else 0) := rfl
theorem zCn_s {l s : Nat → Int32} {g : Int} {k : Nat} : zCn l s g (k + 1) = zCn l s g k + (if zCa l s g (k : Int) then 1 else 0) := rfl
/-- what catching() answers: the i-th, how many, or none -/
def zCat (l s : Nat → Int32) (g n i r : Int) : Prop := (∃ t : Nat, (t : Int) < n ∧ zCa l s g (t : Int) ∧ zCn l s g t = i ∧ r = (t : Int)) ∨ ((∀ t : Nat, (t : Int) < n → zCa l s g (t : Int) → zCn l s g t ≠ i) ∧ r = (if i = -1 then zCn l s g n.toNat else -1))
/-- the most that may lack besides, by how many lack just ahead: 'v' where it can't be so -/
def zSp (v : Int) (l : Nat → Int32) : Nat → Int × Int × Int
  | 0 => (0, v, v)
  | k + 1 => (if (l k).toInt = 1 then v else max (zSp v l k).1 (max (zSp v l k).2.1 (zSp v l k).2.2), (zSp v l k).1 + (1 - (l k).toInt), (zSp v l k).2.1 + (1 - (l k).toInt))
theorem zSp_s {v : Int} {l : Nat → Int32} {k : Nat} : zSp v l (k + 1) = (if (l k).toInt = 1 then v else max (zSp v l k).1 (max (zSp v l k).2.1 (zSp v l k).2.2), (zSp v l k).1 + (1 - (l k).toInt), (zSp v l k).2.1 + (1 - (l k).toInt)) := rfl
def zMx3 (a : Int × Int × Int) : Int := max a.1 (max a.2.1 a.2.2)
/-- the stitches, from the first tooth on: how many, from where on the next may be -/
def zSg (l s : Nat → Int32) (g n : Int) : Nat → Int × Int
  | 0 => (0, 0)
  | k + 1 => if (zSg l s g n k).2 ≤ (k : Int) ∧ zCa l s g (k : Int) then ((zSg l s g n k).1 + 1, min ((k : Int) + 2) (n - 1) + 3) else zSg l s g n k
theorem zSg_s {l s : Nat → Int32} {g n : Int} {k : Nat} : zSg l s g n (k + 1) = (if (zSg l s g n k).2 ≤ (k : Int) ∧ zCa l s g (k : Int) then ((zSg l s g n k).1 + 1, min ((k : Int) + 2) (n - 1) + 3) else zSg l s g n k) := rfl
abbrev zSgA (l s : Nat → Int32) (g n : Int) (k : Nat) : Prop := (zSg l s g n k).2 ≤ (k : Int) ∧ zCa l s g (k : Int)
def zSti (l s : Nat → Int32) (g n i r : Int) : Prop := (∃ t : Nat, (t : Int) < n ∧ zSgA l s g n t ∧ (zSg l s g n t).1 = i ∧ r = min ((t : Int) + 2) (n - 1)) ∨ ((∀ t : Nat, (t : Int) < n → zSgA l s g n t → (zSg l s g n t).1 ≠ i) ∧ r = (if i = -1 then (zSg l s g n n.toNat).1 else -1))
/-- the slack that a stitch takes: what lies from 'a' on, k teeth -/
def zTk (s : Nat → Int32) (n a : Int) : Nat → Int
  | 0 => 0
  | k + 1 => zTk s n a k + (if 0 ≤ a + (k : Int) ∧ a + (k : Int) < n then (s (a + (k : Int)).toNat).toInt else 0)
theorem zTk_s {s : Nat → Int32} {n a : Int} {k : Nat} : zTk s n a (k + 1) = zTk s n a k + (if 0 ≤ a + (k : Int) ∧ a + (k : Int) < n then (s (a + (k : Int)).toNat).toInt else 0) := rfl
