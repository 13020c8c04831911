theorem zf_div {a b : Int32} {x y : Int} (ha : a.toInt = x) (hb : b.toInt = y) (h0 : 0 ≤ x) (h1 : 0 < y) : (a / b).toInt = x / y := by
  have h2 := (zf_rng a).2
  have h3 : x / y ≤ x := Int.ediv_le_self _ h0
  have h4 : 0 ≤ x / y := Int.ediv_nonneg h0 (by omega)
  rw [Int32.toInt_div, ha, hb, Int.tdiv_eq_ediv_of_nonneg h0]
  exact Int.bmod_eq_of_le (by omega) (by omega)
theorem zf_max {x y z : Int32} (h : z = if x < y then y else x) {x1 y1 : Int} (hx : x.toInt = x1) (hy : y.toInt = y1) : x1 ≤ z.toInt ∧ y1 ≤ z.toInt ∧ (z.toInt = x1 ∨ z.toInt = y1) := by
  subst hx; subst hy
  by_cases c : x < y
  · rw [if_pos c] at h; subst h; have := zf_lt c rfl rfl; omega
  · rw [if_neg c] at h; subst h; have := zf_nlt c rfl rfl; omega
theorem zf_min {x y z : Int32} (h : z = if y < x then y else x) {x1 y1 : Int} (hx : x.toInt = x1) (hy : y.toInt = y1) : z.toInt ≤ x1 ∧ z.toInt ≤ y1 ∧ (z.toInt = x1 ∨ z.toInt = y1) := by
  subst hx; subst hy
  by_cases c : y < x
  · rw [if_pos c] at h; subst h; have := zf_lt c rfl rfl; omega
  · rw [if_neg c] at h; subst h; have := zf_nlt c rfl rfl; omega
theorem zABV_rg (j : Nat) : -1 ≤ (zABV j).toInt ∧ (zABV j).toInt ≤ 4 := by
  unfold zABV
  repeat' split
  all_goals decide
