/-- the runs of both worlds -/
def zMw (mr nr : Int32) (fb gt : Nat → Int32) : Prop := mr.toInt = nr.toInt ∧ ∀ j : Nat, j < 20 → (j : Int) < mr.toInt → fb j = gt j
theorem zMw_act {mr2 nr2 p m x r q cn np : Int32} {fb gt fb2 gt2 K A gk ga T gtk : Nat → Int32} {hu nh : Int32} (h : zTp K A T gk ga gtk hu nh) (hc : cn.toInt = np.toInt) (h8 : cn.toInt ≤ 8) (a : ((p.toInt < 0 ∨ cn.toInt ≤ p.toInt ∨ m.toInt < 0 ∨ 2 < m.toInt) ∧ r = 0 ∧ mr2.toInt = 0) ∨ ((0 ≤ p.toInt ∧ p.toInt < cn.toInt) ∧ (0 ≤ m.toInt ∧ m.toInt ≤ 2) ∧ r = zQa (K p.toNatClampNeg).toInt m.toInt x p (A p.toNatClampNeg) ∧ mr2.toInt = ((zBa (K p.toNatClampNeg).toInt m.toInt).length : Nat) ∧ fb2 = zTr fb 0 (zBa (K p.toNatClampNeg).toInt m.toInt))) (b : ((p.toInt < 0 ∨ np.toInt ≤ p.toInt ∨ m.toInt < 0 ∨ 2 < m.toInt) ∧ q = 0 ∧ nr2.toInt = 0) ∨ ((0 ≤ p.toInt ∧ p.toInt < np.toInt) ∧ (0 ≤ m.toInt ∧ m.toInt ≤ 2) ∧ q = zQa (gk p.toNatClampNeg).toInt m.toInt x p (ga p.toNatClampNeg) ∧ nr2.toInt = ((zBa (gk p.toNatClampNeg).toInt m.toInt).length : Nat) ∧ gt2 = zTr gt 0 (zBa (gk p.toNatClampNeg).toInt m.toInt))) : zMw mr2 nr2 fb2 gt2 ∧ r = q := by
  rcases a with ⟨a0, a1, a2⟩ | ⟨a0, a1, a2, a3, a4⟩ <;> rcases b with ⟨b0, b1, b2⟩ | ⟨b0, b1, b2, b3, b4⟩
  · exact ⟨⟨by omega, fun j _ hj => by omega⟩, by rw [a1, b1]⟩
  · omega
  · omega
  · obtain ⟨z1, z2, -⟩ := h.1 p.toNatClampNeg (by have : p.toNatClampNeg = p.toInt.toNat := rfl; omega)
    rw [z1, z2] at a2
    rw [z1] at a3 a4
    refine ⟨⟨by omega, fun j hj h2 => ?_⟩, by rw [a2, b2]⟩
    rw [a4, b4]
    unfold zTr
    rw [if_pos ⟨by omega, by omega, hj⟩, if_pos ⟨by omega, by omega, hj⟩]
theorem zMw_trace {mr nr i r q : Int32} {fb gt : Nat → Int32} (h : zMw mr nr fb gt) (x : ((0 ≤ i.toInt ∧ i.toInt < 20 ∧ i.toInt < mr.toInt) ∧ r = fb i.toNatClampNeg) ∨ (¬ (0 ≤ i.toInt ∧ i.toInt < 20 ∧ i.toInt < mr.toInt) ∧ r = -1)) (y : ((0 ≤ i.toInt ∧ i.toInt < 20 ∧ i.toInt < nr.toInt) ∧ q = gt i.toNatClampNeg) ∨ (¬ (0 ≤ i.toInt ∧ i.toInt < 20 ∧ i.toInt < nr.toInt) ∧ q = -1)) : r = q := by
  obtain ⟨h1, h2⟩ := h
  have e1 : i.toNatClampNeg = i.toInt.toNat := rfl
  rcases x with ⟨x0, x1⟩ | ⟨x0, x1⟩ <;> rcases y with ⟨y0, y1⟩ | ⟨y0, y1⟩
  · rw [x1, y1]; exact h2 _ (by omega) (by omega)
  · omega
  · omega
  · rw [x1, y1]

