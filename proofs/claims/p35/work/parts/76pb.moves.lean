/-! what is pulled, freed, rested: what comes of it, and the bodies that ran -/
def zQp (k : Int) (x p a : Int32) : Int32 := if k = 6 then ((x + p) - p) * 2 else if k = 4 then (x + p) - p else if k = 1 ∨ k = 3 then (x + p) + a else x + p
def zQf (k : Int) (x p a : Int32) : Int32 := if k = 2 ∨ k = 5 then zQp k x p a * 2 * 3 else if k = 6 then zQp k (x - a) p a * 2 else if k = 3 then zQp k (x + 1) p a * 2 else zQp k x p a * 2
def zQr (k : Int) (x p a : Int32) : Int32 := if k = 4 ∨ k = 6 then -(zQf k x p a ^^^ zQp k (x - a) p a) else if k = 5 then (zQf k x p a ^^^ zQp k (x - a) p a) ^^^ 5 else zQf k x p a ^^^ zQp k (x - a) p a
def zQa (k m : Int) (x p a : Int32) : Int32 := if m = 0 then zQp k x p a else if m = 1 then zQf k x p a else zQr k x p a
def zBp (k : Int) : List Int32 := if k = 6 then [70, 51, 10] else if k = 4 then [51, 10] else if k = 1 ∨ k = 3 then [20, 10] else [10]
def zBf (k : Int) : List Int32 := if k = 6 then [71, 11] ++ zBp k else if k = 3 then [40, 11] ++ zBp k else if k = 2 ∨ k = 5 then [30, 11] ++ zBp k else [11] ++ zBp k
def zBr (k : Int) : List Int32 := if k = 4 ∨ k = 6 then [50, 12] ++ zBf k ++ zBp k else if k = 5 then [60, 12] ++ zBf k ++ zBp k else [12] ++ zBf k ++ zBp k
def zBa (k m : Int) : List Int32 := if m = 0 then zBp k else if m = 1 then zBf k else zBr k
def zTr (f : Nat → Int32) (r : Int) (l : List Int32) : Nat → Int32 := fun j => if r ≤ (j : Int) ∧ (j : Int) < r + (l.length : Int) ∧ j < 20 then (l[((j : Int) - r).toNat]?).getD 0 else f j
theorem zTr_app {f : Nat → Int32} {r s : Int} {l1 l2 : List Int32} (hs : s = r + (l1.length : Int)) : zTr (zTr f r l1) s l2 = zTr f r (l1 ++ l2) := by
  subst hs
  funext j
  unfold zTr
  rw [show (((l1 ++ l2).length : Nat) : Int) = (l1.length : Int) + (l2.length : Int) from by rw [List.length_append]; omega]
  by_cases c : (j : Int) < r + (l1.length : Int)
  · rw [if_neg (fun z => by omega)]
    by_cases d : r ≤ (j : Int) ∧ j < 20
    · rw [if_pos ⟨d.1, c, d.2⟩, if_pos ⟨d.1, by omega, d.2⟩, List.getElem?_append_left (by omega)]
    · rw [if_neg (fun z => d ⟨z.1, z.2.2⟩), if_neg (fun z => d ⟨z.1, z.2.2⟩)]
  · by_cases d : (j : Int) < r + (l1.length : Int) + (l2.length : Int) ∧ j < 20
    · rw [if_pos ⟨by omega, d.1, d.2⟩, if_pos ⟨by omega, by omega, d.2⟩, List.getElem?_append_right (by omega)]
      congr 2
      omega
    · rw [if_neg (fun z => d ⟨z.2.1, z.2.2⟩), if_neg (fun z => c z.2.1), if_neg (fun z => d ⟨by omega, z.2.2⟩)]
theorem zTr_y {f : Nat → Int32} {r b : Int32} (h0 : 0 ≤ r.toInt) (h : r.toInt < 20) : upd f r.toNatClampNeg b = zTr f r.toInt [b] := by
  funext j
  have e1 : r.toNatClampNeg = r.toInt.toNat := rfl
  have e2 : (([b] : List Int32).length : Int) = 1 := rfl
  unfold zTr
  rw [e2]
  simp only [upd]
  by_cases c : j = r.toNatClampNeg
  · rw [if_pos c, if_pos ⟨by omega, by omega, by omega⟩, show ((j : Int) - r.toInt).toNat = 0 from by omega]
    rfl
  · rw [if_neg c, if_neg (fun z => c (by omega))]
theorem zTr_n {f : Nat → Int32} {r b : Int32} (h : ¬ r.toInt < 20) : f = zTr f r.toInt [b] := by
  funext j
  unfold zTr
  rw [if_neg (fun z => by omega)]
/-- the runs of both worlds -/
def zMw (mr nr : Int32) (fb gt : Nat → Int32) : Prop := mr.toInt = nr.toInt ∧ ∀ j : Nat, j < 20 → (j : Int) < mr.toInt → fb j = gt j
theorem zMw_act {mr nr mr2 nr2 p m x r q cn np : Int32} {fb gt fb2 gt2 K A gk ga T gtk : Nat → Int32} {hu nh : Int32} (h : zTp K A T gk ga gtk hu nh) (hc : cn.toInt = np.toInt) (h8 : cn.toInt ≤ 8)
    (a : ((p.toInt < 0 ∨ cn.toInt ≤ p.toInt ∨ m.toInt < 0 ∨ 2 < m.toInt) ∧ r = 0 ∧ mr2.toInt = 0) ∨ ((0 ≤ p.toInt ∧ p.toInt < cn.toInt) ∧ (0 ≤ m.toInt ∧ m.toInt ≤ 2) ∧ r = zQa (K p.toNatClampNeg).toInt m.toInt x p (A p.toNatClampNeg) ∧ mr2.toInt = ((zBa (K p.toNatClampNeg).toInt m.toInt).length : Nat) ∧ fb2 = zTr fb 0 (zBa (K p.toNatClampNeg).toInt m.toInt)))
    (b : ((p.toInt < 0 ∨ np.toInt ≤ p.toInt ∨ m.toInt < 0 ∨ 2 < m.toInt) ∧ q = 0 ∧ nr2.toInt = 0) ∨ ((0 ≤ p.toInt ∧ p.toInt < np.toInt) ∧ (0 ≤ m.toInt ∧ m.toInt ≤ 2) ∧ q = zQa (gk p.toNatClampNeg).toInt m.toInt x p (ga p.toNatClampNeg) ∧ nr2.toInt = ((zBa (gk p.toNatClampNeg).toInt m.toInt).length : Nat) ∧ gt2 = zTr gt 0 (zBa (gk p.toNatClampNeg).toInt m.toInt))) : zMw mr2 nr2 fb2 gt2 ∧ r = q := by
  rcases a with ⟨a0, a1, a2⟩ | ⟨a0, a1, a2, a3, a4⟩ <;> rcases b with ⟨b0, b1, b2⟩ | ⟨b0, b1, b2, b3, b4⟩
  · exact ⟨⟨by omega, fun j _ hj => by omega⟩, by rw [a1, b1]⟩
  · omega
  · omega
  · obtain ⟨z1, z2, -⟩ := h.1 p.toNatClampNeg (by have : p.toNatClampNeg = p.toInt.toNat := rfl; omega)
    rw [z1, z2] at a2
    rw [z1] at a3 a4
    refine ⟨⟨by omega, fun j hj h2 => ?_⟩, by rw [a2, b2]⟩
    rw [a4, b4]
    unfold zTr
    rw [if_pos ⟨by omega, by omega, hj⟩, if_pos ⟨by omega, by omega, hj⟩]
theorem zMw_trace {mr nr i r q : Int32} {fb gt : Nat → Int32} (h : zMw mr nr fb gt) (x : ((0 ≤ i.toInt ∧ i.toInt < 20 ∧ i.toInt < mr.toInt) ∧ r = fb i.toNatClampNeg) ∨ (¬ (0 ≤ i.toInt ∧ i.toInt < 20 ∧ i.toInt < mr.toInt) ∧ r = -1)) (y : ((0 ≤ i.toInt ∧ i.toInt < 20 ∧ i.toInt < nr.toInt) ∧ q = gt i.toNatClampNeg) ∨ (¬ (0 ≤ i.toInt ∧ i.toInt < 20 ∧ i.toInt < nr.toInt) ∧ q = -1)) : r = q := by
  obtain ⟨h1, h2⟩ := h
  have e1 : i.toNatClampNeg = i.toInt.toNat := rfl
  rcases x with ⟨x0, x1⟩ | ⟨x0, x1⟩ <;> rcases y with ⟨y0, y1⟩ | ⟨y0, y1⟩
  · rw [x1, y1]; exact h2 _ (by omega) (by omega)
  · omega
  · omega
  · rw [x1, y1]

