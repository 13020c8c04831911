/-! what is pulled, freed, rested: what comes of it, and the bodies that ran -/
def zQp (k : Int) (x p a : Int32) : Int32 := if k = 6 then ((x + p) - p) * 2 else if k = 4 then (x + p) - p else if k = 1 ∨ k = 3 then (x + p) + a else x + p
def zQf (k : Int) (x p a : Int32) : Int32 := if k = 2 ∨ k = 5 then zQp k x p a * 2 * 3 else if k = 6 then zQp k (x - a) p a * 2 else if k = 3 then zQp k (x + 1) p a * 2 else zQp k x p a * 2
def zQr (k : Int) (x p a : Int32) : Int32 := if k = 4 ∨ k = 6 then -(zQf k x p a ^^^ zQp k (x - a) p a) else if k = 5 then (zQf k x p a ^^^ zQp k (x - a) p a) ^^^ 5 else zQf k x p a ^^^ zQp k (x - a) p a
def zQa (k m : Int) (x p a : Int32) : Int32 := if m = 0 then zQp k x p a else if m = 1 then zQf k x p a else zQr k x p a
def zBp (k : Int) : List Int32 := if k = 6 then [70, 51, 10] else if k = 4 then [51, 10] else if k = 1 ∨ k = 3 then [20, 10] else [10]
def zBf (k : Int) : List Int32 := if k = 6 then [71, 11] ++ zBp k else if k = 3 then [40, 11] ++ zBp k else if k = 2 ∨ k = 5 then [30, 11] ++ zBp k else [11] ++ zBp k
def zBr (k : Int) : List Int32 := if k = 4 ∨ k = 6 then [50, 12] ++ zBf k ++ zBp k else if k = 5 then [60, 12] ++ zBf k ++ zBp k else [12] ++ zBf k ++ zBp k
def zBa (k m : Int) : List Int32 := if m = 0 then zBp k else if m = 1 then zBf k else zBr k
def zTr (f : Nat → Int32) (r : Int) (l : List Int32) : Nat → Int32 := fun j => if r ≤ (j : Int) ∧ (j : Int) < r + (l.length : Int) ∧ j < 20 then (l[((j : Int) - r).toNat]?).getD 0 else f j
theorem zTr_app {f : Nat → Int32} {r s : Int} {l1 l2 : List Int32} (hs : s = r + (l1.length : Int)) : zTr (zTr f r l1) s l2 = zTr f r (l1 ++ l2) := by
  subst hs
  funext j
  unfold zTr
  rw [show (((l1 ++ l2).length : Nat) : Int) = (l1.length : Int) + (l2.length : Int) from by rw [List.length_append]; omega]
  by_cases c : (j : Int) < r + (l1.length : Int)
  · rw [if_neg (fun z => by omega)]
    by_cases d : r ≤ (j : Int) ∧ j < 20
    · rw [if_pos ⟨d.1, c, d.2⟩, if_pos ⟨d.1, by omega, d.2⟩, List.getElem?_append_left (by omega)]
    · rw [if_neg (fun z => d ⟨z.1, z.2.2⟩), if_neg (fun z => d ⟨z.1, z.2.2⟩)]
  · by_cases d : (j : Int) < r + (l1.length : Int) + (l2.length : Int) ∧ j < 20
    · rw [if_pos ⟨by omega, d.1, d.2⟩, if_pos ⟨by omega, by omega, d.2⟩, List.getElem?_append_right (by omega)]
      congr 2
      omega
    · rw [if_neg (fun z => d ⟨z.2.1, z.2.2⟩), if_neg (fun z => c z.2.1), if_neg (fun z => d ⟨by omega, z.2.2⟩)]
theorem zTr_y {f : Nat → Int32} {r b : Int32} (h0 : 0 ≤ r.toInt) (h : r.toInt < 20) : upd f r.toNatClampNeg b = zTr f r.toInt [b] := by
  funext j
  have e1 : r.toNatClampNeg = r.toInt.toNat := rfl
  have e2 : (([b] : List Int32).length : Int) = 1 := rfl
  unfold zTr
  rw [e2]
  simp only [upd]
  by_cases c : j = r.toNatClampNeg
  · rw [if_pos c, if_pos ⟨by omega, by omega, by omega⟩, show ((j : Int) - r.toInt).toNat = 0 from by omega]
    rfl
  · rw [if_neg c, if_neg (fun z => c (by omega))]
theorem zTr_n {f : Nat → Int32} {r b : Int32} (h : ¬ r.toInt < 20) : f = zTr f r.toInt [b] := by
  funext j
  unfold zTr
  rw [if_neg (fun z => by omega)]
