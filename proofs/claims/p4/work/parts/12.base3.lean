/-! contents of three; a reading of two neighbours that can't both be 1 -/
def zL3 (a b c : Int32) : Nat → Int32 := fun j => if j = 0 then a else if j = 1 then b else if j = 2 then c else 0
theorem zL3_0 {a b c x : Int32} : upd (zL3 a b c) (0 : Int32).toNatClampNeg x = zL3 x b c := by
  funext j; simp only [upd, zL3, show (0 : Int32).toNatClampNeg = 0 from by decide]; split <;> simp_all
theorem zL3_1 {a b c x : Int32} : upd (zL3 a b c) (1 : Int32).toNatClampNeg x = zL3 a x c := by
  funext j; simp only [upd, zL3, show (1 : Int32).toNatClampNeg = 1 from by decide]; split <;> simp_all
theorem zL3_2 {a b c x : Int32} : upd (zL3 a b c) (2 : Int32).toNatClampNeg x = zL3 a b x := by
  funext j; simp only [upd, zL3, show (2 : Int32).toNatClampNeg = 2 from by decide]; split <;> simp_all
theorem zL3k_0 {x : Int32} : upd (fun _ => 0) (0 : Int32).toNatClampNeg x = zL3 x 0 0 := by
  funext j; simp only [upd, zL3, show (0 : Int32).toNatClampNeg = 0 from by decide]; split <;> simp_all
theorem zo_kill {g : Nat → Int32} (hg : ∀ u : Nat, ¬ (g u = 1 ∧ g (u + 1) = 1)) {t y x1 x2 : Int32} (h0 : 0 ≤ t.toInt) (hy : y.toInt = t.toInt + 1) (e1 : x1 = g t.toNatClampNeg) (e2 : x2 = g y.toNatClampNeg) (c1 : x1 = 1) (c2 : x2 = 1) : False := by
  have h1 : y.toNatClampNeg = t.toNatClampNeg + 1 := by
    have a1 : y.toNatClampNeg = y.toInt.toNat := rfl
    have a2 : t.toNatClampNeg = t.toInt.toNat := rfl
    omega
  exact hg t.toNatClampNeg ⟨by rw [← e1, c1], by rw [← h1, ← e2, c2]⟩
theorem zo_one (k : Nat) : ∀ u : Nat, ¬ (upd (fun _ => (0 : Int32)) k 1 u = 1 ∧ upd (fun _ => (0 : Int32)) k 1 (u + 1) = 1) := by
  intro u h
  obtain ⟨h1, h2⟩ := h
  simp only [upd] at h1 h2
  by_cases e1 : u = k
  · rw [if_neg (by omega)] at h2; exact absurd h2 (by decide)
  · rw [if_neg e1] at h1; exact absurd h1 (by decide)
theorem zo_back {k : Nat} : upd (upd (fun _ => (0 : Int32)) k 1) k 0 = fun _ => 0 := by
  funext j; simp only [upd]; split <;> simp_all
