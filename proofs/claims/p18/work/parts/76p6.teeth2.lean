/-! more of the teeth -/
theorem zSp_bd {v : Int} {l : Nat → Int32} (hl : ∀ j : Nat, 0 ≤ (l j).toInt ∧ (l j).toInt ≤ 1) (hv : v ≤ 0) : ∀ k : Nat, (v ≤ (zSp v l k).1 ∧ (zSp v l k).1 ≤ (k : Int)) ∧ (v ≤ (zSp v l k).2.1 ∧ (zSp v l k).2.1 ≤ (k : Int)) ∧ v ≤ (zSp v l k).2.2 ∧ (zSp v l k).2.2 ≤ (k : Int) := by
  intro k
  induction k with
  | zero => exact ⟨⟨hv, Int.le_refl _⟩, ⟨Int.le_refl _, hv⟩, Int.le_refl _, hv⟩
  | succ k ih =>
    have h4 := hl k
    rw [zSp_s]
    dsimp only
    refine ⟨?_, by omega, by omega⟩
    split <;> omega
theorem zSg_hold {l s : Nat → Int32} {g n : Int} {a : Nat} : ∀ d : Nat, (∀ k : Nat, a ≤ k → k < a + d → ((k : Nat) : Int) < (zSg l s g n a).2) → zSg l s g n (a + d) = zSg l s g n a := by
  intro d
  induction d with
  | zero => intro _; rfl
  | succ d ih =>
    intro h
    have h1 := ih (fun k h1 h2 => h k h1 (by omega))
    rw [show a + (d + 1) = (a + d) + 1 from by omega, zSg_s, h1, if_neg (fun z => by have h2 := h (a + d) (by omega) (by omega); have z1 := z.1; omega)]
/-- behind a stitch: nothing for four teeth -/
theorem zSg_hop {l s : Nat → Int32} {g n : Int} {t : Nat} (ha : zSgA l s g n t) (hn : (t : Int) < n) : zSg l s g n (min ((t : Int) + 5) n).toNat = ((zSg l s g n t).1 + 1, min ((t : Int) + 2) (n - 1) + 3) ∧ ∀ u : Nat, t < u → (u : Int) < min ((t : Int) + 5) n → ¬ zSgA l s g n u := by
  have h1 : zSg l s g n (t + 1) = ((zSg l s g n t).1 + 1, min ((t : Int) + 2) (n - 1) + 3) := by rw [zSg_s, if_pos ha]
  have h2 : ∀ d : Nat, ((t + 1 + d : Nat) : Int) ≤ min ((t : Int) + 5) n → zSg l s g n (t + 1 + d) = zSg l s g n (t + 1) := fun d hd => zSg_hold d (fun k k1 k2 => by rw [h1]; dsimp only; omega)
  refine ⟨?_, fun u u1 u2 z => ?_⟩
  · have e : (min ((t : Int) + 5) n).toNat = t + 1 + ((min ((t : Int) + 5) n).toNat - (t + 1)) := by omega
    rw [e, h2 _ (by omega), h1]
  · have e : u = t + 1 + (u - (t + 1)) := by omega
    have z1 := z.1
    rw [e, h2 _ (by omega), h1] at z1
    dsimp only at z1
    omega
/-- what is asked for of an i below -1 -/
theorem zCat_low {l s : Nat → Int32} {g n i q : Int} (h : zCat l s g n i q) (hi : i < -1) : q = -1 := by
  rcases h with ⟨t, -, -, h3, -⟩ | ⟨-, h2⟩
  · have := (zCn_rg (l := l) (s := s) (g := g) t).1
    omega
  · rw [h2, if_neg (by omega)]
theorem zSg_nn {l s : Nat → Int32} {g n : Int} : ∀ k : Nat, 0 ≤ (zSg l s g n k).1 := by
  intro k
  induction k with
  | zero => exact Int.le_refl _
  | succ k ih =>
    rw [zSg_s]
    split
    · show 0 ≤ (zSg l s g n k).1 + 1; omega
    · exact ih
theorem zSti_low {l s : Nat → Int32} {g n i q : Int} (h : zSti l s g n i q) (hi : i < -1) : q = -1 := by
  rcases h with ⟨t, -, -, h3, -⟩ | ⟨-, h2⟩
  · have := zSg_nn (l := l) (s := s) (g := g) (n := n) t
    omega
  · rw [h2, if_neg (by omega)]

