section
/-! a text of letters: how many letters of a word stand at a place, the words, the numbers, an item, the items -/
def zLc (f : Nat → Int32) (e : Int) : Int → List Int32 → Nat
  | _, [] => 0
  | p, c :: l => if p < e ∧ f p.toNat = c then zLc f e (p + 1) l + 1 else 0
theorem zLc_c {f : Nat → Int32} {e p : Int} {c : Int32} {l : List Int32} : zLc f e p (c :: l) = (if p < e ∧ f p.toNat = c then zLc f e (p + 1) l + 1 else 0) := rfl
theorem zLc_le {f : Nat → Int32} {e : Int} : ∀ (l : List Int32) (p : Int), zLc f e p l ≤ l.length := by
  intro l
  induction l with
  | nil => intro p; exact Nat.le_refl _
  | cons c l ih =>
    intro p
    rw [zLc_c]
    split
    · have := ih (p + 1)
      simp only [List.length_cons]
      omega
    · simp only [List.length_cons]; omega
theorem zLc_eq {f : Nat → Int32} {e : Int} : ∀ (l : List Int32) (p : Int) (n : Nat), n ≤ l.length → (∀ j : Nat, j < n → p + (j : Int) < e ∧ f (p + (j : Int)).toNat = l.getD j 0) → (n = l.length ∨ ¬ (p + (n : Int) < e ∧ f (p + (n : Int)).toNat = l.getD n 0)) → zLc f e p l = n := by
  intro l
  induction l with
  | nil =>
    intro p n hn _ _
    have h0 : n = 0 := by simpa using hn
    rw [h0]
    rfl
  | cons c l ih =>
    intro p n hn hj hx
    rw [zLc_c]
    by_cases h : p < e ∧ f p.toNat = c
    · rw [if_pos h]
      match n, hn, hj, hx with
      | 0, _, _, hx =>
        exfalso
        rcases hx with hx | hx
        · simp at hx
        · exact hx (by simpa using h)
      | n + 1, hn, hj, hx =>
        have e1 : ∀ j : Nat, p + 1 + (j : Int) = p + ((j + 1 : Nat) : Int) := fun j => by omega
        have h9 := ih (p + 1) n (by simpa using hn) (fun j h3 => by
          have h4 := hj (j + 1) (by omega)
          rw [e1 j]
          exact ⟨h4.1, by rw [h4.2]; rfl⟩) (by
          rcases hx with hx | hx
          · exact Or.inl (by simpa using hx)
          · refine Or.inr (fun h5 => hx ?_)
            rw [e1 n] at h5
            exact ⟨h5.1, by rw [h5.2]; rfl⟩)
        rw [h9]
    · rw [if_neg h]
      match n, hj with
      | 0, _ => rfl
      | n + 1, hj =>
        exfalso
        have h4 := hj 0 (by omega)
        exact h (by simpa using h4)
theorem zLc_pre {f : Nat → Int32} {e : Int} : ∀ (l : List Int32) (p : Int) (j : Nat), j < zLc f e p l → p + (j : Int) < e ∧ f (p + (j : Int)).toNat = l.getD j 0 := by
  intro l
  induction l with
  | nil => intro p j h; exact absurd h (Nat.not_lt_zero j)
  | cons c l ih =>
    intro p j h
    rw [zLc_c] at h
    by_cases h1 : p < e ∧ f p.toNat = c
    · rw [if_pos h1] at h
      match j, h with
      | 0, _ => simpa using h1
      | j + 1, h =>
        have h4 := ih (p + 1) j (by omega)
        have e1 : p + ((j + 1 : Nat) : Int) = p + 1 + (j : Int) := by omega
        rw [e1]
        exact ⟨h4.1, by rw [h4.2]; rfl⟩
    · rw [if_neg h1] at h; exact absurd h (Nat.not_lt_zero j)
theorem zLc_congr {f g : Nat → Int32} {e : Int} (h : ∀ j : Int, 0 ≤ j → j < e → f j.toNat = g j.toNat) : ∀ (l : List Int32) (p : Int), 0 ≤ p → zLc f e p l = zLc g e p l := by
  intro l
  induction l with
  | nil => intro p _; rfl
  | cons c l ih =>
    intro p hp
    rw [zLc_c, zLc_c]
    by_cases h1 : p < e
    · rw [h p hp h1, ih (p + 1) (by omega)]
    · rw [if_neg (show ¬ (p < e ∧ f p.toNat = c) from fun z => h1 z.1), if_neg (show ¬ (p < e ∧ g p.toNat = c) from fun z => h1 z.1)]
/-- the first of n words that stands whole at p; the most letters of one that stand there -/
def zFst (f : Nat → Int32) (e p : Int) (ls : Nat → List Int32) : Nat → Int
  | 0 => -1
  | n + 1 => if zFst f e p ls n = -1 then (if zLc f e p (ls n) = (ls n).length then (n : Int) else -1) else zFst f e p ls n
def zMx (f : Nat → Int32) (e p : Int) (ls : Nat → List Int32) : Nat → Nat
  | 0 => 0
  | n + 1 => if zMx f e p ls n < zLc f e p (ls n) then zLc f e p (ls n) else zMx f e p ls n
theorem zFst_s {f : Nat → Int32} {e p : Int} {ls : Nat → List Int32} {n : Nat} : zFst f e p ls (n + 1) = (if zFst f e p ls n = -1 then (if zLc f e p (ls n) = (ls n).length then (n : Int) else -1) else zFst f e p ls n) := rfl
theorem zMx_s {f : Nat → Int32} {e p : Int} {ls : Nat → List Int32} {n : Nat} : zMx f e p ls (n + 1) = (if zMx f e p ls n < zLc f e p (ls n) then zLc f e p (ls n) else zMx f e p ls n) := rfl
theorem zFst_spec {f : Nat → Int32} {e p : Int} {ls : Nat → List Int32} : ∀ n : Nat, (zFst f e p ls n = -1 ∧ ∀ k : Nat, k < n → zLc f e p (ls k) ≠ (ls k).length) ∨ ∃ k : Nat, k < n ∧ zFst f e p ls n = (k : Int) ∧ zLc f e p (ls k) = (ls k).length ∧ ∀ j : Nat, j < k → zLc f e p (ls j) ≠ (ls j).length := by
  intro n
  induction n with
  | zero => exact Or.inl ⟨rfl, fun k h => absurd h (Nat.not_lt_zero k)⟩
  | succ n ih =>
    rcases ih with ⟨h1, h2⟩ | ⟨k, h1, h2, h3, h4⟩
    · rw [zFst_s]
      rw [if_pos h1]
      by_cases h3 : zLc f e p (ls n) = (ls n).length
      · rw [if_pos h3]
        exact Or.inr ⟨n, by omega, rfl, h3, h2⟩
      · rw [if_neg h3]
        refine Or.inl ⟨rfl, fun k hk => ?_⟩
        rcases Nat.lt_or_ge k n with h5 | h5
        · exact h2 k h5
        · obtain rfl : k = n := by omega
          exact h3
    · rw [zFst_s]
      rw [if_neg (by omega)]
      exact Or.inr ⟨k, by omega, h2, h3, h4⟩
theorem zMx_spec {f : Nat → Int32} {e p : Int} {ls : Nat → List Int32} : ∀ n : Nat, (∀ k : Nat, k < n → zLc f e p (ls k) ≤ zMx f e p ls n) ∧ (zMx f e p ls n = 0 ∨ ∃ k : Nat, k < n ∧ zMx f e p ls n = zLc f e p (ls k)) := by
  intro n
  induction n with
  | zero => exact ⟨fun k h => absurd h (Nat.not_lt_zero k), Or.inl rfl⟩
  | succ n ih =>
    obtain ⟨h1, h2⟩ := ih
    rw [zMx_s]
    split
    · rename_i h3
      refine ⟨fun k hk => ?_, Or.inr ⟨n, by omega, rfl⟩⟩
      rcases Nat.lt_or_ge k n with h5 | h5
      · have := h1 k h5
        omega
      · obtain rfl : k = n := by omega
        exact Nat.le_refl _
    · rename_i h3
      refine ⟨fun k hk => ?_, ?_⟩
      · rcases Nat.lt_or_ge k n with h5 | h5
        · exact h1 k h5
        · obtain rfl : k = n := by omega
          omega
      · rcases h2 with h2 | ⟨k, h4, h5⟩
        · exact Or.inl h2
        · exact Or.inr ⟨k, by omega, h5⟩
theorem zFst_congr {f g : Nat → Int32} {e p : Int} {ls : Nat → List Int32} (h : ∀ j : Int, 0 ≤ j → j < e → f j.toNat = g j.toNat) (hp : 0 ≤ p) : ∀ n : Nat, zFst f e p ls n = zFst g e p ls n := by
  intro n
  induction n with
  | zero => rfl
  | succ n ih => rw [zFst_s, zFst_s, ih, zLc_congr h _ p hp]
theorem zMx_congr {f g : Nat → Int32} {e p : Int} {ls : Nat → List Int32} (h : ∀ j : Int, 0 ≤ j → j < e → f j.toNat = g j.toNat) (hp : 0 ≤ p) : ∀ n : Nat, zMx f e p ls n = zMx g e p ls n := by
  intro n
  induction n with
  | zero => rfl
  | succ n ih => rw [zMx_s, zMx_s, ih, zLc_congr h _ p hp]
/-- the ten words; the ten words with a blank behind them -/
def zWds (w : Nat) : List Int32 := zByt.getD w []
def zBls (w : Nat) : List Int32 := zWds w ++ [32]
theorem zWds_len : ∀ w : Nat, w < 10 → (zWds w).length = zLen.getD w 0 ∧ 2 ≤ (zWds w).length ∧ (zWds w).length ≤ 7 := by decide
theorem zWds_ne : ∀ v : Nat, v < 10 → ∀ w : Nat, w < 10 → v ≠ w → (zWds v).getD 0 0 ≠ (zWds w).getD 0 0 ∨ (zWds v).getD 1 0 ≠ (zWds w).getD 1 0 := by decide
theorem zBls_ge : ∀ w : Nat, w < 10 → ∀ j : Nat, j < 7 → j < (zWds w).length → (zBls w).getD j 0 = (zWds w).getD j 0 := by decide
theorem zBls_at : ∀ w : Nat, w < 10 → (zBls w).getD (zWds w).length 0 = 32 := by decide
theorem zBls_len (w : Nat) : (zBls w).length = (zWds w).length + 1 := by unfold zBls; simp
theorem zLc_max {f : Nat → Int32} {e : Int} : ∀ (l : List Int32) (p : Int) (n : Nat), n ≤ l.length → (∀ j : Nat, j < n → p + (j : Int) < e ∧ f (p + (j : Int)).toNat = l.getD j 0) → n ≤ zLc f e p l := by
  intro l
  induction l with
  | nil =>
    intro p n hn _
    have h0 : n = 0 := by simpa using hn
    rw [h0]
    exact Nat.zero_le _
  | cons c l ih =>
    intro p n hn hj
    match n, hn, hj with
    | 0, _, _ => exact Nat.zero_le _
    | n + 1, hn, hj =>
      have h0 := hj 0 (by omega)
      have h1 : p < e ∧ f p.toNat = c := by simpa using h0
      rw [zLc_c]
      rw [if_pos h1]
      have h2 := ih (p + 1) n (by simpa using hn) (fun j h3 => by
        have h4 := hj (j + 1) (by omega)
        have e1 : p + ((j + 1 : Nat) : Int) = p + 1 + (j : Int) := by omega
        rw [e1] at h4
        exact ⟨h4.1, by rw [h4.2]; rfl⟩)
      omega
theorem zLc_end {f : Nat → Int32} {e : Int} {l : List Int32} {p : Int} (h : zLc f e p l < l.length) : ¬ (p + (zLc f e p l : Int) < e ∧ f (p + (zLc f e p l : Int)).toNat = l.getD (zLc f e p l) 0) := fun h1 => by
  have h2 := zLc_max l p (zLc f e p l + 1) (by omega) (fun j hj => by
    rcases Nat.lt_or_ge j (zLc f e p l) with h3 | h3
    · exact zLc_pre l p j h3
    · obtain rfl : j = zLc f e p l := by omega
      exact h1)
  omega
/-- with the blank: as many letters, or one more, if all the word's stand and a blank behind them -/
theorem zLc_bls {f : Nat → Int32} {e p : Int} {w : Nat} (hw : w < 10) : (zLc f e p (zWds w) < (zWds w).length ∧ zLc f e p (zBls w) = zLc f e p (zWds w)) ∨ (zLc f e p (zWds w) = (zWds w).length ∧ zLc f e p (zBls w) = (zWds w).length + (if p + ((zWds w).length : Int) < e ∧ f (p + ((zWds w).length : Int)).toNat = 32 then 1 else 0)) := by
  have hl := zWds_len w hw
  have h1 := zLc_le (f := f) (e := e) (zWds w) p
  have h3 := zBls_len w
  have hp := zLc_pre (f := f) (e := e) (zWds w) p
  rcases Nat.lt_or_ge (zLc f e p (zWds w)) (zWds w).length with h2 | h2
  · refine Or.inl ⟨h2, zLc_eq _ _ _ (by omega) (fun j hj => ?_) (Or.inr (fun h5 => ?_))⟩
    · rw [zBls_ge w hw j (by omega) (by omega)]; exact hp j hj
    · rw [zBls_ge w hw _ (by omega) h2] at h5
      exact zLc_end h2 h5
  · have h4 : zLc f e p (zWds w) = (zWds w).length := by omega
    refine Or.inr ⟨h4, ?_⟩
    by_cases h5 : p + ((zWds w).length : Int) < e ∧ f (p + ((zWds w).length : Int)).toNat = 32
    · rw [if_pos h5]
      refine zLc_eq _ _ _ (by omega) (fun j hj => ?_) (Or.inl h3.symm)
      rcases Nat.lt_or_ge j (zWds w).length with h6 | h6
      · rw [zBls_ge w hw j (by omega) h6]; exact hp j (by omega)
      · obtain rfl : j = (zWds w).length := by omega
        rw [zBls_at w hw]; exact h5
    · rw [if_neg h5]
      refine zLc_eq _ _ _ (by omega) (fun j hj => ?_) (Or.inr (fun h6 => ?_))
      · rw [zBls_ge w hw j (by omega) (by omega)]; exact hp j (by omega)
      · rw [show (zWds w).length + 0 = (zWds w).length from rfl, zBls_at w hw] at h6
        exact h5 h6
/-- where one word stands whole, at most a letter of any other one does -/
theorem zLc_one {f : Nat → Int32} {e p : Int} {v w : Nat} (hv : v < 10) (hw : w < 10) (hne : v ≠ w) (h : zLc f e p (zWds w) = (zWds w).length) : zLc f e p (zWds v) ≤ 1 := by
  rcases Nat.lt_or_ge 1 (zLc f e p (zWds v)) with h1 | h1
  · exfalso
    have hl := zWds_len w hw
    have a0 := zLc_pre (f := f) (e := e) (zWds v) p 0 (by omega)
    have a1 := zLc_pre (f := f) (e := e) (zWds v) p 1 (by omega)
    have b0 := zLc_pre (f := f) (e := e) (zWds w) p 0 (by omega)
    have b1 := zLc_pre (f := f) (e := e) (zWds w) p 1 (by omega)
    rcases zWds_ne v hv w hw hne with h2 | h2
    · exact h2 (a0.2.symm.trans b0.2)
    · exact h2 (a1.2.symm.trans b1.2)
  · exact h1
/-- the reference's words have their blank with them: what comes of it, by the words alone -/
theorem zFst_bls {f : Nat → Int32} {e p : Int} : (zFst f e p zBls 10 = -1 ∧ ((zFst f e p zWds 10 = -1 ∧ zMx f e p zBls 10 = zMx f e p zWds 10) ∨ ∃ w : Nat, w < 10 ∧ zFst f e p zWds 10 = (w : Int) ∧ ¬ (p + ((zWds w).length : Int) < e ∧ f (p + ((zWds w).length : Int)).toNat = 32) ∧ zMx f e p zBls 10 = (zWds w).length)) ∨ ∃ w : Nat, w < 10 ∧ zFst f e p zWds 10 = (w : Int) ∧ zFst f e p zBls 10 = (w : Int) ∧ p + ((zWds w).length : Int) < e ∧ f (p + ((zWds w).length : Int)).toNat = 32 := by
  have m1 := zMx_spec (f := f) (e := e) (p := p) (ls := zBls) 10
  have m2 := zMx_spec (f := f) (e := e) (p := p) (ls := zWds) 10
  rcases zFst_spec (f := f) (e := e) (p := p) (ls := zWds) 10 with ⟨h1, h2⟩ | ⟨w, hw, h1, h2, h3⟩
  · have hs : ∀ k : Nat, k < 10 → zLc f e p (zBls k) = zLc f e p (zWds k) := fun k hk => by
      rcases zLc_bls (f := f) (e := e) (p := p) hk with h4 | h4
      · exact h4.2
      · exact absurd h4.1 (h2 k hk)
    have h5 : zFst f e p zBls 10 = -1 := by
      rcases zFst_spec (f := f) (e := e) (p := p) (ls := zBls) 10 with ⟨h4, -⟩ | ⟨k, hk, -, h6, -⟩
      · exact h4
      · rw [hs k hk, zBls_len] at h6
        have := zLc_le (f := f) (e := e) (zWds k) p
        omega
    refine Or.inl ⟨h5, Or.inl ⟨h1, ?_⟩⟩
    apply Nat.le_antisymm
    · rcases m1.2 with h6 | ⟨k, hk, h6⟩
      · omega
      · rw [h6, hs k hk]; exact m2.1 k hk
    · rcases m2.2 with h6 | ⟨k, hk, h6⟩
      · omega
      · rw [h6, ← hs k hk]; exact m1.1 k hk
  · have hl := zWds_len w hw
    have ho : ∀ k : Nat, k < 10 → k ≠ w → zLc f e p (zBls k) ≤ 1 := fun k hk hkw => by
      have h5 := zLc_one hk hw hkw h2
      have h6 := zWds_len k hk
      rcases zLc_bls (f := f) (e := e) (p := p) hk with h4 | h4
      · rw [h4.2]; exact h5
      · exact absurd h4.1 (by omega)
    rcases zLc_bls (f := f) (e := e) (p := p) hw with h4 | h4
    · exact absurd h2 (by omega)
    · by_cases h5 : p + ((zWds w).length : Int) < e ∧ f (p + ((zWds w).length : Int)).toNat = 32
      · rw [if_pos h5] at h4
        refine Or.inr ⟨w, hw, h1, ?_, h5.1, h5.2⟩
        rcases zFst_spec (f := f) (e := e) (p := p) (ls := zBls) 10 with ⟨h6, h7⟩ | ⟨k, hk, h6, h7, -⟩
        · exact absurd (h4.2.trans (zBls_len w).symm) (h7 w hw)
        · by_cases h8 : k = w
          · rw [h6, h8]
          · have h9 := ho k hk h8
            have h10 := zBls_len k
            have h11 := zWds_len k hk
            omega
      · rw [if_neg h5] at h4
        refine Or.inl ⟨?_, Or.inr ⟨w, hw, h1, h5, ?_⟩⟩
        · rcases zFst_spec (f := f) (e := e) (p := p) (ls := zBls) 10 with ⟨h6, -⟩ | ⟨k, hk, h6, h7, -⟩
          · exact h6
          · exfalso
            have h10 := zBls_len k
            have h11 := zWds_len k hk
            by_cases h8 : k = w
            · subst h8; omega
            · have h9 := ho k hk h8
              omega
        · apply Nat.le_antisymm
          · rcases m1.2 with h6 | ⟨k, hk, h6⟩
            · omega
            · by_cases h8 : k = w
              · subst h8; omega
              · have h9 := ho k hk h8
                omega
          · have := m1.1 w hw
            omega
/-- a number of at most three digits: its end, its value -/
abbrev zDg (f : Nat → Int32) (e q : Int) : Prop := q < e ∧ 48 ≤ (f q.toNat).toInt ∧ (f q.toNat).toInt ≤ 57
def zNe (f : Nat → Int32) (e p : Int) : Int := if zDg f e p then (if zDg f e (p + 1) then (if zDg f e (p + 2) then p + 3 else p + 2) else p + 1) else p
def zDv (f : Nat → Int32) (q : Int) : Int := (f q.toNat).toInt - 48
def zNv (f : Nat → Int32) (p q : Int) : Int := if q = p then 0 else if q = p + 1 then zDv f p else if q = p + 2 then 10 * zDv f p + zDv f (p + 1) else 10 * (10 * zDv f p + zDv f (p + 1)) + zDv f (p + 2)
theorem zNe_eq {f : Nat → Int32} {e p q : Int} (h1 : p ≤ q) (h2 : q ≤ p + 3) (hd : ∀ j : Int, p ≤ j → j < q → zDg f e j) (hx : q = p + 3 ∨ ¬ zDg f e q) : zNe f e p = q := by
  unfold zNe
  rcases (show q = p ∨ q = p + 1 ∨ q = p + 2 ∨ q = p + 3 by omega) with h | h | h | h
  · rw [if_neg]; exact h.symm
    rcases hx with hx | hx
    · omega
    · rw [h] at hx; exact hx
  · rw [if_pos (hd p (by omega) (by omega)), if_neg]; exact h.symm
    rcases hx with hx | hx
    · omega
    · rw [h] at hx; exact hx
  · rw [if_pos (hd p (by omega) (by omega)), if_pos (hd (p + 1) (by omega) (by omega)), if_neg]; exact h.symm
    rcases hx with hx | hx
    · omega
    · rw [h] at hx; exact hx
  · rw [if_pos (hd p (by omega) (by omega)), if_pos (hd (p + 1) (by omega) (by omega)), if_pos (hd (p + 2) (by omega) (by omega))]; exact h.symm
theorem zNe_rg {f : Nat → Int32} {e p : Int} (hp : p ≤ e) : p ≤ zNe f e p ∧ zNe f e p ≤ p + 3 ∧ zNe f e p ≤ e := by
  unfold zNe
  split
  · rename_i h1
    split
    · rename_i h2
      split
      · rename_i h3
        exact ⟨by omega, by omega, by have := h3.1; omega⟩
      · exact ⟨by omega, by omega, by have := h2.1; omega⟩
    · exact ⟨by omega, by omega, by have := h1.1; omega⟩
  · exact ⟨by omega, by omega, by omega⟩
theorem zNv_0 {f : Nat → Int32} {p : Int} : zNv f p p = 0 := if_pos rfl
theorem zNv_S {f : Nat → Int32} {p q : Int} (h1 : p ≤ q) (h2 : q < p + 3) : zNv f p (q + 1) = 10 * zNv f p q + zDv f q := by
  unfold zNv
  rcases (show q = p ∨ q = p + 1 ∨ q = p + 2 by omega) with h | h | h
  · subst h
    rw [if_neg (by omega), if_pos (by omega), if_pos rfl]; omega
  · subst h
    rw [if_neg (by omega), if_neg (by omega), if_pos (by omega), if_neg (by omega), if_pos (by omega)]
  · subst h
    rw [if_neg (by omega), if_neg (by omega), if_neg (by omega), if_neg (by omega), if_neg (by omega), if_pos (by omega)]
theorem zDg_congr {f g : Nat → Int32} {e : Int} (h : ∀ j : Int, 0 ≤ j → j < e → f j.toNat = g j.toNat) {q : Int} (hq : 0 ≤ q) : zDg f e q ↔ zDg g e q := by
  constructor
  · intro ⟨a, b⟩; exact ⟨a, by rw [← h q hq a]; exact b⟩
  · intro ⟨a, b⟩; exact ⟨a, by rw [h q hq a]; exact b⟩
theorem zNe_congr {f g : Nat → Int32} {e : Int} (h : ∀ j : Int, 0 ≤ j → j < e → f j.toNat = g j.toNat) {p : Int} (hp : 0 ≤ p) : zNe f e p = zNe g e p := by
  unfold zNe
  simp only [zDg_congr h hp, zDg_congr h (show (0 : Int) ≤ p + 1 by omega), zDg_congr h (show (0 : Int) ≤ p + 2 by omega)]
theorem zNv_congr {f g : Nat → Int32} {e : Int} (h : ∀ j : Int, 0 ≤ j → j < e → f j.toNat = g j.toNat) {p q : Int} (hp : 0 ≤ p) (h1 : p ≤ q) (h2 : q ≤ p + 3) (h3 : q ≤ e) : zNv f p q = zNv g p q := by
  have a0 : p < e → zDv f p = zDv g p := fun a => by unfold zDv; rw [h p hp a]
  have a1 : p + 1 < e → zDv f (p + 1) = zDv g (p + 1) := fun a => by unfold zDv; rw [h (p + 1) (by omega) a]
  have a2 : p + 2 < e → zDv f (p + 2) = zDv g (p + 2) := fun a => by unfold zDv; rw [h (p + 2) (by omega) a]
  unfold zNv
  rcases (show q = p ∨ q = p + 1 ∨ q = p + 2 ∨ q = p + 3 by omega) with h4 | h4 | h4 | h4
  · rw [if_pos h4, if_pos h4]
  · rw [if_neg (by omega), if_pos h4, if_neg (by omega), if_pos h4, a0 (by omega)]
  · rw [if_neg (by omega), if_neg (by omega), if_pos h4, if_neg (by omega), if_neg (by omega), if_pos h4, a0 (by omega), a1 (by omega)]
  · rw [if_neg (by omega), if_neg (by omega), if_neg (by omega), if_neg (by omega), if_neg (by omega), if_neg (by omega), a0 (by omega), a1 (by omega), a2 (by omega)]
/-- a blank and a number between two numbers: the fault or -1, the place behind it, the number -/
def zN0 (f : Nat → Int32) (e p lo hi : Int) : Int × Int × Int := (if zNe f e p = p ∨ zNv f p (zNe f e p) < lo ∨ hi < zNv f p (zNe f e p) then p else -1, zNe f e p, zNv f p (zNe f e p))
def zN1 (f : Nat → Int32) (e p lo hi : Int) : Int × Int × Int := if p < e ∧ (f p.toNat).toInt = 32 then zN0 f e (p + 1) lo hi else (p, p, 0)
theorem zN0_congr {f g : Nat → Int32} {e : Int} (h : ∀ j : Int, 0 ≤ j → j < e → f j.toNat = g j.toNat) {p lo hi : Int} (hp : 0 ≤ p) (he : p ≤ e) : zN0 f e p lo hi = zN0 g e p lo hi := by
  have r := zNe_rg (f := f) he
  unfold zN0
  rw [← zNe_congr h hp, zNv_congr h hp r.1 r.2.1 r.2.2]
theorem zN1_congr {f g : Nat → Int32} {e : Int} (h : ∀ j : Int, 0 ≤ j → j < e → f j.toNat = g j.toNat) {p lo hi : Int} (hp : 0 ≤ p) : zN1 f e p lo hi = zN1 g e p lo hi := by
  unfold zN1
  by_cases h1 : p < e
  · rw [h p hp h1, zN0_congr h (show (0 : Int) ≤ p + 1 by omega) (by omega)]
  · rw [if_neg (fun z => h1 z.1), if_neg (fun z => h1 z.1)]
theorem zN1_rg {f : Nat → Int32} {e p lo hi : Int} (hp : 0 ≤ p) (he : p ≤ e) : p ≤ (zN1 f e p lo hi).2.1 ∧ (zN1 f e p lo hi).2.1 ≤ e ∧ -1 ≤ (zN1 f e p lo hi).1 ∧ ((zN1 f e p lo hi).1 = -1 → p + 2 ≤ (zN1 f e p lo hi).2.1 ∧ lo ≤ (zN1 f e p lo hi).2.2 ∧ (zN1 f e p lo hi).2.2 ≤ hi) := by
  unfold zN1
  split
  · rename_i h1
    have r := zNe_rg (f := f) (e := e) (p := p + 1) (by omega)
    unfold zN0
    refine ⟨by show p ≤ zNe f e (p + 1); omega, by show zNe f e (p + 1) ≤ e; omega, ?_, ?_⟩
    · dsimp only
      split <;> omega
    · dsimp only
      split
      · intro h2; omega
      · rename_i h2
        intro _
        omega
  · exact ⟨by show p ≤ p; omega, by show p ≤ e; omega, by show -1 ≤ p; omega, fun h2 => absurd (show p = -1 from h2) (by omega)⟩
/-- how many numbers a word has, between which each may be -/
def zCt (w : Int) : Int := if w = 3 then 3 else if w = 2 ∨ w = 8 then 2 else 1
def zLo (w k : Int) : Int := if w = 0 then 4 else if w = 7 then 1 else if w = 3 ∧ k = 2 then 1 else 0
def zHi (w k te : Int) : Int := if w = 0 then 40 else if w = 1 then te - 1 else if w = 2 then (if k = 0 then te - 1 else 9) else if w = 3 then (if k = 0 then 6 else if k = 1 then 9 else 60) else if w = 4 then 24 else if w = 5 then 300 else if w = 6 then 9 else if w = 7 then 9 else if w = 8 then (if k = 0 then 2 else 99) else te
/-- the numbers of an item: the fault or -1, the place behind them, the first of them -/
def zIn (f : Nat → Int32) (e p te w : Int) : Int × Int × Int :=
  let n1 := zN1 f e p (zLo w 0) (zHi w 0 te)
  if n1.1 = -1 ∧ zCt w ≠ 1 then
    let n2 := zN1 f e n1.2.1 (zLo w 1) (zHi w 1 te)
    if n2.1 = -1 ∧ zCt w ≠ 2 then
      let n3 := zN1 f e n2.2.1 (zLo w 2) (zHi w 2 te)
      (n3.1, n3.2.1, n1.2.2)
    else (n2.1, n2.2.1, n1.2.2)
  else n1
theorem zIn_rg {f : Nat → Int32} {e p te w : Int} (hp : 0 ≤ p) (he : p ≤ e) : p ≤ (zIn f e p te w).2.1 ∧ (zIn f e p te w).2.1 ≤ e ∧ -1 ≤ (zIn f e p te w).1 ∧ ((zIn f e p te w).1 = -1 → p + 2 ≤ (zIn f e p te w).2.1 ∧ zLo w 0 ≤ (zIn f e p te w).2.2 ∧ (zIn f e p te w).2.2 ≤ zHi w 0 te) := by
  have r1 := zN1_rg (f := f) (e := e) (p := p) (lo := zLo w 0) (hi := zHi w 0 te) hp he
  unfold zIn
  by_cases h1 : (zN1 f e p (zLo w 0) (zHi w 0 te)).1 = -1 ∧ zCt w ≠ 1
  · have r2 := zN1_rg (f := f) (e := e) (p := (zN1 f e p (zLo w 0) (zHi w 0 te)).2.1) (lo := zLo w 1) (hi := zHi w 1 te) (by omega) (by omega)
    simp only [if_pos h1]
    by_cases h2 : (zN1 f e (zN1 f e p (zLo w 0) (zHi w 0 te)).2.1 (zLo w 1) (zHi w 1 te)).1 = -1 ∧ zCt w ≠ 2
    · have r3 := zN1_rg (f := f) (e := e) (p := (zN1 f e (zN1 f e p (zLo w 0) (zHi w 0 te)).2.1 (zLo w 1) (zHi w 1 te)).2.1) (lo := zLo w 2) (hi := zHi w 2 te) (by omega) (by omega)
      simp only [if_pos h2]
      have q1 := r1.2.2.2 h1.1
      exact ⟨by omega, by omega, by omega, fun h3 => by have := r3.2.2.2 h3; omega⟩
    · simp only [if_neg h2]
      have q1 := r1.2.2.2 h1.1
      exact ⟨by omega, by omega, by omega, fun h3 => by have := r2.2.2.2 h3; omega⟩
  · simp only [if_neg h1]
    exact r1
theorem zIn_congr {f g : Nat → Int32} {e : Int} (h : ∀ j : Int, 0 ≤ j → j < e → f j.toNat = g j.toNat) {p te w : Int} (hp : 0 ≤ p) (he : p ≤ e) : zIn f e p te w = zIn g e p te w := by
  have r1 := zN1_rg (f := g) (e := e) (p := p) (lo := zLo w 0) (hi := zHi w 0 te) hp he
  have r2 := zN1_rg (f := g) (e := e) (p := (zN1 g e p (zLo w 0) (zHi w 0 te)).2.1) (lo := zLo w 1) (hi := zHi w 1 te) (by omega) (by omega)
  unfold zIn
  dsimp only
  rw [zN1_congr h hp, zN1_congr h (show (0 : Int) ≤ (zN1 g e p (zLo w 0) (zHi w 0 te)).2.1 by omega), zN1_congr h (show (0 : Int) ≤ (zN1 g e (zN1 g e p (zLo w 0) (zHi w 0 te)).2.1 (zLo w 1) (zHi w 1 te)).2.1 by omega)]
/-- an item: the fault or -1, the place behind it, the teeth and the pulls behind it -/
def zItem (f : Nat → Int32) (e p te pu : Int) : Int × Int × Int × Int :=
  let w := zFst f e p zWds 10
  if w = -1 then (p + (zMx f e p zWds 10 : Int), p, te, pu)
  else if w = 3 ∧ pu = 8 then (p, p, te, pu)
  else
    let n := zIn f e (p + ((zWds w.toNat).length : Int)) te w
    (n.1, n.2.1, if w = 0 then n.2.2 else te, if w = 3 then pu + 1 else pu)
theorem zFst_in {f : Nat → Int32} {e p : Int} {w : Nat} (hw : w < 10) (h : zFst f e p zWds 10 = (w : Int)) : zLc f e p (zWds w) = (zWds w).length ∧ p + ((zWds w).length : Int) ≤ e := by
  rcases zFst_spec (f := f) (e := e) (p := p) (ls := zWds) 10 with ⟨h1, -⟩ | ⟨k, hk, h1, h2, -⟩
  · omega
  · obtain rfl : k = w := by omega
    have hl := zWds_len k hk
    have := (zLc_pre (f := f) (e := e) (zWds k) p ((zWds k).length - 1) (by omega)).1
    exact ⟨h2, by omega⟩
theorem zItem_rg {f : Nat → Int32} {e p te pu : Int} (hp : 0 ≤ p) (he : p ≤ e) : -1 ≤ (zItem f e p te pu).1 ∧ ((zItem f e p te pu).1 = -1 → p + 4 ≤ (zItem f e p te pu).2.1 ∧ (zItem f e p te pu).2.1 ≤ e ∧ ((4 ≤ te ∧ te ≤ 40) → 4 ≤ (zItem f e p te pu).2.2.1 ∧ (zItem f e p te pu).2.2.1 ≤ 40) ∧ ((0 ≤ pu ∧ pu ≤ 8) → 0 ≤ (zItem f e p te pu).2.2.2 ∧ (zItem f e p te pu).2.2.2 ≤ 8)) := by
  unfold zItem
  rcases zFst_spec (f := f) (e := e) (p := p) (ls := zWds) 10 with ⟨h1, -⟩ | ⟨w, hw, h1, h2, -⟩
  · simp only [h1, if_pos]
    exact ⟨by omega, fun h3 => by omega⟩
  · have hl := zWds_len w hw
    have hf := zFst_in hw h1
    rw [h1]
    simp only [if_neg (show ¬ ((w : Int) = -1) by omega)]
    by_cases h3 : (w : Int) = 3 ∧ pu = 8
    · simp only [if_pos h3]
      exact ⟨by omega, fun h4 => by omega⟩
    · simp only [if_neg h3, Int.toNat_natCast]
      have r := zIn_rg (f := f) (e := e) (p := p + ((zWds w).length : Int)) (te := te) (w := (w : Int)) (by omega) hf.2
      refine ⟨r.2.2.1, fun h4 => ?_⟩
      have q := r.2.2.2 h4
      refine ⟨by omega, r.2.1, fun h5 => ?_, fun h5 => ?_⟩
      · by_cases h6 : (w : Int) = 0
        · rw [if_pos h6]
          have q1 := q.2.1
          have q2 := q.2.2
          rw [h6] at q1 q2 ⊢
          exact ⟨q1, q2⟩
        · rw [if_neg h6]; exact h5
      · by_cases h6 : (w : Int) = 3
        · rw [if_pos h6]; omega
        · rw [if_neg h6]; exact h5
theorem zItem_congr {f g : Nat → Int32} {e : Int} (h : ∀ j : Int, 0 ≤ j → j < e → f j.toNat = g j.toNat) {p te pu : Int} (hp : 0 ≤ p) (he : p ≤ e) : zItem f e p te pu = zItem g e p te pu := by
  unfold zItem
  rw [zFst_congr h hp, zMx_congr h hp]
  rcases zFst_spec (f := g) (e := e) (p := p) (ls := zWds) 10 with ⟨h1, -⟩ | ⟨w, hw, h1, h2, -⟩
  · simp only [h1, if_pos]
  · have hf := zFst_in hw h1
    have hl := zWds_len w hw
    rw [h1]
    simp only [Int.toNat_natCast]
    rw [zIn_congr h (show (0 : Int) ≤ p + ((zWds w).length : Int) by omega) hf.2]
/-- the state ahead of the k-th item, if the reading comes to it -/
def zRgo (f : Nat → Int32) (e te pu : Int) : Nat → Option (Int × Int × Int)
  | 0 => some (0, te, pu)
  | k + 1 => match zRgo f e te pu k with
    | none => none
    | some (p, t, u) => if (zItem f e p t u).1 = -1 ∧ (zItem f e p t u).2.1 < e ∧ (f (zItem f e p t u).2.1.toNat).toInt = 59 then some ((zItem f e p t u).2.1 + 1, (zItem f e p t u).2.2.1, (zItem f e p t u).2.2.2) else none
theorem zRgo_s {f : Nat → Int32} {e te pu : Int} {k : Nat} : zRgo f e te pu (k + 1) = (match zRgo f e te pu k with
    | none => none
    | some (p, t, u) => if (zItem f e p t u).1 = -1 ∧ (zItem f e p t u).2.1 < e ∧ (f (zItem f e p t u).2.1.toNat).toInt = 59 then some ((zItem f e p t u).2.1 + 1, (zItem f e p t u).2.2.1, (zItem f e p t u).2.2.2) else none) := rfl
/-- the reading ends with the k-th item: with this fault (or -1, and these teeth and pulls) -/
def zEnd (f : Nat → Int32) (e te pu : Int) (k : Nat) (r t2 u2 : Int) : Prop := ∃ p t u : Int, zRgo f e te pu k = some (p, t, u) ∧ (((zItem f e p t u).1 ≠ -1 ∧ r = (zItem f e p t u).1) ∨ ((zItem f e p t u).1 = -1 ∧ e ≤ (zItem f e p t u).2.1 ∧ r = -1 ∧ t2 = (zItem f e p t u).2.2.1 ∧ u2 = (zItem f e p t u).2.2.2) ∨ ((zItem f e p t u).1 = -1 ∧ (zItem f e p t u).2.1 < e ∧ (f (zItem f e p t u).2.1.toNat).toInt ≠ 59 ∧ r = (zItem f e p t u).2.1))
theorem zRgo_rg {f : Nat → Int32} {e te pu : Int} (he : 0 ≤ e) (ht : 4 ≤ te ∧ te ≤ 40) (hu : 0 ≤ pu ∧ pu ≤ 8) : ∀ (k : Nat) (p t u : Int), zRgo f e te pu k = some (p, t, u) → 5 * (k : Int) ≤ p ∧ p ≤ e ∧ (4 ≤ t ∧ t ≤ 40) ∧ 0 ≤ u ∧ u ≤ 8 := by
  intro k
  induction k with
  | zero =>
    intro p t u h
    simp only [zRgo, Option.some.injEq, Prod.mk.injEq] at h
    obtain ⟨rfl, rfl, rfl⟩ := h
    exact ⟨by omega, he, ht, hu⟩
  | succ k ih =>
    intro p t u h
    rw [zRgo_s] at h
    split at h
    · exact absurd h (by simp)
    · rename_i p0 t0 u0 h0
      obtain ⟨a1, a2, a3, a4⟩ := ih p0 t0 u0 h0
      split at h
      · rename_i h1
        simp only [Option.some.injEq, Prod.mk.injEq] at h
        obtain ⟨rfl, rfl, rfl⟩ := h
        obtain ⟨b1, b2, b3, b4⟩ := (zItem_rg (f := f) (e := e) (te := t0) (pu := u0) (show (0 : Int) ≤ p0 by omega) a2).2 h1.1
        exact ⟨by omega, by omega, b3 a3, b4 a4⟩
      · exact absurd h (by simp)
theorem zRgo_le {f : Nat → Int32} {e te pu : Int} : ∀ (k n : Nat), n ≤ k → zRgo f e te pu n = none → zRgo f e te pu k = none := by
  intro k
  induction k with
  | zero => intro n hn h; obtain rfl : n = 0 := (by omega); exact h
  | succ k ih =>
    intro n hn h
    rcases Nat.lt_or_ge n (k + 1) with h1 | h1
    · have h2 := ih n (by omega) h
      simp only [zRgo_s, h2]
    · obtain rfl : n = k + 1 := by omega
      exact h
theorem zEnd_stop {f : Nat → Int32} {e te pu : Int} {k : Nat} {r t2 u2 : Int} (h : zEnd f e te pu k r t2 u2) : zRgo f e te pu (k + 1) = none := by
  obtain ⟨p, t, u, h1, h2⟩ := h
  rw [zRgo_s]
  rw [h1]
  simp only
  rw [if_neg]
  rcases h2 with ⟨a, -⟩ | ⟨-, b, -⟩ | ⟨-, -, c, -⟩
  · exact fun z => a z.1
  · exact fun z => absurd z.2.1 (by omega)
  · exact fun z => c z.2.2
/-- the reading ends at one place, in one way -/
theorem zEnd_one {f : Nat → Int32} {e te pu : Int} {k k2 : Nat} {r t u r2 t2 u2 : Int} (he : 0 ≤ e) (ht : 4 ≤ te ∧ te ≤ 40) (hu : 0 ≤ pu ∧ pu ≤ 8) (h : zEnd f e te pu k r t u) (h2 : zEnd f e te pu k2 r2 t2 u2) : k = k2 ∧ r = r2 ∧ (r = -1 → t = t2 ∧ u = u2) := by
  have hk : k = k2 := by
    have s1 := zEnd_stop h
    have s2 := zEnd_stop h2
    obtain ⟨p, a, b, h3, -⟩ := h
    obtain ⟨p2, a2, b2, h4, -⟩ := h2
    rcases Nat.lt_trichotomy k k2 with h5 | h5 | h5
    · rw [zRgo_le k2 (k + 1) (by omega) s1] at h4; exact absurd h4 (by simp)
    · exact h5
    · rw [zRgo_le k (k2 + 1) (by omega) s2] at h3; exact absurd h3 (by simp)
  subst hk
  obtain ⟨p, a, b, h3, h5⟩ := h
  obtain ⟨p2, a2, b2, h4, h6⟩ := h2
  rw [h3] at h4
  simp only [Option.some.injEq, Prod.mk.injEq] at h4
  obtain ⟨rfl, rfl, rfl⟩ := h4
  have r0 := zRgo_rg he ht hu k p a b h3
  have r1 := (zItem_rg (f := f) (e := e) (te := a) (pu := b) (show (0 : Int) ≤ p by omega) r0.2.1).2
  refine ⟨rfl, ?_, fun hr => ?_⟩
  · rcases h5 with ⟨c1, c2⟩ | ⟨c1, c2, c3, -⟩ | ⟨c1, c2, c3, c4⟩ <;> rcases h6 with ⟨d1, d2⟩ | ⟨d1, d2, d3, -⟩ | ⟨d1, d2, d3, d4⟩ <;> first | omega | exact absurd c1 d1 | exact absurd d1 c1
  · rcases h5 with ⟨c1, c2⟩ | ⟨c1, c2, c3, c4, c5⟩ | ⟨c1, c2, c3, c4⟩ <;> rcases h6 with ⟨d1, d2⟩ | ⟨d1, d2, d3, d4, d5⟩ | ⟨d1, d2, d3, d4⟩ <;> first | exact ⟨c4.trans d4.symm, c5.trans d5.symm⟩ | omega | (exfalso; exact absurd c1 d1) | (exfalso; exact absurd d1 c1) | (exfalso; have := (r1 c1).1; omega)
theorem zRgo_congr {f g : Nat → Int32} {e te pu : Int} (h : ∀ j : Int, 0 ≤ j → j < e → f j.toNat = g j.toNat) (he : 0 ≤ e) (ht : 4 ≤ te ∧ te ≤ 40) (hu : 0 ≤ pu ∧ pu ≤ 8) : ∀ k : Nat, zRgo f e te pu k = zRgo g e te pu k := by
  intro k
  induction k with
  | zero => rfl
  | succ k ih =>
    rw [zRgo_s, zRgo_s]
    rw [ih]
    cases h1 : zRgo g e te pu k with
    | none => rfl
    | some q =>
      obtain ⟨p, t, u⟩ := q
      have r := zRgo_rg he ht hu k p t u h1
      simp only
      rw [zItem_congr h (show (0 : Int) ≤ p by omega) r.2.1]
      by_cases h2 : (zItem g e p t u).1 = -1 ∧ (zItem g e p t u).2.1 < e
      · have r2 := (zItem_rg (f := g) (e := e) (te := t) (pu := u) (show (0 : Int) ≤ p by omega) r.2.1).2 h2.1
        rw [h _ (by omega) h2.2]
      · rw [if_neg (fun z => h2 ⟨z.1, z.2.1⟩), if_neg (fun z => h2 ⟨z.1, z.2.1⟩)]
theorem zEnd_congr {f g : Nat → Int32} {e te pu : Int} (h : ∀ j : Int, 0 ≤ j → j < e → f j.toNat = g j.toNat) (he : 0 ≤ e) (ht : 4 ≤ te ∧ te ≤ 40) (hu : 0 ≤ pu ∧ pu ≤ 8) {k : Nat} {r t2 u2 : Int} (h0 : zEnd f e te pu k r t2 u2) : zEnd g e te pu k r t2 u2 := by
  obtain ⟨p, t, u, h1, h2⟩ := h0
  rw [zRgo_congr h he ht hu] at h1
  have r0 := zRgo_rg he ht hu k p t u h1
  rw [zItem_congr h (show (0 : Int) ≤ p by omega) r0.2.1] at h2
  refine ⟨p, t, u, h1, ?_⟩
  rcases h2 with h2 | h2 | ⟨a, b, c, d⟩
  · exact Or.inl h2
  · exact Or.inr (Or.inl h2)
  · have r2 := (zItem_rg (f := g) (e := e) (te := t) (pu := u) (show (0 : Int) ≤ p by omega) r0.2.1).2 a
    exact Or.inr (Or.inr ⟨a, b, by rw [← h _ (by omega) b]; exact c, d⟩)
/-- how many of the items kept are pulls; the teeth behind them -/
def zCP (fi : Nat → Int32) : Nat → Int
  | 0 => 0
  | n + 1 => zCP fi n + (if (fi (4 * n)).toInt = 3 then 1 else 0)
def zLT (fi : Nat → Int32) (te : Int) : Nat → Int
  | 0 => te
  | n + 1 => if (fi (4 * n)).toInt = 0 then (fi (4 * n + 1)).toInt else zLT fi te n
theorem zCP_s {f : Nat → Int32} {n : Nat} : zCP f (n + 1) = zCP f n + (if (f (4 * n)).toInt = 3 then 1 else 0) := rfl
theorem zLT_s {f : Nat → Int32} {te : Int} {n : Nat} : zLT f te (n + 1) = (if (f (4 * n)).toInt = 0 then (f (4 * n + 1)).toInt else zLT f te n) := rfl
theorem zCP_congr {f g : Nat → Int32} : ∀ n : Nat, (∀ j : Nat, j < 4 * n → f j = g j) → zCP f n = zCP g n := by
  intro n
  induction n with
  | zero => intro _; rfl
  | succ n ih => intro h; rw [zCP_s, zCP_s, ih (fun j hj => h j (by omega)), h (4 * n) (by omega)]
theorem zLT_congr {f g : Nat → Int32} {te : Int} : ∀ n : Nat, (∀ j : Nat, j < 4 * n → f j = g j) → zLT f te n = zLT g te n := by
  intro n
  induction n with
  | zero => intro _; rfl
  | succ n ih => intro h; rw [zLT_s, zLT_s, ih (fun j hj => h j (by omega)), h (4 * n) (by omega), h (4 * n + 1) (by omega)]
/-! the walks' steps over these -/
theorem zLt_end {f : Nat → Int32} {e p : Int} {w : Nat} {i2 : Int32} (hw : w < 10) (h0 : 0 ≤ i2.toInt) (hlen : i2.toInt ≤ (zLen.getD w 0 : Nat)) (hinv : ∀ j : Nat, j < i2.toInt.toNat → p + (j : Int) < e ∧ f (p + (j : Int)).toNat = (zWds w).getD j 0) (hx : i2.toInt = (zLen.getD w 0 : Nat) ∨ ¬ (p + i2.toInt < e ∧ f (p + i2.toInt).toNat = (zWds w).getD i2.toInt.toNat 0)) : i2.toInt = (zLc f e p (zWds w) : Nat) := by
  have hl := zWds_len w hw
  have e1 : zLc f e p (zWds w) = i2.toInt.toNat := zLc_eq _ _ _ (by omega) hinv (by
    rcases hx with hx | hx
    · exact Or.inl (by omega)
    · refine Or.inr (fun h => hx ?_)
      rw [show ((i2.toInt.toNat : Nat) : Int) = i2.toInt from by omega] at h
      exact h)
  omega
theorem zLt_no {f : Nat → Int32} {e p : Int} {w : Nat} {i2 x r10 r12 : Int32} (hx : x.toInt = p + i2.toInt) (hr : r10 = (zByt.getD w []).getD i2.toNatClampNeg 0) (hs : r12 = 1 ↔ (0 ≤ x.toInt ∧ x.toInt < e ∧ f x.toNatClampNeg = r10)) (h0 : 0 ≤ p + i2.toInt) (hz : r12.toInt = 0) : ¬ (p + i2.toInt < e ∧ f (p + i2.toInt).toNat = (zWds w).getD i2.toInt.toNat 0) := fun h => by
  have h9 : r12 = 1 := hs.mpr ⟨by omega, by omega, by
    have h8 : x.toNatClampNeg = (p + i2.toInt).toNat := by show x.toInt.toNat = _; rw [hx]
    rw [h8, h.2, hr]; rfl⟩
  rw [h9] at hz
  exact absurd hz (by decide)
theorem zLt_S {f : Nat → Int32} {e p : Int} {w : Nat} {i2 x x2 r10 r12 : Int32} (hinv : ∀ j : Nat, j < i2.toInt.toNat → p + (j : Int) < e ∧ f (p + (j : Int)).toNat = (zWds w).getD j 0) (hx : x.toInt = p + i2.toInt) (hr : r10 = (zByt.getD w []).getD i2.toNatClampNeg 0) (hs : r12 = 1 ↔ (0 ≤ x.toInt ∧ x.toInt < e ∧ f x.toNatClampNeg = r10)) (h1 : r12.toInt = 1) (h0 : 0 ≤ i2.toInt) (h2 : x2.toInt = i2.toInt + 1) : ∀ j : Nat, j < x2.toInt.toNat → p + (j : Int) < e ∧ f (p + (j : Int)).toNat = (zWds w).getD j 0 := by
  intro j hj
  rcases Nat.lt_or_ge j i2.toInt.toNat with h3 | h3
  · exact hinv j h3
  · obtain rfl : j = i2.toInt.toNat := by omega
    obtain ⟨a, b, c⟩ := hs.mp (zf_val h1 (by decide))
    have h8 : x.toNatClampNeg = (p + i2.toInt).toNat := by show x.toInt.toNat = _; rw [hx]
    rw [h8, hr] at c
    rw [show ((i2.toInt.toNat : Nat) : Int) = i2.toInt from by omega]
    exact ⟨by omega, c⟩
theorem zFst_keep {f : Nat → Int32} {e p : Int} {ls : Nat → List Int32} {n : Nat} (h : zFst f e p ls n ≠ -1) : ∀ k : Nat, zFst f e p ls (n + k) = zFst f e p ls n := by
  intro k
  induction k with
  | zero => rfl
  | succ k ih =>
    rw [show n + (k + 1) = (n + k) + 1 from rfl]
    rw [zFst_s]
    rw [if_neg (by rw [ih]; exact h), ih]
theorem zFst_hit {f : Nat → Int32} {e p : Int} {ls : Nat → List Int32} {n : Nat} (h : zFst f e p ls n = -1) (hn : n < 10) (hw : zLc f e p (ls n) = (ls n).length) : zFst f e p ls 10 = (n : Int) := by
  have h1 : zFst f e p ls (n + 1) = (n : Int) := by rw [zFst_s, if_pos h, if_pos hw]
  have h2 := zFst_keep (f := f) (e := e) (p := p) (ls := ls) (n := n + 1) (by rw [h1]; omega) (9 - n)
  rw [show n + 1 + (9 - n) = 10 from by omega] at h2
  rw [h2, h1]
theorem zRW {f : Nat → Int32} {e p : Int} {u : Nat} {i4 ra rb ru r rf rf2 rp2 : Int} (hu : u < 10) (hi : (u : Int) = i4) (hv : zFst f e p zWds i4.toNat = -1) (ha : ra = (zLc f e p (zWds u) : Nat)) (hb : rb = (zLen.getD u 0 : Nat)) (hab : ra = rb) (hD : (i4 = 3 ∧ ru = 8 ∧ r = -1 ∧ rf2 = p) ∨ (¬ (i4 = 3 ∧ ru = 8) ∧ r = i4 ∧ rf2 = rf ∧ rp2 = p + ra)) : (zFst f e p zWds 10 = -1 ∧ r = -1 ∧ rf2 = p + (zMx f e p zWds 10 : Nat)) ∨ (zFst f e p zWds 10 = 3 ∧ ru = 8 ∧ r = -1 ∧ rf2 = p) ∨ (zFst f e p zWds 10 = r ∧ 0 ≤ r ∧ ¬ (r = 3 ∧ ru = 8) ∧ rf2 = rf ∧ rp2 = p + ((zWds r.toNat).length : Nat)) := by
  have hl := zWds_len u hu
  have e1 : i4.toNat = u := by omega
  rw [e1] at hv
  have h1 := zFst_hit hv hu (by omega)
  rcases hD with ⟨a, b, c, d⟩ | ⟨a, b, c, d⟩
  · exact Or.inr (Or.inl ⟨by omega, b, c, d⟩)
  · refine Or.inr (Or.inr ⟨by omega, by omega, ?_, c, ?_⟩)
    · rw [b]; exact a
    · rw [b, e1]; omega
theorem zRW_S {f : Nat → Int32} {e p : Int} {u : Nat} {i4 ra rb x : Int} (hu : u < 10) (hi : (u : Int) = i4) (hv : zFst f e p zWds i4.toNat = -1) (ha : ra = (zLc f e p (zWds u) : Nat)) (hb : rb = (zLen.getD u 0 : Nat)) (hab : ra ≠ rb) (hx : x = i4 + 1) : zFst f e p zWds x.toNat = -1 := by
  have hl := zWds_len u hu
  have e1 : i4.toNat = u := by omega
  rw [e1] at hv
  rw [show x.toNat = u + 1 from by omega]
  rw [zFst_s]
  rw [if_pos hv, if_neg (by omega)]
theorem zRW_M {f : Nat → Int32} {e p : Int} {u : Nat} {i4 ra x m m2 : Int} (hi : (u : Int) = i4) (ha : ra = (zLc f e p (zWds u) : Nat)) (hx : x = i4 + 1) (hm : m = (zMx f e p zWds i4.toNat : Nat)) (h2 : m ≤ m2 ∧ ra ≤ m2 ∧ (m2 = m ∨ m2 = ra)) : m2 = (zMx f e p zWds x.toNat : Nat) := by
  have e1 : i4.toNat = u := by omega
  rw [e1] at hm
  rw [show x.toNat = u + 1 from by omega]
  rw [zMx_s]
  split <;> omega
theorem zSt_yes {f : Nat → Int32} {e : Int} {x ch r : Int32} (hs : r = 1 ↔ (0 ≤ x.toInt ∧ x.toInt < e ∧ f x.toNatClampNeg = ch)) (h : r.toInt = 1) : x.toInt < e ∧ (f x.toInt.toNat).toInt = ch.toInt := by
  obtain ⟨a, b, c⟩ := hs.mp (zf_val h (by decide))
  exact ⟨b, by rw [show f x.toInt.toNat = ch from c]⟩
theorem zSt_no {f : Nat → Int32} {e : Int} {x ch r : Int32} (hs : r = 1 ↔ (0 ≤ x.toInt ∧ x.toInt < e ∧ f x.toNatClampNeg = ch)) (h : r.toInt = 0) (h0 : 0 ≤ x.toInt) : ¬ (x.toInt < e ∧ (f x.toInt.toNat).toInt = ch.toInt) := fun h1 => by
  have h9 : r = 1 := hs.mpr ⟨h0, h1.1, Int32.toInt_inj.mp h1.2⟩
  rw [h9] at h
  exact absurd h (by decide)
theorem zAll_S {P : Int → Prop} {a i x : Int} (h : ∀ j : Int, a ≤ j → j < i → P j) (hi : P i) (hx : x = i + 1) : ∀ j : Int, a ≤ j → j < x → P j := by
  intro j h1 h2
  by_cases h3 : j = i
  · rw [h3]; exact hi
  · exact h j h1 (by omega)
theorem zN1_no {f : Nat → Int32} {e p lo hi : Int} (h : ¬ (p < e ∧ (f p.toNat).toInt = 32)) : zN1 f e p lo hi = (p, p, 0) := if_neg h
theorem zN1_yes {f : Nat → Int32} {e p p1 lo hi lo2 hi2 q v r : Int} (h : p < e ∧ (f p.toNat).toInt = 32) (h1 : p1 = p + 1) (hq : q = zNe f e p1) (hv : v = zNv f p1 q) (hl : lo = lo2) (hh : hi = hi2) (hr : (r = p1 ∧ (q = p1 ∨ v < lo2 ∨ hi2 < v)) ∨ (r = -1 ∧ q ≠ p1 ∧ lo2 ≤ v ∧ v ≤ hi2)) : zN1 f e p lo hi = (r, q, v) := by
  subst h1
  subst hl
  subst hh
  unfold zN1 zN0
  rw [if_pos h, ← hq, ← hv]
  rcases hr with ⟨a, b⟩ | ⟨a, b⟩
  · rw [if_pos b, a]
  · rw [if_neg (by omega), a]
theorem zIn_a {f : Nat → Int32} {e p te w r q v : Int} (h : zN1 f e p (zLo w 0) (zHi w 0 te) = (r, q, v)) (hc : r ≠ -1 ∨ zCt w = 1) : zIn f e p te w = (r, q, v) := by
  unfold zIn
  rw [h]
  simp only
  rw [if_neg]
  rcases hc with hc | hc
  · exact fun z => hc z.1
  · exact fun z => z.2 hc
theorem zIn_b {f : Nat → Int32} {e p te w q v r2 q2 v2 : Int} (h : zN1 f e p (zLo w 0) (zHi w 0 te) = (-1, q, v)) (hc : zCt w ≠ 1) (h2 : zN1 f e q (zLo w 1) (zHi w 1 te) = (r2, q2, v2)) (hc2 : r2 ≠ -1 ∨ zCt w = 2) : zIn f e p te w = (r2, q2, v) := by
  unfold zIn
  rw [h]
  simp only
  rw [if_pos ⟨trivial, hc⟩, h2]
  simp only
  rw [if_neg]
  rcases hc2 with hc2 | hc2
  · exact fun z => hc2 z.1
  · exact fun z => z.2 hc2
theorem zIn_c {f : Nat → Int32} {e p te w q v q2 v2 r3 q3 v3 : Int} (h : zN1 f e p (zLo w 0) (zHi w 0 te) = (-1, q, v)) (hc : zCt w ≠ 1) (h2 : zN1 f e q (zLo w 1) (zHi w 1 te) = (-1, q2, v2)) (hc2 : zCt w ≠ 2) (h3 : zN1 f e q2 (zLo w 2) (zHi w 2 te) = (r3, q3, v3)) : zIn f e p te w = (r3, q3, v) := by
  unfold zIn
  rw [h]
  simp only
  rw [if_pos ⟨trivial, hc⟩, h2]
  simp only
  rw [if_pos ⟨trivial, hc2⟩, h3]
theorem zItem_none {f : Nat → Int32} {e p te pu : Int} (h : zFst f e p zWds 10 = -1) : zItem f e p te pu = (p + (zMx f e p zWds 10 : Int), p, te, pu) := by
  unfold zItem
  simp only [h, if_pos]
theorem zItem_room {f : Nat → Int32} {e p te pu : Int} (h : zFst f e p zWds 10 = 3) (hp : pu = 8) : zItem f e p te pu = (p, p, te, pu) := by
  unfold zItem
  rw [h]
  simp only
  rw [if_neg (by omega), if_pos ⟨trivial, hp⟩]
theorem zItem_w {f : Nat → Int32} {e p p1 te pu w r q v : Int} (h : zFst f e p zWds 10 = w) (h0 : 0 ≤ w) (hn : ¬ (w = 3 ∧ pu = 8)) (hp : p1 = p + ((zWds w.toNat).length : Nat)) (hi : zIn f e p1 te w = (r, q, v)) : zItem f e p te pu = (r, q, if w = 0 then v else te, if w = 3 then pu + 1 else pu) := by
  subst hp
  unfold zItem
  rw [h]
  simp only
  rw [if_neg (by omega), if_neg hn, hi]
theorem zRgo_S {f : Nat → Int32} {e te pu p t u p2 t2 u2 : Int} {k k2 : Nat} (h : zRgo f e te pu k = some (p, t, u)) (h1 : (zItem f e p t u).1 = -1) (h2 : (zItem f e p t u).2.1 < e) (h3 : (f (zItem f e p t u).2.1.toNat).toInt = 59) (e1 : p2 = (zItem f e p t u).2.1 + 1) (e2 : t2 = (zItem f e p t u).2.2.1) (e3 : u2 = (zItem f e p t u).2.2.2) (hk : k2 = k + 1) : zRgo f e te pu k2 = some (p2, t2, u2) := by
  subst hk e1 e2 e3
  rw [zRgo_s]
  rw [h]
  simp only
  rw [if_pos ⟨h1, h2, h3⟩]
theorem zEnd_a {f : Nat → Int32} {e te pu p t u r t2 u2 : Int} {k k2 : Nat} (h : zRgo f e te pu k = some (p, t, u)) (h1 : (zItem f e p t u).1 ≠ -1) (h2 : r = (zItem f e p t u).1) (hk : k2 = k) : zEnd f e te pu k2 r t2 u2 := by
  subst hk
  exact ⟨p, t, u, h, Or.inl ⟨h1, h2⟩⟩
theorem zEnd_b {f : Nat → Int32} {e te pu p t u r t2 u2 : Int} {k k2 : Nat} (h : zRgo f e te pu k = some (p, t, u)) (h1 : (zItem f e p t u).1 = -1) (h2 : e ≤ (zItem f e p t u).2.1) (h3 : r = -1) (e2 : t2 = (zItem f e p t u).2.2.1) (e3 : u2 = (zItem f e p t u).2.2.2) (hk : k2 = k) : zEnd f e te pu k2 r t2 u2 := by
  subst hk
  exact ⟨p, t, u, h, Or.inr (Or.inl ⟨h1, h2, h3, e2, e3⟩)⟩
theorem zEnd_c {f : Nat → Int32} {e te pu p t u r t2 u2 : Int} {k k2 : Nat} (h : zRgo f e te pu k = some (p, t, u)) (h1 : (zItem f e p t u).1 = -1) (h2 : (zItem f e p t u).2.1 < e) (h3 : (f (zItem f e p t u).2.1.toNat).toInt ≠ 59) (h4 : r = (zItem f e p t u).2.1) (hk : k2 = k) : zEnd f e te pu k2 r t2 u2 := by
  subst hk
  exact ⟨p, t, u, h, Or.inr (Or.inr ⟨h1, h2, h3, h4⟩)⟩
theorem zCP_S {f g : Nat → Int32} {n m : Nat} {i : Int} {a b c : Int} (hn : (n : Int) = i) (hm : (m : Int) = i + 1) (hfr : ∀ j : Nat, j < 4 * n → g j = f j) (ha : a = b + zCP f n) (h3 : (g (4 * n)).toInt = 3 → c = a + 1) (h4 : (g (4 * n)).toInt ≠ 3 → c = a) : c = b + zCP g m := by
  obtain rfl : m = n + 1 := by omega
  rw [zCP_s]
  rw [zCP_congr n hfr]
  by_cases h : (g (4 * n)).toInt = 3
  · rw [if_pos h]; have := h3 h; omega
  · rw [if_neg h]; have := h4 h; omega
theorem zLT_S {f g : Nat → Int32} {n m : Nat} {i : Int} {a b c : Int} (hn : (n : Int) = i) (hm : (m : Int) = i + 1) (hfr : ∀ j : Nat, j < 4 * n → g j = f j) (ha : a = zLT f b n) (h3 : (g (4 * n)).toInt = 0 → c = (g (4 * n + 1)).toInt) (h4 : (g (4 * n)).toInt ≠ 0 → c = a) : c = zLT g b m := by
  obtain rfl : m = n + 1 := by omega
  rw [zLT_s]
  by_cases h : (g (4 * n)).toInt = 0
  · rw [if_pos h]; exact h3 h
  · rw [if_neg h, zLT_congr n hfr, ← ha]; exact h4 h
theorem zCP_mono {f : Nat → Int32} : ∀ (m n : Nat), n ≤ m → zCP f n ≤ zCP f m := by
  intro m
  induction m with
  | zero => intro n hn; obtain rfl : n = 0 := (by omega); exact Int.le_refl _
  | succ m ih =>
    intro n hn
    rcases Nat.lt_or_ge n (m + 1) with h | h
    · have h1 := ih n (by omega)
      rw [zCP_s]
      split <;> omega
    · obtain rfl : n = m + 1 := by omega
      exact Int.le_refl _
theorem zCP_le {f : Nat → Int32} {n m : Nat} {a : Int} (h : a + zCP f m ≤ 8) (hn : n < m) (h3 : (f (4 * n)).toInt = 3) : a + zCP f n < 8 := by
  have h1 := zCP_mono (f := f) m (n + 1) (by omega)
  rw [zCP_s] at h1
  rw [if_pos h3] at h1
  omega
/-- what jacket answers, and what comes of it, by the letters -/
def zJac (f : Nat → Int32) (si s he lf cn sz r lf2 cn2 sz2 : Int) : Prop :=
  ((s < 0 ∨ 7 < s) ∧ r = -1 ∧ lf2 = lf ∧ cn2 = cn ∧ sz2 = sz) ∨ ((0 ≤ s ∧ s ≤ 7) ∧ he = -1 ∧ r = -3 ∧ lf2 = lf ∧ cn2 = cn ∧ sz2 = sz) ∨ ((0 ≤ s ∧ s ≤ 7) ∧ (0 ≤ he ∧ he < 100) ∧ r = -2 ∧ lf2 = lf ∧ cn2 = cn ∧ sz2 = sz) ∨
  ((0 ≤ s ∧ s ≤ 7) ∧ 100 ≤ he ∧ ∃ (k : Nat) (R T U : Int), zEnd f si sz cn k R T U ∧ ((R ≠ -1 ∧ r = -6 ∧ lf2 = R ∧ cn2 = cn ∧ sz2 = sz) ∨ (R = -1 ∧ r = (k : Int) + 1 ∧ lf2 = -1 ∧ cn2 = U ∧ sz2 = T)))
/-! the reference's letters -/
def zMF (g : Nat → Int64) (b : Int) : Nat → Int32 := fun j => zChX g (b + (j : Int)).toNat
theorem zMF_at {g : Nat → Int64} {b q : Int} (hq : 0 ≤ q) : zMF g b q.toNat = zChX g (b + q).toNat := by
  unfold zMF
  rw [show ((q.toNat : Nat) : Int) = q from by omega]
theorem zWoB : ∀ w : Nat, w < 10 → (zBls w).length = zEn w - zBg w ∧ (zWds w).length + 1 = zEn w - zBg w := by decide
theorem zWoL_at : ∀ w : Nat, w < 10 → ∀ k : Nat, k < 8 → k < zEn w - zBg w → zWoL.getD (zBg w + k) 0 = (zBls w).getD k 0 := by decide +kernel
theorem zMW_lc {g : Nat → Int64} {b e pl : Int} {w : Nat} {f : Nat → Int32} {n : Nat} (hf : zHWo f) (hw : w < 10) (hp : 0 ≤ pl) (h : zStN g b e pl f (zBg w) n) (hn : n ≤ zEn w - zBg w) (hx : n = zEn w - zBg w ∨ ¬ (pl + (n : Int) < e ∧ zChX g (b + (pl + (n : Int))).toNat = f (zBg w + n))) : zLc (zMF g b) e pl (zBls w) = n := by
  have h1 := zWoB w hw
  have h2 := zBE w hw
  have h3 := zWds_len w hw
  have ha : ∀ k : Nat, k < zEn w - zBg w → f (zBg w + k) = (zBls w).getD k 0 := fun k hk => by
    rw [hf (zBg w + k) (by omega)]
    exact zWoL_at w hw k (by omega) hk
  refine zLc_eq _ _ _ (by omega) (fun j hj => ?_) ?_
  · obtain ⟨a, c⟩ := h j hj
    refine ⟨a, ?_⟩
    rw [zMF_at (by omega), c, ha j (by omega)]
  · rcases hx with hx | hx
    · exact Or.inl (by omega)
    · by_cases h4 : n = zEn w - zBg w
      · exact Or.inl (by omega)
      · refine Or.inr (fun z => hx ⟨z.1, ?_⟩)
        rw [ha n (by omega), ← z.2, zMF_at (by omega)]
theorem zFst_no {f : Nat → Int32} {e p : Int} {ls : Nat → List Int32} {n m k : Nat} (h : zFst f e p ls n = -1) (h1 : zLc f e p (ls n) = k) (h2 : k ≠ (ls n).length) (hm : m = n + 1) : zFst f e p ls m = -1 := by
  subst hm
  rw [zFst_s]
  rw [if_pos h, if_neg (by omega)]
theorem zMx_to {f : Nat → Int32} {e p q far far2 : Int} {ls : Nat → List Int32} {n m k : Nat} (h : far = q + (zMx f e p ls n : Nat)) (h1 : zLc f e p (ls n) = k) (h2 : (far2 = far ∧ q + (k : Int) ≤ far) ∨ (far2 = q + (k : Int) ∧ far < q + (k : Int))) (hm : m = n + 1) : far2 = q + (zMx f e p ls m : Nat) := by
  subst hm
  rw [zMx_s]
  split <;> omega
theorem zFst_3 {f : Nat → Int32} {e p : Int} (h : zLc f e p (zWds 3) = 4) : zFst f e p zWds 10 = 3 := by
  have hl : (zWds 3).length = 4 := by decide
  rcases zFst_spec (f := f) (e := e) (p := p) (ls := zWds) 10 with ⟨-, h2⟩ | ⟨k, hk, h1, h2, -⟩
  · exact absurd (h.trans hl.symm) (h2 3 (by decide))
  · by_cases h3 : k = 3
    · rw [h1, h3]; rfl
    · have h4 := zLc_one (f := f) (e := e) (p := p) (v := k) (w := 3) hk (by decide) h3 (by omega)
      have h5 := zWds_len k hk
      omega
theorem zFst_w {f : Nat → Int32} {e p : Int} {w : Nat} (hw : w < 10) (h : zFst f e p zWds 10 = (w : Int)) : zLc f e p (zWds w) = (zWds w).length := (zFst_in hw h).1
/-- 'pull' stands, letter by letter -/
theorem zPul_iff {g : Nat → Int64} {b e pl : Int} (hp : 0 ≤ pl) : zLc (zMF g b) e pl (zWds 3) = 4 ↔ (pl + 1 + 1 + 1 < e ∧ (zChX g (b + pl).toNat).toInt = 112 ∧ (zChX g (b + (pl + 1)).toNat).toInt = 117 ∧ (zChX g (b + ((pl + 1) + 1)).toNat).toInt = 108 ∧ (zChX g (b + (((pl + 1) + 1) + 1)).toNat).toInt = 108) := by
  have hl : (zWds 3).length = 4 := by decide
  have e0 : pl + ((0 : Nat) : Int) = pl := by omega
  have e1 : pl + ((1 : Nat) : Int) = pl + 1 := by omega
  have e2 : pl + ((2 : Nat) : Int) = (pl + 1) + 1 := by omega
  have e3 : pl + ((3 : Nat) : Int) = ((pl + 1) + 1) + 1 := by omega
  constructor
  · intro h
    have a0 := zLc_pre (zWds 3) pl 0 (by rw [h]; decide)
    have a1 := zLc_pre (zWds 3) pl 1 (by rw [h]; decide)
    have a2 := zLc_pre (zWds 3) pl 2 (by rw [h]; decide)
    have a3 := zLc_pre (zWds 3) pl 3 (by rw [h]; decide)
    rw [e0, zMF_at (by omega)] at a0
    rw [e1, zMF_at (by omega)] at a1
    rw [e2, zMF_at (by omega)] at a2
    rw [e3, zMF_at (by omega)] at a3
    exact ⟨a3.1, by rw [a0.2]; decide, by rw [a1.2]; decide, by rw [a2.2]; decide, by rw [a3.2]; decide⟩
  · rintro ⟨b1, b2, b3, b4, b5⟩
    refine zLc_eq _ _ _ (by omega) (fun j hj => ?_) (Or.inl hl.symm)
    rcases (show j = 0 ∨ j = 1 ∨ j = 2 ∨ j = 3 by omega) with rfl | rfl | rfl | rfl
    · rw [e0, zMF_at (by omega)]; exact ⟨by omega, Int32.toInt_inj.mp (b2.trans (by decide))⟩
    · rw [e1, zMF_at (by omega)]; exact ⟨by omega, Int32.toInt_inj.mp (b3.trans (by decide))⟩
    · rw [e2, zMF_at (by omega)]; exact ⟨by omega, Int32.toInt_inj.mp (b4.trans (by decide))⟩
    · rw [e3, zMF_at (by omega)]; exact ⟨by omega, Int32.toInt_inj.mp (b5.trans (by decide))⟩
theorem zDg_MF {g : Nat → Int64} {b e q : Int} (hq : 0 ≤ q) : zDg (zMF g b) e q ↔ (q < e ∧ 48 ≤ (zChX g (b + q).toNat).toInt ∧ (zChX g (b + q).toNat).toInt ≤ 57) := by
  unfold zDg
  rw [zMF_at hq]
theorem zDv_MF {g : Nat → Int64} {b q : Int} {y : Int32} (hq : 0 ≤ q) (h : y.toInt = (zChX g (b + q).toNat).toInt) : zDv (zMF g b) q = y.toInt - 48 := by
  unfold zDv
  rw [zMF_at hq, h]
/-- a number read from the place of its first digit on, by how many of them are digits -/
theorem zNum_1 {f : Nat → Int32} {e p : Int} (h0 : zDg f e p) (h1 : ¬ zDg f e (p + 1)) : zNe f e p = p + 1 ∧ zNv f p (p + 1) = zDv f p := by
  refine ⟨by unfold zNe; rw [if_pos h0, if_neg h1], ?_⟩
  unfold zNv
  rw [if_neg (by omega), if_pos rfl]
theorem zNum_2 {f : Nat → Int32} {e p : Int} (h0 : zDg f e p) (h1 : zDg f e (p + 1)) (h2 : ¬ zDg f e (p + 2)) : zNe f e p = p + 2 ∧ zNv f p (p + 2) = 10 * zDv f p + zDv f (p + 1) := by
  refine ⟨by unfold zNe; rw [if_pos h0, if_pos h1, if_neg h2], ?_⟩
  unfold zNv
  rw [if_neg (by omega), if_neg (by omega), if_pos rfl]
theorem zNum_3 {f : Nat → Int32} {e p : Int} (h0 : zDg f e p) (h1 : zDg f e (p + 1)) (h2 : zDg f e (p + 2)) : zNe f e p = p + 3 ∧ zNv f p (p + 3) = 10 * (10 * zDv f p + zDv f (p + 1)) + zDv f (p + 2) := by
  refine ⟨by unfold zNe; rw [if_pos h0, if_pos h1, if_pos h2], ?_⟩
  unfold zNv
  rw [if_neg (by omega), if_neg (by omega), if_neg (by omega)]
theorem zNum_0 {f : Nat → Int32} {e p : Int} (h0 : ¬ zDg f e p) : zNe f e p = p := by unfold zNe; rw [if_neg h0]
/-- what the reference's word() came to, by the words alone -/
theorem zItem_M {f : Nat → Int32} {e p te pu w : Int} (h : zFst f e p zBls 10 = -1) (hw : w = p + (zMx f e p zBls 10 : Nat)) (hn : ¬ (zLc f e p (zWds 3) = 4 ∧ pu = 8)) (hp : 0 ≤ p) : (zItem f e p te pu).1 = w := by
  rcases zFst_bls (f := f) (e := e) (p := p) with ⟨-, ⟨h1, h2⟩ | ⟨v, hv, h1, h2, h3⟩⟩ | ⟨v, hv, -, h2, -⟩
  · rw [zItem_none h1]
    show p + _ = w
    rw [hw, h2]
  · have hl := zWds_len v hv
    have hnn : ¬ ((v : Int) = 3 ∧ pu = 8) := fun z => hn ⟨by
      obtain rfl : v = 3 := by omega
      exact (zFst_w hv h1).trans (by decide), z.2⟩
    have hI : zIn f e (p + ((zWds v).length : Int)) te v = (p + ((zWds v).length : Int), p + ((zWds v).length : Int), 0) := zIn_a (zN1_no (fun z => h2 ⟨z.1, Int32.toInt_inj.mp (z.2.trans (by decide))⟩)) (Or.inl (by omega))
    rw [zItem_w (w := (v : Int)) h1 (by omega) hnn (by rw [Int.toNat_natCast]) hI]
    show p + _ = w
    rw [hw, h3]
  · omega
theorem zItem_Mw {f : Nat → Int32} {e p : Int} {w : Int} (h : zFst f e p zBls 10 = w) (h0 : 0 ≤ w) : zFst f e p zWds 10 = w ∧ p + ((zWds w.toNat).length : Int) < e ∧ (f (p + ((zWds w.toNat).length : Int)).toNat).toInt = 32 ∧ ((zBls w.toNat).length : Int) = ((zWds w.toNat).length : Int) + 1 := by
  rcases zFst_bls (f := f) (e := e) (p := p) with ⟨h1, -⟩ | ⟨v, hv, h1, h2, h3, h4⟩
  · omega
  · have e1 : w.toNat = v := by omega
    rw [e1]
    refine ⟨by omega, h3, by rw [h4]; decide, ?_⟩
    rw [zBls_len]
    omega
/-- jacket's outcome is one, and hangs on the letters alone -/
theorem zJac_one {f g : Nat → Int32} {si s he lf cn sz r lf2 cn2 sz2 si' he' r' lf2' cn2' sz2' : Int} (h : zJac f si s he lf cn sz r lf2 cn2 sz2) (h' : zJac g si' s he' lf cn sz r' lf2' cn2' sz2') (h1 : (0 ≤ s ∧ s ≤ 7) → ((he = -1 ∧ he' = -1) ∨ ((0 ≤ he ∧ he < 100) ∧ 0 ≤ he' ∧ he' < 100) ∨ (100 ≤ he ∧ 100 ≤ he' ∧ si = si' ∧ 0 ≤ si ∧ ∀ j : Int, 0 ≤ j → j < si → f j.toNat = g j.toNat))) (ht : 4 ≤ sz ∧ sz ≤ 40) (hu : 0 ≤ cn ∧ cn ≤ 8) : r = r' ∧ lf2 = lf2' ∧ cn2 = cn2' ∧ sz2 = sz2' := by
  unfold zJac at h h'
  by_cases hs : 0 ≤ s ∧ s ≤ 7
  · rcases h1 hs with a | a | ⟨a1, a2, rfl, a3, a4⟩
    · rcases h with b | b | b | ⟨-, b, -⟩ <;> rcases h' with c | c | c | ⟨-, c, -⟩ <;> omega
    · rcases h with b | b | b | ⟨-, b, -⟩ <;> rcases h' with c | c | c | ⟨-, c, -⟩ <;> omega
    · rcases h with b | b | b | ⟨-, -, k, R, T, U, z1, z2⟩
      · omega
      · omega
      · omega
      rcases h' with c | c | c | ⟨-, -, k', R', T', U', y1, y2⟩
      · omega
      · omega
      · omega
      obtain ⟨e1, e2, e3⟩ := zEnd_one a3 ht hu (zEnd_congr a4 a3 ht hu z1) y1
      rcases z2 with ⟨m1, m2⟩ | ⟨m1, m2⟩ <;> rcases y2 with ⟨n1, n2⟩ | ⟨n1, n2⟩
      · omega
      · omega
      · omega
      · have := e3 m1
        omega
  · rcases h with b | b | b | ⟨b, -⟩ <;> rcases h' with c | c | c | ⟨c, -⟩ <;> omega
/-- what a shelf holds, as jacket looks at it -/
def zHc (h : Int) : Int := if h = 1 then 100 else if h = 0 then -1 else 0
/-! what the shelves' calls answer -/
def zH2 (h o : Int) : Int := if h = 1 then 100 + o else if h = 0 then -1 else 0
def zSetR (s he si i : Int) : Int := if s < 0 then -1 else if 7 < s then -1 else if he = -1 then -3 else if he < 100 then -2 else if i < 0 then -5 else if si ≤ i then -5 else 1
def zCopR (s q hs hq ss sq i j n : Int) : Int := if s < 0 then -1 else if 7 < s then -1 else if q < 0 then -1 else if 7 < q then -1 else if 0 ≤ hs ∧ hs < 100 then -2 else if 0 ≤ hq ∧ hq < 100 then -2 else if hs ≠ -1 ∧ hq ≠ -1 ∧ hs ≠ hq then -2 else if hs = -1 then -3 else if hq = -1 then -3 else if n < 0 then -4 else if i < 0 then -5 else if j < 0 then -5 else if ss - n < i then -5 else if sq - n < j then -5 else 1
def zNar (k : Int) (v : Int64) : Int64 := if k = 0 then v.toInt32.toInt8.toInt32.toInt64 else if k = 1 then v.toInt32.toInt16.toInt32.toInt64 else if k = 2 then v.toInt32.toInt64 else v
def zPulR (k a t n : Int) : Int := if k < 0 then -1 else if 6 < k then -1 else if a < 0 then -6 else if 9 < a then -6 else if t < 1 then -6 else if 60 < t then -6 else if 8 ≤ n then -7 else n
def zHe (h o sh : Int) : Int := if h = 0 then -1 else if h = 1 then 100 + o else sh
theorem zRst_S {c c2 gh gs : Nat → Int32} {p : Int} {i x y : Int32} (h : ∀ j : Nat, c j = (if (j : Int) < i.toInt ∧ (gh j).toInt = 2 ∧ p ≤ (gs j).toInt then 0 else gh j)) (h0 : 0 ≤ i.toInt) (hy : y = c i.toNatClampNeg) (hx : x.toInt = i.toInt + 1) (hc : (c2 = c ∧ (y.toInt ≠ 2 ∨ (gs i.toNatClampNeg).toInt < p)) ∨ (c2 = upd c i.toNatClampNeg 0 ∧ y.toInt = 2 ∧ p ≤ (gs i.toNatClampNeg).toInt)) : ∀ j : Nat, c2 j = (if (j : Int) < x.toInt ∧ (gh j).toInt = 2 ∧ p ≤ (gs j).toInt then 0 else gh j) := by
  intro j
  have hi : i.toNatClampNeg = i.toInt.toNat := rfl
  have e1 : c i.toNatClampNeg = gh i.toNatClampNeg := by rw [h, if_neg (by omega)]
  by_cases e9 : j = i.toNatClampNeg
  · subst e9
    rcases hc with ⟨rfl, h3⟩ | ⟨rfl, h3, h4⟩
    · rw [e1, if_neg]
      rintro ⟨-, h5, h6⟩
      rw [hy, e1] at h3
      omega
    · rw [hy, e1] at h3
      rw [if_pos ⟨by omega, h3, h4⟩]
      simp [upd]
  · have e2 : c2 j = c j := by
      rcases hc with ⟨rfl, -⟩ | ⟨rfl, -, -⟩
      · rfl
      · simp only [upd]; rw [if_neg e9]
    rw [e2, h j]
    by_cases h5 : (gh j).toInt = 2 ∧ p ≤ (gs j).toInt
    · by_cases h6 : (j : Int) < i.toInt
      · rw [if_pos ⟨h6, h5⟩, if_pos ⟨by omega, h5⟩]
      · rw [if_neg (fun z => h6 z.1), if_neg (fun z => by have := z.1; omega)]
    · rw [if_neg (fun z => h5 z.2), if_neg (fun z => h5 z.2)]
end
section
set_option maxHeartbeats 4000000 in
set_option maxRecDepth 100000 in
theorem c_F_R_letters (l : Launch) (D : va_G) (cI cJ cZ cP cS : ClassId) (po : zPool) (rd ri rl : Nat) (rz rc rp rf rt ru : Int32) (fl : Nat → Int32) (i : Nat) (hy0 : 0 ≤ rz.toInt) (hy1 : rz.toInt ≤ 160) (hy2 : 0 ≤ rc.toInt) (hy3 : rc.toInt ≤ 40) (hy4 : 0 ≤ rp.toInt) (hy5 : rp.toInt ≤ 160) (hy6 : rp.toInt ≤ rz.toInt) (hy7 : (-1) ≤ rf.toInt) (hy8 : rf.toInt ≤ 160) (hy9 : 0 ≤ rt.toInt) (hy10 : rt.toInt ≤ 40) (hy11 : 0 ≤ ru.toInt) (hy12 : ru.toInt ≤ 8) (hi : i < 10) (hpz : Nat) : Met l yX3_lettersStanding wsX3_lettersStanding ({ frames := 4, cells := 0, slots := 0, locals := 85 }) (va_Pc [.ref rd, .ref (po.2.1 i)] (zW D (zKT cI cJ cZ cP cS) po [(rd, .inr (3, [.ref ri, .ref rl, .int rz, .int rc, .int rp, .int rf, .int rt, .int ru])), (rl, .inl (cI, 160, .inl fl))] hpz)) (va_Qi (fun (r : Int32) (_ : Unit) => (rp.toInt + r.toInt ≤ rz.toInt ∧ r.toInt ≤ (zLen.getD i 0 : Nat)) ∧ (r.toInt = (zLc fl rz.toInt rp.toInt (zWds i) : Nat)) ∧ (0 ≤ r.toInt ∧ r.toInt ≤ 7)) (zB D [(rd, .inr (3, [.ref ri, .ref rl, .int rz, .int rc, .int rp, .int rf, .int rt, .int ru])), (rl, .inl (cI, 160, .inl fl))] hpz (fun (_ : Unit) => [(rd, .inr (3, [.ref ri, .ref rl, .int rz, .int rc, .int rp, .int rf, .int rt, .int ru])), (rl, .inl (cI, 160, .inl fl))])) (va_A [(rd, .inr (3, [.ref ri, .ref rl, .int rz, .int rc, .int rp, .int rf, .int rt, .int ru])), (rl, .inl (cI, 160, .inl fl))] hpz)) 0 0 (va_A [(rd, .inr (3, [.ref ri, .ref rl, .int rz, .int rc, .int rp, .int rf, .int rt, .int ru])), (rl, .inl (cI, 160, .inl fl))] hpz) := by
  refine Met.ofW (cc := cX3_lettersStanding) (maxL := 3) (ret := (some .int)) (by decide) rfl ?_
  intro p e s m args below meth c s₁ B hml hv
  obtain ⟨rfl, hsz, hP, hK, hD0, hN, hZ⟩ := hv
  have hx := B.exec
  have hb := B.bytes
  have hr := B.returns
  have hts := atoms_spec (ws := wsX3_lettersStanding) B.pre
  have hown : s.vm.findClass RX3 = some m.cls := findClass_of_methodNamed B.named
  have hlocks := B.notSynchronized
  subst hsz
  have hD := hD0.self (sz := s.heap.size)
  have hA := zA_of hD
  have hl := lv_entry ([.ref rd, .ref (po.2.1 i)]) (n := 3) (Nat.le_of_ble_eq_true rfl)
  rw [lg_entry_eq]
  generalize (lg_sl ([.ref rd, .ref (po.2.1 i)]) ++ List.replicate (3 - (lg_sl ([.ref rd, .ref (po.2.1 i)])).length) Slot.unset).toArray = ls at hl ⊢
  replace hl : lv_has ls 3 [(0, .ref rd), (1, .ref (po.2.1 i))] := hl
  refine zw_begin hP hD (fun H locs hP1 hS => ?_)
  clear hP
  have hP := hP1
  clear hP1
  refine lv_iconst (v := 0) hx hb dX3_lettersStanding_0 (by decide) ?_
  refine lv_istore_n (lv' := [(2, .int 0), (0, .ref rd), (1, .ref (po.2.1 i))]) hx hb dX3_lettersStanding_1 rfl hl (by decide) rfl (fun ls hl => ?_)
  obtain ⟨i_2, hi_2⟩ : ∃ i : Int32, i = 0 := ⟨_, rfl⟩
  replace hl : lv_has ls 3 [(2, .int i_2), (0, .ref rd), (1, .ref (po.2.1 i))] := by rw [hi_2]; exact lv_sub hl [0, 1, 2] rfl
  have h1i_2 : i_2.toInt = 0 := by rw [hi_2]; decide
  obtain ⟨nfu, hni_2⟩ : ∃ nq9 : Nat, 8 ≤ i_2.toInt + (nq9 : Int) := ⟨((8 : Int) - 0).toNat, by omega⟩
  have hloi_2 : 0 ≤ i_2.toInt := by omega
  have hvi_2_0 : rp.toInt + i_2.toInt ≤ rz.toInt ∧ i_2.toInt ≤ (zLen.getD i 0 : Nat) := by
    (try rw [hi_2]); (first | omega | (refine ⟨?_, ?_⟩ <;> simp <;> omega))
  have hvi_2_1 : (∀ j : Nat, j < i_2.toInt.toNat → rp.toInt + (j : Int) < rz.toInt ∧ fl (rp.toInt + (j : Int)).toNat = (zWds i).getD j 0) := by
    (try rw [hi_2]); (intro j hj; exfalso; have h8 : ((0 : Int32).toInt.toNat = 0) := (by decide); omega)
  clear h1i_2 hi_2
  skip
  revert hni_2
  revert hloi_2
  revert hvi_2_1
  revert hvi_2_0
  revert hl
  revert hS
  revert hD
  revert hP
  revert ls
  revert locs
  revert H
  revert i_2
  induction nfu with
  | zero =>
    intro i_2 H locs ls hP hD hS hl hvi_2_0 hvi_2_1 hloi_2 hni_2
    have hzi_2 : 8 ≤ i_2.toInt := by omega
    refine lv_iload_n hx hb dX3_lettersStanding_2 rfl (lv_at hl 0 rfl) ?_
    refine lv_aload_n hx hb dX3_lettersStanding_3 rfl (lv_at hl 2 rfl) ?_
    refine zc_V (As := []) (rest := [.int i_2]) ⟨hx, hb, hml, hown, hts⟩ (c_S_length l D cI cJ cZ cP cS po i hi) (cwV 0 hts gX3_lettersStanding_J0_length_8abf5 rfl rfl rfl ⟨rfl, dh_J0_length_8abf5⟩ ⟨Nat.le_of_ble_eq_true rfl, Nat.le_of_ble_eq_true rfl⟩) hK hN (hZ.kept hS) hP zP_nil (vk_recv hZ.2.2.1 hi hS) rfl hl.1 rfl (Nat.le_of_ble_eq_true rfl) dX3_lettersStanding_4 ⟨Nat.le_of_ble_eq_true rfl, Nat.le_of_ble_eq_true rfl⟩ (fun r_1 hr_1 => ?_)
    obtain ⟨g_2, g_3, hsr_1_0⟩ := hr_1
    refine lv_icmp_ge (tgt := 34) hx hb dX3_lettersStanding_7 (by decide) (fun c_4 => ?_) (fun c_4 => ?_)
    · have fc_4 : r_1.toInt ≤ i_2.toInt := zf_le c_4 rfl rfl
      refine lv_iload_n hx hb dX3_lettersStanding_34 rfl (lv_at hl 0 rfl) ?_
      exact W.iret (v := i_2) hx hb hr (fun t ht hW => ⟨⟨i_2, (), rfl, ⟨(show rp.toInt + (i_2 : Int32).toInt ≤ rz.toInt ∧ (i_2 : Int32).toInt ≤ (zLen.getD i 0 : Nat) from by exact ⟨by omega, by omega⟩), (show (i_2 : Int32).toInt = (zLc fl rz.toInt rp.toInt (zWds i) : Nat) from by exact zLt_end hi (by omega) (by omega) hvi_2_1 (Or.inl (by omega))), ⟨by omega, by omega⟩⟩, zRet ht hP hD [0, 1] (by decide) rfl⟩, hS.F ht⟩) hS.2.2 dX3_lettersStanding_35
    · exfalso; have fc_4 : i_2.toInt < r_1.toInt := zf_nle c_4 rfl rfl; omega
  | succ nfu ih =>
    intro i_2 H locs ls hP hD hS hl hvi_2_0 hvi_2_1 hloi_2 hni_2
    refine lv_iload_n hx hb dX3_lettersStanding_2 rfl (lv_at hl 0 rfl) ?_
    refine lv_aload_n hx hb dX3_lettersStanding_3 rfl (lv_at hl 2 rfl) ?_
    refine zc_V (As := []) (rest := [.int i_2]) ⟨hx, hb, hml, hown, hts⟩ (c_S_length l D cI cJ cZ cP cS po i hi) (cwV 0 hts gX3_lettersStanding_J0_length_8abf5 rfl rfl rfl ⟨rfl, dh_J0_length_8abf5⟩ ⟨Nat.le_of_ble_eq_true rfl, Nat.le_of_ble_eq_true rfl⟩) hK hN (hZ.kept hS) hP zP_nil (vk_recv hZ.2.2.1 hi hS) rfl hl.1 rfl (Nat.le_of_ble_eq_true rfl) dX3_lettersStanding_4 ⟨Nat.le_of_ble_eq_true rfl, Nat.le_of_ble_eq_true rfl⟩ (fun r_5 hr_5 => ?_)
    obtain ⟨g_6, g_7, hsr_5_0⟩ := hr_5
    refine lv_icmp_ge (tgt := 34) hx hb dX3_lettersStanding_7 (by decide) (fun c_8 => ?_) (fun c_8 => ?_)
    · have fc_8 : r_5.toInt ≤ i_2.toInt := zf_le c_8 rfl rfl
      refine lv_iload_n hx hb dX3_lettersStanding_34 rfl (lv_at hl 0 rfl) ?_
      exact W.iret (v := i_2) hx hb hr (fun t ht hW => ⟨⟨i_2, (), rfl, ⟨(show rp.toInt + (i_2 : Int32).toInt ≤ rz.toInt ∧ (i_2 : Int32).toInt ≤ (zLen.getD i 0 : Nat) from by exact ⟨by omega, by omega⟩), (show (i_2 : Int32).toInt = (zLc fl rz.toInt rp.toInt (zWds i) : Nat) from by exact zLt_end hi (by omega) (by omega) hvi_2_1 (Or.inl (by omega))), ⟨by omega, by omega⟩⟩, zRet ht hP hD [0, 1] (by decide) rfl⟩, hS.F ht⟩) hS.2.2 dX3_lettersStanding_35
    · have fc_8 : i_2.toInt < r_5.toInt := zf_nle c_8 rfl rfl
      refine lv_aload_n hx hb dX3_lettersStanding_10 rfl (lv_at hl 1 rfl) ?_
      refine lv_aload_n hx hb dX3_lettersStanding_11 rfl (lv_at hl 1 rfl) ?_
      refine va_get (D := D) (ci := 3) (v := .int rp) (C := RX3) (T := TX3) (N := 8) hx hb hts hi_X3_lettersStanding_3 hown hK hP 0 rfl rfl 4 (by decide) (hts (.fieldLink RX3 25 "TheLiningsInIt$Reader" "place" "I") (List.mem_of_getElem? (i := 1) rfl)) (fun _ h9 => h9) rfl dX3_lettersStanding_12 ?_
      refine lv_iload_n hx hb dX3_lettersStanding_15 rfl (lv_at hl 0 rfl) ?_
      refine lv_iadd hx hb dX3_lettersStanding_16 ?_
      refine lv_topi (fun x_9 ex_9 => ?_)
      have qx_9 : x_9.toInt = rp.toInt + i_2.toInt := by rw [ex_9]; exact zf_add rfl rfl (by omega) (by omega)
      refine lv_aload_n hx hb dX3_lettersStanding_17 rfl (lv_at hl 2 rfl) ?_
      refine lv_iload_n hx hb dX3_lettersStanding_18 rfl (lv_at hl 0 rfl) ?_
      skip
      refine zw_V (As := [.int i_2]) (rest := [.int x_9, .ref rd]) (wr := [(rd, .inr (3, [.ref ri, .ref rl, .int rz, .int rc, .int rp, .int rf, .int rt, .int ru])), (rl, .inl (cI, 160, .inl fl))]) ⟨hx, hb, hml, hown, hts⟩ (c_S_charAt l D cI cJ cZ cP cS po i (i_2) hi (by first | assumption | omega) H.size) (cwV 1 hts gX3_lettersStanding_J0_charAt_5068e rfl rfl rfl ⟨rfl, dh_J0_charAt_5068e⟩ ⟨Nat.le_of_ble_eq_true rfl, Nat.le_of_ble_eq_true rfl⟩) hK hN (hZ.kept hS) hP hD hS hA [] [0, 1] rfl rfl (by decide) (by decide) (by decide) (vk_recv hZ.2.2.1 hi hS) rfl hl.1 rfl (Nat.le_of_ble_eq_true rfl) dX3_lettersStanding_19 ⟨Nat.le_of_ble_eq_true rfl, Nat.le_of_ble_eq_true rfl⟩ (fun r_10 u_11 H locs hr_10 hP hD hS => ?_)
      obtain ⟨hsr_10_0, hr_10⟩ := hr_10
      have h9R := zRe (ws' := [(rd, .inr (3, [.ref ri, .ref rl, .int rz, .int rc, .int rp, .int rf, .int rt, .int ru])), (rl, .inl (cI, 160, .inl fl))]) hP hD rfl
      clear hP hD
      obtain ⟨hP, hD⟩ := h9R
      refine zc_V (As := [.int x_9, .int r_10]) (rest := []) ⟨hx, hb, hml, hown, hts⟩ (c_R_stands l D cI cJ cZ cP cS po rd ri rl (rz) (rc) (rp) (rf) (rt) (ru) fl (x_9) (r_10) hy0 hy1 hy2 hy3 hy4 hy5 (by omega) hy7 hy8 hy9 hy10 hy11 hy12) (cwV 2 hts gX3_lettersStanding_X3_stands rfl rfl rfl ⟨rfl, dh_X3_stands⟩ ⟨Nat.le_of_ble_eq_true rfl, Nat.le_of_ble_eq_true rfl⟩) hK hN (hZ.kept hS) hP (hP.sub [0, 1] rfl) (va_recv (q := (RX3, TX3, 8)) hK hP (ci := 3) (q0 := 0) rfl rfl) rfl hl.1 rfl (Nat.le_of_ble_eq_true rfl) dX3_lettersStanding_22 ⟨Nat.le_of_ble_eq_true rfl, Nat.le_of_ble_eq_true rfl⟩ (fun r_12 hr_12 => ?_)
      obtain ⟨g_13, g_14, hsr_12_0, hsr_12_1⟩ := hr_12
      refine lv_if_eq (tgt := 34) hx hb dX3_lettersStanding_25 (by decide) (fun c_15 => ?_) (fun c_15 => ?_)
      · have fc_15 : r_12.toInt = 0 := zf_eq c_15 rfl (by decide)
        refine lv_iload_n hx hb dX3_lettersStanding_34 rfl (lv_at hl 0 rfl) ?_
        exact W.iret (v := i_2) hx hb hr (fun t ht hW => ⟨⟨i_2, (), rfl, ⟨(show rp.toInt + (i_2 : Int32).toInt ≤ rz.toInt ∧ (i_2 : Int32).toInt ≤ (zLen.getD i 0 : Nat) from by exact ⟨by omega, by omega⟩), (show (i_2 : Int32).toInt = (zLc fl rz.toInt rp.toInt (zWds i) : Nat) from by exact zLt_end hi (by omega) (by omega) hvi_2_1 (Or.inr (zLt_no qx_9 hsr_10_0 hsr_12_1 (by omega) (by omega)))), ⟨by omega, by omega⟩⟩, zRet ht hP hD [0, 1] (by decide) rfl⟩, hS.F ht⟩) hS.2.2 dX3_lettersStanding_35
      · have fc_15 : r_12.toInt ≠ 0 := zf_ne c_15 rfl (by decide)
        obtain ⟨x_16, ex_16⟩ : ∃ y : Int32, y = i_2 + 1 := ⟨_, rfl⟩
        have qx_16 : x_16.toInt = i_2.toInt + 1 := dw_inc ex_16 fc_8
        refine lv_iinc (v := x_16) (lv' := [(2, .int x_16), (0, .ref rd), (1, .ref (po.2.1 i))]) hx hb dX3_lettersStanding_28 hl (k := 0) rfl ex_16.symm (by decide) rfl (fun ls hl => ?_)
        refine lv_goto (tgt := 2) hx hb dX3_lettersStanding_31 (by decide) ?_
        exact ih x_16 _ _ _ (hP.sub [0, 1] rfl) (hD.sub [0, 1] (by decide) rfl) hS (lv_sub hl [0, 1, 2] rfl) (show rp.toInt + x_16.toInt ≤ rz.toInt ∧ x_16.toInt ≤ (zLen.getD i 0 : Nat) from by exact ⟨by omega, by omega⟩) (show (∀ j : Nat, j < x_16.toInt.toNat → rp.toInt + (j : Int) < rz.toInt ∧ fl (rp.toInt + (j : Int)).toNat = (zWds i).getD j 0) from by exact zLt_S hvi_2_1 qx_9 hsr_10_0 hsr_12_1 (by omega) (by omega) (by omega)) (dw_lo hloi_2 qx_16) (dw_hn hni_2 qx_16)
set_option maxHeartbeats 4000000 in
set_option maxRecDepth 100000 in
theorem c_F_R_takeWord (l : Launch) (D : va_G) (cI cJ cZ cP cS : ClassId) (po : zPool) (rd ri rl : Nat) (rz rc rp rf rt ru : Int32) (w n : Int32) (hy0 : 0 ≤ rz.toInt) (hy1 : rz.toInt ≤ 160) (hy2 : 0 ≤ rc.toInt) (hy3 : rc.toInt ≤ 40) (hy4 : 0 ≤ rp.toInt) (hy5 : rp.toInt ≤ 160) (hy6 : rp.toInt ≤ rz.toInt) (hy7 : (-1) ≤ rf.toInt) (hy8 : rf.toInt ≤ 160) (hy9 : 0 ≤ rt.toInt) (hy10 : rt.toInt ≤ 40) (hy11 : 0 ≤ ru.toInt) (hy12 : ru.toInt ≤ 8) (hy13 : 0 ≤ w.toInt) (hy14 : w.toInt ≤ 9) (hy15 : 0 ≤ n.toInt) (hy16 : n.toInt ≤ 7) (hpn : rp.toInt + n.toInt ≤ rz.toInt) (hpz : Nat) : Met l yX3_takeWord wsX3_takeWord ({ frames := 0, cells := 0, slots := 0, locals := 0 }) (va_Pc [.ref rd, .int w, .int n] (zW D (zKT cI cJ cZ cP cS) po [(rd, .inr (3, [.ref ri, .ref rl, .int rz, .int rc, .int rp, .int rf, .int rt, .int ru]))] hpz)) (va_Qi (fun (r : Int32) (u : (Int32) × (Int32)) => (0 ≤ u.1.toInt ∧ u.1.toInt ≤ 160) ∧ ((-1) ≤ u.2.toInt ∧ u.2.toInt ≤ 160) ∧ (u.1.toInt ≤ rz.toInt) ∧ (((w.toInt = 3 ∧ ru.toInt = 8 ∧ r.toInt = -1 ∧ u.2.toInt = rp.toInt) ∨ (¬ (w.toInt = 3 ∧ ru.toInt = 8) ∧ r.toInt = w.toInt ∧ u.2.toInt = rf.toInt ∧ u.1.toInt = rp.toInt + n.toInt))) ∧ (-1 ≤ r.toInt ∧ r.toInt ≤ 9)) (zB D [(rd, .inr (3, [.ref ri, .ref rl, .int rz, .int rc, .int rp, .int rf, .int rt, .int ru]))] hpz (fun (u : (Int32) × (Int32)) => [(rd, .inr (3, [.ref ri, .ref rl, .int rz, .int rc, .int u.1, .int u.2, .int rt, .int ru]))])) (va_A [(rd, .inr (3, [.ref ri, .ref rl, .int rz, .int rc, .int rp, .int rf, .int rt, .int ru]))] hpz)) 0 0 (va_A [(rd, .inr (3, [.ref ri, .ref rl, .int rz, .int rc, .int rp, .int rf, .int rt, .int ru]))] hpz) := by
  refine Met.ofW (cc := cX3_takeWord) (maxL := 3) (ret := (some .int)) (by decide) rfl ?_
  intro p e s m args below meth c s₁ B hml hv
  obtain ⟨rfl, hsz, hP, hK, hD0, hN, hZ⟩ := hv
  have hx := B.exec
  have hb := B.bytes
  have hr := B.returns
  have hts := atoms_spec (ws := wsX3_takeWord) B.pre
  have hown : s.vm.findClass RX3 = some m.cls := findClass_of_methodNamed B.named
  have hlocks := B.notSynchronized
  subst hsz
  have hD := hD0.self (sz := s.heap.size)
  have hA := zA_of hD
  have hl := lv_entry ([.ref rd, .int w, .int n]) (n := 3) (Nat.le_of_ble_eq_true rfl)
  rw [lg_entry_eq]
  generalize (lg_sl ([.ref rd, .int w, .int n]) ++ List.replicate (3 - (lg_sl ([.ref rd, .int w, .int n])).length) Slot.unset).toArray = ls at hl ⊢
  replace hl : lv_has ls 3 [(0, .ref rd), (1, .int w), (2, .int n)] := hl
  refine zw_begin hP hD (fun H locs hP1 hS => ?_)
  clear hP
  have hP := hP1
  clear hP1
  refine lv_iload_n hx hb dX3_takeWord_0 rfl (lv_at hl 1 rfl) ?_
  refine lv_iconst (v := 3) hx hb dX3_takeWord_1 (by decide) ?_
  refine lv_icmp_ne (tgt := 24) hx hb dX3_takeWord_2 (by decide) (fun c_1 => ?_) (fun c_1 => ?_)
  · have fc_1 : w.toInt ≠ 3 := zf_ne c_1 rfl (by decide)
    refine lv_aload_n hx hb dX3_takeWord_24 rfl (lv_at hl 0 rfl) ?_
    refine lv_dup hx hb dX3_takeWord_25 rfl ?_
    refine va_get (D := D) (ci := 3) (v := .int rp) (C := RX3) (T := TX3) (N := 8) hx hb hts hi_X3_takeWord_3 hown hK hP 0 rfl rfl 4 (by decide) (hts (.fieldLink RX3 25 "TheLiningsInIt$Reader" "place" "I") (List.mem_of_getElem? (i := 2) rfl)) (fun _ h9 => h9) rfl dX3_takeWord_26 ?_
    refine lv_iload_n hx hb dX3_takeWord_29 rfl (lv_at hl 2 rfl) ?_
    refine lv_iadd hx hb dX3_takeWord_30 ?_
    refine lv_topi (fun x_2 ex_2 => ?_)
    have qx_2 : x_2.toInt = rp.toInt + n.toInt := by rw [ex_2]; exact zf_add rfl rfl (by omega) (by omega)
    refine va_put (D := D) (ci := 3) (v := .int x_2) (ty := .int) (C := RX3) (T := TX3) (N := 8) hx hb hts hi_X3_takeWord_3 tyX3 tyX3_ok nmX3 hown hK hP hD hS 0 rfl rfl 4 (by decide) (hts (.fieldLink RX3 25 "TheLiningsInIt$Reader" "place" "I") (List.mem_of_getElem? (i := 2) rfl)) (fun _ h9 => h9) rfl (tyX3_ok 4 (Nat.le_of_ble_eq_true rfl)) rfl rfl (Nat.le_of_ble_eq_true rfl) dX3_takeWord_31 (fun H locs hP hD hS => ?_)
    have h9R := zRe (ws' := [(rd, .inr (3, [.ref ri, .ref rl, .int rz, .int rc, .int x_2, .int rf, .int rt, .int ru]))]) hP hD rfl
    clear hP hD
    obtain ⟨hP, hD⟩ := h9R
    refine lv_iload_n hx hb dX3_takeWord_34 rfl (lv_at hl 1 rfl) ?_
    exact W.iret (v := w) hx hb hr (fun t ht hW => ⟨⟨w, (x_2, rf), rfl, ⟨(show 0 ≤ x_2.toInt ∧ x_2.toInt ≤ 160 from ⟨by omega, by omega⟩), (show (-1) ≤ rf.toInt ∧ rf.toInt ≤ 160 from ⟨hy7, hy8⟩), (show x_2.toInt ≤ rz.toInt from by omega), (show ((w.toInt = 3 ∧ ru.toInt = 8 ∧ (w : Int32).toInt = -1 ∧ rf.toInt = rp.toInt) ∨ (¬ (w.toInt = 3 ∧ ru.toInt = 8) ∧ (w : Int32).toInt = w.toInt ∧ rf.toInt = rf.toInt ∧ x_2.toInt = rp.toInt + n.toInt)) from by (omega)), ⟨by omega, by omega⟩⟩, zRet ht hP hD [0] (by decide) rfl⟩, hS.F ht⟩) hS.2.2 dX3_takeWord_35
  · have fc_1 : w.toInt = 3 := zf_eq c_1 rfl (by decide)
    refine lv_aload_n hx hb dX3_takeWord_5 rfl (lv_at hl 0 rfl) ?_
    refine va_get (D := D) (ci := 3) (v := .int ru) (C := RX3) (T := TX3) (N := 8) hx hb hts hi_X3_takeWord_3 hown hK hP 0 rfl rfl 7 (by decide) (hts (.fieldLink RX3 34 "TheLiningsInIt$Reader" "pulls" "I") (List.mem_of_getElem? (i := 1) rfl)) (fun _ h9 => h9) rfl dX3_takeWord_6 ?_
    refine lv_bipush (v := 8) hx hb dX3_takeWord_9 (by decide) ?_
    refine lv_icmp_lt (tgt := 24) hx hb dX3_takeWord_11 (by decide) (fun c_3 => ?_) (fun c_3 => ?_)
    · have fc_3 : ru.toInt < 8 := zf_lt c_3 rfl (by decide)
      refine lv_aload_n hx hb dX3_takeWord_24 rfl (lv_at hl 0 rfl) ?_
      refine lv_dup hx hb dX3_takeWord_25 rfl ?_
      refine va_get (D := D) (ci := 3) (v := .int rp) (C := RX3) (T := TX3) (N := 8) hx hb hts hi_X3_takeWord_3 hown hK hP 0 rfl rfl 4 (by decide) (hts (.fieldLink RX3 25 "TheLiningsInIt$Reader" "place" "I") (List.mem_of_getElem? (i := 2) rfl)) (fun _ h9 => h9) rfl dX3_takeWord_26 ?_
      refine lv_iload_n hx hb dX3_takeWord_29 rfl (lv_at hl 2 rfl) ?_
      refine lv_iadd hx hb dX3_takeWord_30 ?_
      refine lv_topi (fun x_4 ex_4 => ?_)
      have qx_4 : x_4.toInt = rp.toInt + n.toInt := by rw [ex_4]; exact zf_add rfl rfl (by omega) (by omega)
      refine va_put (D := D) (ci := 3) (v := .int x_4) (ty := .int) (C := RX3) (T := TX3) (N := 8) hx hb hts hi_X3_takeWord_3 tyX3 tyX3_ok nmX3 hown hK hP hD hS 0 rfl rfl 4 (by decide) (hts (.fieldLink RX3 25 "TheLiningsInIt$Reader" "place" "I") (List.mem_of_getElem? (i := 2) rfl)) (fun _ h9 => h9) rfl (tyX3_ok 4 (Nat.le_of_ble_eq_true rfl)) rfl rfl (Nat.le_of_ble_eq_true rfl) dX3_takeWord_31 (fun H locs hP hD hS => ?_)
      have h9R := zRe (ws' := [(rd, .inr (3, [.ref ri, .ref rl, .int rz, .int rc, .int x_4, .int rf, .int rt, .int ru]))]) hP hD rfl
      clear hP hD
      obtain ⟨hP, hD⟩ := h9R
      refine lv_iload_n hx hb dX3_takeWord_34 rfl (lv_at hl 1 rfl) ?_
      exact W.iret (v := w) hx hb hr (fun t ht hW => ⟨⟨w, (x_4, rf), rfl, ⟨(show 0 ≤ x_4.toInt ∧ x_4.toInt ≤ 160 from ⟨by omega, by omega⟩), (show (-1) ≤ rf.toInt ∧ rf.toInt ≤ 160 from ⟨hy7, hy8⟩), (show x_4.toInt ≤ rz.toInt from by omega), (show ((w.toInt = 3 ∧ ru.toInt = 8 ∧ (w : Int32).toInt = -1 ∧ rf.toInt = rp.toInt) ∨ (¬ (w.toInt = 3 ∧ ru.toInt = 8) ∧ (w : Int32).toInt = w.toInt ∧ rf.toInt = rf.toInt ∧ x_4.toInt = rp.toInt + n.toInt)) from by (omega)), ⟨by omega, by omega⟩⟩, zRet ht hP hD [0] (by decide) rfl⟩, hS.F ht⟩) hS.2.2 dX3_takeWord_35
    · have fc_3 : 8 ≤ ru.toInt := zf_nlt c_3 rfl (by decide)
      refine lv_aload_n hx hb dX3_takeWord_14 rfl (lv_at hl 0 rfl) ?_
      refine lv_aload_n hx hb dX3_takeWord_15 rfl (lv_at hl 0 rfl) ?_
      refine va_get (D := D) (ci := 3) (v := .int rp) (C := RX3) (T := TX3) (N := 8) hx hb hts hi_X3_takeWord_3 hown hK hP 0 rfl rfl 4 (by decide) (hts (.fieldLink RX3 25 "TheLiningsInIt$Reader" "place" "I") (List.mem_of_getElem? (i := 2) rfl)) (fun _ h9 => h9) rfl dX3_takeWord_16 ?_
      refine va_put (D := D) (ci := 3) (v := .int rp) (ty := .int) (C := RX3) (T := TX3) (N := 8) hx hb hts hi_X3_takeWord_3 tyX3 tyX3_ok nmX3 hown hK hP hD hS 0 rfl rfl 5 (by decide) (hts (.fieldLink RX3 28 "TheLiningsInIt$Reader" "fault" "I") (List.mem_of_getElem? (i := 3) rfl)) (fun _ h9 => h9) rfl (tyX3_ok 5 (Nat.le_of_ble_eq_true rfl)) rfl rfl (Nat.le_of_ble_eq_true rfl) dX3_takeWord_19 (fun H locs hP hD hS => ?_)
      have h9R := zRe (ws' := [(rd, .inr (3, [.ref ri, .ref rl, .int rz, .int rc, .int rp, .int rp, .int rt, .int ru]))]) hP hD rfl
      clear hP hD
      obtain ⟨hP, hD⟩ := h9R
      refine lv_iconst (v := (-1)) hx hb dX3_takeWord_22 (by decide) ?_
      exact W.iret (v := (-1)) hx hb hr (fun t ht hW => ⟨⟨(-1), (rp, rp), rfl, ⟨(show 0 ≤ rp.toInt ∧ rp.toInt ≤ 160 from ⟨hy4, hy5⟩), (show (-1) ≤ rp.toInt ∧ rp.toInt ≤ 160 from ⟨by omega, hy5⟩), (show rp.toInt ≤ rz.toInt from by omega), (show ((w.toInt = 3 ∧ ru.toInt = 8 ∧ ((-1) : Int32).toInt = -1 ∧ rp.toInt = rp.toInt) ∨ (¬ (w.toInt = 3 ∧ ru.toInt = 8) ∧ ((-1) : Int32).toInt = w.toInt ∧ rp.toInt = rf.toInt ∧ rp.toInt = rp.toInt + n.toInt)) from by (have k9 : ((-1) : Int32).toInt = -1 := (by decide); omega)), ⟨by decide, by decide⟩⟩, zRet ht hP hD [0] (by decide) rfl⟩, hS.F ht⟩) hS.2.2 dX3_takeWord_23
set_option maxHeartbeats 4000000 in
set_option maxRecDepth 100000 in
theorem c_F_R_readWord (l : Launch) (D : va_G) (cI cJ cZ cP cS : ClassId) (po : zPool) (rd ri rl : Nat) (rz rc rp rf rt ru : Int32) (fl : Nat → Int32) (hy0 : 0 ≤ rz.toInt) (hy1 : rz.toInt ≤ 160) (hy2 : 0 ≤ rc.toInt) (hy3 : rc.toInt ≤ 40) (hy4 : 0 ≤ rp.toInt) (hy5 : rp.toInt ≤ 160) (hy6 : rp.toInt ≤ rz.toInt) (hy7 : (-1) ≤ rf.toInt) (hy8 : rf.toInt ≤ 160) (hy9 : 0 ≤ rt.toInt) (hy10 : rt.toInt ≤ 40) (hy11 : 0 ≤ ru.toInt) (hy12 : ru.toInt ≤ 8) (hpz : Nat) : Met l yX3_readWord wsX3_readWord ({ frames := 5, cells := 0, slots := 0, locals := 107 }) (va_Pc [.ref rd] (zW D (zKT cI cJ cZ cP cS) po [(rd, .inr (3, [.ref ri, .ref rl, .int rz, .int rc, .int rp, .int rf, .int rt, .int ru])), (rl, .inl (cI, 160, .inl fl))] hpz)) (va_Qi (fun (r : Int32) (u : (Int32) × (Int32)) => (0 ≤ u.1.toInt ∧ u.1.toInt ≤ 160) ∧ ((-1) ≤ u.2.toInt ∧ u.2.toInt ≤ 160) ∧ (u.1.toInt ≤ rz.toInt) ∧ (((zFst fl rz.toInt rp.toInt zWds 10 = -1 ∧ r.toInt = -1 ∧ u.2.toInt = rp.toInt + (zMx fl rz.toInt rp.toInt zWds 10 : Nat)) ∨ (zFst fl rz.toInt rp.toInt zWds 10 = 3 ∧ ru.toInt = 8 ∧ r.toInt = -1 ∧ u.2.toInt = rp.toInt) ∨ (zFst fl rz.toInt rp.toInt zWds 10 = r.toInt ∧ 0 ≤ r.toInt ∧ ¬ (r.toInt = 3 ∧ ru.toInt = 8) ∧ u.2.toInt = rf.toInt ∧ u.1.toInt = rp.toInt + ((zWds r.toInt.toNat).length : Nat)))) ∧ (-1 ≤ r.toInt ∧ r.toInt ≤ 9)) (zB D [(rd, .inr (3, [.ref ri, .ref rl, .int rz, .int rc, .int rp, .int rf, .int rt, .int ru])), (rl, .inl (cI, 160, .inl fl))] hpz (fun (u : (Int32) × (Int32)) => [(rd, .inr (3, [.ref ri, .ref rl, .int rz, .int rc, .int u.1, .int u.2, .int rt, .int ru])), (rl, .inl (cI, 160, .inl fl))])) (va_A [(rd, .inr (3, [.ref ri, .ref rl, .int rz, .int rc, .int rp, .int rf, .int rt, .int ru])), (rl, .inl (cI, 160, .inl fl))] hpz)) 0 0 (va_A [(rd, .inr (3, [.ref ri, .ref rl, .int rz, .int rc, .int rp, .int rf, .int rt, .int ru])), (rl, .inl (cI, 160, .inl fl))] hpz) := by
  refine Met.ofW (cc := cX3_readWord) (maxL := 5) (ret := (some .int)) (by decide) rfl ?_
  intro p e s m args below meth c s₁ B hml hv
  obtain ⟨rfl, hsz, hP, hK, hD0, hN, hZ⟩ := hv
  have hx := B.exec
  have hb := B.bytes
  have hr := B.returns
  have hts := atoms_spec (ws := wsX3_readWord) B.pre
  have hown : s.vm.findClass RX3 = some m.cls := findClass_of_methodNamed B.named
  have hlocks := B.notSynchronized
  subst hsz
  have hD := hD0.self (sz := s.heap.size)
  have hA := zA_of hD
  have hl := lv_entry ([.ref rd]) (n := 5) (Nat.le_of_ble_eq_true rfl)
  rw [lg_entry_eq]
  generalize (lg_sl ([.ref rd]) ++ List.replicate (5 - (lg_sl ([.ref rd])).length) Slot.unset).toArray = ls at hl ⊢
  replace hl : lv_has ls 5 [(0, .ref rd)] := hl
  refine zw_begin hP hD (fun H locs hP1 hS => ?_)
  clear hP
  have hP := hP1
  clear hP1
  refine lv_iconst (v := 0) hx hb dX3_readWord_0 (by decide) ?_
  refine lv_istore_n (lv' := [(1, .int 0), (0, .ref rd)]) hx hb dX3_readWord_1 rfl hl (by decide) rfl (fun ls hl => ?_)
  refine lv_iconst (v := 0) hx hb dX3_readWord_2 (by decide) ?_
  refine lv_istore_n (lv' := [(2, .int 0), (1, .int 0), (0, .ref rd)]) hx hb dX3_readWord_3 rfl hl (by decide) rfl (fun ls hl => ?_)
  obtain ⟨i_4, hi_4⟩ : ∃ i : Int32, i = 0 := ⟨_, rfl⟩
  replace hl : lv_has ls 5 [(2, .int i_4), (1, .int 0), (0, .ref rd)] := by rw [hi_4]; exact lv_sub hl [0, 1, 2] rfl
  have h1i_4 : i_4.toInt = 0 := by rw [hi_4]; decide
  obtain ⟨nfu, hni_4⟩ : ∃ nq9 : Nat, 10 ≤ i_4.toInt + (nq9 : Int) := ⟨((10 : Int) - 0).toNat, by omega⟩
  have hloi_4 : 0 ≤ i_4.toInt := by omega
  obtain ⟨v_1, hv_1⟩ : ∃ g : Int32, g = 0 := ⟨_, rfl⟩
  replace hl : lv_has ls 5 [(2, .int i_4), (1, .int v_1), (0, .ref rd)] := by rw [hv_1]; exact hl
  have hbv_1 : 0 ≤ v_1.toInt ∧ v_1.toInt ≤ 7 := by rw [hv_1]; exact ⟨by decide, by decide⟩
  have hvi_4_0 : rp.toInt + (v_1 : Int32).toInt ≤ rz.toInt := by
    (try rw [hi_4]); (try rw [hv_1]); have k0 : (0 : Int32).toInt = 0 := (by decide); omega
  have hvi_4_1 : zFst fl rz.toInt rp.toInt zWds i_4.toInt.toNat = -1 := by
    (try rw [hi_4]); (try rw [hv_1]); (rw [show ((0 : Int32).toInt.toNat) = 0 from by decide]; rfl)
  have hvi_4_2 : (v_1 : Int32).toInt = (zMx fl rz.toInt rp.toInt zWds i_4.toInt.toNat : Nat) := by
    (try rw [hi_4]); (try rw [hv_1]); (rw [show ((0 : Int32).toInt.toNat) = 0 from by decide]; show _ = ((0 : Nat) : Int); decide)
  have hvi_4_3 : i_4.toInt ≤ 10 := by
    (try rw [hi_4]); (try rw [hv_1]); first | omega | decide
  clear h1i_4 hi_4 hv_1
  skip
  revert hni_4
  revert hloi_4
  revert hvi_4_3
  revert hvi_4_2
  revert hvi_4_1
  revert hvi_4_0
  revert hbv_1
  revert hl
  revert hS
  revert hD
  revert hP
  revert ls
  revert locs
  revert H
  revert v_1
  revert i_4
  induction nfu with
  | zero =>
    intro i_4 v_1 H locs ls hP hD hS hl hbv_1 hvi_4_0 hvi_4_1 hvi_4_2 hvi_4_3 hloi_4 hni_4
    have hzi_4 : 10 ≤ i_4.toInt := by omega
    refine lv_iload_n hx hb dX3_readWord_4 rfl (lv_at hl 0 rfl) ?_
    refine lv_bipush (v := 10) hx hb dX3_readWord_5 (by decide) ?_
    refine lv_icmp_ge (tgt := 52) hx hb dX3_readWord_7 (by decide) (fun c_2 => ?_) (fun c_2 => ?_)
    · have fc_2 : 10 ≤ i_4.toInt := zf_le c_2 (by decide) rfl
      refine lv_aload_n hx hb dX3_readWord_52 rfl (lv_at hl 2 rfl) ?_
      refine lv_aload_n hx hb dX3_readWord_53 rfl (lv_at hl 2 rfl) ?_
      refine va_get (D := D) (ci := 3) (v := .int rp) (C := RX3) (T := TX3) (N := 8) hx hb hts hi_X3_readWord_3 hown hK hP 0 rfl rfl 4 (by decide) (hts (.fieldLink RX3 25 "TheLiningsInIt$Reader" "place" "I") (List.mem_of_getElem? (i := 5) rfl)) (fun _ h9 => h9) rfl dX3_readWord_54 ?_
      refine lv_iload_n hx hb dX3_readWord_57 rfl (lv_at hl 1 rfl) ?_
      refine lv_iadd hx hb dX3_readWord_58 ?_
      refine lv_topi (fun x_3 ex_3 => ?_)
      have qx_3 : x_3.toInt = rp.toInt + v_1.toInt := by rw [ex_3]; exact zf_add rfl rfl (by omega) (by omega)
      refine va_put (D := D) (ci := 3) (v := .int x_3) (ty := .int) (C := RX3) (T := TX3) (N := 8) hx hb hts hi_X3_readWord_3 tyX3 tyX3_ok nmX3 hown hK hP hD hS 0 rfl rfl 5 (by decide) (hts (.fieldLink RX3 28 "TheLiningsInIt$Reader" "fault" "I") (List.mem_of_getElem? (i := 6) rfl)) (fun _ h9 => h9) rfl (tyX3_ok 5 (Nat.le_of_ble_eq_true rfl)) rfl rfl (Nat.le_of_ble_eq_true rfl) dX3_readWord_59 (fun H locs hP hD hS => ?_)
      have h9R := zRe (ws' := [(rd, .inr (3, [.ref ri, .ref rl, .int rz, .int rc, .int rp, .int x_3, .int rt, .int ru])), (rl, .inl (cI, 160, .inl fl))]) hP hD rfl
      clear hP hD
      obtain ⟨hP, hD⟩ := h9R
      refine lv_iconst (v := (-1)) hx hb dX3_readWord_62 (by decide) ?_
      exact W.iret (v := (-1)) hx hb hr (fun t ht hW => ⟨⟨(-1), (rp, x_3), rfl, ⟨(show 0 ≤ rp.toInt ∧ rp.toInt ≤ 160 from ⟨hy4, hy5⟩), (show (-1) ≤ x_3.toInt ∧ x_3.toInt ≤ 160 from ⟨by omega, by omega⟩), (show rp.toInt ≤ rz.toInt from by omega), (show ((zFst fl rz.toInt rp.toInt zWds 10 = -1 ∧ ((-1) : Int32).toInt = -1 ∧ x_3.toInt = rp.toInt + (zMx fl rz.toInt rp.toInt zWds 10 : Nat)) ∨ (zFst fl rz.toInt rp.toInt zWds 10 = 3 ∧ ru.toInt = 8 ∧ ((-1) : Int32).toInt = -1 ∧ x_3.toInt = rp.toInt) ∨ (zFst fl rz.toInt rp.toInt zWds 10 = ((-1) : Int32).toInt ∧ 0 ≤ ((-1) : Int32).toInt ∧ ¬ (((-1) : Int32).toInt = 3 ∧ ru.toInt = 8) ∧ x_3.toInt = rf.toInt ∧ rp.toInt = rp.toInt + ((zWds ((-1) : Int32).toInt.toNat).length : Nat))) from by (have h10 : i_4.toInt.toNat = 10 := (by omega); have z1 := hvi_4_1; have z2 := hvi_4_2; rw [h10] at z1 z2; exact Or.inl ⟨z1, by decide, by omega⟩)), ⟨by decide, by decide⟩⟩, zRet ht hP hD [0, 1] (by decide) rfl⟩, hS.F ht⟩) hS.2.2 dX3_readWord_63
    · exfalso; have fc_2 : i_4.toInt < 10 := zf_nle c_2 (by decide) rfl; omega
  | succ nfu ih =>
    intro i_4 v_1 H locs ls hP hD hS hl hbv_1 hvi_4_0 hvi_4_1 hvi_4_2 hvi_4_3 hloi_4 hni_4
    refine lv_iload_n hx hb dX3_readWord_4 rfl (lv_at hl 0 rfl) ?_
    refine lv_bipush (v := 10) hx hb dX3_readWord_5 (by decide) ?_
    refine lv_icmp_ge (tgt := 52) hx hb dX3_readWord_7 (by decide) (fun c_4 => ?_) (fun c_4 => ?_)
    · have fc_4 : 10 ≤ i_4.toInt := zf_le c_4 (by decide) rfl
      refine lv_aload_n hx hb dX3_readWord_52 rfl (lv_at hl 2 rfl) ?_
      refine lv_aload_n hx hb dX3_readWord_53 rfl (lv_at hl 2 rfl) ?_
      refine va_get (D := D) (ci := 3) (v := .int rp) (C := RX3) (T := TX3) (N := 8) hx hb hts hi_X3_readWord_3 hown hK hP 0 rfl rfl 4 (by decide) (hts (.fieldLink RX3 25 "TheLiningsInIt$Reader" "place" "I") (List.mem_of_getElem? (i := 5) rfl)) (fun _ h9 => h9) rfl dX3_readWord_54 ?_
      refine lv_iload_n hx hb dX3_readWord_57 rfl (lv_at hl 1 rfl) ?_
      refine lv_iadd hx hb dX3_readWord_58 ?_
      refine lv_topi (fun x_5 ex_5 => ?_)
      have qx_5 : x_5.toInt = rp.toInt + v_1.toInt := by rw [ex_5]; exact zf_add rfl rfl (by omega) (by omega)
      refine va_put (D := D) (ci := 3) (v := .int x_5) (ty := .int) (C := RX3) (T := TX3) (N := 8) hx hb hts hi_X3_readWord_3 tyX3 tyX3_ok nmX3 hown hK hP hD hS 0 rfl rfl 5 (by decide) (hts (.fieldLink RX3 28 "TheLiningsInIt$Reader" "fault" "I") (List.mem_of_getElem? (i := 6) rfl)) (fun _ h9 => h9) rfl (tyX3_ok 5 (Nat.le_of_ble_eq_true rfl)) rfl rfl (Nat.le_of_ble_eq_true rfl) dX3_readWord_59 (fun H locs hP hD hS => ?_)
      have h9R := zRe (ws' := [(rd, .inr (3, [.ref ri, .ref rl, .int rz, .int rc, .int rp, .int x_5, .int rt, .int ru])), (rl, .inl (cI, 160, .inl fl))]) hP hD rfl
      clear hP hD
      obtain ⟨hP, hD⟩ := h9R
      refine lv_iconst (v := (-1)) hx hb dX3_readWord_62 (by decide) ?_
      exact W.iret (v := (-1)) hx hb hr (fun t ht hW => ⟨⟨(-1), (rp, x_5), rfl, ⟨(show 0 ≤ rp.toInt ∧ rp.toInt ≤ 160 from ⟨hy4, hy5⟩), (show (-1) ≤ x_5.toInt ∧ x_5.toInt ≤ 160 from ⟨by omega, by omega⟩), (show rp.toInt ≤ rz.toInt from by omega), (show ((zFst fl rz.toInt rp.toInt zWds 10 = -1 ∧ ((-1) : Int32).toInt = -1 ∧ x_5.toInt = rp.toInt + (zMx fl rz.toInt rp.toInt zWds 10 : Nat)) ∨ (zFst fl rz.toInt rp.toInt zWds 10 = 3 ∧ ru.toInt = 8 ∧ ((-1) : Int32).toInt = -1 ∧ x_5.toInt = rp.toInt) ∨ (zFst fl rz.toInt rp.toInt zWds 10 = ((-1) : Int32).toInt ∧ 0 ≤ ((-1) : Int32).toInt ∧ ¬ (((-1) : Int32).toInt = 3 ∧ ru.toInt = 8) ∧ x_5.toInt = rf.toInt ∧ rp.toInt = rp.toInt + ((zWds ((-1) : Int32).toInt.toNat).length : Nat))) from by (have h10 : i_4.toInt.toNat = 10 := (by omega); have z1 := hvi_4_1; have z2 := hvi_4_2; rw [h10] at z1 z2; exact Or.inl ⟨z1, by decide, by omega⟩)), ⟨by decide, by decide⟩⟩, zRet ht hP hD [0, 1] (by decide) rfl⟩, hS.F ht⟩) hS.2.2 dX3_readWord_63
    · have fc_4 : i_4.toInt < 10 := zf_nle c_4 (by decide) rfl
      refine lv_iload_n hx hb dX3_readWord_10 rfl (lv_at hl 0 rfl) ?_
      refine zc_Sq (As := [.int i_4]) (rest := []) ⟨hx, hb, hml, hown, hts⟩ (c_R_wordAt l D cI cJ cZ cP cS po (i_4) (by omega) (by omega)) (va_cwS 1 hts gX3_readWord_X3_wordAt rfl rfl rfl dh_X3_wordAt ⟨Nat.le_of_ble_eq_true rfl, Nat.le_of_ble_eq_true rfl⟩) hK hN (hZ.kept hS) rfl hl.1 rfl (Nat.le_of_ble_eq_true rfl) dX3_readWord_11 ⟨Nat.le_of_ble_eq_true rfl, Nat.le_of_ble_eq_true rfl⟩ (fun r_6 hr_6 => ?_)
      obtain ⟨i_7, hi_7, hwi_7, rfl⟩ := hr_6
      refine W.eq (g2 := F0 m 14 ls (.ref (po.2.1 i_7) :: [])) rfl ?_
      refine lv_astore_n (lv' := [(3, .ref (po.2.1 i_7)), (2, .int i_4), (1, .int v_1), (0, .ref rd)]) hx hb dX3_readWord_14 rfl hl (by decide) rfl (fun ls hl => ?_)
      refine lv_aload_n hx hb dX3_readWord_15 rfl (lv_at hl 3 rfl) ?_
      refine lv_aload_n hx hb dX3_readWord_16 rfl (lv_at hl 0 rfl) ?_
      skip
      refine zw_V (As := [.ref (po.2.1 i_7)]) (rest := []) (wr := []) ⟨hx, hb, hml, hown, hts⟩ (c_F_R_letters l D cI cJ cZ cP cS po rd ri rl (rz) (rc) (rp) (rf) (rt) (ru) fl i_7 hy0 hy1 hy2 hy3 hy4 hy5 (by omega) hy7 hy8 hy9 hy10 hy11 hy12 hi_7 H.size) (cwV 1 hts gX3_readWord_X3_lettersStanding rfl rfl rfl ⟨rfl, dh_X3_lettersStanding⟩ ⟨Nat.le_of_ble_eq_true rfl, Nat.le_of_ble_eq_true rfl⟩) hK hN (hZ.kept hS) hP hD hS hA [0, 1] [] rfl rfl (by decide) (by decide) (by decide) (va_recv (q := (RX3, TX3, 8)) hK hP (ci := 3) (q0 := 0) rfl rfl) rfl hl.1 rfl (Nat.le_of_ble_eq_true rfl) dX3_readWord_17 ⟨Nat.le_of_ble_eq_true rfl, Nat.le_of_ble_eq_true rfl⟩ (fun r_8 u_9 H locs hr_8 hP hD hS => ?_)
      obtain ⟨hsr_8_0, hsr_8_1, hr_8⟩ := hr_8
      have h9R := zRe (ws' := [(rd, .inr (3, [.ref ri, .ref rl, .int rz, .int rc, .int rp, .int rf, .int rt, .int ru])), (rl, .inl (cI, 160, .inl fl))]) hP hD rfl
      clear hP hD
      obtain ⟨hP, hD⟩ := h9R
      obtain ⟨g_10, g_11⟩ := hr_8
      refine lv_istore (lv' := [(4, .int r_8), (3, .ref (po.2.1 i_7)), (2, .int i_4), (1, .int v_1), (0, .ref rd)]) hx hb dX3_readWord_20 hl (by decide) rfl (fun ls hl => ?_)
      refine lv_iload hx hb dX3_readWord_22 (lv_at hl 0 rfl) ?_
      refine lv_aload_n hx hb dX3_readWord_24 rfl (lv_at hl 1 rfl) ?_
      refine zc_V (As := []) (rest := [.int r_8]) ⟨hx, hb, hml, hown, hts⟩ (c_S_length l D cI cJ cZ cP cS po i_7 hi_7) (cwV 0 hts gX3_readWord_J0_length_8abf5 rfl rfl rfl ⟨rfl, dh_J0_length_8abf5⟩ ⟨Nat.le_of_ble_eq_true rfl, Nat.le_of_ble_eq_true rfl⟩) hK hN (hZ.kept hS) hP zP_nil (vk_recv hZ.2.2.1 hi_7 hS) rfl hl.1 rfl (Nat.le_of_ble_eq_true rfl) dX3_readWord_25 ⟨Nat.le_of_ble_eq_true rfl, Nat.le_of_ble_eq_true rfl⟩ (fun r_12 hr_12 => ?_)
      obtain ⟨g_13, g_14, hsr_12_0⟩ := hr_12
      refine lv_icmp_ne (tgt := 39) hx hb dX3_readWord_28 (by decide) (fun c_15 => ?_) (fun c_15 => ?_)
      · have fc_15 : r_8.toInt ≠ r_12.toInt := zf_ne c_15 rfl rfl
        refine lv_iload_n hx hb dX3_readWord_39 rfl (lv_at hl 3 rfl) ?_
        refine lv_iload hx hb dX3_readWord_40 (lv_at hl 0 rfl) ?_
        refine va_mmax hx hb (hml.trans hl.1.symm) hown (hts (.methodLink RX3 98 Lib.Math.max.name) (List.mem_of_getElem? (i := 1) rfl)) (hts _ (List.mem_of_getElem? (i := 2) rfl)) (hts _ (List.mem_of_getElem? (i := 3) rfl)) (hts _ (List.mem_of_getElem? (i := 4) rfl)) (Nat.le_of_ble_eq_true rfl) (Nat.le_of_ble_eq_true rfl) (Nat.le_of_ble_eq_true rfl) (Nat.le_of_ble_eq_true rfl) dX3_readWord_42 ?_
        refine lv_topi (fun x_16 ex_16 => ?_)
        have qx_16 := zf_max ex_16 (x1 := v_1.toInt) (y1 := r_8.toInt) rfl rfl
        refine lv_istore_n (lv' := [(1, .int x_16), (4, .int r_8), (3, .ref (po.2.1 i_7)), (2, .int i_4), (0, .ref rd)]) hx hb dX3_readWord_45 rfl hl (by decide) rfl (fun ls hl => ?_)
        obtain ⟨x_17, ex_17⟩ : ∃ y : Int32, y = i_4 + 1 := ⟨_, rfl⟩
        have qx_17 : x_17.toInt = i_4.toInt + 1 := dw_incK ex_17 fc_4 (by decide)
        refine lv_iinc (v := x_17) (lv' := [(2, .int x_17), (1, .int x_16), (4, .int r_8), (3, .ref (po.2.1 i_7)), (0, .ref rd)]) hx hb dX3_readWord_46 hl (k := 3) rfl ex_17.symm (by decide) rfl (fun ls hl => ?_)
        refine lv_goto (tgt := 4) hx hb dX3_readWord_49 (by decide) ?_
        exact ih x_17 x_16 _ _ _ (hP.sub [0, 1] rfl) (hD.sub [0, 1] (by decide) rfl) hS (lv_sub hl [0, 1, 4] rfl) ⟨by omega, by omega⟩ (show rp.toInt + (x_16 : Int32).toInt ≤ rz.toInt from by omega) (show zFst fl rz.toInt rp.toInt zWds x_17.toInt.toNat = -1 from by exact zRW_S hi_7 hwi_7 hvi_4_1 hsr_8_1 hsr_12_0 (by omega) (by omega)) (show (x_16 : Int32).toInt = (zMx fl rz.toInt rp.toInt zWds x_17.toInt.toNat : Nat) from by exact zRW_M hwi_7 hsr_8_1 (by omega) hvi_4_2 (by omega)) (show x_17.toInt ≤ 10 from by omega) (dw_lo hloi_4 qx_17) (dw_hn hni_4 qx_17)
      · have fc_15 : r_8.toInt = r_12.toInt := zf_eq c_15 rfl rfl
        refine lv_aload_n hx hb dX3_readWord_31 rfl (lv_at hl 4 rfl) ?_
        refine lv_iload_n hx hb dX3_readWord_32 rfl (lv_at hl 2 rfl) ?_
        refine lv_iload hx hb dX3_readWord_33 (lv_at hl 0 rfl) ?_
        skip
        refine zw_V (As := [.int i_4, .int r_8]) (rest := []) (wr := [(rl, .inl (cI, 160, .inl fl))]) ⟨hx, hb, hml, hown, hts⟩ (c_F_R_takeWord l D cI cJ cZ cP cS po rd ri rl (rz) (rc) (rp) (rf) (rt) (ru) (i_4) (r_8) hy0 hy1 hy2 hy3 hy4 hy5 (by omega) hy7 hy8 hy9 hy10 hy11 hy12 (by omega) (by omega) (by omega) (by omega) (by omega) H.size) (cwV 2 hts gX3_readWord_X3_takeWord rfl rfl rfl ⟨rfl, dh_X3_takeWord⟩ ⟨Nat.le_of_ble_eq_true rfl, Nat.le_of_ble_eq_true rfl⟩) hK hN (hZ.kept hS) hP hD hS hA [0] [1] rfl rfl (by decide) (by decide) (by decide) (va_recv (q := (RX3, TX3, 8)) hK hP (ci := 3) (q0 := 0) rfl rfl) rfl hl.1 rfl (Nat.le_of_ble_eq_true rfl) dX3_readWord_35 ⟨Nat.le_of_ble_eq_true rfl, Nat.le_of_ble_eq_true rfl⟩ (fun r_18 u_19 H locs hr_18 hP hD hS => ?_)
        obtain ⟨q_20, q_21⟩ := u_19
        try dsimp only at hr_18
        obtain ⟨hbq_20, hbq_21, hsr_18_0, hsr_18_1, hr_18⟩ := hr_18
        have h9R := zRe (ws' := [(rl, .inl (cI, 160, .inl fl)), (rd, .inr (3, [.ref ri, .ref rl, .int rz, .int rc, .int q_20, .int q_21, .int rt, .int ru]))]) hP hD rfl
        clear hP hD
        obtain ⟨hP, hD⟩ := h9R
        obtain ⟨g_22, g_23⟩ := hr_18
        exact W.iret (v := r_18) hx hb hr (fun t ht hW => ⟨⟨r_18, (q_20, q_21), rfl, ⟨(show 0 ≤ q_20.toInt ∧ q_20.toInt ≤ 160 from hbq_20), (show (-1) ≤ q_21.toInt ∧ q_21.toInt ≤ 160 from hbq_21), (show q_20.toInt ≤ rz.toInt from by omega), (show ((zFst fl rz.toInt rp.toInt zWds 10 = -1 ∧ (r_18 : Int32).toInt = -1 ∧ q_21.toInt = rp.toInt + (zMx fl rz.toInt rp.toInt zWds 10 : Nat)) ∨ (zFst fl rz.toInt rp.toInt zWds 10 = 3 ∧ ru.toInt = 8 ∧ (r_18 : Int32).toInt = -1 ∧ q_21.toInt = rp.toInt) ∨ (zFst fl rz.toInt rp.toInt zWds 10 = (r_18 : Int32).toInt ∧ 0 ≤ (r_18 : Int32).toInt ∧ ¬ ((r_18 : Int32).toInt = 3 ∧ ru.toInt = 8) ∧ q_21.toInt = rf.toInt ∧ q_20.toInt = rp.toInt + ((zWds (r_18 : Int32).toInt.toNat).length : Nat))) from by exact zRW hi_7 hwi_7 hvi_4_1 hsr_8_1 hsr_12_0 (by omega) (by omega)), ⟨by omega, by omega⟩⟩, zRet ht hP hD [1, 0] (by decide) rfl⟩, hS.F ht⟩) hS.2.2 dX3_readWord_38
set_option maxHeartbeats 4000000 in
set_option maxRecDepth 100000 in
theorem c_F_R_expect (l : Launch) (D : va_G) (cI cJ cZ cP cS : ClassId) (po : zPool) (rd ri rl : Nat) (rz rc rp rf rt ru : Int32) (fl : Nat → Int32) (ch : Int32) (hy0 : 0 ≤ rz.toInt) (hy1 : rz.toInt ≤ 160) (hy2 : 0 ≤ rc.toInt) (hy3 : rc.toInt ≤ 40) (hy4 : 0 ≤ rp.toInt) (hy5 : rp.toInt ≤ 160) (hy6 : rp.toInt ≤ rz.toInt) (hy7 : (-1) ≤ rf.toInt) (hy8 : rf.toInt ≤ 160) (hy9 : 0 ≤ rt.toInt) (hy10 : rt.toInt ≤ 40) (hy11 : 0 ≤ ru.toInt) (hy12 : ru.toInt ≤ 8) (hpz : Nat) : Met l yX3_expect wsX3_expect ({ frames := 1, cells := 0, slots := 0, locals := 22 }) (va_Pc [.ref rd, .int ch] (zW D (zKT cI cJ cZ cP cS) po [(rd, .inr (3, [.ref ri, .ref rl, .int rz, .int rc, .int rp, .int rf, .int rt, .int ru])), (rl, .inl (cI, 160, .inl fl))] hpz)) (va_Qv (fun (u : (Int32) × (Int32)) => (0 ≤ u.1.toInt ∧ u.1.toInt ≤ 160) ∧ ((-1) ≤ u.2.toInt ∧ u.2.toInt ≤ 160) ∧ (u.1.toInt ≤ rz.toInt) ∧ (((rp.toInt < rz.toInt ∧ (fl rp.toInt.toNat).toInt = ch.toInt ∧ u.1.toInt = rp.toInt + 1 ∧ u.2.toInt = rf.toInt) ∨ (¬ (rp.toInt < rz.toInt ∧ (fl rp.toInt.toNat).toInt = ch.toInt) ∧ u.2.toInt = rp.toInt ∧ u.1.toInt = rp.toInt))) ∧ (True)) (zB D [(rd, .inr (3, [.ref ri, .ref rl, .int rz, .int rc, .int rp, .int rf, .int rt, .int ru])), (rl, .inl (cI, 160, .inl fl))] hpz (fun (u : (Int32) × (Int32)) => [(rd, .inr (3, [.ref ri, .ref rl, .int rz, .int rc, .int u.1, .int u.2, .int rt, .int ru])), (rl, .inl (cI, 160, .inl fl))])) (va_A [(rd, .inr (3, [.ref ri, .ref rl, .int rz, .int rc, .int rp, .int rf, .int rt, .int ru])), (rl, .inl (cI, 160, .inl fl))] hpz)) 0 0 (va_A [(rd, .inr (3, [.ref ri, .ref rl, .int rz, .int rc, .int rp, .int rf, .int rt, .int ru])), (rl, .inl (cI, 160, .inl fl))] hpz) := by
  refine Met.ofW (cc := cX3_expect) (maxL := 2) (ret := none) (by decide) rfl ?_
  intro p e s m args below meth c s₁ B hml hv
  obtain ⟨rfl, hsz, hP, hK, hD0, hN, hZ⟩ := hv
  have hx := B.exec
  have hb := B.bytes
  have hr := B.returns
  have hts := atoms_spec (ws := wsX3_expect) B.pre
  have hown : s.vm.findClass RX3 = some m.cls := findClass_of_methodNamed B.named
  have hlocks := B.notSynchronized
  subst hsz
  have hD := hD0.self (sz := s.heap.size)
  have hA := zA_of hD
  have hl := lv_entry ([.ref rd, .int ch]) (n := 2) (Nat.le_of_ble_eq_true rfl)
  rw [lg_entry_eq]
  generalize (lg_sl ([.ref rd, .int ch]) ++ List.replicate (2 - (lg_sl ([.ref rd, .int ch])).length) Slot.unset).toArray = ls at hl ⊢
  replace hl : lv_has ls 2 [(0, .ref rd), (1, .int ch)] := hl
  refine zw_begin hP hD (fun H locs hP1 hS => ?_)
  clear hP
  have hP := hP1
  clear hP1
  refine lv_aload_n hx hb dX3_expect_0 rfl (lv_at hl 0 rfl) ?_
  refine lv_aload_n hx hb dX3_expect_1 rfl (lv_at hl 0 rfl) ?_
  refine va_get (D := D) (ci := 3) (v := .int rp) (C := RX3) (T := TX3) (N := 8) hx hb hts hi_X3_expect_3 hown hK hP 0 rfl rfl 4 (by decide) (hts (.fieldLink RX3 25 "TheLiningsInIt$Reader" "place" "I") (List.mem_of_getElem? (i := 1) rfl)) (fun _ h9 => h9) rfl dX3_expect_2 ?_
  refine lv_iload_n hx hb dX3_expect_5 rfl (lv_at hl 1 rfl) ?_
  refine zc_V (As := [.int rp, .int ch]) (rest := []) ⟨hx, hb, hml, hown, hts⟩ (c_R_stands l D cI cJ cZ cP cS po rd ri rl (rz) (rc) (rp) (rf) (rt) (ru) fl (rp) (ch) hy0 hy1 hy2 hy3 hy4 hy5 (by omega) hy7 hy8 hy9 hy10 hy11 hy12) (cwV 2 hts gX3_expect_X3_stands rfl rfl rfl ⟨rfl, dh_X3_stands⟩ ⟨Nat.le_of_ble_eq_true rfl, Nat.le_of_ble_eq_true rfl⟩) hK hN (hZ.kept hS) hP (hP.sub [0, 1] rfl) (va_recv (q := (RX3, TX3, 8)) hK hP (ci := 3) (q0 := 0) rfl rfl) rfl hl.1 rfl (Nat.le_of_ble_eq_true rfl) dX3_expect_6 ⟨Nat.le_of_ble_eq_true rfl, Nat.le_of_ble_eq_true rfl⟩ (fun r_1 hr_1 => ?_)
  obtain ⟨g_2, g_3, hsr_1_0, hsr_1_1⟩ := hr_1
  refine lv_if_eq (tgt := 25) hx hb dX3_expect_9 (by decide) (fun c_4 => ?_) (fun c_4 => ?_)
  · have fc_4 : r_1.toInt = 0 := zf_eq c_4 rfl (by decide)
    refine lv_aload_n hx hb dX3_expect_25 rfl (lv_at hl 0 rfl) ?_
    refine lv_aload_n hx hb dX3_expect_26 rfl (lv_at hl 0 rfl) ?_
    refine va_get (D := D) (ci := 3) (v := .int rp) (C := RX3) (T := TX3) (N := 8) hx hb hts hi_X3_expect_3 hown hK hP 0 rfl rfl 4 (by decide) (hts (.fieldLink RX3 25 "TheLiningsInIt$Reader" "place" "I") (List.mem_of_getElem? (i := 1) rfl)) (fun _ h9 => h9) rfl dX3_expect_27 ?_
    refine va_put (D := D) (ci := 3) (v := .int rp) (ty := .int) (C := RX3) (T := TX3) (N := 8) hx hb hts hi_X3_expect_3 tyX3 tyX3_ok nmX3 hown hK hP hD hS 0 rfl rfl 5 (by decide) (hts (.fieldLink RX3 28 "TheLiningsInIt$Reader" "fault" "I") (List.mem_of_getElem? (i := 2) rfl)) (fun _ h9 => h9) rfl (tyX3_ok 5 (Nat.le_of_ble_eq_true rfl)) rfl rfl (Nat.le_of_ble_eq_true rfl) dX3_expect_30 (fun H locs hP hD hS => ?_)
    have h9R := zRe (ws' := [(rd, .inr (3, [.ref ri, .ref rl, .int rz, .int rc, .int rp, .int rp, .int rt, .int ru])), (rl, .inl (cI, 160, .inl fl))]) hP hD rfl
    clear hP hD
    obtain ⟨hP, hD⟩ := h9R
    exact W.vret hx hb hr (fun t ht hW => ⟨⟨(rp, rp), rfl, ⟨(show 0 ≤ rp.toInt ∧ rp.toInt ≤ 160 from ⟨hy4, hy5⟩), (show (-1) ≤ rp.toInt ∧ rp.toInt ≤ 160 from ⟨by omega, hy5⟩), (show rp.toInt ≤ rz.toInt from by omega), (show ((rp.toInt < rz.toInt ∧ (fl rp.toInt.toNat).toInt = ch.toInt ∧ rp.toInt = rp.toInt + 1 ∧ rp.toInt = rf.toInt) ∨ (¬ (rp.toInt < rz.toInt ∧ (fl rp.toInt.toNat).toInt = ch.toInt) ∧ rp.toInt = rp.toInt ∧ rp.toInt = rp.toInt)) from by first | exact Or.inl ⟨(zSt_yes hsr_1_1 (by omega)).1, (zSt_yes hsr_1_1 (by omega)).2, by omega, by omega⟩ | exact Or.inr ⟨zSt_no hsr_1_1 (by omega) (by omega), by omega, by omega⟩), trivial⟩, zRet ht hP hD [0, 1] (by decide) rfl⟩, hS.F ht⟩) hS.2.2 dX3_expect_33
  · have fc_4 : r_1.toInt ≠ 0 := zf_ne c_4 rfl (by decide)
    refine lv_aload_n hx hb dX3_expect_12 rfl (lv_at hl 0 rfl) ?_
    refine lv_dup hx hb dX3_expect_13 rfl ?_
    refine va_get (D := D) (ci := 3) (v := .int rp) (C := RX3) (T := TX3) (N := 8) hx hb hts hi_X3_expect_3 hown hK hP 0 rfl rfl 4 (by decide) (hts (.fieldLink RX3 25 "TheLiningsInIt$Reader" "place" "I") (List.mem_of_getElem? (i := 1) rfl)) (fun _ h9 => h9) rfl dX3_expect_14 ?_
    refine lv_iconst (v := 1) hx hb dX3_expect_17 (by decide) ?_
    refine lv_iadd hx hb dX3_expect_18 ?_
    refine lv_topi (fun x_5 ex_5 => ?_)
    have qx_5 : x_5.toInt = rp.toInt + 1 := by rw [ex_5]; exact zf_add rfl (by decide) (by omega) (by omega)
    refine va_put (D := D) (ci := 3) (v := .int x_5) (ty := .int) (C := RX3) (T := TX3) (N := 8) hx hb hts hi_X3_expect_3 tyX3 tyX3_ok nmX3 hown hK hP hD hS 0 rfl rfl 4 (by decide) (hts (.fieldLink RX3 25 "TheLiningsInIt$Reader" "place" "I") (List.mem_of_getElem? (i := 1) rfl)) (fun _ h9 => h9) rfl (tyX3_ok 4 (Nat.le_of_ble_eq_true rfl)) rfl rfl (Nat.le_of_ble_eq_true rfl) dX3_expect_19 (fun H locs hP hD hS => ?_)
    have h9R := zRe (ws' := [(rd, .inr (3, [.ref ri, .ref rl, .int rz, .int rc, .int x_5, .int rf, .int rt, .int ru])), (rl, .inl (cI, 160, .inl fl))]) hP hD rfl
    clear hP hD
    obtain ⟨hP, hD⟩ := h9R
    refine lv_goto (tgt := 33) hx hb dX3_expect_22 (by decide) ?_
    exact W.vret hx hb hr (fun t ht hW => ⟨⟨(x_5, rf), rfl, ⟨(show 0 ≤ x_5.toInt ∧ x_5.toInt ≤ 160 from ⟨by omega, by omega⟩), (show (-1) ≤ rf.toInt ∧ rf.toInt ≤ 160 from ⟨hy7, hy8⟩), (show x_5.toInt ≤ rz.toInt from by omega), (show ((rp.toInt < rz.toInt ∧ (fl rp.toInt.toNat).toInt = ch.toInt ∧ x_5.toInt = rp.toInt + 1 ∧ rf.toInt = rf.toInt) ∨ (¬ (rp.toInt < rz.toInt ∧ (fl rp.toInt.toNat).toInt = ch.toInt) ∧ rf.toInt = rp.toInt ∧ x_5.toInt = rp.toInt)) from by first | exact Or.inl ⟨(zSt_yes hsr_1_1 (by omega)).1, (zSt_yes hsr_1_1 (by omega)).2, by omega, by omega⟩ | exact Or.inr ⟨zSt_no hsr_1_1 (by omega) (by omega), by omega, by omega⟩), trivial⟩, zRet ht hP hD [0, 1] (by decide) rfl⟩, hS.F ht⟩) hS.2.2 dX3_expect_33
set_option maxHeartbeats 4000000 in
set_option maxRecDepth 100000 in
theorem c_F_R_readNumber (l : Launch) (D : va_G) (cI cJ cZ cP cS : ClassId) (po : zPool) (rd ri rl : Nat) (rz rc rp rf rt ru : Int32) (fl : Nat → Int32) (lo hi : Int32) (hy0 : 0 ≤ rz.toInt) (hy1 : rz.toInt ≤ 160) (hy2 : 0 ≤ rc.toInt) (hy3 : rc.toInt ≤ 40) (hy4 : 0 ≤ rp.toInt) (hy5 : rp.toInt ≤ 160) (hy6 : rp.toInt ≤ rz.toInt) (hy7 : (-1) ≤ rf.toInt) (hy8 : rf.toInt ≤ 160) (hy9 : 0 ≤ rt.toInt) (hy10 : rt.toInt ≤ 40) (hy11 : 0 ≤ ru.toInt) (hy12 : ru.toInt ≤ 8) (hpz : Nat) : Met l yX3_readNumber wsX3_readNumber ({ frames := 1, cells := 0, slots := 0, locals := 22 }) (va_Pc [.ref rd, .int lo, .int hi] (zW D (zKT cI cJ cZ cP cS) po [(rd, .inr (3, [.ref ri, .ref rl, .int rz, .int rc, .int rp, .int rf, .int rt, .int ru])), (rl, .inl (cI, 160, .inl fl))] hpz)) (va_Qi (fun (r : Int32) (u : (Int32) × (Int32)) => (0 ≤ u.1.toInt ∧ u.1.toInt ≤ 160) ∧ ((-1) ≤ u.2.toInt ∧ u.2.toInt ≤ 160) ∧ (u.1.toInt ≤ rz.toInt) ∧ (u.1.toInt = zNe fl rz.toInt rp.toInt) ∧ (r.toInt = zNv fl rp.toInt u.1.toInt) ∧ (((u.2.toInt = rp.toInt ∧ (u.1.toInt = rp.toInt ∨ r.toInt < lo.toInt ∨ hi.toInt < r.toInt)) ∨ (u.2.toInt = rf.toInt ∧ u.1.toInt ≠ rp.toInt ∧ lo.toInt ≤ r.toInt ∧ r.toInt ≤ hi.toInt))) ∧ (0 ≤ r.toInt ∧ r.toInt ≤ 999)) (zB D [(rd, .inr (3, [.ref ri, .ref rl, .int rz, .int rc, .int rp, .int rf, .int rt, .int ru])), (rl, .inl (cI, 160, .inl fl))] hpz (fun (u : (Int32) × (Int32)) => [(rd, .inr (3, [.ref ri, .ref rl, .int rz, .int rc, .int u.1, .int u.2, .int rt, .int ru])), (rl, .inl (cI, 160, .inl fl))])) (va_A [(rd, .inr (3, [.ref ri, .ref rl, .int rz, .int rc, .int rp, .int rf, .int rt, .int ru])), (rl, .inl (cI, 160, .inl fl))] hpz)) 0 0 (va_A [(rd, .inr (3, [.ref ri, .ref rl, .int rz, .int rc, .int rp, .int rf, .int rt, .int ru])), (rl, .inl (cI, 160, .inl fl))] hpz) := by
  refine Met.ofW (cc := cX3_readNumber) (maxL := 5) (ret := (some .int)) (by decide) rfl ?_
  intro p e s m args below meth c s₁ B hml hv
  obtain ⟨rfl, hsz, hP, hK, hD0, hN, hZ⟩ := hv
  have hx := B.exec
  have hb := B.bytes
  have hr := B.returns
  have hts := atoms_spec (ws := wsX3_readNumber) B.pre
  have hown : s.vm.findClass RX3 = some m.cls := findClass_of_methodNamed B.named
  have hlocks := B.notSynchronized
  subst hsz
  have hD := hD0.self (sz := s.heap.size)
  have hA := zA_of hD
  have hl := lv_entry ([.ref rd, .int lo, .int hi]) (n := 5) (Nat.le_of_ble_eq_true rfl)
  rw [lg_entry_eq]
  generalize (lg_sl ([.ref rd, .int lo, .int hi]) ++ List.replicate (5 - (lg_sl ([.ref rd, .int lo, .int hi])).length) Slot.unset).toArray = ls at hl ⊢
  replace hl : lv_has ls 5 [(0, .ref rd), (1, .int lo), (2, .int hi)] := hl
  refine zw_begin hP hD (fun H locs hP1 hS => ?_)
  clear hP
  have hP := hP1
  clear hP1
  refine lv_aload_n hx hb dX3_readNumber_0 rfl (lv_at hl 0 rfl) ?_
  refine va_get (D := D) (ci := 3) (v := .int rp) (C := RX3) (T := TX3) (N := 8) hx hb hts hi_X3_readNumber_3 hown hK hP 0 rfl rfl 4 (by decide) (hts (.fieldLink RX3 25 "TheLiningsInIt$Reader" "place" "I") (List.mem_of_getElem? (i := 1) rfl)) (fun _ h9 => h9) rfl dX3_readNumber_1 ?_
  refine lv_istore_n (lv' := [(3, .int rp), (0, .ref rd), (1, .int lo), (2, .int hi)]) hx hb dX3_readNumber_4 rfl hl (by decide) rfl (fun ls hl => ?_)
  refine lv_iconst (v := 0) hx hb dX3_readNumber_5 (by decide) ?_
  refine lv_istore (lv' := [(4, .int 0), (3, .int rp), (0, .ref rd), (1, .int lo), (2, .int hi)]) hx hb dX3_readNumber_6 hl (by decide) rfl (fun ls hl => ?_)
  obtain ⟨i_8, hi_8⟩ : ∃ i : Int32, i = rp := ⟨_, rfl⟩
  replace hl : lv_has ls 5 [(4, .int 0), (3, .int rp), (0, .ref rd), (1, .int lo), (2, .int hi)] := lv_sub hl [0, 1, 2, 3, 4] rfl
  replace hP : va_P D vwCl [(rd, .inr (3, [.ref ri, .ref rl, .int rz, .int rc, .int i_8, .int rf, .int rt, .int ru])), (rl, .inl (cI, 160, .inl fl))] H := by rw [hi_8]; exact hP
  replace hD : va_D (va_A [(rd, .inr (3, [.ref ri, .ref rl, .int rz, .int rc, .int rp, .int rf, .int rt, .int ru])), (rl, .inl (cI, 160, .inl fl))] s.heap.size) [(rd, .inr (3, [.ref ri, .ref rl, .int rz, .int rc, .int i_8, .int rf, .int rt, .int ru])), (rl, .inl (cI, 160, .inl fl))] := by rw [hi_8]; exact hD
  have h1i_8 : i_8.toInt = rp.toInt := by rw [hi_8]
  obtain ⟨nfu, hni_8⟩ : ∃ nq9 : Nat, rz.toInt ≤ i_8.toInt + (nq9 : Int) := ⟨((rz.toInt : Int) - rp.toInt).toNat, by omega⟩
  have hloi_8 : 0 ≤ i_8.toInt := by omega
  obtain ⟨v_1, hv_1⟩ : ∃ g : Int32, g = 0 := ⟨_, rfl⟩
  replace hl : lv_has ls 5 [(4, .int v_1), (3, .int rp), (0, .ref rd), (1, .int lo), (2, .int hi)] := by rw [hv_1]; exact hl
  have hbv_1 : 0 ≤ v_1.toInt ∧ v_1.toInt ≤ 999 := by rw [hv_1]; exact ⟨by decide, by decide⟩
  have hvi_8_0 : rp.toInt ≤ i_8.toInt ∧ i_8.toInt ≤ rz.toInt := by
    (try rw [hi_8]); (try rw [hv_1]); exact ⟨by omega, by omega⟩
  have hvi_8_1 : i_8.toInt ≤ rp.toInt + 3 := by
    (try rw [hi_8]); (try rw [hv_1]); omega
  have hvi_8_2 : (∀ j : Int, rp.toInt ≤ j → j < i_8.toInt → zDg fl rz.toInt j) := by
    (try rw [hi_8]); (try rw [hv_1]); (intro j h1 h2; exfalso; omega)
  have hvi_8_3 : (v_1 : Int32).toInt = zNv fl rp.toInt i_8.toInt := by
    (try rw [hi_8]); (try rw [hv_1]); (rw [show ((0 : Int32).toInt) = 0 from by decide]; exact zNv_0.symm)
  have hvi_8_4 : (i_8.toInt = rp.toInt → (v_1 : Int32).toInt = 0) ∧ (i_8.toInt ≤ rp.toInt + 1 → (v_1 : Int32).toInt ≤ 9) ∧ (i_8.toInt ≤ rp.toInt + 2 → (v_1 : Int32).toInt ≤ 99) := by
    (try rw [hi_8]); (try rw [hv_1]); (have k0 : (0 : Int32).toInt = 0 := (by decide); omega)
  clear h1i_8 hi_8 hv_1
  skip
  revert hni_8
  revert hloi_8
  revert hvi_8_4
  revert hvi_8_3
  revert hvi_8_2
  revert hvi_8_1
  revert hvi_8_0
  revert hbv_1
  revert hl
  revert hS
  revert hD
  revert hP
  revert ls
  revert locs
  revert H
  revert v_1
  revert i_8
  induction nfu with
  | zero =>
    intro i_8 v_1 H locs ls hP hD hS hl hbv_1 hvi_8_0 hvi_8_1 hvi_8_2 hvi_8_3 hvi_8_4 hloi_8 hni_8
    have hzi_8 : rz.toInt ≤ i_8.toInt := by omega
    refine lv_aload_n hx hb dX3_readNumber_8 rfl (lv_at hl 2 rfl) ?_
    refine va_get (D := D) (ci := 3) (v := .int i_8) (C := RX3) (T := TX3) (N := 8) hx hb hts hi_X3_readNumber_3 hown hK hP 0 rfl rfl 4 (by decide) (hts (.fieldLink RX3 25 "TheLiningsInIt$Reader" "place" "I") (List.mem_of_getElem? (i := 1) rfl)) (fun _ h9 => h9) rfl dX3_readNumber_9 ?_
    refine lv_aload_n hx hb dX3_readNumber_12 rfl (lv_at hl 2 rfl) ?_
    refine va_get (D := D) (ci := 3) (v := .int rz) (C := RX3) (T := TX3) (N := 8) hx hb hts hi_X3_readNumber_3 hown hK hP 0 rfl rfl 2 (by decide) (hts (.fieldLink RX3 18 "TheLiningsInIt$Reader" "size" "I") (List.mem_of_getElem? (i := 2) rfl)) (fun _ h9 => h9) rfl dX3_readNumber_13 ?_
    refine lv_icmp_ge (tgt := 77) hx hb dX3_readNumber_16 (by decide) (fun c_2 => ?_) (fun c_2 => ?_)
    · have fc_2 : rz.toInt ≤ i_8.toInt := zf_le c_2 rfl rfl
      refine lv_aload_n hx hb dX3_readNumber_77 rfl (lv_at hl 2 rfl) ?_
      refine va_get (D := D) (ci := 3) (v := .int i_8) (C := RX3) (T := TX3) (N := 8) hx hb hts hi_X3_readNumber_3 hown hK hP 0 rfl rfl 4 (by decide) (hts (.fieldLink RX3 25 "TheLiningsInIt$Reader" "place" "I") (List.mem_of_getElem? (i := 1) rfl)) (fun _ h9 => h9) rfl dX3_readNumber_78 ?_
      refine lv_iload_n hx hb dX3_readNumber_81 rfl (lv_at hl 1 rfl) ?_
      refine lv_icmp_eq (tgt := 95) hx hb dX3_readNumber_82 (by decide) (fun c_3 => ?_) (fun c_3 => ?_)
      · have fc_3 : i_8.toInt = rp.toInt := zf_eq c_3 rfl rfl
        refine lv_aload_n hx hb dX3_readNumber_95 rfl (lv_at hl 2 rfl) ?_
        refine lv_iload_n hx hb dX3_readNumber_96 rfl (lv_at hl 1 rfl) ?_
        refine va_put (D := D) (ci := 3) (v := .int rp) (ty := .int) (C := RX3) (T := TX3) (N := 8) hx hb hts hi_X3_readNumber_3 tyX3 tyX3_ok nmX3 hown hK hP hD hS 0 rfl rfl 5 (by decide) (hts (.fieldLink RX3 28 "TheLiningsInIt$Reader" "fault" "I") (List.mem_of_getElem? (i := 4) rfl)) (fun _ h9 => h9) rfl (tyX3_ok 5 (Nat.le_of_ble_eq_true rfl)) rfl rfl (Nat.le_of_ble_eq_true rfl) dX3_readNumber_97 (fun H locs hP hD hS => ?_)
        have h9R := zRe (ws' := [(rd, .inr (3, [.ref ri, .ref rl, .int rz, .int rc, .int i_8, .int rp, .int rt, .int ru])), (rl, .inl (cI, 160, .inl fl))]) hP hD rfl
        clear hP hD
        obtain ⟨hP, hD⟩ := h9R
        refine lv_iload hx hb dX3_readNumber_100 (lv_at hl 0 rfl) ?_
        exact W.iret (v := v_1) hx hb hr (fun t ht hW => ⟨⟨v_1, (i_8, rp), rfl, ⟨(show 0 ≤ i_8.toInt ∧ i_8.toInt ≤ 160 from ⟨by omega, by omega⟩), (show (-1) ≤ rp.toInt ∧ rp.toInt ≤ 160 from ⟨by omega, hy5⟩), (show i_8.toInt ≤ rz.toInt from by omega), (show i_8.toInt = zNe fl rz.toInt rp.toInt from by first | exact (zNe_eq (by omega) (by omega) hvi_8_2 (Or.inr (fun z => by (have z1 := z.1; omega)))).symm | exact (zNe_eq (by omega) (by omega) hvi_8_2 (Or.inl (by omega))).symm), (show (v_1 : Int32).toInt = zNv fl rp.toInt i_8.toInt from by assumption), (show ((rp.toInt = rp.toInt ∧ (i_8.toInt = rp.toInt ∨ (v_1 : Int32).toInt < lo.toInt ∨ hi.toInt < (v_1 : Int32).toInt)) ∨ (rp.toInt = rf.toInt ∧ i_8.toInt ≠ rp.toInt ∧ lo.toInt ≤ (v_1 : Int32).toInt ∧ (v_1 : Int32).toInt ≤ hi.toInt)) from by omega), ⟨by omega, by omega⟩⟩, zRet ht hP hD [0, 1] (by decide) rfl⟩, hS.F ht⟩) hS.2.2 dX3_readNumber_102
      · have fc_3 : i_8.toInt ≠ rp.toInt := zf_ne c_3 rfl rfl
        refine lv_iload hx hb dX3_readNumber_85 (lv_at hl 0 rfl) ?_
        refine lv_iload_n hx hb dX3_readNumber_87 rfl (lv_at hl 3 rfl) ?_
        refine lv_iload_n hx hb dX3_readNumber_88 rfl (lv_at hl 4 rfl) ?_
        refine zc_SN (As := [.int v_1, .int lo, .int hi]) (rest := []) ⟨hx, hb, hml, hown, hts⟩ (c_within l D cI cJ cZ cP cS po (v_1) (lo) (hi) ) ⟨(va_cnB 3 hts gX3_readNumber_X7_within_n109 rfl rfl rfl (hN.1 (RX3, 109, yX7_within) (List.mem_of_getElem? (i := 8) rfl)) (hts _ (List.mem_of_getElem? (i := 10) rfl)) dh_X7_within ⟨Nat.le_of_ble_eq_true rfl, Nat.le_of_ble_eq_true rfl⟩), (hts _ (List.mem_of_getElem? (i := 9) rfl)), trivial⟩ hK hN (hZ.kept hS) rfl hl.1 rfl (Nat.le_of_ble_eq_true rfl) dX3_readNumber_89 ⟨Nat.le_of_ble_eq_true rfl, Nat.le_of_ble_eq_true rfl⟩ (fun r_4 hr_4 => ?_)
        rcases hr_4 with ⟨rfl, g_5⟩ | ⟨rfl, g_6, g_7⟩ | ⟨rfl, g_8, g_9⟩
        · refine lv_if_ne (tgt := 100) hx hb dX3_readNumber_92 (by decide) (fun c_10 => ?_) (fun c_10 => ?_)
          · exact absurd c_10 (by decide)
          · refine lv_aload_n hx hb dX3_readNumber_95 rfl (lv_at hl 2 rfl) ?_
            refine lv_iload_n hx hb dX3_readNumber_96 rfl (lv_at hl 1 rfl) ?_
            refine va_put (D := D) (ci := 3) (v := .int rp) (ty := .int) (C := RX3) (T := TX3) (N := 8) hx hb hts hi_X3_readNumber_3 tyX3 tyX3_ok nmX3 hown hK hP hD hS 0 rfl rfl 5 (by decide) (hts (.fieldLink RX3 28 "TheLiningsInIt$Reader" "fault" "I") (List.mem_of_getElem? (i := 4) rfl)) (fun _ h9 => h9) rfl (tyX3_ok 5 (Nat.le_of_ble_eq_true rfl)) rfl rfl (Nat.le_of_ble_eq_true rfl) dX3_readNumber_97 (fun H locs hP hD hS => ?_)
            have h9R := zRe (ws' := [(rd, .inr (3, [.ref ri, .ref rl, .int rz, .int rc, .int i_8, .int rp, .int rt, .int ru])), (rl, .inl (cI, 160, .inl fl))]) hP hD rfl
            clear hP hD
            obtain ⟨hP, hD⟩ := h9R
            refine lv_iload hx hb dX3_readNumber_100 (lv_at hl 0 rfl) ?_
            exact W.iret (v := v_1) hx hb hr (fun t ht hW => ⟨⟨v_1, (i_8, rp), rfl, ⟨(show 0 ≤ i_8.toInt ∧ i_8.toInt ≤ 160 from ⟨by omega, by omega⟩), (show (-1) ≤ rp.toInt ∧ rp.toInt ≤ 160 from ⟨by omega, hy5⟩), (show i_8.toInt ≤ rz.toInt from by omega), (show i_8.toInt = zNe fl rz.toInt rp.toInt from by first | exact (zNe_eq (by omega) (by omega) hvi_8_2 (Or.inr (fun z => by (have z1 := z.1; omega)))).symm | exact (zNe_eq (by omega) (by omega) hvi_8_2 (Or.inl (by omega))).symm), (show (v_1 : Int32).toInt = zNv fl rp.toInt i_8.toInt from by assumption), (show ((rp.toInt = rp.toInt ∧ (i_8.toInt = rp.toInt ∨ (v_1 : Int32).toInt < lo.toInt ∨ hi.toInt < (v_1 : Int32).toInt)) ∨ (rp.toInt = rf.toInt ∧ i_8.toInt ≠ rp.toInt ∧ lo.toInt ≤ (v_1 : Int32).toInt ∧ (v_1 : Int32).toInt ≤ hi.toInt)) from by omega), ⟨by omega, by omega⟩⟩, zRet ht hP hD [0, 1] (by decide) rfl⟩, hS.F ht⟩) hS.2.2 dX3_readNumber_102
        · refine lv_if_ne (tgt := 100) hx hb dX3_readNumber_92 (by decide) (fun c_11 => ?_) (fun c_11 => ?_)
          · exact absurd c_11 (by decide)
          · refine lv_aload_n hx hb dX3_readNumber_95 rfl (lv_at hl 2 rfl) ?_
            refine lv_iload_n hx hb dX3_readNumber_96 rfl (lv_at hl 1 rfl) ?_
            refine va_put (D := D) (ci := 3) (v := .int rp) (ty := .int) (C := RX3) (T := TX3) (N := 8) hx hb hts hi_X3_readNumber_3 tyX3 tyX3_ok nmX3 hown hK hP hD hS 0 rfl rfl 5 (by decide) (hts (.fieldLink RX3 28 "TheLiningsInIt$Reader" "fault" "I") (List.mem_of_getElem? (i := 4) rfl)) (fun _ h9 => h9) rfl (tyX3_ok 5 (Nat.le_of_ble_eq_true rfl)) rfl rfl (Nat.le_of_ble_eq_true rfl) dX3_readNumber_97 (fun H locs hP hD hS => ?_)
            have h9R := zRe (ws' := [(rd, .inr (3, [.ref ri, .ref rl, .int rz, .int rc, .int i_8, .int rp, .int rt, .int ru])), (rl, .inl (cI, 160, .inl fl))]) hP hD rfl
            clear hP hD
            obtain ⟨hP, hD⟩ := h9R
            refine lv_iload hx hb dX3_readNumber_100 (lv_at hl 0 rfl) ?_
            exact W.iret (v := v_1) hx hb hr (fun t ht hW => ⟨⟨v_1, (i_8, rp), rfl, ⟨(show 0 ≤ i_8.toInt ∧ i_8.toInt ≤ 160 from ⟨by omega, by omega⟩), (show (-1) ≤ rp.toInt ∧ rp.toInt ≤ 160 from ⟨by omega, hy5⟩), (show i_8.toInt ≤ rz.toInt from by omega), (show i_8.toInt = zNe fl rz.toInt rp.toInt from by first | exact (zNe_eq (by omega) (by omega) hvi_8_2 (Or.inr (fun z => by (have z1 := z.1; omega)))).symm | exact (zNe_eq (by omega) (by omega) hvi_8_2 (Or.inl (by omega))).symm), (show (v_1 : Int32).toInt = zNv fl rp.toInt i_8.toInt from by assumption), (show ((rp.toInt = rp.toInt ∧ (i_8.toInt = rp.toInt ∨ (v_1 : Int32).toInt < lo.toInt ∨ hi.toInt < (v_1 : Int32).toInt)) ∨ (rp.toInt = rf.toInt ∧ i_8.toInt ≠ rp.toInt ∧ lo.toInt ≤ (v_1 : Int32).toInt ∧ (v_1 : Int32).toInt ≤ hi.toInt)) from by omega), ⟨by omega, by omega⟩⟩, zRet ht hP hD [0, 1] (by decide) rfl⟩, hS.F ht⟩) hS.2.2 dX3_readNumber_102
        · refine lv_if_ne (tgt := 100) hx hb dX3_readNumber_92 (by decide) (fun c_12 => ?_) (fun c_12 => ?_)
          · refine lv_iload hx hb dX3_readNumber_100 (lv_at hl 0 rfl) ?_
            exact W.iret (v := v_1) hx hb hr (fun t ht hW => ⟨⟨v_1, (i_8, rf), rfl, ⟨(show 0 ≤ i_8.toInt ∧ i_8.toInt ≤ 160 from ⟨by omega, by omega⟩), (show (-1) ≤ rf.toInt ∧ rf.toInt ≤ 160 from ⟨hy7, hy8⟩), (show i_8.toInt ≤ rz.toInt from by omega), (show i_8.toInt = zNe fl rz.toInt rp.toInt from by first | exact (zNe_eq (by omega) (by omega) hvi_8_2 (Or.inr (fun z => by (have z1 := z.1; omega)))).symm | exact (zNe_eq (by omega) (by omega) hvi_8_2 (Or.inl (by omega))).symm), (show (v_1 : Int32).toInt = zNv fl rp.toInt i_8.toInt from by assumption), (show ((rf.toInt = rp.toInt ∧ (i_8.toInt = rp.toInt ∨ (v_1 : Int32).toInt < lo.toInt ∨ hi.toInt < (v_1 : Int32).toInt)) ∨ (rf.toInt = rf.toInt ∧ i_8.toInt ≠ rp.toInt ∧ lo.toInt ≤ (v_1 : Int32).toInt ∧ (v_1 : Int32).toInt ≤ hi.toInt)) from by omega), ⟨by omega, by omega⟩⟩, zRet ht hP hD [0, 1] (by decide) rfl⟩, hS.F ht⟩) hS.2.2 dX3_readNumber_102
          · exact absurd c_12 (by decide)
    · exfalso; have fc_2 : i_8.toInt < rz.toInt := zf_nle c_2 rfl rfl; omega
  | succ nfu ih =>
    intro i_8 v_1 H locs ls hP hD hS hl hbv_1 hvi_8_0 hvi_8_1 hvi_8_2 hvi_8_3 hvi_8_4 hloi_8 hni_8
    refine lv_aload_n hx hb dX3_readNumber_8 rfl (lv_at hl 2 rfl) ?_
    refine va_get (D := D) (ci := 3) (v := .int i_8) (C := RX3) (T := TX3) (N := 8) hx hb hts hi_X3_readNumber_3 hown hK hP 0 rfl rfl 4 (by decide) (hts (.fieldLink RX3 25 "TheLiningsInIt$Reader" "place" "I") (List.mem_of_getElem? (i := 1) rfl)) (fun _ h9 => h9) rfl dX3_readNumber_9 ?_
    refine lv_aload_n hx hb dX3_readNumber_12 rfl (lv_at hl 2 rfl) ?_
    refine va_get (D := D) (ci := 3) (v := .int rz) (C := RX3) (T := TX3) (N := 8) hx hb hts hi_X3_readNumber_3 hown hK hP 0 rfl rfl 2 (by decide) (hts (.fieldLink RX3 18 "TheLiningsInIt$Reader" "size" "I") (List.mem_of_getElem? (i := 2) rfl)) (fun _ h9 => h9) rfl dX3_readNumber_13 ?_
    refine lv_icmp_ge (tgt := 77) hx hb dX3_readNumber_16 (by decide) (fun c_13 => ?_) (fun c_13 => ?_)
    · have fc_13 : rz.toInt ≤ i_8.toInt := zf_le c_13 rfl rfl
      refine lv_aload_n hx hb dX3_readNumber_77 rfl (lv_at hl 2 rfl) ?_
      refine va_get (D := D) (ci := 3) (v := .int i_8) (C := RX3) (T := TX3) (N := 8) hx hb hts hi_X3_readNumber_3 hown hK hP 0 rfl rfl 4 (by decide) (hts (.fieldLink RX3 25 "TheLiningsInIt$Reader" "place" "I") (List.mem_of_getElem? (i := 1) rfl)) (fun _ h9 => h9) rfl dX3_readNumber_78 ?_
      refine lv_iload_n hx hb dX3_readNumber_81 rfl (lv_at hl 1 rfl) ?_
      refine lv_icmp_eq (tgt := 95) hx hb dX3_readNumber_82 (by decide) (fun c_14 => ?_) (fun c_14 => ?_)
      · have fc_14 : i_8.toInt = rp.toInt := zf_eq c_14 rfl rfl
        refine lv_aload_n hx hb dX3_readNumber_95 rfl (lv_at hl 2 rfl) ?_
        refine lv_iload_n hx hb dX3_readNumber_96 rfl (lv_at hl 1 rfl) ?_
        refine va_put (D := D) (ci := 3) (v := .int rp) (ty := .int) (C := RX3) (T := TX3) (N := 8) hx hb hts hi_X3_readNumber_3 tyX3 tyX3_ok nmX3 hown hK hP hD hS 0 rfl rfl 5 (by decide) (hts (.fieldLink RX3 28 "TheLiningsInIt$Reader" "fault" "I") (List.mem_of_getElem? (i := 4) rfl)) (fun _ h9 => h9) rfl (tyX3_ok 5 (Nat.le_of_ble_eq_true rfl)) rfl rfl (Nat.le_of_ble_eq_true rfl) dX3_readNumber_97 (fun H locs hP hD hS => ?_)
        have h9R := zRe (ws' := [(rd, .inr (3, [.ref ri, .ref rl, .int rz, .int rc, .int i_8, .int rp, .int rt, .int ru])), (rl, .inl (cI, 160, .inl fl))]) hP hD rfl
        clear hP hD
        obtain ⟨hP, hD⟩ := h9R
        refine lv_iload hx hb dX3_readNumber_100 (lv_at hl 0 rfl) ?_
        exact W.iret (v := v_1) hx hb hr (fun t ht hW => ⟨⟨v_1, (i_8, rp), rfl, ⟨(show 0 ≤ i_8.toInt ∧ i_8.toInt ≤ 160 from ⟨by omega, by omega⟩), (show (-1) ≤ rp.toInt ∧ rp.toInt ≤ 160 from ⟨by omega, hy5⟩), (show i_8.toInt ≤ rz.toInt from by omega), (show i_8.toInt = zNe fl rz.toInt rp.toInt from by first | exact (zNe_eq (by omega) (by omega) hvi_8_2 (Or.inr (fun z => by (have z1 := z.1; omega)))).symm | exact (zNe_eq (by omega) (by omega) hvi_8_2 (Or.inl (by omega))).symm), (show (v_1 : Int32).toInt = zNv fl rp.toInt i_8.toInt from by assumption), (show ((rp.toInt = rp.toInt ∧ (i_8.toInt = rp.toInt ∨ (v_1 : Int32).toInt < lo.toInt ∨ hi.toInt < (v_1 : Int32).toInt)) ∨ (rp.toInt = rf.toInt ∧ i_8.toInt ≠ rp.toInt ∧ lo.toInt ≤ (v_1 : Int32).toInt ∧ (v_1 : Int32).toInt ≤ hi.toInt)) from by omega), ⟨by omega, by omega⟩⟩, zRet ht hP hD [0, 1] (by decide) rfl⟩, hS.F ht⟩) hS.2.2 dX3_readNumber_102
      · have fc_14 : i_8.toInt ≠ rp.toInt := zf_ne c_14 rfl rfl
        refine lv_iload hx hb dX3_readNumber_85 (lv_at hl 0 rfl) ?_
        refine lv_iload_n hx hb dX3_readNumber_87 rfl (lv_at hl 3 rfl) ?_
        refine lv_iload_n hx hb dX3_readNumber_88 rfl (lv_at hl 4 rfl) ?_
        refine zc_SN (As := [.int v_1, .int lo, .int hi]) (rest := []) ⟨hx, hb, hml, hown, hts⟩ (c_within l D cI cJ cZ cP cS po (v_1) (lo) (hi) ) ⟨(va_cnB 3 hts gX3_readNumber_X7_within_n109 rfl rfl rfl (hN.1 (RX3, 109, yX7_within) (List.mem_of_getElem? (i := 8) rfl)) (hts _ (List.mem_of_getElem? (i := 10) rfl)) dh_X7_within ⟨Nat.le_of_ble_eq_true rfl, Nat.le_of_ble_eq_true rfl⟩), (hts _ (List.mem_of_getElem? (i := 9) rfl)), trivial⟩ hK hN (hZ.kept hS) rfl hl.1 rfl (Nat.le_of_ble_eq_true rfl) dX3_readNumber_89 ⟨Nat.le_of_ble_eq_true rfl, Nat.le_of_ble_eq_true rfl⟩ (fun r_15 hr_15 => ?_)
        rcases hr_15 with ⟨rfl, g_16⟩ | ⟨rfl, g_17, g_18⟩ | ⟨rfl, g_19, g_20⟩
        · refine lv_if_ne (tgt := 100) hx hb dX3_readNumber_92 (by decide) (fun c_21 => ?_) (fun c_21 => ?_)
          · exact absurd c_21 (by decide)
          · refine lv_aload_n hx hb dX3_readNumber_95 rfl (lv_at hl 2 rfl) ?_
            refine lv_iload_n hx hb dX3_readNumber_96 rfl (lv_at hl 1 rfl) ?_
            refine va_put (D := D) (ci := 3) (v := .int rp) (ty := .int) (C := RX3) (T := TX3) (N := 8) hx hb hts hi_X3_readNumber_3 tyX3 tyX3_ok nmX3 hown hK hP hD hS 0 rfl rfl 5 (by decide) (hts (.fieldLink RX3 28 "TheLiningsInIt$Reader" "fault" "I") (List.mem_of_getElem? (i := 4) rfl)) (fun _ h9 => h9) rfl (tyX3_ok 5 (Nat.le_of_ble_eq_true rfl)) rfl rfl (Nat.le_of_ble_eq_true rfl) dX3_readNumber_97 (fun H locs hP hD hS => ?_)
            have h9R := zRe (ws' := [(rd, .inr (3, [.ref ri, .ref rl, .int rz, .int rc, .int i_8, .int rp, .int rt, .int ru])), (rl, .inl (cI, 160, .inl fl))]) hP hD rfl
            clear hP hD
            obtain ⟨hP, hD⟩ := h9R
            refine lv_iload hx hb dX3_readNumber_100 (lv_at hl 0 rfl) ?_
            exact W.iret (v := v_1) hx hb hr (fun t ht hW => ⟨⟨v_1, (i_8, rp), rfl, ⟨(show 0 ≤ i_8.toInt ∧ i_8.toInt ≤ 160 from ⟨by omega, by omega⟩), (show (-1) ≤ rp.toInt ∧ rp.toInt ≤ 160 from ⟨by omega, hy5⟩), (show i_8.toInt ≤ rz.toInt from by omega), (show i_8.toInt = zNe fl rz.toInt rp.toInt from by first | exact (zNe_eq (by omega) (by omega) hvi_8_2 (Or.inr (fun z => by (have z1 := z.1; omega)))).symm | exact (zNe_eq (by omega) (by omega) hvi_8_2 (Or.inl (by omega))).symm), (show (v_1 : Int32).toInt = zNv fl rp.toInt i_8.toInt from by assumption), (show ((rp.toInt = rp.toInt ∧ (i_8.toInt = rp.toInt ∨ (v_1 : Int32).toInt < lo.toInt ∨ hi.toInt < (v_1 : Int32).toInt)) ∨ (rp.toInt = rf.toInt ∧ i_8.toInt ≠ rp.toInt ∧ lo.toInt ≤ (v_1 : Int32).toInt ∧ (v_1 : Int32).toInt ≤ hi.toInt)) from by omega), ⟨by omega, by omega⟩⟩, zRet ht hP hD [0, 1] (by decide) rfl⟩, hS.F ht⟩) hS.2.2 dX3_readNumber_102
        · refine lv_if_ne (tgt := 100) hx hb dX3_readNumber_92 (by decide) (fun c_22 => ?_) (fun c_22 => ?_)
          · exact absurd c_22 (by decide)
          · refine lv_aload_n hx hb dX3_readNumber_95 rfl (lv_at hl 2 rfl) ?_
            refine lv_iload_n hx hb dX3_readNumber_96 rfl (lv_at hl 1 rfl) ?_
            refine va_put (D := D) (ci := 3) (v := .int rp) (ty := .int) (C := RX3) (T := TX3) (N := 8) hx hb hts hi_X3_readNumber_3 tyX3 tyX3_ok nmX3 hown hK hP hD hS 0 rfl rfl 5 (by decide) (hts (.fieldLink RX3 28 "TheLiningsInIt$Reader" "fault" "I") (List.mem_of_getElem? (i := 4) rfl)) (fun _ h9 => h9) rfl (tyX3_ok 5 (Nat.le_of_ble_eq_true rfl)) rfl rfl (Nat.le_of_ble_eq_true rfl) dX3_readNumber_97 (fun H locs hP hD hS => ?_)
            have h9R := zRe (ws' := [(rd, .inr (3, [.ref ri, .ref rl, .int rz, .int rc, .int i_8, .int rp, .int rt, .int ru])), (rl, .inl (cI, 160, .inl fl))]) hP hD rfl
            clear hP hD
            obtain ⟨hP, hD⟩ := h9R
            refine lv_iload hx hb dX3_readNumber_100 (lv_at hl 0 rfl) ?_
            exact W.iret (v := v_1) hx hb hr (fun t ht hW => ⟨⟨v_1, (i_8, rp), rfl, ⟨(show 0 ≤ i_8.toInt ∧ i_8.toInt ≤ 160 from ⟨by omega, by omega⟩), (show (-1) ≤ rp.toInt ∧ rp.toInt ≤ 160 from ⟨by omega, hy5⟩), (show i_8.toInt ≤ rz.toInt from by omega), (show i_8.toInt = zNe fl rz.toInt rp.toInt from by first | exact (zNe_eq (by omega) (by omega) hvi_8_2 (Or.inr (fun z => by (have z1 := z.1; omega)))).symm | exact (zNe_eq (by omega) (by omega) hvi_8_2 (Or.inl (by omega))).symm), (show (v_1 : Int32).toInt = zNv fl rp.toInt i_8.toInt from by assumption), (show ((rp.toInt = rp.toInt ∧ (i_8.toInt = rp.toInt ∨ (v_1 : Int32).toInt < lo.toInt ∨ hi.toInt < (v_1 : Int32).toInt)) ∨ (rp.toInt = rf.toInt ∧ i_8.toInt ≠ rp.toInt ∧ lo.toInt ≤ (v_1 : Int32).toInt ∧ (v_1 : Int32).toInt ≤ hi.toInt)) from by omega), ⟨by omega, by omega⟩⟩, zRet ht hP hD [0, 1] (by decide) rfl⟩, hS.F ht⟩) hS.2.2 dX3_readNumber_102
        · refine lv_if_ne (tgt := 100) hx hb dX3_readNumber_92 (by decide) (fun c_23 => ?_) (fun c_23 => ?_)
          · refine lv_iload hx hb dX3_readNumber_100 (lv_at hl 0 rfl) ?_
            exact W.iret (v := v_1) hx hb hr (fun t ht hW => ⟨⟨v_1, (i_8, rf), rfl, ⟨(show 0 ≤ i_8.toInt ∧ i_8.toInt ≤ 160 from ⟨by omega, by omega⟩), (show (-1) ≤ rf.toInt ∧ rf.toInt ≤ 160 from ⟨hy7, hy8⟩), (show i_8.toInt ≤ rz.toInt from by omega), (show i_8.toInt = zNe fl rz.toInt rp.toInt from by first | exact (zNe_eq (by omega) (by omega) hvi_8_2 (Or.inr (fun z => by (have z1 := z.1; omega)))).symm | exact (zNe_eq (by omega) (by omega) hvi_8_2 (Or.inl (by omega))).symm), (show (v_1 : Int32).toInt = zNv fl rp.toInt i_8.toInt from by assumption), (show ((rf.toInt = rp.toInt ∧ (i_8.toInt = rp.toInt ∨ (v_1 : Int32).toInt < lo.toInt ∨ hi.toInt < (v_1 : Int32).toInt)) ∨ (rf.toInt = rf.toInt ∧ i_8.toInt ≠ rp.toInt ∧ lo.toInt ≤ (v_1 : Int32).toInt ∧ (v_1 : Int32).toInt ≤ hi.toInt)) from by omega), ⟨by omega, by omega⟩⟩, zRet ht hP hD [0, 1] (by decide) rfl⟩, hS.F ht⟩) hS.2.2 dX3_readNumber_102
          · exact absurd c_23 (by decide)
    · have fc_13 : i_8.toInt < rz.toInt := zf_nle c_13 rfl rfl
      refine lv_aload_n hx hb dX3_readNumber_19 rfl (lv_at hl 2 rfl) ?_
      refine va_get (D := D) (ci := 3) (v := .int i_8) (C := RX3) (T := TX3) (N := 8) hx hb hts hi_X3_readNumber_3 hown hK hP 0 rfl rfl 4 (by decide) (hts (.fieldLink RX3 25 "TheLiningsInIt$Reader" "place" "I") (List.mem_of_getElem? (i := 1) rfl)) (fun _ h9 => h9) rfl dX3_readNumber_20 ?_
      refine lv_iload_n hx hb dX3_readNumber_23 rfl (lv_at hl 1 rfl) ?_
      refine lv_iconst (v := 3) hx hb dX3_readNumber_24 (by decide) ?_
      refine lv_iadd hx hb dX3_readNumber_25 ?_
      refine lv_topi (fun x_24 ex_24 => ?_)
      have qx_24 : x_24.toInt = rp.toInt + 3 := by rw [ex_24]; exact zf_add rfl (by decide) (by omega) (by omega)
      refine lv_icmp_ge (tgt := 77) hx hb dX3_readNumber_26 (by decide) (fun c_25 => ?_) (fun c_25 => ?_)
      · have fc_25 : x_24.toInt ≤ i_8.toInt := zf_le c_25 rfl rfl
        refine lv_aload_n hx hb dX3_readNumber_77 rfl (lv_at hl 2 rfl) ?_
        refine va_get (D := D) (ci := 3) (v := .int i_8) (C := RX3) (T := TX3) (N := 8) hx hb hts hi_X3_readNumber_3 hown hK hP 0 rfl rfl 4 (by decide) (hts (.fieldLink RX3 25 "TheLiningsInIt$Reader" "place" "I") (List.mem_of_getElem? (i := 1) rfl)) (fun _ h9 => h9) rfl dX3_readNumber_78 ?_
        refine lv_iload_n hx hb dX3_readNumber_81 rfl (lv_at hl 1 rfl) ?_
        refine lv_icmp_eq (tgt := 95) hx hb dX3_readNumber_82 (by decide) (fun c_26 => ?_) (fun c_26 => ?_)
        · have fc_26 : i_8.toInt = rp.toInt := zf_eq c_26 rfl rfl
          refine lv_aload_n hx hb dX3_readNumber_95 rfl (lv_at hl 2 rfl) ?_
          refine lv_iload_n hx hb dX3_readNumber_96 rfl (lv_at hl 1 rfl) ?_
          refine va_put (D := D) (ci := 3) (v := .int rp) (ty := .int) (C := RX3) (T := TX3) (N := 8) hx hb hts hi_X3_readNumber_3 tyX3 tyX3_ok nmX3 hown hK hP hD hS 0 rfl rfl 5 (by decide) (hts (.fieldLink RX3 28 "TheLiningsInIt$Reader" "fault" "I") (List.mem_of_getElem? (i := 4) rfl)) (fun _ h9 => h9) rfl (tyX3_ok 5 (Nat.le_of_ble_eq_true rfl)) rfl rfl (Nat.le_of_ble_eq_true rfl) dX3_readNumber_97 (fun H locs hP hD hS => ?_)
          have h9R := zRe (ws' := [(rd, .inr (3, [.ref ri, .ref rl, .int rz, .int rc, .int i_8, .int rp, .int rt, .int ru])), (rl, .inl (cI, 160, .inl fl))]) hP hD rfl
          clear hP hD
          obtain ⟨hP, hD⟩ := h9R
          refine lv_iload hx hb dX3_readNumber_100 (lv_at hl 0 rfl) ?_
          exact W.iret (v := v_1) hx hb hr (fun t ht hW => ⟨⟨v_1, (i_8, rp), rfl, ⟨(show 0 ≤ i_8.toInt ∧ i_8.toInt ≤ 160 from ⟨by omega, by omega⟩), (show (-1) ≤ rp.toInt ∧ rp.toInt ≤ 160 from ⟨by omega, hy5⟩), (show i_8.toInt ≤ rz.toInt from by omega), (show i_8.toInt = zNe fl rz.toInt rp.toInt from by first | exact (zNe_eq (by omega) (by omega) hvi_8_2 (Or.inr (fun z => by (have z1 := z.1; omega)))).symm | exact (zNe_eq (by omega) (by omega) hvi_8_2 (Or.inl (by omega))).symm), (show (v_1 : Int32).toInt = zNv fl rp.toInt i_8.toInt from by assumption), (show ((rp.toInt = rp.toInt ∧ (i_8.toInt = rp.toInt ∨ (v_1 : Int32).toInt < lo.toInt ∨ hi.toInt < (v_1 : Int32).toInt)) ∨ (rp.toInt = rf.toInt ∧ i_8.toInt ≠ rp.toInt ∧ lo.toInt ≤ (v_1 : Int32).toInt ∧ (v_1 : Int32).toInt ≤ hi.toInt)) from by omega), ⟨by omega, by omega⟩⟩, zRet ht hP hD [0, 1] (by decide) rfl⟩, hS.F ht⟩) hS.2.2 dX3_readNumber_102
        · have fc_26 : i_8.toInt ≠ rp.toInt := zf_ne c_26 rfl rfl
          refine lv_iload hx hb dX3_readNumber_85 (lv_at hl 0 rfl) ?_
          refine lv_iload_n hx hb dX3_readNumber_87 rfl (lv_at hl 3 rfl) ?_
          refine lv_iload_n hx hb dX3_readNumber_88 rfl (lv_at hl 4 rfl) ?_
          refine zc_SN (As := [.int v_1, .int lo, .int hi]) (rest := []) ⟨hx, hb, hml, hown, hts⟩ (c_within l D cI cJ cZ cP cS po (v_1) (lo) (hi) ) ⟨(va_cnB 3 hts gX3_readNumber_X7_within_n109 rfl rfl rfl (hN.1 (RX3, 109, yX7_within) (List.mem_of_getElem? (i := 8) rfl)) (hts _ (List.mem_of_getElem? (i := 10) rfl)) dh_X7_within ⟨Nat.le_of_ble_eq_true rfl, Nat.le_of_ble_eq_true rfl⟩), (hts _ (List.mem_of_getElem? (i := 9) rfl)), trivial⟩ hK hN (hZ.kept hS) rfl hl.1 rfl (Nat.le_of_ble_eq_true rfl) dX3_readNumber_89 ⟨Nat.le_of_ble_eq_true rfl, Nat.le_of_ble_eq_true rfl⟩ (fun r_27 hr_27 => ?_)
          rcases hr_27 with ⟨rfl, g_28⟩ | ⟨rfl, g_29, g_30⟩ | ⟨rfl, g_31, g_32⟩
          · refine lv_if_ne (tgt := 100) hx hb dX3_readNumber_92 (by decide) (fun c_33 => ?_) (fun c_33 => ?_)
            · exact absurd c_33 (by decide)
            · refine lv_aload_n hx hb dX3_readNumber_95 rfl (lv_at hl 2 rfl) ?_
              refine lv_iload_n hx hb dX3_readNumber_96 rfl (lv_at hl 1 rfl) ?_
              refine va_put (D := D) (ci := 3) (v := .int rp) (ty := .int) (C := RX3) (T := TX3) (N := 8) hx hb hts hi_X3_readNumber_3 tyX3 tyX3_ok nmX3 hown hK hP hD hS 0 rfl rfl 5 (by decide) (hts (.fieldLink RX3 28 "TheLiningsInIt$Reader" "fault" "I") (List.mem_of_getElem? (i := 4) rfl)) (fun _ h9 => h9) rfl (tyX3_ok 5 (Nat.le_of_ble_eq_true rfl)) rfl rfl (Nat.le_of_ble_eq_true rfl) dX3_readNumber_97 (fun H locs hP hD hS => ?_)
              have h9R := zRe (ws' := [(rd, .inr (3, [.ref ri, .ref rl, .int rz, .int rc, .int i_8, .int rp, .int rt, .int ru])), (rl, .inl (cI, 160, .inl fl))]) hP hD rfl
              clear hP hD
              obtain ⟨hP, hD⟩ := h9R
              refine lv_iload hx hb dX3_readNumber_100 (lv_at hl 0 rfl) ?_
              exact W.iret (v := v_1) hx hb hr (fun t ht hW => ⟨⟨v_1, (i_8, rp), rfl, ⟨(show 0 ≤ i_8.toInt ∧ i_8.toInt ≤ 160 from ⟨by omega, by omega⟩), (show (-1) ≤ rp.toInt ∧ rp.toInt ≤ 160 from ⟨by omega, hy5⟩), (show i_8.toInt ≤ rz.toInt from by omega), (show i_8.toInt = zNe fl rz.toInt rp.toInt from by first | exact (zNe_eq (by omega) (by omega) hvi_8_2 (Or.inr (fun z => by (have z1 := z.1; omega)))).symm | exact (zNe_eq (by omega) (by omega) hvi_8_2 (Or.inl (by omega))).symm), (show (v_1 : Int32).toInt = zNv fl rp.toInt i_8.toInt from by assumption), (show ((rp.toInt = rp.toInt ∧ (i_8.toInt = rp.toInt ∨ (v_1 : Int32).toInt < lo.toInt ∨ hi.toInt < (v_1 : Int32).toInt)) ∨ (rp.toInt = rf.toInt ∧ i_8.toInt ≠ rp.toInt ∧ lo.toInt ≤ (v_1 : Int32).toInt ∧ (v_1 : Int32).toInt ≤ hi.toInt)) from by omega), ⟨by omega, by omega⟩⟩, zRet ht hP hD [0, 1] (by decide) rfl⟩, hS.F ht⟩) hS.2.2 dX3_readNumber_102
          · refine lv_if_ne (tgt := 100) hx hb dX3_readNumber_92 (by decide) (fun c_34 => ?_) (fun c_34 => ?_)
            · exact absurd c_34 (by decide)
            · refine lv_aload_n hx hb dX3_readNumber_95 rfl (lv_at hl 2 rfl) ?_
              refine lv_iload_n hx hb dX3_readNumber_96 rfl (lv_at hl 1 rfl) ?_
              refine va_put (D := D) (ci := 3) (v := .int rp) (ty := .int) (C := RX3) (T := TX3) (N := 8) hx hb hts hi_X3_readNumber_3 tyX3 tyX3_ok nmX3 hown hK hP hD hS 0 rfl rfl 5 (by decide) (hts (.fieldLink RX3 28 "TheLiningsInIt$Reader" "fault" "I") (List.mem_of_getElem? (i := 4) rfl)) (fun _ h9 => h9) rfl (tyX3_ok 5 (Nat.le_of_ble_eq_true rfl)) rfl rfl (Nat.le_of_ble_eq_true rfl) dX3_readNumber_97 (fun H locs hP hD hS => ?_)
              have h9R := zRe (ws' := [(rd, .inr (3, [.ref ri, .ref rl, .int rz, .int rc, .int i_8, .int rp, .int rt, .int ru])), (rl, .inl (cI, 160, .inl fl))]) hP hD rfl
              clear hP hD
              obtain ⟨hP, hD⟩ := h9R
              refine lv_iload hx hb dX3_readNumber_100 (lv_at hl 0 rfl) ?_
              exact W.iret (v := v_1) hx hb hr (fun t ht hW => ⟨⟨v_1, (i_8, rp), rfl, ⟨(show 0 ≤ i_8.toInt ∧ i_8.toInt ≤ 160 from ⟨by omega, by omega⟩), (show (-1) ≤ rp.toInt ∧ rp.toInt ≤ 160 from ⟨by omega, hy5⟩), (show i_8.toInt ≤ rz.toInt from by omega), (show i_8.toInt = zNe fl rz.toInt rp.toInt from by first | exact (zNe_eq (by omega) (by omega) hvi_8_2 (Or.inr (fun z => by (have z1 := z.1; omega)))).symm | exact (zNe_eq (by omega) (by omega) hvi_8_2 (Or.inl (by omega))).symm), (show (v_1 : Int32).toInt = zNv fl rp.toInt i_8.toInt from by assumption), (show ((rp.toInt = rp.toInt ∧ (i_8.toInt = rp.toInt ∨ (v_1 : Int32).toInt < lo.toInt ∨ hi.toInt < (v_1 : Int32).toInt)) ∨ (rp.toInt = rf.toInt ∧ i_8.toInt ≠ rp.toInt ∧ lo.toInt ≤ (v_1 : Int32).toInt ∧ (v_1 : Int32).toInt ≤ hi.toInt)) from by omega), ⟨by omega, by omega⟩⟩, zRet ht hP hD [0, 1] (by decide) rfl⟩, hS.F ht⟩) hS.2.2 dX3_readNumber_102
          · refine lv_if_ne (tgt := 100) hx hb dX3_readNumber_92 (by decide) (fun c_35 => ?_) (fun c_35 => ?_)
            · refine lv_iload hx hb dX3_readNumber_100 (lv_at hl 0 rfl) ?_
              exact W.iret (v := v_1) hx hb hr (fun t ht hW => ⟨⟨v_1, (i_8, rf), rfl, ⟨(show 0 ≤ i_8.toInt ∧ i_8.toInt ≤ 160 from ⟨by omega, by omega⟩), (show (-1) ≤ rf.toInt ∧ rf.toInt ≤ 160 from ⟨hy7, hy8⟩), (show i_8.toInt ≤ rz.toInt from by omega), (show i_8.toInt = zNe fl rz.toInt rp.toInt from by first | exact (zNe_eq (by omega) (by omega) hvi_8_2 (Or.inr (fun z => by (have z1 := z.1; omega)))).symm | exact (zNe_eq (by omega) (by omega) hvi_8_2 (Or.inl (by omega))).symm), (show (v_1 : Int32).toInt = zNv fl rp.toInt i_8.toInt from by assumption), (show ((rf.toInt = rp.toInt ∧ (i_8.toInt = rp.toInt ∨ (v_1 : Int32).toInt < lo.toInt ∨ hi.toInt < (v_1 : Int32).toInt)) ∨ (rf.toInt = rf.toInt ∧ i_8.toInt ≠ rp.toInt ∧ lo.toInt ≤ (v_1 : Int32).toInt ∧ (v_1 : Int32).toInt ≤ hi.toInt)) from by omega), ⟨by omega, by omega⟩⟩, zRet ht hP hD [0, 1] (by decide) rfl⟩, hS.F ht⟩) hS.2.2 dX3_readNumber_102
            · exact absurd c_35 (by decide)
      · have fc_25 : i_8.toInt < x_24.toInt := zf_nle c_25 rfl rfl
        refine lv_aload_n hx hb dX3_readNumber_29 rfl (lv_at hl 2 rfl) ?_
        refine va_get (D := D) (ci := 3) (v := .ref rl) (C := RX3) (T := TX3) (N := 8) hx hb hts hi_X3_readNumber_3 hown hK hP 0 rfl rfl 1 (by decide) (hts (.fieldLink RX3 15 "TheLiningsInIt$Reader" "letters" "[I") (List.mem_of_getElem? (i := 3) rfl)) (fun _ h9 => h9) rfl dX3_readNumber_30 ?_
        refine lv_aload_n hx hb dX3_readNumber_33 rfl (lv_at hl 2 rfl) ?_
        refine va_get (D := D) (ci := 3) (v := .int i_8) (C := RX3) (T := TX3) (N := 8) hx hb hts hi_X3_readNumber_3 hown hK hP 0 rfl rfl 4 (by decide) (hts (.fieldLink RX3 25 "TheLiningsInIt$Reader" "place" "I") (List.mem_of_getElem? (i := 1) rfl)) (fun _ h9 => h9) rfl dX3_readNumber_34 ?_
        refine va_iald hx hb hK hP 1 0 rfl rfl (zf_in (by omega) (by omega)) dX3_readNumber_37 ?_
        refine lv_topi (fun x_36 ex_36 => ?_)
        refine zc_S (As := [.int x_36]) (rest := []) ⟨hx, hb, hml, hown, hts⟩ (c_R_isDigit l D cI cJ cZ cP cS po (x_36) ) (va_cwS 1 hts gX3_readNumber_X3_isDigit rfl rfl rfl dh_X3_isDigit ⟨Nat.le_of_ble_eq_true rfl, Nat.le_of_ble_eq_true rfl⟩) hK hN (hZ.kept hS) rfl hl.1 rfl (Nat.le_of_ble_eq_true rfl) dX3_readNumber_38 ⟨Nat.le_of_ble_eq_true rfl, Nat.le_of_ble_eq_true rfl⟩ (fun r_37 hr_37 => ?_)
        rcases hr_37 with ⟨rfl, g_38⟩ | ⟨rfl, g_39, g_40⟩ | ⟨rfl, g_41, g_42⟩
        · refine lv_if_eq (tgt := 77) hx hb dX3_readNumber_41 (by decide) (fun c_43 => ?_) (fun c_43 => ?_)
          · refine lv_aload_n hx hb dX3_readNumber_77 rfl (lv_at hl 2 rfl) ?_
            refine va_get (D := D) (ci := 3) (v := .int i_8) (C := RX3) (T := TX3) (N := 8) hx hb hts hi_X3_readNumber_3 hown hK hP 0 rfl rfl 4 (by decide) (hts (.fieldLink RX3 25 "TheLiningsInIt$Reader" "place" "I") (List.mem_of_getElem? (i := 1) rfl)) (fun _ h9 => h9) rfl dX3_readNumber_78 ?_
            refine lv_iload_n hx hb dX3_readNumber_81 rfl (lv_at hl 1 rfl) ?_
            refine lv_icmp_eq (tgt := 95) hx hb dX3_readNumber_82 (by decide) (fun c_44 => ?_) (fun c_44 => ?_)
            · have fc_44 : i_8.toInt = rp.toInt := zf_eq c_44 rfl rfl
              refine lv_aload_n hx hb dX3_readNumber_95 rfl (lv_at hl 2 rfl) ?_
              refine lv_iload_n hx hb dX3_readNumber_96 rfl (lv_at hl 1 rfl) ?_
              refine va_put (D := D) (ci := 3) (v := .int rp) (ty := .int) (C := RX3) (T := TX3) (N := 8) hx hb hts hi_X3_readNumber_3 tyX3 tyX3_ok nmX3 hown hK hP hD hS 0 rfl rfl 5 (by decide) (hts (.fieldLink RX3 28 "TheLiningsInIt$Reader" "fault" "I") (List.mem_of_getElem? (i := 4) rfl)) (fun _ h9 => h9) rfl (tyX3_ok 5 (Nat.le_of_ble_eq_true rfl)) rfl rfl (Nat.le_of_ble_eq_true rfl) dX3_readNumber_97 (fun H locs hP hD hS => ?_)
              have h9R := zRe (ws' := [(rd, .inr (3, [.ref ri, .ref rl, .int rz, .int rc, .int i_8, .int rp, .int rt, .int ru])), (rl, .inl (cI, 160, .inl fl))]) hP hD rfl
              clear hP hD
              obtain ⟨hP, hD⟩ := h9R
              refine lv_iload hx hb dX3_readNumber_100 (lv_at hl 0 rfl) ?_
              exact W.iret (v := v_1) hx hb hr (fun t ht hW => ⟨⟨v_1, (i_8, rp), rfl, ⟨(show 0 ≤ i_8.toInt ∧ i_8.toInt ≤ 160 from ⟨by omega, by omega⟩), (show (-1) ≤ rp.toInt ∧ rp.toInt ≤ 160 from ⟨by omega, hy5⟩), (show i_8.toInt ≤ rz.toInt from by omega), (show i_8.toInt = zNe fl rz.toInt rp.toInt from by first | exact (zNe_eq (by omega) (by omega) hvi_8_2 (Or.inr (fun z => by (have z1 := z.1; omega)))).symm | exact (zNe_eq (by omega) (by omega) hvi_8_2 (Or.inl (by omega))).symm | exact (zNe_eq (by omega) (by omega) hvi_8_2 (Or.inr (fun z => by (have h8 : (fl i_8.toInt.toNat).toInt = x_36.toInt := (by rw [ex_36]; rfl); have z1 := z.2.1; have z2 := z.2.2; omega)))).symm), (show (v_1 : Int32).toInt = zNv fl rp.toInt i_8.toInt from by assumption), (show ((rp.toInt = rp.toInt ∧ (i_8.toInt = rp.toInt ∨ (v_1 : Int32).toInt < lo.toInt ∨ hi.toInt < (v_1 : Int32).toInt)) ∨ (rp.toInt = rf.toInt ∧ i_8.toInt ≠ rp.toInt ∧ lo.toInt ≤ (v_1 : Int32).toInt ∧ (v_1 : Int32).toInt ≤ hi.toInt)) from by omega), ⟨by omega, by omega⟩⟩, zRet ht hP hD [0, 1] (by decide) rfl⟩, hS.F ht⟩) hS.2.2 dX3_readNumber_102
            · have fc_44 : i_8.toInt ≠ rp.toInt := zf_ne c_44 rfl rfl
              refine lv_iload hx hb dX3_readNumber_85 (lv_at hl 0 rfl) ?_
              refine lv_iload_n hx hb dX3_readNumber_87 rfl (lv_at hl 3 rfl) ?_
              refine lv_iload_n hx hb dX3_readNumber_88 rfl (lv_at hl 4 rfl) ?_
              refine zc_SN (As := [.int v_1, .int lo, .int hi]) (rest := []) ⟨hx, hb, hml, hown, hts⟩ (c_within l D cI cJ cZ cP cS po (v_1) (lo) (hi) ) ⟨(va_cnB 3 hts gX3_readNumber_X7_within_n109 rfl rfl rfl (hN.1 (RX3, 109, yX7_within) (List.mem_of_getElem? (i := 8) rfl)) (hts _ (List.mem_of_getElem? (i := 10) rfl)) dh_X7_within ⟨Nat.le_of_ble_eq_true rfl, Nat.le_of_ble_eq_true rfl⟩), (hts _ (List.mem_of_getElem? (i := 9) rfl)), trivial⟩ hK hN (hZ.kept hS) rfl hl.1 rfl (Nat.le_of_ble_eq_true rfl) dX3_readNumber_89 ⟨Nat.le_of_ble_eq_true rfl, Nat.le_of_ble_eq_true rfl⟩ (fun r_45 hr_45 => ?_)
              rcases hr_45 with ⟨rfl, g_46⟩ | ⟨rfl, g_47, g_48⟩ | ⟨rfl, g_49, g_50⟩
              · refine lv_if_ne (tgt := 100) hx hb dX3_readNumber_92 (by decide) (fun c_51 => ?_) (fun c_51 => ?_)
                · exact absurd c_51 (by decide)
                · refine lv_aload_n hx hb dX3_readNumber_95 rfl (lv_at hl 2 rfl) ?_
                  refine lv_iload_n hx hb dX3_readNumber_96 rfl (lv_at hl 1 rfl) ?_
                  refine va_put (D := D) (ci := 3) (v := .int rp) (ty := .int) (C := RX3) (T := TX3) (N := 8) hx hb hts hi_X3_readNumber_3 tyX3 tyX3_ok nmX3 hown hK hP hD hS 0 rfl rfl 5 (by decide) (hts (.fieldLink RX3 28 "TheLiningsInIt$Reader" "fault" "I") (List.mem_of_getElem? (i := 4) rfl)) (fun _ h9 => h9) rfl (tyX3_ok 5 (Nat.le_of_ble_eq_true rfl)) rfl rfl (Nat.le_of_ble_eq_true rfl) dX3_readNumber_97 (fun H locs hP hD hS => ?_)
                  have h9R := zRe (ws' := [(rd, .inr (3, [.ref ri, .ref rl, .int rz, .int rc, .int i_8, .int rp, .int rt, .int ru])), (rl, .inl (cI, 160, .inl fl))]) hP hD rfl
                  clear hP hD
                  obtain ⟨hP, hD⟩ := h9R
                  refine lv_iload hx hb dX3_readNumber_100 (lv_at hl 0 rfl) ?_
                  exact W.iret (v := v_1) hx hb hr (fun t ht hW => ⟨⟨v_1, (i_8, rp), rfl, ⟨(show 0 ≤ i_8.toInt ∧ i_8.toInt ≤ 160 from ⟨by omega, by omega⟩), (show (-1) ≤ rp.toInt ∧ rp.toInt ≤ 160 from ⟨by omega, hy5⟩), (show i_8.toInt ≤ rz.toInt from by omega), (show i_8.toInt = zNe fl rz.toInt rp.toInt from by first | exact (zNe_eq (by omega) (by omega) hvi_8_2 (Or.inr (fun z => by (have z1 := z.1; omega)))).symm | exact (zNe_eq (by omega) (by omega) hvi_8_2 (Or.inl (by omega))).symm | exact (zNe_eq (by omega) (by omega) hvi_8_2 (Or.inr (fun z => by (have h8 : (fl i_8.toInt.toNat).toInt = x_36.toInt := (by rw [ex_36]; rfl); have z1 := z.2.1; have z2 := z.2.2; omega)))).symm), (show (v_1 : Int32).toInt = zNv fl rp.toInt i_8.toInt from by assumption), (show ((rp.toInt = rp.toInt ∧ (i_8.toInt = rp.toInt ∨ (v_1 : Int32).toInt < lo.toInt ∨ hi.toInt < (v_1 : Int32).toInt)) ∨ (rp.toInt = rf.toInt ∧ i_8.toInt ≠ rp.toInt ∧ lo.toInt ≤ (v_1 : Int32).toInt ∧ (v_1 : Int32).toInt ≤ hi.toInt)) from by omega), ⟨by omega, by omega⟩⟩, zRet ht hP hD [0, 1] (by decide) rfl⟩, hS.F ht⟩) hS.2.2 dX3_readNumber_102
              · refine lv_if_ne (tgt := 100) hx hb dX3_readNumber_92 (by decide) (fun c_52 => ?_) (fun c_52 => ?_)
                · exact absurd c_52 (by decide)
                · refine lv_aload_n hx hb dX3_readNumber_95 rfl (lv_at hl 2 rfl) ?_
                  refine lv_iload_n hx hb dX3_readNumber_96 rfl (lv_at hl 1 rfl) ?_
                  refine va_put (D := D) (ci := 3) (v := .int rp) (ty := .int) (C := RX3) (T := TX3) (N := 8) hx hb hts hi_X3_readNumber_3 tyX3 tyX3_ok nmX3 hown hK hP hD hS 0 rfl rfl 5 (by decide) (hts (.fieldLink RX3 28 "TheLiningsInIt$Reader" "fault" "I") (List.mem_of_getElem? (i := 4) rfl)) (fun _ h9 => h9) rfl (tyX3_ok 5 (Nat.le_of_ble_eq_true rfl)) rfl rfl (Nat.le_of_ble_eq_true rfl) dX3_readNumber_97 (fun H locs hP hD hS => ?_)
                  have h9R := zRe (ws' := [(rd, .inr (3, [.ref ri, .ref rl, .int rz, .int rc, .int i_8, .int rp, .int rt, .int ru])), (rl, .inl (cI, 160, .inl fl))]) hP hD rfl
                  clear hP hD
                  obtain ⟨hP, hD⟩ := h9R
                  refine lv_iload hx hb dX3_readNumber_100 (lv_at hl 0 rfl) ?_
                  exact W.iret (v := v_1) hx hb hr (fun t ht hW => ⟨⟨v_1, (i_8, rp), rfl, ⟨(show 0 ≤ i_8.toInt ∧ i_8.toInt ≤ 160 from ⟨by omega, by omega⟩), (show (-1) ≤ rp.toInt ∧ rp.toInt ≤ 160 from ⟨by omega, hy5⟩), (show i_8.toInt ≤ rz.toInt from by omega), (show i_8.toInt = zNe fl rz.toInt rp.toInt from by first | exact (zNe_eq (by omega) (by omega) hvi_8_2 (Or.inr (fun z => by (have z1 := z.1; omega)))).symm | exact (zNe_eq (by omega) (by omega) hvi_8_2 (Or.inl (by omega))).symm | exact (zNe_eq (by omega) (by omega) hvi_8_2 (Or.inr (fun z => by (have h8 : (fl i_8.toInt.toNat).toInt = x_36.toInt := (by rw [ex_36]; rfl); have z1 := z.2.1; have z2 := z.2.2; omega)))).symm), (show (v_1 : Int32).toInt = zNv fl rp.toInt i_8.toInt from by assumption), (show ((rp.toInt = rp.toInt ∧ (i_8.toInt = rp.toInt ∨ (v_1 : Int32).toInt < lo.toInt ∨ hi.toInt < (v_1 : Int32).toInt)) ∨ (rp.toInt = rf.toInt ∧ i_8.toInt ≠ rp.toInt ∧ lo.toInt ≤ (v_1 : Int32).toInt ∧ (v_1 : Int32).toInt ≤ hi.toInt)) from by omega), ⟨by omega, by omega⟩⟩, zRet ht hP hD [0, 1] (by decide) rfl⟩, hS.F ht⟩) hS.2.2 dX3_readNumber_102
              · refine lv_if_ne (tgt := 100) hx hb dX3_readNumber_92 (by decide) (fun c_53 => ?_) (fun c_53 => ?_)
                · refine lv_iload hx hb dX3_readNumber_100 (lv_at hl 0 rfl) ?_
                  exact W.iret (v := v_1) hx hb hr (fun t ht hW => ⟨⟨v_1, (i_8, rf), rfl, ⟨(show 0 ≤ i_8.toInt ∧ i_8.toInt ≤ 160 from ⟨by omega, by omega⟩), (show (-1) ≤ rf.toInt ∧ rf.toInt ≤ 160 from ⟨hy7, hy8⟩), (show i_8.toInt ≤ rz.toInt from by omega), (show i_8.toInt = zNe fl rz.toInt rp.toInt from by first | exact (zNe_eq (by omega) (by omega) hvi_8_2 (Or.inr (fun z => by (have z1 := z.1; omega)))).symm | exact (zNe_eq (by omega) (by omega) hvi_8_2 (Or.inl (by omega))).symm | exact (zNe_eq (by omega) (by omega) hvi_8_2 (Or.inr (fun z => by (have h8 : (fl i_8.toInt.toNat).toInt = x_36.toInt := (by rw [ex_36]; rfl); have z1 := z.2.1; have z2 := z.2.2; omega)))).symm), (show (v_1 : Int32).toInt = zNv fl rp.toInt i_8.toInt from by assumption), (show ((rf.toInt = rp.toInt ∧ (i_8.toInt = rp.toInt ∨ (v_1 : Int32).toInt < lo.toInt ∨ hi.toInt < (v_1 : Int32).toInt)) ∨ (rf.toInt = rf.toInt ∧ i_8.toInt ≠ rp.toInt ∧ lo.toInt ≤ (v_1 : Int32).toInt ∧ (v_1 : Int32).toInt ≤ hi.toInt)) from by omega), ⟨by omega, by omega⟩⟩, zRet ht hP hD [0, 1] (by decide) rfl⟩, hS.F ht⟩) hS.2.2 dX3_readNumber_102
                · exact absurd c_53 (by decide)
          · exact absurd c_43 (by decide)
        · refine lv_if_eq (tgt := 77) hx hb dX3_readNumber_41 (by decide) (fun c_54 => ?_) (fun c_54 => ?_)
          · refine lv_aload_n hx hb dX3_readNumber_77 rfl (lv_at hl 2 rfl) ?_
            refine va_get (D := D) (ci := 3) (v := .int i_8) (C := RX3) (T := TX3) (N := 8) hx hb hts hi_X3_readNumber_3 hown hK hP 0 rfl rfl 4 (by decide) (hts (.fieldLink RX3 25 "TheLiningsInIt$Reader" "place" "I") (List.mem_of_getElem? (i := 1) rfl)) (fun _ h9 => h9) rfl dX3_readNumber_78 ?_
            refine lv_iload_n hx hb dX3_readNumber_81 rfl (lv_at hl 1 rfl) ?_
            refine lv_icmp_eq (tgt := 95) hx hb dX3_readNumber_82 (by decide) (fun c_55 => ?_) (fun c_55 => ?_)
            · have fc_55 : i_8.toInt = rp.toInt := zf_eq c_55 rfl rfl
              refine lv_aload_n hx hb dX3_readNumber_95 rfl (lv_at hl 2 rfl) ?_
              refine lv_iload_n hx hb dX3_readNumber_96 rfl (lv_at hl 1 rfl) ?_
              refine va_put (D := D) (ci := 3) (v := .int rp) (ty := .int) (C := RX3) (T := TX3) (N := 8) hx hb hts hi_X3_readNumber_3 tyX3 tyX3_ok nmX3 hown hK hP hD hS 0 rfl rfl 5 (by decide) (hts (.fieldLink RX3 28 "TheLiningsInIt$Reader" "fault" "I") (List.mem_of_getElem? (i := 4) rfl)) (fun _ h9 => h9) rfl (tyX3_ok 5 (Nat.le_of_ble_eq_true rfl)) rfl rfl (Nat.le_of_ble_eq_true rfl) dX3_readNumber_97 (fun H locs hP hD hS => ?_)
              have h9R := zRe (ws' := [(rd, .inr (3, [.ref ri, .ref rl, .int rz, .int rc, .int i_8, .int rp, .int rt, .int ru])), (rl, .inl (cI, 160, .inl fl))]) hP hD rfl
              clear hP hD
              obtain ⟨hP, hD⟩ := h9R
              refine lv_iload hx hb dX3_readNumber_100 (lv_at hl 0 rfl) ?_
              exact W.iret (v := v_1) hx hb hr (fun t ht hW => ⟨⟨v_1, (i_8, rp), rfl, ⟨(show 0 ≤ i_8.toInt ∧ i_8.toInt ≤ 160 from ⟨by omega, by omega⟩), (show (-1) ≤ rp.toInt ∧ rp.toInt ≤ 160 from ⟨by omega, hy5⟩), (show i_8.toInt ≤ rz.toInt from by omega), (show i_8.toInt = zNe fl rz.toInt rp.toInt from by first | exact (zNe_eq (by omega) (by omega) hvi_8_2 (Or.inr (fun z => by (have z1 := z.1; omega)))).symm | exact (zNe_eq (by omega) (by omega) hvi_8_2 (Or.inl (by omega))).symm | exact (zNe_eq (by omega) (by omega) hvi_8_2 (Or.inr (fun z => by (have h8 : (fl i_8.toInt.toNat).toInt = x_36.toInt := (by rw [ex_36]; rfl); have z1 := z.2.1; have z2 := z.2.2; omega)))).symm), (show (v_1 : Int32).toInt = zNv fl rp.toInt i_8.toInt from by assumption), (show ((rp.toInt = rp.toInt ∧ (i_8.toInt = rp.toInt ∨ (v_1 : Int32).toInt < lo.toInt ∨ hi.toInt < (v_1 : Int32).toInt)) ∨ (rp.toInt = rf.toInt ∧ i_8.toInt ≠ rp.toInt ∧ lo.toInt ≤ (v_1 : Int32).toInt ∧ (v_1 : Int32).toInt ≤ hi.toInt)) from by omega), ⟨by omega, by omega⟩⟩, zRet ht hP hD [0, 1] (by decide) rfl⟩, hS.F ht⟩) hS.2.2 dX3_readNumber_102
            · have fc_55 : i_8.toInt ≠ rp.toInt := zf_ne c_55 rfl rfl
              refine lv_iload hx hb dX3_readNumber_85 (lv_at hl 0 rfl) ?_
              refine lv_iload_n hx hb dX3_readNumber_87 rfl (lv_at hl 3 rfl) ?_
              refine lv_iload_n hx hb dX3_readNumber_88 rfl (lv_at hl 4 rfl) ?_
              refine zc_SN (As := [.int v_1, .int lo, .int hi]) (rest := []) ⟨hx, hb, hml, hown, hts⟩ (c_within l D cI cJ cZ cP cS po (v_1) (lo) (hi) ) ⟨(va_cnB 3 hts gX3_readNumber_X7_within_n109 rfl rfl rfl (hN.1 (RX3, 109, yX7_within) (List.mem_of_getElem? (i := 8) rfl)) (hts _ (List.mem_of_getElem? (i := 10) rfl)) dh_X7_within ⟨Nat.le_of_ble_eq_true rfl, Nat.le_of_ble_eq_true rfl⟩), (hts _ (List.mem_of_getElem? (i := 9) rfl)), trivial⟩ hK hN (hZ.kept hS) rfl hl.1 rfl (Nat.le_of_ble_eq_true rfl) dX3_readNumber_89 ⟨Nat.le_of_ble_eq_true rfl, Nat.le_of_ble_eq_true rfl⟩ (fun r_56 hr_56 => ?_)
              rcases hr_56 with ⟨rfl, g_57⟩ | ⟨rfl, g_58, g_59⟩ | ⟨rfl, g_60, g_61⟩
              · refine lv_if_ne (tgt := 100) hx hb dX3_readNumber_92 (by decide) (fun c_62 => ?_) (fun c_62 => ?_)
                · exact absurd c_62 (by decide)
                · refine lv_aload_n hx hb dX3_readNumber_95 rfl (lv_at hl 2 rfl) ?_
                  refine lv_iload_n hx hb dX3_readNumber_96 rfl (lv_at hl 1 rfl) ?_
                  refine va_put (D := D) (ci := 3) (v := .int rp) (ty := .int) (C := RX3) (T := TX3) (N := 8) hx hb hts hi_X3_readNumber_3 tyX3 tyX3_ok nmX3 hown hK hP hD hS 0 rfl rfl 5 (by decide) (hts (.fieldLink RX3 28 "TheLiningsInIt$Reader" "fault" "I") (List.mem_of_getElem? (i := 4) rfl)) (fun _ h9 => h9) rfl (tyX3_ok 5 (Nat.le_of_ble_eq_true rfl)) rfl rfl (Nat.le_of_ble_eq_true rfl) dX3_readNumber_97 (fun H locs hP hD hS => ?_)
                  have h9R := zRe (ws' := [(rd, .inr (3, [.ref ri, .ref rl, .int rz, .int rc, .int i_8, .int rp, .int rt, .int ru])), (rl, .inl (cI, 160, .inl fl))]) hP hD rfl
                  clear hP hD
                  obtain ⟨hP, hD⟩ := h9R
                  refine lv_iload hx hb dX3_readNumber_100 (lv_at hl 0 rfl) ?_
                  exact W.iret (v := v_1) hx hb hr (fun t ht hW => ⟨⟨v_1, (i_8, rp), rfl, ⟨(show 0 ≤ i_8.toInt ∧ i_8.toInt ≤ 160 from ⟨by omega, by omega⟩), (show (-1) ≤ rp.toInt ∧ rp.toInt ≤ 160 from ⟨by omega, hy5⟩), (show i_8.toInt ≤ rz.toInt from by omega), (show i_8.toInt = zNe fl rz.toInt rp.toInt from by first | exact (zNe_eq (by omega) (by omega) hvi_8_2 (Or.inr (fun z => by (have z1 := z.1; omega)))).symm | exact (zNe_eq (by omega) (by omega) hvi_8_2 (Or.inl (by omega))).symm | exact (zNe_eq (by omega) (by omega) hvi_8_2 (Or.inr (fun z => by (have h8 : (fl i_8.toInt.toNat).toInt = x_36.toInt := (by rw [ex_36]; rfl); have z1 := z.2.1; have z2 := z.2.2; omega)))).symm), (show (v_1 : Int32).toInt = zNv fl rp.toInt i_8.toInt from by assumption), (show ((rp.toInt = rp.toInt ∧ (i_8.toInt = rp.toInt ∨ (v_1 : Int32).toInt < lo.toInt ∨ hi.toInt < (v_1 : Int32).toInt)) ∨ (rp.toInt = rf.toInt ∧ i_8.toInt ≠ rp.toInt ∧ lo.toInt ≤ (v_1 : Int32).toInt ∧ (v_1 : Int32).toInt ≤ hi.toInt)) from by omega), ⟨by omega, by omega⟩⟩, zRet ht hP hD [0, 1] (by decide) rfl⟩, hS.F ht⟩) hS.2.2 dX3_readNumber_102
              · refine lv_if_ne (tgt := 100) hx hb dX3_readNumber_92 (by decide) (fun c_63 => ?_) (fun c_63 => ?_)
                · exact absurd c_63 (by decide)
                · refine lv_aload_n hx hb dX3_readNumber_95 rfl (lv_at hl 2 rfl) ?_
                  refine lv_iload_n hx hb dX3_readNumber_96 rfl (lv_at hl 1 rfl) ?_
                  refine va_put (D := D) (ci := 3) (v := .int rp) (ty := .int) (C := RX3) (T := TX3) (N := 8) hx hb hts hi_X3_readNumber_3 tyX3 tyX3_ok nmX3 hown hK hP hD hS 0 rfl rfl 5 (by decide) (hts (.fieldLink RX3 28 "TheLiningsInIt$Reader" "fault" "I") (List.mem_of_getElem? (i := 4) rfl)) (fun _ h9 => h9) rfl (tyX3_ok 5 (Nat.le_of_ble_eq_true rfl)) rfl rfl (Nat.le_of_ble_eq_true rfl) dX3_readNumber_97 (fun H locs hP hD hS => ?_)
                  have h9R := zRe (ws' := [(rd, .inr (3, [.ref ri, .ref rl, .int rz, .int rc, .int i_8, .int rp, .int rt, .int ru])), (rl, .inl (cI, 160, .inl fl))]) hP hD rfl
                  clear hP hD
                  obtain ⟨hP, hD⟩ := h9R
                  refine lv_iload hx hb dX3_readNumber_100 (lv_at hl 0 rfl) ?_
                  exact W.iret (v := v_1) hx hb hr (fun t ht hW => ⟨⟨v_1, (i_8, rp), rfl, ⟨(show 0 ≤ i_8.toInt ∧ i_8.toInt ≤ 160 from ⟨by omega, by omega⟩), (show (-1) ≤ rp.toInt ∧ rp.toInt ≤ 160 from ⟨by omega, hy5⟩), (show i_8.toInt ≤ rz.toInt from by omega), (show i_8.toInt = zNe fl rz.toInt rp.toInt from by first | exact (zNe_eq (by omega) (by omega) hvi_8_2 (Or.inr (fun z => by (have z1 := z.1; omega)))).symm | exact (zNe_eq (by omega) (by omega) hvi_8_2 (Or.inl (by omega))).symm | exact (zNe_eq (by omega) (by omega) hvi_8_2 (Or.inr (fun z => by (have h8 : (fl i_8.toInt.toNat).toInt = x_36.toInt := (by rw [ex_36]; rfl); have z1 := z.2.1; have z2 := z.2.2; omega)))).symm), (show (v_1 : Int32).toInt = zNv fl rp.toInt i_8.toInt from by assumption), (show ((rp.toInt = rp.toInt ∧ (i_8.toInt = rp.toInt ∨ (v_1 : Int32).toInt < lo.toInt ∨ hi.toInt < (v_1 : Int32).toInt)) ∨ (rp.toInt = rf.toInt ∧ i_8.toInt ≠ rp.toInt ∧ lo.toInt ≤ (v_1 : Int32).toInt ∧ (v_1 : Int32).toInt ≤ hi.toInt)) from by omega), ⟨by omega, by omega⟩⟩, zRet ht hP hD [0, 1] (by decide) rfl⟩, hS.F ht⟩) hS.2.2 dX3_readNumber_102
              · refine lv_if_ne (tgt := 100) hx hb dX3_readNumber_92 (by decide) (fun c_64 => ?_) (fun c_64 => ?_)
                · refine lv_iload hx hb dX3_readNumber_100 (lv_at hl 0 rfl) ?_
                  exact W.iret (v := v_1) hx hb hr (fun t ht hW => ⟨⟨v_1, (i_8, rf), rfl, ⟨(show 0 ≤ i_8.toInt ∧ i_8.toInt ≤ 160 from ⟨by omega, by omega⟩), (show (-1) ≤ rf.toInt ∧ rf.toInt ≤ 160 from ⟨hy7, hy8⟩), (show i_8.toInt ≤ rz.toInt from by omega), (show i_8.toInt = zNe fl rz.toInt rp.toInt from by first | exact (zNe_eq (by omega) (by omega) hvi_8_2 (Or.inr (fun z => by (have z1 := z.1; omega)))).symm | exact (zNe_eq (by omega) (by omega) hvi_8_2 (Or.inl (by omega))).symm | exact (zNe_eq (by omega) (by omega) hvi_8_2 (Or.inr (fun z => by (have h8 : (fl i_8.toInt.toNat).toInt = x_36.toInt := (by rw [ex_36]; rfl); have z1 := z.2.1; have z2 := z.2.2; omega)))).symm), (show (v_1 : Int32).toInt = zNv fl rp.toInt i_8.toInt from by assumption), (show ((rf.toInt = rp.toInt ∧ (i_8.toInt = rp.toInt ∨ (v_1 : Int32).toInt < lo.toInt ∨ hi.toInt < (v_1 : Int32).toInt)) ∨ (rf.toInt = rf.toInt ∧ i_8.toInt ≠ rp.toInt ∧ lo.toInt ≤ (v_1 : Int32).toInt ∧ (v_1 : Int32).toInt ≤ hi.toInt)) from by omega), ⟨by omega, by omega⟩⟩, zRet ht hP hD [0, 1] (by decide) rfl⟩, hS.F ht⟩) hS.2.2 dX3_readNumber_102
                · exact absurd c_64 (by decide)
          · exact absurd c_54 (by decide)
        · refine lv_if_eq (tgt := 77) hx hb dX3_readNumber_41 (by decide) (fun c_65 => ?_) (fun c_65 => ?_)
          · exact absurd c_65 (by decide)
          · refine lv_iload hx hb dX3_readNumber_44 (lv_at hl 0 rfl) ?_
            refine lv_bipush (v := 10) hx hb dX3_readNumber_46 (by decide) ?_
            refine lv_imul hx hb dX3_readNumber_48 ?_
            refine lv_topi (fun x_66 ex_66 => ?_)
            have qx_66 : x_66.toInt = v_1.toInt * 10 := by rw [ex_66]; exact zf_mul rfl (by decide) (by omega) (by omega)
            refine lv_aload_n hx hb dX3_readNumber_49 rfl (lv_at hl 2 rfl) ?_
            refine va_get (D := D) (ci := 3) (v := .ref rl) (C := RX3) (T := TX3) (N := 8) hx hb hts hi_X3_readNumber_3 hown hK hP 0 rfl rfl 1 (by decide) (hts (.fieldLink RX3 15 "TheLiningsInIt$Reader" "letters" "[I") (List.mem_of_getElem? (i := 3) rfl)) (fun _ h9 => h9) rfl dX3_readNumber_50 ?_
            refine lv_aload_n hx hb dX3_readNumber_53 rfl (lv_at hl 2 rfl) ?_
            refine va_get (D := D) (ci := 3) (v := .int i_8) (C := RX3) (T := TX3) (N := 8) hx hb hts hi_X3_readNumber_3 hown hK hP 0 rfl rfl 4 (by decide) (hts (.fieldLink RX3 25 "TheLiningsInIt$Reader" "place" "I") (List.mem_of_getElem? (i := 1) rfl)) (fun _ h9 => h9) rfl dX3_readNumber_54 ?_
            refine va_iald hx hb hK hP 1 0 rfl rfl (zf_in (by omega) (by omega)) dX3_readNumber_57 ?_
            refine lv_topi (fun y_67 ey_67 => ?_)
            obtain rfl : x_36 = y_67 := ex_36.trans ey_67.symm
            refine lv_iadd hx hb dX3_readNumber_58 ?_
            refine lv_topi (fun x_68 ex_68 => ?_)
            have qx_68 : x_68.toInt = x_66.toInt + x_36.toInt := by rw [ex_68]; exact zf_add rfl rfl (by omega) (by omega)
            refine lv_bipush (v := 48) hx hb dX3_readNumber_59 (by decide) ?_
            refine lv_isub hx hb dX3_readNumber_61 ?_
            refine lv_topi (fun x_69 ex_69 => ?_)
            have qx_69 : x_69.toInt = x_68.toInt - 48 := by rw [ex_69]; exact zf_sub rfl (by decide) (by omega) (by omega)
            refine lv_istore (lv' := [(4, .int x_69), (3, .int rp), (0, .ref rd), (1, .int lo), (2, .int hi)]) hx hb dX3_readNumber_62 hl (by decide) rfl (fun ls hl => ?_)
            refine lv_aload_n hx hb dX3_readNumber_64 rfl (lv_at hl 2 rfl) ?_
            refine lv_dup hx hb dX3_readNumber_65 rfl ?_
            refine va_get (D := D) (ci := 3) (v := .int i_8) (C := RX3) (T := TX3) (N := 8) hx hb hts hi_X3_readNumber_3 hown hK hP 0 rfl rfl 4 (by decide) (hts (.fieldLink RX3 25 "TheLiningsInIt$Reader" "place" "I") (List.mem_of_getElem? (i := 1) rfl)) (fun _ h9 => h9) rfl dX3_readNumber_66 ?_
            refine lv_iconst (v := 1) hx hb dX3_readNumber_69 (by decide) ?_
            refine lv_iadd hx hb dX3_readNumber_70 ?_
            refine lv_topi (fun x_70 ex_70 => ?_)
            have qx_70 : x_70.toInt = i_8.toInt + 1 := dw_inc ex_70 fc_25
            refine va_put (D := D) (ci := 3) (v := .int x_70) (ty := .int) (C := RX3) (T := TX3) (N := 8) hx hb hts hi_X3_readNumber_3 tyX3 tyX3_ok nmX3 hown hK hP hD hS 0 rfl rfl 4 (by decide) (hts (.fieldLink RX3 25 "TheLiningsInIt$Reader" "place" "I") (List.mem_of_getElem? (i := 1) rfl)) (fun _ h9 => h9) rfl (tyX3_ok 4 (Nat.le_of_ble_eq_true rfl)) rfl rfl (Nat.le_of_ble_eq_true rfl) dX3_readNumber_71 (fun H locs hP hD hS => ?_)
            have h9R := zRe (ws' := [(rd, .inr (3, [.ref ri, .ref rl, .int rz, .int rc, .int x_70, .int rf, .int rt, .int ru])), (rl, .inl (cI, 160, .inl fl))]) hP hD rfl
            clear hP hD
            obtain ⟨hP, hD⟩ := h9R
            refine lv_goto (tgt := 8) hx hb dX3_readNumber_74 (by decide) ?_
            exact ih x_70 x_69 _ _ _ (hP.sub [0, 1] rfl) (hD.sub [0, 1] (by decide) rfl) hS (lv_sub hl [0, 1, 2, 3, 4] rfl) ⟨by omega, by omega⟩ (show rp.toInt ≤ x_70.toInt ∧ x_70.toInt ≤ rz.toInt from by exact ⟨by omega, by omega⟩) (show x_70.toInt ≤ rp.toInt + 3 from by omega) (show (∀ j : Int, rp.toInt ≤ j → j < x_70.toInt → zDg fl rz.toInt j) from by (have h8 : (fl i_8.toInt.toNat).toInt = x_36.toInt := (by rw [ex_36]; rfl); exact zAll_S (P := fun j => zDg fl rz.toInt j) hvi_8_2 ⟨by omega, by omega, by omega⟩ (by omega))) (show (x_69 : Int32).toInt = zNv fl rp.toInt x_70.toInt from by (have h8 : (fl i_8.toInt.toNat).toInt = x_36.toInt := (by rw [ex_36]; rfl); have z := zNv_S (f := fl) (p := rp.toInt) (q := i_8.toInt) (by omega) (by omega); unfold zDv at z; rw [h8] at z; rw [show x_70.toInt = i_8.toInt + 1 from by omega, z]; omega)) (show (x_70.toInt = rp.toInt → (x_69 : Int32).toInt = 0) ∧ (x_70.toInt ≤ rp.toInt + 1 → (x_69 : Int32).toInt ≤ 9) ∧ (x_70.toInt ≤ rp.toInt + 2 → (x_69 : Int32).toInt ≤ 99) from by omega) (dw_lo hloi_8 qx_70) (dw_hn hni_8 qx_70)
end
