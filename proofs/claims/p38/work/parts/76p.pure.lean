section
/-! a text of letters: how many letters of a word stand at a place, the words, the numbers, an item, the items -/
def zLc (f : Nat → Int32) (e : Int) : Int → List Int32 → Nat
  | _, [] => 0
  | p, c :: l => if p < e ∧ f p.toNat = c then zLc f e (p + 1) l + 1 else 0
theorem zLc_c {f : Nat → Int32} {e p : Int} {c : Int32} {l : List Int32} : zLc f e p (c :: l) = (if p < e ∧ f p.toNat = c then zLc f e (p + 1) l + 1 else 0) := rfl
theorem zLc_le {f : Nat → Int32} {e : Int} : ∀ (l : List Int32) (p : Int), zLc f e p l ≤ l.length := by
  intro l
  induction l with
  | nil => intro p; exact Nat.le_refl _
  | cons c l ih =>
    intro p
    rw [zLc_c]
    split
    · have := ih (p + 1)
      simp only [List.length_cons]
      omega
    · simp only [List.length_cons]; omega
theorem zLc_eq {f : Nat → Int32} {e : Int} : ∀ (l : List Int32) (p : Int) (n : Nat), n ≤ l.length → (∀ j : Nat, j < n → p + (j : Int) < e ∧ f (p + (j : Int)).toNat = l.getD j 0) → (n = l.length ∨ ¬ (p + (n : Int) < e ∧ f (p + (n : Int)).toNat = l.getD n 0)) → zLc f e p l = n := by
  intro l
  induction l with
  | nil =>
    intro p n hn _ _
    have h0 : n = 0 := by simpa using hn
    rw [h0]
    rfl
  | cons c l ih =>
    intro p n hn hj hx
    rw [zLc_c]
    by_cases h : p < e ∧ f p.toNat = c
    · rw [if_pos h]
      match n, hn, hj, hx with
      | 0, _, _, hx =>
        exfalso
        rcases hx with hx | hx
        · simp at hx
        · exact hx (by simpa using h)
      | n + 1, hn, hj, hx =>
        have e1 : ∀ j : Nat, p + 1 + (j : Int) = p + ((j + 1 : Nat) : Int) := fun j => by omega
        have h9 := ih (p + 1) n (by simpa using hn) (fun j h3 => by
          have h4 := hj (j + 1) (by omega)
          rw [e1 j]
          exact ⟨h4.1, by rw [h4.2]; rfl⟩) (by
          rcases hx with hx | hx
          · exact Or.inl (by simpa using hx)
          · refine Or.inr (fun h5 => hx ?_)
            rw [e1 n] at h5
            exact ⟨h5.1, by rw [h5.2]; rfl⟩)
        rw [h9]
    · rw [if_neg h]
      match n, hj with
      | 0, _ => rfl
      | n + 1, hj =>
        exfalso
        have h4 := hj 0 (by omega)
        exact h (by simpa using h4)
theorem zLc_pre {f : Nat → Int32} {e : Int} : ∀ (l : List Int32) (p : Int) (j : Nat), j < zLc f e p l → p + (j : Int) < e ∧ f (p + (j : Int)).toNat = l.getD j 0 := by
  intro l
  induction l with
  | nil => intro p j h; exact absurd h (Nat.not_lt_zero j)
  | cons c l ih =>
    intro p j h
    rw [zLc_c] at h
    by_cases h1 : p < e ∧ f p.toNat = c
    · rw [if_pos h1] at h
      match j, h with
      | 0, _ => simpa using h1
      | j + 1, h =>
        have h4 := ih (p + 1) j (by omega)
        have e1 : p + ((j + 1 : Nat) : Int) = p + 1 + (j : Int) := by omega
        rw [e1]
        exact ⟨h4.1, by rw [h4.2]; rfl⟩
    · rw [if_neg h1] at h; exact absurd h (Nat.not_lt_zero j)
theorem zLc_congr {f g : Nat → Int32} {e : Int} (h : ∀ j : Int, 0 ≤ j → j < e → f j.toNat = g j.toNat) : ∀ (l : List Int32) (p : Int), 0 ≤ p → zLc f e p l = zLc g e p l := by
  intro l
  induction l with
  | nil => intro p _; rfl
  | cons c l ih =>
    intro p hp
    rw [zLc_c, zLc_c]
    by_cases h1 : p < e
    · rw [h p hp h1, ih (p + 1) (by omega)]
    · rw [if_neg (show ¬ (p < e ∧ f p.toNat = c) from fun z => h1 z.1), if_neg (show ¬ (p < e ∧ g p.toNat = c) from fun z => h1 z.1)]
/-- the first of n words that stands whole at p; the most letters of one that stand there -/
def zFst (f : Nat → Int32) (e p : Int) (ls : Nat → List Int32) : Nat → Int
  | 0 => -1
  | n + 1 => if zFst f e p ls n = -1 then (if zLc f e p (ls n) = (ls n).length then (n : Int) else -1) else zFst f e p ls n
def zMx (f : Nat → Int32) (e p : Int) (ls : Nat → List Int32) : Nat → Nat
  | 0 => 0
  | n + 1 => if zMx f e p ls n < zLc f e p (ls n) then zLc f e p (ls n) else zMx f e p ls n
theorem zFst_s {f : Nat → Int32} {e p : Int} {ls : Nat → List Int32} {n : Nat} : zFst f e p ls (n + 1) = (if zFst f e p ls n = -1 then (if zLc f e p (ls n) = (ls n).length then (n : Int) else -1) else zFst f e p ls n) := rfl
theorem zMx_s {f : Nat → Int32} {e p : Int} {ls : Nat → List Int32} {n : Nat} : zMx f e p ls (n + 1) = (if zMx f e p ls n < zLc f e p (ls n) then zLc f e p (ls n) else zMx f e p ls n) := rfl
theorem zFst_spec {f : Nat → Int32} {e p : Int} {ls : Nat → List Int32} : ∀ n : Nat, (zFst f e p ls n = -1 ∧ ∀ k : Nat, k < n → zLc f e p (ls k) ≠ (ls k).length) ∨ ∃ k : Nat, k < n ∧ zFst f e p ls n = (k : Int) ∧ zLc f e p (ls k) = (ls k).length ∧ ∀ j : Nat, j < k → zLc f e p (ls j) ≠ (ls j).length := by
  intro n
  induction n with
  | zero => exact Or.inl ⟨rfl, fun k h => absurd h (Nat.not_lt_zero k)⟩
  | succ n ih =>
    rcases ih with ⟨h1, h2⟩ | ⟨k, h1, h2, h3, h4⟩
    · rw [zFst_s]
      rw [if_pos h1]
      by_cases h3 : zLc f e p (ls n) = (ls n).length
      · rw [if_pos h3]
        exact Or.inr ⟨n, by omega, rfl, h3, h2⟩
      · rw [if_neg h3]
        refine Or.inl ⟨rfl, fun k hk => ?_⟩
        rcases Nat.lt_or_ge k n with h5 | h5
        · exact h2 k h5
        · obtain rfl : k = n := by omega
          exact h3
    · rw [zFst_s]
      rw [if_neg (by omega)]
      exact Or.inr ⟨k, by omega, h2, h3, h4⟩
theorem zMx_spec {f : Nat → Int32} {e p : Int} {ls : Nat → List Int32} : ∀ n : Nat, (∀ k : Nat, k < n → zLc f e p (ls k) ≤ zMx f e p ls n) ∧ (zMx f e p ls n = 0 ∨ ∃ k : Nat, k < n ∧ zMx f e p ls n = zLc f e p (ls k)) := by
  intro n
  induction n with
  | zero => exact ⟨fun k h => absurd h (Nat.not_lt_zero k), Or.inl rfl⟩
  | succ n ih =>
    obtain ⟨h1, h2⟩ := ih
    rw [zMx_s]
    split
    · rename_i h3
      refine ⟨fun k hk => ?_, Or.inr ⟨n, by omega, rfl⟩⟩
      rcases Nat.lt_or_ge k n with h5 | h5
      · have := h1 k h5
        omega
      · obtain rfl : k = n := by omega
        exact Nat.le_refl _
    · rename_i h3
      refine ⟨fun k hk => ?_, ?_⟩
      · rcases Nat.lt_or_ge k n with h5 | h5
        · exact h1 k h5
        · obtain rfl : k = n := by omega
          omega
      · rcases h2 with h2 | ⟨k, h4, h5⟩
        · exact Or.inl h2
        · exact Or.inr ⟨k, by omega, h5⟩
theorem zFst_congr {f g : Nat → Int32} {e p : Int} {ls : Nat → List Int32} (h : ∀ j : Int, 0 ≤ j → j < e → f j.toNat = g j.toNat) (hp : 0 ≤ p) : ∀ n : Nat, zFst f e p ls n = zFst g e p ls n := by
  intro n
  induction n with
  | zero => rfl
  | succ n ih => rw [zFst_s, zFst_s, ih, zLc_congr h _ p hp]
theorem zMx_congr {f g : Nat → Int32} {e p : Int} {ls : Nat → List Int32} (h : ∀ j : Int, 0 ≤ j → j < e → f j.toNat = g j.toNat) (hp : 0 ≤ p) : ∀ n : Nat, zMx f e p ls n = zMx g e p ls n := by
  intro n
  induction n with
  | zero => rfl
  | succ n ih => rw [zMx_s, zMx_s, ih, zLc_congr h _ p hp]
/-- the ten words; the ten words with a blank behind them -/
def zWds (w : Nat) : List Int32 := zByt.getD w []
def zBls (w : Nat) : List Int32 := zWds w ++ [32]
theorem zWds_len : ∀ w : Nat, w < 10 → (zWds w).length = zLen.getD w 0 ∧ 2 ≤ (zWds w).length ∧ (zWds w).length ≤ 7 := by decide
theorem zWds_ne : ∀ v : Nat, v < 10 → ∀ w : Nat, w < 10 → v ≠ w → (zWds v).getD 0 0 ≠ (zWds w).getD 0 0 ∨ (zWds v).getD 1 0 ≠ (zWds w).getD 1 0 := by decide
theorem zBls_ge : ∀ w : Nat, w < 10 → ∀ j : Nat, j < 7 → j < (zWds w).length → (zBls w).getD j 0 = (zWds w).getD j 0 := by decide
theorem zBls_at : ∀ w : Nat, w < 10 → (zBls w).getD (zWds w).length 0 = 32 := by decide
theorem zBls_len (w : Nat) : (zBls w).length = (zWds w).length + 1 := by unfold zBls; simp
theorem zLc_max {f : Nat → Int32} {e : Int} : ∀ (l : List Int32) (p : Int) (n : Nat), n ≤ l.length → (∀ j : Nat, j < n → p + (j : Int) < e ∧ f (p + (j : Int)).toNat = l.getD j 0) → n ≤ zLc f e p l := by
  intro l
  induction l with
  | nil =>
    intro p n hn _
    have h0 : n = 0 := by simpa using hn
    rw [h0]
    exact Nat.zero_le _
  | cons c l ih =>
    intro p n hn hj
    match n, hn, hj with
    | 0, _, _ => exact Nat.zero_le _
    | n + 1, hn, hj =>
      have h0 := hj 0 (by omega)
      have h1 : p < e ∧ f p.toNat = c := by simpa using h0
      rw [zLc_c]
      rw [if_pos h1]
      have h2 := ih (p + 1) n (by simpa using hn) (fun j h3 => by
        have h4 := hj (j + 1) (by omega)
        have e1 : p + ((j + 1 : Nat) : Int) = p + 1 + (j : Int) := by omega
        rw [e1] at h4
        exact ⟨h4.1, by rw [h4.2]; rfl⟩)
      omega
theorem zLc_end {f : Nat → Int32} {e : Int} {l : List Int32} {p : Int} (h : zLc f e p l < l.length) : ¬ (p + (zLc f e p l : Int) < e ∧ f (p + (zLc f e p l : Int)).toNat = l.getD (zLc f e p l) 0) := fun h1 => by
  have h2 := zLc_max l p (zLc f e p l + 1) (by omega) (fun j hj => by
    rcases Nat.lt_or_ge j (zLc f e p l) with h3 | h3
    · exact zLc_pre l p j h3
    · obtain rfl : j = zLc f e p l := by omega
      exact h1)
  omega
/-- with the blank: as many letters, or one more, if all the word's stand and a blank behind them -/
theorem zLc_bls {f : Nat → Int32} {e p : Int} {w : Nat} (hw : w < 10) : (zLc f e p (zWds w) < (zWds w).length ∧ zLc f e p (zBls w) = zLc f e p (zWds w)) ∨ (zLc f e p (zWds w) = (zWds w).length ∧ zLc f e p (zBls w) = (zWds w).length + (if p + ((zWds w).length : Int) < e ∧ f (p + ((zWds w).length : Int)).toNat = 32 then 1 else 0)) := by
  have hl := zWds_len w hw
  have h1 := zLc_le (f := f) (e := e) (zWds w) p
  have h3 := zBls_len w
  have hp := zLc_pre (f := f) (e := e) (zWds w) p
  rcases Nat.lt_or_ge (zLc f e p (zWds w)) (zWds w).length with h2 | h2
  · refine Or.inl ⟨h2, zLc_eq _ _ _ (by omega) (fun j hj => ?_) (Or.inr (fun h5 => ?_))⟩
    · rw [zBls_ge w hw j (by omega) (by omega)]; exact hp j hj
    · rw [zBls_ge w hw _ (by omega) h2] at h5
      exact zLc_end h2 h5
  · have h4 : zLc f e p (zWds w) = (zWds w).length := by omega
    refine Or.inr ⟨h4, ?_⟩
    by_cases h5 : p + ((zWds w).length : Int) < e ∧ f (p + ((zWds w).length : Int)).toNat = 32
    · rw [if_pos h5]
      refine zLc_eq _ _ _ (by omega) (fun j hj => ?_) (Or.inl h3.symm)
      rcases Nat.lt_or_ge j (zWds w).length with h6 | h6
      · rw [zBls_ge w hw j (by omega) h6]; exact hp j (by omega)
      · obtain rfl : j = (zWds w).length := by omega
        rw [zBls_at w hw]; exact h5
    · rw [if_neg h5]
      refine zLc_eq _ _ _ (by omega) (fun j hj => ?_) (Or.inr (fun h6 => ?_))
      · rw [zBls_ge w hw j (by omega) (by omega)]; exact hp j (by omega)
      · rw [show (zWds w).length + 0 = (zWds w).length from rfl, zBls_at w hw] at h6
        exact h5 h6
/-- where one word stands whole, at most a letter of any other one does -/
theorem zLc_one {f : Nat → Int32} {e p : Int} {v w : Nat} (hv : v < 10) (hw : w < 10) (hne : v ≠ w) (h : zLc f e p (zWds w) = (zWds w).length) : zLc f e p (zWds v) ≤ 1 := by
  rcases Nat.lt_or_ge 1 (zLc f e p (zWds v)) with h1 | h1
  · exfalso
    have hl := zWds_len w hw
    have a0 := zLc_pre (f := f) (e := e) (zWds v) p 0 (by omega)
    have a1 := zLc_pre (f := f) (e := e) (zWds v) p 1 (by omega)
    have b0 := zLc_pre (f := f) (e := e) (zWds w) p 0 (by omega)
    have b1 := zLc_pre (f := f) (e := e) (zWds w) p 1 (by omega)
    rcases zWds_ne v hv w hw hne with h2 | h2
    · exact h2 (a0.2.symm.trans b0.2)
    · exact h2 (a1.2.symm.trans b1.2)
  · exact h1
/-- the reference's words have their blank with them: what comes of it, by the words alone -/
theorem zFst_bls {f : Nat → Int32} {e p : Int} : (zFst f e p zBls 10 = -1 ∧ ((zFst f e p zWds 10 = -1 ∧ zMx f e p zBls 10 = zMx f e p zWds 10) ∨ ∃ w : Nat, w < 10 ∧ zFst f e p zWds 10 = (w : Int) ∧ ¬ (p + ((zWds w).length : Int) < e ∧ f (p + ((zWds w).length : Int)).toNat = 32) ∧ zMx f e p zBls 10 = (zWds w).length)) ∨ ∃ w : Nat, w < 10 ∧ zFst f e p zWds 10 = (w : Int) ∧ zFst f e p zBls 10 = (w : Int) ∧ p + ((zWds w).length : Int) < e ∧ f (p + ((zWds w).length : Int)).toNat = 32 := by
  have m1 := zMx_spec (f := f) (e := e) (p := p) (ls := zBls) 10
  have m2 := zMx_spec (f := f) (e := e) (p := p) (ls := zWds) 10
  rcases zFst_spec (f := f) (e := e) (p := p) (ls := zWds) 10 with ⟨h1, h2⟩ | ⟨w, hw, h1, h2, h3⟩
  · have hs : ∀ k : Nat, k < 10 → zLc f e p (zBls k) = zLc f e p (zWds k) := fun k hk => by
      rcases zLc_bls (f := f) (e := e) (p := p) hk with h4 | h4
      · exact h4.2
      · exact absurd h4.1 (h2 k hk)
    have h5 : zFst f e p zBls 10 = -1 := by
      rcases zFst_spec (f := f) (e := e) (p := p) (ls := zBls) 10 with ⟨h4, -⟩ | ⟨k, hk, -, h6, -⟩
      · exact h4
      · rw [hs k hk, zBls_len] at h6
        have := zLc_le (f := f) (e := e) (zWds k) p
        omega
    refine Or.inl ⟨h5, Or.inl ⟨h1, ?_⟩⟩
    apply Nat.le_antisymm
    · rcases m1.2 with h6 | ⟨k, hk, h6⟩
      · omega
      · rw [h6, hs k hk]; exact m2.1 k hk
    · rcases m2.2 with h6 | ⟨k, hk, h6⟩
      · omega
      · rw [h6, ← hs k hk]; exact m1.1 k hk
  · have hl := zWds_len w hw
    have ho : ∀ k : Nat, k < 10 → k ≠ w → zLc f e p (zBls k) ≤ 1 := fun k hk hkw => by
      have h5 := zLc_one hk hw hkw h2
      have h6 := zWds_len k hk
      rcases zLc_bls (f := f) (e := e) (p := p) hk with h4 | h4
      · rw [h4.2]; exact h5
      · exact absurd h4.1 (by omega)
    rcases zLc_bls (f := f) (e := e) (p := p) hw with h4 | h4
    · exact absurd h2 (by omega)
    · by_cases h5 : p + ((zWds w).length : Int) < e ∧ f (p + ((zWds w).length : Int)).toNat = 32
      · rw [if_pos h5] at h4
        refine Or.inr ⟨w, hw, h1, ?_, h5.1, h5.2⟩
        rcases zFst_spec (f := f) (e := e) (p := p) (ls := zBls) 10 with ⟨h6, h7⟩ | ⟨k, hk, h6, h7, -⟩
        · exact absurd (h4.2.trans (zBls_len w).symm) (h7 w hw)
        · by_cases h8 : k = w
          · rw [h6, h8]
          · have h9 := ho k hk h8
            have h10 := zBls_len k
            have h11 := zWds_len k hk
            omega
      · rw [if_neg h5] at h4
        refine Or.inl ⟨?_, Or.inr ⟨w, hw, h1, h5, ?_⟩⟩
        · rcases zFst_spec (f := f) (e := e) (p := p) (ls := zBls) 10 with ⟨h6, -⟩ | ⟨k, hk, h6, h7, -⟩
          · exact h6
          · exfalso
            have h10 := zBls_len k
            have h11 := zWds_len k hk
            by_cases h8 : k = w
            · subst h8; omega
            · have h9 := ho k hk h8
              omega
        · apply Nat.le_antisymm
          · rcases m1.2 with h6 | ⟨k, hk, h6⟩
            · omega
            · by_cases h8 : k = w
              · subst h8; omega
              · have h9 := ho k hk h8
                omega
          · have := m1.1 w hw
            omega
/-- a number of at most three digits: its end, its value -/
abbrev zDg (f : Nat → Int32) (e q : Int) : Prop := q < e ∧ 48 ≤ (f q.toNat).toInt ∧ (f q.toNat).toInt ≤ 57
def zNe (f : Nat → Int32) (e p : Int) : Int := if zDg f e p then (if zDg f e (p + 1) then (if zDg f e (p + 2) then p + 3 else p + 2) else p + 1) else p
def zDv (f : Nat → Int32) (q : Int) : Int := (f q.toNat).toInt - 48
def zNv (f : Nat → Int32) (p q : Int) : Int := if q = p then 0 else if q = p + 1 then zDv f p else if q = p + 2 then 10 * zDv f p + zDv f (p + 1) else 10 * (10 * zDv f p + zDv f (p + 1)) + zDv f (p + 2)
theorem zNe_eq {f : Nat → Int32} {e p q : Int} (h1 : p ≤ q) (h2 : q ≤ p + 3) (hd : ∀ j : Int, p ≤ j → j < q → zDg f e j) (hx : q = p + 3 ∨ ¬ zDg f e q) : zNe f e p = q := by
  unfold zNe
  rcases (show q = p ∨ q = p + 1 ∨ q = p + 2 ∨ q = p + 3 by omega) with h | h | h | h
  · rw [if_neg]; exact h.symm
    rcases hx with hx | hx
    · omega
    · rw [h] at hx; exact hx
  · rw [if_pos (hd p (by omega) (by omega)), if_neg]; exact h.symm
    rcases hx with hx | hx
    · omega
    · rw [h] at hx; exact hx
  · rw [if_pos (hd p (by omega) (by omega)), if_pos (hd (p + 1) (by omega) (by omega)), if_neg]; exact h.symm
    rcases hx with hx | hx
    · omega
    · rw [h] at hx; exact hx
  · rw [if_pos (hd p (by omega) (by omega)), if_pos (hd (p + 1) (by omega) (by omega)), if_pos (hd (p + 2) (by omega) (by omega))]; exact h.symm
theorem zNe_rg {f : Nat → Int32} {e p : Int} (hp : p ≤ e) : p ≤ zNe f e p ∧ zNe f e p ≤ p + 3 ∧ zNe f e p ≤ e := by
  unfold zNe
  split
  · rename_i h1
    split
    · rename_i h2
      split
      · rename_i h3
        exact ⟨by omega, by omega, by have := h3.1; omega⟩
      · exact ⟨by omega, by omega, by have := h2.1; omega⟩
    · exact ⟨by omega, by omega, by have := h1.1; omega⟩
  · exact ⟨by omega, by omega, by omega⟩
theorem zNv_0 {f : Nat → Int32} {p : Int} : zNv f p p = 0 := if_pos rfl
theorem zNv_S {f : Nat → Int32} {p q : Int} (h1 : p ≤ q) (h2 : q < p + 3) : zNv f p (q + 1) = 10 * zNv f p q + zDv f q := by
  unfold zNv
  rcases (show q = p ∨ q = p + 1 ∨ q = p + 2 by omega) with h | h | h
  · subst h
    rw [if_neg (by omega), if_pos (by omega), if_pos rfl]; omega
  · subst h
    rw [if_neg (by omega), if_neg (by omega), if_pos (by omega), if_neg (by omega), if_pos (by omega)]
  · subst h
    rw [if_neg (by omega), if_neg (by omega), if_neg (by omega), if_neg (by omega), if_neg (by omega), if_pos (by omega)]
theorem zDg_congr {f g : Nat → Int32} {e : Int} (h : ∀ j : Int, 0 ≤ j → j < e → f j.toNat = g j.toNat) {q : Int} (hq : 0 ≤ q) : zDg f e q ↔ zDg g e q := by
  constructor
  · intro ⟨a, b⟩; exact ⟨a, by rw [← h q hq a]; exact b⟩
  · intro ⟨a, b⟩; exact ⟨a, by rw [h q hq a]; exact b⟩
theorem zNe_congr {f g : Nat → Int32} {e : Int} (h : ∀ j : Int, 0 ≤ j → j < e → f j.toNat = g j.toNat) {p : Int} (hp : 0 ≤ p) : zNe f e p = zNe g e p := by
  unfold zNe
  simp only [zDg_congr h hp, zDg_congr h (show (0 : Int) ≤ p + 1 by omega), zDg_congr h (show (0 : Int) ≤ p + 2 by omega)]
theorem zNv_congr {f g : Nat → Int32} {e : Int} (h : ∀ j : Int, 0 ≤ j → j < e → f j.toNat = g j.toNat) {p q : Int} (hp : 0 ≤ p) (h1 : p ≤ q) (h2 : q ≤ p + 3) (h3 : q ≤ e) : zNv f p q = zNv g p q := by
  have a0 : p < e → zDv f p = zDv g p := fun a => by unfold zDv; rw [h p hp a]
  have a1 : p + 1 < e → zDv f (p + 1) = zDv g (p + 1) := fun a => by unfold zDv; rw [h (p + 1) (by omega) a]
  have a2 : p + 2 < e → zDv f (p + 2) = zDv g (p + 2) := fun a => by unfold zDv; rw [h (p + 2) (by omega) a]
  unfold zNv
  rcases (show q = p ∨ q = p + 1 ∨ q = p + 2 ∨ q = p + 3 by omega) with h4 | h4 | h4 | h4
  · rw [if_pos h4, if_pos h4]
  · rw [if_neg (by omega), if_pos h4, if_neg (by omega), if_pos h4, a0 (by omega)]
  · rw [if_neg (by omega), if_neg (by omega), if_pos h4, if_neg (by omega), if_neg (by omega), if_pos h4, a0 (by omega), a1 (by omega)]
  · rw [if_neg (by omega), if_neg (by omega), if_neg (by omega), if_neg (by omega), if_neg (by omega), if_neg (by omega), a0 (by omega), a1 (by omega), a2 (by omega)]
/-- a blank and a number between two numbers: the fault or -1, the place behind it, the number -/
def zN0 (f : Nat → Int32) (e p lo hi : Int) : Int × Int × Int := (if zNe f e p = p ∨ zNv f p (zNe f e p) < lo ∨ hi < zNv f p (zNe f e p) then p else -1, zNe f e p, zNv f p (zNe f e p))
def zN1 (f : Nat → Int32) (e p lo hi : Int) : Int × Int × Int := if p < e ∧ (f p.toNat).toInt = 32 then zN0 f e (p + 1) lo hi else (p, p, 0)
theorem zN0_congr {f g : Nat → Int32} {e : Int} (h : ∀ j : Int, 0 ≤ j → j < e → f j.toNat = g j.toNat) {p lo hi : Int} (hp : 0 ≤ p) (he : p ≤ e) : zN0 f e p lo hi = zN0 g e p lo hi := by
  have r := zNe_rg (f := f) he
  unfold zN0
  rw [← zNe_congr h hp, zNv_congr h hp r.1 r.2.1 r.2.2]
theorem zN1_congr {f g : Nat → Int32} {e : Int} (h : ∀ j : Int, 0 ≤ j → j < e → f j.toNat = g j.toNat) {p lo hi : Int} (hp : 0 ≤ p) : zN1 f e p lo hi = zN1 g e p lo hi := by
  unfold zN1
  by_cases h1 : p < e
  · rw [h p hp h1, zN0_congr h (show (0 : Int) ≤ p + 1 by omega) (by omega)]
  · rw [if_neg (fun z => h1 z.1), if_neg (fun z => h1 z.1)]
theorem zN1_rg {f : Nat → Int32} {e p lo hi : Int} (hp : 0 ≤ p) (he : p ≤ e) : p ≤ (zN1 f e p lo hi).2.1 ∧ (zN1 f e p lo hi).2.1 ≤ e ∧ -1 ≤ (zN1 f e p lo hi).1 ∧ ((zN1 f e p lo hi).1 = -1 → p + 2 ≤ (zN1 f e p lo hi).2.1 ∧ lo ≤ (zN1 f e p lo hi).2.2 ∧ (zN1 f e p lo hi).2.2 ≤ hi) := by
  unfold zN1
  split
  · rename_i h1
    have r := zNe_rg (f := f) (e := e) (p := p + 1) (by omega)
    unfold zN0
    refine ⟨by show p ≤ zNe f e (p + 1); omega, by show zNe f e (p + 1) ≤ e; omega, ?_, ?_⟩
    · dsimp only
      split <;> omega
    · dsimp only
      split
      · intro h2; omega
      · rename_i h2
        intro _
        omega
  · exact ⟨by show p ≤ p; omega, by show p ≤ e; omega, by show -1 ≤ p; omega, fun h2 => absurd (show p = -1 from h2) (by omega)⟩
/-- how many numbers a word has, between which each may be -/
def zCt (w : Int) : Int := if w = 3 then 3 else if w = 2 ∨ w = 8 then 2 else 1
def zLo (w k : Int) : Int := if w = 0 then 4 else if w = 7 then 1 else if w = 3 ∧ k = 2 then 1 else 0
def zHi (w k te : Int) : Int := if w = 0 then 40 else if w = 1 then te - 1 else if w = 2 then (if k = 0 then te - 1 else 9) else if w = 3 then (if k = 0 then 6 else if k = 1 then 9 else 60) else if w = 4 then 24 else if w = 5 then 300 else if w = 6 then 9 else if w = 7 then 9 else if w = 8 then (if k = 0 then 2 else 99) else te
/-- the numbers of an item: the fault or -1, the place behind them, the first of them -/
def zIn (f : Nat → Int32) (e p te w : Int) : Int × Int × Int :=
  let n1 := zN1 f e p (zLo w 0) (zHi w 0 te)
  if n1.1 = -1 ∧ zCt w ≠ 1 then
    let n2 := zN1 f e n1.2.1 (zLo w 1) (zHi w 1 te)
    if n2.1 = -1 ∧ zCt w ≠ 2 then
      let n3 := zN1 f e n2.2.1 (zLo w 2) (zHi w 2 te)
      (n3.1, n3.2.1, n1.2.2)
    else (n2.1, n2.2.1, n1.2.2)
  else n1
theorem zIn_rg {f : Nat → Int32} {e p te w : Int} (hp : 0 ≤ p) (he : p ≤ e) : p ≤ (zIn f e p te w).2.1 ∧ (zIn f e p te w).2.1 ≤ e ∧ -1 ≤ (zIn f e p te w).1 ∧ ((zIn f e p te w).1 = -1 → p + 2 ≤ (zIn f e p te w).2.1 ∧ zLo w 0 ≤ (zIn f e p te w).2.2 ∧ (zIn f e p te w).2.2 ≤ zHi w 0 te) := by
  have r1 := zN1_rg (f := f) (e := e) (p := p) (lo := zLo w 0) (hi := zHi w 0 te) hp he
  unfold zIn
  by_cases h1 : (zN1 f e p (zLo w 0) (zHi w 0 te)).1 = -1 ∧ zCt w ≠ 1
  · have r2 := zN1_rg (f := f) (e := e) (p := (zN1 f e p (zLo w 0) (zHi w 0 te)).2.1) (lo := zLo w 1) (hi := zHi w 1 te) (by omega) (by omega)
    simp only [if_pos h1]
    by_cases h2 : (zN1 f e (zN1 f e p (zLo w 0) (zHi w 0 te)).2.1 (zLo w 1) (zHi w 1 te)).1 = -1 ∧ zCt w ≠ 2
    · have r3 := zN1_rg (f := f) (e := e) (p := (zN1 f e (zN1 f e p (zLo w 0) (zHi w 0 te)).2.1 (zLo w 1) (zHi w 1 te)).2.1) (lo := zLo w 2) (hi := zHi w 2 te) (by omega) (by omega)
      simp only [if_pos h2]
      have q1 := r1.2.2.2 h1.1
      exact ⟨by omega, by omega, by omega, fun h3 => by have := r3.2.2.2 h3; omega⟩
    · simp only [if_neg h2]
      have q1 := r1.2.2.2 h1.1
      exact ⟨by omega, by omega, by omega, fun h3 => by have := r2.2.2.2 h3; omega⟩
  · simp only [if_neg h1]
    exact r1
theorem zIn_congr {f g : Nat → Int32} {e : Int} (h : ∀ j : Int, 0 ≤ j → j < e → f j.toNat = g j.toNat) {p te w : Int} (hp : 0 ≤ p) (he : p ≤ e) : zIn f e p te w = zIn g e p te w := by
  have r1 := zN1_rg (f := g) (e := e) (p := p) (lo := zLo w 0) (hi := zHi w 0 te) hp he
  have r2 := zN1_rg (f := g) (e := e) (p := (zN1 g e p (zLo w 0) (zHi w 0 te)).2.1) (lo := zLo w 1) (hi := zHi w 1 te) (by omega) (by omega)
  unfold zIn
  dsimp only
  rw [zN1_congr h hp, zN1_congr h (show (0 : Int) ≤ (zN1 g e p (zLo w 0) (zHi w 0 te)).2.1 by omega), zN1_congr h (show (0 : Int) ≤ (zN1 g e (zN1 g e p (zLo w 0) (zHi w 0 te)).2.1 (zLo w 1) (zHi w 1 te)).2.1 by omega)]
/-- an item: the fault or -1, the place behind it, the teeth and the pulls behind it -/
def zItem (f : Nat → Int32) (e p te pu : Int) : Int × Int × Int × Int :=
  let w := zFst f e p zWds 10
  if w = -1 then (p + (zMx f e p zWds 10 : Int), p, te, pu)
  else if w = 3 ∧ pu = 8 then (p, p, te, pu)
  else
    let n := zIn f e (p + ((zWds w.toNat).length : Int)) te w
    (n.1, n.2.1, if w = 0 then n.2.2 else te, if w = 3 then pu + 1 else pu)
theorem zFst_in {f : Nat → Int32} {e p : Int} {w : Nat} (hw : w < 10) (h : zFst f e p zWds 10 = (w : Int)) : zLc f e p (zWds w) = (zWds w).length ∧ p + ((zWds w).length : Int) ≤ e := by
  rcases zFst_spec (f := f) (e := e) (p := p) (ls := zWds) 10 with ⟨h1, -⟩ | ⟨k, hk, h1, h2, -⟩
  · omega
  · obtain rfl : k = w := by omega
    have hl := zWds_len k hk
    have := (zLc_pre (f := f) (e := e) (zWds k) p ((zWds k).length - 1) (by omega)).1
    exact ⟨h2, by omega⟩
theorem zItem_rg {f : Nat → Int32} {e p te pu : Int} (hp : 0 ≤ p) (he : p ≤ e) : -1 ≤ (zItem f e p te pu).1 ∧ ((zItem f e p te pu).1 = -1 → p + 4 ≤ (zItem f e p te pu).2.1 ∧ (zItem f e p te pu).2.1 ≤ e ∧ ((4 ≤ te ∧ te ≤ 40) → 4 ≤ (zItem f e p te pu).2.2.1 ∧ (zItem f e p te pu).2.2.1 ≤ 40) ∧ ((0 ≤ pu ∧ pu ≤ 8) → 0 ≤ (zItem f e p te pu).2.2.2 ∧ (zItem f e p te pu).2.2.2 ≤ 8)) := by
  unfold zItem
  rcases zFst_spec (f := f) (e := e) (p := p) (ls := zWds) 10 with ⟨h1, -⟩ | ⟨w, hw, h1, h2, -⟩
  · simp only [h1, if_pos]
    exact ⟨by omega, fun h3 => by omega⟩
  · have hl := zWds_len w hw
    have hf := zFst_in hw h1
    rw [h1]
    simp only [if_neg (show ¬ ((w : Int) = -1) by omega)]
    by_cases h3 : (w : Int) = 3 ∧ pu = 8
    · simp only [if_pos h3]
      exact ⟨by omega, fun h4 => by omega⟩
    · simp only [if_neg h3, Int.toNat_natCast]
      have r := zIn_rg (f := f) (e := e) (p := p + ((zWds w).length : Int)) (te := te) (w := (w : Int)) (by omega) hf.2
      refine ⟨r.2.2.1, fun h4 => ?_⟩
      have q := r.2.2.2 h4
      refine ⟨by omega, r.2.1, fun h5 => ?_, fun h5 => ?_⟩
      · by_cases h6 : (w : Int) = 0
        · rw [if_pos h6]
          have q1 := q.2.1
          have q2 := q.2.2
          rw [h6] at q1 q2 ⊢
          exact ⟨q1, q2⟩
        · rw [if_neg h6]; exact h5
      · by_cases h6 : (w : Int) = 3
        · rw [if_pos h6]; omega
        · rw [if_neg h6]; exact h5
theorem zItem_congr {f g : Nat → Int32} {e : Int} (h : ∀ j : Int, 0 ≤ j → j < e → f j.toNat = g j.toNat) {p te pu : Int} (hp : 0 ≤ p) (he : p ≤ e) : zItem f e p te pu = zItem g e p te pu := by
  unfold zItem
  rw [zFst_congr h hp, zMx_congr h hp]
  rcases zFst_spec (f := g) (e := e) (p := p) (ls := zWds) 10 with ⟨h1, -⟩ | ⟨w, hw, h1, h2, -⟩
  · simp only [h1, if_pos]
  · have hf := zFst_in hw h1
    have hl := zWds_len w hw
    rw [h1]
    simp only [Int.toNat_natCast]
    rw [zIn_congr h (show (0 : Int) ≤ p + ((zWds w).length : Int) by omega) hf.2]
/-- the state ahead of the k-th item, if the reading comes to it -/
def zRgo (f : Nat → Int32) (e te pu : Int) : Nat → Option (Int × Int × Int)
  | 0 => some (0, te, pu)
  | k + 1 => match zRgo f e te pu k with
    | none => none
    | some (p, t, u) => if (zItem f e p t u).1 = -1 ∧ (zItem f e p t u).2.1 < e ∧ (f (zItem f e p t u).2.1.toNat).toInt = 59 then some ((zItem f e p t u).2.1 + 1, (zItem f e p t u).2.2.1, (zItem f e p t u).2.2.2) else none
theorem zRgo_s {f : Nat → Int32} {e te pu : Int} {k : Nat} : zRgo f e te pu (k + 1) = (match zRgo f e te pu k with
    | none => none
    | some (p, t, u) => if (zItem f e p t u).1 = -1 ∧ (zItem f e p t u).2.1 < e ∧ (f (zItem f e p t u).2.1.toNat).toInt = 59 then some ((zItem f e p t u).2.1 + 1, (zItem f e p t u).2.2.1, (zItem f e p t u).2.2.2) else none) := rfl
/-- the reading ends with the k-th item: with this fault (or -1, and these teeth and pulls) -/
def zEnd (f : Nat → Int32) (e te pu : Int) (k : Nat) (r t2 u2 : Int) : Prop := ∃ p t u : Int, zRgo f e te pu k = some (p, t, u) ∧ (((zItem f e p t u).1 ≠ -1 ∧ r = (zItem f e p t u).1) ∨ ((zItem f e p t u).1 = -1 ∧ e ≤ (zItem f e p t u).2.1 ∧ r = -1 ∧ t2 = (zItem f e p t u).2.2.1 ∧ u2 = (zItem f e p t u).2.2.2) ∨ ((zItem f e p t u).1 = -1 ∧ (zItem f e p t u).2.1 < e ∧ (f (zItem f e p t u).2.1.toNat).toInt ≠ 59 ∧ r = (zItem f e p t u).2.1))
theorem zRgo_rg {f : Nat → Int32} {e te pu : Int} (he : 0 ≤ e) (ht : 4 ≤ te ∧ te ≤ 40) (hu : 0 ≤ pu ∧ pu ≤ 8) : ∀ (k : Nat) (p t u : Int), zRgo f e te pu k = some (p, t, u) → 5 * (k : Int) ≤ p ∧ p ≤ e ∧ (4 ≤ t ∧ t ≤ 40) ∧ 0 ≤ u ∧ u ≤ 8 := by
  intro k
  induction k with
  | zero =>
    intro p t u h
    simp only [zRgo, Option.some.injEq, Prod.mk.injEq] at h
    obtain ⟨rfl, rfl, rfl⟩ := h
    exact ⟨by omega, he, ht, hu⟩
  | succ k ih =>
    intro p t u h
    rw [zRgo_s] at h
    split at h
    · exact absurd h (by simp)
    · rename_i p0 t0 u0 h0
      obtain ⟨a1, a2, a3, a4⟩ := ih p0 t0 u0 h0
      split at h
      · rename_i h1
        simp only [Option.some.injEq, Prod.mk.injEq] at h
        obtain ⟨rfl, rfl, rfl⟩ := h
        obtain ⟨b1, b2, b3, b4⟩ := (zItem_rg (f := f) (e := e) (te := t0) (pu := u0) (show (0 : Int) ≤ p0 by omega) a2).2 h1.1
        exact ⟨by omega, by omega, b3 a3, b4 a4⟩
      · exact absurd h (by simp)
theorem zRgo_le {f : Nat → Int32} {e te pu : Int} : ∀ (k n : Nat), n ≤ k → zRgo f e te pu n = none → zRgo f e te pu k = none := by
  intro k
  induction k with
  | zero => intro n hn h; obtain rfl : n = 0 := (by omega); exact h
  | succ k ih =>
    intro n hn h
    rcases Nat.lt_or_ge n (k + 1) with h1 | h1
    · have h2 := ih n (by omega) h
      simp only [zRgo_s, h2]
    · obtain rfl : n = k + 1 := by omega
      exact h
theorem zEnd_stop {f : Nat → Int32} {e te pu : Int} {k : Nat} {r t2 u2 : Int} (h : zEnd f e te pu k r t2 u2) : zRgo f e te pu (k + 1) = none := by
  obtain ⟨p, t, u, h1, h2⟩ := h
  rw [zRgo_s]
  rw [h1]
  simp only
  rw [if_neg]
  rcases h2 with ⟨a, -⟩ | ⟨-, b, -⟩ | ⟨-, -, c, -⟩
  · exact fun z => a z.1
  · exact fun z => absurd z.2.1 (by omega)
  · exact fun z => c z.2.2
/-- the reading ends at one place, in one way -/
theorem zEnd_one {f : Nat → Int32} {e te pu : Int} {k k2 : Nat} {r t u r2 t2 u2 : Int} (he : 0 ≤ e) (ht : 4 ≤ te ∧ te ≤ 40) (hu : 0 ≤ pu ∧ pu ≤ 8) (h : zEnd f e te pu k r t u) (h2 : zEnd f e te pu k2 r2 t2 u2) : k = k2 ∧ r = r2 ∧ (r = -1 → t = t2 ∧ u = u2) := by
  have hk : k = k2 := by
    have s1 := zEnd_stop h
    have s2 := zEnd_stop h2
    obtain ⟨p, a, b, h3, -⟩ := h
    obtain ⟨p2, a2, b2, h4, -⟩ := h2
    rcases Nat.lt_trichotomy k k2 with h5 | h5 | h5
    · rw [zRgo_le k2 (k + 1) (by omega) s1] at h4; exact absurd h4 (by simp)
    · exact h5
    · rw [zRgo_le k (k2 + 1) (by omega) s2] at h3; exact absurd h3 (by simp)
  subst hk
  obtain ⟨p, a, b, h3, h5⟩ := h
  obtain ⟨p2, a2, b2, h4, h6⟩ := h2
  rw [h3] at h4
  simp only [Option.some.injEq, Prod.mk.injEq] at h4
  obtain ⟨rfl, rfl, rfl⟩ := h4
  have r0 := zRgo_rg he ht hu k p a b h3
  have r1 := (zItem_rg (f := f) (e := e) (te := a) (pu := b) (show (0 : Int) ≤ p by omega) r0.2.1).2
  refine ⟨rfl, ?_, fun hr => ?_⟩
  · rcases h5 with ⟨c1, c2⟩ | ⟨c1, c2, c3, -⟩ | ⟨c1, c2, c3, c4⟩ <;> rcases h6 with ⟨d1, d2⟩ | ⟨d1, d2, d3, -⟩ | ⟨d1, d2, d3, d4⟩ <;> first | omega | exact absurd c1 d1 | exact absurd d1 c1
  · rcases h5 with ⟨c1, c2⟩ | ⟨c1, c2, c3, c4, c5⟩ | ⟨c1, c2, c3, c4⟩ <;> rcases h6 with ⟨d1, d2⟩ | ⟨d1, d2, d3, d4, d5⟩ | ⟨d1, d2, d3, d4⟩ <;> first | exact ⟨c4.trans d4.symm, c5.trans d5.symm⟩ | omega | (exfalso; exact absurd c1 d1) | (exfalso; exact absurd d1 c1) | (exfalso; have := (r1 c1).1; omega)
theorem zRgo_congr {f g : Nat → Int32} {e te pu : Int} (h : ∀ j : Int, 0 ≤ j → j < e → f j.toNat = g j.toNat) (he : 0 ≤ e) (ht : 4 ≤ te ∧ te ≤ 40) (hu : 0 ≤ pu ∧ pu ≤ 8) : ∀ k : Nat, zRgo f e te pu k = zRgo g e te pu k := by
  intro k
  induction k with
  | zero => rfl
  | succ k ih =>
    rw [zRgo_s, zRgo_s]
    rw [ih]
    cases h1 : zRgo g e te pu k with
    | none => rfl
    | some q =>
      obtain ⟨p, t, u⟩ := q
      have r := zRgo_rg he ht hu k p t u h1
      simp only
      rw [zItem_congr h (show (0 : Int) ≤ p by omega) r.2.1]
      by_cases h2 : (zItem g e p t u).1 = -1 ∧ (zItem g e p t u).2.1 < e
      · have r2 := (zItem_rg (f := g) (e := e) (te := t) (pu := u) (show (0 : Int) ≤ p by omega) r.2.1).2 h2.1
        rw [h _ (by omega) h2.2]
      · rw [if_neg (fun z => h2 ⟨z.1, z.2.1⟩), if_neg (fun z => h2 ⟨z.1, z.2.1⟩)]
theorem zEnd_congr {f g : Nat → Int32} {e te pu : Int} (h : ∀ j : Int, 0 ≤ j → j < e → f j.toNat = g j.toNat) (he : 0 ≤ e) (ht : 4 ≤ te ∧ te ≤ 40) (hu : 0 ≤ pu ∧ pu ≤ 8) {k : Nat} {r t2 u2 : Int} (h0 : zEnd f e te pu k r t2 u2) : zEnd g e te pu k r t2 u2 := by
  obtain ⟨p, t, u, h1, h2⟩ := h0
  rw [zRgo_congr h he ht hu] at h1
  have r0 := zRgo_rg he ht hu k p t u h1
  rw [zItem_congr h (show (0 : Int) ≤ p by omega) r0.2.1] at h2
  refine ⟨p, t, u, h1, ?_⟩
  rcases h2 with h2 | h2 | ⟨a, b, c, d⟩
  · exact Or.inl h2
  · exact Or.inr (Or.inl h2)
  · have r2 := (zItem_rg (f := g) (e := e) (te := t) (pu := u) (show (0 : Int) ≤ p by omega) r0.2.1).2 a
    exact Or.inr (Or.inr ⟨a, b, by rw [← h _ (by omega) b]; exact c, d⟩)
/-- how many of the items kept are pulls; the teeth behind them -/
def zCP (fi : Nat → Int32) : Nat → Int
  | 0 => 0
  | n + 1 => zCP fi n + (if (fi (4 * n)).toInt = 3 then 1 else 0)
def zLT (fi : Nat → Int32) (te : Int) : Nat → Int
  | 0 => te
  | n + 1 => if (fi (4 * n)).toInt = 0 then (fi (4 * n + 1)).toInt else zLT fi te n
theorem zCP_s {f : Nat → Int32} {n : Nat} : zCP f (n + 1) = zCP f n + (if (f (4 * n)).toInt = 3 then 1 else 0) := rfl
theorem zLT_s {f : Nat → Int32} {te : Int} {n : Nat} : zLT f te (n + 1) = (if (f (4 * n)).toInt = 0 then (f (4 * n + 1)).toInt else zLT f te n) := rfl
theorem zCP_congr {f g : Nat → Int32} : ∀ n : Nat, (∀ j : Nat, j < 4 * n → f j = g j) → zCP f n = zCP g n := by
  intro n
  induction n with
  | zero => intro _; rfl
  | succ n ih => intro h; rw [zCP_s, zCP_s, ih (fun j hj => h j (by omega)), h (4 * n) (by omega)]
theorem zLT_congr {f g : Nat → Int32} {te : Int} : ∀ n : Nat, (∀ j : Nat, j < 4 * n → f j = g j) → zLT f te n = zLT g te n := by
  intro n
  induction n with
  | zero => intro _; rfl
  | succ n ih => intro h; rw [zLT_s, zLT_s, ih (fun j hj => h j (by omega)), h (4 * n) (by omega), h (4 * n + 1) (by omega)]
/-! the walks' steps over these -/
theorem zLt_end {f : Nat → Int32} {e p : Int} {w : Nat} {i2 : Int32} (hw : w < 10) (h0 : 0 ≤ i2.toInt) (hlen : i2.toInt ≤ (zLen.getD w 0 : Nat)) (hinv : ∀ j : Nat, j < i2.toInt.toNat → p + (j : Int) < e ∧ f (p + (j : Int)).toNat = (zWds w).getD j 0) (hx : i2.toInt = (zLen.getD w 0 : Nat) ∨ ¬ (p + i2.toInt < e ∧ f (p + i2.toInt).toNat = (zWds w).getD i2.toInt.toNat 0)) : i2.toInt = (zLc f e p (zWds w) : Nat) := by
  have hl := zWds_len w hw
  have e1 : zLc f e p (zWds w) = i2.toInt.toNat := zLc_eq _ _ _ (by omega) hinv (by
    rcases hx with hx | hx
    · exact Or.inl (by omega)
    · refine Or.inr (fun h => hx ?_)
      rw [show ((i2.toInt.toNat : Nat) : Int) = i2.toInt from by omega] at h
      exact h)
  omega
theorem zLt_no {f : Nat → Int32} {e p : Int} {w : Nat} {i2 x r10 r12 : Int32} (hx : x.toInt = p + i2.toInt) (hr : r10 = (zByt.getD w []).getD i2.toNatClampNeg 0) (hs : r12 = 1 ↔ (0 ≤ x.toInt ∧ x.toInt < e ∧ f x.toNatClampNeg = r10)) (h0 : 0 ≤ p + i2.toInt) (hz : r12.toInt = 0) : ¬ (p + i2.toInt < e ∧ f (p + i2.toInt).toNat = (zWds w).getD i2.toInt.toNat 0) := fun h => by
  have h9 : r12 = 1 := hs.mpr ⟨by omega, by omega, by
    have h8 : x.toNatClampNeg = (p + i2.toInt).toNat := by show x.toInt.toNat = _; rw [hx]
    rw [h8, h.2, hr]; rfl⟩
  rw [h9] at hz
  exact absurd hz (by decide)
theorem zLt_S {f : Nat → Int32} {e p : Int} {w : Nat} {i2 x x2 r10 r12 : Int32} (hinv : ∀ j : Nat, j < i2.toInt.toNat → p + (j : Int) < e ∧ f (p + (j : Int)).toNat = (zWds w).getD j 0) (hx : x.toInt = p + i2.toInt) (hr : r10 = (zByt.getD w []).getD i2.toNatClampNeg 0) (hs : r12 = 1 ↔ (0 ≤ x.toInt ∧ x.toInt < e ∧ f x.toNatClampNeg = r10)) (h1 : r12.toInt = 1) (h0 : 0 ≤ i2.toInt) (h2 : x2.toInt = i2.toInt + 1) : ∀ j : Nat, j < x2.toInt.toNat → p + (j : Int) < e ∧ f (p + (j : Int)).toNat = (zWds w).getD j 0 := by
  intro j hj
  rcases Nat.lt_or_ge j i2.toInt.toNat with h3 | h3
  · exact hinv j h3
  · obtain rfl : j = i2.toInt.toNat := by omega
    obtain ⟨a, b, c⟩ := hs.mp (zf_val h1 (by decide))
    have h8 : x.toNatClampNeg = (p + i2.toInt).toNat := by show x.toInt.toNat = _; rw [hx]
    rw [h8, hr] at c
    rw [show ((i2.toInt.toNat : Nat) : Int) = i2.toInt from by omega]
    exact ⟨by omega, c⟩
theorem zFst_keep {f : Nat → Int32} {e p : Int} {ls : Nat → List Int32} {n : Nat} (h : zFst f e p ls n ≠ -1) : ∀ k : Nat, zFst f e p ls (n + k) = zFst f e p ls n := by
  intro k
  induction k with
  | zero => rfl
  | succ k ih =>
    rw [show n + (k + 1) = (n + k) + 1 from rfl]
    rw [zFst_s]
    rw [if_neg (by rw [ih]; exact h), ih]
theorem zFst_hit {f : Nat → Int32} {e p : Int} {ls : Nat → List Int32} {n : Nat} (h : zFst f e p ls n = -1) (hn : n < 10) (hw : zLc f e p (ls n) = (ls n).length) : zFst f e p ls 10 = (n : Int) := by
  have h1 : zFst f e p ls (n + 1) = (n : Int) := by rw [zFst_s, if_pos h, if_pos hw]
  have h2 := zFst_keep (f := f) (e := e) (p := p) (ls := ls) (n := n + 1) (by rw [h1]; omega) (9 - n)
  rw [show n + 1 + (9 - n) = 10 from by omega] at h2
  rw [h2, h1]
theorem zRW {f : Nat → Int32} {e p : Int} {u : Nat} {i4 ra rb ru r rf rf2 rp2 : Int} (hu : u < 10) (hi : (u : Int) = i4) (hv : zFst f e p zWds i4.toNat = -1) (ha : ra = (zLc f e p (zWds u) : Nat)) (hb : rb = (zLen.getD u 0 : Nat)) (hab : ra = rb) (hD : (i4 = 3 ∧ ru = 8 ∧ r = -1 ∧ rf2 = p) ∨ (¬ (i4 = 3 ∧ ru = 8) ∧ r = i4 ∧ rf2 = rf ∧ rp2 = p + ra)) : (zFst f e p zWds 10 = -1 ∧ r = -1 ∧ rf2 = p + (zMx f e p zWds 10 : Nat)) ∨ (zFst f e p zWds 10 = 3 ∧ ru = 8 ∧ r = -1 ∧ rf2 = p) ∨ (zFst f e p zWds 10 = r ∧ 0 ≤ r ∧ ¬ (r = 3 ∧ ru = 8) ∧ rf2 = rf ∧ rp2 = p + ((zWds r.toNat).length : Nat)) := by
  have hl := zWds_len u hu
  have e1 : i4.toNat = u := by omega
  rw [e1] at hv
  have h1 := zFst_hit hv hu (by omega)
  rcases hD with ⟨a, b, c, d⟩ | ⟨a, b, c, d⟩
  · exact Or.inr (Or.inl ⟨by omega, b, c, d⟩)
  · refine Or.inr (Or.inr ⟨by omega, by omega, ?_, c, ?_⟩)
    · rw [b]; exact a
    · rw [b, e1]; omega
theorem zRW_S {f : Nat → Int32} {e p : Int} {u : Nat} {i4 ra rb x : Int} (hu : u < 10) (hi : (u : Int) = i4) (hv : zFst f e p zWds i4.toNat = -1) (ha : ra = (zLc f e p (zWds u) : Nat)) (hb : rb = (zLen.getD u 0 : Nat)) (hab : ra ≠ rb) (hx : x = i4 + 1) : zFst f e p zWds x.toNat = -1 := by
  have hl := zWds_len u hu
  have e1 : i4.toNat = u := by omega
  rw [e1] at hv
  rw [show x.toNat = u + 1 from by omega]
  rw [zFst_s]
  rw [if_pos hv, if_neg (by omega)]
theorem zRW_M {f : Nat → Int32} {e p : Int} {u : Nat} {i4 ra x m m2 : Int} (hi : (u : Int) = i4) (ha : ra = (zLc f e p (zWds u) : Nat)) (hx : x = i4 + 1) (hm : m = (zMx f e p zWds i4.toNat : Nat)) (h2 : m ≤ m2 ∧ ra ≤ m2 ∧ (m2 = m ∨ m2 = ra)) : m2 = (zMx f e p zWds x.toNat : Nat) := by
  have e1 : i4.toNat = u := by omega
  rw [e1] at hm
  rw [show x.toNat = u + 1 from by omega]
  rw [zMx_s]
  split <;> omega
theorem zSt_yes {f : Nat → Int32} {e : Int} {x ch r : Int32} (hs : r = 1 ↔ (0 ≤ x.toInt ∧ x.toInt < e ∧ f x.toNatClampNeg = ch)) (h : r.toInt = 1) : x.toInt < e ∧ (f x.toInt.toNat).toInt = ch.toInt := by
  obtain ⟨a, b, c⟩ := hs.mp (zf_val h (by decide))
  exact ⟨b, by rw [show f x.toInt.toNat = ch from c]⟩
theorem zSt_no {f : Nat → Int32} {e : Int} {x ch r : Int32} (hs : r = 1 ↔ (0 ≤ x.toInt ∧ x.toInt < e ∧ f x.toNatClampNeg = ch)) (h : r.toInt = 0) (h0 : 0 ≤ x.toInt) : ¬ (x.toInt < e ∧ (f x.toInt.toNat).toInt = ch.toInt) := fun h1 => by
  have h9 : r = 1 := hs.mpr ⟨h0, h1.1, Int32.toInt_inj.mp h1.2⟩
  rw [h9] at h
  exact absurd h (by decide)
theorem zAll_S {P : Int → Prop} {a i x : Int} (h : ∀ j : Int, a ≤ j → j < i → P j) (hi : P i) (hx : x = i + 1) : ∀ j : Int, a ≤ j → j < x → P j := by
  intro j h1 h2
  by_cases h3 : j = i
  · rw [h3]; exact hi
  · exact h j h1 (by omega)
theorem zN1_no {f : Nat → Int32} {e p lo hi : Int} (h : ¬ (p < e ∧ (f p.toNat).toInt = 32)) : zN1 f e p lo hi = (p, p, 0) := if_neg h
theorem zN1_yes {f : Nat → Int32} {e p p1 lo hi lo2 hi2 q v r : Int} (h : p < e ∧ (f p.toNat).toInt = 32) (h1 : p1 = p + 1) (hq : q = zNe f e p1) (hv : v = zNv f p1 q) (hl : lo = lo2) (hh : hi = hi2) (hr : (r = p1 ∧ (q = p1 ∨ v < lo2 ∨ hi2 < v)) ∨ (r = -1 ∧ q ≠ p1 ∧ lo2 ≤ v ∧ v ≤ hi2)) : zN1 f e p lo hi = (r, q, v) := by
  subst h1
  subst hl
  subst hh
  unfold zN1 zN0
  rw [if_pos h, ← hq, ← hv]
  rcases hr with ⟨a, b⟩ | ⟨a, b⟩
  · rw [if_pos b, a]
  · rw [if_neg (by omega), a]
theorem zIn_a {f : Nat → Int32} {e p te w r q v : Int} (h : zN1 f e p (zLo w 0) (zHi w 0 te) = (r, q, v)) (hc : r ≠ -1 ∨ zCt w = 1) : zIn f e p te w = (r, q, v) := by
  unfold zIn
  rw [h]
  simp only
  rw [if_neg]
  rcases hc with hc | hc
  · exact fun z => hc z.1
  · exact fun z => z.2 hc
theorem zIn_b {f : Nat → Int32} {e p te w q v r2 q2 v2 : Int} (h : zN1 f e p (zLo w 0) (zHi w 0 te) = (-1, q, v)) (hc : zCt w ≠ 1) (h2 : zN1 f e q (zLo w 1) (zHi w 1 te) = (r2, q2, v2)) (hc2 : r2 ≠ -1 ∨ zCt w = 2) : zIn f e p te w = (r2, q2, v) := by
  unfold zIn
  rw [h]
  simp only
  rw [if_pos ⟨trivial, hc⟩, h2]
  simp only
  rw [if_neg]
  rcases hc2 with hc2 | hc2
  · exact fun z => hc2 z.1
  · exact fun z => z.2 hc2
theorem zIn_c {f : Nat → Int32} {e p te w q v q2 v2 r3 q3 v3 : Int} (h : zN1 f e p (zLo w 0) (zHi w 0 te) = (-1, q, v)) (hc : zCt w ≠ 1) (h2 : zN1 f e q (zLo w 1) (zHi w 1 te) = (-1, q2, v2)) (hc2 : zCt w ≠ 2) (h3 : zN1 f e q2 (zLo w 2) (zHi w 2 te) = (r3, q3, v3)) : zIn f e p te w = (r3, q3, v) := by
  unfold zIn
  rw [h]
  simp only
  rw [if_pos ⟨trivial, hc⟩, h2]
  simp only
  rw [if_pos ⟨trivial, hc2⟩, h3]
theorem zItem_none {f : Nat → Int32} {e p te pu : Int} (h : zFst f e p zWds 10 = -1) : zItem f e p te pu = (p + (zMx f e p zWds 10 : Int), p, te, pu) := by
  unfold zItem
  simp only [h, if_pos]
theorem zItem_room {f : Nat → Int32} {e p te pu : Int} (h : zFst f e p zWds 10 = 3) (hp : pu = 8) : zItem f e p te pu = (p, p, te, pu) := by
  unfold zItem
  rw [h]
  simp only
  rw [if_neg (by omega), if_pos ⟨trivial, hp⟩]
theorem zItem_w {f : Nat → Int32} {e p p1 te pu w r q v : Int} (h : zFst f e p zWds 10 = w) (h0 : 0 ≤ w) (hn : ¬ (w = 3 ∧ pu = 8)) (hp : p1 = p + ((zWds w.toNat).length : Nat)) (hi : zIn f e p1 te w = (r, q, v)) : zItem f e p te pu = (r, q, if w = 0 then v else te, if w = 3 then pu + 1 else pu) := by
  subst hp
  unfold zItem
  rw [h]
  simp only
  rw [if_neg (by omega), if_neg hn, hi]
theorem zRgo_S {f : Nat → Int32} {e te pu p t u p2 t2 u2 : Int} {k k2 : Nat} (h : zRgo f e te pu k = some (p, t, u)) (h1 : (zItem f e p t u).1 = -1) (h2 : (zItem f e p t u).2.1 < e) (h3 : (f (zItem f e p t u).2.1.toNat).toInt = 59) (e1 : p2 = (zItem f e p t u).2.1 + 1) (e2 : t2 = (zItem f e p t u).2.2.1) (e3 : u2 = (zItem f e p t u).2.2.2) (hk : k2 = k + 1) : zRgo f e te pu k2 = some (p2, t2, u2) := by
  subst hk e1 e2 e3
  rw [zRgo_s]
  rw [h]
  simp only
  rw [if_pos ⟨h1, h2, h3⟩]
theorem zEnd_a {f : Nat → Int32} {e te pu p t u r t2 u2 : Int} {k k2 : Nat} (h : zRgo f e te pu k = some (p, t, u)) (h1 : (zItem f e p t u).1 ≠ -1) (h2 : r = (zItem f e p t u).1) (hk : k2 = k) : zEnd f e te pu k2 r t2 u2 := by
  subst hk
  exact ⟨p, t, u, h, Or.inl ⟨h1, h2⟩⟩
theorem zEnd_b {f : Nat → Int32} {e te pu p t u r t2 u2 : Int} {k k2 : Nat} (h : zRgo f e te pu k = some (p, t, u)) (h1 : (zItem f e p t u).1 = -1) (h2 : e ≤ (zItem f e p t u).2.1) (h3 : r = -1) (e2 : t2 = (zItem f e p t u).2.2.1) (e3 : u2 = (zItem f e p t u).2.2.2) (hk : k2 = k) : zEnd f e te pu k2 r t2 u2 := by
  subst hk
  exact ⟨p, t, u, h, Or.inr (Or.inl ⟨h1, h2, h3, e2, e3⟩)⟩
theorem zEnd_c {f : Nat → Int32} {e te pu p t u r t2 u2 : Int} {k k2 : Nat} (h : zRgo f e te pu k = some (p, t, u)) (h1 : (zItem f e p t u).1 = -1) (h2 : (zItem f e p t u).2.1 < e) (h3 : (f (zItem f e p t u).2.1.toNat).toInt ≠ 59) (h4 : r = (zItem f e p t u).2.1) (hk : k2 = k) : zEnd f e te pu k2 r t2 u2 := by
  subst hk
  exact ⟨p, t, u, h, Or.inr (Or.inr ⟨h1, h2, h3, h4⟩)⟩
theorem zCP_S {f g : Nat → Int32} {n m : Nat} {i : Int} {a b c : Int} (hn : (n : Int) = i) (hm : (m : Int) = i + 1) (hfr : ∀ j : Nat, j < 4 * n → g j = f j) (ha : a = b + zCP f n) (h3 : (g (4 * n)).toInt = 3 → c = a + 1) (h4 : (g (4 * n)).toInt ≠ 3 → c = a) : c = b + zCP g m := by
  obtain rfl : m = n + 1 := by omega
  rw [zCP_s]
  rw [zCP_congr n hfr]
  by_cases h : (g (4 * n)).toInt = 3
  · rw [if_pos h]; have := h3 h; omega
  · rw [if_neg h]; have := h4 h; omega
theorem zLT_S {f g : Nat → Int32} {n m : Nat} {i : Int} {a b c : Int} (hn : (n : Int) = i) (hm : (m : Int) = i + 1) (hfr : ∀ j : Nat, j < 4 * n → g j = f j) (ha : a = zLT f b n) (h3 : (g (4 * n)).toInt = 0 → c = (g (4 * n + 1)).toInt) (h4 : (g (4 * n)).toInt ≠ 0 → c = a) : c = zLT g b m := by
  obtain rfl : m = n + 1 := by omega
  rw [zLT_s]
  by_cases h : (g (4 * n)).toInt = 0
  · rw [if_pos h]; exact h3 h
  · rw [if_neg h, zLT_congr n hfr, ← ha]; exact h4 h
theorem zCP_mono {f : Nat → Int32} : ∀ (m n : Nat), n ≤ m → zCP f n ≤ zCP f m := by
  intro m
  induction m with
  | zero => intro n hn; obtain rfl : n = 0 := (by omega); exact Int.le_refl _
  | succ m ih =>
    intro n hn
    rcases Nat.lt_or_ge n (m + 1) with h | h
    · have h1 := ih n (by omega)
      rw [zCP_s]
      split <;> omega
    · obtain rfl : n = m + 1 := by omega
      exact Int.le_refl _
theorem zCP_le {f : Nat → Int32} {n m : Nat} {a : Int} (h : a + zCP f m ≤ 8) (hn : n < m) (h3 : (f (4 * n)).toInt = 3) : a + zCP f n < 8 := by
  have h1 := zCP_mono (f := f) m (n + 1) (by omega)
  rw [zCP_s] at h1
  rw [if_pos h3] at h1
  omega
/-- what jacket answers, and what comes of it, by the letters -/
def zJac (f : Nat → Int32) (si s he lf cn sz r lf2 cn2 sz2 : Int) : Prop :=
  ((s < 0 ∨ 7 < s) ∧ r = -1 ∧ lf2 = lf ∧ cn2 = cn ∧ sz2 = sz) ∨ ((0 ≤ s ∧ s ≤ 7) ∧ he = -1 ∧ r = -3 ∧ lf2 = lf ∧ cn2 = cn ∧ sz2 = sz) ∨ ((0 ≤ s ∧ s ≤ 7) ∧ (0 ≤ he ∧ he < 100) ∧ r = -2 ∧ lf2 = lf ∧ cn2 = cn ∧ sz2 = sz) ∨
  ((0 ≤ s ∧ s ≤ 7) ∧ 100 ≤ he ∧ ∃ (k : Nat) (R T U : Int), zEnd f si sz cn k R T U ∧ ((R ≠ -1 ∧ r = -6 ∧ lf2 = R ∧ cn2 = cn ∧ sz2 = sz) ∨ (R = -1 ∧ r = (k : Int) + 1 ∧ lf2 = -1 ∧ cn2 = U ∧ sz2 = T)))
/-! the reference's letters -/
def zMF (g : Nat → Int64) (b : Int) : Nat → Int32 := fun j => zChX g (b + (j : Int)).toNat
theorem zMF_at {g : Nat → Int64} {b q : Int} (hq : 0 ≤ q) : zMF g b q.toNat = zChX g (b + q).toNat := by
  unfold zMF
  rw [show ((q.toNat : Nat) : Int) = q from by omega]
theorem zWoB : ∀ w : Nat, w < 10 → (zBls w).length = zEn w - zBg w ∧ (zWds w).length + 1 = zEn w - zBg w := by decide
theorem zWoL_at : ∀ w : Nat, w < 10 → ∀ k : Nat, k < 8 → k < zEn w - zBg w → zWoL.getD (zBg w + k) 0 = (zBls w).getD k 0 := by decide +kernel
theorem zMW_lc {g : Nat → Int64} {b e pl : Int} {w : Nat} {f : Nat → Int32} {n : Nat} (hf : zHWo f) (hw : w < 10) (hp : 0 ≤ pl) (h : zStN g b e pl f (zBg w) n) (hn : n ≤ zEn w - zBg w) (hx : n = zEn w - zBg w ∨ ¬ (pl + (n : Int) < e ∧ zChX g (b + (pl + (n : Int))).toNat = f (zBg w + n))) : zLc (zMF g b) e pl (zBls w) = n := by
  have h1 := zWoB w hw
  have h2 := zBE w hw
  have h3 := zWds_len w hw
  have ha : ∀ k : Nat, k < zEn w - zBg w → f (zBg w + k) = (zBls w).getD k 0 := fun k hk => by
    rw [hf (zBg w + k) (by omega)]
    exact zWoL_at w hw k (by omega) hk
  refine zLc_eq _ _ _ (by omega) (fun j hj => ?_) ?_
  · obtain ⟨a, c⟩ := h j hj
    refine ⟨a, ?_⟩
    rw [zMF_at (by omega), c, ha j (by omega)]
  · rcases hx with hx | hx
    · exact Or.inl (by omega)
    · by_cases h4 : n = zEn w - zBg w
      · exact Or.inl (by omega)
      · refine Or.inr (fun z => hx ⟨z.1, ?_⟩)
        rw [ha n (by omega), ← z.2, zMF_at (by omega)]
theorem zFst_no {f : Nat → Int32} {e p : Int} {ls : Nat → List Int32} {n m k : Nat} (h : zFst f e p ls n = -1) (h1 : zLc f e p (ls n) = k) (h2 : k ≠ (ls n).length) (hm : m = n + 1) : zFst f e p ls m = -1 := by
  subst hm
  rw [zFst_s]
  rw [if_pos h, if_neg (by omega)]
theorem zMx_to {f : Nat → Int32} {e p q far far2 : Int} {ls : Nat → List Int32} {n m k : Nat} (h : far = q + (zMx f e p ls n : Nat)) (h1 : zLc f e p (ls n) = k) (h2 : (far2 = far ∧ q + (k : Int) ≤ far) ∨ (far2 = q + (k : Int) ∧ far < q + (k : Int))) (hm : m = n + 1) : far2 = q + (zMx f e p ls m : Nat) := by
  subst hm
  rw [zMx_s]
  split <;> omega
theorem zFst_3 {f : Nat → Int32} {e p : Int} (h : zLc f e p (zWds 3) = 4) : zFst f e p zWds 10 = 3 := by
  have hl : (zWds 3).length = 4 := by decide
  rcases zFst_spec (f := f) (e := e) (p := p) (ls := zWds) 10 with ⟨-, h2⟩ | ⟨k, hk, h1, h2, -⟩
  · exact absurd (h.trans hl.symm) (h2 3 (by decide))
  · by_cases h3 : k = 3
    · rw [h1, h3]; rfl
    · have h4 := zLc_one (f := f) (e := e) (p := p) (v := k) (w := 3) hk (by decide) h3 (by omega)
      have h5 := zWds_len k hk
      omega
theorem zFst_w {f : Nat → Int32} {e p : Int} {w : Nat} (hw : w < 10) (h : zFst f e p zWds 10 = (w : Int)) : zLc f e p (zWds w) = (zWds w).length := (zFst_in hw h).1
/-- 'pull' stands, letter by letter -/
theorem zPul_iff {g : Nat → Int64} {b e pl : Int} (hp : 0 ≤ pl) : zLc (zMF g b) e pl (zWds 3) = 4 ↔ (pl + 1 + 1 + 1 < e ∧ (zChX g (b + pl).toNat).toInt = 112 ∧ (zChX g (b + (pl + 1)).toNat).toInt = 117 ∧ (zChX g (b + ((pl + 1) + 1)).toNat).toInt = 108 ∧ (zChX g (b + (((pl + 1) + 1) + 1)).toNat).toInt = 108) := by
  have hl : (zWds 3).length = 4 := by decide
  have e0 : pl + ((0 : Nat) : Int) = pl := by omega
  have e1 : pl + ((1 : Nat) : Int) = pl + 1 := by omega
  have e2 : pl + ((2 : Nat) : Int) = (pl + 1) + 1 := by omega
  have e3 : pl + ((3 : Nat) : Int) = ((pl + 1) + 1) + 1 := by omega
  constructor
  · intro h
    have a0 := zLc_pre (zWds 3) pl 0 (by rw [h]; decide)
    have a1 := zLc_pre (zWds 3) pl 1 (by rw [h]; decide)
    have a2 := zLc_pre (zWds 3) pl 2 (by rw [h]; decide)
    have a3 := zLc_pre (zWds 3) pl 3 (by rw [h]; decide)
    rw [e0, zMF_at (by omega)] at a0
    rw [e1, zMF_at (by omega)] at a1
    rw [e2, zMF_at (by omega)] at a2
    rw [e3, zMF_at (by omega)] at a3
    exact ⟨a3.1, by rw [a0.2]; decide, by rw [a1.2]; decide, by rw [a2.2]; decide, by rw [a3.2]; decide⟩
  · rintro ⟨b1, b2, b3, b4, b5⟩
    refine zLc_eq _ _ _ (by omega) (fun j hj => ?_) (Or.inl hl.symm)
    rcases (show j = 0 ∨ j = 1 ∨ j = 2 ∨ j = 3 by omega) with rfl | rfl | rfl | rfl
    · rw [e0, zMF_at (by omega)]; exact ⟨by omega, Int32.toInt_inj.mp (b2.trans (by decide))⟩
    · rw [e1, zMF_at (by omega)]; exact ⟨by omega, Int32.toInt_inj.mp (b3.trans (by decide))⟩
    · rw [e2, zMF_at (by omega)]; exact ⟨by omega, Int32.toInt_inj.mp (b4.trans (by decide))⟩
    · rw [e3, zMF_at (by omega)]; exact ⟨by omega, Int32.toInt_inj.mp (b5.trans (by decide))⟩
theorem zDg_MF {g : Nat → Int64} {b e q : Int} (hq : 0 ≤ q) : zDg (zMF g b) e q ↔ (q < e ∧ 48 ≤ (zChX g (b + q).toNat).toInt ∧ (zChX g (b + q).toNat).toInt ≤ 57) := by
  unfold zDg
  rw [zMF_at hq]
theorem zDv_MF {g : Nat → Int64} {b q : Int} {y : Int32} (hq : 0 ≤ q) (h : y.toInt = (zChX g (b + q).toNat).toInt) : zDv (zMF g b) q = y.toInt - 48 := by
  unfold zDv
  rw [zMF_at hq, h]
/-- a number read from the place of its first digit on, by how many of them are digits -/
theorem zNum_1 {f : Nat → Int32} {e p : Int} (h0 : zDg f e p) (h1 : ¬ zDg f e (p + 1)) : zNe f e p = p + 1 ∧ zNv f p (p + 1) = zDv f p := by
  refine ⟨by unfold zNe; rw [if_pos h0, if_neg h1], ?_⟩
  unfold zNv
  rw [if_neg (by omega), if_pos rfl]
theorem zNum_2 {f : Nat → Int32} {e p : Int} (h0 : zDg f e p) (h1 : zDg f e (p + 1)) (h2 : ¬ zDg f e (p + 2)) : zNe f e p = p + 2 ∧ zNv f p (p + 2) = 10 * zDv f p + zDv f (p + 1) := by
  refine ⟨by unfold zNe; rw [if_pos h0, if_pos h1, if_neg h2], ?_⟩
  unfold zNv
  rw [if_neg (by omega), if_neg (by omega), if_pos rfl]
theorem zNum_3 {f : Nat → Int32} {e p : Int} (h0 : zDg f e p) (h1 : zDg f e (p + 1)) (h2 : zDg f e (p + 2)) : zNe f e p = p + 3 ∧ zNv f p (p + 3) = 10 * (10 * zDv f p + zDv f (p + 1)) + zDv f (p + 2) := by
  refine ⟨by unfold zNe; rw [if_pos h0, if_pos h1, if_pos h2], ?_⟩
  unfold zNv
  rw [if_neg (by omega), if_neg (by omega), if_neg (by omega)]
theorem zNum_0 {f : Nat → Int32} {e p : Int} (h0 : ¬ zDg f e p) : zNe f e p = p := by unfold zNe; rw [if_neg h0]
/-- what the reference's word() came to, by the words alone -/
theorem zItem_M {f : Nat → Int32} {e p te pu w : Int} (h : zFst f e p zBls 10 = -1) (hw : w = p + (zMx f e p zBls 10 : Nat)) (hn : ¬ (zLc f e p (zWds 3) = 4 ∧ pu = 8)) (hp : 0 ≤ p) : (zItem f e p te pu).1 = w := by
  rcases zFst_bls (f := f) (e := e) (p := p) with ⟨-, ⟨h1, h2⟩ | ⟨v, hv, h1, h2, h3⟩⟩ | ⟨v, hv, -, h2, -⟩
  · rw [zItem_none h1]
    show p + _ = w
    rw [hw, h2]
  · have hl := zWds_len v hv
    have hnn : ¬ ((v : Int) = 3 ∧ pu = 8) := fun z => hn ⟨by
      obtain rfl : v = 3 := by omega
      exact (zFst_w hv h1).trans (by decide), z.2⟩
    have hI : zIn f e (p + ((zWds v).length : Int)) te v = (p + ((zWds v).length : Int), p + ((zWds v).length : Int), 0) := zIn_a (zN1_no (fun z => h2 ⟨z.1, Int32.toInt_inj.mp (z.2.trans (by decide))⟩)) (Or.inl (by omega))
    rw [zItem_w (w := (v : Int)) h1 (by omega) hnn (by rw [Int.toNat_natCast]) hI]
    show p + _ = w
    rw [hw, h3]
  · omega
theorem zItem_Mw {f : Nat → Int32} {e p : Int} {w : Int} (h : zFst f e p zBls 10 = w) (h0 : 0 ≤ w) : zFst f e p zWds 10 = w ∧ p + ((zWds w.toNat).length : Int) < e ∧ (f (p + ((zWds w.toNat).length : Int)).toNat).toInt = 32 ∧ ((zBls w.toNat).length : Int) = ((zWds w.toNat).length : Int) + 1 := by
  rcases zFst_bls (f := f) (e := e) (p := p) with ⟨h1, -⟩ | ⟨v, hv, h1, h2, h3, h4⟩
  · omega
  · have e1 : w.toNat = v := by omega
    rw [e1]
    refine ⟨by omega, h3, by rw [h4]; decide, ?_⟩
    rw [zBls_len]
    omega
/-- jacket's outcome is one, and hangs on the letters alone -/
theorem zJac_one {f g : Nat → Int32} {si s he lf cn sz r lf2 cn2 sz2 si' he' r' lf2' cn2' sz2' : Int} (h : zJac f si s he lf cn sz r lf2 cn2 sz2) (h' : zJac g si' s he' lf cn sz r' lf2' cn2' sz2') (h1 : (0 ≤ s ∧ s ≤ 7) → ((he = -1 ∧ he' = -1) ∨ ((0 ≤ he ∧ he < 100) ∧ 0 ≤ he' ∧ he' < 100) ∨ (100 ≤ he ∧ 100 ≤ he' ∧ si = si' ∧ 0 ≤ si ∧ ∀ j : Int, 0 ≤ j → j < si → f j.toNat = g j.toNat))) (ht : 4 ≤ sz ∧ sz ≤ 40) (hu : 0 ≤ cn ∧ cn ≤ 8) : r = r' ∧ lf2 = lf2' ∧ cn2 = cn2' ∧ sz2 = sz2' := by
  unfold zJac at h h'
  by_cases hs : 0 ≤ s ∧ s ≤ 7
  · rcases h1 hs with a | a | ⟨a1, a2, rfl, a3, a4⟩
    · rcases h with b | b | b | ⟨-, b, -⟩ <;> rcases h' with c | c | c | ⟨-, c, -⟩ <;> omega
    · rcases h with b | b | b | ⟨-, b, -⟩ <;> rcases h' with c | c | c | ⟨-, c, -⟩ <;> omega
    · rcases h with b | b | b | ⟨-, -, k, R, T, U, z1, z2⟩
      · omega
      · omega
      · omega
      rcases h' with c | c | c | ⟨-, -, k', R', T', U', y1, y2⟩
      · omega
      · omega
      · omega
      obtain ⟨e1, e2, e3⟩ := zEnd_one a3 ht hu (zEnd_congr a4 a3 ht hu z1) y1
      rcases z2 with ⟨m1, m2⟩ | ⟨m1, m2⟩ <;> rcases y2 with ⟨n1, n2⟩ | ⟨n1, n2⟩
      · omega
      · omega
      · omega
      · have := e3 m1
        omega
  · rcases h with b | b | b | ⟨b, -⟩ <;> rcases h' with c | c | c | ⟨c, -⟩ <;> omega
/-- what a shelf holds, as jacket looks at it -/
def zHc (h : Int) : Int := if h = 1 then 100 else if h = 0 then -1 else 0
/-! what the shelves' calls answer -/
def zH2 (h o : Int) : Int := if h = 1 then 100 + o else if h = 0 then -1 else 0
def zSetR (s he si i : Int) : Int := if s < 0 then -1 else if 7 < s then -1 else if he = -1 then -3 else if he < 100 then -2 else if i < 0 then -5 else if si ≤ i then -5 else 1
def zCopR (s q hs hq ss sq i j n : Int) : Int := if s < 0 then -1 else if 7 < s then -1 else if q < 0 then -1 else if 7 < q then -1 else if 0 ≤ hs ∧ hs < 100 then -2 else if 0 ≤ hq ∧ hq < 100 then -2 else if hs ≠ -1 ∧ hq ≠ -1 ∧ hs ≠ hq then -2 else if hs = -1 then -3 else if hq = -1 then -3 else if n < 0 then -4 else if i < 0 then -5 else if j < 0 then -5 else if ss - n < i then -5 else if sq - n < j then -5 else 1
def zNar (k : Int) (v : Int64) : Int64 := if k = 0 then v.toInt32.toInt8.toInt32.toInt64 else if k = 1 then v.toInt32.toInt16.toInt32.toInt64 else if k = 2 then v.toInt32.toInt64 else v
def zPulR (k a t n : Int) : Int := if k < 0 then -1 else if 6 < k then -1 else if a < 0 then -6 else if 9 < a then -6 else if t < 1 then -6 else if 60 < t then -6 else if 8 ≤ n then -7 else n
def zHe (h o sh : Int) : Int := if h = 0 then -1 else if h = 1 then 100 + o else sh
theorem zRst_S {c c2 gh gs : Nat → Int32} {p : Int} {i x y : Int32} (h : ∀ j : Nat, c j = (if (j : Int) < i.toInt ∧ (gh j).toInt = 2 ∧ p ≤ (gs j).toInt then 0 else gh j)) (h0 : 0 ≤ i.toInt) (hy : y = c i.toNatClampNeg) (hx : x.toInt = i.toInt + 1) (hc : (c2 = c ∧ (y.toInt ≠ 2 ∨ (gs i.toNatClampNeg).toInt < p)) ∨ (c2 = upd c i.toNatClampNeg 0 ∧ y.toInt = 2 ∧ p ≤ (gs i.toNatClampNeg).toInt)) : ∀ j : Nat, c2 j = (if (j : Int) < x.toInt ∧ (gh j).toInt = 2 ∧ p ≤ (gs j).toInt then 0 else gh j) := by
  intro j
  have hi : i.toNatClampNeg = i.toInt.toNat := rfl
  have e1 : c i.toNatClampNeg = gh i.toNatClampNeg := by rw [h, if_neg (by omega)]
  by_cases e9 : j = i.toNatClampNeg
  · subst e9
    rcases hc with ⟨rfl, h3⟩ | ⟨rfl, h3, h4⟩
    · rw [e1, if_neg]
      rintro ⟨-, h5, h6⟩
      rw [hy, e1] at h3
      omega
    · rw [hy, e1] at h3
      rw [if_pos ⟨by omega, h3, h4⟩]
      simp [upd]
  · have e2 : c2 j = c j := by
      rcases hc with ⟨rfl, -⟩ | ⟨rfl, -, -⟩
      · rfl
      · simp only [upd]; rw [if_neg e9]
    rw [e2, h j]
    by_cases h5 : (gh j).toInt = 2 ∧ p ≤ (gs j).toInt
    · by_cases h6 : (j : Int) < i.toInt
      · rw [if_pos ⟨h6, h5⟩, if_pos ⟨by omega, h5⟩]
      · rw [if_neg (fun z => h6 z.1), if_neg (fun z => by have := z.1; omega)]
    · rw [if_neg (fun z => h5 z.2), if_neg (fun z => h5 z.2)]
end
section
set_option maxHeartbeats 4000000 in
set_option maxRecDepth 100000 in
theorem c_F_R_letters (l : Launch) (D : va_G) (cI cJ cZ cP cS : ClassId) (po : zPool) (rd ri rl : Nat) (rz rc rp rf rt ru : Int32) (fl : Nat → Int32) (i : Nat) (hy0 : 0 ≤ rz.toInt) (hy1 : rz.toInt ≤ 160) (hy2 : 0 ≤ rc.toInt) (hy3 : rc.toInt ≤ 40) (hy4 : 0 ≤ rp.toInt) (hy5 : rp.toInt ≤ 160) (hy6 : rp.toInt ≤ rz.toInt) (hy7 : (-1) ≤ rf.toInt) (hy8 : rf.toInt ≤ 160) (hy9 : 0 ≤ rt.toInt) (hy10 : rt.toInt ≤ 40) (hy11 : 0 ≤ ru.toInt) (hy12 : ru.toInt ≤ 8) (hi : i < 10) (hpz : Nat) : Met l yX3_lettersStanding wsX3_lettersStanding ({ frames := 4, cells := 0, slots := 0, locals := 85 }) (va_Pc [.ref rd, .ref (po.2.1 i)] (zW D (zKT cI cJ cZ cP cS) po [(rd, .inr (3, [.ref ri, .ref rl, .int rz, .int rc, .int rp, .int rf, .int rt, .int ru])), (rl, .inl (cI, 160, .inl fl))] hpz)) (va_Qi (fun (r : Int32) (_ : Unit) => (rp.toInt + r.toInt ≤ rz.toInt ∧ r.toInt ≤ (zLen.getD i 0 : Nat)) ∧ (r.toInt = (zLc fl rz.toInt rp.toInt (zWds i) : Nat)) ∧ (0 ≤ r.toInt ∧ r.toInt ≤ 7)) (zB D [(rd, .inr (3, [.ref ri, .ref rl, .int rz, .int rc, .int rp, .int rf, .int rt, .int ru])), (rl, .inl (cI, 160, .inl fl))] hpz (fun (_ : Unit) => [(rd, .inr (3, [.ref ri, .ref rl, .int rz, .int rc, .int rp, .int rf, .int rt, .int ru])), (rl, .inl (cI, 160, .inl fl))])) (va_A [(rd, .inr (3, [.ref ri, .ref rl, .int rz, .int rc, .int rp, .int rf, .int rt, .int ru])), (rl, .inl (cI, 160, .inl fl))] hpz)) 0 0 (va_A [(rd, .inr (3, [.ref ri, .ref rl, .int rz, .int rc, .int rp, .int rf, .int rt, .int ru])), (rl, .inl (cI, 160, .inl fl))] hpz) := by
  refine Met.ofW (cc := cX3_lettersStanding) (maxL := 3) (ret := (some .int)) (by decide) rfl ?_
  intro p e s m args below meth c s₁ B hml hv
  obtain ⟨rfl, hsz, hP, hK, hD0, hN, hZ⟩ := hv
  have hx := B.exec
  have hb := B.bytes
  have hr := B.returns
  have hts := atoms_spec (ws := wsX3_lettersStanding) B.pre
  have hown : s.vm.findClass RX3 = some m.cls := findClass_of_methodNamed B.named
  have hlocks := B.notSynchronized
  subst hsz
  have hD := hD0.self (sz := s.heap.size)
  have hA := zA_of hD
  have hl := lv_entry ([.ref rd, .ref (po.2.1 i)]) (n := 3) (Nat.le_of_ble_eq_true rfl)
  rw [lg_entry_eq]
  generalize (lg_sl ([.ref rd, .ref (po.2.1 i)]) ++ List.replicate (3 - (lg_sl ([.ref rd, .ref (po.2.1 i)])).length) Slot.unset).toArray = ls at hl ⊢
  replace hl : lv_has ls 3 [(0, .ref rd), (1, .ref (po.2.1 i))] := hl
  refine zw_begin hP hD (fun H locs hP1 hS => ?_)
  clear hP
  have hP := hP1
  clear hP1
  refine lv_iconst (v := 0) hx hb dX3_lettersStanding_0 (by decide) ?_
  refine lv_istore_n (lv' := [(2, .int 0), (0, .ref rd), (1, .ref (po.2.1 i))]) hx hb dX3_lettersStanding_1 rfl hl (by decide) rfl (fun ls hl => ?_)
  obtain ⟨i_2, hi_2⟩ : ∃ i : Int32, i = 0 := ⟨_, rfl⟩
  replace hl : lv_has ls 3 [(2, .int i_2), (0, .ref rd), (1, .ref (po.2.1 i))] := by rw [hi_2]; exact lv_sub hl [0, 1, 2] rfl
  have h1i_2 : i_2.toInt = 0 := by rw [hi_2]; decide
  obtain ⟨nfu, hni_2⟩ : ∃ nq9 : Nat, 8 ≤ i_2.toInt + (nq9 : Int) := ⟨((8 : Int) - 0).toNat, by omega⟩
  have hloi_2 : 0 ≤ i_2.toInt := by omega
  have hvi_2_0 : rp.toInt + i_2.toInt ≤ rz.toInt ∧ i_2.toInt ≤ (zLen.getD i 0 : Nat) := by
    (try rw [hi_2]); (first | omega | (refine ⟨?_, ?_⟩ <;> simp <;> omega))
  have hvi_2_1 : (∀ j : Nat, j < i_2.toInt.toNat → rp.toInt + (j : Int) < rz.toInt ∧ fl (rp.toInt + (j : Int)).toNat = (zWds i).getD j 0) := by
    (try rw [hi_2]); (intro j hj; exfalso; have h8 : ((0 : Int32).toInt.toNat = 0) := (by decide); omega)
  clear h1i_2 hi_2
  skip
  revert hni_2
  revert hloi_2
  revert hvi_2_1
  revert hvi_2_0
  revert hl
  revert hS
  revert hD
  revert hP
  revert ls
  revert locs
  revert H
  revert i_2
  induction nfu with
  | zero =>
    intro i_2 H locs ls hP hD hS hl hvi_2_0 hvi_2_1 hloi_2 hni_2
    have hzi_2 : 8 ≤ i_2.toInt := by omega
    refine lv_iload_n hx hb dX3_lettersStanding_2 rfl (lv_at hl 0 rfl) ?_
    refine lv_aload_n hx hb dX3_lettersStanding_3 rfl (lv_at hl 2 rfl) ?_
    refine zc_V (As := []) (rest := [.int i_2]) ⟨hx, hb, hml, hown, hts⟩ (c_S_length l D cI cJ cZ cP cS po i hi) (cwV 0 hts gX3_lettersStanding_J0_length_8abf5 rfl rfl rfl ⟨rfl, dh_J0_length_8abf5⟩ ⟨Nat.le_of_ble_eq_true rfl, Nat.le_of_ble_eq_true rfl⟩) hK hN (hZ.kept hS) hP zP_nil (vk_recv hZ.2.2.1 hi hS) rfl hl.1 rfl (Nat.le_of_ble_eq_true rfl) dX3_lettersStanding_4 ⟨Nat.le_of_ble_eq_true rfl, Nat.le_of_ble_eq_true rfl⟩ (fun r_1 hr_1 => ?_)
    obtain ⟨g_2, g_3, hsr_1_0⟩ := hr_1
    refine lv_icmp_ge (tgt := 34) hx hb dX3_lettersStanding_7 (by decide) (fun c_4 => ?_) (fun c_4 => ?_)
    · have fc_4 : r_1.toInt ≤ i_2.toInt := zf_le c_4 rfl rfl
      refine lv_iload_n hx hb dX3_lettersStanding_34 rfl (lv_at hl 0 rfl) ?_
      exact W.iret (v := i_2) hx hb hr (fun t ht hW => ⟨⟨i_2, (), rfl, ⟨(show rp.toInt + (i_2 : Int32).toInt ≤ rz.toInt ∧ (i_2 : Int32).toInt ≤ (zLen.getD i 0 : Nat) from by exact ⟨by omega, by omega⟩), (show (i_2 : Int32).toInt = (zLc fl rz.toInt rp.toInt (zWds i) : Nat) from by exact zLt_end hi (by omega) (by omega) hvi_2_1 (Or.inl (by omega))), ⟨by omega, by omega⟩⟩, zRet ht hP hD [0, 1] (by decide) rfl⟩, hS.F ht⟩) hS.2.2 dX3_lettersStanding_35
    · exfalso; have fc_4 : i_2.toInt < r_1.toInt := zf_nle c_4 rfl rfl; omega
  | succ nfu ih =>
    intro i_2 H locs ls hP hD hS hl hvi_2_0 hvi_2_1 hloi_2 hni_2
    refine lv_iload_n hx hb dX3_lettersStanding_2 rfl (lv_at hl 0 rfl) ?_
    refine lv_aload_n hx hb dX3_lettersStanding_3 rfl (lv_at hl 2 rfl) ?_
    refine zc_V (As := []) (rest := [.int i_2]) ⟨hx, hb, hml, hown, hts⟩ (c_S_length l D cI cJ cZ cP cS po i hi) (cwV 0 hts gX3_lettersStanding_J0_length_8abf5 rfl rfl rfl ⟨rfl, dh_J0_length_8abf5⟩ ⟨Nat.le_of_ble_eq_true rfl, Nat.le_of_ble_eq_true rfl⟩) hK hN (hZ.kept hS) hP zP_nil (vk_recv hZ.2.2.1 hi hS) rfl hl.1 rfl (Nat.le_of_ble_eq_true rfl) dX3_lettersStanding_4 ⟨Nat.le_of_ble_eq_true rfl, Nat.le_of_ble_eq_true rfl⟩ (fun r_5 hr_5 => ?_)
    obtain ⟨g_6, g_7, hsr_5_0⟩ := hr_5
    refine lv_icmp_ge (tgt := 34) hx hb dX3_lettersStanding_7 (by decide) (fun c_8 => ?_) (fun c_8 => ?_)
    · have fc_8 : r_5.toInt ≤ i_2.toInt := zf_le c_8 rfl rfl
      refine lv_iload_n hx hb dX3_lettersStanding_34 rfl (lv_at hl 0 rfl) ?_
      exact W.iret (v := i_2) hx hb hr (fun t ht hW => ⟨⟨i_2, (), rfl, ⟨(show rp.toInt + (i_2 : Int32).toInt ≤ rz.toInt ∧ (i_2 : Int32).toInt ≤ (zLen.getD i 0 : Nat) from by exact ⟨by omega, by omega⟩), (show (i_2 : Int32).toInt = (zLc fl rz.toInt rp.toInt (zWds i) : Nat) from by exact zLt_end hi (by omega) (by omega) hvi_2_1 (Or.inl (by omega))), ⟨by omega, by omega⟩⟩, zRet ht hP hD [0, 1] (by decide) rfl⟩, hS.F ht⟩) hS.2.2 dX3_lettersStanding_35
    · have fc_8 : i_2.toInt < r_5.toInt := zf_nle c_8 rfl rfl
      refine lv_aload_n hx hb dX3_lettersStanding_10 rfl (lv_at hl 1 rfl) ?_
      refine lv_aload_n hx hb dX3_lettersStanding_11 rfl (lv_at hl 1 rfl) ?_
      refine va_get (D := D) (ci := 3) (v := .int rp) (C := RX3) (T := TX3) (N := 8) hx hb hts hi_X3_lettersStanding_3 hown hK hP 0 rfl rfl 4 (by decide) (hts (.fieldLink RX3 25 "TheLiningsInIt$Reader" "place" "I") (List.mem_of_getElem? (i := 1) rfl)) (fun _ h9 => h9) rfl dX3_lettersStanding_12 ?_
      refine lv_iload_n hx hb dX3_lettersStanding_15 rfl (lv_at hl 0 rfl) ?_
      refine lv_iadd hx hb dX3_lettersStanding_16 ?_
      refine lv_topi (fun x_9 ex_9 => ?_)
      have qx_9 : x_9.toInt = rp.toInt + i_2.toInt := by rw [ex_9]; exact zf_add rfl rfl (by omega) (by omega)
      refine lv_aload_n hx hb dX3_lettersStanding_17 rfl (lv_at hl 2 rfl) ?_
      refine lv_iload_n hx hb dX3_lettersStanding_18 rfl (lv_at hl 0 rfl) ?_
      skip
      refine zw_V (As := [.int i_2]) (rest := [.int x_9, .ref rd]) (wr := [(rd, .inr (3, [.ref ri, .ref rl, .int rz, .int rc, .int rp, .int rf, .int rt, .int ru])), (rl, .inl (cI, 160, .inl fl))]) ⟨hx, hb, hml, hown, hts⟩ (c_S_charAt l D cI cJ cZ cP cS po i (i_2) hi (by first | assumption | omega) H.size) (cwV 1 hts gX3_lettersStanding_J0_charAt_5068e rfl rfl rfl ⟨rfl, dh_J0_charAt_5068e⟩ ⟨Nat.le_of_ble_eq_true rfl, Nat.le_of_ble_eq_true rfl⟩) hK hN (hZ.kept hS) hP hD hS hA [] [0, 1] rfl rfl (by decide) (by decide) (by decide) (vk_recv hZ.2.2.1 hi hS) rfl hl.1 rfl (Nat.le_of_ble_eq_true rfl) dX3_lettersStanding_19 ⟨Nat.le_of_ble_eq_true rfl, Nat.le_of_ble_eq_true rfl⟩ (fun r_10 u_11 H locs hr_10 hP hD hS => ?_)
      obtain ⟨hsr_10_0, hr_10⟩ := hr_10
      have h9R := zRe (ws' := [(rd, .inr (3, [.ref ri, .ref rl, .int rz, .int rc, .int rp, .int rf, .int rt, .int ru])), (rl, .inl (cI, 160, .inl fl))]) hP hD rfl
      clear hP hD
      obtain ⟨hP, hD⟩ := h9R
      refine zc_V (As := [.int x_9, .int r_10]) (rest := []) ⟨hx, hb, hml, hown, hts⟩ (c_R_stands l D cI cJ cZ cP cS po rd ri rl (rz) (rc) (rp) (rf) (rt) (ru) fl (x_9) (r_10) hy0 hy1 hy2 hy3 hy4 hy5 (by omega) hy7 hy8 hy9 hy10 hy11 hy12) (cwV 2 hts gX3_lettersStanding_X3_stands rfl rfl rfl ⟨rfl, dh_X3_stands⟩ ⟨Nat.le_of_ble_eq_true rfl, Nat.le_of_ble_eq_true rfl⟩) hK hN (hZ.kept hS) hP (hP.sub [0, 1] rfl) (va_recv (q := (RX3, TX3, 8)) hK hP (ci := 3) (q0 := 0) rfl rfl) rfl hl.1 rfl (Nat.le_of_ble_eq_true rfl) dX3_lettersStanding_22 ⟨Nat.le_of_ble_eq_true rfl, Nat.le_of_ble_eq_true rfl⟩ (fun r_12 hr_12 => ?_)
      obtain ⟨g_13, g_14, hsr_12_0, hsr_12_1⟩ := hr_12
      refine lv_if_eq (tgt := 34) hx hb dX3_lettersStanding_25 (by decide) (fun c_15 => ?_) (fun c_15 => ?_)
      · have fc_15 : r_12.toInt = 0 := zf_eq c_15 rfl (by decide)
        refine lv_iload_n hx hb dX3_lettersStanding_34 rfl (lv_at hl 0 rfl) ?_
        exact W.iret (v := i_2) hx hb hr (fun t ht hW => ⟨⟨i_2, (), rfl, ⟨(show rp.toInt + (i_2 : Int32).toInt ≤ rz.toInt ∧ (i_2 : Int32).toInt ≤ (zLen.getD i 0 : Nat) from by exact ⟨by omega, by omega⟩), (show (i_2 : Int32).toInt = (zLc fl rz.toInt rp.toInt (zWds i) : Nat) from by exact zLt_end hi (by omega) (by omega) hvi_2_1 (Or.inr (zLt_no qx_9 hsr_10_0 hsr_12_1 (by omega) (by omega)))), ⟨by omega, by omega⟩⟩, zRet ht hP hD [0, 1] (by decide) rfl⟩, hS.F ht⟩) hS.2.2 dX3_lettersStanding_35
      · have fc_15 : r_12.toInt ≠ 0 := zf_ne c_15 rfl (by decide)
        obtain ⟨x_16, ex_16⟩ : ∃ y : Int32, y = i_2 + 1 := ⟨_, rfl⟩
        have qx_16 : x_16.toInt = i_2.toInt + 1 := dw_inc ex_16 fc_8
        refine lv_iinc (v := x_16) (lv' := [(2, .int x_16), (0, .ref rd), (1, .ref (po.2.1 i))]) hx hb dX3_lettersStanding_28 hl (k := 0) rfl ex_16.symm (by decide) rfl (fun ls hl => ?_)
        refine lv_goto (tgt := 2) hx hb dX3_lettersStanding_31 (by decide) ?_
        exact ih x_16 _ _ _ (hP.sub [0, 1] rfl) (hD.sub [0, 1] (by decide) rfl) hS (lv_sub hl [0, 1, 2] rfl) (show rp.toInt + x_16.toInt ≤ rz.toInt ∧ x_16.toInt ≤ (zLen.getD i 0 : Nat) from by exact ⟨by omega, by omega⟩) (show (∀ j : Nat, j < x_16.toInt.toNat → rp.toInt + (j : Int) < rz.toInt ∧ fl (rp.toInt + (j : Int)).toNat = (zWds i).getD j 0) from by exact zLt_S hvi_2_1 qx_9 hsr_10_0 hsr_12_1 (by omega) (by omega) (by omega)) (dw_lo hloi_2 qx_16) (dw_hn hni_2 qx_16)
set_option maxHeartbeats 4000000 in
set_option maxRecDepth 100000 in
theorem c_F_R_takeWord (l : Launch) (D : va_G) (cI cJ cZ cP cS : ClassId) (po : zPool) (rd ri rl : Nat) (rz rc rp rf rt ru : Int32) (w n : Int32) (hy0 : 0 ≤ rz.toInt) (hy1 : rz.toInt ≤ 160) (hy2 : 0 ≤ rc.toInt) (hy3 : rc.toInt ≤ 40) (hy4 : 0 ≤ rp.toInt) (hy5 : rp.toInt ≤ 160) (hy6 : rp.toInt ≤ rz.toInt) (hy7 : (-1) ≤ rf.toInt) (hy8 : rf.toInt ≤ 160) (hy9 : 0 ≤ rt.toInt) (hy10 : rt.toInt ≤ 40) (hy11 : 0 ≤ ru.toInt) (hy12 : ru.toInt ≤ 8) (hy13 : 0 ≤ w.toInt) (hy14 : w.toInt ≤ 9) (hy15 : 0 ≤ n.toInt) (hy16 : n.toInt ≤ 7) (hpn : rp.toInt + n.toInt ≤ rz.toInt) (hpz : Nat) : Met l yX3_takeWord wsX3_takeWord ({ frames := 0, cells := 0, slots := 0, locals := 0 }) (va_Pc [.ref rd, .int w, .int n] (zW D (zKT cI cJ cZ cP cS) po [(rd, .inr (3, [.ref ri, .ref rl, .int rz, .int rc, .int rp, .int rf, .int rt, .int ru]))] hpz)) (va_Qi (fun (r : Int32) (u : (Int32) × (Int32)) => (0 ≤ u.1.toInt ∧ u.1.toInt ≤ 160) ∧ ((-1) ≤ u.2.toInt ∧ u.2.toInt ≤ 160) ∧ (u.1.toInt ≤ rz.toInt) ∧ (((w.toInt = 3 ∧ ru.toInt = 8 ∧ r.toInt = -1 ∧ u.2.toInt = rp.toInt) ∨ (¬ (w.toInt = 3 ∧ ru.toInt = 8) ∧ r.toInt = w.toInt ∧ u.2.toInt = rf.toInt ∧ u.1.toInt = rp.toInt + n.toInt))) ∧ (-1 ≤ r.toInt ∧ r.toInt ≤ 9)) (zB D [(rd, .inr (3, [.ref ri, .ref rl, .int rz, .int rc, .int rp, .int rf, .int rt, .int ru]))] hpz (fun (u : (Int32) × (Int32)) => [(rd, .inr (3, [.ref ri, .ref rl, .int rz, .int rc, .int u.1, .int u.2, .int rt, .int ru]))])) (va_A [(rd, .inr (3, [.ref ri, .ref rl, .int rz, .int rc, .int rp, .int rf, .int rt, .int ru]))] hpz)) 0 0 (va_A [(rd, .inr (3, [.ref ri, .ref rl, .int rz, .int rc, .int rp, .int rf, .int rt, .int ru]))] hpz) := by
  refine Met.ofW (cc := cX3_takeWord) (maxL := 3) (ret := (some .int)) (by decide) rfl ?_
  intro p e s m args below meth c s₁ B hml hv
  obtain ⟨rfl, hsz, hP, hK, hD0, hN, hZ⟩ := hv
  have hx := B.exec
  have hb := B.bytes
  have hr := B.returns
  have hts := atoms_spec (ws := wsX3_takeWord) B.pre
  have hown : s.vm.findClass RX3 = some m.cls := findClass_of_methodNamed B.named
  have hlocks := B.notSynchronized
  subst hsz
  have hD := hD0.self (sz := s.heap.size)
  have hA := zA_of hD
  have hl := lv_entry ([.ref rd, .int w, .int n]) (n := 3) (Nat.le_of_ble_eq_true rfl)
  rw [lg_entry_eq]
  generalize (lg_sl ([.ref rd, .int w, .int n]) ++ List.replicate (3 - (lg_sl ([.ref rd, .int w, .int n])).length) Slot.unset).toArray = ls at hl ⊢
  replace hl : lv_has ls 3 [(0, .ref rd), (1, .int w), (2, .int n)] := hl
  refine zw_begin hP hD (fun H locs hP1 hS => ?_)
  clear hP
  have hP := hP1
  clear hP1
  refine lv_iload_n hx hb dX3_takeWord_0 rfl (lv_at hl 1 rfl) ?_
  refine lv_iconst (v := 3) hx hb dX3_takeWord_1 (by decide) ?_
  refine lv_icmp_ne (tgt := 24) hx hb dX3_takeWord_2 (by decide) (fun c_1 => ?_) (fun c_1 => ?_)
  · have fc_1 : w.toInt ≠ 3 := zf_ne c_1 rfl (by decide)
    refine lv_aload_n hx hb dX3_takeWord_24 rfl (lv_at hl 0 rfl) ?_
    refine lv_dup hx hb dX3_takeWord_25 rfl ?_
    refine va_get (D := D) (ci := 3) (v := .int rp) (C := RX3) (T := TX3) (N := 8) hx hb hts hi_X3_takeWord_3 hown hK hP 0 rfl rfl 4 (by decide) (hts (.fieldLink RX3 25 "TheLiningsInIt$Reader" "place" "I") (List.mem_of_getElem? (i := 2) rfl)) (fun _ h9 => h9) rfl dX3_takeWord_26 ?_
    refine lv_iload_n hx hb dX3_takeWord_29 rfl (lv_at hl 2 rfl) ?_
    refine lv_iadd hx hb dX3_takeWord_30 ?_
    refine lv_topi (fun x_2 ex_2 => ?_)
    have qx_2 : x_2.toInt = rp.toInt + n.toInt := by rw [ex_2]; exact zf_add rfl rfl (by omega) (by omega)
    refine va_put (D := D) (ci := 3) (v := .int x_2) (ty := .int) (C := RX3) (T := TX3) (N := 8) hx hb hts hi_X3_takeWord_3 tyX3 tyX3_ok nmX3 hown hK hP hD hS 0 rfl rfl 4 (by decide) (hts (.fieldLink RX3 25 "TheLiningsInIt$Reader" "place" "I") (List.mem_of_getElem? (i := 2) rfl)) (fun _ h9 => h9) rfl (tyX3_ok 4 (Nat.le_of_ble_eq_true rfl)) rfl rfl (Nat.le_of_ble_eq_true rfl) dX3_takeWord_31 (fun H locs hP hD hS => ?_)
    have h9R := zRe (ws' := [(rd, .inr (3, [.ref ri, .ref rl, .int rz, .int rc, .int x_2, .int rf, .int rt, .int ru]))]) hP hD rfl
    clear hP hD
    obtain ⟨hP, hD⟩ := h9R
    refine lv_iload_n hx hb dX3_takeWord_34 rfl (lv_at hl 1 rfl) ?_
    exact W.iret (v := w) hx hb hr (fun t ht hW => ⟨⟨w, (x_2, rf), rfl, ⟨(show 0 ≤ x_2.toInt ∧ x_2.toInt ≤ 160 from ⟨by omega, by omega⟩), (show (-1) ≤ rf.toInt ∧ rf.toInt ≤ 160 from ⟨hy7, hy8⟩), (show x_2.toInt ≤ rz.toInt from by omega), (show ((w.toInt = 3 ∧ ru.toInt = 8 ∧ (w : Int32).toInt = -1 ∧ rf.toInt = rp.toInt) ∨ (¬ (w.toInt = 3 ∧ ru.toInt = 8) ∧ (w : Int32).toInt = w.toInt ∧ rf.toInt = rf.toInt ∧ x_2.toInt = rp.toInt + n.toInt)) from by (omega)), ⟨by omega, by omega⟩⟩, zRet ht hP hD [0] (by decide) rfl⟩, hS.F ht⟩) hS.2.2 dX3_takeWord_35
  · have fc_1 : w.toInt = 3 := zf_eq c_1 rfl (by decide)
    refine lv_aload_n hx hb dX3_takeWord_5 rfl (lv_at hl 0 rfl) ?_
    refine va_get (D := D) (ci := 3) (v := .int ru) (C := RX3) (T := TX3) (N := 8) hx hb hts hi_X3_takeWord_3 hown hK hP 0 rfl rfl 7 (by decide) (hts (.fieldLink RX3 34 "TheLiningsInIt$Reader" "pulls" "I") (List.mem_of_getElem? (i := 1) rfl)) (fun _ h9 => h9) rfl dX3_takeWord_6 ?_
    refine lv_bipush (v := 8) hx hb dX3_takeWord_9 (by decide) ?_
    refine lv_icmp_lt (tgt := 24) hx hb dX3_takeWord_11 (by decide) (fun c_3 => ?_) (fun c_3 => ?_)
    · have fc_3 : ru.toInt < 8 := zf_lt c_3 rfl (by decide)
      refine lv_aload_n hx hb dX3_takeWord_24 rfl (lv_at hl 0 rfl) ?_
      refine lv_dup hx hb dX3_takeWord_25 rfl ?_
      refine va_get (D := D) (ci := 3) (v := .int rp) (C := RX3) (T := TX3) (N := 8) hx hb hts hi_X3_takeWord_3 hown hK hP 0 rfl rfl 4 (by decide) (hts (.fieldLink RX3 25 "TheLiningsInIt$Reader" "place" "I") (List.mem_of_getElem? (i := 2) rfl)) (fun _ h9 => h9) rfl dX3_takeWord_26 ?_
      refine lv_iload_n hx hb dX3_takeWord_29 rfl (lv_at hl 2 rfl) ?_
      refine lv_iadd hx hb dX3_takeWord_30 ?_
      refine lv_topi (fun x_4 ex_4 => ?_)
      have qx_4 : x_4.toInt = rp.toInt + n.toInt := by rw [ex_4]; exact zf_add rfl rfl (by omega) (by omega)
      refine va_put (D := D) (ci := 3) (v := .int x_4) (ty := .int) (C := RX3) (T := TX3) (N := 8) hx hb hts hi_X3_takeWord_3 tyX3 tyX3_ok nmX3 hown hK hP hD hS 0 rfl rfl 4 (by decide) (hts (.fieldLink RX3 25 "TheLiningsInIt$Reader" "place" "I") (List.mem_of_getElem? (i := 2) rfl)) (fun _ h9 => h9) rfl (tyX3_ok 4 (Nat.le_of_ble_eq_true rfl)) rfl rfl (Nat.le_of_ble_eq_true rfl) dX3_takeWord_31 (fun H locs hP hD hS => ?_)
      have h9R := zRe (ws' := [(rd, .inr (3, [.ref ri, .ref rl, .int rz, .int rc, .int x_4, .int rf, .int rt, .int ru]))]) hP hD rfl
      clear hP hD
      obtain ⟨hP, hD⟩ := h9R
      refine lv_iload_n hx hb dX3_takeWord_34 rfl (lv_at hl 1 rfl) ?_
      exact W.iret (v := w) hx hb hr (fun t ht hW => ⟨⟨w, (x_4, rf), rfl, ⟨(show 0 ≤ x_4.toInt ∧ x_4.toInt ≤ 160 from ⟨by omega, by omega⟩), (show (-1) ≤ rf.toInt ∧ rf.toInt ≤ 160 from ⟨hy7, hy8⟩), (show x_4.toInt ≤ rz.toInt from by omega), (show ((w.toInt = 3 ∧ ru.toInt = 8 ∧ (w : Int32).toInt = -1 ∧ rf.toInt = rp.toInt) ∨ (¬ (w.toInt = 3 ∧ ru.toInt = 8) ∧ (w : Int32).toInt = w.toInt ∧ rf.toInt = rf.toInt ∧ x_4.toInt = rp.toInt + n.toInt)) from by (omega)), ⟨by omega, by omega⟩⟩, zRet ht hP hD [0] (by decide) rfl⟩, hS.F ht⟩) hS.2.2 dX3_takeWord_35
    · have fc_3 : 8 ≤ ru.toInt := zf_nlt c_3 rfl (by decide)
      refine lv_aload_n hx hb dX3_takeWord_14 rfl (lv_at hl 0 rfl) ?_
      refine lv_aload_n hx hb dX3_takeWord_15 rfl (lv_at hl 0 rfl) ?_
      refine va_get (D := D) (ci := 3) (v := .int rp) (C := RX3) (T := TX3) (N := 8) hx hb hts hi_X3_takeWord_3 hown hK hP 0 rfl rfl 4 (by decide) (hts (.fieldLink RX3 25 "TheLiningsInIt$Reader" "place" "I") (List.mem_of_getElem? (i := 2) rfl)) (fun _ h9 => h9) rfl dX3_takeWord_16 ?_
      refine va_put (D := D) (ci := 3) (v := .int rp) (ty := .int) (C := RX3) (T := TX3) (N := 8) hx hb hts hi_X3_takeWord_3 tyX3 tyX3_ok nmX3 hown hK hP hD hS 0 rfl rfl 5 (by decide) (hts (.fieldLink RX3 28 "TheLiningsInIt$Reader" "fault" "I") (List.mem_of_getElem? (i := 3) rfl)) (fun _ h9 => h9) rfl (tyX3_ok 5 (Nat.le_of_ble_eq_true rfl)) rfl rfl (Nat.le_of_ble_eq_true rfl) dX3_takeWord_19 (fun H locs hP hD hS => ?_)
      have h9R := zRe (ws' := [(rd, .inr (3, [.ref ri, .ref rl, .int rz, .int rc, .int rp, .int rp, .int rt, .int ru]))]) hP hD rfl
      clear hP hD
      obtain ⟨hP, hD⟩ := h9R
      refine lv_iconst (v := (-1)) hx hb dX3_takeWord_22 (by decide) ?_
      exact W.iret (v := (-1)) hx hb hr (fun t ht hW => ⟨⟨(-1), (rp, rp), rfl, ⟨(show 0 ≤ rp.toInt ∧ rp.toInt ≤ 160 from ⟨hy4, hy5⟩), (show (-1) ≤ rp.toInt ∧ rp.toInt ≤ 160 from ⟨by omega, hy5⟩), (show rp.toInt ≤ rz.toInt from by omega), (show ((w.toInt = 3 ∧ ru.toInt = 8 ∧ ((-1) : Int32).toInt = -1 ∧ rp.toInt = rp.toInt) ∨ (¬ (w.toInt = 3 ∧ ru.toInt = 8) ∧ ((-1) : Int32).toInt = w.toInt ∧ rp.toInt = rf.toInt ∧ rp.toInt = rp.toInt + n.toInt)) from by (have k9 : ((-1) : Int32).toInt = -1 := (by decide); omega)), ⟨by decide, by decide⟩⟩, zRet ht hP hD [0] (by decide) rfl⟩, hS.F ht⟩) hS.2.2 dX3_takeWord_23
set_option maxHeartbeats 4000000 in
set_option maxRecDepth 100000 in
theorem c_F_R_readWord (l : Launch) (D : va_G) (cI cJ cZ cP cS : ClassId) (po : zPool) (rd ri rl : Nat) (rz rc rp rf rt ru : Int32) (fl : Nat → Int32) (hy0 : 0 ≤ rz.toInt) (hy1 : rz.toInt ≤ 160) (hy2 : 0 ≤ rc.toInt) (hy3 : rc.toInt ≤ 40) (hy4 : 0 ≤ rp.toInt) (hy5 : rp.toInt ≤ 160) (hy6 : rp.toInt ≤ rz.toInt) (hy7 : (-1) ≤ rf.toInt) (hy8 : rf.toInt ≤ 160) (hy9 : 0 ≤ rt.toInt) (hy10 : rt.toInt ≤ 40) (hy11 : 0 ≤ ru.toInt) (hy12 : ru.toInt ≤ 8) (hpz : Nat) : Met l yX3_readWord wsX3_readWord ({ frames := 5, cells := 0, slots := 0, locals := 107 }) (va_Pc [.ref rd] (zW D (zKT cI cJ cZ cP cS) po [(rd, .inr (3, [.ref ri, .ref rl, .int rz, .int rc, .int rp, .int rf, .int rt, .int ru])), (rl, .inl (cI, 160, .inl fl))] hpz)) (va_Qi (fun (r : Int32) (u : (Int32) × (Int32)) => (0 ≤ u.1.toInt ∧ u.1.toInt ≤ 160) ∧ ((-1) ≤ u.2.toInt ∧ u.2.toInt ≤ 160) ∧ (u.1.toInt ≤ rz.toInt) ∧ (((zFst fl rz.toInt rp.toInt zWds 10 = -1 ∧ r.toInt = -1 ∧ u.2.toInt = rp.toInt + (zMx fl rz.toInt rp.toInt zWds 10 : Nat)) ∨ (zFst fl rz.toInt rp.toInt zWds 10 = 3 ∧ ru.toInt = 8 ∧ r.toInt = -1 ∧ u.2.toInt = rp.toInt) ∨ (zFst fl rz.toInt rp.toInt zWds 10 = r.toInt ∧ 0 ≤ r.toInt ∧ ¬ (r.toInt = 3 ∧ ru.toInt = 8) ∧ u.2.toInt = rf.toInt ∧ u.1.toInt = rp.toInt + ((zWds r.toInt.toNat).length : Nat)))) ∧ (-1 ≤ r.toInt ∧ r.toInt ≤ 9)) (zB D [(rd, .inr (3, [.ref ri, .ref rl, .int rz, .int rc, .int rp, .int rf, .int rt, .int ru])), (rl, .inl (cI, 160, .inl fl))] hpz (fun (u : (Int32) × (Int32)) => [(rd, .inr (3, [.ref ri, .ref rl, .int rz, .int rc, .int u.1, .int u.2, .int rt, .int ru])), (rl, .inl (cI, 160, .inl fl))])) (va_A [(rd, .inr (3, [.ref ri, .ref rl, .int rz, .int rc, .int rp, .int rf, .int rt, .int ru])), (rl, .inl (cI, 160, .inl fl))] hpz)) 0 0 (va_A [(rd, .inr (3, [.ref ri, .ref rl, .int rz, .int rc, .int rp, .int rf, .int rt, .int ru])), (rl, .inl (cI, 160, .inl fl))] hpz) := by
  refine Met.ofW (cc := cX3_readWord) (maxL := 5) (ret := (some .int)) (by decide) rfl ?_
  intro p e s m args below meth c s₁ B hml hv
  obtain ⟨rfl, hsz, hP, hK, hD0, hN, hZ⟩ := hv
  have hx := B.exec
  have hb := B.bytes
  have hr := B.returns
  have hts := atoms_spec (ws := wsX3_readWord) B.pre
  have hown : s.vm.findClass RX3 = some m.cls := findClass_of_methodNamed B.named
  have hlocks := B.notSynchronized
  subst hsz
  have hD := hD0.self (sz := s.heap.size)
  have hA := zA_of hD
  have hl := lv_entry ([.ref rd]) (n := 5) (Nat.le_of_ble_eq_true rfl)
  rw [lg_entry_eq]
  generalize (lg_sl ([.ref rd]) ++ List.replicate (5 - (lg_sl ([.ref rd])).length) Slot.unset).toArray = ls at hl ⊢
  replace hl : lv_has ls 5 [(0, .ref rd)] := hl
  refine zw_begin hP hD (fun H locs hP1 hS => ?_)
  clear hP
  have hP := hP1
  clear hP1
  refine lv_iconst (v := 0) hx hb dX3_readWord_0 (by decide) ?_
  refine lv_istore_n (lv' := [(1, .int 0), (0, .ref rd)]) hx hb dX3_readWord_1 rfl hl (by decide) rfl (fun ls hl => ?_)
  refine lv_iconst (v := 0) hx hb dX3_readWord_2 (by decide) ?_
  refine lv_istore_n (lv' := [(2, .int 0), (1, .int 0), (0, .ref rd)]) hx hb dX3_readWord_3 rfl hl (by decide) rfl (fun ls hl => ?_)
  obtain ⟨i_4, hi_4⟩ : ∃ i : Int32, i = 0 := ⟨_, rfl⟩
  replace hl : lv_has ls 5 [(2, .int i_4), (1, .int 0), (0, .ref rd)] := by rw [hi_4]; exact lv_sub hl [0, 1, 2] rfl
  have h1i_4 : i_4.toInt = 0 := by rw [hi_4]; decide
  obtain ⟨nfu, hni_4⟩ : ∃ nq9 : Nat, 10 ≤ i_4.toInt + (nq9 : Int) := ⟨((10 : Int) - 0).toNat, by omega⟩
  have hloi_4 : 0 ≤ i_4.toInt := by omega
  obtain ⟨v_1, hv_1⟩ : ∃ g : Int32, g = 0 := ⟨_, rfl⟩
  replace hl : lv_has ls 5 [(2, .int i_4), (1, .int v_1), (0, .ref rd)] := by rw [hv_1]; exact hl
  have hbv_1 : 0 ≤ v_1.toInt ∧ v_1.toInt ≤ 7 := by rw [hv_1]; exact ⟨by decide, by decide⟩
  have hvi_4_0 : rp.toInt + (v_1 : Int32).toInt ≤ rz.toInt := by
    (try rw [hi_4]); (try rw [hv_1]); have k0 : (0 : Int32).toInt = 0 := (by decide); omega
  have hvi_4_1 : zFst fl rz.toInt rp.toInt zWds i_4.toInt.toNat = -1 := by
    (try rw [hi_4]); (try rw [hv_1]); (rw [show ((0 : Int32).toInt.toNat) = 0 from by decide]; rfl)
  have hvi_4_2 : (v_1 : Int32).toInt = (zMx fl rz.toInt rp.toInt zWds i_4.toInt.toNat : Nat) := by
    (try rw [hi_4]); (try rw [hv_1]); (rw [show ((0 : Int32).toInt.toNat) = 0 from by decide]; show _ = ((0 : Nat) : Int); decide)
  have hvi_4_3 : i_4.toInt ≤ 10 := by
    (try rw [hi_4]); (try rw [hv_1]); first | omega | decide
  clear h1i_4 hi_4 hv_1
  skip
  revert hni_4
  revert hloi_4
  revert hvi_4_3
  revert hvi_4_2
  revert hvi_4_1
  revert hvi_4_0
  revert hbv_1
  revert hl
  revert hS
  revert hD
  revert hP
  revert ls
  revert locs
  revert H
  revert v_1
  revert i_4
  induction nfu with
  | zero =>
    intro i_4 v_1 H locs ls hP hD hS hl hbv_1 hvi_4_0 hvi_4_1 hvi_4_2 hvi_4_3 hloi_4 hni_4
    have hzi_4 : 10 ≤ i_4.toInt := by omega
    refine lv_iload_n hx hb dX3_readWord_4 rfl (lv_at hl 0 rfl) ?_
    refine lv_bipush (v := 10) hx hb dX3_readWord_5 (by decide) ?_
    refine lv_icmp_ge (tgt := 52) hx hb dX3_readWord_7 (by decide) (fun c_2 => ?_) (fun c_2 => ?_)
    · have fc_2 : 10 ≤ i_4.toInt := zf_le c_2 (by decide) rfl
      refine lv_aload_n hx hb dX3_readWord_52 rfl (lv_at hl 2 rfl) ?_
      refine lv_aload_n hx hb dX3_readWord_53 rfl (lv_at hl 2 rfl) ?_
      refine va_get (D := D) (ci := 3) (v := .int rp) (C := RX3) (T := TX3) (N := 8) hx hb hts hi_X3_readWord_3 hown hK hP 0 rfl rfl 4 (by decide) (hts (.fieldLink RX3 25 "TheLiningsInIt$Reader" "place" "I") (List.mem_of_getElem? (i := 5) rfl)) (fun _ h9 => h9) rfl dX3_readWord_54 ?_
      refine lv_iload_n hx hb dX3_readWord_57 rfl (lv_at hl 1 rfl) ?_
      refine lv_iadd hx hb dX3_readWord_58 ?_
      refine lv_topi (fun x_3 ex_3 => ?_)
      have qx_3 : x_3.toInt = rp.toInt + v_1.toInt := by rw [ex_3]; exact zf_add rfl rfl (by omega) (by omega)
      refine va_put (D := D) (ci := 3) (v := .int x_3) (ty := .int) (C := RX3) (T := TX3) (N := 8) hx hb hts hi_X3_readWord_3 tyX3 tyX3_ok nmX3 hown hK hP hD hS 0 rfl rfl 5 (by decide) (hts (.fieldLink RX3 28 "TheLiningsInIt$Reader" "fault" "I") (List.mem_of_getElem? (i := 6) rfl)) (fun _ h9 => h9) rfl (tyX3_ok 5 (Nat.le_of_ble_eq_true rfl)) rfl rfl (Nat.le_of_ble_eq_true rfl) dX3_readWord_59 (fun H locs hP hD hS => ?_)
      have h9R := zRe (ws' := [(rd, .inr (3, [.ref ri, .ref rl, .int rz, .int rc, .int rp, .int x_3, .int rt, .int ru])), (rl, .inl (cI, 160, .inl fl))]) hP hD rfl
      clear hP hD
      obtain ⟨hP, hD⟩ := h9R
      refine lv_iconst (v := (-1)) hx hb dX3_readWord_62 (by decide) ?_
      exact W.iret (v := (-1)) hx hb hr (fun t ht hW => ⟨⟨(-1), (rp, x_3), rfl, ⟨(show 0 ≤ rp.toInt ∧ rp.toInt ≤ 160 from ⟨hy4, hy5⟩), (show (-1) ≤ x_3.toInt ∧ x_3.toInt ≤ 160 from ⟨by omega, by omega⟩), (show rp.toInt ≤ rz.toInt from by omega), (show ((zFst fl rz.toInt rp.toInt zWds 10 = -1 ∧ ((-1) : Int32).toInt = -1 ∧ x_3.toInt = rp.toInt + (zMx fl rz.toInt rp.toInt zWds 10 : Nat)) ∨ (zFst fl rz.toInt rp.toInt zWds 10 = 3 ∧ ru.toInt = 8 ∧ ((-1) : Int32).toInt = -1 ∧ x_3.toInt = rp.toInt) ∨ (zFst fl rz.toInt rp.toInt zWds 10 = ((-1) : Int32).toInt ∧ 0 ≤ ((-1) : Int32).toInt ∧ ¬ (((-1) : Int32).toInt = 3 ∧ ru.toInt = 8) ∧ x_3.toInt = rf.toInt ∧ rp.toInt = rp.toInt + ((zWds ((-1) : Int32).toInt.toNat).length : Nat))) from by (have h10 : i_4.toInt.toNat = 10 := (by omega); have z1 := hvi_4_1; have z2 := hvi_4_2; rw [h10] at z1 z2; exact Or.inl ⟨z1, by decide, by omega⟩)), ⟨by decide, by decide⟩⟩, zRet ht hP hD [0, 1] (by decide) rfl⟩, hS.F ht⟩) hS.2.2 dX3_readWord_63
    · exfalso; have fc_2 : i_4.toInt < 10 := zf_nle c_2 (by decide) rfl; omega
  | succ nfu ih =>
    intro i_4 v_1 H locs ls hP hD hS hl hbv_1 hvi_4_0 hvi_4_1 hvi_4_2 hvi_4_3 hloi_4 hni_4
    refine lv_iload_n hx hb dX3_readWord_4 rfl (lv_at hl 0 rfl) ?_
    refine lv_bipush (v := 10) hx hb dX3_readWord_5 (by decide) ?_
    refine lv_icmp_ge (tgt := 52) hx hb dX3_readWord_7 (by decide) (fun c_4 => ?_) (fun c_4 => ?_)
    · have fc_4 : 10 ≤ i_4.toInt := zf_le c_4 (by decide) rfl
      refine lv_aload_n hx hb dX3_readWord_52 rfl (lv_at hl 2 rfl) ?_
      refine lv_aload_n hx hb dX3_readWord_53 rfl (lv_at hl 2 rfl) ?_
      refine va_get (D := D) (ci := 3) (v := .int rp) (C := RX3) (T := TX3) (N := 8) hx hb hts hi_X3_readWord_3 hown hK hP 0 rfl rfl 4 (by decide) (hts (.fieldLink RX3 25 "TheLiningsInIt$Reader" "place" "I") (List.mem_of_getElem? (i := 5) rfl)) (fun _ h9 => h9) rfl dX3_readWord_54 ?_
      refine lv_iload_n hx hb dX3_readWord_57 rfl (lv_at hl 1 rfl) ?_
      refine lv_iadd hx hb dX3_readWord_58 ?_
      refine lv_topi (fun x_5 ex_5 => ?_)
      have qx_5 : x_5.toInt = rp.toInt + v_1.toInt := by rw [ex_5]; exact zf_add rfl rfl (by omega) (by omega)
      refine va_put (D := D) (ci := 3) (v := .int x_5) (ty := .int) (C := RX3) (T := TX3) (N := 8) hx hb hts hi_X3_readWord_3 tyX3 tyX3_ok nmX3 hown hK hP hD hS 0 rfl rfl 5 (by decide) (hts (.fieldLink RX3 28 "TheLiningsInIt$Reader" "fault" "I") (List.mem_of_getElem? (i := 6) rfl)) (fun _ h9 => h9) rfl (tyX3_ok 5 (Nat.le_of_ble_eq_true rfl)) rfl rfl (Nat.le_of_ble_eq_true rfl) dX3_readWord_59 (fun H locs hP hD hS => ?_)
      have h9R := zRe (ws' := [(rd, .inr (3, [.ref ri, .ref rl, .int rz, .int rc, .int rp, .int x_5, .int rt, .int ru])), (rl, .inl (cI, 160, .inl fl))]) hP hD rfl
      clear hP hD
      obtain ⟨hP, hD⟩ := h9R
      refine lv_iconst (v := (-1)) hx hb dX3_readWord_62 (by decide) ?_
      exact W.iret (v := (-1)) hx hb hr (fun t ht hW => ⟨⟨(-1), (rp, x_5), rfl, ⟨(show 0 ≤ rp.toInt ∧ rp.toInt ≤ 160 from ⟨hy4, hy5⟩), (show (-1) ≤ x_5.toInt ∧ x_5.toInt ≤ 160 from ⟨by omega, by omega⟩), (show rp.toInt ≤ rz.toInt from by omega), (show ((zFst fl rz.toInt rp.toInt zWds 10 = -1 ∧ ((-1) : Int32).toInt = -1 ∧ x_5.toInt = rp.toInt + (zMx fl rz.toInt rp.toInt zWds 10 : Nat)) ∨ (zFst fl rz.toInt rp.toInt zWds 10 = 3 ∧ ru.toInt = 8 ∧ ((-1) : Int32).toInt = -1 ∧ x_5.toInt = rp.toInt) ∨ (zFst fl rz.toInt rp.toInt zWds 10 = ((-1) : Int32).toInt ∧ 0 ≤ ((-1) : Int32).toInt ∧ ¬ (((-1) : Int32).toInt = 3 ∧ ru.toInt = 8) ∧ x_5.toInt = rf.toInt ∧ rp.toInt = rp.toInt + ((zWds ((-1) : Int32).toInt.toNat).length : Nat))) from by (have h10 : i_4.toInt.toNat = 10 := (by omega); have z1 := hvi_4_1; have z2 := hvi_4_2; rw [h10] at z1 z2; exact Or.inl ⟨z1, by decide, by omega⟩)), ⟨by decide, by decide⟩⟩, zRet ht hP hD [0, 1] (by decide) rfl⟩, hS.F ht⟩) hS.2.2 dX3_readWord_63
    · have fc_4 : i_4.toInt < 10 := zf_nle c_4 (by decide) rfl
      refine lv_iload_n hx hb dX3_readWord_10 rfl (lv_at hl 0 rfl) ?_
      refine zc_Sq (As := [.int i_4]) (rest := []) ⟨hx, hb, hml, hown, hts⟩ (c_R_wordAt l D cI cJ cZ cP cS po (i_4) (by omega) (by omega)) (va_cwS 1 hts gX3_readWord_X3_wordAt rfl rfl rfl dh_X3_wordAt ⟨Nat.le_of_ble_eq_true rfl, Nat.le_of_ble_eq_true rfl⟩) hK hN (hZ.kept hS) rfl hl.1 rfl (Nat.le_of_ble_eq_true rfl) dX3_readWord_11 ⟨Nat.le_of_ble_eq_true rfl, Nat.le_of_ble_eq_true rfl⟩ (fun r_6 hr_6 => ?_)
      obtain ⟨i_7, hi_7, hwi_7, rfl⟩ := hr_6
      refine W.eq (g2 := F0 m 14 ls (.ref (po.2.1 i_7) :: [])) rfl ?_
      refine lv_astore_n (lv' := [(3, .ref (po.2.1 i_7)), (2, .int i_4), (1, .int v_1), (0, .ref rd)]) hx hb dX3_readWord_14 rfl hl (by decide) rfl (fun ls hl => ?_)
      refine lv_aload_n hx hb dX3_readWord_15 rfl (lv_at hl 3 rfl) ?_
      refine lv_aload_n hx hb dX3_readWord_16 rfl (lv_at hl 0 rfl) ?_
      skip
      refine zw_V (As := [.ref (po.2.1 i_7)]) (rest := []) (wr := []) ⟨hx, hb, hml, hown, hts⟩ (c_F_R_letters l D cI cJ cZ cP cS po rd ri rl (rz) (rc) (rp) (rf) (rt) (ru) fl i_7 hy0 hy1 hy2 hy3 hy4 hy5 (by omega) hy7 hy8 hy9 hy10 hy11 hy12 hi_7 H.size) (cwV 1 hts gX3_readWord_X3_lettersStanding rfl rfl rfl ⟨rfl, dh_X3_lettersStanding⟩ ⟨Nat.le_of_ble_eq_true rfl, Nat.le_of_ble_eq_true rfl⟩) hK hN (hZ.kept hS) hP hD hS hA [0, 1] [] rfl rfl (by decide) (by decide) (by decide) (va_recv (q := (RX3, TX3, 8)) hK hP (ci := 3) (q0 := 0) rfl rfl) rfl hl.1 rfl (Nat.le_of_ble_eq_true rfl) dX3_readWord_17 ⟨Nat.le_of_ble_eq_true rfl, Nat.le_of_ble_eq_true rfl⟩ (fun r_8 u_9 H locs hr_8 hP hD hS => ?_)
      obtain ⟨hsr_8_0, hsr_8_1, hr_8⟩ := hr_8
      have h9R := zRe (ws' := [(rd, .inr (3, [.ref ri, .ref rl, .int rz, .int rc, .int rp, .int rf, .int rt, .int ru])), (rl, .inl (cI, 160, .inl fl))]) hP hD rfl
      clear hP hD
      obtain ⟨hP, hD⟩ := h9R
      obtain ⟨g_10, g_11⟩ := hr_8
      refine lv_istore (lv' := [(4, .int r_8), (3, .ref (po.2.1 i_7)), (2, .int i_4), (1, .int v_1), (0, .ref rd)]) hx hb dX3_readWord_20 hl (by decide) rfl (fun ls hl => ?_)
      refine lv_iload hx hb dX3_readWord_22 (lv_at hl 0 rfl) ?_
      refine lv_aload_n hx hb dX3_readWord_24 rfl (lv_at hl 1 rfl) ?_
      refine zc_V (As := []) (rest := [.int r_8]) ⟨hx, hb, hml, hown, hts⟩ (c_S_length l D cI cJ cZ cP cS po i_7 hi_7) (cwV 0 hts gX3_readWord_J0_length_8abf5 rfl rfl rfl ⟨rfl, dh_J0_length_8abf5⟩ ⟨Nat.le_of_ble_eq_true rfl, Nat.le_of_ble_eq_true rfl⟩) hK hN (hZ.kept hS) hP zP_nil (vk_recv hZ.2.2.1 hi_7 hS) rfl hl.1 rfl (Nat.le_of_ble_eq_true rfl) dX3_readWord_25 ⟨Nat.le_of_ble_eq_true rfl, Nat.le_of_ble_eq_true rfl⟩ (fun r_12 hr_12 => ?_)
      obtain ⟨g_13, g_14, hsr_12_0⟩ := hr_12
      refine lv_icmp_ne (tgt := 39) hx hb dX3_readWord_28 (by decide) (fun c_15 => ?_) (fun c_15 => ?_)
      · have fc_15 : r_8.toInt ≠ r_12.toInt := zf_ne c_15 rfl rfl
        refine lv_iload_n hx hb dX3_readWord_39 rfl (lv_at hl 3 rfl) ?_
        refine lv_iload hx hb dX3_readWord_40 (lv_at hl 0 rfl) ?_
        refine va_mmax hx hb (hml.trans hl.1.symm) hown (hts (.methodLink RX3 98 Lib.Math.max.name) (List.mem_of_getElem? (i := 1) rfl)) (hts _ (List.mem_of_getElem? (i := 2) rfl)) (hts _ (List.mem_of_getElem? (i := 3) rfl)) (hts _ (List.mem_of_getElem? (i := 4) rfl)) (Nat.le_of_ble_eq_true rfl) (Nat.le_of_ble_eq_true rfl) (Nat.le_of_ble_eq_true rfl) (Nat.le_of_ble_eq_true rfl) dX3_readWord_42 ?_
        refine lv_topi (fun x_16 ex_16 => ?_)
        have qx_16 := zf_max ex_16 (x1 := v_1.toInt) (y1 := r_8.toInt) rfl rfl
        refine lv_istore_n (lv' := [(1, .int x_16), (4, .int r_8), (3, .ref (po.2.1 i_7)), (2, .int i_4), (0, .ref rd)]) hx hb dX3_readWord_45 rfl hl (by decide) rfl (fun ls hl => ?_)
        obtain ⟨x_17, ex_17⟩ : ∃ y : Int32, y = i_4 + 1 := ⟨_, rfl⟩
        have qx_17 : x_17.toInt = i_4.toInt + 1 := dw_incK ex_17 fc_4 (by decide)
        refine lv_iinc (v := x_17) (lv' := [(2, .int x_17), (1, .int x_16), (4, .int r_8), (3, .ref (po.2.1 i_7)), (0, .ref rd)]) hx hb dX3_readWord_46 hl (k := 3) rfl ex_17.symm (by decide) rfl (fun ls hl => ?_)
        refine lv_goto (tgt := 4) hx hb dX3_readWord_49 (by decide) ?_
        exact ih x_17 x_16 _ _ _ (hP.sub [0, 1] rfl) (hD.sub [0, 1] (by decide) rfl) hS (lv_sub hl [0, 1, 4] rfl) ⟨by omega, by omega⟩ (show rp.toInt + (x_16 : Int32).toInt ≤ rz.toInt from by omega) (show zFst fl rz.toInt rp.toInt zWds x_17.toInt.toNat = -1 from by exact zRW_S hi_7 hwi_7 hvi_4_1 hsr_8_1 hsr_12_0 (by omega) (by omega)) (show (x_16 : Int32).toInt = (zMx fl rz.toInt rp.toInt zWds x_17.toInt.toNat : Nat) from by exact zRW_M hwi_7 hsr_8_1 (by omega) hvi_4_2 (by omega)) (show x_17.toInt ≤ 10 from by omega) (dw_lo hloi_4 qx_17) (dw_hn hni_4 qx_17)
      · have fc_15 : r_8.toInt = r_12.toInt := zf_eq c_15 rfl rfl
        refine lv_aload_n hx hb dX3_readWord_31 rfl (lv_at hl 4 rfl) ?_
        refine lv_iload_n hx hb dX3_readWord_32 rfl (lv_at hl 2 rfl) ?_
        refine lv_iload hx hb dX3_readWord_33 (lv_at hl 0 rfl) ?_
        skip
        refine zw_V (As := [.int i_4, .int r_8]) (rest := []) (wr := [(rl, .inl (cI, 160, .inl fl))]) ⟨hx, hb, hml, hown, hts⟩ (c_F_R_takeWord l D cI cJ cZ cP cS po rd ri rl (rz) (rc) (rp) (rf) (rt) (ru) (i_4) (r_8) hy0 hy1 hy2 hy3 hy4 hy5 (by omega) hy7 hy8 hy9 hy10 hy11 hy12 (by omega) (by omega) (by omega) (by omega) (by omega) H.size) (cwV 2 hts gX3_readWord_X3_takeWord rfl rfl rfl ⟨rfl, dh_X3_takeWord⟩ ⟨Nat.le_of_ble_eq_true rfl, Nat.le_of_ble_eq_true rfl⟩) hK hN (hZ.kept hS) hP hD hS hA [0] [1] rfl rfl (by decide) (by decide) (by decide) (va_recv (q := (RX3, TX3, 8)) hK hP (ci := 3) (q0 := 0) rfl rfl) rfl hl.1 rfl (Nat.le_of_ble_eq_true rfl) dX3_readWord_35 ⟨Nat.le_of_ble_eq_true rfl, Nat.le_of_ble_eq_true rfl⟩ (fun r_18 u_19 H locs hr_18 hP hD hS => ?_)
        obtain ⟨q_20, q_21⟩ := u_19
        try dsimp only at hr_18
        obtain ⟨hbq_20, hbq_21, hsr_18_0, hsr_18_1, hr_18⟩ := hr_18
        have h9R := zRe (ws' := [(rl, .inl (cI, 160, .inl fl)), (rd, .inr (3, [.ref ri, .ref rl, .int rz, .int rc, .int q_20, .int q_21, .int rt, .int ru]))]) hP hD rfl
        clear hP hD
        obtain ⟨hP, hD⟩ := h9R
        obtain ⟨g_22, g_23⟩ := hr_18
        exact W.iret (v := r_18) hx hb hr (fun t ht hW => ⟨⟨r_18, (q_20, q_21), rfl, ⟨(show 0 ≤ q_20.toInt ∧ q_20.toInt ≤ 160 from hbq_20), (show (-1) ≤ q_21.toInt ∧ q_21.toInt ≤ 160 from hbq_21), (show q_20.toInt ≤ rz.toInt from by omega), (show ((zFst fl rz.toInt rp.toInt zWds 10 = -1 ∧ (r_18 : Int32).toInt = -1 ∧ q_21.toInt = rp.toInt + (zMx fl rz.toInt rp.toInt zWds 10 : Nat)) ∨ (zFst fl rz.toInt rp.toInt zWds 10 = 3 ∧ ru.toInt = 8 ∧ (r_18 : Int32).toInt = -1 ∧ q_21.toInt = rp.toInt) ∨ (zFst fl rz.toInt rp.toInt zWds 10 = (r_18 : Int32).toInt ∧ 0 ≤ (r_18 : Int32).toInt ∧ ¬ ((r_18 : Int32).toInt = 3 ∧ ru.toInt = 8) ∧ q_21.toInt = rf.toInt ∧ q_20.toInt = rp.toInt + ((zWds (r_18 : Int32).toInt.toNat).length : Nat))) from by exact zRW hi_7 hwi_7 hvi_4_1 hsr_8_1 hsr_12_0 (by omega) (by omega)), ⟨by omega, by omega⟩⟩, zRet ht hP hD [1, 0] (by decide) rfl⟩, hS.F ht⟩) hS.2.2 dX3_readWord_38
set_option maxHeartbeats 4000000 in
set_option maxRecDepth 100000 in
theorem c_F_R_expect (l : Launch) (D : va_G) (cI cJ cZ cP cS : ClassId) (po : zPool) (rd ri rl : Nat) (rz rc rp rf rt ru : Int32) (fl : Nat → Int32) (ch : Int32) (hy0 : 0 ≤ rz.toInt) (hy1 : rz.toInt ≤ 160) (hy2 : 0 ≤ rc.toInt) (hy3 : rc.toInt ≤ 40) (hy4 : 0 ≤ rp.toInt) (hy5 : rp.toInt ≤ 160) (hy6 : rp.toInt ≤ rz.toInt) (hy7 : (-1) ≤ rf.toInt) (hy8 : rf.toInt ≤ 160) (hy9 : 0 ≤ rt.toInt) (hy10 : rt.toInt ≤ 40) (hy11 : 0 ≤ ru.toInt) (hy12 : ru.toInt ≤ 8) (hpz : Nat) : Met l yX3_expect wsX3_expect ({ frames := 1, cells := 0, slots := 0, locals := 22 }) (va_Pc [.ref rd, .int ch] (zW D (zKT cI cJ cZ cP cS) po [(rd, .inr (3, [.ref ri, .ref rl, .int rz, .int rc, .int rp, .int rf, .int rt, .int ru])), (rl, .inl (cI, 160, .inl fl))] hpz)) (va_Qv (fun (u : (Int32) × (Int32)) => (0 ≤ u.1.toInt ∧ u.1.toInt ≤ 160) ∧ ((-1) ≤ u.2.toInt ∧ u.2.toInt ≤ 160) ∧ (u.1.toInt ≤ rz.toInt) ∧ (((rp.toInt < rz.toInt ∧ (fl rp.toInt.toNat).toInt = ch.toInt ∧ u.1.toInt = rp.toInt + 1 ∧ u.2.toInt = rf.toInt) ∨ (¬ (rp.toInt < rz.toInt ∧ (fl rp.toInt.toNat).toInt = ch.toInt) ∧ u.2.toInt = rp.toInt ∧ u.1.toInt = rp.toInt))) ∧ (True)) (zB D [(rd, .inr (3, [.ref ri, .ref rl, .int rz, .int rc, .int rp, .int rf, .int rt, .int ru])), (rl, .inl (cI, 160, .inl fl))] hpz (fun (u : (Int32) × (Int32)) => [(rd, .inr (3, [.ref ri, .ref rl, .int rz, .int rc, .int u.1, .int u.2, .int rt, .int ru])), (rl, .inl (cI, 160, .inl fl))])) (va_A [(rd, .inr (3, [.ref ri, .ref rl, .int rz, .int rc, .int rp, .int rf, .int rt, .int ru])), (rl, .inl (cI, 160, .inl fl))] hpz)) 0 0 (va_A [(rd, .inr (3, [.ref ri, .ref rl, .int rz, .int rc, .int rp, .int rf, .int rt, .int ru])), (rl, .inl (cI, 160, .inl fl))] hpz) := by
  refine Met.ofW (cc := cX3_expect) (maxL := 2) (ret := none) (by decide) rfl ?_
  intro p e s m args below meth c s₁ B hml hv
  obtain ⟨rfl, hsz, hP, hK, hD0, hN, hZ⟩ := hv
  have hx := B.exec
  have hb := B.bytes
  have hr := B.returns
  have hts := atoms_spec (ws := wsX3_expect) B.pre
  have hown : s.vm.findClass RX3 = some m.cls := findClass_of_methodNamed B.named
  have hlocks := B.notSynchronized
  subst hsz
  have hD := hD0.self (sz := s.heap.size)
  have hA := zA_of hD
  have hl := lv_entry ([.ref rd, .int ch]) (n := 2) (Nat.le_of_ble_eq_true rfl)
  rw [lg_entry_eq]
  generalize (lg_sl ([.ref rd, .int ch]) ++ List.replicate (2 - (lg_sl ([.ref rd, .int ch])).length) Slot.unset).toArray = ls at hl ⊢
  replace hl : lv_has ls 2 [(0, .ref rd), (1, .int ch)] := hl
  refine zw_begin hP hD (fun H locs hP1 hS => ?_)
  clear hP
  have hP := hP1
  clear hP1
  refine lv_aload_n hx hb dX3_expect_0 rfl (lv_at hl 0 rfl) ?_
  refine lv_aload_n hx hb dX3_expect_1 rfl (lv_at hl 0 rfl) ?_
  refine va_get (D := D) (ci := 3) (v := .int rp) (C := RX3) (T := TX3) (N := 8) hx hb hts hi_X3_expect_3 hown hK hP 0 rfl rfl 4 (by decide) (hts (.fieldLink RX3 25 "TheLiningsInIt$Reader" "place" "I") (List.mem_of_getElem? (i := 1) rfl)) (fun _ h9 => h9) rfl dX3_expect_2 ?_
  refine lv_iload_n hx hb dX3_expect_5 rfl (lv_at hl 1 rfl) ?_
  refine zc_V (As := [.int rp, .int ch]) (rest := []) ⟨hx, hb, hml, hown, hts⟩ (c_R_stands l D cI cJ cZ cP cS po rd ri rl (rz) (rc) (rp) (rf) (rt) (ru) fl (rp) (ch) hy0 hy1 hy2 hy3 hy4 hy5 (by omega) hy7 hy8 hy9 hy10 hy11 hy12) (cwV 2 hts gX3_expect_X3_stands rfl rfl rfl ⟨rfl, dh_X3_stands⟩ ⟨Nat.le_of_ble_eq_true rfl, Nat.le_of_ble_eq_true rfl⟩) hK hN (hZ.kept hS) hP (hP.sub [0, 1] rfl) (va_recv (q := (RX3, TX3, 8)) hK hP (ci := 3) (q0 := 0) rfl rfl) rfl hl.1 rfl (Nat.le_of_ble_eq_true rfl) dX3_expect_6 ⟨Nat.le_of_ble_eq_true rfl, Nat.le_of_ble_eq_true rfl⟩ (fun r_1 hr_1 => ?_)
  obtain ⟨g_2, g_3, hsr_1_0, hsr_1_1⟩ := hr_1
  refine lv_if_eq (tgt := 25) hx hb dX3_expect_9 (by decide) (fun c_4 => ?_) (fun c_4 => ?_)
  · have fc_4 : r_1.toInt = 0 := zf_eq c_4 rfl (by decide)
    refine lv_aload_n hx hb dX3_expect_25 rfl (lv_at hl 0 rfl) ?_
    refine lv_aload_n hx hb dX3_expect_26 rfl (lv_at hl 0 rfl) ?_
    refine va_get (D := D) (ci := 3) (v := .int rp) (C := RX3) (T := TX3) (N := 8) hx hb hts hi_X3_expect_3 hown hK hP 0 rfl rfl 4 (by decide) (hts (.fieldLink RX3 25 "TheLiningsInIt$Reader" "place" "I") (List.mem_of_getElem? (i := 1) rfl)) (fun _ h9 => h9) rfl dX3_expect_27 ?_
    refine va_put (D := D) (ci := 3) (v := .int rp) (ty := .int) (C := RX3) (T := TX3) (N := 8) hx hb hts hi_X3_expect_3 tyX3 tyX3_ok nmX3 hown hK hP hD hS 0 rfl rfl 5 (by decide) (hts (.fieldLink RX3 28 "TheLiningsInIt$Reader" "fault" "I") (List.mem_of_getElem? (i := 2) rfl)) (fun _ h9 => h9) rfl (tyX3_ok 5 (Nat.le_of_ble_eq_true rfl)) rfl rfl (Nat.le_of_ble_eq_true rfl) dX3_expect_30 (fun H locs hP hD hS => ?_)
    have h9R := zRe (ws' := [(rd, .inr (3, [.ref ri, .ref rl, .int rz, .int rc, .int rp, .int rp, .int rt, .int ru])), (rl, .inl (cI, 160, .inl fl))]) hP hD rfl
    clear hP hD
    obtain ⟨hP, hD⟩ := h9R
    exact W.vret hx hb hr (fun t ht hW => ⟨⟨(rp, rp), rfl, ⟨(show 0 ≤ rp.toInt ∧ rp.toInt ≤ 160 from ⟨hy4, hy5⟩), (show (-1) ≤ rp.toInt ∧ rp.toInt ≤ 160 from ⟨by omega, hy5⟩), (show rp.toInt ≤ rz.toInt from by omega), (show ((rp.toInt < rz.toInt ∧ (fl rp.toInt.toNat).toInt = ch.toInt ∧ rp.toInt = rp.toInt + 1 ∧ rp.toInt = rf.toInt) ∨ (¬ (rp.toInt < rz.toInt ∧ (fl rp.toInt.toNat).toInt = ch.toInt) ∧ rp.toInt = rp.toInt ∧ rp.toInt = rp.toInt)) from by first | exact Or.inl ⟨(zSt_yes hsr_1_1 (by omega)).1, (zSt_yes hsr_1_1 (by omega)).2, by omega, by omega⟩ | exact Or.inr ⟨zSt_no hsr_1_1 (by omega) (by omega), by omega, by omega⟩), trivial⟩, zRet ht hP hD [0, 1] (by decide) rfl⟩, hS.F ht⟩) hS.2.2 dX3_expect_33
  · have fc_4 : r_1.toInt ≠ 0 := zf_ne c_4 rfl (by decide)
    refine lv_aload_n hx hb dX3_expect_12 rfl (lv_at hl 0 rfl) ?_
    refine lv_dup hx hb dX3_expect_13 rfl ?_
    refine va_get (D := D) (ci := 3) (v := .int rp) (C := RX3) (T := TX3) (N := 8) hx hb hts hi_X3_expect_3 hown hK hP 0 rfl rfl 4 (by decide) (hts (.fieldLink RX3 25 "TheLiningsInIt$Reader" "place" "I") (List.mem_of_getElem? (i := 1) rfl)) (fun _ h9 => h9) rfl dX3_expect_14 ?_
    refine lv_iconst (v := 1) hx hb dX3_expect_17 (by decide) ?_
    refine lv_iadd hx hb dX3_expect_18 ?_
    refine lv_topi (fun x_5 ex_5 => ?_)
    have qx_5 : x_5.toInt = rp.toInt + 1 := by rw [ex_5]; exact zf_add rfl (by decide) (by omega) (by omega)
    refine va_put (D := D) (ci := 3) (v := .int x_5) (ty := .int) (C := RX3) (T := TX3) (N := 8) hx hb hts hi_X3_expect_3 tyX3 tyX3_ok nmX3 hown hK hP hD hS 0 rfl rfl 4 (by decide) (hts (.fieldLink RX3 25 "TheLiningsInIt$Reader" "place" "I") (List.mem_of_getElem? (i := 1) rfl)) (fun _ h9 => h9) rfl (tyX3_ok 4 (Nat.le_of_ble_eq_true rfl)) rfl rfl (Nat.le_of_ble_eq_true rfl) dX3_expect_19 (fun H locs hP hD hS => ?_)
    have h9R := zRe (ws' := [(rd, .inr (3, [.ref ri, .ref rl, .int rz, .int rc, .int x_5, .int rf, .int rt, .int ru])), (rl, .inl (cI, 160, .inl fl))]) hP hD rfl
    clear hP hD
    obtain ⟨hP, hD⟩ := h9R
    refine lv_goto (tgt := 33) hx hb dX3_expect_22 (by decide) ?_
    exact W.vret hx hb hr (fun t ht hW => ⟨⟨(x_5, rf), rfl, ⟨(show 0 ≤ x_5.toInt ∧ x_5.toInt ≤ 160 from ⟨by omega, by omega⟩), (show (-1) ≤ rf.toInt ∧ rf.toInt ≤ 160 from ⟨hy7, hy8⟩), (show x_5.toInt ≤ rz.toInt from by omega), (show ((rp.toInt < rz.toInt ∧ (fl rp.toInt.toNat).toInt = ch.toInt ∧ x_5.toInt = rp.toInt + 1 ∧ rf.toInt = rf.toInt) ∨ (¬ (rp.toInt < rz.toInt ∧ (fl rp.toInt.toNat).toInt = ch.toInt) ∧ rf.toInt = rp.toInt ∧ x_5.toInt = rp.toInt)) from by first | exact Or.inl ⟨(zSt_yes hsr_1_1 (by omega)).1, (zSt_yes hsr_1_1 (by omega)).2, by omega, by omega⟩ | exact Or.inr ⟨zSt_no hsr_1_1 (by omega) (by omega), by omega, by omega⟩), trivial⟩, zRet ht hP hD [0, 1] (by decide) rfl⟩, hS.F ht⟩) hS.2.2 dX3_expect_33
set_option maxHeartbeats 4000000 in
set_option maxRecDepth 100000 in
theorem c_F_R_readNumber (l : Launch) (D : va_G) (cI cJ cZ cP cS : ClassId) (po : zPool) (rd ri rl : Nat) (rz rc rp rf rt ru : Int32) (fl : Nat → Int32) (lo hi : Int32) (hy0 : 0 ≤ rz.toInt) (hy1 : rz.toInt ≤ 160) (hy2 : 0 ≤ rc.toInt) (hy3 : rc.toInt ≤ 40) (hy4 : 0 ≤ rp.toInt) (hy5 : rp.toInt ≤ 160) (hy6 : rp.toInt ≤ rz.toInt) (hy7 : (-1) ≤ rf.toInt) (hy8 : rf.toInt ≤ 160) (hy9 : 0 ≤ rt.toInt) (hy10 : rt.toInt ≤ 40) (hy11 : 0 ≤ ru.toInt) (hy12 : ru.toInt ≤ 8) (hpz : Nat) : Met l yX3_readNumber wsX3_readNumber ({ frames := 1, cells := 0, slots := 0, locals := 22 }) (va_Pc [.ref rd, .int lo, .int hi] (zW D (zKT cI cJ cZ cP cS) po [(rd, .inr (3, [.ref ri, .ref rl, .int rz, .int rc, .int rp, .int rf, .int rt, .int ru])), (rl, .inl (cI, 160, .inl fl))] hpz)) (va_Qi (fun (r : Int32) (u : (Int32) × (Int32)) => (0 ≤ u.1.toInt ∧ u.1.toInt ≤ 160) ∧ ((-1) ≤ u.2.toInt ∧ u.2.toInt ≤ 160) ∧ (u.1.toInt ≤ rz.toInt) ∧ (u.1.toInt = zNe fl rz.toInt rp.toInt) ∧ (r.toInt = zNv fl rp.toInt u.1.toInt) ∧ (((u.2.toInt = rp.toInt ∧ (u.1.toInt = rp.toInt ∨ r.toInt < lo.toInt ∨ hi.toInt < r.toInt)) ∨ (u.2.toInt = rf.toInt ∧ u.1.toInt ≠ rp.toInt ∧ lo.toInt ≤ r.toInt ∧ r.toInt ≤ hi.toInt))) ∧ (0 ≤ r.toInt ∧ r.toInt ≤ 999)) (zB D [(rd, .inr (3, [.ref ri, .ref rl, .int rz, .int rc, .int rp, .int rf, .int rt, .int ru])), (rl, .inl (cI, 160, .inl fl))] hpz (fun (u : (Int32) × (Int32)) => [(rd, .inr (3, [.ref ri, .ref rl, .int rz, .int rc, .int u.1, .int u.2, .int rt, .int ru])), (rl, .inl (cI, 160, .inl fl))])) (va_A [(rd, .inr (3, [.ref ri, .ref rl, .int rz, .int rc, .int rp, .int rf, .int rt, .int ru])), (rl, .inl (cI, 160, .inl fl))] hpz)) 0 0 (va_A [(rd, .inr (3, [.ref ri, .ref rl, .int rz, .int rc, .int rp, .int rf, .int rt, .int ru])), (rl, .inl (cI, 160, .inl fl))] hpz) := by
  refine Met.ofW (cc := cX3_readNumber) (maxL := 5) (ret := (some .int)) (by decide) rfl ?_
  intro p e s m args below meth c s₁ B hml hv
  obtain ⟨rfl, hsz, hP, hK, hD0, hN, hZ⟩ := hv
  have hx := B.exec
  have hb := B.bytes
  have hr := B.returns
  have hts := atoms_spec (ws := wsX3_readNumber) B.pre
  have hown : s.vm.findClass RX3 = some m.cls := findClass_of_methodNamed B.named
  have hlocks := B.notSynchronized
  subst hsz
  have hD := hD0.self (sz := s.heap.size)
  have hA := zA_of hD
  have hl := lv_entry ([.ref rd, .int lo, .int hi]) (n := 5) (Nat.le_of_ble_eq_true rfl)
  rw [lg_entry_eq]
  generalize (lg_sl ([.ref rd, .int lo, .int hi]) ++ List.replicate (5 - (lg_sl ([.ref rd, .int lo, .int hi])).length) Slot.unset).toArray = ls at hl ⊢
  replace hl : lv_has ls 5 [(0, .ref rd), (1, .int lo), (2, .int hi)] := hl
  refine zw_begin hP hD (fun H locs hP1 hS => ?_)
  clear hP
  have hP := hP1
  clear hP1
  refine lv_aload_n hx hb dX3_readNumber_0 rfl (lv_at hl 0 rfl) ?_
  refine va_get (D := D) (ci := 3) (v := .int rp) (C := RX3) (T := TX3) (N := 8) hx hb hts hi_X3_readNumber_3 hown hK hP 0 rfl rfl 4 (by decide) (hts (.fieldLink RX3 25 "TheLiningsInIt$Reader" "place" "I") (List.mem_of_getElem? (i := 1) rfl)) (fun _ h9 => h9) rfl dX3_readNumber_1 ?_
  refine lv_istore_n (lv' := [(3, .int rp), (0, .ref rd), (1, .int lo), (2, .int hi)]) hx hb dX3_readNumber_4 rfl hl (by decide) rfl (fun ls hl => ?_)
  refine lv_iconst (v := 0) hx hb dX3_readNumber_5 (by decide) ?_
  refine lv_istore (lv' := [(4, .int 0), (3, .int rp), (0, .ref rd), (1, .int lo), (2, .int hi)]) hx hb dX3_readNumber_6 hl (by decide) rfl (fun ls hl => ?_)
  obtain ⟨i_8, hi_8⟩ : ∃ i : Int32, i = rp := ⟨_, rfl⟩
  replace hl : lv_has ls 5 [(4, .int 0), (3, .int rp), (0, .ref rd), (1, .int lo), (2, .int hi)] := lv_sub hl [0, 1, 2, 3, 4] rfl
  replace hP : va_P D vwCl [(rd, .inr (3, [.ref ri, .ref rl, .int rz, .int rc, .int i_8, .int rf, .int rt, .int ru])), (rl, .inl (cI, 160, .inl fl))] H := by rw [hi_8]; exact hP
  replace hD : va_D (va_A [(rd, .inr (3, [.ref ri, .ref rl, .int rz, .int rc, .int rp, .int rf, .int rt, .int ru])), (rl, .inl (cI, 160, .inl fl))] s.heap.size) [(rd, .inr (3, [.ref ri, .ref rl, .int rz, .int rc, .int i_8, .int rf, .int rt, .int ru])), (rl, .inl (cI, 160, .inl fl))] := by rw [hi_8]; exact hD
  have h1i_8 : i_8.toInt = rp.toInt := by rw [hi_8]
  obtain ⟨nfu, hni_8⟩ : ∃ nq9 : Nat, rz.toInt ≤ i_8.toInt + (nq9 : Int) := ⟨((rz.toInt : Int) - rp.toInt).toNat, by omega⟩
  have hloi_8 : 0 ≤ i_8.toInt := by omega
  obtain ⟨v_1, hv_1⟩ : ∃ g : Int32, g = 0 := ⟨_, rfl⟩
  replace hl : lv_has ls 5 [(4, .int v_1), (3, .int rp), (0, .ref rd), (1, .int lo), (2, .int hi)] := by rw [hv_1]; exact hl
  have hbv_1 : 0 ≤ v_1.toInt ∧ v_1.toInt ≤ 999 := by rw [hv_1]; exact ⟨by decide, by decide⟩
  have hvi_8_0 : rp.toInt ≤ i_8.toInt ∧ i_8.toInt ≤ rz.toInt := by
    (try rw [hi_8]); (try rw [hv_1]); exact ⟨by omega, by omega⟩
  have hvi_8_1 : i_8.toInt ≤ rp.toInt + 3 := by
    (try rw [hi_8]); (try rw [hv_1]); omega
  have hvi_8_2 : (∀ j : Int, rp.toInt ≤ j → j < i_8.toInt → zDg fl rz.toInt j) := by
    (try rw [hi_8]); (try rw [hv_1]); (intro j h1 h2; exfalso; omega)
  have hvi_8_3 : (v_1 : Int32).toInt = zNv fl rp.toInt i_8.toInt := by
    (try rw [hi_8]); (try rw [hv_1]); (rw [show ((0 : Int32).toInt) = 0 from by decide]; exact zNv_0.symm)
  have hvi_8_4 : (i_8.toInt = rp.toInt → (v_1 : Int32).toInt = 0) ∧ (i_8.toInt ≤ rp.toInt + 1 → (v_1 : Int32).toInt ≤ 9) ∧ (i_8.toInt ≤ rp.toInt + 2 → (v_1 : Int32).toInt ≤ 99) := by
    (try rw [hi_8]); (try rw [hv_1]); (have k0 : (0 : Int32).toInt = 0 := (by decide); omega)
  clear h1i_8 hi_8 hv_1
  skip
  revert hni_8
  revert hloi_8
  revert hvi_8_4
  revert hvi_8_3
  revert hvi_8_2
  revert hvi_8_1
  revert hvi_8_0
  revert hbv_1
  revert hl
  revert hS
  revert hD
  revert hP
  revert ls
  revert locs
  revert H
  revert v_1
  revert i_8
  induction nfu with
  | zero =>
    intro i_8 v_1 H locs ls hP hD hS hl hbv_1 hvi_8_0 hvi_8_1 hvi_8_2 hvi_8_3 hvi_8_4 hloi_8 hni_8
    have hzi_8 : rz.toInt ≤ i_8.toInt := by omega
    refine lv_aload_n hx hb dX3_readNumber_8 rfl (lv_at hl 2 rfl) ?_
    refine va_get (D := D) (ci := 3) (v := .int i_8) (C := RX3) (T := TX3) (N := 8) hx hb hts hi_X3_readNumber_3 hown hK hP 0 rfl rfl 4 (by decide) (hts (.fieldLink RX3 25 "TheLiningsInIt$Reader" "place" "I") (List.mem_of_getElem? (i := 1) rfl)) (fun _ h9 => h9) rfl dX3_readNumber_9 ?_
    refine lv_aload_n hx hb dX3_readNumber_12 rfl (lv_at hl 2 rfl) ?_
    refine va_get (D := D) (ci := 3) (v := .int rz) (C := RX3) (T := TX3) (N := 8) hx hb hts hi_X3_readNumber_3 hown hK hP 0 rfl rfl 2 (by decide) (hts (.fieldLink RX3 18 "TheLiningsInIt$Reader" "size" "I") (List.mem_of_getElem? (i := 2) rfl)) (fun _ h9 => h9) rfl dX3_readNumber_13 ?_
    refine lv_icmp_ge (tgt := 77) hx hb dX3_readNumber_16 (by decide) (fun c_2 => ?_) (fun c_2 => ?_)
    · have fc_2 : rz.toInt ≤ i_8.toInt := zf_le c_2 rfl rfl
      refine lv_aload_n hx hb dX3_readNumber_77 rfl (lv_at hl 2 rfl) ?_
      refine va_get (D := D) (ci := 3) (v := .int i_8) (C := RX3) (T := TX3) (N := 8) hx hb hts hi_X3_readNumber_3 hown hK hP 0 rfl rfl 4 (by decide) (hts (.fieldLink RX3 25 "TheLiningsInIt$Reader" "place" "I") (List.mem_of_getElem? (i := 1) rfl)) (fun _ h9 => h9) rfl dX3_readNumber_78 ?_
      refine lv_iload_n hx hb dX3_readNumber_81 rfl (lv_at hl 1 rfl) ?_
      refine lv_icmp_eq (tgt := 95) hx hb dX3_readNumber_82 (by decide) (fun c_3 => ?_) (fun c_3 => ?_)
      · have fc_3 : i_8.toInt = rp.toInt := zf_eq c_3 rfl rfl
        refine lv_aload_n hx hb dX3_readNumber_95 rfl (lv_at hl 2 rfl) ?_
        refine lv_iload_n hx hb dX3_readNumber_96 rfl (lv_at hl 1 rfl) ?_
        refine va_put (D := D) (ci := 3) (v := .int rp) (ty := .int) (C := RX3) (T := TX3) (N := 8) hx hb hts hi_X3_readNumber_3 tyX3 tyX3_ok nmX3 hown hK hP hD hS 0 rfl rfl 5 (by decide) (hts (.fieldLink RX3 28 "TheLiningsInIt$Reader" "fault" "I") (List.mem_of_getElem? (i := 4) rfl)) (fun _ h9 => h9) rfl (tyX3_ok 5 (Nat.le_of_ble_eq_true rfl)) rfl rfl (Nat.le_of_ble_eq_true rfl) dX3_readNumber_97 (fun H locs hP hD hS => ?_)
        have h9R := zRe (ws' := [(rd, .inr (3, [.ref ri, .ref rl, .int rz, .int rc, .int i_8, .int rp, .int rt, .int ru])), (rl, .inl (cI, 160, .inl fl))]) hP hD rfl
        clear hP hD
        obtain ⟨hP, hD⟩ := h9R
        refine lv_iload hx hb dX3_readNumber_100 (lv_at hl 0 rfl) ?_
        exact W.iret (v := v_1) hx hb hr (fun t ht hW => ⟨⟨v_1, (i_8, rp), rfl, ⟨(show 0 ≤ i_8.toInt ∧ i_8.toInt ≤ 160 from ⟨by omega, by omega⟩), (show (-1) ≤ rp.toInt ∧ rp.toInt ≤ 160 from ⟨by omega, hy5⟩), (show i_8.toInt ≤ rz.toInt from by omega), (show i_8.toInt = zNe fl rz.toInt rp.toInt from by first | exact (zNe_eq (by omega) (by omega) hvi_8_2 (Or.inr (fun z => by (have z1 := z.1; omega)))).symm | exact (zNe_eq (by omega) (by omega) hvi_8_2 (Or.inl (by omega))).symm), (show (v_1 : Int32).toInt = zNv fl rp.toInt i_8.toInt from by assumption), (show ((rp.toInt = rp.toInt ∧ (i_8.toInt = rp.toInt ∨ (v_1 : Int32).toInt < lo.toInt ∨ hi.toInt < (v_1 : Int32).toInt)) ∨ (rp.toInt = rf.toInt ∧ i_8.toInt ≠ rp.toInt ∧ lo.toInt ≤ (v_1 : Int32).toInt ∧ (v_1 : Int32).toInt ≤ hi.toInt)) from by omega), ⟨by omega, by omega⟩⟩, zRet ht hP hD [0, 1] (by decide) rfl⟩, hS.F ht⟩) hS.2.2 dX3_readNumber_102
      · have fc_3 : i_8.toInt ≠ rp.toInt := zf_ne c_3 rfl rfl
        refine lv_iload hx hb dX3_readNumber_85 (lv_at hl 0 rfl) ?_
        refine lv_iload_n hx hb dX3_readNumber_87 rfl (lv_at hl 3 rfl) ?_
        refine lv_iload_n hx hb dX3_readNumber_88 rfl (lv_at hl 4 rfl) ?_
        refine zc_SN (As := [.int v_1, .int lo, .int hi]) (rest := []) ⟨hx, hb, hml, hown, hts⟩ (c_within l D cI cJ cZ cP cS po (v_1) (lo) (hi) ) ⟨(va_cnB 3 hts gX3_readNumber_X7_within_n109 rfl rfl rfl (hN.1 (RX3, 109, yX7_within) (List.mem_of_getElem? (i := 8) rfl)) (hts _ (List.mem_of_getElem? (i := 10) rfl)) dh_X7_within ⟨Nat.le_of_ble_eq_true rfl, Nat.le_of_ble_eq_true rfl⟩), (hts _ (List.mem_of_getElem? (i := 9) rfl)), trivial⟩ hK hN (hZ.kept hS) rfl hl.1 rfl (Nat.le_of_ble_eq_true rfl) dX3_readNumber_89 ⟨Nat.le_of_ble_eq_true rfl, Nat.le_of_ble_eq_true rfl⟩ (fun r_4 hr_4 => ?_)
        rcases hr_4 with ⟨rfl, g_5⟩ | ⟨rfl, g_6, g_7⟩ | ⟨rfl, g_8, g_9⟩
        · refine lv_if_ne (tgt := 100) hx hb dX3_readNumber_92 (by decide) (fun c_10 => ?_) (fun c_10 => ?_)
          · exact absurd c_10 (by decide)
          · refine lv_aload_n hx hb dX3_readNumber_95 rfl (lv_at hl 2 rfl) ?_
            refine lv_iload_n hx hb dX3_readNumber_96 rfl (lv_at hl 1 rfl) ?_
            refine va_put (D := D) (ci := 3) (v := .int rp) (ty := .int) (C := RX3) (T := TX3) (N := 8) hx hb hts hi_X3_readNumber_3 tyX3 tyX3_ok nmX3 hown hK hP hD hS 0 rfl rfl 5 (by decide) (hts (.fieldLink RX3 28 "TheLiningsInIt$Reader" "fault" "I") (List.mem_of_getElem? (i := 4) rfl)) (fun _ h9 => h9) rfl (tyX3_ok 5 (Nat.le_of_ble_eq_true rfl)) rfl rfl (Nat.le_of_ble_eq_true rfl) dX3_readNumber_97 (fun H locs hP hD hS => ?_)
            have h9R := zRe (ws' := [(rd, .inr (3, [.ref ri, .ref rl, .int rz, .int rc, .int i_8, .int rp, .int rt, .int ru])), (rl, .inl (cI, 160, .inl fl))]) hP hD rfl
            clear hP hD
            obtain ⟨hP, hD⟩ := h9R
            refine lv_iload hx hb dX3_readNumber_100 (lv_at hl 0 rfl) ?_
            exact W.iret (v := v_1) hx hb hr (fun t ht hW => ⟨⟨v_1, (i_8, rp), rfl, ⟨(show 0 ≤ i_8.toInt ∧ i_8.toInt ≤ 160 from ⟨by omega, by omega⟩), (show (-1) ≤ rp.toInt ∧ rp.toInt ≤ 160 from ⟨by omega, hy5⟩), (show i_8.toInt ≤ rz.toInt from by omega), (show i_8.toInt = zNe fl rz.toInt rp.toInt from by first | exact (zNe_eq (by omega) (by omega) hvi_8_2 (Or.inr (fun z => by (have z1 := z.1; omega)))).symm | exact (zNe_eq (by omega) (by omega) hvi_8_2 (Or.inl (by omega))).symm), (show (v_1 : Int32).toInt = zNv fl rp.toInt i_8.toInt from by assumption), (show ((rp.toInt = rp.toInt ∧ (i_8.toInt = rp.toInt ∨ (v_1 : Int32).toInt < lo.toInt ∨ hi.toInt < (v_1 : Int32).toInt)) ∨ (rp.toInt = rf.toInt ∧ i_8.toInt ≠ rp.toInt ∧ lo.toInt ≤ (v_1 : Int32).toInt ∧ (v_1 : Int32).toInt ≤ hi.toInt)) from by omega), ⟨by omega, by omega⟩⟩, zRet ht hP hD [0, 1] (by decide) rfl⟩, hS.F ht⟩) hS.2.2 dX3_readNumber_102
        · refine lv_if_ne (tgt := 100) hx hb dX3_readNumber_92 (by decide) (fun c_11 => ?_) (fun c_11 => ?_)
          · exact absurd c_11 (by decide)
          · refine lv_aload_n hx hb dX3_readNumber_95 rfl (lv_at hl 2 rfl) ?_
            refine lv_iload_n hx hb dX3_readNumber_96 rfl (lv_at hl 1 rfl) ?_
            refine va_put (D := D) (ci := 3) (v := .int rp) (ty := .int) (C := RX3) (T := TX3) (N := 8) hx hb hts hi_X3_readNumber_3 tyX3 tyX3_ok nmX3 hown hK hP hD hS 0 rfl rfl 5 (by decide) (hts (.fieldLink RX3 28 "TheLiningsInIt$Reader" "fault" "I") (List.mem_of_getElem? (i := 4) rfl)) (fun _ h9 => h9) rfl (tyX3_ok 5 (Nat.le_of_ble_eq_true rfl)) rfl rfl (Nat.le_of_ble_eq_true rfl) dX3_readNumber_97 (fun H locs hP hD hS => ?_)
            have h9R := zRe (ws' := [(rd, .inr (3, [.ref ri, .ref rl, .int rz, .int rc, .int i_8, .int rp, .int rt, .int ru])), (rl, .inl (cI, 160, .inl fl))]) hP hD rfl
            clear hP hD
            obtain ⟨hP, hD⟩ := h9R
            refine lv_iload hx hb dX3_readNumber_100 (lv_at hl 0 rfl) ?_
            exact W.iret (v := v_1) hx hb hr (fun t ht hW => ⟨⟨v_1, (i_8, rp), rfl, ⟨(show 0 ≤ i_8.toInt ∧ i_8.toInt ≤ 160 from ⟨by omega, by omega⟩), (show (-1) ≤ rp.toInt ∧ rp.toInt ≤ 160 from ⟨by omega, hy5⟩), (show i_8.toInt ≤ rz.toInt from by omega), (show i_8.toInt = zNe fl rz.toInt rp.toInt from by first | exact (zNe_eq (by omega) (by omega) hvi_8_2 (Or.inr (fun z => by (have z1 := z.1; omega)))).symm | exact (zNe_eq (by omega) (by omega) hvi_8_2 (Or.inl (by omega))).symm), (show (v_1 : Int32).toInt = zNv fl rp.toInt i_8.toInt from by assumption), (show ((rp.toInt = rp.toInt ∧ (i_8.toInt = rp.toInt ∨ (v_1 : Int32).toInt < lo.toInt ∨ hi.toInt < (v_1 : Int32).toInt)) ∨ (rp.toInt = rf.toInt ∧ i_8.toInt ≠ rp.toInt ∧ lo.toInt ≤ (v_1 : Int32).toInt ∧ (v_1 : Int32).toInt ≤ hi.toInt)) from by omega), ⟨by omega, by omega⟩⟩, zRet ht hP hD [0, 1] (by decide) rfl⟩, hS.F ht⟩) hS.2.2 dX3_readNumber_102
        · refine lv_if_ne (tgt := 100) hx hb dX3_readNumber_92 (by decide) (fun c_12 => ?_) (fun c_12 => ?_)
          · refine lv_iload hx hb dX3_readNumber_100 (lv_at hl 0 rfl) ?_
            exact W.iret (v := v_1) hx hb hr (fun t ht hW => ⟨⟨v_1, (i_8, rf), rfl, ⟨(show 0 ≤ i_8.toInt ∧ i_8.toInt ≤ 160 from ⟨by omega, by omega⟩), (show (-1) ≤ rf.toInt ∧ rf.toInt ≤ 160 from ⟨hy7, hy8⟩), (show i_8.toInt ≤ rz.toInt from by omega), (show i_8.toInt = zNe fl rz.toInt rp.toInt from by first | exact (zNe_eq (by omega) (by omega) hvi_8_2 (Or.inr (fun z => by (have z1 := z.1; omega)))).symm | exact (zNe_eq (by omega) (by omega) hvi_8_2 (Or.inl (by omega))).symm), (show (v_1 : Int32).toInt = zNv fl rp.toInt i_8.toInt from by assumption), (show ((rf.toInt = rp.toInt ∧ (i_8.toInt = rp.toInt ∨ (v_1 : Int32).toInt < lo.toInt ∨ hi.toInt < (v_1 : Int32).toInt)) ∨ (rf.toInt = rf.toInt ∧ i_8.toInt ≠ rp.toInt ∧ lo.toInt ≤ (v_1 : Int32).toInt ∧ (v_1 : Int32).toInt ≤ hi.toInt)) from by omega), ⟨by omega, by omega⟩⟩, zRet ht hP hD [0, 1] (by decide) rfl⟩, hS.F ht⟩) hS.2.2 dX3_readNumber_102
          · exact absurd c_12 (by decide)
    · exfalso; have fc_2 : i_8.toInt < rz.toInt := zf_nle c_2 rfl rfl; omega
  | succ nfu ih =>
    intro i_8 v_1 H locs ls hP hD hS hl hbv_1 hvi_8_0 hvi_8_1 hvi_8_2 hvi_8_3 hvi_8_4 hloi_8 hni_8
    refine lv_aload_n hx hb dX3_readNumber_8 rfl (lv_at hl 2 rfl) ?_
    refine va_get (D := D) (ci := 3) (v := .int i_8) (C := RX3) (T := TX3) (N := 8) hx hb hts hi_X3_readNumber_3 hown hK hP 0 rfl rfl 4 (by decide) (hts (.fieldLink RX3 25 "TheLiningsInIt$Reader" "place" "I") (List.mem_of_getElem? (i := 1) rfl)) (fun _ h9 => h9) rfl dX3_readNumber_9 ?_
    refine lv_aload_n hx hb dX3_readNumber_12 rfl (lv_at hl 2 rfl) ?_
    refine va_get (D := D) (ci := 3) (v := .int rz) (C := RX3) (T := TX3) (N := 8) hx hb hts hi_X3_readNumber_3 hown hK hP 0 rfl rfl 2 (by decide) (hts (.fieldLink RX3 18 "TheLiningsInIt$Reader" "size" "I") (List.mem_of_getElem? (i := 2) rfl)) (fun _ h9 => h9) rfl dX3_readNumber_13 ?_
    refine lv_icmp_ge (tgt := 77) hx hb dX3_readNumber_16 (by decide) (fun c_13 => ?_) (fun c_13 => ?_)
    · have fc_13 : rz.toInt ≤ i_8.toInt := zf_le c_13 rfl rfl
      refine lv_aload_n hx hb dX3_readNumber_77 rfl (lv_at hl 2 rfl) ?_
      refine va_get (D := D) (ci := 3) (v := .int i_8) (C := RX3) (T := TX3) (N := 8) hx hb hts hi_X3_readNumber_3 hown hK hP 0 rfl rfl 4 (by decide) (hts (.fieldLink RX3 25 "TheLiningsInIt$Reader" "place" "I") (List.mem_of_getElem? (i := 1) rfl)) (fun _ h9 => h9) rfl dX3_readNumber_78 ?_
      refine lv_iload_n hx hb dX3_readNumber_81 rfl (lv_at hl 1 rfl) ?_
      refine lv_icmp_eq (tgt := 95) hx hb dX3_readNumber_82 (by decide) (fun c_14 => ?_) (fun c_14 => ?_)
      · have fc_14 : i_8.toInt = rp.toInt := zf_eq c_14 rfl rfl
        refine lv_aload_n hx hb dX3_readNumber_95 rfl (lv_at hl 2 rfl) ?_
        refine lv_iload_n hx hb dX3_readNumber_96 rfl (lv_at hl 1 rfl) ?_
        refine va_put (D := D) (ci := 3) (v := .int rp) (ty := .int) (C := RX3) (T := TX3) (N := 8) hx hb hts hi_X3_readNumber_3 tyX3 tyX3_ok nmX3 hown hK hP hD hS 0 rfl rfl 5 (by decide) (hts (.fieldLink RX3 28 "TheLiningsInIt$Reader" "fault" "I") (List.mem_of_getElem? (i := 4) rfl)) (fun _ h9 => h9) rfl (tyX3_ok 5 (Nat.le_of_ble_eq_true rfl)) rfl rfl (Nat.le_of_ble_eq_true rfl) dX3_readNumber_97 (fun H locs hP hD hS => ?_)
        have h9R := zRe (ws' := [(rd, .inr (3, [.ref ri, .ref rl, .int rz, .int rc, .int i_8, .int rp, .int rt, .int ru])), (rl, .inl (cI, 160, .inl fl))]) hP hD rfl
        clear hP hD
        obtain ⟨hP, hD⟩ := h9R
        refine lv_iload hx hb dX3_readNumber_100 (lv_at hl 0 rfl) ?_
        exact W.iret (v := v_1) hx hb hr (fun t ht hW => ⟨⟨v_1, (i_8, rp), rfl, ⟨(show 0 ≤ i_8.toInt ∧ i_8.toInt ≤ 160 from ⟨by omega, by omega⟩), (show (-1) ≤ rp.toInt ∧ rp.toInt ≤ 160 from ⟨by omega, hy5⟩), (show i_8.toInt ≤ rz.toInt from by omega), (show i_8.toInt = zNe fl rz.toInt rp.toInt from by first | exact (zNe_eq (by omega) (by omega) hvi_8_2 (Or.inr (fun z => by (have z1 := z.1; omega)))).symm | exact (zNe_eq (by omega) (by omega) hvi_8_2 (Or.inl (by omega))).symm), (show (v_1 : Int32).toInt = zNv fl rp.toInt i_8.toInt from by assumption), (show ((rp.toInt = rp.toInt ∧ (i_8.toInt = rp.toInt ∨ (v_1 : Int32).toInt < lo.toInt ∨ hi.toInt < (v_1 : Int32).toInt)) ∨ (rp.toInt = rf.toInt ∧ i_8.toInt ≠ rp.toInt ∧ lo.toInt ≤ (v_1 : Int32).toInt ∧ (v_1 : Int32).toInt ≤ hi.toInt)) from by omega), ⟨by omega, by omega⟩⟩, zRet ht hP hD [0, 1] (by decide) rfl⟩, hS.F ht⟩) hS.2.2 dX3_readNumber_102
      · have fc_14 : i_8.toInt ≠ rp.toInt := zf_ne c_14 rfl rfl
        refine lv_iload hx hb dX3_readNumber_85 (lv_at hl 0 rfl) ?_
        refine lv_iload_n hx hb dX3_readNumber_87 rfl (lv_at hl 3 rfl) ?_
        refine lv_iload_n hx hb dX3_readNumber_88 rfl (lv_at hl 4 rfl) ?_
        refine zc_SN (As := [.int v_1, .int lo, .int hi]) (rest := []) ⟨hx, hb, hml, hown, hts⟩ (c_within l D cI cJ cZ cP cS po (v_1) (lo) (hi) ) ⟨(va_cnB 3 hts gX3_readNumber_X7_within_n109 rfl rfl rfl (hN.1 (RX3, 109, yX7_within) (List.mem_of_getElem? (i := 8) rfl)) (hts _ (List.mem_of_getElem? (i := 10) rfl)) dh_X7_within ⟨Nat.le_of_ble_eq_true rfl, Nat.le_of_ble_eq_true rfl⟩), (hts _ (List.mem_of_getElem? (i := 9) rfl)), trivial⟩ hK hN (hZ.kept hS) rfl hl.1 rfl (Nat.le_of_ble_eq_true rfl) dX3_readNumber_89 ⟨Nat.le_of_ble_eq_true rfl, Nat.le_of_ble_eq_true rfl⟩ (fun r_15 hr_15 => ?_)
        rcases hr_15 with ⟨rfl, g_16⟩ | ⟨rfl, g_17, g_18⟩ | ⟨rfl, g_19, g_20⟩
        · refine lv_if_ne (tgt := 100) hx hb dX3_readNumber_92 (by decide) (fun c_21 => ?_) (fun c_21 => ?_)
          · exact absurd c_21 (by decide)
          · refine lv_aload_n hx hb dX3_readNumber_95 rfl (lv_at hl 2 rfl) ?_
            refine lv_iload_n hx hb dX3_readNumber_96 rfl (lv_at hl 1 rfl) ?_
            refine va_put (D := D) (ci := 3) (v := .int rp) (ty := .int) (C := RX3) (T := TX3) (N := 8) hx hb hts hi_X3_readNumber_3 tyX3 tyX3_ok nmX3 hown hK hP hD hS 0 rfl rfl 5 (by decide) (hts (.fieldLink RX3 28 "TheLiningsInIt$Reader" "fault" "I") (List.mem_of_getElem? (i := 4) rfl)) (fun _ h9 => h9) rfl (tyX3_ok 5 (Nat.le_of_ble_eq_true rfl)) rfl rfl (Nat.le_of_ble_eq_true rfl) dX3_readNumber_97 (fun H locs hP hD hS => ?_)
            have h9R := zRe (ws' := [(rd, .inr (3, [.ref ri, .ref rl, .int rz, .int rc, .int i_8, .int rp, .int rt, .int ru])), (rl, .inl (cI, 160, .inl fl))]) hP hD rfl
            clear hP hD
            obtain ⟨hP, hD⟩ := h9R
            refine lv_iload hx hb dX3_readNumber_100 (lv_at hl 0 rfl) ?_
            exact W.iret (v := v_1) hx hb hr (fun t ht hW => ⟨⟨v_1, (i_8, rp), rfl, ⟨(show 0 ≤ i_8.toInt ∧ i_8.toInt ≤ 160 from ⟨by omega, by omega⟩), (show (-1) ≤ rp.toInt ∧ rp.toInt ≤ 160 from ⟨by omega, hy5⟩), (show i_8.toInt ≤ rz.toInt from by omega), (show i_8.toInt = zNe fl rz.toInt rp.toInt from by first | exact (zNe_eq (by omega) (by omega) hvi_8_2 (Or.inr (fun z => by (have z1 := z.1; omega)))).symm | exact (zNe_eq (by omega) (by omega) hvi_8_2 (Or.inl (by omega))).symm), (show (v_1 : Int32).toInt = zNv fl rp.toInt i_8.toInt from by assumption), (show ((rp.toInt = rp.toInt ∧ (i_8.toInt = rp.toInt ∨ (v_1 : Int32).toInt < lo.toInt ∨ hi.toInt < (v_1 : Int32).toInt)) ∨ (rp.toInt = rf.toInt ∧ i_8.toInt ≠ rp.toInt ∧ lo.toInt ≤ (v_1 : Int32).toInt ∧ (v_1 : Int32).toInt ≤ hi.toInt)) from by omega), ⟨by omega, by omega⟩⟩, zRet ht hP hD [0, 1] (by decide) rfl⟩, hS.F ht⟩) hS.2.2 dX3_readNumber_102
        · refine lv_if_ne (tgt := 100) hx hb dX3_readNumber_92 (by decide) (fun c_22 => ?_) (fun c_22 => ?_)
          · exact absurd c_22 (by decide)
          · refine lv_aload_n hx hb dX3_readNumber_95 rfl (lv_at hl 2 rfl) ?_
            refine lv_iload_n hx hb dX3_readNumber_96 rfl (lv_at hl 1 rfl) ?_
            refine va_put (D := D) (ci := 3) (v := .int rp) (ty := .int) (C := RX3) (T := TX3) (N := 8) hx hb hts hi_X3_readNumber_3 tyX3 tyX3_ok nmX3 hown hK hP hD hS 0 rfl rfl 5 (by decide) (hts (.fieldLink RX3 28 "TheLiningsInIt$Reader" "fault" "I") (List.mem_of_getElem? (i := 4) rfl)) (fun _ h9 => h9) rfl (tyX3_ok 5 (Nat.le_of_ble_eq_true rfl)) rfl rfl (Nat.le_of_ble_eq_true rfl) dX3_readNumber_97 (fun H locs hP hD hS => ?_)
            have h9R := zRe (ws' := [(rd, .inr (3, [.ref ri, .ref rl, .int rz, .int rc, .int i_8, .int rp, .int rt, .int ru])), (rl, .inl (cI, 160, .inl fl))]) hP hD rfl
            clear hP hD
            obtain ⟨hP, hD⟩ := h9R
            refine lv_iload hx hb dX3_readNumber_100 (lv_at hl 0 rfl) ?_
            exact W.iret (v := v_1) hx hb hr (fun t ht hW => ⟨⟨v_1, (i_8, rp), rfl, ⟨(show 0 ≤ i_8.toInt ∧ i_8.toInt ≤ 160 from ⟨by omega, by omega⟩), (show (-1) ≤ rp.toInt ∧ rp.toInt ≤ 160 from ⟨by omega, hy5⟩), (show i_8.toInt ≤ rz.toInt from by omega), (show i_8.toInt = zNe fl rz.toInt rp.toInt from by first | exact (zNe_eq (by omega) (by omega) hvi_8_2 (Or.inr (fun z => by (have z1 := z.1; omega)))).symm | exact (zNe_eq (by omega) (by omega) hvi_8_2 (Or.inl (by omega))).symm), (show (v_1 : Int32).toInt = zNv fl rp.toInt i_8.toInt from by assumption), (show ((rp.toInt = rp.toInt ∧ (i_8.toInt = rp.toInt ∨ (v_1 : Int32).toInt < lo.toInt ∨ hi.toInt < (v_1 : Int32).toInt)) ∨ (rp.toInt = rf.toInt ∧ i_8.toInt ≠ rp.toInt ∧ lo.toInt ≤ (v_1 : Int32).toInt ∧ (v_1 : Int32).toInt ≤ hi.toInt)) from by omega), ⟨by omega, by omega⟩⟩, zRet ht hP hD [0, 1] (by decide) rfl⟩, hS.F ht⟩) hS.2.2 dX3_readNumber_102
        · refine lv_if_ne (tgt := 100) hx hb dX3_readNumber_92 (by decide) (fun c_23 => ?_) (fun c_23 => ?_)
          · refine lv_iload hx hb dX3_readNumber_100 (lv_at hl 0 rfl) ?_
            exact W.iret (v := v_1) hx hb hr (fun t ht hW => ⟨⟨v_1, (i_8, rf), rfl, ⟨(show 0 ≤ i_8.toInt ∧ i_8.toInt ≤ 160 from ⟨by omega, by omega⟩), (show (-1) ≤ rf.toInt ∧ rf.toInt ≤ 160 from ⟨hy7, hy8⟩), (show i_8.toInt ≤ rz.toInt from by omega), (show i_8.toInt = zNe fl rz.toInt rp.toInt from by first | exact (zNe_eq (by omega) (by omega) hvi_8_2 (Or.inr (fun z => by (have z1 := z.1; omega)))).symm | exact (zNe_eq (by omega) (by omega) hvi_8_2 (Or.inl (by omega))).symm), (show (v_1 : Int32).toInt = zNv fl rp.toInt i_8.toInt from by assumption), (show ((rf.toInt = rp.toInt ∧ (i_8.toInt = rp.toInt ∨ (v_1 : Int32).toInt < lo.toInt ∨ hi.toInt < (v_1 : Int32).toInt)) ∨ (rf.toInt = rf.toInt ∧ i_8.toInt ≠ rp.toInt ∧ lo.toInt ≤ (v_1 : Int32).toInt ∧ (v_1 : Int32).toInt ≤ hi.toInt)) from by omega), ⟨by omega, by omega⟩⟩, zRet ht hP hD [0, 1] (by decide) rfl⟩, hS.F ht⟩) hS.2.2 dX3_readNumber_102
          · exact absurd c_23 (by decide)
    · have fc_13 : i_8.toInt < rz.toInt := zf_nle c_13 rfl rfl
      refine lv_aload_n hx hb dX3_readNumber_19 rfl (lv_at hl 2 rfl) ?_
      refine va_get (D := D) (ci := 3) (v := .int i_8) (C := RX3) (T := TX3) (N := 8) hx hb hts hi_X3_readNumber_3 hown hK hP 0 rfl rfl 4 (by decide) (hts (.fieldLink RX3 25 "TheLiningsInIt$Reader" "place" "I") (List.mem_of_getElem? (i := 1) rfl)) (fun _ h9 => h9) rfl dX3_readNumber_20 ?_
      refine lv_iload_n hx hb dX3_readNumber_23 rfl (lv_at hl 1 rfl) ?_
      refine lv_iconst (v := 3) hx hb dX3_readNumber_24 (by decide) ?_
      refine lv_iadd hx hb dX3_readNumber_25 ?_
      refine lv_topi (fun x_24 ex_24 => ?_)
      have qx_24 : x_24.toInt = rp.toInt + 3 := by rw [ex_24]; exact zf_add rfl (by decide) (by omega) (by omega)
      refine lv_icmp_ge (tgt := 77) hx hb dX3_readNumber_26 (by decide) (fun c_25 => ?_) (fun c_25 => ?_)
      · have fc_25 : x_24.toInt ≤ i_8.toInt := zf_le c_25 rfl rfl
        refine lv_aload_n hx hb dX3_readNumber_77 rfl (lv_at hl 2 rfl) ?_
        refine va_get (D := D) (ci := 3) (v := .int i_8) (C := RX3) (T := TX3) (N := 8) hx hb hts hi_X3_readNumber_3 hown hK hP 0 rfl rfl 4 (by decide) (hts (.fieldLink RX3 25 "TheLiningsInIt$Reader" "place" "I") (List.mem_of_getElem? (i := 1) rfl)) (fun _ h9 => h9) rfl dX3_readNumber_78 ?_
        refine lv_iload_n hx hb dX3_readNumber_81 rfl (lv_at hl 1 rfl) ?_
        refine lv_icmp_eq (tgt := 95) hx hb dX3_readNumber_82 (by decide) (fun c_26 => ?_) (fun c_26 => ?_)
        · have fc_26 : i_8.toInt = rp.toInt := zf_eq c_26 rfl rfl
          refine lv_aload_n hx hb dX3_readNumber_95 rfl (lv_at hl 2 rfl) ?_
          refine lv_iload_n hx hb dX3_readNumber_96 rfl (lv_at hl 1 rfl) ?_
          refine va_put (D := D) (ci := 3) (v := .int rp) (ty := .int) (C := RX3) (T := TX3) (N := 8) hx hb hts hi_X3_readNumber_3 tyX3 tyX3_ok nmX3 hown hK hP hD hS 0 rfl rfl 5 (by decide) (hts (.fieldLink RX3 28 "TheLiningsInIt$Reader" "fault" "I") (List.mem_of_getElem? (i := 4) rfl)) (fun _ h9 => h9) rfl (tyX3_ok 5 (Nat.le_of_ble_eq_true rfl)) rfl rfl (Nat.le_of_ble_eq_true rfl) dX3_readNumber_97 (fun H locs hP hD hS => ?_)
          have h9R := zRe (ws' := [(rd, .inr (3, [.ref ri, .ref rl, .int rz, .int rc, .int i_8, .int rp, .int rt, .int ru])), (rl, .inl (cI, 160, .inl fl))]) hP hD rfl
          clear hP hD
          obtain ⟨hP, hD⟩ := h9R
          refine lv_iload hx hb dX3_readNumber_100 (lv_at hl 0 rfl) ?_
          exact W.iret (v := v_1) hx hb hr (fun t ht hW => ⟨⟨v_1, (i_8, rp), rfl, ⟨(show 0 ≤ i_8.toInt ∧ i_8.toInt ≤ 160 from ⟨by omega, by omega⟩), (show (-1) ≤ rp.toInt ∧ rp.toInt ≤ 160 from ⟨by omega, hy5⟩), (show i_8.toInt ≤ rz.toInt from by omega), (show i_8.toInt = zNe fl rz.toInt rp.toInt from by first | exact (zNe_eq (by omega) (by omega) hvi_8_2 (Or.inr (fun z => by (have z1 := z.1; omega)))).symm | exact (zNe_eq (by omega) (by omega) hvi_8_2 (Or.inl (by omega))).symm), (show (v_1 : Int32).toInt = zNv fl rp.toInt i_8.toInt from by assumption), (show ((rp.toInt = rp.toInt ∧ (i_8.toInt = rp.toInt ∨ (v_1 : Int32).toInt < lo.toInt ∨ hi.toInt < (v_1 : Int32).toInt)) ∨ (rp.toInt = rf.toInt ∧ i_8.toInt ≠ rp.toInt ∧ lo.toInt ≤ (v_1 : Int32).toInt ∧ (v_1 : Int32).toInt ≤ hi.toInt)) from by omega), ⟨by omega, by omega⟩⟩, zRet ht hP hD [0, 1] (by decide) rfl⟩, hS.F ht⟩) hS.2.2 dX3_readNumber_102
        · have fc_26 : i_8.toInt ≠ rp.toInt := zf_ne c_26 rfl rfl
          refine lv_iload hx hb dX3_readNumber_85 (lv_at hl 0 rfl) ?_
          refine lv_iload_n hx hb dX3_readNumber_87 rfl (lv_at hl 3 rfl) ?_
          refine lv_iload_n hx hb dX3_readNumber_88 rfl (lv_at hl 4 rfl) ?_
          refine zc_SN (As := [.int v_1, .int lo, .int hi]) (rest := []) ⟨hx, hb, hml, hown, hts⟩ (c_within l D cI cJ cZ cP cS po (v_1) (lo) (hi) ) ⟨(va_cnB 3 hts gX3_readNumber_X7_within_n109 rfl rfl rfl (hN.1 (RX3, 109, yX7_within) (List.mem_of_getElem? (i := 8) rfl)) (hts _ (List.mem_of_getElem? (i := 10) rfl)) dh_X7_within ⟨Nat.le_of_ble_eq_true rfl, Nat.le_of_ble_eq_true rfl⟩), (hts _ (List.mem_of_getElem? (i := 9) rfl)), trivial⟩ hK hN (hZ.kept hS) rfl hl.1 rfl (Nat.le_of_ble_eq_true rfl) dX3_readNumber_89 ⟨Nat.le_of_ble_eq_true rfl, Nat.le_of_ble_eq_true rfl⟩ (fun r_27 hr_27 => ?_)
          rcases hr_27 with ⟨rfl, g_28⟩ | ⟨rfl, g_29, g_30⟩ | ⟨rfl, g_31, g_32⟩
          · refine lv_if_ne (tgt := 100) hx hb dX3_readNumber_92 (by decide) (fun c_33 => ?_) (fun c_33 => ?_)
            · exact absurd c_33 (by decide)
            · refine lv_aload_n hx hb dX3_readNumber_95 rfl (lv_at hl 2 rfl) ?_
              refine lv_iload_n hx hb dX3_readNumber_96 rfl (lv_at hl 1 rfl) ?_
              refine va_put (D := D) (ci := 3) (v := .int rp) (ty := .int) (C := RX3) (T := TX3) (N := 8) hx hb hts hi_X3_readNumber_3 tyX3 tyX3_ok nmX3 hown hK hP hD hS 0 rfl rfl 5 (by decide) (hts (.fieldLink RX3 28 "TheLiningsInIt$Reader" "fault" "I") (List.mem_of_getElem? (i := 4) rfl)) (fun _ h9 => h9) rfl (tyX3_ok 5 (Nat.le_of_ble_eq_true rfl)) rfl rfl (Nat.le_of_ble_eq_true rfl) dX3_readNumber_97 (fun H locs hP hD hS => ?_)
              have h9R := zRe (ws' := [(rd, .inr (3, [.ref ri, .ref rl, .int rz, .int rc, .int i_8, .int rp, .int rt, .int ru])), (rl, .inl (cI, 160, .inl fl))]) hP hD rfl
              clear hP hD
              obtain ⟨hP, hD⟩ := h9R
              refine lv_iload hx hb dX3_readNumber_100 (lv_at hl 0 rfl) ?_
              exact W.iret (v := v_1) hx hb hr (fun t ht hW => ⟨⟨v_1, (i_8, rp), rfl, ⟨(show 0 ≤ i_8.toInt ∧ i_8.toInt ≤ 160 from ⟨by omega, by omega⟩), (show (-1) ≤ rp.toInt ∧ rp.toInt ≤ 160 from ⟨by omega, hy5⟩), (show i_8.toInt ≤ rz.toInt from by omega), (show i_8.toInt = zNe fl rz.toInt rp.toInt from by first | exact (zNe_eq (by omega) (by omega) hvi_8_2 (Or.inr (fun z => by (have z1 := z.1; omega)))).symm | exact (zNe_eq (by omega) (by omega) hvi_8_2 (Or.inl (by omega))).symm), (show (v_1 : Int32).toInt = zNv fl rp.toInt i_8.toInt from by assumption), (show ((rp.toInt = rp.toInt ∧ (i_8.toInt = rp.toInt ∨ (v_1 : Int32).toInt < lo.toInt ∨ hi.toInt < (v_1 : Int32).toInt)) ∨ (rp.toInt = rf.toInt ∧ i_8.toInt ≠ rp.toInt ∧ lo.toInt ≤ (v_1 : Int32).toInt ∧ (v_1 : Int32).toInt ≤ hi.toInt)) from by omega), ⟨by omega, by omega⟩⟩, zRet ht hP hD [0, 1] (by decide) rfl⟩, hS.F ht⟩) hS.2.2 dX3_readNumber_102
          · refine lv_if_ne (tgt := 100) hx hb dX3_readNumber_92 (by decide) (fun c_34 => ?_) (fun c_34 => ?_)
            · exact absurd c_34 (by decide)
            · refine lv_aload_n hx hb dX3_readNumber_95 rfl (lv_at hl 2 rfl) ?_
              refine lv_iload_n hx hb dX3_readNumber_96 rfl (lv_at hl 1 rfl) ?_
              refine va_put (D := D) (ci := 3) (v := .int rp) (ty := .int) (C := RX3) (T := TX3) (N := 8) hx hb hts hi_X3_readNumber_3 tyX3 tyX3_ok nmX3 hown hK hP hD hS 0 rfl rfl 5 (by decide) (hts (.fieldLink RX3 28 "TheLiningsInIt$Reader" "fault" "I") (List.mem_of_getElem? (i := 4) rfl)) (fun _ h9 => h9) rfl (tyX3_ok 5 (Nat.le_of_ble_eq_true rfl)) rfl rfl (Nat.le_of_ble_eq_true rfl) dX3_readNumber_97 (fun H locs hP hD hS => ?_)
              have h9R := zRe (ws' := [(rd, .inr (3, [.ref ri, .ref rl, .int rz, .int rc, .int i_8, .int rp, .int rt, .int ru])), (rl, .inl (cI, 160, .inl fl))]) hP hD rfl
              clear hP hD
              obtain ⟨hP, hD⟩ := h9R
              refine lv_iload hx hb dX3_readNumber_100 (lv_at hl 0 rfl) ?_
              exact W.iret (v := v_1) hx hb hr (fun t ht hW => ⟨⟨v_1, (i_8, rp), rfl, ⟨(show 0 ≤ i_8.toInt ∧ i_8.toInt ≤ 160 from ⟨by omega, by omega⟩), (show (-1) ≤ rp.toInt ∧ rp.toInt ≤ 160 from ⟨by omega, hy5⟩), (show i_8.toInt ≤ rz.toInt from by omega), (show i_8.toInt = zNe fl rz.toInt rp.toInt from by first | exact (zNe_eq (by omega) (by omega) hvi_8_2 (Or.inr (fun z => by (have z1 := z.1; omega)))).symm | exact (zNe_eq (by omega) (by omega) hvi_8_2 (Or.inl (by omega))).symm), (show (v_1 : Int32).toInt = zNv fl rp.toInt i_8.toInt from by assumption), (show ((rp.toInt = rp.toInt ∧ (i_8.toInt = rp.toInt ∨ (v_1 : Int32).toInt < lo.toInt ∨ hi.toInt < (v_1 : Int32).toInt)) ∨ (rp.toInt = rf.toInt ∧ i_8.toInt ≠ rp.toInt ∧ lo.toInt ≤ (v_1 : Int32).toInt ∧ (v_1 : Int32).toInt ≤ hi.toInt)) from by omega), ⟨by omega, by omega⟩⟩, zRet ht hP hD [0, 1] (by decide) rfl⟩, hS.F ht⟩) hS.2.2 dX3_readNumber_102
          · refine lv_if_ne (tgt := 100) hx hb dX3_readNumber_92 (by decide) (fun c_35 => ?_) (fun c_35 => ?_)
            · refine lv_iload hx hb dX3_readNumber_100 (lv_at hl 0 rfl) ?_
              exact W.iret (v := v_1) hx hb hr (fun t ht hW => ⟨⟨v_1, (i_8, rf), rfl, ⟨(show 0 ≤ i_8.toInt ∧ i_8.toInt ≤ 160 from ⟨by omega, by omega⟩), (show (-1) ≤ rf.toInt ∧ rf.toInt ≤ 160 from ⟨hy7, hy8⟩), (show i_8.toInt ≤ rz.toInt from by omega), (show i_8.toInt = zNe fl rz.toInt rp.toInt from by first | exact (zNe_eq (by omega) (by omega) hvi_8_2 (Or.inr (fun z => by (have z1 := z.1; omega)))).symm | exact (zNe_eq (by omega) (by omega) hvi_8_2 (Or.inl (by omega))).symm), (show (v_1 : Int32).toInt = zNv fl rp.toInt i_8.toInt from by assumption), (show ((rf.toInt = rp.toInt ∧ (i_8.toInt = rp.toInt ∨ (v_1 : Int32).toInt < lo.toInt ∨ hi.toInt < (v_1 : Int32).toInt)) ∨ (rf.toInt = rf.toInt ∧ i_8.toInt ≠ rp.toInt ∧ lo.toInt ≤ (v_1 : Int32).toInt ∧ (v_1 : Int32).toInt ≤ hi.toInt)) from by omega), ⟨by omega, by omega⟩⟩, zRet ht hP hD [0, 1] (by decide) rfl⟩, hS.F ht⟩) hS.2.2 dX3_readNumber_102
            · exact absurd c_35 (by decide)
      · have fc_25 : i_8.toInt < x_24.toInt := zf_nle c_25 rfl rfl
        refine lv_aload_n hx hb dX3_readNumber_29 rfl (lv_at hl 2 rfl) ?_
        refine va_get (D := D) (ci := 3) (v := .ref rl) (C := RX3) (T := TX3) (N := 8) hx hb hts hi_X3_readNumber_3 hown hK hP 0 rfl rfl 1 (by decide) (hts (.fieldLink RX3 15 "TheLiningsInIt$Reader" "letters" "[I") (List.mem_of_getElem? (i := 3) rfl)) (fun _ h9 => h9) rfl dX3_readNumber_30 ?_
        refine lv_aload_n hx hb dX3_readNumber_33 rfl (lv_at hl 2 rfl) ?_
        refine va_get (D := D) (ci := 3) (v := .int i_8) (C := RX3) (T := TX3) (N := 8) hx hb hts hi_X3_readNumber_3 hown hK hP 0 rfl rfl 4 (by decide) (hts (.fieldLink RX3 25 "TheLiningsInIt$Reader" "place" "I") (List.mem_of_getElem? (i := 1) rfl)) (fun _ h9 => h9) rfl dX3_readNumber_34 ?_
        refine va_iald hx hb hK hP 1 0 rfl rfl (zf_in (by omega) (by omega)) dX3_readNumber_37 ?_
        refine lv_topi (fun x_36 ex_36 => ?_)
        refine zc_S (As := [.int x_36]) (rest := []) ⟨hx, hb, hml, hown, hts⟩ (c_R_isDigit l D cI cJ cZ cP cS po (x_36) ) (va_cwS 1 hts gX3_readNumber_X3_isDigit rfl rfl rfl dh_X3_isDigit ⟨Nat.le_of_ble_eq_true rfl, Nat.le_of_ble_eq_true rfl⟩) hK hN (hZ.kept hS) rfl hl.1 rfl (Nat.le_of_ble_eq_true rfl) dX3_readNumber_38 ⟨Nat.le_of_ble_eq_true rfl, Nat.le_of_ble_eq_true rfl⟩ (fun r_37 hr_37 => ?_)
        rcases hr_37 with ⟨rfl, g_38⟩ | ⟨rfl, g_39, g_40⟩ | ⟨rfl, g_41, g_42⟩
        · refine lv_if_eq (tgt := 77) hx hb dX3_readNumber_41 (by decide) (fun c_43 => ?_) (fun c_43 => ?_)
          · refine lv_aload_n hx hb dX3_readNumber_77 rfl (lv_at hl 2 rfl) ?_
            refine va_get (D := D) (ci := 3) (v := .int i_8) (C := RX3) (T := TX3) (N := 8) hx hb hts hi_X3_readNumber_3 hown hK hP 0 rfl rfl 4 (by decide) (hts (.fieldLink RX3 25 "TheLiningsInIt$Reader" "place" "I") (List.mem_of_getElem? (i := 1) rfl)) (fun _ h9 => h9) rfl dX3_readNumber_78 ?_
            refine lv_iload_n hx hb dX3_readNumber_81 rfl (lv_at hl 1 rfl) ?_
            refine lv_icmp_eq (tgt := 95) hx hb dX3_readNumber_82 (by decide) (fun c_44 => ?_) (fun c_44 => ?_)
            · have fc_44 : i_8.toInt = rp.toInt := zf_eq c_44 rfl rfl
              refine lv_aload_n hx hb dX3_readNumber_95 rfl (lv_at hl 2 rfl) ?_
              refine lv_iload_n hx hb dX3_readNumber_96 rfl (lv_at hl 1 rfl) ?_
              refine va_put (D := D) (ci := 3) (v := .int rp) (ty := .int) (C := RX3) (T := TX3) (N := 8) hx hb hts hi_X3_readNumber_3 tyX3 tyX3_ok nmX3 hown hK hP hD hS 0 rfl rfl 5 (by decide) (hts (.fieldLink RX3 28 "TheLiningsInIt$Reader" "fault" "I") (List.mem_of_getElem? (i := 4) rfl)) (fun _ h9 => h9) rfl (tyX3_ok 5 (Nat.le_of_ble_eq_true rfl)) rfl rfl (Nat.le_of_ble_eq_true rfl) dX3_readNumber_97 (fun H locs hP hD hS => ?_)
              have h9R := zRe (ws' := [(rd, .inr (3, [.ref ri, .ref rl, .int rz, .int rc, .int i_8, .int rp, .int rt, .int ru])), (rl, .inl (cI, 160, .inl fl))]) hP hD rfl
              clear hP hD
              obtain ⟨hP, hD⟩ := h9R
              refine lv_iload hx hb dX3_readNumber_100 (lv_at hl 0 rfl) ?_
              exact W.iret (v := v_1) hx hb hr (fun t ht hW => ⟨⟨v_1, (i_8, rp), rfl, ⟨(show 0 ≤ i_8.toInt ∧ i_8.toInt ≤ 160 from ⟨by omega, by omega⟩), (show (-1) ≤ rp.toInt ∧ rp.toInt ≤ 160 from ⟨by omega, hy5⟩), (show i_8.toInt ≤ rz.toInt from by omega), (show i_8.toInt = zNe fl rz.toInt rp.toInt from by first | exact (zNe_eq (by omega) (by omega) hvi_8_2 (Or.inr (fun z => by (have z1 := z.1; omega)))).symm | exact (zNe_eq (by omega) (by omega) hvi_8_2 (Or.inl (by omega))).symm | exact (zNe_eq (by omega) (by omega) hvi_8_2 (Or.inr (fun z => by (have h8 : (fl i_8.toInt.toNat).toInt = x_36.toInt := (by rw [ex_36]; rfl); have z1 := z.2.1; have z2 := z.2.2; omega)))).symm), (show (v_1 : Int32).toInt = zNv fl rp.toInt i_8.toInt from by assumption), (show ((rp.toInt = rp.toInt ∧ (i_8.toInt = rp.toInt ∨ (v_1 : Int32).toInt < lo.toInt ∨ hi.toInt < (v_1 : Int32).toInt)) ∨ (rp.toInt = rf.toInt ∧ i_8.toInt ≠ rp.toInt ∧ lo.toInt ≤ (v_1 : Int32).toInt ∧ (v_1 : Int32).toInt ≤ hi.toInt)) from by omega), ⟨by omega, by omega⟩⟩, zRet ht hP hD [0, 1] (by decide) rfl⟩, hS.F ht⟩) hS.2.2 dX3_readNumber_102
            · have fc_44 : i_8.toInt ≠ rp.toInt := zf_ne c_44 rfl rfl
              refine lv_iload hx hb dX3_readNumber_85 (lv_at hl 0 rfl) ?_
              refine lv_iload_n hx hb dX3_readNumber_87 rfl (lv_at hl 3 rfl) ?_
              refine lv_iload_n hx hb dX3_readNumber_88 rfl (lv_at hl 4 rfl) ?_
              refine zc_SN (As := [.int v_1, .int lo, .int hi]) (rest := []) ⟨hx, hb, hml, hown, hts⟩ (c_within l D cI cJ cZ cP cS po (v_1) (lo) (hi) ) ⟨(va_cnB 3 hts gX3_readNumber_X7_within_n109 rfl rfl rfl (hN.1 (RX3, 109, yX7_within) (List.mem_of_getElem? (i := 8) rfl)) (hts _ (List.mem_of_getElem? (i := 10) rfl)) dh_X7_within ⟨Nat.le_of_ble_eq_true rfl, Nat.le_of_ble_eq_true rfl⟩), (hts _ (List.mem_of_getElem? (i := 9) rfl)), trivial⟩ hK hN (hZ.kept hS) rfl hl.1 rfl (Nat.le_of_ble_eq_true rfl) dX3_readNumber_89 ⟨Nat.le_of_ble_eq_true rfl, Nat.le_of_ble_eq_true rfl⟩ (fun r_45 hr_45 => ?_)
              rcases hr_45 with ⟨rfl, g_46⟩ | ⟨rfl, g_47, g_48⟩ | ⟨rfl, g_49, g_50⟩
              · refine lv_if_ne (tgt := 100) hx hb dX3_readNumber_92 (by decide) (fun c_51 => ?_) (fun c_51 => ?_)
                · exact absurd c_51 (by decide)
                · refine lv_aload_n hx hb dX3_readNumber_95 rfl (lv_at hl 2 rfl) ?_
                  refine lv_iload_n hx hb dX3_readNumber_96 rfl (lv_at hl 1 rfl) ?_
                  refine va_put (D := D) (ci := 3) (v := .int rp) (ty := .int) (C := RX3) (T := TX3) (N := 8) hx hb hts hi_X3_readNumber_3 tyX3 tyX3_ok nmX3 hown hK hP hD hS 0 rfl rfl 5 (by decide) (hts (.fieldLink RX3 28 "TheLiningsInIt$Reader" "fault" "I") (List.mem_of_getElem? (i := 4) rfl)) (fun _ h9 => h9) rfl (tyX3_ok 5 (Nat.le_of_ble_eq_true rfl)) rfl rfl (Nat.le_of_ble_eq_true rfl) dX3_readNumber_97 (fun H locs hP hD hS => ?_)
                  have h9R := zRe (ws' := [(rd, .inr (3, [.ref ri, .ref rl, .int rz, .int rc, .int i_8, .int rp, .int rt, .int ru])), (rl, .inl (cI, 160, .inl fl))]) hP hD rfl
                  clear hP hD
                  obtain ⟨hP, hD⟩ := h9R
                  refine lv_iload hx hb dX3_readNumber_100 (lv_at hl 0 rfl) ?_
                  exact W.iret (v := v_1) hx hb hr (fun t ht hW => ⟨⟨v_1, (i_8, rp), rfl, ⟨(show 0 ≤ i_8.toInt ∧ i_8.toInt ≤ 160 from ⟨by omega, by omega⟩), (show (-1) ≤ rp.toInt ∧ rp.toInt ≤ 160 from ⟨by omega, hy5⟩), (show i_8.toInt ≤ rz.toInt from by omega), (show i_8.toInt = zNe fl rz.toInt rp.toInt from by first | exact (zNe_eq (by omega) (by omega) hvi_8_2 (Or.inr (fun z => by (have z1 := z.1; omega)))).symm | exact (zNe_eq (by omega) (by omega) hvi_8_2 (Or.inl (by omega))).symm | exact (zNe_eq (by omega) (by omega) hvi_8_2 (Or.inr (fun z => by (have h8 : (fl i_8.toInt.toNat).toInt = x_36.toInt := (by rw [ex_36]; rfl); have z1 := z.2.1; have z2 := z.2.2; omega)))).symm), (show (v_1 : Int32).toInt = zNv fl rp.toInt i_8.toInt from by assumption), (show ((rp.toInt = rp.toInt ∧ (i_8.toInt = rp.toInt ∨ (v_1 : Int32).toInt < lo.toInt ∨ hi.toInt < (v_1 : Int32).toInt)) ∨ (rp.toInt = rf.toInt ∧ i_8.toInt ≠ rp.toInt ∧ lo.toInt ≤ (v_1 : Int32).toInt ∧ (v_1 : Int32).toInt ≤ hi.toInt)) from by omega), ⟨by omega, by omega⟩⟩, zRet ht hP hD [0, 1] (by decide) rfl⟩, hS.F ht⟩) hS.2.2 dX3_readNumber_102
              · refine lv_if_ne (tgt := 100) hx hb dX3_readNumber_92 (by decide) (fun c_52 => ?_) (fun c_52 => ?_)
                · exact absurd c_52 (by decide)
                · refine lv_aload_n hx hb dX3_readNumber_95 rfl (lv_at hl 2 rfl) ?_
                  refine lv_iload_n hx hb dX3_readNumber_96 rfl (lv_at hl 1 rfl) ?_
                  refine va_put (D := D) (ci := 3) (v := .int rp) (ty := .int) (C := RX3) (T := TX3) (N := 8) hx hb hts hi_X3_readNumber_3 tyX3 tyX3_ok nmX3 hown hK hP hD hS 0 rfl rfl 5 (by decide) (hts (.fieldLink RX3 28 "TheLiningsInIt$Reader" "fault" "I") (List.mem_of_getElem? (i := 4) rfl)) (fun _ h9 => h9) rfl (tyX3_ok 5 (Nat.le_of_ble_eq_true rfl)) rfl rfl (Nat.le_of_ble_eq_true rfl) dX3_readNumber_97 (fun H locs hP hD hS => ?_)
                  have h9R := zRe (ws' := [(rd, .inr (3, [.ref ri, .ref rl, .int rz, .int rc, .int i_8, .int rp, .int rt, .int ru])), (rl, .inl (cI, 160, .inl fl))]) hP hD rfl
                  clear hP hD
                  obtain ⟨hP, hD⟩ := h9R
                  refine lv_iload hx hb dX3_readNumber_100 (lv_at hl 0 rfl) ?_
                  exact W.iret (v := v_1) hx hb hr (fun t ht hW => ⟨⟨v_1, (i_8, rp), rfl, ⟨(show 0 ≤ i_8.toInt ∧ i_8.toInt ≤ 160 from ⟨by omega, by omega⟩), (show (-1) ≤ rp.toInt ∧ rp.toInt ≤ 160 from ⟨by omega, hy5⟩), (show i_8.toInt ≤ rz.toInt from by omega), (show i_8.toInt = zNe fl rz.toInt rp.toInt from by first | exact (zNe_eq (by omega) (by omega) hvi_8_2 (Or.inr (fun z => by (have z1 := z.1; omega)))).symm | exact (zNe_eq (by omega) (by omega) hvi_8_2 (Or.inl (by omega))).symm | exact (zNe_eq (by omega) (by omega) hvi_8_2 (Or.inr (fun z => by (have h8 : (fl i_8.toInt.toNat).toInt = x_36.toInt := (by rw [ex_36]; rfl); have z1 := z.2.1; have z2 := z.2.2; omega)))).symm), (show (v_1 : Int32).toInt = zNv fl rp.toInt i_8.toInt from by assumption), (show ((rp.toInt = rp.toInt ∧ (i_8.toInt = rp.toInt ∨ (v_1 : Int32).toInt < lo.toInt ∨ hi.toInt < (v_1 : Int32).toInt)) ∨ (rp.toInt = rf.toInt ∧ i_8.toInt ≠ rp.toInt ∧ lo.toInt ≤ (v_1 : Int32).toInt ∧ (v_1 : Int32).toInt ≤ hi.toInt)) from by omega), ⟨by omega, by omega⟩⟩, zRet ht hP hD [0, 1] (by decide) rfl⟩, hS.F ht⟩) hS.2.2 dX3_readNumber_102
              · refine lv_if_ne (tgt := 100) hx hb dX3_readNumber_92 (by decide) (fun c_53 => ?_) (fun c_53 => ?_)
                · refine lv_iload hx hb dX3_readNumber_100 (lv_at hl 0 rfl) ?_
                  exact W.iret (v := v_1) hx hb hr (fun t ht hW => ⟨⟨v_1, (i_8, rf), rfl, ⟨(show 0 ≤ i_8.toInt ∧ i_8.toInt ≤ 160 from ⟨by omega, by omega⟩), (show (-1) ≤ rf.toInt ∧ rf.toInt ≤ 160 from ⟨hy7, hy8⟩), (show i_8.toInt ≤ rz.toInt from by omega), (show i_8.toInt = zNe fl rz.toInt rp.toInt from by first | exact (zNe_eq (by omega) (by omega) hvi_8_2 (Or.inr (fun z => by (have z1 := z.1; omega)))).symm | exact (zNe_eq (by omega) (by omega) hvi_8_2 (Or.inl (by omega))).symm | exact (zNe_eq (by omega) (by omega) hvi_8_2 (Or.inr (fun z => by (have h8 : (fl i_8.toInt.toNat).toInt = x_36.toInt := (by rw [ex_36]; rfl); have z1 := z.2.1; have z2 := z.2.2; omega)))).symm), (show (v_1 : Int32).toInt = zNv fl rp.toInt i_8.toInt from by assumption), (show ((rf.toInt = rp.toInt ∧ (i_8.toInt = rp.toInt ∨ (v_1 : Int32).toInt < lo.toInt ∨ hi.toInt < (v_1 : Int32).toInt)) ∨ (rf.toInt = rf.toInt ∧ i_8.toInt ≠ rp.toInt ∧ lo.toInt ≤ (v_1 : Int32).toInt ∧ (v_1 : Int32).toInt ≤ hi.toInt)) from by omega), ⟨by omega, by omega⟩⟩, zRet ht hP hD [0, 1] (by decide) rfl⟩, hS.F ht⟩) hS.2.2 dX3_readNumber_102
                · exact absurd c_53 (by decide)
          · exact absurd c_43 (by decide)
        · refine lv_if_eq (tgt := 77) hx hb dX3_readNumber_41 (by decide) (fun c_54 => ?_) (fun c_54 => ?_)
          · refine lv_aload_n hx hb dX3_readNumber_77 rfl (lv_at hl 2 rfl) ?_
            refine va_get (D := D) (ci := 3) (v := .int i_8) (C := RX3) (T := TX3) (N := 8) hx hb hts hi_X3_readNumber_3 hown hK hP 0 rfl rfl 4 (by decide) (hts (.fieldLink RX3 25 "TheLiningsInIt$Reader" "place" "I") (List.mem_of_getElem? (i := 1) rfl)) (fun _ h9 => h9) rfl dX3_readNumber_78 ?_
            refine lv_iload_n hx hb dX3_readNumber_81 rfl (lv_at hl 1 rfl) ?_
            refine lv_icmp_eq (tgt := 95) hx hb dX3_readNumber_82 (by decide) (fun c_55 => ?_) (fun c_55 => ?_)
            · have fc_55 : i_8.toInt = rp.toInt := zf_eq c_55 rfl rfl
              refine lv_aload_n hx hb dX3_readNumber_95 rfl (lv_at hl 2 rfl) ?_
              refine lv_iload_n hx hb dX3_readNumber_96 rfl (lv_at hl 1 rfl) ?_
              refine va_put (D := D) (ci := 3) (v := .int rp) (ty := .int) (C := RX3) (T := TX3) (N := 8) hx hb hts hi_X3_readNumber_3 tyX3 tyX3_ok nmX3 hown hK hP hD hS 0 rfl rfl 5 (by decide) (hts (.fieldLink RX3 28 "TheLiningsInIt$Reader" "fault" "I") (List.mem_of_getElem? (i := 4) rfl)) (fun _ h9 => h9) rfl (tyX3_ok 5 (Nat.le_of_ble_eq_true rfl)) rfl rfl (Nat.le_of_ble_eq_true rfl) dX3_readNumber_97 (fun H locs hP hD hS => ?_)
              have h9R := zRe (ws' := [(rd, .inr (3, [.ref ri, .ref rl, .int rz, .int rc, .int i_8, .int rp, .int rt, .int ru])), (rl, .inl (cI, 160, .inl fl))]) hP hD rfl
              clear hP hD
              obtain ⟨hP, hD⟩ := h9R
              refine lv_iload hx hb dX3_readNumber_100 (lv_at hl 0 rfl) ?_
              exact W.iret (v := v_1) hx hb hr (fun t ht hW => ⟨⟨v_1, (i_8, rp), rfl, ⟨(show 0 ≤ i_8.toInt ∧ i_8.toInt ≤ 160 from ⟨by omega, by omega⟩), (show (-1) ≤ rp.toInt ∧ rp.toInt ≤ 160 from ⟨by omega, hy5⟩), (show i_8.toInt ≤ rz.toInt from by omega), (show i_8.toInt = zNe fl rz.toInt rp.toInt from by first | exact (zNe_eq (by omega) (by omega) hvi_8_2 (Or.inr (fun z => by (have z1 := z.1; omega)))).symm | exact (zNe_eq (by omega) (by omega) hvi_8_2 (Or.inl (by omega))).symm | exact (zNe_eq (by omega) (by omega) hvi_8_2 (Or.inr (fun z => by (have h8 : (fl i_8.toInt.toNat).toInt = x_36.toInt := (by rw [ex_36]; rfl); have z1 := z.2.1; have z2 := z.2.2; omega)))).symm), (show (v_1 : Int32).toInt = zNv fl rp.toInt i_8.toInt from by assumption), (show ((rp.toInt = rp.toInt ∧ (i_8.toInt = rp.toInt ∨ (v_1 : Int32).toInt < lo.toInt ∨ hi.toInt < (v_1 : Int32).toInt)) ∨ (rp.toInt = rf.toInt ∧ i_8.toInt ≠ rp.toInt ∧ lo.toInt ≤ (v_1 : Int32).toInt ∧ (v_1 : Int32).toInt ≤ hi.toInt)) from by omega), ⟨by omega, by omega⟩⟩, zRet ht hP hD [0, 1] (by decide) rfl⟩, hS.F ht⟩) hS.2.2 dX3_readNumber_102
            · have fc_55 : i_8.toInt ≠ rp.toInt := zf_ne c_55 rfl rfl
              refine lv_iload hx hb dX3_readNumber_85 (lv_at hl 0 rfl) ?_
              refine lv_iload_n hx hb dX3_readNumber_87 rfl (lv_at hl 3 rfl) ?_
              refine lv_iload_n hx hb dX3_readNumber_88 rfl (lv_at hl 4 rfl) ?_
              refine zc_SN (As := [.int v_1, .int lo, .int hi]) (rest := []) ⟨hx, hb, hml, hown, hts⟩ (c_within l D cI cJ cZ cP cS po (v_1) (lo) (hi) ) ⟨(va_cnB 3 hts gX3_readNumber_X7_within_n109 rfl rfl rfl (hN.1 (RX3, 109, yX7_within) (List.mem_of_getElem? (i := 8) rfl)) (hts _ (List.mem_of_getElem? (i := 10) rfl)) dh_X7_within ⟨Nat.le_of_ble_eq_true rfl, Nat.le_of_ble_eq_true rfl⟩), (hts _ (List.mem_of_getElem? (i := 9) rfl)), trivial⟩ hK hN (hZ.kept hS) rfl hl.1 rfl (Nat.le_of_ble_eq_true rfl) dX3_readNumber_89 ⟨Nat.le_of_ble_eq_true rfl, Nat.le_of_ble_eq_true rfl⟩ (fun r_56 hr_56 => ?_)
              rcases hr_56 with ⟨rfl, g_57⟩ | ⟨rfl, g_58, g_59⟩ | ⟨rfl, g_60, g_61⟩
              · refine lv_if_ne (tgt := 100) hx hb dX3_readNumber_92 (by decide) (fun c_62 => ?_) (fun c_62 => ?_)
                · exact absurd c_62 (by decide)
                · refine lv_aload_n hx hb dX3_readNumber_95 rfl (lv_at hl 2 rfl) ?_
                  refine lv_iload_n hx hb dX3_readNumber_96 rfl (lv_at hl 1 rfl) ?_
                  refine va_put (D := D) (ci := 3) (v := .int rp) (ty := .int) (C := RX3) (T := TX3) (N := 8) hx hb hts hi_X3_readNumber_3 tyX3 tyX3_ok nmX3 hown hK hP hD hS 0 rfl rfl 5 (by decide) (hts (.fieldLink RX3 28 "TheLiningsInIt$Reader" "fault" "I") (List.mem_of_getElem? (i := 4) rfl)) (fun _ h9 => h9) rfl (tyX3_ok 5 (Nat.le_of_ble_eq_true rfl)) rfl rfl (Nat.le_of_ble_eq_true rfl) dX3_readNumber_97 (fun H locs hP hD hS => ?_)
                  have h9R := zRe (ws' := [(rd, .inr (3, [.ref ri, .ref rl, .int rz, .int rc, .int i_8, .int rp, .int rt, .int ru])), (rl, .inl (cI, 160, .inl fl))]) hP hD rfl
                  clear hP hD
                  obtain ⟨hP, hD⟩ := h9R
                  refine lv_iload hx hb dX3_readNumber_100 (lv_at hl 0 rfl) ?_
                  exact W.iret (v := v_1) hx hb hr (fun t ht hW => ⟨⟨v_1, (i_8, rp), rfl, ⟨(show 0 ≤ i_8.toInt ∧ i_8.toInt ≤ 160 from ⟨by omega, by omega⟩), (show (-1) ≤ rp.toInt ∧ rp.toInt ≤ 160 from ⟨by omega, hy5⟩), (show i_8.toInt ≤ rz.toInt from by omega), (show i_8.toInt = zNe fl rz.toInt rp.toInt from by first | exact (zNe_eq (by omega) (by omega) hvi_8_2 (Or.inr (fun z => by (have z1 := z.1; omega)))).symm | exact (zNe_eq (by omega) (by omega) hvi_8_2 (Or.inl (by omega))).symm | exact (zNe_eq (by omega) (by omega) hvi_8_2 (Or.inr (fun z => by (have h8 : (fl i_8.toInt.toNat).toInt = x_36.toInt := (by rw [ex_36]; rfl); have z1 := z.2.1; have z2 := z.2.2; omega)))).symm), (show (v_1 : Int32).toInt = zNv fl rp.toInt i_8.toInt from by assumption), (show ((rp.toInt = rp.toInt ∧ (i_8.toInt = rp.toInt ∨ (v_1 : Int32).toInt < lo.toInt ∨ hi.toInt < (v_1 : Int32).toInt)) ∨ (rp.toInt = rf.toInt ∧ i_8.toInt ≠ rp.toInt ∧ lo.toInt ≤ (v_1 : Int32).toInt ∧ (v_1 : Int32).toInt ≤ hi.toInt)) from by omega), ⟨by omega, by omega⟩⟩, zRet ht hP hD [0, 1] (by decide) rfl⟩, hS.F ht⟩) hS.2.2 dX3_readNumber_102
              · refine lv_if_ne (tgt := 100) hx hb dX3_readNumber_92 (by decide) (fun c_63 => ?_) (fun c_63 => ?_)
                · exact absurd c_63 (by decide)
                · refine lv_aload_n hx hb dX3_readNumber_95 rfl (lv_at hl 2 rfl) ?_
                  refine lv_iload_n hx hb dX3_readNumber_96 rfl (lv_at hl 1 rfl) ?_
                  refine va_put (D := D) (ci := 3) (v := .int rp) (ty := .int) (C := RX3) (T := TX3) (N := 8) hx hb hts hi_X3_readNumber_3 tyX3 tyX3_ok nmX3 hown hK hP hD hS 0 rfl rfl 5 (by decide) (hts (.fieldLink RX3 28 "TheLiningsInIt$Reader" "fault" "I") (List.mem_of_getElem? (i := 4) rfl)) (fun _ h9 => h9) rfl (tyX3_ok 5 (Nat.le_of_ble_eq_true rfl)) rfl rfl (Nat.le_of_ble_eq_true rfl) dX3_readNumber_97 (fun H locs hP hD hS => ?_)
                  have h9R := zRe (ws' := [(rd, .inr (3, [.ref ri, .ref rl, .int rz, .int rc, .int i_8, .int rp, .int rt, .int ru])), (rl, .inl (cI, 160, .inl fl))]) hP hD rfl
                  clear hP hD
                  obtain ⟨hP, hD⟩ := h9R
                  refine lv_iload hx hb dX3_readNumber_100 (lv_at hl 0 rfl) ?_
                  exact W.iret (v := v_1) hx hb hr (fun t ht hW => ⟨⟨v_1, (i_8, rp), rfl, ⟨(show 0 ≤ i_8.toInt ∧ i_8.toInt ≤ 160 from ⟨by omega, by omega⟩), (show (-1) ≤ rp.toInt ∧ rp.toInt ≤ 160 from ⟨by omega, hy5⟩), (show i_8.toInt ≤ rz.toInt from by omega), (show i_8.toInt = zNe fl rz.toInt rp.toInt from by first | exact (zNe_eq (by omega) (by omega) hvi_8_2 (Or.inr (fun z => by (have z1 := z.1; omega)))).symm | exact (zNe_eq (by omega) (by omega) hvi_8_2 (Or.inl (by omega))).symm | exact (zNe_eq (by omega) (by omega) hvi_8_2 (Or.inr (fun z => by (have h8 : (fl i_8.toInt.toNat).toInt = x_36.toInt := (by rw [ex_36]; rfl); have z1 := z.2.1; have z2 := z.2.2; omega)))).symm), (show (v_1 : Int32).toInt = zNv fl rp.toInt i_8.toInt from by assumption), (show ((rp.toInt = rp.toInt ∧ (i_8.toInt = rp.toInt ∨ (v_1 : Int32).toInt < lo.toInt ∨ hi.toInt < (v_1 : Int32).toInt)) ∨ (rp.toInt = rf.toInt ∧ i_8.toInt ≠ rp.toInt ∧ lo.toInt ≤ (v_1 : Int32).toInt ∧ (v_1 : Int32).toInt ≤ hi.toInt)) from by omega), ⟨by omega, by omega⟩⟩, zRet ht hP hD [0, 1] (by decide) rfl⟩, hS.F ht⟩) hS.2.2 dX3_readNumber_102
              · refine lv_if_ne (tgt := 100) hx hb dX3_readNumber_92 (by decide) (fun c_64 => ?_) (fun c_64 => ?_)
                · refine lv_iload hx hb dX3_readNumber_100 (lv_at hl 0 rfl) ?_
                  exact W.iret (v := v_1) hx hb hr (fun t ht hW => ⟨⟨v_1, (i_8, rf), rfl, ⟨(show 0 ≤ i_8.toInt ∧ i_8.toInt ≤ 160 from ⟨by omega, by omega⟩), (show (-1) ≤ rf.toInt ∧ rf.toInt ≤ 160 from ⟨hy7, hy8⟩), (show i_8.toInt ≤ rz.toInt from by omega), (show i_8.toInt = zNe fl rz.toInt rp.toInt from by first | exact (zNe_eq (by omega) (by omega) hvi_8_2 (Or.inr (fun z => by (have z1 := z.1; omega)))).symm | exact (zNe_eq (by omega) (by omega) hvi_8_2 (Or.inl (by omega))).symm | exact (zNe_eq (by omega) (by omega) hvi_8_2 (Or.inr (fun z => by (have h8 : (fl i_8.toInt.toNat).toInt = x_36.toInt := (by rw [ex_36]; rfl); have z1 := z.2.1; have z2 := z.2.2; omega)))).symm), (show (v_1 : Int32).toInt = zNv fl rp.toInt i_8.toInt from by assumption), (show ((rf.toInt = rp.toInt ∧ (i_8.toInt = rp.toInt ∨ (v_1 : Int32).toInt < lo.toInt ∨ hi.toInt < (v_1 : Int32).toInt)) ∨ (rf.toInt = rf.toInt ∧ i_8.toInt ≠ rp.toInt ∧ lo.toInt ≤ (v_1 : Int32).toInt ∧ (v_1 : Int32).toInt ≤ hi.toInt)) from by omega), ⟨by omega, by omega⟩⟩, zRet ht hP hD [0, 1] (by decide) rfl⟩, hS.F ht⟩) hS.2.2 dX3_readNumber_102
                · exact absurd c_64 (by decide)
          · exact absurd c_54 (by decide)
        · refine lv_if_eq (tgt := 77) hx hb dX3_readNumber_41 (by decide) (fun c_65 => ?_) (fun c_65 => ?_)
          · exact absurd c_65 (by decide)
          · refine lv_iload hx hb dX3_readNumber_44 (lv_at hl 0 rfl) ?_
            refine lv_bipush (v := 10) hx hb dX3_readNumber_46 (by decide) ?_
            refine lv_imul hx hb dX3_readNumber_48 ?_
            refine lv_topi (fun x_66 ex_66 => ?_)
            have qx_66 : x_66.toInt = v_1.toInt * 10 := by rw [ex_66]; exact zf_mul rfl (by decide) (by omega) (by omega)
            refine lv_aload_n hx hb dX3_readNumber_49 rfl (lv_at hl 2 rfl) ?_
            refine va_get (D := D) (ci := 3) (v := .ref rl) (C := RX3) (T := TX3) (N := 8) hx hb hts hi_X3_readNumber_3 hown hK hP 0 rfl rfl 1 (by decide) (hts (.fieldLink RX3 15 "TheLiningsInIt$Reader" "letters" "[I") (List.mem_of_getElem? (i := 3) rfl)) (fun _ h9 => h9) rfl dX3_readNumber_50 ?_
            refine lv_aload_n hx hb dX3_readNumber_53 rfl (lv_at hl 2 rfl) ?_
            refine va_get (D := D) (ci := 3) (v := .int i_8) (C := RX3) (T := TX3) (N := 8) hx hb hts hi_X3_readNumber_3 hown hK hP 0 rfl rfl 4 (by decide) (hts (.fieldLink RX3 25 "TheLiningsInIt$Reader" "place" "I") (List.mem_of_getElem? (i := 1) rfl)) (fun _ h9 => h9) rfl dX3_readNumber_54 ?_
            refine va_iald hx hb hK hP 1 0 rfl rfl (zf_in (by omega) (by omega)) dX3_readNumber_57 ?_
            refine lv_topi (fun y_67 ey_67 => ?_)
            obtain rfl : x_36 = y_67 := ex_36.trans ey_67.symm
            refine lv_iadd hx hb dX3_readNumber_58 ?_
            refine lv_topi (fun x_68 ex_68 => ?_)
            have qx_68 : x_68.toInt = x_66.toInt + x_36.toInt := by rw [ex_68]; exact zf_add rfl rfl (by omega) (by omega)
            refine lv_bipush (v := 48) hx hb dX3_readNumber_59 (by decide) ?_
            refine lv_isub hx hb dX3_readNumber_61 ?_
            refine lv_topi (fun x_69 ex_69 => ?_)
            have qx_69 : x_69.toInt = x_68.toInt - 48 := by rw [ex_69]; exact zf_sub rfl (by decide) (by omega) (by omega)
            refine lv_istore (lv' := [(4, .int x_69), (3, .int rp), (0, .ref rd), (1, .int lo), (2, .int hi)]) hx hb dX3_readNumber_62 hl (by decide) rfl (fun ls hl => ?_)
            refine lv_aload_n hx hb dX3_readNumber_64 rfl (lv_at hl 2 rfl) ?_
            refine lv_dup hx hb dX3_readNumber_65 rfl ?_
            refine va_get (D := D) (ci := 3) (v := .int i_8) (C := RX3) (T := TX3) (N := 8) hx hb hts hi_X3_readNumber_3 hown hK hP 0 rfl rfl 4 (by decide) (hts (.fieldLink RX3 25 "TheLiningsInIt$Reader" "place" "I") (List.mem_of_getElem? (i := 1) rfl)) (fun _ h9 => h9) rfl dX3_readNumber_66 ?_
            refine lv_iconst (v := 1) hx hb dX3_readNumber_69 (by decide) ?_
            refine lv_iadd hx hb dX3_readNumber_70 ?_
            refine lv_topi (fun x_70 ex_70 => ?_)
            have qx_70 : x_70.toInt = i_8.toInt + 1 := dw_inc ex_70 fc_25
            refine va_put (D := D) (ci := 3) (v := .int x_70) (ty := .int) (C := RX3) (T := TX3) (N := 8) hx hb hts hi_X3_readNumber_3 tyX3 tyX3_ok nmX3 hown hK hP hD hS 0 rfl rfl 4 (by decide) (hts (.fieldLink RX3 25 "TheLiningsInIt$Reader" "place" "I") (List.mem_of_getElem? (i := 1) rfl)) (fun _ h9 => h9) rfl (tyX3_ok 4 (Nat.le_of_ble_eq_true rfl)) rfl rfl (Nat.le_of_ble_eq_true rfl) dX3_readNumber_71 (fun H locs hP hD hS => ?_)
            have h9R := zRe (ws' := [(rd, .inr (3, [.ref ri, .ref rl, .int rz, .int rc, .int x_70, .int rf, .int rt, .int ru])), (rl, .inl (cI, 160, .inl fl))]) hP hD rfl
            clear hP hD
            obtain ⟨hP, hD⟩ := h9R
            refine lv_goto (tgt := 8) hx hb dX3_readNumber_74 (by decide) ?_
            exact ih x_70 x_69 _ _ _ (hP.sub [0, 1] rfl) (hD.sub [0, 1] (by decide) rfl) hS (lv_sub hl [0, 1, 2, 3, 4] rfl) ⟨by omega, by omega⟩ (show rp.toInt ≤ x_70.toInt ∧ x_70.toInt ≤ rz.toInt from by exact ⟨by omega, by omega⟩) (show x_70.toInt ≤ rp.toInt + 3 from by omega) (show (∀ j : Int, rp.toInt ≤ j → j < x_70.toInt → zDg fl rz.toInt j) from by (have h8 : (fl i_8.toInt.toNat).toInt = x_36.toInt := (by rw [ex_36]; rfl); exact zAll_S (P := fun j => zDg fl rz.toInt j) hvi_8_2 ⟨by omega, by omega, by omega⟩ (by omega))) (show (x_69 : Int32).toInt = zNv fl rp.toInt x_70.toInt from by (have h8 : (fl i_8.toInt.toNat).toInt = x_36.toInt := (by rw [ex_36]; rfl); have z := zNv_S (f := fl) (p := rp.toInt) (q := i_8.toInt) (by omega) (by omega); unfold zDv at z; rw [h8] at z; rw [show x_70.toInt = i_8.toInt + 1 from by omega, z]; omega)) (show (x_70.toInt = rp.toInt → (x_69 : Int32).toInt = 0) ∧ (x_70.toInt ≤ rp.toInt + 1 → (x_69 : Int32).toInt ≤ 9) ∧ (x_70.toInt ≤ rp.toInt + 2 → (x_69 : Int32).toInt ≤ 99) from by omega) (dw_lo hloi_8 qx_70) (dw_hn hni_8 qx_70)
end
section
set_option maxHeartbeats 4000000 in
set_option maxRecDepth 100000 in
theorem c_F_R_readItem (l : Launch) (D : va_G) (cI cJ cZ cP cS : ClassId) (po : zPool) (rd ri rl : Nat) (rz rc rp rf rt ru : Int32) (fl : Nat → Int32) (fi : Nat → Int32) (slot : Int32) (hy0 : 0 ≤ rz.toInt) (hy1 : rz.toInt ≤ 160) (hy2 : 0 ≤ rc.toInt) (hy3 : rc.toInt ≤ 40) (hy4 : 0 ≤ rp.toInt) (hy5 : rp.toInt ≤ 160) (hy6 : rp.toInt ≤ rz.toInt) (hy7 : (-1) ≤ rf.toInt) (hy8 : rf.toInt ≤ 160) (hy9 : 0 ≤ rt.toInt) (hy10 : rt.toInt ≤ 40) (hy11 : 0 ≤ ru.toInt) (hy12 : ru.toInt ≤ 8) (hy13 : 0 ≤ slot.toInt) (hy14 : slot.toInt ≤ 128) (hy15 : rf.toInt = (-1)) (hpz : Nat) : Met l yX3_readItem wsX3_readItem ({ frames := 6, cells := 0, slots := 0, locals := 131 }) (va_Pc [.ref rd, .int slot] (zW D (zKT cI cJ cZ cP cS) po [(rd, .inr (3, [.ref ri, .ref rl, .int rz, .int rc, .int rp, .int rf, .int rt, .int ru])), (rl, .inl (cI, 160, .inl fl)), (ri, .inl (cI, 132, .inl fi))] hpz)) (va_Qv (fun (u : (Int32) × (Int32) × (Int32) × (Int32) × (Nat → Int32)) => (0 ≤ u.1.toInt ∧ u.1.toInt ≤ 160) ∧ ((-1) ≤ u.2.1.toInt ∧ u.2.1.toInt ≤ 160) ∧ (0 ≤ u.2.2.1.toInt ∧ u.2.2.1.toInt ≤ 40) ∧ (0 ≤ u.2.2.2.1.toInt ∧ u.2.2.2.1.toInt ≤ 8) ∧ (u.1.toInt ≤ rz.toInt) ∧ ((u.2.1.toInt = -1 → zIt u.2.2.2.2 slot.toInt.toNat)) ∧ ((∀ j : Nat, j < slot.toInt.toNat → u.2.2.2.2 j = fi j)) ∧ ((u.2.1.toInt = (zItem fl rz.toInt rp.toInt rt.toInt ru.toInt).1 ∧ (u.2.1.toInt = -1 → u.1.toInt = (zItem fl rz.toInt rp.toInt rt.toInt ru.toInt).2.1 ∧ u.2.2.1.toInt = (zItem fl rz.toInt rp.toInt rt.toInt ru.toInt).2.2.1 ∧ u.2.2.2.1.toInt = (zItem fl rz.toInt rp.toInt rt.toInt ru.toInt).2.2.2))) ∧ ((u.2.1.toInt = -1 → ((u.2.2.2.2 slot.toInt.toNat).toInt = 0 → u.2.2.1.toInt = (u.2.2.2.2 (slot.toInt.toNat + 1)).toInt) ∧ ((u.2.2.2.2 slot.toInt.toNat).toInt ≠ 0 → u.2.2.1.toInt = rt.toInt) ∧ ((u.2.2.2.2 slot.toInt.toNat).toInt = 3 → u.2.2.2.1.toInt = ru.toInt + 1) ∧ ((u.2.2.2.2 slot.toInt.toNat).toInt ≠ 3 → u.2.2.2.1.toInt = ru.toInt))) ∧ (True)) (zB D [(rd, .inr (3, [.ref ri, .ref rl, .int rz, .int rc, .int rp, .int rf, .int rt, .int ru])), (rl, .inl (cI, 160, .inl fl)), (ri, .inl (cI, 132, .inl fi))] hpz (fun (u : (Int32) × (Int32) × (Int32) × (Int32) × (Nat → Int32)) => [(rd, .inr (3, [.ref ri, .ref rl, .int rz, .int rc, .int u.1, .int u.2.1, .int u.2.2.1, .int u.2.2.2.1])), (rl, .inl (cI, 160, .inl fl)), (ri, .inl (cI, 132, .inl u.2.2.2.2))])) (va_A [(rd, .inr (3, [.ref ri, .ref rl, .int rz, .int rc, .int rp, .int rf, .int rt, .int ru])), (rl, .inl (cI, 160, .inl fl)), (ri, .inl (cI, 132, .inl fi))] hpz)) 0 0 (va_A [(rd, .inr (3, [.ref ri, .ref rl, .int rz, .int rc, .int rp, .int rf, .int rt, .int ru])), (rl, .inl (cI, 160, .inl fl)), (ri, .inl (cI, 132, .inl fi))] hpz) := by
  refine Met.ofW (cc := cX3_readItem) (maxL := 4) (ret := none) (by decide) rfl ?_
  intro p e s m args below meth c s₁ B hml hv
  obtain ⟨rfl, hsz, hP, hK, hD0, hN, hZ⟩ := hv
  have hx := B.exec
  have hb := B.bytes
  have hr := B.returns
  have hts := atoms_spec (ws := wsX3_readItem) B.pre
  have hown : s.vm.findClass RX3 = some m.cls := findClass_of_methodNamed B.named
  have hlocks := B.notSynchronized
  subst hsz
  have hD := hD0.self (sz := s.heap.size)
  have hA := zA_of hD
  have hl := lv_entry ([.ref rd, .int slot]) (n := 4) (Nat.le_of_ble_eq_true rfl)
  rw [lg_entry_eq]
  generalize (lg_sl ([.ref rd, .int slot]) ++ List.replicate (4 - (lg_sl ([.ref rd, .int slot])).length) Slot.unset).toArray = ls at hl ⊢
  replace hl : lv_has ls 4 [(0, .ref rd), (1, .int slot)] := hl
  refine zw_begin hP hD (fun H locs hP1 hS => ?_)
  clear hP
  have hP := hP1
  clear hP1
  refine lv_aload_n hx hb dX3_readItem_0 rfl (lv_at hl 0 rfl) ?_
  skip
  refine zw_V (As := []) (rest := []) (wr := [(ri, .inl (cI, 132, .inl fi))]) ⟨hx, hb, hml, hown, hts⟩ (c_F_R_readWord l D cI cJ cZ cP cS po rd ri rl (rz) (rc) (rp) (rf) (rt) (ru) fl hy0 hy1 hy2 hy3 hy4 hy5 (by omega) hy7 hy8 hy9 hy10 hy11 hy12 H.size) (cwV 0 hts gX3_readItem_X3_readWord rfl rfl rfl ⟨rfl, dh_X3_readWord⟩ ⟨Nat.le_of_ble_eq_true rfl, Nat.le_of_ble_eq_true rfl⟩) hK hN (hZ.kept hS) hP hD hS hA [0, 1] [2] rfl rfl (by decide) (by decide) (by decide) (va_recv (q := (RX3, TX3, 8)) hK hP (ci := 3) (q0 := 0) rfl rfl) rfl hl.1 rfl (Nat.le_of_ble_eq_true rfl) dX3_readItem_1 ⟨Nat.le_of_ble_eq_true rfl, Nat.le_of_ble_eq_true rfl⟩ (fun r_1 u_2 H locs hr_1 hP hD hS => ?_)
  obtain ⟨q_3, q_4⟩ := u_2
  try dsimp only at hr_1
  obtain ⟨hbq_3, hbq_4, hsr_1_0, hsr_1_1, hr_1⟩ := hr_1
  have h9R := zRe (ws' := [(ri, .inl (cI, 132, .inl fi)), (rd, .inr (3, [.ref ri, .ref rl, .int rz, .int rc, .int q_3, .int q_4, .int rt, .int ru])), (rl, .inl (cI, 160, .inl fl))]) hP hD rfl
  clear hP hD
  obtain ⟨hP, hD⟩ := h9R
  obtain ⟨g_5, g_6⟩ := hr_1
  refine lv_istore_n (lv' := [(2, .int r_1), (0, .ref rd), (1, .int slot)]) hx hb dX3_readItem_4 rfl hl (by decide) rfl (fun ls hl => ?_)
  refine lv_iload_n hx hb dX3_readItem_5 rfl (lv_at hl 0 rfl) ?_
  refine lv_iconst (v := (-1)) hx hb dX3_readItem_6 (by decide) ?_
  refine lv_icmp_ne (tgt := 11) hx hb dX3_readItem_7 (by decide) (fun c_7 => ?_) (fun c_7 => ?_)
  · have fc_7 : r_1.toInt ≠ (-1) := zf_ne c_7 rfl (by decide)
    have hsp : r_1 = 0 ∨ r_1 = 1 ∨ r_1 = 2 ∨ r_1 = 3 ∨ r_1 = 4 ∨ r_1 = 5 ∨ r_1 = 6 ∨ r_1 = 7 ∨ r_1 = 8 ∨ r_1 = 9 := by
      rcases (show r_1.toInt = 0 ∨ r_1.toInt = 1 ∨ r_1.toInt = 2 ∨ r_1.toInt = 3 ∨ r_1.toInt = 4 ∨ r_1.toInt = 5 ∨ r_1.toInt = 6 ∨ r_1.toInt = 7 ∨ r_1.toInt = 8 ∨ r_1.toInt = 9 by omega) with h9 | h9 | h9 | h9 | h9 | h9 | h9 | h9 | h9 | h9
      · refine Or.inl ?_; exact zf_val h9 (by decide)
      · refine Or.inr (Or.inl ?_); exact zf_val h9 (by decide)
      · refine Or.inr (Or.inr (Or.inl ?_)); exact zf_val h9 (by decide)
      · refine Or.inr (Or.inr (Or.inr (Or.inl ?_))); exact zf_val h9 (by decide)
      · refine Or.inr (Or.inr (Or.inr (Or.inr (Or.inl ?_)))); exact zf_val h9 (by decide)
      · refine Or.inr (Or.inr (Or.inr (Or.inr (Or.inr (Or.inl ?_))))); exact zf_val h9 (by decide)
      · refine Or.inr (Or.inr (Or.inr (Or.inr (Or.inr (Or.inr (Or.inl ?_)))))); exact zf_val h9 (by decide)
      · refine Or.inr (Or.inr (Or.inr (Or.inr (Or.inr (Or.inr (Or.inr (Or.inl ?_))))))); exact zf_val h9 (by decide)
      · refine Or.inr (Or.inr (Or.inr (Or.inr (Or.inr (Or.inr (Or.inr (Or.inr (Or.inl ?_)))))))); exact zf_val h9 (by decide)
      · refine Or.inr (Or.inr (Or.inr (Or.inr (Or.inr (Or.inr (Or.inr (Or.inr (Or.inr (?_))))))))); exact zf_val h9 (by decide)
    rcases hsp with rfl | rfl | rfl | rfl | rfl | rfl | rfl | rfl | rfl | rfl
    · have kc0 : (0 : Int32).toInt = 0 := by decide
      refine lv_aload_n hx hb dX3_readItem_11 rfl (lv_at hl 1 rfl) ?_
      refine va_get (D := D) (ci := 3) (v := .ref ri) (C := RX3) (T := TX3) (N := 8) hx hb hts hi_X3_readItem_3 hown hK hP 1 rfl rfl 0 (by decide) (hts (.fieldLink RX3 11 "TheLiningsInIt$Reader" "items" "[I") (List.mem_of_getElem? (i := 1) rfl)) (fun _ h9 => h9) rfl dX3_readItem_12 ?_
      refine lv_iload_n hx hb dX3_readItem_15 rfl (lv_at hl 2 rfl) ?_
      refine lv_iload_n hx hb dX3_readItem_16 rfl (lv_at hl 0 rfl) ?_
      refine va_iast hx hb hK hP hD hS 0 0 rfl rfl (zf_in (by omega) (by omega)) dX3_readItem_17 (fun H locs hP hD hS => ?_)
      have h9R := zRe (ws' := [(ri, .inl (cI, 132, .inl (upd fi slot.toNatClampNeg 0))), (rd, .inr (3, [.ref ri, .ref rl, .int rz, .int rc, .int q_3, .int q_4, .int rt, .int ru])), (rl, .inl (cI, 160, .inl fl))]) hP hD rfl
      clear hP hD
      obtain ⟨hP, hD⟩ := h9R
      refine lv_iconst (v := 0) hx hb dX3_readItem_18 (by decide) ?_
      refine lv_istore_n (lv' := [(3, .int 0), (2, .int 0), (0, .ref rd), (1, .int slot)]) hx hb dX3_readItem_19 rfl hl (by decide) rfl (fun ls hl => ?_)
      refine lv_iload_n hx hb dX3_readItem_20 rfl (lv_at hl 0 rfl) ?_
      refine lv_iload_n hx hb dX3_readItem_21 rfl (lv_at hl 1 rfl) ?_
      refine zc_S (As := [.int 0]) (rest := [.int 0]) ⟨hx, hb, hml, hown, hts⟩ (c_R_numbersOf_0 l D cI cJ cZ cP cS po  ) (va_cwS 1 hts gX3_readItem_X3_numbersOf rfl rfl rfl dh_X3_numbersOf ⟨Nat.le_of_ble_eq_true rfl, Nat.le_of_ble_eq_true rfl⟩) hK hN (hZ.kept hS) rfl hl.1 rfl (Nat.le_of_ble_eq_true rfl) dX3_readItem_22 ⟨Nat.le_of_ble_eq_true rfl, Nat.le_of_ble_eq_true rfl⟩ (fun r_8 hr_8 => ?_)
      obtain rfl := hr_8
      refine lv_icmp_ge (tgt := 82) hx hb dX3_readItem_25 (by decide) (fun c_9 => ?_) (fun c_9 => ?_)
      · exact absurd c_9 (by decide)
      · refine lv_aload_n hx hb dX3_readItem_28 rfl (lv_at hl 2 rfl) ?_
        refine lv_bipush (v := 32) hx hb dX3_readItem_29 (by decide) ?_
        have kc32 : (32 : Int32).toInt = 32 := by decide
        skip
        refine zw_Vv (As := [.int 32]) (rest := []) (wr := [(ri, .inl (cI, 132, .inl (upd fi slot.toNatClampNeg 0)))]) ⟨hx, hb, hml, hown, hts⟩ (c_F_R_expect l D cI cJ cZ cP cS po rd ri rl (rz) (rc) (q_3) (q_4) (rt) (ru) fl (32) hy0 hy1 hy2 hy3 hbq_3.1 hbq_3.2 (by omega) hbq_4.1 hbq_4.2 hy9 hy10 hy11 hy12 H.size) (cwV 1 hts gX3_readItem_X3_expect rfl rfl rfl ⟨rfl, dh_X3_expect⟩ ⟨Nat.le_of_ble_eq_true rfl, Nat.le_of_ble_eq_true rfl⟩) hK hN (hZ.kept hS) hP hD hS hA [1, 2] [0] rfl rfl (by decide) (by decide) (by decide) (va_recv (q := (RX3, TX3, 8)) hK hP (ci := 3) (q0 := 1) rfl rfl) rfl hl.1 rfl (Nat.le_of_ble_eq_true rfl) dX3_readItem_31 ⟨Nat.le_of_ble_eq_true rfl, Nat.le_of_ble_eq_true rfl⟩ (fun u_11 H locs hr_10 hP hD hS => ?_)
        obtain ⟨q_12, q_13⟩ := u_11
        try dsimp only at hr_10
        obtain ⟨hbq_12, hbq_13, hsr_10_0, hsr_10_1, hr_10⟩ := hr_10
        have h9R := zRe (ws' := [(ri, .inl (cI, 132, .inl (upd fi slot.toNatClampNeg 0))), (rd, .inr (3, [.ref ri, .ref rl, .int rz, .int rc, .int q_12, .int q_13, .int rt, .int ru])), (rl, .inl (cI, 160, .inl fl))]) hP hD rfl
        clear hP hD
        obtain ⟨hP, hD⟩ := h9R
        refine lv_aload_n hx hb dX3_readItem_34 rfl (lv_at hl 2 rfl) ?_
        refine va_get (D := D) (ci := 3) (v := .int q_13) (C := RX3) (T := TX3) (N := 8) hx hb hts hi_X3_readItem_3 hown hK hP 1 rfl rfl 5 (by decide) (hts (.fieldLink RX3 28 "TheLiningsInIt$Reader" "fault" "I") (List.mem_of_getElem? (i := 2) rfl)) (fun _ h9 => h9) rfl dX3_readItem_35 ?_
        refine lv_iconst (v := (-1)) hx hb dX3_readItem_38 (by decide) ?_
        refine lv_icmp_ne (tgt := 67) hx hb dX3_readItem_39 (by decide) (fun c_14 => ?_) (fun c_14 => ?_)
        · have fc_14 : q_13.toInt ≠ (-1) := zf_ne c_14 rfl (by decide)
          have hn0 : zN1 fl rz.toInt (q_3 : Int32).toInt (zLo 0 0) (zHi 0 0 rt.toInt) = ((q_3 : Int32).toInt, (q_3 : Int32).toInt, 0) := zN1_no (by omega)
          refine lv_aload_n hx hb dX3_readItem_67 rfl (lv_at hl 2 rfl) ?_
          refine va_get (D := D) (ci := 3) (v := .int q_13) (C := RX3) (T := TX3) (N := 8) hx hb hts hi_X3_readItem_3 hown hK hP 1 rfl rfl 5 (by decide) (hts (.fieldLink RX3 28 "TheLiningsInIt$Reader" "fault" "I") (List.mem_of_getElem? (i := 2) rfl)) (fun _ h9 => h9) rfl dX3_readItem_68 ?_
          refine lv_iconst (v := (-1)) hx hb dX3_readItem_71 (by decide) ?_
          refine lv_icmp_eq (tgt := 76) hx hb dX3_readItem_72 (by decide) (fun c_15 => ?_) (fun c_15 => ?_)
          · exfalso; have fc_15 : q_13.toInt = (-1) := zf_eq c_15 rfl (by decide); omega
          · have fc_15 : q_13.toInt ≠ (-1) := zf_ne c_15 rfl (by decide)
            have e0 : slot.toNatClampNeg = slot.toInt.toNat + 0 := (by show (slot : Int32).toInt.toNat = _; omega)
            have hI := zIn_a hn0 (by first | (right; decide) | (left; omega))
            exact W.vret hx hb hr (fun t ht hW => ⟨⟨(q_12, q_13, rt, ru, (upd fi slot.toNatClampNeg 0)), rfl, ⟨(show 0 ≤ q_12.toInt ∧ q_12.toInt ≤ 160 from hbq_12), (show (-1) ≤ q_13.toInt ∧ q_13.toInt ≤ 160 from hbq_13), (show 0 ≤ rt.toInt ∧ rt.toInt ≤ 40 from ⟨hy9, hy10⟩), (show 0 ≤ ru.toInt ∧ ru.toInt ≤ 8 from ⟨hy11, hy12⟩), (show q_12.toInt ≤ rz.toInt from by omega), (show (q_13.toInt = -1 → zIt (upd fi slot.toNatClampNeg 0) slot.toInt.toNat) from by (intro h; exfalso; omega)), (show (∀ j : Nat, j < slot.toInt.toNat → (upd fi slot.toNatClampNeg 0) j = fi j) from by (intro j hj; simp only [upd]; rw [if_neg (by omega)])), (show (q_13.toInt = (zItem fl rz.toInt rp.toInt rt.toInt ru.toInt).1 ∧ (q_13.toInt = -1 → q_12.toInt = (zItem fl rz.toInt rp.toInt rt.toInt ru.toInt).2.1 ∧ rt.toInt = (zItem fl rz.toInt rp.toInt rt.toInt ru.toInt).2.2.1 ∧ ru.toInt = (zItem fl rz.toInt rp.toInt rt.toInt ru.toInt).2.2.2)) from by (have z9 := hsr_1_1; rw [kc0] at z9; have hq : zFst fl rz.toInt rp.toInt zWds 10 = 0 ∧ ¬ ((0 : Int) = 3 ∧ ru.toInt = 8) := (by omega); have hl9 : (q_3 : Int32).toInt = rp.toInt + ((zWds ((0 : Int)).toNat).length : Nat) := (by omega); rw [zItem_w hq.1 (by decide) hq.2 hl9 hI]; dsimp only; exact ⟨by (first | rfl | omega), fun h => ⟨by (first | rfl | omega), by (show _ = (if (0 : Int) = 0 then _ else _); first | (rw [if_pos rfl]; done) | (rw [if_pos rfl]; first | rfl | omega)), by (show _ = (if (0 : Int) = 3 then _ else _); rw [if_neg (by decide)])⟩⟩)), (show (q_13.toInt = -1 → (((upd fi slot.toNatClampNeg 0) slot.toInt.toNat).toInt = 0 → rt.toInt = ((upd fi slot.toNatClampNeg 0) (slot.toInt.toNat + 1)).toInt) ∧ (((upd fi slot.toNatClampNeg 0) slot.toInt.toNat).toInt ≠ 0 → rt.toInt = rt.toInt) ∧ (((upd fi slot.toNatClampNeg 0) slot.toInt.toNat).toInt = 3 → ru.toInt = ru.toInt + 1) ∧ (((upd fi slot.toNatClampNeg 0) slot.toInt.toNat).toInt ≠ 3 → ru.toInt = ru.toInt)) from by (intro h; exfalso; omega)), trivial⟩, zRet ht hP hD [1, 2, 0] (by decide) rfl⟩, hS.F ht⟩) hS.2.2 dX3_readItem_75
        · have fc_14 : q_13.toInt = (-1) := zf_eq c_14 rfl (by decide)
          refine lv_aload_n hx hb dX3_readItem_42 rfl (lv_at hl 2 rfl) ?_
          refine va_get (D := D) (ci := 3) (v := .ref ri) (C := RX3) (T := TX3) (N := 8) hx hb hts hi_X3_readItem_3 hown hK hP 1 rfl rfl 0 (by decide) (hts (.fieldLink RX3 11 "TheLiningsInIt$Reader" "items" "[I") (List.mem_of_getElem? (i := 1) rfl)) (fun _ h9 => h9) rfl dX3_readItem_43 ?_
          refine lv_iload_n hx hb dX3_readItem_46 rfl (lv_at hl 3 rfl) ?_
          refine lv_iconst (v := 1) hx hb dX3_readItem_47 (by decide) ?_
          refine lv_iadd hx hb dX3_readItem_48 ?_
          refine lv_topi (fun x_16 ex_16 => ?_)
          have qx_16 : x_16.toInt = slot.toInt + 1 := by rw [ex_16]; exact zf_add rfl (by decide) (by omega) (by omega)
          refine lv_iload_n hx hb dX3_readItem_49 rfl (lv_at hl 0 rfl) ?_
          refine lv_iadd hx hb dX3_readItem_50 ?_
          refine lv_topi (fun y_17 ey_17 => ?_)
          obtain rfl : x_16 = y_17 := (ey_17.trans (Int32.add_zero x_16)).symm
          refine lv_aload_n hx hb dX3_readItem_51 rfl (lv_at hl 2 rfl) ?_
          refine lv_iload_n hx hb dX3_readItem_52 rfl (lv_at hl 1 rfl) ?_
          refine lv_iload_n hx hb dX3_readItem_53 rfl (lv_at hl 0 rfl) ?_
          refine zc_S (As := [.int 0, .int 0]) (rest := [.ref rd, .int x_16, .ref ri]) ⟨hx, hb, hml, hown, hts⟩ (c_R_leastOf_0_0 l D cI cJ cZ cP cS po  ) (va_cwS 2 hts gX3_readItem_X3_leastOf rfl rfl rfl dh_X3_leastOf ⟨Nat.le_of_ble_eq_true rfl, Nat.le_of_ble_eq_true rfl⟩) hK hN (hZ.kept hS) rfl hl.1 rfl (Nat.le_of_ble_eq_true rfl) dX3_readItem_54 ⟨Nat.le_of_ble_eq_true rfl, Nat.le_of_ble_eq_true rfl⟩ (fun r_18 hr_18 => ?_)
          obtain rfl := hr_18
          refine lv_aload_n hx hb dX3_readItem_57 rfl (lv_at hl 2 rfl) ?_
          refine lv_iload_n hx hb dX3_readItem_58 rfl (lv_at hl 1 rfl) ?_
          refine lv_iload_n hx hb dX3_readItem_59 rfl (lv_at hl 0 rfl) ?_
          refine zc_V (As := [.int 0, .int 0]) (rest := [.int 4, .ref rd, .int x_16, .ref ri]) ⟨hx, hb, hml, hown, hts⟩ (c_R_mostOf_0_0 l D cI cJ cZ cP cS po rd ri rl (rz) (rc) (q_12) (q_13) (rt) (ru) hy0 hy1 hy2 hy3 hbq_12.1 hbq_12.2 (by omega) hbq_13.1 hbq_13.2 hy9 hy10 hy11 hy12) (cwV 2 hts gX3_readItem_X3_mostOf rfl rfl rfl ⟨rfl, dh_X3_mostOf⟩ ⟨Nat.le_of_ble_eq_true rfl, Nat.le_of_ble_eq_true rfl⟩) hK hN (hZ.kept hS) hP (hP.sub [1] rfl) (va_recv (q := (RX3, TX3, 8)) hK hP (ci := 3) (q0 := 1) rfl rfl) rfl hl.1 rfl (Nat.le_of_ble_eq_true rfl) dX3_readItem_60 ⟨Nat.le_of_ble_eq_true rfl, Nat.le_of_ble_eq_true rfl⟩ (fun r_19 hr_19 => ?_)
          obtain rfl := hr_19
          have kc4 : (4 : Int32).toInt = 4 := by decide
          have kc40 : (40 : Int32).toInt = 40 := by decide
          skip
          refine zw_V (As := [.int 4, .int 40]) (rest := [.int x_16, .ref ri]) (wr := [(ri, .inl (cI, 132, .inl (upd fi slot.toNatClampNeg 0)))]) ⟨hx, hb, hml, hown, hts⟩ (c_F_R_readNumber l D cI cJ cZ cP cS po rd ri rl (rz) (rc) (q_12) (q_13) (rt) (ru) fl (4) (40) hy0 hy1 hy2 hy3 hbq_12.1 hbq_12.2 (by omega) hbq_13.1 hbq_13.2 hy9 hy10 hy11 hy12 H.size) (cwV 2 hts gX3_readItem_X3_readNumber rfl rfl rfl ⟨rfl, dh_X3_readNumber⟩ ⟨Nat.le_of_ble_eq_true rfl, Nat.le_of_ble_eq_true rfl⟩) hK hN (hZ.kept hS) hP hD hS hA [1, 2] [0] rfl rfl (by decide) (by decide) (by decide) (va_recv (q := (RX3, TX3, 8)) hK hP (ci := 3) (q0 := 1) rfl rfl) rfl hl.1 rfl (Nat.le_of_ble_eq_true rfl) dX3_readItem_63 ⟨Nat.le_of_ble_eq_true rfl, Nat.le_of_ble_eq_true rfl⟩ (fun r_20 u_21 H locs hr_20 hP hD hS => ?_)
          obtain ⟨q_22, q_23⟩ := u_21
          try dsimp only at hr_20
          obtain ⟨hbq_22, hbq_23, hsr_20_0, hsr_20_1, hsr_20_2, hsr_20_3, hr_20⟩ := hr_20
          have h9R := zRe (ws' := [(ri, .inl (cI, 132, .inl (upd fi slot.toNatClampNeg 0))), (rd, .inr (3, [.ref ri, .ref rl, .int rz, .int rc, .int q_22, .int q_23, .int rt, .int ru])), (rl, .inl (cI, 160, .inl fl))]) hP hD rfl
          clear hP hD
          obtain ⟨hP, hD⟩ := h9R
          obtain ⟨g_24, g_25⟩ := hr_20
          refine va_iast hx hb hK hP hD hS 0 0 rfl rfl (zf_in (by omega) (by omega)) dX3_readItem_66 (fun H locs hP hD hS => ?_)
          have h9R := zRe (ws' := [(ri, .inl (cI, 132, .inl (upd (upd fi slot.toNatClampNeg 0) x_16.toNatClampNeg r_20))), (rd, .inr (3, [.ref ri, .ref rl, .int rz, .int rc, .int q_22, .int q_23, .int rt, .int ru])), (rl, .inl (cI, 160, .inl fl))]) hP hD rfl
          clear hP hD
          obtain ⟨hP, hD⟩ := h9R
          have hn0 : zN1 fl rz.toInt (q_3 : Int32).toInt (zLo 0 0) (zHi 0 0 rt.toInt) = ((q_23 : Int32).toInt, (q_22 : Int32).toInt, r_20.toInt) := zN1_yes (p1 := (q_12 : Int32).toInt) (lo2 := ((4 : Int32)).toInt) (hi2 := ((40 : Int32)).toInt) (by omega) (by omega) hsr_20_1 hsr_20_2 (by first | decide | (show (0 : Int) = _; omega)) (by first | decide | (show (40 : Int) = _; decide) | (show rt.toInt - 1 = _; omega) | (show rt.toInt = _; omega)) (by omega)
          refine lv_aload_n hx hb dX3_readItem_67 rfl (lv_at hl 2 rfl) ?_
          refine va_get (D := D) (ci := 3) (v := .int q_23) (C := RX3) (T := TX3) (N := 8) hx hb hts hi_X3_readItem_3 hown hK hP 1 rfl rfl 5 (by decide) (hts (.fieldLink RX3 28 "TheLiningsInIt$Reader" "fault" "I") (List.mem_of_getElem? (i := 2) rfl)) (fun _ h9 => h9) rfl dX3_readItem_68 ?_
          refine lv_iconst (v := (-1)) hx hb dX3_readItem_71 (by decide) ?_
          refine lv_icmp_eq (tgt := 76) hx hb dX3_readItem_72 (by decide) (fun c_26 => ?_) (fun c_26 => ?_)
          · have fc_26 : q_23.toInt = (-1) := zf_eq c_26 rfl (by decide)
            refine lv_iinc (v := 1) (lv' := [(3, .int 1), (2, .int 0), (0, .ref rd), (1, .int slot)]) hx hb dX3_readItem_76 hl (k := 0) rfl (by decide) (by decide) rfl (fun ls hl => ?_)
            refine lv_goto (tgt := 20) hx hb dX3_readItem_79 (by decide) ?_
            refine lv_iload_n hx hb dX3_readItem_20 rfl (lv_at hl 0 rfl) ?_
            refine lv_iload_n hx hb dX3_readItem_21 rfl (lv_at hl 1 rfl) ?_
            refine zc_S (As := [.int 0]) (rest := [.int 1]) ⟨hx, hb, hml, hown, hts⟩ (c_R_numbersOf_0 l D cI cJ cZ cP cS po  ) (va_cwS 1 hts gX3_readItem_X3_numbersOf rfl rfl rfl dh_X3_numbersOf ⟨Nat.le_of_ble_eq_true rfl, Nat.le_of_ble_eq_true rfl⟩) hK hN (hZ.kept hS) rfl hl.1 rfl (Nat.le_of_ble_eq_true rfl) dX3_readItem_22 ⟨Nat.le_of_ble_eq_true rfl, Nat.le_of_ble_eq_true rfl⟩ (fun r_27 hr_27 => ?_)
            obtain rfl := hr_27
            refine lv_icmp_ge (tgt := 82) hx hb dX3_readItem_25 (by decide) (fun c_28 => ?_) (fun c_28 => ?_)
            · refine lv_iload_n hx hb dX3_readItem_82 rfl (lv_at hl 1 rfl) ?_
              refine lv_if_ne (tgt := 101) hx hb dX3_readItem_83 (by decide) (fun c_29 => ?_) (fun c_29 => ?_)
              · exact absurd c_29 (by decide)
              · refine lv_aload_n hx hb dX3_readItem_86 rfl (lv_at hl 2 rfl) ?_
                refine lv_aload_n hx hb dX3_readItem_87 rfl (lv_at hl 2 rfl) ?_
                refine va_get (D := D) (ci := 3) (v := .ref ri) (C := RX3) (T := TX3) (N := 8) hx hb hts hi_X3_readItem_3 hown hK hP 1 rfl rfl 0 (by decide) (hts (.fieldLink RX3 11 "TheLiningsInIt$Reader" "items" "[I") (List.mem_of_getElem? (i := 1) rfl)) (fun _ h9 => h9) rfl dX3_readItem_88 ?_
                refine lv_iload_n hx hb dX3_readItem_91 rfl (lv_at hl 3 rfl) ?_
                refine lv_iconst (v := 1) hx hb dX3_readItem_92 (by decide) ?_
                refine lv_iadd hx hb dX3_readItem_93 ?_
                refine lv_topi (fun y_30 ey_30 => ?_)
                obtain rfl : x_16 = y_30 := ex_16.trans ey_30.symm
                refine va_iald hx hb hK hP 0 0 rfl rfl (zf_in (by omega) (by omega)) dX3_readItem_94 ?_
                refine lv_topi (fun x_31 ex_31 => ?_)
                obtain rfl : r_20 = x_31 := (ex_31.trans (by simp [upd])).symm
                refine va_put (D := D) (ci := 3) (v := .int r_20) (ty := .int) (C := RX3) (T := TX3) (N := 8) hx hb hts hi_X3_readItem_3 tyX3 tyX3_ok nmX3 hown hK hP hD hS 1 rfl rfl 6 (by decide) (hts (.fieldLink RX3 31 "TheLiningsInIt$Reader" "teeth" "I") (List.mem_of_getElem? (i := 3) rfl)) (fun _ h9 => h9) rfl (tyX3_ok 6 (Nat.le_of_ble_eq_true rfl)) rfl rfl (Nat.le_of_ble_eq_true rfl) dX3_readItem_95 (fun H locs hP hD hS => ?_)
                have h9R := zRe (ws' := [(ri, .inl (cI, 132, .inl (upd (upd fi slot.toNatClampNeg 0) x_16.toNatClampNeg r_20))), (rd, .inr (3, [.ref ri, .ref rl, .int rz, .int rc, .int q_22, .int q_23, .int r_20, .int ru])), (rl, .inl (cI, 160, .inl fl))]) hP hD rfl
                clear hP hD
                obtain ⟨hP, hD⟩ := h9R
                refine lv_goto (tgt := 116) hx hb dX3_readItem_98 (by decide) ?_
                have e0 : slot.toNatClampNeg = slot.toInt.toNat + 0 := (by show (slot : Int32).toInt.toNat = _; omega)
                have e1 : x_16.toNatClampNeg = slot.toInt.toNat + 1 := (by show (x_16 : Int32).toInt.toNat = _; omega)
                have hI := zIn_a hn0 (by first | (right; decide) | (left; omega))
                exact W.vret hx hb hr (fun t ht hW => ⟨⟨(q_22, q_23, r_20, ru, (upd (upd fi slot.toNatClampNeg 0) x_16.toNatClampNeg r_20)), rfl, ⟨(show 0 ≤ q_22.toInt ∧ q_22.toInt ≤ 160 from hbq_22), (show (-1) ≤ q_23.toInt ∧ q_23.toInt ≤ 160 from hbq_23), (show 0 ≤ r_20.toInt ∧ r_20.toInt ≤ 40 from ⟨by omega, by omega⟩), (show 0 ≤ ru.toInt ∧ ru.toInt ≤ 8 from ⟨hy11, hy12⟩), (show q_22.toInt ≤ rz.toInt from by omega), (show (q_23.toInt = -1 → zIt (upd (upd fi slot.toNatClampNeg 0) x_16.toNatClampNeg r_20) slot.toInt.toNat) from by (intro h; have k3 : (0 : Int32).toInt = 0 := (by decide); exact zIt_mk (by simp only [upd]; rw [if_neg (by omega), if_pos (by omega)]) (by simp only [upd]; rw [if_pos (by omega)]) (rfl) (rfl) (by unfold zItv; refine ⟨?_, ?_, ?_, ?_, ?_, ?_, ?_, ?_, ?_, ?_, ?_⟩ <;> (intros; omega)))), (show (∀ j : Nat, j < slot.toInt.toNat → (upd (upd fi slot.toNatClampNeg 0) x_16.toNatClampNeg r_20) j = fi j) from by (intro j hj; simp only [upd]; rw [if_neg (by omega), if_neg (by omega)])), (show (q_23.toInt = (zItem fl rz.toInt rp.toInt rt.toInt ru.toInt).1 ∧ (q_23.toInt = -1 → q_22.toInt = (zItem fl rz.toInt rp.toInt rt.toInt ru.toInt).2.1 ∧ r_20.toInt = (zItem fl rz.toInt rp.toInt rt.toInt ru.toInt).2.2.1 ∧ ru.toInt = (zItem fl rz.toInt rp.toInt rt.toInt ru.toInt).2.2.2)) from by (have z9 := hsr_1_1; rw [kc0] at z9; have hq : zFst fl rz.toInt rp.toInt zWds 10 = 0 ∧ ¬ ((0 : Int) = 3 ∧ ru.toInt = 8) := (by omega); have hl9 : (q_3 : Int32).toInt = rp.toInt + ((zWds ((0 : Int)).toNat).length : Nat) := (by omega); rw [zItem_w hq.1 (by decide) hq.2 hl9 hI]; dsimp only; exact ⟨by (first | rfl | omega), fun h => ⟨by (first | rfl | omega), by (show _ = (if (0 : Int) = 0 then _ else _); first | (rw [if_pos rfl]; done) | (rw [if_pos rfl]; first | rfl | omega)), by (show _ = (if (0 : Int) = 3 then _ else _); rw [if_neg (by decide)])⟩⟩)), (show (q_23.toInt = -1 → (((upd (upd fi slot.toNatClampNeg 0) x_16.toNatClampNeg r_20) slot.toInt.toNat).toInt = 0 → r_20.toInt = ((upd (upd fi slot.toNatClampNeg 0) x_16.toNatClampNeg r_20) (slot.toInt.toNat + 1)).toInt) ∧ (((upd (upd fi slot.toNatClampNeg 0) x_16.toNatClampNeg r_20) slot.toInt.toNat).toInt ≠ 0 → r_20.toInt = rt.toInt) ∧ (((upd (upd fi slot.toNatClampNeg 0) x_16.toNatClampNeg r_20) slot.toInt.toNat).toInt = 3 → ru.toInt = ru.toInt + 1) ∧ (((upd (upd fi slot.toNatClampNeg 0) x_16.toNatClampNeg r_20) slot.toInt.toNat).toInt ≠ 3 → ru.toInt = ru.toInt)) from by (intro h; have g0 : (upd (upd fi slot.toNatClampNeg 0) x_16.toNatClampNeg r_20) slot.toInt.toNat = (0 : Int32) := (by simp only [upd]; rw [if_neg (by omega), if_pos (by omega)]); have g1 : (upd (upd fi slot.toNatClampNeg 0) x_16.toNatClampNeg r_20) (slot.toInt.toNat + 1) = (r_20 : Int32) := (by simp only [upd]; rw [if_pos (by omega)]); rw [g0, g1]; refine ⟨?_, ?_, ?_, ?_⟩ <;> (intro h9; first | rfl | omega | (exfalso; omega)))), trivial⟩, zRet ht hP hD [1, 2, 0] (by decide) rfl⟩, hS.F ht⟩) hS.2.2 dX3_readItem_116
            · exact absurd c_28 (by decide)
          · have fc_26 : q_23.toInt ≠ (-1) := zf_ne c_26 rfl (by decide)
            have e0 : slot.toNatClampNeg = slot.toInt.toNat + 0 := (by show (slot : Int32).toInt.toNat = _; omega)
            have e1 : x_16.toNatClampNeg = slot.toInt.toNat + 1 := (by show (x_16 : Int32).toInt.toNat = _; omega)
            have hI := zIn_a hn0 (by first | (right; decide) | (left; omega))
            exact W.vret hx hb hr (fun t ht hW => ⟨⟨(q_22, q_23, rt, ru, (upd (upd fi slot.toNatClampNeg 0) x_16.toNatClampNeg r_20)), rfl, ⟨(show 0 ≤ q_22.toInt ∧ q_22.toInt ≤ 160 from hbq_22), (show (-1) ≤ q_23.toInt ∧ q_23.toInt ≤ 160 from hbq_23), (show 0 ≤ rt.toInt ∧ rt.toInt ≤ 40 from ⟨hy9, hy10⟩), (show 0 ≤ ru.toInt ∧ ru.toInt ≤ 8 from ⟨hy11, hy12⟩), (show q_22.toInt ≤ rz.toInt from by omega), (show (q_23.toInt = -1 → zIt (upd (upd fi slot.toNatClampNeg 0) x_16.toNatClampNeg r_20) slot.toInt.toNat) from by (intro h; exfalso; omega)), (show (∀ j : Nat, j < slot.toInt.toNat → (upd (upd fi slot.toNatClampNeg 0) x_16.toNatClampNeg r_20) j = fi j) from by (intro j hj; simp only [upd]; rw [if_neg (by omega), if_neg (by omega)])), (show (q_23.toInt = (zItem fl rz.toInt rp.toInt rt.toInt ru.toInt).1 ∧ (q_23.toInt = -1 → q_22.toInt = (zItem fl rz.toInt rp.toInt rt.toInt ru.toInt).2.1 ∧ rt.toInt = (zItem fl rz.toInt rp.toInt rt.toInt ru.toInt).2.2.1 ∧ ru.toInt = (zItem fl rz.toInt rp.toInt rt.toInt ru.toInt).2.2.2)) from by (have z9 := hsr_1_1; rw [kc0] at z9; have hq : zFst fl rz.toInt rp.toInt zWds 10 = 0 ∧ ¬ ((0 : Int) = 3 ∧ ru.toInt = 8) := (by omega); have hl9 : (q_3 : Int32).toInt = rp.toInt + ((zWds ((0 : Int)).toNat).length : Nat) := (by omega); rw [zItem_w hq.1 (by decide) hq.2 hl9 hI]; dsimp only; exact ⟨by (first | rfl | omega), fun h => ⟨by (first | rfl | omega), by (show _ = (if (0 : Int) = 0 then _ else _); first | (rw [if_pos rfl]; done) | (rw [if_pos rfl]; first | rfl | omega)), by (show _ = (if (0 : Int) = 3 then _ else _); rw [if_neg (by decide)])⟩⟩)), (show (q_23.toInt = -1 → (((upd (upd fi slot.toNatClampNeg 0) x_16.toNatClampNeg r_20) slot.toInt.toNat).toInt = 0 → rt.toInt = ((upd (upd fi slot.toNatClampNeg 0) x_16.toNatClampNeg r_20) (slot.toInt.toNat + 1)).toInt) ∧ (((upd (upd fi slot.toNatClampNeg 0) x_16.toNatClampNeg r_20) slot.toInt.toNat).toInt ≠ 0 → rt.toInt = rt.toInt) ∧ (((upd (upd fi slot.toNatClampNeg 0) x_16.toNatClampNeg r_20) slot.toInt.toNat).toInt = 3 → ru.toInt = ru.toInt + 1) ∧ (((upd (upd fi slot.toNatClampNeg 0) x_16.toNatClampNeg r_20) slot.toInt.toNat).toInt ≠ 3 → ru.toInt = ru.toInt)) from by (intro h; exfalso; omega)), trivial⟩, zRet ht hP hD [1, 2, 0] (by decide) rfl⟩, hS.F ht⟩) hS.2.2 dX3_readItem_75
    · have kc1 : (1 : Int32).toInt = 1 := by decide
      refine lv_aload_n hx hb dX3_readItem_11 rfl (lv_at hl 1 rfl) ?_
      refine va_get (D := D) (ci := 3) (v := .ref ri) (C := RX3) (T := TX3) (N := 8) hx hb hts hi_X3_readItem_3 hown hK hP 1 rfl rfl 0 (by decide) (hts (.fieldLink RX3 11 "TheLiningsInIt$Reader" "items" "[I") (List.mem_of_getElem? (i := 1) rfl)) (fun _ h9 => h9) rfl dX3_readItem_12 ?_
      refine lv_iload_n hx hb dX3_readItem_15 rfl (lv_at hl 2 rfl) ?_
      refine lv_iload_n hx hb dX3_readItem_16 rfl (lv_at hl 0 rfl) ?_
      refine va_iast hx hb hK hP hD hS 0 0 rfl rfl (zf_in (by omega) (by omega)) dX3_readItem_17 (fun H locs hP hD hS => ?_)
      have h9R := zRe (ws' := [(ri, .inl (cI, 132, .inl (upd fi slot.toNatClampNeg 1))), (rd, .inr (3, [.ref ri, .ref rl, .int rz, .int rc, .int q_3, .int q_4, .int rt, .int ru])), (rl, .inl (cI, 160, .inl fl))]) hP hD rfl
      clear hP hD
      obtain ⟨hP, hD⟩ := h9R
      refine lv_iconst (v := 0) hx hb dX3_readItem_18 (by decide) ?_
      refine lv_istore_n (lv' := [(3, .int 0), (2, .int 1), (0, .ref rd), (1, .int slot)]) hx hb dX3_readItem_19 rfl hl (by decide) rfl (fun ls hl => ?_)
      refine lv_iload_n hx hb dX3_readItem_20 rfl (lv_at hl 0 rfl) ?_
      refine lv_iload_n hx hb dX3_readItem_21 rfl (lv_at hl 1 rfl) ?_
      refine zc_S (As := [.int 1]) (rest := [.int 0]) ⟨hx, hb, hml, hown, hts⟩ (c_R_numbersOf_1 l D cI cJ cZ cP cS po  ) (va_cwS 1 hts gX3_readItem_X3_numbersOf rfl rfl rfl dh_X3_numbersOf ⟨Nat.le_of_ble_eq_true rfl, Nat.le_of_ble_eq_true rfl⟩) hK hN (hZ.kept hS) rfl hl.1 rfl (Nat.le_of_ble_eq_true rfl) dX3_readItem_22 ⟨Nat.le_of_ble_eq_true rfl, Nat.le_of_ble_eq_true rfl⟩ (fun r_32 hr_32 => ?_)
      obtain rfl := hr_32
      refine lv_icmp_ge (tgt := 82) hx hb dX3_readItem_25 (by decide) (fun c_33 => ?_) (fun c_33 => ?_)
      · exact absurd c_33 (by decide)
      · refine lv_aload_n hx hb dX3_readItem_28 rfl (lv_at hl 2 rfl) ?_
        refine lv_bipush (v := 32) hx hb dX3_readItem_29 (by decide) ?_
        have kc32 : (32 : Int32).toInt = 32 := by decide
        skip
        refine zw_Vv (As := [.int 32]) (rest := []) (wr := [(ri, .inl (cI, 132, .inl (upd fi slot.toNatClampNeg 1)))]) ⟨hx, hb, hml, hown, hts⟩ (c_F_R_expect l D cI cJ cZ cP cS po rd ri rl (rz) (rc) (q_3) (q_4) (rt) (ru) fl (32) hy0 hy1 hy2 hy3 hbq_3.1 hbq_3.2 (by omega) hbq_4.1 hbq_4.2 hy9 hy10 hy11 hy12 H.size) (cwV 1 hts gX3_readItem_X3_expect rfl rfl rfl ⟨rfl, dh_X3_expect⟩ ⟨Nat.le_of_ble_eq_true rfl, Nat.le_of_ble_eq_true rfl⟩) hK hN (hZ.kept hS) hP hD hS hA [1, 2] [0] rfl rfl (by decide) (by decide) (by decide) (va_recv (q := (RX3, TX3, 8)) hK hP (ci := 3) (q0 := 1) rfl rfl) rfl hl.1 rfl (Nat.le_of_ble_eq_true rfl) dX3_readItem_31 ⟨Nat.le_of_ble_eq_true rfl, Nat.le_of_ble_eq_true rfl⟩ (fun u_35 H locs hr_34 hP hD hS => ?_)
        obtain ⟨q_36, q_37⟩ := u_35
        try dsimp only at hr_34
        obtain ⟨hbq_36, hbq_37, hsr_34_0, hsr_34_1, hr_34⟩ := hr_34
        have h9R := zRe (ws' := [(ri, .inl (cI, 132, .inl (upd fi slot.toNatClampNeg 1))), (rd, .inr (3, [.ref ri, .ref rl, .int rz, .int rc, .int q_36, .int q_37, .int rt, .int ru])), (rl, .inl (cI, 160, .inl fl))]) hP hD rfl
        clear hP hD
        obtain ⟨hP, hD⟩ := h9R
        refine lv_aload_n hx hb dX3_readItem_34 rfl (lv_at hl 2 rfl) ?_
        refine va_get (D := D) (ci := 3) (v := .int q_37) (C := RX3) (T := TX3) (N := 8) hx hb hts hi_X3_readItem_3 hown hK hP 1 rfl rfl 5 (by decide) (hts (.fieldLink RX3 28 "TheLiningsInIt$Reader" "fault" "I") (List.mem_of_getElem? (i := 2) rfl)) (fun _ h9 => h9) rfl dX3_readItem_35 ?_
        refine lv_iconst (v := (-1)) hx hb dX3_readItem_38 (by decide) ?_
        refine lv_icmp_ne (tgt := 67) hx hb dX3_readItem_39 (by decide) (fun c_38 => ?_) (fun c_38 => ?_)
        · have fc_38 : q_37.toInt ≠ (-1) := zf_ne c_38 rfl (by decide)
          have hn0 : zN1 fl rz.toInt (q_3 : Int32).toInt (zLo 1 0) (zHi 1 0 rt.toInt) = ((q_3 : Int32).toInt, (q_3 : Int32).toInt, 0) := zN1_no (by omega)
          refine lv_aload_n hx hb dX3_readItem_67 rfl (lv_at hl 2 rfl) ?_
          refine va_get (D := D) (ci := 3) (v := .int q_37) (C := RX3) (T := TX3) (N := 8) hx hb hts hi_X3_readItem_3 hown hK hP 1 rfl rfl 5 (by decide) (hts (.fieldLink RX3 28 "TheLiningsInIt$Reader" "fault" "I") (List.mem_of_getElem? (i := 2) rfl)) (fun _ h9 => h9) rfl dX3_readItem_68 ?_
          refine lv_iconst (v := (-1)) hx hb dX3_readItem_71 (by decide) ?_
          refine lv_icmp_eq (tgt := 76) hx hb dX3_readItem_72 (by decide) (fun c_39 => ?_) (fun c_39 => ?_)
          · exfalso; have fc_39 : q_37.toInt = (-1) := zf_eq c_39 rfl (by decide); omega
          · have fc_39 : q_37.toInt ≠ (-1) := zf_ne c_39 rfl (by decide)
            have e0 : slot.toNatClampNeg = slot.toInt.toNat + 0 := (by show (slot : Int32).toInt.toNat = _; omega)
            have hI := zIn_a hn0 (by first | (right; decide) | (left; omega))
            exact W.vret hx hb hr (fun t ht hW => ⟨⟨(q_36, q_37, rt, ru, (upd fi slot.toNatClampNeg 1)), rfl, ⟨(show 0 ≤ q_36.toInt ∧ q_36.toInt ≤ 160 from hbq_36), (show (-1) ≤ q_37.toInt ∧ q_37.toInt ≤ 160 from hbq_37), (show 0 ≤ rt.toInt ∧ rt.toInt ≤ 40 from ⟨hy9, hy10⟩), (show 0 ≤ ru.toInt ∧ ru.toInt ≤ 8 from ⟨hy11, hy12⟩), (show q_36.toInt ≤ rz.toInt from by omega), (show (q_37.toInt = -1 → zIt (upd fi slot.toNatClampNeg 1) slot.toInt.toNat) from by (intro h; exfalso; omega)), (show (∀ j : Nat, j < slot.toInt.toNat → (upd fi slot.toNatClampNeg 1) j = fi j) from by (intro j hj; simp only [upd]; rw [if_neg (by omega)])), (show (q_37.toInt = (zItem fl rz.toInt rp.toInt rt.toInt ru.toInt).1 ∧ (q_37.toInt = -1 → q_36.toInt = (zItem fl rz.toInt rp.toInt rt.toInt ru.toInt).2.1 ∧ rt.toInt = (zItem fl rz.toInt rp.toInt rt.toInt ru.toInt).2.2.1 ∧ ru.toInt = (zItem fl rz.toInt rp.toInt rt.toInt ru.toInt).2.2.2)) from by (have z9 := hsr_1_1; rw [kc1] at z9; have hq : zFst fl rz.toInt rp.toInt zWds 10 = 1 ∧ ¬ ((1 : Int) = 3 ∧ ru.toInt = 8) := (by omega); have hl9 : (q_3 : Int32).toInt = rp.toInt + ((zWds ((1 : Int)).toNat).length : Nat) := (by omega); rw [zItem_w hq.1 (by decide) hq.2 hl9 hI]; dsimp only; exact ⟨by (first | rfl | omega), fun h => ⟨by (first | rfl | omega), by (show _ = (if (1 : Int) = 0 then _ else _); rw [if_neg (by decide)]), by (show _ = (if (1 : Int) = 3 then _ else _); rw [if_neg (by decide)])⟩⟩)), (show (q_37.toInt = -1 → (((upd fi slot.toNatClampNeg 1) slot.toInt.toNat).toInt = 0 → rt.toInt = ((upd fi slot.toNatClampNeg 1) (slot.toInt.toNat + 1)).toInt) ∧ (((upd fi slot.toNatClampNeg 1) slot.toInt.toNat).toInt ≠ 0 → rt.toInt = rt.toInt) ∧ (((upd fi slot.toNatClampNeg 1) slot.toInt.toNat).toInt = 3 → ru.toInt = ru.toInt + 1) ∧ (((upd fi slot.toNatClampNeg 1) slot.toInt.toNat).toInt ≠ 3 → ru.toInt = ru.toInt)) from by (intro h; exfalso; omega)), trivial⟩, zRet ht hP hD [1, 2, 0] (by decide) rfl⟩, hS.F ht⟩) hS.2.2 dX3_readItem_75
        · have fc_38 : q_37.toInt = (-1) := zf_eq c_38 rfl (by decide)
          refine lv_aload_n hx hb dX3_readItem_42 rfl (lv_at hl 2 rfl) ?_
          refine va_get (D := D) (ci := 3) (v := .ref ri) (C := RX3) (T := TX3) (N := 8) hx hb hts hi_X3_readItem_3 hown hK hP 1 rfl rfl 0 (by decide) (hts (.fieldLink RX3 11 "TheLiningsInIt$Reader" "items" "[I") (List.mem_of_getElem? (i := 1) rfl)) (fun _ h9 => h9) rfl dX3_readItem_43 ?_
          refine lv_iload_n hx hb dX3_readItem_46 rfl (lv_at hl 3 rfl) ?_
          refine lv_iconst (v := 1) hx hb dX3_readItem_47 (by decide) ?_
          refine lv_iadd hx hb dX3_readItem_48 ?_
          refine lv_topi (fun x_40 ex_40 => ?_)
          have qx_40 : x_40.toInt = slot.toInt + 1 := by rw [ex_40]; exact zf_add rfl (by decide) (by omega) (by omega)
          refine lv_iload_n hx hb dX3_readItem_49 rfl (lv_at hl 0 rfl) ?_
          refine lv_iadd hx hb dX3_readItem_50 ?_
          refine lv_topi (fun y_41 ey_41 => ?_)
          obtain rfl : x_40 = y_41 := (ey_41.trans (Int32.add_zero x_40)).symm
          refine lv_aload_n hx hb dX3_readItem_51 rfl (lv_at hl 2 rfl) ?_
          refine lv_iload_n hx hb dX3_readItem_52 rfl (lv_at hl 1 rfl) ?_
          refine lv_iload_n hx hb dX3_readItem_53 rfl (lv_at hl 0 rfl) ?_
          refine zc_S (As := [.int 1, .int 0]) (rest := [.ref rd, .int x_40, .ref ri]) ⟨hx, hb, hml, hown, hts⟩ (c_R_leastOf_1_0 l D cI cJ cZ cP cS po  ) (va_cwS 2 hts gX3_readItem_X3_leastOf rfl rfl rfl dh_X3_leastOf ⟨Nat.le_of_ble_eq_true rfl, Nat.le_of_ble_eq_true rfl⟩) hK hN (hZ.kept hS) rfl hl.1 rfl (Nat.le_of_ble_eq_true rfl) dX3_readItem_54 ⟨Nat.le_of_ble_eq_true rfl, Nat.le_of_ble_eq_true rfl⟩ (fun r_42 hr_42 => ?_)
          obtain rfl := hr_42
          refine lv_aload_n hx hb dX3_readItem_57 rfl (lv_at hl 2 rfl) ?_
          refine lv_iload_n hx hb dX3_readItem_58 rfl (lv_at hl 1 rfl) ?_
          refine lv_iload_n hx hb dX3_readItem_59 rfl (lv_at hl 0 rfl) ?_
          refine zc_V (As := [.int 1, .int 0]) (rest := [.int 0, .ref rd, .int x_40, .ref ri]) ⟨hx, hb, hml, hown, hts⟩ (c_R_mostOf_1_0 l D cI cJ cZ cP cS po rd ri rl (rz) (rc) (q_36) (q_37) (rt) (ru) hy0 hy1 hy2 hy3 hbq_36.1 hbq_36.2 (by omega) hbq_37.1 hbq_37.2 hy9 hy10 hy11 hy12) (cwV 2 hts gX3_readItem_X3_mostOf rfl rfl rfl ⟨rfl, dh_X3_mostOf⟩ ⟨Nat.le_of_ble_eq_true rfl, Nat.le_of_ble_eq_true rfl⟩) hK hN (hZ.kept hS) hP (hP.sub [1] rfl) (va_recv (q := (RX3, TX3, 8)) hK hP (ci := 3) (q0 := 1) rfl rfl) rfl hl.1 rfl (Nat.le_of_ble_eq_true rfl) dX3_readItem_60 ⟨Nat.le_of_ble_eq_true rfl, Nat.le_of_ble_eq_true rfl⟩ (fun r_43 hr_43 => ?_)
          obtain ⟨g_44, g_45, hsr_43_0⟩ := hr_43
          have kc0 : (0 : Int32).toInt = 0 := by decide
          skip
          refine zw_V (As := [.int 0, .int r_43]) (rest := [.int x_40, .ref ri]) (wr := [(ri, .inl (cI, 132, .inl (upd fi slot.toNatClampNeg 1)))]) ⟨hx, hb, hml, hown, hts⟩ (c_F_R_readNumber l D cI cJ cZ cP cS po rd ri rl (rz) (rc) (q_36) (q_37) (rt) (ru) fl (0) (r_43) hy0 hy1 hy2 hy3 hbq_36.1 hbq_36.2 (by omega) hbq_37.1 hbq_37.2 hy9 hy10 hy11 hy12 H.size) (cwV 2 hts gX3_readItem_X3_readNumber rfl rfl rfl ⟨rfl, dh_X3_readNumber⟩ ⟨Nat.le_of_ble_eq_true rfl, Nat.le_of_ble_eq_true rfl⟩) hK hN (hZ.kept hS) hP hD hS hA [1, 2] [0] rfl rfl (by decide) (by decide) (by decide) (va_recv (q := (RX3, TX3, 8)) hK hP (ci := 3) (q0 := 1) rfl rfl) rfl hl.1 rfl (Nat.le_of_ble_eq_true rfl) dX3_readItem_63 ⟨Nat.le_of_ble_eq_true rfl, Nat.le_of_ble_eq_true rfl⟩ (fun r_46 u_47 H locs hr_46 hP hD hS => ?_)
          obtain ⟨q_48, q_49⟩ := u_47
          try dsimp only at hr_46
          obtain ⟨hbq_48, hbq_49, hsr_46_0, hsr_46_1, hsr_46_2, hsr_46_3, hr_46⟩ := hr_46
          have h9R := zRe (ws' := [(ri, .inl (cI, 132, .inl (upd fi slot.toNatClampNeg 1))), (rd, .inr (3, [.ref ri, .ref rl, .int rz, .int rc, .int q_48, .int q_49, .int rt, .int ru])), (rl, .inl (cI, 160, .inl fl))]) hP hD rfl
          clear hP hD
          obtain ⟨hP, hD⟩ := h9R
          obtain ⟨g_50, g_51⟩ := hr_46
          refine va_iast hx hb hK hP hD hS 0 0 rfl rfl (zf_in (by omega) (by omega)) dX3_readItem_66 (fun H locs hP hD hS => ?_)
          have h9R := zRe (ws' := [(ri, .inl (cI, 132, .inl (upd (upd fi slot.toNatClampNeg 1) x_40.toNatClampNeg r_46))), (rd, .inr (3, [.ref ri, .ref rl, .int rz, .int rc, .int q_48, .int q_49, .int rt, .int ru])), (rl, .inl (cI, 160, .inl fl))]) hP hD rfl
          clear hP hD
          obtain ⟨hP, hD⟩ := h9R
          have hn0 : zN1 fl rz.toInt (q_3 : Int32).toInt (zLo 1 0) (zHi 1 0 rt.toInt) = ((q_49 : Int32).toInt, (q_48 : Int32).toInt, r_46.toInt) := zN1_yes (p1 := (q_36 : Int32).toInt) (lo2 := ((0 : Int32)).toInt) (hi2 := ((r_43 : Int32)).toInt) (by omega) (by omega) hsr_46_1 hsr_46_2 (by first | decide | (show (0 : Int) = _; omega)) (by first | decide | (show rt.toInt - 1 = _; omega) | (show rt.toInt = _; omega)) (by omega)
          refine lv_aload_n hx hb dX3_readItem_67 rfl (lv_at hl 2 rfl) ?_
          refine va_get (D := D) (ci := 3) (v := .int q_49) (C := RX3) (T := TX3) (N := 8) hx hb hts hi_X3_readItem_3 hown hK hP 1 rfl rfl 5 (by decide) (hts (.fieldLink RX3 28 "TheLiningsInIt$Reader" "fault" "I") (List.mem_of_getElem? (i := 2) rfl)) (fun _ h9 => h9) rfl dX3_readItem_68 ?_
          refine lv_iconst (v := (-1)) hx hb dX3_readItem_71 (by decide) ?_
          refine lv_icmp_eq (tgt := 76) hx hb dX3_readItem_72 (by decide) (fun c_52 => ?_) (fun c_52 => ?_)
          · have fc_52 : q_49.toInt = (-1) := zf_eq c_52 rfl (by decide)
            refine lv_iinc (v := 1) (lv' := [(3, .int 1), (2, .int 1), (0, .ref rd), (1, .int slot)]) hx hb dX3_readItem_76 hl (k := 0) rfl (by decide) (by decide) rfl (fun ls hl => ?_)
            refine lv_goto (tgt := 20) hx hb dX3_readItem_79 (by decide) ?_
            refine lv_iload_n hx hb dX3_readItem_20 rfl (lv_at hl 0 rfl) ?_
            refine lv_iload_n hx hb dX3_readItem_21 rfl (lv_at hl 1 rfl) ?_
            refine zc_S (As := [.int 1]) (rest := [.int 1]) ⟨hx, hb, hml, hown, hts⟩ (c_R_numbersOf_1 l D cI cJ cZ cP cS po  ) (va_cwS 1 hts gX3_readItem_X3_numbersOf rfl rfl rfl dh_X3_numbersOf ⟨Nat.le_of_ble_eq_true rfl, Nat.le_of_ble_eq_true rfl⟩) hK hN (hZ.kept hS) rfl hl.1 rfl (Nat.le_of_ble_eq_true rfl) dX3_readItem_22 ⟨Nat.le_of_ble_eq_true rfl, Nat.le_of_ble_eq_true rfl⟩ (fun r_53 hr_53 => ?_)
            obtain rfl := hr_53
            refine lv_icmp_ge (tgt := 82) hx hb dX3_readItem_25 (by decide) (fun c_54 => ?_) (fun c_54 => ?_)
            · refine lv_iload_n hx hb dX3_readItem_82 rfl (lv_at hl 1 rfl) ?_
              refine lv_if_ne (tgt := 101) hx hb dX3_readItem_83 (by decide) (fun c_55 => ?_) (fun c_55 => ?_)
              · refine lv_iload_n hx hb dX3_readItem_101 rfl (lv_at hl 1 rfl) ?_
                refine lv_iconst (v := 3) hx hb dX3_readItem_102 (by decide) ?_
                refine lv_icmp_ne (tgt := 116) hx hb dX3_readItem_103 (by decide) (fun c_56 => ?_) (fun c_56 => ?_)
                · have e0 : slot.toNatClampNeg = slot.toInt.toNat + 0 := (by show (slot : Int32).toInt.toNat = _; omega)
                  have e1 : x_40.toNatClampNeg = slot.toInt.toNat + 1 := (by show (x_40 : Int32).toInt.toNat = _; omega)
                  have hI := zIn_a hn0 (by first | (right; decide) | (left; omega))
                  exact W.vret hx hb hr (fun t ht hW => ⟨⟨(q_48, q_49, rt, ru, (upd (upd fi slot.toNatClampNeg 1) x_40.toNatClampNeg r_46)), rfl, ⟨(show 0 ≤ q_48.toInt ∧ q_48.toInt ≤ 160 from hbq_48), (show (-1) ≤ q_49.toInt ∧ q_49.toInt ≤ 160 from hbq_49), (show 0 ≤ rt.toInt ∧ rt.toInt ≤ 40 from ⟨hy9, hy10⟩), (show 0 ≤ ru.toInt ∧ ru.toInt ≤ 8 from ⟨hy11, hy12⟩), (show q_48.toInt ≤ rz.toInt from by omega), (show (q_49.toInt = -1 → zIt (upd (upd fi slot.toNatClampNeg 1) x_40.toNatClampNeg r_46) slot.toInt.toNat) from by (intro h; have k3 : (1 : Int32).toInt = 1 := (by decide); exact zIt_mk (by simp only [upd]; rw [if_neg (by omega), if_pos (by omega)]) (by simp only [upd]; rw [if_pos (by omega)]) (rfl) (rfl) (by unfold zItv; refine ⟨?_, ?_, ?_, ?_, ?_, ?_, ?_, ?_, ?_, ?_, ?_⟩ <;> (intros; omega)))), (show (∀ j : Nat, j < slot.toInt.toNat → (upd (upd fi slot.toNatClampNeg 1) x_40.toNatClampNeg r_46) j = fi j) from by (intro j hj; simp only [upd]; rw [if_neg (by omega), if_neg (by omega)])), (show (q_49.toInt = (zItem fl rz.toInt rp.toInt rt.toInt ru.toInt).1 ∧ (q_49.toInt = -1 → q_48.toInt = (zItem fl rz.toInt rp.toInt rt.toInt ru.toInt).2.1 ∧ rt.toInt = (zItem fl rz.toInt rp.toInt rt.toInt ru.toInt).2.2.1 ∧ ru.toInt = (zItem fl rz.toInt rp.toInt rt.toInt ru.toInt).2.2.2)) from by (have z9 := hsr_1_1; rw [kc1] at z9; have hq : zFst fl rz.toInt rp.toInt zWds 10 = 1 ∧ ¬ ((1 : Int) = 3 ∧ ru.toInt = 8) := (by omega); have hl9 : (q_3 : Int32).toInt = rp.toInt + ((zWds ((1 : Int)).toNat).length : Nat) := (by omega); rw [zItem_w hq.1 (by decide) hq.2 hl9 hI]; dsimp only; exact ⟨by (first | rfl | omega), fun h => ⟨by (first | rfl | omega), by (show _ = (if (1 : Int) = 0 then _ else _); rw [if_neg (by decide)]), by (show _ = (if (1 : Int) = 3 then _ else _); rw [if_neg (by decide)])⟩⟩)), (show (q_49.toInt = -1 → (((upd (upd fi slot.toNatClampNeg 1) x_40.toNatClampNeg r_46) slot.toInt.toNat).toInt = 0 → rt.toInt = ((upd (upd fi slot.toNatClampNeg 1) x_40.toNatClampNeg r_46) (slot.toInt.toNat + 1)).toInt) ∧ (((upd (upd fi slot.toNatClampNeg 1) x_40.toNatClampNeg r_46) slot.toInt.toNat).toInt ≠ 0 → rt.toInt = rt.toInt) ∧ (((upd (upd fi slot.toNatClampNeg 1) x_40.toNatClampNeg r_46) slot.toInt.toNat).toInt = 3 → ru.toInt = ru.toInt + 1) ∧ (((upd (upd fi slot.toNatClampNeg 1) x_40.toNatClampNeg r_46) slot.toInt.toNat).toInt ≠ 3 → ru.toInt = ru.toInt)) from by (intro h; have g0 : (upd (upd fi slot.toNatClampNeg 1) x_40.toNatClampNeg r_46) slot.toInt.toNat = (1 : Int32) := (by simp only [upd]; rw [if_neg (by omega), if_pos (by omega)]); have g1 : (upd (upd fi slot.toNatClampNeg 1) x_40.toNatClampNeg r_46) (slot.toInt.toNat + 1) = (r_46 : Int32) := (by simp only [upd]; rw [if_pos (by omega)]); rw [g0, g1]; refine ⟨?_, ?_, ?_, ?_⟩ <;> (intro h9; first | rfl | omega | (exfalso; omega)))), trivial⟩, zRet ht hP hD [1, 2, 0] (by decide) rfl⟩, hS.F ht⟩) hS.2.2 dX3_readItem_116
                · exact absurd c_56 (by decide)
              · exact absurd c_55 (by decide)
            · exact absurd c_54 (by decide)
          · have fc_52 : q_49.toInt ≠ (-1) := zf_ne c_52 rfl (by decide)
            have e0 : slot.toNatClampNeg = slot.toInt.toNat + 0 := (by show (slot : Int32).toInt.toNat = _; omega)
            have e1 : x_40.toNatClampNeg = slot.toInt.toNat + 1 := (by show (x_40 : Int32).toInt.toNat = _; omega)
            have hI := zIn_a hn0 (by first | (right; decide) | (left; omega))
            exact W.vret hx hb hr (fun t ht hW => ⟨⟨(q_48, q_49, rt, ru, (upd (upd fi slot.toNatClampNeg 1) x_40.toNatClampNeg r_46)), rfl, ⟨(show 0 ≤ q_48.toInt ∧ q_48.toInt ≤ 160 from hbq_48), (show (-1) ≤ q_49.toInt ∧ q_49.toInt ≤ 160 from hbq_49), (show 0 ≤ rt.toInt ∧ rt.toInt ≤ 40 from ⟨hy9, hy10⟩), (show 0 ≤ ru.toInt ∧ ru.toInt ≤ 8 from ⟨hy11, hy12⟩), (show q_48.toInt ≤ rz.toInt from by omega), (show (q_49.toInt = -1 → zIt (upd (upd fi slot.toNatClampNeg 1) x_40.toNatClampNeg r_46) slot.toInt.toNat) from by (intro h; exfalso; omega)), (show (∀ j : Nat, j < slot.toInt.toNat → (upd (upd fi slot.toNatClampNeg 1) x_40.toNatClampNeg r_46) j = fi j) from by (intro j hj; simp only [upd]; rw [if_neg (by omega), if_neg (by omega)])), (show (q_49.toInt = (zItem fl rz.toInt rp.toInt rt.toInt ru.toInt).1 ∧ (q_49.toInt = -1 → q_48.toInt = (zItem fl rz.toInt rp.toInt rt.toInt ru.toInt).2.1 ∧ rt.toInt = (zItem fl rz.toInt rp.toInt rt.toInt ru.toInt).2.2.1 ∧ ru.toInt = (zItem fl rz.toInt rp.toInt rt.toInt ru.toInt).2.2.2)) from by (have z9 := hsr_1_1; rw [kc1] at z9; have hq : zFst fl rz.toInt rp.toInt zWds 10 = 1 ∧ ¬ ((1 : Int) = 3 ∧ ru.toInt = 8) := (by omega); have hl9 : (q_3 : Int32).toInt = rp.toInt + ((zWds ((1 : Int)).toNat).length : Nat) := (by omega); rw [zItem_w hq.1 (by decide) hq.2 hl9 hI]; dsimp only; exact ⟨by (first | rfl | omega), fun h => ⟨by (first | rfl | omega), by (show _ = (if (1 : Int) = 0 then _ else _); rw [if_neg (by decide)]), by (show _ = (if (1 : Int) = 3 then _ else _); rw [if_neg (by decide)])⟩⟩)), (show (q_49.toInt = -1 → (((upd (upd fi slot.toNatClampNeg 1) x_40.toNatClampNeg r_46) slot.toInt.toNat).toInt = 0 → rt.toInt = ((upd (upd fi slot.toNatClampNeg 1) x_40.toNatClampNeg r_46) (slot.toInt.toNat + 1)).toInt) ∧ (((upd (upd fi slot.toNatClampNeg 1) x_40.toNatClampNeg r_46) slot.toInt.toNat).toInt ≠ 0 → rt.toInt = rt.toInt) ∧ (((upd (upd fi slot.toNatClampNeg 1) x_40.toNatClampNeg r_46) slot.toInt.toNat).toInt = 3 → ru.toInt = ru.toInt + 1) ∧ (((upd (upd fi slot.toNatClampNeg 1) x_40.toNatClampNeg r_46) slot.toInt.toNat).toInt ≠ 3 → ru.toInt = ru.toInt)) from by (intro h; exfalso; omega)), trivial⟩, zRet ht hP hD [1, 2, 0] (by decide) rfl⟩, hS.F ht⟩) hS.2.2 dX3_readItem_75
    · have kc2 : (2 : Int32).toInt = 2 := by decide
      refine lv_aload_n hx hb dX3_readItem_11 rfl (lv_at hl 1 rfl) ?_
      refine va_get (D := D) (ci := 3) (v := .ref ri) (C := RX3) (T := TX3) (N := 8) hx hb hts hi_X3_readItem_3 hown hK hP 1 rfl rfl 0 (by decide) (hts (.fieldLink RX3 11 "TheLiningsInIt$Reader" "items" "[I") (List.mem_of_getElem? (i := 1) rfl)) (fun _ h9 => h9) rfl dX3_readItem_12 ?_
      refine lv_iload_n hx hb dX3_readItem_15 rfl (lv_at hl 2 rfl) ?_
      refine lv_iload_n hx hb dX3_readItem_16 rfl (lv_at hl 0 rfl) ?_
      refine va_iast hx hb hK hP hD hS 0 0 rfl rfl (zf_in (by omega) (by omega)) dX3_readItem_17 (fun H locs hP hD hS => ?_)
      have h9R := zRe (ws' := [(ri, .inl (cI, 132, .inl (upd fi slot.toNatClampNeg 2))), (rd, .inr (3, [.ref ri, .ref rl, .int rz, .int rc, .int q_3, .int q_4, .int rt, .int ru])), (rl, .inl (cI, 160, .inl fl))]) hP hD rfl
      clear hP hD
      obtain ⟨hP, hD⟩ := h9R
      refine lv_iconst (v := 0) hx hb dX3_readItem_18 (by decide) ?_
      refine lv_istore_n (lv' := [(3, .int 0), (2, .int 2), (0, .ref rd), (1, .int slot)]) hx hb dX3_readItem_19 rfl hl (by decide) rfl (fun ls hl => ?_)
      refine lv_iload_n hx hb dX3_readItem_20 rfl (lv_at hl 0 rfl) ?_
      refine lv_iload_n hx hb dX3_readItem_21 rfl (lv_at hl 1 rfl) ?_
      refine zc_S (As := [.int 2]) (rest := [.int 0]) ⟨hx, hb, hml, hown, hts⟩ (c_R_numbersOf_2 l D cI cJ cZ cP cS po  ) (va_cwS 1 hts gX3_readItem_X3_numbersOf rfl rfl rfl dh_X3_numbersOf ⟨Nat.le_of_ble_eq_true rfl, Nat.le_of_ble_eq_true rfl⟩) hK hN (hZ.kept hS) rfl hl.1 rfl (Nat.le_of_ble_eq_true rfl) dX3_readItem_22 ⟨Nat.le_of_ble_eq_true rfl, Nat.le_of_ble_eq_true rfl⟩ (fun r_57 hr_57 => ?_)
      obtain rfl := hr_57
      refine lv_icmp_ge (tgt := 82) hx hb dX3_readItem_25 (by decide) (fun c_58 => ?_) (fun c_58 => ?_)
      · exact absurd c_58 (by decide)
      · refine lv_aload_n hx hb dX3_readItem_28 rfl (lv_at hl 2 rfl) ?_
        refine lv_bipush (v := 32) hx hb dX3_readItem_29 (by decide) ?_
        have kc32 : (32 : Int32).toInt = 32 := by decide
        skip
        refine zw_Vv (As := [.int 32]) (rest := []) (wr := [(ri, .inl (cI, 132, .inl (upd fi slot.toNatClampNeg 2)))]) ⟨hx, hb, hml, hown, hts⟩ (c_F_R_expect l D cI cJ cZ cP cS po rd ri rl (rz) (rc) (q_3) (q_4) (rt) (ru) fl (32) hy0 hy1 hy2 hy3 hbq_3.1 hbq_3.2 (by omega) hbq_4.1 hbq_4.2 hy9 hy10 hy11 hy12 H.size) (cwV 1 hts gX3_readItem_X3_expect rfl rfl rfl ⟨rfl, dh_X3_expect⟩ ⟨Nat.le_of_ble_eq_true rfl, Nat.le_of_ble_eq_true rfl⟩) hK hN (hZ.kept hS) hP hD hS hA [1, 2] [0] rfl rfl (by decide) (by decide) (by decide) (va_recv (q := (RX3, TX3, 8)) hK hP (ci := 3) (q0 := 1) rfl rfl) rfl hl.1 rfl (Nat.le_of_ble_eq_true rfl) dX3_readItem_31 ⟨Nat.le_of_ble_eq_true rfl, Nat.le_of_ble_eq_true rfl⟩ (fun u_60 H locs hr_59 hP hD hS => ?_)
        obtain ⟨q_61, q_62⟩ := u_60
        try dsimp only at hr_59
        obtain ⟨hbq_61, hbq_62, hsr_59_0, hsr_59_1, hr_59⟩ := hr_59
        have h9R := zRe (ws' := [(ri, .inl (cI, 132, .inl (upd fi slot.toNatClampNeg 2))), (rd, .inr (3, [.ref ri, .ref rl, .int rz, .int rc, .int q_61, .int q_62, .int rt, .int ru])), (rl, .inl (cI, 160, .inl fl))]) hP hD rfl
        clear hP hD
        obtain ⟨hP, hD⟩ := h9R
        refine lv_aload_n hx hb dX3_readItem_34 rfl (lv_at hl 2 rfl) ?_
        refine va_get (D := D) (ci := 3) (v := .int q_62) (C := RX3) (T := TX3) (N := 8) hx hb hts hi_X3_readItem_3 hown hK hP 1 rfl rfl 5 (by decide) (hts (.fieldLink RX3 28 "TheLiningsInIt$Reader" "fault" "I") (List.mem_of_getElem? (i := 2) rfl)) (fun _ h9 => h9) rfl dX3_readItem_35 ?_
        refine lv_iconst (v := (-1)) hx hb dX3_readItem_38 (by decide) ?_
        refine lv_icmp_ne (tgt := 67) hx hb dX3_readItem_39 (by decide) (fun c_63 => ?_) (fun c_63 => ?_)
        · have fc_63 : q_62.toInt ≠ (-1) := zf_ne c_63 rfl (by decide)
          have hn0 : zN1 fl rz.toInt (q_3 : Int32).toInt (zLo 2 0) (zHi 2 0 rt.toInt) = ((q_3 : Int32).toInt, (q_3 : Int32).toInt, 0) := zN1_no (by omega)
          refine lv_aload_n hx hb dX3_readItem_67 rfl (lv_at hl 2 rfl) ?_
          refine va_get (D := D) (ci := 3) (v := .int q_62) (C := RX3) (T := TX3) (N := 8) hx hb hts hi_X3_readItem_3 hown hK hP 1 rfl rfl 5 (by decide) (hts (.fieldLink RX3 28 "TheLiningsInIt$Reader" "fault" "I") (List.mem_of_getElem? (i := 2) rfl)) (fun _ h9 => h9) rfl dX3_readItem_68 ?_
          refine lv_iconst (v := (-1)) hx hb dX3_readItem_71 (by decide) ?_
          refine lv_icmp_eq (tgt := 76) hx hb dX3_readItem_72 (by decide) (fun c_64 => ?_) (fun c_64 => ?_)
          · exfalso; have fc_64 : q_62.toInt = (-1) := zf_eq c_64 rfl (by decide); omega
          · have fc_64 : q_62.toInt ≠ (-1) := zf_ne c_64 rfl (by decide)
            have e0 : slot.toNatClampNeg = slot.toInt.toNat + 0 := (by show (slot : Int32).toInt.toNat = _; omega)
            have hI := zIn_a hn0 (by first | (right; decide) | (left; omega))
            exact W.vret hx hb hr (fun t ht hW => ⟨⟨(q_61, q_62, rt, ru, (upd fi slot.toNatClampNeg 2)), rfl, ⟨(show 0 ≤ q_61.toInt ∧ q_61.toInt ≤ 160 from hbq_61), (show (-1) ≤ q_62.toInt ∧ q_62.toInt ≤ 160 from hbq_62), (show 0 ≤ rt.toInt ∧ rt.toInt ≤ 40 from ⟨hy9, hy10⟩), (show 0 ≤ ru.toInt ∧ ru.toInt ≤ 8 from ⟨hy11, hy12⟩), (show q_61.toInt ≤ rz.toInt from by omega), (show (q_62.toInt = -1 → zIt (upd fi slot.toNatClampNeg 2) slot.toInt.toNat) from by (intro h; exfalso; omega)), (show (∀ j : Nat, j < slot.toInt.toNat → (upd fi slot.toNatClampNeg 2) j = fi j) from by (intro j hj; simp only [upd]; rw [if_neg (by omega)])), (show (q_62.toInt = (zItem fl rz.toInt rp.toInt rt.toInt ru.toInt).1 ∧ (q_62.toInt = -1 → q_61.toInt = (zItem fl rz.toInt rp.toInt rt.toInt ru.toInt).2.1 ∧ rt.toInt = (zItem fl rz.toInt rp.toInt rt.toInt ru.toInt).2.2.1 ∧ ru.toInt = (zItem fl rz.toInt rp.toInt rt.toInt ru.toInt).2.2.2)) from by (have z9 := hsr_1_1; rw [kc2] at z9; have hq : zFst fl rz.toInt rp.toInt zWds 10 = 2 ∧ ¬ ((2 : Int) = 3 ∧ ru.toInt = 8) := (by omega); have hl9 : (q_3 : Int32).toInt = rp.toInt + ((zWds ((2 : Int)).toNat).length : Nat) := (by omega); rw [zItem_w hq.1 (by decide) hq.2 hl9 hI]; dsimp only; exact ⟨by (first | rfl | omega), fun h => ⟨by (first | rfl | omega), by (show _ = (if (2 : Int) = 0 then _ else _); rw [if_neg (by decide)]), by (show _ = (if (2 : Int) = 3 then _ else _); rw [if_neg (by decide)])⟩⟩)), (show (q_62.toInt = -1 → (((upd fi slot.toNatClampNeg 2) slot.toInt.toNat).toInt = 0 → rt.toInt = ((upd fi slot.toNatClampNeg 2) (slot.toInt.toNat + 1)).toInt) ∧ (((upd fi slot.toNatClampNeg 2) slot.toInt.toNat).toInt ≠ 0 → rt.toInt = rt.toInt) ∧ (((upd fi slot.toNatClampNeg 2) slot.toInt.toNat).toInt = 3 → ru.toInt = ru.toInt + 1) ∧ (((upd fi slot.toNatClampNeg 2) slot.toInt.toNat).toInt ≠ 3 → ru.toInt = ru.toInt)) from by (intro h; exfalso; omega)), trivial⟩, zRet ht hP hD [1, 2, 0] (by decide) rfl⟩, hS.F ht⟩) hS.2.2 dX3_readItem_75
        · have fc_63 : q_62.toInt = (-1) := zf_eq c_63 rfl (by decide)
          refine lv_aload_n hx hb dX3_readItem_42 rfl (lv_at hl 2 rfl) ?_
          refine va_get (D := D) (ci := 3) (v := .ref ri) (C := RX3) (T := TX3) (N := 8) hx hb hts hi_X3_readItem_3 hown hK hP 1 rfl rfl 0 (by decide) (hts (.fieldLink RX3 11 "TheLiningsInIt$Reader" "items" "[I") (List.mem_of_getElem? (i := 1) rfl)) (fun _ h9 => h9) rfl dX3_readItem_43 ?_
          refine lv_iload_n hx hb dX3_readItem_46 rfl (lv_at hl 3 rfl) ?_
          refine lv_iconst (v := 1) hx hb dX3_readItem_47 (by decide) ?_
          refine lv_iadd hx hb dX3_readItem_48 ?_
          refine lv_topi (fun x_65 ex_65 => ?_)
          have qx_65 : x_65.toInt = slot.toInt + 1 := by rw [ex_65]; exact zf_add rfl (by decide) (by omega) (by omega)
          refine lv_iload_n hx hb dX3_readItem_49 rfl (lv_at hl 0 rfl) ?_
          refine lv_iadd hx hb dX3_readItem_50 ?_
          refine lv_topi (fun y_66 ey_66 => ?_)
          obtain rfl : x_65 = y_66 := (ey_66.trans (Int32.add_zero x_65)).symm
          refine lv_aload_n hx hb dX3_readItem_51 rfl (lv_at hl 2 rfl) ?_
          refine lv_iload_n hx hb dX3_readItem_52 rfl (lv_at hl 1 rfl) ?_
          refine lv_iload_n hx hb dX3_readItem_53 rfl (lv_at hl 0 rfl) ?_
          refine zc_S (As := [.int 2, .int 0]) (rest := [.ref rd, .int x_65, .ref ri]) ⟨hx, hb, hml, hown, hts⟩ (c_R_leastOf_2_0 l D cI cJ cZ cP cS po  ) (va_cwS 2 hts gX3_readItem_X3_leastOf rfl rfl rfl dh_X3_leastOf ⟨Nat.le_of_ble_eq_true rfl, Nat.le_of_ble_eq_true rfl⟩) hK hN (hZ.kept hS) rfl hl.1 rfl (Nat.le_of_ble_eq_true rfl) dX3_readItem_54 ⟨Nat.le_of_ble_eq_true rfl, Nat.le_of_ble_eq_true rfl⟩ (fun r_67 hr_67 => ?_)
          obtain rfl := hr_67
          refine lv_aload_n hx hb dX3_readItem_57 rfl (lv_at hl 2 rfl) ?_
          refine lv_iload_n hx hb dX3_readItem_58 rfl (lv_at hl 1 rfl) ?_
          refine lv_iload_n hx hb dX3_readItem_59 rfl (lv_at hl 0 rfl) ?_
          refine zc_V (As := [.int 2, .int 0]) (rest := [.int 0, .ref rd, .int x_65, .ref ri]) ⟨hx, hb, hml, hown, hts⟩ (c_R_mostOf_2_0 l D cI cJ cZ cP cS po rd ri rl (rz) (rc) (q_61) (q_62) (rt) (ru) hy0 hy1 hy2 hy3 hbq_61.1 hbq_61.2 (by omega) hbq_62.1 hbq_62.2 hy9 hy10 hy11 hy12) (cwV 2 hts gX3_readItem_X3_mostOf rfl rfl rfl ⟨rfl, dh_X3_mostOf⟩ ⟨Nat.le_of_ble_eq_true rfl, Nat.le_of_ble_eq_true rfl⟩) hK hN (hZ.kept hS) hP (hP.sub [1] rfl) (va_recv (q := (RX3, TX3, 8)) hK hP (ci := 3) (q0 := 1) rfl rfl) rfl hl.1 rfl (Nat.le_of_ble_eq_true rfl) dX3_readItem_60 ⟨Nat.le_of_ble_eq_true rfl, Nat.le_of_ble_eq_true rfl⟩ (fun r_68 hr_68 => ?_)
          obtain ⟨g_69, g_70, hsr_68_0⟩ := hr_68
          have kc0 : (0 : Int32).toInt = 0 := by decide
          skip
          refine zw_V (As := [.int 0, .int r_68]) (rest := [.int x_65, .ref ri]) (wr := [(ri, .inl (cI, 132, .inl (upd fi slot.toNatClampNeg 2)))]) ⟨hx, hb, hml, hown, hts⟩ (c_F_R_readNumber l D cI cJ cZ cP cS po rd ri rl (rz) (rc) (q_61) (q_62) (rt) (ru) fl (0) (r_68) hy0 hy1 hy2 hy3 hbq_61.1 hbq_61.2 (by omega) hbq_62.1 hbq_62.2 hy9 hy10 hy11 hy12 H.size) (cwV 2 hts gX3_readItem_X3_readNumber rfl rfl rfl ⟨rfl, dh_X3_readNumber⟩ ⟨Nat.le_of_ble_eq_true rfl, Nat.le_of_ble_eq_true rfl⟩) hK hN (hZ.kept hS) hP hD hS hA [1, 2] [0] rfl rfl (by decide) (by decide) (by decide) (va_recv (q := (RX3, TX3, 8)) hK hP (ci := 3) (q0 := 1) rfl rfl) rfl hl.1 rfl (Nat.le_of_ble_eq_true rfl) dX3_readItem_63 ⟨Nat.le_of_ble_eq_true rfl, Nat.le_of_ble_eq_true rfl⟩ (fun r_71 u_72 H locs hr_71 hP hD hS => ?_)
          obtain ⟨q_73, q_74⟩ := u_72
          try dsimp only at hr_71
          obtain ⟨hbq_73, hbq_74, hsr_71_0, hsr_71_1, hsr_71_2, hsr_71_3, hr_71⟩ := hr_71
          have h9R := zRe (ws' := [(ri, .inl (cI, 132, .inl (upd fi slot.toNatClampNeg 2))), (rd, .inr (3, [.ref ri, .ref rl, .int rz, .int rc, .int q_73, .int q_74, .int rt, .int ru])), (rl, .inl (cI, 160, .inl fl))]) hP hD rfl
          clear hP hD
          obtain ⟨hP, hD⟩ := h9R
          obtain ⟨g_75, g_76⟩ := hr_71
          refine va_iast hx hb hK hP hD hS 0 0 rfl rfl (zf_in (by omega) (by omega)) dX3_readItem_66 (fun H locs hP hD hS => ?_)
          have h9R := zRe (ws' := [(ri, .inl (cI, 132, .inl (upd (upd fi slot.toNatClampNeg 2) x_65.toNatClampNeg r_71))), (rd, .inr (3, [.ref ri, .ref rl, .int rz, .int rc, .int q_73, .int q_74, .int rt, .int ru])), (rl, .inl (cI, 160, .inl fl))]) hP hD rfl
          clear hP hD
          obtain ⟨hP, hD⟩ := h9R
          have hn0 : zN1 fl rz.toInt (q_3 : Int32).toInt (zLo 2 0) (zHi 2 0 rt.toInt) = ((q_74 : Int32).toInt, (q_73 : Int32).toInt, r_71.toInt) := zN1_yes (p1 := (q_61 : Int32).toInt) (lo2 := ((0 : Int32)).toInt) (hi2 := ((r_68 : Int32)).toInt) (by omega) (by omega) hsr_71_1 hsr_71_2 (by first | decide | (show (0 : Int) = _; omega)) (by first | decide | (show rt.toInt - 1 = _; omega) | (show rt.toInt = _; omega)) (by omega)
          refine lv_aload_n hx hb dX3_readItem_67 rfl (lv_at hl 2 rfl) ?_
          refine va_get (D := D) (ci := 3) (v := .int q_74) (C := RX3) (T := TX3) (N := 8) hx hb hts hi_X3_readItem_3 hown hK hP 1 rfl rfl 5 (by decide) (hts (.fieldLink RX3 28 "TheLiningsInIt$Reader" "fault" "I") (List.mem_of_getElem? (i := 2) rfl)) (fun _ h9 => h9) rfl dX3_readItem_68 ?_
          refine lv_iconst (v := (-1)) hx hb dX3_readItem_71 (by decide) ?_
          refine lv_icmp_eq (tgt := 76) hx hb dX3_readItem_72 (by decide) (fun c_77 => ?_) (fun c_77 => ?_)
          · have fc_77 : q_74.toInt = (-1) := zf_eq c_77 rfl (by decide)
            refine lv_iinc (v := 1) (lv' := [(3, .int 1), (2, .int 2), (0, .ref rd), (1, .int slot)]) hx hb dX3_readItem_76 hl (k := 0) rfl (by decide) (by decide) rfl (fun ls hl => ?_)
            refine lv_goto (tgt := 20) hx hb dX3_readItem_79 (by decide) ?_
            refine lv_iload_n hx hb dX3_readItem_20 rfl (lv_at hl 0 rfl) ?_
            refine lv_iload_n hx hb dX3_readItem_21 rfl (lv_at hl 1 rfl) ?_
            refine zc_S (As := [.int 2]) (rest := [.int 1]) ⟨hx, hb, hml, hown, hts⟩ (c_R_numbersOf_2 l D cI cJ cZ cP cS po  ) (va_cwS 1 hts gX3_readItem_X3_numbersOf rfl rfl rfl dh_X3_numbersOf ⟨Nat.le_of_ble_eq_true rfl, Nat.le_of_ble_eq_true rfl⟩) hK hN (hZ.kept hS) rfl hl.1 rfl (Nat.le_of_ble_eq_true rfl) dX3_readItem_22 ⟨Nat.le_of_ble_eq_true rfl, Nat.le_of_ble_eq_true rfl⟩ (fun r_78 hr_78 => ?_)
            obtain rfl := hr_78
            refine lv_icmp_ge (tgt := 82) hx hb dX3_readItem_25 (by decide) (fun c_79 => ?_) (fun c_79 => ?_)
            · exact absurd c_79 (by decide)
            · refine lv_aload_n hx hb dX3_readItem_28 rfl (lv_at hl 2 rfl) ?_
              refine lv_bipush (v := 32) hx hb dX3_readItem_29 (by decide) ?_
              skip
              refine zw_Vv (As := [.int 32]) (rest := []) (wr := [(ri, .inl (cI, 132, .inl (upd (upd fi slot.toNatClampNeg 2) x_65.toNatClampNeg r_71)))]) ⟨hx, hb, hml, hown, hts⟩ (c_F_R_expect l D cI cJ cZ cP cS po rd ri rl (rz) (rc) (q_73) (q_74) (rt) (ru) fl (32) hy0 hy1 hy2 hy3 hbq_73.1 hbq_73.2 (by omega) hbq_74.1 hbq_74.2 hy9 hy10 hy11 hy12 H.size) (cwV 1 hts gX3_readItem_X3_expect rfl rfl rfl ⟨rfl, dh_X3_expect⟩ ⟨Nat.le_of_ble_eq_true rfl, Nat.le_of_ble_eq_true rfl⟩) hK hN (hZ.kept hS) hP hD hS hA [1, 2] [0] rfl rfl (by decide) (by decide) (by decide) (va_recv (q := (RX3, TX3, 8)) hK hP (ci := 3) (q0 := 1) rfl rfl) rfl hl.1 rfl (Nat.le_of_ble_eq_true rfl) dX3_readItem_31 ⟨Nat.le_of_ble_eq_true rfl, Nat.le_of_ble_eq_true rfl⟩ (fun u_81 H locs hr_80 hP hD hS => ?_)
              obtain ⟨q_82, q_83⟩ := u_81
              try dsimp only at hr_80
              obtain ⟨hbq_82, hbq_83, hsr_80_0, hsr_80_1, hr_80⟩ := hr_80
              have h9R := zRe (ws' := [(ri, .inl (cI, 132, .inl (upd (upd fi slot.toNatClampNeg 2) x_65.toNatClampNeg r_71))), (rd, .inr (3, [.ref ri, .ref rl, .int rz, .int rc, .int q_82, .int q_83, .int rt, .int ru])), (rl, .inl (cI, 160, .inl fl))]) hP hD rfl
              clear hP hD
              obtain ⟨hP, hD⟩ := h9R
              refine lv_aload_n hx hb dX3_readItem_34 rfl (lv_at hl 2 rfl) ?_
              refine va_get (D := D) (ci := 3) (v := .int q_83) (C := RX3) (T := TX3) (N := 8) hx hb hts hi_X3_readItem_3 hown hK hP 1 rfl rfl 5 (by decide) (hts (.fieldLink RX3 28 "TheLiningsInIt$Reader" "fault" "I") (List.mem_of_getElem? (i := 2) rfl)) (fun _ h9 => h9) rfl dX3_readItem_35 ?_
              refine lv_iconst (v := (-1)) hx hb dX3_readItem_38 (by decide) ?_
              refine lv_icmp_ne (tgt := 67) hx hb dX3_readItem_39 (by decide) (fun c_84 => ?_) (fun c_84 => ?_)
              · have fc_84 : q_83.toInt ≠ (-1) := zf_ne c_84 rfl (by decide)
                have hn1 : zN1 fl rz.toInt (q_73 : Int32).toInt (zLo 2 1) (zHi 2 1 rt.toInt) = ((q_73 : Int32).toInt, (q_73 : Int32).toInt, 0) := zN1_no (by omega)
                refine lv_aload_n hx hb dX3_readItem_67 rfl (lv_at hl 2 rfl) ?_
                refine va_get (D := D) (ci := 3) (v := .int q_83) (C := RX3) (T := TX3) (N := 8) hx hb hts hi_X3_readItem_3 hown hK hP 1 rfl rfl 5 (by decide) (hts (.fieldLink RX3 28 "TheLiningsInIt$Reader" "fault" "I") (List.mem_of_getElem? (i := 2) rfl)) (fun _ h9 => h9) rfl dX3_readItem_68 ?_
                refine lv_iconst (v := (-1)) hx hb dX3_readItem_71 (by decide) ?_
                refine lv_icmp_eq (tgt := 76) hx hb dX3_readItem_72 (by decide) (fun c_85 => ?_) (fun c_85 => ?_)
                · exfalso; have fc_85 : q_83.toInt = (-1) := zf_eq c_85 rfl (by decide); omega
                · have fc_85 : q_83.toInt ≠ (-1) := zf_ne c_85 rfl (by decide)
                  have e0 : slot.toNatClampNeg = slot.toInt.toNat + 0 := (by show (slot : Int32).toInt.toNat = _; omega)
                  have e1 : x_65.toNatClampNeg = slot.toInt.toNat + 1 := (by show (x_65 : Int32).toInt.toNat = _; omega)
                  have hI := zIn_b (by have z := hn0; rw [show (q_74 : Int32).toInt = -1 from by omega] at z; exact z) (by decide) hn1 (by first | (right; decide) | (left; omega))
                  exact W.vret hx hb hr (fun t ht hW => ⟨⟨(q_82, q_83, rt, ru, (upd (upd fi slot.toNatClampNeg 2) x_65.toNatClampNeg r_71)), rfl, ⟨(show 0 ≤ q_82.toInt ∧ q_82.toInt ≤ 160 from hbq_82), (show (-1) ≤ q_83.toInt ∧ q_83.toInt ≤ 160 from hbq_83), (show 0 ≤ rt.toInt ∧ rt.toInt ≤ 40 from ⟨hy9, hy10⟩), (show 0 ≤ ru.toInt ∧ ru.toInt ≤ 8 from ⟨hy11, hy12⟩), (show q_82.toInt ≤ rz.toInt from by omega), (show (q_83.toInt = -1 → zIt (upd (upd fi slot.toNatClampNeg 2) x_65.toNatClampNeg r_71) slot.toInt.toNat) from by (intro h; exfalso; omega)), (show (∀ j : Nat, j < slot.toInt.toNat → (upd (upd fi slot.toNatClampNeg 2) x_65.toNatClampNeg r_71) j = fi j) from by (intro j hj; simp only [upd]; rw [if_neg (by omega), if_neg (by omega)])), (show (q_83.toInt = (zItem fl rz.toInt rp.toInt rt.toInt ru.toInt).1 ∧ (q_83.toInt = -1 → q_82.toInt = (zItem fl rz.toInt rp.toInt rt.toInt ru.toInt).2.1 ∧ rt.toInt = (zItem fl rz.toInt rp.toInt rt.toInt ru.toInt).2.2.1 ∧ ru.toInt = (zItem fl rz.toInt rp.toInt rt.toInt ru.toInt).2.2.2)) from by (have z9 := hsr_1_1; rw [kc2] at z9; have hq : zFst fl rz.toInt rp.toInt zWds 10 = 2 ∧ ¬ ((2 : Int) = 3 ∧ ru.toInt = 8) := (by omega); have hl9 : (q_3 : Int32).toInt = rp.toInt + ((zWds ((2 : Int)).toNat).length : Nat) := (by omega); rw [zItem_w hq.1 (by decide) hq.2 hl9 hI]; dsimp only; exact ⟨by (first | rfl | omega), fun h => ⟨by (first | rfl | omega), by (show _ = (if (2 : Int) = 0 then _ else _); rw [if_neg (by decide)]), by (show _ = (if (2 : Int) = 3 then _ else _); rw [if_neg (by decide)])⟩⟩)), (show (q_83.toInt = -1 → (((upd (upd fi slot.toNatClampNeg 2) x_65.toNatClampNeg r_71) slot.toInt.toNat).toInt = 0 → rt.toInt = ((upd (upd fi slot.toNatClampNeg 2) x_65.toNatClampNeg r_71) (slot.toInt.toNat + 1)).toInt) ∧ (((upd (upd fi slot.toNatClampNeg 2) x_65.toNatClampNeg r_71) slot.toInt.toNat).toInt ≠ 0 → rt.toInt = rt.toInt) ∧ (((upd (upd fi slot.toNatClampNeg 2) x_65.toNatClampNeg r_71) slot.toInt.toNat).toInt = 3 → ru.toInt = ru.toInt + 1) ∧ (((upd (upd fi slot.toNatClampNeg 2) x_65.toNatClampNeg r_71) slot.toInt.toNat).toInt ≠ 3 → ru.toInt = ru.toInt)) from by (intro h; exfalso; omega)), trivial⟩, zRet ht hP hD [1, 2, 0] (by decide) rfl⟩, hS.F ht⟩) hS.2.2 dX3_readItem_75
              · have fc_84 : q_83.toInt = (-1) := zf_eq c_84 rfl (by decide)
                refine lv_aload_n hx hb dX3_readItem_42 rfl (lv_at hl 2 rfl) ?_
                refine va_get (D := D) (ci := 3) (v := .ref ri) (C := RX3) (T := TX3) (N := 8) hx hb hts hi_X3_readItem_3 hown hK hP 1 rfl rfl 0 (by decide) (hts (.fieldLink RX3 11 "TheLiningsInIt$Reader" "items" "[I") (List.mem_of_getElem? (i := 1) rfl)) (fun _ h9 => h9) rfl dX3_readItem_43 ?_
                refine lv_iload_n hx hb dX3_readItem_46 rfl (lv_at hl 3 rfl) ?_
                refine lv_iconst (v := 1) hx hb dX3_readItem_47 (by decide) ?_
                refine lv_iadd hx hb dX3_readItem_48 ?_
                refine lv_topi (fun y_86 ey_86 => ?_)
                obtain rfl : x_65 = y_86 := ex_65.trans ey_86.symm
                refine lv_iload_n hx hb dX3_readItem_49 rfl (lv_at hl 0 rfl) ?_
                refine lv_iadd hx hb dX3_readItem_50 ?_
                refine lv_topi (fun x_87 ex_87 => ?_)
                have qx_87 : x_87.toInt = x_65.toInt + 1 := by rw [ex_87]; exact zf_add rfl (by decide) (by omega) (by omega)
                refine lv_aload_n hx hb dX3_readItem_51 rfl (lv_at hl 2 rfl) ?_
                refine lv_iload_n hx hb dX3_readItem_52 rfl (lv_at hl 1 rfl) ?_
                refine lv_iload_n hx hb dX3_readItem_53 rfl (lv_at hl 0 rfl) ?_
                refine zc_S (As := [.int 2, .int 1]) (rest := [.ref rd, .int x_87, .ref ri]) ⟨hx, hb, hml, hown, hts⟩ (c_R_leastOf_2_1 l D cI cJ cZ cP cS po  ) (va_cwS 2 hts gX3_readItem_X3_leastOf rfl rfl rfl dh_X3_leastOf ⟨Nat.le_of_ble_eq_true rfl, Nat.le_of_ble_eq_true rfl⟩) hK hN (hZ.kept hS) rfl hl.1 rfl (Nat.le_of_ble_eq_true rfl) dX3_readItem_54 ⟨Nat.le_of_ble_eq_true rfl, Nat.le_of_ble_eq_true rfl⟩ (fun r_88 hr_88 => ?_)
                obtain rfl := hr_88
                refine lv_aload_n hx hb dX3_readItem_57 rfl (lv_at hl 2 rfl) ?_
                refine lv_iload_n hx hb dX3_readItem_58 rfl (lv_at hl 1 rfl) ?_
                refine lv_iload_n hx hb dX3_readItem_59 rfl (lv_at hl 0 rfl) ?_
                refine zc_V (As := [.int 2, .int 1]) (rest := [.int 0, .ref rd, .int x_87, .ref ri]) ⟨hx, hb, hml, hown, hts⟩ (c_R_mostOf_2_1 l D cI cJ cZ cP cS po rd ri rl (rz) (rc) (q_82) (q_83) (rt) (ru) hy0 hy1 hy2 hy3 hbq_82.1 hbq_82.2 (by omega) hbq_83.1 hbq_83.2 hy9 hy10 hy11 hy12) (cwV 2 hts gX3_readItem_X3_mostOf rfl rfl rfl ⟨rfl, dh_X3_mostOf⟩ ⟨Nat.le_of_ble_eq_true rfl, Nat.le_of_ble_eq_true rfl⟩) hK hN (hZ.kept hS) hP (hP.sub [1] rfl) (va_recv (q := (RX3, TX3, 8)) hK hP (ci := 3) (q0 := 1) rfl rfl) rfl hl.1 rfl (Nat.le_of_ble_eq_true rfl) dX3_readItem_60 ⟨Nat.le_of_ble_eq_true rfl, Nat.le_of_ble_eq_true rfl⟩ (fun r_89 hr_89 => ?_)
                obtain rfl := hr_89
                have kc9 : (9 : Int32).toInt = 9 := by decide
                skip
                refine zw_V (As := [.int 0, .int 9]) (rest := [.int x_87, .ref ri]) (wr := [(ri, .inl (cI, 132, .inl (upd (upd fi slot.toNatClampNeg 2) x_65.toNatClampNeg r_71)))]) ⟨hx, hb, hml, hown, hts⟩ (c_F_R_readNumber l D cI cJ cZ cP cS po rd ri rl (rz) (rc) (q_82) (q_83) (rt) (ru) fl (0) (9) hy0 hy1 hy2 hy3 hbq_82.1 hbq_82.2 (by omega) hbq_83.1 hbq_83.2 hy9 hy10 hy11 hy12 H.size) (cwV 2 hts gX3_readItem_X3_readNumber rfl rfl rfl ⟨rfl, dh_X3_readNumber⟩ ⟨Nat.le_of_ble_eq_true rfl, Nat.le_of_ble_eq_true rfl⟩) hK hN (hZ.kept hS) hP hD hS hA [1, 2] [0] rfl rfl (by decide) (by decide) (by decide) (va_recv (q := (RX3, TX3, 8)) hK hP (ci := 3) (q0 := 1) rfl rfl) rfl hl.1 rfl (Nat.le_of_ble_eq_true rfl) dX3_readItem_63 ⟨Nat.le_of_ble_eq_true rfl, Nat.le_of_ble_eq_true rfl⟩ (fun r_90 u_91 H locs hr_90 hP hD hS => ?_)
                obtain ⟨q_92, q_93⟩ := u_91
                try dsimp only at hr_90
                obtain ⟨hbq_92, hbq_93, hsr_90_0, hsr_90_1, hsr_90_2, hsr_90_3, hr_90⟩ := hr_90
                have h9R := zRe (ws' := [(ri, .inl (cI, 132, .inl (upd (upd fi slot.toNatClampNeg 2) x_65.toNatClampNeg r_71))), (rd, .inr (3, [.ref ri, .ref rl, .int rz, .int rc, .int q_92, .int q_93, .int rt, .int ru])), (rl, .inl (cI, 160, .inl fl))]) hP hD rfl
                clear hP hD
                obtain ⟨hP, hD⟩ := h9R
                obtain ⟨g_94, g_95⟩ := hr_90
                refine va_iast hx hb hK hP hD hS 0 0 rfl rfl (zf_in (by omega) (by omega)) dX3_readItem_66 (fun H locs hP hD hS => ?_)
                have h9R := zRe (ws' := [(ri, .inl (cI, 132, .inl (upd (upd (upd fi slot.toNatClampNeg 2) x_65.toNatClampNeg r_71) x_87.toNatClampNeg r_90))), (rd, .inr (3, [.ref ri, .ref rl, .int rz, .int rc, .int q_92, .int q_93, .int rt, .int ru])), (rl, .inl (cI, 160, .inl fl))]) hP hD rfl
                clear hP hD
                obtain ⟨hP, hD⟩ := h9R
                have hn1 : zN1 fl rz.toInt (q_73 : Int32).toInt (zLo 2 1) (zHi 2 1 rt.toInt) = ((q_93 : Int32).toInt, (q_92 : Int32).toInt, r_90.toInt) := zN1_yes (p1 := (q_82 : Int32).toInt) (lo2 := ((0 : Int32)).toInt) (hi2 := ((9 : Int32)).toInt) (by omega) (by omega) hsr_90_1 hsr_90_2 (by first | decide | (show (0 : Int) = _; omega)) (by first | decide | (show (9 : Int) = _; decide) | (show rt.toInt - 1 = _; omega) | (show rt.toInt = _; omega)) (by omega)
                refine lv_aload_n hx hb dX3_readItem_67 rfl (lv_at hl 2 rfl) ?_
                refine va_get (D := D) (ci := 3) (v := .int q_93) (C := RX3) (T := TX3) (N := 8) hx hb hts hi_X3_readItem_3 hown hK hP 1 rfl rfl 5 (by decide) (hts (.fieldLink RX3 28 "TheLiningsInIt$Reader" "fault" "I") (List.mem_of_getElem? (i := 2) rfl)) (fun _ h9 => h9) rfl dX3_readItem_68 ?_
                refine lv_iconst (v := (-1)) hx hb dX3_readItem_71 (by decide) ?_
                refine lv_icmp_eq (tgt := 76) hx hb dX3_readItem_72 (by decide) (fun c_96 => ?_) (fun c_96 => ?_)
                · have fc_96 : q_93.toInt = (-1) := zf_eq c_96 rfl (by decide)
                  refine lv_iinc (v := 2) (lv' := [(3, .int 2), (2, .int 2), (0, .ref rd), (1, .int slot)]) hx hb dX3_readItem_76 hl (k := 0) rfl (by decide) (by decide) rfl (fun ls hl => ?_)
                  refine lv_goto (tgt := 20) hx hb dX3_readItem_79 (by decide) ?_
                  refine lv_iload_n hx hb dX3_readItem_20 rfl (lv_at hl 0 rfl) ?_
                  refine lv_iload_n hx hb dX3_readItem_21 rfl (lv_at hl 1 rfl) ?_
                  refine zc_S (As := [.int 2]) (rest := [.int 2]) ⟨hx, hb, hml, hown, hts⟩ (c_R_numbersOf_2 l D cI cJ cZ cP cS po  ) (va_cwS 1 hts gX3_readItem_X3_numbersOf rfl rfl rfl dh_X3_numbersOf ⟨Nat.le_of_ble_eq_true rfl, Nat.le_of_ble_eq_true rfl⟩) hK hN (hZ.kept hS) rfl hl.1 rfl (Nat.le_of_ble_eq_true rfl) dX3_readItem_22 ⟨Nat.le_of_ble_eq_true rfl, Nat.le_of_ble_eq_true rfl⟩ (fun r_97 hr_97 => ?_)
                  obtain rfl := hr_97
                  refine lv_icmp_ge (tgt := 82) hx hb dX3_readItem_25 (by decide) (fun c_98 => ?_) (fun c_98 => ?_)
                  · refine lv_iload_n hx hb dX3_readItem_82 rfl (lv_at hl 1 rfl) ?_
                    refine lv_if_ne (tgt := 101) hx hb dX3_readItem_83 (by decide) (fun c_99 => ?_) (fun c_99 => ?_)
                    · refine lv_iload_n hx hb dX3_readItem_101 rfl (lv_at hl 1 rfl) ?_
                      refine lv_iconst (v := 3) hx hb dX3_readItem_102 (by decide) ?_
                      refine lv_icmp_ne (tgt := 116) hx hb dX3_readItem_103 (by decide) (fun c_100 => ?_) (fun c_100 => ?_)
                      · have e0 : slot.toNatClampNeg = slot.toInt.toNat + 0 := (by show (slot : Int32).toInt.toNat = _; omega)
                        have e1 : x_65.toNatClampNeg = slot.toInt.toNat + 1 := (by show (x_65 : Int32).toInt.toNat = _; omega)
                        have e2 : x_87.toNatClampNeg = slot.toInt.toNat + 2 := (by show (x_87 : Int32).toInt.toNat = _; omega)
                        have hI := zIn_b (by have z := hn0; rw [show (q_74 : Int32).toInt = -1 from by omega] at z; exact z) (by decide) hn1 (by first | (right; decide) | (left; omega))
                        exact W.vret hx hb hr (fun t ht hW => ⟨⟨(q_92, q_93, rt, ru, (upd (upd (upd fi slot.toNatClampNeg 2) x_65.toNatClampNeg r_71) x_87.toNatClampNeg r_90)), rfl, ⟨(show 0 ≤ q_92.toInt ∧ q_92.toInt ≤ 160 from hbq_92), (show (-1) ≤ q_93.toInt ∧ q_93.toInt ≤ 160 from hbq_93), (show 0 ≤ rt.toInt ∧ rt.toInt ≤ 40 from ⟨hy9, hy10⟩), (show 0 ≤ ru.toInt ∧ ru.toInt ≤ 8 from ⟨hy11, hy12⟩), (show q_92.toInt ≤ rz.toInt from by omega), (show (q_93.toInt = -1 → zIt (upd (upd (upd fi slot.toNatClampNeg 2) x_65.toNatClampNeg r_71) x_87.toNatClampNeg r_90) slot.toInt.toNat) from by (intro h; have k4 : (2 : Int32).toInt = 2 := (by decide); exact zIt_mk (by simp only [upd]; rw [if_neg (by omega), if_neg (by omega), if_pos (by omega)]) (by simp only [upd]; rw [if_neg (by omega), if_pos (by omega)]) (by simp only [upd]; rw [if_pos (by omega)]) (rfl) (by unfold zItv; refine ⟨?_, ?_, ?_, ?_, ?_, ?_, ?_, ?_, ?_, ?_, ?_⟩ <;> (intros; omega)))), (show (∀ j : Nat, j < slot.toInt.toNat → (upd (upd (upd fi slot.toNatClampNeg 2) x_65.toNatClampNeg r_71) x_87.toNatClampNeg r_90) j = fi j) from by (intro j hj; simp only [upd]; rw [if_neg (by omega), if_neg (by omega), if_neg (by omega)])), (show (q_93.toInt = (zItem fl rz.toInt rp.toInt rt.toInt ru.toInt).1 ∧ (q_93.toInt = -1 → q_92.toInt = (zItem fl rz.toInt rp.toInt rt.toInt ru.toInt).2.1 ∧ rt.toInt = (zItem fl rz.toInt rp.toInt rt.toInt ru.toInt).2.2.1 ∧ ru.toInt = (zItem fl rz.toInt rp.toInt rt.toInt ru.toInt).2.2.2)) from by (have z9 := hsr_1_1; rw [kc2] at z9; have hq : zFst fl rz.toInt rp.toInt zWds 10 = 2 ∧ ¬ ((2 : Int) = 3 ∧ ru.toInt = 8) := (by omega); have hl9 : (q_3 : Int32).toInt = rp.toInt + ((zWds ((2 : Int)).toNat).length : Nat) := (by omega); rw [zItem_w hq.1 (by decide) hq.2 hl9 hI]; dsimp only; exact ⟨by (first | rfl | omega), fun h => ⟨by (first | rfl | omega), by (show _ = (if (2 : Int) = 0 then _ else _); rw [if_neg (by decide)]), by (show _ = (if (2 : Int) = 3 then _ else _); rw [if_neg (by decide)])⟩⟩)), (show (q_93.toInt = -1 → (((upd (upd (upd fi slot.toNatClampNeg 2) x_65.toNatClampNeg r_71) x_87.toNatClampNeg r_90) slot.toInt.toNat).toInt = 0 → rt.toInt = ((upd (upd (upd fi slot.toNatClampNeg 2) x_65.toNatClampNeg r_71) x_87.toNatClampNeg r_90) (slot.toInt.toNat + 1)).toInt) ∧ (((upd (upd (upd fi slot.toNatClampNeg 2) x_65.toNatClampNeg r_71) x_87.toNatClampNeg r_90) slot.toInt.toNat).toInt ≠ 0 → rt.toInt = rt.toInt) ∧ (((upd (upd (upd fi slot.toNatClampNeg 2) x_65.toNatClampNeg r_71) x_87.toNatClampNeg r_90) slot.toInt.toNat).toInt = 3 → ru.toInt = ru.toInt + 1) ∧ (((upd (upd (upd fi slot.toNatClampNeg 2) x_65.toNatClampNeg r_71) x_87.toNatClampNeg r_90) slot.toInt.toNat).toInt ≠ 3 → ru.toInt = ru.toInt)) from by (intro h; have g0 : (upd (upd (upd fi slot.toNatClampNeg 2) x_65.toNatClampNeg r_71) x_87.toNatClampNeg r_90) slot.toInt.toNat = (2 : Int32) := (by simp only [upd]; rw [if_neg (by omega), if_neg (by omega), if_pos (by omega)]); have g1 : (upd (upd (upd fi slot.toNatClampNeg 2) x_65.toNatClampNeg r_71) x_87.toNatClampNeg r_90) (slot.toInt.toNat + 1) = (r_71 : Int32) := (by simp only [upd]; rw [if_neg (by omega), if_pos (by omega)]); rw [g0, g1]; refine ⟨?_, ?_, ?_, ?_⟩ <;> (intro h9; first | rfl | omega | (exfalso; omega)))), trivial⟩, zRet ht hP hD [1, 2, 0] (by decide) rfl⟩, hS.F ht⟩) hS.2.2 dX3_readItem_116
                      · exact absurd c_100 (by decide)
                    · exact absurd c_99 (by decide)
                  · exact absurd c_98 (by decide)
                · have fc_96 : q_93.toInt ≠ (-1) := zf_ne c_96 rfl (by decide)
                  have e0 : slot.toNatClampNeg = slot.toInt.toNat + 0 := (by show (slot : Int32).toInt.toNat = _; omega)
                  have e1 : x_65.toNatClampNeg = slot.toInt.toNat + 1 := (by show (x_65 : Int32).toInt.toNat = _; omega)
                  have e2 : x_87.toNatClampNeg = slot.toInt.toNat + 2 := (by show (x_87 : Int32).toInt.toNat = _; omega)
                  have hI := zIn_b (by have z := hn0; rw [show (q_74 : Int32).toInt = -1 from by omega] at z; exact z) (by decide) hn1 (by first | (right; decide) | (left; omega))
                  exact W.vret hx hb hr (fun t ht hW => ⟨⟨(q_92, q_93, rt, ru, (upd (upd (upd fi slot.toNatClampNeg 2) x_65.toNatClampNeg r_71) x_87.toNatClampNeg r_90)), rfl, ⟨(show 0 ≤ q_92.toInt ∧ q_92.toInt ≤ 160 from hbq_92), (show (-1) ≤ q_93.toInt ∧ q_93.toInt ≤ 160 from hbq_93), (show 0 ≤ rt.toInt ∧ rt.toInt ≤ 40 from ⟨hy9, hy10⟩), (show 0 ≤ ru.toInt ∧ ru.toInt ≤ 8 from ⟨hy11, hy12⟩), (show q_92.toInt ≤ rz.toInt from by omega), (show (q_93.toInt = -1 → zIt (upd (upd (upd fi slot.toNatClampNeg 2) x_65.toNatClampNeg r_71) x_87.toNatClampNeg r_90) slot.toInt.toNat) from by (intro h; exfalso; omega)), (show (∀ j : Nat, j < slot.toInt.toNat → (upd (upd (upd fi slot.toNatClampNeg 2) x_65.toNatClampNeg r_71) x_87.toNatClampNeg r_90) j = fi j) from by (intro j hj; simp only [upd]; rw [if_neg (by omega), if_neg (by omega), if_neg (by omega)])), (show (q_93.toInt = (zItem fl rz.toInt rp.toInt rt.toInt ru.toInt).1 ∧ (q_93.toInt = -1 → q_92.toInt = (zItem fl rz.toInt rp.toInt rt.toInt ru.toInt).2.1 ∧ rt.toInt = (zItem fl rz.toInt rp.toInt rt.toInt ru.toInt).2.2.1 ∧ ru.toInt = (zItem fl rz.toInt rp.toInt rt.toInt ru.toInt).2.2.2)) from by (have z9 := hsr_1_1; rw [kc2] at z9; have hq : zFst fl rz.toInt rp.toInt zWds 10 = 2 ∧ ¬ ((2 : Int) = 3 ∧ ru.toInt = 8) := (by omega); have hl9 : (q_3 : Int32).toInt = rp.toInt + ((zWds ((2 : Int)).toNat).length : Nat) := (by omega); rw [zItem_w hq.1 (by decide) hq.2 hl9 hI]; dsimp only; exact ⟨by (first | rfl | omega), fun h => ⟨by (first | rfl | omega), by (show _ = (if (2 : Int) = 0 then _ else _); rw [if_neg (by decide)]), by (show _ = (if (2 : Int) = 3 then _ else _); rw [if_neg (by decide)])⟩⟩)), (show (q_93.toInt = -1 → (((upd (upd (upd fi slot.toNatClampNeg 2) x_65.toNatClampNeg r_71) x_87.toNatClampNeg r_90) slot.toInt.toNat).toInt = 0 → rt.toInt = ((upd (upd (upd fi slot.toNatClampNeg 2) x_65.toNatClampNeg r_71) x_87.toNatClampNeg r_90) (slot.toInt.toNat + 1)).toInt) ∧ (((upd (upd (upd fi slot.toNatClampNeg 2) x_65.toNatClampNeg r_71) x_87.toNatClampNeg r_90) slot.toInt.toNat).toInt ≠ 0 → rt.toInt = rt.toInt) ∧ (((upd (upd (upd fi slot.toNatClampNeg 2) x_65.toNatClampNeg r_71) x_87.toNatClampNeg r_90) slot.toInt.toNat).toInt = 3 → ru.toInt = ru.toInt + 1) ∧ (((upd (upd (upd fi slot.toNatClampNeg 2) x_65.toNatClampNeg r_71) x_87.toNatClampNeg r_90) slot.toInt.toNat).toInt ≠ 3 → ru.toInt = ru.toInt)) from by (intro h; exfalso; omega)), trivial⟩, zRet ht hP hD [1, 2, 0] (by decide) rfl⟩, hS.F ht⟩) hS.2.2 dX3_readItem_75
          · have fc_77 : q_74.toInt ≠ (-1) := zf_ne c_77 rfl (by decide)
            have e0 : slot.toNatClampNeg = slot.toInt.toNat + 0 := (by show (slot : Int32).toInt.toNat = _; omega)
            have e1 : x_65.toNatClampNeg = slot.toInt.toNat + 1 := (by show (x_65 : Int32).toInt.toNat = _; omega)
            have hI := zIn_a hn0 (by first | (right; decide) | (left; omega))
            exact W.vret hx hb hr (fun t ht hW => ⟨⟨(q_73, q_74, rt, ru, (upd (upd fi slot.toNatClampNeg 2) x_65.toNatClampNeg r_71)), rfl, ⟨(show 0 ≤ q_73.toInt ∧ q_73.toInt ≤ 160 from hbq_73), (show (-1) ≤ q_74.toInt ∧ q_74.toInt ≤ 160 from hbq_74), (show 0 ≤ rt.toInt ∧ rt.toInt ≤ 40 from ⟨hy9, hy10⟩), (show 0 ≤ ru.toInt ∧ ru.toInt ≤ 8 from ⟨hy11, hy12⟩), (show q_73.toInt ≤ rz.toInt from by omega), (show (q_74.toInt = -1 → zIt (upd (upd fi slot.toNatClampNeg 2) x_65.toNatClampNeg r_71) slot.toInt.toNat) from by (intro h; exfalso; omega)), (show (∀ j : Nat, j < slot.toInt.toNat → (upd (upd fi slot.toNatClampNeg 2) x_65.toNatClampNeg r_71) j = fi j) from by (intro j hj; simp only [upd]; rw [if_neg (by omega), if_neg (by omega)])), (show (q_74.toInt = (zItem fl rz.toInt rp.toInt rt.toInt ru.toInt).1 ∧ (q_74.toInt = -1 → q_73.toInt = (zItem fl rz.toInt rp.toInt rt.toInt ru.toInt).2.1 ∧ rt.toInt = (zItem fl rz.toInt rp.toInt rt.toInt ru.toInt).2.2.1 ∧ ru.toInt = (zItem fl rz.toInt rp.toInt rt.toInt ru.toInt).2.2.2)) from by (have z9 := hsr_1_1; rw [kc2] at z9; have hq : zFst fl rz.toInt rp.toInt zWds 10 = 2 ∧ ¬ ((2 : Int) = 3 ∧ ru.toInt = 8) := (by omega); have hl9 : (q_3 : Int32).toInt = rp.toInt + ((zWds ((2 : Int)).toNat).length : Nat) := (by omega); rw [zItem_w hq.1 (by decide) hq.2 hl9 hI]; dsimp only; exact ⟨by (first | rfl | omega), fun h => ⟨by (first | rfl | omega), by (show _ = (if (2 : Int) = 0 then _ else _); rw [if_neg (by decide)]), by (show _ = (if (2 : Int) = 3 then _ else _); rw [if_neg (by decide)])⟩⟩)), (show (q_74.toInt = -1 → (((upd (upd fi slot.toNatClampNeg 2) x_65.toNatClampNeg r_71) slot.toInt.toNat).toInt = 0 → rt.toInt = ((upd (upd fi slot.toNatClampNeg 2) x_65.toNatClampNeg r_71) (slot.toInt.toNat + 1)).toInt) ∧ (((upd (upd fi slot.toNatClampNeg 2) x_65.toNatClampNeg r_71) slot.toInt.toNat).toInt ≠ 0 → rt.toInt = rt.toInt) ∧ (((upd (upd fi slot.toNatClampNeg 2) x_65.toNatClampNeg r_71) slot.toInt.toNat).toInt = 3 → ru.toInt = ru.toInt + 1) ∧ (((upd (upd fi slot.toNatClampNeg 2) x_65.toNatClampNeg r_71) slot.toInt.toNat).toInt ≠ 3 → ru.toInt = ru.toInt)) from by (intro h; exfalso; omega)), trivial⟩, zRet ht hP hD [1, 2, 0] (by decide) rfl⟩, hS.F ht⟩) hS.2.2 dX3_readItem_75
    · have kc3 : (3 : Int32).toInt = 3 := by decide
      refine lv_aload_n hx hb dX3_readItem_11 rfl (lv_at hl 1 rfl) ?_
      refine va_get (D := D) (ci := 3) (v := .ref ri) (C := RX3) (T := TX3) (N := 8) hx hb hts hi_X3_readItem_3 hown hK hP 1 rfl rfl 0 (by decide) (hts (.fieldLink RX3 11 "TheLiningsInIt$Reader" "items" "[I") (List.mem_of_getElem? (i := 1) rfl)) (fun _ h9 => h9) rfl dX3_readItem_12 ?_
      refine lv_iload_n hx hb dX3_readItem_15 rfl (lv_at hl 2 rfl) ?_
      refine lv_iload_n hx hb dX3_readItem_16 rfl (lv_at hl 0 rfl) ?_
      refine va_iast hx hb hK hP hD hS 0 0 rfl rfl (zf_in (by omega) (by omega)) dX3_readItem_17 (fun H locs hP hD hS => ?_)
      have h9R := zRe (ws' := [(ri, .inl (cI, 132, .inl (upd fi slot.toNatClampNeg 3))), (rd, .inr (3, [.ref ri, .ref rl, .int rz, .int rc, .int q_3, .int q_4, .int rt, .int ru])), (rl, .inl (cI, 160, .inl fl))]) hP hD rfl
      clear hP hD
      obtain ⟨hP, hD⟩ := h9R
      refine lv_iconst (v := 0) hx hb dX3_readItem_18 (by decide) ?_
      refine lv_istore_n (lv' := [(3, .int 0), (2, .int 3), (0, .ref rd), (1, .int slot)]) hx hb dX3_readItem_19 rfl hl (by decide) rfl (fun ls hl => ?_)
      refine lv_iload_n hx hb dX3_readItem_20 rfl (lv_at hl 0 rfl) ?_
      refine lv_iload_n hx hb dX3_readItem_21 rfl (lv_at hl 1 rfl) ?_
      refine zc_S (As := [.int 3]) (rest := [.int 0]) ⟨hx, hb, hml, hown, hts⟩ (c_R_numbersOf_3 l D cI cJ cZ cP cS po  ) (va_cwS 1 hts gX3_readItem_X3_numbersOf rfl rfl rfl dh_X3_numbersOf ⟨Nat.le_of_ble_eq_true rfl, Nat.le_of_ble_eq_true rfl⟩) hK hN (hZ.kept hS) rfl hl.1 rfl (Nat.le_of_ble_eq_true rfl) dX3_readItem_22 ⟨Nat.le_of_ble_eq_true rfl, Nat.le_of_ble_eq_true rfl⟩ (fun r_101 hr_101 => ?_)
      obtain rfl := hr_101
      refine lv_icmp_ge (tgt := 82) hx hb dX3_readItem_25 (by decide) (fun c_102 => ?_) (fun c_102 => ?_)
      · exact absurd c_102 (by decide)
      · refine lv_aload_n hx hb dX3_readItem_28 rfl (lv_at hl 2 rfl) ?_
        refine lv_bipush (v := 32) hx hb dX3_readItem_29 (by decide) ?_
        have kc32 : (32 : Int32).toInt = 32 := by decide
        skip
        refine zw_Vv (As := [.int 32]) (rest := []) (wr := [(ri, .inl (cI, 132, .inl (upd fi slot.toNatClampNeg 3)))]) ⟨hx, hb, hml, hown, hts⟩ (c_F_R_expect l D cI cJ cZ cP cS po rd ri rl (rz) (rc) (q_3) (q_4) (rt) (ru) fl (32) hy0 hy1 hy2 hy3 hbq_3.1 hbq_3.2 (by omega) hbq_4.1 hbq_4.2 hy9 hy10 hy11 hy12 H.size) (cwV 1 hts gX3_readItem_X3_expect rfl rfl rfl ⟨rfl, dh_X3_expect⟩ ⟨Nat.le_of_ble_eq_true rfl, Nat.le_of_ble_eq_true rfl⟩) hK hN (hZ.kept hS) hP hD hS hA [1, 2] [0] rfl rfl (by decide) (by decide) (by decide) (va_recv (q := (RX3, TX3, 8)) hK hP (ci := 3) (q0 := 1) rfl rfl) rfl hl.1 rfl (Nat.le_of_ble_eq_true rfl) dX3_readItem_31 ⟨Nat.le_of_ble_eq_true rfl, Nat.le_of_ble_eq_true rfl⟩ (fun u_104 H locs hr_103 hP hD hS => ?_)
        obtain ⟨q_105, q_106⟩ := u_104
        try dsimp only at hr_103
        obtain ⟨hbq_105, hbq_106, hsr_103_0, hsr_103_1, hr_103⟩ := hr_103
        have h9R := zRe (ws' := [(ri, .inl (cI, 132, .inl (upd fi slot.toNatClampNeg 3))), (rd, .inr (3, [.ref ri, .ref rl, .int rz, .int rc, .int q_105, .int q_106, .int rt, .int ru])), (rl, .inl (cI, 160, .inl fl))]) hP hD rfl
        clear hP hD
        obtain ⟨hP, hD⟩ := h9R
        refine lv_aload_n hx hb dX3_readItem_34 rfl (lv_at hl 2 rfl) ?_
        refine va_get (D := D) (ci := 3) (v := .int q_106) (C := RX3) (T := TX3) (N := 8) hx hb hts hi_X3_readItem_3 hown hK hP 1 rfl rfl 5 (by decide) (hts (.fieldLink RX3 28 "TheLiningsInIt$Reader" "fault" "I") (List.mem_of_getElem? (i := 2) rfl)) (fun _ h9 => h9) rfl dX3_readItem_35 ?_
        refine lv_iconst (v := (-1)) hx hb dX3_readItem_38 (by decide) ?_
        refine lv_icmp_ne (tgt := 67) hx hb dX3_readItem_39 (by decide) (fun c_107 => ?_) (fun c_107 => ?_)
        · have fc_107 : q_106.toInt ≠ (-1) := zf_ne c_107 rfl (by decide)
          have hn0 : zN1 fl rz.toInt (q_3 : Int32).toInt (zLo 3 0) (zHi 3 0 rt.toInt) = ((q_3 : Int32).toInt, (q_3 : Int32).toInt, 0) := zN1_no (by omega)
          refine lv_aload_n hx hb dX3_readItem_67 rfl (lv_at hl 2 rfl) ?_
          refine va_get (D := D) (ci := 3) (v := .int q_106) (C := RX3) (T := TX3) (N := 8) hx hb hts hi_X3_readItem_3 hown hK hP 1 rfl rfl 5 (by decide) (hts (.fieldLink RX3 28 "TheLiningsInIt$Reader" "fault" "I") (List.mem_of_getElem? (i := 2) rfl)) (fun _ h9 => h9) rfl dX3_readItem_68 ?_
          refine lv_iconst (v := (-1)) hx hb dX3_readItem_71 (by decide) ?_
          refine lv_icmp_eq (tgt := 76) hx hb dX3_readItem_72 (by decide) (fun c_108 => ?_) (fun c_108 => ?_)
          · exfalso; have fc_108 : q_106.toInt = (-1) := zf_eq c_108 rfl (by decide); omega
          · have fc_108 : q_106.toInt ≠ (-1) := zf_ne c_108 rfl (by decide)
            have e0 : slot.toNatClampNeg = slot.toInt.toNat + 0 := (by show (slot : Int32).toInt.toNat = _; omega)
            have hI := zIn_a hn0 (by first | (right; decide) | (left; omega))
            exact W.vret hx hb hr (fun t ht hW => ⟨⟨(q_105, q_106, rt, ru, (upd fi slot.toNatClampNeg 3)), rfl, ⟨(show 0 ≤ q_105.toInt ∧ q_105.toInt ≤ 160 from hbq_105), (show (-1) ≤ q_106.toInt ∧ q_106.toInt ≤ 160 from hbq_106), (show 0 ≤ rt.toInt ∧ rt.toInt ≤ 40 from ⟨hy9, hy10⟩), (show 0 ≤ ru.toInt ∧ ru.toInt ≤ 8 from ⟨hy11, hy12⟩), (show q_105.toInt ≤ rz.toInt from by omega), (show (q_106.toInt = -1 → zIt (upd fi slot.toNatClampNeg 3) slot.toInt.toNat) from by (intro h; exfalso; omega)), (show (∀ j : Nat, j < slot.toInt.toNat → (upd fi slot.toNatClampNeg 3) j = fi j) from by (intro j hj; simp only [upd]; rw [if_neg (by omega)])), (show (q_106.toInt = (zItem fl rz.toInt rp.toInt rt.toInt ru.toInt).1 ∧ (q_106.toInt = -1 → q_105.toInt = (zItem fl rz.toInt rp.toInt rt.toInt ru.toInt).2.1 ∧ rt.toInt = (zItem fl rz.toInt rp.toInt rt.toInt ru.toInt).2.2.1 ∧ ru.toInt = (zItem fl rz.toInt rp.toInt rt.toInt ru.toInt).2.2.2)) from by (have z9 := hsr_1_1; rw [kc3] at z9; have hq : zFst fl rz.toInt rp.toInt zWds 10 = 3 ∧ ¬ ((3 : Int) = 3 ∧ ru.toInt = 8) := (by omega); have hl9 : (q_3 : Int32).toInt = rp.toInt + ((zWds ((3 : Int)).toNat).length : Nat) := (by omega); rw [zItem_w hq.1 (by decide) hq.2 hl9 hI]; dsimp only; exact ⟨by (first | rfl | omega), fun h => ⟨by (first | rfl | omega), by (show _ = (if (3 : Int) = 0 then _ else _); rw [if_neg (by decide)]), by (show _ = (if (3 : Int) = 3 then _ else _); first | (rw [if_pos rfl]; done) | (rw [if_pos rfl]; omega))⟩⟩)), (show (q_106.toInt = -1 → (((upd fi slot.toNatClampNeg 3) slot.toInt.toNat).toInt = 0 → rt.toInt = ((upd fi slot.toNatClampNeg 3) (slot.toInt.toNat + 1)).toInt) ∧ (((upd fi slot.toNatClampNeg 3) slot.toInt.toNat).toInt ≠ 0 → rt.toInt = rt.toInt) ∧ (((upd fi slot.toNatClampNeg 3) slot.toInt.toNat).toInt = 3 → ru.toInt = ru.toInt + 1) ∧ (((upd fi slot.toNatClampNeg 3) slot.toInt.toNat).toInt ≠ 3 → ru.toInt = ru.toInt)) from by (intro h; exfalso; omega)), trivial⟩, zRet ht hP hD [1, 2, 0] (by decide) rfl⟩, hS.F ht⟩) hS.2.2 dX3_readItem_75
        · have fc_107 : q_106.toInt = (-1) := zf_eq c_107 rfl (by decide)
          refine lv_aload_n hx hb dX3_readItem_42 rfl (lv_at hl 2 rfl) ?_
          refine va_get (D := D) (ci := 3) (v := .ref ri) (C := RX3) (T := TX3) (N := 8) hx hb hts hi_X3_readItem_3 hown hK hP 1 rfl rfl 0 (by decide) (hts (.fieldLink RX3 11 "TheLiningsInIt$Reader" "items" "[I") (List.mem_of_getElem? (i := 1) rfl)) (fun _ h9 => h9) rfl dX3_readItem_43 ?_
          refine lv_iload_n hx hb dX3_readItem_46 rfl (lv_at hl 3 rfl) ?_
          refine lv_iconst (v := 1) hx hb dX3_readItem_47 (by decide) ?_
          refine lv_iadd hx hb dX3_readItem_48 ?_
          refine lv_topi (fun x_109 ex_109 => ?_)
          have qx_109 : x_109.toInt = slot.toInt + 1 := by rw [ex_109]; exact zf_add rfl (by decide) (by omega) (by omega)
          refine lv_iload_n hx hb dX3_readItem_49 rfl (lv_at hl 0 rfl) ?_
          refine lv_iadd hx hb dX3_readItem_50 ?_
          refine lv_topi (fun y_110 ey_110 => ?_)
          obtain rfl : x_109 = y_110 := (ey_110.trans (Int32.add_zero x_109)).symm
          refine lv_aload_n hx hb dX3_readItem_51 rfl (lv_at hl 2 rfl) ?_
          refine lv_iload_n hx hb dX3_readItem_52 rfl (lv_at hl 1 rfl) ?_
          refine lv_iload_n hx hb dX3_readItem_53 rfl (lv_at hl 0 rfl) ?_
          refine zc_S (As := [.int 3, .int 0]) (rest := [.ref rd, .int x_109, .ref ri]) ⟨hx, hb, hml, hown, hts⟩ (c_R_leastOf_3_0 l D cI cJ cZ cP cS po  ) (va_cwS 2 hts gX3_readItem_X3_leastOf rfl rfl rfl dh_X3_leastOf ⟨Nat.le_of_ble_eq_true rfl, Nat.le_of_ble_eq_true rfl⟩) hK hN (hZ.kept hS) rfl hl.1 rfl (Nat.le_of_ble_eq_true rfl) dX3_readItem_54 ⟨Nat.le_of_ble_eq_true rfl, Nat.le_of_ble_eq_true rfl⟩ (fun r_111 hr_111 => ?_)
          obtain rfl := hr_111
          refine lv_aload_n hx hb dX3_readItem_57 rfl (lv_at hl 2 rfl) ?_
          refine lv_iload_n hx hb dX3_readItem_58 rfl (lv_at hl 1 rfl) ?_
          refine lv_iload_n hx hb dX3_readItem_59 rfl (lv_at hl 0 rfl) ?_
          refine zc_V (As := [.int 3, .int 0]) (rest := [.int 0, .ref rd, .int x_109, .ref ri]) ⟨hx, hb, hml, hown, hts⟩ (c_R_mostOf_3_0 l D cI cJ cZ cP cS po rd ri rl (rz) (rc) (q_105) (q_106) (rt) (ru) hy0 hy1 hy2 hy3 hbq_105.1 hbq_105.2 (by omega) hbq_106.1 hbq_106.2 hy9 hy10 hy11 hy12) (cwV 2 hts gX3_readItem_X3_mostOf rfl rfl rfl ⟨rfl, dh_X3_mostOf⟩ ⟨Nat.le_of_ble_eq_true rfl, Nat.le_of_ble_eq_true rfl⟩) hK hN (hZ.kept hS) hP (hP.sub [1] rfl) (va_recv (q := (RX3, TX3, 8)) hK hP (ci := 3) (q0 := 1) rfl rfl) rfl hl.1 rfl (Nat.le_of_ble_eq_true rfl) dX3_readItem_60 ⟨Nat.le_of_ble_eq_true rfl, Nat.le_of_ble_eq_true rfl⟩ (fun r_112 hr_112 => ?_)
          obtain rfl := hr_112
          have kc0 : (0 : Int32).toInt = 0 := by decide
          have kc6 : (6 : Int32).toInt = 6 := by decide
          skip
          refine zw_V (As := [.int 0, .int 6]) (rest := [.int x_109, .ref ri]) (wr := [(ri, .inl (cI, 132, .inl (upd fi slot.toNatClampNeg 3)))]) ⟨hx, hb, hml, hown, hts⟩ (c_F_R_readNumber l D cI cJ cZ cP cS po rd ri rl (rz) (rc) (q_105) (q_106) (rt) (ru) fl (0) (6) hy0 hy1 hy2 hy3 hbq_105.1 hbq_105.2 (by omega) hbq_106.1 hbq_106.2 hy9 hy10 hy11 hy12 H.size) (cwV 2 hts gX3_readItem_X3_readNumber rfl rfl rfl ⟨rfl, dh_X3_readNumber⟩ ⟨Nat.le_of_ble_eq_true rfl, Nat.le_of_ble_eq_true rfl⟩) hK hN (hZ.kept hS) hP hD hS hA [1, 2] [0] rfl rfl (by decide) (by decide) (by decide) (va_recv (q := (RX3, TX3, 8)) hK hP (ci := 3) (q0 := 1) rfl rfl) rfl hl.1 rfl (Nat.le_of_ble_eq_true rfl) dX3_readItem_63 ⟨Nat.le_of_ble_eq_true rfl, Nat.le_of_ble_eq_true rfl⟩ (fun r_113 u_114 H locs hr_113 hP hD hS => ?_)
          obtain ⟨q_115, q_116⟩ := u_114
          try dsimp only at hr_113
          obtain ⟨hbq_115, hbq_116, hsr_113_0, hsr_113_1, hsr_113_2, hsr_113_3, hr_113⟩ := hr_113
          have h9R := zRe (ws' := [(ri, .inl (cI, 132, .inl (upd fi slot.toNatClampNeg 3))), (rd, .inr (3, [.ref ri, .ref rl, .int rz, .int rc, .int q_115, .int q_116, .int rt, .int ru])), (rl, .inl (cI, 160, .inl fl))]) hP hD rfl
          clear hP hD
          obtain ⟨hP, hD⟩ := h9R
          obtain ⟨g_117, g_118⟩ := hr_113
          refine va_iast hx hb hK hP hD hS 0 0 rfl rfl (zf_in (by omega) (by omega)) dX3_readItem_66 (fun H locs hP hD hS => ?_)
          have h9R := zRe (ws' := [(ri, .inl (cI, 132, .inl (upd (upd fi slot.toNatClampNeg 3) x_109.toNatClampNeg r_113))), (rd, .inr (3, [.ref ri, .ref rl, .int rz, .int rc, .int q_115, .int q_116, .int rt, .int ru])), (rl, .inl (cI, 160, .inl fl))]) hP hD rfl
          clear hP hD
          obtain ⟨hP, hD⟩ := h9R
          have hn0 : zN1 fl rz.toInt (q_3 : Int32).toInt (zLo 3 0) (zHi 3 0 rt.toInt) = ((q_116 : Int32).toInt, (q_115 : Int32).toInt, r_113.toInt) := zN1_yes (p1 := (q_105 : Int32).toInt) (lo2 := ((0 : Int32)).toInt) (hi2 := ((6 : Int32)).toInt) (by omega) (by omega) hsr_113_1 hsr_113_2 (by first | decide | (show (0 : Int) = _; omega)) (by first | decide | (show (6 : Int) = _; decide) | (show rt.toInt - 1 = _; omega) | (show rt.toInt = _; omega)) (by omega)
          refine lv_aload_n hx hb dX3_readItem_67 rfl (lv_at hl 2 rfl) ?_
          refine va_get (D := D) (ci := 3) (v := .int q_116) (C := RX3) (T := TX3) (N := 8) hx hb hts hi_X3_readItem_3 hown hK hP 1 rfl rfl 5 (by decide) (hts (.fieldLink RX3 28 "TheLiningsInIt$Reader" "fault" "I") (List.mem_of_getElem? (i := 2) rfl)) (fun _ h9 => h9) rfl dX3_readItem_68 ?_
          refine lv_iconst (v := (-1)) hx hb dX3_readItem_71 (by decide) ?_
          refine lv_icmp_eq (tgt := 76) hx hb dX3_readItem_72 (by decide) (fun c_119 => ?_) (fun c_119 => ?_)
          · have fc_119 : q_116.toInt = (-1) := zf_eq c_119 rfl (by decide)
            refine lv_iinc (v := 1) (lv' := [(3, .int 1), (2, .int 3), (0, .ref rd), (1, .int slot)]) hx hb dX3_readItem_76 hl (k := 0) rfl (by decide) (by decide) rfl (fun ls hl => ?_)
            refine lv_goto (tgt := 20) hx hb dX3_readItem_79 (by decide) ?_
            refine lv_iload_n hx hb dX3_readItem_20 rfl (lv_at hl 0 rfl) ?_
            refine lv_iload_n hx hb dX3_readItem_21 rfl (lv_at hl 1 rfl) ?_
            refine zc_S (As := [.int 3]) (rest := [.int 1]) ⟨hx, hb, hml, hown, hts⟩ (c_R_numbersOf_3 l D cI cJ cZ cP cS po  ) (va_cwS 1 hts gX3_readItem_X3_numbersOf rfl rfl rfl dh_X3_numbersOf ⟨Nat.le_of_ble_eq_true rfl, Nat.le_of_ble_eq_true rfl⟩) hK hN (hZ.kept hS) rfl hl.1 rfl (Nat.le_of_ble_eq_true rfl) dX3_readItem_22 ⟨Nat.le_of_ble_eq_true rfl, Nat.le_of_ble_eq_true rfl⟩ (fun r_120 hr_120 => ?_)
            obtain rfl := hr_120
            refine lv_icmp_ge (tgt := 82) hx hb dX3_readItem_25 (by decide) (fun c_121 => ?_) (fun c_121 => ?_)
            · exact absurd c_121 (by decide)
            · refine lv_aload_n hx hb dX3_readItem_28 rfl (lv_at hl 2 rfl) ?_
              refine lv_bipush (v := 32) hx hb dX3_readItem_29 (by decide) ?_
              skip
              refine zw_Vv (As := [.int 32]) (rest := []) (wr := [(ri, .inl (cI, 132, .inl (upd (upd fi slot.toNatClampNeg 3) x_109.toNatClampNeg r_113)))]) ⟨hx, hb, hml, hown, hts⟩ (c_F_R_expect l D cI cJ cZ cP cS po rd ri rl (rz) (rc) (q_115) (q_116) (rt) (ru) fl (32) hy0 hy1 hy2 hy3 hbq_115.1 hbq_115.2 (by omega) hbq_116.1 hbq_116.2 hy9 hy10 hy11 hy12 H.size) (cwV 1 hts gX3_readItem_X3_expect rfl rfl rfl ⟨rfl, dh_X3_expect⟩ ⟨Nat.le_of_ble_eq_true rfl, Nat.le_of_ble_eq_true rfl⟩) hK hN (hZ.kept hS) hP hD hS hA [1, 2] [0] rfl rfl (by decide) (by decide) (by decide) (va_recv (q := (RX3, TX3, 8)) hK hP (ci := 3) (q0 := 1) rfl rfl) rfl hl.1 rfl (Nat.le_of_ble_eq_true rfl) dX3_readItem_31 ⟨Nat.le_of_ble_eq_true rfl, Nat.le_of_ble_eq_true rfl⟩ (fun u_123 H locs hr_122 hP hD hS => ?_)
              obtain ⟨q_124, q_125⟩ := u_123
              try dsimp only at hr_122
              obtain ⟨hbq_124, hbq_125, hsr_122_0, hsr_122_1, hr_122⟩ := hr_122
              have h9R := zRe (ws' := [(ri, .inl (cI, 132, .inl (upd (upd fi slot.toNatClampNeg 3) x_109.toNatClampNeg r_113))), (rd, .inr (3, [.ref ri, .ref rl, .int rz, .int rc, .int q_124, .int q_125, .int rt, .int ru])), (rl, .inl (cI, 160, .inl fl))]) hP hD rfl
              clear hP hD
              obtain ⟨hP, hD⟩ := h9R
              refine lv_aload_n hx hb dX3_readItem_34 rfl (lv_at hl 2 rfl) ?_
              refine va_get (D := D) (ci := 3) (v := .int q_125) (C := RX3) (T := TX3) (N := 8) hx hb hts hi_X3_readItem_3 hown hK hP 1 rfl rfl 5 (by decide) (hts (.fieldLink RX3 28 "TheLiningsInIt$Reader" "fault" "I") (List.mem_of_getElem? (i := 2) rfl)) (fun _ h9 => h9) rfl dX3_readItem_35 ?_
              refine lv_iconst (v := (-1)) hx hb dX3_readItem_38 (by decide) ?_
              refine lv_icmp_ne (tgt := 67) hx hb dX3_readItem_39 (by decide) (fun c_126 => ?_) (fun c_126 => ?_)
              · have fc_126 : q_125.toInt ≠ (-1) := zf_ne c_126 rfl (by decide)
                have hn1 : zN1 fl rz.toInt (q_115 : Int32).toInt (zLo 3 1) (zHi 3 1 rt.toInt) = ((q_115 : Int32).toInt, (q_115 : Int32).toInt, 0) := zN1_no (by omega)
                refine lv_aload_n hx hb dX3_readItem_67 rfl (lv_at hl 2 rfl) ?_
                refine va_get (D := D) (ci := 3) (v := .int q_125) (C := RX3) (T := TX3) (N := 8) hx hb hts hi_X3_readItem_3 hown hK hP 1 rfl rfl 5 (by decide) (hts (.fieldLink RX3 28 "TheLiningsInIt$Reader" "fault" "I") (List.mem_of_getElem? (i := 2) rfl)) (fun _ h9 => h9) rfl dX3_readItem_68 ?_
                refine lv_iconst (v := (-1)) hx hb dX3_readItem_71 (by decide) ?_
                refine lv_icmp_eq (tgt := 76) hx hb dX3_readItem_72 (by decide) (fun c_127 => ?_) (fun c_127 => ?_)
                · exfalso; have fc_127 : q_125.toInt = (-1) := zf_eq c_127 rfl (by decide); omega
                · have fc_127 : q_125.toInt ≠ (-1) := zf_ne c_127 rfl (by decide)
                  have e0 : slot.toNatClampNeg = slot.toInt.toNat + 0 := (by show (slot : Int32).toInt.toNat = _; omega)
                  have e1 : x_109.toNatClampNeg = slot.toInt.toNat + 1 := (by show (x_109 : Int32).toInt.toNat = _; omega)
                  have hI := zIn_b (by have z := hn0; rw [show (q_116 : Int32).toInt = -1 from by omega] at z; exact z) (by decide) hn1 (by first | (right; decide) | (left; omega))
                  exact W.vret hx hb hr (fun t ht hW => ⟨⟨(q_124, q_125, rt, ru, (upd (upd fi slot.toNatClampNeg 3) x_109.toNatClampNeg r_113)), rfl, ⟨(show 0 ≤ q_124.toInt ∧ q_124.toInt ≤ 160 from hbq_124), (show (-1) ≤ q_125.toInt ∧ q_125.toInt ≤ 160 from hbq_125), (show 0 ≤ rt.toInt ∧ rt.toInt ≤ 40 from ⟨hy9, hy10⟩), (show 0 ≤ ru.toInt ∧ ru.toInt ≤ 8 from ⟨hy11, hy12⟩), (show q_124.toInt ≤ rz.toInt from by omega), (show (q_125.toInt = -1 → zIt (upd (upd fi slot.toNatClampNeg 3) x_109.toNatClampNeg r_113) slot.toInt.toNat) from by (intro h; exfalso; omega)), (show (∀ j : Nat, j < slot.toInt.toNat → (upd (upd fi slot.toNatClampNeg 3) x_109.toNatClampNeg r_113) j = fi j) from by (intro j hj; simp only [upd]; rw [if_neg (by omega), if_neg (by omega)])), (show (q_125.toInt = (zItem fl rz.toInt rp.toInt rt.toInt ru.toInt).1 ∧ (q_125.toInt = -1 → q_124.toInt = (zItem fl rz.toInt rp.toInt rt.toInt ru.toInt).2.1 ∧ rt.toInt = (zItem fl rz.toInt rp.toInt rt.toInt ru.toInt).2.2.1 ∧ ru.toInt = (zItem fl rz.toInt rp.toInt rt.toInt ru.toInt).2.2.2)) from by (have z9 := hsr_1_1; rw [kc3] at z9; have hq : zFst fl rz.toInt rp.toInt zWds 10 = 3 ∧ ¬ ((3 : Int) = 3 ∧ ru.toInt = 8) := (by omega); have hl9 : (q_3 : Int32).toInt = rp.toInt + ((zWds ((3 : Int)).toNat).length : Nat) := (by omega); rw [zItem_w hq.1 (by decide) hq.2 hl9 hI]; dsimp only; exact ⟨by (first | rfl | omega), fun h => ⟨by (first | rfl | omega), by (show _ = (if (3 : Int) = 0 then _ else _); rw [if_neg (by decide)]), by (show _ = (if (3 : Int) = 3 then _ else _); first | (rw [if_pos rfl]; done) | (rw [if_pos rfl]; omega))⟩⟩)), (show (q_125.toInt = -1 → (((upd (upd fi slot.toNatClampNeg 3) x_109.toNatClampNeg r_113) slot.toInt.toNat).toInt = 0 → rt.toInt = ((upd (upd fi slot.toNatClampNeg 3) x_109.toNatClampNeg r_113) (slot.toInt.toNat + 1)).toInt) ∧ (((upd (upd fi slot.toNatClampNeg 3) x_109.toNatClampNeg r_113) slot.toInt.toNat).toInt ≠ 0 → rt.toInt = rt.toInt) ∧ (((upd (upd fi slot.toNatClampNeg 3) x_109.toNatClampNeg r_113) slot.toInt.toNat).toInt = 3 → ru.toInt = ru.toInt + 1) ∧ (((upd (upd fi slot.toNatClampNeg 3) x_109.toNatClampNeg r_113) slot.toInt.toNat).toInt ≠ 3 → ru.toInt = ru.toInt)) from by (intro h; exfalso; omega)), trivial⟩, zRet ht hP hD [1, 2, 0] (by decide) rfl⟩, hS.F ht⟩) hS.2.2 dX3_readItem_75
              · have fc_126 : q_125.toInt = (-1) := zf_eq c_126 rfl (by decide)
                refine lv_aload_n hx hb dX3_readItem_42 rfl (lv_at hl 2 rfl) ?_
                refine va_get (D := D) (ci := 3) (v := .ref ri) (C := RX3) (T := TX3) (N := 8) hx hb hts hi_X3_readItem_3 hown hK hP 1 rfl rfl 0 (by decide) (hts (.fieldLink RX3 11 "TheLiningsInIt$Reader" "items" "[I") (List.mem_of_getElem? (i := 1) rfl)) (fun _ h9 => h9) rfl dX3_readItem_43 ?_
                refine lv_iload_n hx hb dX3_readItem_46 rfl (lv_at hl 3 rfl) ?_
                refine lv_iconst (v := 1) hx hb dX3_readItem_47 (by decide) ?_
                refine lv_iadd hx hb dX3_readItem_48 ?_
                refine lv_topi (fun y_128 ey_128 => ?_)
                obtain rfl : x_109 = y_128 := ex_109.trans ey_128.symm
                refine lv_iload_n hx hb dX3_readItem_49 rfl (lv_at hl 0 rfl) ?_
                refine lv_iadd hx hb dX3_readItem_50 ?_
                refine lv_topi (fun x_129 ex_129 => ?_)
                have qx_129 : x_129.toInt = x_109.toInt + 1 := by rw [ex_129]; exact zf_add rfl (by decide) (by omega) (by omega)
                refine lv_aload_n hx hb dX3_readItem_51 rfl (lv_at hl 2 rfl) ?_
                refine lv_iload_n hx hb dX3_readItem_52 rfl (lv_at hl 1 rfl) ?_
                refine lv_iload_n hx hb dX3_readItem_53 rfl (lv_at hl 0 rfl) ?_
                refine zc_S (As := [.int 3, .int 1]) (rest := [.ref rd, .int x_129, .ref ri]) ⟨hx, hb, hml, hown, hts⟩ (c_R_leastOf_3_1 l D cI cJ cZ cP cS po  ) (va_cwS 2 hts gX3_readItem_X3_leastOf rfl rfl rfl dh_X3_leastOf ⟨Nat.le_of_ble_eq_true rfl, Nat.le_of_ble_eq_true rfl⟩) hK hN (hZ.kept hS) rfl hl.1 rfl (Nat.le_of_ble_eq_true rfl) dX3_readItem_54 ⟨Nat.le_of_ble_eq_true rfl, Nat.le_of_ble_eq_true rfl⟩ (fun r_130 hr_130 => ?_)
                obtain rfl := hr_130
                refine lv_aload_n hx hb dX3_readItem_57 rfl (lv_at hl 2 rfl) ?_
                refine lv_iload_n hx hb dX3_readItem_58 rfl (lv_at hl 1 rfl) ?_
                refine lv_iload_n hx hb dX3_readItem_59 rfl (lv_at hl 0 rfl) ?_
                refine zc_V (As := [.int 3, .int 1]) (rest := [.int 0, .ref rd, .int x_129, .ref ri]) ⟨hx, hb, hml, hown, hts⟩ (c_R_mostOf_3_1 l D cI cJ cZ cP cS po rd ri rl (rz) (rc) (q_124) (q_125) (rt) (ru) hy0 hy1 hy2 hy3 hbq_124.1 hbq_124.2 (by omega) hbq_125.1 hbq_125.2 hy9 hy10 hy11 hy12) (cwV 2 hts gX3_readItem_X3_mostOf rfl rfl rfl ⟨rfl, dh_X3_mostOf⟩ ⟨Nat.le_of_ble_eq_true rfl, Nat.le_of_ble_eq_true rfl⟩) hK hN (hZ.kept hS) hP (hP.sub [1] rfl) (va_recv (q := (RX3, TX3, 8)) hK hP (ci := 3) (q0 := 1) rfl rfl) rfl hl.1 rfl (Nat.le_of_ble_eq_true rfl) dX3_readItem_60 ⟨Nat.le_of_ble_eq_true rfl, Nat.le_of_ble_eq_true rfl⟩ (fun r_131 hr_131 => ?_)
                obtain rfl := hr_131
                have kc9 : (9 : Int32).toInt = 9 := by decide
                skip
                refine zw_V (As := [.int 0, .int 9]) (rest := [.int x_129, .ref ri]) (wr := [(ri, .inl (cI, 132, .inl (upd (upd fi slot.toNatClampNeg 3) x_109.toNatClampNeg r_113)))]) ⟨hx, hb, hml, hown, hts⟩ (c_F_R_readNumber l D cI cJ cZ cP cS po rd ri rl (rz) (rc) (q_124) (q_125) (rt) (ru) fl (0) (9) hy0 hy1 hy2 hy3 hbq_124.1 hbq_124.2 (by omega) hbq_125.1 hbq_125.2 hy9 hy10 hy11 hy12 H.size) (cwV 2 hts gX3_readItem_X3_readNumber rfl rfl rfl ⟨rfl, dh_X3_readNumber⟩ ⟨Nat.le_of_ble_eq_true rfl, Nat.le_of_ble_eq_true rfl⟩) hK hN (hZ.kept hS) hP hD hS hA [1, 2] [0] rfl rfl (by decide) (by decide) (by decide) (va_recv (q := (RX3, TX3, 8)) hK hP (ci := 3) (q0 := 1) rfl rfl) rfl hl.1 rfl (Nat.le_of_ble_eq_true rfl) dX3_readItem_63 ⟨Nat.le_of_ble_eq_true rfl, Nat.le_of_ble_eq_true rfl⟩ (fun r_132 u_133 H locs hr_132 hP hD hS => ?_)
                obtain ⟨q_134, q_135⟩ := u_133
                try dsimp only at hr_132
                obtain ⟨hbq_134, hbq_135, hsr_132_0, hsr_132_1, hsr_132_2, hsr_132_3, hr_132⟩ := hr_132
                have h9R := zRe (ws' := [(ri, .inl (cI, 132, .inl (upd (upd fi slot.toNatClampNeg 3) x_109.toNatClampNeg r_113))), (rd, .inr (3, [.ref ri, .ref rl, .int rz, .int rc, .int q_134, .int q_135, .int rt, .int ru])), (rl, .inl (cI, 160, .inl fl))]) hP hD rfl
                clear hP hD
                obtain ⟨hP, hD⟩ := h9R
                obtain ⟨g_136, g_137⟩ := hr_132
                refine va_iast hx hb hK hP hD hS 0 0 rfl rfl (zf_in (by omega) (by omega)) dX3_readItem_66 (fun H locs hP hD hS => ?_)
                have h9R := zRe (ws' := [(ri, .inl (cI, 132, .inl (upd (upd (upd fi slot.toNatClampNeg 3) x_109.toNatClampNeg r_113) x_129.toNatClampNeg r_132))), (rd, .inr (3, [.ref ri, .ref rl, .int rz, .int rc, .int q_134, .int q_135, .int rt, .int ru])), (rl, .inl (cI, 160, .inl fl))]) hP hD rfl
                clear hP hD
                obtain ⟨hP, hD⟩ := h9R
                have hn1 : zN1 fl rz.toInt (q_115 : Int32).toInt (zLo 3 1) (zHi 3 1 rt.toInt) = ((q_135 : Int32).toInt, (q_134 : Int32).toInt, r_132.toInt) := zN1_yes (p1 := (q_124 : Int32).toInt) (lo2 := ((0 : Int32)).toInt) (hi2 := ((9 : Int32)).toInt) (by omega) (by omega) hsr_132_1 hsr_132_2 (by first | decide | (show (0 : Int) = _; omega)) (by first | decide | (show (9 : Int) = _; decide) | (show rt.toInt - 1 = _; omega) | (show rt.toInt = _; omega)) (by omega)
                refine lv_aload_n hx hb dX3_readItem_67 rfl (lv_at hl 2 rfl) ?_
                refine va_get (D := D) (ci := 3) (v := .int q_135) (C := RX3) (T := TX3) (N := 8) hx hb hts hi_X3_readItem_3 hown hK hP 1 rfl rfl 5 (by decide) (hts (.fieldLink RX3 28 "TheLiningsInIt$Reader" "fault" "I") (List.mem_of_getElem? (i := 2) rfl)) (fun _ h9 => h9) rfl dX3_readItem_68 ?_
                refine lv_iconst (v := (-1)) hx hb dX3_readItem_71 (by decide) ?_
                refine lv_icmp_eq (tgt := 76) hx hb dX3_readItem_72 (by decide) (fun c_138 => ?_) (fun c_138 => ?_)
                · have fc_138 : q_135.toInt = (-1) := zf_eq c_138 rfl (by decide)
                  refine lv_iinc (v := 2) (lv' := [(3, .int 2), (2, .int 3), (0, .ref rd), (1, .int slot)]) hx hb dX3_readItem_76 hl (k := 0) rfl (by decide) (by decide) rfl (fun ls hl => ?_)
                  refine lv_goto (tgt := 20) hx hb dX3_readItem_79 (by decide) ?_
                  refine lv_iload_n hx hb dX3_readItem_20 rfl (lv_at hl 0 rfl) ?_
                  refine lv_iload_n hx hb dX3_readItem_21 rfl (lv_at hl 1 rfl) ?_
                  refine zc_S (As := [.int 3]) (rest := [.int 2]) ⟨hx, hb, hml, hown, hts⟩ (c_R_numbersOf_3 l D cI cJ cZ cP cS po  ) (va_cwS 1 hts gX3_readItem_X3_numbersOf rfl rfl rfl dh_X3_numbersOf ⟨Nat.le_of_ble_eq_true rfl, Nat.le_of_ble_eq_true rfl⟩) hK hN (hZ.kept hS) rfl hl.1 rfl (Nat.le_of_ble_eq_true rfl) dX3_readItem_22 ⟨Nat.le_of_ble_eq_true rfl, Nat.le_of_ble_eq_true rfl⟩ (fun r_139 hr_139 => ?_)
                  obtain rfl := hr_139
                  refine lv_icmp_ge (tgt := 82) hx hb dX3_readItem_25 (by decide) (fun c_140 => ?_) (fun c_140 => ?_)
                  · exact absurd c_140 (by decide)
                  · refine lv_aload_n hx hb dX3_readItem_28 rfl (lv_at hl 2 rfl) ?_
                    refine lv_bipush (v := 32) hx hb dX3_readItem_29 (by decide) ?_
                    skip
                    refine zw_Vv (As := [.int 32]) (rest := []) (wr := [(ri, .inl (cI, 132, .inl (upd (upd (upd fi slot.toNatClampNeg 3) x_109.toNatClampNeg r_113) x_129.toNatClampNeg r_132)))]) ⟨hx, hb, hml, hown, hts⟩ (c_F_R_expect l D cI cJ cZ cP cS po rd ri rl (rz) (rc) (q_134) (q_135) (rt) (ru) fl (32) hy0 hy1 hy2 hy3 hbq_134.1 hbq_134.2 (by omega) hbq_135.1 hbq_135.2 hy9 hy10 hy11 hy12 H.size) (cwV 1 hts gX3_readItem_X3_expect rfl rfl rfl ⟨rfl, dh_X3_expect⟩ ⟨Nat.le_of_ble_eq_true rfl, Nat.le_of_ble_eq_true rfl⟩) hK hN (hZ.kept hS) hP hD hS hA [1, 2] [0] rfl rfl (by decide) (by decide) (by decide) (va_recv (q := (RX3, TX3, 8)) hK hP (ci := 3) (q0 := 1) rfl rfl) rfl hl.1 rfl (Nat.le_of_ble_eq_true rfl) dX3_readItem_31 ⟨Nat.le_of_ble_eq_true rfl, Nat.le_of_ble_eq_true rfl⟩ (fun u_142 H locs hr_141 hP hD hS => ?_)
                    obtain ⟨q_143, q_144⟩ := u_142
                    try dsimp only at hr_141
                    obtain ⟨hbq_143, hbq_144, hsr_141_0, hsr_141_1, hr_141⟩ := hr_141
                    have h9R := zRe (ws' := [(ri, .inl (cI, 132, .inl (upd (upd (upd fi slot.toNatClampNeg 3) x_109.toNatClampNeg r_113) x_129.toNatClampNeg r_132))), (rd, .inr (3, [.ref ri, .ref rl, .int rz, .int rc, .int q_143, .int q_144, .int rt, .int ru])), (rl, .inl (cI, 160, .inl fl))]) hP hD rfl
                    clear hP hD
                    obtain ⟨hP, hD⟩ := h9R
                    refine lv_aload_n hx hb dX3_readItem_34 rfl (lv_at hl 2 rfl) ?_
                    refine va_get (D := D) (ci := 3) (v := .int q_144) (C := RX3) (T := TX3) (N := 8) hx hb hts hi_X3_readItem_3 hown hK hP 1 rfl rfl 5 (by decide) (hts (.fieldLink RX3 28 "TheLiningsInIt$Reader" "fault" "I") (List.mem_of_getElem? (i := 2) rfl)) (fun _ h9 => h9) rfl dX3_readItem_35 ?_
                    refine lv_iconst (v := (-1)) hx hb dX3_readItem_38 (by decide) ?_
                    refine lv_icmp_ne (tgt := 67) hx hb dX3_readItem_39 (by decide) (fun c_145 => ?_) (fun c_145 => ?_)
                    · have fc_145 : q_144.toInt ≠ (-1) := zf_ne c_145 rfl (by decide)
                      have hn2 : zN1 fl rz.toInt (q_134 : Int32).toInt (zLo 3 2) (zHi 3 2 rt.toInt) = ((q_134 : Int32).toInt, (q_134 : Int32).toInt, 0) := zN1_no (by omega)
                      refine lv_aload_n hx hb dX3_readItem_67 rfl (lv_at hl 2 rfl) ?_
                      refine va_get (D := D) (ci := 3) (v := .int q_144) (C := RX3) (T := TX3) (N := 8) hx hb hts hi_X3_readItem_3 hown hK hP 1 rfl rfl 5 (by decide) (hts (.fieldLink RX3 28 "TheLiningsInIt$Reader" "fault" "I") (List.mem_of_getElem? (i := 2) rfl)) (fun _ h9 => h9) rfl dX3_readItem_68 ?_
                      refine lv_iconst (v := (-1)) hx hb dX3_readItem_71 (by decide) ?_
                      refine lv_icmp_eq (tgt := 76) hx hb dX3_readItem_72 (by decide) (fun c_146 => ?_) (fun c_146 => ?_)
                      · exfalso; have fc_146 : q_144.toInt = (-1) := zf_eq c_146 rfl (by decide); omega
                      · have fc_146 : q_144.toInt ≠ (-1) := zf_ne c_146 rfl (by decide)
                        have e0 : slot.toNatClampNeg = slot.toInt.toNat + 0 := (by show (slot : Int32).toInt.toNat = _; omega)
                        have e1 : x_109.toNatClampNeg = slot.toInt.toNat + 1 := (by show (x_109 : Int32).toInt.toNat = _; omega)
                        have e2 : x_129.toNatClampNeg = slot.toInt.toNat + 2 := (by show (x_129 : Int32).toInt.toNat = _; omega)
                        have hI := zIn_c (by have z := hn0; rw [show (q_116 : Int32).toInt = -1 from by omega] at z; exact z) (by decide) (by have z := hn1; rw [show (q_135 : Int32).toInt = -1 from by omega] at z; exact z) (by decide) hn2
                        exact W.vret hx hb hr (fun t ht hW => ⟨⟨(q_143, q_144, rt, ru, (upd (upd (upd fi slot.toNatClampNeg 3) x_109.toNatClampNeg r_113) x_129.toNatClampNeg r_132)), rfl, ⟨(show 0 ≤ q_143.toInt ∧ q_143.toInt ≤ 160 from hbq_143), (show (-1) ≤ q_144.toInt ∧ q_144.toInt ≤ 160 from hbq_144), (show 0 ≤ rt.toInt ∧ rt.toInt ≤ 40 from ⟨hy9, hy10⟩), (show 0 ≤ ru.toInt ∧ ru.toInt ≤ 8 from ⟨hy11, hy12⟩), (show q_143.toInt ≤ rz.toInt from by omega), (show (q_144.toInt = -1 → zIt (upd (upd (upd fi slot.toNatClampNeg 3) x_109.toNatClampNeg r_113) x_129.toNatClampNeg r_132) slot.toInt.toNat) from by (intro h; exfalso; omega)), (show (∀ j : Nat, j < slot.toInt.toNat → (upd (upd (upd fi slot.toNatClampNeg 3) x_109.toNatClampNeg r_113) x_129.toNatClampNeg r_132) j = fi j) from by (intro j hj; simp only [upd]; rw [if_neg (by omega), if_neg (by omega), if_neg (by omega)])), (show (q_144.toInt = (zItem fl rz.toInt rp.toInt rt.toInt ru.toInt).1 ∧ (q_144.toInt = -1 → q_143.toInt = (zItem fl rz.toInt rp.toInt rt.toInt ru.toInt).2.1 ∧ rt.toInt = (zItem fl rz.toInt rp.toInt rt.toInt ru.toInt).2.2.1 ∧ ru.toInt = (zItem fl rz.toInt rp.toInt rt.toInt ru.toInt).2.2.2)) from by (have z9 := hsr_1_1; rw [kc3] at z9; have hq : zFst fl rz.toInt rp.toInt zWds 10 = 3 ∧ ¬ ((3 : Int) = 3 ∧ ru.toInt = 8) := (by omega); have hl9 : (q_3 : Int32).toInt = rp.toInt + ((zWds ((3 : Int)).toNat).length : Nat) := (by omega); rw [zItem_w hq.1 (by decide) hq.2 hl9 hI]; dsimp only; exact ⟨by (first | rfl | omega), fun h => ⟨by (first | rfl | omega), by (show _ = (if (3 : Int) = 0 then _ else _); rw [if_neg (by decide)]), by (show _ = (if (3 : Int) = 3 then _ else _); first | (rw [if_pos rfl]; done) | (rw [if_pos rfl]; omega))⟩⟩)), (show (q_144.toInt = -1 → (((upd (upd (upd fi slot.toNatClampNeg 3) x_109.toNatClampNeg r_113) x_129.toNatClampNeg r_132) slot.toInt.toNat).toInt = 0 → rt.toInt = ((upd (upd (upd fi slot.toNatClampNeg 3) x_109.toNatClampNeg r_113) x_129.toNatClampNeg r_132) (slot.toInt.toNat + 1)).toInt) ∧ (((upd (upd (upd fi slot.toNatClampNeg 3) x_109.toNatClampNeg r_113) x_129.toNatClampNeg r_132) slot.toInt.toNat).toInt ≠ 0 → rt.toInt = rt.toInt) ∧ (((upd (upd (upd fi slot.toNatClampNeg 3) x_109.toNatClampNeg r_113) x_129.toNatClampNeg r_132) slot.toInt.toNat).toInt = 3 → ru.toInt = ru.toInt + 1) ∧ (((upd (upd (upd fi slot.toNatClampNeg 3) x_109.toNatClampNeg r_113) x_129.toNatClampNeg r_132) slot.toInt.toNat).toInt ≠ 3 → ru.toInt = ru.toInt)) from by (intro h; exfalso; omega)), trivial⟩, zRet ht hP hD [1, 2, 0] (by decide) rfl⟩, hS.F ht⟩) hS.2.2 dX3_readItem_75
                    · have fc_145 : q_144.toInt = (-1) := zf_eq c_145 rfl (by decide)
                      refine lv_aload_n hx hb dX3_readItem_42 rfl (lv_at hl 2 rfl) ?_
                      refine va_get (D := D) (ci := 3) (v := .ref ri) (C := RX3) (T := TX3) (N := 8) hx hb hts hi_X3_readItem_3 hown hK hP 1 rfl rfl 0 (by decide) (hts (.fieldLink RX3 11 "TheLiningsInIt$Reader" "items" "[I") (List.mem_of_getElem? (i := 1) rfl)) (fun _ h9 => h9) rfl dX3_readItem_43 ?_
                      refine lv_iload_n hx hb dX3_readItem_46 rfl (lv_at hl 3 rfl) ?_
                      refine lv_iconst (v := 1) hx hb dX3_readItem_47 (by decide) ?_
                      refine lv_iadd hx hb dX3_readItem_48 ?_
                      refine lv_topi (fun y_147 ey_147 => ?_)
                      obtain rfl : x_109 = y_147 := ex_109.trans ey_147.symm
                      refine lv_iload_n hx hb dX3_readItem_49 rfl (lv_at hl 0 rfl) ?_
                      refine lv_iadd hx hb dX3_readItem_50 ?_
                      refine lv_topi (fun x_148 ex_148 => ?_)
                      have qx_148 : x_148.toInt = x_109.toInt + 2 := by rw [ex_148]; exact zf_add rfl (by decide) (by omega) (by omega)
                      refine lv_aload_n hx hb dX3_readItem_51 rfl (lv_at hl 2 rfl) ?_
                      refine lv_iload_n hx hb dX3_readItem_52 rfl (lv_at hl 1 rfl) ?_
                      refine lv_iload_n hx hb dX3_readItem_53 rfl (lv_at hl 0 rfl) ?_
                      refine zc_S (As := [.int 3, .int 2]) (rest := [.ref rd, .int x_148, .ref ri]) ⟨hx, hb, hml, hown, hts⟩ (c_R_leastOf_3_2 l D cI cJ cZ cP cS po  ) (va_cwS 2 hts gX3_readItem_X3_leastOf rfl rfl rfl dh_X3_leastOf ⟨Nat.le_of_ble_eq_true rfl, Nat.le_of_ble_eq_true rfl⟩) hK hN (hZ.kept hS) rfl hl.1 rfl (Nat.le_of_ble_eq_true rfl) dX3_readItem_54 ⟨Nat.le_of_ble_eq_true rfl, Nat.le_of_ble_eq_true rfl⟩ (fun r_149 hr_149 => ?_)
                      obtain rfl := hr_149
                      refine lv_aload_n hx hb dX3_readItem_57 rfl (lv_at hl 2 rfl) ?_
                      refine lv_iload_n hx hb dX3_readItem_58 rfl (lv_at hl 1 rfl) ?_
                      refine lv_iload_n hx hb dX3_readItem_59 rfl (lv_at hl 0 rfl) ?_
                      refine zc_V (As := [.int 3, .int 2]) (rest := [.int 1, .ref rd, .int x_148, .ref ri]) ⟨hx, hb, hml, hown, hts⟩ (c_R_mostOf_3_2 l D cI cJ cZ cP cS po rd ri rl (rz) (rc) (q_143) (q_144) (rt) (ru) hy0 hy1 hy2 hy3 hbq_143.1 hbq_143.2 (by omega) hbq_144.1 hbq_144.2 hy9 hy10 hy11 hy12) (cwV 2 hts gX3_readItem_X3_mostOf rfl rfl rfl ⟨rfl, dh_X3_mostOf⟩ ⟨Nat.le_of_ble_eq_true rfl, Nat.le_of_ble_eq_true rfl⟩) hK hN (hZ.kept hS) hP (hP.sub [1] rfl) (va_recv (q := (RX3, TX3, 8)) hK hP (ci := 3) (q0 := 1) rfl rfl) rfl hl.1 rfl (Nat.le_of_ble_eq_true rfl) dX3_readItem_60 ⟨Nat.le_of_ble_eq_true rfl, Nat.le_of_ble_eq_true rfl⟩ (fun r_150 hr_150 => ?_)
                      obtain rfl := hr_150
                      have kc1 : (1 : Int32).toInt = 1 := by decide
                      have kc60 : (60 : Int32).toInt = 60 := by decide
                      skip
                      refine zw_V (As := [.int 1, .int 60]) (rest := [.int x_148, .ref ri]) (wr := [(ri, .inl (cI, 132, .inl (upd (upd (upd fi slot.toNatClampNeg 3) x_109.toNatClampNeg r_113) x_129.toNatClampNeg r_132)))]) ⟨hx, hb, hml, hown, hts⟩ (c_F_R_readNumber l D cI cJ cZ cP cS po rd ri rl (rz) (rc) (q_143) (q_144) (rt) (ru) fl (1) (60) hy0 hy1 hy2 hy3 hbq_143.1 hbq_143.2 (by omega) hbq_144.1 hbq_144.2 hy9 hy10 hy11 hy12 H.size) (cwV 2 hts gX3_readItem_X3_readNumber rfl rfl rfl ⟨rfl, dh_X3_readNumber⟩ ⟨Nat.le_of_ble_eq_true rfl, Nat.le_of_ble_eq_true rfl⟩) hK hN (hZ.kept hS) hP hD hS hA [1, 2] [0] rfl rfl (by decide) (by decide) (by decide) (va_recv (q := (RX3, TX3, 8)) hK hP (ci := 3) (q0 := 1) rfl rfl) rfl hl.1 rfl (Nat.le_of_ble_eq_true rfl) dX3_readItem_63 ⟨Nat.le_of_ble_eq_true rfl, Nat.le_of_ble_eq_true rfl⟩ (fun r_151 u_152 H locs hr_151 hP hD hS => ?_)
                      obtain ⟨q_153, q_154⟩ := u_152
                      try dsimp only at hr_151
                      obtain ⟨hbq_153, hbq_154, hsr_151_0, hsr_151_1, hsr_151_2, hsr_151_3, hr_151⟩ := hr_151
                      have h9R := zRe (ws' := [(ri, .inl (cI, 132, .inl (upd (upd (upd fi slot.toNatClampNeg 3) x_109.toNatClampNeg r_113) x_129.toNatClampNeg r_132))), (rd, .inr (3, [.ref ri, .ref rl, .int rz, .int rc, .int q_153, .int q_154, .int rt, .int ru])), (rl, .inl (cI, 160, .inl fl))]) hP hD rfl
                      clear hP hD
                      obtain ⟨hP, hD⟩ := h9R
                      obtain ⟨g_155, g_156⟩ := hr_151
                      refine va_iast hx hb hK hP hD hS 0 0 rfl rfl (zf_in (by omega) (by omega)) dX3_readItem_66 (fun H locs hP hD hS => ?_)
                      have h9R := zRe (ws' := [(ri, .inl (cI, 132, .inl (upd (upd (upd (upd fi slot.toNatClampNeg 3) x_109.toNatClampNeg r_113) x_129.toNatClampNeg r_132) x_148.toNatClampNeg r_151))), (rd, .inr (3, [.ref ri, .ref rl, .int rz, .int rc, .int q_153, .int q_154, .int rt, .int ru])), (rl, .inl (cI, 160, .inl fl))]) hP hD rfl
                      clear hP hD
                      obtain ⟨hP, hD⟩ := h9R
                      have hn2 : zN1 fl rz.toInt (q_134 : Int32).toInt (zLo 3 2) (zHi 3 2 rt.toInt) = ((q_154 : Int32).toInt, (q_153 : Int32).toInt, r_151.toInt) := zN1_yes (p1 := (q_143 : Int32).toInt) (lo2 := ((1 : Int32)).toInt) (hi2 := ((60 : Int32)).toInt) (by omega) (by omega) hsr_151_1 hsr_151_2 (by first | decide | (show (0 : Int) = _; omega)) (by first | decide | (show (60 : Int) = _; decide) | (show rt.toInt - 1 = _; omega) | (show rt.toInt = _; omega)) (by omega)
                      refine lv_aload_n hx hb dX3_readItem_67 rfl (lv_at hl 2 rfl) ?_
                      refine va_get (D := D) (ci := 3) (v := .int q_154) (C := RX3) (T := TX3) (N := 8) hx hb hts hi_X3_readItem_3 hown hK hP 1 rfl rfl 5 (by decide) (hts (.fieldLink RX3 28 "TheLiningsInIt$Reader" "fault" "I") (List.mem_of_getElem? (i := 2) rfl)) (fun _ h9 => h9) rfl dX3_readItem_68 ?_
                      refine lv_iconst (v := (-1)) hx hb dX3_readItem_71 (by decide) ?_
                      refine lv_icmp_eq (tgt := 76) hx hb dX3_readItem_72 (by decide) (fun c_157 => ?_) (fun c_157 => ?_)
                      · have fc_157 : q_154.toInt = (-1) := zf_eq c_157 rfl (by decide)
                        refine lv_iinc (v := 3) (lv' := [(3, .int 3), (2, .int 3), (0, .ref rd), (1, .int slot)]) hx hb dX3_readItem_76 hl (k := 0) rfl (by decide) (by decide) rfl (fun ls hl => ?_)
                        refine lv_goto (tgt := 20) hx hb dX3_readItem_79 (by decide) ?_
                        refine lv_iload_n hx hb dX3_readItem_20 rfl (lv_at hl 0 rfl) ?_
                        refine lv_iload_n hx hb dX3_readItem_21 rfl (lv_at hl 1 rfl) ?_
                        refine zc_S (As := [.int 3]) (rest := [.int 3]) ⟨hx, hb, hml, hown, hts⟩ (c_R_numbersOf_3 l D cI cJ cZ cP cS po  ) (va_cwS 1 hts gX3_readItem_X3_numbersOf rfl rfl rfl dh_X3_numbersOf ⟨Nat.le_of_ble_eq_true rfl, Nat.le_of_ble_eq_true rfl⟩) hK hN (hZ.kept hS) rfl hl.1 rfl (Nat.le_of_ble_eq_true rfl) dX3_readItem_22 ⟨Nat.le_of_ble_eq_true rfl, Nat.le_of_ble_eq_true rfl⟩ (fun r_158 hr_158 => ?_)
                        obtain rfl := hr_158
                        refine lv_icmp_ge (tgt := 82) hx hb dX3_readItem_25 (by decide) (fun c_159 => ?_) (fun c_159 => ?_)
                        · refine lv_iload_n hx hb dX3_readItem_82 rfl (lv_at hl 1 rfl) ?_
                          refine lv_if_ne (tgt := 101) hx hb dX3_readItem_83 (by decide) (fun c_160 => ?_) (fun c_160 => ?_)
                          · refine lv_iload_n hx hb dX3_readItem_101 rfl (lv_at hl 1 rfl) ?_
                            refine lv_iconst (v := 3) hx hb dX3_readItem_102 (by decide) ?_
                            refine lv_icmp_ne (tgt := 116) hx hb dX3_readItem_103 (by decide) (fun c_161 => ?_) (fun c_161 => ?_)
                            · exact absurd c_161 (by decide)
                            · refine lv_aload_n hx hb dX3_readItem_106 rfl (lv_at hl 2 rfl) ?_
                              refine lv_dup hx hb dX3_readItem_107 rfl ?_
                              refine va_get (D := D) (ci := 3) (v := .int ru) (C := RX3) (T := TX3) (N := 8) hx hb hts hi_X3_readItem_3 hown hK hP 1 rfl rfl 7 (by decide) (hts (.fieldLink RX3 34 "TheLiningsInIt$Reader" "pulls" "I") (List.mem_of_getElem? (i := 4) rfl)) (fun _ h9 => h9) rfl dX3_readItem_108 ?_
                              refine lv_iconst (v := 1) hx hb dX3_readItem_111 (by decide) ?_
                              refine lv_iadd hx hb dX3_readItem_112 ?_
                              refine lv_topi (fun x_162 ex_162 => ?_)
                              have qx_162 : x_162.toInt = ru.toInt + 1 := by rw [ex_162]; exact zf_add rfl (by decide) (by omega) (by omega)
                              refine va_put (D := D) (ci := 3) (v := .int x_162) (ty := .int) (C := RX3) (T := TX3) (N := 8) hx hb hts hi_X3_readItem_3 tyX3 tyX3_ok nmX3 hown hK hP hD hS 1 rfl rfl 7 (by decide) (hts (.fieldLink RX3 34 "TheLiningsInIt$Reader" "pulls" "I") (List.mem_of_getElem? (i := 4) rfl)) (fun _ h9 => h9) rfl (tyX3_ok 7 (Nat.le_of_ble_eq_true rfl)) rfl rfl (Nat.le_of_ble_eq_true rfl) dX3_readItem_113 (fun H locs hP hD hS => ?_)
                              have h9R := zRe (ws' := [(ri, .inl (cI, 132, .inl (upd (upd (upd (upd fi slot.toNatClampNeg 3) x_109.toNatClampNeg r_113) x_129.toNatClampNeg r_132) x_148.toNatClampNeg r_151))), (rd, .inr (3, [.ref ri, .ref rl, .int rz, .int rc, .int q_153, .int q_154, .int rt, .int x_162])), (rl, .inl (cI, 160, .inl fl))]) hP hD rfl
                              clear hP hD
                              obtain ⟨hP, hD⟩ := h9R
                              have e0 : slot.toNatClampNeg = slot.toInt.toNat + 0 := (by show (slot : Int32).toInt.toNat = _; omega)
                              have e1 : x_109.toNatClampNeg = slot.toInt.toNat + 1 := (by show (x_109 : Int32).toInt.toNat = _; omega)
                              have e2 : x_129.toNatClampNeg = slot.toInt.toNat + 2 := (by show (x_129 : Int32).toInt.toNat = _; omega)
                              have e3 : x_148.toNatClampNeg = slot.toInt.toNat + 3 := (by show (x_148 : Int32).toInt.toNat = _; omega)
                              have hI := zIn_c (by have z := hn0; rw [show (q_116 : Int32).toInt = -1 from by omega] at z; exact z) (by decide) (by have z := hn1; rw [show (q_135 : Int32).toInt = -1 from by omega] at z; exact z) (by decide) hn2
                              exact W.vret hx hb hr (fun t ht hW => ⟨⟨(q_153, q_154, rt, x_162, (upd (upd (upd (upd fi slot.toNatClampNeg 3) x_109.toNatClampNeg r_113) x_129.toNatClampNeg r_132) x_148.toNatClampNeg r_151)), rfl, ⟨(show 0 ≤ q_153.toInt ∧ q_153.toInt ≤ 160 from hbq_153), (show (-1) ≤ q_154.toInt ∧ q_154.toInt ≤ 160 from hbq_154), (show 0 ≤ rt.toInt ∧ rt.toInt ≤ 40 from ⟨hy9, hy10⟩), (show 0 ≤ x_162.toInt ∧ x_162.toInt ≤ 8 from ⟨by omega, by omega⟩), (show q_153.toInt ≤ rz.toInt from by omega), (show (q_154.toInt = -1 → zIt (upd (upd (upd (upd fi slot.toNatClampNeg 3) x_109.toNatClampNeg r_113) x_129.toNatClampNeg r_132) x_148.toNatClampNeg r_151) slot.toInt.toNat) from by (intro h; have k5 : (3 : Int32).toInt = 3 := (by decide); exact zIt_mk (by simp only [upd]; rw [if_neg (by omega), if_neg (by omega), if_neg (by omega), if_pos (by omega)]) (by simp only [upd]; rw [if_neg (by omega), if_neg (by omega), if_pos (by omega)]) (by simp only [upd]; rw [if_neg (by omega), if_pos (by omega)]) (by simp only [upd]; rw [if_pos (by omega)]) (by unfold zItv; refine ⟨?_, ?_, ?_, ?_, ?_, ?_, ?_, ?_, ?_, ?_, ?_⟩ <;> (intros; omega)))), (show (∀ j : Nat, j < slot.toInt.toNat → (upd (upd (upd (upd fi slot.toNatClampNeg 3) x_109.toNatClampNeg r_113) x_129.toNatClampNeg r_132) x_148.toNatClampNeg r_151) j = fi j) from by (intro j hj; simp only [upd]; rw [if_neg (by omega), if_neg (by omega), if_neg (by omega), if_neg (by omega)])), (show (q_154.toInt = (zItem fl rz.toInt rp.toInt rt.toInt ru.toInt).1 ∧ (q_154.toInt = -1 → q_153.toInt = (zItem fl rz.toInt rp.toInt rt.toInt ru.toInt).2.1 ∧ rt.toInt = (zItem fl rz.toInt rp.toInt rt.toInt ru.toInt).2.2.1 ∧ x_162.toInt = (zItem fl rz.toInt rp.toInt rt.toInt ru.toInt).2.2.2)) from by (have z9 := hsr_1_1; rw [kc3] at z9; have hq : zFst fl rz.toInt rp.toInt zWds 10 = 3 ∧ ¬ ((3 : Int) = 3 ∧ ru.toInt = 8) := (by omega); have hl9 : (q_3 : Int32).toInt = rp.toInt + ((zWds ((3 : Int)).toNat).length : Nat) := (by omega); rw [zItem_w hq.1 (by decide) hq.2 hl9 hI]; dsimp only; exact ⟨by (first | rfl | omega), fun h => ⟨by (first | rfl | omega), by (show _ = (if (3 : Int) = 0 then _ else _); rw [if_neg (by decide)]), by (show _ = (if (3 : Int) = 3 then _ else _); first | (rw [if_pos rfl]; done) | (rw [if_pos rfl]; omega))⟩⟩)), (show (q_154.toInt = -1 → (((upd (upd (upd (upd fi slot.toNatClampNeg 3) x_109.toNatClampNeg r_113) x_129.toNatClampNeg r_132) x_148.toNatClampNeg r_151) slot.toInt.toNat).toInt = 0 → rt.toInt = ((upd (upd (upd (upd fi slot.toNatClampNeg 3) x_109.toNatClampNeg r_113) x_129.toNatClampNeg r_132) x_148.toNatClampNeg r_151) (slot.toInt.toNat + 1)).toInt) ∧ (((upd (upd (upd (upd fi slot.toNatClampNeg 3) x_109.toNatClampNeg r_113) x_129.toNatClampNeg r_132) x_148.toNatClampNeg r_151) slot.toInt.toNat).toInt ≠ 0 → rt.toInt = rt.toInt) ∧ (((upd (upd (upd (upd fi slot.toNatClampNeg 3) x_109.toNatClampNeg r_113) x_129.toNatClampNeg r_132) x_148.toNatClampNeg r_151) slot.toInt.toNat).toInt = 3 → x_162.toInt = ru.toInt + 1) ∧ (((upd (upd (upd (upd fi slot.toNatClampNeg 3) x_109.toNatClampNeg r_113) x_129.toNatClampNeg r_132) x_148.toNatClampNeg r_151) slot.toInt.toNat).toInt ≠ 3 → x_162.toInt = ru.toInt)) from by (intro h; have g0 : (upd (upd (upd (upd fi slot.toNatClampNeg 3) x_109.toNatClampNeg r_113) x_129.toNatClampNeg r_132) x_148.toNatClampNeg r_151) slot.toInt.toNat = (3 : Int32) := (by simp only [upd]; rw [if_neg (by omega), if_neg (by omega), if_neg (by omega), if_pos (by omega)]); have g1 : (upd (upd (upd (upd fi slot.toNatClampNeg 3) x_109.toNatClampNeg r_113) x_129.toNatClampNeg r_132) x_148.toNatClampNeg r_151) (slot.toInt.toNat + 1) = (r_113 : Int32) := (by simp only [upd]; rw [if_neg (by omega), if_neg (by omega), if_pos (by omega)]); rw [g0, g1]; refine ⟨?_, ?_, ?_, ?_⟩ <;> (intro h9; first | rfl | omega | (exfalso; omega)))), trivial⟩, zRet ht hP hD [1, 2, 0] (by decide) rfl⟩, hS.F ht⟩) hS.2.2 dX3_readItem_116
                          · exact absurd c_160 (by decide)
                        · exact absurd c_159 (by decide)
                      · have fc_157 : q_154.toInt ≠ (-1) := zf_ne c_157 rfl (by decide)
                        have e0 : slot.toNatClampNeg = slot.toInt.toNat + 0 := (by show (slot : Int32).toInt.toNat = _; omega)
                        have e1 : x_109.toNatClampNeg = slot.toInt.toNat + 1 := (by show (x_109 : Int32).toInt.toNat = _; omega)
                        have e2 : x_129.toNatClampNeg = slot.toInt.toNat + 2 := (by show (x_129 : Int32).toInt.toNat = _; omega)
                        have e3 : x_148.toNatClampNeg = slot.toInt.toNat + 3 := (by show (x_148 : Int32).toInt.toNat = _; omega)
                        have hI := zIn_c (by have z := hn0; rw [show (q_116 : Int32).toInt = -1 from by omega] at z; exact z) (by decide) (by have z := hn1; rw [show (q_135 : Int32).toInt = -1 from by omega] at z; exact z) (by decide) hn2
                        exact W.vret hx hb hr (fun t ht hW => ⟨⟨(q_153, q_154, rt, ru, (upd (upd (upd (upd fi slot.toNatClampNeg 3) x_109.toNatClampNeg r_113) x_129.toNatClampNeg r_132) x_148.toNatClampNeg r_151)), rfl, ⟨(show 0 ≤ q_153.toInt ∧ q_153.toInt ≤ 160 from hbq_153), (show (-1) ≤ q_154.toInt ∧ q_154.toInt ≤ 160 from hbq_154), (show 0 ≤ rt.toInt ∧ rt.toInt ≤ 40 from ⟨hy9, hy10⟩), (show 0 ≤ ru.toInt ∧ ru.toInt ≤ 8 from ⟨hy11, hy12⟩), (show q_153.toInt ≤ rz.toInt from by omega), (show (q_154.toInt = -1 → zIt (upd (upd (upd (upd fi slot.toNatClampNeg 3) x_109.toNatClampNeg r_113) x_129.toNatClampNeg r_132) x_148.toNatClampNeg r_151) slot.toInt.toNat) from by (intro h; exfalso; omega)), (show (∀ j : Nat, j < slot.toInt.toNat → (upd (upd (upd (upd fi slot.toNatClampNeg 3) x_109.toNatClampNeg r_113) x_129.toNatClampNeg r_132) x_148.toNatClampNeg r_151) j = fi j) from by (intro j hj; simp only [upd]; rw [if_neg (by omega), if_neg (by omega), if_neg (by omega), if_neg (by omega)])), (show (q_154.toInt = (zItem fl rz.toInt rp.toInt rt.toInt ru.toInt).1 ∧ (q_154.toInt = -1 → q_153.toInt = (zItem fl rz.toInt rp.toInt rt.toInt ru.toInt).2.1 ∧ rt.toInt = (zItem fl rz.toInt rp.toInt rt.toInt ru.toInt).2.2.1 ∧ ru.toInt = (zItem fl rz.toInt rp.toInt rt.toInt ru.toInt).2.2.2)) from by (have z9 := hsr_1_1; rw [kc3] at z9; have hq : zFst fl rz.toInt rp.toInt zWds 10 = 3 ∧ ¬ ((3 : Int) = 3 ∧ ru.toInt = 8) := (by omega); have hl9 : (q_3 : Int32).toInt = rp.toInt + ((zWds ((3 : Int)).toNat).length : Nat) := (by omega); rw [zItem_w hq.1 (by decide) hq.2 hl9 hI]; dsimp only; exact ⟨by (first | rfl | omega), fun h => ⟨by (first | rfl | omega), by (show _ = (if (3 : Int) = 0 then _ else _); rw [if_neg (by decide)]), by (show _ = (if (3 : Int) = 3 then _ else _); first | (rw [if_pos rfl]; done) | (rw [if_pos rfl]; omega))⟩⟩)), (show (q_154.toInt = -1 → (((upd (upd (upd (upd fi slot.toNatClampNeg 3) x_109.toNatClampNeg r_113) x_129.toNatClampNeg r_132) x_148.toNatClampNeg r_151) slot.toInt.toNat).toInt = 0 → rt.toInt = ((upd (upd (upd (upd fi slot.toNatClampNeg 3) x_109.toNatClampNeg r_113) x_129.toNatClampNeg r_132) x_148.toNatClampNeg r_151) (slot.toInt.toNat + 1)).toInt) ∧ (((upd (upd (upd (upd fi slot.toNatClampNeg 3) x_109.toNatClampNeg r_113) x_129.toNatClampNeg r_132) x_148.toNatClampNeg r_151) slot.toInt.toNat).toInt ≠ 0 → rt.toInt = rt.toInt) ∧ (((upd (upd (upd (upd fi slot.toNatClampNeg 3) x_109.toNatClampNeg r_113) x_129.toNatClampNeg r_132) x_148.toNatClampNeg r_151) slot.toInt.toNat).toInt = 3 → ru.toInt = ru.toInt + 1) ∧ (((upd (upd (upd (upd fi slot.toNatClampNeg 3) x_109.toNatClampNeg r_113) x_129.toNatClampNeg r_132) x_148.toNatClampNeg r_151) slot.toInt.toNat).toInt ≠ 3 → ru.toInt = ru.toInt)) from by (intro h; exfalso; omega)), trivial⟩, zRet ht hP hD [1, 2, 0] (by decide) rfl⟩, hS.F ht⟩) hS.2.2 dX3_readItem_75
                · have fc_138 : q_135.toInt ≠ (-1) := zf_ne c_138 rfl (by decide)
                  have e0 : slot.toNatClampNeg = slot.toInt.toNat + 0 := (by show (slot : Int32).toInt.toNat = _; omega)
                  have e1 : x_109.toNatClampNeg = slot.toInt.toNat + 1 := (by show (x_109 : Int32).toInt.toNat = _; omega)
                  have e2 : x_129.toNatClampNeg = slot.toInt.toNat + 2 := (by show (x_129 : Int32).toInt.toNat = _; omega)
                  have hI := zIn_b (by have z := hn0; rw [show (q_116 : Int32).toInt = -1 from by omega] at z; exact z) (by decide) hn1 (by first | (right; decide) | (left; omega))
                  exact W.vret hx hb hr (fun t ht hW => ⟨⟨(q_134, q_135, rt, ru, (upd (upd (upd fi slot.toNatClampNeg 3) x_109.toNatClampNeg r_113) x_129.toNatClampNeg r_132)), rfl, ⟨(show 0 ≤ q_134.toInt ∧ q_134.toInt ≤ 160 from hbq_134), (show (-1) ≤ q_135.toInt ∧ q_135.toInt ≤ 160 from hbq_135), (show 0 ≤ rt.toInt ∧ rt.toInt ≤ 40 from ⟨hy9, hy10⟩), (show 0 ≤ ru.toInt ∧ ru.toInt ≤ 8 from ⟨hy11, hy12⟩), (show q_134.toInt ≤ rz.toInt from by omega), (show (q_135.toInt = -1 → zIt (upd (upd (upd fi slot.toNatClampNeg 3) x_109.toNatClampNeg r_113) x_129.toNatClampNeg r_132) slot.toInt.toNat) from by (intro h; exfalso; omega)), (show (∀ j : Nat, j < slot.toInt.toNat → (upd (upd (upd fi slot.toNatClampNeg 3) x_109.toNatClampNeg r_113) x_129.toNatClampNeg r_132) j = fi j) from by (intro j hj; simp only [upd]; rw [if_neg (by omega), if_neg (by omega), if_neg (by omega)])), (show (q_135.toInt = (zItem fl rz.toInt rp.toInt rt.toInt ru.toInt).1 ∧ (q_135.toInt = -1 → q_134.toInt = (zItem fl rz.toInt rp.toInt rt.toInt ru.toInt).2.1 ∧ rt.toInt = (zItem fl rz.toInt rp.toInt rt.toInt ru.toInt).2.2.1 ∧ ru.toInt = (zItem fl rz.toInt rp.toInt rt.toInt ru.toInt).2.2.2)) from by (have z9 := hsr_1_1; rw [kc3] at z9; have hq : zFst fl rz.toInt rp.toInt zWds 10 = 3 ∧ ¬ ((3 : Int) = 3 ∧ ru.toInt = 8) := (by omega); have hl9 : (q_3 : Int32).toInt = rp.toInt + ((zWds ((3 : Int)).toNat).length : Nat) := (by omega); rw [zItem_w hq.1 (by decide) hq.2 hl9 hI]; dsimp only; exact ⟨by (first | rfl | omega), fun h => ⟨by (first | rfl | omega), by (show _ = (if (3 : Int) = 0 then _ else _); rw [if_neg (by decide)]), by (show _ = (if (3 : Int) = 3 then _ else _); first | (rw [if_pos rfl]; done) | (rw [if_pos rfl]; omega))⟩⟩)), (show (q_135.toInt = -1 → (((upd (upd (upd fi slot.toNatClampNeg 3) x_109.toNatClampNeg r_113) x_129.toNatClampNeg r_132) slot.toInt.toNat).toInt = 0 → rt.toInt = ((upd (upd (upd fi slot.toNatClampNeg 3) x_109.toNatClampNeg r_113) x_129.toNatClampNeg r_132) (slot.toInt.toNat + 1)).toInt) ∧ (((upd (upd (upd fi slot.toNatClampNeg 3) x_109.toNatClampNeg r_113) x_129.toNatClampNeg r_132) slot.toInt.toNat).toInt ≠ 0 → rt.toInt = rt.toInt) ∧ (((upd (upd (upd fi slot.toNatClampNeg 3) x_109.toNatClampNeg r_113) x_129.toNatClampNeg r_132) slot.toInt.toNat).toInt = 3 → ru.toInt = ru.toInt + 1) ∧ (((upd (upd (upd fi slot.toNatClampNeg 3) x_109.toNatClampNeg r_113) x_129.toNatClampNeg r_132) slot.toInt.toNat).toInt ≠ 3 → ru.toInt = ru.toInt)) from by (intro h; exfalso; omega)), trivial⟩, zRet ht hP hD [1, 2, 0] (by decide) rfl⟩, hS.F ht⟩) hS.2.2 dX3_readItem_75
          · have fc_119 : q_116.toInt ≠ (-1) := zf_ne c_119 rfl (by decide)
            have e0 : slot.toNatClampNeg = slot.toInt.toNat + 0 := (by show (slot : Int32).toInt.toNat = _; omega)
            have e1 : x_109.toNatClampNeg = slot.toInt.toNat + 1 := (by show (x_109 : Int32).toInt.toNat = _; omega)
            have hI := zIn_a hn0 (by first | (right; decide) | (left; omega))
            exact W.vret hx hb hr (fun t ht hW => ⟨⟨(q_115, q_116, rt, ru, (upd (upd fi slot.toNatClampNeg 3) x_109.toNatClampNeg r_113)), rfl, ⟨(show 0 ≤ q_115.toInt ∧ q_115.toInt ≤ 160 from hbq_115), (show (-1) ≤ q_116.toInt ∧ q_116.toInt ≤ 160 from hbq_116), (show 0 ≤ rt.toInt ∧ rt.toInt ≤ 40 from ⟨hy9, hy10⟩), (show 0 ≤ ru.toInt ∧ ru.toInt ≤ 8 from ⟨hy11, hy12⟩), (show q_115.toInt ≤ rz.toInt from by omega), (show (q_116.toInt = -1 → zIt (upd (upd fi slot.toNatClampNeg 3) x_109.toNatClampNeg r_113) slot.toInt.toNat) from by (intro h; exfalso; omega)), (show (∀ j : Nat, j < slot.toInt.toNat → (upd (upd fi slot.toNatClampNeg 3) x_109.toNatClampNeg r_113) j = fi j) from by (intro j hj; simp only [upd]; rw [if_neg (by omega), if_neg (by omega)])), (show (q_116.toInt = (zItem fl rz.toInt rp.toInt rt.toInt ru.toInt).1 ∧ (q_116.toInt = -1 → q_115.toInt = (zItem fl rz.toInt rp.toInt rt.toInt ru.toInt).2.1 ∧ rt.toInt = (zItem fl rz.toInt rp.toInt rt.toInt ru.toInt).2.2.1 ∧ ru.toInt = (zItem fl rz.toInt rp.toInt rt.toInt ru.toInt).2.2.2)) from by (have z9 := hsr_1_1; rw [kc3] at z9; have hq : zFst fl rz.toInt rp.toInt zWds 10 = 3 ∧ ¬ ((3 : Int) = 3 ∧ ru.toInt = 8) := (by omega); have hl9 : (q_3 : Int32).toInt = rp.toInt + ((zWds ((3 : Int)).toNat).length : Nat) := (by omega); rw [zItem_w hq.1 (by decide) hq.2 hl9 hI]; dsimp only; exact ⟨by (first | rfl | omega), fun h => ⟨by (first | rfl | omega), by (show _ = (if (3 : Int) = 0 then _ else _); rw [if_neg (by decide)]), by (show _ = (if (3 : Int) = 3 then _ else _); first | (rw [if_pos rfl]; done) | (rw [if_pos rfl]; omega))⟩⟩)), (show (q_116.toInt = -1 → (((upd (upd fi slot.toNatClampNeg 3) x_109.toNatClampNeg r_113) slot.toInt.toNat).toInt = 0 → rt.toInt = ((upd (upd fi slot.toNatClampNeg 3) x_109.toNatClampNeg r_113) (slot.toInt.toNat + 1)).toInt) ∧ (((upd (upd fi slot.toNatClampNeg 3) x_109.toNatClampNeg r_113) slot.toInt.toNat).toInt ≠ 0 → rt.toInt = rt.toInt) ∧ (((upd (upd fi slot.toNatClampNeg 3) x_109.toNatClampNeg r_113) slot.toInt.toNat).toInt = 3 → ru.toInt = ru.toInt + 1) ∧ (((upd (upd fi slot.toNatClampNeg 3) x_109.toNatClampNeg r_113) slot.toInt.toNat).toInt ≠ 3 → ru.toInt = ru.toInt)) from by (intro h; exfalso; omega)), trivial⟩, zRet ht hP hD [1, 2, 0] (by decide) rfl⟩, hS.F ht⟩) hS.2.2 dX3_readItem_75
    · have kc4 : (4 : Int32).toInt = 4 := by decide
      refine lv_aload_n hx hb dX3_readItem_11 rfl (lv_at hl 1 rfl) ?_
      refine va_get (D := D) (ci := 3) (v := .ref ri) (C := RX3) (T := TX3) (N := 8) hx hb hts hi_X3_readItem_3 hown hK hP 1 rfl rfl 0 (by decide) (hts (.fieldLink RX3 11 "TheLiningsInIt$Reader" "items" "[I") (List.mem_of_getElem? (i := 1) rfl)) (fun _ h9 => h9) rfl dX3_readItem_12 ?_
      refine lv_iload_n hx hb dX3_readItem_15 rfl (lv_at hl 2 rfl) ?_
      refine lv_iload_n hx hb dX3_readItem_16 rfl (lv_at hl 0 rfl) ?_
      refine va_iast hx hb hK hP hD hS 0 0 rfl rfl (zf_in (by omega) (by omega)) dX3_readItem_17 (fun H locs hP hD hS => ?_)
      have h9R := zRe (ws' := [(ri, .inl (cI, 132, .inl (upd fi slot.toNatClampNeg 4))), (rd, .inr (3, [.ref ri, .ref rl, .int rz, .int rc, .int q_3, .int q_4, .int rt, .int ru])), (rl, .inl (cI, 160, .inl fl))]) hP hD rfl
      clear hP hD
      obtain ⟨hP, hD⟩ := h9R
      refine lv_iconst (v := 0) hx hb dX3_readItem_18 (by decide) ?_
      refine lv_istore_n (lv' := [(3, .int 0), (2, .int 4), (0, .ref rd), (1, .int slot)]) hx hb dX3_readItem_19 rfl hl (by decide) rfl (fun ls hl => ?_)
      refine lv_iload_n hx hb dX3_readItem_20 rfl (lv_at hl 0 rfl) ?_
      refine lv_iload_n hx hb dX3_readItem_21 rfl (lv_at hl 1 rfl) ?_
      refine zc_S (As := [.int 4]) (rest := [.int 0]) ⟨hx, hb, hml, hown, hts⟩ (c_R_numbersOf_4 l D cI cJ cZ cP cS po  ) (va_cwS 1 hts gX3_readItem_X3_numbersOf rfl rfl rfl dh_X3_numbersOf ⟨Nat.le_of_ble_eq_true rfl, Nat.le_of_ble_eq_true rfl⟩) hK hN (hZ.kept hS) rfl hl.1 rfl (Nat.le_of_ble_eq_true rfl) dX3_readItem_22 ⟨Nat.le_of_ble_eq_true rfl, Nat.le_of_ble_eq_true rfl⟩ (fun r_163 hr_163 => ?_)
      obtain rfl := hr_163
      refine lv_icmp_ge (tgt := 82) hx hb dX3_readItem_25 (by decide) (fun c_164 => ?_) (fun c_164 => ?_)
      · exact absurd c_164 (by decide)
      · refine lv_aload_n hx hb dX3_readItem_28 rfl (lv_at hl 2 rfl) ?_
        refine lv_bipush (v := 32) hx hb dX3_readItem_29 (by decide) ?_
        have kc32 : (32 : Int32).toInt = 32 := by decide
        skip
        refine zw_Vv (As := [.int 32]) (rest := []) (wr := [(ri, .inl (cI, 132, .inl (upd fi slot.toNatClampNeg 4)))]) ⟨hx, hb, hml, hown, hts⟩ (c_F_R_expect l D cI cJ cZ cP cS po rd ri rl (rz) (rc) (q_3) (q_4) (rt) (ru) fl (32) hy0 hy1 hy2 hy3 hbq_3.1 hbq_3.2 (by omega) hbq_4.1 hbq_4.2 hy9 hy10 hy11 hy12 H.size) (cwV 1 hts gX3_readItem_X3_expect rfl rfl rfl ⟨rfl, dh_X3_expect⟩ ⟨Nat.le_of_ble_eq_true rfl, Nat.le_of_ble_eq_true rfl⟩) hK hN (hZ.kept hS) hP hD hS hA [1, 2] [0] rfl rfl (by decide) (by decide) (by decide) (va_recv (q := (RX3, TX3, 8)) hK hP (ci := 3) (q0 := 1) rfl rfl) rfl hl.1 rfl (Nat.le_of_ble_eq_true rfl) dX3_readItem_31 ⟨Nat.le_of_ble_eq_true rfl, Nat.le_of_ble_eq_true rfl⟩ (fun u_166 H locs hr_165 hP hD hS => ?_)
        obtain ⟨q_167, q_168⟩ := u_166
        try dsimp only at hr_165
        obtain ⟨hbq_167, hbq_168, hsr_165_0, hsr_165_1, hr_165⟩ := hr_165
        have h9R := zRe (ws' := [(ri, .inl (cI, 132, .inl (upd fi slot.toNatClampNeg 4))), (rd, .inr (3, [.ref ri, .ref rl, .int rz, .int rc, .int q_167, .int q_168, .int rt, .int ru])), (rl, .inl (cI, 160, .inl fl))]) hP hD rfl
        clear hP hD
        obtain ⟨hP, hD⟩ := h9R
        refine lv_aload_n hx hb dX3_readItem_34 rfl (lv_at hl 2 rfl) ?_
        refine va_get (D := D) (ci := 3) (v := .int q_168) (C := RX3) (T := TX3) (N := 8) hx hb hts hi_X3_readItem_3 hown hK hP 1 rfl rfl 5 (by decide) (hts (.fieldLink RX3 28 "TheLiningsInIt$Reader" "fault" "I") (List.mem_of_getElem? (i := 2) rfl)) (fun _ h9 => h9) rfl dX3_readItem_35 ?_
        refine lv_iconst (v := (-1)) hx hb dX3_readItem_38 (by decide) ?_
        refine lv_icmp_ne (tgt := 67) hx hb dX3_readItem_39 (by decide) (fun c_169 => ?_) (fun c_169 => ?_)
        · have fc_169 : q_168.toInt ≠ (-1) := zf_ne c_169 rfl (by decide)
          have hn0 : zN1 fl rz.toInt (q_3 : Int32).toInt (zLo 4 0) (zHi 4 0 rt.toInt) = ((q_3 : Int32).toInt, (q_3 : Int32).toInt, 0) := zN1_no (by omega)
          refine lv_aload_n hx hb dX3_readItem_67 rfl (lv_at hl 2 rfl) ?_
          refine va_get (D := D) (ci := 3) (v := .int q_168) (C := RX3) (T := TX3) (N := 8) hx hb hts hi_X3_readItem_3 hown hK hP 1 rfl rfl 5 (by decide) (hts (.fieldLink RX3 28 "TheLiningsInIt$Reader" "fault" "I") (List.mem_of_getElem? (i := 2) rfl)) (fun _ h9 => h9) rfl dX3_readItem_68 ?_
          refine lv_iconst (v := (-1)) hx hb dX3_readItem_71 (by decide) ?_
          refine lv_icmp_eq (tgt := 76) hx hb dX3_readItem_72 (by decide) (fun c_170 => ?_) (fun c_170 => ?_)
          · exfalso; have fc_170 : q_168.toInt = (-1) := zf_eq c_170 rfl (by decide); omega
          · have fc_170 : q_168.toInt ≠ (-1) := zf_ne c_170 rfl (by decide)
            have e0 : slot.toNatClampNeg = slot.toInt.toNat + 0 := (by show (slot : Int32).toInt.toNat = _; omega)
            have hI := zIn_a hn0 (by first | (right; decide) | (left; omega))
            exact W.vret hx hb hr (fun t ht hW => ⟨⟨(q_167, q_168, rt, ru, (upd fi slot.toNatClampNeg 4)), rfl, ⟨(show 0 ≤ q_167.toInt ∧ q_167.toInt ≤ 160 from hbq_167), (show (-1) ≤ q_168.toInt ∧ q_168.toInt ≤ 160 from hbq_168), (show 0 ≤ rt.toInt ∧ rt.toInt ≤ 40 from ⟨hy9, hy10⟩), (show 0 ≤ ru.toInt ∧ ru.toInt ≤ 8 from ⟨hy11, hy12⟩), (show q_167.toInt ≤ rz.toInt from by omega), (show (q_168.toInt = -1 → zIt (upd fi slot.toNatClampNeg 4) slot.toInt.toNat) from by (intro h; exfalso; omega)), (show (∀ j : Nat, j < slot.toInt.toNat → (upd fi slot.toNatClampNeg 4) j = fi j) from by (intro j hj; simp only [upd]; rw [if_neg (by omega)])), (show (q_168.toInt = (zItem fl rz.toInt rp.toInt rt.toInt ru.toInt).1 ∧ (q_168.toInt = -1 → q_167.toInt = (zItem fl rz.toInt rp.toInt rt.toInt ru.toInt).2.1 ∧ rt.toInt = (zItem fl rz.toInt rp.toInt rt.toInt ru.toInt).2.2.1 ∧ ru.toInt = (zItem fl rz.toInt rp.toInt rt.toInt ru.toInt).2.2.2)) from by (have z9 := hsr_1_1; rw [kc4] at z9; have hq : zFst fl rz.toInt rp.toInt zWds 10 = 4 ∧ ¬ ((4 : Int) = 3 ∧ ru.toInt = 8) := (by omega); have hl9 : (q_3 : Int32).toInt = rp.toInt + ((zWds ((4 : Int)).toNat).length : Nat) := (by omega); rw [zItem_w hq.1 (by decide) hq.2 hl9 hI]; dsimp only; exact ⟨by (first | rfl | omega), fun h => ⟨by (first | rfl | omega), by (show _ = (if (4 : Int) = 0 then _ else _); rw [if_neg (by decide)]), by (show _ = (if (4 : Int) = 3 then _ else _); rw [if_neg (by decide)])⟩⟩)), (show (q_168.toInt = -1 → (((upd fi slot.toNatClampNeg 4) slot.toInt.toNat).toInt = 0 → rt.toInt = ((upd fi slot.toNatClampNeg 4) (slot.toInt.toNat + 1)).toInt) ∧ (((upd fi slot.toNatClampNeg 4) slot.toInt.toNat).toInt ≠ 0 → rt.toInt = rt.toInt) ∧ (((upd fi slot.toNatClampNeg 4) slot.toInt.toNat).toInt = 3 → ru.toInt = ru.toInt + 1) ∧ (((upd fi slot.toNatClampNeg 4) slot.toInt.toNat).toInt ≠ 3 → ru.toInt = ru.toInt)) from by (intro h; exfalso; omega)), trivial⟩, zRet ht hP hD [1, 2, 0] (by decide) rfl⟩, hS.F ht⟩) hS.2.2 dX3_readItem_75
        · have fc_169 : q_168.toInt = (-1) := zf_eq c_169 rfl (by decide)
          refine lv_aload_n hx hb dX3_readItem_42 rfl (lv_at hl 2 rfl) ?_
          refine va_get (D := D) (ci := 3) (v := .ref ri) (C := RX3) (T := TX3) (N := 8) hx hb hts hi_X3_readItem_3 hown hK hP 1 rfl rfl 0 (by decide) (hts (.fieldLink RX3 11 "TheLiningsInIt$Reader" "items" "[I") (List.mem_of_getElem? (i := 1) rfl)) (fun _ h9 => h9) rfl dX3_readItem_43 ?_
          refine lv_iload_n hx hb dX3_readItem_46 rfl (lv_at hl 3 rfl) ?_
          refine lv_iconst (v := 1) hx hb dX3_readItem_47 (by decide) ?_
          refine lv_iadd hx hb dX3_readItem_48 ?_
          refine lv_topi (fun x_171 ex_171 => ?_)
          have qx_171 : x_171.toInt = slot.toInt + 1 := by rw [ex_171]; exact zf_add rfl (by decide) (by omega) (by omega)
          refine lv_iload_n hx hb dX3_readItem_49 rfl (lv_at hl 0 rfl) ?_
          refine lv_iadd hx hb dX3_readItem_50 ?_
          refine lv_topi (fun y_172 ey_172 => ?_)
          obtain rfl : x_171 = y_172 := (ey_172.trans (Int32.add_zero x_171)).symm
          refine lv_aload_n hx hb dX3_readItem_51 rfl (lv_at hl 2 rfl) ?_
          refine lv_iload_n hx hb dX3_readItem_52 rfl (lv_at hl 1 rfl) ?_
          refine lv_iload_n hx hb dX3_readItem_53 rfl (lv_at hl 0 rfl) ?_
          refine zc_S (As := [.int 4, .int 0]) (rest := [.ref rd, .int x_171, .ref ri]) ⟨hx, hb, hml, hown, hts⟩ (c_R_leastOf_4_0 l D cI cJ cZ cP cS po  ) (va_cwS 2 hts gX3_readItem_X3_leastOf rfl rfl rfl dh_X3_leastOf ⟨Nat.le_of_ble_eq_true rfl, Nat.le_of_ble_eq_true rfl⟩) hK hN (hZ.kept hS) rfl hl.1 rfl (Nat.le_of_ble_eq_true rfl) dX3_readItem_54 ⟨Nat.le_of_ble_eq_true rfl, Nat.le_of_ble_eq_true rfl⟩ (fun r_173 hr_173 => ?_)
          obtain rfl := hr_173
          refine lv_aload_n hx hb dX3_readItem_57 rfl (lv_at hl 2 rfl) ?_
          refine lv_iload_n hx hb dX3_readItem_58 rfl (lv_at hl 1 rfl) ?_
          refine lv_iload_n hx hb dX3_readItem_59 rfl (lv_at hl 0 rfl) ?_
          refine zc_V (As := [.int 4, .int 0]) (rest := [.int 0, .ref rd, .int x_171, .ref ri]) ⟨hx, hb, hml, hown, hts⟩ (c_R_mostOf_4_0 l D cI cJ cZ cP cS po rd ri rl (rz) (rc) (q_167) (q_168) (rt) (ru) hy0 hy1 hy2 hy3 hbq_167.1 hbq_167.2 (by omega) hbq_168.1 hbq_168.2 hy9 hy10 hy11 hy12) (cwV 2 hts gX3_readItem_X3_mostOf rfl rfl rfl ⟨rfl, dh_X3_mostOf⟩ ⟨Nat.le_of_ble_eq_true rfl, Nat.le_of_ble_eq_true rfl⟩) hK hN (hZ.kept hS) hP (hP.sub [1] rfl) (va_recv (q := (RX3, TX3, 8)) hK hP (ci := 3) (q0 := 1) rfl rfl) rfl hl.1 rfl (Nat.le_of_ble_eq_true rfl) dX3_readItem_60 ⟨Nat.le_of_ble_eq_true rfl, Nat.le_of_ble_eq_true rfl⟩ (fun r_174 hr_174 => ?_)
          obtain rfl := hr_174
          have kc0 : (0 : Int32).toInt = 0 := by decide
          have kc24 : (24 : Int32).toInt = 24 := by decide
          skip
          refine zw_V (As := [.int 0, .int 24]) (rest := [.int x_171, .ref ri]) (wr := [(ri, .inl (cI, 132, .inl (upd fi slot.toNatClampNeg 4)))]) ⟨hx, hb, hml, hown, hts⟩ (c_F_R_readNumber l D cI cJ cZ cP cS po rd ri rl (rz) (rc) (q_167) (q_168) (rt) (ru) fl (0) (24) hy0 hy1 hy2 hy3 hbq_167.1 hbq_167.2 (by omega) hbq_168.1 hbq_168.2 hy9 hy10 hy11 hy12 H.size) (cwV 2 hts gX3_readItem_X3_readNumber rfl rfl rfl ⟨rfl, dh_X3_readNumber⟩ ⟨Nat.le_of_ble_eq_true rfl, Nat.le_of_ble_eq_true rfl⟩) hK hN (hZ.kept hS) hP hD hS hA [1, 2] [0] rfl rfl (by decide) (by decide) (by decide) (va_recv (q := (RX3, TX3, 8)) hK hP (ci := 3) (q0 := 1) rfl rfl) rfl hl.1 rfl (Nat.le_of_ble_eq_true rfl) dX3_readItem_63 ⟨Nat.le_of_ble_eq_true rfl, Nat.le_of_ble_eq_true rfl⟩ (fun r_175 u_176 H locs hr_175 hP hD hS => ?_)
          obtain ⟨q_177, q_178⟩ := u_176
          try dsimp only at hr_175
          obtain ⟨hbq_177, hbq_178, hsr_175_0, hsr_175_1, hsr_175_2, hsr_175_3, hr_175⟩ := hr_175
          have h9R := zRe (ws' := [(ri, .inl (cI, 132, .inl (upd fi slot.toNatClampNeg 4))), (rd, .inr (3, [.ref ri, .ref rl, .int rz, .int rc, .int q_177, .int q_178, .int rt, .int ru])), (rl, .inl (cI, 160, .inl fl))]) hP hD rfl
          clear hP hD
          obtain ⟨hP, hD⟩ := h9R
          obtain ⟨g_179, g_180⟩ := hr_175
          refine va_iast hx hb hK hP hD hS 0 0 rfl rfl (zf_in (by omega) (by omega)) dX3_readItem_66 (fun H locs hP hD hS => ?_)
          have h9R := zRe (ws' := [(ri, .inl (cI, 132, .inl (upd (upd fi slot.toNatClampNeg 4) x_171.toNatClampNeg r_175))), (rd, .inr (3, [.ref ri, .ref rl, .int rz, .int rc, .int q_177, .int q_178, .int rt, .int ru])), (rl, .inl (cI, 160, .inl fl))]) hP hD rfl
          clear hP hD
          obtain ⟨hP, hD⟩ := h9R
          have hn0 : zN1 fl rz.toInt (q_3 : Int32).toInt (zLo 4 0) (zHi 4 0 rt.toInt) = ((q_178 : Int32).toInt, (q_177 : Int32).toInt, r_175.toInt) := zN1_yes (p1 := (q_167 : Int32).toInt) (lo2 := ((0 : Int32)).toInt) (hi2 := ((24 : Int32)).toInt) (by omega) (by omega) hsr_175_1 hsr_175_2 (by first | decide | (show (0 : Int) = _; omega)) (by first | decide | (show (24 : Int) = _; decide) | (show rt.toInt - 1 = _; omega) | (show rt.toInt = _; omega)) (by omega)
          refine lv_aload_n hx hb dX3_readItem_67 rfl (lv_at hl 2 rfl) ?_
          refine va_get (D := D) (ci := 3) (v := .int q_178) (C := RX3) (T := TX3) (N := 8) hx hb hts hi_X3_readItem_3 hown hK hP 1 rfl rfl 5 (by decide) (hts (.fieldLink RX3 28 "TheLiningsInIt$Reader" "fault" "I") (List.mem_of_getElem? (i := 2) rfl)) (fun _ h9 => h9) rfl dX3_readItem_68 ?_
          refine lv_iconst (v := (-1)) hx hb dX3_readItem_71 (by decide) ?_
          refine lv_icmp_eq (tgt := 76) hx hb dX3_readItem_72 (by decide) (fun c_181 => ?_) (fun c_181 => ?_)
          · have fc_181 : q_178.toInt = (-1) := zf_eq c_181 rfl (by decide)
            refine lv_iinc (v := 1) (lv' := [(3, .int 1), (2, .int 4), (0, .ref rd), (1, .int slot)]) hx hb dX3_readItem_76 hl (k := 0) rfl (by decide) (by decide) rfl (fun ls hl => ?_)
            refine lv_goto (tgt := 20) hx hb dX3_readItem_79 (by decide) ?_
            refine lv_iload_n hx hb dX3_readItem_20 rfl (lv_at hl 0 rfl) ?_
            refine lv_iload_n hx hb dX3_readItem_21 rfl (lv_at hl 1 rfl) ?_
            refine zc_S (As := [.int 4]) (rest := [.int 1]) ⟨hx, hb, hml, hown, hts⟩ (c_R_numbersOf_4 l D cI cJ cZ cP cS po  ) (va_cwS 1 hts gX3_readItem_X3_numbersOf rfl rfl rfl dh_X3_numbersOf ⟨Nat.le_of_ble_eq_true rfl, Nat.le_of_ble_eq_true rfl⟩) hK hN (hZ.kept hS) rfl hl.1 rfl (Nat.le_of_ble_eq_true rfl) dX3_readItem_22 ⟨Nat.le_of_ble_eq_true rfl, Nat.le_of_ble_eq_true rfl⟩ (fun r_182 hr_182 => ?_)
            obtain rfl := hr_182
            refine lv_icmp_ge (tgt := 82) hx hb dX3_readItem_25 (by decide) (fun c_183 => ?_) (fun c_183 => ?_)
            · refine lv_iload_n hx hb dX3_readItem_82 rfl (lv_at hl 1 rfl) ?_
              refine lv_if_ne (tgt := 101) hx hb dX3_readItem_83 (by decide) (fun c_184 => ?_) (fun c_184 => ?_)
              · refine lv_iload_n hx hb dX3_readItem_101 rfl (lv_at hl 1 rfl) ?_
                refine lv_iconst (v := 3) hx hb dX3_readItem_102 (by decide) ?_
                refine lv_icmp_ne (tgt := 116) hx hb dX3_readItem_103 (by decide) (fun c_185 => ?_) (fun c_185 => ?_)
                · have e0 : slot.toNatClampNeg = slot.toInt.toNat + 0 := (by show (slot : Int32).toInt.toNat = _; omega)
                  have e1 : x_171.toNatClampNeg = slot.toInt.toNat + 1 := (by show (x_171 : Int32).toInt.toNat = _; omega)
                  have hI := zIn_a hn0 (by first | (right; decide) | (left; omega))
                  exact W.vret hx hb hr (fun t ht hW => ⟨⟨(q_177, q_178, rt, ru, (upd (upd fi slot.toNatClampNeg 4) x_171.toNatClampNeg r_175)), rfl, ⟨(show 0 ≤ q_177.toInt ∧ q_177.toInt ≤ 160 from hbq_177), (show (-1) ≤ q_178.toInt ∧ q_178.toInt ≤ 160 from hbq_178), (show 0 ≤ rt.toInt ∧ rt.toInt ≤ 40 from ⟨hy9, hy10⟩), (show 0 ≤ ru.toInt ∧ ru.toInt ≤ 8 from ⟨hy11, hy12⟩), (show q_177.toInt ≤ rz.toInt from by omega), (show (q_178.toInt = -1 → zIt (upd (upd fi slot.toNatClampNeg 4) x_171.toNatClampNeg r_175) slot.toInt.toNat) from by (intro h; have k3 : (4 : Int32).toInt = 4 := (by decide); exact zIt_mk (by simp only [upd]; rw [if_neg (by omega), if_pos (by omega)]) (by simp only [upd]; rw [if_pos (by omega)]) (rfl) (rfl) (by unfold zItv; refine ⟨?_, ?_, ?_, ?_, ?_, ?_, ?_, ?_, ?_, ?_, ?_⟩ <;> (intros; omega)))), (show (∀ j : Nat, j < slot.toInt.toNat → (upd (upd fi slot.toNatClampNeg 4) x_171.toNatClampNeg r_175) j = fi j) from by (intro j hj; simp only [upd]; rw [if_neg (by omega), if_neg (by omega)])), (show (q_178.toInt = (zItem fl rz.toInt rp.toInt rt.toInt ru.toInt).1 ∧ (q_178.toInt = -1 → q_177.toInt = (zItem fl rz.toInt rp.toInt rt.toInt ru.toInt).2.1 ∧ rt.toInt = (zItem fl rz.toInt rp.toInt rt.toInt ru.toInt).2.2.1 ∧ ru.toInt = (zItem fl rz.toInt rp.toInt rt.toInt ru.toInt).2.2.2)) from by (have z9 := hsr_1_1; rw [kc4] at z9; have hq : zFst fl rz.toInt rp.toInt zWds 10 = 4 ∧ ¬ ((4 : Int) = 3 ∧ ru.toInt = 8) := (by omega); have hl9 : (q_3 : Int32).toInt = rp.toInt + ((zWds ((4 : Int)).toNat).length : Nat) := (by omega); rw [zItem_w hq.1 (by decide) hq.2 hl9 hI]; dsimp only; exact ⟨by (first | rfl | omega), fun h => ⟨by (first | rfl | omega), by (show _ = (if (4 : Int) = 0 then _ else _); rw [if_neg (by decide)]), by (show _ = (if (4 : Int) = 3 then _ else _); rw [if_neg (by decide)])⟩⟩)), (show (q_178.toInt = -1 → (((upd (upd fi slot.toNatClampNeg 4) x_171.toNatClampNeg r_175) slot.toInt.toNat).toInt = 0 → rt.toInt = ((upd (upd fi slot.toNatClampNeg 4) x_171.toNatClampNeg r_175) (slot.toInt.toNat + 1)).toInt) ∧ (((upd (upd fi slot.toNatClampNeg 4) x_171.toNatClampNeg r_175) slot.toInt.toNat).toInt ≠ 0 → rt.toInt = rt.toInt) ∧ (((upd (upd fi slot.toNatClampNeg 4) x_171.toNatClampNeg r_175) slot.toInt.toNat).toInt = 3 → ru.toInt = ru.toInt + 1) ∧ (((upd (upd fi slot.toNatClampNeg 4) x_171.toNatClampNeg r_175) slot.toInt.toNat).toInt ≠ 3 → ru.toInt = ru.toInt)) from by (intro h; have g0 : (upd (upd fi slot.toNatClampNeg 4) x_171.toNatClampNeg r_175) slot.toInt.toNat = (4 : Int32) := (by simp only [upd]; rw [if_neg (by omega), if_pos (by omega)]); have g1 : (upd (upd fi slot.toNatClampNeg 4) x_171.toNatClampNeg r_175) (slot.toInt.toNat + 1) = (r_175 : Int32) := (by simp only [upd]; rw [if_pos (by omega)]); rw [g0, g1]; refine ⟨?_, ?_, ?_, ?_⟩ <;> (intro h9; first | rfl | omega | (exfalso; omega)))), trivial⟩, zRet ht hP hD [1, 2, 0] (by decide) rfl⟩, hS.F ht⟩) hS.2.2 dX3_readItem_116
                · exact absurd c_185 (by decide)
              · exact absurd c_184 (by decide)
            · exact absurd c_183 (by decide)
          · have fc_181 : q_178.toInt ≠ (-1) := zf_ne c_181 rfl (by decide)
            have e0 : slot.toNatClampNeg = slot.toInt.toNat + 0 := (by show (slot : Int32).toInt.toNat = _; omega)
            have e1 : x_171.toNatClampNeg = slot.toInt.toNat + 1 := (by show (x_171 : Int32).toInt.toNat = _; omega)
            have hI := zIn_a hn0 (by first | (right; decide) | (left; omega))
            exact W.vret hx hb hr (fun t ht hW => ⟨⟨(q_177, q_178, rt, ru, (upd (upd fi slot.toNatClampNeg 4) x_171.toNatClampNeg r_175)), rfl, ⟨(show 0 ≤ q_177.toInt ∧ q_177.toInt ≤ 160 from hbq_177), (show (-1) ≤ q_178.toInt ∧ q_178.toInt ≤ 160 from hbq_178), (show 0 ≤ rt.toInt ∧ rt.toInt ≤ 40 from ⟨hy9, hy10⟩), (show 0 ≤ ru.toInt ∧ ru.toInt ≤ 8 from ⟨hy11, hy12⟩), (show q_177.toInt ≤ rz.toInt from by omega), (show (q_178.toInt = -1 → zIt (upd (upd fi slot.toNatClampNeg 4) x_171.toNatClampNeg r_175) slot.toInt.toNat) from by (intro h; exfalso; omega)), (show (∀ j : Nat, j < slot.toInt.toNat → (upd (upd fi slot.toNatClampNeg 4) x_171.toNatClampNeg r_175) j = fi j) from by (intro j hj; simp only [upd]; rw [if_neg (by omega), if_neg (by omega)])), (show (q_178.toInt = (zItem fl rz.toInt rp.toInt rt.toInt ru.toInt).1 ∧ (q_178.toInt = -1 → q_177.toInt = (zItem fl rz.toInt rp.toInt rt.toInt ru.toInt).2.1 ∧ rt.toInt = (zItem fl rz.toInt rp.toInt rt.toInt ru.toInt).2.2.1 ∧ ru.toInt = (zItem fl rz.toInt rp.toInt rt.toInt ru.toInt).2.2.2)) from by (have z9 := hsr_1_1; rw [kc4] at z9; have hq : zFst fl rz.toInt rp.toInt zWds 10 = 4 ∧ ¬ ((4 : Int) = 3 ∧ ru.toInt = 8) := (by omega); have hl9 : (q_3 : Int32).toInt = rp.toInt + ((zWds ((4 : Int)).toNat).length : Nat) := (by omega); rw [zItem_w hq.1 (by decide) hq.2 hl9 hI]; dsimp only; exact ⟨by (first | rfl | omega), fun h => ⟨by (first | rfl | omega), by (show _ = (if (4 : Int) = 0 then _ else _); rw [if_neg (by decide)]), by (show _ = (if (4 : Int) = 3 then _ else _); rw [if_neg (by decide)])⟩⟩)), (show (q_178.toInt = -1 → (((upd (upd fi slot.toNatClampNeg 4) x_171.toNatClampNeg r_175) slot.toInt.toNat).toInt = 0 → rt.toInt = ((upd (upd fi slot.toNatClampNeg 4) x_171.toNatClampNeg r_175) (slot.toInt.toNat + 1)).toInt) ∧ (((upd (upd fi slot.toNatClampNeg 4) x_171.toNatClampNeg r_175) slot.toInt.toNat).toInt ≠ 0 → rt.toInt = rt.toInt) ∧ (((upd (upd fi slot.toNatClampNeg 4) x_171.toNatClampNeg r_175) slot.toInt.toNat).toInt = 3 → ru.toInt = ru.toInt + 1) ∧ (((upd (upd fi slot.toNatClampNeg 4) x_171.toNatClampNeg r_175) slot.toInt.toNat).toInt ≠ 3 → ru.toInt = ru.toInt)) from by (intro h; exfalso; omega)), trivial⟩, zRet ht hP hD [1, 2, 0] (by decide) rfl⟩, hS.F ht⟩) hS.2.2 dX3_readItem_75
    · have kc5 : (5 : Int32).toInt = 5 := by decide
      refine lv_aload_n hx hb dX3_readItem_11 rfl (lv_at hl 1 rfl) ?_
      refine va_get (D := D) (ci := 3) (v := .ref ri) (C := RX3) (T := TX3) (N := 8) hx hb hts hi_X3_readItem_3 hown hK hP 1 rfl rfl 0 (by decide) (hts (.fieldLink RX3 11 "TheLiningsInIt$Reader" "items" "[I") (List.mem_of_getElem? (i := 1) rfl)) (fun _ h9 => h9) rfl dX3_readItem_12 ?_
      refine lv_iload_n hx hb dX3_readItem_15 rfl (lv_at hl 2 rfl) ?_
      refine lv_iload_n hx hb dX3_readItem_16 rfl (lv_at hl 0 rfl) ?_
      refine va_iast hx hb hK hP hD hS 0 0 rfl rfl (zf_in (by omega) (by omega)) dX3_readItem_17 (fun H locs hP hD hS => ?_)
      have h9R := zRe (ws' := [(ri, .inl (cI, 132, .inl (upd fi slot.toNatClampNeg 5))), (rd, .inr (3, [.ref ri, .ref rl, .int rz, .int rc, .int q_3, .int q_4, .int rt, .int ru])), (rl, .inl (cI, 160, .inl fl))]) hP hD rfl
      clear hP hD
      obtain ⟨hP, hD⟩ := h9R
      refine lv_iconst (v := 0) hx hb dX3_readItem_18 (by decide) ?_
      refine lv_istore_n (lv' := [(3, .int 0), (2, .int 5), (0, .ref rd), (1, .int slot)]) hx hb dX3_readItem_19 rfl hl (by decide) rfl (fun ls hl => ?_)
      refine lv_iload_n hx hb dX3_readItem_20 rfl (lv_at hl 0 rfl) ?_
      refine lv_iload_n hx hb dX3_readItem_21 rfl (lv_at hl 1 rfl) ?_
      refine zc_S (As := [.int 5]) (rest := [.int 0]) ⟨hx, hb, hml, hown, hts⟩ (c_R_numbersOf_5 l D cI cJ cZ cP cS po  ) (va_cwS 1 hts gX3_readItem_X3_numbersOf rfl rfl rfl dh_X3_numbersOf ⟨Nat.le_of_ble_eq_true rfl, Nat.le_of_ble_eq_true rfl⟩) hK hN (hZ.kept hS) rfl hl.1 rfl (Nat.le_of_ble_eq_true rfl) dX3_readItem_22 ⟨Nat.le_of_ble_eq_true rfl, Nat.le_of_ble_eq_true rfl⟩ (fun r_186 hr_186 => ?_)
      obtain rfl := hr_186
      refine lv_icmp_ge (tgt := 82) hx hb dX3_readItem_25 (by decide) (fun c_187 => ?_) (fun c_187 => ?_)
      · exact absurd c_187 (by decide)
      · refine lv_aload_n hx hb dX3_readItem_28 rfl (lv_at hl 2 rfl) ?_
        refine lv_bipush (v := 32) hx hb dX3_readItem_29 (by decide) ?_
        have kc32 : (32 : Int32).toInt = 32 := by decide
        skip
        refine zw_Vv (As := [.int 32]) (rest := []) (wr := [(ri, .inl (cI, 132, .inl (upd fi slot.toNatClampNeg 5)))]) ⟨hx, hb, hml, hown, hts⟩ (c_F_R_expect l D cI cJ cZ cP cS po rd ri rl (rz) (rc) (q_3) (q_4) (rt) (ru) fl (32) hy0 hy1 hy2 hy3 hbq_3.1 hbq_3.2 (by omega) hbq_4.1 hbq_4.2 hy9 hy10 hy11 hy12 H.size) (cwV 1 hts gX3_readItem_X3_expect rfl rfl rfl ⟨rfl, dh_X3_expect⟩ ⟨Nat.le_of_ble_eq_true rfl, Nat.le_of_ble_eq_true rfl⟩) hK hN (hZ.kept hS) hP hD hS hA [1, 2] [0] rfl rfl (by decide) (by decide) (by decide) (va_recv (q := (RX3, TX3, 8)) hK hP (ci := 3) (q0 := 1) rfl rfl) rfl hl.1 rfl (Nat.le_of_ble_eq_true rfl) dX3_readItem_31 ⟨Nat.le_of_ble_eq_true rfl, Nat.le_of_ble_eq_true rfl⟩ (fun u_189 H locs hr_188 hP hD hS => ?_)
        obtain ⟨q_190, q_191⟩ := u_189
        try dsimp only at hr_188
        obtain ⟨hbq_190, hbq_191, hsr_188_0, hsr_188_1, hr_188⟩ := hr_188
        have h9R := zRe (ws' := [(ri, .inl (cI, 132, .inl (upd fi slot.toNatClampNeg 5))), (rd, .inr (3, [.ref ri, .ref rl, .int rz, .int rc, .int q_190, .int q_191, .int rt, .int ru])), (rl, .inl (cI, 160, .inl fl))]) hP hD rfl
        clear hP hD
        obtain ⟨hP, hD⟩ := h9R
        refine lv_aload_n hx hb dX3_readItem_34 rfl (lv_at hl 2 rfl) ?_
        refine va_get (D := D) (ci := 3) (v := .int q_191) (C := RX3) (T := TX3) (N := 8) hx hb hts hi_X3_readItem_3 hown hK hP 1 rfl rfl 5 (by decide) (hts (.fieldLink RX3 28 "TheLiningsInIt$Reader" "fault" "I") (List.mem_of_getElem? (i := 2) rfl)) (fun _ h9 => h9) rfl dX3_readItem_35 ?_
        refine lv_iconst (v := (-1)) hx hb dX3_readItem_38 (by decide) ?_
        refine lv_icmp_ne (tgt := 67) hx hb dX3_readItem_39 (by decide) (fun c_192 => ?_) (fun c_192 => ?_)
        · have fc_192 : q_191.toInt ≠ (-1) := zf_ne c_192 rfl (by decide)
          have hn0 : zN1 fl rz.toInt (q_3 : Int32).toInt (zLo 5 0) (zHi 5 0 rt.toInt) = ((q_3 : Int32).toInt, (q_3 : Int32).toInt, 0) := zN1_no (by omega)
          refine lv_aload_n hx hb dX3_readItem_67 rfl (lv_at hl 2 rfl) ?_
          refine va_get (D := D) (ci := 3) (v := .int q_191) (C := RX3) (T := TX3) (N := 8) hx hb hts hi_X3_readItem_3 hown hK hP 1 rfl rfl 5 (by decide) (hts (.fieldLink RX3 28 "TheLiningsInIt$Reader" "fault" "I") (List.mem_of_getElem? (i := 2) rfl)) (fun _ h9 => h9) rfl dX3_readItem_68 ?_
          refine lv_iconst (v := (-1)) hx hb dX3_readItem_71 (by decide) ?_
          refine lv_icmp_eq (tgt := 76) hx hb dX3_readItem_72 (by decide) (fun c_193 => ?_) (fun c_193 => ?_)
          · exfalso; have fc_193 : q_191.toInt = (-1) := zf_eq c_193 rfl (by decide); omega
          · have fc_193 : q_191.toInt ≠ (-1) := zf_ne c_193 rfl (by decide)
            have e0 : slot.toNatClampNeg = slot.toInt.toNat + 0 := (by show (slot : Int32).toInt.toNat = _; omega)
            have hI := zIn_a hn0 (by first | (right; decide) | (left; omega))
            exact W.vret hx hb hr (fun t ht hW => ⟨⟨(q_190, q_191, rt, ru, (upd fi slot.toNatClampNeg 5)), rfl, ⟨(show 0 ≤ q_190.toInt ∧ q_190.toInt ≤ 160 from hbq_190), (show (-1) ≤ q_191.toInt ∧ q_191.toInt ≤ 160 from hbq_191), (show 0 ≤ rt.toInt ∧ rt.toInt ≤ 40 from ⟨hy9, hy10⟩), (show 0 ≤ ru.toInt ∧ ru.toInt ≤ 8 from ⟨hy11, hy12⟩), (show q_190.toInt ≤ rz.toInt from by omega), (show (q_191.toInt = -1 → zIt (upd fi slot.toNatClampNeg 5) slot.toInt.toNat) from by (intro h; exfalso; omega)), (show (∀ j : Nat, j < slot.toInt.toNat → (upd fi slot.toNatClampNeg 5) j = fi j) from by (intro j hj; simp only [upd]; rw [if_neg (by omega)])), (show (q_191.toInt = (zItem fl rz.toInt rp.toInt rt.toInt ru.toInt).1 ∧ (q_191.toInt = -1 → q_190.toInt = (zItem fl rz.toInt rp.toInt rt.toInt ru.toInt).2.1 ∧ rt.toInt = (zItem fl rz.toInt rp.toInt rt.toInt ru.toInt).2.2.1 ∧ ru.toInt = (zItem fl rz.toInt rp.toInt rt.toInt ru.toInt).2.2.2)) from by (have z9 := hsr_1_1; rw [kc5] at z9; have hq : zFst fl rz.toInt rp.toInt zWds 10 = 5 ∧ ¬ ((5 : Int) = 3 ∧ ru.toInt = 8) := (by omega); have hl9 : (q_3 : Int32).toInt = rp.toInt + ((zWds ((5 : Int)).toNat).length : Nat) := (by omega); rw [zItem_w hq.1 (by decide) hq.2 hl9 hI]; dsimp only; exact ⟨by (first | rfl | omega), fun h => ⟨by (first | rfl | omega), by (show _ = (if (5 : Int) = 0 then _ else _); rw [if_neg (by decide)]), by (show _ = (if (5 : Int) = 3 then _ else _); rw [if_neg (by decide)])⟩⟩)), (show (q_191.toInt = -1 → (((upd fi slot.toNatClampNeg 5) slot.toInt.toNat).toInt = 0 → rt.toInt = ((upd fi slot.toNatClampNeg 5) (slot.toInt.toNat + 1)).toInt) ∧ (((upd fi slot.toNatClampNeg 5) slot.toInt.toNat).toInt ≠ 0 → rt.toInt = rt.toInt) ∧ (((upd fi slot.toNatClampNeg 5) slot.toInt.toNat).toInt = 3 → ru.toInt = ru.toInt + 1) ∧ (((upd fi slot.toNatClampNeg 5) slot.toInt.toNat).toInt ≠ 3 → ru.toInt = ru.toInt)) from by (intro h; exfalso; omega)), trivial⟩, zRet ht hP hD [1, 2, 0] (by decide) rfl⟩, hS.F ht⟩) hS.2.2 dX3_readItem_75
        · have fc_192 : q_191.toInt = (-1) := zf_eq c_192 rfl (by decide)
          refine lv_aload_n hx hb dX3_readItem_42 rfl (lv_at hl 2 rfl) ?_
          refine va_get (D := D) (ci := 3) (v := .ref ri) (C := RX3) (T := TX3) (N := 8) hx hb hts hi_X3_readItem_3 hown hK hP 1 rfl rfl 0 (by decide) (hts (.fieldLink RX3 11 "TheLiningsInIt$Reader" "items" "[I") (List.mem_of_getElem? (i := 1) rfl)) (fun _ h9 => h9) rfl dX3_readItem_43 ?_
          refine lv_iload_n hx hb dX3_readItem_46 rfl (lv_at hl 3 rfl) ?_
          refine lv_iconst (v := 1) hx hb dX3_readItem_47 (by decide) ?_
          refine lv_iadd hx hb dX3_readItem_48 ?_
          refine lv_topi (fun x_194 ex_194 => ?_)
          have qx_194 : x_194.toInt = slot.toInt + 1 := by rw [ex_194]; exact zf_add rfl (by decide) (by omega) (by omega)
          refine lv_iload_n hx hb dX3_readItem_49 rfl (lv_at hl 0 rfl) ?_
          refine lv_iadd hx hb dX3_readItem_50 ?_
          refine lv_topi (fun y_195 ey_195 => ?_)
          obtain rfl : x_194 = y_195 := (ey_195.trans (Int32.add_zero x_194)).symm
          refine lv_aload_n hx hb dX3_readItem_51 rfl (lv_at hl 2 rfl) ?_
          refine lv_iload_n hx hb dX3_readItem_52 rfl (lv_at hl 1 rfl) ?_
          refine lv_iload_n hx hb dX3_readItem_53 rfl (lv_at hl 0 rfl) ?_
          refine zc_S (As := [.int 5, .int 0]) (rest := [.ref rd, .int x_194, .ref ri]) ⟨hx, hb, hml, hown, hts⟩ (c_R_leastOf_5_0 l D cI cJ cZ cP cS po  ) (va_cwS 2 hts gX3_readItem_X3_leastOf rfl rfl rfl dh_X3_leastOf ⟨Nat.le_of_ble_eq_true rfl, Nat.le_of_ble_eq_true rfl⟩) hK hN (hZ.kept hS) rfl hl.1 rfl (Nat.le_of_ble_eq_true rfl) dX3_readItem_54 ⟨Nat.le_of_ble_eq_true rfl, Nat.le_of_ble_eq_true rfl⟩ (fun r_196 hr_196 => ?_)
          obtain rfl := hr_196
          refine lv_aload_n hx hb dX3_readItem_57 rfl (lv_at hl 2 rfl) ?_
          refine lv_iload_n hx hb dX3_readItem_58 rfl (lv_at hl 1 rfl) ?_
          refine lv_iload_n hx hb dX3_readItem_59 rfl (lv_at hl 0 rfl) ?_
          refine zc_V (As := [.int 5, .int 0]) (rest := [.int 0, .ref rd, .int x_194, .ref ri]) ⟨hx, hb, hml, hown, hts⟩ (c_R_mostOf_5_0 l D cI cJ cZ cP cS po rd ri rl (rz) (rc) (q_190) (q_191) (rt) (ru) hy0 hy1 hy2 hy3 hbq_190.1 hbq_190.2 (by omega) hbq_191.1 hbq_191.2 hy9 hy10 hy11 hy12) (cwV 2 hts gX3_readItem_X3_mostOf rfl rfl rfl ⟨rfl, dh_X3_mostOf⟩ ⟨Nat.le_of_ble_eq_true rfl, Nat.le_of_ble_eq_true rfl⟩) hK hN (hZ.kept hS) hP (hP.sub [1] rfl) (va_recv (q := (RX3, TX3, 8)) hK hP (ci := 3) (q0 := 1) rfl rfl) rfl hl.1 rfl (Nat.le_of_ble_eq_true rfl) dX3_readItem_60 ⟨Nat.le_of_ble_eq_true rfl, Nat.le_of_ble_eq_true rfl⟩ (fun r_197 hr_197 => ?_)
          obtain rfl := hr_197
          have kc0 : (0 : Int32).toInt = 0 := by decide
          have kc300 : (300 : Int32).toInt = 300 := by decide
          skip
          refine zw_V (As := [.int 0, .int 300]) (rest := [.int x_194, .ref ri]) (wr := [(ri, .inl (cI, 132, .inl (upd fi slot.toNatClampNeg 5)))]) ⟨hx, hb, hml, hown, hts⟩ (c_F_R_readNumber l D cI cJ cZ cP cS po rd ri rl (rz) (rc) (q_190) (q_191) (rt) (ru) fl (0) (300) hy0 hy1 hy2 hy3 hbq_190.1 hbq_190.2 (by omega) hbq_191.1 hbq_191.2 hy9 hy10 hy11 hy12 H.size) (cwV 2 hts gX3_readItem_X3_readNumber rfl rfl rfl ⟨rfl, dh_X3_readNumber⟩ ⟨Nat.le_of_ble_eq_true rfl, Nat.le_of_ble_eq_true rfl⟩) hK hN (hZ.kept hS) hP hD hS hA [1, 2] [0] rfl rfl (by decide) (by decide) (by decide) (va_recv (q := (RX3, TX3, 8)) hK hP (ci := 3) (q0 := 1) rfl rfl) rfl hl.1 rfl (Nat.le_of_ble_eq_true rfl) dX3_readItem_63 ⟨Nat.le_of_ble_eq_true rfl, Nat.le_of_ble_eq_true rfl⟩ (fun r_198 u_199 H locs hr_198 hP hD hS => ?_)
          obtain ⟨q_200, q_201⟩ := u_199
          try dsimp only at hr_198
          obtain ⟨hbq_200, hbq_201, hsr_198_0, hsr_198_1, hsr_198_2, hsr_198_3, hr_198⟩ := hr_198
          have h9R := zRe (ws' := [(ri, .inl (cI, 132, .inl (upd fi slot.toNatClampNeg 5))), (rd, .inr (3, [.ref ri, .ref rl, .int rz, .int rc, .int q_200, .int q_201, .int rt, .int ru])), (rl, .inl (cI, 160, .inl fl))]) hP hD rfl
          clear hP hD
          obtain ⟨hP, hD⟩ := h9R
          obtain ⟨g_202, g_203⟩ := hr_198
          refine va_iast hx hb hK hP hD hS 0 0 rfl rfl (zf_in (by omega) (by omega)) dX3_readItem_66 (fun H locs hP hD hS => ?_)
          have h9R := zRe (ws' := [(ri, .inl (cI, 132, .inl (upd (upd fi slot.toNatClampNeg 5) x_194.toNatClampNeg r_198))), (rd, .inr (3, [.ref ri, .ref rl, .int rz, .int rc, .int q_200, .int q_201, .int rt, .int ru])), (rl, .inl (cI, 160, .inl fl))]) hP hD rfl
          clear hP hD
          obtain ⟨hP, hD⟩ := h9R
          have hn0 : zN1 fl rz.toInt (q_3 : Int32).toInt (zLo 5 0) (zHi 5 0 rt.toInt) = ((q_201 : Int32).toInt, (q_200 : Int32).toInt, r_198.toInt) := zN1_yes (p1 := (q_190 : Int32).toInt) (lo2 := ((0 : Int32)).toInt) (hi2 := ((300 : Int32)).toInt) (by omega) (by omega) hsr_198_1 hsr_198_2 (by first | decide | (show (0 : Int) = _; omega)) (by first | decide | (show (300 : Int) = _; decide) | (show rt.toInt - 1 = _; omega) | (show rt.toInt = _; omega)) (by omega)
          refine lv_aload_n hx hb dX3_readItem_67 rfl (lv_at hl 2 rfl) ?_
          refine va_get (D := D) (ci := 3) (v := .int q_201) (C := RX3) (T := TX3) (N := 8) hx hb hts hi_X3_readItem_3 hown hK hP 1 rfl rfl 5 (by decide) (hts (.fieldLink RX3 28 "TheLiningsInIt$Reader" "fault" "I") (List.mem_of_getElem? (i := 2) rfl)) (fun _ h9 => h9) rfl dX3_readItem_68 ?_
          refine lv_iconst (v := (-1)) hx hb dX3_readItem_71 (by decide) ?_
          refine lv_icmp_eq (tgt := 76) hx hb dX3_readItem_72 (by decide) (fun c_204 => ?_) (fun c_204 => ?_)
          · have fc_204 : q_201.toInt = (-1) := zf_eq c_204 rfl (by decide)
            refine lv_iinc (v := 1) (lv' := [(3, .int 1), (2, .int 5), (0, .ref rd), (1, .int slot)]) hx hb dX3_readItem_76 hl (k := 0) rfl (by decide) (by decide) rfl (fun ls hl => ?_)
            refine lv_goto (tgt := 20) hx hb dX3_readItem_79 (by decide) ?_
            refine lv_iload_n hx hb dX3_readItem_20 rfl (lv_at hl 0 rfl) ?_
            refine lv_iload_n hx hb dX3_readItem_21 rfl (lv_at hl 1 rfl) ?_
            refine zc_S (As := [.int 5]) (rest := [.int 1]) ⟨hx, hb, hml, hown, hts⟩ (c_R_numbersOf_5 l D cI cJ cZ cP cS po  ) (va_cwS 1 hts gX3_readItem_X3_numbersOf rfl rfl rfl dh_X3_numbersOf ⟨Nat.le_of_ble_eq_true rfl, Nat.le_of_ble_eq_true rfl⟩) hK hN (hZ.kept hS) rfl hl.1 rfl (Nat.le_of_ble_eq_true rfl) dX3_readItem_22 ⟨Nat.le_of_ble_eq_true rfl, Nat.le_of_ble_eq_true rfl⟩ (fun r_205 hr_205 => ?_)
            obtain rfl := hr_205
            refine lv_icmp_ge (tgt := 82) hx hb dX3_readItem_25 (by decide) (fun c_206 => ?_) (fun c_206 => ?_)
            · refine lv_iload_n hx hb dX3_readItem_82 rfl (lv_at hl 1 rfl) ?_
              refine lv_if_ne (tgt := 101) hx hb dX3_readItem_83 (by decide) (fun c_207 => ?_) (fun c_207 => ?_)
              · refine lv_iload_n hx hb dX3_readItem_101 rfl (lv_at hl 1 rfl) ?_
                refine lv_iconst (v := 3) hx hb dX3_readItem_102 (by decide) ?_
                refine lv_icmp_ne (tgt := 116) hx hb dX3_readItem_103 (by decide) (fun c_208 => ?_) (fun c_208 => ?_)
                · have e0 : slot.toNatClampNeg = slot.toInt.toNat + 0 := (by show (slot : Int32).toInt.toNat = _; omega)
                  have e1 : x_194.toNatClampNeg = slot.toInt.toNat + 1 := (by show (x_194 : Int32).toInt.toNat = _; omega)
                  have hI := zIn_a hn0 (by first | (right; decide) | (left; omega))
                  exact W.vret hx hb hr (fun t ht hW => ⟨⟨(q_200, q_201, rt, ru, (upd (upd fi slot.toNatClampNeg 5) x_194.toNatClampNeg r_198)), rfl, ⟨(show 0 ≤ q_200.toInt ∧ q_200.toInt ≤ 160 from hbq_200), (show (-1) ≤ q_201.toInt ∧ q_201.toInt ≤ 160 from hbq_201), (show 0 ≤ rt.toInt ∧ rt.toInt ≤ 40 from ⟨hy9, hy10⟩), (show 0 ≤ ru.toInt ∧ ru.toInt ≤ 8 from ⟨hy11, hy12⟩), (show q_200.toInt ≤ rz.toInt from by omega), (show (q_201.toInt = -1 → zIt (upd (upd fi slot.toNatClampNeg 5) x_194.toNatClampNeg r_198) slot.toInt.toNat) from by (intro h; have k3 : (5 : Int32).toInt = 5 := (by decide); exact zIt_mk (by simp only [upd]; rw [if_neg (by omega), if_pos (by omega)]) (by simp only [upd]; rw [if_pos (by omega)]) (rfl) (rfl) (by unfold zItv; refine ⟨?_, ?_, ?_, ?_, ?_, ?_, ?_, ?_, ?_, ?_, ?_⟩ <;> (intros; omega)))), (show (∀ j : Nat, j < slot.toInt.toNat → (upd (upd fi slot.toNatClampNeg 5) x_194.toNatClampNeg r_198) j = fi j) from by (intro j hj; simp only [upd]; rw [if_neg (by omega), if_neg (by omega)])), (show (q_201.toInt = (zItem fl rz.toInt rp.toInt rt.toInt ru.toInt).1 ∧ (q_201.toInt = -1 → q_200.toInt = (zItem fl rz.toInt rp.toInt rt.toInt ru.toInt).2.1 ∧ rt.toInt = (zItem fl rz.toInt rp.toInt rt.toInt ru.toInt).2.2.1 ∧ ru.toInt = (zItem fl rz.toInt rp.toInt rt.toInt ru.toInt).2.2.2)) from by (have z9 := hsr_1_1; rw [kc5] at z9; have hq : zFst fl rz.toInt rp.toInt zWds 10 = 5 ∧ ¬ ((5 : Int) = 3 ∧ ru.toInt = 8) := (by omega); have hl9 : (q_3 : Int32).toInt = rp.toInt + ((zWds ((5 : Int)).toNat).length : Nat) := (by omega); rw [zItem_w hq.1 (by decide) hq.2 hl9 hI]; dsimp only; exact ⟨by (first | rfl | omega), fun h => ⟨by (first | rfl | omega), by (show _ = (if (5 : Int) = 0 then _ else _); rw [if_neg (by decide)]), by (show _ = (if (5 : Int) = 3 then _ else _); rw [if_neg (by decide)])⟩⟩)), (show (q_201.toInt = -1 → (((upd (upd fi slot.toNatClampNeg 5) x_194.toNatClampNeg r_198) slot.toInt.toNat).toInt = 0 → rt.toInt = ((upd (upd fi slot.toNatClampNeg 5) x_194.toNatClampNeg r_198) (slot.toInt.toNat + 1)).toInt) ∧ (((upd (upd fi slot.toNatClampNeg 5) x_194.toNatClampNeg r_198) slot.toInt.toNat).toInt ≠ 0 → rt.toInt = rt.toInt) ∧ (((upd (upd fi slot.toNatClampNeg 5) x_194.toNatClampNeg r_198) slot.toInt.toNat).toInt = 3 → ru.toInt = ru.toInt + 1) ∧ (((upd (upd fi slot.toNatClampNeg 5) x_194.toNatClampNeg r_198) slot.toInt.toNat).toInt ≠ 3 → ru.toInt = ru.toInt)) from by (intro h; have g0 : (upd (upd fi slot.toNatClampNeg 5) x_194.toNatClampNeg r_198) slot.toInt.toNat = (5 : Int32) := (by simp only [upd]; rw [if_neg (by omega), if_pos (by omega)]); have g1 : (upd (upd fi slot.toNatClampNeg 5) x_194.toNatClampNeg r_198) (slot.toInt.toNat + 1) = (r_198 : Int32) := (by simp only [upd]; rw [if_pos (by omega)]); rw [g0, g1]; refine ⟨?_, ?_, ?_, ?_⟩ <;> (intro h9; first | rfl | omega | (exfalso; omega)))), trivial⟩, zRet ht hP hD [1, 2, 0] (by decide) rfl⟩, hS.F ht⟩) hS.2.2 dX3_readItem_116
                · exact absurd c_208 (by decide)
              · exact absurd c_207 (by decide)
            · exact absurd c_206 (by decide)
          · have fc_204 : q_201.toInt ≠ (-1) := zf_ne c_204 rfl (by decide)
            have e0 : slot.toNatClampNeg = slot.toInt.toNat + 0 := (by show (slot : Int32).toInt.toNat = _; omega)
            have e1 : x_194.toNatClampNeg = slot.toInt.toNat + 1 := (by show (x_194 : Int32).toInt.toNat = _; omega)
            have hI := zIn_a hn0 (by first | (right; decide) | (left; omega))
            exact W.vret hx hb hr (fun t ht hW => ⟨⟨(q_200, q_201, rt, ru, (upd (upd fi slot.toNatClampNeg 5) x_194.toNatClampNeg r_198)), rfl, ⟨(show 0 ≤ q_200.toInt ∧ q_200.toInt ≤ 160 from hbq_200), (show (-1) ≤ q_201.toInt ∧ q_201.toInt ≤ 160 from hbq_201), (show 0 ≤ rt.toInt ∧ rt.toInt ≤ 40 from ⟨hy9, hy10⟩), (show 0 ≤ ru.toInt ∧ ru.toInt ≤ 8 from ⟨hy11, hy12⟩), (show q_200.toInt ≤ rz.toInt from by omega), (show (q_201.toInt = -1 → zIt (upd (upd fi slot.toNatClampNeg 5) x_194.toNatClampNeg r_198) slot.toInt.toNat) from by (intro h; exfalso; omega)), (show (∀ j : Nat, j < slot.toInt.toNat → (upd (upd fi slot.toNatClampNeg 5) x_194.toNatClampNeg r_198) j = fi j) from by (intro j hj; simp only [upd]; rw [if_neg (by omega), if_neg (by omega)])), (show (q_201.toInt = (zItem fl rz.toInt rp.toInt rt.toInt ru.toInt).1 ∧ (q_201.toInt = -1 → q_200.toInt = (zItem fl rz.toInt rp.toInt rt.toInt ru.toInt).2.1 ∧ rt.toInt = (zItem fl rz.toInt rp.toInt rt.toInt ru.toInt).2.2.1 ∧ ru.toInt = (zItem fl rz.toInt rp.toInt rt.toInt ru.toInt).2.2.2)) from by (have z9 := hsr_1_1; rw [kc5] at z9; have hq : zFst fl rz.toInt rp.toInt zWds 10 = 5 ∧ ¬ ((5 : Int) = 3 ∧ ru.toInt = 8) := (by omega); have hl9 : (q_3 : Int32).toInt = rp.toInt + ((zWds ((5 : Int)).toNat).length : Nat) := (by omega); rw [zItem_w hq.1 (by decide) hq.2 hl9 hI]; dsimp only; exact ⟨by (first | rfl | omega), fun h => ⟨by (first | rfl | omega), by (show _ = (if (5 : Int) = 0 then _ else _); rw [if_neg (by decide)]), by (show _ = (if (5 : Int) = 3 then _ else _); rw [if_neg (by decide)])⟩⟩)), (show (q_201.toInt = -1 → (((upd (upd fi slot.toNatClampNeg 5) x_194.toNatClampNeg r_198) slot.toInt.toNat).toInt = 0 → rt.toInt = ((upd (upd fi slot.toNatClampNeg 5) x_194.toNatClampNeg r_198) (slot.toInt.toNat + 1)).toInt) ∧ (((upd (upd fi slot.toNatClampNeg 5) x_194.toNatClampNeg r_198) slot.toInt.toNat).toInt ≠ 0 → rt.toInt = rt.toInt) ∧ (((upd (upd fi slot.toNatClampNeg 5) x_194.toNatClampNeg r_198) slot.toInt.toNat).toInt = 3 → ru.toInt = ru.toInt + 1) ∧ (((upd (upd fi slot.toNatClampNeg 5) x_194.toNatClampNeg r_198) slot.toInt.toNat).toInt ≠ 3 → ru.toInt = ru.toInt)) from by (intro h; exfalso; omega)), trivial⟩, zRet ht hP hD [1, 2, 0] (by decide) rfl⟩, hS.F ht⟩) hS.2.2 dX3_readItem_75
    · have kc6 : (6 : Int32).toInt = 6 := by decide
      refine lv_aload_n hx hb dX3_readItem_11 rfl (lv_at hl 1 rfl) ?_
      refine va_get (D := D) (ci := 3) (v := .ref ri) (C := RX3) (T := TX3) (N := 8) hx hb hts hi_X3_readItem_3 hown hK hP 1 rfl rfl 0 (by decide) (hts (.fieldLink RX3 11 "TheLiningsInIt$Reader" "items" "[I") (List.mem_of_getElem? (i := 1) rfl)) (fun _ h9 => h9) rfl dX3_readItem_12 ?_
      refine lv_iload_n hx hb dX3_readItem_15 rfl (lv_at hl 2 rfl) ?_
      refine lv_iload_n hx hb dX3_readItem_16 rfl (lv_at hl 0 rfl) ?_
      refine va_iast hx hb hK hP hD hS 0 0 rfl rfl (zf_in (by omega) (by omega)) dX3_readItem_17 (fun H locs hP hD hS => ?_)
      have h9R := zRe (ws' := [(ri, .inl (cI, 132, .inl (upd fi slot.toNatClampNeg 6))), (rd, .inr (3, [.ref ri, .ref rl, .int rz, .int rc, .int q_3, .int q_4, .int rt, .int ru])), (rl, .inl (cI, 160, .inl fl))]) hP hD rfl
      clear hP hD
      obtain ⟨hP, hD⟩ := h9R
      refine lv_iconst (v := 0) hx hb dX3_readItem_18 (by decide) ?_
      refine lv_istore_n (lv' := [(3, .int 0), (2, .int 6), (0, .ref rd), (1, .int slot)]) hx hb dX3_readItem_19 rfl hl (by decide) rfl (fun ls hl => ?_)
      refine lv_iload_n hx hb dX3_readItem_20 rfl (lv_at hl 0 rfl) ?_
      refine lv_iload_n hx hb dX3_readItem_21 rfl (lv_at hl 1 rfl) ?_
      refine zc_S (As := [.int 6]) (rest := [.int 0]) ⟨hx, hb, hml, hown, hts⟩ (c_R_numbersOf_6 l D cI cJ cZ cP cS po  ) (va_cwS 1 hts gX3_readItem_X3_numbersOf rfl rfl rfl dh_X3_numbersOf ⟨Nat.le_of_ble_eq_true rfl, Nat.le_of_ble_eq_true rfl⟩) hK hN (hZ.kept hS) rfl hl.1 rfl (Nat.le_of_ble_eq_true rfl) dX3_readItem_22 ⟨Nat.le_of_ble_eq_true rfl, Nat.le_of_ble_eq_true rfl⟩ (fun r_209 hr_209 => ?_)
      obtain rfl := hr_209
      refine lv_icmp_ge (tgt := 82) hx hb dX3_readItem_25 (by decide) (fun c_210 => ?_) (fun c_210 => ?_)
      · exact absurd c_210 (by decide)
      · refine lv_aload_n hx hb dX3_readItem_28 rfl (lv_at hl 2 rfl) ?_
        refine lv_bipush (v := 32) hx hb dX3_readItem_29 (by decide) ?_
        have kc32 : (32 : Int32).toInt = 32 := by decide
        skip
        refine zw_Vv (As := [.int 32]) (rest := []) (wr := [(ri, .inl (cI, 132, .inl (upd fi slot.toNatClampNeg 6)))]) ⟨hx, hb, hml, hown, hts⟩ (c_F_R_expect l D cI cJ cZ cP cS po rd ri rl (rz) (rc) (q_3) (q_4) (rt) (ru) fl (32) hy0 hy1 hy2 hy3 hbq_3.1 hbq_3.2 (by omega) hbq_4.1 hbq_4.2 hy9 hy10 hy11 hy12 H.size) (cwV 1 hts gX3_readItem_X3_expect rfl rfl rfl ⟨rfl, dh_X3_expect⟩ ⟨Nat.le_of_ble_eq_true rfl, Nat.le_of_ble_eq_true rfl⟩) hK hN (hZ.kept hS) hP hD hS hA [1, 2] [0] rfl rfl (by decide) (by decide) (by decide) (va_recv (q := (RX3, TX3, 8)) hK hP (ci := 3) (q0 := 1) rfl rfl) rfl hl.1 rfl (Nat.le_of_ble_eq_true rfl) dX3_readItem_31 ⟨Nat.le_of_ble_eq_true rfl, Nat.le_of_ble_eq_true rfl⟩ (fun u_212 H locs hr_211 hP hD hS => ?_)
        obtain ⟨q_213, q_214⟩ := u_212
        try dsimp only at hr_211
        obtain ⟨hbq_213, hbq_214, hsr_211_0, hsr_211_1, hr_211⟩ := hr_211
        have h9R := zRe (ws' := [(ri, .inl (cI, 132, .inl (upd fi slot.toNatClampNeg 6))), (rd, .inr (3, [.ref ri, .ref rl, .int rz, .int rc, .int q_213, .int q_214, .int rt, .int ru])), (rl, .inl (cI, 160, .inl fl))]) hP hD rfl
        clear hP hD
        obtain ⟨hP, hD⟩ := h9R
        refine lv_aload_n hx hb dX3_readItem_34 rfl (lv_at hl 2 rfl) ?_
        refine va_get (D := D) (ci := 3) (v := .int q_214) (C := RX3) (T := TX3) (N := 8) hx hb hts hi_X3_readItem_3 hown hK hP 1 rfl rfl 5 (by decide) (hts (.fieldLink RX3 28 "TheLiningsInIt$Reader" "fault" "I") (List.mem_of_getElem? (i := 2) rfl)) (fun _ h9 => h9) rfl dX3_readItem_35 ?_
        refine lv_iconst (v := (-1)) hx hb dX3_readItem_38 (by decide) ?_
        refine lv_icmp_ne (tgt := 67) hx hb dX3_readItem_39 (by decide) (fun c_215 => ?_) (fun c_215 => ?_)
        · have fc_215 : q_214.toInt ≠ (-1) := zf_ne c_215 rfl (by decide)
          have hn0 : zN1 fl rz.toInt (q_3 : Int32).toInt (zLo 6 0) (zHi 6 0 rt.toInt) = ((q_3 : Int32).toInt, (q_3 : Int32).toInt, 0) := zN1_no (by omega)
          refine lv_aload_n hx hb dX3_readItem_67 rfl (lv_at hl 2 rfl) ?_
          refine va_get (D := D) (ci := 3) (v := .int q_214) (C := RX3) (T := TX3) (N := 8) hx hb hts hi_X3_readItem_3 hown hK hP 1 rfl rfl 5 (by decide) (hts (.fieldLink RX3 28 "TheLiningsInIt$Reader" "fault" "I") (List.mem_of_getElem? (i := 2) rfl)) (fun _ h9 => h9) rfl dX3_readItem_68 ?_
          refine lv_iconst (v := (-1)) hx hb dX3_readItem_71 (by decide) ?_
          refine lv_icmp_eq (tgt := 76) hx hb dX3_readItem_72 (by decide) (fun c_216 => ?_) (fun c_216 => ?_)
          · exfalso; have fc_216 : q_214.toInt = (-1) := zf_eq c_216 rfl (by decide); omega
          · have fc_216 : q_214.toInt ≠ (-1) := zf_ne c_216 rfl (by decide)
            have e0 : slot.toNatClampNeg = slot.toInt.toNat + 0 := (by show (slot : Int32).toInt.toNat = _; omega)
            have hI := zIn_a hn0 (by first | (right; decide) | (left; omega))
            exact W.vret hx hb hr (fun t ht hW => ⟨⟨(q_213, q_214, rt, ru, (upd fi slot.toNatClampNeg 6)), rfl, ⟨(show 0 ≤ q_213.toInt ∧ q_213.toInt ≤ 160 from hbq_213), (show (-1) ≤ q_214.toInt ∧ q_214.toInt ≤ 160 from hbq_214), (show 0 ≤ rt.toInt ∧ rt.toInt ≤ 40 from ⟨hy9, hy10⟩), (show 0 ≤ ru.toInt ∧ ru.toInt ≤ 8 from ⟨hy11, hy12⟩), (show q_213.toInt ≤ rz.toInt from by omega), (show (q_214.toInt = -1 → zIt (upd fi slot.toNatClampNeg 6) slot.toInt.toNat) from by (intro h; exfalso; omega)), (show (∀ j : Nat, j < slot.toInt.toNat → (upd fi slot.toNatClampNeg 6) j = fi j) from by (intro j hj; simp only [upd]; rw [if_neg (by omega)])), (show (q_214.toInt = (zItem fl rz.toInt rp.toInt rt.toInt ru.toInt).1 ∧ (q_214.toInt = -1 → q_213.toInt = (zItem fl rz.toInt rp.toInt rt.toInt ru.toInt).2.1 ∧ rt.toInt = (zItem fl rz.toInt rp.toInt rt.toInt ru.toInt).2.2.1 ∧ ru.toInt = (zItem fl rz.toInt rp.toInt rt.toInt ru.toInt).2.2.2)) from by (have z9 := hsr_1_1; rw [kc6] at z9; have hq : zFst fl rz.toInt rp.toInt zWds 10 = 6 ∧ ¬ ((6 : Int) = 3 ∧ ru.toInt = 8) := (by omega); have hl9 : (q_3 : Int32).toInt = rp.toInt + ((zWds ((6 : Int)).toNat).length : Nat) := (by omega); rw [zItem_w hq.1 (by decide) hq.2 hl9 hI]; dsimp only; exact ⟨by (first | rfl | omega), fun h => ⟨by (first | rfl | omega), by (show _ = (if (6 : Int) = 0 then _ else _); rw [if_neg (by decide)]), by (show _ = (if (6 : Int) = 3 then _ else _); rw [if_neg (by decide)])⟩⟩)), (show (q_214.toInt = -1 → (((upd fi slot.toNatClampNeg 6) slot.toInt.toNat).toInt = 0 → rt.toInt = ((upd fi slot.toNatClampNeg 6) (slot.toInt.toNat + 1)).toInt) ∧ (((upd fi slot.toNatClampNeg 6) slot.toInt.toNat).toInt ≠ 0 → rt.toInt = rt.toInt) ∧ (((upd fi slot.toNatClampNeg 6) slot.toInt.toNat).toInt = 3 → ru.toInt = ru.toInt + 1) ∧ (((upd fi slot.toNatClampNeg 6) slot.toInt.toNat).toInt ≠ 3 → ru.toInt = ru.toInt)) from by (intro h; exfalso; omega)), trivial⟩, zRet ht hP hD [1, 2, 0] (by decide) rfl⟩, hS.F ht⟩) hS.2.2 dX3_readItem_75
        · have fc_215 : q_214.toInt = (-1) := zf_eq c_215 rfl (by decide)
          refine lv_aload_n hx hb dX3_readItem_42 rfl (lv_at hl 2 rfl) ?_
          refine va_get (D := D) (ci := 3) (v := .ref ri) (C := RX3) (T := TX3) (N := 8) hx hb hts hi_X3_readItem_3 hown hK hP 1 rfl rfl 0 (by decide) (hts (.fieldLink RX3 11 "TheLiningsInIt$Reader" "items" "[I") (List.mem_of_getElem? (i := 1) rfl)) (fun _ h9 => h9) rfl dX3_readItem_43 ?_
          refine lv_iload_n hx hb dX3_readItem_46 rfl (lv_at hl 3 rfl) ?_
          refine lv_iconst (v := 1) hx hb dX3_readItem_47 (by decide) ?_
          refine lv_iadd hx hb dX3_readItem_48 ?_
          refine lv_topi (fun x_217 ex_217 => ?_)
          have qx_217 : x_217.toInt = slot.toInt + 1 := by rw [ex_217]; exact zf_add rfl (by decide) (by omega) (by omega)
          refine lv_iload_n hx hb dX3_readItem_49 rfl (lv_at hl 0 rfl) ?_
          refine lv_iadd hx hb dX3_readItem_50 ?_
          refine lv_topi (fun y_218 ey_218 => ?_)
          obtain rfl : x_217 = y_218 := (ey_218.trans (Int32.add_zero x_217)).symm
          refine lv_aload_n hx hb dX3_readItem_51 rfl (lv_at hl 2 rfl) ?_
          refine lv_iload_n hx hb dX3_readItem_52 rfl (lv_at hl 1 rfl) ?_
          refine lv_iload_n hx hb dX3_readItem_53 rfl (lv_at hl 0 rfl) ?_
          refine zc_S (As := [.int 6, .int 0]) (rest := [.ref rd, .int x_217, .ref ri]) ⟨hx, hb, hml, hown, hts⟩ (c_R_leastOf_6_0 l D cI cJ cZ cP cS po  ) (va_cwS 2 hts gX3_readItem_X3_leastOf rfl rfl rfl dh_X3_leastOf ⟨Nat.le_of_ble_eq_true rfl, Nat.le_of_ble_eq_true rfl⟩) hK hN (hZ.kept hS) rfl hl.1 rfl (Nat.le_of_ble_eq_true rfl) dX3_readItem_54 ⟨Nat.le_of_ble_eq_true rfl, Nat.le_of_ble_eq_true rfl⟩ (fun r_219 hr_219 => ?_)
          obtain rfl := hr_219
          refine lv_aload_n hx hb dX3_readItem_57 rfl (lv_at hl 2 rfl) ?_
          refine lv_iload_n hx hb dX3_readItem_58 rfl (lv_at hl 1 rfl) ?_
          refine lv_iload_n hx hb dX3_readItem_59 rfl (lv_at hl 0 rfl) ?_
          refine zc_V (As := [.int 6, .int 0]) (rest := [.int 0, .ref rd, .int x_217, .ref ri]) ⟨hx, hb, hml, hown, hts⟩ (c_R_mostOf_6_0 l D cI cJ cZ cP cS po rd ri rl (rz) (rc) (q_213) (q_214) (rt) (ru) hy0 hy1 hy2 hy3 hbq_213.1 hbq_213.2 (by omega) hbq_214.1 hbq_214.2 hy9 hy10 hy11 hy12) (cwV 2 hts gX3_readItem_X3_mostOf rfl rfl rfl ⟨rfl, dh_X3_mostOf⟩ ⟨Nat.le_of_ble_eq_true rfl, Nat.le_of_ble_eq_true rfl⟩) hK hN (hZ.kept hS) hP (hP.sub [1] rfl) (va_recv (q := (RX3, TX3, 8)) hK hP (ci := 3) (q0 := 1) rfl rfl) rfl hl.1 rfl (Nat.le_of_ble_eq_true rfl) dX3_readItem_60 ⟨Nat.le_of_ble_eq_true rfl, Nat.le_of_ble_eq_true rfl⟩ (fun r_220 hr_220 => ?_)
          obtain rfl := hr_220
          have kc0 : (0 : Int32).toInt = 0 := by decide
          have kc9 : (9 : Int32).toInt = 9 := by decide
          skip
          refine zw_V (As := [.int 0, .int 9]) (rest := [.int x_217, .ref ri]) (wr := [(ri, .inl (cI, 132, .inl (upd fi slot.toNatClampNeg 6)))]) ⟨hx, hb, hml, hown, hts⟩ (c_F_R_readNumber l D cI cJ cZ cP cS po rd ri rl (rz) (rc) (q_213) (q_214) (rt) (ru) fl (0) (9) hy0 hy1 hy2 hy3 hbq_213.1 hbq_213.2 (by omega) hbq_214.1 hbq_214.2 hy9 hy10 hy11 hy12 H.size) (cwV 2 hts gX3_readItem_X3_readNumber rfl rfl rfl ⟨rfl, dh_X3_readNumber⟩ ⟨Nat.le_of_ble_eq_true rfl, Nat.le_of_ble_eq_true rfl⟩) hK hN (hZ.kept hS) hP hD hS hA [1, 2] [0] rfl rfl (by decide) (by decide) (by decide) (va_recv (q := (RX3, TX3, 8)) hK hP (ci := 3) (q0 := 1) rfl rfl) rfl hl.1 rfl (Nat.le_of_ble_eq_true rfl) dX3_readItem_63 ⟨Nat.le_of_ble_eq_true rfl, Nat.le_of_ble_eq_true rfl⟩ (fun r_221 u_222 H locs hr_221 hP hD hS => ?_)
          obtain ⟨q_223, q_224⟩ := u_222
          try dsimp only at hr_221
          obtain ⟨hbq_223, hbq_224, hsr_221_0, hsr_221_1, hsr_221_2, hsr_221_3, hr_221⟩ := hr_221
          have h9R := zRe (ws' := [(ri, .inl (cI, 132, .inl (upd fi slot.toNatClampNeg 6))), (rd, .inr (3, [.ref ri, .ref rl, .int rz, .int rc, .int q_223, .int q_224, .int rt, .int ru])), (rl, .inl (cI, 160, .inl fl))]) hP hD rfl
          clear hP hD
          obtain ⟨hP, hD⟩ := h9R
          obtain ⟨g_225, g_226⟩ := hr_221
          refine va_iast hx hb hK hP hD hS 0 0 rfl rfl (zf_in (by omega) (by omega)) dX3_readItem_66 (fun H locs hP hD hS => ?_)
          have h9R := zRe (ws' := [(ri, .inl (cI, 132, .inl (upd (upd fi slot.toNatClampNeg 6) x_217.toNatClampNeg r_221))), (rd, .inr (3, [.ref ri, .ref rl, .int rz, .int rc, .int q_223, .int q_224, .int rt, .int ru])), (rl, .inl (cI, 160, .inl fl))]) hP hD rfl
          clear hP hD
          obtain ⟨hP, hD⟩ := h9R
          have hn0 : zN1 fl rz.toInt (q_3 : Int32).toInt (zLo 6 0) (zHi 6 0 rt.toInt) = ((q_224 : Int32).toInt, (q_223 : Int32).toInt, r_221.toInt) := zN1_yes (p1 := (q_213 : Int32).toInt) (lo2 := ((0 : Int32)).toInt) (hi2 := ((9 : Int32)).toInt) (by omega) (by omega) hsr_221_1 hsr_221_2 (by first | decide | (show (0 : Int) = _; omega)) (by first | decide | (show (9 : Int) = _; decide) | (show rt.toInt - 1 = _; omega) | (show rt.toInt = _; omega)) (by omega)
          refine lv_aload_n hx hb dX3_readItem_67 rfl (lv_at hl 2 rfl) ?_
          refine va_get (D := D) (ci := 3) (v := .int q_224) (C := RX3) (T := TX3) (N := 8) hx hb hts hi_X3_readItem_3 hown hK hP 1 rfl rfl 5 (by decide) (hts (.fieldLink RX3 28 "TheLiningsInIt$Reader" "fault" "I") (List.mem_of_getElem? (i := 2) rfl)) (fun _ h9 => h9) rfl dX3_readItem_68 ?_
          refine lv_iconst (v := (-1)) hx hb dX3_readItem_71 (by decide) ?_
          refine lv_icmp_eq (tgt := 76) hx hb dX3_readItem_72 (by decide) (fun c_227 => ?_) (fun c_227 => ?_)
          · have fc_227 : q_224.toInt = (-1) := zf_eq c_227 rfl (by decide)
            refine lv_iinc (v := 1) (lv' := [(3, .int 1), (2, .int 6), (0, .ref rd), (1, .int slot)]) hx hb dX3_readItem_76 hl (k := 0) rfl (by decide) (by decide) rfl (fun ls hl => ?_)
            refine lv_goto (tgt := 20) hx hb dX3_readItem_79 (by decide) ?_
            refine lv_iload_n hx hb dX3_readItem_20 rfl (lv_at hl 0 rfl) ?_
            refine lv_iload_n hx hb dX3_readItem_21 rfl (lv_at hl 1 rfl) ?_
            refine zc_S (As := [.int 6]) (rest := [.int 1]) ⟨hx, hb, hml, hown, hts⟩ (c_R_numbersOf_6 l D cI cJ cZ cP cS po  ) (va_cwS 1 hts gX3_readItem_X3_numbersOf rfl rfl rfl dh_X3_numbersOf ⟨Nat.le_of_ble_eq_true rfl, Nat.le_of_ble_eq_true rfl⟩) hK hN (hZ.kept hS) rfl hl.1 rfl (Nat.le_of_ble_eq_true rfl) dX3_readItem_22 ⟨Nat.le_of_ble_eq_true rfl, Nat.le_of_ble_eq_true rfl⟩ (fun r_228 hr_228 => ?_)
            obtain rfl := hr_228
            refine lv_icmp_ge (tgt := 82) hx hb dX3_readItem_25 (by decide) (fun c_229 => ?_) (fun c_229 => ?_)
            · refine lv_iload_n hx hb dX3_readItem_82 rfl (lv_at hl 1 rfl) ?_
              refine lv_if_ne (tgt := 101) hx hb dX3_readItem_83 (by decide) (fun c_230 => ?_) (fun c_230 => ?_)
              · refine lv_iload_n hx hb dX3_readItem_101 rfl (lv_at hl 1 rfl) ?_
                refine lv_iconst (v := 3) hx hb dX3_readItem_102 (by decide) ?_
                refine lv_icmp_ne (tgt := 116) hx hb dX3_readItem_103 (by decide) (fun c_231 => ?_) (fun c_231 => ?_)
                · have e0 : slot.toNatClampNeg = slot.toInt.toNat + 0 := (by show (slot : Int32).toInt.toNat = _; omega)
                  have e1 : x_217.toNatClampNeg = slot.toInt.toNat + 1 := (by show (x_217 : Int32).toInt.toNat = _; omega)
                  have hI := zIn_a hn0 (by first | (right; decide) | (left; omega))
                  exact W.vret hx hb hr (fun t ht hW => ⟨⟨(q_223, q_224, rt, ru, (upd (upd fi slot.toNatClampNeg 6) x_217.toNatClampNeg r_221)), rfl, ⟨(show 0 ≤ q_223.toInt ∧ q_223.toInt ≤ 160 from hbq_223), (show (-1) ≤ q_224.toInt ∧ q_224.toInt ≤ 160 from hbq_224), (show 0 ≤ rt.toInt ∧ rt.toInt ≤ 40 from ⟨hy9, hy10⟩), (show 0 ≤ ru.toInt ∧ ru.toInt ≤ 8 from ⟨hy11, hy12⟩), (show q_223.toInt ≤ rz.toInt from by omega), (show (q_224.toInt = -1 → zIt (upd (upd fi slot.toNatClampNeg 6) x_217.toNatClampNeg r_221) slot.toInt.toNat) from by (intro h; have k3 : (6 : Int32).toInt = 6 := (by decide); exact zIt_mk (by simp only [upd]; rw [if_neg (by omega), if_pos (by omega)]) (by simp only [upd]; rw [if_pos (by omega)]) (rfl) (rfl) (by unfold zItv; refine ⟨?_, ?_, ?_, ?_, ?_, ?_, ?_, ?_, ?_, ?_, ?_⟩ <;> (intros; omega)))), (show (∀ j : Nat, j < slot.toInt.toNat → (upd (upd fi slot.toNatClampNeg 6) x_217.toNatClampNeg r_221) j = fi j) from by (intro j hj; simp only [upd]; rw [if_neg (by omega), if_neg (by omega)])), (show (q_224.toInt = (zItem fl rz.toInt rp.toInt rt.toInt ru.toInt).1 ∧ (q_224.toInt = -1 → q_223.toInt = (zItem fl rz.toInt rp.toInt rt.toInt ru.toInt).2.1 ∧ rt.toInt = (zItem fl rz.toInt rp.toInt rt.toInt ru.toInt).2.2.1 ∧ ru.toInt = (zItem fl rz.toInt rp.toInt rt.toInt ru.toInt).2.2.2)) from by (have z9 := hsr_1_1; rw [kc6] at z9; have hq : zFst fl rz.toInt rp.toInt zWds 10 = 6 ∧ ¬ ((6 : Int) = 3 ∧ ru.toInt = 8) := (by omega); have hl9 : (q_3 : Int32).toInt = rp.toInt + ((zWds ((6 : Int)).toNat).length : Nat) := (by omega); rw [zItem_w hq.1 (by decide) hq.2 hl9 hI]; dsimp only; exact ⟨by (first | rfl | omega), fun h => ⟨by (first | rfl | omega), by (show _ = (if (6 : Int) = 0 then _ else _); rw [if_neg (by decide)]), by (show _ = (if (6 : Int) = 3 then _ else _); rw [if_neg (by decide)])⟩⟩)), (show (q_224.toInt = -1 → (((upd (upd fi slot.toNatClampNeg 6) x_217.toNatClampNeg r_221) slot.toInt.toNat).toInt = 0 → rt.toInt = ((upd (upd fi slot.toNatClampNeg 6) x_217.toNatClampNeg r_221) (slot.toInt.toNat + 1)).toInt) ∧ (((upd (upd fi slot.toNatClampNeg 6) x_217.toNatClampNeg r_221) slot.toInt.toNat).toInt ≠ 0 → rt.toInt = rt.toInt) ∧ (((upd (upd fi slot.toNatClampNeg 6) x_217.toNatClampNeg r_221) slot.toInt.toNat).toInt = 3 → ru.toInt = ru.toInt + 1) ∧ (((upd (upd fi slot.toNatClampNeg 6) x_217.toNatClampNeg r_221) slot.toInt.toNat).toInt ≠ 3 → ru.toInt = ru.toInt)) from by (intro h; have g0 : (upd (upd fi slot.toNatClampNeg 6) x_217.toNatClampNeg r_221) slot.toInt.toNat = (6 : Int32) := (by simp only [upd]; rw [if_neg (by omega), if_pos (by omega)]); have g1 : (upd (upd fi slot.toNatClampNeg 6) x_217.toNatClampNeg r_221) (slot.toInt.toNat + 1) = (r_221 : Int32) := (by simp only [upd]; rw [if_pos (by omega)]); rw [g0, g1]; refine ⟨?_, ?_, ?_, ?_⟩ <;> (intro h9; first | rfl | omega | (exfalso; omega)))), trivial⟩, zRet ht hP hD [1, 2, 0] (by decide) rfl⟩, hS.F ht⟩) hS.2.2 dX3_readItem_116
                · exact absurd c_231 (by decide)
              · exact absurd c_230 (by decide)
            · exact absurd c_229 (by decide)
          · have fc_227 : q_224.toInt ≠ (-1) := zf_ne c_227 rfl (by decide)
            have e0 : slot.toNatClampNeg = slot.toInt.toNat + 0 := (by show (slot : Int32).toInt.toNat = _; omega)
            have e1 : x_217.toNatClampNeg = slot.toInt.toNat + 1 := (by show (x_217 : Int32).toInt.toNat = _; omega)
            have hI := zIn_a hn0 (by first | (right; decide) | (left; omega))
            exact W.vret hx hb hr (fun t ht hW => ⟨⟨(q_223, q_224, rt, ru, (upd (upd fi slot.toNatClampNeg 6) x_217.toNatClampNeg r_221)), rfl, ⟨(show 0 ≤ q_223.toInt ∧ q_223.toInt ≤ 160 from hbq_223), (show (-1) ≤ q_224.toInt ∧ q_224.toInt ≤ 160 from hbq_224), (show 0 ≤ rt.toInt ∧ rt.toInt ≤ 40 from ⟨hy9, hy10⟩), (show 0 ≤ ru.toInt ∧ ru.toInt ≤ 8 from ⟨hy11, hy12⟩), (show q_223.toInt ≤ rz.toInt from by omega), (show (q_224.toInt = -1 → zIt (upd (upd fi slot.toNatClampNeg 6) x_217.toNatClampNeg r_221) slot.toInt.toNat) from by (intro h; exfalso; omega)), (show (∀ j : Nat, j < slot.toInt.toNat → (upd (upd fi slot.toNatClampNeg 6) x_217.toNatClampNeg r_221) j = fi j) from by (intro j hj; simp only [upd]; rw [if_neg (by omega), if_neg (by omega)])), (show (q_224.toInt = (zItem fl rz.toInt rp.toInt rt.toInt ru.toInt).1 ∧ (q_224.toInt = -1 → q_223.toInt = (zItem fl rz.toInt rp.toInt rt.toInt ru.toInt).2.1 ∧ rt.toInt = (zItem fl rz.toInt rp.toInt rt.toInt ru.toInt).2.2.1 ∧ ru.toInt = (zItem fl rz.toInt rp.toInt rt.toInt ru.toInt).2.2.2)) from by (have z9 := hsr_1_1; rw [kc6] at z9; have hq : zFst fl rz.toInt rp.toInt zWds 10 = 6 ∧ ¬ ((6 : Int) = 3 ∧ ru.toInt = 8) := (by omega); have hl9 : (q_3 : Int32).toInt = rp.toInt + ((zWds ((6 : Int)).toNat).length : Nat) := (by omega); rw [zItem_w hq.1 (by decide) hq.2 hl9 hI]; dsimp only; exact ⟨by (first | rfl | omega), fun h => ⟨by (first | rfl | omega), by (show _ = (if (6 : Int) = 0 then _ else _); rw [if_neg (by decide)]), by (show _ = (if (6 : Int) = 3 then _ else _); rw [if_neg (by decide)])⟩⟩)), (show (q_224.toInt = -1 → (((upd (upd fi slot.toNatClampNeg 6) x_217.toNatClampNeg r_221) slot.toInt.toNat).toInt = 0 → rt.toInt = ((upd (upd fi slot.toNatClampNeg 6) x_217.toNatClampNeg r_221) (slot.toInt.toNat + 1)).toInt) ∧ (((upd (upd fi slot.toNatClampNeg 6) x_217.toNatClampNeg r_221) slot.toInt.toNat).toInt ≠ 0 → rt.toInt = rt.toInt) ∧ (((upd (upd fi slot.toNatClampNeg 6) x_217.toNatClampNeg r_221) slot.toInt.toNat).toInt = 3 → ru.toInt = ru.toInt + 1) ∧ (((upd (upd fi slot.toNatClampNeg 6) x_217.toNatClampNeg r_221) slot.toInt.toNat).toInt ≠ 3 → ru.toInt = ru.toInt)) from by (intro h; exfalso; omega)), trivial⟩, zRet ht hP hD [1, 2, 0] (by decide) rfl⟩, hS.F ht⟩) hS.2.2 dX3_readItem_75
    · have kc7 : (7 : Int32).toInt = 7 := by decide
      refine lv_aload_n hx hb dX3_readItem_11 rfl (lv_at hl 1 rfl) ?_
      refine va_get (D := D) (ci := 3) (v := .ref ri) (C := RX3) (T := TX3) (N := 8) hx hb hts hi_X3_readItem_3 hown hK hP 1 rfl rfl 0 (by decide) (hts (.fieldLink RX3 11 "TheLiningsInIt$Reader" "items" "[I") (List.mem_of_getElem? (i := 1) rfl)) (fun _ h9 => h9) rfl dX3_readItem_12 ?_
      refine lv_iload_n hx hb dX3_readItem_15 rfl (lv_at hl 2 rfl) ?_
      refine lv_iload_n hx hb dX3_readItem_16 rfl (lv_at hl 0 rfl) ?_
      refine va_iast hx hb hK hP hD hS 0 0 rfl rfl (zf_in (by omega) (by omega)) dX3_readItem_17 (fun H locs hP hD hS => ?_)
      have h9R := zRe (ws' := [(ri, .inl (cI, 132, .inl (upd fi slot.toNatClampNeg 7))), (rd, .inr (3, [.ref ri, .ref rl, .int rz, .int rc, .int q_3, .int q_4, .int rt, .int ru])), (rl, .inl (cI, 160, .inl fl))]) hP hD rfl
      clear hP hD
      obtain ⟨hP, hD⟩ := h9R
      refine lv_iconst (v := 0) hx hb dX3_readItem_18 (by decide) ?_
      refine lv_istore_n (lv' := [(3, .int 0), (2, .int 7), (0, .ref rd), (1, .int slot)]) hx hb dX3_readItem_19 rfl hl (by decide) rfl (fun ls hl => ?_)
      refine lv_iload_n hx hb dX3_readItem_20 rfl (lv_at hl 0 rfl) ?_
      refine lv_iload_n hx hb dX3_readItem_21 rfl (lv_at hl 1 rfl) ?_
      refine zc_S (As := [.int 7]) (rest := [.int 0]) ⟨hx, hb, hml, hown, hts⟩ (c_R_numbersOf_7 l D cI cJ cZ cP cS po  ) (va_cwS 1 hts gX3_readItem_X3_numbersOf rfl rfl rfl dh_X3_numbersOf ⟨Nat.le_of_ble_eq_true rfl, Nat.le_of_ble_eq_true rfl⟩) hK hN (hZ.kept hS) rfl hl.1 rfl (Nat.le_of_ble_eq_true rfl) dX3_readItem_22 ⟨Nat.le_of_ble_eq_true rfl, Nat.le_of_ble_eq_true rfl⟩ (fun r_232 hr_232 => ?_)
      obtain rfl := hr_232
      refine lv_icmp_ge (tgt := 82) hx hb dX3_readItem_25 (by decide) (fun c_233 => ?_) (fun c_233 => ?_)
      · exact absurd c_233 (by decide)
      · refine lv_aload_n hx hb dX3_readItem_28 rfl (lv_at hl 2 rfl) ?_
        refine lv_bipush (v := 32) hx hb dX3_readItem_29 (by decide) ?_
        have kc32 : (32 : Int32).toInt = 32 := by decide
        skip
        refine zw_Vv (As := [.int 32]) (rest := []) (wr := [(ri, .inl (cI, 132, .inl (upd fi slot.toNatClampNeg 7)))]) ⟨hx, hb, hml, hown, hts⟩ (c_F_R_expect l D cI cJ cZ cP cS po rd ri rl (rz) (rc) (q_3) (q_4) (rt) (ru) fl (32) hy0 hy1 hy2 hy3 hbq_3.1 hbq_3.2 (by omega) hbq_4.1 hbq_4.2 hy9 hy10 hy11 hy12 H.size) (cwV 1 hts gX3_readItem_X3_expect rfl rfl rfl ⟨rfl, dh_X3_expect⟩ ⟨Nat.le_of_ble_eq_true rfl, Nat.le_of_ble_eq_true rfl⟩) hK hN (hZ.kept hS) hP hD hS hA [1, 2] [0] rfl rfl (by decide) (by decide) (by decide) (va_recv (q := (RX3, TX3, 8)) hK hP (ci := 3) (q0 := 1) rfl rfl) rfl hl.1 rfl (Nat.le_of_ble_eq_true rfl) dX3_readItem_31 ⟨Nat.le_of_ble_eq_true rfl, Nat.le_of_ble_eq_true rfl⟩ (fun u_235 H locs hr_234 hP hD hS => ?_)
        obtain ⟨q_236, q_237⟩ := u_235
        try dsimp only at hr_234
        obtain ⟨hbq_236, hbq_237, hsr_234_0, hsr_234_1, hr_234⟩ := hr_234
        have h9R := zRe (ws' := [(ri, .inl (cI, 132, .inl (upd fi slot.toNatClampNeg 7))), (rd, .inr (3, [.ref ri, .ref rl, .int rz, .int rc, .int q_236, .int q_237, .int rt, .int ru])), (rl, .inl (cI, 160, .inl fl))]) hP hD rfl
        clear hP hD
        obtain ⟨hP, hD⟩ := h9R
        refine lv_aload_n hx hb dX3_readItem_34 rfl (lv_at hl 2 rfl) ?_
        refine va_get (D := D) (ci := 3) (v := .int q_237) (C := RX3) (T := TX3) (N := 8) hx hb hts hi_X3_readItem_3 hown hK hP 1 rfl rfl 5 (by decide) (hts (.fieldLink RX3 28 "TheLiningsInIt$Reader" "fault" "I") (List.mem_of_getElem? (i := 2) rfl)) (fun _ h9 => h9) rfl dX3_readItem_35 ?_
        refine lv_iconst (v := (-1)) hx hb dX3_readItem_38 (by decide) ?_
        refine lv_icmp_ne (tgt := 67) hx hb dX3_readItem_39 (by decide) (fun c_238 => ?_) (fun c_238 => ?_)
        · have fc_238 : q_237.toInt ≠ (-1) := zf_ne c_238 rfl (by decide)
          have hn0 : zN1 fl rz.toInt (q_3 : Int32).toInt (zLo 7 0) (zHi 7 0 rt.toInt) = ((q_3 : Int32).toInt, (q_3 : Int32).toInt, 0) := zN1_no (by omega)
          refine lv_aload_n hx hb dX3_readItem_67 rfl (lv_at hl 2 rfl) ?_
          refine va_get (D := D) (ci := 3) (v := .int q_237) (C := RX3) (T := TX3) (N := 8) hx hb hts hi_X3_readItem_3 hown hK hP 1 rfl rfl 5 (by decide) (hts (.fieldLink RX3 28 "TheLiningsInIt$Reader" "fault" "I") (List.mem_of_getElem? (i := 2) rfl)) (fun _ h9 => h9) rfl dX3_readItem_68 ?_
          refine lv_iconst (v := (-1)) hx hb dX3_readItem_71 (by decide) ?_
          refine lv_icmp_eq (tgt := 76) hx hb dX3_readItem_72 (by decide) (fun c_239 => ?_) (fun c_239 => ?_)
          · exfalso; have fc_239 : q_237.toInt = (-1) := zf_eq c_239 rfl (by decide); omega
          · have fc_239 : q_237.toInt ≠ (-1) := zf_ne c_239 rfl (by decide)
            have e0 : slot.toNatClampNeg = slot.toInt.toNat + 0 := (by show (slot : Int32).toInt.toNat = _; omega)
            have hI := zIn_a hn0 (by first | (right; decide) | (left; omega))
            exact W.vret hx hb hr (fun t ht hW => ⟨⟨(q_236, q_237, rt, ru, (upd fi slot.toNatClampNeg 7)), rfl, ⟨(show 0 ≤ q_236.toInt ∧ q_236.toInt ≤ 160 from hbq_236), (show (-1) ≤ q_237.toInt ∧ q_237.toInt ≤ 160 from hbq_237), (show 0 ≤ rt.toInt ∧ rt.toInt ≤ 40 from ⟨hy9, hy10⟩), (show 0 ≤ ru.toInt ∧ ru.toInt ≤ 8 from ⟨hy11, hy12⟩), (show q_236.toInt ≤ rz.toInt from by omega), (show (q_237.toInt = -1 → zIt (upd fi slot.toNatClampNeg 7) slot.toInt.toNat) from by (intro h; exfalso; omega)), (show (∀ j : Nat, j < slot.toInt.toNat → (upd fi slot.toNatClampNeg 7) j = fi j) from by (intro j hj; simp only [upd]; rw [if_neg (by omega)])), (show (q_237.toInt = (zItem fl rz.toInt rp.toInt rt.toInt ru.toInt).1 ∧ (q_237.toInt = -1 → q_236.toInt = (zItem fl rz.toInt rp.toInt rt.toInt ru.toInt).2.1 ∧ rt.toInt = (zItem fl rz.toInt rp.toInt rt.toInt ru.toInt).2.2.1 ∧ ru.toInt = (zItem fl rz.toInt rp.toInt rt.toInt ru.toInt).2.2.2)) from by (have z9 := hsr_1_1; rw [kc7] at z9; have hq : zFst fl rz.toInt rp.toInt zWds 10 = 7 ∧ ¬ ((7 : Int) = 3 ∧ ru.toInt = 8) := (by omega); have hl9 : (q_3 : Int32).toInt = rp.toInt + ((zWds ((7 : Int)).toNat).length : Nat) := (by omega); rw [zItem_w hq.1 (by decide) hq.2 hl9 hI]; dsimp only; exact ⟨by (first | rfl | omega), fun h => ⟨by (first | rfl | omega), by (show _ = (if (7 : Int) = 0 then _ else _); rw [if_neg (by decide)]), by (show _ = (if (7 : Int) = 3 then _ else _); rw [if_neg (by decide)])⟩⟩)), (show (q_237.toInt = -1 → (((upd fi slot.toNatClampNeg 7) slot.toInt.toNat).toInt = 0 → rt.toInt = ((upd fi slot.toNatClampNeg 7) (slot.toInt.toNat + 1)).toInt) ∧ (((upd fi slot.toNatClampNeg 7) slot.toInt.toNat).toInt ≠ 0 → rt.toInt = rt.toInt) ∧ (((upd fi slot.toNatClampNeg 7) slot.toInt.toNat).toInt = 3 → ru.toInt = ru.toInt + 1) ∧ (((upd fi slot.toNatClampNeg 7) slot.toInt.toNat).toInt ≠ 3 → ru.toInt = ru.toInt)) from by (intro h; exfalso; omega)), trivial⟩, zRet ht hP hD [1, 2, 0] (by decide) rfl⟩, hS.F ht⟩) hS.2.2 dX3_readItem_75
        · have fc_238 : q_237.toInt = (-1) := zf_eq c_238 rfl (by decide)
          refine lv_aload_n hx hb dX3_readItem_42 rfl (lv_at hl 2 rfl) ?_
          refine va_get (D := D) (ci := 3) (v := .ref ri) (C := RX3) (T := TX3) (N := 8) hx hb hts hi_X3_readItem_3 hown hK hP 1 rfl rfl 0 (by decide) (hts (.fieldLink RX3 11 "TheLiningsInIt$Reader" "items" "[I") (List.mem_of_getElem? (i := 1) rfl)) (fun _ h9 => h9) rfl dX3_readItem_43 ?_
          refine lv_iload_n hx hb dX3_readItem_46 rfl (lv_at hl 3 rfl) ?_
          refine lv_iconst (v := 1) hx hb dX3_readItem_47 (by decide) ?_
          refine lv_iadd hx hb dX3_readItem_48 ?_
          refine lv_topi (fun x_240 ex_240 => ?_)
          have qx_240 : x_240.toInt = slot.toInt + 1 := by rw [ex_240]; exact zf_add rfl (by decide) (by omega) (by omega)
          refine lv_iload_n hx hb dX3_readItem_49 rfl (lv_at hl 0 rfl) ?_
          refine lv_iadd hx hb dX3_readItem_50 ?_
          refine lv_topi (fun y_241 ey_241 => ?_)
          obtain rfl : x_240 = y_241 := (ey_241.trans (Int32.add_zero x_240)).symm
          refine lv_aload_n hx hb dX3_readItem_51 rfl (lv_at hl 2 rfl) ?_
          refine lv_iload_n hx hb dX3_readItem_52 rfl (lv_at hl 1 rfl) ?_
          refine lv_iload_n hx hb dX3_readItem_53 rfl (lv_at hl 0 rfl) ?_
          refine zc_S (As := [.int 7, .int 0]) (rest := [.ref rd, .int x_240, .ref ri]) ⟨hx, hb, hml, hown, hts⟩ (c_R_leastOf_7_0 l D cI cJ cZ cP cS po  ) (va_cwS 2 hts gX3_readItem_X3_leastOf rfl rfl rfl dh_X3_leastOf ⟨Nat.le_of_ble_eq_true rfl, Nat.le_of_ble_eq_true rfl⟩) hK hN (hZ.kept hS) rfl hl.1 rfl (Nat.le_of_ble_eq_true rfl) dX3_readItem_54 ⟨Nat.le_of_ble_eq_true rfl, Nat.le_of_ble_eq_true rfl⟩ (fun r_242 hr_242 => ?_)
          obtain rfl := hr_242
          refine lv_aload_n hx hb dX3_readItem_57 rfl (lv_at hl 2 rfl) ?_
          refine lv_iload_n hx hb dX3_readItem_58 rfl (lv_at hl 1 rfl) ?_
          refine lv_iload_n hx hb dX3_readItem_59 rfl (lv_at hl 0 rfl) ?_
          refine zc_V (As := [.int 7, .int 0]) (rest := [.int 1, .ref rd, .int x_240, .ref ri]) ⟨hx, hb, hml, hown, hts⟩ (c_R_mostOf_7_0 l D cI cJ cZ cP cS po rd ri rl (rz) (rc) (q_236) (q_237) (rt) (ru) hy0 hy1 hy2 hy3 hbq_236.1 hbq_236.2 (by omega) hbq_237.1 hbq_237.2 hy9 hy10 hy11 hy12) (cwV 2 hts gX3_readItem_X3_mostOf rfl rfl rfl ⟨rfl, dh_X3_mostOf⟩ ⟨Nat.le_of_ble_eq_true rfl, Nat.le_of_ble_eq_true rfl⟩) hK hN (hZ.kept hS) hP (hP.sub [1] rfl) (va_recv (q := (RX3, TX3, 8)) hK hP (ci := 3) (q0 := 1) rfl rfl) rfl hl.1 rfl (Nat.le_of_ble_eq_true rfl) dX3_readItem_60 ⟨Nat.le_of_ble_eq_true rfl, Nat.le_of_ble_eq_true rfl⟩ (fun r_243 hr_243 => ?_)
          obtain rfl := hr_243
          have kc1 : (1 : Int32).toInt = 1 := by decide
          have kc9 : (9 : Int32).toInt = 9 := by decide
          skip
          refine zw_V (As := [.int 1, .int 9]) (rest := [.int x_240, .ref ri]) (wr := [(ri, .inl (cI, 132, .inl (upd fi slot.toNatClampNeg 7)))]) ⟨hx, hb, hml, hown, hts⟩ (c_F_R_readNumber l D cI cJ cZ cP cS po rd ri rl (rz) (rc) (q_236) (q_237) (rt) (ru) fl (1) (9) hy0 hy1 hy2 hy3 hbq_236.1 hbq_236.2 (by omega) hbq_237.1 hbq_237.2 hy9 hy10 hy11 hy12 H.size) (cwV 2 hts gX3_readItem_X3_readNumber rfl rfl rfl ⟨rfl, dh_X3_readNumber⟩ ⟨Nat.le_of_ble_eq_true rfl, Nat.le_of_ble_eq_true rfl⟩) hK hN (hZ.kept hS) hP hD hS hA [1, 2] [0] rfl rfl (by decide) (by decide) (by decide) (va_recv (q := (RX3, TX3, 8)) hK hP (ci := 3) (q0 := 1) rfl rfl) rfl hl.1 rfl (Nat.le_of_ble_eq_true rfl) dX3_readItem_63 ⟨Nat.le_of_ble_eq_true rfl, Nat.le_of_ble_eq_true rfl⟩ (fun r_244 u_245 H locs hr_244 hP hD hS => ?_)
          obtain ⟨q_246, q_247⟩ := u_245
          try dsimp only at hr_244
          obtain ⟨hbq_246, hbq_247, hsr_244_0, hsr_244_1, hsr_244_2, hsr_244_3, hr_244⟩ := hr_244
          have h9R := zRe (ws' := [(ri, .inl (cI, 132, .inl (upd fi slot.toNatClampNeg 7))), (rd, .inr (3, [.ref ri, .ref rl, .int rz, .int rc, .int q_246, .int q_247, .int rt, .int ru])), (rl, .inl (cI, 160, .inl fl))]) hP hD rfl
          clear hP hD
          obtain ⟨hP, hD⟩ := h9R
          obtain ⟨g_248, g_249⟩ := hr_244
          refine va_iast hx hb hK hP hD hS 0 0 rfl rfl (zf_in (by omega) (by omega)) dX3_readItem_66 (fun H locs hP hD hS => ?_)
          have h9R := zRe (ws' := [(ri, .inl (cI, 132, .inl (upd (upd fi slot.toNatClampNeg 7) x_240.toNatClampNeg r_244))), (rd, .inr (3, [.ref ri, .ref rl, .int rz, .int rc, .int q_246, .int q_247, .int rt, .int ru])), (rl, .inl (cI, 160, .inl fl))]) hP hD rfl
          clear hP hD
          obtain ⟨hP, hD⟩ := h9R
          have hn0 : zN1 fl rz.toInt (q_3 : Int32).toInt (zLo 7 0) (zHi 7 0 rt.toInt) = ((q_247 : Int32).toInt, (q_246 : Int32).toInt, r_244.toInt) := zN1_yes (p1 := (q_236 : Int32).toInt) (lo2 := ((1 : Int32)).toInt) (hi2 := ((9 : Int32)).toInt) (by omega) (by omega) hsr_244_1 hsr_244_2 (by first | decide | (show (0 : Int) = _; omega)) (by first | decide | (show (9 : Int) = _; decide) | (show rt.toInt - 1 = _; omega) | (show rt.toInt = _; omega)) (by omega)
          refine lv_aload_n hx hb dX3_readItem_67 rfl (lv_at hl 2 rfl) ?_
          refine va_get (D := D) (ci := 3) (v := .int q_247) (C := RX3) (T := TX3) (N := 8) hx hb hts hi_X3_readItem_3 hown hK hP 1 rfl rfl 5 (by decide) (hts (.fieldLink RX3 28 "TheLiningsInIt$Reader" "fault" "I") (List.mem_of_getElem? (i := 2) rfl)) (fun _ h9 => h9) rfl dX3_readItem_68 ?_
          refine lv_iconst (v := (-1)) hx hb dX3_readItem_71 (by decide) ?_
          refine lv_icmp_eq (tgt := 76) hx hb dX3_readItem_72 (by decide) (fun c_250 => ?_) (fun c_250 => ?_)
          · have fc_250 : q_247.toInt = (-1) := zf_eq c_250 rfl (by decide)
            refine lv_iinc (v := 1) (lv' := [(3, .int 1), (2, .int 7), (0, .ref rd), (1, .int slot)]) hx hb dX3_readItem_76 hl (k := 0) rfl (by decide) (by decide) rfl (fun ls hl => ?_)
            refine lv_goto (tgt := 20) hx hb dX3_readItem_79 (by decide) ?_
            refine lv_iload_n hx hb dX3_readItem_20 rfl (lv_at hl 0 rfl) ?_
            refine lv_iload_n hx hb dX3_readItem_21 rfl (lv_at hl 1 rfl) ?_
            refine zc_S (As := [.int 7]) (rest := [.int 1]) ⟨hx, hb, hml, hown, hts⟩ (c_R_numbersOf_7 l D cI cJ cZ cP cS po  ) (va_cwS 1 hts gX3_readItem_X3_numbersOf rfl rfl rfl dh_X3_numbersOf ⟨Nat.le_of_ble_eq_true rfl, Nat.le_of_ble_eq_true rfl⟩) hK hN (hZ.kept hS) rfl hl.1 rfl (Nat.le_of_ble_eq_true rfl) dX3_readItem_22 ⟨Nat.le_of_ble_eq_true rfl, Nat.le_of_ble_eq_true rfl⟩ (fun r_251 hr_251 => ?_)
            obtain rfl := hr_251
            refine lv_icmp_ge (tgt := 82) hx hb dX3_readItem_25 (by decide) (fun c_252 => ?_) (fun c_252 => ?_)
            · refine lv_iload_n hx hb dX3_readItem_82 rfl (lv_at hl 1 rfl) ?_
              refine lv_if_ne (tgt := 101) hx hb dX3_readItem_83 (by decide) (fun c_253 => ?_) (fun c_253 => ?_)
              · refine lv_iload_n hx hb dX3_readItem_101 rfl (lv_at hl 1 rfl) ?_
                refine lv_iconst (v := 3) hx hb dX3_readItem_102 (by decide) ?_
                refine lv_icmp_ne (tgt := 116) hx hb dX3_readItem_103 (by decide) (fun c_254 => ?_) (fun c_254 => ?_)
                · have e0 : slot.toNatClampNeg = slot.toInt.toNat + 0 := (by show (slot : Int32).toInt.toNat = _; omega)
                  have e1 : x_240.toNatClampNeg = slot.toInt.toNat + 1 := (by show (x_240 : Int32).toInt.toNat = _; omega)
                  have hI := zIn_a hn0 (by first | (right; decide) | (left; omega))
                  exact W.vret hx hb hr (fun t ht hW => ⟨⟨(q_246, q_247, rt, ru, (upd (upd fi slot.toNatClampNeg 7) x_240.toNatClampNeg r_244)), rfl, ⟨(show 0 ≤ q_246.toInt ∧ q_246.toInt ≤ 160 from hbq_246), (show (-1) ≤ q_247.toInt ∧ q_247.toInt ≤ 160 from hbq_247), (show 0 ≤ rt.toInt ∧ rt.toInt ≤ 40 from ⟨hy9, hy10⟩), (show 0 ≤ ru.toInt ∧ ru.toInt ≤ 8 from ⟨hy11, hy12⟩), (show q_246.toInt ≤ rz.toInt from by omega), (show (q_247.toInt = -1 → zIt (upd (upd fi slot.toNatClampNeg 7) x_240.toNatClampNeg r_244) slot.toInt.toNat) from by (intro h; have k3 : (7 : Int32).toInt = 7 := (by decide); exact zIt_mk (by simp only [upd]; rw [if_neg (by omega), if_pos (by omega)]) (by simp only [upd]; rw [if_pos (by omega)]) (rfl) (rfl) (by unfold zItv; refine ⟨?_, ?_, ?_, ?_, ?_, ?_, ?_, ?_, ?_, ?_, ?_⟩ <;> (intros; omega)))), (show (∀ j : Nat, j < slot.toInt.toNat → (upd (upd fi slot.toNatClampNeg 7) x_240.toNatClampNeg r_244) j = fi j) from by (intro j hj; simp only [upd]; rw [if_neg (by omega), if_neg (by omega)])), (show (q_247.toInt = (zItem fl rz.toInt rp.toInt rt.toInt ru.toInt).1 ∧ (q_247.toInt = -1 → q_246.toInt = (zItem fl rz.toInt rp.toInt rt.toInt ru.toInt).2.1 ∧ rt.toInt = (zItem fl rz.toInt rp.toInt rt.toInt ru.toInt).2.2.1 ∧ ru.toInt = (zItem fl rz.toInt rp.toInt rt.toInt ru.toInt).2.2.2)) from by (have z9 := hsr_1_1; rw [kc7] at z9; have hq : zFst fl rz.toInt rp.toInt zWds 10 = 7 ∧ ¬ ((7 : Int) = 3 ∧ ru.toInt = 8) := (by omega); have hl9 : (q_3 : Int32).toInt = rp.toInt + ((zWds ((7 : Int)).toNat).length : Nat) := (by omega); rw [zItem_w hq.1 (by decide) hq.2 hl9 hI]; dsimp only; exact ⟨by (first | rfl | omega), fun h => ⟨by (first | rfl | omega), by (show _ = (if (7 : Int) = 0 then _ else _); rw [if_neg (by decide)]), by (show _ = (if (7 : Int) = 3 then _ else _); rw [if_neg (by decide)])⟩⟩)), (show (q_247.toInt = -1 → (((upd (upd fi slot.toNatClampNeg 7) x_240.toNatClampNeg r_244) slot.toInt.toNat).toInt = 0 → rt.toInt = ((upd (upd fi slot.toNatClampNeg 7) x_240.toNatClampNeg r_244) (slot.toInt.toNat + 1)).toInt) ∧ (((upd (upd fi slot.toNatClampNeg 7) x_240.toNatClampNeg r_244) slot.toInt.toNat).toInt ≠ 0 → rt.toInt = rt.toInt) ∧ (((upd (upd fi slot.toNatClampNeg 7) x_240.toNatClampNeg r_244) slot.toInt.toNat).toInt = 3 → ru.toInt = ru.toInt + 1) ∧ (((upd (upd fi slot.toNatClampNeg 7) x_240.toNatClampNeg r_244) slot.toInt.toNat).toInt ≠ 3 → ru.toInt = ru.toInt)) from by (intro h; have g0 : (upd (upd fi slot.toNatClampNeg 7) x_240.toNatClampNeg r_244) slot.toInt.toNat = (7 : Int32) := (by simp only [upd]; rw [if_neg (by omega), if_pos (by omega)]); have g1 : (upd (upd fi slot.toNatClampNeg 7) x_240.toNatClampNeg r_244) (slot.toInt.toNat + 1) = (r_244 : Int32) := (by simp only [upd]; rw [if_pos (by omega)]); rw [g0, g1]; refine ⟨?_, ?_, ?_, ?_⟩ <;> (intro h9; first | rfl | omega | (exfalso; omega)))), trivial⟩, zRet ht hP hD [1, 2, 0] (by decide) rfl⟩, hS.F ht⟩) hS.2.2 dX3_readItem_116
                · exact absurd c_254 (by decide)
              · exact absurd c_253 (by decide)
            · exact absurd c_252 (by decide)
          · have fc_250 : q_247.toInt ≠ (-1) := zf_ne c_250 rfl (by decide)
            have e0 : slot.toNatClampNeg = slot.toInt.toNat + 0 := (by show (slot : Int32).toInt.toNat = _; omega)
            have e1 : x_240.toNatClampNeg = slot.toInt.toNat + 1 := (by show (x_240 : Int32).toInt.toNat = _; omega)
            have hI := zIn_a hn0 (by first | (right; decide) | (left; omega))
            exact W.vret hx hb hr (fun t ht hW => ⟨⟨(q_246, q_247, rt, ru, (upd (upd fi slot.toNatClampNeg 7) x_240.toNatClampNeg r_244)), rfl, ⟨(show 0 ≤ q_246.toInt ∧ q_246.toInt ≤ 160 from hbq_246), (show (-1) ≤ q_247.toInt ∧ q_247.toInt ≤ 160 from hbq_247), (show 0 ≤ rt.toInt ∧ rt.toInt ≤ 40 from ⟨hy9, hy10⟩), (show 0 ≤ ru.toInt ∧ ru.toInt ≤ 8 from ⟨hy11, hy12⟩), (show q_246.toInt ≤ rz.toInt from by omega), (show (q_247.toInt = -1 → zIt (upd (upd fi slot.toNatClampNeg 7) x_240.toNatClampNeg r_244) slot.toInt.toNat) from by (intro h; exfalso; omega)), (show (∀ j : Nat, j < slot.toInt.toNat → (upd (upd fi slot.toNatClampNeg 7) x_240.toNatClampNeg r_244) j = fi j) from by (intro j hj; simp only [upd]; rw [if_neg (by omega), if_neg (by omega)])), (show (q_247.toInt = (zItem fl rz.toInt rp.toInt rt.toInt ru.toInt).1 ∧ (q_247.toInt = -1 → q_246.toInt = (zItem fl rz.toInt rp.toInt rt.toInt ru.toInt).2.1 ∧ rt.toInt = (zItem fl rz.toInt rp.toInt rt.toInt ru.toInt).2.2.1 ∧ ru.toInt = (zItem fl rz.toInt rp.toInt rt.toInt ru.toInt).2.2.2)) from by (have z9 := hsr_1_1; rw [kc7] at z9; have hq : zFst fl rz.toInt rp.toInt zWds 10 = 7 ∧ ¬ ((7 : Int) = 3 ∧ ru.toInt = 8) := (by omega); have hl9 : (q_3 : Int32).toInt = rp.toInt + ((zWds ((7 : Int)).toNat).length : Nat) := (by omega); rw [zItem_w hq.1 (by decide) hq.2 hl9 hI]; dsimp only; exact ⟨by (first | rfl | omega), fun h => ⟨by (first | rfl | omega), by (show _ = (if (7 : Int) = 0 then _ else _); rw [if_neg (by decide)]), by (show _ = (if (7 : Int) = 3 then _ else _); rw [if_neg (by decide)])⟩⟩)), (show (q_247.toInt = -1 → (((upd (upd fi slot.toNatClampNeg 7) x_240.toNatClampNeg r_244) slot.toInt.toNat).toInt = 0 → rt.toInt = ((upd (upd fi slot.toNatClampNeg 7) x_240.toNatClampNeg r_244) (slot.toInt.toNat + 1)).toInt) ∧ (((upd (upd fi slot.toNatClampNeg 7) x_240.toNatClampNeg r_244) slot.toInt.toNat).toInt ≠ 0 → rt.toInt = rt.toInt) ∧ (((upd (upd fi slot.toNatClampNeg 7) x_240.toNatClampNeg r_244) slot.toInt.toNat).toInt = 3 → ru.toInt = ru.toInt + 1) ∧ (((upd (upd fi slot.toNatClampNeg 7) x_240.toNatClampNeg r_244) slot.toInt.toNat).toInt ≠ 3 → ru.toInt = ru.toInt)) from by (intro h; exfalso; omega)), trivial⟩, zRet ht hP hD [1, 2, 0] (by decide) rfl⟩, hS.F ht⟩) hS.2.2 dX3_readItem_75
    · have kc8 : (8 : Int32).toInt = 8 := by decide
      refine lv_aload_n hx hb dX3_readItem_11 rfl (lv_at hl 1 rfl) ?_
      refine va_get (D := D) (ci := 3) (v := .ref ri) (C := RX3) (T := TX3) (N := 8) hx hb hts hi_X3_readItem_3 hown hK hP 1 rfl rfl 0 (by decide) (hts (.fieldLink RX3 11 "TheLiningsInIt$Reader" "items" "[I") (List.mem_of_getElem? (i := 1) rfl)) (fun _ h9 => h9) rfl dX3_readItem_12 ?_
      refine lv_iload_n hx hb dX3_readItem_15 rfl (lv_at hl 2 rfl) ?_
      refine lv_iload_n hx hb dX3_readItem_16 rfl (lv_at hl 0 rfl) ?_
      refine va_iast hx hb hK hP hD hS 0 0 rfl rfl (zf_in (by omega) (by omega)) dX3_readItem_17 (fun H locs hP hD hS => ?_)
      have h9R := zRe (ws' := [(ri, .inl (cI, 132, .inl (upd fi slot.toNatClampNeg 8))), (rd, .inr (3, [.ref ri, .ref rl, .int rz, .int rc, .int q_3, .int q_4, .int rt, .int ru])), (rl, .inl (cI, 160, .inl fl))]) hP hD rfl
      clear hP hD
      obtain ⟨hP, hD⟩ := h9R
      refine lv_iconst (v := 0) hx hb dX3_readItem_18 (by decide) ?_
      refine lv_istore_n (lv' := [(3, .int 0), (2, .int 8), (0, .ref rd), (1, .int slot)]) hx hb dX3_readItem_19 rfl hl (by decide) rfl (fun ls hl => ?_)
      refine lv_iload_n hx hb dX3_readItem_20 rfl (lv_at hl 0 rfl) ?_
      refine lv_iload_n hx hb dX3_readItem_21 rfl (lv_at hl 1 rfl) ?_
      refine zc_S (As := [.int 8]) (rest := [.int 0]) ⟨hx, hb, hml, hown, hts⟩ (c_R_numbersOf_8 l D cI cJ cZ cP cS po  ) (va_cwS 1 hts gX3_readItem_X3_numbersOf rfl rfl rfl dh_X3_numbersOf ⟨Nat.le_of_ble_eq_true rfl, Nat.le_of_ble_eq_true rfl⟩) hK hN (hZ.kept hS) rfl hl.1 rfl (Nat.le_of_ble_eq_true rfl) dX3_readItem_22 ⟨Nat.le_of_ble_eq_true rfl, Nat.le_of_ble_eq_true rfl⟩ (fun r_255 hr_255 => ?_)
      obtain rfl := hr_255
      refine lv_icmp_ge (tgt := 82) hx hb dX3_readItem_25 (by decide) (fun c_256 => ?_) (fun c_256 => ?_)
      · exact absurd c_256 (by decide)
      · refine lv_aload_n hx hb dX3_readItem_28 rfl (lv_at hl 2 rfl) ?_
        refine lv_bipush (v := 32) hx hb dX3_readItem_29 (by decide) ?_
        have kc32 : (32 : Int32).toInt = 32 := by decide
        skip
        refine zw_Vv (As := [.int 32]) (rest := []) (wr := [(ri, .inl (cI, 132, .inl (upd fi slot.toNatClampNeg 8)))]) ⟨hx, hb, hml, hown, hts⟩ (c_F_R_expect l D cI cJ cZ cP cS po rd ri rl (rz) (rc) (q_3) (q_4) (rt) (ru) fl (32) hy0 hy1 hy2 hy3 hbq_3.1 hbq_3.2 (by omega) hbq_4.1 hbq_4.2 hy9 hy10 hy11 hy12 H.size) (cwV 1 hts gX3_readItem_X3_expect rfl rfl rfl ⟨rfl, dh_X3_expect⟩ ⟨Nat.le_of_ble_eq_true rfl, Nat.le_of_ble_eq_true rfl⟩) hK hN (hZ.kept hS) hP hD hS hA [1, 2] [0] rfl rfl (by decide) (by decide) (by decide) (va_recv (q := (RX3, TX3, 8)) hK hP (ci := 3) (q0 := 1) rfl rfl) rfl hl.1 rfl (Nat.le_of_ble_eq_true rfl) dX3_readItem_31 ⟨Nat.le_of_ble_eq_true rfl, Nat.le_of_ble_eq_true rfl⟩ (fun u_258 H locs hr_257 hP hD hS => ?_)
        obtain ⟨q_259, q_260⟩ := u_258
        try dsimp only at hr_257
        obtain ⟨hbq_259, hbq_260, hsr_257_0, hsr_257_1, hr_257⟩ := hr_257
        have h9R := zRe (ws' := [(ri, .inl (cI, 132, .inl (upd fi slot.toNatClampNeg 8))), (rd, .inr (3, [.ref ri, .ref rl, .int rz, .int rc, .int q_259, .int q_260, .int rt, .int ru])), (rl, .inl (cI, 160, .inl fl))]) hP hD rfl
        clear hP hD
        obtain ⟨hP, hD⟩ := h9R
        refine lv_aload_n hx hb dX3_readItem_34 rfl (lv_at hl 2 rfl) ?_
        refine va_get (D := D) (ci := 3) (v := .int q_260) (C := RX3) (T := TX3) (N := 8) hx hb hts hi_X3_readItem_3 hown hK hP 1 rfl rfl 5 (by decide) (hts (.fieldLink RX3 28 "TheLiningsInIt$Reader" "fault" "I") (List.mem_of_getElem? (i := 2) rfl)) (fun _ h9 => h9) rfl dX3_readItem_35 ?_
        refine lv_iconst (v := (-1)) hx hb dX3_readItem_38 (by decide) ?_
        refine lv_icmp_ne (tgt := 67) hx hb dX3_readItem_39 (by decide) (fun c_261 => ?_) (fun c_261 => ?_)
        · have fc_261 : q_260.toInt ≠ (-1) := zf_ne c_261 rfl (by decide)
          have hn0 : zN1 fl rz.toInt (q_3 : Int32).toInt (zLo 8 0) (zHi 8 0 rt.toInt) = ((q_3 : Int32).toInt, (q_3 : Int32).toInt, 0) := zN1_no (by omega)
          refine lv_aload_n hx hb dX3_readItem_67 rfl (lv_at hl 2 rfl) ?_
          refine va_get (D := D) (ci := 3) (v := .int q_260) (C := RX3) (T := TX3) (N := 8) hx hb hts hi_X3_readItem_3 hown hK hP 1 rfl rfl 5 (by decide) (hts (.fieldLink RX3 28 "TheLiningsInIt$Reader" "fault" "I") (List.mem_of_getElem? (i := 2) rfl)) (fun _ h9 => h9) rfl dX3_readItem_68 ?_
          refine lv_iconst (v := (-1)) hx hb dX3_readItem_71 (by decide) ?_
          refine lv_icmp_eq (tgt := 76) hx hb dX3_readItem_72 (by decide) (fun c_262 => ?_) (fun c_262 => ?_)
          · exfalso; have fc_262 : q_260.toInt = (-1) := zf_eq c_262 rfl (by decide); omega
          · have fc_262 : q_260.toInt ≠ (-1) := zf_ne c_262 rfl (by decide)
            have e0 : slot.toNatClampNeg = slot.toInt.toNat + 0 := (by show (slot : Int32).toInt.toNat = _; omega)
            have hI := zIn_a hn0 (by first | (right; decide) | (left; omega))
            exact W.vret hx hb hr (fun t ht hW => ⟨⟨(q_259, q_260, rt, ru, (upd fi slot.toNatClampNeg 8)), rfl, ⟨(show 0 ≤ q_259.toInt ∧ q_259.toInt ≤ 160 from hbq_259), (show (-1) ≤ q_260.toInt ∧ q_260.toInt ≤ 160 from hbq_260), (show 0 ≤ rt.toInt ∧ rt.toInt ≤ 40 from ⟨hy9, hy10⟩), (show 0 ≤ ru.toInt ∧ ru.toInt ≤ 8 from ⟨hy11, hy12⟩), (show q_259.toInt ≤ rz.toInt from by omega), (show (q_260.toInt = -1 → zIt (upd fi slot.toNatClampNeg 8) slot.toInt.toNat) from by (intro h; exfalso; omega)), (show (∀ j : Nat, j < slot.toInt.toNat → (upd fi slot.toNatClampNeg 8) j = fi j) from by (intro j hj; simp only [upd]; rw [if_neg (by omega)])), (show (q_260.toInt = (zItem fl rz.toInt rp.toInt rt.toInt ru.toInt).1 ∧ (q_260.toInt = -1 → q_259.toInt = (zItem fl rz.toInt rp.toInt rt.toInt ru.toInt).2.1 ∧ rt.toInt = (zItem fl rz.toInt rp.toInt rt.toInt ru.toInt).2.2.1 ∧ ru.toInt = (zItem fl rz.toInt rp.toInt rt.toInt ru.toInt).2.2.2)) from by (have z9 := hsr_1_1; rw [kc8] at z9; have hq : zFst fl rz.toInt rp.toInt zWds 10 = 8 ∧ ¬ ((8 : Int) = 3 ∧ ru.toInt = 8) := (by omega); have hl9 : (q_3 : Int32).toInt = rp.toInt + ((zWds ((8 : Int)).toNat).length : Nat) := (by omega); rw [zItem_w hq.1 (by decide) hq.2 hl9 hI]; dsimp only; exact ⟨by (first | rfl | omega), fun h => ⟨by (first | rfl | omega), by (show _ = (if (8 : Int) = 0 then _ else _); rw [if_neg (by decide)]), by (show _ = (if (8 : Int) = 3 then _ else _); rw [if_neg (by decide)])⟩⟩)), (show (q_260.toInt = -1 → (((upd fi slot.toNatClampNeg 8) slot.toInt.toNat).toInt = 0 → rt.toInt = ((upd fi slot.toNatClampNeg 8) (slot.toInt.toNat + 1)).toInt) ∧ (((upd fi slot.toNatClampNeg 8) slot.toInt.toNat).toInt ≠ 0 → rt.toInt = rt.toInt) ∧ (((upd fi slot.toNatClampNeg 8) slot.toInt.toNat).toInt = 3 → ru.toInt = ru.toInt + 1) ∧ (((upd fi slot.toNatClampNeg 8) slot.toInt.toNat).toInt ≠ 3 → ru.toInt = ru.toInt)) from by (intro h; exfalso; omega)), trivial⟩, zRet ht hP hD [1, 2, 0] (by decide) rfl⟩, hS.F ht⟩) hS.2.2 dX3_readItem_75
        · have fc_261 : q_260.toInt = (-1) := zf_eq c_261 rfl (by decide)
          refine lv_aload_n hx hb dX3_readItem_42 rfl (lv_at hl 2 rfl) ?_
          refine va_get (D := D) (ci := 3) (v := .ref ri) (C := RX3) (T := TX3) (N := 8) hx hb hts hi_X3_readItem_3 hown hK hP 1 rfl rfl 0 (by decide) (hts (.fieldLink RX3 11 "TheLiningsInIt$Reader" "items" "[I") (List.mem_of_getElem? (i := 1) rfl)) (fun _ h9 => h9) rfl dX3_readItem_43 ?_
          refine lv_iload_n hx hb dX3_readItem_46 rfl (lv_at hl 3 rfl) ?_
          refine lv_iconst (v := 1) hx hb dX3_readItem_47 (by decide) ?_
          refine lv_iadd hx hb dX3_readItem_48 ?_
          refine lv_topi (fun x_263 ex_263 => ?_)
          have qx_263 : x_263.toInt = slot.toInt + 1 := by rw [ex_263]; exact zf_add rfl (by decide) (by omega) (by omega)
          refine lv_iload_n hx hb dX3_readItem_49 rfl (lv_at hl 0 rfl) ?_
          refine lv_iadd hx hb dX3_readItem_50 ?_
          refine lv_topi (fun y_264 ey_264 => ?_)
          obtain rfl : x_263 = y_264 := (ey_264.trans (Int32.add_zero x_263)).symm
          refine lv_aload_n hx hb dX3_readItem_51 rfl (lv_at hl 2 rfl) ?_
          refine lv_iload_n hx hb dX3_readItem_52 rfl (lv_at hl 1 rfl) ?_
          refine lv_iload_n hx hb dX3_readItem_53 rfl (lv_at hl 0 rfl) ?_
          refine zc_S (As := [.int 8, .int 0]) (rest := [.ref rd, .int x_263, .ref ri]) ⟨hx, hb, hml, hown, hts⟩ (c_R_leastOf_8_0 l D cI cJ cZ cP cS po  ) (va_cwS 2 hts gX3_readItem_X3_leastOf rfl rfl rfl dh_X3_leastOf ⟨Nat.le_of_ble_eq_true rfl, Nat.le_of_ble_eq_true rfl⟩) hK hN (hZ.kept hS) rfl hl.1 rfl (Nat.le_of_ble_eq_true rfl) dX3_readItem_54 ⟨Nat.le_of_ble_eq_true rfl, Nat.le_of_ble_eq_true rfl⟩ (fun r_265 hr_265 => ?_)
          obtain rfl := hr_265
          refine lv_aload_n hx hb dX3_readItem_57 rfl (lv_at hl 2 rfl) ?_
          refine lv_iload_n hx hb dX3_readItem_58 rfl (lv_at hl 1 rfl) ?_
          refine lv_iload_n hx hb dX3_readItem_59 rfl (lv_at hl 0 rfl) ?_
          refine zc_V (As := [.int 8, .int 0]) (rest := [.int 0, .ref rd, .int x_263, .ref ri]) ⟨hx, hb, hml, hown, hts⟩ (c_R_mostOf_8_0 l D cI cJ cZ cP cS po rd ri rl (rz) (rc) (q_259) (q_260) (rt) (ru) hy0 hy1 hy2 hy3 hbq_259.1 hbq_259.2 (by omega) hbq_260.1 hbq_260.2 hy9 hy10 hy11 hy12) (cwV 2 hts gX3_readItem_X3_mostOf rfl rfl rfl ⟨rfl, dh_X3_mostOf⟩ ⟨Nat.le_of_ble_eq_true rfl, Nat.le_of_ble_eq_true rfl⟩) hK hN (hZ.kept hS) hP (hP.sub [1] rfl) (va_recv (q := (RX3, TX3, 8)) hK hP (ci := 3) (q0 := 1) rfl rfl) rfl hl.1 rfl (Nat.le_of_ble_eq_true rfl) dX3_readItem_60 ⟨Nat.le_of_ble_eq_true rfl, Nat.le_of_ble_eq_true rfl⟩ (fun r_266 hr_266 => ?_)
          obtain rfl := hr_266
          have kc0 : (0 : Int32).toInt = 0 := by decide
          have kc2 : (2 : Int32).toInt = 2 := by decide
          skip
          refine zw_V (As := [.int 0, .int 2]) (rest := [.int x_263, .ref ri]) (wr := [(ri, .inl (cI, 132, .inl (upd fi slot.toNatClampNeg 8)))]) ⟨hx, hb, hml, hown, hts⟩ (c_F_R_readNumber l D cI cJ cZ cP cS po rd ri rl (rz) (rc) (q_259) (q_260) (rt) (ru) fl (0) (2) hy0 hy1 hy2 hy3 hbq_259.1 hbq_259.2 (by omega) hbq_260.1 hbq_260.2 hy9 hy10 hy11 hy12 H.size) (cwV 2 hts gX3_readItem_X3_readNumber rfl rfl rfl ⟨rfl, dh_X3_readNumber⟩ ⟨Nat.le_of_ble_eq_true rfl, Nat.le_of_ble_eq_true rfl⟩) hK hN (hZ.kept hS) hP hD hS hA [1, 2] [0] rfl rfl (by decide) (by decide) (by decide) (va_recv (q := (RX3, TX3, 8)) hK hP (ci := 3) (q0 := 1) rfl rfl) rfl hl.1 rfl (Nat.le_of_ble_eq_true rfl) dX3_readItem_63 ⟨Nat.le_of_ble_eq_true rfl, Nat.le_of_ble_eq_true rfl⟩ (fun r_267 u_268 H locs hr_267 hP hD hS => ?_)
          obtain ⟨q_269, q_270⟩ := u_268
          try dsimp only at hr_267
          obtain ⟨hbq_269, hbq_270, hsr_267_0, hsr_267_1, hsr_267_2, hsr_267_3, hr_267⟩ := hr_267
          have h9R := zRe (ws' := [(ri, .inl (cI, 132, .inl (upd fi slot.toNatClampNeg 8))), (rd, .inr (3, [.ref ri, .ref rl, .int rz, .int rc, .int q_269, .int q_270, .int rt, .int ru])), (rl, .inl (cI, 160, .inl fl))]) hP hD rfl
          clear hP hD
          obtain ⟨hP, hD⟩ := h9R
          obtain ⟨g_271, g_272⟩ := hr_267
          refine va_iast hx hb hK hP hD hS 0 0 rfl rfl (zf_in (by omega) (by omega)) dX3_readItem_66 (fun H locs hP hD hS => ?_)
          have h9R := zRe (ws' := [(ri, .inl (cI, 132, .inl (upd (upd fi slot.toNatClampNeg 8) x_263.toNatClampNeg r_267))), (rd, .inr (3, [.ref ri, .ref rl, .int rz, .int rc, .int q_269, .int q_270, .int rt, .int ru])), (rl, .inl (cI, 160, .inl fl))]) hP hD rfl
          clear hP hD
          obtain ⟨hP, hD⟩ := h9R
          have hn0 : zN1 fl rz.toInt (q_3 : Int32).toInt (zLo 8 0) (zHi 8 0 rt.toInt) = ((q_270 : Int32).toInt, (q_269 : Int32).toInt, r_267.toInt) := zN1_yes (p1 := (q_259 : Int32).toInt) (lo2 := ((0 : Int32)).toInt) (hi2 := ((2 : Int32)).toInt) (by omega) (by omega) hsr_267_1 hsr_267_2 (by first | decide | (show (0 : Int) = _; omega)) (by first | decide | (show (2 : Int) = _; decide) | (show rt.toInt - 1 = _; omega) | (show rt.toInt = _; omega)) (by omega)
          refine lv_aload_n hx hb dX3_readItem_67 rfl (lv_at hl 2 rfl) ?_
          refine va_get (D := D) (ci := 3) (v := .int q_270) (C := RX3) (T := TX3) (N := 8) hx hb hts hi_X3_readItem_3 hown hK hP 1 rfl rfl 5 (by decide) (hts (.fieldLink RX3 28 "TheLiningsInIt$Reader" "fault" "I") (List.mem_of_getElem? (i := 2) rfl)) (fun _ h9 => h9) rfl dX3_readItem_68 ?_
          refine lv_iconst (v := (-1)) hx hb dX3_readItem_71 (by decide) ?_
          refine lv_icmp_eq (tgt := 76) hx hb dX3_readItem_72 (by decide) (fun c_273 => ?_) (fun c_273 => ?_)
          · have fc_273 : q_270.toInt = (-1) := zf_eq c_273 rfl (by decide)
            refine lv_iinc (v := 1) (lv' := [(3, .int 1), (2, .int 8), (0, .ref rd), (1, .int slot)]) hx hb dX3_readItem_76 hl (k := 0) rfl (by decide) (by decide) rfl (fun ls hl => ?_)
            refine lv_goto (tgt := 20) hx hb dX3_readItem_79 (by decide) ?_
            refine lv_iload_n hx hb dX3_readItem_20 rfl (lv_at hl 0 rfl) ?_
            refine lv_iload_n hx hb dX3_readItem_21 rfl (lv_at hl 1 rfl) ?_
            refine zc_S (As := [.int 8]) (rest := [.int 1]) ⟨hx, hb, hml, hown, hts⟩ (c_R_numbersOf_8 l D cI cJ cZ cP cS po  ) (va_cwS 1 hts gX3_readItem_X3_numbersOf rfl rfl rfl dh_X3_numbersOf ⟨Nat.le_of_ble_eq_true rfl, Nat.le_of_ble_eq_true rfl⟩) hK hN (hZ.kept hS) rfl hl.1 rfl (Nat.le_of_ble_eq_true rfl) dX3_readItem_22 ⟨Nat.le_of_ble_eq_true rfl, Nat.le_of_ble_eq_true rfl⟩ (fun r_274 hr_274 => ?_)
            obtain rfl := hr_274
            refine lv_icmp_ge (tgt := 82) hx hb dX3_readItem_25 (by decide) (fun c_275 => ?_) (fun c_275 => ?_)
            · exact absurd c_275 (by decide)
            · refine lv_aload_n hx hb dX3_readItem_28 rfl (lv_at hl 2 rfl) ?_
              refine lv_bipush (v := 32) hx hb dX3_readItem_29 (by decide) ?_
              skip
              refine zw_Vv (As := [.int 32]) (rest := []) (wr := [(ri, .inl (cI, 132, .inl (upd (upd fi slot.toNatClampNeg 8) x_263.toNatClampNeg r_267)))]) ⟨hx, hb, hml, hown, hts⟩ (c_F_R_expect l D cI cJ cZ cP cS po rd ri rl (rz) (rc) (q_269) (q_270) (rt) (ru) fl (32) hy0 hy1 hy2 hy3 hbq_269.1 hbq_269.2 (by omega) hbq_270.1 hbq_270.2 hy9 hy10 hy11 hy12 H.size) (cwV 1 hts gX3_readItem_X3_expect rfl rfl rfl ⟨rfl, dh_X3_expect⟩ ⟨Nat.le_of_ble_eq_true rfl, Nat.le_of_ble_eq_true rfl⟩) hK hN (hZ.kept hS) hP hD hS hA [1, 2] [0] rfl rfl (by decide) (by decide) (by decide) (va_recv (q := (RX3, TX3, 8)) hK hP (ci := 3) (q0 := 1) rfl rfl) rfl hl.1 rfl (Nat.le_of_ble_eq_true rfl) dX3_readItem_31 ⟨Nat.le_of_ble_eq_true rfl, Nat.le_of_ble_eq_true rfl⟩ (fun u_277 H locs hr_276 hP hD hS => ?_)
              obtain ⟨q_278, q_279⟩ := u_277
              try dsimp only at hr_276
              obtain ⟨hbq_278, hbq_279, hsr_276_0, hsr_276_1, hr_276⟩ := hr_276
              have h9R := zRe (ws' := [(ri, .inl (cI, 132, .inl (upd (upd fi slot.toNatClampNeg 8) x_263.toNatClampNeg r_267))), (rd, .inr (3, [.ref ri, .ref rl, .int rz, .int rc, .int q_278, .int q_279, .int rt, .int ru])), (rl, .inl (cI, 160, .inl fl))]) hP hD rfl
              clear hP hD
              obtain ⟨hP, hD⟩ := h9R
              refine lv_aload_n hx hb dX3_readItem_34 rfl (lv_at hl 2 rfl) ?_
              refine va_get (D := D) (ci := 3) (v := .int q_279) (C := RX3) (T := TX3) (N := 8) hx hb hts hi_X3_readItem_3 hown hK hP 1 rfl rfl 5 (by decide) (hts (.fieldLink RX3 28 "TheLiningsInIt$Reader" "fault" "I") (List.mem_of_getElem? (i := 2) rfl)) (fun _ h9 => h9) rfl dX3_readItem_35 ?_
              refine lv_iconst (v := (-1)) hx hb dX3_readItem_38 (by decide) ?_
              refine lv_icmp_ne (tgt := 67) hx hb dX3_readItem_39 (by decide) (fun c_280 => ?_) (fun c_280 => ?_)
              · have fc_280 : q_279.toInt ≠ (-1) := zf_ne c_280 rfl (by decide)
                have hn1 : zN1 fl rz.toInt (q_269 : Int32).toInt (zLo 8 1) (zHi 8 1 rt.toInt) = ((q_269 : Int32).toInt, (q_269 : Int32).toInt, 0) := zN1_no (by omega)
                refine lv_aload_n hx hb dX3_readItem_67 rfl (lv_at hl 2 rfl) ?_
                refine va_get (D := D) (ci := 3) (v := .int q_279) (C := RX3) (T := TX3) (N := 8) hx hb hts hi_X3_readItem_3 hown hK hP 1 rfl rfl 5 (by decide) (hts (.fieldLink RX3 28 "TheLiningsInIt$Reader" "fault" "I") (List.mem_of_getElem? (i := 2) rfl)) (fun _ h9 => h9) rfl dX3_readItem_68 ?_
                refine lv_iconst (v := (-1)) hx hb dX3_readItem_71 (by decide) ?_
                refine lv_icmp_eq (tgt := 76) hx hb dX3_readItem_72 (by decide) (fun c_281 => ?_) (fun c_281 => ?_)
                · exfalso; have fc_281 : q_279.toInt = (-1) := zf_eq c_281 rfl (by decide); omega
                · have fc_281 : q_279.toInt ≠ (-1) := zf_ne c_281 rfl (by decide)
                  have e0 : slot.toNatClampNeg = slot.toInt.toNat + 0 := (by show (slot : Int32).toInt.toNat = _; omega)
                  have e1 : x_263.toNatClampNeg = slot.toInt.toNat + 1 := (by show (x_263 : Int32).toInt.toNat = _; omega)
                  have hI := zIn_b (by have z := hn0; rw [show (q_270 : Int32).toInt = -1 from by omega] at z; exact z) (by decide) hn1 (by first | (right; decide) | (left; omega))
                  exact W.vret hx hb hr (fun t ht hW => ⟨⟨(q_278, q_279, rt, ru, (upd (upd fi slot.toNatClampNeg 8) x_263.toNatClampNeg r_267)), rfl, ⟨(show 0 ≤ q_278.toInt ∧ q_278.toInt ≤ 160 from hbq_278), (show (-1) ≤ q_279.toInt ∧ q_279.toInt ≤ 160 from hbq_279), (show 0 ≤ rt.toInt ∧ rt.toInt ≤ 40 from ⟨hy9, hy10⟩), (show 0 ≤ ru.toInt ∧ ru.toInt ≤ 8 from ⟨hy11, hy12⟩), (show q_278.toInt ≤ rz.toInt from by omega), (show (q_279.toInt = -1 → zIt (upd (upd fi slot.toNatClampNeg 8) x_263.toNatClampNeg r_267) slot.toInt.toNat) from by (intro h; exfalso; omega)), (show (∀ j : Nat, j < slot.toInt.toNat → (upd (upd fi slot.toNatClampNeg 8) x_263.toNatClampNeg r_267) j = fi j) from by (intro j hj; simp only [upd]; rw [if_neg (by omega), if_neg (by omega)])), (show (q_279.toInt = (zItem fl rz.toInt rp.toInt rt.toInt ru.toInt).1 ∧ (q_279.toInt = -1 → q_278.toInt = (zItem fl rz.toInt rp.toInt rt.toInt ru.toInt).2.1 ∧ rt.toInt = (zItem fl rz.toInt rp.toInt rt.toInt ru.toInt).2.2.1 ∧ ru.toInt = (zItem fl rz.toInt rp.toInt rt.toInt ru.toInt).2.2.2)) from by (have z9 := hsr_1_1; rw [kc8] at z9; have hq : zFst fl rz.toInt rp.toInt zWds 10 = 8 ∧ ¬ ((8 : Int) = 3 ∧ ru.toInt = 8) := (by omega); have hl9 : (q_3 : Int32).toInt = rp.toInt + ((zWds ((8 : Int)).toNat).length : Nat) := (by omega); rw [zItem_w hq.1 (by decide) hq.2 hl9 hI]; dsimp only; exact ⟨by (first | rfl | omega), fun h => ⟨by (first | rfl | omega), by (show _ = (if (8 : Int) = 0 then _ else _); rw [if_neg (by decide)]), by (show _ = (if (8 : Int) = 3 then _ else _); rw [if_neg (by decide)])⟩⟩)), (show (q_279.toInt = -1 → (((upd (upd fi slot.toNatClampNeg 8) x_263.toNatClampNeg r_267) slot.toInt.toNat).toInt = 0 → rt.toInt = ((upd (upd fi slot.toNatClampNeg 8) x_263.toNatClampNeg r_267) (slot.toInt.toNat + 1)).toInt) ∧ (((upd (upd fi slot.toNatClampNeg 8) x_263.toNatClampNeg r_267) slot.toInt.toNat).toInt ≠ 0 → rt.toInt = rt.toInt) ∧ (((upd (upd fi slot.toNatClampNeg 8) x_263.toNatClampNeg r_267) slot.toInt.toNat).toInt = 3 → ru.toInt = ru.toInt + 1) ∧ (((upd (upd fi slot.toNatClampNeg 8) x_263.toNatClampNeg r_267) slot.toInt.toNat).toInt ≠ 3 → ru.toInt = ru.toInt)) from by (intro h; exfalso; omega)), trivial⟩, zRet ht hP hD [1, 2, 0] (by decide) rfl⟩, hS.F ht⟩) hS.2.2 dX3_readItem_75
              · have fc_280 : q_279.toInt = (-1) := zf_eq c_280 rfl (by decide)
                refine lv_aload_n hx hb dX3_readItem_42 rfl (lv_at hl 2 rfl) ?_
                refine va_get (D := D) (ci := 3) (v := .ref ri) (C := RX3) (T := TX3) (N := 8) hx hb hts hi_X3_readItem_3 hown hK hP 1 rfl rfl 0 (by decide) (hts (.fieldLink RX3 11 "TheLiningsInIt$Reader" "items" "[I") (List.mem_of_getElem? (i := 1) rfl)) (fun _ h9 => h9) rfl dX3_readItem_43 ?_
                refine lv_iload_n hx hb dX3_readItem_46 rfl (lv_at hl 3 rfl) ?_
                refine lv_iconst (v := 1) hx hb dX3_readItem_47 (by decide) ?_
                refine lv_iadd hx hb dX3_readItem_48 ?_
                refine lv_topi (fun y_282 ey_282 => ?_)
                obtain rfl : x_263 = y_282 := ex_263.trans ey_282.symm
                refine lv_iload_n hx hb dX3_readItem_49 rfl (lv_at hl 0 rfl) ?_
                refine lv_iadd hx hb dX3_readItem_50 ?_
                refine lv_topi (fun x_283 ex_283 => ?_)
                have qx_283 : x_283.toInt = x_263.toInt + 1 := by rw [ex_283]; exact zf_add rfl (by decide) (by omega) (by omega)
                refine lv_aload_n hx hb dX3_readItem_51 rfl (lv_at hl 2 rfl) ?_
                refine lv_iload_n hx hb dX3_readItem_52 rfl (lv_at hl 1 rfl) ?_
                refine lv_iload_n hx hb dX3_readItem_53 rfl (lv_at hl 0 rfl) ?_
                refine zc_S (As := [.int 8, .int 1]) (rest := [.ref rd, .int x_283, .ref ri]) ⟨hx, hb, hml, hown, hts⟩ (c_R_leastOf_8_1 l D cI cJ cZ cP cS po  ) (va_cwS 2 hts gX3_readItem_X3_leastOf rfl rfl rfl dh_X3_leastOf ⟨Nat.le_of_ble_eq_true rfl, Nat.le_of_ble_eq_true rfl⟩) hK hN (hZ.kept hS) rfl hl.1 rfl (Nat.le_of_ble_eq_true rfl) dX3_readItem_54 ⟨Nat.le_of_ble_eq_true rfl, Nat.le_of_ble_eq_true rfl⟩ (fun r_284 hr_284 => ?_)
                obtain rfl := hr_284
                refine lv_aload_n hx hb dX3_readItem_57 rfl (lv_at hl 2 rfl) ?_
                refine lv_iload_n hx hb dX3_readItem_58 rfl (lv_at hl 1 rfl) ?_
                refine lv_iload_n hx hb dX3_readItem_59 rfl (lv_at hl 0 rfl) ?_
                refine zc_V (As := [.int 8, .int 1]) (rest := [.int 0, .ref rd, .int x_283, .ref ri]) ⟨hx, hb, hml, hown, hts⟩ (c_R_mostOf_8_1 l D cI cJ cZ cP cS po rd ri rl (rz) (rc) (q_278) (q_279) (rt) (ru) hy0 hy1 hy2 hy3 hbq_278.1 hbq_278.2 (by omega) hbq_279.1 hbq_279.2 hy9 hy10 hy11 hy12) (cwV 2 hts gX3_readItem_X3_mostOf rfl rfl rfl ⟨rfl, dh_X3_mostOf⟩ ⟨Nat.le_of_ble_eq_true rfl, Nat.le_of_ble_eq_true rfl⟩) hK hN (hZ.kept hS) hP (hP.sub [1] rfl) (va_recv (q := (RX3, TX3, 8)) hK hP (ci := 3) (q0 := 1) rfl rfl) rfl hl.1 rfl (Nat.le_of_ble_eq_true rfl) dX3_readItem_60 ⟨Nat.le_of_ble_eq_true rfl, Nat.le_of_ble_eq_true rfl⟩ (fun r_285 hr_285 => ?_)
                obtain rfl := hr_285
                have kc99 : (99 : Int32).toInt = 99 := by decide
                skip
                refine zw_V (As := [.int 0, .int 99]) (rest := [.int x_283, .ref ri]) (wr := [(ri, .inl (cI, 132, .inl (upd (upd fi slot.toNatClampNeg 8) x_263.toNatClampNeg r_267)))]) ⟨hx, hb, hml, hown, hts⟩ (c_F_R_readNumber l D cI cJ cZ cP cS po rd ri rl (rz) (rc) (q_278) (q_279) (rt) (ru) fl (0) (99) hy0 hy1 hy2 hy3 hbq_278.1 hbq_278.2 (by omega) hbq_279.1 hbq_279.2 hy9 hy10 hy11 hy12 H.size) (cwV 2 hts gX3_readItem_X3_readNumber rfl rfl rfl ⟨rfl, dh_X3_readNumber⟩ ⟨Nat.le_of_ble_eq_true rfl, Nat.le_of_ble_eq_true rfl⟩) hK hN (hZ.kept hS) hP hD hS hA [1, 2] [0] rfl rfl (by decide) (by decide) (by decide) (va_recv (q := (RX3, TX3, 8)) hK hP (ci := 3) (q0 := 1) rfl rfl) rfl hl.1 rfl (Nat.le_of_ble_eq_true rfl) dX3_readItem_63 ⟨Nat.le_of_ble_eq_true rfl, Nat.le_of_ble_eq_true rfl⟩ (fun r_286 u_287 H locs hr_286 hP hD hS => ?_)
                obtain ⟨q_288, q_289⟩ := u_287
                try dsimp only at hr_286
                obtain ⟨hbq_288, hbq_289, hsr_286_0, hsr_286_1, hsr_286_2, hsr_286_3, hr_286⟩ := hr_286
                have h9R := zRe (ws' := [(ri, .inl (cI, 132, .inl (upd (upd fi slot.toNatClampNeg 8) x_263.toNatClampNeg r_267))), (rd, .inr (3, [.ref ri, .ref rl, .int rz, .int rc, .int q_288, .int q_289, .int rt, .int ru])), (rl, .inl (cI, 160, .inl fl))]) hP hD rfl
                clear hP hD
                obtain ⟨hP, hD⟩ := h9R
                obtain ⟨g_290, g_291⟩ := hr_286
                refine va_iast hx hb hK hP hD hS 0 0 rfl rfl (zf_in (by omega) (by omega)) dX3_readItem_66 (fun H locs hP hD hS => ?_)
                have h9R := zRe (ws' := [(ri, .inl (cI, 132, .inl (upd (upd (upd fi slot.toNatClampNeg 8) x_263.toNatClampNeg r_267) x_283.toNatClampNeg r_286))), (rd, .inr (3, [.ref ri, .ref rl, .int rz, .int rc, .int q_288, .int q_289, .int rt, .int ru])), (rl, .inl (cI, 160, .inl fl))]) hP hD rfl
                clear hP hD
                obtain ⟨hP, hD⟩ := h9R
                have hn1 : zN1 fl rz.toInt (q_269 : Int32).toInt (zLo 8 1) (zHi 8 1 rt.toInt) = ((q_289 : Int32).toInt, (q_288 : Int32).toInt, r_286.toInt) := zN1_yes (p1 := (q_278 : Int32).toInt) (lo2 := ((0 : Int32)).toInt) (hi2 := ((99 : Int32)).toInt) (by omega) (by omega) hsr_286_1 hsr_286_2 (by first | decide | (show (0 : Int) = _; omega)) (by first | decide | (show (99 : Int) = _; decide) | (show rt.toInt - 1 = _; omega) | (show rt.toInt = _; omega)) (by omega)
                refine lv_aload_n hx hb dX3_readItem_67 rfl (lv_at hl 2 rfl) ?_
                refine va_get (D := D) (ci := 3) (v := .int q_289) (C := RX3) (T := TX3) (N := 8) hx hb hts hi_X3_readItem_3 hown hK hP 1 rfl rfl 5 (by decide) (hts (.fieldLink RX3 28 "TheLiningsInIt$Reader" "fault" "I") (List.mem_of_getElem? (i := 2) rfl)) (fun _ h9 => h9) rfl dX3_readItem_68 ?_
                refine lv_iconst (v := (-1)) hx hb dX3_readItem_71 (by decide) ?_
                refine lv_icmp_eq (tgt := 76) hx hb dX3_readItem_72 (by decide) (fun c_292 => ?_) (fun c_292 => ?_)
                · have fc_292 : q_289.toInt = (-1) := zf_eq c_292 rfl (by decide)
                  refine lv_iinc (v := 2) (lv' := [(3, .int 2), (2, .int 8), (0, .ref rd), (1, .int slot)]) hx hb dX3_readItem_76 hl (k := 0) rfl (by decide) (by decide) rfl (fun ls hl => ?_)
                  refine lv_goto (tgt := 20) hx hb dX3_readItem_79 (by decide) ?_
                  refine lv_iload_n hx hb dX3_readItem_20 rfl (lv_at hl 0 rfl) ?_
                  refine lv_iload_n hx hb dX3_readItem_21 rfl (lv_at hl 1 rfl) ?_
                  refine zc_S (As := [.int 8]) (rest := [.int 2]) ⟨hx, hb, hml, hown, hts⟩ (c_R_numbersOf_8 l D cI cJ cZ cP cS po  ) (va_cwS 1 hts gX3_readItem_X3_numbersOf rfl rfl rfl dh_X3_numbersOf ⟨Nat.le_of_ble_eq_true rfl, Nat.le_of_ble_eq_true rfl⟩) hK hN (hZ.kept hS) rfl hl.1 rfl (Nat.le_of_ble_eq_true rfl) dX3_readItem_22 ⟨Nat.le_of_ble_eq_true rfl, Nat.le_of_ble_eq_true rfl⟩ (fun r_293 hr_293 => ?_)
                  obtain rfl := hr_293
                  refine lv_icmp_ge (tgt := 82) hx hb dX3_readItem_25 (by decide) (fun c_294 => ?_) (fun c_294 => ?_)
                  · refine lv_iload_n hx hb dX3_readItem_82 rfl (lv_at hl 1 rfl) ?_
                    refine lv_if_ne (tgt := 101) hx hb dX3_readItem_83 (by decide) (fun c_295 => ?_) (fun c_295 => ?_)
                    · refine lv_iload_n hx hb dX3_readItem_101 rfl (lv_at hl 1 rfl) ?_
                      refine lv_iconst (v := 3) hx hb dX3_readItem_102 (by decide) ?_
                      refine lv_icmp_ne (tgt := 116) hx hb dX3_readItem_103 (by decide) (fun c_296 => ?_) (fun c_296 => ?_)
                      · have e0 : slot.toNatClampNeg = slot.toInt.toNat + 0 := (by show (slot : Int32).toInt.toNat = _; omega)
                        have e1 : x_263.toNatClampNeg = slot.toInt.toNat + 1 := (by show (x_263 : Int32).toInt.toNat = _; omega)
                        have e2 : x_283.toNatClampNeg = slot.toInt.toNat + 2 := (by show (x_283 : Int32).toInt.toNat = _; omega)
                        have hI := zIn_b (by have z := hn0; rw [show (q_270 : Int32).toInt = -1 from by omega] at z; exact z) (by decide) hn1 (by first | (right; decide) | (left; omega))
                        exact W.vret hx hb hr (fun t ht hW => ⟨⟨(q_288, q_289, rt, ru, (upd (upd (upd fi slot.toNatClampNeg 8) x_263.toNatClampNeg r_267) x_283.toNatClampNeg r_286)), rfl, ⟨(show 0 ≤ q_288.toInt ∧ q_288.toInt ≤ 160 from hbq_288), (show (-1) ≤ q_289.toInt ∧ q_289.toInt ≤ 160 from hbq_289), (show 0 ≤ rt.toInt ∧ rt.toInt ≤ 40 from ⟨hy9, hy10⟩), (show 0 ≤ ru.toInt ∧ ru.toInt ≤ 8 from ⟨hy11, hy12⟩), (show q_288.toInt ≤ rz.toInt from by omega), (show (q_289.toInt = -1 → zIt (upd (upd (upd fi slot.toNatClampNeg 8) x_263.toNatClampNeg r_267) x_283.toNatClampNeg r_286) slot.toInt.toNat) from by (intro h; have k4 : (8 : Int32).toInt = 8 := (by decide); exact zIt_mk (by simp only [upd]; rw [if_neg (by omega), if_neg (by omega), if_pos (by omega)]) (by simp only [upd]; rw [if_neg (by omega), if_pos (by omega)]) (by simp only [upd]; rw [if_pos (by omega)]) (rfl) (by unfold zItv; refine ⟨?_, ?_, ?_, ?_, ?_, ?_, ?_, ?_, ?_, ?_, ?_⟩ <;> (intros; omega)))), (show (∀ j : Nat, j < slot.toInt.toNat → (upd (upd (upd fi slot.toNatClampNeg 8) x_263.toNatClampNeg r_267) x_283.toNatClampNeg r_286) j = fi j) from by (intro j hj; simp only [upd]; rw [if_neg (by omega), if_neg (by omega), if_neg (by omega)])), (show (q_289.toInt = (zItem fl rz.toInt rp.toInt rt.toInt ru.toInt).1 ∧ (q_289.toInt = -1 → q_288.toInt = (zItem fl rz.toInt rp.toInt rt.toInt ru.toInt).2.1 ∧ rt.toInt = (zItem fl rz.toInt rp.toInt rt.toInt ru.toInt).2.2.1 ∧ ru.toInt = (zItem fl rz.toInt rp.toInt rt.toInt ru.toInt).2.2.2)) from by (have z9 := hsr_1_1; rw [kc8] at z9; have hq : zFst fl rz.toInt rp.toInt zWds 10 = 8 ∧ ¬ ((8 : Int) = 3 ∧ ru.toInt = 8) := (by omega); have hl9 : (q_3 : Int32).toInt = rp.toInt + ((zWds ((8 : Int)).toNat).length : Nat) := (by omega); rw [zItem_w hq.1 (by decide) hq.2 hl9 hI]; dsimp only; exact ⟨by (first | rfl | omega), fun h => ⟨by (first | rfl | omega), by (show _ = (if (8 : Int) = 0 then _ else _); rw [if_neg (by decide)]), by (show _ = (if (8 : Int) = 3 then _ else _); rw [if_neg (by decide)])⟩⟩)), (show (q_289.toInt = -1 → (((upd (upd (upd fi slot.toNatClampNeg 8) x_263.toNatClampNeg r_267) x_283.toNatClampNeg r_286) slot.toInt.toNat).toInt = 0 → rt.toInt = ((upd (upd (upd fi slot.toNatClampNeg 8) x_263.toNatClampNeg r_267) x_283.toNatClampNeg r_286) (slot.toInt.toNat + 1)).toInt) ∧ (((upd (upd (upd fi slot.toNatClampNeg 8) x_263.toNatClampNeg r_267) x_283.toNatClampNeg r_286) slot.toInt.toNat).toInt ≠ 0 → rt.toInt = rt.toInt) ∧ (((upd (upd (upd fi slot.toNatClampNeg 8) x_263.toNatClampNeg r_267) x_283.toNatClampNeg r_286) slot.toInt.toNat).toInt = 3 → ru.toInt = ru.toInt + 1) ∧ (((upd (upd (upd fi slot.toNatClampNeg 8) x_263.toNatClampNeg r_267) x_283.toNatClampNeg r_286) slot.toInt.toNat).toInt ≠ 3 → ru.toInt = ru.toInt)) from by (intro h; have g0 : (upd (upd (upd fi slot.toNatClampNeg 8) x_263.toNatClampNeg r_267) x_283.toNatClampNeg r_286) slot.toInt.toNat = (8 : Int32) := (by simp only [upd]; rw [if_neg (by omega), if_neg (by omega), if_pos (by omega)]); have g1 : (upd (upd (upd fi slot.toNatClampNeg 8) x_263.toNatClampNeg r_267) x_283.toNatClampNeg r_286) (slot.toInt.toNat + 1) = (r_267 : Int32) := (by simp only [upd]; rw [if_neg (by omega), if_pos (by omega)]); rw [g0, g1]; refine ⟨?_, ?_, ?_, ?_⟩ <;> (intro h9; first | rfl | omega | (exfalso; omega)))), trivial⟩, zRet ht hP hD [1, 2, 0] (by decide) rfl⟩, hS.F ht⟩) hS.2.2 dX3_readItem_116
                      · exact absurd c_296 (by decide)
                    · exact absurd c_295 (by decide)
                  · exact absurd c_294 (by decide)
                · have fc_292 : q_289.toInt ≠ (-1) := zf_ne c_292 rfl (by decide)
                  have e0 : slot.toNatClampNeg = slot.toInt.toNat + 0 := (by show (slot : Int32).toInt.toNat = _; omega)
                  have e1 : x_263.toNatClampNeg = slot.toInt.toNat + 1 := (by show (x_263 : Int32).toInt.toNat = _; omega)
                  have e2 : x_283.toNatClampNeg = slot.toInt.toNat + 2 := (by show (x_283 : Int32).toInt.toNat = _; omega)
                  have hI := zIn_b (by have z := hn0; rw [show (q_270 : Int32).toInt = -1 from by omega] at z; exact z) (by decide) hn1 (by first | (right; decide) | (left; omega))
                  exact W.vret hx hb hr (fun t ht hW => ⟨⟨(q_288, q_289, rt, ru, (upd (upd (upd fi slot.toNatClampNeg 8) x_263.toNatClampNeg r_267) x_283.toNatClampNeg r_286)), rfl, ⟨(show 0 ≤ q_288.toInt ∧ q_288.toInt ≤ 160 from hbq_288), (show (-1) ≤ q_289.toInt ∧ q_289.toInt ≤ 160 from hbq_289), (show 0 ≤ rt.toInt ∧ rt.toInt ≤ 40 from ⟨hy9, hy10⟩), (show 0 ≤ ru.toInt ∧ ru.toInt ≤ 8 from ⟨hy11, hy12⟩), (show q_288.toInt ≤ rz.toInt from by omega), (show (q_289.toInt = -1 → zIt (upd (upd (upd fi slot.toNatClampNeg 8) x_263.toNatClampNeg r_267) x_283.toNatClampNeg r_286) slot.toInt.toNat) from by (intro h; exfalso; omega)), (show (∀ j : Nat, j < slot.toInt.toNat → (upd (upd (upd fi slot.toNatClampNeg 8) x_263.toNatClampNeg r_267) x_283.toNatClampNeg r_286) j = fi j) from by (intro j hj; simp only [upd]; rw [if_neg (by omega), if_neg (by omega), if_neg (by omega)])), (show (q_289.toInt = (zItem fl rz.toInt rp.toInt rt.toInt ru.toInt).1 ∧ (q_289.toInt = -1 → q_288.toInt = (zItem fl rz.toInt rp.toInt rt.toInt ru.toInt).2.1 ∧ rt.toInt = (zItem fl rz.toInt rp.toInt rt.toInt ru.toInt).2.2.1 ∧ ru.toInt = (zItem fl rz.toInt rp.toInt rt.toInt ru.toInt).2.2.2)) from by (have z9 := hsr_1_1; rw [kc8] at z9; have hq : zFst fl rz.toInt rp.toInt zWds 10 = 8 ∧ ¬ ((8 : Int) = 3 ∧ ru.toInt = 8) := (by omega); have hl9 : (q_3 : Int32).toInt = rp.toInt + ((zWds ((8 : Int)).toNat).length : Nat) := (by omega); rw [zItem_w hq.1 (by decide) hq.2 hl9 hI]; dsimp only; exact ⟨by (first | rfl | omega), fun h => ⟨by (first | rfl | omega), by (show _ = (if (8 : Int) = 0 then _ else _); rw [if_neg (by decide)]), by (show _ = (if (8 : Int) = 3 then _ else _); rw [if_neg (by decide)])⟩⟩)), (show (q_289.toInt = -1 → (((upd (upd (upd fi slot.toNatClampNeg 8) x_263.toNatClampNeg r_267) x_283.toNatClampNeg r_286) slot.toInt.toNat).toInt = 0 → rt.toInt = ((upd (upd (upd fi slot.toNatClampNeg 8) x_263.toNatClampNeg r_267) x_283.toNatClampNeg r_286) (slot.toInt.toNat + 1)).toInt) ∧ (((upd (upd (upd fi slot.toNatClampNeg 8) x_263.toNatClampNeg r_267) x_283.toNatClampNeg r_286) slot.toInt.toNat).toInt ≠ 0 → rt.toInt = rt.toInt) ∧ (((upd (upd (upd fi slot.toNatClampNeg 8) x_263.toNatClampNeg r_267) x_283.toNatClampNeg r_286) slot.toInt.toNat).toInt = 3 → ru.toInt = ru.toInt + 1) ∧ (((upd (upd (upd fi slot.toNatClampNeg 8) x_263.toNatClampNeg r_267) x_283.toNatClampNeg r_286) slot.toInt.toNat).toInt ≠ 3 → ru.toInt = ru.toInt)) from by (intro h; exfalso; omega)), trivial⟩, zRet ht hP hD [1, 2, 0] (by decide) rfl⟩, hS.F ht⟩) hS.2.2 dX3_readItem_75
          · have fc_273 : q_270.toInt ≠ (-1) := zf_ne c_273 rfl (by decide)
            have e0 : slot.toNatClampNeg = slot.toInt.toNat + 0 := (by show (slot : Int32).toInt.toNat = _; omega)
            have e1 : x_263.toNatClampNeg = slot.toInt.toNat + 1 := (by show (x_263 : Int32).toInt.toNat = _; omega)
            have hI := zIn_a hn0 (by first | (right; decide) | (left; omega))
            exact W.vret hx hb hr (fun t ht hW => ⟨⟨(q_269, q_270, rt, ru, (upd (upd fi slot.toNatClampNeg 8) x_263.toNatClampNeg r_267)), rfl, ⟨(show 0 ≤ q_269.toInt ∧ q_269.toInt ≤ 160 from hbq_269), (show (-1) ≤ q_270.toInt ∧ q_270.toInt ≤ 160 from hbq_270), (show 0 ≤ rt.toInt ∧ rt.toInt ≤ 40 from ⟨hy9, hy10⟩), (show 0 ≤ ru.toInt ∧ ru.toInt ≤ 8 from ⟨hy11, hy12⟩), (show q_269.toInt ≤ rz.toInt from by omega), (show (q_270.toInt = -1 → zIt (upd (upd fi slot.toNatClampNeg 8) x_263.toNatClampNeg r_267) slot.toInt.toNat) from by (intro h; exfalso; omega)), (show (∀ j : Nat, j < slot.toInt.toNat → (upd (upd fi slot.toNatClampNeg 8) x_263.toNatClampNeg r_267) j = fi j) from by (intro j hj; simp only [upd]; rw [if_neg (by omega), if_neg (by omega)])), (show (q_270.toInt = (zItem fl rz.toInt rp.toInt rt.toInt ru.toInt).1 ∧ (q_270.toInt = -1 → q_269.toInt = (zItem fl rz.toInt rp.toInt rt.toInt ru.toInt).2.1 ∧ rt.toInt = (zItem fl rz.toInt rp.toInt rt.toInt ru.toInt).2.2.1 ∧ ru.toInt = (zItem fl rz.toInt rp.toInt rt.toInt ru.toInt).2.2.2)) from by (have z9 := hsr_1_1; rw [kc8] at z9; have hq : zFst fl rz.toInt rp.toInt zWds 10 = 8 ∧ ¬ ((8 : Int) = 3 ∧ ru.toInt = 8) := (by omega); have hl9 : (q_3 : Int32).toInt = rp.toInt + ((zWds ((8 : Int)).toNat).length : Nat) := (by omega); rw [zItem_w hq.1 (by decide) hq.2 hl9 hI]; dsimp only; exact ⟨by (first | rfl | omega), fun h => ⟨by (first | rfl | omega), by (show _ = (if (8 : Int) = 0 then _ else _); rw [if_neg (by decide)]), by (show _ = (if (8 : Int) = 3 then _ else _); rw [if_neg (by decide)])⟩⟩)), (show (q_270.toInt = -1 → (((upd (upd fi slot.toNatClampNeg 8) x_263.toNatClampNeg r_267) slot.toInt.toNat).toInt = 0 → rt.toInt = ((upd (upd fi slot.toNatClampNeg 8) x_263.toNatClampNeg r_267) (slot.toInt.toNat + 1)).toInt) ∧ (((upd (upd fi slot.toNatClampNeg 8) x_263.toNatClampNeg r_267) slot.toInt.toNat).toInt ≠ 0 → rt.toInt = rt.toInt) ∧ (((upd (upd fi slot.toNatClampNeg 8) x_263.toNatClampNeg r_267) slot.toInt.toNat).toInt = 3 → ru.toInt = ru.toInt + 1) ∧ (((upd (upd fi slot.toNatClampNeg 8) x_263.toNatClampNeg r_267) slot.toInt.toNat).toInt ≠ 3 → ru.toInt = ru.toInt)) from by (intro h; exfalso; omega)), trivial⟩, zRet ht hP hD [1, 2, 0] (by decide) rfl⟩, hS.F ht⟩) hS.2.2 dX3_readItem_75
    · have kc9 : (9 : Int32).toInt = 9 := by decide
      refine lv_aload_n hx hb dX3_readItem_11 rfl (lv_at hl 1 rfl) ?_
      refine va_get (D := D) (ci := 3) (v := .ref ri) (C := RX3) (T := TX3) (N := 8) hx hb hts hi_X3_readItem_3 hown hK hP 1 rfl rfl 0 (by decide) (hts (.fieldLink RX3 11 "TheLiningsInIt$Reader" "items" "[I") (List.mem_of_getElem? (i := 1) rfl)) (fun _ h9 => h9) rfl dX3_readItem_12 ?_
      refine lv_iload_n hx hb dX3_readItem_15 rfl (lv_at hl 2 rfl) ?_
      refine lv_iload_n hx hb dX3_readItem_16 rfl (lv_at hl 0 rfl) ?_
      refine va_iast hx hb hK hP hD hS 0 0 rfl rfl (zf_in (by omega) (by omega)) dX3_readItem_17 (fun H locs hP hD hS => ?_)
      have h9R := zRe (ws' := [(ri, .inl (cI, 132, .inl (upd fi slot.toNatClampNeg 9))), (rd, .inr (3, [.ref ri, .ref rl, .int rz, .int rc, .int q_3, .int q_4, .int rt, .int ru])), (rl, .inl (cI, 160, .inl fl))]) hP hD rfl
      clear hP hD
      obtain ⟨hP, hD⟩ := h9R
      refine lv_iconst (v := 0) hx hb dX3_readItem_18 (by decide) ?_
      refine lv_istore_n (lv' := [(3, .int 0), (2, .int 9), (0, .ref rd), (1, .int slot)]) hx hb dX3_readItem_19 rfl hl (by decide) rfl (fun ls hl => ?_)
      refine lv_iload_n hx hb dX3_readItem_20 rfl (lv_at hl 0 rfl) ?_
      refine lv_iload_n hx hb dX3_readItem_21 rfl (lv_at hl 1 rfl) ?_
      refine zc_S (As := [.int 9]) (rest := [.int 0]) ⟨hx, hb, hml, hown, hts⟩ (c_R_numbersOf_9 l D cI cJ cZ cP cS po  ) (va_cwS 1 hts gX3_readItem_X3_numbersOf rfl rfl rfl dh_X3_numbersOf ⟨Nat.le_of_ble_eq_true rfl, Nat.le_of_ble_eq_true rfl⟩) hK hN (hZ.kept hS) rfl hl.1 rfl (Nat.le_of_ble_eq_true rfl) dX3_readItem_22 ⟨Nat.le_of_ble_eq_true rfl, Nat.le_of_ble_eq_true rfl⟩ (fun r_297 hr_297 => ?_)
      obtain rfl := hr_297
      refine lv_icmp_ge (tgt := 82) hx hb dX3_readItem_25 (by decide) (fun c_298 => ?_) (fun c_298 => ?_)
      · exact absurd c_298 (by decide)
      · refine lv_aload_n hx hb dX3_readItem_28 rfl (lv_at hl 2 rfl) ?_
        refine lv_bipush (v := 32) hx hb dX3_readItem_29 (by decide) ?_
        have kc32 : (32 : Int32).toInt = 32 := by decide
        skip
        refine zw_Vv (As := [.int 32]) (rest := []) (wr := [(ri, .inl (cI, 132, .inl (upd fi slot.toNatClampNeg 9)))]) ⟨hx, hb, hml, hown, hts⟩ (c_F_R_expect l D cI cJ cZ cP cS po rd ri rl (rz) (rc) (q_3) (q_4) (rt) (ru) fl (32) hy0 hy1 hy2 hy3 hbq_3.1 hbq_3.2 (by omega) hbq_4.1 hbq_4.2 hy9 hy10 hy11 hy12 H.size) (cwV 1 hts gX3_readItem_X3_expect rfl rfl rfl ⟨rfl, dh_X3_expect⟩ ⟨Nat.le_of_ble_eq_true rfl, Nat.le_of_ble_eq_true rfl⟩) hK hN (hZ.kept hS) hP hD hS hA [1, 2] [0] rfl rfl (by decide) (by decide) (by decide) (va_recv (q := (RX3, TX3, 8)) hK hP (ci := 3) (q0 := 1) rfl rfl) rfl hl.1 rfl (Nat.le_of_ble_eq_true rfl) dX3_readItem_31 ⟨Nat.le_of_ble_eq_true rfl, Nat.le_of_ble_eq_true rfl⟩ (fun u_300 H locs hr_299 hP hD hS => ?_)
        obtain ⟨q_301, q_302⟩ := u_300
        try dsimp only at hr_299
        obtain ⟨hbq_301, hbq_302, hsr_299_0, hsr_299_1, hr_299⟩ := hr_299
        have h9R := zRe (ws' := [(ri, .inl (cI, 132, .inl (upd fi slot.toNatClampNeg 9))), (rd, .inr (3, [.ref ri, .ref rl, .int rz, .int rc, .int q_301, .int q_302, .int rt, .int ru])), (rl, .inl (cI, 160, .inl fl))]) hP hD rfl
        clear hP hD
        obtain ⟨hP, hD⟩ := h9R
        refine lv_aload_n hx hb dX3_readItem_34 rfl (lv_at hl 2 rfl) ?_
        refine va_get (D := D) (ci := 3) (v := .int q_302) (C := RX3) (T := TX3) (N := 8) hx hb hts hi_X3_readItem_3 hown hK hP 1 rfl rfl 5 (by decide) (hts (.fieldLink RX3 28 "TheLiningsInIt$Reader" "fault" "I") (List.mem_of_getElem? (i := 2) rfl)) (fun _ h9 => h9) rfl dX3_readItem_35 ?_
        refine lv_iconst (v := (-1)) hx hb dX3_readItem_38 (by decide) ?_
        refine lv_icmp_ne (tgt := 67) hx hb dX3_readItem_39 (by decide) (fun c_303 => ?_) (fun c_303 => ?_)
        · have fc_303 : q_302.toInt ≠ (-1) := zf_ne c_303 rfl (by decide)
          have hn0 : zN1 fl rz.toInt (q_3 : Int32).toInt (zLo 9 0) (zHi 9 0 rt.toInt) = ((q_3 : Int32).toInt, (q_3 : Int32).toInt, 0) := zN1_no (by omega)
          refine lv_aload_n hx hb dX3_readItem_67 rfl (lv_at hl 2 rfl) ?_
          refine va_get (D := D) (ci := 3) (v := .int q_302) (C := RX3) (T := TX3) (N := 8) hx hb hts hi_X3_readItem_3 hown hK hP 1 rfl rfl 5 (by decide) (hts (.fieldLink RX3 28 "TheLiningsInIt$Reader" "fault" "I") (List.mem_of_getElem? (i := 2) rfl)) (fun _ h9 => h9) rfl dX3_readItem_68 ?_
          refine lv_iconst (v := (-1)) hx hb dX3_readItem_71 (by decide) ?_
          refine lv_icmp_eq (tgt := 76) hx hb dX3_readItem_72 (by decide) (fun c_304 => ?_) (fun c_304 => ?_)
          · exfalso; have fc_304 : q_302.toInt = (-1) := zf_eq c_304 rfl (by decide); omega
          · have fc_304 : q_302.toInt ≠ (-1) := zf_ne c_304 rfl (by decide)
            have e0 : slot.toNatClampNeg = slot.toInt.toNat + 0 := (by show (slot : Int32).toInt.toNat = _; omega)
            have hI := zIn_a hn0 (by first | (right; decide) | (left; omega))
            exact W.vret hx hb hr (fun t ht hW => ⟨⟨(q_301, q_302, rt, ru, (upd fi slot.toNatClampNeg 9)), rfl, ⟨(show 0 ≤ q_301.toInt ∧ q_301.toInt ≤ 160 from hbq_301), (show (-1) ≤ q_302.toInt ∧ q_302.toInt ≤ 160 from hbq_302), (show 0 ≤ rt.toInt ∧ rt.toInt ≤ 40 from ⟨hy9, hy10⟩), (show 0 ≤ ru.toInt ∧ ru.toInt ≤ 8 from ⟨hy11, hy12⟩), (show q_301.toInt ≤ rz.toInt from by omega), (show (q_302.toInt = -1 → zIt (upd fi slot.toNatClampNeg 9) slot.toInt.toNat) from by (intro h; exfalso; omega)), (show (∀ j : Nat, j < slot.toInt.toNat → (upd fi slot.toNatClampNeg 9) j = fi j) from by (intro j hj; simp only [upd]; rw [if_neg (by omega)])), (show (q_302.toInt = (zItem fl rz.toInt rp.toInt rt.toInt ru.toInt).1 ∧ (q_302.toInt = -1 → q_301.toInt = (zItem fl rz.toInt rp.toInt rt.toInt ru.toInt).2.1 ∧ rt.toInt = (zItem fl rz.toInt rp.toInt rt.toInt ru.toInt).2.2.1 ∧ ru.toInt = (zItem fl rz.toInt rp.toInt rt.toInt ru.toInt).2.2.2)) from by (have z9 := hsr_1_1; rw [kc9] at z9; have hq : zFst fl rz.toInt rp.toInt zWds 10 = 9 ∧ ¬ ((9 : Int) = 3 ∧ ru.toInt = 8) := (by omega); have hl9 : (q_3 : Int32).toInt = rp.toInt + ((zWds ((9 : Int)).toNat).length : Nat) := (by omega); rw [zItem_w hq.1 (by decide) hq.2 hl9 hI]; dsimp only; exact ⟨by (first | rfl | omega), fun h => ⟨by (first | rfl | omega), by (show _ = (if (9 : Int) = 0 then _ else _); rw [if_neg (by decide)]), by (show _ = (if (9 : Int) = 3 then _ else _); rw [if_neg (by decide)])⟩⟩)), (show (q_302.toInt = -1 → (((upd fi slot.toNatClampNeg 9) slot.toInt.toNat).toInt = 0 → rt.toInt = ((upd fi slot.toNatClampNeg 9) (slot.toInt.toNat + 1)).toInt) ∧ (((upd fi slot.toNatClampNeg 9) slot.toInt.toNat).toInt ≠ 0 → rt.toInt = rt.toInt) ∧ (((upd fi slot.toNatClampNeg 9) slot.toInt.toNat).toInt = 3 → ru.toInt = ru.toInt + 1) ∧ (((upd fi slot.toNatClampNeg 9) slot.toInt.toNat).toInt ≠ 3 → ru.toInt = ru.toInt)) from by (intro h; exfalso; omega)), trivial⟩, zRet ht hP hD [1, 2, 0] (by decide) rfl⟩, hS.F ht⟩) hS.2.2 dX3_readItem_75
        · have fc_303 : q_302.toInt = (-1) := zf_eq c_303 rfl (by decide)
          refine lv_aload_n hx hb dX3_readItem_42 rfl (lv_at hl 2 rfl) ?_
          refine va_get (D := D) (ci := 3) (v := .ref ri) (C := RX3) (T := TX3) (N := 8) hx hb hts hi_X3_readItem_3 hown hK hP 1 rfl rfl 0 (by decide) (hts (.fieldLink RX3 11 "TheLiningsInIt$Reader" "items" "[I") (List.mem_of_getElem? (i := 1) rfl)) (fun _ h9 => h9) rfl dX3_readItem_43 ?_
          refine lv_iload_n hx hb dX3_readItem_46 rfl (lv_at hl 3 rfl) ?_
          refine lv_iconst (v := 1) hx hb dX3_readItem_47 (by decide) ?_
          refine lv_iadd hx hb dX3_readItem_48 ?_
          refine lv_topi (fun x_305 ex_305 => ?_)
          have qx_305 : x_305.toInt = slot.toInt + 1 := by rw [ex_305]; exact zf_add rfl (by decide) (by omega) (by omega)
          refine lv_iload_n hx hb dX3_readItem_49 rfl (lv_at hl 0 rfl) ?_
          refine lv_iadd hx hb dX3_readItem_50 ?_
          refine lv_topi (fun y_306 ey_306 => ?_)
          obtain rfl : x_305 = y_306 := (ey_306.trans (Int32.add_zero x_305)).symm
          refine lv_aload_n hx hb dX3_readItem_51 rfl (lv_at hl 2 rfl) ?_
          refine lv_iload_n hx hb dX3_readItem_52 rfl (lv_at hl 1 rfl) ?_
          refine lv_iload_n hx hb dX3_readItem_53 rfl (lv_at hl 0 rfl) ?_
          refine zc_S (As := [.int 9, .int 0]) (rest := [.ref rd, .int x_305, .ref ri]) ⟨hx, hb, hml, hown, hts⟩ (c_R_leastOf_9_0 l D cI cJ cZ cP cS po  ) (va_cwS 2 hts gX3_readItem_X3_leastOf rfl rfl rfl dh_X3_leastOf ⟨Nat.le_of_ble_eq_true rfl, Nat.le_of_ble_eq_true rfl⟩) hK hN (hZ.kept hS) rfl hl.1 rfl (Nat.le_of_ble_eq_true rfl) dX3_readItem_54 ⟨Nat.le_of_ble_eq_true rfl, Nat.le_of_ble_eq_true rfl⟩ (fun r_307 hr_307 => ?_)
          obtain rfl := hr_307
          refine lv_aload_n hx hb dX3_readItem_57 rfl (lv_at hl 2 rfl) ?_
          refine lv_iload_n hx hb dX3_readItem_58 rfl (lv_at hl 1 rfl) ?_
          refine lv_iload_n hx hb dX3_readItem_59 rfl (lv_at hl 0 rfl) ?_
          refine zc_V (As := [.int 9, .int 0]) (rest := [.int 0, .ref rd, .int x_305, .ref ri]) ⟨hx, hb, hml, hown, hts⟩ (c_R_mostOf_9_0 l D cI cJ cZ cP cS po rd ri rl (rz) (rc) (q_301) (q_302) (rt) (ru) hy0 hy1 hy2 hy3 hbq_301.1 hbq_301.2 (by omega) hbq_302.1 hbq_302.2 hy9 hy10 hy11 hy12) (cwV 2 hts gX3_readItem_X3_mostOf rfl rfl rfl ⟨rfl, dh_X3_mostOf⟩ ⟨Nat.le_of_ble_eq_true rfl, Nat.le_of_ble_eq_true rfl⟩) hK hN (hZ.kept hS) hP (hP.sub [1] rfl) (va_recv (q := (RX3, TX3, 8)) hK hP (ci := 3) (q0 := 1) rfl rfl) rfl hl.1 rfl (Nat.le_of_ble_eq_true rfl) dX3_readItem_60 ⟨Nat.le_of_ble_eq_true rfl, Nat.le_of_ble_eq_true rfl⟩ (fun r_308 hr_308 => ?_)
          obtain ⟨g_309, g_310, hsr_308_0⟩ := hr_308
          have kc0 : (0 : Int32).toInt = 0 := by decide
          skip
          refine zw_V (As := [.int 0, .int r_308]) (rest := [.int x_305, .ref ri]) (wr := [(ri, .inl (cI, 132, .inl (upd fi slot.toNatClampNeg 9)))]) ⟨hx, hb, hml, hown, hts⟩ (c_F_R_readNumber l D cI cJ cZ cP cS po rd ri rl (rz) (rc) (q_301) (q_302) (rt) (ru) fl (0) (r_308) hy0 hy1 hy2 hy3 hbq_301.1 hbq_301.2 (by omega) hbq_302.1 hbq_302.2 hy9 hy10 hy11 hy12 H.size) (cwV 2 hts gX3_readItem_X3_readNumber rfl rfl rfl ⟨rfl, dh_X3_readNumber⟩ ⟨Nat.le_of_ble_eq_true rfl, Nat.le_of_ble_eq_true rfl⟩) hK hN (hZ.kept hS) hP hD hS hA [1, 2] [0] rfl rfl (by decide) (by decide) (by decide) (va_recv (q := (RX3, TX3, 8)) hK hP (ci := 3) (q0 := 1) rfl rfl) rfl hl.1 rfl (Nat.le_of_ble_eq_true rfl) dX3_readItem_63 ⟨Nat.le_of_ble_eq_true rfl, Nat.le_of_ble_eq_true rfl⟩ (fun r_311 u_312 H locs hr_311 hP hD hS => ?_)
          obtain ⟨q_313, q_314⟩ := u_312
          try dsimp only at hr_311
          obtain ⟨hbq_313, hbq_314, hsr_311_0, hsr_311_1, hsr_311_2, hsr_311_3, hr_311⟩ := hr_311
          have h9R := zRe (ws' := [(ri, .inl (cI, 132, .inl (upd fi slot.toNatClampNeg 9))), (rd, .inr (3, [.ref ri, .ref rl, .int rz, .int rc, .int q_313, .int q_314, .int rt, .int ru])), (rl, .inl (cI, 160, .inl fl))]) hP hD rfl
          clear hP hD
          obtain ⟨hP, hD⟩ := h9R
          obtain ⟨g_315, g_316⟩ := hr_311
          refine va_iast hx hb hK hP hD hS 0 0 rfl rfl (zf_in (by omega) (by omega)) dX3_readItem_66 (fun H locs hP hD hS => ?_)
          have h9R := zRe (ws' := [(ri, .inl (cI, 132, .inl (upd (upd fi slot.toNatClampNeg 9) x_305.toNatClampNeg r_311))), (rd, .inr (3, [.ref ri, .ref rl, .int rz, .int rc, .int q_313, .int q_314, .int rt, .int ru])), (rl, .inl (cI, 160, .inl fl))]) hP hD rfl
          clear hP hD
          obtain ⟨hP, hD⟩ := h9R
          have hn0 : zN1 fl rz.toInt (q_3 : Int32).toInt (zLo 9 0) (zHi 9 0 rt.toInt) = ((q_314 : Int32).toInt, (q_313 : Int32).toInt, r_311.toInt) := zN1_yes (p1 := (q_301 : Int32).toInt) (lo2 := ((0 : Int32)).toInt) (hi2 := ((r_308 : Int32)).toInt) (by omega) (by omega) hsr_311_1 hsr_311_2 (by first | decide | (show (0 : Int) = _; omega)) (by first | decide | (show rt.toInt - 1 = _; omega) | (show rt.toInt = _; omega)) (by omega)
          refine lv_aload_n hx hb dX3_readItem_67 rfl (lv_at hl 2 rfl) ?_
          refine va_get (D := D) (ci := 3) (v := .int q_314) (C := RX3) (T := TX3) (N := 8) hx hb hts hi_X3_readItem_3 hown hK hP 1 rfl rfl 5 (by decide) (hts (.fieldLink RX3 28 "TheLiningsInIt$Reader" "fault" "I") (List.mem_of_getElem? (i := 2) rfl)) (fun _ h9 => h9) rfl dX3_readItem_68 ?_
          refine lv_iconst (v := (-1)) hx hb dX3_readItem_71 (by decide) ?_
          refine lv_icmp_eq (tgt := 76) hx hb dX3_readItem_72 (by decide) (fun c_317 => ?_) (fun c_317 => ?_)
          · have fc_317 : q_314.toInt = (-1) := zf_eq c_317 rfl (by decide)
            refine lv_iinc (v := 1) (lv' := [(3, .int 1), (2, .int 9), (0, .ref rd), (1, .int slot)]) hx hb dX3_readItem_76 hl (k := 0) rfl (by decide) (by decide) rfl (fun ls hl => ?_)
            refine lv_goto (tgt := 20) hx hb dX3_readItem_79 (by decide) ?_
            refine lv_iload_n hx hb dX3_readItem_20 rfl (lv_at hl 0 rfl) ?_
            refine lv_iload_n hx hb dX3_readItem_21 rfl (lv_at hl 1 rfl) ?_
            refine zc_S (As := [.int 9]) (rest := [.int 1]) ⟨hx, hb, hml, hown, hts⟩ (c_R_numbersOf_9 l D cI cJ cZ cP cS po  ) (va_cwS 1 hts gX3_readItem_X3_numbersOf rfl rfl rfl dh_X3_numbersOf ⟨Nat.le_of_ble_eq_true rfl, Nat.le_of_ble_eq_true rfl⟩) hK hN (hZ.kept hS) rfl hl.1 rfl (Nat.le_of_ble_eq_true rfl) dX3_readItem_22 ⟨Nat.le_of_ble_eq_true rfl, Nat.le_of_ble_eq_true rfl⟩ (fun r_318 hr_318 => ?_)
            obtain rfl := hr_318
            refine lv_icmp_ge (tgt := 82) hx hb dX3_readItem_25 (by decide) (fun c_319 => ?_) (fun c_319 => ?_)
            · refine lv_iload_n hx hb dX3_readItem_82 rfl (lv_at hl 1 rfl) ?_
              refine lv_if_ne (tgt := 101) hx hb dX3_readItem_83 (by decide) (fun c_320 => ?_) (fun c_320 => ?_)
              · refine lv_iload_n hx hb dX3_readItem_101 rfl (lv_at hl 1 rfl) ?_
                refine lv_iconst (v := 3) hx hb dX3_readItem_102 (by decide) ?_
                refine lv_icmp_ne (tgt := 116) hx hb dX3_readItem_103 (by decide) (fun c_321 => ?_) (fun c_321 => ?_)
                · have e0 : slot.toNatClampNeg = slot.toInt.toNat + 0 := (by show (slot : Int32).toInt.toNat = _; omega)
                  have e1 : x_305.toNatClampNeg = slot.toInt.toNat + 1 := (by show (x_305 : Int32).toInt.toNat = _; omega)
                  have hI := zIn_a hn0 (by first | (right; decide) | (left; omega))
                  exact W.vret hx hb hr (fun t ht hW => ⟨⟨(q_313, q_314, rt, ru, (upd (upd fi slot.toNatClampNeg 9) x_305.toNatClampNeg r_311)), rfl, ⟨(show 0 ≤ q_313.toInt ∧ q_313.toInt ≤ 160 from hbq_313), (show (-1) ≤ q_314.toInt ∧ q_314.toInt ≤ 160 from hbq_314), (show 0 ≤ rt.toInt ∧ rt.toInt ≤ 40 from ⟨hy9, hy10⟩), (show 0 ≤ ru.toInt ∧ ru.toInt ≤ 8 from ⟨hy11, hy12⟩), (show q_313.toInt ≤ rz.toInt from by omega), (show (q_314.toInt = -1 → zIt (upd (upd fi slot.toNatClampNeg 9) x_305.toNatClampNeg r_311) slot.toInt.toNat) from by (intro h; have k3 : (9 : Int32).toInt = 9 := (by decide); exact zIt_mk (by simp only [upd]; rw [if_neg (by omega), if_pos (by omega)]) (by simp only [upd]; rw [if_pos (by omega)]) (rfl) (rfl) (by unfold zItv; refine ⟨?_, ?_, ?_, ?_, ?_, ?_, ?_, ?_, ?_, ?_, ?_⟩ <;> (intros; omega)))), (show (∀ j : Nat, j < slot.toInt.toNat → (upd (upd fi slot.toNatClampNeg 9) x_305.toNatClampNeg r_311) j = fi j) from by (intro j hj; simp only [upd]; rw [if_neg (by omega), if_neg (by omega)])), (show (q_314.toInt = (zItem fl rz.toInt rp.toInt rt.toInt ru.toInt).1 ∧ (q_314.toInt = -1 → q_313.toInt = (zItem fl rz.toInt rp.toInt rt.toInt ru.toInt).2.1 ∧ rt.toInt = (zItem fl rz.toInt rp.toInt rt.toInt ru.toInt).2.2.1 ∧ ru.toInt = (zItem fl rz.toInt rp.toInt rt.toInt ru.toInt).2.2.2)) from by (have z9 := hsr_1_1; rw [kc9] at z9; have hq : zFst fl rz.toInt rp.toInt zWds 10 = 9 ∧ ¬ ((9 : Int) = 3 ∧ ru.toInt = 8) := (by omega); have hl9 : (q_3 : Int32).toInt = rp.toInt + ((zWds ((9 : Int)).toNat).length : Nat) := (by omega); rw [zItem_w hq.1 (by decide) hq.2 hl9 hI]; dsimp only; exact ⟨by (first | rfl | omega), fun h => ⟨by (first | rfl | omega), by (show _ = (if (9 : Int) = 0 then _ else _); rw [if_neg (by decide)]), by (show _ = (if (9 : Int) = 3 then _ else _); rw [if_neg (by decide)])⟩⟩)), (show (q_314.toInt = -1 → (((upd (upd fi slot.toNatClampNeg 9) x_305.toNatClampNeg r_311) slot.toInt.toNat).toInt = 0 → rt.toInt = ((upd (upd fi slot.toNatClampNeg 9) x_305.toNatClampNeg r_311) (slot.toInt.toNat + 1)).toInt) ∧ (((upd (upd fi slot.toNatClampNeg 9) x_305.toNatClampNeg r_311) slot.toInt.toNat).toInt ≠ 0 → rt.toInt = rt.toInt) ∧ (((upd (upd fi slot.toNatClampNeg 9) x_305.toNatClampNeg r_311) slot.toInt.toNat).toInt = 3 → ru.toInt = ru.toInt + 1) ∧ (((upd (upd fi slot.toNatClampNeg 9) x_305.toNatClampNeg r_311) slot.toInt.toNat).toInt ≠ 3 → ru.toInt = ru.toInt)) from by (intro h; have g0 : (upd (upd fi slot.toNatClampNeg 9) x_305.toNatClampNeg r_311) slot.toInt.toNat = (9 : Int32) := (by simp only [upd]; rw [if_neg (by omega), if_pos (by omega)]); have g1 : (upd (upd fi slot.toNatClampNeg 9) x_305.toNatClampNeg r_311) (slot.toInt.toNat + 1) = (r_311 : Int32) := (by simp only [upd]; rw [if_pos (by omega)]); rw [g0, g1]; refine ⟨?_, ?_, ?_, ?_⟩ <;> (intro h9; first | rfl | omega | (exfalso; omega)))), trivial⟩, zRet ht hP hD [1, 2, 0] (by decide) rfl⟩, hS.F ht⟩) hS.2.2 dX3_readItem_116
                · exact absurd c_321 (by decide)
              · exact absurd c_320 (by decide)
            · exact absurd c_319 (by decide)
          · have fc_317 : q_314.toInt ≠ (-1) := zf_ne c_317 rfl (by decide)
            have e0 : slot.toNatClampNeg = slot.toInt.toNat + 0 := (by show (slot : Int32).toInt.toNat = _; omega)
            have e1 : x_305.toNatClampNeg = slot.toInt.toNat + 1 := (by show (x_305 : Int32).toInt.toNat = _; omega)
            have hI := zIn_a hn0 (by first | (right; decide) | (left; omega))
            exact W.vret hx hb hr (fun t ht hW => ⟨⟨(q_313, q_314, rt, ru, (upd (upd fi slot.toNatClampNeg 9) x_305.toNatClampNeg r_311)), rfl, ⟨(show 0 ≤ q_313.toInt ∧ q_313.toInt ≤ 160 from hbq_313), (show (-1) ≤ q_314.toInt ∧ q_314.toInt ≤ 160 from hbq_314), (show 0 ≤ rt.toInt ∧ rt.toInt ≤ 40 from ⟨hy9, hy10⟩), (show 0 ≤ ru.toInt ∧ ru.toInt ≤ 8 from ⟨hy11, hy12⟩), (show q_313.toInt ≤ rz.toInt from by omega), (show (q_314.toInt = -1 → zIt (upd (upd fi slot.toNatClampNeg 9) x_305.toNatClampNeg r_311) slot.toInt.toNat) from by (intro h; exfalso; omega)), (show (∀ j : Nat, j < slot.toInt.toNat → (upd (upd fi slot.toNatClampNeg 9) x_305.toNatClampNeg r_311) j = fi j) from by (intro j hj; simp only [upd]; rw [if_neg (by omega), if_neg (by omega)])), (show (q_314.toInt = (zItem fl rz.toInt rp.toInt rt.toInt ru.toInt).1 ∧ (q_314.toInt = -1 → q_313.toInt = (zItem fl rz.toInt rp.toInt rt.toInt ru.toInt).2.1 ∧ rt.toInt = (zItem fl rz.toInt rp.toInt rt.toInt ru.toInt).2.2.1 ∧ ru.toInt = (zItem fl rz.toInt rp.toInt rt.toInt ru.toInt).2.2.2)) from by (have z9 := hsr_1_1; rw [kc9] at z9; have hq : zFst fl rz.toInt rp.toInt zWds 10 = 9 ∧ ¬ ((9 : Int) = 3 ∧ ru.toInt = 8) := (by omega); have hl9 : (q_3 : Int32).toInt = rp.toInt + ((zWds ((9 : Int)).toNat).length : Nat) := (by omega); rw [zItem_w hq.1 (by decide) hq.2 hl9 hI]; dsimp only; exact ⟨by (first | rfl | omega), fun h => ⟨by (first | rfl | omega), by (show _ = (if (9 : Int) = 0 then _ else _); rw [if_neg (by decide)]), by (show _ = (if (9 : Int) = 3 then _ else _); rw [if_neg (by decide)])⟩⟩)), (show (q_314.toInt = -1 → (((upd (upd fi slot.toNatClampNeg 9) x_305.toNatClampNeg r_311) slot.toInt.toNat).toInt = 0 → rt.toInt = ((upd (upd fi slot.toNatClampNeg 9) x_305.toNatClampNeg r_311) (slot.toInt.toNat + 1)).toInt) ∧ (((upd (upd fi slot.toNatClampNeg 9) x_305.toNatClampNeg r_311) slot.toInt.toNat).toInt ≠ 0 → rt.toInt = rt.toInt) ∧ (((upd (upd fi slot.toNatClampNeg 9) x_305.toNatClampNeg r_311) slot.toInt.toNat).toInt = 3 → ru.toInt = ru.toInt + 1) ∧ (((upd (upd fi slot.toNatClampNeg 9) x_305.toNatClampNeg r_311) slot.toInt.toNat).toInt ≠ 3 → ru.toInt = ru.toInt)) from by (intro h; exfalso; omega)), trivial⟩, zRet ht hP hD [1, 2, 0] (by decide) rfl⟩, hS.F ht⟩) hS.2.2 dX3_readItem_75
  · have fc_7 : r_1.toInt = (-1) := zf_eq c_7 rfl (by decide)
    exact W.vret hx hb hr (fun t ht hW => ⟨⟨(q_3, q_4, rt, ru, fi), rfl, ⟨(show 0 ≤ q_3.toInt ∧ q_3.toInt ≤ 160 from hbq_3), (show (-1) ≤ q_4.toInt ∧ q_4.toInt ≤ 160 from hbq_4), (show 0 ≤ rt.toInt ∧ rt.toInt ≤ 40 from ⟨hy9, hy10⟩), (show 0 ≤ ru.toInt ∧ ru.toInt ≤ 8 from ⟨hy11, hy12⟩), (show q_3.toInt ≤ rz.toInt from by omega), (show (q_4.toInt = -1 → zIt fi slot.toInt.toNat) from by intro h; exfalso; omega), (show (∀ j : Nat, j < slot.toInt.toNat → fi j = fi j) from by exact fun _ _ => rfl), (show (q_4.toInt = (zItem fl rz.toInt rp.toInt rt.toInt ru.toInt).1 ∧ (q_4.toInt = -1 → q_3.toInt = (zItem fl rz.toInt rp.toInt rt.toInt ru.toInt).2.1 ∧ rt.toInt = (zItem fl rz.toInt rp.toInt rt.toInt ru.toInt).2.2.1 ∧ ru.toInt = (zItem fl rz.toInt rp.toInt rt.toInt ru.toInt).2.2.2)) from by (rcases hsr_1_1 with ⟨h1, h2, h3⟩ | ⟨h1, h2, h3, h4⟩ | ⟨h1, h2, h3⟩ <;> first | (rw [zItem_none h1]; dsimp only; exact ⟨by omega, fun h => by (exfalso; omega)⟩) | (rw [zItem_room h1 h2]; dsimp only; exact ⟨by omega, fun h => by (exfalso; omega)⟩) | (exfalso; omega))), (show (q_4.toInt = -1 → ((fi slot.toInt.toNat).toInt = 0 → rt.toInt = (fi (slot.toInt.toNat + 1)).toInt) ∧ ((fi slot.toInt.toNat).toInt ≠ 0 → rt.toInt = rt.toInt) ∧ ((fi slot.toInt.toNat).toInt = 3 → ru.toInt = ru.toInt + 1) ∧ ((fi slot.toInt.toNat).toInt ≠ 3 → ru.toInt = ru.toInt)) from by (intro h; exfalso; omega)), trivial⟩, zRet ht hP hD [1, 2, 0] (by decide) rfl⟩, hS.F ht⟩) hS.2.2 dX3_readItem_10
end
section
set_option maxHeartbeats 4000000 in
set_option maxRecDepth 100000 in
theorem c_F_Sh_tells (l : Launch) (D : va_G) (cI cJ cZ cP cS : ClassId) (po : zPool) (h0 e0 : Nat) (he si : Int32) (fe : Nat → Int64) (i : Int32) (hy0 : (-1) ≤ he.toInt) (hy1 : he.toInt ≤ 103) (hy2 : 0 ≤ si.toInt) (hy3 : si.toInt ≤ 160) : Met l yX4_tells wsX4_tells ({ frames := 1, cells := 0, slots := 0, locals := 22 }) (va_Pc [.ref h0, .int i] (zR D (zKT cI cJ cZ cP cS) po [(h0, .inr (4, [.ref e0, .int he, .int si])), (e0, .inl (cJ, 160, .inr (.inl fe)))])) (vp_Si (fun r => ((0 ≤ i.toInt → i.toInt < si.toInt → r = (fe i.toNatClampNeg).toInt32)))) 0 0 (fun _ => False) := by
  refine Met.ofW (cc := cX4_tells) (maxL := 2) (ret := (some .int)) (by decide) rfl ?_
  intro p e s m args below meth c s₁ B hml hv
  obtain ⟨rfl, hP, hK, hN, hZ⟩ := hv
  have hx := B.exec
  have hb := B.bytes
  have hr := B.returns
  have hts := atoms_spec (ws := wsX4_tells) B.pre
  have hown : s.vm.findClass RX4 = some m.cls := findClass_of_methodNamed B.named
  have hlocks := B.notSynchronized
  have hl := lv_entry ([.ref h0, .int i]) (n := 2) (Nat.le_of_ble_eq_true rfl)
  rw [lg_entry_eq]
  generalize (lg_sl ([.ref h0, .int i]) ++ List.replicate (2 - (lg_sl ([.ref h0, .int i])).length) Slot.unset).toArray = ls at hl ⊢
  replace hl : lv_has ls 2 [(0, .ref h0), (1, .int i)] := hl
  refine lv_aload_n hx hb dX4_tells_0 rfl (lv_at hl 0 rfl) ?_
  refine lv_iload_n hx hb dX4_tells_1 rfl (lv_at hl 1 rfl) ?_
  refine lv_iconst (v := 1) hx hb dX4_tells_2 (by decide) ?_
  have kc1 : (1 : Int32).toInt = 1 := by decide
  refine zc_V (As := [.int i, .int 1]) (rest := []) ⟨hx, hb, hml, hown, hts⟩ (c_Sh_hasSpan l D cI cJ cZ cP cS po h0 e0 (he) (si) (i) (1) hy0 hy1 hy2 hy3) (cwV 2 hts gX4_tells_X4_hasSpan rfl rfl rfl ⟨rfl, dh_X4_hasSpan⟩ ⟨Nat.le_of_ble_eq_true rfl, Nat.le_of_ble_eq_true rfl⟩) hK hN hZ hP (hP.sub [0] rfl) (va_recv (q := (RX4, TX4, 3)) hK hP (ci := 4) (q0 := 0) rfl rfl) rfl hl.1 rfl (Nat.le_of_ble_eq_true rfl) dX4_tells_3 ⟨Nat.le_of_ble_eq_true rfl, Nat.le_of_ble_eq_true rfl⟩ (fun r_1 hr_1 => ?_)
  rcases hr_1 with ⟨rfl, g_2⟩ | ⟨rfl, g_3, g_4⟩ | ⟨rfl, g_5, g_6, g_7⟩ | ⟨rfl, g_8, g_9, g_10, g_11⟩ | ⟨rfl, g_12, g_13, g_14, g_15⟩
  · refine lv_if_eq (tgt := 19) hx hb dX4_tells_6 (by decide) (fun c_16 => ?_) (fun c_16 => ?_)
    · refine lv_iconst (v := 0) hx hb dX4_tells_19 (by decide) ?_
      exact W.iret (v := 0) hx hb hr (fun t ht hW => ⟨0, rfl, (show (0 ≤ i.toInt → i.toInt < si.toInt → (0 : Int32) = (fe i.toNatClampNeg).toInt32) from by (intro h1 h2; exfalso; omega)), ht⟩) (fun q hq => by cases hq) dX4_tells_20
    · exact absurd c_16 (by decide)
  · exfalso; omega
  · refine lv_if_eq (tgt := 19) hx hb dX4_tells_6 (by decide) (fun c_17 => ?_) (fun c_17 => ?_)
    · refine lv_iconst (v := 0) hx hb dX4_tells_19 (by decide) ?_
      exact W.iret (v := 0) hx hb hr (fun t ht hW => ⟨0, rfl, (show (0 ≤ i.toInt → i.toInt < si.toInt → (0 : Int32) = (fe i.toNatClampNeg).toInt32) from by (intro h1 h2; exfalso; omega)), ht⟩) (fun q hq => by cases hq) dX4_tells_20
    · exact absurd c_17 (by decide)
  · refine lv_if_eq (tgt := 19) hx hb dX4_tells_6 (by decide) (fun c_18 => ?_) (fun c_18 => ?_)
    · refine lv_iconst (v := 0) hx hb dX4_tells_19 (by decide) ?_
      exact W.iret (v := 0) hx hb hr (fun t ht hW => ⟨0, rfl, (show (0 ≤ i.toInt → i.toInt < si.toInt → (0 : Int32) = (fe i.toNatClampNeg).toInt32) from by (intro h1 h2; exfalso; omega)), ht⟩) (fun q hq => by cases hq) dX4_tells_20
    · exact absurd c_18 (by decide)
  · refine lv_if_eq (tgt := 19) hx hb dX4_tells_6 (by decide) (fun c_19 => ?_) (fun c_19 => ?_)
    · exact absurd c_19 (by decide)
    · refine lv_aload_n hx hb dX4_tells_9 rfl (lv_at hl 0 rfl) ?_
      refine va_get (D := D) (ci := 4) (v := .ref e0) (C := RX4) (T := TX4) (N := 3) hx hb hts hi_X4_tells_4 hown hK hP 0 rfl rfl 0 (by decide) (hts (.fieldLink RX4 9 "TheLiningsInIt$Shelf" "elements" "[J") (List.mem_of_getElem? (i := 1) rfl)) (fun _ h9 => h9) rfl dX4_tells_10 ?_
      refine lv_iload_n hx hb dX4_tells_13 rfl (lv_at hl 1 rfl) ?_
      refine va_lald hx hb hK hP 1 1 rfl rfl (zf_in (by omega) (by omega)) dX4_tells_14 ?_
      refine lv_topl (fun x_20 ex_20 => ?_)
      refine lv_l2i hx hb dX4_tells_15 rfl ?_
      refine lv_topi (fun x_21 ex_21 => ?_)
      refine lv_goto (tgt := 20) hx hb dX4_tells_16 (by decide) ?_
      exact W.iret (v := x_21) hx hb hr (fun t ht hW => ⟨x_21, rfl, (show (0 ≤ i.toInt → i.toInt < si.toInt → (x_21 : Int32) = (fe i.toNatClampNeg).toInt32) from by (intro _ _; rw [ex_21, ex_20])), ht⟩) (fun q hq => by cases hq) dX4_tells_20
set_option maxHeartbeats 4000000 in
set_option maxRecDepth 100000 in
theorem c_F_R_takeLetters (l : Launch) (D : va_G) (cI cJ cZ cP cS : ClassId) (po : zPool) (rd ri rl : Nat) (rz rc rp rf rt ru : Int32) (fl : Nat → Int32) (h0 e0 : Nat) (he si : Int32) (fe : Nat → Int64) (hy0 : 0 ≤ rz.toInt) (hy1 : rz.toInt ≤ 160) (hy2 : 0 ≤ rc.toInt) (hy3 : rc.toInt ≤ 40) (hy4 : 0 ≤ rp.toInt) (hy5 : rp.toInt ≤ 160) (hy6 : rp.toInt ≤ rz.toInt) (hy7 : (-1) ≤ rf.toInt) (hy8 : rf.toInt ≤ 160) (hy9 : 0 ≤ rt.toInt) (hy10 : rt.toInt ≤ 40) (hy11 : 0 ≤ ru.toInt) (hy12 : ru.toInt ≤ 8) (hy13 : (-1) ≤ he.toInt) (hy14 : he.toInt ≤ 103) (hy15 : 0 ≤ si.toInt) (hy16 : si.toInt ≤ 160) (hpz : Nat) : Met l yX3_takeLetters wsX3_takeLetters ({ frames := 2, cells := 0, slots := 0, locals := 43 }) (va_Pc [.ref rd, .ref h0] (zW D (zKT cI cJ cZ cP cS) po [(rd, .inr (3, [.ref ri, .ref rl, .int rz, .int rc, .int rp, .int rf, .int rt, .int ru])), (rl, .inl (cI, 160, .inl fl)), (h0, .inr (4, [.ref e0, .int he, .int si])), (e0, .inl (cJ, 160, .inr (.inl fe)))] hpz)) (va_Qv (fun (u : (Int32) × (Nat → Int32)) => (0 ≤ u.1.toInt ∧ u.1.toInt ≤ 160) ∧ (u.1.toInt = si.toInt) ∧ ((∀ j : Nat, (j : Int) < u.1.toInt → u.2 j = (fe j).toInt32)) ∧ (True)) (zB D [(rd, .inr (3, [.ref ri, .ref rl, .int rz, .int rc, .int rp, .int rf, .int rt, .int ru])), (rl, .inl (cI, 160, .inl fl)), (h0, .inr (4, [.ref e0, .int he, .int si])), (e0, .inl (cJ, 160, .inr (.inl fe)))] hpz (fun (u : (Int32) × (Nat → Int32)) => [(rd, .inr (3, [.ref ri, .ref rl, .int u.1, .int rc, .int rp, .int rf, .int rt, .int ru])), (rl, .inl (cI, 160, .inl u.2)), (h0, .inr (4, [.ref e0, .int he, .int si])), (e0, .inl (cJ, 160, .inr (.inl fe)))])) (va_A [(rd, .inr (3, [.ref ri, .ref rl, .int rz, .int rc, .int rp, .int rf, .int rt, .int ru])), (rl, .inl (cI, 160, .inl fl)), (h0, .inr (4, [.ref e0, .int he, .int si])), (e0, .inl (cJ, 160, .inr (.inl fe)))] hpz)) 0 0 (va_A [(rd, .inr (3, [.ref ri, .ref rl, .int rz, .int rc, .int rp, .int rf, .int rt, .int ru])), (rl, .inl (cI, 160, .inl fl)), (h0, .inr (4, [.ref e0, .int he, .int si])), (e0, .inl (cJ, 160, .inr (.inl fe)))] hpz) := by
  refine Met.ofW (cc := cX3_takeLetters) (maxL := 3) (ret := none) (by decide) rfl ?_
  intro p e s m args below meth c s₁ B hml hv
  obtain ⟨rfl, hsz, hP, hK, hD0, hN, hZ⟩ := hv
  have hx := B.exec
  have hb := B.bytes
  have hr := B.returns
  have hts := atoms_spec (ws := wsX3_takeLetters) B.pre
  have hown : s.vm.findClass RX3 = some m.cls := findClass_of_methodNamed B.named
  have hlocks := B.notSynchronized
  subst hsz
  have hD := hD0.self (sz := s.heap.size)
  have hA := zA_of hD
  have hl := lv_entry ([.ref rd, .ref h0]) (n := 3) (Nat.le_of_ble_eq_true rfl)
  rw [lg_entry_eq]
  generalize (lg_sl ([.ref rd, .ref h0]) ++ List.replicate (3 - (lg_sl ([.ref rd, .ref h0])).length) Slot.unset).toArray = ls at hl ⊢
  replace hl : lv_has ls 3 [(0, .ref rd), (1, .ref h0)] := hl
  refine zw_begin hP hD (fun H locs hP1 hS => ?_)
  clear hP
  have hP := hP1
  clear hP1
  refine lv_aload_n hx hb dX3_takeLetters_0 rfl (lv_at hl 0 rfl) ?_
  refine lv_aload_n hx hb dX3_takeLetters_1 rfl (lv_at hl 1 rfl) ?_
  refine va_get (D := D) (ci := 4) (v := .int si) (C := RX4) (T := TX4) (N := 3) hx hb hts hi_X3_takeLetters_4 hown hK hP 2 rfl rfl 2 (by decide) (hts (.fieldLink RX3 49 "TheLiningsInIt$Shelf" "size" "I") (List.mem_of_getElem? (i := 1) rfl)) (fun _ h9 => h9) rfl dX3_takeLetters_2 ?_
  refine lv_sipush (v := 160) hx hb dX3_takeLetters_5 (by decide) ?_
  refine va_mmin hx hb (hml.trans hl.1.symm) hown (hts (.methodLink RX3 52 Lib.Math.min.name) (List.mem_of_getElem? (i := 2) rfl)) (hts _ (List.mem_of_getElem? (i := 3) rfl)) (hts _ (List.mem_of_getElem? (i := 4) rfl)) (hts _ (List.mem_of_getElem? (i := 5) rfl)) (Nat.le_of_ble_eq_true rfl) (Nat.le_of_ble_eq_true rfl) (Nat.le_of_ble_eq_true rfl) (Nat.le_of_ble_eq_true rfl) dX3_takeLetters_8 ?_
  refine lv_topi (fun x_1 ex_1 => ?_)
  have qx_1 := zf_min ex_1 (x1 := si.toInt) (y1 := 160) rfl (by decide)
  refine va_put (D := D) (ci := 3) (v := .int x_1) (ty := .int) (C := RX3) (T := TX3) (N := 8) hx hb hts hi_X3_takeLetters_3 tyX3 tyX3_ok nmX3 hown hK hP hD hS 0 rfl rfl 2 (by decide) (hts (.fieldLink RX3 18 "TheLiningsInIt$Reader" "size" "I") (List.mem_of_getElem? (i := 6) rfl)) (fun _ h9 => h9) rfl (tyX3_ok 2 (Nat.le_of_ble_eq_true rfl)) rfl rfl (Nat.le_of_ble_eq_true rfl) dX3_takeLetters_11 (fun H locs hP hD hS => ?_)
  have h9R := zRe (ws' := [(rd, .inr (3, [.ref ri, .ref rl, .int x_1, .int rc, .int rp, .int rf, .int rt, .int ru])), (rl, .inl (cI, 160, .inl fl)), (h0, .inr (4, [.ref e0, .int he, .int si])), (e0, .inl (cJ, 160, .inr (.inl fe)))]) hP hD rfl
  clear hP hD
  obtain ⟨hP, hD⟩ := h9R
  refine lv_iconst (v := 0) hx hb dX3_takeLetters_14 (by decide) ?_
  refine lv_istore_n (lv' := [(2, .int 0), (0, .ref rd), (1, .ref h0)]) hx hb dX3_takeLetters_15 rfl hl (by decide) rfl (fun ls hl => ?_)
  obtain ⟨i_16, hi_16⟩ : ∃ i : Int32, i = 0 := ⟨_, rfl⟩
  replace hl : lv_has ls 3 [(2, .int i_16), (0, .ref rd), (1, .ref h0)] := by rw [hi_16]; exact lv_sub hl [0, 1, 2] rfl
  have h1i_16 : i_16.toInt = 0 := by rw [hi_16]; decide
  obtain ⟨nfu, hni_16⟩ : ∃ nq9 : Nat, 160 ≤ i_16.toInt + (nq9 : Int) := ⟨((160 : Int) - 0).toNat, by omega⟩
  have hloi_16 : 0 ≤ i_16.toInt := by omega
  obtain ⟨g_2, hg_2⟩ : ∃ g : Nat → Int32, g = fl := ⟨_, rfl⟩
  replace hP : va_P D vwCl [(rd, .inr (3, [.ref ri, .ref rl, .int x_1, .int rc, .int rp, .int rf, .int rt, .int ru])), (rl, .inl (cI, 160, .inl g_2)), (h0, .inr (4, [.ref e0, .int he, .int si])), (e0, .inl (cJ, 160, .inr (.inl fe)))] H := by rw [hg_2]; exact hP
  replace hD : va_D (va_A [(rd, .inr (3, [.ref ri, .ref rl, .int rz, .int rc, .int rp, .int rf, .int rt, .int ru])), (rl, .inl (cI, 160, .inl fl)), (h0, .inr (4, [.ref e0, .int he, .int si])), (e0, .inl (cJ, 160, .inr (.inl fe)))] s.heap.size) [(rd, .inr (3, [.ref ri, .ref rl, .int x_1, .int rc, .int rp, .int rf, .int rt, .int ru])), (rl, .inl (cI, 160, .inl g_2)), (h0, .inr (4, [.ref e0, .int he, .int si])), (e0, .inl (cJ, 160, .inr (.inl fe)))] := by rw [hg_2]; exact hD
  have hvi_16_0 : (∀ j : Nat, (j : Int) < i_16.toInt → g_2 j = (fe j).toInt32) := by
    (try rw [hi_16]); (try rw [hg_2]); (intro j hj; exfalso; have k0 : (0 : Int32).toInt = 0 := (by decide); omega)
  clear h1i_16 hi_16 hg_2
  skip
  revert hni_16
  revert hloi_16
  revert hvi_16_0
  revert hl
  revert hS
  revert hD
  revert hP
  revert ls
  revert locs
  revert H
  revert g_2
  revert i_16
  induction nfu with
  | zero =>
    intro i_16 g_2 H locs ls hP hD hS hl hvi_16_0 hloi_16 hni_16
    have hzi_16 : 160 ≤ i_16.toInt := by omega
    refine lv_iload_n hx hb dX3_takeLetters_16 rfl (lv_at hl 0 rfl) ?_
    refine lv_aload_n hx hb dX3_takeLetters_17 rfl (lv_at hl 1 rfl) ?_
    refine va_get (D := D) (ci := 3) (v := .int x_1) (C := RX3) (T := TX3) (N := 8) hx hb hts hi_X3_takeLetters_3 hown hK hP 0 rfl rfl 2 (by decide) (hts (.fieldLink RX3 18 "TheLiningsInIt$Reader" "size" "I") (List.mem_of_getElem? (i := 6) rfl)) (fun _ h9 => h9) rfl dX3_takeLetters_18 ?_
    refine lv_icmp_ge (tgt := 41) hx hb dX3_takeLetters_21 (by decide) (fun c_3 => ?_) (fun c_3 => ?_)
    · have fc_3 : x_1.toInt ≤ i_16.toInt := zf_le c_3 rfl rfl
      exact W.vret hx hb hr (fun t ht hW => ⟨⟨(x_1, g_2), rfl, ⟨(show 0 ≤ x_1.toInt ∧ x_1.toInt ≤ 160 from ⟨by omega, by omega⟩), (show x_1.toInt = si.toInt from by omega), (show (∀ j : Nat, (j : Int) < x_1.toInt → g_2 j = (fe j).toInt32) from by (intro j hj; exact hvi_16_0 j (by omega))), trivial⟩, zRet ht hP hD [0, 1, 2, 3] (by decide) rfl⟩, hS.F ht⟩) hS.2.2 dX3_takeLetters_41
    · exfalso; have fc_3 : i_16.toInt < x_1.toInt := zf_nle c_3 rfl rfl; omega
  | succ nfu ih =>
    intro i_16 g_2 H locs ls hP hD hS hl hvi_16_0 hloi_16 hni_16
    refine lv_iload_n hx hb dX3_takeLetters_16 rfl (lv_at hl 0 rfl) ?_
    refine lv_aload_n hx hb dX3_takeLetters_17 rfl (lv_at hl 1 rfl) ?_
    refine va_get (D := D) (ci := 3) (v := .int x_1) (C := RX3) (T := TX3) (N := 8) hx hb hts hi_X3_takeLetters_3 hown hK hP 0 rfl rfl 2 (by decide) (hts (.fieldLink RX3 18 "TheLiningsInIt$Reader" "size" "I") (List.mem_of_getElem? (i := 6) rfl)) (fun _ h9 => h9) rfl dX3_takeLetters_18 ?_
    refine lv_icmp_ge (tgt := 41) hx hb dX3_takeLetters_21 (by decide) (fun c_4 => ?_) (fun c_4 => ?_)
    · have fc_4 : x_1.toInt ≤ i_16.toInt := zf_le c_4 rfl rfl
      exact W.vret hx hb hr (fun t ht hW => ⟨⟨(x_1, g_2), rfl, ⟨(show 0 ≤ x_1.toInt ∧ x_1.toInt ≤ 160 from ⟨by omega, by omega⟩), (show x_1.toInt = si.toInt from by omega), (show (∀ j : Nat, (j : Int) < x_1.toInt → g_2 j = (fe j).toInt32) from by (intro j hj; exact hvi_16_0 j (by omega))), trivial⟩, zRet ht hP hD [0, 1, 2, 3] (by decide) rfl⟩, hS.F ht⟩) hS.2.2 dX3_takeLetters_41
    · have fc_4 : i_16.toInt < x_1.toInt := zf_nle c_4 rfl rfl
      refine lv_aload_n hx hb dX3_takeLetters_24 rfl (lv_at hl 1 rfl) ?_
      refine va_get (D := D) (ci := 3) (v := .ref rl) (C := RX3) (T := TX3) (N := 8) hx hb hts hi_X3_takeLetters_3 hown hK hP 0 rfl rfl 1 (by decide) (hts (.fieldLink RX3 15 "TheLiningsInIt$Reader" "letters" "[I") (List.mem_of_getElem? (i := 7) rfl)) (fun _ h9 => h9) rfl dX3_takeLetters_25 ?_
      refine lv_iload_n hx hb dX3_takeLetters_28 rfl (lv_at hl 0 rfl) ?_
      refine lv_aload_n hx hb dX3_takeLetters_29 rfl (lv_at hl 2 rfl) ?_
      refine lv_iload_n hx hb dX3_takeLetters_30 rfl (lv_at hl 0 rfl) ?_
      refine zc_V (As := [.int i_16]) (rest := [.int i_16, .ref rl]) ⟨hx, hb, hml, hown, hts⟩ (c_F_Sh_tells l D cI cJ cZ cP cS po h0 e0 (he) (si) fe (i_16) hy13 hy14 hy15 hy16) (cwV 1 hts gX3_takeLetters_X4_tells rfl rfl rfl ⟨rfl, dh_X4_tells⟩ ⟨Nat.le_of_ble_eq_true rfl, Nat.le_of_ble_eq_true rfl⟩) hK hN (hZ.kept hS) hP (hP.sub [2, 3] rfl) (va_recv (q := (RX4, TX4, 3)) hK hP (ci := 4) (q0 := 2) rfl rfl) rfl hl.1 rfl (Nat.le_of_ble_eq_true rfl) dX3_takeLetters_31 ⟨Nat.le_of_ble_eq_true rfl, Nat.le_of_ble_eq_true rfl⟩ (fun r_5 hr_5 => ?_)
      have hsr_5_0 := hr_5
      refine va_iast hx hb hK hP hD hS 1 0 rfl rfl (zf_in (by omega) (by omega)) dX3_takeLetters_34 (fun H locs hP hD hS => ?_)
      obtain ⟨g_6, hg_6⟩ : ∃ g : Nat → Int32, g = upd g_2 i_16.toNatClampNeg r_5 := ⟨_, rfl⟩
      rw [← hg_6] at hP hD
      have h9R := zRe (ws' := [(rd, .inr (3, [.ref ri, .ref rl, .int x_1, .int rc, .int rp, .int rf, .int rt, .int ru])), (rl, .inl (cI, 160, .inl g_6)), (h0, .inr (4, [.ref e0, .int he, .int si])), (e0, .inl (cJ, 160, .inr (.inl fe)))]) hP hD rfl
      clear hP hD
      obtain ⟨hP, hD⟩ := h9R
      obtain ⟨x_7, ex_7⟩ : ∃ y : Int32, y = i_16 + 1 := ⟨_, rfl⟩
      have qx_7 : x_7.toInt = i_16.toInt + 1 := dw_inc ex_7 fc_4
      refine lv_iinc (v := x_7) (lv' := [(2, .int x_7), (0, .ref rd), (1, .ref h0)]) hx hb dX3_takeLetters_35 hl (k := 0) rfl ex_7.symm (by decide) rfl (fun ls hl => ?_)
      refine lv_goto (tgt := 16) hx hb dX3_takeLetters_38 (by decide) ?_
      exact ih x_7 (g_6) _ _ _ (hP.sub [0, 1, 2, 3] rfl) (hD.sub [0, 1, 2, 3] (by decide) rfl) hS (lv_sub hl [0, 1, 2] rfl) (show (∀ j : Nat, (j : Int) < x_7.toInt → g_6 j = (fe j).toInt32) from by (intro j hj; rw [hg_6]; simp only [upd]; by_cases e9 : j = i_16.toNatClampNeg; (rw [if_pos e9, hsr_5_0 (by omega) (by omega), e9]); (have h7 : i_16.toNatClampNeg = i_16.toInt.toNat := rfl; rw [if_neg e9]; exact hvi_16_0 j (by omega)))) (dw_lo hloi_16 qx_7) (dw_hn hni_16 qx_7)
set_option maxHeartbeats 4000000 in
set_option maxRecDepth 100000 in
theorem c_F_R_read (l : Launch) (D : va_G) (cI cJ cZ cP cS : ClassId) (po : zPool) (rd ri rl : Nat) (rz rc rp rf rt ru : Int32) (fl : Nat → Int32) (fi : Nat → Int32) (h0 e0 : Nat) (he si : Int32) (fe : Nat → Int64) (te pu : Int32) (hy0 : 0 ≤ rz.toInt) (hy1 : rz.toInt ≤ 160) (hy2 : 0 ≤ rc.toInt) (hy3 : rc.toInt ≤ 40) (hy4 : 0 ≤ rp.toInt) (hy5 : rp.toInt ≤ 160) (hy6 : rp.toInt ≤ rz.toInt) (hy7 : (-1) ≤ rf.toInt) (hy8 : rf.toInt ≤ 160) (hy9 : 0 ≤ rt.toInt) (hy10 : rt.toInt ≤ 40) (hy11 : 0 ≤ ru.toInt) (hy12 : ru.toInt ≤ 8) (hy13 : (-1) ≤ he.toInt) (hy14 : he.toInt ≤ 103) (hy15 : 0 ≤ si.toInt) (hy16 : si.toInt ≤ 160) (hy17 : 4 ≤ te.toInt) (hy18 : te.toInt ≤ 40) (hy19 : 0 ≤ pu.toInt) (hy20 : pu.toInt ≤ 8) (hpz : Nat) : Met l yX3_read wsX3_read ({ frames := 7, cells := 0, slots := 0, locals := 154 }) (va_Pc [.ref rd, .ref h0, .int te, .int pu] (zW D (zKT cI cJ cZ cP cS) po [(rd, .inr (3, [.ref ri, .ref rl, .int rz, .int rc, .int rp, .int rf, .int rt, .int ru])), (rl, .inl (cI, 160, .inl fl)), (ri, .inl (cI, 132, .inl fi)), (h0, .inr (4, [.ref e0, .int he, .int si])), (e0, .inl (cJ, 160, .inr (.inl fe)))] hpz)) (va_Qi (fun (r : Int32) (u : (Int32) × (Int32) × (Int32) × (Int32) × (Int32) × (Int32) × (Nat → Int32) × (Nat → Int32)) => (0 ≤ u.1.toInt ∧ u.1.toInt ≤ 160) ∧ (0 ≤ u.2.1.toInt ∧ u.2.1.toInt ≤ 33) ∧ (0 ≤ u.2.2.1.toInt ∧ u.2.2.1.toInt ≤ 160) ∧ ((-1) ≤ u.2.2.2.1.toInt ∧ u.2.2.2.1.toInt ≤ 160) ∧ (0 ≤ u.2.2.2.2.1.toInt ∧ u.2.2.2.2.1.toInt ≤ 40) ∧ (0 ≤ u.2.2.2.2.2.1.toInt ∧ u.2.2.2.2.2.1.toInt ≤ 8) ∧ (u.2.2.1.toInt ≤ u.1.toInt) ∧ (r.toInt = u.2.2.2.1.toInt) ∧ ((r.toInt = -1 → ∀ k : Nat, k < u.2.1.toInt.toNat → zIt u.2.2.2.2.2.2.1 (4 * k))) ∧ (u.1.toInt = si.toInt) ∧ ((∀ j : Nat, (j : Int) < u.1.toInt → u.2.2.2.2.2.2.2 j = (fe j).toInt32)) ∧ (zEnd u.2.2.2.2.2.2.2 u.1.toInt te.toInt pu.toInt (u.2.1.toInt - 1).toNat u.2.2.2.1.toInt u.2.2.2.2.1.toInt u.2.2.2.2.2.1.toInt) ∧ (1 ≤ u.2.1.toInt) ∧ ((u.2.2.2.1.toInt = -1 → u.2.2.2.2.2.1.toInt = pu.toInt + zCP u.2.2.2.2.2.2.1 u.2.1.toInt.toNat ∧ u.2.2.2.2.1.toInt = zLT u.2.2.2.2.2.2.1 te.toInt u.2.1.toInt.toNat)) ∧ (-1 ≤ r.toInt ∧ r.toInt ≤ 160)) (zB D [(rd, .inr (3, [.ref ri, .ref rl, .int rz, .int rc, .int rp, .int rf, .int rt, .int ru])), (rl, .inl (cI, 160, .inl fl)), (ri, .inl (cI, 132, .inl fi)), (h0, .inr (4, [.ref e0, .int he, .int si])), (e0, .inl (cJ, 160, .inr (.inl fe)))] hpz (fun (u : (Int32) × (Int32) × (Int32) × (Int32) × (Int32) × (Int32) × (Nat → Int32) × (Nat → Int32)) => [(rd, .inr (3, [.ref ri, .ref rl, .int u.1, .int u.2.1, .int u.2.2.1, .int u.2.2.2.1, .int u.2.2.2.2.1, .int u.2.2.2.2.2.1])), (rl, .inl (cI, 160, .inl u.2.2.2.2.2.2.2)), (ri, .inl (cI, 132, .inl u.2.2.2.2.2.2.1)), (h0, .inr (4, [.ref e0, .int he, .int si])), (e0, .inl (cJ, 160, .inr (.inl fe)))])) (va_A [(rd, .inr (3, [.ref ri, .ref rl, .int rz, .int rc, .int rp, .int rf, .int rt, .int ru])), (rl, .inl (cI, 160, .inl fl)), (ri, .inl (cI, 132, .inl fi)), (h0, .inr (4, [.ref e0, .int he, .int si])), (e0, .inl (cJ, 160, .inr (.inl fe)))] hpz)) 0 0 (va_A [(rd, .inr (3, [.ref ri, .ref rl, .int rz, .int rc, .int rp, .int rf, .int rt, .int ru])), (rl, .inl (cI, 160, .inl fl)), (ri, .inl (cI, 132, .inl fi)), (h0, .inr (4, [.ref e0, .int he, .int si])), (e0, .inl (cJ, 160, .inr (.inl fe)))] hpz) := by
  refine Met.ofW (cc := cX3_read) (maxL := 5) (ret := (some .int)) (by decide) rfl ?_
  intro p e s m args below meth c s₁ B hml hv
  obtain ⟨rfl, hsz, hP, hK, hD0, hN, hZ⟩ := hv
  have hx := B.exec
  have hb := B.bytes
  have hr := B.returns
  have hts := atoms_spec (ws := wsX3_read) B.pre
  have hown : s.vm.findClass RX3 = some m.cls := findClass_of_methodNamed B.named
  have hlocks := B.notSynchronized
  subst hsz
  have hD := hD0.self (sz := s.heap.size)
  have hA := zA_of hD
  have hl := lv_entry ([.ref rd, .ref h0, .int te, .int pu]) (n := 5) (Nat.le_of_ble_eq_true rfl)
  rw [lg_entry_eq]
  generalize (lg_sl ([.ref rd, .ref h0, .int te, .int pu]) ++ List.replicate (5 - (lg_sl ([.ref rd, .ref h0, .int te, .int pu])).length) Slot.unset).toArray = ls at hl ⊢
  replace hl : lv_has ls 5 [(0, .ref rd), (1, .ref h0), (2, .int te), (3, .int pu)] := hl
  refine zw_begin hP hD (fun H locs hP1 hS => ?_)
  clear hP
  have hP := hP1
  clear hP1
  refine lv_aload_n hx hb dX3_read_0 rfl (lv_at hl 0 rfl) ?_
  refine lv_aload_n hx hb dX3_read_1 rfl (lv_at hl 1 rfl) ?_
  skip
  refine zw_Vv (As := [.ref h0]) (rest := []) (wr := [(ri, .inl (cI, 132, .inl fi))]) ⟨hx, hb, hml, hown, hts⟩ (c_F_R_takeLetters l D cI cJ cZ cP cS po rd ri rl (rz) (rc) (rp) (rf) (rt) (ru) fl h0 e0 (he) (si) fe hy0 hy1 hy2 hy3 hy4 hy5 (by omega) hy7 hy8 hy9 hy10 hy11 hy12 hy13 hy14 hy15 hy16 H.size) (cwV 1 hts gX3_read_X3_takeLetters rfl rfl rfl ⟨rfl, dh_X3_takeLetters⟩ ⟨Nat.le_of_ble_eq_true rfl, Nat.le_of_ble_eq_true rfl⟩) hK hN (hZ.kept hS) hP hD hS hA [0, 1, 3, 4] [2] rfl rfl (by decide) (by decide) (by decide) (va_recv (q := (RX3, TX3, 8)) hK hP (ci := 3) (q0 := 0) rfl rfl) rfl hl.1 rfl (Nat.le_of_ble_eq_true rfl) dX3_read_2 ⟨Nat.le_of_ble_eq_true rfl, Nat.le_of_ble_eq_true rfl⟩ (fun u_2 H locs hr_1 hP hD hS => ?_)
  obtain ⟨q_3, q_4⟩ := u_2
  try dsimp only at hr_1
  obtain ⟨hbq_3, hsr_1_0, hsr_1_1, hr_1⟩ := hr_1
  have h9R := zRe (ws' := [(ri, .inl (cI, 132, .inl fi)), (rd, .inr (3, [.ref ri, .ref rl, .int q_3, .int rc, .int rp, .int rf, .int rt, .int ru])), (rl, .inl (cI, 160, .inl q_4)), (h0, .inr (4, [.ref e0, .int he, .int si])), (e0, .inl (cJ, 160, .inr (.inl fe)))]) hP hD rfl
  clear hP hD
  obtain ⟨hP, hD⟩ := h9R
  refine lv_aload_n hx hb dX3_read_5 rfl (lv_at hl 0 rfl) ?_
  refine lv_iload_n hx hb dX3_read_6 rfl (lv_at hl 2 rfl) ?_
  refine va_put (D := D) (ci := 3) (v := .int te) (ty := .int) (C := RX3) (T := TX3) (N := 8) hx hb hts hi_X3_read_3 tyX3 tyX3_ok nmX3 hown hK hP hD hS 1 rfl rfl 6 (by decide) (hts (.fieldLink RX3 31 "TheLiningsInIt$Reader" "teeth" "I") (List.mem_of_getElem? (i := 1) rfl)) (fun _ h9 => h9) rfl (tyX3_ok 6 (Nat.le_of_ble_eq_true rfl)) rfl rfl (Nat.le_of_ble_eq_true rfl) dX3_read_7 (fun H locs hP hD hS => ?_)
  have h9R := zRe (ws' := [(ri, .inl (cI, 132, .inl fi)), (rd, .inr (3, [.ref ri, .ref rl, .int q_3, .int rc, .int rp, .int rf, .int te, .int ru])), (rl, .inl (cI, 160, .inl q_4)), (h0, .inr (4, [.ref e0, .int he, .int si])), (e0, .inl (cJ, 160, .inr (.inl fe)))]) hP hD rfl
  clear hP hD
  obtain ⟨hP, hD⟩ := h9R
  refine lv_aload_n hx hb dX3_read_10 rfl (lv_at hl 0 rfl) ?_
  refine lv_iload_n hx hb dX3_read_11 rfl (lv_at hl 3 rfl) ?_
  refine va_put (D := D) (ci := 3) (v := .int pu) (ty := .int) (C := RX3) (T := TX3) (N := 8) hx hb hts hi_X3_read_3 tyX3 tyX3_ok nmX3 hown hK hP hD hS 1 rfl rfl 7 (by decide) (hts (.fieldLink RX3 34 "TheLiningsInIt$Reader" "pulls" "I") (List.mem_of_getElem? (i := 2) rfl)) (fun _ h9 => h9) rfl (tyX3_ok 7 (Nat.le_of_ble_eq_true rfl)) rfl rfl (Nat.le_of_ble_eq_true rfl) dX3_read_12 (fun H locs hP hD hS => ?_)
  have h9R := zRe (ws' := [(ri, .inl (cI, 132, .inl fi)), (rd, .inr (3, [.ref ri, .ref rl, .int q_3, .int rc, .int rp, .int rf, .int te, .int pu])), (rl, .inl (cI, 160, .inl q_4)), (h0, .inr (4, [.ref e0, .int he, .int si])), (e0, .inl (cJ, 160, .inr (.inl fe)))]) hP hD rfl
  clear hP hD
  obtain ⟨hP, hD⟩ := h9R
  refine lv_aload_n hx hb dX3_read_15 rfl (lv_at hl 0 rfl) ?_
  refine lv_iconst (v := 0) hx hb dX3_read_16 (by decide) ?_
  refine va_put (D := D) (ci := 3) (v := .int 0) (ty := .int) (C := RX3) (T := TX3) (N := 8) hx hb hts hi_X3_read_3 tyX3 tyX3_ok nmX3 hown hK hP hD hS 1 rfl rfl 4 (by decide) (hts (.fieldLink RX3 25 "TheLiningsInIt$Reader" "place" "I") (List.mem_of_getElem? (i := 3) rfl)) (fun _ h9 => h9) rfl (tyX3_ok 4 (Nat.le_of_ble_eq_true rfl)) rfl rfl (Nat.le_of_ble_eq_true rfl) dX3_read_17 (fun H locs hP hD hS => ?_)
  have h9R := zRe (ws' := [(ri, .inl (cI, 132, .inl fi)), (rd, .inr (3, [.ref ri, .ref rl, .int q_3, .int rc, .int 0, .int rf, .int te, .int pu])), (rl, .inl (cI, 160, .inl q_4)), (h0, .inr (4, [.ref e0, .int he, .int si])), (e0, .inl (cJ, 160, .inr (.inl fe)))]) hP hD rfl
  clear hP hD
  obtain ⟨hP, hD⟩ := h9R
  refine lv_aload_n hx hb dX3_read_20 rfl (lv_at hl 0 rfl) ?_
  refine lv_iconst (v := (-1)) hx hb dX3_read_21 (by decide) ?_
  refine va_put (D := D) (ci := 3) (v := .int (-1)) (ty := .int) (C := RX3) (T := TX3) (N := 8) hx hb hts hi_X3_read_3 tyX3 tyX3_ok nmX3 hown hK hP hD hS 1 rfl rfl 5 (by decide) (hts (.fieldLink RX3 28 "TheLiningsInIt$Reader" "fault" "I") (List.mem_of_getElem? (i := 4) rfl)) (fun _ h9 => h9) rfl (tyX3_ok 5 (Nat.le_of_ble_eq_true rfl)) rfl rfl (Nat.le_of_ble_eq_true rfl) dX3_read_22 (fun H locs hP hD hS => ?_)
  have h9R := zRe (ws' := [(ri, .inl (cI, 132, .inl fi)), (rd, .inr (3, [.ref ri, .ref rl, .int q_3, .int rc, .int 0, .int (-1), .int te, .int pu])), (rl, .inl (cI, 160, .inl q_4)), (h0, .inr (4, [.ref e0, .int he, .int si])), (e0, .inl (cJ, 160, .inr (.inl fe)))]) hP hD rfl
  clear hP hD
  obtain ⟨hP, hD⟩ := h9R
  refine lv_iconst (v := 1) hx hb dX3_read_25 (by decide) ?_
  refine lv_istore (lv' := [(4, .int 1), (0, .ref rd), (1, .ref h0), (2, .int te), (3, .int pu)]) hx hb dX3_read_26 hl (by decide) rfl (fun ls hl => ?_)
  refine lv_aload_n hx hb dX3_read_28 rfl (lv_at hl 1 rfl) ?_
  refine lv_iconst (v := 0) hx hb dX3_read_29 (by decide) ?_
  refine va_put (D := D) (ci := 3) (v := .int 0) (ty := .int) (C := RX3) (T := TX3) (N := 8) hx hb hts hi_X3_read_3 tyX3 tyX3_ok nmX3 hown hK hP hD hS 1 rfl rfl 3 (by decide) (hts (.fieldLink RX3 22 "TheLiningsInIt$Reader" "count" "I") (List.mem_of_getElem? (i := 5) rfl)) (fun _ h9 => h9) rfl (tyX3_ok 3 (Nat.le_of_ble_eq_true rfl)) rfl rfl (Nat.le_of_ble_eq_true rfl) dX3_read_30 (fun H locs hP hD hS => ?_)
  have h9R := zRe (ws' := [(ri, .inl (cI, 132, .inl fi)), (rd, .inr (3, [.ref ri, .ref rl, .int q_3, .int 0, .int 0, .int (-1), .int te, .int pu])), (rl, .inl (cI, 160, .inl q_4)), (h0, .inr (4, [.ref e0, .int he, .int si])), (e0, .inl (cJ, 160, .inr (.inl fe)))]) hP hD rfl
  clear hP hD
  obtain ⟨hP, hD⟩ := h9R
  obtain ⟨i_33, hi_33⟩ : ∃ i : Int32, i = 0 := ⟨_, rfl⟩
  replace hl : lv_has ls 5 [(4, .int 1), (0, .ref rd), (1, .ref h0), (2, .int te), (3, .int pu)] := lv_sub hl [0, 1, 2, 3, 4] rfl
  replace hP : va_P D vwCl [(ri, .inl (cI, 132, .inl fi)), (rd, .inr (3, [.ref ri, .ref rl, .int q_3, .int i_33, .int 0, .int (-1), .int te, .int pu])), (rl, .inl (cI, 160, .inl q_4)), (h0, .inr (4, [.ref e0, .int he, .int si])), (e0, .inl (cJ, 160, .inr (.inl fe)))] H := by rw [hi_33]; exact hP
  replace hD : va_D (va_A [(rd, .inr (3, [.ref ri, .ref rl, .int rz, .int rc, .int rp, .int rf, .int rt, .int ru])), (rl, .inl (cI, 160, .inl fl)), (ri, .inl (cI, 132, .inl fi)), (h0, .inr (4, [.ref e0, .int he, .int si])), (e0, .inl (cJ, 160, .inr (.inl fe)))] s.heap.size) [(ri, .inl (cI, 132, .inl fi)), (rd, .inr (3, [.ref ri, .ref rl, .int q_3, .int i_33, .int 0, .int (-1), .int te, .int pu])), (rl, .inl (cI, 160, .inl q_4)), (h0, .inr (4, [.ref e0, .int he, .int si])), (e0, .inl (cJ, 160, .inr (.inl fe)))] := by rw [hi_33]; exact hD
  have h1i_33 : i_33.toInt = 0 := by rw [hi_33]; decide
  obtain ⟨nfu, hni_33⟩ : ∃ nq9 : Nat, 33 ≤ i_33.toInt + (nq9 : Int) := ⟨((33 : Int) - 0).toNat, by omega⟩
  have hloi_33 : 0 ≤ i_33.toInt := by omega
  obtain ⟨g_5, hg_5⟩ : ∃ g : Nat → Int32, g = fi := ⟨_, rfl⟩
  obtain ⟨v_6, hv_6⟩ : ∃ g : Int32, g = 0 := ⟨_, rfl⟩
  have hbv_6 : 0 ≤ v_6.toInt ∧ v_6.toInt ≤ 160 := by rw [hv_6]; exact ⟨by decide, by decide⟩
  obtain ⟨v_7, hv_7⟩ : ∃ g : Int32, g = (-1) := ⟨_, rfl⟩
  have hbv_7 : -1 ≤ v_7.toInt ∧ v_7.toInt ≤ 160 := by rw [hv_7]; exact ⟨by decide, by decide⟩
  obtain ⟨v_8, hv_8⟩ : ∃ g : Int32, g = te := ⟨_, rfl⟩
  have hbv_8 : 0 ≤ v_8.toInt ∧ v_8.toInt ≤ 40 := by rw [hv_8]; exact ⟨by omega, by omega⟩
  obtain ⟨v_9, hv_9⟩ : ∃ g : Int32, g = pu := ⟨_, rfl⟩
  have hbv_9 : 0 ≤ v_9.toInt ∧ v_9.toInt ≤ 8 := by rw [hv_9]; exact ⟨by omega, by omega⟩
  replace hP : va_P D vwCl [(ri, .inl (cI, 132, .inl g_5)), (rd, .inr (3, [.ref ri, .ref rl, .int q_3, .int i_33, .int v_6, .int v_7, .int v_8, .int v_9])), (rl, .inl (cI, 160, .inl q_4)), (h0, .inr (4, [.ref e0, .int he, .int si])), (e0, .inl (cJ, 160, .inr (.inl fe)))] H := by rw [hg_5, hv_6, hv_7, hv_8, hv_9]; exact hP
  replace hD : va_D (va_A [(rd, .inr (3, [.ref ri, .ref rl, .int rz, .int rc, .int rp, .int rf, .int rt, .int ru])), (rl, .inl (cI, 160, .inl fl)), (ri, .inl (cI, 132, .inl fi)), (h0, .inr (4, [.ref e0, .int he, .int si])), (e0, .inl (cJ, 160, .inr (.inl fe)))] s.heap.size) [(ri, .inl (cI, 132, .inl g_5)), (rd, .inr (3, [.ref ri, .ref rl, .int q_3, .int i_33, .int v_6, .int v_7, .int v_8, .int v_9])), (rl, .inl (cI, 160, .inl q_4)), (h0, .inr (4, [.ref e0, .int he, .int si])), (e0, .inl (cJ, 160, .inr (.inl fe)))] := by rw [hg_5, hv_6, hv_7, hv_8, hv_9]; exact hD
  obtain ⟨v_10, hv_10⟩ : ∃ g : Int32, g = 1 := ⟨_, rfl⟩
  replace hl : lv_has ls 5 [(4, .int v_10), (0, .ref rd), (1, .ref h0), (2, .int te), (3, .int pu)] := by rw [hv_10]; exact hl
  have hbv_10 : 0 ≤ v_10.toInt ∧ v_10.toInt ≤ 1 := by rw [hv_10]; exact ⟨by decide, by decide⟩
  have hvi_33_0 : (v_6 : Int32).toInt ≤ (q_3 : Int32).toInt := by
    (try rw [hi_33]); (try rw [hg_5]); (try rw [hv_6]); (try rw [hv_7]); (try rw [hv_8]); (try rw [hv_9]); (try rw [hv_10]); first | omega | (simp; omega)
  have hvi_33_1 : ((v_7 : Int32).toInt = -1 → ∀ k : Nat, k < i_33.toInt.toNat → zIt g_5 (4 * k)) := by
    (try rw [hi_33]); (try rw [hg_5]); (try rw [hv_6]); (try rw [hv_7]); (try rw [hv_8]); (try rw [hv_9]); (try rw [hv_10]); (intro _ k hk; simp at hk)
  have hvi_33_2 : i_33.toInt ≤ 33 := by
    (try rw [hi_33]); (try rw [hg_5]); (try rw [hv_6]); (try rw [hv_7]); (try rw [hv_8]); (try rw [hv_9]); (try rw [hv_10]); first | omega | simp
  have hvi_33_3 : ((v_10 : Int32).toInt = 1 → (v_7 : Int32).toInt = -1) := by
    (try rw [hi_33]); (try rw [hg_5]); (try rw [hv_6]); (try rw [hv_7]); (try rw [hv_8]); (try rw [hv_9]); (try rw [hv_10]); (intro _; decide)
  have hvi_33_4 : ((v_10 : Int32).toInt = 1 → zRgo q_4 (q_3 : Int32).toInt te.toInt pu.toInt i_33.toInt.toNat = some ((v_6 : Int32).toInt, (v_8 : Int32).toInt, (v_9 : Int32).toInt)) := by
    (try rw [hi_33]); (try rw [hg_5]); (try rw [hv_6]); (try rw [hv_7]); (try rw [hv_8]); (try rw [hv_9]); (try rw [hv_10]); (intro _; rw [show ((0 : Int32).toInt.toNat) = 0 from by decide, show ((0 : Int32).toInt) = 0 from by decide]; rfl)
  have hvi_33_5 : ((v_10 : Int32).toInt = 0 → 1 ≤ i_33.toInt ∧ zEnd q_4 (q_3 : Int32).toInt te.toInt pu.toInt (i_33.toInt - 1).toNat (v_7 : Int32).toInt (v_8 : Int32).toInt (v_9 : Int32).toInt) := by
    (try rw [hi_33]); (try rw [hg_5]); (try rw [hv_6]); (try rw [hv_7]); (try rw [hv_8]); (try rw [hv_9]); (try rw [hv_10]); (intro h; exact absurd h (by decide))
  have hvi_33_6 : ((v_7 : Int32).toInt = -1 → (v_9 : Int32).toInt = pu.toInt + zCP g_5 i_33.toInt.toNat ∧ (v_8 : Int32).toInt = zLT g_5 te.toInt i_33.toInt.toNat) := by
    (try rw [hi_33]); (try rw [hg_5]); (try rw [hv_6]); (try rw [hv_7]); (try rw [hv_8]); (try rw [hv_9]); (try rw [hv_10]); (intro _; rw [show ((0 : Int32).toInt.toNat) = 0 from by decide]; first | (unfold zCP zLT; omega) | (simp [zCP, zLT]; done) | (simp [zCP, zLT]; omega))
  clear h1i_33 hi_33 hg_5 hv_6 hv_7 hv_8 hv_9 hv_10
  skip
  revert hni_33
  revert hloi_33
  revert hvi_33_6
  revert hvi_33_5
  revert hvi_33_4
  revert hvi_33_3
  revert hvi_33_2
  revert hvi_33_1
  revert hvi_33_0
  revert hbv_10
  revert hbv_9
  revert hbv_8
  revert hbv_7
  revert hbv_6
  revert hl
  revert hS
  revert hD
  revert hP
  revert ls
  revert locs
  revert H
  revert g_5
  revert v_6
  revert v_7
  revert v_8
  revert v_9
  revert v_10
  revert i_33
  induction nfu with
  | zero =>
    intro i_33 v_10 v_9 v_8 v_7 v_6 g_5 H locs ls hP hD hS hl hbv_6 hbv_7 hbv_8 hbv_9 hbv_10 hvi_33_0 hvi_33_1 hvi_33_2 hvi_33_3 hvi_33_4 hvi_33_5 hvi_33_6 hloi_33 hni_33
    have hzi_33 : 33 ≤ i_33.toInt := by omega
    refine lv_iload hx hb dX3_read_33 (lv_at hl 0 rfl) ?_
    refine lv_if_eq (tgt := 122) hx hb dX3_read_35 (by decide) (fun c_11 => ?_) (fun c_11 => ?_)
    · have fc_11 : v_10.toInt = 0 := zf_eq c_11 rfl (by decide)
      refine lv_aload_n hx hb dX3_read_122 rfl (lv_at hl 1 rfl) ?_
      refine va_get (D := D) (ci := 3) (v := .int v_7) (C := RX3) (T := TX3) (N := 8) hx hb hts hi_X3_read_3 hown hK hP 1 rfl rfl 5 (by decide) (hts (.fieldLink RX3 28 "TheLiningsInIt$Reader" "fault" "I") (List.mem_of_getElem? (i := 4) rfl)) (fun _ h9 => h9) rfl dX3_read_123 ?_
      exact W.iret (v := v_7) hx hb hr (fun t ht hW => ⟨⟨v_7, (q_3, i_33, v_6, v_7, v_8, v_9, g_5, q_4), rfl, ⟨(show 0 ≤ q_3.toInt ∧ q_3.toInt ≤ 160 from hbq_3), (show 0 ≤ i_33.toInt ∧ i_33.toInt ≤ 33 from ⟨by omega, by omega⟩), (show 0 ≤ v_6.toInt ∧ v_6.toInt ≤ 160 from hbv_6), (show (-1) ≤ v_7.toInt ∧ v_7.toInt ≤ 160 from hbv_7), (show 0 ≤ v_8.toInt ∧ v_8.toInt ≤ 40 from hbv_8), (show 0 ≤ v_9.toInt ∧ v_9.toInt ≤ 8 from hbv_9), (show v_6.toInt ≤ q_3.toInt from by omega), (show (v_7 : Int32).toInt = v_7.toInt from by rfl), (show ((v_7 : Int32).toInt = -1 → ∀ k : Nat, k < i_33.toInt.toNat → zIt g_5 (4 * k)) from by exact hvi_33_1), (show q_3.toInt = si.toInt from by omega), (show (∀ j : Nat, (j : Int) < q_3.toInt → q_4 j = (fe j).toInt32) from by exact hsr_1_1), (show zEnd q_4 q_3.toInt te.toInt pu.toInt (i_33.toInt - 1).toNat v_7.toInt v_8.toInt v_9.toInt from by (rcases (show (v_10 : Int32).toInt = 0 ∨ (v_10 : Int32).toInt = 1 by omega) with h | h; exact (hvi_33_5 h).2; (exfalso; have z := zRgo_rg (by omega) ⟨by omega, by omega⟩ ⟨by omega, by omega⟩ _ _ _ _ (hvi_33_4 h); omega))), (show 1 ≤ i_33.toInt from by (rcases (show (v_10 : Int32).toInt = 0 ∨ (v_10 : Int32).toInt = 1 by omega) with h | h; exact (hvi_33_5 h).1; (exfalso; have z := zRgo_rg (by omega) ⟨by omega, by omega⟩ ⟨by omega, by omega⟩ _ _ _ _ (hvi_33_4 h); omega))), (show (v_7.toInt = -1 → v_9.toInt = pu.toInt + zCP g_5 i_33.toInt.toNat ∧ v_8.toInt = zLT g_5 te.toInt i_33.toInt.toNat) from by exact hvi_33_6), ⟨by omega, by omega⟩⟩, zRet ht hP hD [1, 2, 0, 3, 4] (by decide) rfl⟩, hS.F ht⟩) hS.2.2 dX3_read_126
    · have fc_11 : v_10.toInt ≠ 0 := zf_ne c_11 rfl (by decide)
      refine lv_aload_n hx hb dX3_read_38 rfl (lv_at hl 1 rfl) ?_
      refine va_get (D := D) (ci := 3) (v := .int i_33) (C := RX3) (T := TX3) (N := 8) hx hb hts hi_X3_read_3 hown hK hP 1 rfl rfl 3 (by decide) (hts (.fieldLink RX3 22 "TheLiningsInIt$Reader" "count" "I") (List.mem_of_getElem? (i := 5) rfl)) (fun _ h9 => h9) rfl dX3_read_39 ?_
      refine lv_bipush (v := 33) hx hb dX3_read_42 (by decide) ?_
      refine lv_icmp_ge (tgt := 122) hx hb dX3_read_44 (by decide) (fun c_12 => ?_) (fun c_12 => ?_)
      · have fc_12 : 33 ≤ i_33.toInt := zf_le c_12 (by decide) rfl
        refine lv_aload_n hx hb dX3_read_122 rfl (lv_at hl 1 rfl) ?_
        refine va_get (D := D) (ci := 3) (v := .int v_7) (C := RX3) (T := TX3) (N := 8) hx hb hts hi_X3_read_3 hown hK hP 1 rfl rfl 5 (by decide) (hts (.fieldLink RX3 28 "TheLiningsInIt$Reader" "fault" "I") (List.mem_of_getElem? (i := 4) rfl)) (fun _ h9 => h9) rfl dX3_read_123 ?_
        exact W.iret (v := v_7) hx hb hr (fun t ht hW => ⟨⟨v_7, (q_3, i_33, v_6, v_7, v_8, v_9, g_5, q_4), rfl, ⟨(show 0 ≤ q_3.toInt ∧ q_3.toInt ≤ 160 from hbq_3), (show 0 ≤ i_33.toInt ∧ i_33.toInt ≤ 33 from ⟨by omega, by omega⟩), (show 0 ≤ v_6.toInt ∧ v_6.toInt ≤ 160 from hbv_6), (show (-1) ≤ v_7.toInt ∧ v_7.toInt ≤ 160 from hbv_7), (show 0 ≤ v_8.toInt ∧ v_8.toInt ≤ 40 from hbv_8), (show 0 ≤ v_9.toInt ∧ v_9.toInt ≤ 8 from hbv_9), (show v_6.toInt ≤ q_3.toInt from by omega), (show (v_7 : Int32).toInt = v_7.toInt from by rfl), (show ((v_7 : Int32).toInt = -1 → ∀ k : Nat, k < i_33.toInt.toNat → zIt g_5 (4 * k)) from by exact hvi_33_1), (show q_3.toInt = si.toInt from by omega), (show (∀ j : Nat, (j : Int) < q_3.toInt → q_4 j = (fe j).toInt32) from by exact hsr_1_1), (show zEnd q_4 q_3.toInt te.toInt pu.toInt (i_33.toInt - 1).toNat v_7.toInt v_8.toInt v_9.toInt from by (rcases (show (v_10 : Int32).toInt = 0 ∨ (v_10 : Int32).toInt = 1 by omega) with h | h; exact (hvi_33_5 h).2; (exfalso; have z := zRgo_rg (by omega) ⟨by omega, by omega⟩ ⟨by omega, by omega⟩ _ _ _ _ (hvi_33_4 h); omega))), (show 1 ≤ i_33.toInt from by (rcases (show (v_10 : Int32).toInt = 0 ∨ (v_10 : Int32).toInt = 1 by omega) with h | h; exact (hvi_33_5 h).1; (exfalso; have z := zRgo_rg (by omega) ⟨by omega, by omega⟩ ⟨by omega, by omega⟩ _ _ _ _ (hvi_33_4 h); omega))), (show (v_7.toInt = -1 → v_9.toInt = pu.toInt + zCP g_5 i_33.toInt.toNat ∧ v_8.toInt = zLT g_5 te.toInt i_33.toInt.toNat) from by exact hvi_33_6), ⟨by omega, by omega⟩⟩, zRet ht hP hD [1, 2, 0, 3, 4] (by decide) rfl⟩, hS.F ht⟩) hS.2.2 dX3_read_126
      · exfalso; have fc_12 : i_33.toInt < 33 := zf_nle c_12 (by decide) rfl; omega
  | succ nfu ih =>
    intro i_33 v_10 v_9 v_8 v_7 v_6 g_5 H locs ls hP hD hS hl hbv_6 hbv_7 hbv_8 hbv_9 hbv_10 hvi_33_0 hvi_33_1 hvi_33_2 hvi_33_3 hvi_33_4 hvi_33_5 hvi_33_6 hloi_33 hni_33
    refine lv_iload hx hb dX3_read_33 (lv_at hl 0 rfl) ?_
    refine lv_if_eq (tgt := 122) hx hb dX3_read_35 (by decide) (fun c_13 => ?_) (fun c_13 => ?_)
    · have fc_13 : v_10.toInt = 0 := zf_eq c_13 rfl (by decide)
      refine lv_aload_n hx hb dX3_read_122 rfl (lv_at hl 1 rfl) ?_
      refine va_get (D := D) (ci := 3) (v := .int v_7) (C := RX3) (T := TX3) (N := 8) hx hb hts hi_X3_read_3 hown hK hP 1 rfl rfl 5 (by decide) (hts (.fieldLink RX3 28 "TheLiningsInIt$Reader" "fault" "I") (List.mem_of_getElem? (i := 4) rfl)) (fun _ h9 => h9) rfl dX3_read_123 ?_
      exact W.iret (v := v_7) hx hb hr (fun t ht hW => ⟨⟨v_7, (q_3, i_33, v_6, v_7, v_8, v_9, g_5, q_4), rfl, ⟨(show 0 ≤ q_3.toInt ∧ q_3.toInt ≤ 160 from hbq_3), (show 0 ≤ i_33.toInt ∧ i_33.toInt ≤ 33 from ⟨by omega, by omega⟩), (show 0 ≤ v_6.toInt ∧ v_6.toInt ≤ 160 from hbv_6), (show (-1) ≤ v_7.toInt ∧ v_7.toInt ≤ 160 from hbv_7), (show 0 ≤ v_8.toInt ∧ v_8.toInt ≤ 40 from hbv_8), (show 0 ≤ v_9.toInt ∧ v_9.toInt ≤ 8 from hbv_9), (show v_6.toInt ≤ q_3.toInt from by omega), (show (v_7 : Int32).toInt = v_7.toInt from by rfl), (show ((v_7 : Int32).toInt = -1 → ∀ k : Nat, k < i_33.toInt.toNat → zIt g_5 (4 * k)) from by exact hvi_33_1), (show q_3.toInt = si.toInt from by omega), (show (∀ j : Nat, (j : Int) < q_3.toInt → q_4 j = (fe j).toInt32) from by exact hsr_1_1), (show zEnd q_4 q_3.toInt te.toInt pu.toInt (i_33.toInt - 1).toNat v_7.toInt v_8.toInt v_9.toInt from by (rcases (show (v_10 : Int32).toInt = 0 ∨ (v_10 : Int32).toInt = 1 by omega) with h | h; exact (hvi_33_5 h).2; (exfalso; have z := zRgo_rg (by omega) ⟨by omega, by omega⟩ ⟨by omega, by omega⟩ _ _ _ _ (hvi_33_4 h); omega))), (show 1 ≤ i_33.toInt from by (rcases (show (v_10 : Int32).toInt = 0 ∨ (v_10 : Int32).toInt = 1 by omega) with h | h; exact (hvi_33_5 h).1; (exfalso; have z := zRgo_rg (by omega) ⟨by omega, by omega⟩ ⟨by omega, by omega⟩ _ _ _ _ (hvi_33_4 h); omega))), (show (v_7.toInt = -1 → v_9.toInt = pu.toInt + zCP g_5 i_33.toInt.toNat ∧ v_8.toInt = zLT g_5 te.toInt i_33.toInt.toNat) from by exact hvi_33_6), ⟨by omega, by omega⟩⟩, zRet ht hP hD [1, 2, 0, 3, 4] (by decide) rfl⟩, hS.F ht⟩) hS.2.2 dX3_read_126
    · have fc_13 : v_10.toInt ≠ 0 := zf_ne c_13 rfl (by decide)
      refine lv_aload_n hx hb dX3_read_38 rfl (lv_at hl 1 rfl) ?_
      refine va_get (D := D) (ci := 3) (v := .int i_33) (C := RX3) (T := TX3) (N := 8) hx hb hts hi_X3_read_3 hown hK hP 1 rfl rfl 3 (by decide) (hts (.fieldLink RX3 22 "TheLiningsInIt$Reader" "count" "I") (List.mem_of_getElem? (i := 5) rfl)) (fun _ h9 => h9) rfl dX3_read_39 ?_
      refine lv_bipush (v := 33) hx hb dX3_read_42 (by decide) ?_
      refine lv_icmp_ge (tgt := 122) hx hb dX3_read_44 (by decide) (fun c_14 => ?_) (fun c_14 => ?_)
      · have fc_14 : 33 ≤ i_33.toInt := zf_le c_14 (by decide) rfl
        refine lv_aload_n hx hb dX3_read_122 rfl (lv_at hl 1 rfl) ?_
        refine va_get (D := D) (ci := 3) (v := .int v_7) (C := RX3) (T := TX3) (N := 8) hx hb hts hi_X3_read_3 hown hK hP 1 rfl rfl 5 (by decide) (hts (.fieldLink RX3 28 "TheLiningsInIt$Reader" "fault" "I") (List.mem_of_getElem? (i := 4) rfl)) (fun _ h9 => h9) rfl dX3_read_123 ?_
        exact W.iret (v := v_7) hx hb hr (fun t ht hW => ⟨⟨v_7, (q_3, i_33, v_6, v_7, v_8, v_9, g_5, q_4), rfl, ⟨(show 0 ≤ q_3.toInt ∧ q_3.toInt ≤ 160 from hbq_3), (show 0 ≤ i_33.toInt ∧ i_33.toInt ≤ 33 from ⟨by omega, by omega⟩), (show 0 ≤ v_6.toInt ∧ v_6.toInt ≤ 160 from hbv_6), (show (-1) ≤ v_7.toInt ∧ v_7.toInt ≤ 160 from hbv_7), (show 0 ≤ v_8.toInt ∧ v_8.toInt ≤ 40 from hbv_8), (show 0 ≤ v_9.toInt ∧ v_9.toInt ≤ 8 from hbv_9), (show v_6.toInt ≤ q_3.toInt from by omega), (show (v_7 : Int32).toInt = v_7.toInt from by rfl), (show ((v_7 : Int32).toInt = -1 → ∀ k : Nat, k < i_33.toInt.toNat → zIt g_5 (4 * k)) from by exact hvi_33_1), (show q_3.toInt = si.toInt from by omega), (show (∀ j : Nat, (j : Int) < q_3.toInt → q_4 j = (fe j).toInt32) from by exact hsr_1_1), (show zEnd q_4 q_3.toInt te.toInt pu.toInt (i_33.toInt - 1).toNat v_7.toInt v_8.toInt v_9.toInt from by (rcases (show (v_10 : Int32).toInt = 0 ∨ (v_10 : Int32).toInt = 1 by omega) with h | h; exact (hvi_33_5 h).2; (exfalso; have z := zRgo_rg (by omega) ⟨by omega, by omega⟩ ⟨by omega, by omega⟩ _ _ _ _ (hvi_33_4 h); omega))), (show 1 ≤ i_33.toInt from by (rcases (show (v_10 : Int32).toInt = 0 ∨ (v_10 : Int32).toInt = 1 by omega) with h | h; exact (hvi_33_5 h).1; (exfalso; have z := zRgo_rg (by omega) ⟨by omega, by omega⟩ ⟨by omega, by omega⟩ _ _ _ _ (hvi_33_4 h); omega))), (show (v_7.toInt = -1 → v_9.toInt = pu.toInt + zCP g_5 i_33.toInt.toNat ∧ v_8.toInt = zLT g_5 te.toInt i_33.toInt.toNat) from by exact hvi_33_6), ⟨by omega, by omega⟩⟩, zRet ht hP hD [1, 2, 0, 3, 4] (by decide) rfl⟩, hS.F ht⟩) hS.2.2 dX3_read_126
      · have fc_14 : i_33.toInt < 33 := zf_nle c_14 (by decide) rfl
        refine lv_aload_n hx hb dX3_read_47 rfl (lv_at hl 1 rfl) ?_
        refine lv_aload_n hx hb dX3_read_48 rfl (lv_at hl 1 rfl) ?_
        refine va_get (D := D) (ci := 3) (v := .int i_33) (C := RX3) (T := TX3) (N := 8) hx hb hts hi_X3_read_3 hown hK hP 1 rfl rfl 3 (by decide) (hts (.fieldLink RX3 22 "TheLiningsInIt$Reader" "count" "I") (List.mem_of_getElem? (i := 5) rfl)) (fun _ h9 => h9) rfl dX3_read_49 ?_
        refine lv_iconst (v := 4) hx hb dX3_read_52 (by decide) ?_
        refine lv_imul hx hb dX3_read_53 ?_
        refine lv_topi (fun x_15 ex_15 => ?_)
        have qx_15 : x_15.toInt = i_33.toInt * 4 := by rw [ex_15]; exact zf_mul rfl (by decide) (by omega) (by omega)
        skip
        refine zw_Vv (As := [.int x_15]) (rest := []) (wr := [(h0, .inr (4, [.ref e0, .int he, .int si])), (e0, .inl (cJ, 160, .inr (.inl fe)))]) ⟨hx, hb, hml, hown, hts⟩ (c_F_R_readItem l D cI cJ cZ cP cS po rd ri rl (q_3) (i_33) (v_6) (v_7) (v_8) (v_9) q_4 g_5 (x_15) hbq_3.1 hbq_3.2 (by omega) (by omega) hbv_6.1 hbv_6.2 (by omega) hbv_7.1 hbv_7.2 hbv_8.1 hbv_8.2 hbv_9.1 hbv_9.2 (by omega) (by omega) (by omega) H.size) (cwV 1 hts gX3_read_X3_readItem rfl rfl rfl ⟨rfl, dh_X3_readItem⟩ ⟨Nat.le_of_ble_eq_true rfl, Nat.le_of_ble_eq_true rfl⟩) hK hN (hZ.kept hS) hP hD hS hA [1, 2, 0] [3, 4] rfl rfl (by decide) (by decide) (by decide) (va_recv (q := (RX3, TX3, 8)) hK hP (ci := 3) (q0 := 1) rfl rfl) rfl hl.1 rfl (Nat.le_of_ble_eq_true rfl) dX3_read_54 ⟨Nat.le_of_ble_eq_true rfl, Nat.le_of_ble_eq_true rfl⟩ (fun u_17 H locs hr_16 hP hD hS => ?_)
        obtain ⟨q_18, q_19, q_20, q_21, q_22⟩ := u_17
        try dsimp only at hr_16
        obtain ⟨hbq_18, hbq_19, hbq_20, hbq_21, hsr_16_0, hsr_16_1, hsr_16_2, hsr_16_3, hsr_16_4, hr_16⟩ := hr_16
        have h9R := zRe (ws' := [(h0, .inr (4, [.ref e0, .int he, .int si])), (e0, .inl (cJ, 160, .inr (.inl fe))), (rd, .inr (3, [.ref ri, .ref rl, .int q_3, .int i_33, .int q_18, .int q_19, .int q_20, .int q_21])), (rl, .inl (cI, 160, .inl q_4)), (ri, .inl (cI, 132, .inl q_22))]) hP hD rfl
        clear hP hD
        obtain ⟨hP, hD⟩ := h9R
        refine lv_aload_n hx hb dX3_read_57 rfl (lv_at hl 1 rfl) ?_
        refine va_get (D := D) (ci := 3) (v := .int q_19) (C := RX3) (T := TX3) (N := 8) hx hb hts hi_X3_read_3 hown hK hP 2 rfl rfl 5 (by decide) (hts (.fieldLink RX3 28 "TheLiningsInIt$Reader" "fault" "I") (List.mem_of_getElem? (i := 4) rfl)) (fun _ h9 => h9) rfl dX3_read_58 ?_
        refine lv_iconst (v := (-1)) hx hb dX3_read_61 (by decide) ?_
        refine lv_icmp_ne (tgt := 80) hx hb dX3_read_62 (by decide) (fun c_23 => ?_) (fun c_23 => ?_)
        · have fc_23 : q_19.toInt ≠ (-1) := zf_ne c_23 rfl (by decide)
          refine lv_iconst (v := 0) hx hb dX3_read_80 (by decide) ?_
          refine lv_istore (lv' := [(4, .int 0), (0, .ref rd), (1, .ref h0), (2, .int te), (3, .int pu)]) hx hb dX3_read_81 hl (by decide) rfl (fun ls hl => ?_)
          refine lv_iload hx hb dX3_read_83 (lv_at hl 0 rfl) ?_
          refine lv_if_eq (tgt := 109) hx hb dX3_read_85 (by decide) (fun c_24 => ?_) (fun c_24 => ?_)
          · refine lv_aload_n hx hb dX3_read_109 rfl (lv_at hl 1 rfl) ?_
            refine lv_dup hx hb dX3_read_110 rfl ?_
            refine va_get (D := D) (ci := 3) (v := .int i_33) (C := RX3) (T := TX3) (N := 8) hx hb hts hi_X3_read_3 hown hK hP 2 rfl rfl 3 (by decide) (hts (.fieldLink RX3 22 "TheLiningsInIt$Reader" "count" "I") (List.mem_of_getElem? (i := 5) rfl)) (fun _ h9 => h9) rfl dX3_read_111 ?_
            refine lv_iconst (v := 1) hx hb dX3_read_114 (by decide) ?_
            refine lv_iadd hx hb dX3_read_115 ?_
            refine lv_topi (fun x_25 ex_25 => ?_)
            have qx_25 : x_25.toInt = i_33.toInt + 1 := dw_incK ex_25 fc_14 (by decide)
            refine va_put (D := D) (ci := 3) (v := .int x_25) (ty := .int) (C := RX3) (T := TX3) (N := 8) hx hb hts hi_X3_read_3 tyX3 tyX3_ok nmX3 hown hK hP hD hS 2 rfl rfl 3 (by decide) (hts (.fieldLink RX3 22 "TheLiningsInIt$Reader" "count" "I") (List.mem_of_getElem? (i := 5) rfl)) (fun _ h9 => h9) rfl (tyX3_ok 3 (Nat.le_of_ble_eq_true rfl)) rfl rfl (Nat.le_of_ble_eq_true rfl) dX3_read_116 (fun H locs hP hD hS => ?_)
            have h9R := zRe (ws' := [(h0, .inr (4, [.ref e0, .int he, .int si])), (e0, .inl (cJ, 160, .inr (.inl fe))), (rd, .inr (3, [.ref ri, .ref rl, .int q_3, .int x_25, .int q_18, .int q_19, .int q_20, .int q_21])), (rl, .inl (cI, 160, .inl q_4)), (ri, .inl (cI, 132, .inl q_22))]) hP hD rfl
            clear hP hD
            obtain ⟨hP, hD⟩ := h9R
            refine lv_goto (tgt := 33) hx hb dX3_read_119 (by decide) ?_
            exact ih x_25 0 (q_21) (q_20) (q_19) (q_18) (q_22) _ _ _ (hP.sub [4, 2, 3, 0, 1] rfl) (hD.sub [4, 2, 3, 0, 1] (by decide) rfl) hS (lv_sub hl [0, 1, 2, 3, 4] rfl) hbq_18 hbq_19 hbq_20 hbq_21 ⟨by decide, by decide⟩ (show (q_18 : Int32).toInt ≤ (q_3 : Int32).toInt from by omega) (show ((q_19 : Int32).toInt = -1 → ∀ k : Nat, k < x_25.toInt.toNat → zIt q_22 (4 * k)) from by (intro hrf k hk; exact (Nat.lt_or_ge k i_33.toInt.toNat).elim (fun h => zIt_keep hsr_16_2 (by omega) (hvi_33_1 (hvi_33_3 (by omega)) k h)) (fun h => by (have e4 : x_15.toInt.toNat = 4 * k := (by omega); have z := hsr_16_1 (by omega); rw [e4] at z; exact z)))) (show x_25.toInt ≤ 33 from by omega) (show ((0 : Int32).toInt = 1 → (q_19 : Int32).toInt = -1) from by (intro h; first | omega | exact absurd h (by decide))) (show ((0 : Int32).toInt = 1 → zRgo q_4 (q_3 : Int32).toInt te.toInt pu.toInt x_25.toInt.toNat = some ((q_18 : Int32).toInt, (q_20 : Int32).toInt, (q_21 : Int32).toInt)) from by (intro h; exact absurd h (by decide))) (show ((0 : Int32).toInt = 0 → 1 ≤ x_25.toInt ∧ zEnd q_4 (q_3 : Int32).toInt te.toInt pu.toInt (x_25.toInt - 1).toNat (q_19 : Int32).toInt (q_20 : Int32).toInt (q_21 : Int32).toInt) from by (intro _; obtain ⟨z1, z2⟩ := hsr_16_3; refine ⟨by omega, ?_⟩; first | exact zEnd_a (hvi_33_4 (by omega)) (by omega) (by omega) (by omega) | (obtain ⟨z3, z4, z5⟩ := z2 (by omega); exact zEnd_b (hvi_33_4 (by omega)) (by omega) (by omega) (by omega) z4 z5 (by omega)) | (obtain ⟨z3, z4, z5⟩ := z2 (by omega); exact zEnd_c (hvi_33_4 (by omega)) (by omega) (by omega) (by rw [← z3]; omega) (by omega) (by omega)))) (show ((q_19 : Int32).toInt = -1 → (q_21 : Int32).toInt = pu.toInt + zCP q_22 x_25.toInt.toNat ∧ (q_20 : Int32).toInt = zLT q_22 te.toInt x_25.toInt.toNat) from by (intro hrf; obtain ⟨c1, c2⟩ := hvi_33_6 (hvi_33_3 (by omega)); have e4 : x_15.toInt.toNat = 4 * i_33.toInt.toNat := (by omega); have z := hsr_16_4 (by omega); have z2 := hsr_16_2; rw [e4] at z z2; exact ⟨zCP_S (i := i_33.toInt) (n := i_33.toInt.toNat) (by omega) (by omega) z2 c1 z.2.2.1 z.2.2.2, zLT_S (i := i_33.toInt) (n := i_33.toInt.toNat) (by omega) (by omega) z2 c2 z.1 z.2.1⟩)) (dw_lo hloi_33 qx_25) (dw_hn hni_33 qx_25)
          · exact absurd c_24 (by decide)
        · have fc_23 : q_19.toInt = (-1) := zf_eq c_23 rfl (by decide)
          refine lv_aload_n hx hb dX3_read_65 rfl (lv_at hl 1 rfl) ?_
          refine va_get (D := D) (ci := 3) (v := .int q_18) (C := RX3) (T := TX3) (N := 8) hx hb hts hi_X3_read_3 hown hK hP 2 rfl rfl 4 (by decide) (hts (.fieldLink RX3 25 "TheLiningsInIt$Reader" "place" "I") (List.mem_of_getElem? (i := 3) rfl)) (fun _ h9 => h9) rfl dX3_read_66 ?_
          refine lv_aload_n hx hb dX3_read_69 rfl (lv_at hl 1 rfl) ?_
          refine va_get (D := D) (ci := 3) (v := .int q_3) (C := RX3) (T := TX3) (N := 8) hx hb hts hi_X3_read_3 hown hK hP 2 rfl rfl 2 (by decide) (hts (.fieldLink RX3 18 "TheLiningsInIt$Reader" "size" "I") (List.mem_of_getElem? (i := 6) rfl)) (fun _ h9 => h9) rfl dX3_read_70 ?_
          refine lv_icmp_ge (tgt := 80) hx hb dX3_read_73 (by decide) (fun c_26 => ?_) (fun c_26 => ?_)
          · have fc_26 : q_3.toInt ≤ q_18.toInt := zf_le c_26 rfl rfl
            refine lv_iconst (v := 0) hx hb dX3_read_80 (by decide) ?_
            refine lv_istore (lv' := [(4, .int 0), (0, .ref rd), (1, .ref h0), (2, .int te), (3, .int pu)]) hx hb dX3_read_81 hl (by decide) rfl (fun ls hl => ?_)
            refine lv_iload hx hb dX3_read_83 (lv_at hl 0 rfl) ?_
            refine lv_if_eq (tgt := 109) hx hb dX3_read_85 (by decide) (fun c_27 => ?_) (fun c_27 => ?_)
            · refine lv_aload_n hx hb dX3_read_109 rfl (lv_at hl 1 rfl) ?_
              refine lv_dup hx hb dX3_read_110 rfl ?_
              refine va_get (D := D) (ci := 3) (v := .int i_33) (C := RX3) (T := TX3) (N := 8) hx hb hts hi_X3_read_3 hown hK hP 2 rfl rfl 3 (by decide) (hts (.fieldLink RX3 22 "TheLiningsInIt$Reader" "count" "I") (List.mem_of_getElem? (i := 5) rfl)) (fun _ h9 => h9) rfl dX3_read_111 ?_
              refine lv_iconst (v := 1) hx hb dX3_read_114 (by decide) ?_
              refine lv_iadd hx hb dX3_read_115 ?_
              refine lv_topi (fun x_28 ex_28 => ?_)
              have qx_28 : x_28.toInt = i_33.toInt + 1 := dw_incK ex_28 fc_14 (by decide)
              refine va_put (D := D) (ci := 3) (v := .int x_28) (ty := .int) (C := RX3) (T := TX3) (N := 8) hx hb hts hi_X3_read_3 tyX3 tyX3_ok nmX3 hown hK hP hD hS 2 rfl rfl 3 (by decide) (hts (.fieldLink RX3 22 "TheLiningsInIt$Reader" "count" "I") (List.mem_of_getElem? (i := 5) rfl)) (fun _ h9 => h9) rfl (tyX3_ok 3 (Nat.le_of_ble_eq_true rfl)) rfl rfl (Nat.le_of_ble_eq_true rfl) dX3_read_116 (fun H locs hP hD hS => ?_)
              have h9R := zRe (ws' := [(h0, .inr (4, [.ref e0, .int he, .int si])), (e0, .inl (cJ, 160, .inr (.inl fe))), (rd, .inr (3, [.ref ri, .ref rl, .int q_3, .int x_28, .int q_18, .int q_19, .int q_20, .int q_21])), (rl, .inl (cI, 160, .inl q_4)), (ri, .inl (cI, 132, .inl q_22))]) hP hD rfl
              clear hP hD
              obtain ⟨hP, hD⟩ := h9R
              refine lv_goto (tgt := 33) hx hb dX3_read_119 (by decide) ?_
              exact ih x_28 0 (q_21) (q_20) (q_19) (q_18) (q_22) _ _ _ (hP.sub [4, 2, 3, 0, 1] rfl) (hD.sub [4, 2, 3, 0, 1] (by decide) rfl) hS (lv_sub hl [0, 1, 2, 3, 4] rfl) hbq_18 hbq_19 hbq_20 hbq_21 ⟨by decide, by decide⟩ (show (q_18 : Int32).toInt ≤ (q_3 : Int32).toInt from by omega) (show ((q_19 : Int32).toInt = -1 → ∀ k : Nat, k < x_28.toInt.toNat → zIt q_22 (4 * k)) from by (intro hrf k hk; exact (Nat.lt_or_ge k i_33.toInt.toNat).elim (fun h => zIt_keep hsr_16_2 (by omega) (hvi_33_1 (hvi_33_3 (by omega)) k h)) (fun h => by (have e4 : x_15.toInt.toNat = 4 * k := (by omega); have z := hsr_16_1 (by omega); rw [e4] at z; exact z)))) (show x_28.toInt ≤ 33 from by omega) (show ((0 : Int32).toInt = 1 → (q_19 : Int32).toInt = -1) from by (intro h; first | omega | exact absurd h (by decide))) (show ((0 : Int32).toInt = 1 → zRgo q_4 (q_3 : Int32).toInt te.toInt pu.toInt x_28.toInt.toNat = some ((q_18 : Int32).toInt, (q_20 : Int32).toInt, (q_21 : Int32).toInt)) from by (intro h; exact absurd h (by decide))) (show ((0 : Int32).toInt = 0 → 1 ≤ x_28.toInt ∧ zEnd q_4 (q_3 : Int32).toInt te.toInt pu.toInt (x_28.toInt - 1).toNat (q_19 : Int32).toInt (q_20 : Int32).toInt (q_21 : Int32).toInt) from by (intro _; obtain ⟨z1, z2⟩ := hsr_16_3; refine ⟨by omega, ?_⟩; first | exact zEnd_a (hvi_33_4 (by omega)) (by omega) (by omega) (by omega) | (obtain ⟨z3, z4, z5⟩ := z2 (by omega); exact zEnd_b (hvi_33_4 (by omega)) (by omega) (by omega) (by omega) z4 z5 (by omega)) | (obtain ⟨z3, z4, z5⟩ := z2 (by omega); exact zEnd_c (hvi_33_4 (by omega)) (by omega) (by omega) (by rw [← z3]; omega) (by omega) (by omega)))) (show ((q_19 : Int32).toInt = -1 → (q_21 : Int32).toInt = pu.toInt + zCP q_22 x_28.toInt.toNat ∧ (q_20 : Int32).toInt = zLT q_22 te.toInt x_28.toInt.toNat) from by (intro hrf; obtain ⟨c1, c2⟩ := hvi_33_6 (hvi_33_3 (by omega)); have e4 : x_15.toInt.toNat = 4 * i_33.toInt.toNat := (by omega); have z := hsr_16_4 (by omega); have z2 := hsr_16_2; rw [e4] at z z2; exact ⟨zCP_S (i := i_33.toInt) (n := i_33.toInt.toNat) (by omega) (by omega) z2 c1 z.2.2.1 z.2.2.2, zLT_S (i := i_33.toInt) (n := i_33.toInt.toNat) (by omega) (by omega) z2 c2 z.1 z.2.1⟩)) (dw_lo hloi_33 qx_28) (dw_hn hni_33 qx_28)
            · exact absurd c_27 (by decide)
          · have fc_26 : q_18.toInt < q_3.toInt := zf_nle c_26 rfl rfl
            refine lv_iconst (v := 1) hx hb dX3_read_76 (by decide) ?_
            refine lv_goto (tgt := 81) hx hb dX3_read_77 (by decide) ?_
            refine lv_istore (lv' := [(4, .int 1), (0, .ref rd), (1, .ref h0), (2, .int te), (3, .int pu)]) hx hb dX3_read_81 hl (by decide) rfl (fun ls hl => ?_)
            refine lv_iload hx hb dX3_read_83 (lv_at hl 0 rfl) ?_
            refine lv_if_eq (tgt := 109) hx hb dX3_read_85 (by decide) (fun c_29 => ?_) (fun c_29 => ?_)
            · exact absurd c_29 (by decide)
            · refine lv_aload_n hx hb dX3_read_88 rfl (lv_at hl 1 rfl) ?_
              refine lv_bipush (v := 59) hx hb dX3_read_89 (by decide) ?_
              have kc59 : (59 : Int32).toInt = 59 := by decide
              skip
              refine zw_Vv (As := [.int 59]) (rest := []) (wr := [(h0, .inr (4, [.ref e0, .int he, .int si])), (e0, .inl (cJ, 160, .inr (.inl fe))), (ri, .inl (cI, 132, .inl q_22))]) ⟨hx, hb, hml, hown, hts⟩ (c_F_R_expect l D cI cJ cZ cP cS po rd ri rl (q_3) (i_33) (q_18) (q_19) (q_20) (q_21) q_4 (59) hbq_3.1 hbq_3.2 (by omega) (by omega) hbq_18.1 hbq_18.2 (by omega) hbq_19.1 hbq_19.2 hbq_20.1 hbq_20.2 hbq_21.1 hbq_21.2 H.size) (cwV 1 hts gX3_read_X3_expect rfl rfl rfl ⟨rfl, dh_X3_expect⟩ ⟨Nat.le_of_ble_eq_true rfl, Nat.le_of_ble_eq_true rfl⟩) hK hN (hZ.kept hS) hP hD hS hA [2, 3] [0, 1, 4] rfl rfl (by decide) (by decide) (by decide) (va_recv (q := (RX3, TX3, 8)) hK hP (ci := 3) (q0 := 2) rfl rfl) rfl hl.1 rfl (Nat.le_of_ble_eq_true rfl) dX3_read_91 ⟨Nat.le_of_ble_eq_true rfl, Nat.le_of_ble_eq_true rfl⟩ (fun u_31 H locs hr_30 hP hD hS => ?_)
              obtain ⟨q_32, q_33⟩ := u_31
              try dsimp only at hr_30
              obtain ⟨hbq_32, hbq_33, hsr_30_0, hsr_30_1, hr_30⟩ := hr_30
              have h9R := zRe (ws' := [(h0, .inr (4, [.ref e0, .int he, .int si])), (e0, .inl (cJ, 160, .inr (.inl fe))), (ri, .inl (cI, 132, .inl q_22)), (rd, .inr (3, [.ref ri, .ref rl, .int q_3, .int i_33, .int q_32, .int q_33, .int q_20, .int q_21])), (rl, .inl (cI, 160, .inl q_4))]) hP hD rfl
              clear hP hD
              obtain ⟨hP, hD⟩ := h9R
              refine lv_aload_n hx hb dX3_read_94 rfl (lv_at hl 1 rfl) ?_
              refine va_get (D := D) (ci := 3) (v := .int q_33) (C := RX3) (T := TX3) (N := 8) hx hb hts hi_X3_read_3 hown hK hP 3 rfl rfl 5 (by decide) (hts (.fieldLink RX3 28 "TheLiningsInIt$Reader" "fault" "I") (List.mem_of_getElem? (i := 4) rfl)) (fun _ h9 => h9) rfl dX3_read_95 ?_
              refine lv_iconst (v := (-1)) hx hb dX3_read_98 (by decide) ?_
              refine lv_icmp_ne (tgt := 106) hx hb dX3_read_99 (by decide) (fun c_34 => ?_) (fun c_34 => ?_)
              · have fc_34 : q_33.toInt ≠ (-1) := zf_ne c_34 rfl (by decide)
                refine lv_iconst (v := 0) hx hb dX3_read_106 (by decide) ?_
                refine lv_istore (lv' := [(4, .int 0), (0, .ref rd), (1, .ref h0), (2, .int te), (3, .int pu)]) hx hb dX3_read_107 hl (by decide) rfl (fun ls hl => ?_)
                refine lv_aload_n hx hb dX3_read_109 rfl (lv_at hl 1 rfl) ?_
                refine lv_dup hx hb dX3_read_110 rfl ?_
                refine va_get (D := D) (ci := 3) (v := .int i_33) (C := RX3) (T := TX3) (N := 8) hx hb hts hi_X3_read_3 hown hK hP 3 rfl rfl 3 (by decide) (hts (.fieldLink RX3 22 "TheLiningsInIt$Reader" "count" "I") (List.mem_of_getElem? (i := 5) rfl)) (fun _ h9 => h9) rfl dX3_read_111 ?_
                refine lv_iconst (v := 1) hx hb dX3_read_114 (by decide) ?_
                refine lv_iadd hx hb dX3_read_115 ?_
                refine lv_topi (fun x_35 ex_35 => ?_)
                have qx_35 : x_35.toInt = i_33.toInt + 1 := dw_incK ex_35 fc_14 (by decide)
                refine va_put (D := D) (ci := 3) (v := .int x_35) (ty := .int) (C := RX3) (T := TX3) (N := 8) hx hb hts hi_X3_read_3 tyX3 tyX3_ok nmX3 hown hK hP hD hS 3 rfl rfl 3 (by decide) (hts (.fieldLink RX3 22 "TheLiningsInIt$Reader" "count" "I") (List.mem_of_getElem? (i := 5) rfl)) (fun _ h9 => h9) rfl (tyX3_ok 3 (Nat.le_of_ble_eq_true rfl)) rfl rfl (Nat.le_of_ble_eq_true rfl) dX3_read_116 (fun H locs hP hD hS => ?_)
                have h9R := zRe (ws' := [(h0, .inr (4, [.ref e0, .int he, .int si])), (e0, .inl (cJ, 160, .inr (.inl fe))), (ri, .inl (cI, 132, .inl q_22)), (rd, .inr (3, [.ref ri, .ref rl, .int q_3, .int x_35, .int q_32, .int q_33, .int q_20, .int q_21])), (rl, .inl (cI, 160, .inl q_4))]) hP hD rfl
                clear hP hD
                obtain ⟨hP, hD⟩ := h9R
                refine lv_goto (tgt := 33) hx hb dX3_read_119 (by decide) ?_
                exact ih x_35 0 (q_21) (q_20) (q_33) (q_32) (q_22) _ _ _ (hP.sub [2, 3, 4, 0, 1] rfl) (hD.sub [2, 3, 4, 0, 1] (by decide) rfl) hS (lv_sub hl [0, 1, 2, 3, 4] rfl) hbq_32 hbq_33 hbq_20 hbq_21 ⟨by decide, by decide⟩ (show (q_32 : Int32).toInt ≤ (q_3 : Int32).toInt from by omega) (show ((q_33 : Int32).toInt = -1 → ∀ k : Nat, k < x_35.toInt.toNat → zIt q_22 (4 * k)) from by (intro hrf k hk; exact (Nat.lt_or_ge k i_33.toInt.toNat).elim (fun h => zIt_keep hsr_16_2 (by omega) (hvi_33_1 (hvi_33_3 (by omega)) k h)) (fun h => by (have e4 : x_15.toInt.toNat = 4 * k := (by omega); have z := hsr_16_1 (by omega); rw [e4] at z; exact z)))) (show x_35.toInt ≤ 33 from by omega) (show ((0 : Int32).toInt = 1 → (q_33 : Int32).toInt = -1) from by (intro h; first | omega | exact absurd h (by decide))) (show ((0 : Int32).toInt = 1 → zRgo q_4 (q_3 : Int32).toInt te.toInt pu.toInt x_35.toInt.toNat = some ((q_32 : Int32).toInt, (q_20 : Int32).toInt, (q_21 : Int32).toInt)) from by (intro h; exact absurd h (by decide))) (show ((0 : Int32).toInt = 0 → 1 ≤ x_35.toInt ∧ zEnd q_4 (q_3 : Int32).toInt te.toInt pu.toInt (x_35.toInt - 1).toNat (q_33 : Int32).toInt (q_20 : Int32).toInt (q_21 : Int32).toInt) from by (intro _; obtain ⟨z1, z2⟩ := hsr_16_3; refine ⟨by omega, ?_⟩; first | exact zEnd_a (hvi_33_4 (by omega)) (by omega) (by omega) (by omega) | (obtain ⟨z3, z4, z5⟩ := z2 (by omega); exact zEnd_b (hvi_33_4 (by omega)) (by omega) (by omega) (by omega) z4 z5 (by omega)) | (obtain ⟨z3, z4, z5⟩ := z2 (by omega); exact zEnd_c (hvi_33_4 (by omega)) (by omega) (by omega) (by rw [← z3]; omega) (by omega) (by omega)))) (show ((q_33 : Int32).toInt = -1 → (q_21 : Int32).toInt = pu.toInt + zCP q_22 x_35.toInt.toNat ∧ (q_20 : Int32).toInt = zLT q_22 te.toInt x_35.toInt.toNat) from by (intro hrf; obtain ⟨c1, c2⟩ := hvi_33_6 (hvi_33_3 (by omega)); have e4 : x_15.toInt.toNat = 4 * i_33.toInt.toNat := (by omega); have z := hsr_16_4 (by omega); have z2 := hsr_16_2; rw [e4] at z z2; exact ⟨zCP_S (i := i_33.toInt) (n := i_33.toInt.toNat) (by omega) (by omega) z2 c1 z.2.2.1 z.2.2.2, zLT_S (i := i_33.toInt) (n := i_33.toInt.toNat) (by omega) (by omega) z2 c2 z.1 z.2.1⟩)) (dw_lo hloi_33 qx_35) (dw_hn hni_33 qx_35)
              · have fc_34 : q_33.toInt = (-1) := zf_eq c_34 rfl (by decide)
                refine lv_iconst (v := 1) hx hb dX3_read_102 (by decide) ?_
                refine lv_goto (tgt := 107) hx hb dX3_read_103 (by decide) ?_
                refine lv_istore (lv' := [(4, .int 1), (0, .ref rd), (1, .ref h0), (2, .int te), (3, .int pu)]) hx hb dX3_read_107 hl (by decide) rfl (fun ls hl => ?_)
                refine lv_aload_n hx hb dX3_read_109 rfl (lv_at hl 1 rfl) ?_
                refine lv_dup hx hb dX3_read_110 rfl ?_
                refine va_get (D := D) (ci := 3) (v := .int i_33) (C := RX3) (T := TX3) (N := 8) hx hb hts hi_X3_read_3 hown hK hP 3 rfl rfl 3 (by decide) (hts (.fieldLink RX3 22 "TheLiningsInIt$Reader" "count" "I") (List.mem_of_getElem? (i := 5) rfl)) (fun _ h9 => h9) rfl dX3_read_111 ?_
                refine lv_iconst (v := 1) hx hb dX3_read_114 (by decide) ?_
                refine lv_iadd hx hb dX3_read_115 ?_
                refine lv_topi (fun x_36 ex_36 => ?_)
                have qx_36 : x_36.toInt = i_33.toInt + 1 := dw_incK ex_36 fc_14 (by decide)
                refine va_put (D := D) (ci := 3) (v := .int x_36) (ty := .int) (C := RX3) (T := TX3) (N := 8) hx hb hts hi_X3_read_3 tyX3 tyX3_ok nmX3 hown hK hP hD hS 3 rfl rfl 3 (by decide) (hts (.fieldLink RX3 22 "TheLiningsInIt$Reader" "count" "I") (List.mem_of_getElem? (i := 5) rfl)) (fun _ h9 => h9) rfl (tyX3_ok 3 (Nat.le_of_ble_eq_true rfl)) rfl rfl (Nat.le_of_ble_eq_true rfl) dX3_read_116 (fun H locs hP hD hS => ?_)
                have h9R := zRe (ws' := [(h0, .inr (4, [.ref e0, .int he, .int si])), (e0, .inl (cJ, 160, .inr (.inl fe))), (ri, .inl (cI, 132, .inl q_22)), (rd, .inr (3, [.ref ri, .ref rl, .int q_3, .int x_36, .int q_32, .int q_33, .int q_20, .int q_21])), (rl, .inl (cI, 160, .inl q_4))]) hP hD rfl
                clear hP hD
                obtain ⟨hP, hD⟩ := h9R
                refine lv_goto (tgt := 33) hx hb dX3_read_119 (by decide) ?_
                exact ih x_36 1 (q_21) (q_20) (q_33) (q_32) (q_22) _ _ _ (hP.sub [2, 3, 4, 0, 1] rfl) (hD.sub [2, 3, 4, 0, 1] (by decide) rfl) hS (lv_sub hl [0, 1, 2, 3, 4] rfl) hbq_32 hbq_33 hbq_20 hbq_21 ⟨by decide, by decide⟩ (show (q_32 : Int32).toInt ≤ (q_3 : Int32).toInt from by omega) (show ((q_33 : Int32).toInt = -1 → ∀ k : Nat, k < x_36.toInt.toNat → zIt q_22 (4 * k)) from by (intro hrf k hk; exact (Nat.lt_or_ge k i_33.toInt.toNat).elim (fun h => zIt_keep hsr_16_2 (by omega) (hvi_33_1 (hvi_33_3 (by omega)) k h)) (fun h => by (have e4 : x_15.toInt.toNat = 4 * k := (by omega); have z := hsr_16_1 (by omega); rw [e4] at z; exact z)))) (show x_36.toInt ≤ 33 from by omega) (show ((1 : Int32).toInt = 1 → (q_33 : Int32).toInt = -1) from by (intro h; first | omega | exact absurd h (by decide))) (show ((1 : Int32).toInt = 1 → zRgo q_4 (q_3 : Int32).toInt te.toInt pu.toInt x_36.toInt.toNat = some ((q_32 : Int32).toInt, (q_20 : Int32).toInt, (q_21 : Int32).toInt)) from by (intro _; obtain ⟨z1, z2⟩ := hsr_16_3; obtain ⟨z3, z4, z5⟩ := z2 (by omega); exact zRgo_S (hvi_33_4 (by omega)) (by omega) (by omega) (by rw [← z3]; omega) (by omega) z4 z5 (by omega))) (show ((1 : Int32).toInt = 0 → 1 ≤ x_36.toInt ∧ zEnd q_4 (q_3 : Int32).toInt te.toInt pu.toInt (x_36.toInt - 1).toNat (q_33 : Int32).toInt (q_20 : Int32).toInt (q_21 : Int32).toInt) from by (intro h; exact absurd h (by decide))) (show ((q_33 : Int32).toInt = -1 → (q_21 : Int32).toInt = pu.toInt + zCP q_22 x_36.toInt.toNat ∧ (q_20 : Int32).toInt = zLT q_22 te.toInt x_36.toInt.toNat) from by (intro hrf; obtain ⟨c1, c2⟩ := hvi_33_6 (hvi_33_3 (by omega)); have e4 : x_15.toInt.toNat = 4 * i_33.toInt.toNat := (by omega); have z := hsr_16_4 (by omega); have z2 := hsr_16_2; rw [e4] at z z2; exact ⟨zCP_S (i := i_33.toInt) (n := i_33.toInt.toNat) (by omega) (by omega) z2 c1 z.2.2.1 z.2.2.2, zLT_S (i := i_33.toInt) (n := i_33.toInt.toNat) (by omega) (by omega) z2 c2 z.1 z.2.1⟩)) (dw_lo hloi_33 qx_36) (dw_hn hni_33 qx_36)
end
