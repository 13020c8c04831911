/-! the reference: its tables, its told words, its copies -/
def zWoL : List Int32 := [116, 101, 101, 116, 104, 32, 0, 108, 97, 99, 107, 32, 0, 115, 108, 97, 99, 107, 32, 0, 112, 117, 108, 108, 32, 0, 100, 101, 112, 116, 104, 32, 0, 115, 101, 99, 111, 110, 100, 115, 32, 0, 104, 117, 114, 114, 121, 32, 0, 103, 97, 112, 32, 0, 99, 111, 115, 116, 32, 0, 97, 116, 32, 0]
def zNuL : List Int32 := [1, 1, 2, 3, 1, 1, 1, 1, 2, 1]
def zHWo (f : Nat → Int32) : Prop := ∀ j : Nat, j < 64 → f j = zWoL.getD j 0
def zHNu (f : Nat → Int32) : Prop := ∀ j : Nat, j < 10 → f j = zNuL.getD j 0
def zBgL : List Nat := [0, 7, 13, 20, 26, 33, 42, 49, 54, 60]
def zEnL : List Nat := [6, 12, 19, 25, 32, 41, 48, 53, 59, 63]
def zBg (w : Nat) : Nat := zBgL.getD w 64
def zEn (w : Nat) : Nat := zEnL.getD w 64
theorem zBE (w : Nat) (h : w < 10) : zBg (w + 1) = zEn w + 1 ∧ zBg w < zEn w ∧ zEn w ≤ 63 := by
  have g : ∀ w : Nat, w < 10 → zBg (w + 1) = zEn w + 1 ∧ zBg w < zEn w ∧ zEn w ≤ 63 := by decide
  exact g w h
theorem zWo_rd {f : Nat → Int32} (hf : zHWo f) {w c : Nat} (hw : w < 10) (h1 : zBg w ≤ c) (h2 : c ≤ zEn w) : (f c).toInt = 0 ↔ c = zEn w := by
  have hc : c < 64 := by have := (zBE w hw).2.2; omega
  rw [hf c hc]
  have g : ∀ w : Nat, w < 10 → ∀ c : Nat, c < 64 → zBg w ≤ c → c ≤ zEn w → ((zWoL.getD c 0).toInt = 0 ↔ c = zEn w) := by decide +kernel
  exact g w hw c hc h1 h2
/-- where a shelf holds a pull, its number may be one -/
def zHS (f g : Nat → Int32) : Prop := ∀ j : Nat, (f j).toInt = 2 → 0 ≤ (g j).toInt ∧ (g j).toInt ≤ 7
/-- between which numbers the elements of a copy lie -/
def zKl (j : Nat) : Int := if j < 107 then 0 else if j = 107 then 0 else if j = 108 then 4 else if j = 109 then 0 else if j = 110 then 0 else if j = 113 then 0 else -2147483648
def zKh (j : Nat) : Int := if j < 8 then 6 else if j < 16 then 9 else if j < 24 then 60 else if j < 64 then 1 else if j < 104 then 9 else if j < 107 then 99 else if j = 107 then 8 else if j = 108 then 40 else if j = 109 then 40 else if j = 110 then 24 else if j = 113 then 9 else 2147483647
def zKp (g : Nat → Int32) : Prop := ∀ j : Nat, j < 116 → zKl j ≤ (g j).toInt ∧ (g j).toInt ≤ zKh j
def zCar (fo ft : Nat → Int32) (f n : Nat) : Nat → Int32 := fun j => if f ≤ j ∧ j < f + n then fo (j - f) else ft j
def zCab (ft fo : Nat → Int32) (f n : Nat) : Nat → Int32 := fun j => if j < n then ft (f + j) else fo j
/-- the copy of all -/
def zAll (fk fp ft fl fs fc : Nat → Int32) (i0 i1 i2 i3 i4 i5 i6 i7 i8 : Int32) : Nat → Int32 := fun j => if j < 8 then fk j else if j < 16 then fp (j - 8) else if j < 24 then ft (j - 16) else if j < 64 then fl (j - 24) else if j < 104 then fs (j - 64) else if j < 107 then fc (j - 104) else if j = 107 then i0 else if j = 108 then i1 else if j = 109 then i2 else if j = 110 then i3 else if j = 111 then i4 else if j = 112 then i5 else if j = 113 then i6 else if j = 114 then i7 else i8
theorem zAll_kp {fk fp ft fl fs fc g : Nat → Int32} {i0 i1 i2 i3 i4 i5 i6 i7 i8 : Int32} (hg : ∀ j : Nat, j < 116 → g j = zAll fk fp ft fl fs fc i0 i1 i2 i3 i4 i5 i6 i7 i8 j) (h1 : zRg fk 0 6) (h2 : zRg fp 0 9) (h3 : zRg ft 0 60) (h4 : zRg fl 0 1) (h5 : zRg fs 0 9) (h6 : zRg fc 0 99) (h7 : 0 ≤ i0.toInt ∧ i0.toInt ≤ 8) (h8 : 4 ≤ i1.toInt ∧ i1.toInt ≤ 40) (h9 : 0 ≤ i2.toInt ∧ i2.toInt ≤ 40) (h10 : 0 ≤ i3.toInt ∧ i3.toInt ≤ 24) (h11 : 0 ≤ i6.toInt ∧ i6.toInt ≤ 9) : zKp g := by
  intro j hj
  rw [hg j hj]
  have r4 := zf_rng i4
  have r5 := zf_rng i5
  have r7 := zf_rng i7
  have r8 := zf_rng i8
  have a1 := h1 j
  have a2 := h2 (j - 8)
  have a3 := h3 (j - 16)
  have a4 := h4 (j - 24)
  have a5 := h5 (j - 64)
  have a6 := h6 (j - 104)
  unfold zAll zKl zKh
  by_cases c1 : j < 8
  · rw [if_pos c1, if_pos (by omega), if_pos c1]; exact a1
  by_cases c2 : j < 16
  · rw [if_neg c1, if_pos c2, if_pos (by omega), if_neg c1, if_pos c2]; exact a2
  by_cases c3 : j < 24
  · rw [if_neg c1, if_neg c2, if_pos c3, if_pos (by omega), if_neg c1, if_neg c2, if_pos c3]; exact a3
  by_cases c4 : j < 64
  · rw [if_neg c1, if_neg c2, if_neg c3, if_pos c4, if_pos (by omega), if_neg c1, if_neg c2, if_neg c3, if_pos c4]; exact a4
  by_cases c5 : j < 104
  · rw [if_neg c1, if_neg c2, if_neg c3, if_neg c4, if_pos c5, if_pos (by omega), if_neg c1, if_neg c2, if_neg c3, if_neg c4, if_pos c5]; exact a5
  by_cases c6 : j < 107
  · rw [if_neg c1, if_neg c2, if_neg c3, if_neg c4, if_neg c5, if_pos c6, if_pos (by omega), if_neg c1, if_neg c2, if_neg c3, if_neg c4, if_neg c5, if_pos c6]; exact a6
  · rcases (show j = 107 ∨ j = 108 ∨ j = 109 ∨ j = 110 ∨ j = 111 ∨ j = 112 ∨ j = 113 ∨ j = 114 ∨ j = 115 by omega) with rfl | rfl | rfl | rfl | rfl | rfl | rfl | rfl | rfl
    · exact h7
    · exact h8
    · exact h9
    · exact h10
    · exact r4
    · exact r5
    · exact h11
    · exact r7
    · exact r8
def zStep (k a : Int) : Int := if k = 2 then 2 + a / 3 else if k = 4 ∨ k = 6 then 2 else if k = 5 then 4 else 1
/-- a place that several roads come to: walked once -/
theorem zcut {p : Program} {l : Launch} {e : Env} {R : Room} {s : State} {m : MethodId} {args : Array Value} {below : List Frame} {meth : Method} {c : Code} {Q : State → Prop} {H0 : Heap} {locs0 : List Loc} {g : JFrame} (T : (Heap → List Loc → Array Slot → Prop) → Prop) (pc : Nat) (h1 : T (fun H locs ls => W p l e R s m args below meth c H locs 0 0 Q (F0 m pc ls []))) (h2 : T (fun H locs ls => W p l e R s m args below meth c H locs 0 0 Q (F0 m pc ls [])) → W p l e R s m args below meth c H0 locs0 0 0 Q g) : W p l e R s m args below meth c H0 locs0 0 0 Q g := h2 h1
/-- an element of a row of letters, as an int; so many letters of a word that stand at a place -/
def zChX (f : Nat → Int64) (n : Nat) : Int32 := (f n).toInt32
def zStN (f : Nat → Int64) (b e pl : Int) (w : Nat → Int32) (p n : Nat) : Prop := ∀ k : Nat, k < n → pl + k < e ∧ zChX f (b + (pl + k)).toNat = w (p + k)
theorem zStN_0 {f : Nat → Int64} {b e pl : Int} {w : Nat → Int32} {p : Nat} : zStN f b e pl w p 0 := fun k hk => absurd hk (Nat.not_lt_zero k)
theorem zStN_S {f : Nat → Int64} {b e pl q : Int} {w : Nat → Int32} {p n n2 : Nat} {y z : Int32} (h : zStN f b e pl w p n) (hq : q = pl + n) (he : q < e) (hy : y = zChX f (b + q).toNat) (hz : z = w (p + n)) (hyz : y = z) (hn : n2 = n + 1) : zStN f b e pl w p n2 := by
  subst hn
  intro k hk
  rcases Nat.lt_or_ge k n with h1 | h1
  · exact h k h1
  · obtain rfl : k = n := by omega
    subst hq
    exact ⟨he, by rw [← hy, hyz, hz]⟩
theorem zseg {P : Prop} {j : Nat} (hj : j < 116) (h1 : j < 8 → P) (h2 : ¬ j < 8 → j < 16 → P) (h3 : ¬ j < 16 → j < 24 → P) (h4 : ¬ j < 24 → j < 64 → P) (h5 : ¬ j < 64 → j < 104 → P) (h6 : ¬ j < 104 → j < 107 → P) (h7 : (j = 107 ∨ j = 108 ∨ j = 109 ∨ j = 110 ∨ j = 111 ∨ j = 112 ∨ j = 113 ∨ j = 114 ∨ j = 115) → P) : P := by
  by_cases c1 : j < 8
  · exact h1 c1
  by_cases c2 : j < 16
  · exact h2 c1 c2
  by_cases c3 : j < 24
  · exact h3 c2 c3
  by_cases c4 : j < 64
  · exact h4 c3 c4
  by_cases c5 : j < 104
  · exact h5 c4 c5
  by_cases c6 : j < 107
  · exact h6 c5 c6
  · exact h7 (by omega)

