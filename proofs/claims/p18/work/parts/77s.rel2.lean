/-! the two worlds' teeth, pulls and numbers, side by side -/
theorem zRgo_pre {f : Nat → Int32} {e te pu : Int} {k : Nat} {z : Int × Int × Int} (h : zRgo f e te pu (k + 1) = some z) : ∃ p t u : Int, zRgo f e te pu k = some (p, t, u) ∧ (zItem f e p t u).1 = -1 := by
  rw [zRgo_s] at h
  cases e1 : zRgo f e te pu k with
  | none => rw [e1] at h; cases h
  | some q =>
    obtain ⟨p, t, u⟩ := q
    rw [e1] at h
    dsimp only at h
    by_cases c : (zItem f e p t u).1 = -1 ∧ (zItem f e p t u).2.1 < e ∧ (f (zItem f e p t u).2.1.toNat).toInt = 59
    · exact ⟨p, t, u, rfl, c.1⟩
    · rw [if_neg c] at h; cases h
theorem zRgo_all {f : Nat → Int32} {e te pu : Int} : ∀ (k : Nat) (z : Int × Int × Int), zRgo f e te pu k = some z → ∀ i : Nat, i < k → ∃ p t u : Int, zRgo f e te pu i = some (p, t, u) ∧ (zItem f e p t u).1 = -1 := by
  intro k
  induction k with
  | zero => intro z _ i hi; omega
  | succ k ih =>
    intro z h i hi
    obtain ⟨p, t, u, h1, h2⟩ := zRgo_pre h
    rcases Nat.lt_or_ge i k with h3 | h3
    · exact ih _ h1 i h3
    · obtain rfl : i = k := by omega
      exact ⟨p, t, u, h1, h2⟩
/-- told alike, the items are the same -/
theorem zJac_dd {f g : Nat → Int32} {si s he lf cn sz r lf2 cn2 sz2 si' he' : Int} (h : zJac f si s he lf cn sz r lf2 cn2 sz2) (h1 : (0 ≤ s ∧ s ≤ 7) → ((he = -1 ∧ he' = -1) ∨ ((0 ≤ he ∧ he < 100) ∧ 0 ≤ he' ∧ he' < 100) ∨ (100 ≤ he ∧ 100 ≤ he' ∧ si = si' ∧ 0 ≤ si ∧ ∀ j : Int, 0 ≤ j → j < si → f j.toNat = g j.toNat))) (ht : 4 ≤ sz ∧ sz ≤ 40) (hu : 0 ≤ cn ∧ cn ≤ 8) (hr : 1 ≤ r) : ∀ k : Nat, k < r.toNat → zSm (zDI f si sz cn k) (zDI g si' sz cn k) := by
  intro k hk
  unfold zJac at h
  rcases h with h | h | h | ⟨hs, hh, n, R, T, U, hE, h⟩
  · omega
  · omega
  · omega
  · rcases h1 hs with h2 | h2 | ⟨-, -, rfl, h0, h2⟩
    · omega
    · omega
    · rcases h with h | h
      · omega
      · obtain ⟨p, t, u, e1, e2⟩ := hE
        have ok : ∃ p t u : Int, zRgo f si sz cn k = some (p, t, u) ∧ (zItem f si p t u).1 = -1 := by
          rcases Nat.lt_or_ge k n with h3 | h3
          · exact zRgo_all n _ e1 k h3
          · obtain rfl : k = n := by omega
            refine ⟨p, t, u, e1, ?_⟩
            rcases e2 with ⟨a, b⟩ | ⟨a, -⟩ | ⟨a, -⟩
            · exact absurd (b ▸ h.1 : (zItem f si p t u).1 = -1) a
            · exact a
            · exact a
        obtain ⟨p2, t2, u2, a1, a2⟩ := ok
        rw [zDI_congr h2 h0 ht hu a1 a2]
        exact zSm.rfl
theorem zAll_at {fk fp ft fl fs fc : Nat → Int32} {i0 i1 i2 i3 i4 i5 i6 i7 i8 : Int32} : (∀ j : Nat, j < 8 → zAll fk fp ft fl fs fc i0 i1 i2 i3 i4 i5 i6 i7 i8 (0 + j) = fk j) ∧ (∀ j : Nat, j < 8 → zAll fk fp ft fl fs fc i0 i1 i2 i3 i4 i5 i6 i7 i8 (8 + j) = fp j) ∧ (∀ j : Nat, j < 8 → zAll fk fp ft fl fs fc i0 i1 i2 i3 i4 i5 i6 i7 i8 (16 + j) = ft j) ∧ (∀ j : Nat, j < 40 → zAll fk fp ft fl fs fc i0 i1 i2 i3 i4 i5 i6 i7 i8 (24 + j) = fl j) ∧ (∀ j : Nat, j < 40 → zAll fk fp ft fl fs fc i0 i1 i2 i3 i4 i5 i6 i7 i8 (64 + j) = fs j) ∧ (∀ j : Nat, j < 3 → zAll fk fp ft fl fs fc i0 i1 i2 i3 i4 i5 i6 i7 i8 (104 + j) = fc j) := by
  refine ⟨fun j hj => ?_, fun j hj => ?_, fun j hj => ?_, fun j hj => ?_, fun j hj => ?_, fun j hj => ?_⟩ <;> unfold zAll <;> ((repeat (first | rw [if_pos (by omega)] | rw [if_neg (by omega)])) <;> congr 1; omega)
/-- the teeth of both -/
def zTt (fl fs gl gs : Nat → Int32) (gp ng : Int32) : Prop := (∀ j : Nat, j < 40 → fl j = gl j) ∧ (∀ j : Nat, j < 40 → fs j = gs j) ∧ gp.toInt = ng.toInt
def zTk_ (fl fs ge : Nat → Int32) (gp : Int32) : Prop := (∀ j : Nat, j < 40 → fl j = ge (24 + j)) ∧ (∀ j : Nat, j < 40 → fs j = ge (64 + j)) ∧ gp.toInt = (ge 114).toInt
theorem zTt_teeth {fl fs gl gs fl2 fs2 gl2 gs2 : Nat → Int32} {gp ng n a b a2 b2 : Int32} (h : zTt fl fs gl gs gp ng) (x : ((4 ≤ n.toInt ∧ n.toInt ≤ 40) ∧ (∀ j : Nat, j < 40 → fl2 j = 0) ∧ (∀ j : Nat, j < 40 → fs2 j = 0) ∧ a.toInt = 0) ∨ (¬ (4 ≤ n.toInt ∧ n.toInt ≤ 40) ∧ fl2 = fl ∧ fs2 = fs ∧ a = a2)) (y : ((4 ≤ n.toInt ∧ n.toInt ≤ 40) ∧ (∀ j : Nat, j < 40 → gl2 j = 0) ∧ (∀ j : Nat, j < 40 → gs2 j = 0) ∧ b.toInt = 0) ∨ (¬ (4 ≤ n.toInt ∧ n.toInt ≤ 40) ∧ gl2 = gl ∧ gs2 = gs ∧ b = b2)) : zTt fl2 fs2 gl2 gs2 gp ng := by
  obtain ⟨h1, h2, h3⟩ := h
  rcases x with ⟨a1, a2, a3, -⟩ | ⟨a1, a2, a3, -⟩ <;> rcases y with ⟨b1, b2, b3, -⟩ | ⟨b1, b2, b3, -⟩
  · exact ⟨fun j hj => (a2 j hj).trans (b2 j hj).symm, fun j hj => (a3 j hj).trans (b3 j hj).symm, h3⟩
  · exact absurd a1 b1
  · exact absurd b1 a1
  · rw [a2, a3, b2, b3]; exact ⟨h1, h2, h3⟩
theorem zTt_lack {fl fs gl gs fl2 gl2 : Nat → Int32} {gp ng t b sz nt r q : Int32} (h : zTt fl fs gl gs gp ng) (hs : sz.toInt = nt.toInt) (h4 : sz.toInt ≤ 40) (x : ((0 ≤ t.toInt ∧ t.toInt < sz.toInt) ∧ r.toInt = (fl t.toNatClampNeg).toInt ∧ fl2 = upd fl t.toNatClampNeg b) ∨ (¬ (0 ≤ t.toInt ∧ t.toInt < sz.toInt) ∧ r.toInt = -1 ∧ fl2 = fl)) (y : ((0 ≤ t.toInt ∧ t.toInt < nt.toInt) ∧ q.toInt = (gl t.toNatClampNeg).toInt ∧ gl2 = upd gl t.toNatClampNeg b) ∨ (¬ (0 ≤ t.toInt ∧ t.toInt < nt.toInt) ∧ q.toInt = -1 ∧ gl2 = gl)) : zTt fl2 fs gl2 gs gp ng ∧ r.toInt = q.toInt := by
  obtain ⟨h1, h2, h3⟩ := h
  rw [← hs] at y
  rcases x with ⟨a1, a2, a3⟩ | ⟨a1, a2, a3⟩ <;> rcases y with ⟨b1, b2, b3⟩ | ⟨b1, b2, b3⟩
  · refine ⟨⟨fun j hj => ?_, h2, h3⟩, by rw [a2, b2, h1 _ (by have : t.toNatClampNeg = t.toInt.toNat := rfl; omega)]⟩
    rw [a3, b3]; simp only [upd]; split
    · rfl
    · exact h1 j hj
  · exact absurd a1 b1
  · exact absurd b1 a1
  · rw [a3, b3]; exact ⟨⟨h1, h2, h3⟩, by omega⟩
theorem zTt_slack {fl fs gl gs fs2 gs2 : Nat → Int32} {gp ng t v sz nt r q : Int32} (h : zTt fl fs gl gs gp ng) (hs : sz.toInt = nt.toInt) (h4 : sz.toInt ≤ 40) (x : ((0 ≤ t.toInt ∧ t.toInt < sz.toInt) ∧ (0 ≤ v.toInt ∧ v.toInt ≤ 9) ∧ r.toInt = (fs t.toNatClampNeg).toInt ∧ fs2 = upd fs t.toNatClampNeg v) ∨ (¬ (0 ≤ t.toInt ∧ t.toInt < sz.toInt) ∧ r.toInt = -1 ∧ fs2 = fs) ∨ ((0 ≤ t.toInt ∧ t.toInt < sz.toInt) ∧ ¬ (0 ≤ v.toInt ∧ v.toInt ≤ 9) ∧ r.toInt = -6 ∧ fs2 = fs)) (y : ((0 ≤ t.toInt ∧ t.toInt < nt.toInt) ∧ (0 ≤ v.toInt ∧ v.toInt ≤ 9) ∧ q.toInt = (gs t.toNatClampNeg).toInt ∧ gs2 = upd gs t.toNatClampNeg v) ∨ (¬ (0 ≤ t.toInt ∧ t.toInt < nt.toInt) ∧ q.toInt = -1 ∧ gs2 = gs) ∨ ((0 ≤ t.toInt ∧ t.toInt < nt.toInt) ∧ ¬ (0 ≤ v.toInt ∧ v.toInt ≤ 9) ∧ q.toInt = -6 ∧ gs2 = gs)) : zTt fl fs2 gl gs2 gp ng ∧ r.toInt = q.toInt := by
  obtain ⟨h1, h2, h3⟩ := h
  rw [← hs] at y
  rcases x with ⟨a1, a5, a2, a3⟩ | ⟨a1, a2, a3⟩ | ⟨a1, a5, a2, a3⟩ <;> rcases y with ⟨b1, b5, b2, b3⟩ | ⟨b1, b2, b3⟩ | ⟨b1, b5, b2, b3⟩
  · refine ⟨⟨h1, fun j hj => ?_, h3⟩, by rw [a2, b2, h2 _ (by have : t.toNatClampNeg = t.toInt.toNat := rfl; omega)]⟩
    rw [a3, b3]; simp only [upd]; split
    · rfl
    · exact h2 j hj
  · exact absurd a1 b1
  · exact absurd a5 b5
  · exact absurd b1 a1
  · rw [a3, b3]; exact ⟨⟨h1, h2, h3⟩, by omega⟩
  · exact absurd b1 a1
  · exact absurd b5 a5
  · exact absurd a1 b1
  · rw [a3, b3]; exact ⟨⟨h1, h2, h3⟩, by omega⟩
theorem zTt_stitch {fl fs gl gs fs2 gs2 : Nat → Int32} {gp ng t sz nt r q : Int32} (h : zTt fl fs gl gs gp ng) (hs : sz.toInt = nt.toInt) (h4 : sz.toInt ≤ 40) (x : ((0 ≤ t.toInt ∧ t.toInt < sz.toInt) ∧ r.toInt = zTk fs sz.toInt (t.toInt - 2) 5 ∧ (∀ j : Nat, fs2 j = (if t.toInt - 2 ≤ (j : Int) ∧ (j : Int) ≤ t.toInt + 2 ∧ (j : Int) < sz.toInt then 0 else fs j))) ∨ (¬ (0 ≤ t.toInt ∧ t.toInt < sz.toInt) ∧ r.toInt = -1 ∧ fs2 = fs)) (y : ((0 ≤ t.toInt ∧ t.toInt < nt.toInt) ∧ q.toInt = zTk gs nt.toInt (t.toInt - 2) 5 ∧ (∀ j : Nat, gs2 j = (if t.toInt - 2 ≤ (j : Int) ∧ (j : Int) ≤ t.toInt + 2 ∧ (j : Int) < nt.toInt then 0 else gs j))) ∨ (¬ (0 ≤ t.toInt ∧ t.toInt < nt.toInt) ∧ q.toInt = -1 ∧ gs2 = gs)) : zTt fl fs2 gl gs2 gp ng ∧ r.toInt = q.toInt := by
  obtain ⟨h1, h2, h3⟩ := h
  rw [← hs] at y
  rcases x with ⟨a1, a2, a3⟩ | ⟨a1, a2, a3⟩ <;> rcases y with ⟨b1, b2, b3⟩ | ⟨b1, b2, b3⟩
  · refine ⟨⟨h1, fun j hj => ?_, h3⟩, by rw [a2, b2, zTk_congr h4 h2]⟩
    rw [a3, b3, h2 j hj]
  · exact absurd a1 b1
  · exact absurd b1 a1
  · rw [a3, b3]; exact ⟨⟨h1, h2, h3⟩, by omega⟩
theorem zTt_ask {fl fs gl gs : Nat → Int32} {gp ng gp2 ng2 : Int32} {P Q P2 Q2 : Prop} {w v : Int} {te te2 r r2 q q2 : Int} (h : zTt fl fs gl gs gp ng) (hte : te = te2) (x : (zAsk w v te ∧ r = r2 ∧ P ∧ (gp2.toInt = (if w = 3 then v else gp.toInt)) ∧ P2) ∨ (¬ zAsk w v te ∧ r = -6 ∧ gp2 = gp)) (y : (zAsk w v te2 ∧ q = q2 ∧ Q ∧ (ng2.toInt = (if w = 3 then v else ng.toInt)) ∧ Q2) ∨ (¬ zAsk w v te2 ∧ q = -6 ∧ ng2 = ng)) : zTt fl fs gl gs gp2 ng2 := by
  obtain ⟨h1, h2, h3⟩ := h
  subst hte
  refine ⟨h1, h2, ?_⟩
  rcases x with ⟨a1, -, -, a2, -⟩ | ⟨a1, -, a2⟩ <;> rcases y with ⟨b1, -, -, b2, -⟩ | ⟨b1, -, b2⟩
  · rw [a2, b2, h3]
  · exact absurd a1 b1
  · exact absurd b1 a1
  · rw [a2, b2, h3]
theorem zTt_jac {fl fs gl gs fl2 fs2 gl2 gs2 : Nat → Int32} {gp ng gp2 ng2 r q : Int32} {d e : Nat → zIt4} (h : zTt fl fs gl gs gp ng) (hr : r.toInt = q.toInt) (hd : 1 ≤ r.toInt → ∀ k : Nat, k < r.toInt.toNat → zSm (d k) (e k))
    (x0 : 1 ≤ r.toInt → ∀ j : Nat, j < 40 → fl2 j = zRl d fl r.toInt.toNat j) (x1 : 1 ≤ r.toInt → ∀ j : Nat, j < 40 → fs2 j = zRs d fs r.toInt.toNat j) (x2 : 1 ≤ r.toInt → gp2.toInt = zRn 7 d gp.toInt r.toInt.toNat) (x3 : r.toInt < 1 → fl2 = fl ∧ fs2 = fs ∧ gp2 = gp)
    (y0 : 1 ≤ q.toInt → ∀ j : Nat, j < 40 → gl2 j = zRl e gl q.toInt.toNat j) (y1 : 1 ≤ q.toInt → ∀ j : Nat, j < 40 → gs2 j = zRs e gs q.toInt.toNat j) (y2 : 1 ≤ q.toInt → ng2.toInt = zRn 7 e ng.toInt q.toInt.toNat) (y3 : q.toInt < 1 → (∀ j : Nat, j < 40 → gl2 j = gl j) ∧ (∀ j : Nat, j < 40 → gs2 j = gs j) ∧ ng2 = ng) : zTt fl2 fs2 gl2 gs2 gp2 ng2 := by
  obtain ⟨h1, h2, h3⟩ := h
  rw [← hr] at y0 y1 y2 y3
  by_cases c : 1 ≤ r.toInt
  · have hd := hd c
    refine ⟨fun j hj => ?_, fun j hj => ?_, ?_⟩
    · rw [x0 c j hj, y0 c j hj]; exact zRl_sm hd h1 j hj
    · rw [x1 c j hj, y1 c j hj]; exact zRs_sm hd h2 j hj
    · rw [x2 c, y2 c]; exact zRn_sm hd h3
  · obtain ⟨a1, a2, a3⟩ := x3 (by omega)
    obtain ⟨b1, b2, b3⟩ := y3 (by omega)
    rw [a1, a2, a3, b3]
    exact ⟨fun j hj => (h1 j hj).trans (b1 j hj).symm, fun j hj => (h2 j hj).trans (b2 j hj).symm, h3⟩
theorem zTt_image {fl fs gl gs kfl kfs ge : Nat → Int32} {gp ng kgp : Int32} (h : zTt fl fs gl gs gp ng) (x : kgp = gp) (x1 : ∀ j : Nat, j < 40 → kfl j = fl j) (x2 : ∀ j : Nat, j < 40 → kfs j = fs j) (y1 : ∀ j : Nat, j < 40 → ge (24 + j) = gl j) (y2 : ∀ j : Nat, j < 40 → ge (64 + j) = gs j) (y3 : ge 114 = ng) : zTk_ kfl kfs ge kgp := by
  obtain ⟨h1, h2, h3⟩ := h
  exact ⟨fun j hj => by rw [x1 j hj, y1 j hj, h1 j hj], fun j hj => by rw [x2 j hj, y2 j hj, h2 j hj], by rw [x, y3, h3]⟩
theorem zTt_rest {fl fs gl gs fl2 fs2 gl2 gs2 kfl kfs ge : Nat → Int32} {gp ng gp2 ng2 kgp im nik : Int32} (h : zTt fl fs gl gs gp ng) (hk : nik.toInt = 1 → zTk_ kfl kfs ge kgp) (hi : im.toInt = nik.toInt) (hb : 0 ≤ nik.toInt ∧ nik.toInt ≤ 1) (x : (im.toInt = 0 ∧ fl2 = fl ∧ fs2 = fs ∧ gp2 = gp) ∨ (im.toInt ≠ 0 ∧ (∀ j : Nat, j < 40 → fl2 j = kfl j) ∧ (∀ j : Nat, j < 40 → fs2 j = kfs j) ∧ gp2 = kgp)) (y : (nik.toInt = 0 ∧ gl2 = gl ∧ gs2 = gs ∧ ng2 = ng) ∨ (nik.toInt ≠ 0 ∧ (∀ j : Nat, j < 40 → gl2 j = ge (24 + j)) ∧ (∀ j : Nat, j < 40 → gs2 j = ge (64 + j)) ∧ ng2 = ge 114)) : zTt fl2 fs2 gl2 gs2 gp2 ng2 := by
  rcases x with ⟨a1, a2, a3, a4⟩ | ⟨a1, a2, a3, a4⟩ <;> rcases y with ⟨b1, b2, b3, b4⟩ | ⟨b1, b2, b3, b4⟩
  · rw [a2, a3, a4, b2, b3, b4]; exact h
  · omega
  · omega
  · obtain ⟨k1, k2, k3⟩ := hk (by omega)
    exact ⟨fun j hj => by rw [a2 j hj, b2 j hj, k1 j hj], fun j hj => by rw [a3 j hj, b3 j hj, k2 j hj], by rw [a4, b4, k3]⟩
/-- what strong answers -/
theorem zTt_strong {fl fs gl gs : Nat → Int32} {gp ng sz nt w r q : Int32} (h : zTt fl fs gl gs gp ng) (hs : sz.toInt = nt.toInt) (h4 : 4 ≤ sz.toInt ∧ sz.toInt ≤ 40) (hl : zRg fl 0 1) (hg : zRg gl 0 1)
    (x : (w.toInt = 0 ∧ ((zHd fl sz.toInt ∧ r.toInt = 1) ∨ (¬ zHd fl sz.toInt ∧ r.toInt = 0))) ∨ (w.toInt = 1 ∧ ((zHd fl sz.toInt ∧ r.toInt = zCf fl sz.toInt sz.toInt.toNat) ∨ (¬ zHd fl sz.toInt ∧ r.toInt = 0))) ∨ (w.toInt = 2 ∧ ((zHd fl sz.toInt ∧ r.toInt = zMx3 (zSp (-41) fl sz.toInt.toNat)) ∨ (¬ zHd fl sz.toInt ∧ r.toInt = 0))) ∨ (w.toInt = 3 ∧ r.toInt = zCl fl sz.toInt.toNat) ∨ ((w.toInt < 0 ∨ 3 < w.toInt) ∧ r.toInt = -5))
    (y : (w.toInt = 0 ∧ ((zHd gl nt.toInt ∧ q.toInt = 1) ∨ (¬ zHd gl nt.toInt ∧ q.toInt = 0))) ∨ (w.toInt = 1 ∧ ((zHd gl nt.toInt ∧ q.toInt = zCf gl nt.toInt nt.toInt.toNat) ∨ (¬ zHd gl nt.toInt ∧ q.toInt = 0))) ∨ (w.toInt = 2 ∧ ((zHd gl nt.toInt ∧ q.toInt = zMx3 (zSp (-100) gl nt.toInt.toNat)) ∨ (¬ zHd gl nt.toInt ∧ q.toInt = 0))) ∨ (w.toInt = 3 ∧ q.toInt = zCl gl nt.toInt.toNat) ∨ ((w.toInt < 0 ∨ 3 < w.toInt) ∧ q.toInt = -5)) : r.toInt = q.toInt := by
  obtain ⟨h1, -, -⟩ := h
  rw [← hs] at y
  have hd : zHd gl sz.toInt ↔ zHd fl sz.toInt := ⟨zHd_congr h4.2 (fun j hj => (h1 j hj).symm), zHd_congr h4.2 h1⟩
  rw [hd, ← zCf_congr h4.2 h1 sz.toInt.toNat (by omega), ← zCl_congr h1 sz.toInt.toNat (by omega), ← zSp_congr h1 sz.toInt.toNat (by omega)] at y
  by_cases c : zHd fl sz.toInt
  · have e := zSp_max (v := -41) (w := -100) (l := fl) (k := sz.toInt.toNat) hl c (by omega) (by omega) (by omega) (by omega)
    simp only [c, not_true, true_and, false_and, or_false] at x y
    omega
  · simp only [c, not_false_eq_true, true_and, false_and, false_or] at x y
    omega
theorem zTt_cat {fl fs gl gs : Nat → Int32} {gp ng sz nt i r q : Int32} (h : zTt fl fs gl gs gp ng) (hs : sz.toInt = nt.toInt) (h4 : 4 ≤ sz.toInt ∧ sz.toInt ≤ 40) (x : ∃ z : Int, zCat fl fs gp.toInt sz.toInt i.toInt z ∧ r.toInt = (if z = -1 then -5 else z)) (y : (i.toInt < -1 → q.toInt = -5) ∧ (-1 ≤ i.toInt → ∃ z : Int, zCat gl gs ng.toInt nt.toInt i.toInt z ∧ q.toInt = (if z = -1 then -5 else z))) : r.toInt = q.toInt := by
  obtain ⟨h1, h2, h3⟩ := h
  obtain ⟨z, x1, x2⟩ := x
  by_cases c : i.toInt < -1
  · rw [x2, y.1 c, zCat_low x1 c, if_pos rfl]
  · obtain ⟨z2, y1, y2⟩ := y.2 (by omega)
    rw [← h3, ← hs] at y1
    rw [x2, y2, zCat_one (zCat_congr h1 h2 ⟨by omega, h4.2⟩ x1) y1]
theorem zTt_sti {fl fs gl gs : Nat → Int32} {gp ng sz nt i r q : Int32} (h : zTt fl fs gl gs gp ng) (hs : sz.toInt = nt.toInt) (h4 : 4 ≤ sz.toInt ∧ sz.toInt ≤ 40) (x : ∃ z : Int, zSti fl fs gp.toInt sz.toInt i.toInt z ∧ r.toInt = (if z = -1 then -5 else z)) (y : (i.toInt < -1 → q.toInt = -5) ∧ (-1 ≤ i.toInt → ∃ z : Int, zSti gl gs ng.toInt nt.toInt i.toInt z ∧ q.toInt = (if z = -1 then -5 else z))) : r.toInt = q.toInt := by
  obtain ⟨h1, h2, h3⟩ := h
  obtain ⟨z, x1, x2⟩ := x
  by_cases c : i.toInt < -1
  · rw [x2, y.1 c, zSti_low x1 c, if_pos rfl]
  · obtain ⟨z2, y1, y2⟩ := y.2 (by omega)
    rw [← h3, ← hs] at y1
    rw [x2, y2, zSti_one (zSti_congr h1 h2 ⟨by omega, h4.2⟩ x1) y1]
/-- the pulls' numbers of both, and the hurry -/
def zTp (K A T gk ga gt : Nat → Int32) (hu nh : Int32) : Prop := (∀ j : Nat, j < 8 → K j = gk j ∧ A j = ga j ∧ T j = gt j) ∧ hu.toInt = nh.toInt
def zTq (K A T ge : Nat → Int32) (hu : Int32) : Prop := (∀ j : Nat, j < 8 → K j = ge (0 + j) ∧ A j = ge (8 + j) ∧ T j = ge (16 + j)) ∧ hu.toInt = (ge 113).toInt
theorem zTp_pull {K A T gk ga gt K2 A2 T2 gk2 ga2 gt2 : Nat → Int32} {hu nh cn np ki a t r q : Int32} (h : zTp K A T gk ga gt hu nh) (hc : cn.toInt = np.toInt) (hr : r.toInt = q.toInt) (x : (r.toInt < 0 ∧ K2 = K ∧ A2 = A ∧ T2 = T) ∨ (0 ≤ r.toInt ∧ K2 = upd K cn.toNatClampNeg ki ∧ A2 = upd A cn.toNatClampNeg a ∧ T2 = upd T cn.toNatClampNeg t)) (y : (q.toInt < 0 ∧ gk2 = gk ∧ ga2 = ga ∧ gt2 = gt) ∨ (0 ≤ q.toInt ∧ gk2 = upd gk np.toNatClampNeg ki ∧ ga2 = upd ga np.toNatClampNeg a ∧ gt2 = upd gt np.toNatClampNeg t)) : zTp K2 A2 T2 gk2 ga2 gt2 hu nh := by
  obtain rfl : cn = np := Int32.toInt_inj.mp hc
  obtain ⟨h1, h2⟩ := h
  refine ⟨?_, h2⟩
  rcases x with ⟨a1, rfl, rfl, rfl⟩ | ⟨a1, rfl, rfl, rfl⟩ <;> rcases y with ⟨b1, rfl, rfl, rfl⟩ | ⟨b1, rfl, rfl, rfl⟩
  · exact h1
  · omega
  · omega
  · intro j hj
    obtain ⟨z1, z2, z3⟩ := h1 j hj
    simp only [upd]
    split
    · exact ⟨rfl, rfl, rfl⟩
    · exact ⟨z1, z2, z3⟩
theorem zTp_ask {K A T gk ga gt : Nat → Int32} {hu nh hu2 nh2 : Int32} {P Q P2 Q2 : Prop} {w v : Int} {te te2 : Int} {r r2 q q2 : Int} (h : zTp K A T gk ga gt hu nh) (hte : te = te2) (x : (zAsk w v te ∧ r = r2 ∧ P ∧ (hu2.toInt = (if w = 2 then v else hu.toInt)) ∧ P2) ∨ (¬ zAsk w v te ∧ r = -6 ∧ hu2 = hu)) (y : (zAsk w v te2 ∧ q = q2 ∧ Q ∧ (nh2.toInt = (if w = 2 then v else nh.toInt)) ∧ Q2) ∨ (¬ zAsk w v te2 ∧ q = -6 ∧ nh2 = nh)) : zTp K A T gk ga gt hu2 nh2 := by
  obtain ⟨h1, h3⟩ := h
  subst hte
  refine ⟨h1, ?_⟩
  rcases x with ⟨a1, -, -, a2, -⟩ | ⟨a1, -, a2⟩ <;> rcases y with ⟨b1, -, -, b2, -⟩ | ⟨b1, -, b2⟩
  · rw [a2, b2, h3]
  · exact absurd a1 b1
  · exact absurd b1 a1
  · rw [a2, b2, h3]
theorem zTp_jac {K A T gk ga gt K2 A2 T2 gk2 ga2 gt2 : Nat → Int32} {hu nh hu2 nh2 r q : Int32} {d e : Nat → zIt4} {c : Int} (h : zTp K A T gk ga gt hu nh) (hr : r.toInt = q.toInt) (hd : 1 ≤ r.toInt → ∀ k : Nat, k < r.toInt.toNat → zSm (d k) (e k))
    (x0 : 1 ≤ r.toInt → ∀ j : Nat, j < 8 → K2 j = zRk d c K r.toInt.toNat j ∧ A2 j = zRa d c A r.toInt.toNat j ∧ T2 j = zRt d c T r.toInt.toNat j) (x2 : 1 ≤ r.toInt → hu2.toInt = zRn 6 d hu.toInt r.toInt.toNat) (x3 : r.toInt < 1 → K2 = K ∧ A2 = A ∧ T2 = T ∧ hu2 = hu)
    (y0 : 1 ≤ q.toInt → gk2 = zRk e c gk q.toInt.toNat ∧ ga2 = zRa e c ga q.toInt.toNat ∧ gt2 = zRt e c gt q.toInt.toNat) (y2 : 1 ≤ q.toInt → nh2.toInt = zRn 6 e nh.toInt q.toInt.toNat) (y3 : q.toInt < 1 → (∀ j : Nat, j < 8 → gk2 j = gk j ∧ ga2 j = ga j ∧ gt2 j = gt j) ∧ nh2 = nh) : zTp K2 A2 T2 gk2 ga2 gt2 hu2 nh2 := by
  obtain ⟨h1, h3⟩ := h
  rw [← hr] at y0 y2 y3
  by_cases c9 : 1 ≤ r.toInt
  · have hd := hd c9
    obtain ⟨rfl, rfl, rfl⟩ := y0 c9
    refine ⟨fun j hj => ?_, ?_⟩
    · obtain ⟨z1, z2, z3⟩ := x0 c9 j hj
      rw [z1, z2, z3]
      exact ⟨zRk_sm hd (fun j hj => (h1 j hj).1) j hj, zRa_sm hd (fun j hj => (h1 j hj).2.1) j hj, zRt_sm hd (fun j hj => (h1 j hj).2.2) j hj⟩
    · rw [x2 c9, y2 c9]; exact zRn_sm hd h3
  · obtain ⟨rfl, rfl, rfl, a4⟩ := x3 (by omega)
    obtain ⟨b1, b2⟩ := y3 (by omega)
    rw [a4, b2]
    exact ⟨fun j hj => by obtain ⟨z1, z2, z3⟩ := h1 j hj; obtain ⟨w1, w2, w3⟩ := b1 j hj; exact ⟨z1.trans w1.symm, z2.trans w2.symm, z3.trans w3.symm⟩, h3⟩
theorem zTp_image {K A T gk ga gt ge : Nat → Int32} {hu nh khu : Int32} (h : zTp K A T gk ga gt hu nh) (x : khu = hu) (y0 : ∀ j : Nat, j < 8 → ge (0 + j) = gk j) (y1 : ∀ j : Nat, j < 8 → ge (8 + j) = ga j) (y2 : ∀ j : Nat, j < 8 → ge (16 + j) = gt j) (y3 : ge 113 = nh) : zTq K A T ge khu := by
  obtain ⟨h1, h2⟩ := h
  exact ⟨fun j hj => by rw [y0 j hj, y1 j hj, y2 j hj]; exact h1 j hj, by rw [x, y3, h2]⟩
theorem zTp_rest {K A T gk ga gt K2 A2 T2 gk2 ga2 gt2 KK KA KT ge : Nat → Int32} {hu nh hu2 nh2 khu im nik : Int32} (h : zTp K A T gk ga gt hu nh) (hk : nik.toInt = 1 → zTq KK KA KT ge khu) (hi : im.toInt = nik.toInt) (hb : 0 ≤ nik.toInt ∧ nik.toInt ≤ 1) (g : (im.toInt = 0 ∧ K2 = K ∧ A2 = A ∧ T2 = T) ∨ (im.toInt ≠ 0 ∧ K2 = KK ∧ A2 = KA ∧ T2 = KT)) (x : (im.toInt = 0 ∧ hu2 = hu) ∨ (im.toInt ≠ 0 ∧ hu2 = khu)) (y : (nik.toInt = 0 ∧ gk2 = gk ∧ ga2 = ga ∧ gt2 = gt ∧ nh2 = nh) ∨ (nik.toInt ≠ 0 ∧ (∀ j : Nat, j < 8 → gk2 j = ge (0 + j)) ∧ (∀ j : Nat, j < 8 → ga2 j = ge (8 + j)) ∧ (∀ j : Nat, j < 8 → gt2 j = ge (16 + j)) ∧ nh2 = ge 113)) : zTp K2 A2 T2 gk2 ga2 gt2 hu2 nh2 := by
  rcases g with ⟨g0, rfl, rfl, rfl⟩ | ⟨g0, rfl, rfl, rfl⟩ <;> rcases y with ⟨b0, rfl, rfl, rfl, b4⟩ | ⟨b0, b1, b2, b3, b4⟩
  · rcases x with ⟨-, x⟩ | ⟨x1, -⟩
    · rw [x, b4]; exact h
    · omega
  · omega
  · omega
  · rcases x with ⟨x1, -⟩ | ⟨-, x⟩
    · omega
    · obtain ⟨k1, k2⟩ := hk (by omega)
      exact ⟨fun j hj => by rw [b1 j hj, b2 j hj, b3 j hj]; exact k1 j hj, by rw [x, b4, k2]⟩

