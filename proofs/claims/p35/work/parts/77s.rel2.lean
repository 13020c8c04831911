/-! the two worlds' teeth, pulls and numbers, side by side -/
theorem zRgo_pre {f : Nat → Int32} {e te pu : Int} {k : Nat} {z : Int × Int × Int} (h : zRgo f e te pu (k + 1) = some z) : ∃ p t u : Int, zRgo f e te pu k = some (p, t, u) ∧ (zItem f e p t u).1 = -1 := by
  rw [zRgo_s] at h
  cases e1 : zRgo f e te pu k with
  | none => rw [e1] at h; cases h
  | some q =>
    obtain ⟨p, t, u⟩ := q
    rw [e1] at h
    dsimp only at h
    by_cases c : (zItem f e p t u).1 = -1 ∧ (zItem f e p t u).2.1 < e ∧ (f (zItem f e p t u).2.1.toNat).toInt = 59
    · exact ⟨p, t, u, rfl, c.1⟩
    · rw [if_neg c] at h; cases h
theorem zRgo_all {f : Nat → Int32} {e te pu : Int} : ∀ (k : Nat) (z : Int × Int × Int), zRgo f e te pu k = some z → ∀ i : Nat, i < k → ∃ p t u : Int, zRgo f e te pu i = some (p, t, u) ∧ (zItem f e p t u).1 = -1 := by
  intro k
  induction k with
  | zero => intro z _ i hi; omega
  | succ k ih =>
    intro z h i hi
    obtain ⟨p, t, u, h1, h2⟩ := zRgo_pre h
    rcases Nat.lt_or_ge i k with h3 | h3
    · exact ih _ h1 i h3
    · obtain rfl : i = k := by omega
      exact ⟨p, t, u, h1, h2⟩
/-- told alike, the items are the same -/
theorem zJac_dd {f g : Nat → Int32} {si s he lf cn sz r lf2 cn2 sz2 si' he' : Int} (h : zJac f si s he lf cn sz r lf2 cn2 sz2) (h1 : (0 ≤ s ∧ s ≤ 7) → ((he = -1 ∧ he' = -1) ∨ ((0 ≤ he ∧ he < 100) ∧ 0 ≤ he' ∧ he' < 100) ∨ (100 ≤ he ∧ 100 ≤ he' ∧ si = si' ∧ 0 ≤ si ∧ ∀ j : Int, 0 ≤ j → j < si → f j.toNat = g j.toNat))) (ht : 4 ≤ sz ∧ sz ≤ 40) (hu : 0 ≤ cn ∧ cn ≤ 8) (hr : 1 ≤ r) : ∀ k : Nat, k < r.toNat → zSm (zDI f si sz cn k) (zDI g si' sz cn k) := by
  intro k hk
  unfold zJac at h
  rcases h with h | h | h | ⟨hs, hh, n, R, T, U, hE, h⟩
  · omega
  · omega
  · omega
  · rcases h1 hs with h2 | h2 | ⟨-, -, rfl, h0, h2⟩
    · omega
    · omega
    · rcases h with h | h
      · omega
      · obtain ⟨p, t, u, e1, e2⟩ := hE
        have ok : ∃ p t u : Int, zRgo f si sz cn k = some (p, t, u) ∧ (zItem f si p t u).1 = -1 := by
          rcases Nat.lt_or_ge k n with h3 | h3
          · exact zRgo_all n _ e1 k h3
          · obtain rfl : k = n := by omega
            refine ⟨p, t, u, e1, ?_⟩
            rcases e2 with ⟨a, b⟩ | ⟨a, -⟩ | ⟨a, -⟩
            · exact absurd (b ▸ h.1 : (zItem f si p t u).1 = -1) a
            · exact a
            · exact a
        obtain ⟨p2, t2, u2, a1, a2⟩ := ok
        rw [zDI_congr h2 h0 ht hu a1 a2]
        exact zSm.rfl
theorem zAll_at {fk fp ft fl fs fc : Nat → Int32} {i0 i1 i2 i3 i4 i5 i6 i7 i8 : Int32} : (∀ j : Nat, j < 8 → zAll fk fp ft fl fs fc i0 i1 i2 i3 i4 i5 i6 i7 i8 (0 + j) = fk j) ∧ (∀ j : Nat, j < 8 → zAll fk fp ft fl fs fc i0 i1 i2 i3 i4 i5 i6 i7 i8 (8 + j) = fp j) ∧ (∀ j : Nat, j < 8 → zAll fk fp ft fl fs fc i0 i1 i2 i3 i4 i5 i6 i7 i8 (16 + j) = ft j) ∧ (∀ j : Nat, j < 40 → zAll fk fp ft fl fs fc i0 i1 i2 i3 i4 i5 i6 i7 i8 (24 + j) = fl j) ∧ (∀ j : Nat, j < 40 → zAll fk fp ft fl fs fc i0 i1 i2 i3 i4 i5 i6 i7 i8 (64 + j) = fs j) ∧ (∀ j : Nat, j < 3 → zAll fk fp ft fl fs fc i0 i1 i2 i3 i4 i5 i6 i7 i8 (104 + j) = fc j) := by
  refine ⟨fun j hj => ?_, fun j hj => ?_, fun j hj => ?_, fun j hj => ?_, fun j hj => ?_, fun j hj => ?_⟩ <;> unfold zAll <;> ((repeat (first | rw [if_pos (by omega)] | rw [if_neg (by omega)])) <;> congr 1; omega)
/-- the pulls' numbers of both, and the hurry -/
def zTp (K A T gk ga gt : Nat → Int32) (hu nh : Int32) : Prop := (∀ j : Nat, j < 8 → K j = gk j ∧ A j = ga j ∧ T j = gt j) ∧ hu.toInt = nh.toInt
def zTq (K A T ge : Nat → Int32) (hu : Int32) : Prop := (∀ j : Nat, j < 8 → K j = ge (0 + j) ∧ A j = ge (8 + j) ∧ T j = ge (16 + j)) ∧ hu.toInt = (ge 113).toInt
theorem zTp_pull {K A T gk ga gt K2 A2 T2 gk2 ga2 gt2 : Nat → Int32} {hu nh cn np ki a t r q : Int32} (h : zTp K A T gk ga gt hu nh) (hc : cn.toInt = np.toInt) (hr : r.toInt = q.toInt) (x : (r.toInt < 0 ∧ K2 = K ∧ A2 = A ∧ T2 = T) ∨ (0 ≤ r.toInt ∧ K2 = upd K cn.toNatClampNeg ki ∧ A2 = upd A cn.toNatClampNeg a ∧ T2 = upd T cn.toNatClampNeg t)) (y : (q.toInt < 0 ∧ gk2 = gk ∧ ga2 = ga ∧ gt2 = gt) ∨ (0 ≤ q.toInt ∧ gk2 = upd gk np.toNatClampNeg ki ∧ ga2 = upd ga np.toNatClampNeg a ∧ gt2 = upd gt np.toNatClampNeg t)) : zTp K2 A2 T2 gk2 ga2 gt2 hu nh := by
  obtain rfl : cn = np := Int32.toInt_inj.mp hc
  obtain ⟨h1, h2⟩ := h
  refine ⟨?_, h2⟩
  rcases x with ⟨a1, rfl, rfl, rfl⟩ | ⟨a1, rfl, rfl, rfl⟩ <;> rcases y with ⟨b1, rfl, rfl, rfl⟩ | ⟨b1, rfl, rfl, rfl⟩
  · exact h1
  · omega
  · omega
  · intro j hj
    obtain ⟨z1, z2, z3⟩ := h1 j hj
    simp only [upd]
    split
    · exact ⟨rfl, rfl, rfl⟩
    · exact ⟨z1, z2, z3⟩
theorem zTp_ask {K A T gk ga gt : Nat → Int32} {hu nh hu2 nh2 : Int32} {P Q P2 Q2 : Prop} {w v : Int} {te te2 : Int} {r r2 q q2 : Int} (h : zTp K A T gk ga gt hu nh) (hte : te = te2) (x : (zAsk w v te ∧ r = r2 ∧ P ∧ (hu2.toInt = (if w = 2 then v else hu.toInt)) ∧ P2) ∨ (¬ zAsk w v te ∧ r = -6 ∧ hu2 = hu)) (y : (zAsk w v te2 ∧ q = q2 ∧ Q ∧ (nh2.toInt = (if w = 2 then v else nh.toInt)) ∧ Q2) ∨ (¬ zAsk w v te2 ∧ q = -6 ∧ nh2 = nh)) : zTp K A T gk ga gt hu2 nh2 := by
  obtain ⟨h1, h3⟩ := h
  subst hte
  refine ⟨h1, ?_⟩
  rcases x with ⟨a1, -, -, a2, -⟩ | ⟨a1, -, a2⟩ <;> rcases y with ⟨b1, -, -, b2, -⟩ | ⟨b1, -, b2⟩
  · rw [a2, b2, h3]
  · exact absurd a1 b1
  · exact absurd b1 a1
  · rw [a2, b2, h3]
theorem zTp_jac {K A T gk ga gt K2 A2 T2 gk2 ga2 gt2 : Nat → Int32} {hu nh hu2 nh2 r q : Int32} {d e : Nat → zIt4} {c : Int} (h : zTp K A T gk ga gt hu nh) (hr : r.toInt = q.toInt) (hd : 1 ≤ r.toInt → ∀ k : Nat, k < r.toInt.toNat → zSm (d k) (e k))
    (x0 : 1 ≤ r.toInt → ∀ j : Nat, j < 8 → K2 j = zRk d c K r.toInt.toNat j ∧ A2 j = zRa d c A r.toInt.toNat j ∧ T2 j = zRt d c T r.toInt.toNat j) (x2 : 1 ≤ r.toInt → hu2.toInt = zRn 6 d hu.toInt r.toInt.toNat) (x3 : r.toInt < 1 → K2 = K ∧ A2 = A ∧ T2 = T ∧ hu2 = hu)
    (y0 : 1 ≤ q.toInt → gk2 = zRk e c gk q.toInt.toNat ∧ ga2 = zRa e c ga q.toInt.toNat ∧ gt2 = zRt e c gt q.toInt.toNat) (y2 : 1 ≤ q.toInt → nh2.toInt = zRn 6 e nh.toInt q.toInt.toNat) (y3 : q.toInt < 1 → (∀ j : Nat, j < 8 → gk2 j = gk j ∧ ga2 j = ga j ∧ gt2 j = gt j) ∧ nh2 = nh) : zTp K2 A2 T2 gk2 ga2 gt2 hu2 nh2 := by
  obtain ⟨h1, h3⟩ := h
  rw [← hr] at y0 y2 y3
  by_cases c9 : 1 ≤ r.toInt
  · have hd := hd c9
    obtain ⟨rfl, rfl, rfl⟩ := y0 c9
    refine ⟨fun j hj => ?_, ?_⟩
    · obtain ⟨z1, z2, z3⟩ := x0 c9 j hj
      rw [z1, z2, z3]
      exact ⟨zRk_sm hd (fun j hj => (h1 j hj).1) j hj, zRa_sm hd (fun j hj => (h1 j hj).2.1) j hj, zRt_sm hd (fun j hj => (h1 j hj).2.2) j hj⟩
    · rw [x2 c9, y2 c9]; exact zRn_sm hd h3
  · obtain ⟨rfl, rfl, rfl, a4⟩ := x3 (by omega)
    obtain ⟨b1, b2⟩ := y3 (by omega)
    rw [a4, b2]
    exact ⟨fun j hj => by obtain ⟨z1, z2, z3⟩ := h1 j hj; obtain ⟨w1, w2, w3⟩ := b1 j hj; exact ⟨z1.trans w1.symm, z2.trans w2.symm, z3.trans w3.symm⟩, h3⟩
theorem zTp_image {K A T gk ga gt ge : Nat → Int32} {hu nh khu : Int32} (h : zTp K A T gk ga gt hu nh) (x : khu = hu) (y0 : ∀ j : Nat, j < 8 → ge (0 + j) = gk j) (y1 : ∀ j : Nat, j < 8 → ge (8 + j) = ga j) (y2 : ∀ j : Nat, j < 8 → ge (16 + j) = gt j) (y3 : ge 113 = nh) : zTq K A T ge khu := by
  obtain ⟨h1, h2⟩ := h
  exact ⟨fun j hj => by rw [y0 j hj, y1 j hj, y2 j hj]; exact h1 j hj, by rw [x, y3, h2]⟩
theorem zTp_rest {K A T gk ga gt K2 A2 T2 gk2 ga2 gt2 KK KA KT ge : Nat → Int32} {hu nh hu2 nh2 khu im nik : Int32} (h : zTp K A T gk ga gt hu nh) (hk : nik.toInt = 1 → zTq KK KA KT ge khu) (hi : im.toInt = nik.toInt) (hb : 0 ≤ nik.toInt ∧ nik.toInt ≤ 1) (g : (im.toInt = 0 ∧ K2 = K ∧ A2 = A ∧ T2 = T) ∨ (im.toInt ≠ 0 ∧ K2 = KK ∧ A2 = KA ∧ T2 = KT)) (x : (im.toInt = 0 ∧ hu2 = hu) ∨ (im.toInt ≠ 0 ∧ hu2 = khu)) (y : (nik.toInt = 0 ∧ gk2 = gk ∧ ga2 = ga ∧ gt2 = gt ∧ nh2 = nh) ∨ (nik.toInt ≠ 0 ∧ (∀ j : Nat, j < 8 → gk2 j = ge (0 + j)) ∧ (∀ j : Nat, j < 8 → ga2 j = ge (8 + j)) ∧ (∀ j : Nat, j < 8 → gt2 j = ge (16 + j)) ∧ nh2 = ge 113)) : zTp K2 A2 T2 gk2 ga2 gt2 hu2 nh2 := by
  rcases g with ⟨g0, rfl, rfl, rfl⟩ | ⟨g0, rfl, rfl, rfl⟩ <;> rcases y with ⟨b0, rfl, rfl, rfl, b4⟩ | ⟨b0, b1, b2, b3, b4⟩
  · rcases x with ⟨-, x⟩ | ⟨x1, -⟩
    · rw [x, b4]; exact h
    · omega
  · omega
  · omega
  · rcases x with ⟨x1, -⟩ | ⟨-, x⟩
    · omega
    · obtain ⟨k1, k2⟩ := hk (by omega)
      exact ⟨fun j hj => by rw [b1 j hj, b2 j hj, b3 j hj]; exact k1 j hj, by rw [x, b4, k2]⟩

