/-! the numbers of both worlds: depth, where, seconds, torn, seed, costs -/
theorem zIm_rg {f : Nat → Int32} {e p te pu : Int} (hp : 0 ≤ p) (he : p ≤ e) (h1 : (zItem f e p te pu).1 = -1) : zLo (zIm f e p te).1 0 ≤ (zIm f e p te).2.1 ∧ (zIm f e p te).2.1 ≤ zHi (zIm f e p te).1 0 te ∧ (zItem f e p te pu).2.2.1 = (if (zIm f e p te).1 = 0 then (zIm f e p te).2.1 else te) := by
  rcases zFst_spec (f := f) (e := e) (p := p) (ls := zWds) 10 with ⟨c1, -⟩ | ⟨w, hw, c1, -, -⟩
  · rw [zItem_none c1] at h1
    dsimp only at h1
    omega
  · have hf := zFst_in hw c1
    by_cases c2 : (w : Int) = 3 ∧ pu = 8
    · rw [zItem_room (c1.trans c2.1) c2.2] at h1
      dsimp only at h1
      omega
    · have hi := zItem_w (f := f) (e := e) (p := p) (p1 := p + ((zWds ((w : Int)).toNat).length : Nat)) (te := te) (pu := pu) (w := (w : Int)) (r := (zIn f e (p + ((zWds ((w : Int)).toNat).length : Nat)) te (w : Int)).1) (q := (zIn f e (p + ((zWds ((w : Int)).toNat).length : Nat)) te (w : Int)).2.1) (v := (zIn f e (p + ((zWds ((w : Int)).toNat).length : Nat)) te (w : Int)).2.2) c1 (by omega) c2 rfl rfl
      rw [hi] at h1 ⊢
      dsimp only at h1 ⊢
      have r := zIn_rg (f := f) (e := e) (p := p + ((zWds ((w : Int)).toNat).length : Nat)) (te := te) (w := (w : Int)) (by omega) (by rw [Int.toNat_natCast]; exact hf.2)
      have r2 := r.2.2.2 h1
      unfold zIm zIP zIW
      rw [c1]
      dsimp only
      exact ⟨r2.2.1, r2.2.2, rfl⟩
theorem zAt_step {f : Nat → Int32} {e p te pu x : Int} (hp : 0 ≤ p) (he : p ≤ e) (h1 : (zItem f e p te pu).1 = -1) (hx : 0 ≤ x ∧ x ≤ te) : 0 ≤ zEat (zIm f e p te) x ∧ zEat (zIm f e p te) x ≤ (zItem f e p te pu).2.2.1 := by
  obtain ⟨a, b, c⟩ := zIm_rg hp he h1
  rw [c]
  unfold zEat
  by_cases c9 : (zIm f e p te).1 = 9
  · rw [if_pos c9, if_neg (by omega)]
    rw [c9] at a b
    have l : zLo 9 0 = 0 := rfl
    have g : zHi 9 0 te = te := rfl
    omega
  · rw [if_neg c9]
    by_cases c0 : (zIm f e p te).1 = 0
    · rw [if_pos c0, if_pos c0]
      rw [c0] at a
      have l : zLo 0 0 = 4 := rfl
      omega
    · rw [if_neg c0, if_neg c0]; exact hx
theorem zSe_step {f : Nat → Int32} {e p te pu x : Int} (hp : 0 ≤ p) (he : p ≤ e) (h1 : (zItem f e p te pu).1 = -1) (hx : 0 ≤ x ∧ x ≤ 300) : 0 ≤ zEnu 5 (zIm f e p te) x ∧ zEnu 5 (zIm f e p te) x ≤ 300 := by
  obtain ⟨a, b, c⟩ := zIm_rg hp he h1
  unfold zEnu
  by_cases c5 : (zIm f e p te).1 = 5
  · rw [if_pos c5]
    rw [c5] at a b
    have l : zLo 5 0 = 0 := rfl
    have g : zHi 5 0 te = 300 := by unfold zHi; rw [if_neg (by decide), if_neg (by decide), if_neg (by decide), if_neg (by decide), if_neg (by decide), if_pos rfl]
    omega
  · rw [if_neg c5]; exact hx
theorem zRgo_at {f : Nat → Int32} {e te pu a b : Int} (he : 0 ≤ e) (ht : 4 ≤ te ∧ te ≤ 40) (hu : 0 ≤ pu ∧ pu ≤ 8) (ha : 0 ≤ a ∧ a ≤ te) (hb : 0 ≤ b ∧ b ≤ 300) : ∀ (k : Nat) (p t u : Int), zRgo f e te pu k = some (p, t, u) → (0 ≤ zRat (zDI f e te pu) a k ∧ zRat (zDI f e te pu) a k ≤ t) ∧ 0 ≤ zRn 5 (zDI f e te pu) b k ∧ zRn 5 (zDI f e te pu) b k ≤ 300 := by
  intro k
  induction k with
  | zero =>
    intro p t u h
    have h : some ((0 : Int), te, pu) = some (p, t, u) := h
    simp only [Option.some.injEq, Prod.mk.injEq] at h
    refine ⟨⟨ha.1, ?_⟩, hb⟩
    show a ≤ t
    omega
  | succ k ih =>
    intro p t u h
    obtain ⟨p1, t1, u1, h1, h2⟩ := zRgo_pre h
    obtain ⟨i1, i2⟩ := ih _ _ _ h1
    have r := zRgo_rg he ht hu _ _ _ _ h1
    have ed : zDI f e te pu k = zIm f e p1 t1 := zDI_at h1
    have s1 := zAt_step (pu := u1) (by omega) r.2.1 h2 i1
    have s2 := zSe_step (pu := u1) (by omega) r.2.1 h2 i2
    rw [zRgo_s, h1] at h
    dsimp only at h
    have et : (zItem f e p1 t1 u1).2.2.1 = t := by
      by_cases c : (zItem f e p1 t1 u1).1 = -1 ∧ (zItem f e p1 t1 u1).2.1 < e ∧ (f (zItem f e p1 t1 u1).2.1.toNat).toInt = 59
      · rw [if_pos c] at h
        simp only [Option.some.injEq, Prod.mk.injEq] at h
        exact h.2.1
      · rw [if_neg c] at h; cases h
    have e1 : zRat (zDI f e te pu) a (k + 1) = zEat (zDI f e te pu k) (zRat (zDI f e te pu) a k) := rfl
    have e2 : zRn 5 (zDI f e te pu) b (k + 1) = zEnu 5 (zDI f e te pu k) (zRn 5 (zDI f e te pu) b k) := rfl
    rw [e1, e2, ed, ← et]
    exact ⟨s1, s2⟩
theorem zJac_at {f : Nat → Int32} {si s he lf cn sz r lf2 cn2 sz2 a b : Int} (h : zJac f si s he lf cn sz r lf2 cn2 sz2) (h0 : 0 ≤ si) (ht : 4 ≤ sz ∧ sz ≤ 40) (hu : 0 ≤ cn ∧ cn ≤ 8) (hr : 1 ≤ r) (ha : 0 ≤ a ∧ a ≤ sz) (hb : 0 ≤ b ∧ b ≤ 300) : zRat (zDI f si sz cn) a r.toNat ≤ sz2 ∧ 0 ≤ zRn 5 (zDI f si sz cn) b r.toNat ∧ zRn 5 (zDI f si sz cn) b r.toNat ≤ 300 := by
  unfold zJac at h
  rcases h with h | h | h | ⟨-, -, k, R, T, U, hE, h⟩
  · omega
  · omega
  · omega
  · rcases h with h | ⟨h1, h2, -, -, h5⟩
    · omega
    · obtain ⟨p, t, u, e1, e2⟩ := hE
      have r1 := zRgo_rg h0 ht hu _ _ _ _ e1
      obtain ⟨i1, i2⟩ := zRgo_at h0 ht hu ha hb _ _ _ _ e1
      have ed : zDI f si sz cn k = zIm f si p t := zDI_at e1
      have q1 : zRat (zDI f si sz cn) a (k + 1) = zEat (zDI f si sz cn k) (zRat (zDI f si sz cn) a k) := rfl
      have q2 : zRn 5 (zDI f si sz cn) b (k + 1) = zEnu 5 (zDI f si sz cn k) (zRn 5 (zDI f si sz cn) b k) := rfl
      rw [h2, show ((k : Int) + 1).toNat = k + 1 from by omega, q1, q2, ed]
      rcases e2 with ⟨x, y⟩ | ⟨x, y, z, w, v⟩ | ⟨x, y, z, w⟩
      · omega
      · have s1 := zAt_step (pu := u) (by omega) r1.2.1 x i1
        have s2 := zSe_step (pu := u) (by omega) r1.2.1 x i2
        rw [h5, w]
        exact ⟨s1.2, s2⟩
      · have z4 := (zItem_rg (f := f) (e := si) (p := p) (te := t) (pu := u) (by omega) r1.2.1).2 x
        omega
def zNu (de a se tr sd : Int32) (fc : Nat → Int32) (nd na ns nt nsd : Int32) (gc : Nat → Int32) : Prop := de.toInt = nd.toInt ∧ a.toInt = na.toInt ∧ se.toInt = ns.toInt ∧ tr = nt ∧ sd = nsd ∧ ∀ j : Nat, j < 3 → fc j = gc j
def zNk (de a se tr sd : Int32) (fc : Nat → Int32) (ge : Nat → Int32) : Prop := de.toInt = (ge 110).toInt ∧ a.toInt = (ge 109).toInt ∧ se.toInt = (ge 112).toInt ∧ tr = ge 111 ∧ sd = ge 115 ∧ ∀ j : Nat, j < 3 → fc j = ge (104 + j)
theorem zNu_ask {de a se tr sd hu gp nd na ns nt nsd nh ng de2 a2 se2 hu2 gp2 nd2 na2 ns2 nh2 ng2 w v r q sz te : Int32} {fc gc fc2 gc2 : Nat → Int32} (h : zNu de a se tr sd fc nd na ns nt nsd gc) (hs : sz.toInt = te.toInt) (hg : gp.toInt = ng.toInt) (hh : hu.toInt = nh.toInt) (ha : a.toInt ≤ sz.toInt) (hse : 0 ≤ se.toInt ∧ se.toInt ≤ 300)
    (x : (zAsk w.toInt v.toInt sz.toInt ∧ r.toInt = (if w.toInt = 0 then de.toInt else if w.toInt = 1 then se.toInt else if w.toInt = 2 then hu.toInt else if w.toInt = 3 then gp.toInt else if w.toInt = 7 then a.toInt else (fc (w.toInt - 4).toNat).toInt) ∧ (de2.toInt = (if w.toInt = 0 then v.toInt else de.toInt) ∧ se2.toInt = (if w.toInt = 1 then v.toInt else se.toInt) ∧ hu2.toInt = (if w.toInt = 2 then v.toInt else hu.toInt) ∧ gp2.toInt = (if w.toInt = 3 then v.toInt else gp.toInt) ∧ a2.toInt = (if w.toInt = 7 then v.toInt else a.toInt)) ∧ (w.toInt < 4 ∨ 6 < w.toInt → fc2 = fc) ∧ (4 ≤ w.toInt → w.toInt ≤ 6 → fc2 = upd fc (w.toInt - 4).toNat v)) ∨ (¬ zAsk w.toInt v.toInt sz.toInt ∧ r.toInt = -6 ∧ de2 = de ∧ se2 = se ∧ hu2 = hu ∧ gp2 = gp ∧ a2 = a ∧ fc2 = fc))
    (y : (zAsk w.toInt v.toInt te.toInt ∧ q.toInt = (if w.toInt = 0 then nd.toInt else if w.toInt = 1 then ns.toInt else if w.toInt = 2 then nh.toInt else if w.toInt = 3 then ng.toInt else if w.toInt = 7 then na.toInt else (gc (w.toInt - 4).toNat).toInt) ∧ (nd2.toInt = (if w.toInt = 0 then v.toInt else nd.toInt) ∧ ns2.toInt = (if w.toInt = 1 then v.toInt else ns.toInt) ∧ nh2.toInt = (if w.toInt = 2 then v.toInt else nh.toInt) ∧ ng2.toInt = (if w.toInt = 3 then v.toInt else ng.toInt) ∧ na2.toInt = (if w.toInt = 7 then v.toInt else na.toInt)) ∧ (w.toInt < 4 ∨ 6 < w.toInt → gc2 = gc) ∧ (4 ≤ w.toInt → w.toInt ≤ 6 → gc2 = upd gc (w.toInt - 4).toNat v)) ∨ (¬ zAsk w.toInt v.toInt te.toInt ∧ q.toInt = -6 ∧ nd2 = nd ∧ ns2 = ns ∧ nh2 = nh ∧ ng2 = ng ∧ na2 = na ∧ gc2 = gc)) : zNu de2 a2 se2 tr sd fc2 nd2 na2 ns2 nt nsd gc2 ∧ r.toInt = q.toInt ∧ a2.toInt ≤ sz.toInt ∧ 0 ≤ se2.toInt ∧ se2.toInt ≤ 300 := by
  obtain ⟨h1, h2, h3, h4, h5, h6⟩ := h
  rw [← hs] at y
  rcases x with ⟨x0, x1, ⟨x2, x3, -, -, x4⟩, x5, x6⟩ | ⟨x0, x1, rfl, rfl, -, -, rfl, rfl⟩ <;> rcases y with ⟨y0, y1, ⟨y2, y3, -, -, y4⟩, y5, y6⟩ | ⟨y0, y1, rfl, rfl, -, -, rfl, rfl⟩
  · unfold zAsk at x0
    obtain ⟨z1, z2, z3⟩ := x0
    refine ⟨⟨by rw [x2, y2, h1], by rw [x4, y4, h2], by rw [x3, y3, h3], h4, h5, fun j hj => ?_⟩, ?_, ?_, ?_⟩
    · by_cases c : 4 ≤ w.toInt ∧ w.toInt ≤ 6
      · rw [x6 c.1 c.2, y6 c.1 c.2]
        simp only [upd]
        split
        · rfl
        · exact h6 j hj
      · rw [x5 (by omega), y5 (by omega)]
        exact h6 j hj
    · rw [x1, y1, h1, h2, h3, hg, hh]
      by_cases c : 4 ≤ w.toInt ∧ w.toInt ≤ 6
      · rw [h6 (w.toInt - 4).toNat (by omega)]
      · rcases (show w.toInt = 0 ∨ w.toInt = 1 ∨ w.toInt = 2 ∨ w.toInt = 3 ∨ w.toInt = 7 by omega) with e | e | e | e | e <;> (repeat (first | rw [if_pos (by omega)] | rw [if_neg (by omega)]))
    · rw [x4]
      by_cases c : w.toInt = 7
      · rw [if_pos c]
        rw [if_neg (show ¬ w.toInt = 0 by omega), if_neg (show ¬ w.toInt = 1 by omega), if_neg (show ¬ w.toInt = 2 by omega), if_neg (show ¬ w.toInt = 3 by omega), if_pos c] at z3
        exact z3
      · rw [if_neg c]; exact ha
    · rw [x3]
      by_cases c : w.toInt = 1
      · rw [if_pos c]
        rw [if_neg (show ¬ w.toInt = 0 by omega), if_pos c] at z3
        rw [if_neg (show ¬ w.toInt = 3 by omega)] at z2
        exact ⟨z2, z3⟩
      · rw [if_neg c]; exact hse
  · exact absurd x0 y0
  · exact absurd y0 x0
  · exact ⟨⟨h1, h2, h3, h4, h5, h6⟩, by omega, ha, hse⟩
theorem zNu_teeth {de a se tr sd nd na ns nt nsd a2 na2 n r sz sz2 : Int32} {fc gc : Nat → Int32} {P Q P2 Q2 P3 Q3 P4 Q4 : Prop} (h : zNu de a se tr sd fc nd na ns nt nsd gc) (ha : a.toInt ≤ sz.toInt) (x0 : ((4 ≤ n.toInt ∧ n.toInt ≤ 40) ∧ r.toInt = sz.toInt ∧ sz2.toInt = n.toInt) ∨ (¬ (4 ≤ n.toInt ∧ n.toInt ≤ 40) ∧ r.toInt = -6 ∧ sz2.toInt = sz.toInt)) (x : ((4 ≤ n.toInt ∧ n.toInt ≤ 40) ∧ P ∧ P2 ∧ a2.toInt = 0) ∨ (¬ (4 ≤ n.toInt ∧ n.toInt ≤ 40) ∧ Q ∧ Q2 ∧ a2 = a)) (y : ((4 ≤ n.toInt ∧ n.toInt ≤ 40) ∧ P3 ∧ P4 ∧ na2.toInt = 0) ∨ (¬ (4 ≤ n.toInt ∧ n.toInt ≤ 40) ∧ Q3 ∧ Q4 ∧ na2 = na)) : zNu de a2 se tr sd fc nd na2 ns nt nsd gc ∧ a2.toInt ≤ sz2.toInt := by
  obtain ⟨h1, h2, h3, h4, h5, h6⟩ := h
  rcases x with ⟨x0', -, -, x1⟩ | ⟨x0', -, -, rfl⟩ <;> rcases y with ⟨y0, -, -, y1⟩ | ⟨y0, -, -, rfl⟩
  · exact ⟨⟨h1, by omega, h3, h4, h5, h6⟩, by omega⟩
  · exact absurd x0' y0
  · exact absurd y0 x0'
  · exact ⟨⟨h1, h2, h3, h4, h5, h6⟩, by omega⟩
theorem zNu_jac {de a se tr sd nd na ns nt nsd de2 a2 se2 nd2 na2 ns2 r q sz sz2 : Int32} {fc gc fc2 gc2 : Nat → Int32} {d e : Nat → zIt4} (h : zNu de a se tr sd fc nd na ns nt nsd gc) (hr : r.toInt = q.toInt) (hd : 1 ≤ r.toInt → ∀ k : Nat, k < r.toInt.toNat → zSm (d k) (e k)) (ha : a.toInt ≤ sz.toInt) (hse : 0 ≤ se.toInt ∧ se.toInt ≤ 300) (hz : r.toInt < 1 → sz2.toInt = sz.toInt) (hb : 1 ≤ r.toInt → zRat d a.toInt r.toInt.toNat ≤ sz2.toInt ∧ 0 ≤ zRn 5 d se.toInt r.toInt.toNat ∧ zRn 5 d se.toInt r.toInt.toNat ≤ 300)
    (x6 : 1 ≤ r.toInt → ∀ j : Nat, j < 3 → fc2 j = zRc d fc r.toInt.toNat j) (x7 : 1 ≤ r.toInt → de2.toInt = zRn 4 d de.toInt r.toInt.toNat ∧ se2.toInt = zRn 5 d se.toInt r.toInt.toNat ∧ a2.toInt = zRat d a.toInt r.toInt.toNat) (x8 : r.toInt < 1 → fc2 = fc ∧ de2 = de ∧ se2 = se ∧ a2 = a)
    (y6 : 1 ≤ q.toInt → gc2 = zRc e gc q.toInt.toNat) (y7 : 1 ≤ q.toInt → nd2.toInt = zRn 4 e nd.toInt q.toInt.toNat ∧ ns2.toInt = zRn 5 e ns.toInt q.toInt.toNat ∧ na2.toInt = zRat e na.toInt q.toInt.toNat) (y8 : q.toInt < 1 → (∀ j : Nat, j < 3 → gc2 j = gc j) ∧ nd2 = nd ∧ ns2 = ns ∧ na2 = na) : zNu de2 a2 se2 tr sd fc2 nd2 na2 ns2 nt nsd gc2 ∧ a2.toInt ≤ sz2.toInt ∧ 0 ≤ se2.toInt ∧ se2.toInt ≤ 300 := by
  obtain ⟨h1, h2, h3, h4, h5, h6⟩ := h
  rw [← hr] at y6 y7 y8
  by_cases c : 1 ≤ r.toInt
  · have hd := hd c
    obtain ⟨b1, b2⟩ := hb c
    obtain ⟨u1, u2, u3⟩ := x7 c
    obtain ⟨v1, v2, v3⟩ := y7 c
    refine ⟨⟨?_, ?_, ?_, h4, h5, fun j hj => ?_⟩, by omega, by omega⟩
    · rw [u1, v1]; exact zRn_sm hd h1
    · rw [u3, v3]; exact zRat_sm hd h2
    · rw [u2, v2]; exact zRn_sm hd h3
    · rw [x6 c j hj, y6 c]; exact zRc_sm hd h6 j hj
  · obtain ⟨rfl, rfl, rfl, rfl⟩ := x8 (by omega)
    obtain ⟨v0, rfl, rfl, rfl⟩ := y8 (by omega)
    exact ⟨⟨h1, h2, h3, h4, h5, fun j hj => (h6 j hj).trans (v0 j hj).symm⟩, by rw [hz (by omega)]; exact ha, hse⟩
theorem zNu_image {de a se tr sd nd na ns nt nsd kd ka ks kt ksd : Int32} {fc gc kfc ge : Nat → Int32} (h : zNu de a se tr sd fc nd na ns nt nsd gc) (x : kd = de ∧ kt = tr ∧ ks = se ∧ ksd = sd ∧ ka = a) (x1 : ∀ j : Nat, j < 3 → kfc j = fc j) (y0 : ge 110 = nd ∧ ge 109 = na ∧ ge 112 = ns ∧ ge 111 = nt ∧ ge 115 = nsd) (y1 : ∀ j : Nat, j < 3 → ge (104 + j) = gc j) : zNk kd ka ks kt ksd kfc ge := by
  obtain ⟨h1, h2, h3, h4, h5, h6⟩ := h
  obtain ⟨rfl, rfl, rfl, rfl, rfl⟩ := x
  obtain ⟨w1, w2, w3, w4, w5⟩ := y0
  exact ⟨by rw [w1]; exact h1, by rw [w2]; exact h2, by rw [w3]; exact h3, by rw [w4]; exact h4, by rw [w5]; exact h5, fun j hj => by rw [x1 j hj, y1 j hj]; exact h6 j hj⟩
theorem zNu_rest {de a se tr sd nd na ns nt nsd kd ka ks kt ksd de2 a2 se2 tr2 sd2 nd2 na2 ns2 nt2 nsd2 im nik : Int32} {fc gc kfc ge fc2 gc2 : Nat → Int32} (h : zNu de a se tr sd fc nd na ns nt nsd gc) (hk : nik.toInt = 1 → zNk kd ka ks kt ksd kfc ge) (hi : im.toInt = nik.toInt) (hb : 0 ≤ nik.toInt ∧ nik.toInt ≤ 1) (x : (im.toInt = 0 ∧ de2 = de ∧ tr2 = tr ∧ se2 = se ∧ sd2 = sd ∧ a2 = a ∧ fc2 = fc) ∨ (im.toInt ≠ 0 ∧ de2 = kd ∧ tr2 = kt ∧ se2 = ks ∧ sd2 = ksd ∧ a2 = ka ∧ ∀ j : Nat, j < 3 → fc2 j = kfc j)) (y : (nik.toInt = 0 ∧ nd2 = nd ∧ nt2 = nt ∧ ns2 = ns ∧ nsd2 = nsd ∧ na2 = na ∧ gc2 = gc) ∨ (nik.toInt ≠ 0 ∧ nd2 = ge 110 ∧ nt2 = ge 111 ∧ ns2 = ge 112 ∧ nsd2 = ge 115 ∧ na2 = ge 109 ∧ ∀ j : Nat, j < 3 → gc2 j = ge (104 + j))) : zNu de2 a2 se2 tr2 sd2 fc2 nd2 na2 ns2 nt2 nsd2 gc2 := by
  rcases x with ⟨x0, rfl, rfl, rfl, rfl, rfl, rfl⟩ | ⟨x0, rfl, rfl, rfl, rfl, rfl, x1⟩ <;> rcases y with ⟨y0, rfl, rfl, rfl, rfl, rfl, rfl⟩ | ⟨y0, rfl, rfl, rfl, rfl, rfl, y1⟩
  · exact h
  · omega
  · omega
  · obtain ⟨k1, k2, k3, k4, k5, k6⟩ := hk (by omega)
    exact ⟨k1, k2, k3, k4, k5, fun j hj => by rw [x1 j hj, y1 j hj]; exact k6 j hj⟩
/-! what the calls ahead and in truth answer in both worlds -/
theorem zNu_pulls {K A T gk ga gt fc gc : Nat → Int32} {hu nh cn np p r q de a se tr sd nd na ns nt nsd de2 se2 tr2 sd2 nd2 ns2 nt2 nsd2 : Int32} (h : zTp K A T gk ga gt hu nh) (hn : zNu de a se tr sd fc nd na ns nt nsd gc) (hc : cn.toInt = np.toInt) (h8 : cn.toInt ≤ 8) (hse : 0 ≤ se.toInt ∧ se.toInt ≤ 300) (hT : ∀ j : Nat, 0 ≤ (gt j).toInt)
    (x : ((p.toInt < 0 ∨ cn.toInt ≤ p.toInt) ∧ r.toInt = -1 ∧ de2 = de ∧ se2 = se ∧ tr2 = tr ∧ sd2 = sd) ∨ ((0 ≤ p.toInt ∧ p.toInt < cn.toInt) ∧ ((¬ (1 ≤ de.toInt ∧ (T p.toNatClampNeg).toInt ≤ se.toInt) ∧ r.toInt = -6 ∧ de2 = de ∧ se2 = se ∧ tr2 = tr ∧ sd2 = sd) ∨ ((1 ≤ de.toInt ∧ (T p.toNatClampNeg).toInt ≤ se.toInt) ∧ zP1 (K p.toNatClampNeg).toInt (A p.toNatClampNeg).toInt (T p.toNatClampNeg).toInt hu.toInt (de.toInt, se.toInt, tr, sd) = (de2.toInt, se2.toInt, tr2, sd2) ∧ r.toInt = de2.toInt))))
    (y : ((p.toInt < 0 ∨ np.toInt ≤ p.toInt) ∧ q.toInt = -1 ∧ nd2 = nd ∧ ns2 = ns ∧ nt2 = nt ∧ nsd2 = nsd) ∨ ((0 ≤ p.toInt ∧ p.toInt < np.toInt) ∧ ((¬ (1 ≤ nd.toInt ∧ (gt p.toNatClampNeg).toInt ≤ ns.toInt) ∧ q.toInt = -6 ∧ nd2 = nd ∧ ns2 = ns ∧ nt2 = nt ∧ nsd2 = nsd) ∨ ((1 ≤ nd.toInt ∧ (gt p.toNatClampNeg).toInt ≤ ns.toInt) ∧ zP1 (gk p.toNatClampNeg).toInt (ga p.toNatClampNeg).toInt (gt p.toNatClampNeg).toInt nh.toInt (nd.toInt, ns.toInt, nt, nsd) = (nd2.toInt, ns2.toInt, nt2, nsd2) ∧ q.toInt = nd2.toInt)))) : zNu de2 a se2 tr2 sd2 fc nd2 na ns2 nt2 nsd2 gc ∧ r.toInt = q.toInt ∧ 0 ≤ se2.toInt ∧ se2.toInt ≤ 300 := by
  obtain ⟨k1, k2⟩ := h
  obtain ⟨h1, h2, h3, h4, h5, h6⟩ := hn
  rcases x with ⟨x0, x1, rfl, rfl, rfl, rfl⟩ | ⟨x0, x⟩ <;> rcases y with ⟨y0, y1, rfl, rfl, rfl, rfl⟩ | ⟨y0, y⟩
  · exact ⟨⟨h1, h2, h3, h4, h5, h6⟩, by omega, hse⟩
  · omega
  · omega
  · obtain ⟨z1, z2, z3⟩ := k1 p.toNatClampNeg (by have : p.toNatClampNeg = p.toInt.toNat := rfl; omega)
    have t0 := hT p.toNatClampNeg
    rw [z1, z2, z3, k2, h1, h3, h4, h5] at x
    rcases x with ⟨x1, x2, rfl, rfl, x5, x6⟩ | ⟨x1, x2, x3⟩ <;> rcases y with ⟨y1, y2, rfl, rfl, y5, y6⟩ | ⟨y1, y2, y3⟩
    · rw [x5, x6, y5, y6]
      exact ⟨⟨h1, h2, h3, rfl, rfl, h6⟩, by omega, hse⟩
    · exact absurd y1 x1
    · exact absurd x1 y1
    · have e := x2.symm.trans y2
      simp only [Prod.mk.injEq] at e
      obtain ⟨e1, e2, e3, e4⟩ := e
      have e5 := congrArg (fun z => z.2.1) x2
      have e6 : ns.toInt - (gt p.toNatClampNeg).toInt = se2.toInt := e5
      exact ⟨⟨e1, h2, e2, e3, e4, h6⟩, by omega, by omega, by omega⟩
theorem zNu_close {fl fs gl gs fc gc : Nat → Int32} {gp ng sz te r q de a se tr sd nd na ns nt nsd de2 a2 sd2 nd2 na2 nsd2 : Int32} (h : zTt fl fs gl gs gp ng) (hn : zNu de a se tr sd fc nd na ns nt nsd gc) (hs : sz.toInt = te.toInt) (h4 : 4 ≤ sz.toInt ∧ sz.toInt ≤ 40) (ha : 0 ≤ a.toInt ∧ a.toInt ≤ sz.toInt) (hd : 0 ≤ de.toInt ∧ de.toInt ≤ 24)
    (x : (de.toInt ≠ 0 ∧ r.toInt = -6 ∧ a2 = a ∧ de2 = de ∧ sd2 = sd) ∨ (de.toInt = 0 ∧ zCz fl fs gp.toInt sz.toInt (sz.toInt - a.toInt).toNat a.toInt de.toInt sd = (a2.toInt, de2.toInt, sd2) ∧ r.toInt = a2.toInt)) (y : (nd.toInt ≠ 0 ∧ q.toInt = -6 ∧ na2 = na ∧ nd2 = nd ∧ nsd2 = nsd) ∨ (nd.toInt = 0 ∧ zCz gl gs ng.toInt te.toInt (te.toInt - na.toInt).toNat na.toInt nd.toInt nsd = (na2.toInt, nd2.toInt, nsd2) ∧ q.toInt = na2.toInt)) : zNu de2 a2 se tr sd2 fc nd2 na2 ns nt nsd2 gc ∧ r.toInt = q.toInt ∧ a2.toInt ≤ sz.toInt := by
  obtain ⟨t1, t2, t3⟩ := h
  obtain ⟨h1, h2, h3, h4', h5, h6⟩ := hn
  rcases x with ⟨x0, x1, rfl, rfl, x2⟩ | ⟨x0, x1, x2⟩ <;> rcases y with ⟨y0, y1, rfl, rfl, y2⟩ | ⟨y0, y1, y2⟩
  · exact ⟨⟨h1, h2, h3, h4', by rw [x2, y2]; exact h5, h6⟩, by omega, ha.2⟩
  · omega
  · omega
  · rw [← t3, ← hs, ← h1, ← h2, ← h5, ← zCz_congr t1 t2 h4.2 _ _ _ _ ha.1] at y1
    have e := x1.symm.trans y1
    simp only [Prod.mk.injEq] at e
    obtain ⟨e1, e2, e3⟩ := e
    have rg := (zCz_rg (l := fl) (s := fs) (g := gp.toInt) (n := sz.toInt) (sz.toInt - a.toInt).toNat a.toInt de.toInt sd ha.1 (by omega) hd).1.2
    rw [x1] at rg
    exact ⟨⟨e2, e1, h3, h4', e3, h6⟩, by omega, rg⟩
theorem zNu_closed {fl fs gl gs fc gc : Nat → Int32} {gp ng sz te r q de a se tr sd nd na ns nt nsd : Int32} (h : zTt fl fs gl gs gp ng) (hn : zNu de a se tr sd fc nd na ns nt nsd gc) (hs : sz.toInt = te.toInt) (h4 : 4 ≤ sz.toInt ∧ sz.toInt ≤ 40) (ha : 0 ≤ a.toInt) (x : r.toInt = zRu fl fs gp.toInt sz.toInt (sz.toInt - a.toInt).toNat a.toInt) (y : q.toInt = zRu gl gs ng.toInt te.toInt (te.toInt - na.toInt).toNat na.toInt) : r.toInt = q.toInt := by
  obtain ⟨t1, t2, t3⟩ := h
  rw [x, y, ← t3, ← hs, ← hn.2.1]
  exact zRu_congr t1 t2 h4.2 _ _ ha
theorem zNu_winter {K A T gk ga gt fl fs gl gs fc gc : Nat → Int32} {hu nh cn np gp ng sz te n r q de a se tr sd nd na ns nt nsd de2 a2 se2 tr2 sd2 nd2 na2 ns2 nt2 nsd2 : Int32} (hk : zTp K A T gk ga gt hu nh) (h : zTt fl fs gl gs gp ng) (hn : zNu de a se tr sd fc nd na ns nt nsd gc) (hc : cn.toInt = np.toInt) (h8 : cn.toInt ≤ 8) (hs : sz.toInt = te.toInt) (h4 : 4 ≤ sz.toInt ∧ sz.toInt ≤ 40)
    (x : ((n.toInt < 1 ∨ 60 < n.toInt) ∧ r.toInt = -6 ∧ a2 = a ∧ de2 = de ∧ se2 = se ∧ tr2 = tr ∧ sd2 = sd) ∨ ((1 ≤ n.toInt ∧ n.toInt ≤ 60) ∧ zWi fl fs gp.toInt sz.toInt K A T cn.toInt.toNat hu.toInt n.toInt.toNat 0 a.toInt de.toInt se.toInt tr sd = (r.toInt, a2.toInt, de2.toInt, se2.toInt, tr2, sd2)))
    (y : ((n.toInt < 1 ∨ 60 < n.toInt) ∧ q.toInt = -6 ∧ na2 = na ∧ nd2 = nd ∧ ns2 = ns ∧ nt2 = nt ∧ nsd2 = nsd) ∨ ((1 ≤ n.toInt ∧ n.toInt ≤ 60) ∧ zWi gl gs ng.toInt te.toInt gk ga gt np.toInt.toNat nh.toInt n.toInt.toNat 0 na.toInt nd.toInt ns.toInt nt nsd = (q.toInt, na2.toInt, nd2.toInt, ns2.toInt, nt2, nsd2))) : zNu de2 a2 se2 tr2 sd2 fc nd2 na2 ns2 nt2 nsd2 gc ∧ r.toInt = q.toInt := by
  obtain ⟨k1, k2⟩ := hk
  obtain ⟨t1, t2, t3⟩ := h
  obtain ⟨h1, h2, h3, h4', h5, h6⟩ := hn
  rcases x with ⟨x0, x1, rfl, rfl, rfl, x2, x3⟩ | ⟨x0, x1⟩ <;> rcases y with ⟨y0, y1, rfl, rfl, rfl, y2, y3⟩ | ⟨y0, y1⟩
  · exact ⟨⟨h1, h2, h3, by rw [x2, y2]; exact h4', by rw [x3, y3]; exact h5, h6⟩, by omega⟩
  · omega
  · omega
  · rw [← t3, ← hs, ← hc, ← k2, ← h1, ← h2, ← h3, ← h4', ← h5, ← zWi_congr (h := hu.toInt) t1 t2 ⟨by omega, h4.2⟩ (fun p hp => k1 p (by omega))] at y1
    have e := x1.symm.trans y1
    simp only [Prod.mk.injEq] at e
    obtain ⟨e0, e1, e2, e3, e4, e5⟩ := e
    exact ⟨⟨e2, e1, e3, e4, e5, h6⟩, e0⟩
theorem zNu_cases {K A T gk ga gt fc gc : Nat → Int32} {hu nh cn np n w r q de a se tr sd nd na ns nt nsd : Int32} (hk : zTp K A T gk ga gt hu nh) (hn : zNu de a se tr sd fc nd na ns nt nsd gc) (hc : cn.toInt = np.toInt) (h8 : cn.toInt ≤ 8)
    (x : ((w.toInt < 0 ∨ 2 < w.toInt) ∧ r.toInt = -15) ∨ ((0 ≤ w.toInt ∧ w.toInt ≤ 2) ∧ (((n.toInt < 0 ∨ 4 < n.toInt) ∧ r.toInt = -16) ∨ ((0 ≤ n.toInt ∧ n.toInt ≤ 4) ∧ ((w.toInt = 1 ∧ r.toInt = zNq K A T cn.toInt.toNat hu.toInt n.toInt de.toInt se.toInt) ∨ (w.toInt ≠ 1 ∧ r.toInt = zM K A T cn.toInt.toNat hu.toInt (if w.toInt = 2 then 0 else 1) n.toInt.toNat de.toInt se.toInt))))))
    (y : ((w.toInt < 0 ∨ 2 < w.toInt) ∧ q.toInt = -15) ∨ ((0 ≤ w.toInt ∧ w.toInt ≤ 2) ∧ (((n.toInt < 0 ∨ 4 < n.toInt) ∧ q.toInt = -16) ∨ ((0 ≤ n.toInt ∧ n.toInt ≤ 4) ∧ ((w.toInt = 1 ∧ q.toInt = zNq gk ga gt np.toInt.toNat nh.toInt n.toInt nd.toInt ns.toInt) ∨ (w.toInt ≠ 1 ∧ q.toInt = zM gk ga gt np.toInt.toNat nh.toInt (if w.toInt = 2 then 0 else 1) n.toInt.toNat nd.toInt ns.toInt)))))) : r.toInt = q.toInt := by
  obtain ⟨k1, k2⟩ := hk
  have kk : ∀ p : Nat, p < cn.toInt.toNat → K p = gk p ∧ A p = ga p ∧ T p = gt p := fun p hp => k1 p (by omega)
  rw [← hc, ← k2, ← hn.1, ← hn.2.2.1, ← zNq_congr kk, ← zM_congr kk] at y
  rcases x with x | ⟨x0, x⟩ <;> rcases y with y | ⟨y0, y⟩
  · omega
  · omega
  · omega
  · rcases x with x | ⟨x1, x⟩ <;> rcases y with y | ⟨y1, y⟩
    · omega
    · omega
    · omega
    · rcases x with ⟨x2, x⟩ | ⟨x2, x⟩ <;> rcases y with ⟨y2, y⟩ | ⟨y2, y⟩
      · exact x.trans y.symm
      · omega
      · omega
      · exact x.trans y.symm
theorem zNu_line {K A T gk ga gt fc gc : Nat → Int32} {hu nh cn np n w r q de a se tr sd nd na ns nt nsd : Int32} (hk : zTp K A T gk ga gt hu nh) (hn : zNu de a se tr sd fc nd na ns nt nsd gc) (hc : cn.toInt = np.toInt) (h8 : cn.toInt ≤ 8)
    (x : ((w.toInt < 0 ∨ 1 < w.toInt) ∧ r.toInt = -15) ∨ ((0 ≤ w.toInt ∧ w.toInt ≤ 1) ∧ (((n.toInt < 0 ∨ 4 < n.toInt) ∧ r.toInt = -16) ∨ ((0 ≤ n.toInt ∧ n.toInt ≤ 4) ∧ ((w.toInt = 1 ∧ r.toInt = zLr K A T cn.toInt.toNat hu.toInt (fc 0).toInt (fc 1).toInt (fc 2).toInt n.toInt.toNat de.toInt se.toInt) ∨ (w.toInt = 0 ∧ r.toInt = zLn K A T cn.toInt.toNat hu.toInt (fc 0).toInt (fc 1).toInt (fc 2).toInt n.toInt.toNat de.toInt se.toInt))))))
    (y : ((w.toInt < 0 ∨ 1 < w.toInt) ∧ q.toInt = -15) ∨ ((0 ≤ w.toInt ∧ w.toInt ≤ 1) ∧ (((n.toInt < 0 ∨ 4 < n.toInt) ∧ q.toInt = -16) ∨ ((0 ≤ n.toInt ∧ n.toInt ≤ 4) ∧ ((w.toInt = 1 ∧ q.toInt = zLr gk ga gt np.toInt.toNat nh.toInt (gc 0).toInt (gc 1).toInt (gc 2).toInt n.toInt.toNat nd.toInt ns.toInt) ∨ (w.toInt = 0 ∧ q.toInt = zLn gk ga gt np.toInt.toNat nh.toInt (gc 0).toInt (gc 1).toInt (gc 2).toInt n.toInt.toNat nd.toInt ns.toInt)))))) : r.toInt = q.toInt := by
  obtain ⟨k1, k2⟩ := hk
  have kk : ∀ p : Nat, p < cn.toInt.toNat → K p = gk p ∧ A p = ga p ∧ T p = gt p := fun p hp => k1 p (by omega)
  obtain ⟨h1, h2, h3, h4, h5, h6⟩ := hn
  rw [← hc, ← k2, ← h1, ← h3, ← h6 0 (by decide), ← h6 1 (by decide), ← h6 2 (by decide), ← zLr_congr kk, ← zLn_congr kk] at y
  rcases x with x | ⟨x0, x⟩ <;> rcases y with y | ⟨y0, y⟩
  · omega
  · omega
  · omega
  · rcases x with x | ⟨x1, x⟩ <;> rcases y with y | ⟨y1, y⟩
    · omega
    · omega
    · omega
    · rcases x with ⟨x2, x⟩ | ⟨x2, x⟩ <;> rcases y with ⟨y2, y⟩ | ⟨y2, y⟩
      · exact x.trans y.symm
      · omega
      · omega
      · exact x.trans y.symm
theorem zNu_haste {K A T gk ga gt fc gc : Nat → Int32} {hu nh cn np n w r q de a se tr sd nd na ns nt nsd : Int32} (hk : zTp K A T gk ga gt hu nh) (hn : zNu de a se tr sd fc nd na ns nt nsd gc) (hc : cn.toInt = np.toInt) (h8 : cn.toInt ≤ 8)
    (x : ((w.toInt < 0 ∨ 1 < w.toInt) ∧ r.toInt = -5) ∨ ((0 ≤ w.toInt ∧ w.toInt ≤ 1) ∧ (((n.toInt < 0 ∨ 4 < n.toInt) ∧ r.toInt = -6) ∨ ((0 ≤ n.toInt ∧ n.toInt ≤ 4) ∧ ((w.toInt = 1 ∧ r.toInt = (if (zHv K A T cn.toInt.toNat n.toInt.toNat de.toInt se.toInt) 9 < (zHv K A T cn.toInt.toNat n.toInt.toNat de.toInt se.toInt) 0 then 1 else 0)) ∨ (w.toInt = 0 ∧ r.toInt = (zHs (zHv K A T cn.toInt.toNat n.toInt.toNat de.toInt se.toInt) 9 : Nat)))))))
    (y : ((w.toInt < 0 ∨ 1 < w.toInt) ∧ q.toInt = -5) ∨ ((0 ≤ w.toInt ∧ w.toInt ≤ 1) ∧ (((n.toInt < 0 ∨ 4 < n.toInt) ∧ q.toInt = -6) ∨ ((0 ≤ n.toInt ∧ n.toInt ≤ 4) ∧ ((w.toInt = 1 ∧ q.toInt = (if (zHv gk ga gt np.toInt.toNat n.toInt.toNat nd.toInt ns.toInt) 9 < (zHv gk ga gt np.toInt.toNat n.toInt.toNat nd.toInt ns.toInt) 0 then 1 else 0)) ∨ (w.toInt = 0 ∧ q.toInt = (zHs (zHv gk ga gt np.toInt.toNat n.toInt.toNat nd.toInt ns.toInt) 9 : Nat))))))) : r.toInt = q.toInt := by
  obtain ⟨k1, k2⟩ := hk
  have kk : ∀ p : Nat, p < cn.toInt.toNat → K p = gk p ∧ A p = ga p ∧ T p = gt p := fun p hp => k1 p (by omega)
  have e : zHv gk ga gt np.toInt.toNat n.toInt.toNat nd.toInt ns.toInt = zHv K A T cn.toInt.toNat n.toInt.toNat de.toInt se.toInt := by
    funext h
    unfold zHv
    rw [← hc, ← hn.1, ← hn.2.2.1, ← zM_congr kk]
  rw [e] at y
  rcases x with x | ⟨x0, x⟩ <;> rcases y with y | ⟨y0, y⟩
  · omega
  · omega
  · omega
  · rcases x with x | ⟨x1, x⟩ <;> rcases y with y | ⟨y1, y⟩
    · omega
    · omega
    · omega
    · rcases x with ⟨x2, x⟩ | ⟨x2, x⟩ <;> rcases y with ⟨y2, y⟩ | ⟨y2, y⟩
      · exact x.trans y.symm
      · omega
      · omega
      · exact x.trans y.symm
theorem zNu_pullOf {K A T gk ga gt fc gc : Nat → Int32} {hu nh cn np p w r q de a se tr sd nd na ns nt nsd : Int32} (hk : zTp K A T gk ga gt hu nh) (hn : zNu de a se tr sd fc nd na ns nt nsd gc) (hc : cn.toInt = np.toInt) (h8 : cn.toInt ≤ 8)
    (x : ((p.toInt < 0 ∨ cn.toInt ≤ p.toInt) ∧ r.toInt = -5) ∨ ((0 ≤ p.toInt ∧ p.toInt < cn.toInt) ∧ (((w.toInt < 0 ∨ 4 < w.toInt) ∧ r.toInt = -5) ∨ ((0 ≤ w.toInt ∧ w.toInt ≤ 4) ∧ r.toInt = (if w.toInt = 0 then (K p.toNatClampNeg).toInt else if w.toInt = 1 then (A p.toNatClampNeg).toInt else if w.toInt = 2 then (T p.toNatClampNeg).toInt else if w.toInt = 3 then zStp (K p.toNatClampNeg).toInt (A p.toNatClampNeg).toInt else if 1 ≤ de.toInt ∧ (T p.toNatClampNeg).toInt ≤ se.toInt then 1 else 0)))))
    (y : ((p.toInt < 0 ∨ np.toInt ≤ p.toInt) ∧ q.toInt = -5) ∨ ((0 ≤ p.toInt ∧ p.toInt < np.toInt) ∧ (((w.toInt < 0 ∨ 4 < w.toInt) ∧ q.toInt = -5) ∨ ((0 ≤ w.toInt ∧ w.toInt ≤ 4) ∧ q.toInt = (if w.toInt = 0 then (gk p.toNatClampNeg).toInt else if w.toInt = 1 then (ga p.toNatClampNeg).toInt else if w.toInt = 2 then (gt p.toNatClampNeg).toInt else if w.toInt = 3 then zStp (gk p.toNatClampNeg).toInt (ga p.toNatClampNeg).toInt else if 1 ≤ nd.toInt ∧ (gt p.toNatClampNeg).toInt ≤ ns.toInt then 1 else 0))))) : r.toInt = q.toInt := by
  obtain ⟨k1, k2⟩ := hk
  rcases x with x | ⟨x0, x⟩ <;> rcases y with y | ⟨y0, y⟩
  · omega
  · omega
  · omega
  · obtain ⟨z1, z2, z3⟩ := k1 p.toNatClampNeg (by have : p.toNatClampNeg = p.toInt.toNat := rfl; omega)
    rw [z1, z2, z3, hn.1, hn.2.2.1] at x
    rcases x with x | ⟨x1, x⟩ <;> rcases y with y | ⟨y1, y⟩
    · omega
    · omega
    · omega
    · exact x.trans y.symm
theorem zNu_judge {K A T gk ga gt fc gc : Nat → Int32} {c e : Nat → Int64} {hu nh cn np n s r q de a se tr sd nd na ns nt nsd : Int32} {h1 s1 h2 s2 : Int} (hk : zTp K A T gk ga gt hu nh) (hn : zNu de a se tr sd fc nd na ns nt nsd gc) (hc : cn.toInt = np.toInt) (h8 : cn.toInt ≤ 8) (hb : (0 ≤ s.toInt ∧ s.toInt ≤ 7) → (h1 = -1 ∧ h2 = -1) ∨ ((h1 ≠ -1 ∧ h1 < 100) ∧ h2 ≠ -1 ∧ h2 < 100) ∨ (100 ≤ h1 ∧ 100 ≤ h2 ∧ s1 = s2 ∧ ∀ i : Int, 0 ≤ i → i < s1 → zTl c i = zTl e i))
    (x : ((s.toInt < 0 ∨ 7 < s.toInt) ∧ r.toInt = -11) ∨ ((0 ≤ s.toInt ∧ s.toInt ≤ 7) ∧ ((h1 = -1 ∧ r.toInt = -13) ∨ (h1 ≠ -1 ∧ h1 < 100 ∧ r.toInt = -12) ∨ (100 ≤ h1 ∧ ((n.toInt < 0 ∧ r.toInt = -14) ∨ (0 ≤ n.toInt ∧ s1 < n.toInt ∧ r.toInt = -15) ∨ (0 ≤ n.toInt ∧ n.toInt ≤ s1 ∧ 20 < n.toInt ∧ r.toInt = -16) ∨ ((0 ≤ n.toInt ∧ n.toInt ≤ s1 ∧ n.toInt ≤ 20) ∧ r.toInt = zJg K A T cn.toInt hu.toInt c n.toInt.toNat 0 de.toInt se.toInt))))))
    (y : ((s.toInt < 0 ∨ 7 < s.toInt) ∧ q.toInt = -11) ∨ ((0 ≤ s.toInt ∧ s.toInt ≤ 7) ∧ ((h2 = -1 ∧ q.toInt = -13) ∨ (h2 ≠ -1 ∧ h2 < 100 ∧ q.toInt = -12) ∨ (100 ≤ h2 ∧ ((n.toInt < 0 ∧ q.toInt = -14) ∨ (0 ≤ n.toInt ∧ s2 < n.toInt ∧ q.toInt = -15) ∨ (0 ≤ n.toInt ∧ n.toInt ≤ s2 ∧ 20 < n.toInt ∧ q.toInt = -16) ∨ ((0 ≤ n.toInt ∧ n.toInt ≤ s2 ∧ n.toInt ≤ 20) ∧ q.toInt = zJg gk ga gt np.toInt nh.toInt e n.toInt.toNat 0 nd.toInt ns.toInt)))))) : r.toInt = q.toInt := by
  obtain ⟨k1, k2⟩ := hk
  rcases x with x | ⟨x0, x⟩
  · rcases y with y | ⟨y0, y⟩
    · omega
    · omega
  · rcases y with y | ⟨y0, y⟩
    · omega
    · rcases hb x0 with b | b | ⟨b1, b2, b3, b4⟩
      · omega
      · omega
      · have x : (n.toInt < 0 ∧ r.toInt = -14) ∨ (0 ≤ n.toInt ∧ s1 < n.toInt ∧ r.toInt = -15) ∨ (0 ≤ n.toInt ∧ n.toInt ≤ s1 ∧ 20 < n.toInt ∧ r.toInt = -16) ∨ ((0 ≤ n.toInt ∧ n.toInt ≤ s1 ∧ n.toInt ≤ 20) ∧ r.toInt = zJg K A T cn.toInt hu.toInt c n.toInt.toNat 0 de.toInt se.toInt) := by
          rcases x with x | x | x
          · omega
          · omega
          · exact x.2
        have y : (n.toInt < 0 ∧ q.toInt = -14) ∨ (0 ≤ n.toInt ∧ s2 < n.toInt ∧ q.toInt = -15) ∨ (0 ≤ n.toInt ∧ n.toInt ≤ s2 ∧ 20 < n.toInt ∧ q.toInt = -16) ∨ ((0 ≤ n.toInt ∧ n.toInt ≤ s2 ∧ n.toInt ≤ 20) ∧ q.toInt = zJg gk ga gt np.toInt nh.toInt e n.toInt.toNat 0 nd.toInt ns.toInt) := by
          rcases y with y | y | y
          · omega
          · omega
          · exact y.2
        by_cases g : 0 ≤ n.toInt ∧ n.toInt ≤ s1 ∧ n.toInt ≤ 20
        · have ej := zJg_congr (K := K) (A := A) (T := T) (K2 := gk) (A2 := ga) (T2 := gt) (N := cn.toInt) (h := hu.toInt) (c := c) (e := e) h8 k1 n.toInt.toNat 0 de.toInt se.toInt (fun j p1 p2 => b4 j p1 (by omega))
          rw [← hc, ← k2, ← hn.1, ← hn.2.2.1, ← ej] at y
          omega
        · omega
theorem zRel_jq {he si gh go gs gd : Nat → Int32} {fe : Nat → Nat → Int64} {gc : Nat → Int64} {j : Nat} {s : Int32} (h : zRel he si fe gh go gs gd gc) (hd : zHS gh gd) (hg : zRg gh 0 2) (ho : zRg go 0 3) (hsi : zRg si 0 160) (hj : j < 8) (hq : 0 ≤ s.toInt → s.toInt ≤ 7 → j = s.toNatClampNeg) : (0 ≤ s.toInt ∧ s.toInt ≤ 7) → ((he j).toInt = -1 ∧ zHc (gh s.toNatClampNeg).toInt = -1) ∨ (((he j).toInt ≠ -1 ∧ (he j).toInt < 100) ∧ zHc (gh s.toNatClampNeg).toInt ≠ -1 ∧ zHc (gh s.toNatClampNeg).toInt < 100) ∨ (100 ≤ (he j).toInt ∧ 100 ≤ zHc (gh s.toNatClampNeg).toInt ∧ (si j).toInt = (gs s.toNatClampNeg).toInt ∧ ∀ i : Int, 0 ≤ i → i < (si j).toInt → zTl (fe j) i = zTl (zRw gc (160 * s.toInt)) i) := by
  intro hs
  obtain rfl := hq hs.1 hs.2
  have e1 : s.toNatClampNeg = s.toInt.toNat := rfl
  have o := ho s.toNatClampNeg
  have k1 := hsi s.toNatClampNeg
  rcases zRel_hc h hd hg hj with ⟨a, b, c⟩ | ⟨a, b, c, d⟩ | ⟨a, b, c, -⟩
  · exact Or.inl ⟨b, c⟩
  · refine Or.inr (Or.inr ⟨by omega, by omega, d, fun i h1 h2 => ?_⟩)
    unfold zTl zRw
    rw [((h _ hj).2.1 a).2.2 i.toNat (by omega)]
    congr 3
    omega
  · exact Or.inr (Or.inl ⟨by omega, by omega⟩)

