/-! what the calls that hang on the pulls' kinds answer in both worlds -/
theorem zTp_frees {K A T gk ga gt : Nat → Int32} {hu nh cn np p d w r q : Int32} (h : zTp K A T gk ga gt hu nh) (hc : cn.toInt = np.toInt) (h8 : cn.toInt ≤ 8)
    (x : ((p.toInt < 0 ∨ cn.toInt ≤ p.toInt) ∧ r.toInt = -1) ∨ ((0 ≤ p.toInt ∧ p.toInt < cn.toInt) ∧ (((w.toInt < 0 ∨ 2 < w.toInt) ∧ r.toInt = -5) ∨ ((0 ≤ w.toInt ∧ w.toInt ≤ 2) ∧ (((d.toInt < 1 ∨ 24 < d.toInt) ∧ r.toInt = -6) ∨ ((1 ≤ d.toInt ∧ d.toInt ≤ 24) ∧ r.toInt = (if w.toInt = 0 then zWy (K p.toNatClampNeg).toInt (A p.toNatClampNeg).toInt hu.toInt d.toInt else if w.toInt = 1 then zShl (K p.toNatClampNeg).toInt (A p.toNatClampNeg).toInt d.toInt else zDpr (K p.toNatClampNeg).toInt (A p.toNatClampNeg).toInt hu.toInt d.toInt)))))))
    (y : ((p.toInt < 0 ∨ np.toInt ≤ p.toInt) ∧ q.toInt = -1) ∨ ((0 ≤ p.toInt ∧ p.toInt < np.toInt) ∧ (((w.toInt < 0 ∨ 2 < w.toInt) ∧ q.toInt = -5) ∨ ((0 ≤ w.toInt ∧ w.toInt ≤ 2) ∧ (((d.toInt < 1 ∨ 24 < d.toInt) ∧ q.toInt = -6) ∨ ((1 ≤ d.toInt ∧ d.toInt ≤ 24) ∧ q.toInt = (if w.toInt = 0 then zWy (gk p.toNatClampNeg).toInt (ga p.toNatClampNeg).toInt nh.toInt d.toInt else if w.toInt = 1 then zShl (gk p.toNatClampNeg).toInt (ga p.toNatClampNeg).toInt d.toInt else zDpr (gk p.toNatClampNeg).toInt (ga p.toNatClampNeg).toInt nh.toInt d.toInt))))))) : r.toInt = q.toInt := by
  obtain ⟨h1, h2⟩ := h
  by_cases c : 0 ≤ p.toInt ∧ p.toInt < cn.toInt
  · obtain ⟨z1, z2, -⟩ := h1 p.toNatClampNeg (by have : p.toNatClampNeg = p.toInt.toNat := rfl; omega)
    rw [z1, z2, h2] at x
    rcases x with x | ⟨-, x⟩
    · omega
    · rcases y with y | ⟨-, y⟩
      · omega
      · rcases x with x | ⟨x0, x⟩ <;> rcases y with y | ⟨y0, y⟩
        · omega
        · omega
        · omega
        · rcases x with x | ⟨x1, x⟩ <;> rcases y with y | ⟨y1, y⟩
          · omega
          · omega
          · omega
          · exact x.trans y.symm
  · rcases x with x | x
    · rcases y with y | y
      · omega
      · exact absurd y.1 (by omega)
    · exact absurd x.1 c
/-- a belief on the same shelf, in both worlds -/
theorem zRel_bq {he si gh go gs gd : Nat → Int32} {fe : Nat → Nat → Int64} {gc : Nat → Int64} {j : Nat} {s : Int32} (h : zRel he si fe gh go gs gd gc) (hd : zHS gh gd) (hg : zRg gh 0 2) (ho : zRg go 0 3) (hsi : zRg si 0 160) (hj : j < 8) (hq : 0 ≤ s.toInt → s.toInt ≤ 7 → j = s.toNatClampNeg) : (0 ≤ s.toInt ∧ s.toInt ≤ 7) → ∀ q1 q2 : Int, zBelR (he j).toInt (si j).toInt (fe j) q1 → zBelR (zHc (gh s.toNatClampNeg).toInt) (gs s.toNatClampNeg).toInt (zRw gc (160 * s.toInt)) q2 → q1 = q2 ∧ (q1 = 0 → ∀ i : Nat, i < 25 → fe j i = zRw gc (160 * s.toInt) i) := by
  intro hs q1 q2 x y
  obtain rfl := hq hs.1 hs.2
  have e1 : s.toNatClampNeg = s.toInt.toNat := rfl
  have o := ho s.toNatClampNeg
  rcases zRel_hc h hd hg hj with ⟨a, b, c⟩ | ⟨a, b, c, d⟩ | ⟨a, b, c, -⟩
  · have z1 : q1 = 3 := by unfold zBelR at x; omega
    have z2 : q2 = 3 := by unfold zBelR at y; omega
    exact ⟨by omega, fun z => by omega⟩
  · have hc : ∀ i : Nat, i < 25 → fe s.toNatClampNeg i = zRw gc (160 * s.toInt) i := fun i hi => by
      rw [((h _ hj).2.1 a).2.2 i (by omega)]
      unfold zRw
      congr 1
      omega
    refine ⟨?_, fun _ => hc⟩
    have x2 : zBelR (zHc (gh s.toNatClampNeg).toInt) (gs s.toNatClampNeg).toInt (zRw gc (160 * s.toInt)) q1 := by
      unfold zBelR at x ⊢
      rw [zBel_congr hc] at x
      rcases x with x | x | x | x | x
      · exfalso; omega
      · exfalso; omega
      · exact Or.inr (Or.inr (Or.inl ⟨by omega, by omega, x.2.2⟩))
      · exact Or.inr (Or.inr (Or.inr (Or.inl ⟨by omega, by omega, x.2.2.1, x.2.2.2⟩)))
      · exact Or.inr (Or.inr (Or.inr (Or.inr ⟨by omega, by omega, x.2.2.1, x.2.2.2⟩)))
    exact zBelR_one x2 y
  · have z1 : q1 = 2 := by unfold zBelR at x; omega
    have z2 : q2 = 2 := by unfold zBelR at y; omega
    exact ⟨by omega, fun z => by omega⟩
/-- an answer by a belief: first whether it may be -/
theorem zBq {s : Int32} {h1 s1 h2 s2 : Int} {c1 c2 : Nat → Int64} {G1 G2 : Prop} {f : Int → Int} {r r2 : Int} (hs : 0 ≤ s.toInt ∧ s.toInt ≤ 7) (hb : (0 ≤ s.toInt ∧ s.toInt ≤ 7) → ∀ q1 q2 : Int, zBelR h1 s1 c1 q1 → zBelR h2 s2 c2 q2 → q1 = q2 ∧ (q1 = 0 → ∀ i : Nat, i < 25 → c1 i = c2 i)) (x : ∃ q : Int, zBelR h1 s1 c1 q ∧ ((q ≠ 0 ∧ r = f q) ∨ (q = 0 ∧ G1))) (y : ∃ q : Int, zBelR h2 s2 c2 q ∧ ((q ≠ 0 ∧ r2 = f q) ∨ (q = 0 ∧ G2))) (hg : (∀ i : Nat, i < 25 → c1 i = c2 i) → G1 → G2 → r = r2) : r = r2 := by
  obtain ⟨q1, x1, x2⟩ := x
  obtain ⟨q2, y1, y2⟩ := y
  obtain ⟨e, hc⟩ := hb hs q1 q2 x1 y1
  subst e
  rcases x2 with ⟨x2, x3⟩ | ⟨x2, x3⟩ <;> rcases y2 with ⟨y2, y3⟩ | ⟨y2, y3⟩
  · rw [x3, y3]
  · exact absurd y2 x2
  · exact absurd x2 y2
  · exact hg (hc x2) x3 y3
theorem zTp_freed {K A T gk ga gt : Nat → Int32} {hu nh cn np s p r r2 : Int32} {h1 s1 h2 s2 : Int} {c1 c2 : Nat → Int64} (h : zTp K A T gk ga gt hu nh) (hc : cn.toInt = np.toInt) (h8 : cn.toInt ≤ 8) (hb : (0 ≤ s.toInt ∧ s.toInt ≤ 7) → ∀ q1 q2 : Int, zBelR h1 s1 c1 q1 → zBelR h2 s2 c2 q2 → q1 = q2 ∧ (q1 = 0 → ∀ i : Nat, i < 25 → c1 i = c2 i))
    (x : ((s.toInt < 0 ∨ 7 < s.toInt ∨ p.toInt < 0 ∨ cn.toInt ≤ p.toInt) ∧ r.toInt = -1) ∨ ((0 ≤ s.toInt ∧ s.toInt ≤ 7) ∧ (0 ≤ p.toInt ∧ p.toInt < cn.toInt) ∧ ∃ q : Int, zBelR h1 s1 c1 q ∧ ((q ≠ 0 ∧ r.toInt = -q) ∨ (q = 0 ∧ r.toInt = zFd c1 (K p.toNatClampNeg).toInt (A p.toNatClampNeg).toInt hu.toInt 24))))
    (y : ((s.toInt < 0 ∨ 7 < s.toInt ∨ p.toInt < 0 ∨ np.toInt ≤ p.toInt) ∧ r2.toInt = -1) ∨ ((0 ≤ s.toInt ∧ s.toInt ≤ 7) ∧ (0 ≤ p.toInt ∧ p.toInt < np.toInt) ∧ ∃ q : Int, zBelR h2 s2 c2 q ∧ ((q ≠ 0 ∧ r2.toInt = -q) ∨ (q = 0 ∧ r2.toInt = zFd c2 (gk p.toNatClampNeg).toInt (ga p.toNatClampNeg).toInt nh.toInt 24)))) : r.toInt = r2.toInt := by
  obtain ⟨k1, k2⟩ := h
  rcases x with ⟨x1, x2⟩ | ⟨x1, x2, x3⟩ <;> rcases y with ⟨y1, y2⟩ | ⟨y1, y2, y3⟩
  · omega
  · omega
  · omega
  · obtain ⟨z1, z2, -⟩ := k1 p.toNatClampNeg (by have : p.toNatClampNeg = p.toInt.toNat := rfl; omega)
    exact zBq (f := fun q => -q) x1 hb x3 y3 (fun e a b => by rw [a, b, z1, z2, k2]; exact zFd_congr e 24 (by omega))
theorem zTp_behind {K A T gk ga gt : Nat → Int32} {hu nh cn np s p d r r2 : Int32} {h1 s1 h2 s2 : Int} {c1 c2 : Nat → Int64} (h : zTp K A T gk ga gt hu nh) (hc : cn.toInt = np.toInt) (h8 : cn.toInt ≤ 8) (hb : (0 ≤ s.toInt ∧ s.toInt ≤ 7) → ∀ q1 q2 : Int, zBelR h1 s1 c1 q1 → zBelR h2 s2 c2 q2 → q1 = q2 ∧ (q1 = 0 → ∀ i : Nat, i < 25 → c1 i = c2 i))
    (x : ((s.toInt < 0 ∨ 7 < s.toInt ∨ p.toInt < 0 ∨ cn.toInt ≤ p.toInt) ∧ r.toInt = -1) ∨ ((0 ≤ s.toInt ∧ s.toInt ≤ 7) ∧ (0 ≤ p.toInt ∧ p.toInt < cn.toInt) ∧ ∃ q : Int, zBelR h1 s1 c1 q ∧ ((q ≠ 0 ∧ r.toInt = -q) ∨ (q = 0 ∧ (((d.toInt < 0 ∨ 24 < d.toInt) ∧ r.toInt = -6) ∨ ((0 ≤ d.toInt ∧ d.toInt ≤ 24) ∧ r.toInt = zBh c1 (K p.toNatClampNeg).toInt (A p.toNatClampNeg).toInt hu.toInt d.toInt 24))))))
    (y : ((s.toInt < 0 ∨ 7 < s.toInt ∨ p.toInt < 0 ∨ np.toInt ≤ p.toInt) ∧ r2.toInt = -1) ∨ ((0 ≤ s.toInt ∧ s.toInt ≤ 7) ∧ (0 ≤ p.toInt ∧ p.toInt < np.toInt) ∧ ∃ q : Int, zBelR h2 s2 c2 q ∧ ((q ≠ 0 ∧ r2.toInt = -q) ∨ (q = 0 ∧ (((d.toInt < 0 ∨ 24 < d.toInt) ∧ r2.toInt = -6) ∨ ((0 ≤ d.toInt ∧ d.toInt ≤ 24) ∧ r2.toInt = zBh c2 (gk p.toNatClampNeg).toInt (ga p.toNatClampNeg).toInt nh.toInt d.toInt 24)))))) : r.toInt = r2.toInt := by
  obtain ⟨k1, k2⟩ := h
  rcases x with ⟨x1, x2⟩ | ⟨x1, x2, x3⟩ <;> rcases y with ⟨y1, y2⟩ | ⟨y1, y2, y3⟩
  · omega
  · omega
  · omega
  · obtain ⟨z1, z2, -⟩ := k1 p.toNatClampNeg (by have : p.toNatClampNeg = p.toInt.toNat := rfl; omega)
    refine zBq (f := fun q => -q) x1 hb x3 y3 (fun e a b => ?_)
    rcases a with ⟨a1, a2⟩ | ⟨a1, a2⟩ <;> rcases b with ⟨b1, b2⟩ | ⟨b1, b2⟩
    · omega
    · omega
    · omega
    · rw [a2, b2, z1, z2, k2]; exact zBh_congr e 24 (by omega)
theorem zBst_congr {c e : Nat → Int64} {K A gk ga : Nat → Int32} {h h2 b : Int} {n : Nat} (g : ∀ j : Nat, j < n → zFd c (K j).toInt (A j).toInt h 24 = zFd e (gk j).toInt (ga j).toInt h2 24) (x : zBst c K A h n b) : zBst e gk ga h2 n b := by
  rcases x with x | ⟨p, x1, x2, x3, x4⟩
  · exact Or.inl x
  · refine Or.inr ⟨p, x1, x2, fun j hj => ?_, fun j hj => ?_⟩
    · rw [← g j hj, ← g p x1]; exact x3 j hj
    · rw [← g j (by omega), ← g p x1]; exact x4 j hj
theorem zTp_best {K A T gk ga gt : Nat → Int32} {hu nh cn np s r r2 : Int32} {h1 s1 h2 s2 : Int} {c1 c2 : Nat → Int64} (h : zTp K A T gk ga gt hu nh) (hc : cn.toInt = np.toInt) (h8 : cn.toInt ≤ 8) (hb : (0 ≤ s.toInt ∧ s.toInt ≤ 7) → ∀ q1 q2 : Int, zBelR h1 s1 c1 q1 → zBelR h2 s2 c2 q2 → q1 = q2 ∧ (q1 = 0 → ∀ i : Nat, i < 25 → c1 i = c2 i))
    (x : ((s.toInt < 0 ∨ 7 < s.toInt) ∧ r.toInt = -11) ∨ ((0 ≤ s.toInt ∧ s.toInt ≤ 7) ∧ ∃ q : Int, zBelR h1 s1 c1 q ∧ ((q ≠ 0 ∧ r.toInt = -q - 10) ∨ (q = 0 ∧ zBst c1 K A hu.toInt cn.toInt.toNat r.toInt))))
    (y : ((s.toInt < 0 ∨ 7 < s.toInt) ∧ r2.toInt = -11) ∨ ((0 ≤ s.toInt ∧ s.toInt ≤ 7) ∧ ∃ q : Int, zBelR h2 s2 c2 q ∧ ((q ≠ 0 ∧ r2.toInt = -q - 10) ∨ (q = 0 ∧ zBst c2 gk ga nh.toInt np.toInt.toNat r2.toInt)))) : r.toInt = r2.toInt := by
  obtain ⟨k1, k2⟩ := h
  rcases x with ⟨x1, x2⟩ | ⟨x1, x3⟩ <;> rcases y with ⟨y1, y2⟩ | ⟨y1, y3⟩
  · omega
  · omega
  · omega
  · refine zBq (f := fun q => -q - 10) x1 hb x3 y3 (fun e a b => ?_)
    rw [← hc] at b
    refine zBst_one (zBst_congr (fun j hj => ?_) a) b
    obtain ⟨z1, z2, -⟩ := k1 j (by omega)
    rw [z1, z2, k2]
    exact zFd_congr e 24 (by omega)
/-! a pull that a shelf shows is there -/
