/-! the script's places -/
theorem zLadd {i x k : Int32} {n L : Nat} {kk : Int} (ex : x = i + k) (hk : k.toInt = kk) (h0 : 0 ≤ kk) (h5 : kk ≤ 5) (hi6 : i.toInt = 6 * (n : Int)) (hn6 : 6 * (n : Int) + 6 ≤ (L : Int)) (hL : L ≤ 3072) : x.toInt = i.toInt + kk := by
  rw [ex]; exact zf_add rfl hk (by omega) (by omega)
theorem zLin {i x : Int32} {n L : Nat} {kk : Int} (qx : x.toInt = i.toInt + kk) (h0 : 0 ≤ kk) (h5 : kk ≤ 5) (hi6 : i.toInt = 6 * (n : Int)) (hn6 : 6 * (n : Int) + 6 ≤ (L : Int)) : vp_in x L := zf_in (by omega) (by omega)
/-! the two worlds' shelves, side by side -/
def zRel (he si : Nat → Int32) (fe : Nat → Nat → Int64) (gh go gs gd : Nat → Int32) (gc : Nat → Int64) : Prop := ∀ j : Nat, j < 8 → ((gh j).toInt = 0 → (he j).toInt = -1) ∧ ((gh j).toInt = 1 → (he j).toInt = 100 + (go j).toInt ∧ (si j).toInt = (gs j).toInt ∧ ∀ k : Nat, k < 160 → fe j k = gc (160 * j + k)) ∧ ((gh j).toInt = 2 → (he j).toInt = (gd j).toInt)
theorem zUpS {α : Type} {f : Nat → α} {j : Nat} : va_up f j (f j) = f := by
  funext i
  simp only [va_up]
  split
  · rename_i h; rw [h]
  · rfl
theorem zUp1 {α : Type} {f : Nat → α} {j : Nat} {v : α} : va_up f j v j = v := by simp [va_up]
theorem zUp2 {α : Type} {f : Nat → α} {i j : Nat} {v : α} (h : i ≠ j) : va_up f j v i = f i := by simp [va_up, h]
theorem zUd1 {f : Nat → Int32} {j : Nat} {v : Int32} : upd f j v j = v := by simp [upd]
theorem zUd2 {f : Nat → Int32} {i j : Nat} {v : Int32} (h : i ≠ j) : upd f j v i = f i := by simp [upd, h]
theorem zRow_1 {s o n : Int} (h : zRow s o n = 1) : (0 ≤ s ∧ s ≤ 7) ∧ (0 ≤ o ∧ o ≤ 3) ∧ 0 ≤ n ∧ n ≤ 160 := by
  unfold zRow at h
  repeat' split at h
  all_goals omega
theorem zSetR_1 {s he si i : Int} (h : zSetR s he si i = 1) : (0 ≤ s ∧ s ≤ 7) ∧ 100 ≤ he ∧ 0 ≤ i ∧ i < si := by
  unfold zSetR at h
  repeat' split at h
  all_goals omega
theorem zCopR_1 {s q hs hq ss sq i j n : Int} (h : zCopR s q hs hq ss sq i j n = 1) (h1 : -1 ≤ hs) (h2 : -1 ≤ hq) : (0 ≤ s ∧ s ≤ 7) ∧ (0 ≤ q ∧ q ≤ 7) ∧ 100 ≤ hs ∧ hs = hq ∧ 0 ≤ n ∧ 0 ≤ i ∧ 0 ≤ j ∧ i ≤ ss - n ∧ j ≤ sq - n := by
  unfold zCopR at h
  repeat' split at h
  all_goals omega
theorem zRel_row {he si gh go gs gd gh2 go2 gs2 : Nat → Int32} {fe : Nat → Nat → Int64} {gc gc2 g : Nat → Int64} {j : Nat} {s o n r r2 v u : Int32} (h : zRel he si fe gh go gs gd gc) (hq : 0 ≤ s.toInt → s.toInt ≤ 7 → j = s.toNatClampNeg) (x0 : r.toInt = zRow s.toInt o.toInt n.toInt) (x1 : r.toInt = 1 → v.toInt = 100 + o.toInt ∧ u.toInt = n.toInt ∧ ∀ k : Nat, k < 160 → g k = 0) (x2 : r.toInt ≠ 1 → v = he j ∧ u = si j ∧ g = fe j) (y0 : r2.toInt = zRow s.toInt o.toInt n.toInt) (y1 : r2.toInt = 1 → gh2 = upd gh s.toNatClampNeg 1 ∧ go2 = upd go s.toNatClampNeg o ∧ gs2 = upd gs s.toNatClampNeg n ∧ ∀ m : Nat, gc2 m = (if 160 * s.toNatClampNeg ≤ m ∧ m < 160 * s.toNatClampNeg + 160 then 0 else gc m)) (y2 : r2.toInt ≠ 1 → gh2 = gh ∧ go2 = go ∧ gs2 = gs ∧ gc2 = gc) : zRel (va_up he j v) (va_up si j u) (va_up fe j g) gh2 go2 gs2 gd gc2 := by
  by_cases hr : r.toInt = 1
  · obtain ⟨a1, a2, a3⟩ := x1 hr
    obtain ⟨rfl, rfl, rfl, b4⟩ := y1 (by omega)
    have z := zRow_1 (x0.symm.trans hr)
    obtain rfl := hq z.1.1 z.1.2
    intro i hi
    by_cases e : i = s.toNatClampNeg
    · rw [e, zUp1, zUp1, zUp1, zUd1, zUd1, zUd1]
      refine ⟨fun q => absurd q (by decide), fun _ => ⟨a1, a2, fun k hk => ?_⟩, fun q => absurd q (by decide)⟩
      rw [a3 k hk, b4, if_pos (by omega)]
    · rw [zUp2 e, zUp2 e, zUp2 e, zUd2 e, zUd2 e, zUd2 e]
      obtain ⟨c1, c2, c3⟩ := h i hi
      refine ⟨c1, fun q => ⟨(c2 q).1, (c2 q).2.1, fun k hk => ?_⟩, c3⟩
      rw [(c2 q).2.2 k hk, b4, if_neg (by omega)]
  · obtain ⟨rfl, rfl, rfl⟩ := x2 hr
    obtain ⟨rfl, rfl, rfl, rfl⟩ := y2 (by omega)
    rw [zUpS, zUpS, zUpS]
    exact h
theorem zRel_hc {he si gh go gs gd : Nat → Int32} {fe : Nat → Nat → Int64} {gc : Nat → Int64} (h : zRel he si fe gh go gs gd gc) (hd : zHS gh gd) (hg : zRg gh 0 2) {j : Nat} (hj : j < 8) : ((gh j).toInt = 0 ∧ (he j).toInt = -1 ∧ zHc (gh j).toInt = -1) ∨ ((gh j).toInt = 1 ∧ (he j).toInt = 100 + (go j).toInt ∧ zHc (gh j).toInt = 100 ∧ (si j).toInt = (gs j).toInt) ∨ ((gh j).toInt = 2 ∧ (0 ≤ (he j).toInt ∧ (he j).toInt ≤ 7) ∧ zHc (gh j).toInt = 0 ∧ (he j).toInt = (gd j).toInt) := by
  obtain ⟨a, b, c⟩ := h j hj
  have d := hg j
  unfold zHc
  rcases (show (gh j).toInt = 0 ∨ (gh j).toInt = 1 ∨ (gh j).toInt = 2 by omega) with e | e | e
  · exact Or.inl ⟨e, a e, by rw [if_neg (by omega), if_pos e]⟩
  · exact Or.inr (Or.inl ⟨e, (b e).1, by rw [if_pos e], (b e).2.1⟩)
  · have f := hd j e
    have g := c e
    exact Or.inr (Or.inr ⟨e, by omega, by rw [if_neg (by omega), if_neg (by omega)], g⟩)
/-- set answers alike -/
theorem zRel_setR {he si gh go gs gd : Nat → Int32} {fe : Nat → Nat → Int64} {gc : Nat → Int64} {j : Nat} {s i : Int32} (h : zRel he si fe gh go gs gd gc) (hd : zHS gh gd) (hg : zRg gh 0 2) (ho : zRg go 0 3) (hq : 0 ≤ s.toInt → s.toInt ≤ 7 → j = s.toNatClampNeg) (hj : j < 8) : zSetR s.toInt (he j).toInt (si j).toInt i.toInt = zSetR s.toInt (zHc (gh s.toNatClampNeg).toInt) (gs s.toNatClampNeg).toInt i.toInt := by
  by_cases hs : 0 ≤ s.toInt ∧ s.toInt ≤ 7
  · obtain rfl := hq hs.1 hs.2
    have o := ho s.toNatClampNeg
    unfold zSetR
    rcases zRel_hc h hd hg hj with ⟨a, b, c⟩ | ⟨a, b, c, d⟩ | ⟨a, b, c, d⟩
    · rw [c, b]
      repeat' split
      all_goals omega
    · rw [c, b, d]
      repeat' split
      all_goals omega
    · rw [c]
      repeat' split
      all_goals omega
  · unfold zSetR
    repeat' split
    all_goals omega
theorem zRel_set {he si gh go gs gd : Nat → Int32} {fe : Nat → Nat → Int64} {gc gc2 g : Nat → Int64} {j : Nat} {s i r r2 : Int32} {v : Int64} (h : zRel he si fe gh go gs gd gc) (hd : zHS gh gd) (hg : zRg gh 0 2) (ho : zRg go 0 3) (hsi : zRg si 0 160) (hj : j < 8) (hq : 0 ≤ s.toInt → s.toInt ≤ 7 → j = s.toNatClampNeg) (x0 : r.toInt = zSetR s.toInt (he j).toInt (si j).toInt i.toInt) (x1 : r.toInt = 1 → g = vp_updL (fe j) i.toNatClampNeg (zNar ((he j).toInt - 100) v)) (x2 : r.toInt ≠ 1 → g = fe j) (y0 : r2.toInt = zSetR s.toInt (zHc (gh s.toNatClampNeg).toInt) (gs s.toNatClampNeg).toInt i.toInt) (y1 : r2.toInt = 1 → gc2 = vp_updL gc (160 * s.toInt + i.toInt).toNat (zNar (go s.toNatClampNeg).toInt v)) (y2 : r2.toInt ≠ 1 → gc2 = gc) : r.toInt = r2.toInt ∧ zRel he si (va_up fe j g) gh go gs gd gc2 := by
  have hrr : r.toInt = r2.toInt := by rw [x0, y0]; exact zRel_setR h hd hg ho hq hj
  refine ⟨hrr, ?_⟩
  by_cases hr : r.toInt = 1
  · obtain rfl := x1 hr
    obtain rfl := y1 (by omega)
    obtain ⟨z1, z2, z3, z4⟩ := zSetR_1 (x0.symm.trans hr)
    obtain rfl := hq z1.1 z1.2
    have e1 : s.toNatClampNeg = s.toInt.toNat := rfl
    have e2 : i.toNatClampNeg = i.toInt.toNat := rfl
    have k1 := hsi s.toNatClampNeg
    intro m hm
    by_cases e : m = s.toNatClampNeg
    · obtain ⟨c1, c2, c3⟩ := h m hm
      subst e
      rw [zUp1]
      refine ⟨c1, fun q => ⟨(c2 q).1, (c2 q).2.1, fun k hk => ?_⟩, c3⟩
      have c4 := (c2 q).1
      rw [show (he s.toNatClampNeg).toInt - 100 = (go s.toNatClampNeg).toInt from by omega]
      simp only [vp_updL]
      by_cases e9 : k = i.toNatClampNeg
      · rw [if_pos e9, if_pos (by omega)]
      · rw [if_neg e9, if_neg (by omega)]
        exact (c2 q).2.2 k hk
    · obtain ⟨c1, c2, c3⟩ := h m hm
      rw [zUp2 e]
      refine ⟨c1, fun q => ⟨(c2 q).1, (c2 q).2.1, fun k hk => ?_⟩, c3⟩
      simp only [vp_updL]
      rw [if_neg (by omega)]
      exact (c2 q).2.2 k hk
  · obtain rfl := x2 hr
    obtain rfl := y2 (by omega)
    rw [zUpS]
    exact h
theorem zRel_show {he si gh go gs gd gh2 gd2 : Nat → Int32} {fe : Nat → Nat → Int64} {gc : Nat → Int64} {j : Nat} {s p r r2 v : Int32} {cn nu : Int} (h : zRel he si fe gh go gs gd gc) (hj : j < 8) (hq : 0 ≤ s.toInt → s.toInt ≤ 7 → j = s.toNatClampNeg) (hc : cn = nu)
    (x : (((s.toInt < 0 ∨ 7 < s.toInt) ∨ (p.toInt ≠ -1 ∧ (p.toInt < 0 ∨ cn ≤ p.toInt))) ∧ r.toInt = -1 ∧ v.toInt = (he j).toInt) ∨ ((0 ≤ s.toInt ∧ s.toInt ≤ 7) ∧ p.toInt = -1 ∧ r.toInt = 0 ∧ v.toInt = -1) ∨ ((0 ≤ s.toInt ∧ s.toInt ≤ 7) ∧ (0 ≤ p.toInt ∧ p.toInt < cn) ∧ r.toInt = 1 ∧ v.toInt = p.toInt))
    (y : (((s.toInt < 0 ∨ 7 < s.toInt) ∨ (p.toInt ≠ -1 ∧ (p.toInt < 0 ∨ nu ≤ p.toInt))) ∧ r2.toInt = -1 ∧ gh2 = gh ∧ gd2 = gd) ∨ ((0 ≤ s.toInt ∧ s.toInt ≤ 7) ∧ p.toInt = -1 ∧ r2.toInt = 0 ∧ gh2 = upd gh s.toNatClampNeg 0 ∧ gd2 = upd gd s.toNatClampNeg p) ∨ ((0 ≤ s.toInt ∧ s.toInt ≤ 7) ∧ (0 ≤ p.toInt ∧ p.toInt < nu) ∧ r2.toInt = 1 ∧ gh2 = upd gh s.toNatClampNeg 2 ∧ gd2 = upd gd s.toNatClampNeg p)) : r.toInt = r2.toInt ∧ zRel (va_up he j v) si fe gh2 go gs gd2 gc := by
  subst hc
  rcases x with ⟨a1, a2, a3⟩ | ⟨a1, a2, a3, a4⟩ | ⟨a1, a2, a3, a4⟩
  · rcases y with ⟨b1, b2, rfl, rfl⟩ | ⟨b1, b2, -⟩ | ⟨b1, b2, -⟩
    · obtain rfl : v = he j := Int32.toInt_inj.mp a3
      rw [zUpS]
      exact ⟨by omega, h⟩
    · omega
    · omega
  · rcases y with ⟨b1, -⟩ | ⟨b1, b2, b3, rfl, rfl⟩ | ⟨b1, b2, -⟩
    · omega
    · obtain rfl := hq a1.1 a1.2
      refine ⟨by omega, fun i hi => ?_⟩
      by_cases e : i = s.toNatClampNeg
      · rw [e, zUp1, zUd1, zUd1]
        exact ⟨fun _ => a4, fun q => absurd q (by decide), fun q => absurd q (by decide)⟩
      · rw [zUp2 e, zUd2 e, zUd2 e]
        exact h i hi
    · omega
  · rcases y with ⟨b1, -⟩ | ⟨b1, b2, -⟩ | ⟨b1, b2, b3, rfl, rfl⟩
    · omega
    · omega
    · obtain rfl := hq a1.1 a1.2
      refine ⟨by omega, fun i hi => ?_⟩
      by_cases e : i = s.toNatClampNeg
      · rw [e, zUp1, zUd1, zUd1]
        exact ⟨fun q => absurd q (by decide), fun q => absurd q (by decide), fun _ => a4⟩
      · rw [zUp2 e, zUd2 e, zUd2 e]
        exact h i hi
/-- copy: answers alike, and the cells -/
theorem zRel_copR {he si gh go gs gd : Nat → Int32} {fe : Nat → Nat → Int64} {gc : Nat → Int64} {j l : Nat} {s q : Int32} {i k n : Int} (h : zRel he si fe gh go gs gd gc) (hd : zHS gh gd) (hg : zRg gh 0 2) (ho : zRg go 0 3) (hq : 0 ≤ s.toInt → s.toInt ≤ 7 → j = s.toNatClampNeg) (hj : j < 8) (hq2 : 0 ≤ q.toInt → q.toInt ≤ 7 → l = q.toNatClampNeg) (hl : l < 8) : zCopR s.toInt q.toInt (he j).toInt (he l).toInt (si j).toInt (si l).toInt i k n = zCopR s.toInt q.toInt (zH2 (gh s.toNatClampNeg).toInt (go s.toNatClampNeg).toInt) (zH2 (gh q.toNatClampNeg).toInt (go q.toNatClampNeg).toInt) (gs s.toNatClampNeg).toInt (gs q.toNatClampNeg).toInt i k n := by
  by_cases hs : (0 ≤ s.toInt ∧ s.toInt ≤ 7) ∧ 0 ≤ q.toInt ∧ q.toInt ≤ 7
  · obtain rfl := hq hs.1.1 hs.1.2
    obtain rfl := hq2 hs.2.1 hs.2.2
    have o1 := ho s.toNatClampNeg
    have o2 := ho q.toNatClampNeg
    have e1 : ∀ j : Nat, j < 8 → ((gh j).toInt = 1 ∧ zH2 (gh j).toInt (go j).toInt = (he j).toInt ∧ 100 ≤ (he j).toInt ∧ (si j).toInt = (gs j).toInt) ∨ ((he j).toInt = -1 ∧ zH2 (gh j).toInt (go j).toInt = -1) ∨ ((0 ≤ (he j).toInt ∧ (he j).toInt < 100) ∧ zH2 (gh j).toInt (go j).toInt = 0) := fun j hj => by
      have o := ho j
      unfold zH2
      rcases zRel_hc h hd hg hj with ⟨a, b, -⟩ | ⟨a, b, -, d⟩ | ⟨a, b, -, -⟩
      · exact Or.inr (Or.inl ⟨b, by rw [if_neg (by omega), if_pos a]⟩)
      · exact Or.inl ⟨a, by rw [if_pos a]; omega, by omega, d⟩
      · exact Or.inr (Or.inr ⟨by omega, by rw [if_neg (by omega), if_neg (by omega)]⟩)
    have f1 := e1 _ hj
    have f2 := e1 _ hl
    clear hq hq2 e1 h hd hg ho o1 o2
    unfold zCopR
    rcases f1 with ⟨-, a, a2, a3⟩ | ⟨a, a2⟩ | ⟨a, a2⟩ <;> rcases f2 with ⟨-, b, b2, b3⟩ | ⟨b, b2⟩ | ⟨b, b2⟩
    · rw [a, b, a3, b3]
    all_goals (repeat (first | rw [if_pos (by omega)] | rw [if_neg (by omega)]))
  · unfold zCopR
    by_cases c1 : s.toInt < 0
    · rw [if_pos c1, if_pos c1]
    by_cases c2 : 7 < s.toInt
    · rw [if_neg c1, if_pos c2, if_neg c1, if_pos c2]
    by_cases c3 : q.toInt < 0
    · rw [if_neg c1, if_neg c2, if_pos c3, if_neg c1, if_neg c2, if_pos c3]
    by_cases c4 : 7 < q.toInt
    · rw [if_neg c1, if_neg c2, if_neg c3, if_pos c4, if_neg c1, if_neg c2, if_neg c3, if_pos c4]
    exfalso; omega
theorem zRel_copy {he si gh go gs gd : Nat → Int32} {fe : Nat → Nat → Int64} {gc gc2 g : Nat → Int64} {j l : Nat} {s q i k n r r2 : Int32} (h : zRel he si fe gh go gs gd gc) (hd : zHS gh gd) (hg : zRg gh 0 2) (ho : zRg go 0 3) (hhe : zRg he (-1) 103) (hsi : zRg si 0 160) (hq : 0 ≤ s.toInt → s.toInt ≤ 7 → j = s.toNatClampNeg) (hj : j < 8) (hq2 : 0 ≤ q.toInt → q.toInt ≤ 7 → l = q.toNatClampNeg) (hl : l < 8)
    (x0 : r.toInt = zCopR s.toInt q.toInt (he j).toInt (he l).toInt (si j).toInt (si l).toInt i.toInt k.toInt n.toInt) (x1 : r.toInt = 1 → g = va_cpy (fe j) (fe l) i.toNatClampNeg k.toNatClampNeg n.toNatClampNeg) (x2 : r.toInt ≠ 1 → g = fe l)
    (y0 : r2.toInt = zCopR s.toInt q.toInt (zH2 (gh s.toNatClampNeg).toInt (go s.toNatClampNeg).toInt) (zH2 (gh q.toNatClampNeg).toInt (go q.toNatClampNeg).toInt) (gs s.toNatClampNeg).toInt (gs q.toNatClampNeg).toInt i.toInt k.toInt n.toInt) (y1 : r2.toInt = 1 → ∀ m : Nat, gc2 m = (if 160 * q.toInt + k.toInt ≤ (m : Int) ∧ (m : Int) < 160 * q.toInt + k.toInt + n.toInt then gc (160 * s.toInt + i.toInt + ((m : Int) - (160 * q.toInt + k.toInt))).toNat else gc m)) (y2 : r2.toInt ≠ 1 → gc2 = gc) : r.toInt = r2.toInt ∧ zRel he si (va_up fe l g) gh go gs gd gc2 := by
  have hrr : r.toInt = r2.toInt := by rw [x0, y0]; exact zRel_copR h hd hg ho hq hj hq2 hl
  refine ⟨hrr, ?_⟩
  by_cases hr : r.toInt = 1
  · obtain rfl := x1 hr
    have y1 := y1 (by omega)
    have t1 := hhe j
    have t2 := hhe l
    obtain ⟨z1, z2, z3, z4, z5, z6, z7, z8, z9⟩ := zCopR_1 (x0.symm.trans hr) t1.1 t2.1
    obtain rfl := hq z1.1 z1.2
    obtain rfl := hq2 z2.1 z2.2
    have e1 : s.toNatClampNeg = s.toInt.toNat := rfl
    have e2 : i.toNatClampNeg = i.toInt.toNat := rfl
    have e3 : q.toNatClampNeg = q.toInt.toNat := rfl
    have e4 : k.toNatClampNeg = k.toInt.toNat := rfl
    have e5 : n.toNatClampNeg = n.toInt.toNat := rfl
    have k1 := hsi s.toNatClampNeg
    have k2 := hsi q.toNatClampNeg
    have o1 := ho s.toNatClampNeg
    have hs1 : (gh s.toNatClampNeg).toInt = 1 := by
      rcases zRel_hc h hd hg hj with ⟨a, b, -⟩ | ⟨a, -⟩ | ⟨a, b, -⟩
      · omega
      · exact a
      · omega
    intro m hm
    obtain ⟨c1, c2, c3⟩ := h m hm
    by_cases e : m = q.toNatClampNeg
    · subst e
      rw [zUp1]
      refine ⟨c1, fun w => ⟨(c2 w).1, (c2 w).2.1, fun t ht => ?_⟩, c3⟩
      rw [y1]
      simp only [va_cpy]
      by_cases e9 : k.toNatClampNeg ≤ t ∧ t < k.toNatClampNeg + n.toNatClampNeg
      · rw [if_pos e9, if_pos (by omega), ((h s.toNatClampNeg hj).2.1 hs1).2.2 _ (by omega)]
        congr 1
        omega
      · rw [if_neg e9, if_neg (by omega)]
        exact (c2 w).2.2 t ht
    · rw [zUp2 e]
      refine ⟨c1, fun w => ⟨(c2 w).1, (c2 w).2.1, fun t ht => ?_⟩, c3⟩
      rw [y1, if_neg (by omega)]
      exact (c2 w).2.2 t ht
  · obtain rfl := x2 hr
    obtain rfl := y2 (by omega)
    rw [zUpS]
    exact h
theorem zRel_rest {he si gh go gs gd gh2 he2 : Nat → Int32} {fe : Nat → Nat → Int64} {gc : Nat → Int64} {p : Int} (h : zRel he si fe gh go gs gd gc) (hg : zRg gh 0 2) (ho : zRg go 0 3) (hd : zHS gh gd) (x : ∀ j : Nat, j < 8 → ((p ≤ (he j).toInt ∧ (he j).toInt < 100) ∧ (he2 j).toInt = -1) ∨ (¬ (p ≤ (he j).toInt ∧ (he j).toInt < 100) ∧ (he2 j).toInt = (he j).toInt)) (h0 : 0 ≤ p) (y : ∀ j : Nat, j < 8 → gh2 j = (if (gh j).toInt = 2 ∧ p ≤ (gd j).toInt then 0 else gh j)) : zRel he2 si fe gh2 go gs gd gc := by
  intro j hj
  obtain ⟨c1, c2, c3⟩ := h j hj
  have o := ho j
  have d := hg j
  rw [y j hj]
  by_cases e : (gh j).toInt = 2 ∧ p ≤ (gd j).toInt
  · rw [if_pos e]
    have f := c3 e.1
    have f2 := hd j e.1
    rcases x j hj with ⟨a, b⟩ | ⟨a, b⟩
    · exact ⟨fun _ => b, fun q => absurd q (by decide), fun q => absurd q (by decide)⟩
    · omega
  · rw [if_neg e]
    rcases x j hj with ⟨a, b⟩ | ⟨a, b⟩
    · refine ⟨fun _ => b, fun q => ?_, fun q => ?_⟩
      · have := (c2 q).1; omega
      · have := c3 q; omega
    · exact ⟨fun q => by rw [b]; exact c1 q, fun q => ⟨by rw [b]; exact (c2 q).1, (c2 q).2⟩, fun q => by rw [b]; exact c3 q⟩
theorem zRel_let {he si gh go gs gd : Nat → Int32} {fe : Nat → Nat → Int64} {gc : Nat → Int64} {j : Nat} {s : Int32} (h : zRel he si fe gh go gs gd gc) (hd : zHS gh gd) (hg : zRg gh 0 2) (ho : zRg go 0 3) (hsi : zRg si 0 160) (hj : j < 8) (hq : 0 ≤ s.toInt → s.toInt ≤ 7 → j = s.toNatClampNeg) : (0 ≤ s.toInt ∧ s.toInt ≤ 7) → (((he j).toInt = -1 ∧ zHc (gh s.toNatClampNeg).toInt = -1) ∨ ((0 ≤ (he j).toInt ∧ (he j).toInt < 100) ∧ 0 ≤ zHc (gh s.toNatClampNeg).toInt ∧ zHc (gh s.toNatClampNeg).toInt < 100) ∨ (100 ≤ (he j).toInt ∧ 100 ≤ zHc (gh s.toNatClampNeg).toInt ∧ (si j).toInt = (gs s.toNatClampNeg).toInt ∧ 0 ≤ (si j).toInt ∧ ∀ t : Int, 0 ≤ t → t < (si j).toInt → (fe j t.toNat).toInt32 = zMF gc (160 * s.toInt) t.toNat)) := by
  intro hs
  obtain rfl := hq hs.1 hs.2
  have e1 : s.toNatClampNeg = s.toInt.toNat := rfl
  have o := ho s.toNatClampNeg
  have k1 := hsi s.toNatClampNeg
  rcases zRel_hc h hd hg hj with ⟨a, b, c⟩ | ⟨a, b, c, d⟩ | ⟨a, b, c, d⟩
  · exact Or.inl ⟨b, c⟩
  · refine Or.inr (Or.inr ⟨by omega, by omega, d, by omega, fun t h1 h2 => ?_⟩)
    rw [((h _ hj).2.1 a).2.2 t.toNat (by omega)]
    unfold zMF zChX
    congr 2
    omega
  · exact Or.inr (Or.inl ⟨by omega, by omega, by omega⟩)
theorem zjq2 (sh : Nat → Nat) (a : Int32) : ∃ j : Nat, j < 8 ∧ (0 ≤ a.toInt → a.toInt ≤ 7 → zS sh a.toNatClampNeg = some (sh j)) ∧ (0 ≤ a.toInt → a.toInt ≤ 7 → j = a.toNatClampNeg) := by
  have e : a.toNatClampNeg = a.toInt.toNat := rfl
  by_cases h : 0 ≤ a.toInt ∧ a.toInt ≤ 7
  · have h1 : a.toNatClampNeg < 8 := by omega
    exact ⟨a.toNatClampNeg, h1, fun _ _ => by simp [zS, h1], fun _ _ => rfl⟩
  · exact ⟨0, by omega, fun h1 h2 => absurd ⟨h1, h2⟩ h, fun h1 h2 => absurd ⟨h1, h2⟩ h⟩
theorem zRel_ext {he si he2 si2 gh go gs gd : Nat → Int32} {fe : Nat → Nat → Int64} {gc : Nat → Int64} (h : zRel he si fe gh go gs gd gc) (h1 : ∀ j : Nat, j < 8 → he2 j = he j) (h2 : ∀ j : Nat, j < 8 → si2 j = si j) : zRel he2 si2 fe gh go gs gd gc := by
  intro j hj
  rw [h1 j hj, h2 j hj]
  exact h j hj
theorem zRel_hoR {he si gh go gs gd : Nat → Int32} {fe : Nat → Nat → Int64} {gc : Nat → Int64} {j : Nat} {s : Int32} (h : zRel he si fe gh go gs gd gc) (hd : zHS gh gd) (hg : zRg gh 0 2) (hj : j < 8) (hq : 0 ≤ s.toInt → s.toInt ≤ 7 → j = s.toNatClampNeg) : (0 ≤ s.toInt ∧ s.toInt ≤ 7) → zHe (gh s.toNatClampNeg).toInt (go s.toNatClampNeg).toInt (gd s.toNatClampNeg).toInt = (he j).toInt := by
  intro hs
  obtain rfl := hq hs.1 hs.2
  unfold zHe
  rcases zRel_hc h hd hg hj with ⟨a, b, -⟩ | ⟨a, b, -⟩ | ⟨a, -, -, b⟩
  · rw [if_pos a]; omega
  · rw [if_neg (by omega), if_pos a]; omega
  · rw [if_neg (by omega), if_neg (by omega)]; omega
theorem zRel_elR {he si gh go gs gd : Nat → Int32} {fe : Nat → Nat → Int64} {gc : Nat → Int64} {j : Nat} {s i : Int32} (h : zRel he si fe gh go gs gd gc) (hd : zHS gh gd) (hg : zRg gh 0 2) (ho : zRg go 0 3) (hsi : zRg si 0 160) (hj : j < 8) (hq : 0 ≤ s.toInt → s.toInt ≤ 7 → j = s.toNatClampNeg) : (if (0 ≤ s.toInt ∧ s.toInt ≤ 7) ∧ 100 ≤ (he j).toInt ∧ 0 ≤ i.toInt ∧ i.toInt < (si j).toInt then fe j i.toNatClampNeg else 0) = (if (0 ≤ s.toInt ∧ s.toInt ≤ 7) ∧ (gh s.toNatClampNeg).toInt = 1 ∧ 0 ≤ i.toInt ∧ i.toInt < (gs s.toNatClampNeg).toInt then gc (160 * s.toInt + i.toInt).toNat else 0) := by
  by_cases hs : 0 ≤ s.toInt ∧ s.toInt ≤ 7
  · obtain rfl := hq hs.1 hs.2
    have o := ho s.toNatClampNeg
    have k1 := hsi s.toNatClampNeg
    have e1 : s.toNatClampNeg = s.toInt.toNat := rfl
    have e2 : i.toNatClampNeg = i.toInt.toNat := rfl
    rcases zRel_hc h hd hg hj with ⟨a, b, -⟩ | ⟨a, b, -, d⟩ | ⟨a, b, -⟩
    · rw [if_neg (by omega), if_neg (by omega)]
    · by_cases hi : 0 ≤ i.toInt ∧ i.toInt < (si s.toNatClampNeg).toInt
      · rw [if_pos ⟨hs, by omega, hi⟩, if_pos ⟨hs, a, by omega⟩, ((h _ hj).2.1 a).2.2 _ (by omega)]
        congr 1
        omega
      · rw [if_neg (by omega), if_neg (by omega)]
    · rw [if_neg (by omega), if_neg (by omega)]
  · rw [if_neg (fun z => hs z.1), if_neg (fun z => hs z.1)]
theorem zAs {N R S P : va_W} : (N ++ R) ++ (S ++ P) = N ++ ((R ++ S) ++ P) := by simp

