/-! the runner, the pulls in truth, the days -/
theorem zSd_ex : ∃ f : Int32 → Int32, ∀ s : Int32, f s = s * 1103515245 + 12345 := ⟨fun s => s * 1103515245 + 12345, fun _ => rfl⟩
/-- the seed's step; by choice, so that nothing looks into the product when it compares two -/
noncomputable def zSd (s : Int32) : Int32 := Classical.choose zSd_ex s
theorem zSd_eq (s : Int32) : zSd s = s * 1103515245 + 12345 := Classical.choose_spec zSd_ex s
theorem zDr_ex : ∃ f : Int32 → Int → Int, ∀ (s : Int32) (n : Int), f s n = ((zSd s).toUInt32 >>> ((16 : Int32).toUInt32 &&& Int32.toUInt32 31)).toInt32.toInt - ((zSd s).toUInt32 >>> ((16 : Int32).toUInt32 &&& Int32.toUInt32 31)).toInt32.toInt / n * n := ⟨fun s n => ((zSd s).toUInt32 >>> ((16 : Int32).toUInt32 &&& Int32.toUInt32 31)).toInt32.toInt - ((zSd s).toUInt32 >>> ((16 : Int32).toUInt32 &&& Int32.toUInt32 31)).toInt32.toInt / n * n, fun _ _ => rfl⟩
noncomputable def zDr (s : Int32) (n : Int) : Int := Classical.choose zDr_ex s n
theorem zDr_eq (s : Int32) (n : Int) : zDr s n = ((zSd s).toUInt32 >>> ((16 : Int32).toUInt32 &&& Int32.toUInt32 31)).toInt32.toInt - ((zSd s).toUInt32 >>> ((16 : Int32).toUInt32 &&& Int32.toUInt32 31)).toInt32.toInt / n * n := Classical.choose_spec zDr_ex s n
/-- where the runner comes to by itself -/
def zRu (l s : Nat → Int32) (g n : Int) : Nat → Int → Int
  | 0, t => t
  | k + 1, t => if n ≤ t ∨ zCa l s g t ∨ zOp l n t then t else zRu l s g n k (t + 1)
theorem zRu_s {l s : Nat → Int32} {g n t : Int} {k : Nat} : zRu l s g n (k + 1) t = if n ≤ t ∨ zCa l s g t ∨ zOp l n t then t else zRu l s g n k (t + 1) := rfl
theorem zOp_congr {l m : Nat → Int32} {n t : Int} (hn : n ≤ 40) (h : ∀ j : Nat, j < 40 → l j = m j) : zOp l n t ↔ zOp m n t := by
  unfold zOp
  rw [zLkA_congr hn h, zLkA_congr hn h, zLkA_congr hn h]
theorem zCa_congr2 {l s m u : Nat → Int32} {g t n : Int} (h : ∀ j : Nat, j < 40 → l j = m j) (h2 : ∀ j : Nat, j < 40 → s j = u j) (hn : n ≤ 40) (h0 : 0 ≤ t) (h1 : t < n) : zCa l s g t ↔ zCa m u g t := by
  unfold zCa
  rw [h t.toNat (by omega), h2 t.toNat (by omega)]
theorem zRu_congr {l s m u : Nat → Int32} {g n : Int} (h : ∀ j : Nat, j < 40 → l j = m j) (h2 : ∀ j : Nat, j < 40 → s j = u j) (hn : n ≤ 40) : ∀ (k : Nat) (t : Int), 0 ≤ t → zRu l s g n k t = zRu m u g n k t := by
  intro k
  induction k with
  | zero => intro t _; rfl
  | succ k ih =>
    intro t h0
    rw [zRu_s, zRu_s, ih (t + 1) (by omega)]
    by_cases c : n ≤ t
    · rw [if_pos (Or.inl c), if_pos (Or.inl c)]
    · have a := zCa_congr2 (g := g) h h2 hn h0 (show t < n by omega)
      have b := zOp_congr (t := t) hn h
      by_cases d : n ≤ t ∨ zCa l s g t ∨ zOp l n t
      · rw [if_pos d, if_pos (by rw [← a, ← b]; exact d)]
      · rw [if_neg d, if_neg (by rw [← a, ← b]; exact d)]
/-- a closing in truth: where, the depth, the seed -/
noncomputable def zCz (l s : Nat → Int32) (g n : Int) : Nat → Int → Int → Int32 → Int × Int × Int32
  | 0, t, de, sd => (t, de, sd)
  | k + 1, t, de, sd => if n ≤ t ∨ zOp l n t then (t, de, sd) else if zCa l s g t then (if zDr sd 10 < (s t.toNat).toInt - g + 1 then (t, 1 + zDr (zSd sd) 6, zSd (zSd sd)) else zCz l s g n k (t + 1) de (zSd sd)) else zCz l s g n k (t + 1) de sd
theorem zCz_s {l s : Nat → Int32} {g n t de : Int} {sd : Int32} {k : Nat} : zCz l s g n (k + 1) t de sd = if n ≤ t ∨ zOp l n t then (t, de, sd) else if zCa l s g t then (if zDr sd 10 < (s t.toNat).toInt - g + 1 then (t, 1 + zDr (zSd sd) 6, zSd (zSd sd)) else zCz l s g n k (t + 1) de (zSd sd)) else zCz l s g n k (t + 1) de sd := rfl
theorem zOp_Ca {l s : Nat → Int32} {g n t : Int} (h : zOp l n t) : ¬ zCa l s g t := fun c => by
  have a := h.1.2.2
  have b := c.1
  omega
theorem zDr_rg {s : Int32} {n : Int} (hn : 1 ≤ n) : 0 ≤ zDr s n ∧ zDr s n < n := by
  rw [zDr_eq]
  have h := zf_ushr (x := zSd s)
  have p := Int.emod_nonneg ((zSd s).toUInt32 >>> ((16 : Int32).toUInt32 &&& Int32.toUInt32 31)).toInt32.toInt (show n ≠ 0 by omega)
  have q := Int.emod_lt_of_pos ((zSd s).toUInt32 >>> ((16 : Int32).toUInt32 &&& Int32.toUInt32 31)).toInt32.toInt (show 0 < n by omega)
  rw [Int.emod_def, Int.mul_comm] at p q
  exact ⟨p, q⟩
theorem zCz_rg {l s : Nat → Int32} {g n : Int} : ∀ (k : Nat) (t de : Int) (sd : Int32), 0 ≤ t → t + (k : Int) ≤ n → (0 ≤ de ∧ de ≤ 24) → (0 ≤ (zCz l s g n k t de sd).1 ∧ (zCz l s g n k t de sd).1 ≤ n) ∧ 0 ≤ (zCz l s g n k t de sd).2.1 ∧ (zCz l s g n k t de sd).2.1 ≤ 24 := by
  intro k
  induction k with
  | zero => intro t de sd h0 h1 h2; exact ⟨⟨h0, by show t ≤ n; omega⟩, h2⟩
  | succ k ih =>
    intro t de sd h0 h1 h2
    rw [zCz_s]
    split
    · exact ⟨⟨h0, by show t ≤ n; omega⟩, h2⟩
    · split
      · split
        · have r := zDr_rg (s := zSd sd) (n := 6) (by omega)
          exact ⟨⟨h0, by show t ≤ n; omega⟩, by show 0 ≤ 1 + zDr (zSd sd) 6; omega, by show 1 + zDr (zSd sd) 6 ≤ 24; omega⟩
        · exact ih _ _ _ (by omega) (by omega) h2
      · exact ih _ _ _ (by omega) (by omega) h2
theorem zCz_congr {l s m u : Nat → Int32} {g n : Int} (h : ∀ j : Nat, j < 40 → l j = m j) (h2 : ∀ j : Nat, j < 40 → s j = u j) (hn : n ≤ 40) : ∀ (k : Nat) (t de : Int) (sd : Int32), 0 ≤ t → zCz l s g n k t de sd = zCz m u g n k t de sd := by
  intro k
  induction k with
  | zero => intro t de sd _; rfl
  | succ k ih =>
    intro t de sd h0
    rw [zCz_s, zCz_s, ih (t + 1) de sd (by omega), ih (t + 1) de (zSd sd) (by omega)]
    by_cases c : n ≤ t
    · rw [if_pos (Or.inl c), if_pos (Or.inl c)]
    · have a := zCa_congr2 (g := g) h h2 hn h0 (show t < n by omega)
      have b := zOp_congr (t := t) hn h
      by_cases d : n ≤ t ∨ zOp l n t
      · rw [if_pos d, if_pos (by rw [← b]; exact d)]
      · rw [if_neg d, if_neg (show ¬ (n ≤ t ∨ zOp m n t) by rw [← b]; exact d)]
        by_cases e : zCa l s g t
        · rw [if_pos e, if_pos (a.mp e), h2 t.toNat (by omega)]
        · rw [if_neg e, if_neg (fun z => e (a.mpr z))]
/-- a pull in truth: depth, seconds, torn, seed -/
noncomputable def zP1 (k a t h : Int) (z : Int × Int × Int32 × Int32) : Int × Int × Int32 × Int32 := (if zDr z.2.2.2 12 < zWy k a h z.1 then zShl k a z.1 else zDpr k a h z.1, z.2.1 - t, if k = 5 then z.2.2.1 + 1 else z.2.2.1, zSd z.2.2.2)
def zNq (K A T : Nat → Int32) (N : Nat) (h n : Int) (d s : Int) : Int := if n = 0 then -1 else zNg K T 1 d s (zBy (zM K A T N h 1 (n - 1).toNat) K A T h d s) N
/-- pulling free in truth -/
noncomputable def zPf (K A T : Nat → Int32) (N : Nat) (h : Int) : Nat → Int × Int × Int32 × Int32 → Int × Int × Int32 × Int32
  | 0, z => z
  | k + 1, z => if z.1 = 0 ∨ zNq K A T N h 2 z.1 z.2.1 = -1 then z else zPf K A T N h k (zP1 (K (zNq K A T N h 2 z.1 z.2.1).toNat).toInt (A (zNq K A T N h 2 z.1 z.2.1).toNat).toInt (T (zNq K A T N h 2 z.1 z.2.1).toNat).toInt h z)
theorem zPf_s {K A T : Nat → Int32} {N k : Nat} {h : Int} {z : Int × Int × Int32 × Int32} : zPf K A T N h (k + 1) z = if z.1 = 0 ∨ zNq K A T N h 2 z.1 z.2.1 = -1 then z else zPf K A T N h k (zP1 (K (zNq K A T N h 2 z.1 z.2.1).toNat).toInt (A (zNq K A T N h 2 z.1 z.2.1).toNat).toInt (T (zNq K A T N h 2 z.1 z.2.1).toNat).toInt h z) := rfl
theorem zPf_stop {K A T : Nat → Int32} {N : Nat} {h : Int} {z : Int × Int × Int32 × Int32} (hz : z.1 = 0 ∨ zNq K A T N h 2 z.1 z.2.1 = -1) : ∀ k : Nat, zPf K A T N h k z = z := by
  intro k
  cases k with
  | zero => rfl
  | succ k => rw [zPf_s, if_pos hz]
theorem zNq_congr {K A T K2 A2 T2 : Nat → Int32} {N : Nat} {h n d s : Int} (hk : ∀ p : Nat, p < N → K p = K2 p ∧ A p = A2 p ∧ T p = T2 p) : zNq K A T N h n d s = zNq K2 A2 T2 N h n d s := by
  unfold zNq
  split
  · rfl
  · refine zNg_congr N (fun p hp => ⟨?_, zBy_congr hk hp⟩)
    obtain ⟨h1, h2, h3⟩ := hk p hp
    unfold zOk
    rw [h1, h3]
theorem zNq_rg {K A T : Nat → Int32} {N : Nat} {h n d s : Int} : zNq K A T N h n d s = -1 ∨ (0 ≤ zNq K A T N h n d s ∧ zNq K A T N h n d s < (N : Int) ∧ 1 ≤ d ∧ (T (zNq K A T N h n d s).toNat).toInt ≤ s) := by
  unfold zNq
  split
  · exact Or.inl rfl
  · rcases zNg_rg (K := K) (T := T) (tw := 1) (d := d) (s := s) (v := zBy (zM K A T N h 1 (n - 1).toNat) K A T h d s) N with z | ⟨p, z1, z2, z3⟩
    · exact Or.inl z
    · rw [z2]
      exact Or.inr ⟨by omega, by omega, z3.1, by rw [show ((p : Nat) : Int).toNat = p from by omega]; exact z3.2.1⟩
theorem zPf_congr {K A T K2 A2 T2 : Nat → Int32} {N : Nat} {h : Int} (hk : ∀ p : Nat, p < N → K p = K2 p ∧ A p = A2 p ∧ T p = T2 p) : ∀ (k : Nat) (z : Int × Int × Int32 × Int32), zPf K A T N h k z = zPf K2 A2 T2 N h k z := by
  intro k
  induction k with
  | zero => intro z; rfl
  | succ k ih =>
    intro z
    rw [zPf_s, zPf_s, ← zNq_congr hk]
    rcases zNq_rg (K := K) (A := A) (T := T) (N := N) (h := h) (n := 2) (d := z.1) (s := z.2.1) with c | ⟨c1, c2, -⟩
    · rw [if_pos (Or.inr c), if_pos (Or.inr c)]
    · obtain ⟨h1, h2, h3⟩ := hk (zNq K A T N h 2 z.1 z.2.1).toNat (by omega)
      rw [h1, h2, h3, ih]
/-- a day: whether to the top, where, depth, seconds, torn, seed -/
noncomputable def zDy (l s : Nat → Int32) (g n : Int) (K A T : Nat → Int32) (N : Nat) (h : Int) : Nat → Int → Int → Int → Int32 → Int32 → Int × Int × Int × Int × Int32 × Int32
  | 0, t, de, se, tr, sd => (0, t, de, se, tr, sd)
  | k + 1, t, de, se, tr, sd => if de ≠ 0 then (0, t, de, se, tr, sd) else if (zCz l s g n (n - t).toNat t de sd).1 = n then (1, (zCz l s g n (n - t).toNat t de sd).1, (zCz l s g n (n - t).toNat t de sd).2.1, se, tr, (zCz l s g n (n - t).toNat t de sd).2.2) else zDy l s g n K A T N h k (zCz l s g n (n - t).toNat t de sd).1 (zPf K A T N h 12 ((zCz l s g n (n - t).toNat t de sd).2.1, se, tr, (zCz l s g n (n - t).toNat t de sd).2.2)).1 (zPf K A T N h 12 ((zCz l s g n (n - t).toNat t de sd).2.1, se, tr, (zCz l s g n (n - t).toNat t de sd).2.2)).2.1 (zPf K A T N h 12 ((zCz l s g n (n - t).toNat t de sd).2.1, se, tr, (zCz l s g n (n - t).toNat t de sd).2.2)).2.2.1 (zPf K A T N h 12 ((zCz l s g n (n - t).toNat t de sd).2.1, se, tr, (zCz l s g n (n - t).toNat t de sd).2.2)).2.2.2
theorem zDy_s {l s : Nat → Int32} {g n : Int} {K A T : Nat → Int32} {N k : Nat} {h t de se : Int} {tr sd : Int32} : zDy l s g n K A T N h (k + 1) t de se tr sd = (if de ≠ 0 then (0, t, de, se, tr, sd) else if (zCz l s g n (n - t).toNat t de sd).1 = n then (1, (zCz l s g n (n - t).toNat t de sd).1, (zCz l s g n (n - t).toNat t de sd).2.1, se, tr, (zCz l s g n (n - t).toNat t de sd).2.2) else zDy l s g n K A T N h k (zCz l s g n (n - t).toNat t de sd).1 (zPf K A T N h 12 ((zCz l s g n (n - t).toNat t de sd).2.1, se, tr, (zCz l s g n (n - t).toNat t de sd).2.2)).1 (zPf K A T N h 12 ((zCz l s g n (n - t).toNat t de sd).2.1, se, tr, (zCz l s g n (n - t).toNat t de sd).2.2)).2.1 (zPf K A T N h 12 ((zCz l s g n (n - t).toNat t de sd).2.1, se, tr, (zCz l s g n (n - t).toNat t de sd).2.2)).2.2.1 (zPf K A T N h 12 ((zCz l s g n (n - t).toNat t de sd).2.1, se, tr, (zCz l s g n (n - t).toNat t de sd).2.2)).2.2.2) := rfl
theorem zDy_out {l s : Nat → Int32} {g n : Int} {K A T : Nat → Int32} {N k : Nat} {h t de se : Int} {tr sd : Int32} (hd : de ≠ 0) : zDy l s g n K A T N h k t de se tr sd = (0, t, de, se, tr, sd) := by
  cases k with
  | zero => rfl
  | succ k => exact if_pos hd
theorem zDy_top {l s : Nat → Int32} {g n : Int} {K A T : Nat → Int32} {N k : Nat} {h t de se t2 de2 : Int} {tr sd sd2 : Int32} (hd : de = 0) (hc : zCz l s g n (n - t).toNat t de sd = (t2, de2, sd2)) (ht : t2 = n) : zDy l s g n K A T N h (k + 1) t de se tr sd = (1, t2, de2, se, tr, sd2) := by
  rw [zDy_s, if_neg (fun z => z hd), hc, if_pos ht]
theorem zDy_on {l s : Nat → Int32} {g n : Int} {K A T : Nat → Int32} {N k : Nat} {h t de se t2 de2 de3 se3 : Int} {tr sd sd2 tr3 sd3 : Int32} (hd : de = 0) (hc : zCz l s g n (n - t).toNat t de sd = (t2, de2, sd2)) (ht : t2 ≠ n) (hp : zPf K A T N h 12 (de2, se, tr, sd2) = (de3, se3, tr3, sd3)) : zDy l s g n K A T N h (k + 1) t de se tr sd = zDy l s g n K A T N h k t2 de3 se3 tr3 sd3 := by
  rw [zDy_s, if_neg (fun z => z hd), hc, if_neg ht]
  dsimp only
  rw [hp]
theorem zDy_congr {l s m u : Nat → Int32} {g n : Int} {K A T K2 A2 T2 : Nat → Int32} {N : Nat} {h : Int} (hl : ∀ j : Nat, j < 40 → l j = m j) (hs : ∀ j : Nat, j < 40 → s j = u j) (hn : 0 ≤ n ∧ n ≤ 40) (hk : ∀ p : Nat, p < N → K p = K2 p ∧ A p = A2 p ∧ T p = T2 p) : ∀ (k : Nat) (t de se : Int) (tr sd : Int32), 0 ≤ t → t ≤ n → zDy l s g n K A T N h k t de se tr sd = zDy m u g n K2 A2 T2 N h k t de se tr sd := by
  intro k
  induction k with
  | zero => intro t de se tr sd _ _; rfl
  | succ k ih =>
    intro t de se tr sd h0 h1
    by_cases c : de = 0
    · have ec := zCz_congr (g := g) (n := n) hl hs hn.2 (n - t).toNat t de sd h0
      have rg := (zCz_rg (l := l) (s := s) (g := g) (n := n) (n - t).toNat t de sd h0 (by omega) ⟨by omega, by omega⟩).1
      generalize hq : zCz l s g n (n - t).toNat t de sd = q at ec rg
      obtain ⟨t2, de2, sd2⟩ := q
      by_cases c2 : t2 = n
      · rw [zDy_top c hq c2, zDy_top c ec.symm c2]
      · have ep := zPf_congr (h := h) hk 12 (de2, se, tr, sd2)
        generalize hr : zPf K A T N h 12 (de2, se, tr, sd2) = r at ep
        obtain ⟨de3, se3, tr3, sd3⟩ := r
        rw [zDy_on c hq c2 hr, zDy_on c ec.symm c2 ep.symm]
        exact ih _ _ _ _ _ rg.1 rg.2
    · rw [zDy_out c, zDy_out c]
/-- a winter: how many days to the top, and what is behind it -/
noncomputable def zWi (l s : Nat → Int32) (g n : Int) (K A T : Nat → Int32) (N : Nat) (h : Int) : Nat → Int → Int → Int → Int → Int32 → Int32 → Int × Int × Int × Int × Int32 × Int32
  | 0, c, t, de, se, tr, sd => (c, t, de, se, tr, sd)
  | k + 1, c, _, _, _, tr, sd => zWi l s g n K A T N h k (c + (zDy l s g n K A T N h 3 0 0 60 tr sd).1) (zDy l s g n K A T N h 3 0 0 60 tr sd).2.1 (zDy l s g n K A T N h 3 0 0 60 tr sd).2.2.1 (zDy l s g n K A T N h 3 0 0 60 tr sd).2.2.2.1 (zDy l s g n K A T N h 3 0 0 60 tr sd).2.2.2.2.1 (zDy l s g n K A T N h 3 0 0 60 tr sd).2.2.2.2.2
theorem zWi_s {l s : Nat → Int32} {g n : Int} {K A T : Nat → Int32} {N k : Nat} {h c t de se r t2 de2 se2 : Int} {tr sd tr2 sd2 : Int32} (hd : zDy l s g n K A T N h 3 0 0 60 tr sd = (r, t2, de2, se2, tr2, sd2)) : zWi l s g n K A T N h (k + 1) c t de se tr sd = zWi l s g n K A T N h k (c + r) t2 de2 se2 tr2 sd2 := by
  have e : zWi l s g n K A T N h (k + 1) c t de se tr sd = zWi l s g n K A T N h k (c + (zDy l s g n K A T N h 3 0 0 60 tr sd).1) (zDy l s g n K A T N h 3 0 0 60 tr sd).2.1 (zDy l s g n K A T N h 3 0 0 60 tr sd).2.2.1 (zDy l s g n K A T N h 3 0 0 60 tr sd).2.2.2.1 (zDy l s g n K A T N h 3 0 0 60 tr sd).2.2.2.2.1 (zDy l s g n K A T N h 3 0 0 60 tr sd).2.2.2.2.2 := rfl
  rw [e, hd]
theorem zWi_congr {l s m u : Nat → Int32} {g n : Int} {K A T K2 A2 T2 : Nat → Int32} {N : Nat} {h : Int} (hl : ∀ j : Nat, j < 40 → l j = m j) (hs : ∀ j : Nat, j < 40 → s j = u j) (hn : 0 ≤ n ∧ n ≤ 40) (hk : ∀ p : Nat, p < N → K p = K2 p ∧ A p = A2 p ∧ T p = T2 p) : ∀ (k : Nat) (c t de se : Int) (tr sd : Int32), zWi l s g n K A T N h k c t de se tr sd = zWi m u g n K2 A2 T2 N h k c t de se tr sd := by
  intro k
  induction k with
  | zero => intro c t de se tr sd; rfl
  | succ k ih =>
    intro c t de se tr sd
    have e := zDy_congr (g := g) (h := h) hl hs hn hk 3 0 0 60 tr sd (by omega) hn.1
    generalize hq : zDy l s g n K A T N h 3 0 0 60 tr sd = q at e
    obtain ⟨r, t2, de2, se2, tr2, sd2⟩ := q
    rw [zWi_s hq, zWi_s e.symm, ih]
/-- what the line begins with -/
def zLr (K A T : Nat → Int32) (N : Nat) (h c0 c1 c2 : Int) (n : Nat) (d s : Int) : Int := if d = 0 then -1 else if n = 0 ∨ zFf T d s (zLn K A T N h c0 c1 c2 n d s) (zLv (zLn K A T N h c0 c1 c2 (n - 1)) K A T c0 (zPw n) h d s) N = -1 then (if 30 ≤ s ∧ c1 ≤ c2 then 101 else 100) else zFf T d s (zLn K A T N h c0 c1 c2 n d s) (zLv (zLn K A T N h c0 c1 c2 (n - 1)) K A T c0 (zPw n) h d s) N
def zHv (K A T : Nat → Int32) (N : Nat) (n : Nat) (d s : Int) (h : Nat) : Int := zM K A T N (h : Int) 1 n d s
theorem zLr_congr {K A T K2 A2 T2 : Nat → Int32} {N n : Nat} {h c0 c1 c2 d s : Int} (hk : ∀ p : Nat, p < N → K p = K2 p ∧ A p = A2 p ∧ T p = T2 p) : zLr K A T N h c0 c1 c2 n d s = zLr K2 A2 T2 N h c0 c1 c2 n d s := by
  unfold zLr
  have e := zLn_congr (h := h) (c0 := c0) (c1 := c1) (c2 := c2) hk n d s
  rw [e, zFf_congr (T2 := T2) (u := zLv (zLn K2 A2 T2 N h c0 c1 c2 (n - 1)) K2 A2 T2 c0 (zPw n) h d s) N (fun p hp => ?_)]
  obtain ⟨h1, h2, h3⟩ := hk p hp
  refine ⟨h3, ?_⟩
  unfold zLv zLb zBy1
  rw [h1, h2, h3, zLn_congr hk, zLn_congr hk]

