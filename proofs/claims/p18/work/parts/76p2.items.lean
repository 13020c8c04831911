/-! the items of a read text, and what they do to the jacket -/
def zV2 (f : Nat → Int32) (e p te w : Int) : Int := (zN1 f e (zN1 f e p (zLo w 0) (zHi w 0 te)).2.1 (zLo w 1) (zHi w 1 te)).2.2
def zV3 (f : Nat → Int32) (e p te w : Int) : Int := (zN1 f e (zN1 f e (zN1 f e p (zLo w 0) (zHi w 0 te)).2.1 (zLo w 1) (zHi w 1 te)).2.1 (zLo w 2) (zHi w 2 te)).2.2
theorem zV2_eq {f : Nat → Int32} {e p te w r q v r2 q2 v2 : Int} (h : zN1 f e p (zLo w 0) (zHi w 0 te) = (r, q, v)) (h2 : zN1 f e q (zLo w 1) (zHi w 1 te) = (r2, q2, v2)) : zV2 f e p te w = v2 := by
  unfold zV2; rw [h]; dsimp only; rw [h2]
theorem zV3_eq {f : Nat → Int32} {e p te w r q v r2 q2 v2 r3 q3 v3 : Int} (h : zN1 f e p (zLo w 0) (zHi w 0 te) = (r, q, v)) (h2 : zN1 f e q (zLo w 1) (zHi w 1 te) = (r2, q2, v2)) (h3 : zN1 f e q2 (zLo w 2) (zHi w 2 te) = (r3, q3, v3)) : zV3 f e p te w = v3 := by
  unfold zV3; rw [h]; dsimp only; rw [h2]; dsimp only; rw [h3]
/-- the word, and behind it the place -/
def zIW (f : Nat → Int32) (e p : Int) : Int := zFst f e p zWds 10
def zIP (f : Nat → Int32) (e p : Int) : Int := p + ((zWds (zIW f e p).toNat).length : Int)
abbrev zIt4 : Type := Int × Int × Int × Int
def zIm (f : Nat → Int32) (e p te : Int) : zIt4 := (zIW f e p, (zIn f e (zIP f e p) te (zIW f e p)).2.2, zV2 f e (zIP f e p) te (zIW f e p), zV3 f e (zIP f e p) te (zIW f e p))
/-- the k-th item of a text -/
def zDI (f : Nat → Int32) (e te pu : Int) (k : Nat) : zIt4 := match zRgo f e te pu k with
  | none => (-1, 0, 0, 0)
  | some (p, t, _) => zIm f e p t
/-- the k-th item of those kept -/
def zDF (fi : Nat → Int32) (k : Nat) : zIt4 := ((fi (4 * k)).toInt, (fi (4 * k + 1)).toInt, (fi (4 * k + 2)).toInt, (fi (4 * k + 3)).toInt)
/-- the item kept at a place -/
def zDS (fi : Nat → Int32) (n : Nat) : zIt4 := ((fi n).toInt, (fi (n + 1)).toInt, (fi (n + 2)).toInt, (fi (n + 3)).toInt)
/-- two items tell the same -/
def zSm (a b : zIt4) : Prop := a.1 = b.1 ∧ a.2.1 = b.2.1 ∧ ((a.1 = 2 ∨ a.1 = 3 ∨ a.1 = 8) → a.2.2.1 = b.2.2.1) ∧ (a.1 = 3 → a.2.2.2 = b.2.2.2)
theorem zSm.rfl {a : zIt4} : zSm a a := ⟨_root_.rfl, _root_.rfl, fun _ => _root_.rfl, fun _ => _root_.rfl⟩
theorem zSm.symm {a b : zIt4} (h : zSm a b) : zSm b a := by
  obtain ⟨h1, h2, h3, h4⟩ := h
  exact ⟨h1.symm, h2.symm, fun z => (h3 (by rw [h1]; exact z)).symm, fun z => (h4 (by rw [h1]; exact z)).symm⟩
theorem zSm.trans {a b c : zIt4} (h : zSm a b) (g : zSm b c) : zSm a c := by
  obtain ⟨h1, h2, h3, h4⟩ := h
  obtain ⟨g1, g2, g3, g4⟩ := g
  exact ⟨h1.trans g1, h2.trans g2, fun z => (h3 z).trans (g3 (by rw [← h1]; exact z)), fun z => (h4 z).trans (g4 (by rw [← h1]; exact z))⟩
def zFold {α : Type} (st : Nat → α → α) (x : α) : Nat → α
  | 0 => x
  | n + 1 => st n (zFold st x n)
theorem zFold_s {α : Type} {st : Nat → α → α} {x : α} {n : Nat} : zFold st x (n + 1) = st n (zFold st x n) := rfl
/-- what an item does: to the teeth that lack, to the slack, to the pulls' kinds, a's, takes, to the costs, to a number -/
def zEl (it : zIt4) (l : Nat → Int32) : Nat → Int32 := if it.1 = 0 then (fun _ => 0) else if it.1 = 1 then upd l it.2.1.toNat 1 else l
def zEs (it : zIt4) (l : Nat → Int32) : Nat → Int32 := if it.1 = 0 then (fun _ => 0) else if it.1 = 2 then upd l it.2.1.toNat (Int32.ofInt it.2.2.1) else l
def zEk (it : zIt4) (n : Int) (l : Nat → Int32) : Nat → Int32 := if it.1 = 3 then upd l n.toNat (Int32.ofInt it.2.1) else l
def zEa (it : zIt4) (n : Int) (l : Nat → Int32) : Nat → Int32 := if it.1 = 3 then upd l n.toNat (Int32.ofInt it.2.2.1) else l
def zEt (it : zIt4) (n : Int) (l : Nat → Int32) : Nat → Int32 := if it.1 = 3 then upd l n.toNat (Int32.ofInt it.2.2.2) else l
def zEc (it : zIt4) (l : Nat → Int32) : Nat → Int32 := if it.1 = 8 then upd l it.2.1.toNat (Int32.ofInt it.2.2.1) else l
def zEnu (k : Int) (it : zIt4) (x : Int) : Int := if it.1 = k then it.2.1 else x
def zEat (it : zIt4) (x : Int) : Int := if it.1 = 9 then it.2.1 else if it.1 = 0 then 0 else x
/-- the pulls' number ahead of the k-th item -/
def zNp (d : Nat → zIt4) (c : Int) : Nat → Int := zFold (fun k x => if (d k).1 = 3 then x + 1 else x) c
theorem zEl_sm {a b : zIt4} (h : zSm a b) {l g : Nat → Int32} (hl : ∀ j : Nat, j < 40 → l j = g j) : ∀ j : Nat, j < 40 → zEl a l j = zEl b g j := by
  intro j hj
  obtain ⟨h1, h2, -, -⟩ := h
  unfold zEl
  rw [← h1, ← h2]
  split
  · rfl
  · split
    · simp only [upd]; split
      · rfl
      · exact hl j hj
    · exact hl j hj
theorem zEs_sm {a b : zIt4} (h : zSm a b) {l g : Nat → Int32} (hl : ∀ j : Nat, j < 40 → l j = g j) : ∀ j : Nat, j < 40 → zEs a l j = zEs b g j := by
  intro j hj
  obtain ⟨h1, h2, h3, -⟩ := h
  unfold zEs
  rw [← h1, ← h2]
  split
  · rfl
  · split
    · rename_i h5
      rw [← h3 (Or.inl h5)]
      simp only [upd]; split
      · rfl
      · exact hl j hj
    · exact hl j hj
theorem zEk_sm {a b : zIt4} (h : zSm a b) {n : Int} {N : Nat} {l g : Nat → Int32} (hl : ∀ j : Nat, j < N → l j = g j) : ∀ j : Nat, j < N → zEk a n l j = zEk b n g j := by
  intro j hj
  obtain ⟨h1, h2, -, -⟩ := h
  unfold zEk
  rw [← h1, ← h2]
  split
  · simp only [upd]; split
    · rfl
    · exact hl j hj
  · exact hl j hj
theorem zEa_sm {a b : zIt4} (h : zSm a b) {n : Int} {N : Nat} {l g : Nat → Int32} (hl : ∀ j : Nat, j < N → l j = g j) : ∀ j : Nat, j < N → zEa a n l j = zEa b n g j := by
  intro j hj
  obtain ⟨h1, -, h3, -⟩ := h
  unfold zEa
  rw [← h1]
  split
  · rename_i h5
    rw [← h3 (Or.inr (Or.inl h5))]
    simp only [upd]; split
    · rfl
    · exact hl j hj
  · exact hl j hj
theorem zEt_sm {a b : zIt4} (h : zSm a b) {n : Int} {N : Nat} {l g : Nat → Int32} (hl : ∀ j : Nat, j < N → l j = g j) : ∀ j : Nat, j < N → zEt a n l j = zEt b n g j := by
  intro j hj
  obtain ⟨h1, -, -, h4⟩ := h
  unfold zEt
  rw [← h1]
  split
  · rename_i h5
    rw [← h4 h5]
    simp only [upd]; split
    · rfl
    · exact hl j hj
  · exact hl j hj
theorem zEc_sm {a b : zIt4} (h : zSm a b) {N : Nat} {l g : Nat → Int32} (hl : ∀ j : Nat, j < N → l j = g j) : ∀ j : Nat, j < N → zEc a l j = zEc b g j := by
  intro j hj
  obtain ⟨h1, h2, h3, -⟩ := h
  unfold zEc
  rw [← h1, ← h2]
  split
  · rename_i h5
    rw [← h3 (Or.inr (Or.inr h5))]
    simp only [upd]; split
    · rfl
    · exact hl j hj
  · exact hl j hj
theorem zEnu_sm {a b : zIt4} (h : zSm a b) (k : Int) {x y : Int} (hx : x = y) : zEnu k a x = zEnu k b y := by
  obtain ⟨h1, h2, -, -⟩ := h
  unfold zEnu
  rw [h1, h2, hx]
theorem zEat_sm {a b : zIt4} (h : zSm a b) {x y : Int} (hx : x = y) : zEat a x = zEat b y := by
  obtain ⟨h1, h2, -, -⟩ := h
  unfold zEat
  rw [h1, h2, hx]
/-- the folds over items that tell the same -/
theorem zFold_fn {A B : Nat → (Nat → Int32) → Nat → Int32} {N n : Nat} (hs : ∀ (k : Nat), k < n → ∀ (l g : Nat → Int32), (∀ j : Nat, j < N → l j = g j) → ∀ j : Nat, j < N → A k l j = B k g j) {l g : Nat → Int32} (hl : ∀ j : Nat, j < N → l j = g j) : ∀ m : Nat, m ≤ n → ∀ j : Nat, j < N → zFold A l m j = zFold B g m j := by
  intro m
  induction m with
  | zero => intro _; exact hl
  | succ m ih =>
    intro hm
    rw [zFold_s, zFold_s]
    exact hs m (by omega) _ _ (ih (by omega))
theorem zFold_nm {A B : Nat → Int → Int} {n : Nat} (hs : ∀ (k : Nat), k < n → ∀ x : Int, A k x = B k x) {x y : Int} (hx : x = y) : ∀ m : Nat, m ≤ n → zFold A x m = zFold B y m := by
  intro m
  induction m with
  | zero => intro _; exact hx
  | succ m ih =>
    intro hm
    rw [zFold_s, zFold_s, ih (by omega)]
    exact hs m (by omega) _
theorem zNp_sm {d g : Nat → zIt4} {n : Nat} (h : ∀ k : Nat, k < n → zSm (d k) (g k)) {c : Int} : ∀ m : Nat, m ≤ n → zNp d c m = zNp g c m := zFold_nm (fun k hk x => by rw [(h k hk).1]) rfl
/-- all that the items do, by name: the teeth that lack, the slack, the pulls (kind, a, takes), the costs, the numbers -/
def zRl (d : Nat → zIt4) (l : Nat → Int32) : Nat → Nat → Int32 := zFold (fun k => zEl (d k)) l
def zRs (d : Nat → zIt4) (l : Nat → Int32) : Nat → Nat → Int32 := zFold (fun k => zEs (d k)) l
def zRk (d : Nat → zIt4) (c : Int) (l : Nat → Int32) : Nat → Nat → Int32 := zFold (fun k => zEk (d k) (zNp d c k)) l
def zRa (d : Nat → zIt4) (c : Int) (l : Nat → Int32) : Nat → Nat → Int32 := zFold (fun k => zEa (d k) (zNp d c k)) l
def zRt (d : Nat → zIt4) (c : Int) (l : Nat → Int32) : Nat → Nat → Int32 := zFold (fun k => zEt (d k) (zNp d c k)) l
def zRc (d : Nat → zIt4) (l : Nat → Int32) : Nat → Nat → Int32 := zFold (fun k => zEc (d k)) l
def zRn (i : Int) (d : Nat → zIt4) (x : Int) : Nat → Int := zFold (fun k => zEnu i (d k)) x
def zRat (d : Nat → zIt4) (x : Int) : Nat → Int := zFold (fun k => zEat (d k)) x
theorem zRl_sm {d g : Nat → zIt4} {n : Nat} (h : ∀ k : Nat, k < n → zSm (d k) (g k)) {l m : Nat → Int32} (hl : ∀ j : Nat, j < 40 → l j = m j) : ∀ j : Nat, j < 40 → zRl d l n j = zRl g m n j := zFold_fn (n := n) (fun k hk _ _ hh => zEl_sm (h k hk) hh) hl n (Nat.le_refl _)
theorem zRs_sm {d g : Nat → zIt4} {n : Nat} (h : ∀ k : Nat, k < n → zSm (d k) (g k)) {l m : Nat → Int32} (hl : ∀ j : Nat, j < 40 → l j = m j) : ∀ j : Nat, j < 40 → zRs d l n j = zRs g m n j := zFold_fn (n := n) (fun k hk _ _ hh => zEs_sm (h k hk) hh) hl n (Nat.le_refl _)
theorem zRk_sm {d g : Nat → zIt4} {n N : Nat} {c : Int} (h : ∀ k : Nat, k < n → zSm (d k) (g k)) {l m : Nat → Int32} (hl : ∀ j : Nat, j < N → l j = m j) : ∀ j : Nat, j < N → zRk d c l n j = zRk g c m n j := zFold_fn (n := n) (fun k hk _ _ hh => by rw [zNp_sm h k (by omega)]; exact zEk_sm (h k hk) hh) hl n (Nat.le_refl _)
theorem zRa_sm {d g : Nat → zIt4} {n N : Nat} {c : Int} (h : ∀ k : Nat, k < n → zSm (d k) (g k)) {l m : Nat → Int32} (hl : ∀ j : Nat, j < N → l j = m j) : ∀ j : Nat, j < N → zRa d c l n j = zRa g c m n j := zFold_fn (n := n) (fun k hk _ _ hh => by rw [zNp_sm h k (by omega)]; exact zEa_sm (h k hk) hh) hl n (Nat.le_refl _)
theorem zRt_sm {d g : Nat → zIt4} {n N : Nat} {c : Int} (h : ∀ k : Nat, k < n → zSm (d k) (g k)) {l m : Nat → Int32} (hl : ∀ j : Nat, j < N → l j = m j) : ∀ j : Nat, j < N → zRt d c l n j = zRt g c m n j := zFold_fn (n := n) (fun k hk _ _ hh => by rw [zNp_sm h k (by omega)]; exact zEt_sm (h k hk) hh) hl n (Nat.le_refl _)
theorem zRc_sm {d g : Nat → zIt4} {n N : Nat} (h : ∀ k : Nat, k < n → zSm (d k) (g k)) {l m : Nat → Int32} (hl : ∀ j : Nat, j < N → l j = m j) : ∀ j : Nat, j < N → zRc d l n j = zRc g m n j := zFold_fn (n := n) (fun k hk _ _ hh => zEc_sm (h k hk) hh) hl n (Nat.le_refl _)
theorem zRn_sm {i : Int} {d g : Nat → zIt4} {n : Nat} (h : ∀ k : Nat, k < n → zSm (d k) (g k)) {x y : Int} (hx : x = y) : zRn i d x n = zRn i g y n := zFold_nm (n := n) (fun k hk _ => zEnu_sm (h k hk) i rfl) hx n (Nat.le_refl _)
theorem zRat_sm {d g : Nat → zIt4} {n : Nat} (h : ∀ k : Nat, k < n → zSm (d k) (g k)) {x y : Int} (hx : x = y) : zRat d x n = zRat g y n := zFold_nm (n := n) (fun k hk _ => zEat_sm (h k hk) rfl) hx n (Nat.le_refl _)
/-- the items of two texts of the same letters -/
theorem zV2_congr {f g : Nat → Int32} {e : Int} (h : ∀ j : Int, 0 ≤ j → j < e → f j.toNat = g j.toNat) {p te w : Int} (hp : 0 ≤ p) (he : p ≤ e) : zV2 f e p te w = zV2 g e p te w := by
  have r1 := zN1_rg (f := g) (e := e) (p := p) (lo := zLo w 0) (hi := zHi w 0 te) hp he
  unfold zV2
  rw [zN1_congr h hp, zN1_congr h (show (0 : Int) ≤ (zN1 g e p (zLo w 0) (zHi w 0 te)).2.1 by omega)]
theorem zV3_congr {f g : Nat → Int32} {e : Int} (h : ∀ j : Int, 0 ≤ j → j < e → f j.toNat = g j.toNat) {p te w : Int} (hp : 0 ≤ p) (he : p ≤ e) : zV3 f e p te w = zV3 g e p te w := by
  have r1 := zN1_rg (f := g) (e := e) (p := p) (lo := zLo w 0) (hi := zHi w 0 te) hp he
  have r2 := zN1_rg (f := g) (e := e) (p := (zN1 g e p (zLo w 0) (zHi w 0 te)).2.1) (lo := zLo w 1) (hi := zHi w 1 te) (by omega) (by omega)
  unfold zV3
  rw [zN1_congr h hp, zN1_congr h (show (0 : Int) ≤ (zN1 g e p (zLo w 0) (zHi w 0 te)).2.1 by omega), zN1_congr h (show (0 : Int) ≤ (zN1 g e (zN1 g e p (zLo w 0) (zHi w 0 te)).2.1 (zLo w 1) (zHi w 1 te)).2.1 by omega)]
theorem zDI_congr {f g : Nat → Int32} {e te pu : Int} (h : ∀ j : Int, 0 ≤ j → j < e → f j.toNat = g j.toNat) (he : 0 ≤ e) (ht : 4 ≤ te ∧ te ≤ 40) (hu : 0 ≤ pu ∧ pu ≤ 8) {k : Nat} {p t u : Int} (h0 : zRgo f e te pu k = some (p, t, u)) (hi : (zItem f e p t u).1 = -1) : zDI f e te pu k = zDI g e te pu k := by
  have h1 := h0
  rw [zRgo_congr h he ht hu] at h1
  have r := zRgo_rg he ht hu k p t u h0
  unfold zDI
  rw [h0, h1]
  show zIm f e p t = zIm g e p t
  have hw : zIW f e p = zIW g e p := zFst_congr h (by omega) 10
  have hq : 0 ≤ zIP f e p ∧ zIP f e p ≤ e := by
    unfold zIP zIW
    rcases zFst_spec (f := f) (e := e) (p := p) (ls := zWds) 10 with ⟨h5, -⟩ | ⟨w, hw5, h5, h6, -⟩
    · exfalso
      rw [zItem_none h5] at hi
      have hi2 : p + (zMx f e p zWds 10 : Int) = -1 := hi
      omega
    · rw [h5, Int.toNat_natCast]
      have := zFst_in hw5 h5
      omega
  unfold zIm
  have hp2 : zIP f e p = zIP g e p := by unfold zIP; rw [hw]
  rw [zIn_congr h hq.1 hq.2, zV2_congr h hq.1 hq.2, zV3_congr h hq.1 hq.2, hw, hp2]
/-- the items kept are those of the text -/
def zKI (f : Nat → Int32) (e te pu : Int) (fi : Nat → Int32) (k : Nat) : Prop := ∃ p t u : Int, zRgo f e te pu k = some (p, t, u) ∧ (zItem f e p t u).1 = -1 ∧ zSm (zDF fi k) (zIm f e p t)
theorem zKI_keep {f : Nat → Int32} {e te pu : Int} {fi fj : Nat → Int32} {k : Nat} (h : zKI f e te pu fi k) (hf : ∀ j : Nat, j < 4 * k + 4 → fj j = fi j) : zKI f e te pu fj k := by
  obtain ⟨p, t, u, h1, h2, h3⟩ := h
  refine ⟨p, t, u, h1, h2, ?_⟩
  unfold zDF at h3 ⊢
  rw [hf (4 * k) (by omega), hf (4 * k + 1) (by omega), hf (4 * k + 2) (by omega), hf (4 * k + 3) (by omega)]
  exact h3
theorem zKI_di {f : Nat → Int32} {e te pu : Int} {fi : Nat → Int32} {k : Nat} (h : zKI f e te pu fi k) : zSm (zDF fi k) (zDI f e te pu k) := by
  obtain ⟨p, t, u, h1, -, h3⟩ := h
  unfold zDI
  rw [h1]
  exact h3

