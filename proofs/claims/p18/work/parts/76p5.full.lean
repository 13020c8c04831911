/-! told jackets, all that they tell -/
theorem zNp_s {d : Nat → zIt4} {c : Int} {n : Nat} : zNp d c (n + 1) = (if (d n).1 = 3 then zNp d c n + 1 else zNp d c n) := rfl
theorem zNp_CP {fi : Nat → Int32} {c : Int} : ∀ n : Nat, zNp (zDF fi) c n = c + zCP fi n := by
  intro n
  induction n with
  | zero => show c = c + 0; omega
  | succ n ih =>
    rw [zNp_s, zCP_s, ih]
    show (if (fi (4 * n)).toInt = 3 then _ else _) = _
    split <;> omega
theorem zKI_dj {f g : Nat → Int32} {e te pu : Int} {fi : Nat → Int32} {k : Nat} (h : ∀ j : Int, 0 ≤ j → j < e → f j.toNat = g j.toNat) (he : 0 ≤ e) (ht : 4 ≤ te ∧ te ≤ 40) (hu : 0 ≤ pu ∧ pu ≤ 8) (hk : zKI f e te pu fi k) : zSm (zDF fi k) (zDI g e te pu k) := by
  have h1 := zKI_di hk
  obtain ⟨p, t, u, h2, h3, -⟩ := hk
  rw [zDI_congr h he ht hu h2 h3] at h1
  exact h1
theorem zDI_at {f : Nat → Int32} {e te pu : Int} {k : Nat} {p t u : Int} (h : zRgo f e te pu k = some (p, t, u)) : zDI f e te pu k = zIm f e p t := by
  unfold zDI
  rw [h]
theorem zIm_a {f : Nat → Int32} {e p te w p0 r q v : Int} (hW : zIW f e p = w) (hP : zIP f e p = p0) (hI : zIn f e p0 te w = (r, q, v)) : (zIm f e p te).1 = w ∧ (zIm f e p te).2.1 = v := by
  refine ⟨hW, ?_⟩
  show (zIn f e (zIP f e p) te (zIW f e p)).2.2 = v
  rw [hP, hW, hI]
theorem zIm_b {f : Nat → Int32} {e p te w p0 r q v r2 q2 v2 : Int} (hW : zIW f e p = w) (hP : zIP f e p = p0) (h : zN1 f e p0 (zLo w 0) (zHi w 0 te) = (r, q, v)) (h2 : zN1 f e q (zLo w 1) (zHi w 1 te) = (r2, q2, v2)) : (zIm f e p te).2.2.1 = v2 := by
  show zV2 f e (zIP f e p) te (zIW f e p) = v2
  rw [hP, hW]
  exact zV2_eq h h2
theorem zIm_c {f : Nat → Int32} {e p te w p0 r q v r2 q2 v2 r3 q3 v3 : Int} (hW : zIW f e p = w) (hP : zIP f e p = p0) (h : zN1 f e p0 (zLo w 0) (zHi w 0 te) = (r, q, v)) (h2 : zN1 f e q (zLo w 1) (zHi w 1 te) = (r2, q2, v2)) (h3 : zN1 f e q2 (zLo w 2) (zHi w 2 te) = (r3, q3, v3)) : (zIm f e p te).2.2.2 = v3 := by
  show zV3 f e (zIP f e p) te (zIW f e p) = v3
  rw [hP, hW]
  exact zV3_eq h h2 h3
/-- what may be asked for -/
def zAsk (w v te : Int) : Prop := (0 ≤ w ∧ w ≤ 7) ∧ (if w = 3 then 1 else 0) ≤ v ∧ v ≤ (if w = 0 then 24 else if w = 1 then 300 else if w = 2 then 9 else if w = 3 then 9 else if w = 7 then te else 99)

