/-! a pull: by how many of 12 it frees, its step, what comes of it (kind k, its a, hurry h, depth d) -/
def zWb (k a d : Int) : Int := if k = 1 then 8 - d / 4 else if k = 3 then 8 - d / 4 + a / 2 else if k = 2 then 6 - d / 4 + a / 3 else if k = 4 then 8 - d / 6 else if k = 6 then 10 - d / 6 else 6 - d / 4
def zWy (k a h d : Int) : Int := if k = 5 then 12 else max 0 (min 12 (zWb k a d - h / 3))
def zStp (k a : Int) : Int := if k = 2 then 2 + a / 3 else if k = 4 ∨ k = 6 then 2 else if k = 5 then 4 else 1
def zShl (k a d : Int) : Int := max 0 (d - zStp k a)
def zDpr (k a h d : Int) : Int := if k = 5 then d else min 24 (d + (if k = 2 then 1 + a / 3 else 0) + (if 6 ≤ h then 1 else 0))
theorem zWy_rg {k a h d : Int} : 0 ≤ zWy k a h d ∧ zWy k a h d ≤ 12 := by
  unfold zWy
  split <;> omega
/-- told for one of a kind -/
abbrev zIsOf (k w : Int) : Prop := w = 0 ∨ w = k ∨ (w = 1 ∧ k = 3) ∨ (w = 2 ∧ k = 5) ∨ (w = 4 ∧ k = 6)
/-- the weights of a belief, by a pull -/
def zTl (c : Nat → Int64) (i : Int) : Int := (c i.toNat).toInt32.toInt
def zFd (c : Nat → Int64) (k a h : Int) : Nat → Int
  | 0 => 12 * zTl c 0
  | d + 1 => zFd c k a h d + zTl c ((d : Int) + 1) * zWy k a h ((d : Int) + 1)
theorem zFd_s {c : Nat → Int64} {k a h : Int} {d : Nat} : zFd c k a h (d + 1) = zFd c k a h d + zTl c ((d : Int) + 1) * zWy k a h ((d : Int) + 1) := rfl
def zBh (c : Nat → Int64) (k a h to : Int) : Nat → Int
  | 0 => if to = 0 then 12 * zTl c 0 else 0
  | d + 1 => zBh c k a h to d + (if zShl k a ((d : Int) + 1) = to then zTl c ((d : Int) + 1) * zWy k a h ((d : Int) + 1) else 0) + (if zDpr k a h ((d : Int) + 1) = to then zTl c ((d : Int) + 1) * (12 - zWy k a h ((d : Int) + 1)) else 0)
theorem zBh_s {c : Nat → Int64} {k a h to : Int} {d : Nat} : zBh c k a h to (d + 1) = zBh c k a h to d + (if zShl k a ((d : Int) + 1) = to then zTl c ((d : Int) + 1) * zWy k a h ((d : Int) + 1) else 0) + (if zDpr k a h ((d : Int) + 1) = to then zTl c ((d : Int) + 1) * (12 - zWy k a h ((d : Int) + 1)) else 0) := rfl

