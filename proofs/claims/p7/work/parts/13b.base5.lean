theorem zf_rem {x y : Int32} {a b : Int} (hx : x.toInt = a) (hy : y.toInt = b) (h0 : 0 ≤ a) (h1 : 0 < b) : (x - x / y * y).toInt = a - a / b * b := by
  have r := (zf_rng x).2
  have q := zf_div hx hy h0 h1
  have m1 : a / b * b ≤ a := Int.ediv_mul_le a (by omega)
  have m0 : 0 ≤ a / b * b := Int.mul_nonneg (Int.ediv_nonneg h0 (by omega)) (by omega)
  have m : (x / y * y).toInt = a / b * b := zf_mul q hy (by omega) (by omega)
  exact zf_sub hx m (by omega) (by omega)
theorem zu_int {y : UInt32} : y.toInt32.toInt = (y.toNat : Int).bmod (2^32) := BitVec.toInt_eq_toNat_bmod y.toBitVec
theorem zf_ushr {x : Int32} : 0 ≤ (x.toUInt32 >>> ((16 : Int32).toUInt32 &&& Int32.toUInt32 31)).toInt32.toInt ∧ (x.toUInt32 >>> ((16 : Int32).toUInt32 &&& Int32.toUInt32 31)).toInt32.toInt ≤ 65535 := by
  have h16 : ((16 : Int32).toUInt32 &&& Int32.toUInt32 31) = 16 := by decide
  rw [h16]
  have h1 : (x.toUInt32 >>> 16).toNat < 65536 := by
    rw [UInt32.toNat_shiftRight, Nat.shiftRight_eq_div_pow]
    have := x.toUInt32.toNat_lt
    simp
    omega
  rw [zu_int, Int.bmod_eq_of_le (by omega) (by omega)]
  omega
/-- a row of pulls in which places may be empty -/
def zWP (po : zPool) (f : Nat → Option Nat) : Prop := ∀ j : Nat, f j = none ∨ ∃ (u : Nat) (k a t : Int32), f j = some u ∧ zPu po u k a t
theorem zWP_upd {po : zPool} {f : Nat → Option Nat} {k : Nat} {v : Option Nat} (h : zWP po f) (hv : v = none ∨ ∃ (u : Nat) (k a t : Int32), v = some u ∧ zPu po u k a t) : zWP po (va_up f k v) := by
  intro j
  unfold va_up
  by_cases e : j = k
  · rw [if_pos e]; exact hv
  · rw [if_neg e]; exact h j

