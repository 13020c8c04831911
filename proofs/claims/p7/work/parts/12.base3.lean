/-! contents of three; a reading of two neighbours that can't both be 1 -/
def zL3 (a b c : Int32) : Nat → Int32 := fun j => if j = 0 then a else if j = 1 then b else if j = 2 then c else 0
theorem zL3_1 {a b c x : Int32} : upd (zL3 a b c) (1 : Int32).toNatClampNeg x = zL3 a x c := by
  funext j; simp only [upd, zL3, show (1 : Int32).toNatClampNeg = 1 from by decide]; split <;> simp_all
theorem zL3_2 {a b c x : Int32} : upd (zL3 a b c) (2 : Int32).toNatClampNeg x = zL3 a b x := by
  funext j; simp only [upd, zL3, show (2 : Int32).toNatClampNeg = 2 from by decide]; split <;> simp_all
theorem zL3k_0 {x : Int32} : upd (fun _ => 0) (0 : Int32).toNatClampNeg x = zL3 x 0 0 := by
  funext j; simp only [upd, zL3, show (0 : Int32).toNatClampNeg = 0 from by decide]; split <;> simp_all
