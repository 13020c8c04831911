theorem zL3k_1 {x : Int32} : upd (fun _ => 0) (1 : Int32).toNatClampNeg x = zL3 0 x 0 := by
  funext j; simp only [upd, zL3, show (1 : Int32).toNatClampNeg = 1 from by decide]; split <;> simp_all
theorem zL3k_2 {x : Int32} : upd (fun _ => 0) (2 : Int32).toNatClampNeg x = zL3 0 0 x := by
  funext j; simp only [upd, zL3, show (2 : Int32).toNatClampNeg = 2 from by decide]; split <;> simp_all
