/-! contents of arrays that stay; array classes by their names; the start of a method that writes -/
theorem zk_eqI {D : va_G} {s : State} {tys : List (ClassId × FieldType)} {cI cA : ClassId} {k : Nat} (h : va_K D vwCl tys s) (hk : tys[k]? = some (cI, .int)) (h1 : va_K D vwCl (tys ++ [(cA, .int)]) s) : cI = cA := by
  have a1 : s.vm.findClass ("[" ++ FieldType.int.toString) = some cI := (h.2 k _ hk).2
  have a2 : s.vm.findClass ("[" ++ FieldType.int.toString) = some cA := (h1.2 tys.length (cA, .int) (by simp)).2
  exact Option.some.inj (a1.symm.trans a2)
theorem zk_eqJ {D : va_G} {s : State} {tys : List (ClassId × FieldType)} {cI cA : ClassId} {k : Nat} (h : va_K D vwCl tys s) (hk : tys[k]? = some (cI, .long)) (h1 : va_K D vwCl (tys ++ [(cA, .long)]) s) : cI = cA := by
  have a1 : s.vm.findClass ("[" ++ FieldType.long.toString) = some cI := (h.2 k _ hk).2
  have a2 : s.vm.findClass ("[" ++ FieldType.long.toString) = some cA := (h1.2 tys.length (cA, .long) (by simp)).2
  exact Option.some.inj (a1.symm.trans a2)
theorem zk_eqZ {D : va_G} {s : State} {tys : List (ClassId × FieldType)} {cI cA : ClassId} {k : Nat} (h : va_K D vwCl tys s) (hk : tys[k]? = some (cI, .boolean)) (h1 : va_K D vwCl (tys ++ [(cA, .boolean)]) s) : cI = cA := by
  have a1 : s.vm.findClass ("[" ++ FieldType.boolean.toString) = some cI := (h.2 k _ hk).2
  have a2 : s.vm.findClass ("[" ++ FieldType.boolean.toString) = some cA := (h1.2 tys.length (cA, .boolean) (by simp)).2
  exact Option.some.inj (a1.symm.trans a2)
theorem zk_eqO {D : va_G} {s : State} {tys : List (ClassId × FieldType)} {C : String} {cI cA : ClassId} {k : Nat} (h : va_K D vwCl tys s) (hk : tys[k]? = some (cI, .object C)) (h1 : va_K D vwCl (tys ++ [(cA, .object C)]) s) : cI = cA := by
  obtain ⟨-, -, -, -, -, a1⟩ : va_RA s cI (.object C) := (h.2 k _ hk).2
  obtain ⟨-, -, -, -, -, a2⟩ : va_RA s cA (.object C) := (h1.2 tys.length (cA, .object C) (by simp)).2
  exact Option.some.inj (a1.symm.trans a2)
theorem zw_start {p : Program} {l : Launch} {e : Env} {R : Room} {s : State} {m : MethodId} {args : Array Value} {below : List Frame} {meth : Method} {c : Code} {H : Heap} {locs : List Loc} {cells slots : Nat} {Q : State → Prop} {g : JFrame} (k : ∀ (H' : Heap) (locs' : List Loc), H' = H → locs' = locs → W p l e R s m args below meth c H' locs' cells slots Q g) : W p l e R s m args below meth c H locs cells slots Q g := k H locs rfl rfl
theorem zf_mul {a b : Int32} {x y : Int} (ha : a.toInt = x) (hb : b.toInt = y) (h1 : -2147483648 ≤ x * y) (h2 : x * y ≤ 2147483647) : (a * b).toInt = x * y := by
  rw [Int32.toInt_mul, ha, hb]; exact Int.bmod_eq_of_le (by omega) (by omega)
def zS (sh : Nat → Nat) : Nat → Option Nat := fun j => if j < 8 then some (sh j) else none
theorem zj8 {j : Nat} (h : j < 8) : j = 0 ∨ j = 1 ∨ j = 2 ∨ j = 3 ∨ j = 4 ∨ j = 5 ∨ j = 6 ∨ j = 7 := by omega

