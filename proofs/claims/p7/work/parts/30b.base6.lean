theorem zp_any {D : va_G} {tys : List (ClassId × FieldType)} {s : State} {H : Heap} {v : Nat} {vs : List Value} (hK : va_K D vwCl tys s) (hPv : va_P D vwCl [(v, .inr (2, vs))] H) : va_Any RX2 s H v := by
  obtain ⟨cell, h1, h2, h3⟩ := va_recv hK hPv (ci := 2) (q0 := 0) rfl rfl
  obtain ⟨kC, hkC, -⟩ := Vm.findClass_spec h3
  refine ⟨cell, h1, h2, ⟨kC, hkC⟩, fun comp h => ?_⟩
  have e : comp = cell.cls := Option.some.inj (h.symm.trans h3)
  rw [e]
  exact va_asg _ _
theorem zRg_cpy {f g : Nat → Int32} {lo hi : Int} {sp dp n : Nat} (hf : zRg f lo hi) (hg : zRg g lo hi) : zRg (va_cpy f g sp dp n) lo hi := by
  intro j
  unfold va_cpy
  split
  · exact hf _
  · exact hg _

