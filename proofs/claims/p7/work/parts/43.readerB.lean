set_option maxHeartbeats 4000000 in
set_option maxRecDepth 100000 in
theorem c_R_numbersOf_0 (l : Launch) (D : va_G) (cI cJ cZ cP cS : ClassId) (po : zPool)   : Met l yX3_numbersOf wsX3_numbersOf ({ frames := 0, cells := 0, slots := 0, locals := 0 }) (va_Pc [.int 0] (zR D (zKT cI cJ cZ cP cS) po [])) (vp_Si (fun r => r = 1)) 0 0 (fun _ => False) := by
  refine Met.ofW (cc := cX3_numbersOf) (maxL := 1) (ret := (some .int)) (by decide) rfl ?_
  intro p e s m args below meth c s₁ B hml hv
  obtain ⟨rfl, hP, hK, hN, hZ⟩ := hv
  have hx := B.exec
  have hb := B.bytes
  have hr := B.returns
  have hts := atoms_spec (ws := wsX3_numbersOf) B.pre
  have hown : s.vm.findClass RX3 = some m.cls := findClass_of_methodNamed B.named
  have hlocks := B.notSynchronized
  have hl := lv_entry ([.int 0]) (n := 1) (Nat.le_of_ble_eq_true rfl)
  rw [lg_entry_eq]
  generalize (lg_sl ([.int 0]) ++ List.replicate (1 - (lg_sl ([.int 0])).length) Slot.unset).toArray = ls at hl ⊢
  replace hl : lv_has ls 1 [(0, .int 0)] := hl
  refine lv_iload_n hx hb dX3_numbersOf_0 rfl (lv_at hl 0 rfl) ?_
  refine lv_lookup (off := 39) (tgt := 40) hx hb dX3_numbersOf_1 (by decide) (by decide) (by decide) ?_
  refine lv_iconst (v := 1) hx hb dX3_numbersOf_40 (by decide) ?_
  exact W.iret (v := 1) hx hb hr (fun t ht hW => ⟨1, rfl, rfl, ht⟩) (fun q hq => by cases hq) dX3_numbersOf_41
set_option maxHeartbeats 4000000 in
set_option maxRecDepth 100000 in
theorem c_R_numbersOf_1 (l : Launch) (D : va_G) (cI cJ cZ cP cS : ClassId) (po : zPool)   : Met l yX3_numbersOf wsX3_numbersOf ({ frames := 0, cells := 0, slots := 0, locals := 0 }) (va_Pc [.int 1] (zR D (zKT cI cJ cZ cP cS) po [])) (vp_Si (fun r => r = 1)) 0 0 (fun _ => False) := by
  refine Met.ofW (cc := cX3_numbersOf) (maxL := 1) (ret := (some .int)) (by decide) rfl ?_
  intro p e s m args below meth c s₁ B hml hv
  obtain ⟨rfl, hP, hK, hN, hZ⟩ := hv
  have hx := B.exec
  have hb := B.bytes
  have hr := B.returns
  have hts := atoms_spec (ws := wsX3_numbersOf) B.pre
  have hown : s.vm.findClass RX3 = some m.cls := findClass_of_methodNamed B.named
  have hlocks := B.notSynchronized
  have hl := lv_entry ([.int 1]) (n := 1) (Nat.le_of_ble_eq_true rfl)
  rw [lg_entry_eq]
  generalize (lg_sl ([.int 1]) ++ List.replicate (1 - (lg_sl ([.int 1])).length) Slot.unset).toArray = ls at hl ⊢
  replace hl : lv_has ls 1 [(0, .int 1)] := hl
  refine lv_iload_n hx hb dX3_numbersOf_0 rfl (lv_at hl 0 rfl) ?_
  refine lv_lookup (off := 39) (tgt := 40) hx hb dX3_numbersOf_1 (by decide) (by decide) (by decide) ?_
  refine lv_iconst (v := 1) hx hb dX3_numbersOf_40 (by decide) ?_
  exact W.iret (v := 1) hx hb hr (fun t ht hW => ⟨1, rfl, rfl, ht⟩) (fun q hq => by cases hq) dX3_numbersOf_41
set_option maxHeartbeats 4000000 in
set_option maxRecDepth 100000 in
theorem c_R_numbersOf_2 (l : Launch) (D : va_G) (cI cJ cZ cP cS : ClassId) (po : zPool)   : Met l yX3_numbersOf wsX3_numbersOf ({ frames := 0, cells := 0, slots := 0, locals := 0 }) (va_Pc [.int 2] (zR D (zKT cI cJ cZ cP cS) po [])) (vp_Si (fun r => r = 2)) 0 0 (fun _ => False) := by
  refine Met.ofW (cc := cX3_numbersOf) (maxL := 1) (ret := (some .int)) (by decide) rfl ?_
  intro p e s m args below meth c s₁ B hml hv
  obtain ⟨rfl, hP, hK, hN, hZ⟩ := hv
  have hx := B.exec
  have hb := B.bytes
  have hr := B.returns
  have hts := atoms_spec (ws := wsX3_numbersOf) B.pre
  have hown : s.vm.findClass RX3 = some m.cls := findClass_of_methodNamed B.named
  have hlocks := B.notSynchronized
  have hl := lv_entry ([.int 2]) (n := 1) (Nat.le_of_ble_eq_true rfl)
  rw [lg_entry_eq]
  generalize (lg_sl ([.int 2]) ++ List.replicate (1 - (lg_sl ([.int 2])).length) Slot.unset).toArray = ls at hl ⊢
  replace hl : lv_has ls 1 [(0, .int 2)] := hl
  refine lv_iload_n hx hb dX3_numbersOf_0 rfl (lv_at hl 0 rfl) ?_
  refine lv_lookup (off := 37) (tgt := 38) hx hb dX3_numbersOf_1 (by decide) (by decide) (by decide) ?_
  refine lv_iconst (v := 2) hx hb dX3_numbersOf_38 (by decide) ?_
  exact W.iret (v := 2) hx hb hr (fun t ht hW => ⟨2, rfl, rfl, ht⟩) (fun q hq => by cases hq) dX3_numbersOf_39
set_option maxHeartbeats 4000000 in
set_option maxRecDepth 100000 in
theorem c_R_numbersOf_3 (l : Launch) (D : va_G) (cI cJ cZ cP cS : ClassId) (po : zPool)   : Met l yX3_numbersOf wsX3_numbersOf ({ frames := 0, cells := 0, slots := 0, locals := 0 }) (va_Pc [.int 3] (zR D (zKT cI cJ cZ cP cS) po [])) (vp_Si (fun r => r = 3)) 0 0 (fun _ => False) := by
  refine Met.ofW (cc := cX3_numbersOf) (maxL := 1) (ret := (some .int)) (by decide) rfl ?_
  intro p e s m args below meth c s₁ B hml hv
  obtain ⟨rfl, hP, hK, hN, hZ⟩ := hv
  have hx := B.exec
  have hb := B.bytes
  have hr := B.returns
  have hts := atoms_spec (ws := wsX3_numbersOf) B.pre
  have hown : s.vm.findClass RX3 = some m.cls := findClass_of_methodNamed B.named
  have hlocks := B.notSynchronized
  have hl := lv_entry ([.int 3]) (n := 1) (Nat.le_of_ble_eq_true rfl)
  rw [lg_entry_eq]
  generalize (lg_sl ([.int 3]) ++ List.replicate (1 - (lg_sl ([.int 3])).length) Slot.unset).toArray = ls at hl ⊢
  replace hl : lv_has ls 1 [(0, .int 3)] := hl
  refine lv_iload_n hx hb dX3_numbersOf_0 rfl (lv_at hl 0 rfl) ?_
  refine lv_lookup (off := 35) (tgt := 36) hx hb dX3_numbersOf_1 (by decide) (by decide) (by decide) ?_
  refine lv_iconst (v := 3) hx hb dX3_numbersOf_36 (by decide) ?_
  exact W.iret (v := 3) hx hb hr (fun t ht hW => ⟨3, rfl, rfl, ht⟩) (fun q hq => by cases hq) dX3_numbersOf_37
set_option maxHeartbeats 4000000 in
set_option maxRecDepth 100000 in
theorem c_R_numbersOf_4 (l : Launch) (D : va_G) (cI cJ cZ cP cS : ClassId) (po : zPool)   : Met l yX3_numbersOf wsX3_numbersOf ({ frames := 0, cells := 0, slots := 0, locals := 0 }) (va_Pc [.int 4] (zR D (zKT cI cJ cZ cP cS) po [])) (vp_Si (fun r => r = 1)) 0 0 (fun _ => False) := by
  refine Met.ofW (cc := cX3_numbersOf) (maxL := 1) (ret := (some .int)) (by decide) rfl ?_
  intro p e s m args below meth c s₁ B hml hv
  obtain ⟨rfl, hP, hK, hN, hZ⟩ := hv
  have hx := B.exec
  have hb := B.bytes
  have hr := B.returns
  have hts := atoms_spec (ws := wsX3_numbersOf) B.pre
  have hown : s.vm.findClass RX3 = some m.cls := findClass_of_methodNamed B.named
  have hlocks := B.notSynchronized
  have hl := lv_entry ([.int 4]) (n := 1) (Nat.le_of_ble_eq_true rfl)
  rw [lg_entry_eq]
  generalize (lg_sl ([.int 4]) ++ List.replicate (1 - (lg_sl ([.int 4])).length) Slot.unset).toArray = ls at hl ⊢
  replace hl : lv_has ls 1 [(0, .int 4)] := hl
  refine lv_iload_n hx hb dX3_numbersOf_0 rfl (lv_at hl 0 rfl) ?_
  refine lv_lookup (off := 39) (tgt := 40) hx hb dX3_numbersOf_1 (by decide) (by decide) (by decide) ?_
  refine lv_iconst (v := 1) hx hb dX3_numbersOf_40 (by decide) ?_
  exact W.iret (v := 1) hx hb hr (fun t ht hW => ⟨1, rfl, rfl, ht⟩) (fun q hq => by cases hq) dX3_numbersOf_41
set_option maxHeartbeats 4000000 in
set_option maxRecDepth 100000 in
theorem c_R_numbersOf_5 (l : Launch) (D : va_G) (cI cJ cZ cP cS : ClassId) (po : zPool)   : Met l yX3_numbersOf wsX3_numbersOf ({ frames := 0, cells := 0, slots := 0, locals := 0 }) (va_Pc [.int 5] (zR D (zKT cI cJ cZ cP cS) po [])) (vp_Si (fun r => r = 1)) 0 0 (fun _ => False) := by
  refine Met.ofW (cc := cX3_numbersOf) (maxL := 1) (ret := (some .int)) (by decide) rfl ?_
  intro p e s m args below meth c s₁ B hml hv
  obtain ⟨rfl, hP, hK, hN, hZ⟩ := hv
  have hx := B.exec
  have hb := B.bytes
  have hr := B.returns
  have hts := atoms_spec (ws := wsX3_numbersOf) B.pre
  have hown : s.vm.findClass RX3 = some m.cls := findClass_of_methodNamed B.named
  have hlocks := B.notSynchronized
  have hl := lv_entry ([.int 5]) (n := 1) (Nat.le_of_ble_eq_true rfl)
  rw [lg_entry_eq]
  generalize (lg_sl ([.int 5]) ++ List.replicate (1 - (lg_sl ([.int 5])).length) Slot.unset).toArray = ls at hl ⊢
  replace hl : lv_has ls 1 [(0, .int 5)] := hl
  refine lv_iload_n hx hb dX3_numbersOf_0 rfl (lv_at hl 0 rfl) ?_
  refine lv_lookup (off := 39) (tgt := 40) hx hb dX3_numbersOf_1 (by decide) (by decide) (by decide) ?_
  refine lv_iconst (v := 1) hx hb dX3_numbersOf_40 (by decide) ?_
  exact W.iret (v := 1) hx hb hr (fun t ht hW => ⟨1, rfl, rfl, ht⟩) (fun q hq => by cases hq) dX3_numbersOf_41
set_option maxHeartbeats 4000000 in
set_option maxRecDepth 100000 in
theorem c_R_numbersOf_6 (l : Launch) (D : va_G) (cI cJ cZ cP cS : ClassId) (po : zPool)   : Met l yX3_numbersOf wsX3_numbersOf ({ frames := 0, cells := 0, slots := 0, locals := 0 }) (va_Pc [.int 6] (zR D (zKT cI cJ cZ cP cS) po [])) (vp_Si (fun r => r = 1)) 0 0 (fun _ => False) := by
  refine Met.ofW (cc := cX3_numbersOf) (maxL := 1) (ret := (some .int)) (by decide) rfl ?_
  intro p e s m args below meth c s₁ B hml hv
  obtain ⟨rfl, hP, hK, hN, hZ⟩ := hv
  have hx := B.exec
  have hb := B.bytes
  have hr := B.returns
  have hts := atoms_spec (ws := wsX3_numbersOf) B.pre
  have hown : s.vm.findClass RX3 = some m.cls := findClass_of_methodNamed B.named
  have hlocks := B.notSynchronized
  have hl := lv_entry ([.int 6]) (n := 1) (Nat.le_of_ble_eq_true rfl)
  rw [lg_entry_eq]
  generalize (lg_sl ([.int 6]) ++ List.replicate (1 - (lg_sl ([.int 6])).length) Slot.unset).toArray = ls at hl ⊢
  replace hl : lv_has ls 1 [(0, .int 6)] := hl
  refine lv_iload_n hx hb dX3_numbersOf_0 rfl (lv_at hl 0 rfl) ?_
  refine lv_lookup (off := 39) (tgt := 40) hx hb dX3_numbersOf_1 (by decide) (by decide) (by decide) ?_
  refine lv_iconst (v := 1) hx hb dX3_numbersOf_40 (by decide) ?_
  exact W.iret (v := 1) hx hb hr (fun t ht hW => ⟨1, rfl, rfl, ht⟩) (fun q hq => by cases hq) dX3_numbersOf_41
set_option maxHeartbeats 4000000 in
set_option maxRecDepth 100000 in
theorem c_R_numbersOf_7 (l : Launch) (D : va_G) (cI cJ cZ cP cS : ClassId) (po : zPool)   : Met l yX3_numbersOf wsX3_numbersOf ({ frames := 0, cells := 0, slots := 0, locals := 0 }) (va_Pc [.int 7] (zR D (zKT cI cJ cZ cP cS) po [])) (vp_Si (fun r => r = 1)) 0 0 (fun _ => False) := by
  refine Met.ofW (cc := cX3_numbersOf) (maxL := 1) (ret := (some .int)) (by decide) rfl ?_
  intro p e s m args below meth c s₁ B hml hv
  obtain ⟨rfl, hP, hK, hN, hZ⟩ := hv
  have hx := B.exec
  have hb := B.bytes
  have hr := B.returns
  have hts := atoms_spec (ws := wsX3_numbersOf) B.pre
  have hown : s.vm.findClass RX3 = some m.cls := findClass_of_methodNamed B.named
  have hlocks := B.notSynchronized
  have hl := lv_entry ([.int 7]) (n := 1) (Nat.le_of_ble_eq_true rfl)
  rw [lg_entry_eq]
  generalize (lg_sl ([.int 7]) ++ List.replicate (1 - (lg_sl ([.int 7])).length) Slot.unset).toArray = ls at hl ⊢
  replace hl : lv_has ls 1 [(0, .int 7)] := hl
  refine lv_iload_n hx hb dX3_numbersOf_0 rfl (lv_at hl 0 rfl) ?_
  refine lv_lookup (off := 39) (tgt := 40) hx hb dX3_numbersOf_1 (by decide) (by decide) (by decide) ?_
  refine lv_iconst (v := 1) hx hb dX3_numbersOf_40 (by decide) ?_
  exact W.iret (v := 1) hx hb hr (fun t ht hW => ⟨1, rfl, rfl, ht⟩) (fun q hq => by cases hq) dX3_numbersOf_41
set_option maxHeartbeats 4000000 in
set_option maxRecDepth 100000 in
theorem c_R_numbersOf_8 (l : Launch) (D : va_G) (cI cJ cZ cP cS : ClassId) (po : zPool)   : Met l yX3_numbersOf wsX3_numbersOf ({ frames := 0, cells := 0, slots := 0, locals := 0 }) (va_Pc [.int 8] (zR D (zKT cI cJ cZ cP cS) po [])) (vp_Si (fun r => r = 2)) 0 0 (fun _ => False) := by
  refine Met.ofW (cc := cX3_numbersOf) (maxL := 1) (ret := (some .int)) (by decide) rfl ?_
  intro p e s m args below meth c s₁ B hml hv
  obtain ⟨rfl, hP, hK, hN, hZ⟩ := hv
  have hx := B.exec
  have hb := B.bytes
  have hr := B.returns
  have hts := atoms_spec (ws := wsX3_numbersOf) B.pre
  have hown : s.vm.findClass RX3 = some m.cls := findClass_of_methodNamed B.named
  have hlocks := B.notSynchronized
  have hl := lv_entry ([.int 8]) (n := 1) (Nat.le_of_ble_eq_true rfl)
  rw [lg_entry_eq]
  generalize (lg_sl ([.int 8]) ++ List.replicate (1 - (lg_sl ([.int 8])).length) Slot.unset).toArray = ls at hl ⊢
  replace hl : lv_has ls 1 [(0, .int 8)] := hl
  refine lv_iload_n hx hb dX3_numbersOf_0 rfl (lv_at hl 0 rfl) ?_
  refine lv_lookup (off := 37) (tgt := 38) hx hb dX3_numbersOf_1 (by decide) (by decide) (by decide) ?_
  refine lv_iconst (v := 2) hx hb dX3_numbersOf_38 (by decide) ?_
  exact W.iret (v := 2) hx hb hr (fun t ht hW => ⟨2, rfl, rfl, ht⟩) (fun q hq => by cases hq) dX3_numbersOf_39
set_option maxHeartbeats 4000000 in
set_option maxRecDepth 100000 in
theorem c_R_numbersOf_9 (l : Launch) (D : va_G) (cI cJ cZ cP cS : ClassId) (po : zPool)   : Met l yX3_numbersOf wsX3_numbersOf ({ frames := 0, cells := 0, slots := 0, locals := 0 }) (va_Pc [.int 9] (zR D (zKT cI cJ cZ cP cS) po [])) (vp_Si (fun r => r = 1)) 0 0 (fun _ => False) := by
  refine Met.ofW (cc := cX3_numbersOf) (maxL := 1) (ret := (some .int)) (by decide) rfl ?_
  intro p e s m args below meth c s₁ B hml hv
  obtain ⟨rfl, hP, hK, hN, hZ⟩ := hv
  have hx := B.exec
  have hb := B.bytes
  have hr := B.returns
  have hts := atoms_spec (ws := wsX3_numbersOf) B.pre
  have hown : s.vm.findClass RX3 = some m.cls := findClass_of_methodNamed B.named
  have hlocks := B.notSynchronized
  have hl := lv_entry ([.int 9]) (n := 1) (Nat.le_of_ble_eq_true rfl)
  rw [lg_entry_eq]
  generalize (lg_sl ([.int 9]) ++ List.replicate (1 - (lg_sl ([.int 9])).length) Slot.unset).toArray = ls at hl ⊢
  replace hl : lv_has ls 1 [(0, .int 9)] := hl
  refine lv_iload_n hx hb dX3_numbersOf_0 rfl (lv_at hl 0 rfl) ?_
  refine lv_lookup (off := 39) (tgt := 40) hx hb dX3_numbersOf_1 (by decide) (by decide) (by decide) ?_
  refine lv_iconst (v := 1) hx hb dX3_numbersOf_40 (by decide) ?_
  exact W.iret (v := 1) hx hb hr (fun t ht hW => ⟨1, rfl, rfl, ht⟩) (fun q hq => by cases hq) dX3_numbersOf_41
set_option maxHeartbeats 4000000 in
set_option maxRecDepth 100000 in
theorem c_R_leastOf_0_0 (l : Launch) (D : va_G) (cI cJ cZ cP cS : ClassId) (po : zPool)   : Met l yX3_leastOf wsX3_leastOf ({ frames := 0, cells := 0, slots := 0, locals := 0 }) (va_Pc [.int 0, .int 0] (zR D (zKT cI cJ cZ cP cS) po [])) (vp_Si (fun r => r = 4)) 0 0 (fun _ => False) := by
  refine Met.ofW (cc := cX3_leastOf) (maxL := 2) (ret := (some .int)) (by decide) rfl ?_
  intro p e s m args below meth c s₁ B hml hv
  obtain ⟨rfl, hP, hK, hN, hZ⟩ := hv
  have hx := B.exec
  have hb := B.bytes
  have hr := B.returns
  have hts := atoms_spec (ws := wsX3_leastOf) B.pre
  have hown : s.vm.findClass RX3 = some m.cls := findClass_of_methodNamed B.named
  have hlocks := B.notSynchronized
  have hl := lv_entry ([.int 0, .int 0]) (n := 2) (Nat.le_of_ble_eq_true rfl)
  rw [lg_entry_eq]
  generalize (lg_sl ([.int 0, .int 0]) ++ List.replicate (2 - (lg_sl ([.int 0, .int 0])).length) Slot.unset).toArray = ls at hl ⊢
  replace hl : lv_has ls 2 [(0, .int 0), (1, .int 0)] := hl
  refine lv_iload_n hx hb dX3_leastOf_0 rfl (lv_at hl 0 rfl) ?_
  refine lv_if_ne (tgt := 6) hx hb dX3_leastOf_1 (by decide) (fun c_1 => ?_) (fun c_1 => ?_)
  · exact absurd c_1 (by decide)
  · refine lv_iconst (v := 4) hx hb dX3_leastOf_4 (by decide) ?_
    exact W.iret (v := 4) hx hb hr (fun t ht hW => ⟨4, rfl, rfl, ht⟩) (fun q hq => by cases hq) dX3_leastOf_5
set_option maxHeartbeats 4000000 in
set_option maxRecDepth 100000 in
theorem c_R_mostOf_0_0 (l : Launch) (D : va_G) (cI cJ cZ cP cS : ClassId) (po : zPool) (rd ri rl : Nat) (rz rc rp rf rt ru : Int32) (hy0 : 0 ≤ rz.toInt) (hy1 : rz.toInt ≤ 160) (hy2 : 0 ≤ rc.toInt) (hy3 : rc.toInt ≤ 40) (hy4 : 0 ≤ rp.toInt) (hy5 : rp.toInt ≤ 160) (hy6 : rp.toInt ≤ rz.toInt) (hy7 : (-1) ≤ rf.toInt) (hy8 : rf.toInt ≤ 160) (hy9 : 0 ≤ rt.toInt) (hy10 : rt.toInt ≤ 40) (hy11 : 0 ≤ ru.toInt) (hy12 : ru.toInt ≤ 8) : Met l yX3_mostOf wsX3_mostOf ({ frames := 0, cells := 0, slots := 0, locals := 0 }) (va_Pc [.ref rd, .int 0, .int 0] (zR D (zKT cI cJ cZ cP cS) po [(rd, .inr (3, [.ref ri, .ref rl, .int rz, .int rc, .int rp, .int rf, .int rt, .int ru]))])) (vp_Si (fun r => r = 40)) 0 0 (fun _ => False) := by
  refine Met.ofW (cc := cX3_mostOf) (maxL := 3) (ret := (some .int)) (by decide) rfl ?_
  intro p e s m args below meth c s₁ B hml hv
  obtain ⟨rfl, hP, hK, hN, hZ⟩ := hv
  have hx := B.exec
  have hb := B.bytes
  have hr := B.returns
  have hts := atoms_spec (ws := wsX3_mostOf) B.pre
  have hown : s.vm.findClass RX3 = some m.cls := findClass_of_methodNamed B.named
  have hlocks := B.notSynchronized
  have hl := lv_entry ([.ref rd, .int 0, .int 0]) (n := 3) (Nat.le_of_ble_eq_true rfl)
  rw [lg_entry_eq]
  generalize (lg_sl ([.ref rd, .int 0, .int 0]) ++ List.replicate (3 - (lg_sl ([.ref rd, .int 0, .int 0])).length) Slot.unset).toArray = ls at hl ⊢
  replace hl : lv_has ls 3 [(0, .ref rd), (1, .int 0), (2, .int 0)] := hl
  refine lv_iload_n hx hb dX3_mostOf_0 rfl (lv_at hl 1 rfl) ?_
  refine lv_tableIn (tgt := 52) hx hb dX3_mostOf_1 (by decide) (by decide) rfl (by decide) ?_
  refine lv_bipush (v := 40) hx hb dX3_mostOf_52 (by decide) ?_
  exact W.iret (v := 40) hx hb hr (fun t ht hW => ⟨40, rfl, rfl, ht⟩) (fun q hq => by cases hq) dX3_mostOf_54
set_option maxHeartbeats 4000000 in
set_option maxRecDepth 100000 in
theorem c_R_leastOf_1_0 (l : Launch) (D : va_G) (cI cJ cZ cP cS : ClassId) (po : zPool)   : Met l yX3_leastOf wsX3_leastOf ({ frames := 0, cells := 0, slots := 0, locals := 0 }) (va_Pc [.int 1, .int 0] (zR D (zKT cI cJ cZ cP cS) po [])) (vp_Si (fun r => r = 0)) 0 0 (fun _ => False) := by
  refine Met.ofW (cc := cX3_leastOf) (maxL := 2) (ret := (some .int)) (by decide) rfl ?_
  intro p e s m args below meth c s₁ B hml hv
  obtain ⟨rfl, hP, hK, hN, hZ⟩ := hv
  have hx := B.exec
  have hb := B.bytes
  have hr := B.returns
  have hts := atoms_spec (ws := wsX3_leastOf) B.pre
  have hown : s.vm.findClass RX3 = some m.cls := findClass_of_methodNamed B.named
  have hlocks := B.notSynchronized
  have hl := lv_entry ([.int 1, .int 0]) (n := 2) (Nat.le_of_ble_eq_true rfl)
  rw [lg_entry_eq]
  generalize (lg_sl ([.int 1, .int 0]) ++ List.replicate (2 - (lg_sl ([.int 1, .int 0])).length) Slot.unset).toArray = ls at hl ⊢
  replace hl : lv_has ls 2 [(0, .int 1), (1, .int 0)] := hl
  refine lv_iload_n hx hb dX3_leastOf_0 rfl (lv_at hl 0 rfl) ?_
  refine lv_if_ne (tgt := 6) hx hb dX3_leastOf_1 (by decide) (fun c_1 => ?_) (fun c_1 => ?_)
  · refine lv_iload_n hx hb dX3_leastOf_6 rfl (lv_at hl 0 rfl) ?_
    refine lv_bipush (v := 7) hx hb dX3_leastOf_7 (by decide) ?_
    refine lv_icmp_eq (tgt := 22) hx hb dX3_leastOf_9 (by decide) (fun c_2 => ?_) (fun c_2 => ?_)
    · exact absurd c_2 (by decide)
    · refine lv_iload_n hx hb dX3_leastOf_12 rfl (lv_at hl 0 rfl) ?_
      refine lv_iconst (v := 3) hx hb dX3_leastOf_13 (by decide) ?_
      refine lv_icmp_ne (tgt := 26) hx hb dX3_leastOf_14 (by decide) (fun c_3 => ?_) (fun c_3 => ?_)
      · refine lv_iconst (v := 0) hx hb dX3_leastOf_26 (by decide) ?_
        exact W.iret (v := 0) hx hb hr (fun t ht hW => ⟨0, rfl, rfl, ht⟩) (fun q hq => by cases hq) dX3_leastOf_27
      · exact absurd c_3 (by decide)
  · exact absurd c_1 (by decide)
theorem hi_X3_mostOf_3 : ∀ w ∈ u_ws RX3 TX3 8, w ∈ wsX3_mostOf := fun w h => (goodIn_r (u_ws RX3 TX3 8) [2, 3, 4, 5, 6, 7, 8, 9] rfl (by decide +kernel) w h).1
set_option maxHeartbeats 4000000 in
set_option maxRecDepth 100000 in
theorem c_R_mostOf_1_0 (l : Launch) (D : va_G) (cI cJ cZ cP cS : ClassId) (po : zPool) (rd ri rl : Nat) (rz rc rp rf rt ru : Int32) (hy0 : 0 ≤ rz.toInt) (hy1 : rz.toInt ≤ 160) (hy2 : 0 ≤ rc.toInt) (hy3 : rc.toInt ≤ 40) (hy4 : 0 ≤ rp.toInt) (hy5 : rp.toInt ≤ 160) (hy6 : rp.toInt ≤ rz.toInt) (hy7 : (-1) ≤ rf.toInt) (hy8 : rf.toInt ≤ 160) (hy9 : 0 ≤ rt.toInt) (hy10 : rt.toInt ≤ 40) (hy11 : 0 ≤ ru.toInt) (hy12 : ru.toInt ≤ 8) : Met l yX3_mostOf wsX3_mostOf ({ frames := 0, cells := 0, slots := 0, locals := 0 }) (va_Pc [.ref rd, .int 1, .int 0] (zR D (zKT cI cJ cZ cP cS) po [(rd, .inr (3, [.ref ri, .ref rl, .int rz, .int rc, .int rp, .int rf, .int rt, .int ru]))])) (vp_Si (fun r => -1 ≤ r.toInt ∧ r.toInt ≤ 39 ∧ (r.toInt = rt.toInt - 1))) 0 0 (fun _ => False) := by
  refine Met.ofW (cc := cX3_mostOf) (maxL := 3) (ret := (some .int)) (by decide) rfl ?_
  intro p e s m args below meth c s₁ B hml hv
  obtain ⟨rfl, hP, hK, hN, hZ⟩ := hv
  have hx := B.exec
  have hb := B.bytes
  have hr := B.returns
  have hts := atoms_spec (ws := wsX3_mostOf) B.pre
  have hown : s.vm.findClass RX3 = some m.cls := findClass_of_methodNamed B.named
  have hlocks := B.notSynchronized
  have hl := lv_entry ([.ref rd, .int 1, .int 0]) (n := 3) (Nat.le_of_ble_eq_true rfl)
  rw [lg_entry_eq]
  generalize (lg_sl ([.ref rd, .int 1, .int 0]) ++ List.replicate (3 - (lg_sl ([.ref rd, .int 1, .int 0])).length) Slot.unset).toArray = ls at hl ⊢
  replace hl : lv_has ls 3 [(0, .ref rd), (1, .int 1), (2, .int 0)] := hl
  refine lv_iload_n hx hb dX3_mostOf_0 rfl (lv_at hl 1 rfl) ?_
  refine lv_tableIn (tgt := 55) hx hb dX3_mostOf_1 (by decide) (by decide) rfl (by decide) ?_
  refine lv_aload_n hx hb dX3_mostOf_55 rfl (lv_at hl 0 rfl) ?_
  refine va_get (D := D) (ci := 3) (v := .int rt) (C := RX3) (T := TX3) (N := 8) hx hb hts hi_X3_mostOf_3 hown hK hP 0 rfl rfl 6 (by decide) (hts (.fieldLink RX3 31 "TheLiningsInIt$Reader" "teeth" "I") (List.mem_of_getElem? (i := 1) rfl)) (fun _ h9 => h9) rfl dX3_mostOf_56 ?_
  refine lv_iconst (v := 1) hx hb dX3_mostOf_59 (by decide) ?_
  refine lv_isub hx hb dX3_mostOf_60 ?_
  refine lv_topi (fun x_1 ex_1 => ?_)
  have qx_1 : x_1.toInt = rt.toInt - 1 := by rw [ex_1]; exact zf_sub rfl (by decide) (by omega) (by omega)
  exact W.iret (v := x_1) hx hb hr (fun t ht hW => ⟨x_1, rfl, ⟨by omega, by omega, (show (x_1 : Int32).toInt = rt.toInt - 1 from by omega)⟩, ht⟩) (fun q hq => by cases hq) dX3_mostOf_61
set_option maxHeartbeats 4000000 in
set_option maxRecDepth 100000 in
theorem c_R_leastOf_2_0 (l : Launch) (D : va_G) (cI cJ cZ cP cS : ClassId) (po : zPool)   : Met l yX3_leastOf wsX3_leastOf ({ frames := 0, cells := 0, slots := 0, locals := 0 }) (va_Pc [.int 2, .int 0] (zR D (zKT cI cJ cZ cP cS) po [])) (vp_Si (fun r => r = 0)) 0 0 (fun _ => False) := by
  refine Met.ofW (cc := cX3_leastOf) (maxL := 2) (ret := (some .int)) (by decide) rfl ?_
  intro p e s m args below meth c s₁ B hml hv
  obtain ⟨rfl, hP, hK, hN, hZ⟩ := hv
  have hx := B.exec
  have hb := B.bytes
  have hr := B.returns
  have hts := atoms_spec (ws := wsX3_leastOf) B.pre
  have hown : s.vm.findClass RX3 = some m.cls := findClass_of_methodNamed B.named
  have hlocks := B.notSynchronized
  have hl := lv_entry ([.int 2, .int 0]) (n := 2) (Nat.le_of_ble_eq_true rfl)
  rw [lg_entry_eq]
  generalize (lg_sl ([.int 2, .int 0]) ++ List.replicate (2 - (lg_sl ([.int 2, .int 0])).length) Slot.unset).toArray = ls at hl ⊢
  replace hl : lv_has ls 2 [(0, .int 2), (1, .int 0)] := hl
  refine lv_iload_n hx hb dX3_leastOf_0 rfl (lv_at hl 0 rfl) ?_
  refine lv_if_ne (tgt := 6) hx hb dX3_leastOf_1 (by decide) (fun c_1 => ?_) (fun c_1 => ?_)
  · refine lv_iload_n hx hb dX3_leastOf_6 rfl (lv_at hl 0 rfl) ?_
    refine lv_bipush (v := 7) hx hb dX3_leastOf_7 (by decide) ?_
    refine lv_icmp_eq (tgt := 22) hx hb dX3_leastOf_9 (by decide) (fun c_2 => ?_) (fun c_2 => ?_)
    · exact absurd c_2 (by decide)
    · refine lv_iload_n hx hb dX3_leastOf_12 rfl (lv_at hl 0 rfl) ?_
      refine lv_iconst (v := 3) hx hb dX3_leastOf_13 (by decide) ?_
      refine lv_icmp_ne (tgt := 26) hx hb dX3_leastOf_14 (by decide) (fun c_3 => ?_) (fun c_3 => ?_)
      · refine lv_iconst (v := 0) hx hb dX3_leastOf_26 (by decide) ?_
        exact W.iret (v := 0) hx hb hr (fun t ht hW => ⟨0, rfl, rfl, ht⟩) (fun q hq => by cases hq) dX3_leastOf_27
      · exact absurd c_3 (by decide)
  · exact absurd c_1 (by decide)
set_option maxHeartbeats 4000000 in
set_option maxRecDepth 100000 in
theorem c_R_mostOf_2_0 (l : Launch) (D : va_G) (cI cJ cZ cP cS : ClassId) (po : zPool) (rd ri rl : Nat) (rz rc rp rf rt ru : Int32) (hy0 : 0 ≤ rz.toInt) (hy1 : rz.toInt ≤ 160) (hy2 : 0 ≤ rc.toInt) (hy3 : rc.toInt ≤ 40) (hy4 : 0 ≤ rp.toInt) (hy5 : rp.toInt ≤ 160) (hy6 : rp.toInt ≤ rz.toInt) (hy7 : (-1) ≤ rf.toInt) (hy8 : rf.toInt ≤ 160) (hy9 : 0 ≤ rt.toInt) (hy10 : rt.toInt ≤ 40) (hy11 : 0 ≤ ru.toInt) (hy12 : ru.toInt ≤ 8) : Met l yX3_mostOf wsX3_mostOf ({ frames := 0, cells := 0, slots := 0, locals := 0 }) (va_Pc [.ref rd, .int 2, .int 0] (zR D (zKT cI cJ cZ cP cS) po [(rd, .inr (3, [.ref ri, .ref rl, .int rz, .int rc, .int rp, .int rf, .int rt, .int ru]))])) (vp_Si (fun r => -1 ≤ r.toInt ∧ r.toInt ≤ 39 ∧ (r.toInt = rt.toInt - 1))) 0 0 (fun _ => False) := by
  refine Met.ofW (cc := cX3_mostOf) (maxL := 3) (ret := (some .int)) (by decide) rfl ?_
  intro p e s m args below meth c s₁ B hml hv
  obtain ⟨rfl, hP, hK, hN, hZ⟩ := hv
  have hx := B.exec
  have hb := B.bytes
  have hr := B.returns
  have hts := atoms_spec (ws := wsX3_mostOf) B.pre
  have hown : s.vm.findClass RX3 = some m.cls := findClass_of_methodNamed B.named
  have hlocks := B.notSynchronized
  have hl := lv_entry ([.ref rd, .int 2, .int 0]) (n := 3) (Nat.le_of_ble_eq_true rfl)
  rw [lg_entry_eq]
  generalize (lg_sl ([.ref rd, .int 2, .int 0]) ++ List.replicate (3 - (lg_sl ([.ref rd, .int 2, .int 0])).length) Slot.unset).toArray = ls at hl ⊢
  replace hl : lv_has ls 3 [(0, .ref rd), (1, .int 2), (2, .int 0)] := hl
  refine lv_iload_n hx hb dX3_mostOf_0 rfl (lv_at hl 1 rfl) ?_
  refine lv_tableIn (tgt := 62) hx hb dX3_mostOf_1 (by decide) (by decide) rfl (by decide) ?_
  refine lv_iload_n hx hb dX3_mostOf_62 rfl (lv_at hl 2 rfl) ?_
  refine lv_if_ne (tgt := 75) hx hb dX3_mostOf_63 (by decide) (fun c_1 => ?_) (fun c_1 => ?_)
  · exact absurd c_1 (by decide)
  · refine lv_aload_n hx hb dX3_mostOf_66 rfl (lv_at hl 0 rfl) ?_
    refine va_get (D := D) (ci := 3) (v := .int rt) (C := RX3) (T := TX3) (N := 8) hx hb hts hi_X3_mostOf_3 hown hK hP 0 rfl rfl 6 (by decide) (hts (.fieldLink RX3 31 "TheLiningsInIt$Reader" "teeth" "I") (List.mem_of_getElem? (i := 1) rfl)) (fun _ h9 => h9) rfl dX3_mostOf_67 ?_
    refine lv_iconst (v := 1) hx hb dX3_mostOf_70 (by decide) ?_
    refine lv_isub hx hb dX3_mostOf_71 ?_
    refine lv_topi (fun x_2 ex_2 => ?_)
    have qx_2 : x_2.toInt = rt.toInt - 1 := by rw [ex_2]; exact zf_sub rfl (by decide) (by omega) (by omega)
    refine lv_goto (tgt := 77) hx hb dX3_mostOf_72 (by decide) ?_
    exact W.iret (v := x_2) hx hb hr (fun t ht hW => ⟨x_2, rfl, ⟨by omega, by omega, (show (x_2 : Int32).toInt = rt.toInt - 1 from by omega)⟩, ht⟩) (fun q hq => by cases hq) dX3_mostOf_77
set_option maxHeartbeats 4000000 in
set_option maxRecDepth 100000 in
theorem c_R_leastOf_2_1 (l : Launch) (D : va_G) (cI cJ cZ cP cS : ClassId) (po : zPool)   : Met l yX3_leastOf wsX3_leastOf ({ frames := 0, cells := 0, slots := 0, locals := 0 }) (va_Pc [.int 2, .int 1] (zR D (zKT cI cJ cZ cP cS) po [])) (vp_Si (fun r => r = 0)) 0 0 (fun _ => False) := by
  refine Met.ofW (cc := cX3_leastOf) (maxL := 2) (ret := (some .int)) (by decide) rfl ?_
  intro p e s m args below meth c s₁ B hml hv
  obtain ⟨rfl, hP, hK, hN, hZ⟩ := hv
  have hx := B.exec
  have hb := B.bytes
  have hr := B.returns
  have hts := atoms_spec (ws := wsX3_leastOf) B.pre
  have hown : s.vm.findClass RX3 = some m.cls := findClass_of_methodNamed B.named
  have hlocks := B.notSynchronized
  have hl := lv_entry ([.int 2, .int 1]) (n := 2) (Nat.le_of_ble_eq_true rfl)
  rw [lg_entry_eq]
  generalize (lg_sl ([.int 2, .int 1]) ++ List.replicate (2 - (lg_sl ([.int 2, .int 1])).length) Slot.unset).toArray = ls at hl ⊢
  replace hl : lv_has ls 2 [(0, .int 2), (1, .int 1)] := hl
  refine lv_iload_n hx hb dX3_leastOf_0 rfl (lv_at hl 0 rfl) ?_
  refine lv_if_ne (tgt := 6) hx hb dX3_leastOf_1 (by decide) (fun c_1 => ?_) (fun c_1 => ?_)
  · refine lv_iload_n hx hb dX3_leastOf_6 rfl (lv_at hl 0 rfl) ?_
    refine lv_bipush (v := 7) hx hb dX3_leastOf_7 (by decide) ?_
    refine lv_icmp_eq (tgt := 22) hx hb dX3_leastOf_9 (by decide) (fun c_2 => ?_) (fun c_2 => ?_)
    · exact absurd c_2 (by decide)
    · refine lv_iload_n hx hb dX3_leastOf_12 rfl (lv_at hl 0 rfl) ?_
      refine lv_iconst (v := 3) hx hb dX3_leastOf_13 (by decide) ?_
      refine lv_icmp_ne (tgt := 26) hx hb dX3_leastOf_14 (by decide) (fun c_3 => ?_) (fun c_3 => ?_)
      · refine lv_iconst (v := 0) hx hb dX3_leastOf_26 (by decide) ?_
        exact W.iret (v := 0) hx hb hr (fun t ht hW => ⟨0, rfl, rfl, ht⟩) (fun q hq => by cases hq) dX3_leastOf_27
      · exact absurd c_3 (by decide)
  · exact absurd c_1 (by decide)
set_option maxHeartbeats 4000000 in
set_option maxRecDepth 100000 in
theorem c_R_mostOf_2_1 (l : Launch) (D : va_G) (cI cJ cZ cP cS : ClassId) (po : zPool) (rd ri rl : Nat) (rz rc rp rf rt ru : Int32) (hy0 : 0 ≤ rz.toInt) (hy1 : rz.toInt ≤ 160) (hy2 : 0 ≤ rc.toInt) (hy3 : rc.toInt ≤ 40) (hy4 : 0 ≤ rp.toInt) (hy5 : rp.toInt ≤ 160) (hy6 : rp.toInt ≤ rz.toInt) (hy7 : (-1) ≤ rf.toInt) (hy8 : rf.toInt ≤ 160) (hy9 : 0 ≤ rt.toInt) (hy10 : rt.toInt ≤ 40) (hy11 : 0 ≤ ru.toInt) (hy12 : ru.toInt ≤ 8) : Met l yX3_mostOf wsX3_mostOf ({ frames := 0, cells := 0, slots := 0, locals := 0 }) (va_Pc [.ref rd, .int 2, .int 1] (zR D (zKT cI cJ cZ cP cS) po [(rd, .inr (3, [.ref ri, .ref rl, .int rz, .int rc, .int rp, .int rf, .int rt, .int ru]))])) (vp_Si (fun r => r = 9)) 0 0 (fun _ => False) := by
  refine Met.ofW (cc := cX3_mostOf) (maxL := 3) (ret := (some .int)) (by decide) rfl ?_
  intro p e s m args below meth c s₁ B hml hv
  obtain ⟨rfl, hP, hK, hN, hZ⟩ := hv
  have hx := B.exec
  have hb := B.bytes
  have hr := B.returns
  have hts := atoms_spec (ws := wsX3_mostOf) B.pre
  have hown : s.vm.findClass RX3 = some m.cls := findClass_of_methodNamed B.named
  have hlocks := B.notSynchronized
  have hl := lv_entry ([.ref rd, .int 2, .int 1]) (n := 3) (Nat.le_of_ble_eq_true rfl)
  rw [lg_entry_eq]
  generalize (lg_sl ([.ref rd, .int 2, .int 1]) ++ List.replicate (3 - (lg_sl ([.ref rd, .int 2, .int 1])).length) Slot.unset).toArray = ls at hl ⊢
  replace hl : lv_has ls 3 [(0, .ref rd), (1, .int 2), (2, .int 1)] := hl
  refine lv_iload_n hx hb dX3_mostOf_0 rfl (lv_at hl 1 rfl) ?_
  refine lv_tableIn (tgt := 62) hx hb dX3_mostOf_1 (by decide) (by decide) rfl (by decide) ?_
  refine lv_iload_n hx hb dX3_mostOf_62 rfl (lv_at hl 2 rfl) ?_
  refine lv_if_ne (tgt := 75) hx hb dX3_mostOf_63 (by decide) (fun c_1 => ?_) (fun c_1 => ?_)
  · refine lv_bipush (v := 9) hx hb dX3_mostOf_75 (by decide) ?_
    exact W.iret (v := 9) hx hb hr (fun t ht hW => ⟨9, rfl, rfl, ht⟩) (fun q hq => by cases hq) dX3_mostOf_77
  · exact absurd c_1 (by decide)
set_option maxHeartbeats 4000000 in
set_option maxRecDepth 100000 in
theorem c_R_leastOf_3_0 (l : Launch) (D : va_G) (cI cJ cZ cP cS : ClassId) (po : zPool)   : Met l yX3_leastOf wsX3_leastOf ({ frames := 0, cells := 0, slots := 0, locals := 0 }) (va_Pc [.int 3, .int 0] (zR D (zKT cI cJ cZ cP cS) po [])) (vp_Si (fun r => r = 0)) 0 0 (fun _ => False) := by
  refine Met.ofW (cc := cX3_leastOf) (maxL := 2) (ret := (some .int)) (by decide) rfl ?_
  intro p e s m args below meth c s₁ B hml hv
  obtain ⟨rfl, hP, hK, hN, hZ⟩ := hv
  have hx := B.exec
  have hb := B.bytes
  have hr := B.returns
  have hts := atoms_spec (ws := wsX3_leastOf) B.pre
  have hown : s.vm.findClass RX3 = some m.cls := findClass_of_methodNamed B.named
  have hlocks := B.notSynchronized
  have hl := lv_entry ([.int 3, .int 0]) (n := 2) (Nat.le_of_ble_eq_true rfl)
  rw [lg_entry_eq]
  generalize (lg_sl ([.int 3, .int 0]) ++ List.replicate (2 - (lg_sl ([.int 3, .int 0])).length) Slot.unset).toArray = ls at hl ⊢
  replace hl : lv_has ls 2 [(0, .int 3), (1, .int 0)] := hl
  refine lv_iload_n hx hb dX3_leastOf_0 rfl (lv_at hl 0 rfl) ?_
  refine lv_if_ne (tgt := 6) hx hb dX3_leastOf_1 (by decide) (fun c_1 => ?_) (fun c_1 => ?_)
  · refine lv_iload_n hx hb dX3_leastOf_6 rfl (lv_at hl 0 rfl) ?_
    refine lv_bipush (v := 7) hx hb dX3_leastOf_7 (by decide) ?_
    refine lv_icmp_eq (tgt := 22) hx hb dX3_leastOf_9 (by decide) (fun c_2 => ?_) (fun c_2 => ?_)
    · exact absurd c_2 (by decide)
    · refine lv_iload_n hx hb dX3_leastOf_12 rfl (lv_at hl 0 rfl) ?_
      refine lv_iconst (v := 3) hx hb dX3_leastOf_13 (by decide) ?_
      refine lv_icmp_ne (tgt := 26) hx hb dX3_leastOf_14 (by decide) (fun c_3 => ?_) (fun c_3 => ?_)
      · exact absurd c_3 (by decide)
      · refine lv_iload_n hx hb dX3_leastOf_17 rfl (lv_at hl 1 rfl) ?_
        refine lv_iconst (v := 2) hx hb dX3_leastOf_18 (by decide) ?_
        refine lv_icmp_ne (tgt := 26) hx hb dX3_leastOf_19 (by decide) (fun c_4 => ?_) (fun c_4 => ?_)
        · refine lv_iconst (v := 0) hx hb dX3_leastOf_26 (by decide) ?_
          exact W.iret (v := 0) hx hb hr (fun t ht hW => ⟨0, rfl, rfl, ht⟩) (fun q hq => by cases hq) dX3_leastOf_27
        · exact absurd c_4 (by decide)
  · exact absurd c_1 (by decide)
set_option maxHeartbeats 4000000 in
set_option maxRecDepth 100000 in
theorem c_R_mostOf_3_0 (l : Launch) (D : va_G) (cI cJ cZ cP cS : ClassId) (po : zPool) (rd ri rl : Nat) (rz rc rp rf rt ru : Int32) (hy0 : 0 ≤ rz.toInt) (hy1 : rz.toInt ≤ 160) (hy2 : 0 ≤ rc.toInt) (hy3 : rc.toInt ≤ 40) (hy4 : 0 ≤ rp.toInt) (hy5 : rp.toInt ≤ 160) (hy6 : rp.toInt ≤ rz.toInt) (hy7 : (-1) ≤ rf.toInt) (hy8 : rf.toInt ≤ 160) (hy9 : 0 ≤ rt.toInt) (hy10 : rt.toInt ≤ 40) (hy11 : 0 ≤ ru.toInt) (hy12 : ru.toInt ≤ 8) : Met l yX3_mostOf wsX3_mostOf ({ frames := 0, cells := 0, slots := 0, locals := 0 }) (va_Pc [.ref rd, .int 3, .int 0] (zR D (zKT cI cJ cZ cP cS) po [(rd, .inr (3, [.ref ri, .ref rl, .int rz, .int rc, .int rp, .int rf, .int rt, .int ru]))])) (vp_Si (fun r => r = 6)) 0 0 (fun _ => False) := by
  refine Met.ofW (cc := cX3_mostOf) (maxL := 3) (ret := (some .int)) (by decide) rfl ?_
  intro p e s m args below meth c s₁ B hml hv
  obtain ⟨rfl, hP, hK, hN, hZ⟩ := hv
  have hx := B.exec
  have hb := B.bytes
  have hr := B.returns
  have hts := atoms_spec (ws := wsX3_mostOf) B.pre
  have hown : s.vm.findClass RX3 = some m.cls := findClass_of_methodNamed B.named
  have hlocks := B.notSynchronized
  have hl := lv_entry ([.ref rd, .int 3, .int 0]) (n := 3) (Nat.le_of_ble_eq_true rfl)
  rw [lg_entry_eq]
  generalize (lg_sl ([.ref rd, .int 3, .int 0]) ++ List.replicate (3 - (lg_sl ([.ref rd, .int 3, .int 0])).length) Slot.unset).toArray = ls at hl ⊢
  replace hl : lv_has ls 3 [(0, .ref rd), (1, .int 3), (2, .int 0)] := hl
  refine lv_iload_n hx hb dX3_mostOf_0 rfl (lv_at hl 1 rfl) ?_
  refine lv_tableIn (tgt := 78) hx hb dX3_mostOf_1 (by decide) (by decide) rfl (by decide) ?_
  refine lv_iload_n hx hb dX3_mostOf_78 rfl (lv_at hl 2 rfl) ?_
  refine lv_if_ne (tgt := 87) hx hb dX3_mostOf_79 (by decide) (fun c_1 => ?_) (fun c_1 => ?_)
  · exact absurd c_1 (by decide)
  · refine lv_bipush (v := 6) hx hb dX3_mostOf_82 (by decide) ?_
    refine lv_goto (tgt := 99) hx hb dX3_mostOf_84 (by decide) ?_
    exact W.iret (v := 6) hx hb hr (fun t ht hW => ⟨6, rfl, rfl, ht⟩) (fun q hq => by cases hq) dX3_mostOf_99
set_option maxHeartbeats 4000000 in
set_option maxRecDepth 100000 in
theorem c_R_leastOf_3_1 (l : Launch) (D : va_G) (cI cJ cZ cP cS : ClassId) (po : zPool)   : Met l yX3_leastOf wsX3_leastOf ({ frames := 0, cells := 0, slots := 0, locals := 0 }) (va_Pc [.int 3, .int 1] (zR D (zKT cI cJ cZ cP cS) po [])) (vp_Si (fun r => r = 0)) 0 0 (fun _ => False) := by
  refine Met.ofW (cc := cX3_leastOf) (maxL := 2) (ret := (some .int)) (by decide) rfl ?_
  intro p e s m args below meth c s₁ B hml hv
  obtain ⟨rfl, hP, hK, hN, hZ⟩ := hv
  have hx := B.exec
  have hb := B.bytes
  have hr := B.returns
  have hts := atoms_spec (ws := wsX3_leastOf) B.pre
  have hown : s.vm.findClass RX3 = some m.cls := findClass_of_methodNamed B.named
  have hlocks := B.notSynchronized
  have hl := lv_entry ([.int 3, .int 1]) (n := 2) (Nat.le_of_ble_eq_true rfl)
  rw [lg_entry_eq]
  generalize (lg_sl ([.int 3, .int 1]) ++ List.replicate (2 - (lg_sl ([.int 3, .int 1])).length) Slot.unset).toArray = ls at hl ⊢
  replace hl : lv_has ls 2 [(0, .int 3), (1, .int 1)] := hl
  refine lv_iload_n hx hb dX3_leastOf_0 rfl (lv_at hl 0 rfl) ?_
  refine lv_if_ne (tgt := 6) hx hb dX3_leastOf_1 (by decide) (fun c_1 => ?_) (fun c_1 => ?_)
  · refine lv_iload_n hx hb dX3_leastOf_6 rfl (lv_at hl 0 rfl) ?_
    refine lv_bipush (v := 7) hx hb dX3_leastOf_7 (by decide) ?_
    refine lv_icmp_eq (tgt := 22) hx hb dX3_leastOf_9 (by decide) (fun c_2 => ?_) (fun c_2 => ?_)
    · exact absurd c_2 (by decide)
    · refine lv_iload_n hx hb dX3_leastOf_12 rfl (lv_at hl 0 rfl) ?_
      refine lv_iconst (v := 3) hx hb dX3_leastOf_13 (by decide) ?_
      refine lv_icmp_ne (tgt := 26) hx hb dX3_leastOf_14 (by decide) (fun c_3 => ?_) (fun c_3 => ?_)
      · exact absurd c_3 (by decide)
      · refine lv_iload_n hx hb dX3_leastOf_17 rfl (lv_at hl 1 rfl) ?_
        refine lv_iconst (v := 2) hx hb dX3_leastOf_18 (by decide) ?_
        refine lv_icmp_ne (tgt := 26) hx hb dX3_leastOf_19 (by decide) (fun c_4 => ?_) (fun c_4 => ?_)
        · refine lv_iconst (v := 0) hx hb dX3_leastOf_26 (by decide) ?_
          exact W.iret (v := 0) hx hb hr (fun t ht hW => ⟨0, rfl, rfl, ht⟩) (fun q hq => by cases hq) dX3_leastOf_27
        · exact absurd c_4 (by decide)
  · exact absurd c_1 (by decide)
set_option maxHeartbeats 4000000 in
set_option maxRecDepth 100000 in
theorem c_R_mostOf_3_1 (l : Launch) (D : va_G) (cI cJ cZ cP cS : ClassId) (po : zPool) (rd ri rl : Nat) (rz rc rp rf rt ru : Int32) (hy0 : 0 ≤ rz.toInt) (hy1 : rz.toInt ≤ 160) (hy2 : 0 ≤ rc.toInt) (hy3 : rc.toInt ≤ 40) (hy4 : 0 ≤ rp.toInt) (hy5 : rp.toInt ≤ 160) (hy6 : rp.toInt ≤ rz.toInt) (hy7 : (-1) ≤ rf.toInt) (hy8 : rf.toInt ≤ 160) (hy9 : 0 ≤ rt.toInt) (hy10 : rt.toInt ≤ 40) (hy11 : 0 ≤ ru.toInt) (hy12 : ru.toInt ≤ 8) : Met l yX3_mostOf wsX3_mostOf ({ frames := 0, cells := 0, slots := 0, locals := 0 }) (va_Pc [.ref rd, .int 3, .int 1] (zR D (zKT cI cJ cZ cP cS) po [(rd, .inr (3, [.ref ri, .ref rl, .int rz, .int rc, .int rp, .int rf, .int rt, .int ru]))])) (vp_Si (fun r => r = 9)) 0 0 (fun _ => False) := by
  refine Met.ofW (cc := cX3_mostOf) (maxL := 3) (ret := (some .int)) (by decide) rfl ?_
  intro p e s m args below meth c s₁ B hml hv
  obtain ⟨rfl, hP, hK, hN, hZ⟩ := hv
  have hx := B.exec
  have hb := B.bytes
  have hr := B.returns
  have hts := atoms_spec (ws := wsX3_mostOf) B.pre
  have hown : s.vm.findClass RX3 = some m.cls := findClass_of_methodNamed B.named
  have hlocks := B.notSynchronized
  have hl := lv_entry ([.ref rd, .int 3, .int 1]) (n := 3) (Nat.le_of_ble_eq_true rfl)
  rw [lg_entry_eq]
  generalize (lg_sl ([.ref rd, .int 3, .int 1]) ++ List.replicate (3 - (lg_sl ([.ref rd, .int 3, .int 1])).length) Slot.unset).toArray = ls at hl ⊢
  replace hl : lv_has ls 3 [(0, .ref rd), (1, .int 3), (2, .int 1)] := hl
  refine lv_iload_n hx hb dX3_mostOf_0 rfl (lv_at hl 1 rfl) ?_
  refine lv_tableIn (tgt := 78) hx hb dX3_mostOf_1 (by decide) (by decide) rfl (by decide) ?_
  refine lv_iload_n hx hb dX3_mostOf_78 rfl (lv_at hl 2 rfl) ?_
  refine lv_if_ne (tgt := 87) hx hb dX3_mostOf_79 (by decide) (fun c_1 => ?_) (fun c_1 => ?_)
  · refine lv_iload_n hx hb dX3_mostOf_87 rfl (lv_at hl 2 rfl) ?_
    refine lv_iconst (v := 1) hx hb dX3_mostOf_88 (by decide) ?_
    refine lv_icmp_ne (tgt := 97) hx hb dX3_mostOf_89 (by decide) (fun c_2 => ?_) (fun c_2 => ?_)
    · exact absurd c_2 (by decide)
    · refine lv_bipush (v := 9) hx hb dX3_mostOf_92 (by decide) ?_
      refine lv_goto (tgt := 99) hx hb dX3_mostOf_94 (by decide) ?_
      exact W.iret (v := 9) hx hb hr (fun t ht hW => ⟨9, rfl, rfl, ht⟩) (fun q hq => by cases hq) dX3_mostOf_99
  · exact absurd c_1 (by decide)
set_option maxHeartbeats 4000000 in
set_option maxRecDepth 100000 in
theorem c_R_leastOf_3_2 (l : Launch) (D : va_G) (cI cJ cZ cP cS : ClassId) (po : zPool)   : Met l yX3_leastOf wsX3_leastOf ({ frames := 0, cells := 0, slots := 0, locals := 0 }) (va_Pc [.int 3, .int 2] (zR D (zKT cI cJ cZ cP cS) po [])) (vp_Si (fun r => r = 1)) 0 0 (fun _ => False) := by
  refine Met.ofW (cc := cX3_leastOf) (maxL := 2) (ret := (some .int)) (by decide) rfl ?_
  intro p e s m args below meth c s₁ B hml hv
  obtain ⟨rfl, hP, hK, hN, hZ⟩ := hv
  have hx := B.exec
  have hb := B.bytes
  have hr := B.returns
  have hts := atoms_spec (ws := wsX3_leastOf) B.pre
  have hown : s.vm.findClass RX3 = some m.cls := findClass_of_methodNamed B.named
  have hlocks := B.notSynchronized
  have hl := lv_entry ([.int 3, .int 2]) (n := 2) (Nat.le_of_ble_eq_true rfl)
  rw [lg_entry_eq]
  generalize (lg_sl ([.int 3, .int 2]) ++ List.replicate (2 - (lg_sl ([.int 3, .int 2])).length) Slot.unset).toArray = ls at hl ⊢
  replace hl : lv_has ls 2 [(0, .int 3), (1, .int 2)] := hl
  refine lv_iload_n hx hb dX3_leastOf_0 rfl (lv_at hl 0 rfl) ?_
  refine lv_if_ne (tgt := 6) hx hb dX3_leastOf_1 (by decide) (fun c_1 => ?_) (fun c_1 => ?_)
  · refine lv_iload_n hx hb dX3_leastOf_6 rfl (lv_at hl 0 rfl) ?_
    refine lv_bipush (v := 7) hx hb dX3_leastOf_7 (by decide) ?_
    refine lv_icmp_eq (tgt := 22) hx hb dX3_leastOf_9 (by decide) (fun c_2 => ?_) (fun c_2 => ?_)
    · exact absurd c_2 (by decide)
    · refine lv_iload_n hx hb dX3_leastOf_12 rfl (lv_at hl 0 rfl) ?_
      refine lv_iconst (v := 3) hx hb dX3_leastOf_13 (by decide) ?_
      refine lv_icmp_ne (tgt := 26) hx hb dX3_leastOf_14 (by decide) (fun c_3 => ?_) (fun c_3 => ?_)
      · exact absurd c_3 (by decide)
      · refine lv_iload_n hx hb dX3_leastOf_17 rfl (lv_at hl 1 rfl) ?_
        refine lv_iconst (v := 2) hx hb dX3_leastOf_18 (by decide) ?_
        refine lv_icmp_ne (tgt := 26) hx hb dX3_leastOf_19 (by decide) (fun c_4 => ?_) (fun c_4 => ?_)
        · exact absurd c_4 (by decide)
        · refine lv_iconst (v := 1) hx hb dX3_leastOf_22 (by decide) ?_
          refine lv_goto (tgt := 27) hx hb dX3_leastOf_23 (by decide) ?_
          exact W.iret (v := 1) hx hb hr (fun t ht hW => ⟨1, rfl, rfl, ht⟩) (fun q hq => by cases hq) dX3_leastOf_27
  · exact absurd c_1 (by decide)
set_option maxHeartbeats 4000000 in
set_option maxRecDepth 100000 in
theorem c_R_mostOf_3_2 (l : Launch) (D : va_G) (cI cJ cZ cP cS : ClassId) (po : zPool) (rd ri rl : Nat) (rz rc rp rf rt ru : Int32) (hy0 : 0 ≤ rz.toInt) (hy1 : rz.toInt ≤ 160) (hy2 : 0 ≤ rc.toInt) (hy3 : rc.toInt ≤ 40) (hy4 : 0 ≤ rp.toInt) (hy5 : rp.toInt ≤ 160) (hy6 : rp.toInt ≤ rz.toInt) (hy7 : (-1) ≤ rf.toInt) (hy8 : rf.toInt ≤ 160) (hy9 : 0 ≤ rt.toInt) (hy10 : rt.toInt ≤ 40) (hy11 : 0 ≤ ru.toInt) (hy12 : ru.toInt ≤ 8) : Met l yX3_mostOf wsX3_mostOf ({ frames := 0, cells := 0, slots := 0, locals := 0 }) (va_Pc [.ref rd, .int 3, .int 2] (zR D (zKT cI cJ cZ cP cS) po [(rd, .inr (3, [.ref ri, .ref rl, .int rz, .int rc, .int rp, .int rf, .int rt, .int ru]))])) (vp_Si (fun r => r = 60)) 0 0 (fun _ => False) := by
  refine Met.ofW (cc := cX3_mostOf) (maxL := 3) (ret := (some .int)) (by decide) rfl ?_
  intro p e s m args below meth c s₁ B hml hv
  obtain ⟨rfl, hP, hK, hN, hZ⟩ := hv
  have hx := B.exec
  have hb := B.bytes
  have hr := B.returns
  have hts := atoms_spec (ws := wsX3_mostOf) B.pre
  have hown : s.vm.findClass RX3 = some m.cls := findClass_of_methodNamed B.named
  have hlocks := B.notSynchronized
  have hl := lv_entry ([.ref rd, .int 3, .int 2]) (n := 3) (Nat.le_of_ble_eq_true rfl)
  rw [lg_entry_eq]
  generalize (lg_sl ([.ref rd, .int 3, .int 2]) ++ List.replicate (3 - (lg_sl ([.ref rd, .int 3, .int 2])).length) Slot.unset).toArray = ls at hl ⊢
  replace hl : lv_has ls 3 [(0, .ref rd), (1, .int 3), (2, .int 2)] := hl
  refine lv_iload_n hx hb dX3_mostOf_0 rfl (lv_at hl 1 rfl) ?_
  refine lv_tableIn (tgt := 78) hx hb dX3_mostOf_1 (by decide) (by decide) rfl (by decide) ?_
  refine lv_iload_n hx hb dX3_mostOf_78 rfl (lv_at hl 2 rfl) ?_
  refine lv_if_ne (tgt := 87) hx hb dX3_mostOf_79 (by decide) (fun c_1 => ?_) (fun c_1 => ?_)
  · refine lv_iload_n hx hb dX3_mostOf_87 rfl (lv_at hl 2 rfl) ?_
    refine lv_iconst (v := 1) hx hb dX3_mostOf_88 (by decide) ?_
    refine lv_icmp_ne (tgt := 97) hx hb dX3_mostOf_89 (by decide) (fun c_2 => ?_) (fun c_2 => ?_)
    · refine lv_bipush (v := 60) hx hb dX3_mostOf_97 (by decide) ?_
      exact W.iret (v := 60) hx hb hr (fun t ht hW => ⟨60, rfl, rfl, ht⟩) (fun q hq => by cases hq) dX3_mostOf_99
    · exact absurd c_2 (by decide)
  · exact absurd c_1 (by decide)
set_option maxHeartbeats 4000000 in
set_option maxRecDepth 100000 in
theorem c_R_leastOf_4_0 (l : Launch) (D : va_G) (cI cJ cZ cP cS : ClassId) (po : zPool)   : Met l yX3_leastOf wsX3_leastOf ({ frames := 0, cells := 0, slots := 0, locals := 0 }) (va_Pc [.int 4, .int 0] (zR D (zKT cI cJ cZ cP cS) po [])) (vp_Si (fun r => r = 0)) 0 0 (fun _ => False) := by
  refine Met.ofW (cc := cX3_leastOf) (maxL := 2) (ret := (some .int)) (by decide) rfl ?_
  intro p e s m args below meth c s₁ B hml hv
  obtain ⟨rfl, hP, hK, hN, hZ⟩ := hv
  have hx := B.exec
  have hb := B.bytes
  have hr := B.returns
  have hts := atoms_spec (ws := wsX3_leastOf) B.pre
  have hown : s.vm.findClass RX3 = some m.cls := findClass_of_methodNamed B.named
  have hlocks := B.notSynchronized
  have hl := lv_entry ([.int 4, .int 0]) (n := 2) (Nat.le_of_ble_eq_true rfl)
  rw [lg_entry_eq]
  generalize (lg_sl ([.int 4, .int 0]) ++ List.replicate (2 - (lg_sl ([.int 4, .int 0])).length) Slot.unset).toArray = ls at hl ⊢
  replace hl : lv_has ls 2 [(0, .int 4), (1, .int 0)] := hl
  refine lv_iload_n hx hb dX3_leastOf_0 rfl (lv_at hl 0 rfl) ?_
  refine lv_if_ne (tgt := 6) hx hb dX3_leastOf_1 (by decide) (fun c_1 => ?_) (fun c_1 => ?_)
  · refine lv_iload_n hx hb dX3_leastOf_6 rfl (lv_at hl 0 rfl) ?_
    refine lv_bipush (v := 7) hx hb dX3_leastOf_7 (by decide) ?_
    refine lv_icmp_eq (tgt := 22) hx hb dX3_leastOf_9 (by decide) (fun c_2 => ?_) (fun c_2 => ?_)
    · exact absurd c_2 (by decide)
    · refine lv_iload_n hx hb dX3_leastOf_12 rfl (lv_at hl 0 rfl) ?_
      refine lv_iconst (v := 3) hx hb dX3_leastOf_13 (by decide) ?_
      refine lv_icmp_ne (tgt := 26) hx hb dX3_leastOf_14 (by decide) (fun c_3 => ?_) (fun c_3 => ?_)
      · refine lv_iconst (v := 0) hx hb dX3_leastOf_26 (by decide) ?_
        exact W.iret (v := 0) hx hb hr (fun t ht hW => ⟨0, rfl, rfl, ht⟩) (fun q hq => by cases hq) dX3_leastOf_27
      · exact absurd c_3 (by decide)
  · exact absurd c_1 (by decide)
set_option maxHeartbeats 4000000 in
set_option maxRecDepth 100000 in
theorem c_R_mostOf_4_0 (l : Launch) (D : va_G) (cI cJ cZ cP cS : ClassId) (po : zPool) (rd ri rl : Nat) (rz rc rp rf rt ru : Int32) (hy0 : 0 ≤ rz.toInt) (hy1 : rz.toInt ≤ 160) (hy2 : 0 ≤ rc.toInt) (hy3 : rc.toInt ≤ 40) (hy4 : 0 ≤ rp.toInt) (hy5 : rp.toInt ≤ 160) (hy6 : rp.toInt ≤ rz.toInt) (hy7 : (-1) ≤ rf.toInt) (hy8 : rf.toInt ≤ 160) (hy9 : 0 ≤ rt.toInt) (hy10 : rt.toInt ≤ 40) (hy11 : 0 ≤ ru.toInt) (hy12 : ru.toInt ≤ 8) : Met l yX3_mostOf wsX3_mostOf ({ frames := 0, cells := 0, slots := 0, locals := 0 }) (va_Pc [.ref rd, .int 4, .int 0] (zR D (zKT cI cJ cZ cP cS) po [(rd, .inr (3, [.ref ri, .ref rl, .int rz, .int rc, .int rp, .int rf, .int rt, .int ru]))])) (vp_Si (fun r => r = 24)) 0 0 (fun _ => False) := by
  refine Met.ofW (cc := cX3_mostOf) (maxL := 3) (ret := (some .int)) (by decide) rfl ?_
  intro p e s m args below meth c s₁ B hml hv
  obtain ⟨rfl, hP, hK, hN, hZ⟩ := hv
  have hx := B.exec
  have hb := B.bytes
  have hr := B.returns
  have hts := atoms_spec (ws := wsX3_mostOf) B.pre
  have hown : s.vm.findClass RX3 = some m.cls := findClass_of_methodNamed B.named
  have hlocks := B.notSynchronized
  have hl := lv_entry ([.ref rd, .int 4, .int 0]) (n := 3) (Nat.le_of_ble_eq_true rfl)
  rw [lg_entry_eq]
  generalize (lg_sl ([.ref rd, .int 4, .int 0]) ++ List.replicate (3 - (lg_sl ([.ref rd, .int 4, .int 0])).length) Slot.unset).toArray = ls at hl ⊢
  replace hl : lv_has ls 3 [(0, .ref rd), (1, .int 4), (2, .int 0)] := hl
  refine lv_iload_n hx hb dX3_mostOf_0 rfl (lv_at hl 1 rfl) ?_
  refine lv_tableIn (tgt := 100) hx hb dX3_mostOf_1 (by decide) (by decide) rfl (by decide) ?_
  refine lv_bipush (v := 24) hx hb dX3_mostOf_100 (by decide) ?_
  exact W.iret (v := 24) hx hb hr (fun t ht hW => ⟨24, rfl, rfl, ht⟩) (fun q hq => by cases hq) dX3_mostOf_102
set_option maxHeartbeats 4000000 in
set_option maxRecDepth 100000 in
theorem c_R_leastOf_5_0 (l : Launch) (D : va_G) (cI cJ cZ cP cS : ClassId) (po : zPool)   : Met l yX3_leastOf wsX3_leastOf ({ frames := 0, cells := 0, slots := 0, locals := 0 }) (va_Pc [.int 5, .int 0] (zR D (zKT cI cJ cZ cP cS) po [])) (vp_Si (fun r => r = 0)) 0 0 (fun _ => False) := by
  refine Met.ofW (cc := cX3_leastOf) (maxL := 2) (ret := (some .int)) (by decide) rfl ?_
  intro p e s m args below meth c s₁ B hml hv
  obtain ⟨rfl, hP, hK, hN, hZ⟩ := hv
  have hx := B.exec
  have hb := B.bytes
  have hr := B.returns
  have hts := atoms_spec (ws := wsX3_leastOf) B.pre
  have hown : s.vm.findClass RX3 = some m.cls := findClass_of_methodNamed B.named
  have hlocks := B.notSynchronized
  have hl := lv_entry ([.int 5, .int 0]) (n := 2) (Nat.le_of_ble_eq_true rfl)
  rw [lg_entry_eq]
  generalize (lg_sl ([.int 5, .int 0]) ++ List.replicate (2 - (lg_sl ([.int 5, .int 0])).length) Slot.unset).toArray = ls at hl ⊢
  replace hl : lv_has ls 2 [(0, .int 5), (1, .int 0)] := hl
  refine lv_iload_n hx hb dX3_leastOf_0 rfl (lv_at hl 0 rfl) ?_
  refine lv_if_ne (tgt := 6) hx hb dX3_leastOf_1 (by decide) (fun c_1 => ?_) (fun c_1 => ?_)
  · refine lv_iload_n hx hb dX3_leastOf_6 rfl (lv_at hl 0 rfl) ?_
    refine lv_bipush (v := 7) hx hb dX3_leastOf_7 (by decide) ?_
    refine lv_icmp_eq (tgt := 22) hx hb dX3_leastOf_9 (by decide) (fun c_2 => ?_) (fun c_2 => ?_)
    · exact absurd c_2 (by decide)
    · refine lv_iload_n hx hb dX3_leastOf_12 rfl (lv_at hl 0 rfl) ?_
      refine lv_iconst (v := 3) hx hb dX3_leastOf_13 (by decide) ?_
      refine lv_icmp_ne (tgt := 26) hx hb dX3_leastOf_14 (by decide) (fun c_3 => ?_) (fun c_3 => ?_)
      · refine lv_iconst (v := 0) hx hb dX3_leastOf_26 (by decide) ?_
        exact W.iret (v := 0) hx hb hr (fun t ht hW => ⟨0, rfl, rfl, ht⟩) (fun q hq => by cases hq) dX3_leastOf_27
      · exact absurd c_3 (by decide)
  · exact absurd c_1 (by decide)
set_option maxHeartbeats 4000000 in
set_option maxRecDepth 100000 in
theorem c_R_mostOf_5_0 (l : Launch) (D : va_G) (cI cJ cZ cP cS : ClassId) (po : zPool) (rd ri rl : Nat) (rz rc rp rf rt ru : Int32) (hy0 : 0 ≤ rz.toInt) (hy1 : rz.toInt ≤ 160) (hy2 : 0 ≤ rc.toInt) (hy3 : rc.toInt ≤ 40) (hy4 : 0 ≤ rp.toInt) (hy5 : rp.toInt ≤ 160) (hy6 : rp.toInt ≤ rz.toInt) (hy7 : (-1) ≤ rf.toInt) (hy8 : rf.toInt ≤ 160) (hy9 : 0 ≤ rt.toInt) (hy10 : rt.toInt ≤ 40) (hy11 : 0 ≤ ru.toInt) (hy12 : ru.toInt ≤ 8) : Met l yX3_mostOf wsX3_mostOf ({ frames := 0, cells := 0, slots := 0, locals := 0 }) (va_Pc [.ref rd, .int 5, .int 0] (zR D (zKT cI cJ cZ cP cS) po [(rd, .inr (3, [.ref ri, .ref rl, .int rz, .int rc, .int rp, .int rf, .int rt, .int ru]))])) (vp_Si (fun r => r = 300)) 0 0 (fun _ => False) := by
  refine Met.ofW (cc := cX3_mostOf) (maxL := 3) (ret := (some .int)) (by decide) rfl ?_
  intro p e s m args below meth c s₁ B hml hv
  obtain ⟨rfl, hP, hK, hN, hZ⟩ := hv
  have hx := B.exec
  have hb := B.bytes
  have hr := B.returns
  have hts := atoms_spec (ws := wsX3_mostOf) B.pre
  have hown : s.vm.findClass RX3 = some m.cls := findClass_of_methodNamed B.named
  have hlocks := B.notSynchronized
  have hl := lv_entry ([.ref rd, .int 5, .int 0]) (n := 3) (Nat.le_of_ble_eq_true rfl)
  rw [lg_entry_eq]
  generalize (lg_sl ([.ref rd, .int 5, .int 0]) ++ List.replicate (3 - (lg_sl ([.ref rd, .int 5, .int 0])).length) Slot.unset).toArray = ls at hl ⊢
  replace hl : lv_has ls 3 [(0, .ref rd), (1, .int 5), (2, .int 0)] := hl
  refine lv_iload_n hx hb dX3_mostOf_0 rfl (lv_at hl 1 rfl) ?_
  refine lv_tableIn (tgt := 103) hx hb dX3_mostOf_1 (by decide) (by decide) rfl (by decide) ?_
  refine lv_sipush (v := 300) hx hb dX3_mostOf_103 (by decide) ?_
  exact W.iret (v := 300) hx hb hr (fun t ht hW => ⟨300, rfl, rfl, ht⟩) (fun q hq => by cases hq) dX3_mostOf_106
set_option maxHeartbeats 4000000 in
set_option maxRecDepth 100000 in
theorem c_R_leastOf_6_0 (l : Launch) (D : va_G) (cI cJ cZ cP cS : ClassId) (po : zPool)   : Met l yX3_leastOf wsX3_leastOf ({ frames := 0, cells := 0, slots := 0, locals := 0 }) (va_Pc [.int 6, .int 0] (zR D (zKT cI cJ cZ cP cS) po [])) (vp_Si (fun r => r = 0)) 0 0 (fun _ => False) := by
  refine Met.ofW (cc := cX3_leastOf) (maxL := 2) (ret := (some .int)) (by decide) rfl ?_
  intro p e s m args below meth c s₁ B hml hv
  obtain ⟨rfl, hP, hK, hN, hZ⟩ := hv
  have hx := B.exec
  have hb := B.bytes
  have hr := B.returns
  have hts := atoms_spec (ws := wsX3_leastOf) B.pre
  have hown : s.vm.findClass RX3 = some m.cls := findClass_of_methodNamed B.named
  have hlocks := B.notSynchronized
  have hl := lv_entry ([.int 6, .int 0]) (n := 2) (Nat.le_of_ble_eq_true rfl)
  rw [lg_entry_eq]
  generalize (lg_sl ([.int 6, .int 0]) ++ List.replicate (2 - (lg_sl ([.int 6, .int 0])).length) Slot.unset).toArray = ls at hl ⊢
  replace hl : lv_has ls 2 [(0, .int 6), (1, .int 0)] := hl
  refine lv_iload_n hx hb dX3_leastOf_0 rfl (lv_at hl 0 rfl) ?_
  refine lv_if_ne (tgt := 6) hx hb dX3_leastOf_1 (by decide) (fun c_1 => ?_) (fun c_1 => ?_)
  · refine lv_iload_n hx hb dX3_leastOf_6 rfl (lv_at hl 0 rfl) ?_
    refine lv_bipush (v := 7) hx hb dX3_leastOf_7 (by decide) ?_
    refine lv_icmp_eq (tgt := 22) hx hb dX3_leastOf_9 (by decide) (fun c_2 => ?_) (fun c_2 => ?_)
    · exact absurd c_2 (by decide)
    · refine lv_iload_n hx hb dX3_leastOf_12 rfl (lv_at hl 0 rfl) ?_
      refine lv_iconst (v := 3) hx hb dX3_leastOf_13 (by decide) ?_
      refine lv_icmp_ne (tgt := 26) hx hb dX3_leastOf_14 (by decide) (fun c_3 => ?_) (fun c_3 => ?_)
      · refine lv_iconst (v := 0) hx hb dX3_leastOf_26 (by decide) ?_
        exact W.iret (v := 0) hx hb hr (fun t ht hW => ⟨0, rfl, rfl, ht⟩) (fun q hq => by cases hq) dX3_leastOf_27
      · exact absurd c_3 (by decide)
  · exact absurd c_1 (by decide)
set_option maxHeartbeats 4000000 in
set_option maxRecDepth 100000 in
theorem c_R_mostOf_6_0 (l : Launch) (D : va_G) (cI cJ cZ cP cS : ClassId) (po : zPool) (rd ri rl : Nat) (rz rc rp rf rt ru : Int32) (hy0 : 0 ≤ rz.toInt) (hy1 : rz.toInt ≤ 160) (hy2 : 0 ≤ rc.toInt) (hy3 : rc.toInt ≤ 40) (hy4 : 0 ≤ rp.toInt) (hy5 : rp.toInt ≤ 160) (hy6 : rp.toInt ≤ rz.toInt) (hy7 : (-1) ≤ rf.toInt) (hy8 : rf.toInt ≤ 160) (hy9 : 0 ≤ rt.toInt) (hy10 : rt.toInt ≤ 40) (hy11 : 0 ≤ ru.toInt) (hy12 : ru.toInt ≤ 8) : Met l yX3_mostOf wsX3_mostOf ({ frames := 0, cells := 0, slots := 0, locals := 0 }) (va_Pc [.ref rd, .int 6, .int 0] (zR D (zKT cI cJ cZ cP cS) po [(rd, .inr (3, [.ref ri, .ref rl, .int rz, .int rc, .int rp, .int rf, .int rt, .int ru]))])) (vp_Si (fun r => r = 9)) 0 0 (fun _ => False) := by
  refine Met.ofW (cc := cX3_mostOf) (maxL := 3) (ret := (some .int)) (by decide) rfl ?_
  intro p e s m args below meth c s₁ B hml hv
  obtain ⟨rfl, hP, hK, hN, hZ⟩ := hv
  have hx := B.exec
  have hb := B.bytes
  have hr := B.returns
  have hts := atoms_spec (ws := wsX3_mostOf) B.pre
  have hown : s.vm.findClass RX3 = some m.cls := findClass_of_methodNamed B.named
  have hlocks := B.notSynchronized
  have hl := lv_entry ([.ref rd, .int 6, .int 0]) (n := 3) (Nat.le_of_ble_eq_true rfl)
  rw [lg_entry_eq]
  generalize (lg_sl ([.ref rd, .int 6, .int 0]) ++ List.replicate (3 - (lg_sl ([.ref rd, .int 6, .int 0])).length) Slot.unset).toArray = ls at hl ⊢
  replace hl : lv_has ls 3 [(0, .ref rd), (1, .int 6), (2, .int 0)] := hl
  refine lv_iload_n hx hb dX3_mostOf_0 rfl (lv_at hl 1 rfl) ?_
  refine lv_tableIn (tgt := 107) hx hb dX3_mostOf_1 (by decide) (by decide) rfl (by decide) ?_
  refine lv_bipush (v := 9) hx hb dX3_mostOf_107 (by decide) ?_
  exact W.iret (v := 9) hx hb hr (fun t ht hW => ⟨9, rfl, rfl, ht⟩) (fun q hq => by cases hq) dX3_mostOf_109
set_option maxHeartbeats 4000000 in
set_option maxRecDepth 100000 in
theorem c_R_leastOf_7_0 (l : Launch) (D : va_G) (cI cJ cZ cP cS : ClassId) (po : zPool)   : Met l yX3_leastOf wsX3_leastOf ({ frames := 0, cells := 0, slots := 0, locals := 0 }) (va_Pc [.int 7, .int 0] (zR D (zKT cI cJ cZ cP cS) po [])) (vp_Si (fun r => r = 1)) 0 0 (fun _ => False) := by
  refine Met.ofW (cc := cX3_leastOf) (maxL := 2) (ret := (some .int)) (by decide) rfl ?_
  intro p e s m args below meth c s₁ B hml hv
  obtain ⟨rfl, hP, hK, hN, hZ⟩ := hv
  have hx := B.exec
  have hb := B.bytes
  have hr := B.returns
  have hts := atoms_spec (ws := wsX3_leastOf) B.pre
  have hown : s.vm.findClass RX3 = some m.cls := findClass_of_methodNamed B.named
  have hlocks := B.notSynchronized
  have hl := lv_entry ([.int 7, .int 0]) (n := 2) (Nat.le_of_ble_eq_true rfl)
  rw [lg_entry_eq]
  generalize (lg_sl ([.int 7, .int 0]) ++ List.replicate (2 - (lg_sl ([.int 7, .int 0])).length) Slot.unset).toArray = ls at hl ⊢
  replace hl : lv_has ls 2 [(0, .int 7), (1, .int 0)] := hl
  refine lv_iload_n hx hb dX3_leastOf_0 rfl (lv_at hl 0 rfl) ?_
  refine lv_if_ne (tgt := 6) hx hb dX3_leastOf_1 (by decide) (fun c_1 => ?_) (fun c_1 => ?_)
  · refine lv_iload_n hx hb dX3_leastOf_6 rfl (lv_at hl 0 rfl) ?_
    refine lv_bipush (v := 7) hx hb dX3_leastOf_7 (by decide) ?_
    refine lv_icmp_eq (tgt := 22) hx hb dX3_leastOf_9 (by decide) (fun c_2 => ?_) (fun c_2 => ?_)
    · refine lv_iconst (v := 1) hx hb dX3_leastOf_22 (by decide) ?_
      refine lv_goto (tgt := 27) hx hb dX3_leastOf_23 (by decide) ?_
      exact W.iret (v := 1) hx hb hr (fun t ht hW => ⟨1, rfl, rfl, ht⟩) (fun q hq => by cases hq) dX3_leastOf_27
    · exact absurd c_2 (by decide)
  · exact absurd c_1 (by decide)
set_option maxHeartbeats 4000000 in
set_option maxRecDepth 100000 in
theorem c_R_mostOf_7_0 (l : Launch) (D : va_G) (cI cJ cZ cP cS : ClassId) (po : zPool) (rd ri rl : Nat) (rz rc rp rf rt ru : Int32) (hy0 : 0 ≤ rz.toInt) (hy1 : rz.toInt ≤ 160) (hy2 : 0 ≤ rc.toInt) (hy3 : rc.toInt ≤ 40) (hy4 : 0 ≤ rp.toInt) (hy5 : rp.toInt ≤ 160) (hy6 : rp.toInt ≤ rz.toInt) (hy7 : (-1) ≤ rf.toInt) (hy8 : rf.toInt ≤ 160) (hy9 : 0 ≤ rt.toInt) (hy10 : rt.toInt ≤ 40) (hy11 : 0 ≤ ru.toInt) (hy12 : ru.toInt ≤ 8) : Met l yX3_mostOf wsX3_mostOf ({ frames := 0, cells := 0, slots := 0, locals := 0 }) (va_Pc [.ref rd, .int 7, .int 0] (zR D (zKT cI cJ cZ cP cS) po [(rd, .inr (3, [.ref ri, .ref rl, .int rz, .int rc, .int rp, .int rf, .int rt, .int ru]))])) (vp_Si (fun r => r = 9)) 0 0 (fun _ => False) := by
  refine Met.ofW (cc := cX3_mostOf) (maxL := 3) (ret := (some .int)) (by decide) rfl ?_
  intro p e s m args below meth c s₁ B hml hv
  obtain ⟨rfl, hP, hK, hN, hZ⟩ := hv
  have hx := B.exec
  have hb := B.bytes
  have hr := B.returns
  have hts := atoms_spec (ws := wsX3_mostOf) B.pre
  have hown : s.vm.findClass RX3 = some m.cls := findClass_of_methodNamed B.named
  have hlocks := B.notSynchronized
  have hl := lv_entry ([.ref rd, .int 7, .int 0]) (n := 3) (Nat.le_of_ble_eq_true rfl)
  rw [lg_entry_eq]
  generalize (lg_sl ([.ref rd, .int 7, .int 0]) ++ List.replicate (3 - (lg_sl ([.ref rd, .int 7, .int 0])).length) Slot.unset).toArray = ls at hl ⊢
  replace hl : lv_has ls 3 [(0, .ref rd), (1, .int 7), (2, .int 0)] := hl
  refine lv_iload_n hx hb dX3_mostOf_0 rfl (lv_at hl 1 rfl) ?_
  refine lv_tableIn (tgt := 110) hx hb dX3_mostOf_1 (by decide) (by decide) rfl (by decide) ?_
  refine lv_bipush (v := 9) hx hb dX3_mostOf_110 (by decide) ?_
  exact W.iret (v := 9) hx hb hr (fun t ht hW => ⟨9, rfl, rfl, ht⟩) (fun q hq => by cases hq) dX3_mostOf_112
set_option maxHeartbeats 4000000 in
set_option maxRecDepth 100000 in
theorem c_R_leastOf_8_0 (l : Launch) (D : va_G) (cI cJ cZ cP cS : ClassId) (po : zPool)   : Met l yX3_leastOf wsX3_leastOf ({ frames := 0, cells := 0, slots := 0, locals := 0 }) (va_Pc [.int 8, .int 0] (zR D (zKT cI cJ cZ cP cS) po [])) (vp_Si (fun r => r = 0)) 0 0 (fun _ => False) := by
  refine Met.ofW (cc := cX3_leastOf) (maxL := 2) (ret := (some .int)) (by decide) rfl ?_
  intro p e s m args below meth c s₁ B hml hv
  obtain ⟨rfl, hP, hK, hN, hZ⟩ := hv
  have hx := B.exec
  have hb := B.bytes
  have hr := B.returns
  have hts := atoms_spec (ws := wsX3_leastOf) B.pre
  have hown : s.vm.findClass RX3 = some m.cls := findClass_of_methodNamed B.named
  have hlocks := B.notSynchronized
  have hl := lv_entry ([.int 8, .int 0]) (n := 2) (Nat.le_of_ble_eq_true rfl)
  rw [lg_entry_eq]
  generalize (lg_sl ([.int 8, .int 0]) ++ List.replicate (2 - (lg_sl ([.int 8, .int 0])).length) Slot.unset).toArray = ls at hl ⊢
  replace hl : lv_has ls 2 [(0, .int 8), (1, .int 0)] := hl
  refine lv_iload_n hx hb dX3_leastOf_0 rfl (lv_at hl 0 rfl) ?_
  refine lv_if_ne (tgt := 6) hx hb dX3_leastOf_1 (by decide) (fun c_1 => ?_) (fun c_1 => ?_)
  · refine lv_iload_n hx hb dX3_leastOf_6 rfl (lv_at hl 0 rfl) ?_
    refine lv_bipush (v := 7) hx hb dX3_leastOf_7 (by decide) ?_
    refine lv_icmp_eq (tgt := 22) hx hb dX3_leastOf_9 (by decide) (fun c_2 => ?_) (fun c_2 => ?_)
    · exact absurd c_2 (by decide)
    · refine lv_iload_n hx hb dX3_leastOf_12 rfl (lv_at hl 0 rfl) ?_
      refine lv_iconst (v := 3) hx hb dX3_leastOf_13 (by decide) ?_
      refine lv_icmp_ne (tgt := 26) hx hb dX3_leastOf_14 (by decide) (fun c_3 => ?_) (fun c_3 => ?_)
      · refine lv_iconst (v := 0) hx hb dX3_leastOf_26 (by decide) ?_
        exact W.iret (v := 0) hx hb hr (fun t ht hW => ⟨0, rfl, rfl, ht⟩) (fun q hq => by cases hq) dX3_leastOf_27
      · exact absurd c_3 (by decide)
  · exact absurd c_1 (by decide)
set_option maxHeartbeats 4000000 in
set_option maxRecDepth 100000 in
theorem c_R_mostOf_8_0 (l : Launch) (D : va_G) (cI cJ cZ cP cS : ClassId) (po : zPool) (rd ri rl : Nat) (rz rc rp rf rt ru : Int32) (hy0 : 0 ≤ rz.toInt) (hy1 : rz.toInt ≤ 160) (hy2 : 0 ≤ rc.toInt) (hy3 : rc.toInt ≤ 40) (hy4 : 0 ≤ rp.toInt) (hy5 : rp.toInt ≤ 160) (hy6 : rp.toInt ≤ rz.toInt) (hy7 : (-1) ≤ rf.toInt) (hy8 : rf.toInt ≤ 160) (hy9 : 0 ≤ rt.toInt) (hy10 : rt.toInt ≤ 40) (hy11 : 0 ≤ ru.toInt) (hy12 : ru.toInt ≤ 8) : Met l yX3_mostOf wsX3_mostOf ({ frames := 0, cells := 0, slots := 0, locals := 0 }) (va_Pc [.ref rd, .int 8, .int 0] (zR D (zKT cI cJ cZ cP cS) po [(rd, .inr (3, [.ref ri, .ref rl, .int rz, .int rc, .int rp, .int rf, .int rt, .int ru]))])) (vp_Si (fun r => r = 2)) 0 0 (fun _ => False) := by
  refine Met.ofW (cc := cX3_mostOf) (maxL := 3) (ret := (some .int)) (by decide) rfl ?_
  intro p e s m args below meth c s₁ B hml hv
  obtain ⟨rfl, hP, hK, hN, hZ⟩ := hv
  have hx := B.exec
  have hb := B.bytes
  have hr := B.returns
  have hts := atoms_spec (ws := wsX3_mostOf) B.pre
  have hown : s.vm.findClass RX3 = some m.cls := findClass_of_methodNamed B.named
  have hlocks := B.notSynchronized
  have hl := lv_entry ([.ref rd, .int 8, .int 0]) (n := 3) (Nat.le_of_ble_eq_true rfl)
  rw [lg_entry_eq]
  generalize (lg_sl ([.ref rd, .int 8, .int 0]) ++ List.replicate (3 - (lg_sl ([.ref rd, .int 8, .int 0])).length) Slot.unset).toArray = ls at hl ⊢
  replace hl : lv_has ls 3 [(0, .ref rd), (1, .int 8), (2, .int 0)] := hl
  refine lv_iload_n hx hb dX3_mostOf_0 rfl (lv_at hl 1 rfl) ?_
  refine lv_tableIn (tgt := 113) hx hb dX3_mostOf_1 (by decide) (by decide) rfl (by decide) ?_
  refine lv_iload_n hx hb dX3_mostOf_113 rfl (lv_at hl 2 rfl) ?_
  refine lv_if_ne (tgt := 121) hx hb dX3_mostOf_114 (by decide) (fun c_1 => ?_) (fun c_1 => ?_)
  · exact absurd c_1 (by decide)
  · refine lv_iconst (v := 2) hx hb dX3_mostOf_117 (by decide) ?_
    refine lv_goto (tgt := 123) hx hb dX3_mostOf_118 (by decide) ?_
    exact W.iret (v := 2) hx hb hr (fun t ht hW => ⟨2, rfl, rfl, ht⟩) (fun q hq => by cases hq) dX3_mostOf_123
set_option maxHeartbeats 4000000 in
set_option maxRecDepth 100000 in
theorem c_R_leastOf_8_1 (l : Launch) (D : va_G) (cI cJ cZ cP cS : ClassId) (po : zPool)   : Met l yX3_leastOf wsX3_leastOf ({ frames := 0, cells := 0, slots := 0, locals := 0 }) (va_Pc [.int 8, .int 1] (zR D (zKT cI cJ cZ cP cS) po [])) (vp_Si (fun r => r = 0)) 0 0 (fun _ => False) := by
  refine Met.ofW (cc := cX3_leastOf) (maxL := 2) (ret := (some .int)) (by decide) rfl ?_
  intro p e s m args below meth c s₁ B hml hv
  obtain ⟨rfl, hP, hK, hN, hZ⟩ := hv
  have hx := B.exec
  have hb := B.bytes
  have hr := B.returns
  have hts := atoms_spec (ws := wsX3_leastOf) B.pre
  have hown : s.vm.findClass RX3 = some m.cls := findClass_of_methodNamed B.named
  have hlocks := B.notSynchronized
  have hl := lv_entry ([.int 8, .int 1]) (n := 2) (Nat.le_of_ble_eq_true rfl)
  rw [lg_entry_eq]
  generalize (lg_sl ([.int 8, .int 1]) ++ List.replicate (2 - (lg_sl ([.int 8, .int 1])).length) Slot.unset).toArray = ls at hl ⊢
  replace hl : lv_has ls 2 [(0, .int 8), (1, .int 1)] := hl
  refine lv_iload_n hx hb dX3_leastOf_0 rfl (lv_at hl 0 rfl) ?_
  refine lv_if_ne (tgt := 6) hx hb dX3_leastOf_1 (by decide) (fun c_1 => ?_) (fun c_1 => ?_)
  · refine lv_iload_n hx hb dX3_leastOf_6 rfl (lv_at hl 0 rfl) ?_
    refine lv_bipush (v := 7) hx hb dX3_leastOf_7 (by decide) ?_
    refine lv_icmp_eq (tgt := 22) hx hb dX3_leastOf_9 (by decide) (fun c_2 => ?_) (fun c_2 => ?_)
    · exact absurd c_2 (by decide)
    · refine lv_iload_n hx hb dX3_leastOf_12 rfl (lv_at hl 0 rfl) ?_
      refine lv_iconst (v := 3) hx hb dX3_leastOf_13 (by decide) ?_
      refine lv_icmp_ne (tgt := 26) hx hb dX3_leastOf_14 (by decide) (fun c_3 => ?_) (fun c_3 => ?_)
      · refine lv_iconst (v := 0) hx hb dX3_leastOf_26 (by decide) ?_
        exact W.iret (v := 0) hx hb hr (fun t ht hW => ⟨0, rfl, rfl, ht⟩) (fun q hq => by cases hq) dX3_leastOf_27
      · exact absurd c_3 (by decide)
  · exact absurd c_1 (by decide)
set_option maxHeartbeats 4000000 in
set_option maxRecDepth 100000 in
theorem c_R_mostOf_8_1 (l : Launch) (D : va_G) (cI cJ cZ cP cS : ClassId) (po : zPool) (rd ri rl : Nat) (rz rc rp rf rt ru : Int32) (hy0 : 0 ≤ rz.toInt) (hy1 : rz.toInt ≤ 160) (hy2 : 0 ≤ rc.toInt) (hy3 : rc.toInt ≤ 40) (hy4 : 0 ≤ rp.toInt) (hy5 : rp.toInt ≤ 160) (hy6 : rp.toInt ≤ rz.toInt) (hy7 : (-1) ≤ rf.toInt) (hy8 : rf.toInt ≤ 160) (hy9 : 0 ≤ rt.toInt) (hy10 : rt.toInt ≤ 40) (hy11 : 0 ≤ ru.toInt) (hy12 : ru.toInt ≤ 8) : Met l yX3_mostOf wsX3_mostOf ({ frames := 0, cells := 0, slots := 0, locals := 0 }) (va_Pc [.ref rd, .int 8, .int 1] (zR D (zKT cI cJ cZ cP cS) po [(rd, .inr (3, [.ref ri, .ref rl, .int rz, .int rc, .int rp, .int rf, .int rt, .int ru]))])) (vp_Si (fun r => r = 99)) 0 0 (fun _ => False) := by
  refine Met.ofW (cc := cX3_mostOf) (maxL := 3) (ret := (some .int)) (by decide) rfl ?_
  intro p e s m args below meth c s₁ B hml hv
  obtain ⟨rfl, hP, hK, hN, hZ⟩ := hv
  have hx := B.exec
  have hb := B.bytes
  have hr := B.returns
  have hts := atoms_spec (ws := wsX3_mostOf) B.pre
  have hown : s.vm.findClass RX3 = some m.cls := findClass_of_methodNamed B.named
  have hlocks := B.notSynchronized
  have hl := lv_entry ([.ref rd, .int 8, .int 1]) (n := 3) (Nat.le_of_ble_eq_true rfl)
  rw [lg_entry_eq]
  generalize (lg_sl ([.ref rd, .int 8, .int 1]) ++ List.replicate (3 - (lg_sl ([.ref rd, .int 8, .int 1])).length) Slot.unset).toArray = ls at hl ⊢
  replace hl : lv_has ls 3 [(0, .ref rd), (1, .int 8), (2, .int 1)] := hl
  refine lv_iload_n hx hb dX3_mostOf_0 rfl (lv_at hl 1 rfl) ?_
  refine lv_tableIn (tgt := 113) hx hb dX3_mostOf_1 (by decide) (by decide) rfl (by decide) ?_
  refine lv_iload_n hx hb dX3_mostOf_113 rfl (lv_at hl 2 rfl) ?_
  refine lv_if_ne (tgt := 121) hx hb dX3_mostOf_114 (by decide) (fun c_1 => ?_) (fun c_1 => ?_)
  · refine lv_bipush (v := 99) hx hb dX3_mostOf_121 (by decide) ?_
    exact W.iret (v := 99) hx hb hr (fun t ht hW => ⟨99, rfl, rfl, ht⟩) (fun q hq => by cases hq) dX3_mostOf_123
  · exact absurd c_1 (by decide)
set_option maxHeartbeats 4000000 in
set_option maxRecDepth 100000 in
theorem c_R_leastOf_9_0 (l : Launch) (D : va_G) (cI cJ cZ cP cS : ClassId) (po : zPool)   : Met l yX3_leastOf wsX3_leastOf ({ frames := 0, cells := 0, slots := 0, locals := 0 }) (va_Pc [.int 9, .int 0] (zR D (zKT cI cJ cZ cP cS) po [])) (vp_Si (fun r => r = 0)) 0 0 (fun _ => False) := by
  refine Met.ofW (cc := cX3_leastOf) (maxL := 2) (ret := (some .int)) (by decide) rfl ?_
  intro p e s m args below meth c s₁ B hml hv
  obtain ⟨rfl, hP, hK, hN, hZ⟩ := hv
  have hx := B.exec
  have hb := B.bytes
  have hr := B.returns
  have hts := atoms_spec (ws := wsX3_leastOf) B.pre
  have hown : s.vm.findClass RX3 = some m.cls := findClass_of_methodNamed B.named
  have hlocks := B.notSynchronized
  have hl := lv_entry ([.int 9, .int 0]) (n := 2) (Nat.le_of_ble_eq_true rfl)
  rw [lg_entry_eq]
  generalize (lg_sl ([.int 9, .int 0]) ++ List.replicate (2 - (lg_sl ([.int 9, .int 0])).length) Slot.unset).toArray = ls at hl ⊢
  replace hl : lv_has ls 2 [(0, .int 9), (1, .int 0)] := hl
  refine lv_iload_n hx hb dX3_leastOf_0 rfl (lv_at hl 0 rfl) ?_
  refine lv_if_ne (tgt := 6) hx hb dX3_leastOf_1 (by decide) (fun c_1 => ?_) (fun c_1 => ?_)
  · refine lv_iload_n hx hb dX3_leastOf_6 rfl (lv_at hl 0 rfl) ?_
    refine lv_bipush (v := 7) hx hb dX3_leastOf_7 (by decide) ?_
    refine lv_icmp_eq (tgt := 22) hx hb dX3_leastOf_9 (by decide) (fun c_2 => ?_) (fun c_2 => ?_)
    · exact absurd c_2 (by decide)
    · refine lv_iload_n hx hb dX3_leastOf_12 rfl (lv_at hl 0 rfl) ?_
      refine lv_iconst (v := 3) hx hb dX3_leastOf_13 (by decide) ?_
      refine lv_icmp_ne (tgt := 26) hx hb dX3_leastOf_14 (by decide) (fun c_3 => ?_) (fun c_3 => ?_)
      · refine lv_iconst (v := 0) hx hb dX3_leastOf_26 (by decide) ?_
        exact W.iret (v := 0) hx hb hr (fun t ht hW => ⟨0, rfl, rfl, ht⟩) (fun q hq => by cases hq) dX3_leastOf_27
      · exact absurd c_3 (by decide)
  · exact absurd c_1 (by decide)
set_option maxHeartbeats 4000000 in
set_option maxRecDepth 100000 in
theorem c_R_mostOf_9_0 (l : Launch) (D : va_G) (cI cJ cZ cP cS : ClassId) (po : zPool) (rd ri rl : Nat) (rz rc rp rf rt ru : Int32) (hy0 : 0 ≤ rz.toInt) (hy1 : rz.toInt ≤ 160) (hy2 : 0 ≤ rc.toInt) (hy3 : rc.toInt ≤ 40) (hy4 : 0 ≤ rp.toInt) (hy5 : rp.toInt ≤ 160) (hy6 : rp.toInt ≤ rz.toInt) (hy7 : (-1) ≤ rf.toInt) (hy8 : rf.toInt ≤ 160) (hy9 : 0 ≤ rt.toInt) (hy10 : rt.toInt ≤ 40) (hy11 : 0 ≤ ru.toInt) (hy12 : ru.toInt ≤ 8) : Met l yX3_mostOf wsX3_mostOf ({ frames := 0, cells := 0, slots := 0, locals := 0 }) (va_Pc [.ref rd, .int 9, .int 0] (zR D (zKT cI cJ cZ cP cS) po [(rd, .inr (3, [.ref ri, .ref rl, .int rz, .int rc, .int rp, .int rf, .int rt, .int ru]))])) (vp_Si (fun r => 0 ≤ r.toInt ∧ r.toInt ≤ 40 ∧ (r.toInt = rt.toInt))) 0 0 (fun _ => False) := by
  refine Met.ofW (cc := cX3_mostOf) (maxL := 3) (ret := (some .int)) (by decide) rfl ?_
  intro p e s m args below meth c s₁ B hml hv
  obtain ⟨rfl, hP, hK, hN, hZ⟩ := hv
  have hx := B.exec
  have hb := B.bytes
  have hr := B.returns
  have hts := atoms_spec (ws := wsX3_mostOf) B.pre
  have hown : s.vm.findClass RX3 = some m.cls := findClass_of_methodNamed B.named
  have hlocks := B.notSynchronized
  have hl := lv_entry ([.ref rd, .int 9, .int 0]) (n := 3) (Nat.le_of_ble_eq_true rfl)
  rw [lg_entry_eq]
  generalize (lg_sl ([.ref rd, .int 9, .int 0]) ++ List.replicate (3 - (lg_sl ([.ref rd, .int 9, .int 0])).length) Slot.unset).toArray = ls at hl ⊢
  replace hl : lv_has ls 3 [(0, .ref rd), (1, .int 9), (2, .int 0)] := hl
  refine lv_iload_n hx hb dX3_mostOf_0 rfl (lv_at hl 1 rfl) ?_
  refine lv_tableOut (tgt := 124) hx hb dX3_mostOf_1 (by decide) (by decide) ?_
  refine lv_aload_n hx hb dX3_mostOf_124 rfl (lv_at hl 0 rfl) ?_
  refine va_get (D := D) (ci := 3) (v := .int rt) (C := RX3) (T := TX3) (N := 8) hx hb hts hi_X3_mostOf_3 hown hK hP 0 rfl rfl 6 (by decide) (hts (.fieldLink RX3 31 "TheLiningsInIt$Reader" "teeth" "I") (List.mem_of_getElem? (i := 1) rfl)) (fun _ h9 => h9) rfl dX3_mostOf_125 ?_
  exact W.iret (v := rt) hx hb hr (fun t ht hW => ⟨rt, rfl, ⟨by omega, by omega, (show (rt : Int32).toInt = rt.toInt from by omega)⟩, ht⟩) (fun q hq => by cases hq) dX3_mostOf_128

