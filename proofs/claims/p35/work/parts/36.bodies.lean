section
set_option maxHeartbeats 4000000 in
set_option maxRecDepth 100000 in
theorem c_M_own_0_0 (l : Launch) (D : va_G) (cI cJ cZ cP cS : ClassId) (po : zPool)   : Met l yX1_ownBody wsX1_ownBody ({ frames := 0, cells := 0, slots := 0, locals := 0 }) (va_Pc [.int 0, .int 0] (zR D (zKT cI cJ cZ cP cS) po [])) (vp_Si (fun r => r = 10)) 0 0 (fun _ => False) := by
  refine Met.ofW (cc := cX1_ownBody) (maxL := 2) (ret := (some .int)) (by decide) rfl ?_
  intro p e s m args below meth c s₁ B hml hv
  obtain ⟨rfl, hP, hK, hN, hZ⟩ := hv
  have hx := B.exec
  have hb := B.bytes
  have hr := B.returns
  have hts := atoms_spec (ws := wsX1_ownBody) B.pre
  have hown : s.vm.findClass RX1 = some m.cls := findClass_of_methodNamed B.named
  have hlocks := B.notSynchronized
  have hl := lv_entry ([.int 0, .int 0]) (n := 2) (Nat.le_of_ble_eq_true rfl)
  rw [lg_entry_eq]
  generalize (lg_sl ([.int 0, .int 0]) ++ List.replicate (2 - (lg_sl ([.int 0, .int 0])).length) Slot.unset).toArray = ls at hl ⊢
  replace hl : lv_has ls 2 [(0, .int 0), (1, .int 0)] := hl
  refine lv_iload_n hx hb dX1_ownBody_0 rfl (lv_at hl 0 rfl) ?_
  refine lv_tableIn (tgt := 40) hx hb dX1_ownBody_1 (by decide) (by decide) rfl (by decide) ?_
  refine lv_bipush (v := 10) hx hb dX1_ownBody_40 (by decide) ?_
  refine lv_iload_n hx hb dX1_ownBody_42 rfl (lv_at hl 1 rfl) ?_
  refine lv_iadd hx hb dX1_ownBody_43 ?_
  refine lv_topi (fun y_1 ey_1 => ?_)
  obtain rfl : y_1 = 10 := ey_1.trans (by decide)
  exact W.iret (v := 10) hx hb hr (fun t ht hW => ⟨10, rfl, rfl, ht⟩) (fun q hq => by cases hq) dX1_ownBody_44
set_option maxHeartbeats 4000000 in
set_option maxRecDepth 100000 in
theorem c_M_own_0_1 (l : Launch) (D : va_G) (cI cJ cZ cP cS : ClassId) (po : zPool)   : Met l yX1_ownBody wsX1_ownBody ({ frames := 0, cells := 0, slots := 0, locals := 0 }) (va_Pc [.int 0, .int 1] (zR D (zKT cI cJ cZ cP cS) po [])) (vp_Si (fun r => r = 11)) 0 0 (fun _ => False) := by
  refine Met.ofW (cc := cX1_ownBody) (maxL := 2) (ret := (some .int)) (by decide) rfl ?_
  intro p e s m args below meth c s₁ B hml hv
  obtain ⟨rfl, hP, hK, hN, hZ⟩ := hv
  have hx := B.exec
  have hb := B.bytes
  have hr := B.returns
  have hts := atoms_spec (ws := wsX1_ownBody) B.pre
  have hown : s.vm.findClass RX1 = some m.cls := findClass_of_methodNamed B.named
  have hlocks := B.notSynchronized
  have hl := lv_entry ([.int 0, .int 1]) (n := 2) (Nat.le_of_ble_eq_true rfl)
  rw [lg_entry_eq]
  generalize (lg_sl ([.int 0, .int 1]) ++ List.replicate (2 - (lg_sl ([.int 0, .int 1])).length) Slot.unset).toArray = ls at hl ⊢
  replace hl : lv_has ls 2 [(0, .int 0), (1, .int 1)] := hl
  refine lv_iload_n hx hb dX1_ownBody_0 rfl (lv_at hl 0 rfl) ?_
  refine lv_tableIn (tgt := 40) hx hb dX1_ownBody_1 (by decide) (by decide) rfl (by decide) ?_
  refine lv_bipush (v := 10) hx hb dX1_ownBody_40 (by decide) ?_
  refine lv_iload_n hx hb dX1_ownBody_42 rfl (lv_at hl 1 rfl) ?_
  refine lv_iadd hx hb dX1_ownBody_43 ?_
  refine lv_topi (fun y_1 ey_1 => ?_)
  obtain rfl : y_1 = 11 := ey_1.trans (by decide)
  exact W.iret (v := 11) hx hb hr (fun t ht hW => ⟨11, rfl, rfl, ht⟩) (fun q hq => by cases hq) dX1_ownBody_44
set_option maxHeartbeats 4000000 in
set_option maxRecDepth 100000 in
theorem c_M_own_0_2 (l : Launch) (D : va_G) (cI cJ cZ cP cS : ClassId) (po : zPool)   : Met l yX1_ownBody wsX1_ownBody ({ frames := 0, cells := 0, slots := 0, locals := 0 }) (va_Pc [.int 0, .int 2] (zR D (zKT cI cJ cZ cP cS) po [])) (vp_Si (fun r => r = 12)) 0 0 (fun _ => False) := by
  refine Met.ofW (cc := cX1_ownBody) (maxL := 2) (ret := (some .int)) (by decide) rfl ?_
  intro p e s m args below meth c s₁ B hml hv
  obtain ⟨rfl, hP, hK, hN, hZ⟩ := hv
  have hx := B.exec
  have hb := B.bytes
  have hr := B.returns
  have hts := atoms_spec (ws := wsX1_ownBody) B.pre
  have hown : s.vm.findClass RX1 = some m.cls := findClass_of_methodNamed B.named
  have hlocks := B.notSynchronized
  have hl := lv_entry ([.int 0, .int 2]) (n := 2) (Nat.le_of_ble_eq_true rfl)
  rw [lg_entry_eq]
  generalize (lg_sl ([.int 0, .int 2]) ++ List.replicate (2 - (lg_sl ([.int 0, .int 2])).length) Slot.unset).toArray = ls at hl ⊢
  replace hl : lv_has ls 2 [(0, .int 0), (1, .int 2)] := hl
  refine lv_iload_n hx hb dX1_ownBody_0 rfl (lv_at hl 0 rfl) ?_
  refine lv_tableIn (tgt := 40) hx hb dX1_ownBody_1 (by decide) (by decide) rfl (by decide) ?_
  refine lv_bipush (v := 10) hx hb dX1_ownBody_40 (by decide) ?_
  refine lv_iload_n hx hb dX1_ownBody_42 rfl (lv_at hl 1 rfl) ?_
  refine lv_iadd hx hb dX1_ownBody_43 ?_
  refine lv_topi (fun y_1 ey_1 => ?_)
  obtain rfl : y_1 = 12 := ey_1.trans (by decide)
  exact W.iret (v := 12) hx hb hr (fun t ht hW => ⟨12, rfl, rfl, ht⟩) (fun q hq => by cases hq) dX1_ownBody_44
set_option maxHeartbeats 4000000 in
set_option maxRecDepth 100000 in
theorem c_M_own_1_0 (l : Launch) (D : va_G) (cI cJ cZ cP cS : ClassId) (po : zPool)   : Met l yX1_ownBody wsX1_ownBody ({ frames := 0, cells := 0, slots := 0, locals := 0 }) (va_Pc [.int 1, .int 0] (zR D (zKT cI cJ cZ cP cS) po [])) (vp_Si (fun r => r = 20)) 0 0 (fun _ => False) := by
  refine Met.ofW (cc := cX1_ownBody) (maxL := 2) (ret := (some .int)) (by decide) rfl ?_
  intro p e s m args below meth c s₁ B hml hv
  obtain ⟨rfl, hP, hK, hN, hZ⟩ := hv
  have hx := B.exec
  have hb := B.bytes
  have hr := B.returns
  have hts := atoms_spec (ws := wsX1_ownBody) B.pre
  have hown : s.vm.findClass RX1 = some m.cls := findClass_of_methodNamed B.named
  have hlocks := B.notSynchronized
  have hl := lv_entry ([.int 1, .int 0]) (n := 2) (Nat.le_of_ble_eq_true rfl)
  rw [lg_entry_eq]
  generalize (lg_sl ([.int 1, .int 0]) ++ List.replicate (2 - (lg_sl ([.int 1, .int 0])).length) Slot.unset).toArray = ls at hl ⊢
  replace hl : lv_has ls 2 [(0, .int 1), (1, .int 0)] := hl
  refine lv_iload_n hx hb dX1_ownBody_0 rfl (lv_at hl 0 rfl) ?_
  refine lv_tableIn (tgt := 45) hx hb dX1_ownBody_1 (by decide) (by decide) rfl (by decide) ?_
  refine lv_iload_n hx hb dX1_ownBody_45 rfl (lv_at hl 1 rfl) ?_
  refine lv_if_ne (tgt := 54) hx hb dX1_ownBody_46 (by decide) (fun c_1 => ?_) (fun c_1 => ?_)
  · exact absurd c_1 (by decide)
  · refine lv_bipush (v := 20) hx hb dX1_ownBody_49 (by decide) ?_
    refine lv_goto (tgt := 55) hx hb dX1_ownBody_51 (by decide) ?_
    exact W.iret (v := 20) hx hb hr (fun t ht hW => ⟨20, rfl, rfl, ht⟩) (fun q hq => by cases hq) dX1_ownBody_55
set_option maxHeartbeats 4000000 in
set_option maxRecDepth 100000 in
theorem c_M_own_1_1 (l : Launch) (D : va_G) (cI cJ cZ cP cS : ClassId) (po : zPool)   : Met l yX1_ownBody wsX1_ownBody ({ frames := 0, cells := 0, slots := 0, locals := 0 }) (va_Pc [.int 1, .int 1] (zR D (zKT cI cJ cZ cP cS) po [])) (vp_Si (fun r => r = (-1))) 0 0 (fun _ => False) := by
  refine Met.ofW (cc := cX1_ownBody) (maxL := 2) (ret := (some .int)) (by decide) rfl ?_
  intro p e s m args below meth c s₁ B hml hv
  obtain ⟨rfl, hP, hK, hN, hZ⟩ := hv
  have hx := B.exec
  have hb := B.bytes
  have hr := B.returns
  have hts := atoms_spec (ws := wsX1_ownBody) B.pre
  have hown : s.vm.findClass RX1 = some m.cls := findClass_of_methodNamed B.named
  have hlocks := B.notSynchronized
  have hl := lv_entry ([.int 1, .int 1]) (n := 2) (Nat.le_of_ble_eq_true rfl)
  rw [lg_entry_eq]
  generalize (lg_sl ([.int 1, .int 1]) ++ List.replicate (2 - (lg_sl ([.int 1, .int 1])).length) Slot.unset).toArray = ls at hl ⊢
  replace hl : lv_has ls 2 [(0, .int 1), (1, .int 1)] := hl
  refine lv_iload_n hx hb dX1_ownBody_0 rfl (lv_at hl 0 rfl) ?_
  refine lv_tableIn (tgt := 45) hx hb dX1_ownBody_1 (by decide) (by decide) rfl (by decide) ?_
  refine lv_iload_n hx hb dX1_ownBody_45 rfl (lv_at hl 1 rfl) ?_
  refine lv_if_ne (tgt := 54) hx hb dX1_ownBody_46 (by decide) (fun c_1 => ?_) (fun c_1 => ?_)
  · refine lv_iconst (v := (-1)) hx hb dX1_ownBody_54 (by decide) ?_
    exact W.iret (v := (-1)) hx hb hr (fun t ht hW => ⟨(-1), rfl, rfl, ht⟩) (fun q hq => by cases hq) dX1_ownBody_55
  · exact absurd c_1 (by decide)
set_option maxHeartbeats 4000000 in
set_option maxRecDepth 100000 in
theorem c_M_own_1_2 (l : Launch) (D : va_G) (cI cJ cZ cP cS : ClassId) (po : zPool)   : Met l yX1_ownBody wsX1_ownBody ({ frames := 0, cells := 0, slots := 0, locals := 0 }) (va_Pc [.int 1, .int 2] (zR D (zKT cI cJ cZ cP cS) po [])) (vp_Si (fun r => r = (-1))) 0 0 (fun _ => False) := by
  refine Met.ofW (cc := cX1_ownBody) (maxL := 2) (ret := (some .int)) (by decide) rfl ?_
  intro p e s m args below meth c s₁ B hml hv
  obtain ⟨rfl, hP, hK, hN, hZ⟩ := hv
  have hx := B.exec
  have hb := B.bytes
  have hr := B.returns
  have hts := atoms_spec (ws := wsX1_ownBody) B.pre
  have hown : s.vm.findClass RX1 = some m.cls := findClass_of_methodNamed B.named
  have hlocks := B.notSynchronized
  have hl := lv_entry ([.int 1, .int 2]) (n := 2) (Nat.le_of_ble_eq_true rfl)
  rw [lg_entry_eq]
  generalize (lg_sl ([.int 1, .int 2]) ++ List.replicate (2 - (lg_sl ([.int 1, .int 2])).length) Slot.unset).toArray = ls at hl ⊢
  replace hl : lv_has ls 2 [(0, .int 1), (1, .int 2)] := hl
  refine lv_iload_n hx hb dX1_ownBody_0 rfl (lv_at hl 0 rfl) ?_
  refine lv_tableIn (tgt := 45) hx hb dX1_ownBody_1 (by decide) (by decide) rfl (by decide) ?_
  refine lv_iload_n hx hb dX1_ownBody_45 rfl (lv_at hl 1 rfl) ?_
  refine lv_if_ne (tgt := 54) hx hb dX1_ownBody_46 (by decide) (fun c_1 => ?_) (fun c_1 => ?_)
  · refine lv_iconst (v := (-1)) hx hb dX1_ownBody_54 (by decide) ?_
    exact W.iret (v := (-1)) hx hb hr (fun t ht hW => ⟨(-1), rfl, rfl, ht⟩) (fun q hq => by cases hq) dX1_ownBody_55
  · exact absurd c_1 (by decide)
set_option maxHeartbeats 4000000 in
set_option maxRecDepth 100000 in
theorem c_M_own_2_0 (l : Launch) (D : va_G) (cI cJ cZ cP cS : ClassId) (po : zPool)   : Met l yX1_ownBody wsX1_ownBody ({ frames := 0, cells := 0, slots := 0, locals := 0 }) (va_Pc [.int 2, .int 0] (zR D (zKT cI cJ cZ cP cS) po [])) (vp_Si (fun r => r = (-1))) 0 0 (fun _ => False) := by
  refine Met.ofW (cc := cX1_ownBody) (maxL := 2) (ret := (some .int)) (by decide) rfl ?_
  intro p e s m args below meth c s₁ B hml hv
  obtain ⟨rfl, hP, hK, hN, hZ⟩ := hv
  have hx := B.exec
  have hb := B.bytes
  have hr := B.returns
  have hts := atoms_spec (ws := wsX1_ownBody) B.pre
  have hown : s.vm.findClass RX1 = some m.cls := findClass_of_methodNamed B.named
  have hlocks := B.notSynchronized
  have hl := lv_entry ([.int 2, .int 0]) (n := 2) (Nat.le_of_ble_eq_true rfl)
  rw [lg_entry_eq]
  generalize (lg_sl ([.int 2, .int 0]) ++ List.replicate (2 - (lg_sl ([.int 2, .int 0])).length) Slot.unset).toArray = ls at hl ⊢
  replace hl : lv_has ls 2 [(0, .int 2), (1, .int 0)] := hl
  refine lv_iload_n hx hb dX1_ownBody_0 rfl (lv_at hl 0 rfl) ?_
  refine lv_tableIn (tgt := 56) hx hb dX1_ownBody_1 (by decide) (by decide) rfl (by decide) ?_
  refine lv_iload_n hx hb dX1_ownBody_56 rfl (lv_at hl 1 rfl) ?_
  refine lv_iconst (v := 1) hx hb dX1_ownBody_57 (by decide) ?_
  refine lv_icmp_ne (tgt := 66) hx hb dX1_ownBody_58 (by decide) (fun c_1 => ?_) (fun c_1 => ?_)
  · refine lv_iconst (v := (-1)) hx hb dX1_ownBody_66 (by decide) ?_
    exact W.iret (v := (-1)) hx hb hr (fun t ht hW => ⟨(-1), rfl, rfl, ht⟩) (fun q hq => by cases hq) dX1_ownBody_67
  · exact absurd c_1 (by decide)
set_option maxHeartbeats 4000000 in
set_option maxRecDepth 100000 in
theorem c_M_own_2_1 (l : Launch) (D : va_G) (cI cJ cZ cP cS : ClassId) (po : zPool)   : Met l yX1_ownBody wsX1_ownBody ({ frames := 0, cells := 0, slots := 0, locals := 0 }) (va_Pc [.int 2, .int 1] (zR D (zKT cI cJ cZ cP cS) po [])) (vp_Si (fun r => r = 30)) 0 0 (fun _ => False) := by
  refine Met.ofW (cc := cX1_ownBody) (maxL := 2) (ret := (some .int)) (by decide) rfl ?_
  intro p e s m args below meth c s₁ B hml hv
  obtain ⟨rfl, hP, hK, hN, hZ⟩ := hv
  have hx := B.exec
  have hb := B.bytes
  have hr := B.returns
  have hts := atoms_spec (ws := wsX1_ownBody) B.pre
  have hown : s.vm.findClass RX1 = some m.cls := findClass_of_methodNamed B.named
  have hlocks := B.notSynchronized
  have hl := lv_entry ([.int 2, .int 1]) (n := 2) (Nat.le_of_ble_eq_true rfl)
  rw [lg_entry_eq]
  generalize (lg_sl ([.int 2, .int 1]) ++ List.replicate (2 - (lg_sl ([.int 2, .int 1])).length) Slot.unset).toArray = ls at hl ⊢
  replace hl : lv_has ls 2 [(0, .int 2), (1, .int 1)] := hl
  refine lv_iload_n hx hb dX1_ownBody_0 rfl (lv_at hl 0 rfl) ?_
  refine lv_tableIn (tgt := 56) hx hb dX1_ownBody_1 (by decide) (by decide) rfl (by decide) ?_
  refine lv_iload_n hx hb dX1_ownBody_56 rfl (lv_at hl 1 rfl) ?_
  refine lv_iconst (v := 1) hx hb dX1_ownBody_57 (by decide) ?_
  refine lv_icmp_ne (tgt := 66) hx hb dX1_ownBody_58 (by decide) (fun c_1 => ?_) (fun c_1 => ?_)
  · exact absurd c_1 (by decide)
  · refine lv_bipush (v := 30) hx hb dX1_ownBody_61 (by decide) ?_
    refine lv_goto (tgt := 67) hx hb dX1_ownBody_63 (by decide) ?_
    exact W.iret (v := 30) hx hb hr (fun t ht hW => ⟨30, rfl, rfl, ht⟩) (fun q hq => by cases hq) dX1_ownBody_67
set_option maxHeartbeats 4000000 in
set_option maxRecDepth 100000 in
theorem c_M_own_2_2 (l : Launch) (D : va_G) (cI cJ cZ cP cS : ClassId) (po : zPool)   : Met l yX1_ownBody wsX1_ownBody ({ frames := 0, cells := 0, slots := 0, locals := 0 }) (va_Pc [.int 2, .int 2] (zR D (zKT cI cJ cZ cP cS) po [])) (vp_Si (fun r => r = (-1))) 0 0 (fun _ => False) := by
  refine Met.ofW (cc := cX1_ownBody) (maxL := 2) (ret := (some .int)) (by decide) rfl ?_
  intro p e s m args below meth c s₁ B hml hv
  obtain ⟨rfl, hP, hK, hN, hZ⟩ := hv
  have hx := B.exec
  have hb := B.bytes
  have hr := B.returns
  have hts := atoms_spec (ws := wsX1_ownBody) B.pre
  have hown : s.vm.findClass RX1 = some m.cls := findClass_of_methodNamed B.named
  have hlocks := B.notSynchronized
  have hl := lv_entry ([.int 2, .int 2]) (n := 2) (Nat.le_of_ble_eq_true rfl)
  rw [lg_entry_eq]
  generalize (lg_sl ([.int 2, .int 2]) ++ List.replicate (2 - (lg_sl ([.int 2, .int 2])).length) Slot.unset).toArray = ls at hl ⊢
  replace hl : lv_has ls 2 [(0, .int 2), (1, .int 2)] := hl
  refine lv_iload_n hx hb dX1_ownBody_0 rfl (lv_at hl 0 rfl) ?_
  refine lv_tableIn (tgt := 56) hx hb dX1_ownBody_1 (by decide) (by decide) rfl (by decide) ?_
  refine lv_iload_n hx hb dX1_ownBody_56 rfl (lv_at hl 1 rfl) ?_
  refine lv_iconst (v := 1) hx hb dX1_ownBody_57 (by decide) ?_
  refine lv_icmp_ne (tgt := 66) hx hb dX1_ownBody_58 (by decide) (fun c_1 => ?_) (fun c_1 => ?_)
  · refine lv_iconst (v := (-1)) hx hb dX1_ownBody_66 (by decide) ?_
    exact W.iret (v := (-1)) hx hb hr (fun t ht hW => ⟨(-1), rfl, rfl, ht⟩) (fun q hq => by cases hq) dX1_ownBody_67
  · exact absurd c_1 (by decide)
set_option maxHeartbeats 4000000 in
set_option maxRecDepth 100000 in
theorem c_M_own_3_0 (l : Launch) (D : va_G) (cI cJ cZ cP cS : ClassId) (po : zPool)   : Met l yX1_ownBody wsX1_ownBody ({ frames := 0, cells := 0, slots := 0, locals := 0 }) (va_Pc [.int 3, .int 0] (zR D (zKT cI cJ cZ cP cS) po [])) (vp_Si (fun r => r = (-1))) 0 0 (fun _ => False) := by
  refine Met.ofW (cc := cX1_ownBody) (maxL := 2) (ret := (some .int)) (by decide) rfl ?_
  intro p e s m args below meth c s₁ B hml hv
  obtain ⟨rfl, hP, hK, hN, hZ⟩ := hv
  have hx := B.exec
  have hb := B.bytes
  have hr := B.returns
  have hts := atoms_spec (ws := wsX1_ownBody) B.pre
  have hown : s.vm.findClass RX1 = some m.cls := findClass_of_methodNamed B.named
  have hlocks := B.notSynchronized
  have hl := lv_entry ([.int 3, .int 0]) (n := 2) (Nat.le_of_ble_eq_true rfl)
  rw [lg_entry_eq]
  generalize (lg_sl ([.int 3, .int 0]) ++ List.replicate (2 - (lg_sl ([.int 3, .int 0])).length) Slot.unset).toArray = ls at hl ⊢
  replace hl : lv_has ls 2 [(0, .int 3), (1, .int 0)] := hl
  refine lv_iload_n hx hb dX1_ownBody_0 rfl (lv_at hl 0 rfl) ?_
  refine lv_tableIn (tgt := 68) hx hb dX1_ownBody_1 (by decide) (by decide) rfl (by decide) ?_
  refine lv_iload_n hx hb dX1_ownBody_68 rfl (lv_at hl 1 rfl) ?_
  refine lv_iconst (v := 1) hx hb dX1_ownBody_69 (by decide) ?_
  refine lv_icmp_ne (tgt := 78) hx hb dX1_ownBody_70 (by decide) (fun c_1 => ?_) (fun c_1 => ?_)
  · refine lv_iconst (v := (-1)) hx hb dX1_ownBody_78 (by decide) ?_
    exact W.iret (v := (-1)) hx hb hr (fun t ht hW => ⟨(-1), rfl, rfl, ht⟩) (fun q hq => by cases hq) dX1_ownBody_79
  · exact absurd c_1 (by decide)
set_option maxHeartbeats 4000000 in
set_option maxRecDepth 100000 in
theorem c_M_own_3_1 (l : Launch) (D : va_G) (cI cJ cZ cP cS : ClassId) (po : zPool)   : Met l yX1_ownBody wsX1_ownBody ({ frames := 0, cells := 0, slots := 0, locals := 0 }) (va_Pc [.int 3, .int 1] (zR D (zKT cI cJ cZ cP cS) po [])) (vp_Si (fun r => r = 40)) 0 0 (fun _ => False) := by
  refine Met.ofW (cc := cX1_ownBody) (maxL := 2) (ret := (some .int)) (by decide) rfl ?_
  intro p e s m args below meth c s₁ B hml hv
  obtain ⟨rfl, hP, hK, hN, hZ⟩ := hv
  have hx := B.exec
  have hb := B.bytes
  have hr := B.returns
  have hts := atoms_spec (ws := wsX1_ownBody) B.pre
  have hown : s.vm.findClass RX1 = some m.cls := findClass_of_methodNamed B.named
  have hlocks := B.notSynchronized
  have hl := lv_entry ([.int 3, .int 1]) (n := 2) (Nat.le_of_ble_eq_true rfl)
  rw [lg_entry_eq]
  generalize (lg_sl ([.int 3, .int 1]) ++ List.replicate (2 - (lg_sl ([.int 3, .int 1])).length) Slot.unset).toArray = ls at hl ⊢
  replace hl : lv_has ls 2 [(0, .int 3), (1, .int 1)] := hl
  refine lv_iload_n hx hb dX1_ownBody_0 rfl (lv_at hl 0 rfl) ?_
  refine lv_tableIn (tgt := 68) hx hb dX1_ownBody_1 (by decide) (by decide) rfl (by decide) ?_
  refine lv_iload_n hx hb dX1_ownBody_68 rfl (lv_at hl 1 rfl) ?_
  refine lv_iconst (v := 1) hx hb dX1_ownBody_69 (by decide) ?_
  refine lv_icmp_ne (tgt := 78) hx hb dX1_ownBody_70 (by decide) (fun c_1 => ?_) (fun c_1 => ?_)
  · exact absurd c_1 (by decide)
  · refine lv_bipush (v := 40) hx hb dX1_ownBody_73 (by decide) ?_
    refine lv_goto (tgt := 79) hx hb dX1_ownBody_75 (by decide) ?_
    exact W.iret (v := 40) hx hb hr (fun t ht hW => ⟨40, rfl, rfl, ht⟩) (fun q hq => by cases hq) dX1_ownBody_79
set_option maxHeartbeats 4000000 in
set_option maxRecDepth 100000 in
theorem c_M_own_3_2 (l : Launch) (D : va_G) (cI cJ cZ cP cS : ClassId) (po : zPool)   : Met l yX1_ownBody wsX1_ownBody ({ frames := 0, cells := 0, slots := 0, locals := 0 }) (va_Pc [.int 3, .int 2] (zR D (zKT cI cJ cZ cP cS) po [])) (vp_Si (fun r => r = (-1))) 0 0 (fun _ => False) := by
  refine Met.ofW (cc := cX1_ownBody) (maxL := 2) (ret := (some .int)) (by decide) rfl ?_
  intro p e s m args below meth c s₁ B hml hv
  obtain ⟨rfl, hP, hK, hN, hZ⟩ := hv
  have hx := B.exec
  have hb := B.bytes
  have hr := B.returns
  have hts := atoms_spec (ws := wsX1_ownBody) B.pre
  have hown : s.vm.findClass RX1 = some m.cls := findClass_of_methodNamed B.named
  have hlocks := B.notSynchronized
  have hl := lv_entry ([.int 3, .int 2]) (n := 2) (Nat.le_of_ble_eq_true rfl)
  rw [lg_entry_eq]
  generalize (lg_sl ([.int 3, .int 2]) ++ List.replicate (2 - (lg_sl ([.int 3, .int 2])).length) Slot.unset).toArray = ls at hl ⊢
  replace hl : lv_has ls 2 [(0, .int 3), (1, .int 2)] := hl
  refine lv_iload_n hx hb dX1_ownBody_0 rfl (lv_at hl 0 rfl) ?_
  refine lv_tableIn (tgt := 68) hx hb dX1_ownBody_1 (by decide) (by decide) rfl (by decide) ?_
  refine lv_iload_n hx hb dX1_ownBody_68 rfl (lv_at hl 1 rfl) ?_
  refine lv_iconst (v := 1) hx hb dX1_ownBody_69 (by decide) ?_
  refine lv_icmp_ne (tgt := 78) hx hb dX1_ownBody_70 (by decide) (fun c_1 => ?_) (fun c_1 => ?_)
  · refine lv_iconst (v := (-1)) hx hb dX1_ownBody_78 (by decide) ?_
    exact W.iret (v := (-1)) hx hb hr (fun t ht hW => ⟨(-1), rfl, rfl, ht⟩) (fun q hq => by cases hq) dX1_ownBody_79
  · exact absurd c_1 (by decide)
set_option maxHeartbeats 4000000 in
set_option maxRecDepth 100000 in
theorem c_M_own_4_0 (l : Launch) (D : va_G) (cI cJ cZ cP cS : ClassId) (po : zPool)   : Met l yX1_ownBody wsX1_ownBody ({ frames := 0, cells := 0, slots := 0, locals := 0 }) (va_Pc [.int 4, .int 0] (zR D (zKT cI cJ cZ cP cS) po [])) (vp_Si (fun r => r = 51)) 0 0 (fun _ => False) := by
  refine Met.ofW (cc := cX1_ownBody) (maxL := 2) (ret := (some .int)) (by decide) rfl ?_
  intro p e s m args below meth c s₁ B hml hv
  obtain ⟨rfl, hP, hK, hN, hZ⟩ := hv
  have hx := B.exec
  have hb := B.bytes
  have hr := B.returns
  have hts := atoms_spec (ws := wsX1_ownBody) B.pre
  have hown : s.vm.findClass RX1 = some m.cls := findClass_of_methodNamed B.named
  have hlocks := B.notSynchronized
  have hl := lv_entry ([.int 4, .int 0]) (n := 2) (Nat.le_of_ble_eq_true rfl)
  rw [lg_entry_eq]
  generalize (lg_sl ([.int 4, .int 0]) ++ List.replicate (2 - (lg_sl ([.int 4, .int 0])).length) Slot.unset).toArray = ls at hl ⊢
  replace hl : lv_has ls 2 [(0, .int 4), (1, .int 0)] := hl
  refine lv_iload_n hx hb dX1_ownBody_0 rfl (lv_at hl 0 rfl) ?_
  refine lv_tableIn (tgt := 80) hx hb dX1_ownBody_1 (by decide) (by decide) rfl (by decide) ?_
  refine lv_iload_n hx hb dX1_ownBody_80 rfl (lv_at hl 1 rfl) ?_
  refine lv_iconst (v := 2) hx hb dX1_ownBody_81 (by decide) ?_
  refine lv_icmp_ne (tgt := 90) hx hb dX1_ownBody_82 (by decide) (fun c_1 => ?_) (fun c_1 => ?_)
  · refine lv_iload_n hx hb dX1_ownBody_90 rfl (lv_at hl 1 rfl) ?_
    refine lv_if_ne (tgt := 99) hx hb dX1_ownBody_91 (by decide) (fun c_2 => ?_) (fun c_2 => ?_)
    · exact absurd c_2 (by decide)
    · refine lv_bipush (v := 51) hx hb dX1_ownBody_94 (by decide) ?_
      refine lv_goto (tgt := 100) hx hb dX1_ownBody_96 (by decide) ?_
      exact W.iret (v := 51) hx hb hr (fun t ht hW => ⟨51, rfl, rfl, ht⟩) (fun q hq => by cases hq) dX1_ownBody_100
  · exact absurd c_1 (by decide)
set_option maxHeartbeats 4000000 in
set_option maxRecDepth 100000 in
theorem c_M_own_4_1 (l : Launch) (D : va_G) (cI cJ cZ cP cS : ClassId) (po : zPool)   : Met l yX1_ownBody wsX1_ownBody ({ frames := 0, cells := 0, slots := 0, locals := 0 }) (va_Pc [.int 4, .int 1] (zR D (zKT cI cJ cZ cP cS) po [])) (vp_Si (fun r => r = (-1))) 0 0 (fun _ => False) := by
  refine Met.ofW (cc := cX1_ownBody) (maxL := 2) (ret := (some .int)) (by decide) rfl ?_
  intro p e s m args below meth c s₁ B hml hv
  obtain ⟨rfl, hP, hK, hN, hZ⟩ := hv
  have hx := B.exec
  have hb := B.bytes
  have hr := B.returns
  have hts := atoms_spec (ws := wsX1_ownBody) B.pre
  have hown : s.vm.findClass RX1 = some m.cls := findClass_of_methodNamed B.named
  have hlocks := B.notSynchronized
  have hl := lv_entry ([.int 4, .int 1]) (n := 2) (Nat.le_of_ble_eq_true rfl)
  rw [lg_entry_eq]
  generalize (lg_sl ([.int 4, .int 1]) ++ List.replicate (2 - (lg_sl ([.int 4, .int 1])).length) Slot.unset).toArray = ls at hl ⊢
  replace hl : lv_has ls 2 [(0, .int 4), (1, .int 1)] := hl
  refine lv_iload_n hx hb dX1_ownBody_0 rfl (lv_at hl 0 rfl) ?_
  refine lv_tableIn (tgt := 80) hx hb dX1_ownBody_1 (by decide) (by decide) rfl (by decide) ?_
  refine lv_iload_n hx hb dX1_ownBody_80 rfl (lv_at hl 1 rfl) ?_
  refine lv_iconst (v := 2) hx hb dX1_ownBody_81 (by decide) ?_
  refine lv_icmp_ne (tgt := 90) hx hb dX1_ownBody_82 (by decide) (fun c_1 => ?_) (fun c_1 => ?_)
  · refine lv_iload_n hx hb dX1_ownBody_90 rfl (lv_at hl 1 rfl) ?_
    refine lv_if_ne (tgt := 99) hx hb dX1_ownBody_91 (by decide) (fun c_2 => ?_) (fun c_2 => ?_)
    · refine lv_iconst (v := (-1)) hx hb dX1_ownBody_99 (by decide) ?_
      exact W.iret (v := (-1)) hx hb hr (fun t ht hW => ⟨(-1), rfl, rfl, ht⟩) (fun q hq => by cases hq) dX1_ownBody_100
    · exact absurd c_2 (by decide)
  · exact absurd c_1 (by decide)
set_option maxHeartbeats 4000000 in
set_option maxRecDepth 100000 in
theorem c_M_own_4_2 (l : Launch) (D : va_G) (cI cJ cZ cP cS : ClassId) (po : zPool)   : Met l yX1_ownBody wsX1_ownBody ({ frames := 0, cells := 0, slots := 0, locals := 0 }) (va_Pc [.int 4, .int 2] (zR D (zKT cI cJ cZ cP cS) po [])) (vp_Si (fun r => r = 50)) 0 0 (fun _ => False) := by
  refine Met.ofW (cc := cX1_ownBody) (maxL := 2) (ret := (some .int)) (by decide) rfl ?_
  intro p e s m args below meth c s₁ B hml hv
  obtain ⟨rfl, hP, hK, hN, hZ⟩ := hv
  have hx := B.exec
  have hb := B.bytes
  have hr := B.returns
  have hts := atoms_spec (ws := wsX1_ownBody) B.pre
  have hown : s.vm.findClass RX1 = some m.cls := findClass_of_methodNamed B.named
  have hlocks := B.notSynchronized
  have hl := lv_entry ([.int 4, .int 2]) (n := 2) (Nat.le_of_ble_eq_true rfl)
  rw [lg_entry_eq]
  generalize (lg_sl ([.int 4, .int 2]) ++ List.replicate (2 - (lg_sl ([.int 4, .int 2])).length) Slot.unset).toArray = ls at hl ⊢
  replace hl : lv_has ls 2 [(0, .int 4), (1, .int 2)] := hl
  refine lv_iload_n hx hb dX1_ownBody_0 rfl (lv_at hl 0 rfl) ?_
  refine lv_tableIn (tgt := 80) hx hb dX1_ownBody_1 (by decide) (by decide) rfl (by decide) ?_
  refine lv_iload_n hx hb dX1_ownBody_80 rfl (lv_at hl 1 rfl) ?_
  refine lv_iconst (v := 2) hx hb dX1_ownBody_81 (by decide) ?_
  refine lv_icmp_ne (tgt := 90) hx hb dX1_ownBody_82 (by decide) (fun c_1 => ?_) (fun c_1 => ?_)
  · exact absurd c_1 (by decide)
  · refine lv_bipush (v := 50) hx hb dX1_ownBody_85 (by decide) ?_
    refine lv_goto (tgt := 100) hx hb dX1_ownBody_87 (by decide) ?_
    exact W.iret (v := 50) hx hb hr (fun t ht hW => ⟨50, rfl, rfl, ht⟩) (fun q hq => by cases hq) dX1_ownBody_100
set_option maxHeartbeats 4000000 in
set_option maxRecDepth 100000 in
theorem c_M_own_5_0 (l : Launch) (D : va_G) (cI cJ cZ cP cS : ClassId) (po : zPool)   : Met l yX1_ownBody wsX1_ownBody ({ frames := 0, cells := 0, slots := 0, locals := 0 }) (va_Pc [.int 5, .int 0] (zR D (zKT cI cJ cZ cP cS) po [])) (vp_Si (fun r => r = (-1))) 0 0 (fun _ => False) := by
  refine Met.ofW (cc := cX1_ownBody) (maxL := 2) (ret := (some .int)) (by decide) rfl ?_
  intro p e s m args below meth c s₁ B hml hv
  obtain ⟨rfl, hP, hK, hN, hZ⟩ := hv
  have hx := B.exec
  have hb := B.bytes
  have hr := B.returns
  have hts := atoms_spec (ws := wsX1_ownBody) B.pre
  have hown : s.vm.findClass RX1 = some m.cls := findClass_of_methodNamed B.named
  have hlocks := B.notSynchronized
  have hl := lv_entry ([.int 5, .int 0]) (n := 2) (Nat.le_of_ble_eq_true rfl)
  rw [lg_entry_eq]
  generalize (lg_sl ([.int 5, .int 0]) ++ List.replicate (2 - (lg_sl ([.int 5, .int 0])).length) Slot.unset).toArray = ls at hl ⊢
  replace hl : lv_has ls 2 [(0, .int 5), (1, .int 0)] := hl
  refine lv_iload_n hx hb dX1_ownBody_0 rfl (lv_at hl 0 rfl) ?_
  refine lv_tableIn (tgt := 101) hx hb dX1_ownBody_1 (by decide) (by decide) rfl (by decide) ?_
  refine lv_iload_n hx hb dX1_ownBody_101 rfl (lv_at hl 1 rfl) ?_
  refine lv_iconst (v := 2) hx hb dX1_ownBody_102 (by decide) ?_
  refine lv_icmp_ne (tgt := 111) hx hb dX1_ownBody_103 (by decide) (fun c_1 => ?_) (fun c_1 => ?_)
  · refine lv_iconst (v := (-1)) hx hb dX1_ownBody_111 (by decide) ?_
    exact W.iret (v := (-1)) hx hb hr (fun t ht hW => ⟨(-1), rfl, rfl, ht⟩) (fun q hq => by cases hq) dX1_ownBody_112
  · exact absurd c_1 (by decide)
set_option maxHeartbeats 4000000 in
set_option maxRecDepth 100000 in
theorem c_M_own_5_1 (l : Launch) (D : va_G) (cI cJ cZ cP cS : ClassId) (po : zPool)   : Met l yX1_ownBody wsX1_ownBody ({ frames := 0, cells := 0, slots := 0, locals := 0 }) (va_Pc [.int 5, .int 1] (zR D (zKT cI cJ cZ cP cS) po [])) (vp_Si (fun r => r = (-1))) 0 0 (fun _ => False) := by
  refine Met.ofW (cc := cX1_ownBody) (maxL := 2) (ret := (some .int)) (by decide) rfl ?_
  intro p e s m args below meth c s₁ B hml hv
  obtain ⟨rfl, hP, hK, hN, hZ⟩ := hv
  have hx := B.exec
  have hb := B.bytes
  have hr := B.returns
  have hts := atoms_spec (ws := wsX1_ownBody) B.pre
  have hown : s.vm.findClass RX1 = some m.cls := findClass_of_methodNamed B.named
  have hlocks := B.notSynchronized
  have hl := lv_entry ([.int 5, .int 1]) (n := 2) (Nat.le_of_ble_eq_true rfl)
  rw [lg_entry_eq]
  generalize (lg_sl ([.int 5, .int 1]) ++ List.replicate (2 - (lg_sl ([.int 5, .int 1])).length) Slot.unset).toArray = ls at hl ⊢
  replace hl : lv_has ls 2 [(0, .int 5), (1, .int 1)] := hl
  refine lv_iload_n hx hb dX1_ownBody_0 rfl (lv_at hl 0 rfl) ?_
  refine lv_tableIn (tgt := 101) hx hb dX1_ownBody_1 (by decide) (by decide) rfl (by decide) ?_
  refine lv_iload_n hx hb dX1_ownBody_101 rfl (lv_at hl 1 rfl) ?_
  refine lv_iconst (v := 2) hx hb dX1_ownBody_102 (by decide) ?_
  refine lv_icmp_ne (tgt := 111) hx hb dX1_ownBody_103 (by decide) (fun c_1 => ?_) (fun c_1 => ?_)
  · refine lv_iconst (v := (-1)) hx hb dX1_ownBody_111 (by decide) ?_
    exact W.iret (v := (-1)) hx hb hr (fun t ht hW => ⟨(-1), rfl, rfl, ht⟩) (fun q hq => by cases hq) dX1_ownBody_112
  · exact absurd c_1 (by decide)
set_option maxHeartbeats 4000000 in
set_option maxRecDepth 100000 in
theorem c_M_own_5_2 (l : Launch) (D : va_G) (cI cJ cZ cP cS : ClassId) (po : zPool)   : Met l yX1_ownBody wsX1_ownBody ({ frames := 0, cells := 0, slots := 0, locals := 0 }) (va_Pc [.int 5, .int 2] (zR D (zKT cI cJ cZ cP cS) po [])) (vp_Si (fun r => r = 60)) 0 0 (fun _ => False) := by
  refine Met.ofW (cc := cX1_ownBody) (maxL := 2) (ret := (some .int)) (by decide) rfl ?_
  intro p e s m args below meth c s₁ B hml hv
  obtain ⟨rfl, hP, hK, hN, hZ⟩ := hv
  have hx := B.exec
  have hb := B.bytes
  have hr := B.returns
  have hts := atoms_spec (ws := wsX1_ownBody) B.pre
  have hown : s.vm.findClass RX1 = some m.cls := findClass_of_methodNamed B.named
  have hlocks := B.notSynchronized
  have hl := lv_entry ([.int 5, .int 2]) (n := 2) (Nat.le_of_ble_eq_true rfl)
  rw [lg_entry_eq]
  generalize (lg_sl ([.int 5, .int 2]) ++ List.replicate (2 - (lg_sl ([.int 5, .int 2])).length) Slot.unset).toArray = ls at hl ⊢
  replace hl : lv_has ls 2 [(0, .int 5), (1, .int 2)] := hl
  refine lv_iload_n hx hb dX1_ownBody_0 rfl (lv_at hl 0 rfl) ?_
  refine lv_tableIn (tgt := 101) hx hb dX1_ownBody_1 (by decide) (by decide) rfl (by decide) ?_
  refine lv_iload_n hx hb dX1_ownBody_101 rfl (lv_at hl 1 rfl) ?_
  refine lv_iconst (v := 2) hx hb dX1_ownBody_102 (by decide) ?_
  refine lv_icmp_ne (tgt := 111) hx hb dX1_ownBody_103 (by decide) (fun c_1 => ?_) (fun c_1 => ?_)
  · exact absurd c_1 (by decide)
  · refine lv_bipush (v := 60) hx hb dX1_ownBody_106 (by decide) ?_
    refine lv_goto (tgt := 112) hx hb dX1_ownBody_108 (by decide) ?_
    exact W.iret (v := 60) hx hb hr (fun t ht hW => ⟨60, rfl, rfl, ht⟩) (fun q hq => by cases hq) dX1_ownBody_112
set_option maxHeartbeats 4000000 in
set_option maxRecDepth 100000 in
theorem c_M_own_6_0 (l : Launch) (D : va_G) (cI cJ cZ cP cS : ClassId) (po : zPool)   : Met l yX1_ownBody wsX1_ownBody ({ frames := 0, cells := 0, slots := 0, locals := 0 }) (va_Pc [.int 6, .int 0] (zR D (zKT cI cJ cZ cP cS) po [])) (vp_Si (fun r => r = 70)) 0 0 (fun _ => False) := by
  refine Met.ofW (cc := cX1_ownBody) (maxL := 2) (ret := (some .int)) (by decide) rfl ?_
  intro p e s m args below meth c s₁ B hml hv
  obtain ⟨rfl, hP, hK, hN, hZ⟩ := hv
  have hx := B.exec
  have hb := B.bytes
  have hr := B.returns
  have hts := atoms_spec (ws := wsX1_ownBody) B.pre
  have hown : s.vm.findClass RX1 = some m.cls := findClass_of_methodNamed B.named
  have hlocks := B.notSynchronized
  have hl := lv_entry ([.int 6, .int 0]) (n := 2) (Nat.le_of_ble_eq_true rfl)
  rw [lg_entry_eq]
  generalize (lg_sl ([.int 6, .int 0]) ++ List.replicate (2 - (lg_sl ([.int 6, .int 0])).length) Slot.unset).toArray = ls at hl ⊢
  replace hl : lv_has ls 2 [(0, .int 6), (1, .int 0)] := hl
  refine lv_iload_n hx hb dX1_ownBody_0 rfl (lv_at hl 0 rfl) ?_
  refine lv_tableOut (tgt := 113) hx hb dX1_ownBody_1 (by decide) (by decide) ?_
  refine lv_iload_n hx hb dX1_ownBody_113 rfl (lv_at hl 1 rfl) ?_
  refine lv_if_ne (tgt := 122) hx hb dX1_ownBody_114 (by decide) (fun c_1 => ?_) (fun c_1 => ?_)
  · exact absurd c_1 (by decide)
  · refine lv_bipush (v := 70) hx hb dX1_ownBody_117 (by decide) ?_
    refine lv_goto (tgt := 133) hx hb dX1_ownBody_119 (by decide) ?_
    exact W.iret (v := 70) hx hb hr (fun t ht hW => ⟨70, rfl, rfl, ht⟩) (fun q hq => by cases hq) dX1_ownBody_133
set_option maxHeartbeats 4000000 in
set_option maxRecDepth 100000 in
theorem c_M_own_6_1 (l : Launch) (D : va_G) (cI cJ cZ cP cS : ClassId) (po : zPool)   : Met l yX1_ownBody wsX1_ownBody ({ frames := 0, cells := 0, slots := 0, locals := 0 }) (va_Pc [.int 6, .int 1] (zR D (zKT cI cJ cZ cP cS) po [])) (vp_Si (fun r => r = 71)) 0 0 (fun _ => False) := by
  refine Met.ofW (cc := cX1_ownBody) (maxL := 2) (ret := (some .int)) (by decide) rfl ?_
  intro p e s m args below meth c s₁ B hml hv
  obtain ⟨rfl, hP, hK, hN, hZ⟩ := hv
  have hx := B.exec
  have hb := B.bytes
  have hr := B.returns
  have hts := atoms_spec (ws := wsX1_ownBody) B.pre
  have hown : s.vm.findClass RX1 = some m.cls := findClass_of_methodNamed B.named
  have hlocks := B.notSynchronized
  have hl := lv_entry ([.int 6, .int 1]) (n := 2) (Nat.le_of_ble_eq_true rfl)
  rw [lg_entry_eq]
  generalize (lg_sl ([.int 6, .int 1]) ++ List.replicate (2 - (lg_sl ([.int 6, .int 1])).length) Slot.unset).toArray = ls at hl ⊢
  replace hl : lv_has ls 2 [(0, .int 6), (1, .int 1)] := hl
  refine lv_iload_n hx hb dX1_ownBody_0 rfl (lv_at hl 0 rfl) ?_
  refine lv_tableOut (tgt := 113) hx hb dX1_ownBody_1 (by decide) (by decide) ?_
  refine lv_iload_n hx hb dX1_ownBody_113 rfl (lv_at hl 1 rfl) ?_
  refine lv_if_ne (tgt := 122) hx hb dX1_ownBody_114 (by decide) (fun c_1 => ?_) (fun c_1 => ?_)
  · refine lv_iload_n hx hb dX1_ownBody_122 rfl (lv_at hl 1 rfl) ?_
    refine lv_iconst (v := 1) hx hb dX1_ownBody_123 (by decide) ?_
    refine lv_icmp_ne (tgt := 132) hx hb dX1_ownBody_124 (by decide) (fun c_2 => ?_) (fun c_2 => ?_)
    · exact absurd c_2 (by decide)
    · refine lv_bipush (v := 71) hx hb dX1_ownBody_127 (by decide) ?_
      refine lv_goto (tgt := 133) hx hb dX1_ownBody_129 (by decide) ?_
      exact W.iret (v := 71) hx hb hr (fun t ht hW => ⟨71, rfl, rfl, ht⟩) (fun q hq => by cases hq) dX1_ownBody_133
  · exact absurd c_1 (by decide)
set_option maxHeartbeats 4000000 in
set_option maxRecDepth 100000 in
theorem c_M_own_6_2 (l : Launch) (D : va_G) (cI cJ cZ cP cS : ClassId) (po : zPool)   : Met l yX1_ownBody wsX1_ownBody ({ frames := 0, cells := 0, slots := 0, locals := 0 }) (va_Pc [.int 6, .int 2] (zR D (zKT cI cJ cZ cP cS) po [])) (vp_Si (fun r => r = (-1))) 0 0 (fun _ => False) := by
  refine Met.ofW (cc := cX1_ownBody) (maxL := 2) (ret := (some .int)) (by decide) rfl ?_
  intro p e s m args below meth c s₁ B hml hv
  obtain ⟨rfl, hP, hK, hN, hZ⟩ := hv
  have hx := B.exec
  have hb := B.bytes
  have hr := B.returns
  have hts := atoms_spec (ws := wsX1_ownBody) B.pre
  have hown : s.vm.findClass RX1 = some m.cls := findClass_of_methodNamed B.named
  have hlocks := B.notSynchronized
  have hl := lv_entry ([.int 6, .int 2]) (n := 2) (Nat.le_of_ble_eq_true rfl)
  rw [lg_entry_eq]
  generalize (lg_sl ([.int 6, .int 2]) ++ List.replicate (2 - (lg_sl ([.int 6, .int 2])).length) Slot.unset).toArray = ls at hl ⊢
  replace hl : lv_has ls 2 [(0, .int 6), (1, .int 2)] := hl
  refine lv_iload_n hx hb dX1_ownBody_0 rfl (lv_at hl 0 rfl) ?_
  refine lv_tableOut (tgt := 113) hx hb dX1_ownBody_1 (by decide) (by decide) ?_
  refine lv_iload_n hx hb dX1_ownBody_113 rfl (lv_at hl 1 rfl) ?_
  refine lv_if_ne (tgt := 122) hx hb dX1_ownBody_114 (by decide) (fun c_1 => ?_) (fun c_1 => ?_)
  · refine lv_iload_n hx hb dX1_ownBody_122 rfl (lv_at hl 1 rfl) ?_
    refine lv_iconst (v := 1) hx hb dX1_ownBody_123 (by decide) ?_
    refine lv_icmp_ne (tgt := 132) hx hb dX1_ownBody_124 (by decide) (fun c_2 => ?_) (fun c_2 => ?_)
    · refine lv_iconst (v := (-1)) hx hb dX1_ownBody_132 (by decide) ?_
      exact W.iret (v := (-1)) hx hb hr (fun t ht hW => ⟨(-1), rfl, rfl, ht⟩) (fun q hq => by cases hq) dX1_ownBody_133
    · exact absurd c_2 (by decide)
  · exact absurd c_1 (by decide)
set_option maxHeartbeats 4000000 in
set_option maxRecDepth 100000 in
theorem c_M_bodyFor_0_0 (l : Launch) (D : va_G) (cI cJ cZ cP cS : ClassId) (po : zPool)   : Met l yX1_bodyFor wsX1_bodyFor ({ frames := 1, cells := 0, slots := 0, locals := 22 }) (va_Pc [.int 0, .int 0] (zR D (zKT cI cJ cZ cP cS) po [])) (vp_Si (fun r => r = 10)) 0 0 (fun _ => False) := by
  refine Met.ofW (cc := cX1_bodyFor) (maxL := 5) (ret := (some .int)) (by decide) rfl ?_
  intro p e s m args below meth c s₁ B hml hv
  obtain ⟨rfl, hP, hK, hN, hZ⟩ := hv
  have hx := B.exec
  have hb := B.bytes
  have hr := B.returns
  have hts := atoms_spec (ws := wsX1_bodyFor) B.pre
  have hown : s.vm.findClass RX1 = some m.cls := findClass_of_methodNamed B.named
  have hlocks := B.notSynchronized
  have hl := lv_entry ([.int 0, .int 0]) (n := 5) (Nat.le_of_ble_eq_true rfl)
  rw [lg_entry_eq]
  generalize (lg_sl ([.int 0, .int 0]) ++ List.replicate (5 - (lg_sl ([.int 0, .int 0])).length) Slot.unset).toArray = ls at hl ⊢
  replace hl : lv_has ls 5 [(0, .int 0), (1, .int 0)] := hl
  refine lv_iload_n hx hb dX1_bodyFor_0 rfl (lv_at hl 0 rfl) ?_
  refine lv_istore_n (lv' := [(2, .int 0), (0, .int 0), (1, .int 0)]) hx hb dX1_bodyFor_1 rfl hl (by decide) rfl (fun ls hl => ?_)
  refine lv_iconst (v := 0) hx hb dX1_bodyFor_2 (by decide) ?_
  refine lv_istore_n (lv' := [(3, .int 0), (2, .int 0), (0, .int 0), (1, .int 0)]) hx hb dX1_bodyFor_3 rfl hl (by decide) rfl (fun ls hl => ?_)
  refine lv_iload_n hx hb dX1_bodyFor_4 rfl (lv_at hl 0 rfl) ?_
  refine lv_bipush (v := 7) hx hb dX1_bodyFor_5 (by decide) ?_
  refine lv_icmp_ge (tgt := 48) hx hb dX1_bodyFor_7 (by decide) (fun c_1 => ?_) (fun c_1 => ?_)
  · exact absurd c_1 (by decide)
  · refine lv_iload_n hx hb dX1_bodyFor_10 rfl (lv_at hl 1 rfl) ?_
    refine lv_iconst (v := 0) hx hb dX1_bodyFor_11 (by decide) ?_
    refine lv_bipush (v := 6) hx hb dX1_bodyFor_12 (by decide) ?_
    have kc0 : (0 : Int32).toInt = 0 := by decide
    have kc6 : (6 : Int32).toInt = 6 := by decide
    refine zc_SN (As := [.int 0, .int 0, .int 6]) (rest := []) ⟨hx, hb, hml, hown, hts⟩ (c_within l D cI cJ cZ cP cS po (0) (0) (6) ) ⟨(va_cnB 3 hts gX1_bodyFor_X7_within_n44 rfl rfl rfl (hN.1 (RX1, 44, yX7_within) (List.mem_of_getElem? (i := 13) rfl)) (hts _ (List.mem_of_getElem? (i := 2) rfl)) dh_X7_within ⟨Nat.le_of_ble_eq_true rfl, Nat.le_of_ble_eq_true rfl⟩), (hts _ (List.mem_of_getElem? (i := 1) rfl)), trivial⟩ hK hN hZ rfl hl.1 rfl (Nat.le_of_ble_eq_true rfl) dX1_bodyFor_14 ⟨Nat.le_of_ble_eq_true rfl, Nat.le_of_ble_eq_true rfl⟩ (fun r_2 hr_2 => ?_)
    rcases hr_2 with ⟨rfl, g_3⟩ | ⟨rfl, g_4, g_5⟩ | ⟨rfl, g_6, g_7⟩
    · exfalso; omega
    · exfalso; omega
    · refine lv_if_eq (tgt := 48) hx hb dX1_bodyFor_17 (by decide) (fun c_8 => ?_) (fun c_8 => ?_)
      · exact absurd c_8 (by decide)
      · refine lv_iload_n hx hb dX1_bodyFor_20 rfl (lv_at hl 1 rfl) ?_
        refine lv_iload_n hx hb dX1_bodyFor_21 rfl (lv_at hl 3 rfl) ?_
        refine zc_S (As := [.int 0, .int 0]) (rest := []) ⟨hx, hb, hml, hown, hts⟩ (c_M_own_0_0 l D cI cJ cZ cP cS po  ) (va_cwS 2 hts gX1_bodyFor_X1_ownBody rfl rfl rfl dh_X1_ownBody ⟨Nat.le_of_ble_eq_true rfl, Nat.le_of_ble_eq_true rfl⟩) hK hN hZ rfl hl.1 rfl (Nat.le_of_ble_eq_true rfl) dX1_bodyFor_22 ⟨Nat.le_of_ble_eq_true rfl, Nat.le_of_ble_eq_true rfl⟩ (fun r_9 hr_9 => ?_)
        obtain rfl := hr_9
        refine lv_istore (lv' := [(4, .int 10), (3, .int 0), (2, .int 0), (0, .int 0), (1, .int 0)]) hx hb dX1_bodyFor_25 hl (by decide) rfl (fun ls hl => ?_)
        refine lv_iload hx hb dX1_bodyFor_27 (lv_at hl 0 rfl) ?_
        refine lv_iconst (v := (-1)) hx hb dX1_bodyFor_29 (by decide) ?_
        refine lv_icmp_eq (tgt := 36) hx hb dX1_bodyFor_30 (by decide) (fun c_10 => ?_) (fun c_10 => ?_)
        · exact absurd c_10 (by decide)
        · refine lv_iload hx hb dX1_bodyFor_33 (lv_at hl 0 rfl) ?_
          exact W.iret (v := 10) hx hb hr (fun t ht hW => ⟨10, rfl, rfl, ht⟩) (fun q hq => by cases hq) dX1_bodyFor_35
set_option maxHeartbeats 4000000 in
set_option maxRecDepth 100000 in
theorem c_M_bodyFor_0_1 (l : Launch) (D : va_G) (cI cJ cZ cP cS : ClassId) (po : zPool)   : Met l yX1_bodyFor wsX1_bodyFor ({ frames := 1, cells := 0, slots := 0, locals := 22 }) (va_Pc [.int 0, .int 1] (zR D (zKT cI cJ cZ cP cS) po [])) (vp_Si (fun r => r = 11)) 0 0 (fun _ => False) := by
  refine Met.ofW (cc := cX1_bodyFor) (maxL := 5) (ret := (some .int)) (by decide) rfl ?_
  intro p e s m args below meth c s₁ B hml hv
  obtain ⟨rfl, hP, hK, hN, hZ⟩ := hv
  have hx := B.exec
  have hb := B.bytes
  have hr := B.returns
  have hts := atoms_spec (ws := wsX1_bodyFor) B.pre
  have hown : s.vm.findClass RX1 = some m.cls := findClass_of_methodNamed B.named
  have hlocks := B.notSynchronized
  have hl := lv_entry ([.int 0, .int 1]) (n := 5) (Nat.le_of_ble_eq_true rfl)
  rw [lg_entry_eq]
  generalize (lg_sl ([.int 0, .int 1]) ++ List.replicate (5 - (lg_sl ([.int 0, .int 1])).length) Slot.unset).toArray = ls at hl ⊢
  replace hl : lv_has ls 5 [(0, .int 0), (1, .int 1)] := hl
  refine lv_iload_n hx hb dX1_bodyFor_0 rfl (lv_at hl 0 rfl) ?_
  refine lv_istore_n (lv' := [(2, .int 0), (0, .int 0), (1, .int 1)]) hx hb dX1_bodyFor_1 rfl hl (by decide) rfl (fun ls hl => ?_)
  refine lv_iconst (v := 0) hx hb dX1_bodyFor_2 (by decide) ?_
  refine lv_istore_n (lv' := [(3, .int 0), (2, .int 0), (0, .int 0), (1, .int 1)]) hx hb dX1_bodyFor_3 rfl hl (by decide) rfl (fun ls hl => ?_)
  refine lv_iload_n hx hb dX1_bodyFor_4 rfl (lv_at hl 0 rfl) ?_
  refine lv_bipush (v := 7) hx hb dX1_bodyFor_5 (by decide) ?_
  refine lv_icmp_ge (tgt := 48) hx hb dX1_bodyFor_7 (by decide) (fun c_1 => ?_) (fun c_1 => ?_)
  · exact absurd c_1 (by decide)
  · refine lv_iload_n hx hb dX1_bodyFor_10 rfl (lv_at hl 1 rfl) ?_
    refine lv_iconst (v := 0) hx hb dX1_bodyFor_11 (by decide) ?_
    refine lv_bipush (v := 6) hx hb dX1_bodyFor_12 (by decide) ?_
    have kc0 : (0 : Int32).toInt = 0 := by decide
    have kc6 : (6 : Int32).toInt = 6 := by decide
    refine zc_SN (As := [.int 0, .int 0, .int 6]) (rest := []) ⟨hx, hb, hml, hown, hts⟩ (c_within l D cI cJ cZ cP cS po (0) (0) (6) ) ⟨(va_cnB 3 hts gX1_bodyFor_X7_within_n44 rfl rfl rfl (hN.1 (RX1, 44, yX7_within) (List.mem_of_getElem? (i := 13) rfl)) (hts _ (List.mem_of_getElem? (i := 2) rfl)) dh_X7_within ⟨Nat.le_of_ble_eq_true rfl, Nat.le_of_ble_eq_true rfl⟩), (hts _ (List.mem_of_getElem? (i := 1) rfl)), trivial⟩ hK hN hZ rfl hl.1 rfl (Nat.le_of_ble_eq_true rfl) dX1_bodyFor_14 ⟨Nat.le_of_ble_eq_true rfl, Nat.le_of_ble_eq_true rfl⟩ (fun r_2 hr_2 => ?_)
    rcases hr_2 with ⟨rfl, g_3⟩ | ⟨rfl, g_4, g_5⟩ | ⟨rfl, g_6, g_7⟩
    · exfalso; omega
    · exfalso; omega
    · refine lv_if_eq (tgt := 48) hx hb dX1_bodyFor_17 (by decide) (fun c_8 => ?_) (fun c_8 => ?_)
      · exact absurd c_8 (by decide)
      · refine lv_iload_n hx hb dX1_bodyFor_20 rfl (lv_at hl 1 rfl) ?_
        refine lv_iload_n hx hb dX1_bodyFor_21 rfl (lv_at hl 3 rfl) ?_
        refine zc_S (As := [.int 0, .int 1]) (rest := []) ⟨hx, hb, hml, hown, hts⟩ (c_M_own_0_1 l D cI cJ cZ cP cS po  ) (va_cwS 2 hts gX1_bodyFor_X1_ownBody rfl rfl rfl dh_X1_ownBody ⟨Nat.le_of_ble_eq_true rfl, Nat.le_of_ble_eq_true rfl⟩) hK hN hZ rfl hl.1 rfl (Nat.le_of_ble_eq_true rfl) dX1_bodyFor_22 ⟨Nat.le_of_ble_eq_true rfl, Nat.le_of_ble_eq_true rfl⟩ (fun r_9 hr_9 => ?_)
        obtain rfl := hr_9
        refine lv_istore (lv' := [(4, .int 11), (3, .int 0), (2, .int 0), (0, .int 0), (1, .int 1)]) hx hb dX1_bodyFor_25 hl (by decide) rfl (fun ls hl => ?_)
        refine lv_iload hx hb dX1_bodyFor_27 (lv_at hl 0 rfl) ?_
        refine lv_iconst (v := (-1)) hx hb dX1_bodyFor_29 (by decide) ?_
        refine lv_icmp_eq (tgt := 36) hx hb dX1_bodyFor_30 (by decide) (fun c_10 => ?_) (fun c_10 => ?_)
        · exact absurd c_10 (by decide)
        · refine lv_iload hx hb dX1_bodyFor_33 (lv_at hl 0 rfl) ?_
          exact W.iret (v := 11) hx hb hr (fun t ht hW => ⟨11, rfl, rfl, ht⟩) (fun q hq => by cases hq) dX1_bodyFor_35
set_option maxHeartbeats 4000000 in
set_option maxRecDepth 100000 in
theorem c_M_bodyFor_0_2 (l : Launch) (D : va_G) (cI cJ cZ cP cS : ClassId) (po : zPool)   : Met l yX1_bodyFor wsX1_bodyFor ({ frames := 1, cells := 0, slots := 0, locals := 22 }) (va_Pc [.int 0, .int 2] (zR D (zKT cI cJ cZ cP cS) po [])) (vp_Si (fun r => r = 12)) 0 0 (fun _ => False) := by
  refine Met.ofW (cc := cX1_bodyFor) (maxL := 5) (ret := (some .int)) (by decide) rfl ?_
  intro p e s m args below meth c s₁ B hml hv
  obtain ⟨rfl, hP, hK, hN, hZ⟩ := hv
  have hx := B.exec
  have hb := B.bytes
  have hr := B.returns
  have hts := atoms_spec (ws := wsX1_bodyFor) B.pre
  have hown : s.vm.findClass RX1 = some m.cls := findClass_of_methodNamed B.named
  have hlocks := B.notSynchronized
  have hl := lv_entry ([.int 0, .int 2]) (n := 5) (Nat.le_of_ble_eq_true rfl)
  rw [lg_entry_eq]
  generalize (lg_sl ([.int 0, .int 2]) ++ List.replicate (5 - (lg_sl ([.int 0, .int 2])).length) Slot.unset).toArray = ls at hl ⊢
  replace hl : lv_has ls 5 [(0, .int 0), (1, .int 2)] := hl
  refine lv_iload_n hx hb dX1_bodyFor_0 rfl (lv_at hl 0 rfl) ?_
  refine lv_istore_n (lv' := [(2, .int 0), (0, .int 0), (1, .int 2)]) hx hb dX1_bodyFor_1 rfl hl (by decide) rfl (fun ls hl => ?_)
  refine lv_iconst (v := 0) hx hb dX1_bodyFor_2 (by decide) ?_
  refine lv_istore_n (lv' := [(3, .int 0), (2, .int 0), (0, .int 0), (1, .int 2)]) hx hb dX1_bodyFor_3 rfl hl (by decide) rfl (fun ls hl => ?_)
  refine lv_iload_n hx hb dX1_bodyFor_4 rfl (lv_at hl 0 rfl) ?_
  refine lv_bipush (v := 7) hx hb dX1_bodyFor_5 (by decide) ?_
  refine lv_icmp_ge (tgt := 48) hx hb dX1_bodyFor_7 (by decide) (fun c_1 => ?_) (fun c_1 => ?_)
  · exact absurd c_1 (by decide)
  · refine lv_iload_n hx hb dX1_bodyFor_10 rfl (lv_at hl 1 rfl) ?_
    refine lv_iconst (v := 0) hx hb dX1_bodyFor_11 (by decide) ?_
    refine lv_bipush (v := 6) hx hb dX1_bodyFor_12 (by decide) ?_
    have kc0 : (0 : Int32).toInt = 0 := by decide
    have kc6 : (6 : Int32).toInt = 6 := by decide
    refine zc_SN (As := [.int 0, .int 0, .int 6]) (rest := []) ⟨hx, hb, hml, hown, hts⟩ (c_within l D cI cJ cZ cP cS po (0) (0) (6) ) ⟨(va_cnB 3 hts gX1_bodyFor_X7_within_n44 rfl rfl rfl (hN.1 (RX1, 44, yX7_within) (List.mem_of_getElem? (i := 13) rfl)) (hts _ (List.mem_of_getElem? (i := 2) rfl)) dh_X7_within ⟨Nat.le_of_ble_eq_true rfl, Nat.le_of_ble_eq_true rfl⟩), (hts _ (List.mem_of_getElem? (i := 1) rfl)), trivial⟩ hK hN hZ rfl hl.1 rfl (Nat.le_of_ble_eq_true rfl) dX1_bodyFor_14 ⟨Nat.le_of_ble_eq_true rfl, Nat.le_of_ble_eq_true rfl⟩ (fun r_2 hr_2 => ?_)
    rcases hr_2 with ⟨rfl, g_3⟩ | ⟨rfl, g_4, g_5⟩ | ⟨rfl, g_6, g_7⟩
    · exfalso; omega
    · exfalso; omega
    · refine lv_if_eq (tgt := 48) hx hb dX1_bodyFor_17 (by decide) (fun c_8 => ?_) (fun c_8 => ?_)
      · exact absurd c_8 (by decide)
      · refine lv_iload_n hx hb dX1_bodyFor_20 rfl (lv_at hl 1 rfl) ?_
        refine lv_iload_n hx hb dX1_bodyFor_21 rfl (lv_at hl 3 rfl) ?_
        refine zc_S (As := [.int 0, .int 2]) (rest := []) ⟨hx, hb, hml, hown, hts⟩ (c_M_own_0_2 l D cI cJ cZ cP cS po  ) (va_cwS 2 hts gX1_bodyFor_X1_ownBody rfl rfl rfl dh_X1_ownBody ⟨Nat.le_of_ble_eq_true rfl, Nat.le_of_ble_eq_true rfl⟩) hK hN hZ rfl hl.1 rfl (Nat.le_of_ble_eq_true rfl) dX1_bodyFor_22 ⟨Nat.le_of_ble_eq_true rfl, Nat.le_of_ble_eq_true rfl⟩ (fun r_9 hr_9 => ?_)
        obtain rfl := hr_9
        refine lv_istore (lv' := [(4, .int 12), (3, .int 0), (2, .int 0), (0, .int 0), (1, .int 2)]) hx hb dX1_bodyFor_25 hl (by decide) rfl (fun ls hl => ?_)
        refine lv_iload hx hb dX1_bodyFor_27 (lv_at hl 0 rfl) ?_
        refine lv_iconst (v := (-1)) hx hb dX1_bodyFor_29 (by decide) ?_
        refine lv_icmp_eq (tgt := 36) hx hb dX1_bodyFor_30 (by decide) (fun c_10 => ?_) (fun c_10 => ?_)
        · exact absurd c_10 (by decide)
        · refine lv_iload hx hb dX1_bodyFor_33 (lv_at hl 0 rfl) ?_
          exact W.iret (v := 12) hx hb hr (fun t ht hW => ⟨12, rfl, rfl, ht⟩) (fun q hq => by cases hq) dX1_bodyFor_35
set_option maxHeartbeats 4000000 in
set_option maxRecDepth 100000 in
theorem c_M_bodyFor_1_0 (l : Launch) (D : va_G) (cI cJ cZ cP cS : ClassId) (po : zPool)   : Met l yX1_bodyFor wsX1_bodyFor ({ frames := 1, cells := 0, slots := 0, locals := 22 }) (va_Pc [.int 1, .int 0] (zR D (zKT cI cJ cZ cP cS) po [])) (vp_Si (fun r => r = 20)) 0 0 (fun _ => False) := by
  refine Met.ofW (cc := cX1_bodyFor) (maxL := 5) (ret := (some .int)) (by decide) rfl ?_
  intro p e s m args below meth c s₁ B hml hv
  obtain ⟨rfl, hP, hK, hN, hZ⟩ := hv
  have hx := B.exec
  have hb := B.bytes
  have hr := B.returns
  have hts := atoms_spec (ws := wsX1_bodyFor) B.pre
  have hown : s.vm.findClass RX1 = some m.cls := findClass_of_methodNamed B.named
  have hlocks := B.notSynchronized
  have hl := lv_entry ([.int 1, .int 0]) (n := 5) (Nat.le_of_ble_eq_true rfl)
  rw [lg_entry_eq]
  generalize (lg_sl ([.int 1, .int 0]) ++ List.replicate (5 - (lg_sl ([.int 1, .int 0])).length) Slot.unset).toArray = ls at hl ⊢
  replace hl : lv_has ls 5 [(0, .int 1), (1, .int 0)] := hl
  refine lv_iload_n hx hb dX1_bodyFor_0 rfl (lv_at hl 0 rfl) ?_
  refine lv_istore_n (lv' := [(2, .int 1), (0, .int 1), (1, .int 0)]) hx hb dX1_bodyFor_1 rfl hl (by decide) rfl (fun ls hl => ?_)
  refine lv_iconst (v := 0) hx hb dX1_bodyFor_2 (by decide) ?_
  refine lv_istore_n (lv' := [(3, .int 0), (2, .int 1), (0, .int 1), (1, .int 0)]) hx hb dX1_bodyFor_3 rfl hl (by decide) rfl (fun ls hl => ?_)
  refine lv_iload_n hx hb dX1_bodyFor_4 rfl (lv_at hl 0 rfl) ?_
  refine lv_bipush (v := 7) hx hb dX1_bodyFor_5 (by decide) ?_
  refine lv_icmp_ge (tgt := 48) hx hb dX1_bodyFor_7 (by decide) (fun c_1 => ?_) (fun c_1 => ?_)
  · exact absurd c_1 (by decide)
  · refine lv_iload_n hx hb dX1_bodyFor_10 rfl (lv_at hl 1 rfl) ?_
    refine lv_iconst (v := 0) hx hb dX1_bodyFor_11 (by decide) ?_
    refine lv_bipush (v := 6) hx hb dX1_bodyFor_12 (by decide) ?_
    have kc1 : (1 : Int32).toInt = 1 := by decide
    have kc0 : (0 : Int32).toInt = 0 := by decide
    have kc6 : (6 : Int32).toInt = 6 := by decide
    refine zc_SN (As := [.int 1, .int 0, .int 6]) (rest := []) ⟨hx, hb, hml, hown, hts⟩ (c_within l D cI cJ cZ cP cS po (1) (0) (6) ) ⟨(va_cnB 3 hts gX1_bodyFor_X7_within_n44 rfl rfl rfl (hN.1 (RX1, 44, yX7_within) (List.mem_of_getElem? (i := 13) rfl)) (hts _ (List.mem_of_getElem? (i := 2) rfl)) dh_X7_within ⟨Nat.le_of_ble_eq_true rfl, Nat.le_of_ble_eq_true rfl⟩), (hts _ (List.mem_of_getElem? (i := 1) rfl)), trivial⟩ hK hN hZ rfl hl.1 rfl (Nat.le_of_ble_eq_true rfl) dX1_bodyFor_14 ⟨Nat.le_of_ble_eq_true rfl, Nat.le_of_ble_eq_true rfl⟩ (fun r_2 hr_2 => ?_)
    rcases hr_2 with ⟨rfl, g_3⟩ | ⟨rfl, g_4, g_5⟩ | ⟨rfl, g_6, g_7⟩
    · exfalso; omega
    · exfalso; omega
    · refine lv_if_eq (tgt := 48) hx hb dX1_bodyFor_17 (by decide) (fun c_8 => ?_) (fun c_8 => ?_)
      · exact absurd c_8 (by decide)
      · refine lv_iload_n hx hb dX1_bodyFor_20 rfl (lv_at hl 1 rfl) ?_
        refine lv_iload_n hx hb dX1_bodyFor_21 rfl (lv_at hl 3 rfl) ?_
        refine zc_S (As := [.int 1, .int 0]) (rest := []) ⟨hx, hb, hml, hown, hts⟩ (c_M_own_1_0 l D cI cJ cZ cP cS po  ) (va_cwS 2 hts gX1_bodyFor_X1_ownBody rfl rfl rfl dh_X1_ownBody ⟨Nat.le_of_ble_eq_true rfl, Nat.le_of_ble_eq_true rfl⟩) hK hN hZ rfl hl.1 rfl (Nat.le_of_ble_eq_true rfl) dX1_bodyFor_22 ⟨Nat.le_of_ble_eq_true rfl, Nat.le_of_ble_eq_true rfl⟩ (fun r_9 hr_9 => ?_)
        obtain rfl := hr_9
        refine lv_istore (lv' := [(4, .int 20), (3, .int 0), (2, .int 1), (0, .int 1), (1, .int 0)]) hx hb dX1_bodyFor_25 hl (by decide) rfl (fun ls hl => ?_)
        refine lv_iload hx hb dX1_bodyFor_27 (lv_at hl 0 rfl) ?_
        refine lv_iconst (v := (-1)) hx hb dX1_bodyFor_29 (by decide) ?_
        refine lv_icmp_eq (tgt := 36) hx hb dX1_bodyFor_30 (by decide) (fun c_10 => ?_) (fun c_10 => ?_)
        · exact absurd c_10 (by decide)
        · refine lv_iload hx hb dX1_bodyFor_33 (lv_at hl 0 rfl) ?_
          exact W.iret (v := 20) hx hb hr (fun t ht hW => ⟨20, rfl, rfl, ht⟩) (fun q hq => by cases hq) dX1_bodyFor_35
set_option maxHeartbeats 4000000 in
set_option maxRecDepth 100000 in
theorem c_M_bodyFor_1_1 (l : Launch) (D : va_G) (cI cJ cZ cP cS : ClassId) (po : zPool)   : Met l yX1_bodyFor wsX1_bodyFor ({ frames := 1, cells := 0, slots := 0, locals := 22 }) (va_Pc [.int 1, .int 1] (zR D (zKT cI cJ cZ cP cS) po [])) (vp_Si (fun r => r = 11)) 0 0 (fun _ => False) := by
  refine Met.ofW (cc := cX1_bodyFor) (maxL := 5) (ret := (some .int)) (by decide) rfl ?_
  intro p e s m args below meth c s₁ B hml hv
  obtain ⟨rfl, hP, hK, hN, hZ⟩ := hv
  have hx := B.exec
  have hb := B.bytes
  have hr := B.returns
  have hts := atoms_spec (ws := wsX1_bodyFor) B.pre
  have hown : s.vm.findClass RX1 = some m.cls := findClass_of_methodNamed B.named
  have hlocks := B.notSynchronized
  have hl := lv_entry ([.int 1, .int 1]) (n := 5) (Nat.le_of_ble_eq_true rfl)
  rw [lg_entry_eq]
  generalize (lg_sl ([.int 1, .int 1]) ++ List.replicate (5 - (lg_sl ([.int 1, .int 1])).length) Slot.unset).toArray = ls at hl ⊢
  replace hl : lv_has ls 5 [(0, .int 1), (1, .int 1)] := hl
  refine lv_iload_n hx hb dX1_bodyFor_0 rfl (lv_at hl 0 rfl) ?_
  refine lv_istore_n (lv' := [(2, .int 1), (0, .int 1), (1, .int 1)]) hx hb dX1_bodyFor_1 rfl hl (by decide) rfl (fun ls hl => ?_)
  refine lv_iconst (v := 0) hx hb dX1_bodyFor_2 (by decide) ?_
  refine lv_istore_n (lv' := [(3, .int 0), (2, .int 1), (0, .int 1), (1, .int 1)]) hx hb dX1_bodyFor_3 rfl hl (by decide) rfl (fun ls hl => ?_)
  refine lv_iload_n hx hb dX1_bodyFor_4 rfl (lv_at hl 0 rfl) ?_
  refine lv_bipush (v := 7) hx hb dX1_bodyFor_5 (by decide) ?_
  refine lv_icmp_ge (tgt := 48) hx hb dX1_bodyFor_7 (by decide) (fun c_1 => ?_) (fun c_1 => ?_)
  · exact absurd c_1 (by decide)
  · refine lv_iload_n hx hb dX1_bodyFor_10 rfl (lv_at hl 1 rfl) ?_
    refine lv_iconst (v := 0) hx hb dX1_bodyFor_11 (by decide) ?_
    refine lv_bipush (v := 6) hx hb dX1_bodyFor_12 (by decide) ?_
    have kc1 : (1 : Int32).toInt = 1 := by decide
    have kc0 : (0 : Int32).toInt = 0 := by decide
    have kc6 : (6 : Int32).toInt = 6 := by decide
    refine zc_SN (As := [.int 1, .int 0, .int 6]) (rest := []) ⟨hx, hb, hml, hown, hts⟩ (c_within l D cI cJ cZ cP cS po (1) (0) (6) ) ⟨(va_cnB 3 hts gX1_bodyFor_X7_within_n44 rfl rfl rfl (hN.1 (RX1, 44, yX7_within) (List.mem_of_getElem? (i := 13) rfl)) (hts _ (List.mem_of_getElem? (i := 2) rfl)) dh_X7_within ⟨Nat.le_of_ble_eq_true rfl, Nat.le_of_ble_eq_true rfl⟩), (hts _ (List.mem_of_getElem? (i := 1) rfl)), trivial⟩ hK hN hZ rfl hl.1 rfl (Nat.le_of_ble_eq_true rfl) dX1_bodyFor_14 ⟨Nat.le_of_ble_eq_true rfl, Nat.le_of_ble_eq_true rfl⟩ (fun r_2 hr_2 => ?_)
    rcases hr_2 with ⟨rfl, g_3⟩ | ⟨rfl, g_4, g_5⟩ | ⟨rfl, g_6, g_7⟩
    · exfalso; omega
    · exfalso; omega
    · refine lv_if_eq (tgt := 48) hx hb dX1_bodyFor_17 (by decide) (fun c_8 => ?_) (fun c_8 => ?_)
      · exact absurd c_8 (by decide)
      · refine lv_iload_n hx hb dX1_bodyFor_20 rfl (lv_at hl 1 rfl) ?_
        refine lv_iload_n hx hb dX1_bodyFor_21 rfl (lv_at hl 3 rfl) ?_
        refine zc_S (As := [.int 1, .int 1]) (rest := []) ⟨hx, hb, hml, hown, hts⟩ (c_M_own_1_1 l D cI cJ cZ cP cS po  ) (va_cwS 2 hts gX1_bodyFor_X1_ownBody rfl rfl rfl dh_X1_ownBody ⟨Nat.le_of_ble_eq_true rfl, Nat.le_of_ble_eq_true rfl⟩) hK hN hZ rfl hl.1 rfl (Nat.le_of_ble_eq_true rfl) dX1_bodyFor_22 ⟨Nat.le_of_ble_eq_true rfl, Nat.le_of_ble_eq_true rfl⟩ (fun r_9 hr_9 => ?_)
        obtain rfl := hr_9
        refine lv_istore (lv' := [(4, .int (-1)), (3, .int 0), (2, .int 1), (0, .int 1), (1, .int 1)]) hx hb dX1_bodyFor_25 hl (by decide) rfl (fun ls hl => ?_)
        refine lv_iload hx hb dX1_bodyFor_27 (lv_at hl 0 rfl) ?_
        refine lv_iconst (v := (-1)) hx hb dX1_bodyFor_29 (by decide) ?_
        refine lv_icmp_eq (tgt := 36) hx hb dX1_bodyFor_30 (by decide) (fun c_10 => ?_) (fun c_10 => ?_)
        · obtain ⟨t_11, zt_11, yt_11⟩ := hZ.1.2
          refine va_getsN hx hb zt_11 va_S.rf hown (va_Nw.use rfl (hN.2.1 (RX1, 58) (List.mem_of_getElem? (i := 1) rfl))) (fun _ h9 => h9) dX1_bodyFor_36 ?_
          refine lv_iload_n hx hb dX1_bodyFor_39 rfl (lv_at hl 2 rfl) ?_
          refine va_ti hx hb yt_11 va_S.rf (zf_in (by decide) (by decide)) (v := .int 0) (by decide) dX1_bodyFor_40 ?_
          refine lv_istore_n (lv' := [(2, .int 0), (4, .int (-1)), (3, .int 0), (0, .int 1), (1, .int 1)]) hx hb dX1_bodyFor_41 rfl hl (by decide) rfl (fun ls hl => ?_)
          refine lv_iinc (v := 1) (lv' := [(3, .int 1), (2, .int 0), (4, .int (-1)), (0, .int 1), (1, .int 1)]) hx hb dX1_bodyFor_42 hl (k := 2) rfl (by decide) (by decide) rfl (fun ls hl => ?_)
          refine lv_goto (tgt := 4) hx hb dX1_bodyFor_45 (by decide) ?_
          refine lv_iload_n hx hb dX1_bodyFor_4 rfl (lv_at hl 0 rfl) ?_
          refine lv_bipush (v := 7) hx hb dX1_bodyFor_5 (by decide) ?_
          refine lv_icmp_ge (tgt := 48) hx hb dX1_bodyFor_7 (by decide) (fun c_12 => ?_) (fun c_12 => ?_)
          · exact absurd c_12 (by decide)
          · refine lv_iload_n hx hb dX1_bodyFor_10 rfl (lv_at hl 1 rfl) ?_
            refine lv_iconst (v := 0) hx hb dX1_bodyFor_11 (by decide) ?_
            refine lv_bipush (v := 6) hx hb dX1_bodyFor_12 (by decide) ?_
            refine zc_SN (As := [.int 0, .int 0, .int 6]) (rest := []) ⟨hx, hb, hml, hown, hts⟩ (c_within l D cI cJ cZ cP cS po (0) (0) (6) ) ⟨(va_cnB 3 hts gX1_bodyFor_X7_within_n44 rfl rfl rfl (hN.1 (RX1, 44, yX7_within) (List.mem_of_getElem? (i := 13) rfl)) (hts _ (List.mem_of_getElem? (i := 2) rfl)) dh_X7_within ⟨Nat.le_of_ble_eq_true rfl, Nat.le_of_ble_eq_true rfl⟩), (hts _ (List.mem_of_getElem? (i := 1) rfl)), trivial⟩ hK hN hZ rfl hl.1 rfl (Nat.le_of_ble_eq_true rfl) dX1_bodyFor_14 ⟨Nat.le_of_ble_eq_true rfl, Nat.le_of_ble_eq_true rfl⟩ (fun r_13 hr_13 => ?_)
            rcases hr_13 with ⟨rfl, g_14⟩ | ⟨rfl, g_15, g_16⟩ | ⟨rfl, g_17, g_18⟩
            · exfalso; omega
            · exfalso; omega
            · refine lv_if_eq (tgt := 48) hx hb dX1_bodyFor_17 (by decide) (fun c_19 => ?_) (fun c_19 => ?_)
              · exact absurd c_19 (by decide)
              · refine lv_iload_n hx hb dX1_bodyFor_20 rfl (lv_at hl 1 rfl) ?_
                refine lv_iload_n hx hb dX1_bodyFor_21 rfl (lv_at hl 4 rfl) ?_
                refine zc_S (As := [.int 0, .int 1]) (rest := []) ⟨hx, hb, hml, hown, hts⟩ (c_M_own_0_1 l D cI cJ cZ cP cS po  ) (va_cwS 2 hts gX1_bodyFor_X1_ownBody rfl rfl rfl dh_X1_ownBody ⟨Nat.le_of_ble_eq_true rfl, Nat.le_of_ble_eq_true rfl⟩) hK hN hZ rfl hl.1 rfl (Nat.le_of_ble_eq_true rfl) dX1_bodyFor_22 ⟨Nat.le_of_ble_eq_true rfl, Nat.le_of_ble_eq_true rfl⟩ (fun r_20 hr_20 => ?_)
                obtain rfl := hr_20
                refine lv_istore (lv' := [(4, .int 11), (3, .int 1), (2, .int 0), (0, .int 1), (1, .int 1)]) hx hb dX1_bodyFor_25 hl (by decide) rfl (fun ls hl => ?_)
                refine lv_iload hx hb dX1_bodyFor_27 (lv_at hl 0 rfl) ?_
                refine lv_iconst (v := (-1)) hx hb dX1_bodyFor_29 (by decide) ?_
                refine lv_icmp_eq (tgt := 36) hx hb dX1_bodyFor_30 (by decide) (fun c_21 => ?_) (fun c_21 => ?_)
                · exact absurd c_21 (by decide)
                · refine lv_iload hx hb dX1_bodyFor_33 (lv_at hl 0 rfl) ?_
                  exact W.iret (v := 11) hx hb hr (fun t ht hW => ⟨11, rfl, rfl, ht⟩) (fun q hq => by cases hq) dX1_bodyFor_35
        · exact absurd c_10 (by decide)
set_option maxHeartbeats 4000000 in
set_option maxRecDepth 100000 in
theorem c_M_bodyFor_1_2 (l : Launch) (D : va_G) (cI cJ cZ cP cS : ClassId) (po : zPool)   : Met l yX1_bodyFor wsX1_bodyFor ({ frames := 1, cells := 0, slots := 0, locals := 22 }) (va_Pc [.int 1, .int 2] (zR D (zKT cI cJ cZ cP cS) po [])) (vp_Si (fun r => r = 12)) 0 0 (fun _ => False) := by
  refine Met.ofW (cc := cX1_bodyFor) (maxL := 5) (ret := (some .int)) (by decide) rfl ?_
  intro p e s m args below meth c s₁ B hml hv
  obtain ⟨rfl, hP, hK, hN, hZ⟩ := hv
  have hx := B.exec
  have hb := B.bytes
  have hr := B.returns
  have hts := atoms_spec (ws := wsX1_bodyFor) B.pre
  have hown : s.vm.findClass RX1 = some m.cls := findClass_of_methodNamed B.named
  have hlocks := B.notSynchronized
  have hl := lv_entry ([.int 1, .int 2]) (n := 5) (Nat.le_of_ble_eq_true rfl)
  rw [lg_entry_eq]
  generalize (lg_sl ([.int 1, .int 2]) ++ List.replicate (5 - (lg_sl ([.int 1, .int 2])).length) Slot.unset).toArray = ls at hl ⊢
  replace hl : lv_has ls 5 [(0, .int 1), (1, .int 2)] := hl
  refine lv_iload_n hx hb dX1_bodyFor_0 rfl (lv_at hl 0 rfl) ?_
  refine lv_istore_n (lv' := [(2, .int 1), (0, .int 1), (1, .int 2)]) hx hb dX1_bodyFor_1 rfl hl (by decide) rfl (fun ls hl => ?_)
  refine lv_iconst (v := 0) hx hb dX1_bodyFor_2 (by decide) ?_
  refine lv_istore_n (lv' := [(3, .int 0), (2, .int 1), (0, .int 1), (1, .int 2)]) hx hb dX1_bodyFor_3 rfl hl (by decide) rfl (fun ls hl => ?_)
  refine lv_iload_n hx hb dX1_bodyFor_4 rfl (lv_at hl 0 rfl) ?_
  refine lv_bipush (v := 7) hx hb dX1_bodyFor_5 (by decide) ?_
  refine lv_icmp_ge (tgt := 48) hx hb dX1_bodyFor_7 (by decide) (fun c_1 => ?_) (fun c_1 => ?_)
  · exact absurd c_1 (by decide)
  · refine lv_iload_n hx hb dX1_bodyFor_10 rfl (lv_at hl 1 rfl) ?_
    refine lv_iconst (v := 0) hx hb dX1_bodyFor_11 (by decide) ?_
    refine lv_bipush (v := 6) hx hb dX1_bodyFor_12 (by decide) ?_
    have kc1 : (1 : Int32).toInt = 1 := by decide
    have kc0 : (0 : Int32).toInt = 0 := by decide
    have kc6 : (6 : Int32).toInt = 6 := by decide
    refine zc_SN (As := [.int 1, .int 0, .int 6]) (rest := []) ⟨hx, hb, hml, hown, hts⟩ (c_within l D cI cJ cZ cP cS po (1) (0) (6) ) ⟨(va_cnB 3 hts gX1_bodyFor_X7_within_n44 rfl rfl rfl (hN.1 (RX1, 44, yX7_within) (List.mem_of_getElem? (i := 13) rfl)) (hts _ (List.mem_of_getElem? (i := 2) rfl)) dh_X7_within ⟨Nat.le_of_ble_eq_true rfl, Nat.le_of_ble_eq_true rfl⟩), (hts _ (List.mem_of_getElem? (i := 1) rfl)), trivial⟩ hK hN hZ rfl hl.1 rfl (Nat.le_of_ble_eq_true rfl) dX1_bodyFor_14 ⟨Nat.le_of_ble_eq_true rfl, Nat.le_of_ble_eq_true rfl⟩ (fun r_2 hr_2 => ?_)
    rcases hr_2 with ⟨rfl, g_3⟩ | ⟨rfl, g_4, g_5⟩ | ⟨rfl, g_6, g_7⟩
    · exfalso; omega
    · exfalso; omega
    · refine lv_if_eq (tgt := 48) hx hb dX1_bodyFor_17 (by decide) (fun c_8 => ?_) (fun c_8 => ?_)
      · exact absurd c_8 (by decide)
      · refine lv_iload_n hx hb dX1_bodyFor_20 rfl (lv_at hl 1 rfl) ?_
        refine lv_iload_n hx hb dX1_bodyFor_21 rfl (lv_at hl 3 rfl) ?_
        refine zc_S (As := [.int 1, .int 2]) (rest := []) ⟨hx, hb, hml, hown, hts⟩ (c_M_own_1_2 l D cI cJ cZ cP cS po  ) (va_cwS 2 hts gX1_bodyFor_X1_ownBody rfl rfl rfl dh_X1_ownBody ⟨Nat.le_of_ble_eq_true rfl, Nat.le_of_ble_eq_true rfl⟩) hK hN hZ rfl hl.1 rfl (Nat.le_of_ble_eq_true rfl) dX1_bodyFor_22 ⟨Nat.le_of_ble_eq_true rfl, Nat.le_of_ble_eq_true rfl⟩ (fun r_9 hr_9 => ?_)
        obtain rfl := hr_9
        refine lv_istore (lv' := [(4, .int (-1)), (3, .int 0), (2, .int 1), (0, .int 1), (1, .int 2)]) hx hb dX1_bodyFor_25 hl (by decide) rfl (fun ls hl => ?_)
        refine lv_iload hx hb dX1_bodyFor_27 (lv_at hl 0 rfl) ?_
        refine lv_iconst (v := (-1)) hx hb dX1_bodyFor_29 (by decide) ?_
        refine lv_icmp_eq (tgt := 36) hx hb dX1_bodyFor_30 (by decide) (fun c_10 => ?_) (fun c_10 => ?_)
        · obtain ⟨t_11, zt_11, yt_11⟩ := hZ.1.2
          refine va_getsN hx hb zt_11 va_S.rf hown (va_Nw.use rfl (hN.2.1 (RX1, 58) (List.mem_of_getElem? (i := 1) rfl))) (fun _ h9 => h9) dX1_bodyFor_36 ?_
          refine lv_iload_n hx hb dX1_bodyFor_39 rfl (lv_at hl 2 rfl) ?_
          refine va_ti hx hb yt_11 va_S.rf (zf_in (by decide) (by decide)) (v := .int 0) (by decide) dX1_bodyFor_40 ?_
          refine lv_istore_n (lv' := [(2, .int 0), (4, .int (-1)), (3, .int 0), (0, .int 1), (1, .int 2)]) hx hb dX1_bodyFor_41 rfl hl (by decide) rfl (fun ls hl => ?_)
          refine lv_iinc (v := 1) (lv' := [(3, .int 1), (2, .int 0), (4, .int (-1)), (0, .int 1), (1, .int 2)]) hx hb dX1_bodyFor_42 hl (k := 2) rfl (by decide) (by decide) rfl (fun ls hl => ?_)
          refine lv_goto (tgt := 4) hx hb dX1_bodyFor_45 (by decide) ?_
          refine lv_iload_n hx hb dX1_bodyFor_4 rfl (lv_at hl 0 rfl) ?_
          refine lv_bipush (v := 7) hx hb dX1_bodyFor_5 (by decide) ?_
          refine lv_icmp_ge (tgt := 48) hx hb dX1_bodyFor_7 (by decide) (fun c_12 => ?_) (fun c_12 => ?_)
          · exact absurd c_12 (by decide)
          · refine lv_iload_n hx hb dX1_bodyFor_10 rfl (lv_at hl 1 rfl) ?_
            refine lv_iconst (v := 0) hx hb dX1_bodyFor_11 (by decide) ?_
            refine lv_bipush (v := 6) hx hb dX1_bodyFor_12 (by decide) ?_
            refine zc_SN (As := [.int 0, .int 0, .int 6]) (rest := []) ⟨hx, hb, hml, hown, hts⟩ (c_within l D cI cJ cZ cP cS po (0) (0) (6) ) ⟨(va_cnB 3 hts gX1_bodyFor_X7_within_n44 rfl rfl rfl (hN.1 (RX1, 44, yX7_within) (List.mem_of_getElem? (i := 13) rfl)) (hts _ (List.mem_of_getElem? (i := 2) rfl)) dh_X7_within ⟨Nat.le_of_ble_eq_true rfl, Nat.le_of_ble_eq_true rfl⟩), (hts _ (List.mem_of_getElem? (i := 1) rfl)), trivial⟩ hK hN hZ rfl hl.1 rfl (Nat.le_of_ble_eq_true rfl) dX1_bodyFor_14 ⟨Nat.le_of_ble_eq_true rfl, Nat.le_of_ble_eq_true rfl⟩ (fun r_13 hr_13 => ?_)
            rcases hr_13 with ⟨rfl, g_14⟩ | ⟨rfl, g_15, g_16⟩ | ⟨rfl, g_17, g_18⟩
            · exfalso; omega
            · exfalso; omega
            · refine lv_if_eq (tgt := 48) hx hb dX1_bodyFor_17 (by decide) (fun c_19 => ?_) (fun c_19 => ?_)
              · exact absurd c_19 (by decide)
              · refine lv_iload_n hx hb dX1_bodyFor_20 rfl (lv_at hl 1 rfl) ?_
                refine lv_iload_n hx hb dX1_bodyFor_21 rfl (lv_at hl 4 rfl) ?_
                refine zc_S (As := [.int 0, .int 2]) (rest := []) ⟨hx, hb, hml, hown, hts⟩ (c_M_own_0_2 l D cI cJ cZ cP cS po  ) (va_cwS 2 hts gX1_bodyFor_X1_ownBody rfl rfl rfl dh_X1_ownBody ⟨Nat.le_of_ble_eq_true rfl, Nat.le_of_ble_eq_true rfl⟩) hK hN hZ rfl hl.1 rfl (Nat.le_of_ble_eq_true rfl) dX1_bodyFor_22 ⟨Nat.le_of_ble_eq_true rfl, Nat.le_of_ble_eq_true rfl⟩ (fun r_20 hr_20 => ?_)
                obtain rfl := hr_20
                refine lv_istore (lv' := [(4, .int 12), (3, .int 1), (2, .int 0), (0, .int 1), (1, .int 2)]) hx hb dX1_bodyFor_25 hl (by decide) rfl (fun ls hl => ?_)
                refine lv_iload hx hb dX1_bodyFor_27 (lv_at hl 0 rfl) ?_
                refine lv_iconst (v := (-1)) hx hb dX1_bodyFor_29 (by decide) ?_
                refine lv_icmp_eq (tgt := 36) hx hb dX1_bodyFor_30 (by decide) (fun c_21 => ?_) (fun c_21 => ?_)
                · exact absurd c_21 (by decide)
                · refine lv_iload hx hb dX1_bodyFor_33 (lv_at hl 0 rfl) ?_
                  exact W.iret (v := 12) hx hb hr (fun t ht hW => ⟨12, rfl, rfl, ht⟩) (fun q hq => by cases hq) dX1_bodyFor_35
        · exact absurd c_10 (by decide)
set_option maxHeartbeats 4000000 in
set_option maxRecDepth 100000 in
theorem c_M_bodyFor_2_0 (l : Launch) (D : va_G) (cI cJ cZ cP cS : ClassId) (po : zPool)   : Met l yX1_bodyFor wsX1_bodyFor ({ frames := 1, cells := 0, slots := 0, locals := 22 }) (va_Pc [.int 2, .int 0] (zR D (zKT cI cJ cZ cP cS) po [])) (vp_Si (fun r => r = 10)) 0 0 (fun _ => False) := by
  refine Met.ofW (cc := cX1_bodyFor) (maxL := 5) (ret := (some .int)) (by decide) rfl ?_
  intro p e s m args below meth c s₁ B hml hv
  obtain ⟨rfl, hP, hK, hN, hZ⟩ := hv
  have hx := B.exec
  have hb := B.bytes
  have hr := B.returns
  have hts := atoms_spec (ws := wsX1_bodyFor) B.pre
  have hown : s.vm.findClass RX1 = some m.cls := findClass_of_methodNamed B.named
  have hlocks := B.notSynchronized
  have hl := lv_entry ([.int 2, .int 0]) (n := 5) (Nat.le_of_ble_eq_true rfl)
  rw [lg_entry_eq]
  generalize (lg_sl ([.int 2, .int 0]) ++ List.replicate (5 - (lg_sl ([.int 2, .int 0])).length) Slot.unset).toArray = ls at hl ⊢
  replace hl : lv_has ls 5 [(0, .int 2), (1, .int 0)] := hl
  refine lv_iload_n hx hb dX1_bodyFor_0 rfl (lv_at hl 0 rfl) ?_
  refine lv_istore_n (lv' := [(2, .int 2), (0, .int 2), (1, .int 0)]) hx hb dX1_bodyFor_1 rfl hl (by decide) rfl (fun ls hl => ?_)
  refine lv_iconst (v := 0) hx hb dX1_bodyFor_2 (by decide) ?_
  refine lv_istore_n (lv' := [(3, .int 0), (2, .int 2), (0, .int 2), (1, .int 0)]) hx hb dX1_bodyFor_3 rfl hl (by decide) rfl (fun ls hl => ?_)
  refine lv_iload_n hx hb dX1_bodyFor_4 rfl (lv_at hl 0 rfl) ?_
  refine lv_bipush (v := 7) hx hb dX1_bodyFor_5 (by decide) ?_
  refine lv_icmp_ge (tgt := 48) hx hb dX1_bodyFor_7 (by decide) (fun c_1 => ?_) (fun c_1 => ?_)
  · exact absurd c_1 (by decide)
  · refine lv_iload_n hx hb dX1_bodyFor_10 rfl (lv_at hl 1 rfl) ?_
    refine lv_iconst (v := 0) hx hb dX1_bodyFor_11 (by decide) ?_
    refine lv_bipush (v := 6) hx hb dX1_bodyFor_12 (by decide) ?_
    have kc2 : (2 : Int32).toInt = 2 := by decide
    have kc0 : (0 : Int32).toInt = 0 := by decide
    have kc6 : (6 : Int32).toInt = 6 := by decide
    refine zc_SN (As := [.int 2, .int 0, .int 6]) (rest := []) ⟨hx, hb, hml, hown, hts⟩ (c_within l D cI cJ cZ cP cS po (2) (0) (6) ) ⟨(va_cnB 3 hts gX1_bodyFor_X7_within_n44 rfl rfl rfl (hN.1 (RX1, 44, yX7_within) (List.mem_of_getElem? (i := 13) rfl)) (hts _ (List.mem_of_getElem? (i := 2) rfl)) dh_X7_within ⟨Nat.le_of_ble_eq_true rfl, Nat.le_of_ble_eq_true rfl⟩), (hts _ (List.mem_of_getElem? (i := 1) rfl)), trivial⟩ hK hN hZ rfl hl.1 rfl (Nat.le_of_ble_eq_true rfl) dX1_bodyFor_14 ⟨Nat.le_of_ble_eq_true rfl, Nat.le_of_ble_eq_true rfl⟩ (fun r_2 hr_2 => ?_)
    rcases hr_2 with ⟨rfl, g_3⟩ | ⟨rfl, g_4, g_5⟩ | ⟨rfl, g_6, g_7⟩
    · exfalso; omega
    · exfalso; omega
    · refine lv_if_eq (tgt := 48) hx hb dX1_bodyFor_17 (by decide) (fun c_8 => ?_) (fun c_8 => ?_)
      · exact absurd c_8 (by decide)
      · refine lv_iload_n hx hb dX1_bodyFor_20 rfl (lv_at hl 1 rfl) ?_
        refine lv_iload_n hx hb dX1_bodyFor_21 rfl (lv_at hl 3 rfl) ?_
        refine zc_S (As := [.int 2, .int 0]) (rest := []) ⟨hx, hb, hml, hown, hts⟩ (c_M_own_2_0 l D cI cJ cZ cP cS po  ) (va_cwS 2 hts gX1_bodyFor_X1_ownBody rfl rfl rfl dh_X1_ownBody ⟨Nat.le_of_ble_eq_true rfl, Nat.le_of_ble_eq_true rfl⟩) hK hN hZ rfl hl.1 rfl (Nat.le_of_ble_eq_true rfl) dX1_bodyFor_22 ⟨Nat.le_of_ble_eq_true rfl, Nat.le_of_ble_eq_true rfl⟩ (fun r_9 hr_9 => ?_)
        obtain rfl := hr_9
        refine lv_istore (lv' := [(4, .int (-1)), (3, .int 0), (2, .int 2), (0, .int 2), (1, .int 0)]) hx hb dX1_bodyFor_25 hl (by decide) rfl (fun ls hl => ?_)
        refine lv_iload hx hb dX1_bodyFor_27 (lv_at hl 0 rfl) ?_
        refine lv_iconst (v := (-1)) hx hb dX1_bodyFor_29 (by decide) ?_
        refine lv_icmp_eq (tgt := 36) hx hb dX1_bodyFor_30 (by decide) (fun c_10 => ?_) (fun c_10 => ?_)
        · obtain ⟨t_11, zt_11, yt_11⟩ := hZ.1.2
          refine va_getsN hx hb zt_11 va_S.rf hown (va_Nw.use rfl (hN.2.1 (RX1, 58) (List.mem_of_getElem? (i := 1) rfl))) (fun _ h9 => h9) dX1_bodyFor_36 ?_
          refine lv_iload_n hx hb dX1_bodyFor_39 rfl (lv_at hl 2 rfl) ?_
          refine va_ti hx hb yt_11 va_S.rf (zf_in (by decide) (by decide)) (v := .int 0) (by decide) dX1_bodyFor_40 ?_
          refine lv_istore_n (lv' := [(2, .int 0), (4, .int (-1)), (3, .int 0), (0, .int 2), (1, .int 0)]) hx hb dX1_bodyFor_41 rfl hl (by decide) rfl (fun ls hl => ?_)
          refine lv_iinc (v := 1) (lv' := [(3, .int 1), (2, .int 0), (4, .int (-1)), (0, .int 2), (1, .int 0)]) hx hb dX1_bodyFor_42 hl (k := 2) rfl (by decide) (by decide) rfl (fun ls hl => ?_)
          refine lv_goto (tgt := 4) hx hb dX1_bodyFor_45 (by decide) ?_
          refine lv_iload_n hx hb dX1_bodyFor_4 rfl (lv_at hl 0 rfl) ?_
          refine lv_bipush (v := 7) hx hb dX1_bodyFor_5 (by decide) ?_
          refine lv_icmp_ge (tgt := 48) hx hb dX1_bodyFor_7 (by decide) (fun c_12 => ?_) (fun c_12 => ?_)
          · exact absurd c_12 (by decide)
          · refine lv_iload_n hx hb dX1_bodyFor_10 rfl (lv_at hl 1 rfl) ?_
            refine lv_iconst (v := 0) hx hb dX1_bodyFor_11 (by decide) ?_
            refine lv_bipush (v := 6) hx hb dX1_bodyFor_12 (by decide) ?_
            refine zc_SN (As := [.int 0, .int 0, .int 6]) (rest := []) ⟨hx, hb, hml, hown, hts⟩ (c_within l D cI cJ cZ cP cS po (0) (0) (6) ) ⟨(va_cnB 3 hts gX1_bodyFor_X7_within_n44 rfl rfl rfl (hN.1 (RX1, 44, yX7_within) (List.mem_of_getElem? (i := 13) rfl)) (hts _ (List.mem_of_getElem? (i := 2) rfl)) dh_X7_within ⟨Nat.le_of_ble_eq_true rfl, Nat.le_of_ble_eq_true rfl⟩), (hts _ (List.mem_of_getElem? (i := 1) rfl)), trivial⟩ hK hN hZ rfl hl.1 rfl (Nat.le_of_ble_eq_true rfl) dX1_bodyFor_14 ⟨Nat.le_of_ble_eq_true rfl, Nat.le_of_ble_eq_true rfl⟩ (fun r_13 hr_13 => ?_)
            rcases hr_13 with ⟨rfl, g_14⟩ | ⟨rfl, g_15, g_16⟩ | ⟨rfl, g_17, g_18⟩
            · exfalso; omega
            · exfalso; omega
            · refine lv_if_eq (tgt := 48) hx hb dX1_bodyFor_17 (by decide) (fun c_19 => ?_) (fun c_19 => ?_)
              · exact absurd c_19 (by decide)
              · refine lv_iload_n hx hb dX1_bodyFor_20 rfl (lv_at hl 1 rfl) ?_
                refine lv_iload_n hx hb dX1_bodyFor_21 rfl (lv_at hl 4 rfl) ?_
                refine zc_S (As := [.int 0, .int 0]) (rest := []) ⟨hx, hb, hml, hown, hts⟩ (c_M_own_0_0 l D cI cJ cZ cP cS po  ) (va_cwS 2 hts gX1_bodyFor_X1_ownBody rfl rfl rfl dh_X1_ownBody ⟨Nat.le_of_ble_eq_true rfl, Nat.le_of_ble_eq_true rfl⟩) hK hN hZ rfl hl.1 rfl (Nat.le_of_ble_eq_true rfl) dX1_bodyFor_22 ⟨Nat.le_of_ble_eq_true rfl, Nat.le_of_ble_eq_true rfl⟩ (fun r_20 hr_20 => ?_)
                obtain rfl := hr_20
                refine lv_istore (lv' := [(4, .int 10), (3, .int 1), (2, .int 0), (0, .int 2), (1, .int 0)]) hx hb dX1_bodyFor_25 hl (by decide) rfl (fun ls hl => ?_)
                refine lv_iload hx hb dX1_bodyFor_27 (lv_at hl 0 rfl) ?_
                refine lv_iconst (v := (-1)) hx hb dX1_bodyFor_29 (by decide) ?_
                refine lv_icmp_eq (tgt := 36) hx hb dX1_bodyFor_30 (by decide) (fun c_21 => ?_) (fun c_21 => ?_)
                · exact absurd c_21 (by decide)
                · refine lv_iload hx hb dX1_bodyFor_33 (lv_at hl 0 rfl) ?_
                  exact W.iret (v := 10) hx hb hr (fun t ht hW => ⟨10, rfl, rfl, ht⟩) (fun q hq => by cases hq) dX1_bodyFor_35
        · exact absurd c_10 (by decide)
set_option maxHeartbeats 4000000 in
set_option maxRecDepth 100000 in
theorem c_M_bodyFor_2_1 (l : Launch) (D : va_G) (cI cJ cZ cP cS : ClassId) (po : zPool)   : Met l yX1_bodyFor wsX1_bodyFor ({ frames := 1, cells := 0, slots := 0, locals := 22 }) (va_Pc [.int 2, .int 1] (zR D (zKT cI cJ cZ cP cS) po [])) (vp_Si (fun r => r = 30)) 0 0 (fun _ => False) := by
  refine Met.ofW (cc := cX1_bodyFor) (maxL := 5) (ret := (some .int)) (by decide) rfl ?_
  intro p e s m args below meth c s₁ B hml hv
  obtain ⟨rfl, hP, hK, hN, hZ⟩ := hv
  have hx := B.exec
  have hb := B.bytes
  have hr := B.returns
  have hts := atoms_spec (ws := wsX1_bodyFor) B.pre
  have hown : s.vm.findClass RX1 = some m.cls := findClass_of_methodNamed B.named
  have hlocks := B.notSynchronized
  have hl := lv_entry ([.int 2, .int 1]) (n := 5) (Nat.le_of_ble_eq_true rfl)
  rw [lg_entry_eq]
  generalize (lg_sl ([.int 2, .int 1]) ++ List.replicate (5 - (lg_sl ([.int 2, .int 1])).length) Slot.unset).toArray = ls at hl ⊢
  replace hl : lv_has ls 5 [(0, .int 2), (1, .int 1)] := hl
  refine lv_iload_n hx hb dX1_bodyFor_0 rfl (lv_at hl 0 rfl) ?_
  refine lv_istore_n (lv' := [(2, .int 2), (0, .int 2), (1, .int 1)]) hx hb dX1_bodyFor_1 rfl hl (by decide) rfl (fun ls hl => ?_)
  refine lv_iconst (v := 0) hx hb dX1_bodyFor_2 (by decide) ?_
  refine lv_istore_n (lv' := [(3, .int 0), (2, .int 2), (0, .int 2), (1, .int 1)]) hx hb dX1_bodyFor_3 rfl hl (by decide) rfl (fun ls hl => ?_)
  refine lv_iload_n hx hb dX1_bodyFor_4 rfl (lv_at hl 0 rfl) ?_
  refine lv_bipush (v := 7) hx hb dX1_bodyFor_5 (by decide) ?_
  refine lv_icmp_ge (tgt := 48) hx hb dX1_bodyFor_7 (by decide) (fun c_1 => ?_) (fun c_1 => ?_)
  · exact absurd c_1 (by decide)
  · refine lv_iload_n hx hb dX1_bodyFor_10 rfl (lv_at hl 1 rfl) ?_
    refine lv_iconst (v := 0) hx hb dX1_bodyFor_11 (by decide) ?_
    refine lv_bipush (v := 6) hx hb dX1_bodyFor_12 (by decide) ?_
    have kc2 : (2 : Int32).toInt = 2 := by decide
    have kc0 : (0 : Int32).toInt = 0 := by decide
    have kc6 : (6 : Int32).toInt = 6 := by decide
    refine zc_SN (As := [.int 2, .int 0, .int 6]) (rest := []) ⟨hx, hb, hml, hown, hts⟩ (c_within l D cI cJ cZ cP cS po (2) (0) (6) ) ⟨(va_cnB 3 hts gX1_bodyFor_X7_within_n44 rfl rfl rfl (hN.1 (RX1, 44, yX7_within) (List.mem_of_getElem? (i := 13) rfl)) (hts _ (List.mem_of_getElem? (i := 2) rfl)) dh_X7_within ⟨Nat.le_of_ble_eq_true rfl, Nat.le_of_ble_eq_true rfl⟩), (hts _ (List.mem_of_getElem? (i := 1) rfl)), trivial⟩ hK hN hZ rfl hl.1 rfl (Nat.le_of_ble_eq_true rfl) dX1_bodyFor_14 ⟨Nat.le_of_ble_eq_true rfl, Nat.le_of_ble_eq_true rfl⟩ (fun r_2 hr_2 => ?_)
    rcases hr_2 with ⟨rfl, g_3⟩ | ⟨rfl, g_4, g_5⟩ | ⟨rfl, g_6, g_7⟩
    · exfalso; omega
    · exfalso; omega
    · refine lv_if_eq (tgt := 48) hx hb dX1_bodyFor_17 (by decide) (fun c_8 => ?_) (fun c_8 => ?_)
      · exact absurd c_8 (by decide)
      · refine lv_iload_n hx hb dX1_bodyFor_20 rfl (lv_at hl 1 rfl) ?_
        refine lv_iload_n hx hb dX1_bodyFor_21 rfl (lv_at hl 3 rfl) ?_
        refine zc_S (As := [.int 2, .int 1]) (rest := []) ⟨hx, hb, hml, hown, hts⟩ (c_M_own_2_1 l D cI cJ cZ cP cS po  ) (va_cwS 2 hts gX1_bodyFor_X1_ownBody rfl rfl rfl dh_X1_ownBody ⟨Nat.le_of_ble_eq_true rfl, Nat.le_of_ble_eq_true rfl⟩) hK hN hZ rfl hl.1 rfl (Nat.le_of_ble_eq_true rfl) dX1_bodyFor_22 ⟨Nat.le_of_ble_eq_true rfl, Nat.le_of_ble_eq_true rfl⟩ (fun r_9 hr_9 => ?_)
        obtain rfl := hr_9
        refine lv_istore (lv' := [(4, .int 30), (3, .int 0), (2, .int 2), (0, .int 2), (1, .int 1)]) hx hb dX1_bodyFor_25 hl (by decide) rfl (fun ls hl => ?_)
        refine lv_iload hx hb dX1_bodyFor_27 (lv_at hl 0 rfl) ?_
        refine lv_iconst (v := (-1)) hx hb dX1_bodyFor_29 (by decide) ?_
        refine lv_icmp_eq (tgt := 36) hx hb dX1_bodyFor_30 (by decide) (fun c_10 => ?_) (fun c_10 => ?_)
        · exact absurd c_10 (by decide)
        · refine lv_iload hx hb dX1_bodyFor_33 (lv_at hl 0 rfl) ?_
          exact W.iret (v := 30) hx hb hr (fun t ht hW => ⟨30, rfl, rfl, ht⟩) (fun q hq => by cases hq) dX1_bodyFor_35
set_option maxHeartbeats 4000000 in
set_option maxRecDepth 100000 in
theorem c_M_bodyFor_2_2 (l : Launch) (D : va_G) (cI cJ cZ cP cS : ClassId) (po : zPool)   : Met l yX1_bodyFor wsX1_bodyFor ({ frames := 1, cells := 0, slots := 0, locals := 22 }) (va_Pc [.int 2, .int 2] (zR D (zKT cI cJ cZ cP cS) po [])) (vp_Si (fun r => r = 12)) 0 0 (fun _ => False) := by
  refine Met.ofW (cc := cX1_bodyFor) (maxL := 5) (ret := (some .int)) (by decide) rfl ?_
  intro p e s m args below meth c s₁ B hml hv
  obtain ⟨rfl, hP, hK, hN, hZ⟩ := hv
  have hx := B.exec
  have hb := B.bytes
  have hr := B.returns
  have hts := atoms_spec (ws := wsX1_bodyFor) B.pre
  have hown : s.vm.findClass RX1 = some m.cls := findClass_of_methodNamed B.named
  have hlocks := B.notSynchronized
  have hl := lv_entry ([.int 2, .int 2]) (n := 5) (Nat.le_of_ble_eq_true rfl)
  rw [lg_entry_eq]
  generalize (lg_sl ([.int 2, .int 2]) ++ List.replicate (5 - (lg_sl ([.int 2, .int 2])).length) Slot.unset).toArray = ls at hl ⊢
  replace hl : lv_has ls 5 [(0, .int 2), (1, .int 2)] := hl
  refine lv_iload_n hx hb dX1_bodyFor_0 rfl (lv_at hl 0 rfl) ?_
  refine lv_istore_n (lv' := [(2, .int 2), (0, .int 2), (1, .int 2)]) hx hb dX1_bodyFor_1 rfl hl (by decide) rfl (fun ls hl => ?_)
  refine lv_iconst (v := 0) hx hb dX1_bodyFor_2 (by decide) ?_
  refine lv_istore_n (lv' := [(3, .int 0), (2, .int 2), (0, .int 2), (1, .int 2)]) hx hb dX1_bodyFor_3 rfl hl (by decide) rfl (fun ls hl => ?_)
  refine lv_iload_n hx hb dX1_bodyFor_4 rfl (lv_at hl 0 rfl) ?_
  refine lv_bipush (v := 7) hx hb dX1_bodyFor_5 (by decide) ?_
  refine lv_icmp_ge (tgt := 48) hx hb dX1_bodyFor_7 (by decide) (fun c_1 => ?_) (fun c_1 => ?_)
  · exact absurd c_1 (by decide)
  · refine lv_iload_n hx hb dX1_bodyFor_10 rfl (lv_at hl 1 rfl) ?_
    refine lv_iconst (v := 0) hx hb dX1_bodyFor_11 (by decide) ?_
    refine lv_bipush (v := 6) hx hb dX1_bodyFor_12 (by decide) ?_
    have kc2 : (2 : Int32).toInt = 2 := by decide
    have kc0 : (0 : Int32).toInt = 0 := by decide
    have kc6 : (6 : Int32).toInt = 6 := by decide
    refine zc_SN (As := [.int 2, .int 0, .int 6]) (rest := []) ⟨hx, hb, hml, hown, hts⟩ (c_within l D cI cJ cZ cP cS po (2) (0) (6) ) ⟨(va_cnB 3 hts gX1_bodyFor_X7_within_n44 rfl rfl rfl (hN.1 (RX1, 44, yX7_within) (List.mem_of_getElem? (i := 13) rfl)) (hts _ (List.mem_of_getElem? (i := 2) rfl)) dh_X7_within ⟨Nat.le_of_ble_eq_true rfl, Nat.le_of_ble_eq_true rfl⟩), (hts _ (List.mem_of_getElem? (i := 1) rfl)), trivial⟩ hK hN hZ rfl hl.1 rfl (Nat.le_of_ble_eq_true rfl) dX1_bodyFor_14 ⟨Nat.le_of_ble_eq_true rfl, Nat.le_of_ble_eq_true rfl⟩ (fun r_2 hr_2 => ?_)
    rcases hr_2 with ⟨rfl, g_3⟩ | ⟨rfl, g_4, g_5⟩ | ⟨rfl, g_6, g_7⟩
    · exfalso; omega
    · exfalso; omega
    · refine lv_if_eq (tgt := 48) hx hb dX1_bodyFor_17 (by decide) (fun c_8 => ?_) (fun c_8 => ?_)
      · exact absurd c_8 (by decide)
      · refine lv_iload_n hx hb dX1_bodyFor_20 rfl (lv_at hl 1 rfl) ?_
        refine lv_iload_n hx hb dX1_bodyFor_21 rfl (lv_at hl 3 rfl) ?_
        refine zc_S (As := [.int 2, .int 2]) (rest := []) ⟨hx, hb, hml, hown, hts⟩ (c_M_own_2_2 l D cI cJ cZ cP cS po  ) (va_cwS 2 hts gX1_bodyFor_X1_ownBody rfl rfl rfl dh_X1_ownBody ⟨Nat.le_of_ble_eq_true rfl, Nat.le_of_ble_eq_true rfl⟩) hK hN hZ rfl hl.1 rfl (Nat.le_of_ble_eq_true rfl) dX1_bodyFor_22 ⟨Nat.le_of_ble_eq_true rfl, Nat.le_of_ble_eq_true rfl⟩ (fun r_9 hr_9 => ?_)
        obtain rfl := hr_9
        refine lv_istore (lv' := [(4, .int (-1)), (3, .int 0), (2, .int 2), (0, .int 2), (1, .int 2)]) hx hb dX1_bodyFor_25 hl (by decide) rfl (fun ls hl => ?_)
        refine lv_iload hx hb dX1_bodyFor_27 (lv_at hl 0 rfl) ?_
        refine lv_iconst (v := (-1)) hx hb dX1_bodyFor_29 (by decide) ?_
        refine lv_icmp_eq (tgt := 36) hx hb dX1_bodyFor_30 (by decide) (fun c_10 => ?_) (fun c_10 => ?_)
        · obtain ⟨t_11, zt_11, yt_11⟩ := hZ.1.2
          refine va_getsN hx hb zt_11 va_S.rf hown (va_Nw.use rfl (hN.2.1 (RX1, 58) (List.mem_of_getElem? (i := 1) rfl))) (fun _ h9 => h9) dX1_bodyFor_36 ?_
          refine lv_iload_n hx hb dX1_bodyFor_39 rfl (lv_at hl 2 rfl) ?_
          refine va_ti hx hb yt_11 va_S.rf (zf_in (by decide) (by decide)) (v := .int 0) (by decide) dX1_bodyFor_40 ?_
          refine lv_istore_n (lv' := [(2, .int 0), (4, .int (-1)), (3, .int 0), (0, .int 2), (1, .int 2)]) hx hb dX1_bodyFor_41 rfl hl (by decide) rfl (fun ls hl => ?_)
          refine lv_iinc (v := 1) (lv' := [(3, .int 1), (2, .int 0), (4, .int (-1)), (0, .int 2), (1, .int 2)]) hx hb dX1_bodyFor_42 hl (k := 2) rfl (by decide) (by decide) rfl (fun ls hl => ?_)
          refine lv_goto (tgt := 4) hx hb dX1_bodyFor_45 (by decide) ?_
          refine lv_iload_n hx hb dX1_bodyFor_4 rfl (lv_at hl 0 rfl) ?_
          refine lv_bipush (v := 7) hx hb dX1_bodyFor_5 (by decide) ?_
          refine lv_icmp_ge (tgt := 48) hx hb dX1_bodyFor_7 (by decide) (fun c_12 => ?_) (fun c_12 => ?_)
          · exact absurd c_12 (by decide)
          · refine lv_iload_n hx hb dX1_bodyFor_10 rfl (lv_at hl 1 rfl) ?_
            refine lv_iconst (v := 0) hx hb dX1_bodyFor_11 (by decide) ?_
            refine lv_bipush (v := 6) hx hb dX1_bodyFor_12 (by decide) ?_
            refine zc_SN (As := [.int 0, .int 0, .int 6]) (rest := []) ⟨hx, hb, hml, hown, hts⟩ (c_within l D cI cJ cZ cP cS po (0) (0) (6) ) ⟨(va_cnB 3 hts gX1_bodyFor_X7_within_n44 rfl rfl rfl (hN.1 (RX1, 44, yX7_within) (List.mem_of_getElem? (i := 13) rfl)) (hts _ (List.mem_of_getElem? (i := 2) rfl)) dh_X7_within ⟨Nat.le_of_ble_eq_true rfl, Nat.le_of_ble_eq_true rfl⟩), (hts _ (List.mem_of_getElem? (i := 1) rfl)), trivial⟩ hK hN hZ rfl hl.1 rfl (Nat.le_of_ble_eq_true rfl) dX1_bodyFor_14 ⟨Nat.le_of_ble_eq_true rfl, Nat.le_of_ble_eq_true rfl⟩ (fun r_13 hr_13 => ?_)
            rcases hr_13 with ⟨rfl, g_14⟩ | ⟨rfl, g_15, g_16⟩ | ⟨rfl, g_17, g_18⟩
            · exfalso; omega
            · exfalso; omega
            · refine lv_if_eq (tgt := 48) hx hb dX1_bodyFor_17 (by decide) (fun c_19 => ?_) (fun c_19 => ?_)
              · exact absurd c_19 (by decide)
              · refine lv_iload_n hx hb dX1_bodyFor_20 rfl (lv_at hl 1 rfl) ?_
                refine lv_iload_n hx hb dX1_bodyFor_21 rfl (lv_at hl 4 rfl) ?_
                refine zc_S (As := [.int 0, .int 2]) (rest := []) ⟨hx, hb, hml, hown, hts⟩ (c_M_own_0_2 l D cI cJ cZ cP cS po  ) (va_cwS 2 hts gX1_bodyFor_X1_ownBody rfl rfl rfl dh_X1_ownBody ⟨Nat.le_of_ble_eq_true rfl, Nat.le_of_ble_eq_true rfl⟩) hK hN hZ rfl hl.1 rfl (Nat.le_of_ble_eq_true rfl) dX1_bodyFor_22 ⟨Nat.le_of_ble_eq_true rfl, Nat.le_of_ble_eq_true rfl⟩ (fun r_20 hr_20 => ?_)
                obtain rfl := hr_20
                refine lv_istore (lv' := [(4, .int 12), (3, .int 1), (2, .int 0), (0, .int 2), (1, .int 2)]) hx hb dX1_bodyFor_25 hl (by decide) rfl (fun ls hl => ?_)
                refine lv_iload hx hb dX1_bodyFor_27 (lv_at hl 0 rfl) ?_
                refine lv_iconst (v := (-1)) hx hb dX1_bodyFor_29 (by decide) ?_
                refine lv_icmp_eq (tgt := 36) hx hb dX1_bodyFor_30 (by decide) (fun c_21 => ?_) (fun c_21 => ?_)
                · exact absurd c_21 (by decide)
                · refine lv_iload hx hb dX1_bodyFor_33 (lv_at hl 0 rfl) ?_
                  exact W.iret (v := 12) hx hb hr (fun t ht hW => ⟨12, rfl, rfl, ht⟩) (fun q hq => by cases hq) dX1_bodyFor_35
        · exact absurd c_10 (by decide)
set_option maxHeartbeats 4000000 in
set_option maxRecDepth 100000 in
theorem c_M_bodyFor_3_0 (l : Launch) (D : va_G) (cI cJ cZ cP cS : ClassId) (po : zPool)   : Met l yX1_bodyFor wsX1_bodyFor ({ frames := 1, cells := 0, slots := 0, locals := 22 }) (va_Pc [.int 3, .int 0] (zR D (zKT cI cJ cZ cP cS) po [])) (vp_Si (fun r => r = 20)) 0 0 (fun _ => False) := by
  refine Met.ofW (cc := cX1_bodyFor) (maxL := 5) (ret := (some .int)) (by decide) rfl ?_
  intro p e s m args below meth c s₁ B hml hv
  obtain ⟨rfl, hP, hK, hN, hZ⟩ := hv
  have hx := B.exec
  have hb := B.bytes
  have hr := B.returns
  have hts := atoms_spec (ws := wsX1_bodyFor) B.pre
  have hown : s.vm.findClass RX1 = some m.cls := findClass_of_methodNamed B.named
  have hlocks := B.notSynchronized
  have hl := lv_entry ([.int 3, .int 0]) (n := 5) (Nat.le_of_ble_eq_true rfl)
  rw [lg_entry_eq]
  generalize (lg_sl ([.int 3, .int 0]) ++ List.replicate (5 - (lg_sl ([.int 3, .int 0])).length) Slot.unset).toArray = ls at hl ⊢
  replace hl : lv_has ls 5 [(0, .int 3), (1, .int 0)] := hl
  refine lv_iload_n hx hb dX1_bodyFor_0 rfl (lv_at hl 0 rfl) ?_
  refine lv_istore_n (lv' := [(2, .int 3), (0, .int 3), (1, .int 0)]) hx hb dX1_bodyFor_1 rfl hl (by decide) rfl (fun ls hl => ?_)
  refine lv_iconst (v := 0) hx hb dX1_bodyFor_2 (by decide) ?_
  refine lv_istore_n (lv' := [(3, .int 0), (2, .int 3), (0, .int 3), (1, .int 0)]) hx hb dX1_bodyFor_3 rfl hl (by decide) rfl (fun ls hl => ?_)
  refine lv_iload_n hx hb dX1_bodyFor_4 rfl (lv_at hl 0 rfl) ?_
  refine lv_bipush (v := 7) hx hb dX1_bodyFor_5 (by decide) ?_
  refine lv_icmp_ge (tgt := 48) hx hb dX1_bodyFor_7 (by decide) (fun c_1 => ?_) (fun c_1 => ?_)
  · exact absurd c_1 (by decide)
  · refine lv_iload_n hx hb dX1_bodyFor_10 rfl (lv_at hl 1 rfl) ?_
    refine lv_iconst (v := 0) hx hb dX1_bodyFor_11 (by decide) ?_
    refine lv_bipush (v := 6) hx hb dX1_bodyFor_12 (by decide) ?_
    have kc3 : (3 : Int32).toInt = 3 := by decide
    have kc0 : (0 : Int32).toInt = 0 := by decide
    have kc6 : (6 : Int32).toInt = 6 := by decide
    refine zc_SN (As := [.int 3, .int 0, .int 6]) (rest := []) ⟨hx, hb, hml, hown, hts⟩ (c_within l D cI cJ cZ cP cS po (3) (0) (6) ) ⟨(va_cnB 3 hts gX1_bodyFor_X7_within_n44 rfl rfl rfl (hN.1 (RX1, 44, yX7_within) (List.mem_of_getElem? (i := 13) rfl)) (hts _ (List.mem_of_getElem? (i := 2) rfl)) dh_X7_within ⟨Nat.le_of_ble_eq_true rfl, Nat.le_of_ble_eq_true rfl⟩), (hts _ (List.mem_of_getElem? (i := 1) rfl)), trivial⟩ hK hN hZ rfl hl.1 rfl (Nat.le_of_ble_eq_true rfl) dX1_bodyFor_14 ⟨Nat.le_of_ble_eq_true rfl, Nat.le_of_ble_eq_true rfl⟩ (fun r_2 hr_2 => ?_)
    rcases hr_2 with ⟨rfl, g_3⟩ | ⟨rfl, g_4, g_5⟩ | ⟨rfl, g_6, g_7⟩
    · exfalso; omega
    · exfalso; omega
    · refine lv_if_eq (tgt := 48) hx hb dX1_bodyFor_17 (by decide) (fun c_8 => ?_) (fun c_8 => ?_)
      · exact absurd c_8 (by decide)
      · refine lv_iload_n hx hb dX1_bodyFor_20 rfl (lv_at hl 1 rfl) ?_
        refine lv_iload_n hx hb dX1_bodyFor_21 rfl (lv_at hl 3 rfl) ?_
        refine zc_S (As := [.int 3, .int 0]) (rest := []) ⟨hx, hb, hml, hown, hts⟩ (c_M_own_3_0 l D cI cJ cZ cP cS po  ) (va_cwS 2 hts gX1_bodyFor_X1_ownBody rfl rfl rfl dh_X1_ownBody ⟨Nat.le_of_ble_eq_true rfl, Nat.le_of_ble_eq_true rfl⟩) hK hN hZ rfl hl.1 rfl (Nat.le_of_ble_eq_true rfl) dX1_bodyFor_22 ⟨Nat.le_of_ble_eq_true rfl, Nat.le_of_ble_eq_true rfl⟩ (fun r_9 hr_9 => ?_)
        obtain rfl := hr_9
        refine lv_istore (lv' := [(4, .int (-1)), (3, .int 0), (2, .int 3), (0, .int 3), (1, .int 0)]) hx hb dX1_bodyFor_25 hl (by decide) rfl (fun ls hl => ?_)
        refine lv_iload hx hb dX1_bodyFor_27 (lv_at hl 0 rfl) ?_
        refine lv_iconst (v := (-1)) hx hb dX1_bodyFor_29 (by decide) ?_
        refine lv_icmp_eq (tgt := 36) hx hb dX1_bodyFor_30 (by decide) (fun c_10 => ?_) (fun c_10 => ?_)
        · obtain ⟨t_11, zt_11, yt_11⟩ := hZ.1.2
          refine va_getsN hx hb zt_11 va_S.rf hown (va_Nw.use rfl (hN.2.1 (RX1, 58) (List.mem_of_getElem? (i := 1) rfl))) (fun _ h9 => h9) dX1_bodyFor_36 ?_
          refine lv_iload_n hx hb dX1_bodyFor_39 rfl (lv_at hl 2 rfl) ?_
          refine va_ti hx hb yt_11 va_S.rf (zf_in (by decide) (by decide)) (v := .int 1) (by decide) dX1_bodyFor_40 ?_
          refine lv_istore_n (lv' := [(2, .int 1), (4, .int (-1)), (3, .int 0), (0, .int 3), (1, .int 0)]) hx hb dX1_bodyFor_41 rfl hl (by decide) rfl (fun ls hl => ?_)
          refine lv_iinc (v := 1) (lv' := [(3, .int 1), (2, .int 1), (4, .int (-1)), (0, .int 3), (1, .int 0)]) hx hb dX1_bodyFor_42 hl (k := 2) rfl (by decide) (by decide) rfl (fun ls hl => ?_)
          refine lv_goto (tgt := 4) hx hb dX1_bodyFor_45 (by decide) ?_
          refine lv_iload_n hx hb dX1_bodyFor_4 rfl (lv_at hl 0 rfl) ?_
          refine lv_bipush (v := 7) hx hb dX1_bodyFor_5 (by decide) ?_
          refine lv_icmp_ge (tgt := 48) hx hb dX1_bodyFor_7 (by decide) (fun c_12 => ?_) (fun c_12 => ?_)
          · exact absurd c_12 (by decide)
          · refine lv_iload_n hx hb dX1_bodyFor_10 rfl (lv_at hl 1 rfl) ?_
            refine lv_iconst (v := 0) hx hb dX1_bodyFor_11 (by decide) ?_
            refine lv_bipush (v := 6) hx hb dX1_bodyFor_12 (by decide) ?_
            have kc1 : (1 : Int32).toInt = 1 := by decide
            refine zc_SN (As := [.int 1, .int 0, .int 6]) (rest := []) ⟨hx, hb, hml, hown, hts⟩ (c_within l D cI cJ cZ cP cS po (1) (0) (6) ) ⟨(va_cnB 3 hts gX1_bodyFor_X7_within_n44 rfl rfl rfl (hN.1 (RX1, 44, yX7_within) (List.mem_of_getElem? (i := 13) rfl)) (hts _ (List.mem_of_getElem? (i := 2) rfl)) dh_X7_within ⟨Nat.le_of_ble_eq_true rfl, Nat.le_of_ble_eq_true rfl⟩), (hts _ (List.mem_of_getElem? (i := 1) rfl)), trivial⟩ hK hN hZ rfl hl.1 rfl (Nat.le_of_ble_eq_true rfl) dX1_bodyFor_14 ⟨Nat.le_of_ble_eq_true rfl, Nat.le_of_ble_eq_true rfl⟩ (fun r_13 hr_13 => ?_)
            rcases hr_13 with ⟨rfl, g_14⟩ | ⟨rfl, g_15, g_16⟩ | ⟨rfl, g_17, g_18⟩
            · exfalso; omega
            · exfalso; omega
            · refine lv_if_eq (tgt := 48) hx hb dX1_bodyFor_17 (by decide) (fun c_19 => ?_) (fun c_19 => ?_)
              · exact absurd c_19 (by decide)
              · refine lv_iload_n hx hb dX1_bodyFor_20 rfl (lv_at hl 1 rfl) ?_
                refine lv_iload_n hx hb dX1_bodyFor_21 rfl (lv_at hl 4 rfl) ?_
                refine zc_S (As := [.int 1, .int 0]) (rest := []) ⟨hx, hb, hml, hown, hts⟩ (c_M_own_1_0 l D cI cJ cZ cP cS po  ) (va_cwS 2 hts gX1_bodyFor_X1_ownBody rfl rfl rfl dh_X1_ownBody ⟨Nat.le_of_ble_eq_true rfl, Nat.le_of_ble_eq_true rfl⟩) hK hN hZ rfl hl.1 rfl (Nat.le_of_ble_eq_true rfl) dX1_bodyFor_22 ⟨Nat.le_of_ble_eq_true rfl, Nat.le_of_ble_eq_true rfl⟩ (fun r_20 hr_20 => ?_)
                obtain rfl := hr_20
                refine lv_istore (lv' := [(4, .int 20), (3, .int 1), (2, .int 1), (0, .int 3), (1, .int 0)]) hx hb dX1_bodyFor_25 hl (by decide) rfl (fun ls hl => ?_)
                refine lv_iload hx hb dX1_bodyFor_27 (lv_at hl 0 rfl) ?_
                refine lv_iconst (v := (-1)) hx hb dX1_bodyFor_29 (by decide) ?_
                refine lv_icmp_eq (tgt := 36) hx hb dX1_bodyFor_30 (by decide) (fun c_21 => ?_) (fun c_21 => ?_)
                · exact absurd c_21 (by decide)
                · refine lv_iload hx hb dX1_bodyFor_33 (lv_at hl 0 rfl) ?_
                  exact W.iret (v := 20) hx hb hr (fun t ht hW => ⟨20, rfl, rfl, ht⟩) (fun q hq => by cases hq) dX1_bodyFor_35
        · exact absurd c_10 (by decide)
set_option maxHeartbeats 4000000 in
set_option maxRecDepth 100000 in
theorem c_M_bodyFor_3_1 (l : Launch) (D : va_G) (cI cJ cZ cP cS : ClassId) (po : zPool)   : Met l yX1_bodyFor wsX1_bodyFor ({ frames := 1, cells := 0, slots := 0, locals := 22 }) (va_Pc [.int 3, .int 1] (zR D (zKT cI cJ cZ cP cS) po [])) (vp_Si (fun r => r = 40)) 0 0 (fun _ => False) := by
  refine Met.ofW (cc := cX1_bodyFor) (maxL := 5) (ret := (some .int)) (by decide) rfl ?_
  intro p e s m args below meth c s₁ B hml hv
  obtain ⟨rfl, hP, hK, hN, hZ⟩ := hv
  have hx := B.exec
  have hb := B.bytes
  have hr := B.returns
  have hts := atoms_spec (ws := wsX1_bodyFor) B.pre
  have hown : s.vm.findClass RX1 = some m.cls := findClass_of_methodNamed B.named
  have hlocks := B.notSynchronized
  have hl := lv_entry ([.int 3, .int 1]) (n := 5) (Nat.le_of_ble_eq_true rfl)
  rw [lg_entry_eq]
  generalize (lg_sl ([.int 3, .int 1]) ++ List.replicate (5 - (lg_sl ([.int 3, .int 1])).length) Slot.unset).toArray = ls at hl ⊢
  replace hl : lv_has ls 5 [(0, .int 3), (1, .int 1)] := hl
  refine lv_iload_n hx hb dX1_bodyFor_0 rfl (lv_at hl 0 rfl) ?_
  refine lv_istore_n (lv' := [(2, .int 3), (0, .int 3), (1, .int 1)]) hx hb dX1_bodyFor_1 rfl hl (by decide) rfl (fun ls hl => ?_)
  refine lv_iconst (v := 0) hx hb dX1_bodyFor_2 (by decide) ?_
  refine lv_istore_n (lv' := [(3, .int 0), (2, .int 3), (0, .int 3), (1, .int 1)]) hx hb dX1_bodyFor_3 rfl hl (by decide) rfl (fun ls hl => ?_)
  refine lv_iload_n hx hb dX1_bodyFor_4 rfl (lv_at hl 0 rfl) ?_
  refine lv_bipush (v := 7) hx hb dX1_bodyFor_5 (by decide) ?_
  refine lv_icmp_ge (tgt := 48) hx hb dX1_bodyFor_7 (by decide) (fun c_1 => ?_) (fun c_1 => ?_)
  · exact absurd c_1 (by decide)
  · refine lv_iload_n hx hb dX1_bodyFor_10 rfl (lv_at hl 1 rfl) ?_
    refine lv_iconst (v := 0) hx hb dX1_bodyFor_11 (by decide) ?_
    refine lv_bipush (v := 6) hx hb dX1_bodyFor_12 (by decide) ?_
    have kc3 : (3 : Int32).toInt = 3 := by decide
    have kc0 : (0 : Int32).toInt = 0 := by decide
    have kc6 : (6 : Int32).toInt = 6 := by decide
    refine zc_SN (As := [.int 3, .int 0, .int 6]) (rest := []) ⟨hx, hb, hml, hown, hts⟩ (c_within l D cI cJ cZ cP cS po (3) (0) (6) ) ⟨(va_cnB 3 hts gX1_bodyFor_X7_within_n44 rfl rfl rfl (hN.1 (RX1, 44, yX7_within) (List.mem_of_getElem? (i := 13) rfl)) (hts _ (List.mem_of_getElem? (i := 2) rfl)) dh_X7_within ⟨Nat.le_of_ble_eq_true rfl, Nat.le_of_ble_eq_true rfl⟩), (hts _ (List.mem_of_getElem? (i := 1) rfl)), trivial⟩ hK hN hZ rfl hl.1 rfl (Nat.le_of_ble_eq_true rfl) dX1_bodyFor_14 ⟨Nat.le_of_ble_eq_true rfl, Nat.le_of_ble_eq_true rfl⟩ (fun r_2 hr_2 => ?_)
    rcases hr_2 with ⟨rfl, g_3⟩ | ⟨rfl, g_4, g_5⟩ | ⟨rfl, g_6, g_7⟩
    · exfalso; omega
    · exfalso; omega
    · refine lv_if_eq (tgt := 48) hx hb dX1_bodyFor_17 (by decide) (fun c_8 => ?_) (fun c_8 => ?_)
      · exact absurd c_8 (by decide)
      · refine lv_iload_n hx hb dX1_bodyFor_20 rfl (lv_at hl 1 rfl) ?_
        refine lv_iload_n hx hb dX1_bodyFor_21 rfl (lv_at hl 3 rfl) ?_
        refine zc_S (As := [.int 3, .int 1]) (rest := []) ⟨hx, hb, hml, hown, hts⟩ (c_M_own_3_1 l D cI cJ cZ cP cS po  ) (va_cwS 2 hts gX1_bodyFor_X1_ownBody rfl rfl rfl dh_X1_ownBody ⟨Nat.le_of_ble_eq_true rfl, Nat.le_of_ble_eq_true rfl⟩) hK hN hZ rfl hl.1 rfl (Nat.le_of_ble_eq_true rfl) dX1_bodyFor_22 ⟨Nat.le_of_ble_eq_true rfl, Nat.le_of_ble_eq_true rfl⟩ (fun r_9 hr_9 => ?_)
        obtain rfl := hr_9
        refine lv_istore (lv' := [(4, .int 40), (3, .int 0), (2, .int 3), (0, .int 3), (1, .int 1)]) hx hb dX1_bodyFor_25 hl (by decide) rfl (fun ls hl => ?_)
        refine lv_iload hx hb dX1_bodyFor_27 (lv_at hl 0 rfl) ?_
        refine lv_iconst (v := (-1)) hx hb dX1_bodyFor_29 (by decide) ?_
        refine lv_icmp_eq (tgt := 36) hx hb dX1_bodyFor_30 (by decide) (fun c_10 => ?_) (fun c_10 => ?_)
        · exact absurd c_10 (by decide)
        · refine lv_iload hx hb dX1_bodyFor_33 (lv_at hl 0 rfl) ?_
          exact W.iret (v := 40) hx hb hr (fun t ht hW => ⟨40, rfl, rfl, ht⟩) (fun q hq => by cases hq) dX1_bodyFor_35
set_option maxHeartbeats 4000000 in
set_option maxRecDepth 100000 in
theorem c_M_bodyFor_3_2 (l : Launch) (D : va_G) (cI cJ cZ cP cS : ClassId) (po : zPool)   : Met l yX1_bodyFor wsX1_bodyFor ({ frames := 1, cells := 0, slots := 0, locals := 22 }) (va_Pc [.int 3, .int 2] (zR D (zKT cI cJ cZ cP cS) po [])) (vp_Si (fun r => r = 12)) 0 0 (fun _ => False) := by
  refine Met.ofW (cc := cX1_bodyFor) (maxL := 5) (ret := (some .int)) (by decide) rfl ?_
  intro p e s m args below meth c s₁ B hml hv
  obtain ⟨rfl, hP, hK, hN, hZ⟩ := hv
  have hx := B.exec
  have hb := B.bytes
  have hr := B.returns
  have hts := atoms_spec (ws := wsX1_bodyFor) B.pre
  have hown : s.vm.findClass RX1 = some m.cls := findClass_of_methodNamed B.named
  have hlocks := B.notSynchronized
  have hl := lv_entry ([.int 3, .int 2]) (n := 5) (Nat.le_of_ble_eq_true rfl)
  rw [lg_entry_eq]
  generalize (lg_sl ([.int 3, .int 2]) ++ List.replicate (5 - (lg_sl ([.int 3, .int 2])).length) Slot.unset).toArray = ls at hl ⊢
  replace hl : lv_has ls 5 [(0, .int 3), (1, .int 2)] := hl
  refine lv_iload_n hx hb dX1_bodyFor_0 rfl (lv_at hl 0 rfl) ?_
  refine lv_istore_n (lv' := [(2, .int 3), (0, .int 3), (1, .int 2)]) hx hb dX1_bodyFor_1 rfl hl (by decide) rfl (fun ls hl => ?_)
  refine lv_iconst (v := 0) hx hb dX1_bodyFor_2 (by decide) ?_
  refine lv_istore_n (lv' := [(3, .int 0), (2, .int 3), (0, .int 3), (1, .int 2)]) hx hb dX1_bodyFor_3 rfl hl (by decide) rfl (fun ls hl => ?_)
  refine lv_iload_n hx hb dX1_bodyFor_4 rfl (lv_at hl 0 rfl) ?_
  refine lv_bipush (v := 7) hx hb dX1_bodyFor_5 (by decide) ?_
  refine lv_icmp_ge (tgt := 48) hx hb dX1_bodyFor_7 (by decide) (fun c_1 => ?_) (fun c_1 => ?_)
  · exact absurd c_1 (by decide)
  · refine lv_iload_n hx hb dX1_bodyFor_10 rfl (lv_at hl 1 rfl) ?_
    refine lv_iconst (v := 0) hx hb dX1_bodyFor_11 (by decide) ?_
    refine lv_bipush (v := 6) hx hb dX1_bodyFor_12 (by decide) ?_
    have kc3 : (3 : Int32).toInt = 3 := by decide
    have kc0 : (0 : Int32).toInt = 0 := by decide
    have kc6 : (6 : Int32).toInt = 6 := by decide
    refine zc_SN (As := [.int 3, .int 0, .int 6]) (rest := []) ⟨hx, hb, hml, hown, hts⟩ (c_within l D cI cJ cZ cP cS po (3) (0) (6) ) ⟨(va_cnB 3 hts gX1_bodyFor_X7_within_n44 rfl rfl rfl (hN.1 (RX1, 44, yX7_within) (List.mem_of_getElem? (i := 13) rfl)) (hts _ (List.mem_of_getElem? (i := 2) rfl)) dh_X7_within ⟨Nat.le_of_ble_eq_true rfl, Nat.le_of_ble_eq_true rfl⟩), (hts _ (List.mem_of_getElem? (i := 1) rfl)), trivial⟩ hK hN hZ rfl hl.1 rfl (Nat.le_of_ble_eq_true rfl) dX1_bodyFor_14 ⟨Nat.le_of_ble_eq_true rfl, Nat.le_of_ble_eq_true rfl⟩ (fun r_2 hr_2 => ?_)
    rcases hr_2 with ⟨rfl, g_3⟩ | ⟨rfl, g_4, g_5⟩ | ⟨rfl, g_6, g_7⟩
    · exfalso; omega
    · exfalso; omega
    · refine lv_if_eq (tgt := 48) hx hb dX1_bodyFor_17 (by decide) (fun c_8 => ?_) (fun c_8 => ?_)
      · exact absurd c_8 (by decide)
      · refine lv_iload_n hx hb dX1_bodyFor_20 rfl (lv_at hl 1 rfl) ?_
        refine lv_iload_n hx hb dX1_bodyFor_21 rfl (lv_at hl 3 rfl) ?_
        refine zc_S (As := [.int 3, .int 2]) (rest := []) ⟨hx, hb, hml, hown, hts⟩ (c_M_own_3_2 l D cI cJ cZ cP cS po  ) (va_cwS 2 hts gX1_bodyFor_X1_ownBody rfl rfl rfl dh_X1_ownBody ⟨Nat.le_of_ble_eq_true rfl, Nat.le_of_ble_eq_true rfl⟩) hK hN hZ rfl hl.1 rfl (Nat.le_of_ble_eq_true rfl) dX1_bodyFor_22 ⟨Nat.le_of_ble_eq_true rfl, Nat.le_of_ble_eq_true rfl⟩ (fun r_9 hr_9 => ?_)
        obtain rfl := hr_9
        refine lv_istore (lv' := [(4, .int (-1)), (3, .int 0), (2, .int 3), (0, .int 3), (1, .int 2)]) hx hb dX1_bodyFor_25 hl (by decide) rfl (fun ls hl => ?_)
        refine lv_iload hx hb dX1_bodyFor_27 (lv_at hl 0 rfl) ?_
        refine lv_iconst (v := (-1)) hx hb dX1_bodyFor_29 (by decide) ?_
        refine lv_icmp_eq (tgt := 36) hx hb dX1_bodyFor_30 (by decide) (fun c_10 => ?_) (fun c_10 => ?_)
        · obtain ⟨t_11, zt_11, yt_11⟩ := hZ.1.2
          refine va_getsN hx hb zt_11 va_S.rf hown (va_Nw.use rfl (hN.2.1 (RX1, 58) (List.mem_of_getElem? (i := 1) rfl))) (fun _ h9 => h9) dX1_bodyFor_36 ?_
          refine lv_iload_n hx hb dX1_bodyFor_39 rfl (lv_at hl 2 rfl) ?_
          refine va_ti hx hb yt_11 va_S.rf (zf_in (by decide) (by decide)) (v := .int 1) (by decide) dX1_bodyFor_40 ?_
          refine lv_istore_n (lv' := [(2, .int 1), (4, .int (-1)), (3, .int 0), (0, .int 3), (1, .int 2)]) hx hb dX1_bodyFor_41 rfl hl (by decide) rfl (fun ls hl => ?_)
          refine lv_iinc (v := 1) (lv' := [(3, .int 1), (2, .int 1), (4, .int (-1)), (0, .int 3), (1, .int 2)]) hx hb dX1_bodyFor_42 hl (k := 2) rfl (by decide) (by decide) rfl (fun ls hl => ?_)
          refine lv_goto (tgt := 4) hx hb dX1_bodyFor_45 (by decide) ?_
          refine lv_iload_n hx hb dX1_bodyFor_4 rfl (lv_at hl 0 rfl) ?_
          refine lv_bipush (v := 7) hx hb dX1_bodyFor_5 (by decide) ?_
          refine lv_icmp_ge (tgt := 48) hx hb dX1_bodyFor_7 (by decide) (fun c_12 => ?_) (fun c_12 => ?_)
          · exact absurd c_12 (by decide)
          · refine lv_iload_n hx hb dX1_bodyFor_10 rfl (lv_at hl 1 rfl) ?_
            refine lv_iconst (v := 0) hx hb dX1_bodyFor_11 (by decide) ?_
            refine lv_bipush (v := 6) hx hb dX1_bodyFor_12 (by decide) ?_
            have kc1 : (1 : Int32).toInt = 1 := by decide
            refine zc_SN (As := [.int 1, .int 0, .int 6]) (rest := []) ⟨hx, hb, hml, hown, hts⟩ (c_within l D cI cJ cZ cP cS po (1) (0) (6) ) ⟨(va_cnB 3 hts gX1_bodyFor_X7_within_n44 rfl rfl rfl (hN.1 (RX1, 44, yX7_within) (List.mem_of_getElem? (i := 13) rfl)) (hts _ (List.mem_of_getElem? (i := 2) rfl)) dh_X7_within ⟨Nat.le_of_ble_eq_true rfl, Nat.le_of_ble_eq_true rfl⟩), (hts _ (List.mem_of_getElem? (i := 1) rfl)), trivial⟩ hK hN hZ rfl hl.1 rfl (Nat.le_of_ble_eq_true rfl) dX1_bodyFor_14 ⟨Nat.le_of_ble_eq_true rfl, Nat.le_of_ble_eq_true rfl⟩ (fun r_13 hr_13 => ?_)
            rcases hr_13 with ⟨rfl, g_14⟩ | ⟨rfl, g_15, g_16⟩ | ⟨rfl, g_17, g_18⟩
            · exfalso; omega
            · exfalso; omega
            · refine lv_if_eq (tgt := 48) hx hb dX1_bodyFor_17 (by decide) (fun c_19 => ?_) (fun c_19 => ?_)
              · exact absurd c_19 (by decide)
              · refine lv_iload_n hx hb dX1_bodyFor_20 rfl (lv_at hl 1 rfl) ?_
                refine lv_iload_n hx hb dX1_bodyFor_21 rfl (lv_at hl 4 rfl) ?_
                refine zc_S (As := [.int 1, .int 2]) (rest := []) ⟨hx, hb, hml, hown, hts⟩ (c_M_own_1_2 l D cI cJ cZ cP cS po  ) (va_cwS 2 hts gX1_bodyFor_X1_ownBody rfl rfl rfl dh_X1_ownBody ⟨Nat.le_of_ble_eq_true rfl, Nat.le_of_ble_eq_true rfl⟩) hK hN hZ rfl hl.1 rfl (Nat.le_of_ble_eq_true rfl) dX1_bodyFor_22 ⟨Nat.le_of_ble_eq_true rfl, Nat.le_of_ble_eq_true rfl⟩ (fun r_20 hr_20 => ?_)
                obtain rfl := hr_20
                refine lv_istore (lv' := [(4, .int (-1)), (3, .int 1), (2, .int 1), (0, .int 3), (1, .int 2)]) hx hb dX1_bodyFor_25 hl (by decide) rfl (fun ls hl => ?_)
                refine lv_iload hx hb dX1_bodyFor_27 (lv_at hl 0 rfl) ?_
                refine lv_iconst (v := (-1)) hx hb dX1_bodyFor_29 (by decide) ?_
                refine lv_icmp_eq (tgt := 36) hx hb dX1_bodyFor_30 (by decide) (fun c_21 => ?_) (fun c_21 => ?_)
                · obtain ⟨t_22, zt_22, yt_22⟩ := hZ.1.2
                  refine va_getsN hx hb zt_22 va_S.rf hown (va_Nw.use rfl (hN.2.1 (RX1, 58) (List.mem_of_getElem? (i := 1) rfl))) (fun _ h9 => h9) dX1_bodyFor_36 ?_
                  refine lv_iload_n hx hb dX1_bodyFor_39 rfl (lv_at hl 2 rfl) ?_
                  refine va_ti hx hb yt_22 va_S.rf (zf_in (by decide) (by decide)) (v := .int 0) (by decide) dX1_bodyFor_40 ?_
                  refine lv_istore_n (lv' := [(2, .int 0), (4, .int (-1)), (3, .int 1), (0, .int 3), (1, .int 2)]) hx hb dX1_bodyFor_41 rfl hl (by decide) rfl (fun ls hl => ?_)
                  refine lv_iinc (v := 2) (lv' := [(3, .int 2), (2, .int 0), (4, .int (-1)), (0, .int 3), (1, .int 2)]) hx hb dX1_bodyFor_42 hl (k := 2) rfl (by decide) (by decide) rfl (fun ls hl => ?_)
                  refine lv_goto (tgt := 4) hx hb dX1_bodyFor_45 (by decide) ?_
                  refine lv_iload_n hx hb dX1_bodyFor_4 rfl (lv_at hl 0 rfl) ?_
                  refine lv_bipush (v := 7) hx hb dX1_bodyFor_5 (by decide) ?_
                  refine lv_icmp_ge (tgt := 48) hx hb dX1_bodyFor_7 (by decide) (fun c_23 => ?_) (fun c_23 => ?_)
                  · exact absurd c_23 (by decide)
                  · refine lv_iload_n hx hb dX1_bodyFor_10 rfl (lv_at hl 1 rfl) ?_
                    refine lv_iconst (v := 0) hx hb dX1_bodyFor_11 (by decide) ?_
                    refine lv_bipush (v := 6) hx hb dX1_bodyFor_12 (by decide) ?_
                    refine zc_SN (As := [.int 0, .int 0, .int 6]) (rest := []) ⟨hx, hb, hml, hown, hts⟩ (c_within l D cI cJ cZ cP cS po (0) (0) (6) ) ⟨(va_cnB 3 hts gX1_bodyFor_X7_within_n44 rfl rfl rfl (hN.1 (RX1, 44, yX7_within) (List.mem_of_getElem? (i := 13) rfl)) (hts _ (List.mem_of_getElem? (i := 2) rfl)) dh_X7_within ⟨Nat.le_of_ble_eq_true rfl, Nat.le_of_ble_eq_true rfl⟩), (hts _ (List.mem_of_getElem? (i := 1) rfl)), trivial⟩ hK hN hZ rfl hl.1 rfl (Nat.le_of_ble_eq_true rfl) dX1_bodyFor_14 ⟨Nat.le_of_ble_eq_true rfl, Nat.le_of_ble_eq_true rfl⟩ (fun r_24 hr_24 => ?_)
                    rcases hr_24 with ⟨rfl, g_25⟩ | ⟨rfl, g_26, g_27⟩ | ⟨rfl, g_28, g_29⟩
                    · exfalso; omega
                    · exfalso; omega
                    · refine lv_if_eq (tgt := 48) hx hb dX1_bodyFor_17 (by decide) (fun c_30 => ?_) (fun c_30 => ?_)
                      · exact absurd c_30 (by decide)
                      · refine lv_iload_n hx hb dX1_bodyFor_20 rfl (lv_at hl 1 rfl) ?_
                        refine lv_iload_n hx hb dX1_bodyFor_21 rfl (lv_at hl 4 rfl) ?_
                        refine zc_S (As := [.int 0, .int 2]) (rest := []) ⟨hx, hb, hml, hown, hts⟩ (c_M_own_0_2 l D cI cJ cZ cP cS po  ) (va_cwS 2 hts gX1_bodyFor_X1_ownBody rfl rfl rfl dh_X1_ownBody ⟨Nat.le_of_ble_eq_true rfl, Nat.le_of_ble_eq_true rfl⟩) hK hN hZ rfl hl.1 rfl (Nat.le_of_ble_eq_true rfl) dX1_bodyFor_22 ⟨Nat.le_of_ble_eq_true rfl, Nat.le_of_ble_eq_true rfl⟩ (fun r_31 hr_31 => ?_)
                        obtain rfl := hr_31
                        refine lv_istore (lv' := [(4, .int 12), (3, .int 2), (2, .int 0), (0, .int 3), (1, .int 2)]) hx hb dX1_bodyFor_25 hl (by decide) rfl (fun ls hl => ?_)
                        refine lv_iload hx hb dX1_bodyFor_27 (lv_at hl 0 rfl) ?_
                        refine lv_iconst (v := (-1)) hx hb dX1_bodyFor_29 (by decide) ?_
                        refine lv_icmp_eq (tgt := 36) hx hb dX1_bodyFor_30 (by decide) (fun c_32 => ?_) (fun c_32 => ?_)
                        · exact absurd c_32 (by decide)
                        · refine lv_iload hx hb dX1_bodyFor_33 (lv_at hl 0 rfl) ?_
                          exact W.iret (v := 12) hx hb hr (fun t ht hW => ⟨12, rfl, rfl, ht⟩) (fun q hq => by cases hq) dX1_bodyFor_35
                · exact absurd c_21 (by decide)
        · exact absurd c_10 (by decide)
set_option maxHeartbeats 4000000 in
set_option maxRecDepth 100000 in
theorem c_M_bodyFor_4_0 (l : Launch) (D : va_G) (cI cJ cZ cP cS : ClassId) (po : zPool)   : Met l yX1_bodyFor wsX1_bodyFor ({ frames := 1, cells := 0, slots := 0, locals := 22 }) (va_Pc [.int 4, .int 0] (zR D (zKT cI cJ cZ cP cS) po [])) (vp_Si (fun r => r = 51)) 0 0 (fun _ => False) := by
  refine Met.ofW (cc := cX1_bodyFor) (maxL := 5) (ret := (some .int)) (by decide) rfl ?_
  intro p e s m args below meth c s₁ B hml hv
  obtain ⟨rfl, hP, hK, hN, hZ⟩ := hv
  have hx := B.exec
  have hb := B.bytes
  have hr := B.returns
  have hts := atoms_spec (ws := wsX1_bodyFor) B.pre
  have hown : s.vm.findClass RX1 = some m.cls := findClass_of_methodNamed B.named
  have hlocks := B.notSynchronized
  have hl := lv_entry ([.int 4, .int 0]) (n := 5) (Nat.le_of_ble_eq_true rfl)
  rw [lg_entry_eq]
  generalize (lg_sl ([.int 4, .int 0]) ++ List.replicate (5 - (lg_sl ([.int 4, .int 0])).length) Slot.unset).toArray = ls at hl ⊢
  replace hl : lv_has ls 5 [(0, .int 4), (1, .int 0)] := hl
  refine lv_iload_n hx hb dX1_bodyFor_0 rfl (lv_at hl 0 rfl) ?_
  refine lv_istore_n (lv' := [(2, .int 4), (0, .int 4), (1, .int 0)]) hx hb dX1_bodyFor_1 rfl hl (by decide) rfl (fun ls hl => ?_)
  refine lv_iconst (v := 0) hx hb dX1_bodyFor_2 (by decide) ?_
  refine lv_istore_n (lv' := [(3, .int 0), (2, .int 4), (0, .int 4), (1, .int 0)]) hx hb dX1_bodyFor_3 rfl hl (by decide) rfl (fun ls hl => ?_)
  refine lv_iload_n hx hb dX1_bodyFor_4 rfl (lv_at hl 0 rfl) ?_
  refine lv_bipush (v := 7) hx hb dX1_bodyFor_5 (by decide) ?_
  refine lv_icmp_ge (tgt := 48) hx hb dX1_bodyFor_7 (by decide) (fun c_1 => ?_) (fun c_1 => ?_)
  · exact absurd c_1 (by decide)
  · refine lv_iload_n hx hb dX1_bodyFor_10 rfl (lv_at hl 1 rfl) ?_
    refine lv_iconst (v := 0) hx hb dX1_bodyFor_11 (by decide) ?_
    refine lv_bipush (v := 6) hx hb dX1_bodyFor_12 (by decide) ?_
    have kc4 : (4 : Int32).toInt = 4 := by decide
    have kc0 : (0 : Int32).toInt = 0 := by decide
    have kc6 : (6 : Int32).toInt = 6 := by decide
    refine zc_SN (As := [.int 4, .int 0, .int 6]) (rest := []) ⟨hx, hb, hml, hown, hts⟩ (c_within l D cI cJ cZ cP cS po (4) (0) (6) ) ⟨(va_cnB 3 hts gX1_bodyFor_X7_within_n44 rfl rfl rfl (hN.1 (RX1, 44, yX7_within) (List.mem_of_getElem? (i := 13) rfl)) (hts _ (List.mem_of_getElem? (i := 2) rfl)) dh_X7_within ⟨Nat.le_of_ble_eq_true rfl, Nat.le_of_ble_eq_true rfl⟩), (hts _ (List.mem_of_getElem? (i := 1) rfl)), trivial⟩ hK hN hZ rfl hl.1 rfl (Nat.le_of_ble_eq_true rfl) dX1_bodyFor_14 ⟨Nat.le_of_ble_eq_true rfl, Nat.le_of_ble_eq_true rfl⟩ (fun r_2 hr_2 => ?_)
    rcases hr_2 with ⟨rfl, g_3⟩ | ⟨rfl, g_4, g_5⟩ | ⟨rfl, g_6, g_7⟩
    · exfalso; omega
    · exfalso; omega
    · refine lv_if_eq (tgt := 48) hx hb dX1_bodyFor_17 (by decide) (fun c_8 => ?_) (fun c_8 => ?_)
      · exact absurd c_8 (by decide)
      · refine lv_iload_n hx hb dX1_bodyFor_20 rfl (lv_at hl 1 rfl) ?_
        refine lv_iload_n hx hb dX1_bodyFor_21 rfl (lv_at hl 3 rfl) ?_
        refine zc_S (As := [.int 4, .int 0]) (rest := []) ⟨hx, hb, hml, hown, hts⟩ (c_M_own_4_0 l D cI cJ cZ cP cS po  ) (va_cwS 2 hts gX1_bodyFor_X1_ownBody rfl rfl rfl dh_X1_ownBody ⟨Nat.le_of_ble_eq_true rfl, Nat.le_of_ble_eq_true rfl⟩) hK hN hZ rfl hl.1 rfl (Nat.le_of_ble_eq_true rfl) dX1_bodyFor_22 ⟨Nat.le_of_ble_eq_true rfl, Nat.le_of_ble_eq_true rfl⟩ (fun r_9 hr_9 => ?_)
        obtain rfl := hr_9
        refine lv_istore (lv' := [(4, .int 51), (3, .int 0), (2, .int 4), (0, .int 4), (1, .int 0)]) hx hb dX1_bodyFor_25 hl (by decide) rfl (fun ls hl => ?_)
        refine lv_iload hx hb dX1_bodyFor_27 (lv_at hl 0 rfl) ?_
        refine lv_iconst (v := (-1)) hx hb dX1_bodyFor_29 (by decide) ?_
        refine lv_icmp_eq (tgt := 36) hx hb dX1_bodyFor_30 (by decide) (fun c_10 => ?_) (fun c_10 => ?_)
        · exact absurd c_10 (by decide)
        · refine lv_iload hx hb dX1_bodyFor_33 (lv_at hl 0 rfl) ?_
          exact W.iret (v := 51) hx hb hr (fun t ht hW => ⟨51, rfl, rfl, ht⟩) (fun q hq => by cases hq) dX1_bodyFor_35
set_option maxHeartbeats 4000000 in
set_option maxRecDepth 100000 in
theorem c_M_bodyFor_4_1 (l : Launch) (D : va_G) (cI cJ cZ cP cS : ClassId) (po : zPool)   : Met l yX1_bodyFor wsX1_bodyFor ({ frames := 1, cells := 0, slots := 0, locals := 22 }) (va_Pc [.int 4, .int 1] (zR D (zKT cI cJ cZ cP cS) po [])) (vp_Si (fun r => r = 11)) 0 0 (fun _ => False) := by
  refine Met.ofW (cc := cX1_bodyFor) (maxL := 5) (ret := (some .int)) (by decide) rfl ?_
  intro p e s m args below meth c s₁ B hml hv
  obtain ⟨rfl, hP, hK, hN, hZ⟩ := hv
  have hx := B.exec
  have hb := B.bytes
  have hr := B.returns
  have hts := atoms_spec (ws := wsX1_bodyFor) B.pre
  have hown : s.vm.findClass RX1 = some m.cls := findClass_of_methodNamed B.named
  have hlocks := B.notSynchronized
  have hl := lv_entry ([.int 4, .int 1]) (n := 5) (Nat.le_of_ble_eq_true rfl)
  rw [lg_entry_eq]
  generalize (lg_sl ([.int 4, .int 1]) ++ List.replicate (5 - (lg_sl ([.int 4, .int 1])).length) Slot.unset).toArray = ls at hl ⊢
  replace hl : lv_has ls 5 [(0, .int 4), (1, .int 1)] := hl
  refine lv_iload_n hx hb dX1_bodyFor_0 rfl (lv_at hl 0 rfl) ?_
  refine lv_istore_n (lv' := [(2, .int 4), (0, .int 4), (1, .int 1)]) hx hb dX1_bodyFor_1 rfl hl (by decide) rfl (fun ls hl => ?_)
  refine lv_iconst (v := 0) hx hb dX1_bodyFor_2 (by decide) ?_
  refine lv_istore_n (lv' := [(3, .int 0), (2, .int 4), (0, .int 4), (1, .int 1)]) hx hb dX1_bodyFor_3 rfl hl (by decide) rfl (fun ls hl => ?_)
  refine lv_iload_n hx hb dX1_bodyFor_4 rfl (lv_at hl 0 rfl) ?_
  refine lv_bipush (v := 7) hx hb dX1_bodyFor_5 (by decide) ?_
  refine lv_icmp_ge (tgt := 48) hx hb dX1_bodyFor_7 (by decide) (fun c_1 => ?_) (fun c_1 => ?_)
  · exact absurd c_1 (by decide)
  · refine lv_iload_n hx hb dX1_bodyFor_10 rfl (lv_at hl 1 rfl) ?_
    refine lv_iconst (v := 0) hx hb dX1_bodyFor_11 (by decide) ?_
    refine lv_bipush (v := 6) hx hb dX1_bodyFor_12 (by decide) ?_
    have kc4 : (4 : Int32).toInt = 4 := by decide
    have kc0 : (0 : Int32).toInt = 0 := by decide
    have kc6 : (6 : Int32).toInt = 6 := by decide
    refine zc_SN (As := [.int 4, .int 0, .int 6]) (rest := []) ⟨hx, hb, hml, hown, hts⟩ (c_within l D cI cJ cZ cP cS po (4) (0) (6) ) ⟨(va_cnB 3 hts gX1_bodyFor_X7_within_n44 rfl rfl rfl (hN.1 (RX1, 44, yX7_within) (List.mem_of_getElem? (i := 13) rfl)) (hts _ (List.mem_of_getElem? (i := 2) rfl)) dh_X7_within ⟨Nat.le_of_ble_eq_true rfl, Nat.le_of_ble_eq_true rfl⟩), (hts _ (List.mem_of_getElem? (i := 1) rfl)), trivial⟩ hK hN hZ rfl hl.1 rfl (Nat.le_of_ble_eq_true rfl) dX1_bodyFor_14 ⟨Nat.le_of_ble_eq_true rfl, Nat.le_of_ble_eq_true rfl⟩ (fun r_2 hr_2 => ?_)
    rcases hr_2 with ⟨rfl, g_3⟩ | ⟨rfl, g_4, g_5⟩ | ⟨rfl, g_6, g_7⟩
    · exfalso; omega
    · exfalso; omega
    · refine lv_if_eq (tgt := 48) hx hb dX1_bodyFor_17 (by decide) (fun c_8 => ?_) (fun c_8 => ?_)
      · exact absurd c_8 (by decide)
      · refine lv_iload_n hx hb dX1_bodyFor_20 rfl (lv_at hl 1 rfl) ?_
        refine lv_iload_n hx hb dX1_bodyFor_21 rfl (lv_at hl 3 rfl) ?_
        refine zc_S (As := [.int 4, .int 1]) (rest := []) ⟨hx, hb, hml, hown, hts⟩ (c_M_own_4_1 l D cI cJ cZ cP cS po  ) (va_cwS 2 hts gX1_bodyFor_X1_ownBody rfl rfl rfl dh_X1_ownBody ⟨Nat.le_of_ble_eq_true rfl, Nat.le_of_ble_eq_true rfl⟩) hK hN hZ rfl hl.1 rfl (Nat.le_of_ble_eq_true rfl) dX1_bodyFor_22 ⟨Nat.le_of_ble_eq_true rfl, Nat.le_of_ble_eq_true rfl⟩ (fun r_9 hr_9 => ?_)
        obtain rfl := hr_9
        refine lv_istore (lv' := [(4, .int (-1)), (3, .int 0), (2, .int 4), (0, .int 4), (1, .int 1)]) hx hb dX1_bodyFor_25 hl (by decide) rfl (fun ls hl => ?_)
        refine lv_iload hx hb dX1_bodyFor_27 (lv_at hl 0 rfl) ?_
        refine lv_iconst (v := (-1)) hx hb dX1_bodyFor_29 (by decide) ?_
        refine lv_icmp_eq (tgt := 36) hx hb dX1_bodyFor_30 (by decide) (fun c_10 => ?_) (fun c_10 => ?_)
        · obtain ⟨t_11, zt_11, yt_11⟩ := hZ.1.2
          refine va_getsN hx hb zt_11 va_S.rf hown (va_Nw.use rfl (hN.2.1 (RX1, 58) (List.mem_of_getElem? (i := 1) rfl))) (fun _ h9 => h9) dX1_bodyFor_36 ?_
          refine lv_iload_n hx hb dX1_bodyFor_39 rfl (lv_at hl 2 rfl) ?_
          refine va_ti hx hb yt_11 va_S.rf (zf_in (by decide) (by decide)) (v := .int 0) (by decide) dX1_bodyFor_40 ?_
          refine lv_istore_n (lv' := [(2, .int 0), (4, .int (-1)), (3, .int 0), (0, .int 4), (1, .int 1)]) hx hb dX1_bodyFor_41 rfl hl (by decide) rfl (fun ls hl => ?_)
          refine lv_iinc (v := 1) (lv' := [(3, .int 1), (2, .int 0), (4, .int (-1)), (0, .int 4), (1, .int 1)]) hx hb dX1_bodyFor_42 hl (k := 2) rfl (by decide) (by decide) rfl (fun ls hl => ?_)
          refine lv_goto (tgt := 4) hx hb dX1_bodyFor_45 (by decide) ?_
          refine lv_iload_n hx hb dX1_bodyFor_4 rfl (lv_at hl 0 rfl) ?_
          refine lv_bipush (v := 7) hx hb dX1_bodyFor_5 (by decide) ?_
          refine lv_icmp_ge (tgt := 48) hx hb dX1_bodyFor_7 (by decide) (fun c_12 => ?_) (fun c_12 => ?_)
          · exact absurd c_12 (by decide)
          · refine lv_iload_n hx hb dX1_bodyFor_10 rfl (lv_at hl 1 rfl) ?_
            refine lv_iconst (v := 0) hx hb dX1_bodyFor_11 (by decide) ?_
            refine lv_bipush (v := 6) hx hb dX1_bodyFor_12 (by decide) ?_
            refine zc_SN (As := [.int 0, .int 0, .int 6]) (rest := []) ⟨hx, hb, hml, hown, hts⟩ (c_within l D cI cJ cZ cP cS po (0) (0) (6) ) ⟨(va_cnB 3 hts gX1_bodyFor_X7_within_n44 rfl rfl rfl (hN.1 (RX1, 44, yX7_within) (List.mem_of_getElem? (i := 13) rfl)) (hts _ (List.mem_of_getElem? (i := 2) rfl)) dh_X7_within ⟨Nat.le_of_ble_eq_true rfl, Nat.le_of_ble_eq_true rfl⟩), (hts _ (List.mem_of_getElem? (i := 1) rfl)), trivial⟩ hK hN hZ rfl hl.1 rfl (Nat.le_of_ble_eq_true rfl) dX1_bodyFor_14 ⟨Nat.le_of_ble_eq_true rfl, Nat.le_of_ble_eq_true rfl⟩ (fun r_13 hr_13 => ?_)
            rcases hr_13 with ⟨rfl, g_14⟩ | ⟨rfl, g_15, g_16⟩ | ⟨rfl, g_17, g_18⟩
            · exfalso; omega
            · exfalso; omega
            · refine lv_if_eq (tgt := 48) hx hb dX1_bodyFor_17 (by decide) (fun c_19 => ?_) (fun c_19 => ?_)
              · exact absurd c_19 (by decide)
              · refine lv_iload_n hx hb dX1_bodyFor_20 rfl (lv_at hl 1 rfl) ?_
                refine lv_iload_n hx hb dX1_bodyFor_21 rfl (lv_at hl 4 rfl) ?_
                refine zc_S (As := [.int 0, .int 1]) (rest := []) ⟨hx, hb, hml, hown, hts⟩ (c_M_own_0_1 l D cI cJ cZ cP cS po  ) (va_cwS 2 hts gX1_bodyFor_X1_ownBody rfl rfl rfl dh_X1_ownBody ⟨Nat.le_of_ble_eq_true rfl, Nat.le_of_ble_eq_true rfl⟩) hK hN hZ rfl hl.1 rfl (Nat.le_of_ble_eq_true rfl) dX1_bodyFor_22 ⟨Nat.le_of_ble_eq_true rfl, Nat.le_of_ble_eq_true rfl⟩ (fun r_20 hr_20 => ?_)
                obtain rfl := hr_20
                refine lv_istore (lv' := [(4, .int 11), (3, .int 1), (2, .int 0), (0, .int 4), (1, .int 1)]) hx hb dX1_bodyFor_25 hl (by decide) rfl (fun ls hl => ?_)
                refine lv_iload hx hb dX1_bodyFor_27 (lv_at hl 0 rfl) ?_
                refine lv_iconst (v := (-1)) hx hb dX1_bodyFor_29 (by decide) ?_
                refine lv_icmp_eq (tgt := 36) hx hb dX1_bodyFor_30 (by decide) (fun c_21 => ?_) (fun c_21 => ?_)
                · exact absurd c_21 (by decide)
                · refine lv_iload hx hb dX1_bodyFor_33 (lv_at hl 0 rfl) ?_
                  exact W.iret (v := 11) hx hb hr (fun t ht hW => ⟨11, rfl, rfl, ht⟩) (fun q hq => by cases hq) dX1_bodyFor_35
        · exact absurd c_10 (by decide)
set_option maxHeartbeats 4000000 in
set_option maxRecDepth 100000 in
theorem c_M_bodyFor_4_2 (l : Launch) (D : va_G) (cI cJ cZ cP cS : ClassId) (po : zPool)   : Met l yX1_bodyFor wsX1_bodyFor ({ frames := 1, cells := 0, slots := 0, locals := 22 }) (va_Pc [.int 4, .int 2] (zR D (zKT cI cJ cZ cP cS) po [])) (vp_Si (fun r => r = 50)) 0 0 (fun _ => False) := by
  refine Met.ofW (cc := cX1_bodyFor) (maxL := 5) (ret := (some .int)) (by decide) rfl ?_
  intro p e s m args below meth c s₁ B hml hv
  obtain ⟨rfl, hP, hK, hN, hZ⟩ := hv
  have hx := B.exec
  have hb := B.bytes
  have hr := B.returns
  have hts := atoms_spec (ws := wsX1_bodyFor) B.pre
  have hown : s.vm.findClass RX1 = some m.cls := findClass_of_methodNamed B.named
  have hlocks := B.notSynchronized
  have hl := lv_entry ([.int 4, .int 2]) (n := 5) (Nat.le_of_ble_eq_true rfl)
  rw [lg_entry_eq]
  generalize (lg_sl ([.int 4, .int 2]) ++ List.replicate (5 - (lg_sl ([.int 4, .int 2])).length) Slot.unset).toArray = ls at hl ⊢
  replace hl : lv_has ls 5 [(0, .int 4), (1, .int 2)] := hl
  refine lv_iload_n hx hb dX1_bodyFor_0 rfl (lv_at hl 0 rfl) ?_
  refine lv_istore_n (lv' := [(2, .int 4), (0, .int 4), (1, .int 2)]) hx hb dX1_bodyFor_1 rfl hl (by decide) rfl (fun ls hl => ?_)
  refine lv_iconst (v := 0) hx hb dX1_bodyFor_2 (by decide) ?_
  refine lv_istore_n (lv' := [(3, .int 0), (2, .int 4), (0, .int 4), (1, .int 2)]) hx hb dX1_bodyFor_3 rfl hl (by decide) rfl (fun ls hl => ?_)
  refine lv_iload_n hx hb dX1_bodyFor_4 rfl (lv_at hl 0 rfl) ?_
  refine lv_bipush (v := 7) hx hb dX1_bodyFor_5 (by decide) ?_
  refine lv_icmp_ge (tgt := 48) hx hb dX1_bodyFor_7 (by decide) (fun c_1 => ?_) (fun c_1 => ?_)
  · exact absurd c_1 (by decide)
  · refine lv_iload_n hx hb dX1_bodyFor_10 rfl (lv_at hl 1 rfl) ?_
    refine lv_iconst (v := 0) hx hb dX1_bodyFor_11 (by decide) ?_
    refine lv_bipush (v := 6) hx hb dX1_bodyFor_12 (by decide) ?_
    have kc4 : (4 : Int32).toInt = 4 := by decide
    have kc0 : (0 : Int32).toInt = 0 := by decide
    have kc6 : (6 : Int32).toInt = 6 := by decide
    refine zc_SN (As := [.int 4, .int 0, .int 6]) (rest := []) ⟨hx, hb, hml, hown, hts⟩ (c_within l D cI cJ cZ cP cS po (4) (0) (6) ) ⟨(va_cnB 3 hts gX1_bodyFor_X7_within_n44 rfl rfl rfl (hN.1 (RX1, 44, yX7_within) (List.mem_of_getElem? (i := 13) rfl)) (hts _ (List.mem_of_getElem? (i := 2) rfl)) dh_X7_within ⟨Nat.le_of_ble_eq_true rfl, Nat.le_of_ble_eq_true rfl⟩), (hts _ (List.mem_of_getElem? (i := 1) rfl)), trivial⟩ hK hN hZ rfl hl.1 rfl (Nat.le_of_ble_eq_true rfl) dX1_bodyFor_14 ⟨Nat.le_of_ble_eq_true rfl, Nat.le_of_ble_eq_true rfl⟩ (fun r_2 hr_2 => ?_)
    rcases hr_2 with ⟨rfl, g_3⟩ | ⟨rfl, g_4, g_5⟩ | ⟨rfl, g_6, g_7⟩
    · exfalso; omega
    · exfalso; omega
    · refine lv_if_eq (tgt := 48) hx hb dX1_bodyFor_17 (by decide) (fun c_8 => ?_) (fun c_8 => ?_)
      · exact absurd c_8 (by decide)
      · refine lv_iload_n hx hb dX1_bodyFor_20 rfl (lv_at hl 1 rfl) ?_
        refine lv_iload_n hx hb dX1_bodyFor_21 rfl (lv_at hl 3 rfl) ?_
        refine zc_S (As := [.int 4, .int 2]) (rest := []) ⟨hx, hb, hml, hown, hts⟩ (c_M_own_4_2 l D cI cJ cZ cP cS po  ) (va_cwS 2 hts gX1_bodyFor_X1_ownBody rfl rfl rfl dh_X1_ownBody ⟨Nat.le_of_ble_eq_true rfl, Nat.le_of_ble_eq_true rfl⟩) hK hN hZ rfl hl.1 rfl (Nat.le_of_ble_eq_true rfl) dX1_bodyFor_22 ⟨Nat.le_of_ble_eq_true rfl, Nat.le_of_ble_eq_true rfl⟩ (fun r_9 hr_9 => ?_)
        obtain rfl := hr_9
        refine lv_istore (lv' := [(4, .int 50), (3, .int 0), (2, .int 4), (0, .int 4), (1, .int 2)]) hx hb dX1_bodyFor_25 hl (by decide) rfl (fun ls hl => ?_)
        refine lv_iload hx hb dX1_bodyFor_27 (lv_at hl 0 rfl) ?_
        refine lv_iconst (v := (-1)) hx hb dX1_bodyFor_29 (by decide) ?_
        refine lv_icmp_eq (tgt := 36) hx hb dX1_bodyFor_30 (by decide) (fun c_10 => ?_) (fun c_10 => ?_)
        · exact absurd c_10 (by decide)
        · refine lv_iload hx hb dX1_bodyFor_33 (lv_at hl 0 rfl) ?_
          exact W.iret (v := 50) hx hb hr (fun t ht hW => ⟨50, rfl, rfl, ht⟩) (fun q hq => by cases hq) dX1_bodyFor_35
set_option maxHeartbeats 4000000 in
set_option maxRecDepth 100000 in
theorem c_M_bodyFor_5_0 (l : Launch) (D : va_G) (cI cJ cZ cP cS : ClassId) (po : zPool)   : Met l yX1_bodyFor wsX1_bodyFor ({ frames := 1, cells := 0, slots := 0, locals := 22 }) (va_Pc [.int 5, .int 0] (zR D (zKT cI cJ cZ cP cS) po [])) (vp_Si (fun r => r = 10)) 0 0 (fun _ => False) := by
  refine Met.ofW (cc := cX1_bodyFor) (maxL := 5) (ret := (some .int)) (by decide) rfl ?_
  intro p e s m args below meth c s₁ B hml hv
  obtain ⟨rfl, hP, hK, hN, hZ⟩ := hv
  have hx := B.exec
  have hb := B.bytes
  have hr := B.returns
  have hts := atoms_spec (ws := wsX1_bodyFor) B.pre
  have hown : s.vm.findClass RX1 = some m.cls := findClass_of_methodNamed B.named
  have hlocks := B.notSynchronized
  have hl := lv_entry ([.int 5, .int 0]) (n := 5) (Nat.le_of_ble_eq_true rfl)
  rw [lg_entry_eq]
  generalize (lg_sl ([.int 5, .int 0]) ++ List.replicate (5 - (lg_sl ([.int 5, .int 0])).length) Slot.unset).toArray = ls at hl ⊢
  replace hl : lv_has ls 5 [(0, .int 5), (1, .int 0)] := hl
  refine lv_iload_n hx hb dX1_bodyFor_0 rfl (lv_at hl 0 rfl) ?_
  refine lv_istore_n (lv' := [(2, .int 5), (0, .int 5), (1, .int 0)]) hx hb dX1_bodyFor_1 rfl hl (by decide) rfl (fun ls hl => ?_)
  refine lv_iconst (v := 0) hx hb dX1_bodyFor_2 (by decide) ?_
  refine lv_istore_n (lv' := [(3, .int 0), (2, .int 5), (0, .int 5), (1, .int 0)]) hx hb dX1_bodyFor_3 rfl hl (by decide) rfl (fun ls hl => ?_)
  refine lv_iload_n hx hb dX1_bodyFor_4 rfl (lv_at hl 0 rfl) ?_
  refine lv_bipush (v := 7) hx hb dX1_bodyFor_5 (by decide) ?_
  refine lv_icmp_ge (tgt := 48) hx hb dX1_bodyFor_7 (by decide) (fun c_1 => ?_) (fun c_1 => ?_)
  · exact absurd c_1 (by decide)
  · refine lv_iload_n hx hb dX1_bodyFor_10 rfl (lv_at hl 1 rfl) ?_
    refine lv_iconst (v := 0) hx hb dX1_bodyFor_11 (by decide) ?_
    refine lv_bipush (v := 6) hx hb dX1_bodyFor_12 (by decide) ?_
    have kc5 : (5 : Int32).toInt = 5 := by decide
    have kc0 : (0 : Int32).toInt = 0 := by decide
    have kc6 : (6 : Int32).toInt = 6 := by decide
    refine zc_SN (As := [.int 5, .int 0, .int 6]) (rest := []) ⟨hx, hb, hml, hown, hts⟩ (c_within l D cI cJ cZ cP cS po (5) (0) (6) ) ⟨(va_cnB 3 hts gX1_bodyFor_X7_within_n44 rfl rfl rfl (hN.1 (RX1, 44, yX7_within) (List.mem_of_getElem? (i := 13) rfl)) (hts _ (List.mem_of_getElem? (i := 2) rfl)) dh_X7_within ⟨Nat.le_of_ble_eq_true rfl, Nat.le_of_ble_eq_true rfl⟩), (hts _ (List.mem_of_getElem? (i := 1) rfl)), trivial⟩ hK hN hZ rfl hl.1 rfl (Nat.le_of_ble_eq_true rfl) dX1_bodyFor_14 ⟨Nat.le_of_ble_eq_true rfl, Nat.le_of_ble_eq_true rfl⟩ (fun r_2 hr_2 => ?_)
    rcases hr_2 with ⟨rfl, g_3⟩ | ⟨rfl, g_4, g_5⟩ | ⟨rfl, g_6, g_7⟩
    · exfalso; omega
    · exfalso; omega
    · refine lv_if_eq (tgt := 48) hx hb dX1_bodyFor_17 (by decide) (fun c_8 => ?_) (fun c_8 => ?_)
      · exact absurd c_8 (by decide)
      · refine lv_iload_n hx hb dX1_bodyFor_20 rfl (lv_at hl 1 rfl) ?_
        refine lv_iload_n hx hb dX1_bodyFor_21 rfl (lv_at hl 3 rfl) ?_
        refine zc_S (As := [.int 5, .int 0]) (rest := []) ⟨hx, hb, hml, hown, hts⟩ (c_M_own_5_0 l D cI cJ cZ cP cS po  ) (va_cwS 2 hts gX1_bodyFor_X1_ownBody rfl rfl rfl dh_X1_ownBody ⟨Nat.le_of_ble_eq_true rfl, Nat.le_of_ble_eq_true rfl⟩) hK hN hZ rfl hl.1 rfl (Nat.le_of_ble_eq_true rfl) dX1_bodyFor_22 ⟨Nat.le_of_ble_eq_true rfl, Nat.le_of_ble_eq_true rfl⟩ (fun r_9 hr_9 => ?_)
        obtain rfl := hr_9
        refine lv_istore (lv' := [(4, .int (-1)), (3, .int 0), (2, .int 5), (0, .int 5), (1, .int 0)]) hx hb dX1_bodyFor_25 hl (by decide) rfl (fun ls hl => ?_)
        refine lv_iload hx hb dX1_bodyFor_27 (lv_at hl 0 rfl) ?_
        refine lv_iconst (v := (-1)) hx hb dX1_bodyFor_29 (by decide) ?_
        refine lv_icmp_eq (tgt := 36) hx hb dX1_bodyFor_30 (by decide) (fun c_10 => ?_) (fun c_10 => ?_)
        · obtain ⟨t_11, zt_11, yt_11⟩ := hZ.1.2
          refine va_getsN hx hb zt_11 va_S.rf hown (va_Nw.use rfl (hN.2.1 (RX1, 58) (List.mem_of_getElem? (i := 1) rfl))) (fun _ h9 => h9) dX1_bodyFor_36 ?_
          refine lv_iload_n hx hb dX1_bodyFor_39 rfl (lv_at hl 2 rfl) ?_
          refine va_ti hx hb yt_11 va_S.rf (zf_in (by decide) (by decide)) (v := .int 2) (by decide) dX1_bodyFor_40 ?_
          refine lv_istore_n (lv' := [(2, .int 2), (4, .int (-1)), (3, .int 0), (0, .int 5), (1, .int 0)]) hx hb dX1_bodyFor_41 rfl hl (by decide) rfl (fun ls hl => ?_)
          refine lv_iinc (v := 1) (lv' := [(3, .int 1), (2, .int 2), (4, .int (-1)), (0, .int 5), (1, .int 0)]) hx hb dX1_bodyFor_42 hl (k := 2) rfl (by decide) (by decide) rfl (fun ls hl => ?_)
          refine lv_goto (tgt := 4) hx hb dX1_bodyFor_45 (by decide) ?_
          refine lv_iload_n hx hb dX1_bodyFor_4 rfl (lv_at hl 0 rfl) ?_
          refine lv_bipush (v := 7) hx hb dX1_bodyFor_5 (by decide) ?_
          refine lv_icmp_ge (tgt := 48) hx hb dX1_bodyFor_7 (by decide) (fun c_12 => ?_) (fun c_12 => ?_)
          · exact absurd c_12 (by decide)
          · refine lv_iload_n hx hb dX1_bodyFor_10 rfl (lv_at hl 1 rfl) ?_
            refine lv_iconst (v := 0) hx hb dX1_bodyFor_11 (by decide) ?_
            refine lv_bipush (v := 6) hx hb dX1_bodyFor_12 (by decide) ?_
            have kc2 : (2 : Int32).toInt = 2 := by decide
            refine zc_SN (As := [.int 2, .int 0, .int 6]) (rest := []) ⟨hx, hb, hml, hown, hts⟩ (c_within l D cI cJ cZ cP cS po (2) (0) (6) ) ⟨(va_cnB 3 hts gX1_bodyFor_X7_within_n44 rfl rfl rfl (hN.1 (RX1, 44, yX7_within) (List.mem_of_getElem? (i := 13) rfl)) (hts _ (List.mem_of_getElem? (i := 2) rfl)) dh_X7_within ⟨Nat.le_of_ble_eq_true rfl, Nat.le_of_ble_eq_true rfl⟩), (hts _ (List.mem_of_getElem? (i := 1) rfl)), trivial⟩ hK hN hZ rfl hl.1 rfl (Nat.le_of_ble_eq_true rfl) dX1_bodyFor_14 ⟨Nat.le_of_ble_eq_true rfl, Nat.le_of_ble_eq_true rfl⟩ (fun r_13 hr_13 => ?_)
            rcases hr_13 with ⟨rfl, g_14⟩ | ⟨rfl, g_15, g_16⟩ | ⟨rfl, g_17, g_18⟩
            · exfalso; omega
            · exfalso; omega
            · refine lv_if_eq (tgt := 48) hx hb dX1_bodyFor_17 (by decide) (fun c_19 => ?_) (fun c_19 => ?_)
              · exact absurd c_19 (by decide)
              · refine lv_iload_n hx hb dX1_bodyFor_20 rfl (lv_at hl 1 rfl) ?_
                refine lv_iload_n hx hb dX1_bodyFor_21 rfl (lv_at hl 4 rfl) ?_
                refine zc_S (As := [.int 2, .int 0]) (rest := []) ⟨hx, hb, hml, hown, hts⟩ (c_M_own_2_0 l D cI cJ cZ cP cS po  ) (va_cwS 2 hts gX1_bodyFor_X1_ownBody rfl rfl rfl dh_X1_ownBody ⟨Nat.le_of_ble_eq_true rfl, Nat.le_of_ble_eq_true rfl⟩) hK hN hZ rfl hl.1 rfl (Nat.le_of_ble_eq_true rfl) dX1_bodyFor_22 ⟨Nat.le_of_ble_eq_true rfl, Nat.le_of_ble_eq_true rfl⟩ (fun r_20 hr_20 => ?_)
                obtain rfl := hr_20
                refine lv_istore (lv' := [(4, .int (-1)), (3, .int 1), (2, .int 2), (0, .int 5), (1, .int 0)]) hx hb dX1_bodyFor_25 hl (by decide) rfl (fun ls hl => ?_)
                refine lv_iload hx hb dX1_bodyFor_27 (lv_at hl 0 rfl) ?_
                refine lv_iconst (v := (-1)) hx hb dX1_bodyFor_29 (by decide) ?_
                refine lv_icmp_eq (tgt := 36) hx hb dX1_bodyFor_30 (by decide) (fun c_21 => ?_) (fun c_21 => ?_)
                · obtain ⟨t_22, zt_22, yt_22⟩ := hZ.1.2
                  refine va_getsN hx hb zt_22 va_S.rf hown (va_Nw.use rfl (hN.2.1 (RX1, 58) (List.mem_of_getElem? (i := 1) rfl))) (fun _ h9 => h9) dX1_bodyFor_36 ?_
                  refine lv_iload_n hx hb dX1_bodyFor_39 rfl (lv_at hl 2 rfl) ?_
                  refine va_ti hx hb yt_22 va_S.rf (zf_in (by decide) (by decide)) (v := .int 0) (by decide) dX1_bodyFor_40 ?_
                  refine lv_istore_n (lv' := [(2, .int 0), (4, .int (-1)), (3, .int 1), (0, .int 5), (1, .int 0)]) hx hb dX1_bodyFor_41 rfl hl (by decide) rfl (fun ls hl => ?_)
                  refine lv_iinc (v := 2) (lv' := [(3, .int 2), (2, .int 0), (4, .int (-1)), (0, .int 5), (1, .int 0)]) hx hb dX1_bodyFor_42 hl (k := 2) rfl (by decide) (by decide) rfl (fun ls hl => ?_)
                  refine lv_goto (tgt := 4) hx hb dX1_bodyFor_45 (by decide) ?_
                  refine lv_iload_n hx hb dX1_bodyFor_4 rfl (lv_at hl 0 rfl) ?_
                  refine lv_bipush (v := 7) hx hb dX1_bodyFor_5 (by decide) ?_
                  refine lv_icmp_ge (tgt := 48) hx hb dX1_bodyFor_7 (by decide) (fun c_23 => ?_) (fun c_23 => ?_)
                  · exact absurd c_23 (by decide)
                  · refine lv_iload_n hx hb dX1_bodyFor_10 rfl (lv_at hl 1 rfl) ?_
                    refine lv_iconst (v := 0) hx hb dX1_bodyFor_11 (by decide) ?_
                    refine lv_bipush (v := 6) hx hb dX1_bodyFor_12 (by decide) ?_
                    refine zc_SN (As := [.int 0, .int 0, .int 6]) (rest := []) ⟨hx, hb, hml, hown, hts⟩ (c_within l D cI cJ cZ cP cS po (0) (0) (6) ) ⟨(va_cnB 3 hts gX1_bodyFor_X7_within_n44 rfl rfl rfl (hN.1 (RX1, 44, yX7_within) (List.mem_of_getElem? (i := 13) rfl)) (hts _ (List.mem_of_getElem? (i := 2) rfl)) dh_X7_within ⟨Nat.le_of_ble_eq_true rfl, Nat.le_of_ble_eq_true rfl⟩), (hts _ (List.mem_of_getElem? (i := 1) rfl)), trivial⟩ hK hN hZ rfl hl.1 rfl (Nat.le_of_ble_eq_true rfl) dX1_bodyFor_14 ⟨Nat.le_of_ble_eq_true rfl, Nat.le_of_ble_eq_true rfl⟩ (fun r_24 hr_24 => ?_)
                    rcases hr_24 with ⟨rfl, g_25⟩ | ⟨rfl, g_26, g_27⟩ | ⟨rfl, g_28, g_29⟩
                    · exfalso; omega
                    · exfalso; omega
                    · refine lv_if_eq (tgt := 48) hx hb dX1_bodyFor_17 (by decide) (fun c_30 => ?_) (fun c_30 => ?_)
                      · exact absurd c_30 (by decide)
                      · refine lv_iload_n hx hb dX1_bodyFor_20 rfl (lv_at hl 1 rfl) ?_
                        refine lv_iload_n hx hb dX1_bodyFor_21 rfl (lv_at hl 4 rfl) ?_
                        refine zc_S (As := [.int 0, .int 0]) (rest := []) ⟨hx, hb, hml, hown, hts⟩ (c_M_own_0_0 l D cI cJ cZ cP cS po  ) (va_cwS 2 hts gX1_bodyFor_X1_ownBody rfl rfl rfl dh_X1_ownBody ⟨Nat.le_of_ble_eq_true rfl, Nat.le_of_ble_eq_true rfl⟩) hK hN hZ rfl hl.1 rfl (Nat.le_of_ble_eq_true rfl) dX1_bodyFor_22 ⟨Nat.le_of_ble_eq_true rfl, Nat.le_of_ble_eq_true rfl⟩ (fun r_31 hr_31 => ?_)
                        obtain rfl := hr_31
                        refine lv_istore (lv' := [(4, .int 10), (3, .int 2), (2, .int 0), (0, .int 5), (1, .int 0)]) hx hb dX1_bodyFor_25 hl (by decide) rfl (fun ls hl => ?_)
                        refine lv_iload hx hb dX1_bodyFor_27 (lv_at hl 0 rfl) ?_
                        refine lv_iconst (v := (-1)) hx hb dX1_bodyFor_29 (by decide) ?_
                        refine lv_icmp_eq (tgt := 36) hx hb dX1_bodyFor_30 (by decide) (fun c_32 => ?_) (fun c_32 => ?_)
                        · exact absurd c_32 (by decide)
                        · refine lv_iload hx hb dX1_bodyFor_33 (lv_at hl 0 rfl) ?_
                          exact W.iret (v := 10) hx hb hr (fun t ht hW => ⟨10, rfl, rfl, ht⟩) (fun q hq => by cases hq) dX1_bodyFor_35
                · exact absurd c_21 (by decide)
        · exact absurd c_10 (by decide)
set_option maxHeartbeats 4000000 in
set_option maxRecDepth 100000 in
theorem c_M_bodyFor_5_1 (l : Launch) (D : va_G) (cI cJ cZ cP cS : ClassId) (po : zPool)   : Met l yX1_bodyFor wsX1_bodyFor ({ frames := 1, cells := 0, slots := 0, locals := 22 }) (va_Pc [.int 5, .int 1] (zR D (zKT cI cJ cZ cP cS) po [])) (vp_Si (fun r => r = 30)) 0 0 (fun _ => False) := by
  refine Met.ofW (cc := cX1_bodyFor) (maxL := 5) (ret := (some .int)) (by decide) rfl ?_
  intro p e s m args below meth c s₁ B hml hv
  obtain ⟨rfl, hP, hK, hN, hZ⟩ := hv
  have hx := B.exec
  have hb := B.bytes
  have hr := B.returns
  have hts := atoms_spec (ws := wsX1_bodyFor) B.pre
  have hown : s.vm.findClass RX1 = some m.cls := findClass_of_methodNamed B.named
  have hlocks := B.notSynchronized
  have hl := lv_entry ([.int 5, .int 1]) (n := 5) (Nat.le_of_ble_eq_true rfl)
  rw [lg_entry_eq]
  generalize (lg_sl ([.int 5, .int 1]) ++ List.replicate (5 - (lg_sl ([.int 5, .int 1])).length) Slot.unset).toArray = ls at hl ⊢
  replace hl : lv_has ls 5 [(0, .int 5), (1, .int 1)] := hl
  refine lv_iload_n hx hb dX1_bodyFor_0 rfl (lv_at hl 0 rfl) ?_
  refine lv_istore_n (lv' := [(2, .int 5), (0, .int 5), (1, .int 1)]) hx hb dX1_bodyFor_1 rfl hl (by decide) rfl (fun ls hl => ?_)
  refine lv_iconst (v := 0) hx hb dX1_bodyFor_2 (by decide) ?_
  refine lv_istore_n (lv' := [(3, .int 0), (2, .int 5), (0, .int 5), (1, .int 1)]) hx hb dX1_bodyFor_3 rfl hl (by decide) rfl (fun ls hl => ?_)
  refine lv_iload_n hx hb dX1_bodyFor_4 rfl (lv_at hl 0 rfl) ?_
  refine lv_bipush (v := 7) hx hb dX1_bodyFor_5 (by decide) ?_
  refine lv_icmp_ge (tgt := 48) hx hb dX1_bodyFor_7 (by decide) (fun c_1 => ?_) (fun c_1 => ?_)
  · exact absurd c_1 (by decide)
  · refine lv_iload_n hx hb dX1_bodyFor_10 rfl (lv_at hl 1 rfl) ?_
    refine lv_iconst (v := 0) hx hb dX1_bodyFor_11 (by decide) ?_
    refine lv_bipush (v := 6) hx hb dX1_bodyFor_12 (by decide) ?_
    have kc5 : (5 : Int32).toInt = 5 := by decide
    have kc0 : (0 : Int32).toInt = 0 := by decide
    have kc6 : (6 : Int32).toInt = 6 := by decide
    refine zc_SN (As := [.int 5, .int 0, .int 6]) (rest := []) ⟨hx, hb, hml, hown, hts⟩ (c_within l D cI cJ cZ cP cS po (5) (0) (6) ) ⟨(va_cnB 3 hts gX1_bodyFor_X7_within_n44 rfl rfl rfl (hN.1 (RX1, 44, yX7_within) (List.mem_of_getElem? (i := 13) rfl)) (hts _ (List.mem_of_getElem? (i := 2) rfl)) dh_X7_within ⟨Nat.le_of_ble_eq_true rfl, Nat.le_of_ble_eq_true rfl⟩), (hts _ (List.mem_of_getElem? (i := 1) rfl)), trivial⟩ hK hN hZ rfl hl.1 rfl (Nat.le_of_ble_eq_true rfl) dX1_bodyFor_14 ⟨Nat.le_of_ble_eq_true rfl, Nat.le_of_ble_eq_true rfl⟩ (fun r_2 hr_2 => ?_)
    rcases hr_2 with ⟨rfl, g_3⟩ | ⟨rfl, g_4, g_5⟩ | ⟨rfl, g_6, g_7⟩
    · exfalso; omega
    · exfalso; omega
    · refine lv_if_eq (tgt := 48) hx hb dX1_bodyFor_17 (by decide) (fun c_8 => ?_) (fun c_8 => ?_)
      · exact absurd c_8 (by decide)
      · refine lv_iload_n hx hb dX1_bodyFor_20 rfl (lv_at hl 1 rfl) ?_
        refine lv_iload_n hx hb dX1_bodyFor_21 rfl (lv_at hl 3 rfl) ?_
        refine zc_S (As := [.int 5, .int 1]) (rest := []) ⟨hx, hb, hml, hown, hts⟩ (c_M_own_5_1 l D cI cJ cZ cP cS po  ) (va_cwS 2 hts gX1_bodyFor_X1_ownBody rfl rfl rfl dh_X1_ownBody ⟨Nat.le_of_ble_eq_true rfl, Nat.le_of_ble_eq_true rfl⟩) hK hN hZ rfl hl.1 rfl (Nat.le_of_ble_eq_true rfl) dX1_bodyFor_22 ⟨Nat.le_of_ble_eq_true rfl, Nat.le_of_ble_eq_true rfl⟩ (fun r_9 hr_9 => ?_)
        obtain rfl := hr_9
        refine lv_istore (lv' := [(4, .int (-1)), (3, .int 0), (2, .int 5), (0, .int 5), (1, .int 1)]) hx hb dX1_bodyFor_25 hl (by decide) rfl (fun ls hl => ?_)
        refine lv_iload hx hb dX1_bodyFor_27 (lv_at hl 0 rfl) ?_
        refine lv_iconst (v := (-1)) hx hb dX1_bodyFor_29 (by decide) ?_
        refine lv_icmp_eq (tgt := 36) hx hb dX1_bodyFor_30 (by decide) (fun c_10 => ?_) (fun c_10 => ?_)
        · obtain ⟨t_11, zt_11, yt_11⟩ := hZ.1.2
          refine va_getsN hx hb zt_11 va_S.rf hown (va_Nw.use rfl (hN.2.1 (RX1, 58) (List.mem_of_getElem? (i := 1) rfl))) (fun _ h9 => h9) dX1_bodyFor_36 ?_
          refine lv_iload_n hx hb dX1_bodyFor_39 rfl (lv_at hl 2 rfl) ?_
          refine va_ti hx hb yt_11 va_S.rf (zf_in (by decide) (by decide)) (v := .int 2) (by decide) dX1_bodyFor_40 ?_
          refine lv_istore_n (lv' := [(2, .int 2), (4, .int (-1)), (3, .int 0), (0, .int 5), (1, .int 1)]) hx hb dX1_bodyFor_41 rfl hl (by decide) rfl (fun ls hl => ?_)
          refine lv_iinc (v := 1) (lv' := [(3, .int 1), (2, .int 2), (4, .int (-1)), (0, .int 5), (1, .int 1)]) hx hb dX1_bodyFor_42 hl (k := 2) rfl (by decide) (by decide) rfl (fun ls hl => ?_)
          refine lv_goto (tgt := 4) hx hb dX1_bodyFor_45 (by decide) ?_
          refine lv_iload_n hx hb dX1_bodyFor_4 rfl (lv_at hl 0 rfl) ?_
          refine lv_bipush (v := 7) hx hb dX1_bodyFor_5 (by decide) ?_
          refine lv_icmp_ge (tgt := 48) hx hb dX1_bodyFor_7 (by decide) (fun c_12 => ?_) (fun c_12 => ?_)
          · exact absurd c_12 (by decide)
          · refine lv_iload_n hx hb dX1_bodyFor_10 rfl (lv_at hl 1 rfl) ?_
            refine lv_iconst (v := 0) hx hb dX1_bodyFor_11 (by decide) ?_
            refine lv_bipush (v := 6) hx hb dX1_bodyFor_12 (by decide) ?_
            have kc2 : (2 : Int32).toInt = 2 := by decide
            refine zc_SN (As := [.int 2, .int 0, .int 6]) (rest := []) ⟨hx, hb, hml, hown, hts⟩ (c_within l D cI cJ cZ cP cS po (2) (0) (6) ) ⟨(va_cnB 3 hts gX1_bodyFor_X7_within_n44 rfl rfl rfl (hN.1 (RX1, 44, yX7_within) (List.mem_of_getElem? (i := 13) rfl)) (hts _ (List.mem_of_getElem? (i := 2) rfl)) dh_X7_within ⟨Nat.le_of_ble_eq_true rfl, Nat.le_of_ble_eq_true rfl⟩), (hts _ (List.mem_of_getElem? (i := 1) rfl)), trivial⟩ hK hN hZ rfl hl.1 rfl (Nat.le_of_ble_eq_true rfl) dX1_bodyFor_14 ⟨Nat.le_of_ble_eq_true rfl, Nat.le_of_ble_eq_true rfl⟩ (fun r_13 hr_13 => ?_)
            rcases hr_13 with ⟨rfl, g_14⟩ | ⟨rfl, g_15, g_16⟩ | ⟨rfl, g_17, g_18⟩
            · exfalso; omega
            · exfalso; omega
            · refine lv_if_eq (tgt := 48) hx hb dX1_bodyFor_17 (by decide) (fun c_19 => ?_) (fun c_19 => ?_)
              · exact absurd c_19 (by decide)
              · refine lv_iload_n hx hb dX1_bodyFor_20 rfl (lv_at hl 1 rfl) ?_
                refine lv_iload_n hx hb dX1_bodyFor_21 rfl (lv_at hl 4 rfl) ?_
                refine zc_S (As := [.int 2, .int 1]) (rest := []) ⟨hx, hb, hml, hown, hts⟩ (c_M_own_2_1 l D cI cJ cZ cP cS po  ) (va_cwS 2 hts gX1_bodyFor_X1_ownBody rfl rfl rfl dh_X1_ownBody ⟨Nat.le_of_ble_eq_true rfl, Nat.le_of_ble_eq_true rfl⟩) hK hN hZ rfl hl.1 rfl (Nat.le_of_ble_eq_true rfl) dX1_bodyFor_22 ⟨Nat.le_of_ble_eq_true rfl, Nat.le_of_ble_eq_true rfl⟩ (fun r_20 hr_20 => ?_)
                obtain rfl := hr_20
                refine lv_istore (lv' := [(4, .int 30), (3, .int 1), (2, .int 2), (0, .int 5), (1, .int 1)]) hx hb dX1_bodyFor_25 hl (by decide) rfl (fun ls hl => ?_)
                refine lv_iload hx hb dX1_bodyFor_27 (lv_at hl 0 rfl) ?_
                refine lv_iconst (v := (-1)) hx hb dX1_bodyFor_29 (by decide) ?_
                refine lv_icmp_eq (tgt := 36) hx hb dX1_bodyFor_30 (by decide) (fun c_21 => ?_) (fun c_21 => ?_)
                · exact absurd c_21 (by decide)
                · refine lv_iload hx hb dX1_bodyFor_33 (lv_at hl 0 rfl) ?_
                  exact W.iret (v := 30) hx hb hr (fun t ht hW => ⟨30, rfl, rfl, ht⟩) (fun q hq => by cases hq) dX1_bodyFor_35
        · exact absurd c_10 (by decide)
set_option maxHeartbeats 4000000 in
set_option maxRecDepth 100000 in
theorem c_M_bodyFor_5_2 (l : Launch) (D : va_G) (cI cJ cZ cP cS : ClassId) (po : zPool)   : Met l yX1_bodyFor wsX1_bodyFor ({ frames := 1, cells := 0, slots := 0, locals := 22 }) (va_Pc [.int 5, .int 2] (zR D (zKT cI cJ cZ cP cS) po [])) (vp_Si (fun r => r = 60)) 0 0 (fun _ => False) := by
  refine Met.ofW (cc := cX1_bodyFor) (maxL := 5) (ret := (some .int)) (by decide) rfl ?_
  intro p e s m args below meth c s₁ B hml hv
  obtain ⟨rfl, hP, hK, hN, hZ⟩ := hv
  have hx := B.exec
  have hb := B.bytes
  have hr := B.returns
  have hts := atoms_spec (ws := wsX1_bodyFor) B.pre
  have hown : s.vm.findClass RX1 = some m.cls := findClass_of_methodNamed B.named
  have hlocks := B.notSynchronized
  have hl := lv_entry ([.int 5, .int 2]) (n := 5) (Nat.le_of_ble_eq_true rfl)
  rw [lg_entry_eq]
  generalize (lg_sl ([.int 5, .int 2]) ++ List.replicate (5 - (lg_sl ([.int 5, .int 2])).length) Slot.unset).toArray = ls at hl ⊢
  replace hl : lv_has ls 5 [(0, .int 5), (1, .int 2)] := hl
  refine lv_iload_n hx hb dX1_bodyFor_0 rfl (lv_at hl 0 rfl) ?_
  refine lv_istore_n (lv' := [(2, .int 5), (0, .int 5), (1, .int 2)]) hx hb dX1_bodyFor_1 rfl hl (by decide) rfl (fun ls hl => ?_)
  refine lv_iconst (v := 0) hx hb dX1_bodyFor_2 (by decide) ?_
  refine lv_istore_n (lv' := [(3, .int 0), (2, .int 5), (0, .int 5), (1, .int 2)]) hx hb dX1_bodyFor_3 rfl hl (by decide) rfl (fun ls hl => ?_)
  refine lv_iload_n hx hb dX1_bodyFor_4 rfl (lv_at hl 0 rfl) ?_
  refine lv_bipush (v := 7) hx hb dX1_bodyFor_5 (by decide) ?_
  refine lv_icmp_ge (tgt := 48) hx hb dX1_bodyFor_7 (by decide) (fun c_1 => ?_) (fun c_1 => ?_)
  · exact absurd c_1 (by decide)
  · refine lv_iload_n hx hb dX1_bodyFor_10 rfl (lv_at hl 1 rfl) ?_
    refine lv_iconst (v := 0) hx hb dX1_bodyFor_11 (by decide) ?_
    refine lv_bipush (v := 6) hx hb dX1_bodyFor_12 (by decide) ?_
    have kc5 : (5 : Int32).toInt = 5 := by decide
    have kc0 : (0 : Int32).toInt = 0 := by decide
    have kc6 : (6 : Int32).toInt = 6 := by decide
    refine zc_SN (As := [.int 5, .int 0, .int 6]) (rest := []) ⟨hx, hb, hml, hown, hts⟩ (c_within l D cI cJ cZ cP cS po (5) (0) (6) ) ⟨(va_cnB 3 hts gX1_bodyFor_X7_within_n44 rfl rfl rfl (hN.1 (RX1, 44, yX7_within) (List.mem_of_getElem? (i := 13) rfl)) (hts _ (List.mem_of_getElem? (i := 2) rfl)) dh_X7_within ⟨Nat.le_of_ble_eq_true rfl, Nat.le_of_ble_eq_true rfl⟩), (hts _ (List.mem_of_getElem? (i := 1) rfl)), trivial⟩ hK hN hZ rfl hl.1 rfl (Nat.le_of_ble_eq_true rfl) dX1_bodyFor_14 ⟨Nat.le_of_ble_eq_true rfl, Nat.le_of_ble_eq_true rfl⟩ (fun r_2 hr_2 => ?_)
    rcases hr_2 with ⟨rfl, g_3⟩ | ⟨rfl, g_4, g_5⟩ | ⟨rfl, g_6, g_7⟩
    · exfalso; omega
    · exfalso; omega
    · refine lv_if_eq (tgt := 48) hx hb dX1_bodyFor_17 (by decide) (fun c_8 => ?_) (fun c_8 => ?_)
      · exact absurd c_8 (by decide)
      · refine lv_iload_n hx hb dX1_bodyFor_20 rfl (lv_at hl 1 rfl) ?_
        refine lv_iload_n hx hb dX1_bodyFor_21 rfl (lv_at hl 3 rfl) ?_
        refine zc_S (As := [.int 5, .int 2]) (rest := []) ⟨hx, hb, hml, hown, hts⟩ (c_M_own_5_2 l D cI cJ cZ cP cS po  ) (va_cwS 2 hts gX1_bodyFor_X1_ownBody rfl rfl rfl dh_X1_ownBody ⟨Nat.le_of_ble_eq_true rfl, Nat.le_of_ble_eq_true rfl⟩) hK hN hZ rfl hl.1 rfl (Nat.le_of_ble_eq_true rfl) dX1_bodyFor_22 ⟨Nat.le_of_ble_eq_true rfl, Nat.le_of_ble_eq_true rfl⟩ (fun r_9 hr_9 => ?_)
        obtain rfl := hr_9
        refine lv_istore (lv' := [(4, .int 60), (3, .int 0), (2, .int 5), (0, .int 5), (1, .int 2)]) hx hb dX1_bodyFor_25 hl (by decide) rfl (fun ls hl => ?_)
        refine lv_iload hx hb dX1_bodyFor_27 (lv_at hl 0 rfl) ?_
        refine lv_iconst (v := (-1)) hx hb dX1_bodyFor_29 (by decide) ?_
        refine lv_icmp_eq (tgt := 36) hx hb dX1_bodyFor_30 (by decide) (fun c_10 => ?_) (fun c_10 => ?_)
        · exact absurd c_10 (by decide)
        · refine lv_iload hx hb dX1_bodyFor_33 (lv_at hl 0 rfl) ?_
          exact W.iret (v := 60) hx hb hr (fun t ht hW => ⟨60, rfl, rfl, ht⟩) (fun q hq => by cases hq) dX1_bodyFor_35
set_option maxHeartbeats 4000000 in
set_option maxRecDepth 100000 in
theorem c_M_bodyFor_6_0 (l : Launch) (D : va_G) (cI cJ cZ cP cS : ClassId) (po : zPool)   : Met l yX1_bodyFor wsX1_bodyFor ({ frames := 1, cells := 0, slots := 0, locals := 22 }) (va_Pc [.int 6, .int 0] (zR D (zKT cI cJ cZ cP cS) po [])) (vp_Si (fun r => r = 70)) 0 0 (fun _ => False) := by
  refine Met.ofW (cc := cX1_bodyFor) (maxL := 5) (ret := (some .int)) (by decide) rfl ?_
  intro p e s m args below meth c s₁ B hml hv
  obtain ⟨rfl, hP, hK, hN, hZ⟩ := hv
  have hx := B.exec
  have hb := B.bytes
  have hr := B.returns
  have hts := atoms_spec (ws := wsX1_bodyFor) B.pre
  have hown : s.vm.findClass RX1 = some m.cls := findClass_of_methodNamed B.named
  have hlocks := B.notSynchronized
  have hl := lv_entry ([.int 6, .int 0]) (n := 5) (Nat.le_of_ble_eq_true rfl)
  rw [lg_entry_eq]
  generalize (lg_sl ([.int 6, .int 0]) ++ List.replicate (5 - (lg_sl ([.int 6, .int 0])).length) Slot.unset).toArray = ls at hl ⊢
  replace hl : lv_has ls 5 [(0, .int 6), (1, .int 0)] := hl
  refine lv_iload_n hx hb dX1_bodyFor_0 rfl (lv_at hl 0 rfl) ?_
  refine lv_istore_n (lv' := [(2, .int 6), (0, .int 6), (1, .int 0)]) hx hb dX1_bodyFor_1 rfl hl (by decide) rfl (fun ls hl => ?_)
  refine lv_iconst (v := 0) hx hb dX1_bodyFor_2 (by decide) ?_
  refine lv_istore_n (lv' := [(3, .int 0), (2, .int 6), (0, .int 6), (1, .int 0)]) hx hb dX1_bodyFor_3 rfl hl (by decide) rfl (fun ls hl => ?_)
  refine lv_iload_n hx hb dX1_bodyFor_4 rfl (lv_at hl 0 rfl) ?_
  refine lv_bipush (v := 7) hx hb dX1_bodyFor_5 (by decide) ?_
  refine lv_icmp_ge (tgt := 48) hx hb dX1_bodyFor_7 (by decide) (fun c_1 => ?_) (fun c_1 => ?_)
  · exact absurd c_1 (by decide)
  · refine lv_iload_n hx hb dX1_bodyFor_10 rfl (lv_at hl 1 rfl) ?_
    refine lv_iconst (v := 0) hx hb dX1_bodyFor_11 (by decide) ?_
    refine lv_bipush (v := 6) hx hb dX1_bodyFor_12 (by decide) ?_
    have kc6 : (6 : Int32).toInt = 6 := by decide
    have kc0 : (0 : Int32).toInt = 0 := by decide
    refine zc_SN (As := [.int 6, .int 0, .int 6]) (rest := []) ⟨hx, hb, hml, hown, hts⟩ (c_within l D cI cJ cZ cP cS po (6) (0) (6) ) ⟨(va_cnB 3 hts gX1_bodyFor_X7_within_n44 rfl rfl rfl (hN.1 (RX1, 44, yX7_within) (List.mem_of_getElem? (i := 13) rfl)) (hts _ (List.mem_of_getElem? (i := 2) rfl)) dh_X7_within ⟨Nat.le_of_ble_eq_true rfl, Nat.le_of_ble_eq_true rfl⟩), (hts _ (List.mem_of_getElem? (i := 1) rfl)), trivial⟩ hK hN hZ rfl hl.1 rfl (Nat.le_of_ble_eq_true rfl) dX1_bodyFor_14 ⟨Nat.le_of_ble_eq_true rfl, Nat.le_of_ble_eq_true rfl⟩ (fun r_2 hr_2 => ?_)
    rcases hr_2 with ⟨rfl, g_3⟩ | ⟨rfl, g_4, g_5⟩ | ⟨rfl, g_6, g_7⟩
    · exfalso; omega
    · exfalso; omega
    · refine lv_if_eq (tgt := 48) hx hb dX1_bodyFor_17 (by decide) (fun c_8 => ?_) (fun c_8 => ?_)
      · exact absurd c_8 (by decide)
      · refine lv_iload_n hx hb dX1_bodyFor_20 rfl (lv_at hl 1 rfl) ?_
        refine lv_iload_n hx hb dX1_bodyFor_21 rfl (lv_at hl 3 rfl) ?_
        refine zc_S (As := [.int 6, .int 0]) (rest := []) ⟨hx, hb, hml, hown, hts⟩ (c_M_own_6_0 l D cI cJ cZ cP cS po  ) (va_cwS 2 hts gX1_bodyFor_X1_ownBody rfl rfl rfl dh_X1_ownBody ⟨Nat.le_of_ble_eq_true rfl, Nat.le_of_ble_eq_true rfl⟩) hK hN hZ rfl hl.1 rfl (Nat.le_of_ble_eq_true rfl) dX1_bodyFor_22 ⟨Nat.le_of_ble_eq_true rfl, Nat.le_of_ble_eq_true rfl⟩ (fun r_9 hr_9 => ?_)
        obtain rfl := hr_9
        refine lv_istore (lv' := [(4, .int 70), (3, .int 0), (2, .int 6), (0, .int 6), (1, .int 0)]) hx hb dX1_bodyFor_25 hl (by decide) rfl (fun ls hl => ?_)
        refine lv_iload hx hb dX1_bodyFor_27 (lv_at hl 0 rfl) ?_
        refine lv_iconst (v := (-1)) hx hb dX1_bodyFor_29 (by decide) ?_
        refine lv_icmp_eq (tgt := 36) hx hb dX1_bodyFor_30 (by decide) (fun c_10 => ?_) (fun c_10 => ?_)
        · exact absurd c_10 (by decide)
        · refine lv_iload hx hb dX1_bodyFor_33 (lv_at hl 0 rfl) ?_
          exact W.iret (v := 70) hx hb hr (fun t ht hW => ⟨70, rfl, rfl, ht⟩) (fun q hq => by cases hq) dX1_bodyFor_35
set_option maxHeartbeats 4000000 in
set_option maxRecDepth 100000 in
theorem c_M_bodyFor_6_1 (l : Launch) (D : va_G) (cI cJ cZ cP cS : ClassId) (po : zPool)   : Met l yX1_bodyFor wsX1_bodyFor ({ frames := 1, cells := 0, slots := 0, locals := 22 }) (va_Pc [.int 6, .int 1] (zR D (zKT cI cJ cZ cP cS) po [])) (vp_Si (fun r => r = 71)) 0 0 (fun _ => False) := by
  refine Met.ofW (cc := cX1_bodyFor) (maxL := 5) (ret := (some .int)) (by decide) rfl ?_
  intro p e s m args below meth c s₁ B hml hv
  obtain ⟨rfl, hP, hK, hN, hZ⟩ := hv
  have hx := B.exec
  have hb := B.bytes
  have hr := B.returns
  have hts := atoms_spec (ws := wsX1_bodyFor) B.pre
  have hown : s.vm.findClass RX1 = some m.cls := findClass_of_methodNamed B.named
  have hlocks := B.notSynchronized
  have hl := lv_entry ([.int 6, .int 1]) (n := 5) (Nat.le_of_ble_eq_true rfl)
  rw [lg_entry_eq]
  generalize (lg_sl ([.int 6, .int 1]) ++ List.replicate (5 - (lg_sl ([.int 6, .int 1])).length) Slot.unset).toArray = ls at hl ⊢
  replace hl : lv_has ls 5 [(0, .int 6), (1, .int 1)] := hl
  refine lv_iload_n hx hb dX1_bodyFor_0 rfl (lv_at hl 0 rfl) ?_
  refine lv_istore_n (lv' := [(2, .int 6), (0, .int 6), (1, .int 1)]) hx hb dX1_bodyFor_1 rfl hl (by decide) rfl (fun ls hl => ?_)
  refine lv_iconst (v := 0) hx hb dX1_bodyFor_2 (by decide) ?_
  refine lv_istore_n (lv' := [(3, .int 0), (2, .int 6), (0, .int 6), (1, .int 1)]) hx hb dX1_bodyFor_3 rfl hl (by decide) rfl (fun ls hl => ?_)
  refine lv_iload_n hx hb dX1_bodyFor_4 rfl (lv_at hl 0 rfl) ?_
  refine lv_bipush (v := 7) hx hb dX1_bodyFor_5 (by decide) ?_
  refine lv_icmp_ge (tgt := 48) hx hb dX1_bodyFor_7 (by decide) (fun c_1 => ?_) (fun c_1 => ?_)
  · exact absurd c_1 (by decide)
  · refine lv_iload_n hx hb dX1_bodyFor_10 rfl (lv_at hl 1 rfl) ?_
    refine lv_iconst (v := 0) hx hb dX1_bodyFor_11 (by decide) ?_
    refine lv_bipush (v := 6) hx hb dX1_bodyFor_12 (by decide) ?_
    have kc6 : (6 : Int32).toInt = 6 := by decide
    have kc0 : (0 : Int32).toInt = 0 := by decide
    refine zc_SN (As := [.int 6, .int 0, .int 6]) (rest := []) ⟨hx, hb, hml, hown, hts⟩ (c_within l D cI cJ cZ cP cS po (6) (0) (6) ) ⟨(va_cnB 3 hts gX1_bodyFor_X7_within_n44 rfl rfl rfl (hN.1 (RX1, 44, yX7_within) (List.mem_of_getElem? (i := 13) rfl)) (hts _ (List.mem_of_getElem? (i := 2) rfl)) dh_X7_within ⟨Nat.le_of_ble_eq_true rfl, Nat.le_of_ble_eq_true rfl⟩), (hts _ (List.mem_of_getElem? (i := 1) rfl)), trivial⟩ hK hN hZ rfl hl.1 rfl (Nat.le_of_ble_eq_true rfl) dX1_bodyFor_14 ⟨Nat.le_of_ble_eq_true rfl, Nat.le_of_ble_eq_true rfl⟩ (fun r_2 hr_2 => ?_)
    rcases hr_2 with ⟨rfl, g_3⟩ | ⟨rfl, g_4, g_5⟩ | ⟨rfl, g_6, g_7⟩
    · exfalso; omega
    · exfalso; omega
    · refine lv_if_eq (tgt := 48) hx hb dX1_bodyFor_17 (by decide) (fun c_8 => ?_) (fun c_8 => ?_)
      · exact absurd c_8 (by decide)
      · refine lv_iload_n hx hb dX1_bodyFor_20 rfl (lv_at hl 1 rfl) ?_
        refine lv_iload_n hx hb dX1_bodyFor_21 rfl (lv_at hl 3 rfl) ?_
        refine zc_S (As := [.int 6, .int 1]) (rest := []) ⟨hx, hb, hml, hown, hts⟩ (c_M_own_6_1 l D cI cJ cZ cP cS po  ) (va_cwS 2 hts gX1_bodyFor_X1_ownBody rfl rfl rfl dh_X1_ownBody ⟨Nat.le_of_ble_eq_true rfl, Nat.le_of_ble_eq_true rfl⟩) hK hN hZ rfl hl.1 rfl (Nat.le_of_ble_eq_true rfl) dX1_bodyFor_22 ⟨Nat.le_of_ble_eq_true rfl, Nat.le_of_ble_eq_true rfl⟩ (fun r_9 hr_9 => ?_)
        obtain rfl := hr_9
        refine lv_istore (lv' := [(4, .int 71), (3, .int 0), (2, .int 6), (0, .int 6), (1, .int 1)]) hx hb dX1_bodyFor_25 hl (by decide) rfl (fun ls hl => ?_)
        refine lv_iload hx hb dX1_bodyFor_27 (lv_at hl 0 rfl) ?_
        refine lv_iconst (v := (-1)) hx hb dX1_bodyFor_29 (by decide) ?_
        refine lv_icmp_eq (tgt := 36) hx hb dX1_bodyFor_30 (by decide) (fun c_10 => ?_) (fun c_10 => ?_)
        · exact absurd c_10 (by decide)
        · refine lv_iload hx hb dX1_bodyFor_33 (lv_at hl 0 rfl) ?_
          exact W.iret (v := 71) hx hb hr (fun t ht hW => ⟨71, rfl, rfl, ht⟩) (fun q hq => by cases hq) dX1_bodyFor_35
set_option maxHeartbeats 4000000 in
set_option maxRecDepth 100000 in
theorem c_M_bodyFor_6_2 (l : Launch) (D : va_G) (cI cJ cZ cP cS : ClassId) (po : zPool)   : Met l yX1_bodyFor wsX1_bodyFor ({ frames := 1, cells := 0, slots := 0, locals := 22 }) (va_Pc [.int 6, .int 2] (zR D (zKT cI cJ cZ cP cS) po [])) (vp_Si (fun r => r = 50)) 0 0 (fun _ => False) := by
  refine Met.ofW (cc := cX1_bodyFor) (maxL := 5) (ret := (some .int)) (by decide) rfl ?_
  intro p e s m args below meth c s₁ B hml hv
  obtain ⟨rfl, hP, hK, hN, hZ⟩ := hv
  have hx := B.exec
  have hb := B.bytes
  have hr := B.returns
  have hts := atoms_spec (ws := wsX1_bodyFor) B.pre
  have hown : s.vm.findClass RX1 = some m.cls := findClass_of_methodNamed B.named
  have hlocks := B.notSynchronized
  have hl := lv_entry ([.int 6, .int 2]) (n := 5) (Nat.le_of_ble_eq_true rfl)
  rw [lg_entry_eq]
  generalize (lg_sl ([.int 6, .int 2]) ++ List.replicate (5 - (lg_sl ([.int 6, .int 2])).length) Slot.unset).toArray = ls at hl ⊢
  replace hl : lv_has ls 5 [(0, .int 6), (1, .int 2)] := hl
  refine lv_iload_n hx hb dX1_bodyFor_0 rfl (lv_at hl 0 rfl) ?_
  refine lv_istore_n (lv' := [(2, .int 6), (0, .int 6), (1, .int 2)]) hx hb dX1_bodyFor_1 rfl hl (by decide) rfl (fun ls hl => ?_)
  refine lv_iconst (v := 0) hx hb dX1_bodyFor_2 (by decide) ?_
  refine lv_istore_n (lv' := [(3, .int 0), (2, .int 6), (0, .int 6), (1, .int 2)]) hx hb dX1_bodyFor_3 rfl hl (by decide) rfl (fun ls hl => ?_)
  refine lv_iload_n hx hb dX1_bodyFor_4 rfl (lv_at hl 0 rfl) ?_
  refine lv_bipush (v := 7) hx hb dX1_bodyFor_5 (by decide) ?_
  refine lv_icmp_ge (tgt := 48) hx hb dX1_bodyFor_7 (by decide) (fun c_1 => ?_) (fun c_1 => ?_)
  · exact absurd c_1 (by decide)
  · refine lv_iload_n hx hb dX1_bodyFor_10 rfl (lv_at hl 1 rfl) ?_
    refine lv_iconst (v := 0) hx hb dX1_bodyFor_11 (by decide) ?_
    refine lv_bipush (v := 6) hx hb dX1_bodyFor_12 (by decide) ?_
    have kc6 : (6 : Int32).toInt = 6 := by decide
    have kc0 : (0 : Int32).toInt = 0 := by decide
    refine zc_SN (As := [.int 6, .int 0, .int 6]) (rest := []) ⟨hx, hb, hml, hown, hts⟩ (c_within l D cI cJ cZ cP cS po (6) (0) (6) ) ⟨(va_cnB 3 hts gX1_bodyFor_X7_within_n44 rfl rfl rfl (hN.1 (RX1, 44, yX7_within) (List.mem_of_getElem? (i := 13) rfl)) (hts _ (List.mem_of_getElem? (i := 2) rfl)) dh_X7_within ⟨Nat.le_of_ble_eq_true rfl, Nat.le_of_ble_eq_true rfl⟩), (hts _ (List.mem_of_getElem? (i := 1) rfl)), trivial⟩ hK hN hZ rfl hl.1 rfl (Nat.le_of_ble_eq_true rfl) dX1_bodyFor_14 ⟨Nat.le_of_ble_eq_true rfl, Nat.le_of_ble_eq_true rfl⟩ (fun r_2 hr_2 => ?_)
    rcases hr_2 with ⟨rfl, g_3⟩ | ⟨rfl, g_4, g_5⟩ | ⟨rfl, g_6, g_7⟩
    · exfalso; omega
    · exfalso; omega
    · refine lv_if_eq (tgt := 48) hx hb dX1_bodyFor_17 (by decide) (fun c_8 => ?_) (fun c_8 => ?_)
      · exact absurd c_8 (by decide)
      · refine lv_iload_n hx hb dX1_bodyFor_20 rfl (lv_at hl 1 rfl) ?_
        refine lv_iload_n hx hb dX1_bodyFor_21 rfl (lv_at hl 3 rfl) ?_
        refine zc_S (As := [.int 6, .int 2]) (rest := []) ⟨hx, hb, hml, hown, hts⟩ (c_M_own_6_2 l D cI cJ cZ cP cS po  ) (va_cwS 2 hts gX1_bodyFor_X1_ownBody rfl rfl rfl dh_X1_ownBody ⟨Nat.le_of_ble_eq_true rfl, Nat.le_of_ble_eq_true rfl⟩) hK hN hZ rfl hl.1 rfl (Nat.le_of_ble_eq_true rfl) dX1_bodyFor_22 ⟨Nat.le_of_ble_eq_true rfl, Nat.le_of_ble_eq_true rfl⟩ (fun r_9 hr_9 => ?_)
        obtain rfl := hr_9
        refine lv_istore (lv' := [(4, .int (-1)), (3, .int 0), (2, .int 6), (0, .int 6), (1, .int 2)]) hx hb dX1_bodyFor_25 hl (by decide) rfl (fun ls hl => ?_)
        refine lv_iload hx hb dX1_bodyFor_27 (lv_at hl 0 rfl) ?_
        refine lv_iconst (v := (-1)) hx hb dX1_bodyFor_29 (by decide) ?_
        refine lv_icmp_eq (tgt := 36) hx hb dX1_bodyFor_30 (by decide) (fun c_10 => ?_) (fun c_10 => ?_)
        · obtain ⟨t_11, zt_11, yt_11⟩ := hZ.1.2
          refine va_getsN hx hb zt_11 va_S.rf hown (va_Nw.use rfl (hN.2.1 (RX1, 58) (List.mem_of_getElem? (i := 1) rfl))) (fun _ h9 => h9) dX1_bodyFor_36 ?_
          refine lv_iload_n hx hb dX1_bodyFor_39 rfl (lv_at hl 2 rfl) ?_
          refine va_ti hx hb yt_11 va_S.rf (zf_in (by decide) (by decide)) (v := .int 4) (by decide) dX1_bodyFor_40 ?_
          refine lv_istore_n (lv' := [(2, .int 4), (4, .int (-1)), (3, .int 0), (0, .int 6), (1, .int 2)]) hx hb dX1_bodyFor_41 rfl hl (by decide) rfl (fun ls hl => ?_)
          refine lv_iinc (v := 1) (lv' := [(3, .int 1), (2, .int 4), (4, .int (-1)), (0, .int 6), (1, .int 2)]) hx hb dX1_bodyFor_42 hl (k := 2) rfl (by decide) (by decide) rfl (fun ls hl => ?_)
          refine lv_goto (tgt := 4) hx hb dX1_bodyFor_45 (by decide) ?_
          refine lv_iload_n hx hb dX1_bodyFor_4 rfl (lv_at hl 0 rfl) ?_
          refine lv_bipush (v := 7) hx hb dX1_bodyFor_5 (by decide) ?_
          refine lv_icmp_ge (tgt := 48) hx hb dX1_bodyFor_7 (by decide) (fun c_12 => ?_) (fun c_12 => ?_)
          · exact absurd c_12 (by decide)
          · refine lv_iload_n hx hb dX1_bodyFor_10 rfl (lv_at hl 1 rfl) ?_
            refine lv_iconst (v := 0) hx hb dX1_bodyFor_11 (by decide) ?_
            refine lv_bipush (v := 6) hx hb dX1_bodyFor_12 (by decide) ?_
            have kc4 : (4 : Int32).toInt = 4 := by decide
            refine zc_SN (As := [.int 4, .int 0, .int 6]) (rest := []) ⟨hx, hb, hml, hown, hts⟩ (c_within l D cI cJ cZ cP cS po (4) (0) (6) ) ⟨(va_cnB 3 hts gX1_bodyFor_X7_within_n44 rfl rfl rfl (hN.1 (RX1, 44, yX7_within) (List.mem_of_getElem? (i := 13) rfl)) (hts _ (List.mem_of_getElem? (i := 2) rfl)) dh_X7_within ⟨Nat.le_of_ble_eq_true rfl, Nat.le_of_ble_eq_true rfl⟩), (hts _ (List.mem_of_getElem? (i := 1) rfl)), trivial⟩ hK hN hZ rfl hl.1 rfl (Nat.le_of_ble_eq_true rfl) dX1_bodyFor_14 ⟨Nat.le_of_ble_eq_true rfl, Nat.le_of_ble_eq_true rfl⟩ (fun r_13 hr_13 => ?_)
            rcases hr_13 with ⟨rfl, g_14⟩ | ⟨rfl, g_15, g_16⟩ | ⟨rfl, g_17, g_18⟩
            · exfalso; omega
            · exfalso; omega
            · refine lv_if_eq (tgt := 48) hx hb dX1_bodyFor_17 (by decide) (fun c_19 => ?_) (fun c_19 => ?_)
              · exact absurd c_19 (by decide)
              · refine lv_iload_n hx hb dX1_bodyFor_20 rfl (lv_at hl 1 rfl) ?_
                refine lv_iload_n hx hb dX1_bodyFor_21 rfl (lv_at hl 4 rfl) ?_
                refine zc_S (As := [.int 4, .int 2]) (rest := []) ⟨hx, hb, hml, hown, hts⟩ (c_M_own_4_2 l D cI cJ cZ cP cS po  ) (va_cwS 2 hts gX1_bodyFor_X1_ownBody rfl rfl rfl dh_X1_ownBody ⟨Nat.le_of_ble_eq_true rfl, Nat.le_of_ble_eq_true rfl⟩) hK hN hZ rfl hl.1 rfl (Nat.le_of_ble_eq_true rfl) dX1_bodyFor_22 ⟨Nat.le_of_ble_eq_true rfl, Nat.le_of_ble_eq_true rfl⟩ (fun r_20 hr_20 => ?_)
                obtain rfl := hr_20
                refine lv_istore (lv' := [(4, .int 50), (3, .int 1), (2, .int 4), (0, .int 6), (1, .int 2)]) hx hb dX1_bodyFor_25 hl (by decide) rfl (fun ls hl => ?_)
                refine lv_iload hx hb dX1_bodyFor_27 (lv_at hl 0 rfl) ?_
                refine lv_iconst (v := (-1)) hx hb dX1_bodyFor_29 (by decide) ?_
                refine lv_icmp_eq (tgt := 36) hx hb dX1_bodyFor_30 (by decide) (fun c_21 => ?_) (fun c_21 => ?_)
                · exact absurd c_21 (by decide)
                · refine lv_iload hx hb dX1_bodyFor_33 (lv_at hl 0 rfl) ?_
                  exact W.iret (v := 50) hx hb hr (fun t ht hW => ⟨50, rfl, rfl, ht⟩) (fun q hq => by cases hq) dX1_bodyFor_35
        · exact absurd c_10 (by decide)
end
section
theorem hi_X1_run_1 : ∀ w ∈ u_ws RX1 TX1 5, w ∈ wsX1_run := fun w h => (gl_X1_run_X10 w h).1
end
section
def wsX1_begin_r1 : List Cond := (Cond.fieldLink RX1 28 "TheLiningsInIt$Pull" "kind" "I") :: (Cond.fieldLink RX1 19 "TheLiningsInIt$Moves" "kind" "I") :: (Cond.fieldLink RX1 22 "TheLiningsInIt$Moves" "m" "I") :: (Cond.fieldLink RX1 31 "TheLiningsInIt$Pull" "a" "I") :: (Cond.fieldLink RX1 25 "TheLiningsInIt$Moves" "k" "I") :: (Cond.methodLink RX1 34 yX1_run) :: (Cond.instanceMethod yX1_run) :: (Cond.selects RX1 yX1_run yX1_run) :: (Cond.initialized RX1) :: (Cond.code yX1_run cX1_run 7 (some .int)) :: (Cond.methodLink RX1 48 yX1_bodyFor) :: (Cond.static yX1_bodyFor) :: (Cond.code yX1_bodyFor cX1_bodyFor 5 (some .int)) :: (Cond.static yX7_within) :: (Cond.initialized RX7) :: (Cond.code yX7_within cX7_within 3 (some .boolean)) :: (Cond.methodLink RX1 55 yX1_ownBody) :: (Cond.static yX1_ownBody) :: (Cond.code yX1_ownBody cX1_ownBody 2 (some .int)) :: (Cond.methodLink RX1 51 yX1_note) :: (Cond.instanceMethod yX1_note) :: (Cond.selects RX1 yX1_note yX1_note) :: (Cond.code yX1_note cX1_note 2 none) :: (Cond.fieldLink RX1 15 "TheLiningsInIt$Moves" "ran" "I") :: []
def wsX1_begin_r2 : List Cond := (Cond.fieldLink RX1 11 "TheLiningsInIt$Moves" "bodies" "[I") :: []
def wsX1_begin : List Cond := (.code yX1_begin cX1_begin 5 (some .int)) :: ((wsX1_begin_r1 ++ wsX1_begin_r2) ++ wsX20 ++ wsX10)
set_option maxRecDepth 20000 in
theorem gl_X1_begin_X10 : GoodIn wsX1_begin wsX10 := (dg_t (dg_r gw_wsX10))
theorem ggX1_begin_X1_run : GoodIn wsX1_begin wsX1_run := (dg_c 10 rfl rfl (dg_c 3 rfl rfl (dg_c 2 rfl rfl (dg_c 5 rfl rfl (dg_c 11 rfl rfl (dg_c 12 rfl rfl (dg_c 9 rfl rfl (dg_c 13 rfl rfl (dg_c 14 rfl rfl (dg_c 15 rfl rfl (dg_c 16 rfl rfl (dg_c 17 rfl rfl (dg_c 18 rfl rfl (dg_c 19 rfl rfl (dg_c 20 rfl rfl (dg_c 21 rfl rfl (dg_c 22 rfl rfl (dg_c 23 rfl rfl (dg_c 24 rfl rfl (dg_c 25 rfl rfl (dg_c 6 rfl rfl (dg_c 7 rfl rfl (dg_c 8 rfl rfl gl_X1_begin_X10)))))))))))))))))))))))
set_option maxRecDepth 20000 in
theorem gX1_begin_X1_run : GoodIn wsX1_begin (wsV RX1 34 RX1 yX1_run wsX1_run) := goodIn_app (dg_c 6 rfl rfl (dg_c 7 rfl rfl (dg_c 8 rfl rfl (dg_c 9 rfl rfl dg_0)))) ggX1_begin_X1_run
theorem dX1_begin_0 : decode cX1_begin 0 = .ok (.aload_n 0, 1) := dq_42 dp_cX1_begin rfl
theorem dX1_begin_1 : decode cX1_begin 1 = .ok (.aload_n 1, 1) := dq_43 dp_cX1_begin rfl
theorem dX1_begin_2 : decode cX1_begin 2 = .ok (.getfield 28, 3) := dq_180 dp_cX1_begin rfl
theorem dX1_begin_5 : decode cX1_begin 5 = .ok (.putfield 19, 3) := dq_181 dp_cX1_begin rfl
theorem dX1_begin_8 : decode cX1_begin 8 = .ok (.aload_n 0, 1) := dq_42 dp_cX1_begin rfl
theorem dX1_begin_9 : decode cX1_begin 9 = .ok (.iload_n 2, 1) := dq_28 dp_cX1_begin rfl
theorem dX1_begin_10 : decode cX1_begin 10 = .ok (.putfield 22, 3) := dq_181 dp_cX1_begin rfl
theorem dX1_begin_13 : decode cX1_begin 13 = .ok (.aload_n 0, 1) := dq_42 dp_cX1_begin rfl
theorem dX1_begin_14 : decode cX1_begin 14 = .ok (.aload_n 1, 1) := dq_43 dp_cX1_begin rfl
theorem dX1_begin_15 : decode cX1_begin 15 = .ok (.getfield 31, 3) := dq_180 dp_cX1_begin rfl
theorem dX1_begin_18 : decode cX1_begin 18 = .ok (.putfield 25, 3) := dq_181 dp_cX1_begin rfl
theorem dX1_begin_21 : decode cX1_begin 21 = .ok (.aload_n 0, 1) := dq_42 dp_cX1_begin rfl
theorem dX1_begin_22 : decode cX1_begin 22 = .ok (.aload_n 0, 1) := dq_42 dp_cX1_begin rfl
theorem dX1_begin_23 : decode cX1_begin 23 = .ok (.getfield 19, 3) := dq_180 dp_cX1_begin rfl
theorem dX1_begin_26 : decode cX1_begin 26 = .ok (.iload_n 3, 1) := dq_29 dp_cX1_begin rfl
theorem dX1_begin_27 : decode cX1_begin 27 = .ok (.iload 4, 2) := dq_21 dp_cX1_begin rfl
theorem dX1_begin_29 : decode cX1_begin 29 = .ok (.iconst 0, 1) := dq_3 dp_cX1_begin rfl
theorem dX1_begin_30 : decode cX1_begin 30 = .ok (.invokevirtual 34, 3) := dq_182 dp_cX1_begin rfl
theorem dX1_begin_33 : decode cX1_begin 33 = .ok (.ireturn, 1) := dq_172 dp_cX1_begin rfl
end
section
theorem gl_X1_begin_X20 : GoodIn wsX1_begin wsX20 := (dg_t (dg_l (dg_r gw_wsX20)))
theorem hi_X1_begin_2 : ∀ w ∈ u_ws RX2 TX2 3, w ∈ wsX1_begin := fun w h => (gl_X1_begin_X20 w h).1
theorem hi_X1_begin_1 : ∀ w ∈ u_ws RX1 TX1 5, w ∈ wsX1_begin := fun w h => (gl_X1_begin_X10 w h).1
end
section
/-! the ten words as texts; calls of static methods that write or answer a reference; new pulls -/
theorem zs_len (i : Nat) (hi : i < 10) : (Int32.ofNat (zLen.getD i 0)).toInt = (zLen.getD i 0 : Nat) ∧ 2 ≤ (Int32.ofNat (zLen.getD i 0)).toInt ∧ (Int32.ofNat (zLen.getD i 0)).toInt ≤ 7 := by
  have h : ∀ i : Nat, i < 10 → (Int32.ofNat (zLen.getD i 0)).toInt = (zLen.getD i 0 : Nat) ∧ 2 ≤ (Int32.ofNat (zLen.getD i 0)).toInt ∧ (Int32.ofNat (zLen.getD i 0)).toInt ≤ 7 := by decide +kernel
  exact h i hi
theorem zs_shr0 (x : Int32) : x >>> ((0 : Int32) &&& 31) = x := by
  have h : ((0 : Int32) &&& 31) = 0 := by decide
  rw [h]
  apply Int32.toInt_inj.mp
  simp
/-- a byte of a word, as its char -/
theorem zs_chr (i k : Nat) (hi : i < 10) (hk : k < zLen.getD i 0) : ((((zByt.getD i []).getD k 0) &&& 255).toUInt32 % 65536).toInt32 = (zByt.getD i []).getD k 0 ∧ narrow .char (.int ((zByt.getD i []).getD k 0)) = .int ((zByt.getD i []).getD k 0) := by
  have h : ∀ i : Nat, i < 10 → ∀ k : Nat, k < zLen.getD i 0 → ((((zByt.getD i []).getD k 0) &&& 255).toUInt32 % 65536).toInt32 = (zByt.getD i []).getD k 0 ∧ narrow .char (.int ((zByt.getD i []).getD k 0)) = .int ((zByt.getD i []).getD k 0) := by decide +kernel
  exact h i hi k hk
section ZC
variable {p : Program} {l : Launch} {e : Env} {R : Room} {s : State} {m : MethodId} {args : Array Value} {below : List Frame} {meth : Method} {c : Code} {H : Heap} {locs : List Loc} {cells slots : Nat} {Q : State → Prop} {pc : Nat} {ls : Array Slot}
variable {y : MethodName} {bytes cc : ByteArray} {maxL nL mc ms n index : Nat} {ret : Option FieldType} {wsY : List Cond} {rm : Room} {Ts : List Cond} {own C : String} {b : Addr} {As rest st0 : List Value} {wc ws wr : va_W} {D : va_G} {po : zPool} {tys : List (ClassId × FieldType)} {A : Nat → Prop} {H0 : Heap}
theorem zc_Sq {post : Option Nat → Prop} (S : CallFix p m c cc nL s args Ts own) (hM : Met l y wsY rm (va_Pc As (zR D tys po [])) (va_Sq post) 0 0 (fun _ => False)) (cw : CallB R s args own index y bytes maxL ret wsY rm 0 0 n ∧ (Cond.static y).before args s = true) (hK : va_K D vwCl tys s) (hN : zN s) {AZ : Nat → Prop} (hZ : zE D po AZ s H) (hn : As.length = n) (hz : ls.size = nL) (hst : st0 = As.reverse ++ rest) (hw : (rest.map fun v => v.category).sum ≤ 8) (hdg : decode cc pc = .ok (.invokestatic index, 3)) (hf : cells + 0 ≤ R.cells ∧ slots + 0 ≤ R.slots)
    (kk : ∀ r : Option Nat, post r → W p l e R s m args below meth c H locs cells slots Q (F0 m (pc + 3) ls (va_rf r :: rest))) : W p l e R s m args below meth c H locs cells slots Q (F0 m pc ls st0) :=
  va_csq (W.runS S hM cw ⟨zR_fb, fun U hU hW => ⟨rfl, zP_nil, va_K.moved hW.alike hK, hN.warm hW, by rw [hU]; exact (hZ.warm hW).narrow (fun _ h => h.elim)⟩⟩ rfl hn hz hst (lv_room hw) hdg hf) kk
theorem zw_Si {S' : Type} {post : Int32 → S' → Prop} {wq : S' → va_W} (S : CallFix p m c cc nL s args Ts own) (hM : Met l y wsY rm (va_Pc As (zW D tys po wc H.size)) (va_Qi post (zB D wc H.size wq) (va_A wc H.size)) mc ms (va_A wc H.size)) (cw : CallB R s args own index y bytes maxL ret wsY rm mc ms n ∧ (Cond.static y).before args s = true) (hK : va_K D vwCl tys s) (hN : zN s) (hZ : zE D po A s H) (hP : va_P D vwCl ws H) (hD : va_D A ws) (hS : va_S A H0 H locs) (hA : ∀ q, H0.size ≤ q → A q)
    (isC isR : List Nat) (hC : isC.map (fun i => ws[i]?) = wc.map some) (hR : isR.map (fun i => ws[i]?) = wr.map some) (hnC : va_nd isC = true) (hnR : va_nd isR = true) (hdis : ∀ i ∈ isR, i ∉ isC)
    (hn : As.length = n) (hz : ls.size = nL) (hst : st0 = As.reverse ++ rest) (hw : (rest.map fun v => v.category).sum ≤ 8) (hdg : decode cc pc = .ok (.invokestatic index, 3)) (hf : cells + mc ≤ R.cells ∧ slots + ms ≤ R.slots)
    (kk : ∀ (r : Int32) (u : S') (H1 : Heap) (locs1 : List Loc), post r u → va_P D vwCl (wr ++ wq u) H1 → va_D A (wr ++ wq u) → va_S A H0 H1 locs1 → W p l e R s m args below meth c H1 locs1 (cells + mc) (slots + ms) Q (F0 m (pc + 3) ls (.int r :: rest))) : W p l e R s m args below meth c H locs cells slots Q (F0 m pc ls st0) := by
  have hF := va_free (wc := wc) hD hS hA isC hC
  have hPc := zP_of hP hC
  have hDc : va_D (fun _ => True) wc := (hD.sub isC hnC hC).weaken (fun _ _ _ _ => trivial)
  refine va_calli (va_runS S hM cw ⟨zW_fb, fun U hU hW => ⟨rfl, by rw [hU], by rw [hU]; exact hPc, va_K.moved hW.alike hK, hDc, hN.warm hW, by rw [hU]; exact (hZ.warm hW).narrow hF⟩⟩ rfl hn hz hst (lv_room hw) hdg hf) hS (fun q _ h => hF q h) hF (fun r u t H1 locs1 ht hvm hw hB hz1 hk1 hS1 => ?_)
  obtain ⟨hP1, hD1⟩ := hB
  rw [ht] at hP1
  obtain ⟨hP2, hD2⟩ := va_join hP hD isC isR hC hR hnR hdis hk1 hF hP1 hD1
  exact kk r u H1 locs1 hw hP2 hD2 hS1
end ZC
/-- an item: its word and its numbers, as the reader lets them stand -/
def zItv (w a b c : Int) : Prop := (0 ≤ w ∧ w ≤ 9) ∧ (w = 0 → 4 ≤ a ∧ a ≤ 40) ∧ (w = 1 → 0 ≤ a ∧ a ≤ 39) ∧ (w = 2 → (0 ≤ a ∧ a ≤ 39) ∧ 0 ≤ b ∧ b ≤ 9) ∧ (w = 3 → (0 ≤ a ∧ a ≤ 6) ∧ (0 ≤ b ∧ b ≤ 9) ∧ 1 ≤ c ∧ c ≤ 60) ∧ (w = 4 → 0 ≤ a ∧ a ≤ 24) ∧ (w = 5 → 0 ≤ a ∧ a ≤ 300) ∧ (w = 6 → 0 ≤ a ∧ a ≤ 9) ∧ (w = 7 → 1 ≤ a ∧ a ≤ 9) ∧ (w = 8 → (0 ≤ a ∧ a ≤ 2) ∧ 0 ≤ b ∧ b ≤ 99) ∧ (w = 9 → 0 ≤ a ∧ a ≤ 40)
def zIt (f : Nat → Int32) (s : Nat) : Prop := zItv (f s).toInt (f (s + 1)).toInt (f (s + 2)).toInt (f (s + 3)).toInt
theorem zIt_mk {f : Nat → Int32} {s : Nat} {w a b c : Int32} (h0 : f (s + 0) = w) (h1 : f (s + 1) = a) (h2 : f (s + 2) = b) (h3 : f (s + 3) = c) (h : zItv w.toInt a.toInt b.toInt c.toInt) : zIt f s := by
  unfold zIt; rw [show f s = w from h0, h1, h2, h3]; exact h
theorem zIt_keep {f g : Nat → Int32} {s n : Nat} (h : ∀ j : Nat, j < n → g j = f j) (hn : s + 3 < n) (hf : zIt f s) : zIt g s := by
  unfold zIt; rw [h s (by omega), h (s + 1) (by omega), h (s + 2) (by omega), h (s + 3) (by omega)]; exact hf
/-! worlds with a tail of new pulls -/
theorem zC_app {X pl wc : va_W} {is : List Nat} (h : is.map (fun i => X[i]?) = wc.map some) : is.map (fun i => (X ++ pl)[i]?) = wc.map some := by
  rw [← h]
  apply List.map_congr_left
  intro i hi
  have h1 : X[i]? ∈ is.map (fun i => X[i]?) := List.mem_map_of_mem hi
  rw [h] at h1
  obtain ⟨q, -, e⟩ := List.mem_map.mp h1
  rw [List.getElem?_append_left (List.getElem?_eq_some_iff.mp e.symm).1]
theorem zT_app {X Y : va_W} {np tl : List (Nat × Int32 × Int32 × Int32)} : (X ++ (Y ++ np.map zPo)) ++ tl.map zPo = (X ++ Y) ++ (np ++ tl).map zPo := by simp
theorem zcells {p : Program} {l : Launch} {e : Env} {R : Room} {s : State} {m : MethodId} {args : Array Value} {below : List Frame} {meth : Method} {c : Code} {H : Heap} {locs : List Loc} {cells slots : Nat} {Q : State → Prop} {g : JFrame} (k : ∀ kc ks : Nat, kc = cells → ks = slots → W p l e R s m args below meth c H locs kc ks Q g) : W p l e R s m args below meth c H locs cells slots Q g := k _ _ rfl rfl
section ZT
variable {p : Program} {l : Launch} {e : Env} {R : Room} {s : State} {m : MethodId} {args : Array Value} {below : List Frame} {meth : Method} {c : Code} {H : Heap} {locs : List Loc} {cells slots : Nat} {Q : State → Prop} {pc : Nat} {ls : Array Slot}
variable {y : MethodName} {bytes cc : ByteArray} {maxL nL mc ms n index : Nat} {ret : Option FieldType} {wsY : List Cond} {rm : Room} {Ts : List Cond} {own C : String} {b : Addr} {As rest st0 : List Value} {wc ws wr pl : va_W} {D : va_G} {po : zPool} {tys : List (ClassId × FieldType)} {A : Nat → Prop} {H0 : Heap}
theorem zt_free (hD : va_D A (ws ++ pl)) (hS : va_S A H0 H locs) (hA : ∀ q, H0.size ≤ q → A q) {isC : List Nat} (hC : isC.map (fun i => ws[i]?) = wc.map some) : ∀ q, va_A wc H.size q → A q := va_free (wc := wc) hD hS hA isC (zC_app hC)
theorem zt_Vv {S' : Type} {post : S' → Prop} {wq : S' → va_W} (S : CallFix p m c cc nL s args Ts own) (hM : Met l y wsY rm (va_Pc (.ref b :: As) (zW D tys po wc H.size)) (va_Qv post (zB D wc H.size wq) (va_A wc H.size)) mc ms (va_A wc H.size)) (cw : CallW R s args own C index y bytes maxL ret wsY rm mc ms n) (hK : va_K D vwCl tys s) (hN : zN s) (hP : va_P D vwCl (ws ++ pl) H) (hD : va_D A (ws ++ pl)) (hS : va_S A H0 H locs) (hA : ∀ q, H0.size ≤ q → A q)
    (isC isR : List Nat) (hC : isC.map (fun i => ws[i]?) = wc.map some) (hR : isR.map (fun i => ws[i]?) = wr.map some) (hnC : va_nd isC = true) (hnR : va_nd isR = true) (hdis : ∀ i ∈ isR, i ∉ isC) (hZ : zE D po (va_A wc H.size) s H)
    (rv : ∃ cell : Cell, H[b]? = some cell ∧ cell.vm.isStatics = false ∧ s.vm.findClass C = some cell.cls) (hn : As.length = n) (hz : ls.size = nL) (hst : st0 = As.reverse ++ .ref b :: rest) (hw : (rest.map fun v => v.category).sum ≤ 8) (hdg : decode cc pc = .ok (.invokevirtual index, 3)) (hf : cells + mc ≤ R.cells ∧ slots + ms ≤ R.slots)
    (kk : ∀ (u : S') (H1 : Heap) (locs1 : List Loc), post u → va_P D vwCl ((wr ++ wq u) ++ pl) H1 → va_D A ((wr ++ wq u) ++ pl) → va_S A H0 H1 locs1 → W p l e R s m args below meth c H1 locs1 (cells + mc) (slots + ms) Q (F0 m (pc + 3) ls rest)) : W p l e R s m args below meth c H locs cells slots Q (F0 m pc ls st0) := by
  have hF := zt_free (wc := wc) hD hS hA hC
  have hPc := zP_of hP (zC_app (pl := pl) hC)
  have hDc : va_D (fun _ => True) wc := (hD.sub isC hnC (zC_app hC)).weaken (fun _ _ _ _ => trivial)
  refine va_callv (va_runV S hM cw ⟨zW_fb, rv, fun U hU hW => ⟨rfl, by rw [hU], by rw [hU]; exact hPc, va_K.moved hW.alike hK, hDc, hN.warm hW, by rw [hU]; exact hZ.warm hW⟩⟩ rfl hn hz hst (lv_room hw) hdg hf) hS (fun q _ h => hF q h) hF (fun u t H1 locs1 ht hvm hw hB hz1 hk1 hS1 => ?_)
  obtain ⟨hP1, hD1⟩ := hB
  rw [ht] at hP1
  obtain ⟨hP2, hD2⟩ := va_joinQ hP hD isC isR hC hR hnR hdis hk1 hF hP1 hD1
  exact kk u H1 locs1 hw hP2 hD2 hS1
theorem zt_V {S' : Type} {post : Int32 → S' → Prop} {wq : S' → va_W} (S : CallFix p m c cc nL s args Ts own) (hM : Met l y wsY rm (va_Pc (.ref b :: As) (zW D tys po wc H.size)) (va_Qi post (zB D wc H.size wq) (va_A wc H.size)) mc ms (va_A wc H.size)) (cw : CallW R s args own C index y bytes maxL ret wsY rm mc ms n) (hK : va_K D vwCl tys s) (hN : zN s) (hP : va_P D vwCl (ws ++ pl) H) (hD : va_D A (ws ++ pl)) (hS : va_S A H0 H locs) (hA : ∀ q, H0.size ≤ q → A q)
    (isC isR : List Nat) (hC : isC.map (fun i => ws[i]?) = wc.map some) (hR : isR.map (fun i => ws[i]?) = wr.map some) (hnC : va_nd isC = true) (hnR : va_nd isR = true) (hdis : ∀ i ∈ isR, i ∉ isC) (hZ : zE D po (va_A wc H.size) s H)
    (rv : ∃ cell : Cell, H[b]? = some cell ∧ cell.vm.isStatics = false ∧ s.vm.findClass C = some cell.cls) (hn : As.length = n) (hz : ls.size = nL) (hst : st0 = As.reverse ++ .ref b :: rest) (hw : (rest.map fun v => v.category).sum ≤ 8) (hdg : decode cc pc = .ok (.invokevirtual index, 3)) (hf : cells + mc ≤ R.cells ∧ slots + ms ≤ R.slots)
    (kk : ∀ (r : Int32) (u : S') (H1 : Heap) (locs1 : List Loc), post r u → va_P D vwCl ((wr ++ wq u) ++ pl) H1 → va_D A ((wr ++ wq u) ++ pl) → va_S A H0 H1 locs1 → W p l e R s m args below meth c H1 locs1 (cells + mc) (slots + ms) Q (F0 m (pc + 3) ls (.int r :: rest))) : W p l e R s m args below meth c H locs cells slots Q (F0 m pc ls st0) := by
  have hF := zt_free (wc := wc) hD hS hA hC
  have hPc := zP_of hP (zC_app (pl := pl) hC)
  have hDc : va_D (fun _ => True) wc := (hD.sub isC hnC (zC_app hC)).weaken (fun _ _ _ _ => trivial)
  refine va_calli (va_runV S hM cw ⟨zW_fb, rv, fun U hU hW => ⟨rfl, by rw [hU], by rw [hU]; exact hPc, va_K.moved hW.alike hK, hDc, hN.warm hW, by rw [hU]; exact hZ.warm hW⟩⟩ rfl hn hz hst (lv_room hw) hdg hf) hS (fun q _ h => hF q h) hF (fun r u t H1 locs1 ht hvm hw hB hz1 hk1 hS1 => ?_)
  obtain ⟨hP1, hD1⟩ := hB
  rw [ht] at hP1
  obtain ⟨hP2, hD2⟩ := va_joinQ hP hD isC isR hC hR hnR hdis hk1 hF hP1 hD1
  exact kk r u H1 locs1 hw hP2 hD2 hS1
theorem zt_Vl {S' : Type} {post : Int64 → S' → Prop} {wq : S' → va_W} (S : CallFix p m c cc nL s args Ts own) (hM : Met l y wsY rm (va_Pc (.ref b :: As) (zW D tys po wc H.size)) (va_Ql post (zB D wc H.size wq) (va_A wc H.size)) mc ms (va_A wc H.size)) (cw : CallW R s args own C index y bytes maxL ret wsY rm mc ms n) (hK : va_K D vwCl tys s) (hN : zN s) (hP : va_P D vwCl (ws ++ pl) H) (hD : va_D A (ws ++ pl)) (hS : va_S A H0 H locs) (hA : ∀ q, H0.size ≤ q → A q)
    (isC isR : List Nat) (hC : isC.map (fun i => ws[i]?) = wc.map some) (hR : isR.map (fun i => ws[i]?) = wr.map some) (hnC : va_nd isC = true) (hnR : va_nd isR = true) (hdis : ∀ i ∈ isR, i ∉ isC) (hZ : zE D po (va_A wc H.size) s H)
    (rv : ∃ cell : Cell, H[b]? = some cell ∧ cell.vm.isStatics = false ∧ s.vm.findClass C = some cell.cls) (hn : As.length = n) (hz : ls.size = nL) (hst : st0 = As.reverse ++ .ref b :: rest) (hw : (rest.map fun v => v.category).sum ≤ 8) (hdg : decode cc pc = .ok (.invokevirtual index, 3)) (hf : cells + mc ≤ R.cells ∧ slots + ms ≤ R.slots)
    (kk : ∀ (r : Int64) (u : S') (H1 : Heap) (locs1 : List Loc), post r u → va_P D vwCl ((wr ++ wq u) ++ pl) H1 → va_D A ((wr ++ wq u) ++ pl) → va_S A H0 H1 locs1 → W p l e R s m args below meth c H1 locs1 (cells + mc) (slots + ms) Q (F0 m (pc + 3) ls (.long r :: rest))) : W p l e R s m args below meth c H locs cells slots Q (F0 m pc ls st0) := by
  have hF := zt_free (wc := wc) hD hS hA hC
  have hPc := zP_of hP (zC_app (pl := pl) hC)
  have hDc : va_D (fun _ => True) wc := (hD.sub isC hnC (zC_app hC)).weaken (fun _ _ _ _ => trivial)
  refine va_calll (va_runV S hM cw ⟨zW_fb, rv, fun U hU hW => ⟨rfl, by rw [hU], by rw [hU]; exact hPc, va_K.moved hW.alike hK, hDc, hN.warm hW, by rw [hU]; exact hZ.warm hW⟩⟩ rfl hn hz hst (lv_room hw) hdg hf) hS (fun q _ h => hF q h) hF (fun r u t H1 locs1 ht hvm hw hB hz1 hk1 hS1 => ?_)
  obtain ⟨hP1, hD1⟩ := hB
  rw [ht] at hP1
  obtain ⟨hP2, hD2⟩ := va_joinQ hP hD isC isR hC hR hnR hdis hk1 hF hP1 hD1
  exact kk r u H1 locs1 hw hP2 hD2 hS1
end ZT
/-- the pulls of a row, among a list of pulls, with these kinds, numbers A and seconds -/
def zJL (L : List (Nat × Int32 × Int32 × Int32)) (f : Nat → Option Nat) (n : Int32) (K A T : Nat → Int32) : Prop := ∀ j : Nat, (j : Int) < n.toInt → ∃ u : Nat, f j = some u ∧ (u, K j, A j, T j) ∈ L
def zWL (L : List (Nat × Int32 × Int32 × Int32)) (f : Nat → Option Nat) : Prop := ∀ j : Nat, f j = none ∨ ∃ (u : Nat) (k a t : Int32), f j = some u ∧ (u, k, a, t) ∈ L
/-- a row of pulls, and what it is behind the making of these new ones -/
def zExt (np : List (Nat × Int32 × Int32 × Int32)) (f : Nat → Option Nat) (n : Int32) (K A T : Nat → Int32) (f2 : Nat → Option Nat) (n2 : Int32) (K2 A2 T2 : Nat → Int32) : Prop := ∀ L : List (Nat × Int32 × Int32 × Int32), zJL L f n K A T → zWL L f → zJL (np ++ L) f2 n2 K2 A2 T2 ∧ zWL (np ++ L) f2
theorem zExt.refl {f : Nat → Option Nat} {n : Int32} {K A T : Nat → Int32} : zExt [] f n K A T f n K A T := fun _ h1 h2 => ⟨h1, h2⟩
theorem zExt.trans {np nq : List (Nat × Int32 × Int32 × Int32)} {f f2 f3 : Nat → Option Nat} {n n2 n3 : Int32} {K A T K2 A2 T2 K3 A3 T3 : Nat → Int32} (h1 : zExt np f n K A T f2 n2 K2 A2 T2) (h2 : zExt nq f2 n2 K2 A2 T2 f3 n3 K3 A3 T3) : zExt (nq ++ np) f n K A T f3 n3 K3 A3 T3 := fun L h3 h4 => by
  obtain ⟨h5, h6⟩ := h1 L h3 h4
  rw [List.append_assoc]
  exact h2 _ h5 h6
theorem zExt_new {q : Nat} {ki a t : Int32} {f : Nat → Option Nat} {n n2 : Int32} {K A T : Nat → Int32} (h0 : 0 ≤ n.toInt) (h : n2.toInt = n.toInt + 1) : zExt [(q, ki, a, t)] f n K A T (va_up f n.toNatClampNeg (some q)) n2 (upd K n.toNatClampNeg ki) (upd A n.toNatClampNeg a) (upd T n.toNatClampNeg t) := by
  intro L h1 h2
  have hn : n.toNatClampNeg = n.toInt.toNat := rfl
  refine ⟨fun j hj => ?_, fun j => ?_⟩
  · by_cases e : j = n.toNatClampNeg
    · subst e
      refine ⟨q, by simp [va_up], ?_⟩
      simp [upd]
    · obtain ⟨u, h3, h4⟩ := h1 j (by omega)
      refine ⟨u, by simp only [va_up]; rw [if_neg e]; exact h3, ?_⟩
      simp only [upd]; rw [if_neg e, if_neg e, if_neg e]
      exact List.mem_cons_of_mem _ h4
  · by_cases e : j = n.toNatClampNeg
    · subst e
      exact Or.inr ⟨q, ki, a, t, by simp [va_up], by simp⟩
    · rcases h2 j with h3 | ⟨u, k, a', t', h3, h4⟩
      · exact Or.inl (by simp only [va_up]; rw [if_neg e]; exact h3)
      · exact Or.inr ⟨u, k, a', t', by simp only [va_up]; rw [if_neg e]; exact h3, List.mem_cons_of_mem _ h4⟩
/-- what row answers -/
def zRow (s o n : Int) : Int := if s < 0 then -1 else if 7 < s then -1 else if n < 0 then -4 else if o < 0 then -6 else if 3 < o then -6 else if 160 < n then -7 else 1
end
