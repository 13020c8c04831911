set_option maxHeartbeats 4000000 in
set_option maxRecDepth 100000 in
theorem c_M_own_0_0 (l : Launch) (D : va_G) (cI cJ cZ cP cS : ClassId) (po : zPool)   : Met l yX1_ownBody wsX1_ownBody ({ frames := 0, cells := 0, slots := 0, locals := 0 }) (va_Pc [.int 0, .int 0] (zR D (zKT cI cJ cZ cP cS) po [])) (vp_Si (fun r => r = 10)) 0 0 (fun _ => False) := by
  refine Met.ofW (cc := cX1_ownBody) (maxL := 2) (ret := (some .int)) (by decide) rfl ?_
  intro p e s m args below meth c s₁ B hml hv
  obtain ⟨rfl, hP, hK, hN, hZ⟩ := hv
  have hx := B.exec
  have hb := B.bytes
  have hr := B.returns
  have hts := atoms_spec (ws := wsX1_ownBody) B.pre
  have hown : s.vm.findClass RX1 = some m.cls := findClass_of_methodNamed B.named
  have hlocks := B.notSynchronized
  have hl := lv_entry ([.int 0, .int 0]) (n := 2) (Nat.le_of_ble_eq_true rfl)
  rw [lg_entry_eq]
  generalize (lg_sl ([.int 0, .int 0]) ++ List.replicate (2 - (lg_sl ([.int 0, .int 0])).length) Slot.unset).toArray = ls at hl ⊢
  replace hl : lv_has ls 2 [(0, .int 0), (1, .int 0)] := hl
  refine lv_iload_n hx hb dX1_ownBody_0 rfl (lv_at hl 0 rfl) ?_
  refine lv_tableIn (tgt := 40) hx hb dX1_ownBody_1 (by decide) (by decide) rfl (by decide) ?_
  refine lv_bipush (v := 10) hx hb dX1_ownBody_40 (by decide) ?_
  refine lv_iload_n hx hb dX1_ownBody_42 rfl (lv_at hl 1 rfl) ?_
  refine lv_iadd hx hb dX1_ownBody_43 ?_
  refine lv_topi (fun y_1 ey_1 => ?_)
  obtain rfl : y_1 = 10 := ey_1.trans (by decide)
  exact W.iret (v := 10) hx hb hr (fun t ht hW => ⟨10, rfl, rfl, ht⟩) (fun q hq => by cases hq) dX1_ownBody_44
set_option maxHeartbeats 4000000 in
set_option maxRecDepth 100000 in
theorem c_M_own_0_1 (l : Launch) (D : va_G) (cI cJ cZ cP cS : ClassId) (po : zPool)   : Met l yX1_ownBody wsX1_ownBody ({ frames := 0, cells := 0, slots := 0, locals := 0 }) (va_Pc [.int 0, .int 1] (zR D (zKT cI cJ cZ cP cS) po [])) (vp_Si (fun r => r = 11)) 0 0 (fun _ => False) := by
  refine Met.ofW (cc := cX1_ownBody) (maxL := 2) (ret := (some .int)) (by decide) rfl ?_
  intro p e s m args below meth c s₁ B hml hv
  obtain ⟨rfl, hP, hK, hN, hZ⟩ := hv
  have hx := B.exec
  have hb := B.bytes
  have hr := B.returns
  have hts := atoms_spec (ws := wsX1_ownBody) B.pre
  have hown : s.vm.findClass RX1 = some m.cls := findClass_of_methodNamed B.named
  have hlocks := B.notSynchronized
  have hl := lv_entry ([.int 0, .int 1]) (n := 2) (Nat.le_of_ble_eq_true rfl)
  rw [lg_entry_eq]
  generalize (lg_sl ([.int 0, .int 1]) ++ List.replicate (2 - (lg_sl ([.int 0, .int 1])).length) Slot.unset).toArray = ls at hl ⊢
  replace hl : lv_has ls 2 [(0, .int 0), (1, .int 1)] := hl
  refine lv_iload_n hx hb dX1_ownBody_0 rfl (lv_at hl 0 rfl) ?_
  refine lv_tableIn (tgt := 40) hx hb dX1_ownBody_1 (by decide) (by decide) rfl (by decide) ?_
  refine lv_bipush (v := 10) hx hb dX1_ownBody_40 (by decide) ?_
  refine lv_iload_n hx hb dX1_ownBody_42 rfl (lv_at hl 1 rfl) ?_
  refine lv_iadd hx hb dX1_ownBody_43 ?_
  refine lv_topi (fun y_1 ey_1 => ?_)
  obtain rfl : y_1 = 11 := ey_1.trans (by decide)
  exact W.iret (v := 11) hx hb hr (fun t ht hW => ⟨11, rfl, rfl, ht⟩) (fun q hq => by cases hq) dX1_ownBody_44
set_option maxHeartbeats 4000000 in
set_option maxRecDepth 100000 in
theorem c_M_own_0_2 (l : Launch) (D : va_G) (cI cJ cZ cP cS : ClassId) (po : zPool)   : Met l yX1_ownBody wsX1_ownBody ({ frames := 0, cells := 0, slots := 0, locals := 0 }) (va_Pc [.int 0, .int 2] (zR D (zKT cI cJ cZ cP cS) po [])) (vp_Si (fun r => r = 12)) 0 0 (fun _ => False) := by
  refine Met.ofW (cc := cX1_ownBody) (maxL := 2) (ret := (some .int)) (by decide) rfl ?_
  intro p e s m args below meth c s₁ B hml hv
  obtain ⟨rfl, hP, hK, hN, hZ⟩ := hv
  have hx := B.exec
  have hb := B.bytes
  have hr := B.returns
  have hts := atoms_spec (ws := wsX1_ownBody) B.pre
  have hown : s.vm.findClass RX1 = some m.cls := findClass_of_methodNamed B.named
  have hlocks := B.notSynchronized
  have hl := lv_entry ([.int 0, .int 2]) (n := 2) (Nat.le_of_ble_eq_true rfl)
  rw [lg_entry_eq]
  generalize (lg_sl ([.int 0, .int 2]) ++ List.replicate (2 - (lg_sl ([.int 0, .int 2])).length) Slot.unset).toArray = ls at hl ⊢
  replace hl : lv_has ls 2 [(0, .int 0), (1, .int 2)] := hl
  refine lv_iload_n hx hb dX1_ownBody_0 rfl (lv_at hl 0 rfl) ?_
  refine lv_tableIn (tgt := 40) hx hb dX1_ownBody_1 (by decide) (by decide) rfl (by decide) ?_
  refine lv_bipush (v := 10) hx hb dX1_ownBody_40 (by decide) ?_
  refine lv_iload_n hx hb dX1_ownBody_42 rfl (lv_at hl 1 rfl) ?_
  refine lv_iadd hx hb dX1_ownBody_43 ?_
  refine lv_topi (fun y_1 ey_1 => ?_)
  obtain rfl : y_1 = 12 := ey_1.trans (by decide)
  exact W.iret (v := 12) hx hb hr (fun t ht hW => ⟨12, rfl, rfl, ht⟩) (fun q hq => by cases hq) dX1_ownBody_44
set_option maxHeartbeats 4000000 in
set_option maxRecDepth 100000 in
theorem c_M_own_1_0 (l : Launch) (D : va_G) (cI cJ cZ cP cS : ClassId) (po : zPool)   : Met l yX1_ownBody wsX1_ownBody ({ frames := 0, cells := 0, slots := 0, locals := 0 }) (va_Pc [.int 1, .int 0] (zR D (zKT cI cJ cZ cP cS) po [])) (vp_Si (fun r => r = 20)) 0 0 (fun _ => False) := by
  refine Met.ofW (cc := cX1_ownBody) (maxL := 2) (ret := (some .int)) (by decide) rfl ?_
  intro p e s m args below meth c s₁ B hml hv
  obtain ⟨rfl, hP, hK, hN, hZ⟩ := hv
  have hx := B.exec
  have hb := B.bytes
  have hr := B.returns
  have hts := atoms_spec (ws := wsX1_ownBody) B.pre
  have hown : s.vm.findClass RX1 = some m.cls := findClass_of_methodNamed B.named
  have hlocks := B.notSynchronized
  have hl := lv_entry ([.int 1, .int 0]) (n := 2) (Nat.le_of_ble_eq_true rfl)
  rw [lg_entry_eq]
  generalize (lg_sl ([.int 1, .int 0]) ++ List.replicate (2 - (lg_sl ([.int 1, .int 0])).length) Slot.unset).toArray = ls at hl ⊢
  replace hl : lv_has ls 2 [(0, .int 1), (1, .int 0)] := hl
  refine lv_iload_n hx hb dX1_ownBody_0 rfl (lv_at hl 0 rfl) ?_
  refine lv_tableIn (tgt := 45) hx hb dX1_ownBody_1 (by decide) (by decide) rfl (by decide) ?_
  refine lv_iload_n hx hb dX1_ownBody_45 rfl (lv_at hl 1 rfl) ?_
  refine lv_if_ne (tgt := 54) hx hb dX1_ownBody_46 (by decide) (fun c_1 => ?_) (fun c_1 => ?_)
  · exact absurd c_1 (by decide)
  · refine lv_bipush (v := 20) hx hb dX1_ownBody_49 (by decide) ?_
    refine lv_goto (tgt := 55) hx hb dX1_ownBody_51 (by decide) ?_
    exact W.iret (v := 20) hx hb hr (fun t ht hW => ⟨20, rfl, rfl, ht⟩) (fun q hq => by cases hq) dX1_ownBody_55
set_option maxHeartbeats 4000000 in
set_option maxRecDepth 100000 in
theorem c_M_own_1_1 (l : Launch) (D : va_G) (cI cJ cZ cP cS : ClassId) (po : zPool)   : Met l yX1_ownBody wsX1_ownBody ({ frames := 0, cells := 0, slots := 0, locals := 0 }) (va_Pc [.int 1, .int 1] (zR D (zKT cI cJ cZ cP cS) po [])) (vp_Si (fun r => r = (-1))) 0 0 (fun _ => False) := by
  refine Met.ofW (cc := cX1_ownBody) (maxL := 2) (ret := (some .int)) (by decide) rfl ?_
  intro p e s m args below meth c s₁ B hml hv
  obtain ⟨rfl, hP, hK, hN, hZ⟩ := hv
  have hx := B.exec
  have hb := B.bytes
  have hr := B.returns
  have hts := atoms_spec (ws := wsX1_ownBody) B.pre
  have hown : s.vm.findClass RX1 = some m.cls := findClass_of_methodNamed B.named
  have hlocks := B.notSynchronized
  have hl := lv_entry ([.int 1, .int 1]) (n := 2) (Nat.le_of_ble_eq_true rfl)
  rw [lg_entry_eq]
  generalize (lg_sl ([.int 1, .int 1]) ++ List.replicate (2 - (lg_sl ([.int 1, .int 1])).length) Slot.unset).toArray = ls at hl ⊢
  replace hl : lv_has ls 2 [(0, .int 1), (1, .int 1)] := hl
  refine lv_iload_n hx hb dX1_ownBody_0 rfl (lv_at hl 0 rfl) ?_
  refine lv_tableIn (tgt := 45) hx hb dX1_ownBody_1 (by decide) (by decide) rfl (by decide) ?_
  refine lv_iload_n hx hb dX1_ownBody_45 rfl (lv_at hl 1 rfl) ?_
  refine lv_if_ne (tgt := 54) hx hb dX1_ownBody_46 (by decide) (fun c_1 => ?_) (fun c_1 => ?_)
  · refine lv_iconst (v := (-1)) hx hb dX1_ownBody_54 (by decide) ?_
    exact W.iret (v := (-1)) hx hb hr (fun t ht hW => ⟨(-1), rfl, rfl, ht⟩) (fun q hq => by cases hq) dX1_ownBody_55
  · exact absurd c_1 (by decide)
set_option maxHeartbeats 4000000 in
set_option maxRecDepth 100000 in
theorem c_M_own_1_2 (l : Launch) (D : va_G) (cI cJ cZ cP cS : ClassId) (po : zPool)   : Met l yX1_ownBody wsX1_ownBody ({ frames := 0, cells := 0, slots := 0, locals := 0 }) (va_Pc [.int 1, .int 2] (zR D (zKT cI cJ cZ cP cS) po [])) (vp_Si (fun r => r = (-1))) 0 0 (fun _ => False) := by
  refine Met.ofW (cc := cX1_ownBody) (maxL := 2) (ret := (some .int)) (by decide) rfl ?_
  intro p e s m args below meth c s₁ B hml hv
  obtain ⟨rfl, hP, hK, hN, hZ⟩ := hv
  have hx := B.exec
  have hb := B.bytes
  have hr := B.returns
  have hts := atoms_spec (ws := wsX1_ownBody) B.pre
  have hown : s.vm.findClass RX1 = some m.cls := findClass_of_methodNamed B.named
  have hlocks := B.notSynchronized
  have hl := lv_entry ([.int 1, .int 2]) (n := 2) (Nat.le_of_ble_eq_true rfl)
  rw [lg_entry_eq]
  generalize (lg_sl ([.int 1, .int 2]) ++ List.replicate (2 - (lg_sl ([.int 1, .int 2])).length) Slot.unset).toArray = ls at hl ⊢
  replace hl : lv_has ls 2 [(0, .int 1), (1, .int 2)] := hl
  refine lv_iload_n hx hb dX1_ownBody_0 rfl (lv_at hl 0 rfl) ?_
  refine lv_tableIn (tgt := 45) hx hb dX1_ownBody_1 (by decide) (by decide) rfl (by decide) ?_
  refine lv_iload_n hx hb dX1_ownBody_45 rfl (lv_at hl 1 rfl) ?_
  refine lv_if_ne (tgt := 54) hx hb dX1_ownBody_46 (by decide) (fun c_1 => ?_) (fun c_1 => ?_)
  · refine lv_iconst (v := (-1)) hx hb dX1_ownBody_54 (by decide) ?_
    exact W.iret (v := (-1)) hx hb hr (fun t ht hW => ⟨(-1), rfl, rfl, ht⟩) (fun q hq => by cases hq) dX1_ownBody_55
  · exact absurd c_1 (by decide)
set_option maxHeartbeats 4000000 in
set_option maxRecDepth 100000 in
theorem c_M_own_2_0 (l : Launch) (D : va_G) (cI cJ cZ cP cS : ClassId) (po : zPool)   : Met l yX1_ownBody wsX1_ownBody ({ frames := 0, cells := 0, slots := 0, locals := 0 }) (va_Pc [.int 2, .int 0] (zR D (zKT cI cJ cZ cP cS) po [])) (vp_Si (fun r => r = (-1))) 0 0 (fun _ => False) := by
  refine Met.ofW (cc := cX1_ownBody) (maxL := 2) (ret := (some .int)) (by decide) rfl ?_
  intro p e s m args below meth c s₁ B hml hv
  obtain ⟨rfl, hP, hK, hN, hZ⟩ := hv
  have hx := B.exec
  have hb := B.bytes
  have hr := B.returns
  have hts := atoms_spec (ws := wsX1_ownBody) B.pre
  have hown : s.vm.findClass RX1 = some m.cls := findClass_of_methodNamed B.named
  have hlocks := B.notSynchronized
  have hl := lv_entry ([.int 2, .int 0]) (n := 2) (Nat.le_of_ble_eq_true rfl)
  rw [lg_entry_eq]
  generalize (lg_sl ([.int 2, .int 0]) ++ List.replicate (2 - (lg_sl ([.int 2, .int 0])).length) Slot.unset).toArray = ls at hl ⊢
  replace hl : lv_has ls 2 [(0, .int 2), (1, .int 0)] := hl
  refine lv_iload_n hx hb dX1_ownBody_0 rfl (lv_at hl 0 rfl) ?_
  refine lv_tableIn (tgt := 56) hx hb dX1_ownBody_1 (by decide) (by decide) rfl (by decide) ?_
  refine lv_iload_n hx hb dX1_ownBody_56 rfl (lv_at hl 1 rfl) ?_
  refine lv_iconst (v := 1) hx hb dX1_ownBody_57 (by decide) ?_
  refine lv_icmp_ne (tgt := 66) hx hb dX1_ownBody_58 (by decide) (fun c_1 => ?_) (fun c_1 => ?_)
  · refine lv_iconst (v := (-1)) hx hb dX1_ownBody_66 (by decide) ?_
    exact W.iret (v := (-1)) hx hb hr (fun t ht hW => ⟨(-1), rfl, rfl, ht⟩) (fun q hq => by cases hq) dX1_ownBody_67
  · exact absurd c_1 (by decide)
set_option maxHeartbeats 4000000 in
set_option maxRecDepth 100000 in
theorem c_M_own_2_1 (l : Launch) (D : va_G) (cI cJ cZ cP cS : ClassId) (po : zPool)   : Met l yX1_ownBody wsX1_ownBody ({ frames := 0, cells := 0, slots := 0, locals := 0 }) (va_Pc [.int 2, .int 1] (zR D (zKT cI cJ cZ cP cS) po [])) (vp_Si (fun r => r = 30)) 0 0 (fun _ => False) := by
  refine Met.ofW (cc := cX1_ownBody) (maxL := 2) (ret := (some .int)) (by decide) rfl ?_
  intro p e s m args below meth c s₁ B hml hv
  obtain ⟨rfl, hP, hK, hN, hZ⟩ := hv
  have hx := B.exec
  have hb := B.bytes
  have hr := B.returns
  have hts := atoms_spec (ws := wsX1_ownBody) B.pre
  have hown : s.vm.findClass RX1 = some m.cls := findClass_of_methodNamed B.named
  have hlocks := B.notSynchronized
  have hl := lv_entry ([.int 2, .int 1]) (n := 2) (Nat.le_of_ble_eq_true rfl)
  rw [lg_entry_eq]
  generalize (lg_sl ([.int 2, .int 1]) ++ List.replicate (2 - (lg_sl ([.int 2, .int 1])).length) Slot.unset).toArray = ls at hl ⊢
  replace hl : lv_has ls 2 [(0, .int 2), (1, .int 1)] := hl
  refine lv_iload_n hx hb dX1_ownBody_0 rfl (lv_at hl 0 rfl) ?_
  refine lv_tableIn (tgt := 56) hx hb dX1_ownBody_1 (by decide) (by decide) rfl (by decide) ?_
  refine lv_iload_n hx hb dX1_ownBody_56 rfl (lv_at hl 1 rfl) ?_
  refine lv_iconst (v := 1) hx hb dX1_ownBody_57 (by decide) ?_
  refine lv_icmp_ne (tgt := 66) hx hb dX1_ownBody_58 (by decide) (fun c_1 => ?_) (fun c_1 => ?_)
  · exact absurd c_1 (by decide)
  · refine lv_bipush (v := 30) hx hb dX1_ownBody_61 (by decide) ?_
    refine lv_goto (tgt := 67) hx hb dX1_ownBody_63 (by decide) ?_
    exact W.iret (v := 30) hx hb hr (fun t ht hW => ⟨30, rfl, rfl, ht⟩) (fun q hq => by cases hq) dX1_ownBody_67
set_option maxHeartbeats 4000000 in
set_option maxRecDepth 100000 in
theorem c_M_own_2_2 (l : Launch) (D : va_G) (cI cJ cZ cP cS : ClassId) (po : zPool)   : Met l yX1_ownBody wsX1_ownBody ({ frames := 0, cells := 0, slots := 0, locals := 0 }) (va_Pc [.int 2, .int 2] (zR D (zKT cI cJ cZ cP cS) po [])) (vp_Si (fun r => r = (-1))) 0 0 (fun _ => False) := by
  refine Met.ofW (cc := cX1_ownBody) (maxL := 2) (ret := (some .int)) (by decide) rfl ?_
  intro p e s m args below meth c s₁ B hml hv
  obtain ⟨rfl, hP, hK, hN, hZ⟩ := hv
  have hx := B.exec
  have hb := B.bytes
  have hr := B.returns
  have hts := atoms_spec (ws := wsX1_ownBody) B.pre
  have hown : s.vm.findClass RX1 = some m.cls := findClass_of_methodNamed B.named
  have hlocks := B.notSynchronized
  have hl := lv_entry ([.int 2, .int 2]) (n := 2) (Nat.le_of_ble_eq_true rfl)
  rw [lg_entry_eq]
  generalize (lg_sl ([.int 2, .int 2]) ++ List.replicate (2 - (lg_sl ([.int 2, .int 2])).length) Slot.unset).toArray = ls at hl ⊢
  replace hl : lv_has ls 2 [(0, .int 2), (1, .int 2)] := hl
  refine lv_iload_n hx hb dX1_ownBody_0 rfl (lv_at hl 0 rfl) ?_
  refine lv_tableIn (tgt := 56) hx hb dX1_ownBody_1 (by decide) (by decide) rfl (by decide) ?_
  refine lv_iload_n hx hb dX1_ownBody_56 rfl (lv_at hl 1 rfl) ?_
  refine lv_iconst (v := 1) hx hb dX1_ownBody_57 (by decide) ?_
  refine lv_icmp_ne (tgt := 66) hx hb dX1_ownBody_58 (by decide) (fun c_1 => ?_) (fun c_1 => ?_)
  · refine lv_iconst (v := (-1)) hx hb dX1_ownBody_66 (by decide) ?_
    exact W.iret (v := (-1)) hx hb hr (fun t ht hW => ⟨(-1), rfl, rfl, ht⟩) (fun q hq => by cases hq) dX1_ownBody_67
  · exact absurd c_1 (by decide)
set_option maxHeartbeats 4000000 in
set_option maxRecDepth 100000 in
theorem c_M_own_3_0 (l : Launch) (D : va_G) (cI cJ cZ cP cS : ClassId) (po : zPool)   : Met l yX1_ownBody wsX1_ownBody ({ frames := 0, cells := 0, slots := 0, locals := 0 }) (va_Pc [.int 3, .int 0] (zR D (zKT cI cJ cZ cP cS) po [])) (vp_Si (fun r => r = (-1))) 0 0 (fun _ => False) := by
  refine Met.ofW (cc := cX1_ownBody) (maxL := 2) (ret := (some .int)) (by decide) rfl ?_
  intro p e s m args below meth c s₁ B hml hv
  obtain ⟨rfl, hP, hK, hN, hZ⟩ := hv
  have hx := B.exec
  have hb := B.bytes
  have hr := B.returns
  have hts := atoms_spec (ws := wsX1_ownBody) B.pre
  have hown : s.vm.findClass RX1 = some m.cls := findClass_of_methodNamed B.named
  have hlocks := B.notSynchronized
  have hl := lv_entry ([.int 3, .int 0]) (n := 2) (Nat.le_of_ble_eq_true rfl)
  rw [lg_entry_eq]
  generalize (lg_sl ([.int 3, .int 0]) ++ List.replicate (2 - (lg_sl ([.int 3, .int 0])).length) Slot.unset).toArray = ls at hl ⊢
  replace hl : lv_has ls 2 [(0, .int 3), (1, .int 0)] := hl
  refine lv_iload_n hx hb dX1_ownBody_0 rfl (lv_at hl 0 rfl) ?_
  refine lv_tableIn (tgt := 68) hx hb dX1_ownBody_1 (by decide) (by decide) rfl (by decide) ?_
  refine lv_iload_n hx hb dX1_ownBody_68 rfl (lv_at hl 1 rfl) ?_
  refine lv_iconst (v := 1) hx hb dX1_ownBody_69 (by decide) ?_
  refine lv_icmp_ne (tgt := 78) hx hb dX1_ownBody_70 (by decide) (fun c_1 => ?_) (fun c_1 => ?_)
  · refine lv_iconst (v := (-1)) hx hb dX1_ownBody_78 (by decide) ?_
    exact W.iret (v := (-1)) hx hb hr (fun t ht hW => ⟨(-1), rfl, rfl, ht⟩) (fun q hq => by cases hq) dX1_ownBody_79
  · exact absurd c_1 (by decide)
set_option maxHeartbeats 4000000 in
set_option maxRecDepth 100000 in
theorem c_M_own_3_1 (l : Launch) (D : va_G) (cI cJ cZ cP cS : ClassId) (po : zPool)   : Met l yX1_ownBody wsX1_ownBody ({ frames := 0, cells := 0, slots := 0, locals := 0 }) (va_Pc [.int 3, .int 1] (zR D (zKT cI cJ cZ cP cS) po [])) (vp_Si (fun r => r = 40)) 0 0 (fun _ => False) := by
  refine Met.ofW (cc := cX1_ownBody) (maxL := 2) (ret := (some .int)) (by decide) rfl ?_
  intro p e s m args below meth c s₁ B hml hv
  obtain ⟨rfl, hP, hK, hN, hZ⟩ := hv
  have hx := B.exec
  have hb := B.bytes
  have hr := B.returns
  have hts := atoms_spec (ws := wsX1_ownBody) B.pre
  have hown : s.vm.findClass RX1 = some m.cls := findClass_of_methodNamed B.named
  have hlocks := B.notSynchronized
  have hl := lv_entry ([.int 3, .int 1]) (n := 2) (Nat.le_of_ble_eq_true rfl)
  rw [lg_entry_eq]
  generalize (lg_sl ([.int 3, .int 1]) ++ List.replicate (2 - (lg_sl ([.int 3, .int 1])).length) Slot.unset).toArray = ls at hl ⊢
  replace hl : lv_has ls 2 [(0, .int 3), (1, .int 1)] := hl
  refine lv_iload_n hx hb dX1_ownBody_0 rfl (lv_at hl 0 rfl) ?_
  refine lv_tableIn (tgt := 68) hx hb dX1_ownBody_1 (by decide) (by decide) rfl (by decide) ?_
  refine lv_iload_n hx hb dX1_ownBody_68 rfl (lv_at hl 1 rfl) ?_
  refine lv_iconst (v := 1) hx hb dX1_ownBody_69 (by decide) ?_
  refine lv_icmp_ne (tgt := 78) hx hb dX1_ownBody_70 (by decide) (fun c_1 => ?_) (fun c_1 => ?_)
  · exact absurd c_1 (by decide)
  · refine lv_bipush (v := 40) hx hb dX1_ownBody_73 (by decide) ?_
    refine lv_goto (tgt := 79) hx hb dX1_ownBody_75 (by decide) ?_
    exact W.iret (v := 40) hx hb hr (fun t ht hW => ⟨40, rfl, rfl, ht⟩) (fun q hq => by cases hq) dX1_ownBody_79
set_option maxHeartbeats 4000000 in
set_option maxRecDepth 100000 in
theorem c_M_own_3_2 (l : Launch) (D : va_G) (cI cJ cZ cP cS : ClassId) (po : zPool)   : Met l yX1_ownBody wsX1_ownBody ({ frames := 0, cells := 0, slots := 0, locals := 0 }) (va_Pc [.int 3, .int 2] (zR D (zKT cI cJ cZ cP cS) po [])) (vp_Si (fun r => r = (-1))) 0 0 (fun _ => False) := by
  refine Met.ofW (cc := cX1_ownBody) (maxL := 2) (ret := (some .int)) (by decide) rfl ?_
  intro p e s m args below meth c s₁ B hml hv
  obtain ⟨rfl, hP, hK, hN, hZ⟩ := hv
  have hx := B.exec
  have hb := B.bytes
  have hr := B.returns
  have hts := atoms_spec (ws := wsX1_ownBody) B.pre
  have hown : s.vm.findClass RX1 = some m.cls := findClass_of_methodNamed B.named
  have hlocks := B.notSynchronized
  have hl := lv_entry ([.int 3, .int 2]) (n := 2) (Nat.le_of_ble_eq_true rfl)
  rw [lg_entry_eq]
  generalize (lg_sl ([.int 3, .int 2]) ++ List.replicate (2 - (lg_sl ([.int 3, .int 2])).length) Slot.unset).toArray = ls at hl ⊢
  replace hl : lv_has ls 2 [(0, .int 3), (1, .int 2)] := hl
  refine lv_iload_n hx hb dX1_ownBody_0 rfl (lv_at hl 0 rfl) ?_
  refine lv_tableIn (tgt := 68) hx hb dX1_ownBody_1 (by decide) (by decide) rfl (by decide) ?_
  refine lv_iload_n hx hb dX1_ownBody_68 rfl (lv_at hl 1 rfl) ?_
  refine lv_iconst (v := 1) hx hb dX1_ownBody_69 (by decide) ?_
  refine lv_icmp_ne (tgt := 78) hx hb dX1_ownBody_70 (by decide) (fun c_1 => ?_) (fun c_1 => ?_)
  · refine lv_iconst (v := (-1)) hx hb dX1_ownBody_78 (by decide) ?_
    exact W.iret (v := (-1)) hx hb hr (fun t ht hW => ⟨(-1), rfl, rfl, ht⟩) (fun q hq => by cases hq) dX1_ownBody_79
  · exact absurd c_1 (by decide)
set_option maxHeartbeats 4000000 in
set_option maxRecDepth 100000 in
theorem c_M_own_4_0 (l : Launch) (D : va_G) (cI cJ cZ cP cS : ClassId) (po : zPool)   : Met l yX1_ownBody wsX1_ownBody ({ frames := 0, cells := 0, slots := 0, locals := 0 }) (va_Pc [.int 4, .int 0] (zR D (zKT cI cJ cZ cP cS) po [])) (vp_Si (fun r => r = 51)) 0 0 (fun _ => False) := by
  refine Met.ofW (cc := cX1_ownBody) (maxL := 2) (ret := (some .int)) (by decide) rfl ?_
  intro p e s m args below meth c s₁ B hml hv
  obtain ⟨rfl, hP, hK, hN, hZ⟩ := hv
  have hx := B.exec
  have hb := B.bytes
  have hr := B.returns
  have hts := atoms_spec (ws := wsX1_ownBody) B.pre
  have hown : s.vm.findClass RX1 = some m.cls := findClass_of_methodNamed B.named
  have hlocks := B.notSynchronized
  have hl := lv_entry ([.int 4, .int 0]) (n := 2) (Nat.le_of_ble_eq_true rfl)
  rw [lg_entry_eq]
  generalize (lg_sl ([.int 4, .int 0]) ++ List.replicate (2 - (lg_sl ([.int 4, .int 0])).length) Slot.unset).toArray = ls at hl ⊢
  replace hl : lv_has ls 2 [(0, .int 4), (1, .int 0)] := hl
  refine lv_iload_n hx hb dX1_ownBody_0 rfl (lv_at hl 0 rfl) ?_
  refine lv_tableIn (tgt := 80) hx hb dX1_ownBody_1 (by decide) (by decide) rfl (by decide) ?_
  refine lv_iload_n hx hb dX1_ownBody_80 rfl (lv_at hl 1 rfl) ?_
  refine lv_iconst (v := 2) hx hb dX1_ownBody_81 (by decide) ?_
  refine lv_icmp_ne (tgt := 90) hx hb dX1_ownBody_82 (by decide) (fun c_1 => ?_) (fun c_1 => ?_)
  · refine lv_iload_n hx hb dX1_ownBody_90 rfl (lv_at hl 1 rfl) ?_
    refine lv_if_ne (tgt := 99) hx hb dX1_ownBody_91 (by decide) (fun c_2 => ?_) (fun c_2 => ?_)
    · exact absurd c_2 (by decide)
    · refine lv_bipush (v := 51) hx hb dX1_ownBody_94 (by decide) ?_
      refine lv_goto (tgt := 100) hx hb dX1_ownBody_96 (by decide) ?_
      exact W.iret (v := 51) hx hb hr (fun t ht hW => ⟨51, rfl, rfl, ht⟩) (fun q hq => by cases hq) dX1_ownBody_100
  · exact absurd c_1 (by decide)
set_option maxHeartbeats 4000000 in
set_option maxRecDepth 100000 in
theorem c_M_own_4_1 (l : Launch) (D : va_G) (cI cJ cZ cP cS : ClassId) (po : zPool)   : Met l yX1_ownBody wsX1_ownBody ({ frames := 0, cells := 0, slots := 0, locals := 0 }) (va_Pc [.int 4, .int 1] (zR D (zKT cI cJ cZ cP cS) po [])) (vp_Si (fun r => r = (-1))) 0 0 (fun _ => False) := by
  refine Met.ofW (cc := cX1_ownBody) (maxL := 2) (ret := (some .int)) (by decide) rfl ?_
  intro p e s m args below meth c s₁ B hml hv
  obtain ⟨rfl, hP, hK, hN, hZ⟩ := hv
  have hx := B.exec
  have hb := B.bytes
  have hr := B.returns
  have hts := atoms_spec (ws := wsX1_ownBody) B.pre
  have hown : s.vm.findClass RX1 = some m.cls := findClass_of_methodNamed B.named
  have hlocks := B.notSynchronized
  have hl := lv_entry ([.int 4, .int 1]) (n := 2) (Nat.le_of_ble_eq_true rfl)
  rw [lg_entry_eq]
  generalize (lg_sl ([.int 4, .int 1]) ++ List.replicate (2 - (lg_sl ([.int 4, .int 1])).length) Slot.unset).toArray = ls at hl ⊢
  replace hl : lv_has ls 2 [(0, .int 4), (1, .int 1)] := hl
  refine lv_iload_n hx hb dX1_ownBody_0 rfl (lv_at hl 0 rfl) ?_
  refine lv_tableIn (tgt := 80) hx hb dX1_ownBody_1 (by decide) (by decide) rfl (by decide) ?_
  refine lv_iload_n hx hb dX1_ownBody_80 rfl (lv_at hl 1 rfl) ?_
  refine lv_iconst (v := 2) hx hb dX1_ownBody_81 (by decide) ?_
  refine lv_icmp_ne (tgt := 90) hx hb dX1_ownBody_82 (by decide) (fun c_1 => ?_) (fun c_1 => ?_)
  · refine lv_iload_n hx hb dX1_ownBody_90 rfl (lv_at hl 1 rfl) ?_
    refine lv_if_ne (tgt := 99) hx hb dX1_ownBody_91 (by decide) (fun c_2 => ?_) (fun c_2 => ?_)
    · refine lv_iconst (v := (-1)) hx hb dX1_ownBody_99 (by decide) ?_
      exact W.iret (v := (-1)) hx hb hr (fun t ht hW => ⟨(-1), rfl, rfl, ht⟩) (fun q hq => by cases hq) dX1_ownBody_100
    · exact absurd c_2 (by decide)
  · exact absurd c_1 (by decide)
set_option maxHeartbeats 4000000 in
set_option maxRecDepth 100000 in
theorem c_M_own_4_2 (l : Launch) (D : va_G) (cI cJ cZ cP cS : ClassId) (po : zPool)   : Met l yX1_ownBody wsX1_ownBody ({ frames := 0, cells := 0, slots := 0, locals := 0 }) (va_Pc [.int 4, .int 2] (zR D (zKT cI cJ cZ cP cS) po [])) (vp_Si (fun r => r = 50)) 0 0 (fun _ => False) := by
  refine Met.ofW (cc := cX1_ownBody) (maxL := 2) (ret := (some .int)) (by decide) rfl ?_
  intro p e s m args below meth c s₁ B hml hv
  obtain ⟨rfl, hP, hK, hN, hZ⟩ := hv
  have hx := B.exec
  have hb := B.bytes
  have hr := B.returns
  have hts := atoms_spec (ws := wsX1_ownBody) B.pre
  have hown : s.vm.findClass RX1 = some m.cls := findClass_of_methodNamed B.named
  have hlocks := B.notSynchronized
  have hl := lv_entry ([.int 4, .int 2]) (n := 2) (Nat.le_of_ble_eq_true rfl)
  rw [lg_entry_eq]
  generalize (lg_sl ([.int 4, .int 2]) ++ List.replicate (2 - (lg_sl ([.int 4, .int 2])).length) Slot.unset).toArray = ls at hl ⊢
  replace hl : lv_has ls 2 [(0, .int 4), (1, .int 2)] := hl
  refine lv_iload_n hx hb dX1_ownBody_0 rfl (lv_at hl 0 rfl) ?_
  refine lv_tableIn (tgt := 80) hx hb dX1_ownBody_1 (by decide) (by decide) rfl (by decide) ?_
  refine lv_iload_n hx hb dX1_ownBody_80 rfl (lv_at hl 1 rfl) ?_
  refine lv_iconst (v := 2) hx hb dX1_ownBody_81 (by decide) ?_
  refine lv_icmp_ne (tgt := 90) hx hb dX1_ownBody_82 (by decide) (fun c_1 => ?_) (fun c_1 => ?_)
  · exact absurd c_1 (by decide)
  · refine lv_bipush (v := 50) hx hb dX1_ownBody_85 (by decide) ?_
    refine lv_goto (tgt := 100) hx hb dX1_ownBody_87 (by decide) ?_
    exact W.iret (v := 50) hx hb hr (fun t ht hW => ⟨50, rfl, rfl, ht⟩) (fun q hq => by cases hq) dX1_ownBody_100
set_option maxHeartbeats 4000000 in
set_option maxRecDepth 100000 in
theorem c_M_own_5_0 (l : Launch) (D : va_G) (cI cJ cZ cP cS : ClassId) (po : zPool)   : Met l yX1_ownBody wsX1_ownBody ({ frames := 0, cells := 0, slots := 0, locals := 0 }) (va_Pc [.int 5, .int 0] (zR D (zKT cI cJ cZ cP cS) po [])) (vp_Si (fun r => r = (-1))) 0 0 (fun _ => False) := by
  refine Met.ofW (cc := cX1_ownBody) (maxL := 2) (ret := (some .int)) (by decide) rfl ?_
  intro p e s m args below meth c s₁ B hml hv
  obtain ⟨rfl, hP, hK, hN, hZ⟩ := hv
  have hx := B.exec
  have hb := B.bytes
  have hr := B.returns
  have hts := atoms_spec (ws := wsX1_ownBody) B.pre
  have hown : s.vm.findClass RX1 = some m.cls := findClass_of_methodNamed B.named
  have hlocks := B.notSynchronized
  have hl := lv_entry ([.int 5, .int 0]) (n := 2) (Nat.le_of_ble_eq_true rfl)
  rw [lg_entry_eq]
  generalize (lg_sl ([.int 5, .int 0]) ++ List.replicate (2 - (lg_sl ([.int 5, .int 0])).length) Slot.unset).toArray = ls at hl ⊢
  replace hl : lv_has ls 2 [(0, .int 5), (1, .int 0)] := hl
  refine lv_iload_n hx hb dX1_ownBody_0 rfl (lv_at hl 0 rfl) ?_
  refine lv_tableIn (tgt := 101) hx hb dX1_ownBody_1 (by decide) (by decide) rfl (by decide) ?_
  refine lv_iload_n hx hb dX1_ownBody_101 rfl (lv_at hl 1 rfl) ?_
  refine lv_iconst (v := 2) hx hb dX1_ownBody_102 (by decide) ?_
  refine lv_icmp_ne (tgt := 111) hx hb dX1_ownBody_103 (by decide) (fun c_1 => ?_) (fun c_1 => ?_)
  · refine lv_iconst (v := (-1)) hx hb dX1_ownBody_111 (by decide) ?_
    exact W.iret (v := (-1)) hx hb hr (fun t ht hW => ⟨(-1), rfl, rfl, ht⟩) (fun q hq => by cases hq) dX1_ownBody_112
  · exact absurd c_1 (by decide)
set_option maxHeartbeats 4000000 in
set_option maxRecDepth 100000 in
theorem c_M_own_5_1 (l : Launch) (D : va_G) (cI cJ cZ cP cS : ClassId) (po : zPool)   : Met l yX1_ownBody wsX1_ownBody ({ frames := 0, cells := 0, slots := 0, locals := 0 }) (va_Pc [.int 5, .int 1] (zR D (zKT cI cJ cZ cP cS) po [])) (vp_Si (fun r => r = (-1))) 0 0 (fun _ => False) := by
  refine Met.ofW (cc := cX1_ownBody) (maxL := 2) (ret := (some .int)) (by decide) rfl ?_
  intro p e s m args below meth c s₁ B hml hv
  obtain ⟨rfl, hP, hK, hN, hZ⟩ := hv
  have hx := B.exec
  have hb := B.bytes
  have hr := B.returns
  have hts := atoms_spec (ws := wsX1_ownBody) B.pre
  have hown : s.vm.findClass RX1 = some m.cls := findClass_of_methodNamed B.named
  have hlocks := B.notSynchronized
  have hl := lv_entry ([.int 5, .int 1]) (n := 2) (Nat.le_of_ble_eq_true rfl)
  rw [lg_entry_eq]
  generalize (lg_sl ([.int 5, .int 1]) ++ List.replicate (2 - (lg_sl ([.int 5, .int 1])).length) Slot.unset).toArray = ls at hl ⊢
  replace hl : lv_has ls 2 [(0, .int 5), (1, .int 1)] := hl
  refine lv_iload_n hx hb dX1_ownBody_0 rfl (lv_at hl 0 rfl) ?_
  refine lv_tableIn (tgt := 101) hx hb dX1_ownBody_1 (by decide) (by decide) rfl (by decide) ?_
  refine lv_iload_n hx hb dX1_ownBody_101 rfl (lv_at hl 1 rfl) ?_
  refine lv_iconst (v := 2) hx hb dX1_ownBody_102 (by decide) ?_
  refine lv_icmp_ne (tgt := 111) hx hb dX1_ownBody_103 (by decide) (fun c_1 => ?_) (fun c_1 => ?_)
  · refine lv_iconst (v := (-1)) hx hb dX1_ownBody_111 (by decide) ?_
    exact W.iret (v := (-1)) hx hb hr (fun t ht hW => ⟨(-1), rfl, rfl, ht⟩) (fun q hq => by cases hq) dX1_ownBody_112
  · exact absurd c_1 (by decide)
set_option maxHeartbeats 4000000 in
set_option maxRecDepth 100000 in
theorem c_M_own_5_2 (l : Launch) (D : va_G) (cI cJ cZ cP cS : ClassId) (po : zPool)   : Met l yX1_ownBody wsX1_ownBody ({ frames := 0, cells := 0, slots := 0, locals := 0 }) (va_Pc [.int 5, .int 2] (zR D (zKT cI cJ cZ cP cS) po [])) (vp_Si (fun r => r = 60)) 0 0 (fun _ => False) := by
  refine Met.ofW (cc := cX1_ownBody) (maxL := 2) (ret := (some .int)) (by decide) rfl ?_
  intro p e s m args below meth c s₁ B hml hv
  obtain ⟨rfl, hP, hK, hN, hZ⟩ := hv
  have hx := B.exec
  have hb := B.bytes
  have hr := B.returns
  have hts := atoms_spec (ws := wsX1_ownBody) B.pre
  have hown : s.vm.findClass RX1 = some m.cls := findClass_of_methodNamed B.named
  have hlocks := B.notSynchronized
  have hl := lv_entry ([.int 5, .int 2]) (n := 2) (Nat.le_of_ble_eq_true rfl)
  rw [lg_entry_eq]
  generalize (lg_sl ([.int 5, .int 2]) ++ List.replicate (2 - (lg_sl ([.int 5, .int 2])).length) Slot.unset).toArray = ls at hl ⊢
  replace hl : lv_has ls 2 [(0, .int 5), (1, .int 2)] := hl
  refine lv_iload_n hx hb dX1_ownBody_0 rfl (lv_at hl 0 rfl) ?_
  refine lv_tableIn (tgt := 101) hx hb dX1_ownBody_1 (by decide) (by decide) rfl (by decide) ?_
  refine lv_iload_n hx hb dX1_ownBody_101 rfl (lv_at hl 1 rfl) ?_
  refine lv_iconst (v := 2) hx hb dX1_ownBody_102 (by decide) ?_
  refine lv_icmp_ne (tgt := 111) hx hb dX1_ownBody_103 (by decide) (fun c_1 => ?_) (fun c_1 => ?_)
  · exact absurd c_1 (by decide)
  · refine lv_bipush (v := 60) hx hb dX1_ownBody_106 (by decide) ?_
    refine lv_goto (tgt := 112) hx hb dX1_ownBody_108 (by decide) ?_
    exact W.iret (v := 60) hx hb hr (fun t ht hW => ⟨60, rfl, rfl, ht⟩) (fun q hq => by cases hq) dX1_ownBody_112
set_option maxHeartbeats 4000000 in
set_option maxRecDepth 100000 in
theorem c_M_own_6_0 (l : Launch) (D : va_G) (cI cJ cZ cP cS : ClassId) (po : zPool)   : Met l yX1_ownBody wsX1_ownBody ({ frames := 0, cells := 0, slots := 0, locals := 0 }) (va_Pc [.int 6, .int 0] (zR D (zKT cI cJ cZ cP cS) po [])) (vp_Si (fun r => r = 70)) 0 0 (fun _ => False) := by
  refine Met.ofW (cc := cX1_ownBody) (maxL := 2) (ret := (some .int)) (by decide) rfl ?_
  intro p e s m args below meth c s₁ B hml hv
  obtain ⟨rfl, hP, hK, hN, hZ⟩ := hv
  have hx := B.exec
  have hb := B.bytes
  have hr := B.returns
  have hts := atoms_spec (ws := wsX1_ownBody) B.pre
  have hown : s.vm.findClass RX1 = some m.cls := findClass_of_methodNamed B.named
  have hlocks := B.notSynchronized
  have hl := lv_entry ([.int 6, .int 0]) (n := 2) (Nat.le_of_ble_eq_true rfl)
  rw [lg_entry_eq]
  generalize (lg_sl ([.int 6, .int 0]) ++ List.replicate (2 - (lg_sl ([.int 6, .int 0])).length) Slot.unset).toArray = ls at hl ⊢
  replace hl : lv_has ls 2 [(0, .int 6), (1, .int 0)] := hl
  refine lv_iload_n hx hb dX1_ownBody_0 rfl (lv_at hl 0 rfl) ?_
  refine lv_tableOut (tgt := 113) hx hb dX1_ownBody_1 (by decide) (by decide) ?_
  refine lv_iload_n hx hb dX1_ownBody_113 rfl (lv_at hl 1 rfl) ?_
  refine lv_if_ne (tgt := 122) hx hb dX1_ownBody_114 (by decide) (fun c_1 => ?_) (fun c_1 => ?_)
  · exact absurd c_1 (by decide)
  · refine lv_bipush (v := 70) hx hb dX1_ownBody_117 (by decide) ?_
    refine lv_goto (tgt := 133) hx hb dX1_ownBody_119 (by decide) ?_
    exact W.iret (v := 70) hx hb hr (fun t ht hW => ⟨70, rfl, rfl, ht⟩) (fun q hq => by cases hq) dX1_ownBody_133
set_option maxHeartbeats 4000000 in
set_option maxRecDepth 100000 in
theorem c_M_own_6_1 (l : Launch) (D : va_G) (cI cJ cZ cP cS : ClassId) (po : zPool)   : Met l yX1_ownBody wsX1_ownBody ({ frames := 0, cells := 0, slots := 0, locals := 0 }) (va_Pc [.int 6, .int 1] (zR D (zKT cI cJ cZ cP cS) po [])) (vp_Si (fun r => r = 71)) 0 0 (fun _ => False) := by
  refine Met.ofW (cc := cX1_ownBody) (maxL := 2) (ret := (some .int)) (by decide) rfl ?_
  intro p e s m args below meth c s₁ B hml hv
  obtain ⟨rfl, hP, hK, hN, hZ⟩ := hv
  have hx := B.exec
  have hb := B.bytes
  have hr := B.returns
  have hts := atoms_spec (ws := wsX1_ownBody) B.pre
  have hown : s.vm.findClass RX1 = some m.cls := findClass_of_methodNamed B.named
  have hlocks := B.notSynchronized
  have hl := lv_entry ([.int 6, .int 1]) (n := 2) (Nat.le_of_ble_eq_true rfl)
  rw [lg_entry_eq]
  generalize (lg_sl ([.int 6, .int 1]) ++ List.replicate (2 - (lg_sl ([.int 6, .int 1])).length) Slot.unset).toArray = ls at hl ⊢
  replace hl : lv_has ls 2 [(0, .int 6), (1, .int 1)] := hl
  refine lv_iload_n hx hb dX1_ownBody_0 rfl (lv_at hl 0 rfl) ?_
  refine lv_tableOut (tgt := 113) hx hb dX1_ownBody_1 (by decide) (by decide) ?_
  refine lv_iload_n hx hb dX1_ownBody_113 rfl (lv_at hl 1 rfl) ?_
  refine lv_if_ne (tgt := 122) hx hb dX1_ownBody_114 (by decide) (fun c_1 => ?_) (fun c_1 => ?_)
  · refine lv_iload_n hx hb dX1_ownBody_122 rfl (lv_at hl 1 rfl) ?_
    refine lv_iconst (v := 1) hx hb dX1_ownBody_123 (by decide) ?_
    refine lv_icmp_ne (tgt := 132) hx hb dX1_ownBody_124 (by decide) (fun c_2 => ?_) (fun c_2 => ?_)
    · exact absurd c_2 (by decide)
    · refine lv_bipush (v := 71) hx hb dX1_ownBody_127 (by decide) ?_
      refine lv_goto (tgt := 133) hx hb dX1_ownBody_129 (by decide) ?_
      exact W.iret (v := 71) hx hb hr (fun t ht hW => ⟨71, rfl, rfl, ht⟩) (fun q hq => by cases hq) dX1_ownBody_133
  · exact absurd c_1 (by decide)
set_option maxHeartbeats 4000000 in
set_option maxRecDepth 100000 in
theorem c_M_own_6_2 (l : Launch) (D : va_G) (cI cJ cZ cP cS : ClassId) (po : zPool)   : Met l yX1_ownBody wsX1_ownBody ({ frames := 0, cells := 0, slots := 0, locals := 0 }) (va_Pc [.int 6, .int 2] (zR D (zKT cI cJ cZ cP cS) po [])) (vp_Si (fun r => r = (-1))) 0 0 (fun _ => False) := by
  refine Met.ofW (cc := cX1_ownBody) (maxL := 2) (ret := (some .int)) (by decide) rfl ?_
  intro p e s m args below meth c s₁ B hml hv
  obtain ⟨rfl, hP, hK, hN, hZ⟩ := hv
  have hx := B.exec
  have hb := B.bytes
  have hr := B.returns
  have hts := atoms_spec (ws := wsX1_ownBody) B.pre
  have hown : s.vm.findClass RX1 = some m.cls := findClass_of_methodNamed B.named
  have hlocks := B.notSynchronized
  have hl := lv_entry ([.int 6, .int 2]) (n := 2) (Nat.le_of_ble_eq_true rfl)
  rw [lg_entry_eq]
  generalize (lg_sl ([.int 6, .int 2]) ++ List.replicate (2 - (lg_sl ([.int 6, .int 2])).length) Slot.unset).toArray = ls at hl ⊢
  replace hl : lv_has ls 2 [(0, .int 6), (1, .int 2)] := hl
  refine lv_iload_n hx hb dX1_ownBody_0 rfl (lv_at hl 0 rfl) ?_
  refine lv_tableOut (tgt := 113) hx hb dX1_ownBody_1 (by decide) (by decide) ?_
  refine lv_iload_n hx hb dX1_ownBody_113 rfl (lv_at hl 1 rfl) ?_
  refine lv_if_ne (tgt := 122) hx hb dX1_ownBody_114 (by decide) (fun c_1 => ?_) (fun c_1 => ?_)
  · refine lv_iload_n hx hb dX1_ownBody_122 rfl (lv_at hl 1 rfl) ?_
    refine lv_iconst (v := 1) hx hb dX1_ownBody_123 (by decide) ?_
    refine lv_icmp_ne (tgt := 132) hx hb dX1_ownBody_124 (by decide) (fun c_2 => ?_) (fun c_2 => ?_)
    · refine lv_iconst (v := (-1)) hx hb dX1_ownBody_132 (by decide) ?_
      exact W.iret (v := (-1)) hx hb hr (fun t ht hW => ⟨(-1), rfl, rfl, ht⟩) (fun q hq => by cases hq) dX1_ownBody_133
    · exact absurd c_2 (by decide)
  · exact absurd c_1 (by decide)
set_option maxHeartbeats 4000000 in
set_option maxRecDepth 100000 in
theorem c_M_bodyFor_0_0 (l : Launch) (D : va_G) (cI cJ cZ cP cS : ClassId) (po : zPool)   : Met l yX1_bodyFor wsX1_bodyFor ({ frames := 1, cells := 0, slots := 0, locals := 22 }) (va_Pc [.int 0, .int 0] (zR D (zKT cI cJ cZ cP cS) po [])) (vp_Si (fun r => r = 10)) 0 0 (fun _ => False) := by
  refine Met.ofW (cc := cX1_bodyFor) (maxL := 5) (ret := (some .int)) (by decide) rfl ?_
  intro p e s m args below meth c s₁ B hml hv
  obtain ⟨rfl, hP, hK, hN, hZ⟩ := hv
  have hx := B.exec
  have hb := B.bytes
  have hr := B.returns
  have hts := atoms_spec (ws := wsX1_bodyFor) B.pre
  have hown : s.vm.findClass RX1 = some m.cls := findClass_of_methodNamed B.named
  have hlocks := B.notSynchronized
  have hl := lv_entry ([.int 0, .int 0]) (n := 5) (Nat.le_of_ble_eq_true rfl)
  rw [lg_entry_eq]
  generalize (lg_sl ([.int 0, .int 0]) ++ List.replicate (5 - (lg_sl ([.int 0, .int 0])).length) Slot.unset).toArray = ls at hl ⊢
  replace hl : lv_has ls 5 [(0, .int 0), (1, .int 0)] := hl
  refine lv_iload_n hx hb dX1_bodyFor_0 rfl (lv_at hl 0 rfl) ?_
  refine lv_istore_n (lv' := [(2, .int 0), (0, .int 0), (1, .int 0)]) hx hb dX1_bodyFor_1 rfl hl (by decide) rfl (fun ls hl => ?_)
  refine lv_iconst (v := 0) hx hb dX1_bodyFor_2 (by decide) ?_
  refine lv_istore_n (lv' := [(3, .int 0), (2, .int 0), (0, .int 0), (1, .int 0)]) hx hb dX1_bodyFor_3 rfl hl (by decide) rfl (fun ls hl => ?_)
  refine lv_iload_n hx hb dX1_bodyFor_4 rfl (lv_at hl 0 rfl) ?_
  refine lv_bipush (v := 7) hx hb dX1_bodyFor_5 (by decide) ?_
  refine lv_icmp_ge (tgt := 48) hx hb dX1_bodyFor_7 (by decide) (fun c_1 => ?_) (fun c_1 => ?_)
  · exact absurd c_1 (by decide)
  · refine lv_iload_n hx hb dX1_bodyFor_10 rfl (lv_at hl 1 rfl) ?_
    refine lv_iconst (v := 0) hx hb dX1_bodyFor_11 (by decide) ?_
    refine lv_bipush (v := 6) hx hb dX1_bodyFor_12 (by decide) ?_
    have kc0 : (0 : Int32).toInt = 0 := by decide
    have kc6 : (6 : Int32).toInt = 6 := by decide
    refine zc_SN (As := [.int 0, .int 0, .int 6]) (rest := []) ⟨hx, hb, hml, hown, hts⟩ (c_within l D cI cJ cZ cP cS po (0) (0) (6) ) ⟨(va_cnB 3 hts gX1_bodyFor_X7_within_n44 rfl rfl rfl (hN.1 (RX1, 44, yX7_within) (List.mem_of_getElem? (i := 13) rfl)) (hts _ (List.mem_of_getElem? (i := 2) rfl)) dh_X7_within ⟨Nat.le_of_ble_eq_true rfl, Nat.le_of_ble_eq_true rfl⟩), (hts _ (List.mem_of_getElem? (i := 1) rfl)), trivial⟩ hK hN hZ rfl hl.1 rfl (Nat.le_of_ble_eq_true rfl) dX1_bodyFor_14 ⟨Nat.le_of_ble_eq_true rfl, Nat.le_of_ble_eq_true rfl⟩ (fun r_2 hr_2 => ?_)
    rcases hr_2 with ⟨rfl, g_3⟩ | ⟨rfl, g_4, g_5⟩ | ⟨rfl, g_6, g_7⟩
    · exfalso; omega
    · exfalso; omega
    · refine lv_if_eq (tgt := 48) hx hb dX1_bodyFor_17 (by decide) (fun c_8 => ?_) (fun c_8 => ?_)
      · exact absurd c_8 (by decide)
      · refine lv_iload_n hx hb dX1_bodyFor_20 rfl (lv_at hl 1 rfl) ?_
        refine lv_iload_n hx hb dX1_bodyFor_21 rfl (lv_at hl 3 rfl) ?_
        refine zc_S (As := [.int 0, .int 0]) (rest := []) ⟨hx, hb, hml, hown, hts⟩ (c_M_own_0_0 l D cI cJ cZ cP cS po  ) (va_cwS 2 hts gX1_bodyFor_X1_ownBody rfl rfl rfl dh_X1_ownBody ⟨Nat.le_of_ble_eq_true rfl, Nat.le_of_ble_eq_true rfl⟩) hK hN hZ rfl hl.1 rfl (Nat.le_of_ble_eq_true rfl) dX1_bodyFor_22 ⟨Nat.le_of_ble_eq_true rfl, Nat.le_of_ble_eq_true rfl⟩ (fun r_9 hr_9 => ?_)
        obtain rfl := hr_9
        refine lv_istore (lv' := [(4, .int 10), (3, .int 0), (2, .int 0), (0, .int 0), (1, .int 0)]) hx hb dX1_bodyFor_25 hl (by decide) rfl (fun ls hl => ?_)
        refine lv_iload hx hb dX1_bodyFor_27 (lv_at hl 0 rfl) ?_
        refine lv_iconst (v := (-1)) hx hb dX1_bodyFor_29 (by decide) ?_
        refine lv_icmp_eq (tgt := 36) hx hb dX1_bodyFor_30 (by decide) (fun c_10 => ?_) (fun c_10 => ?_)
        · exact absurd c_10 (by decide)
        · refine lv_iload hx hb dX1_bodyFor_33 (lv_at hl 0 rfl) ?_
          exact W.iret (v := 10) hx hb hr (fun t ht hW => ⟨10, rfl, rfl, ht⟩) (fun q hq => by cases hq) dX1_bodyFor_35
set_option maxHeartbeats 4000000 in
set_option maxRecDepth 100000 in
theorem c_M_bodyFor_0_1 (l : Launch) (D : va_G) (cI cJ cZ cP cS : ClassId) (po : zPool)   : Met l yX1_bodyFor wsX1_bodyFor ({ frames := 1, cells := 0, slots := 0, locals := 22 }) (va_Pc [.int 0, .int 1] (zR D (zKT cI cJ cZ cP cS) po [])) (vp_Si (fun r => r = 11)) 0 0 (fun _ => False) := by
  refine Met.ofW (cc := cX1_bodyFor) (maxL := 5) (ret := (some .int)) (by decide) rfl ?_
  intro p e s m args below meth c s₁ B hml hv
  obtain ⟨rfl, hP, hK, hN, hZ⟩ := hv
  have hx := B.exec
  have hb := B.bytes
  have hr := B.returns
  have hts := atoms_spec (ws := wsX1_bodyFor) B.pre
  have hown : s.vm.findClass RX1 = some m.cls := findClass_of_methodNamed B.named
  have hlocks := B.notSynchronized
  have hl := lv_entry ([.int 0, .int 1]) (n := 5) (Nat.le_of_ble_eq_true rfl)
  rw [lg_entry_eq]
  generalize (lg_sl ([.int 0, .int 1]) ++ List.replicate (5 - (lg_sl ([.int 0, .int 1])).length) Slot.unset).toArray = ls at hl ⊢
  replace hl : lv_has ls 5 [(0, .int 0), (1, .int 1)] := hl
  refine lv_iload_n hx hb dX1_bodyFor_0 rfl (lv_at hl 0 rfl) ?_
  refine lv_istore_n (lv' := [(2, .int 0), (0, .int 0), (1, .int 1)]) hx hb dX1_bodyFor_1 rfl hl (by decide) rfl (fun ls hl => ?_)
  refine lv_iconst (v := 0) hx hb dX1_bodyFor_2 (by decide) ?_
  refine lv_istore_n (lv' := [(3, .int 0), (2, .int 0), (0, .int 0), (1, .int 1)]) hx hb dX1_bodyFor_3 rfl hl (by decide) rfl (fun ls hl => ?_)
  refine lv_iload_n hx hb dX1_bodyFor_4 rfl (lv_at hl 0 rfl) ?_
  refine lv_bipush (v := 7) hx hb dX1_bodyFor_5 (by decide) ?_
  refine lv_icmp_ge (tgt := 48) hx hb dX1_bodyFor_7 (by decide) (fun c_1 => ?_) (fun c_1 => ?_)
  · exact absurd c_1 (by decide)
  · refine lv_iload_n hx hb dX1_bodyFor_10 rfl (lv_at hl 1 rfl) ?_
    refine lv_iconst (v := 0) hx hb dX1_bodyFor_11 (by decide) ?_
    refine lv_bipush (v := 6) hx hb dX1_bodyFor_12 (by decide) ?_
    have kc0 : (0 : Int32).toInt = 0 := by decide
    have kc6 : (6 : Int32).toInt = 6 := by decide
    refine zc_SN (As := [.int 0, .int 0, .int 6]) (rest := []) ⟨hx, hb, hml, hown, hts⟩ (c_within l D cI cJ cZ cP cS po (0) (0) (6) ) ⟨(va_cnB 3 hts gX1_bodyFor_X7_within_n44 rfl rfl rfl (hN.1 (RX1, 44, yX7_within) (List.mem_of_getElem? (i := 13) rfl)) (hts _ (List.mem_of_getElem? (i := 2) rfl)) dh_X7_within ⟨Nat.le_of_ble_eq_true rfl, Nat.le_of_ble_eq_true rfl⟩), (hts _ (List.mem_of_getElem? (i := 1) rfl)), trivial⟩ hK hN hZ rfl hl.1 rfl (Nat.le_of_ble_eq_true rfl) dX1_bodyFor_14 ⟨Nat.le_of_ble_eq_true rfl, Nat.le_of_ble_eq_true rfl⟩ (fun r_2 hr_2 => ?_)
    rcases hr_2 with ⟨rfl, g_3⟩ | ⟨rfl, g_4, g_5⟩ | ⟨rfl, g_6, g_7⟩
    · exfalso; omega
    · exfalso; omega
    · refine lv_if_eq (tgt := 48) hx hb dX1_bodyFor_17 (by decide) (fun c_8 => ?_) (fun c_8 => ?_)
      · exact absurd c_8 (by decide)
      · refine lv_iload_n hx hb dX1_bodyFor_20 rfl (lv_at hl 1 rfl) ?_
        refine lv_iload_n hx hb dX1_bodyFor_21 rfl (lv_at hl 3 rfl) ?_
        refine zc_S (As := [.int 0, .int 1]) (rest := []) ⟨hx, hb, hml, hown, hts⟩ (c_M_own_0_1 l D cI cJ cZ cP cS po  ) (va_cwS 2 hts gX1_bodyFor_X1_ownBody rfl rfl rfl dh_X1_ownBody ⟨Nat.le_of_ble_eq_true rfl, Nat.le_of_ble_eq_true rfl⟩) hK hN hZ rfl hl.1 rfl (Nat.le_of_ble_eq_true rfl) dX1_bodyFor_22 ⟨Nat.le_of_ble_eq_true rfl, Nat.le_of_ble_eq_true rfl⟩ (fun r_9 hr_9 => ?_)
        obtain rfl := hr_9
        refine lv_istore (lv' := [(4, .int 11), (3, .int 0), (2, .int 0), (0, .int 0), (1, .int 1)]) hx hb dX1_bodyFor_25 hl (by decide) rfl (fun ls hl => ?_)
        refine lv_iload hx hb dX1_bodyFor_27 (lv_at hl 0 rfl) ?_
        refine lv_iconst (v := (-1)) hx hb dX1_bodyFor_29 (by decide) ?_
        refine lv_icmp_eq (tgt := 36) hx hb dX1_bodyFor_30 (by decide) (fun c_10 => ?_) (fun c_10 => ?_)
        · exact absurd c_10 (by decide)
        · refine lv_iload hx hb dX1_bodyFor_33 (lv_at hl 0 rfl) ?_
          exact W.iret (v := 11) hx hb hr (fun t ht hW => ⟨11, rfl, rfl, ht⟩) (fun q hq => by cases hq) dX1_bodyFor_35
set_option maxHeartbeats 4000000 in
set_option maxRecDepth 100000 in
theorem c_M_bodyFor_0_2 (l : Launch) (D : va_G) (cI cJ cZ cP cS : ClassId) (po : zPool)   : Met l yX1_bodyFor wsX1_bodyFor ({ frames := 1, cells := 0, slots := 0, locals := 22 }) (va_Pc [.int 0, .int 2] (zR D (zKT cI cJ cZ cP cS) po [])) (vp_Si (fun r => r = 12)) 0 0 (fun _ => False) := by
  refine Met.ofW (cc := cX1_bodyFor) (maxL := 5) (ret := (some .int)) (by decide) rfl ?_
  intro p e s m args below meth c s₁ B hml hv
  obtain ⟨rfl, hP, hK, hN, hZ⟩ := hv
  have hx := B.exec
  have hb := B.bytes
  have hr := B.returns
  have hts := atoms_spec (ws := wsX1_bodyFor) B.pre
  have hown : s.vm.findClass RX1 = some m.cls := findClass_of_methodNamed B.named
  have hlocks := B.notSynchronized
  have hl := lv_entry ([.int 0, .int 2]) (n := 5) (Nat.le_of_ble_eq_true rfl)
  rw [lg_entry_eq]
  generalize (lg_sl ([.int 0, .int 2]) ++ List.replicate (5 - (lg_sl ([.int 0, .int 2])).length) Slot.unset).toArray = ls at hl ⊢
  replace hl : lv_has ls 5 [(0, .int 0), (1, .int 2)] := hl
  refine lv_iload_n hx hb dX1_bodyFor_0 rfl (lv_at hl 0 rfl) ?_
  refine lv_istore_n (lv' := [(2, .int 0), (0, .int 0), (1, .int 2)]) hx hb dX1_bodyFor_1 rfl hl (by decide) rfl (fun ls hl => ?_)
  refine lv_iconst (v := 0) hx hb dX1_bodyFor_2 (by decide) ?_
  refine lv_istore_n (lv' := [(3, .int 0), (2, .int 0), (0, .int 0), (1, .int 2)]) hx hb dX1_bodyFor_3 rfl hl (by decide) rfl (fun ls hl => ?_)
  refine lv_iload_n hx hb dX1_bodyFor_4 rfl (lv_at hl 0 rfl) ?_
  refine lv_bipush (v := 7) hx hb dX1_bodyFor_5 (by decide) ?_
  refine lv_icmp_ge (tgt := 48) hx hb dX1_bodyFor_7 (by decide) (fun c_1 => ?_) (fun c_1 => ?_)
  · exact absurd c_1 (by decide)
  · refine lv_iload_n hx hb dX1_bodyFor_10 rfl (lv_at hl 1 rfl) ?_
    refine lv_iconst (v := 0) hx hb dX1_bodyFor_11 (by decide) ?_
    refine lv_bipush (v := 6) hx hb dX1_bodyFor_12 (by decide) ?_
    have kc0 : (0 : Int32).toInt = 0 := by decide
    have kc6 : (6 : Int32).toInt = 6 := by decide
    refine zc_SN (As := [.int 0, .int 0, .int 6]) (rest := []) ⟨hx, hb, hml, hown, hts⟩ (c_within l D cI cJ cZ cP cS po (0) (0) (6) ) ⟨(va_cnB 3 hts gX1_bodyFor_X7_within_n44 rfl rfl rfl (hN.1 (RX1, 44, yX7_within) (List.mem_of_getElem? (i := 13) rfl)) (hts _ (List.mem_of_getElem? (i := 2) rfl)) dh_X7_within ⟨Nat.le_of_ble_eq_true rfl, Nat.le_of_ble_eq_true rfl⟩), (hts _ (List.mem_of_getElem? (i := 1) rfl)), trivial⟩ hK hN hZ rfl hl.1 rfl (Nat.le_of_ble_eq_true rfl) dX1_bodyFor_14 ⟨Nat.le_of_ble_eq_true rfl, Nat.le_of_ble_eq_true rfl⟩ (fun r_2 hr_2 => ?_)
    rcases hr_2 with ⟨rfl, g_3⟩ | ⟨rfl, g_4, g_5⟩ | ⟨rfl, g_6, g_7⟩
    · exfalso; omega
    · exfalso; omega
    · refine lv_if_eq (tgt := 48) hx hb dX1_bodyFor_17 (by decide) (fun c_8 => ?_) (fun c_8 => ?_)
      · exact absurd c_8 (by decide)
      · refine lv_iload_n hx hb dX1_bodyFor_20 rfl (lv_at hl 1 rfl) ?_
        refine lv_iload_n hx hb dX1_bodyFor_21 rfl (lv_at hl 3 rfl) ?_
        refine zc_S (As := [.int 0, .int 2]) (rest := []) ⟨hx, hb, hml, hown, hts⟩ (c_M_own_0_2 l D cI cJ cZ cP cS po  ) (va_cwS 2 hts gX1_bodyFor_X1_ownBody rfl rfl rfl dh_X1_ownBody ⟨Nat.le_of_ble_eq_true rfl, Nat.le_of_ble_eq_true rfl⟩) hK hN hZ rfl hl.1 rfl (Nat.le_of_ble_eq_true rfl) dX1_bodyFor_22 ⟨Nat.le_of_ble_eq_true rfl, Nat.le_of_ble_eq_true rfl⟩ (fun r_9 hr_9 => ?_)
        obtain rfl := hr_9
        refine lv_istore (lv' := [(4, .int 12), (3, .int 0), (2, .int 0), (0, .int 0), (1, .int 2)]) hx hb dX1_bodyFor_25 hl (by decide) rfl (fun ls hl => ?_)
        refine lv_iload hx hb dX1_bodyFor_27 (lv_at hl 0 rfl) ?_
        refine lv_iconst (v := (-1)) hx hb dX1_bodyFor_29 (by decide) ?_
        refine lv_icmp_eq (tgt := 36) hx hb dX1_bodyFor_30 (by decide) (fun c_10 => ?_) (fun c_10 => ?_)
        · exact absurd c_10 (by decide)
        · refine lv_iload hx hb dX1_bodyFor_33 (lv_at hl 0 rfl) ?_
          exact W.iret (v := 12) hx hb hr (fun t ht hW => ⟨12, rfl, rfl, ht⟩) (fun q hq => by cases hq) dX1_bodyFor_35
set_option maxHeartbeats 4000000 in
set_option maxRecDepth 100000 in
theorem c_M_bodyFor_1_0 (l : Launch) (D : va_G) (cI cJ cZ cP cS : ClassId) (po : zPool)   : Met l yX1_bodyFor wsX1_bodyFor ({ frames := 1, cells := 0, slots := 0, locals := 22 }) (va_Pc [.int 1, .int 0] (zR D (zKT cI cJ cZ cP cS) po [])) (vp_Si (fun r => r = 20)) 0 0 (fun _ => False) := by
  refine Met.ofW (cc := cX1_bodyFor) (maxL := 5) (ret := (some .int)) (by decide) rfl ?_
  intro p e s m args below meth c s₁ B hml hv
  obtain ⟨rfl, hP, hK, hN, hZ⟩ := hv
  have hx := B.exec
  have hb := B.bytes
  have hr := B.returns
  have hts := atoms_spec (ws := wsX1_bodyFor) B.pre
  have hown : s.vm.findClass RX1 = some m.cls := findClass_of_methodNamed B.named
  have hlocks := B.notSynchronized
  have hl := lv_entry ([.int 1, .int 0]) (n := 5) (Nat.le_of_ble_eq_true rfl)
  rw [lg_entry_eq]
  generalize (lg_sl ([.int 1, .int 0]) ++ List.replicate (5 - (lg_sl ([.int 1, .int 0])).length) Slot.unset).toArray = ls at hl ⊢
  replace hl : lv_has ls 5 [(0, .int 1), (1, .int 0)] := hl
  refine lv_iload_n hx hb dX1_bodyFor_0 rfl (lv_at hl 0 rfl) ?_
  refine lv_istore_n (lv' := [(2, .int 1), (0, .int 1), (1, .int 0)]) hx hb dX1_bodyFor_1 rfl hl (by decide) rfl (fun ls hl => ?_)
  refine lv_iconst (v := 0) hx hb dX1_bodyFor_2 (by decide) ?_
  refine lv_istore_n (lv' := [(3, .int 0), (2, .int 1), (0, .int 1), (1, .int 0)]) hx hb dX1_bodyFor_3 rfl hl (by decide) rfl (fun ls hl => ?_)
  refine lv_iload_n hx hb dX1_bodyFor_4 rfl (lv_at hl 0 rfl) ?_
  refine lv_bipush (v := 7) hx hb dX1_bodyFor_5 (by decide) ?_
  refine lv_icmp_ge (tgt := 48) hx hb dX1_bodyFor_7 (by decide) (fun c_1 => ?_) (fun c_1 => ?_)
  · exact absurd c_1 (by decide)
  · refine lv_iload_n hx hb dX1_bodyFor_10 rfl (lv_at hl 1 rfl) ?_
    refine lv_iconst (v := 0) hx hb dX1_bodyFor_11 (by decide) ?_
    refine lv_bipush (v := 6) hx hb dX1_bodyFor_12 (by decide) ?_
    have kc1 : (1 : Int32).toInt = 1 := by decide
    have kc0 : (0 : Int32).toInt = 0 := by decide
    have kc6 : (6 : Int32).toInt = 6 := by decide
    refine zc_SN (As := [.int 1, .int 0, .int 6]) (rest := []) ⟨hx, hb, hml, hown, hts⟩ (c_within l D cI cJ cZ cP cS po (1) (0) (6) ) ⟨(va_cnB 3 hts gX1_bodyFor_X7_within_n44 rfl rfl rfl (hN.1 (RX1, 44, yX7_within) (List.mem_of_getElem? (i := 13) rfl)) (hts _ (List.mem_of_getElem? (i := 2) rfl)) dh_X7_within ⟨Nat.le_of_ble_eq_true rfl, Nat.le_of_ble_eq_true rfl⟩), (hts _ (List.mem_of_getElem? (i := 1) rfl)), trivial⟩ hK hN hZ rfl hl.1 rfl (Nat.le_of_ble_eq_true rfl) dX1_bodyFor_14 ⟨Nat.le_of_ble_eq_true rfl, Nat.le_of_ble_eq_true rfl⟩ (fun r_2 hr_2 => ?_)
    rcases hr_2 with ⟨rfl, g_3⟩ | ⟨rfl, g_4, g_5⟩ | ⟨rfl, g_6, g_7⟩
    · exfalso; omega
    · exfalso; omega
    · refine lv_if_eq (tgt := 48) hx hb dX1_bodyFor_17 (by decide) (fun c_8 => ?_) (fun c_8 => ?_)
      · exact absurd c_8 (by decide)
      · refine lv_iload_n hx hb dX1_bodyFor_20 rfl (lv_at hl 1 rfl) ?_
        refine lv_iload_n hx hb dX1_bodyFor_21 rfl (lv_at hl 3 rfl) ?_
        refine zc_S (As := [.int 1, .int 0]) (rest := []) ⟨hx, hb, hml, hown, hts⟩ (c_M_own_1_0 l D cI cJ cZ cP cS po  ) (va_cwS 2 hts gX1_bodyFor_X1_ownBody rfl rfl rfl dh_X1_ownBody ⟨Nat.le_of_ble_eq_true rfl, Nat.le_of_ble_eq_true rfl⟩) hK hN hZ rfl hl.1 rfl (Nat.le_of_ble_eq_true rfl) dX1_bodyFor_22 ⟨Nat.le_of_ble_eq_true rfl, Nat.le_of_ble_eq_true rfl⟩ (fun r_9 hr_9 => ?_)
        obtain rfl := hr_9
        refine lv_istore (lv' := [(4, .int 20), (3, .int 0), (2, .int 1), (0, .int 1), (1, .int 0)]) hx hb dX1_bodyFor_25 hl (by decide) rfl (fun ls hl => ?_)
        refine lv_iload hx hb dX1_bodyFor_27 (lv_at hl 0 rfl) ?_
        refine lv_iconst (v := (-1)) hx hb dX1_bodyFor_29 (by decide) ?_
        refine lv_icmp_eq (tgt := 36) hx hb dX1_bodyFor_30 (by decide) (fun c_10 => ?_) (fun c_10 => ?_)
        · exact absurd c_10 (by decide)
        · refine lv_iload hx hb dX1_bodyFor_33 (lv_at hl 0 rfl) ?_
          exact W.iret (v := 20) hx hb hr (fun t ht hW => ⟨20, rfl, rfl, ht⟩) (fun q hq => by cases hq) dX1_bodyFor_35
set_option maxHeartbeats 4000000 in
set_option maxRecDepth 100000 in
theorem c_M_bodyFor_1_1 (l : Launch) (D : va_G) (cI cJ cZ cP cS : ClassId) (po : zPool)   : Met l yX1_bodyFor wsX1_bodyFor ({ frames := 1, cells := 0, slots := 0, locals := 22 }) (va_Pc [.int 1, .int 1] (zR D (zKT cI cJ cZ cP cS) po [])) (vp_Si (fun r => r = 11)) 0 0 (fun _ => False) := by
  refine Met.ofW (cc := cX1_bodyFor) (maxL := 5) (ret := (some .int)) (by decide) rfl ?_
  intro p e s m args below meth c s₁ B hml hv
  obtain ⟨rfl, hP, hK, hN, hZ⟩ := hv
  have hx := B.exec
  have hb := B.bytes
  have hr := B.returns
  have hts := atoms_spec (ws := wsX1_bodyFor) B.pre
  have hown : s.vm.findClass RX1 = some m.cls := findClass_of_methodNamed B.named
  have hlocks := B.notSynchronized
  have hl := lv_entry ([.int 1, .int 1]) (n := 5) (Nat.le_of_ble_eq_true rfl)
  rw [lg_entry_eq]
  generalize (lg_sl ([.int 1, .int 1]) ++ List.replicate (5 - (lg_sl ([.int 1, .int 1])).length) Slot.unset).toArray = ls at hl ⊢
  replace hl : lv_has ls 5 [(0, .int 1), (1, .int 1)] := hl
  refine lv_iload_n hx hb dX1_bodyFor_0 rfl (lv_at hl 0 rfl) ?_
  refine lv_istore_n (lv' := [(2, .int 1), (0, .int 1), (1, .int 1)]) hx hb dX1_bodyFor_1 rfl hl (by decide) rfl (fun ls hl => ?_)
  refine lv_iconst (v := 0) hx hb dX1_bodyFor_2 (by decide) ?_
  refine lv_istore_n (lv' := [(3, .int 0), (2, .int 1), (0, .int 1), (1, .int 1)]) hx hb dX1_bodyFor_3 rfl hl (by decide) rfl (fun ls hl => ?_)
  refine lv_iload_n hx hb dX1_bodyFor_4 rfl (lv_at hl 0 rfl) ?_
  refine lv_bipush (v := 7) hx hb dX1_bodyFor_5 (by decide) ?_
  refine lv_icmp_ge (tgt := 48) hx hb dX1_bodyFor_7 (by decide) (fun c_1 => ?_) (fun c_1 => ?_)
  · exact absurd c_1 (by decide)
  · refine lv_iload_n hx hb dX1_bodyFor_10 rfl (lv_at hl 1 rfl) ?_
    refine lv_iconst (v := 0) hx hb dX1_bodyFor_11 (by decide) ?_
    refine lv_bipush (v := 6) hx hb dX1_bodyFor_12 (by decide) ?_
    have kc1 : (1 : Int32).toInt = 1 := by decide
    have kc0 : (0 : Int32).toInt = 0 := by decide
    have kc6 : (6 : Int32).toInt = 6 := by decide
    refine zc_SN (As := [.int 1, .int 0, .int 6]) (rest := []) ⟨hx, hb, hml, hown, hts⟩ (c_within l D cI cJ cZ cP cS po (1) (0) (6) ) ⟨(va_cnB 3 hts gX1_bodyFor_X7_within_n44 rfl rfl rfl (hN.1 (RX1, 44, yX7_within) (List.mem_of_getElem? (i := 13) rfl)) (hts _ (List.mem_of_getElem? (i := 2) rfl)) dh_X7_within ⟨Nat.le_of_ble_eq_true rfl, Nat.le_of_ble_eq_true rfl⟩), (hts _ (List.mem_of_getElem? (i := 1) rfl)), trivial⟩ hK hN hZ rfl hl.1 rfl (Nat.le_of_ble_eq_true rfl) dX1_bodyFor_14 ⟨Nat.le_of_ble_eq_true rfl, Nat.le_of_ble_eq_true rfl⟩ (fun r_2 hr_2 => ?_)
    rcases hr_2 with ⟨rfl, g_3⟩ | ⟨rfl, g_4, g_5⟩ | ⟨rfl, g_6, g_7⟩
    · exfalso; omega
    · exfalso; omega
    · refine lv_if_eq (tgt := 48) hx hb dX1_bodyFor_17 (by decide) (fun c_8 => ?_) (fun c_8 => ?_)
      · exact absurd c_8 (by decide)
      · refine lv_iload_n hx hb dX1_bodyFor_20 rfl (lv_at hl 1 rfl) ?_
        refine lv_iload_n hx hb dX1_bodyFor_21 rfl (lv_at hl 3 rfl) ?_
        refine zc_S (As := [.int 1, .int 1]) (rest := []) ⟨hx, hb, hml, hown, hts⟩ (c_M_own_1_1 l D cI cJ cZ cP cS po  ) (va_cwS 2 hts gX1_bodyFor_X1_ownBody rfl rfl rfl dh_X1_ownBody ⟨Nat.le_of_ble_eq_true rfl, Nat.le_of_ble_eq_true rfl⟩) hK hN hZ rfl hl.1 rfl (Nat.le_of_ble_eq_true rfl) dX1_bodyFor_22 ⟨Nat.le_of_ble_eq_true rfl, Nat.le_of_ble_eq_true rfl⟩ (fun r_9 hr_9 => ?_)
        obtain rfl := hr_9
        refine lv_istore (lv' := [(4, .int (-1)), (3, .int 0), (2, .int 1), (0, .int 1), (1, .int 1)]) hx hb dX1_bodyFor_25 hl (by decide) rfl (fun ls hl => ?_)
        refine lv_iload hx hb dX1_bodyFor_27 (lv_at hl 0 rfl) ?_
        refine lv_iconst (v := (-1)) hx hb dX1_bodyFor_29 (by decide) ?_
        refine lv_icmp_eq (tgt := 36) hx hb dX1_bodyFor_30 (by decide) (fun c_10 => ?_) (fun c_10 => ?_)
        · obtain ⟨t_11, zt_11, yt_11⟩ := hZ.1.2
          refine va_getsN hx hb zt_11 va_S.rf hown (va_Nw.use rfl (hN.2.1 (RX1, 58) (List.mem_of_getElem? (i := 1) rfl))) (fun _ h9 => h9) dX1_bodyFor_36 ?_
          refine lv_iload_n hx hb dX1_bodyFor_39 rfl (lv_at hl 2 rfl) ?_
          refine va_ti hx hb yt_11 va_S.rf (zf_in (by decide) (by decide)) (v := .int 0) (by decide) dX1_bodyFor_40 ?_
          refine lv_istore_n (lv' := [(2, .int 0), (4, .int (-1)), (3, .int 0), (0, .int 1), (1, .int 1)]) hx hb dX1_bodyFor_41 rfl hl (by decide) rfl (fun ls hl => ?_)
          refine lv_iinc (v := 1) (lv' := [(3, .int 1), (2, .int 0), (4, .int (-1)), (0, .int 1), (1, .int 1)]) hx hb dX1_bodyFor_42 hl (k := 2) rfl (by decide) (by decide) rfl (fun ls hl => ?_)
          refine lv_goto (tgt := 4) hx hb dX1_bodyFor_45 (by decide) ?_
          refine lv_iload_n hx hb dX1_bodyFor_4 rfl (lv_at hl 0 rfl) ?_
          refine lv_bipush (v := 7) hx hb dX1_bodyFor_5 (by decide) ?_
          refine lv_icmp_ge (tgt := 48) hx hb dX1_bodyFor_7 (by decide) (fun c_12 => ?_) (fun c_12 => ?_)
          · exact absurd c_12 (by decide)
          · refine lv_iload_n hx hb dX1_bodyFor_10 rfl (lv_at hl 1 rfl) ?_
            refine lv_iconst (v := 0) hx hb dX1_bodyFor_11 (by decide) ?_
            refine lv_bipush (v := 6) hx hb dX1_bodyFor_12 (by decide) ?_
            refine zc_SN (As := [.int 0, .int 0, .int 6]) (rest := []) ⟨hx, hb, hml, hown, hts⟩ (c_within l D cI cJ cZ cP cS po (0) (0) (6) ) ⟨(va_cnB 3 hts gX1_bodyFor_X7_within_n44 rfl rfl rfl (hN.1 (RX1, 44, yX7_within) (List.mem_of_getElem? (i := 13) rfl)) (hts _ (List.mem_of_getElem? (i := 2) rfl)) dh_X7_within ⟨Nat.le_of_ble_eq_true rfl, Nat.le_of_ble_eq_true rfl⟩), (hts _ (List.mem_of_getElem? (i := 1) rfl)), trivial⟩ hK hN hZ rfl hl.1 rfl (Nat.le_of_ble_eq_true rfl) dX1_bodyFor_14 ⟨Nat.le_of_ble_eq_true rfl, Nat.le_of_ble_eq_true rfl⟩ (fun r_13 hr_13 => ?_)
            rcases hr_13 with ⟨rfl, g_14⟩ | ⟨rfl, g_15, g_16⟩ | ⟨rfl, g_17, g_18⟩
            · exfalso; omega
            · exfalso; omega
            · refine lv_if_eq (tgt := 48) hx hb dX1_bodyFor_17 (by decide) (fun c_19 => ?_) (fun c_19 => ?_)
              · exact absurd c_19 (by decide)
              · refine lv_iload_n hx hb dX1_bodyFor_20 rfl (lv_at hl 1 rfl) ?_
                refine lv_iload_n hx hb dX1_bodyFor_21 rfl (lv_at hl 4 rfl) ?_
                refine zc_S (As := [.int 0, .int 1]) (rest := []) ⟨hx, hb, hml, hown, hts⟩ (c_M_own_0_1 l D cI cJ cZ cP cS po  ) (va_cwS 2 hts gX1_bodyFor_X1_ownBody rfl rfl rfl dh_X1_ownBody ⟨Nat.le_of_ble_eq_true rfl, Nat.le_of_ble_eq_true rfl⟩) hK hN hZ rfl hl.1 rfl (Nat.le_of_ble_eq_true rfl) dX1_bodyFor_22 ⟨Nat.le_of_ble_eq_true rfl, Nat.le_of_ble_eq_true rfl⟩ (fun r_20 hr_20 => ?_)
                obtain rfl := hr_20
                refine lv_istore (lv' := [(4, .int 11), (3, .int 1), (2, .int 0), (0, .int 1), (1, .int 1)]) hx hb dX1_bodyFor_25 hl (by decide) rfl (fun ls hl => ?_)
                refine lv_iload hx hb dX1_bodyFor_27 (lv_at hl 0 rfl) ?_
                refine lv_iconst (v := (-1)) hx hb dX1_bodyFor_29 (by decide) ?_
                refine lv_icmp_eq (tgt := 36) hx hb dX1_bodyFor_30 (by decide) (fun c_21 => ?_) (fun c_21 => ?_)
                · exact absurd c_21 (by decide)
                · refine lv_iload hx hb dX1_bodyFor_33 (lv_at hl 0 rfl) ?_
                  exact W.iret (v := 11) hx hb hr (fun t ht hW => ⟨11, rfl, rfl, ht⟩) (fun q hq => by cases hq) dX1_bodyFor_35
        · exact absurd c_10 (by decide)
set_option maxHeartbeats 4000000 in
set_option maxRecDepth 100000 in
theorem c_M_bodyFor_1_2 (l : Launch) (D : va_G) (cI cJ cZ cP cS : ClassId) (po : zPool)   : Met l yX1_bodyFor wsX1_bodyFor ({ frames := 1, cells := 0, slots := 0, locals := 22 }) (va_Pc [.int 1, .int 2] (zR D (zKT cI cJ cZ cP cS) po [])) (vp_Si (fun r => r = 12)) 0 0 (fun _ => False) := by
  refine Met.ofW (cc := cX1_bodyFor) (maxL := 5) (ret := (some .int)) (by decide) rfl ?_
  intro p e s m args below meth c s₁ B hml hv
  obtain ⟨rfl, hP, hK, hN, hZ⟩ := hv
  have hx := B.exec
  have hb := B.bytes
  have hr := B.returns
  have hts := atoms_spec (ws := wsX1_bodyFor) B.pre
  have hown : s.vm.findClass RX1 = some m.cls := findClass_of_methodNamed B.named
  have hlocks := B.notSynchronized
  have hl := lv_entry ([.int 1, .int 2]) (n := 5) (Nat.le_of_ble_eq_true rfl)
  rw [lg_entry_eq]
  generalize (lg_sl ([.int 1, .int 2]) ++ List.replicate (5 - (lg_sl ([.int 1, .int 2])).length) Slot.unset).toArray = ls at hl ⊢
  replace hl : lv_has ls 5 [(0, .int 1), (1, .int 2)] := hl
  refine lv_iload_n hx hb dX1_bodyFor_0 rfl (lv_at hl 0 rfl) ?_
  refine lv_istore_n (lv' := [(2, .int 1), (0, .int 1), (1, .int 2)]) hx hb dX1_bodyFor_1 rfl hl (by decide) rfl (fun ls hl => ?_)
  refine lv_iconst (v := 0) hx hb dX1_bodyFor_2 (by decide) ?_
  refine lv_istore_n (lv' := [(3, .int 0), (2, .int 1), (0, .int 1), (1, .int 2)]) hx hb dX1_bodyFor_3 rfl hl (by decide) rfl (fun ls hl => ?_)
  refine lv_iload_n hx hb dX1_bodyFor_4 rfl (lv_at hl 0 rfl) ?_
  refine lv_bipush (v := 7) hx hb dX1_bodyFor_5 (by decide) ?_
  refine lv_icmp_ge (tgt := 48) hx hb dX1_bodyFor_7 (by decide) (fun c_1 => ?_) (fun c_1 => ?_)
  · exact absurd c_1 (by decide)
  · refine lv_iload_n hx hb dX1_bodyFor_10 rfl (lv_at hl 1 rfl) ?_
    refine lv_iconst (v := 0) hx hb dX1_bodyFor_11 (by decide) ?_
    refine lv_bipush (v := 6) hx hb dX1_bodyFor_12 (by decide) ?_
    have kc1 : (1 : Int32).toInt = 1 := by decide
    have kc0 : (0 : Int32).toInt = 0 := by decide
    have kc6 : (6 : Int32).toInt = 6 := by decide
    refine zc_SN (As := [.int 1, .int 0, .int 6]) (rest := []) ⟨hx, hb, hml, hown, hts⟩ (c_within l D cI cJ cZ cP cS po (1) (0) (6) ) ⟨(va_cnB 3 hts gX1_bodyFor_X7_within_n44 rfl rfl rfl (hN.1 (RX1, 44, yX7_within) (List.mem_of_getElem? (i := 13) rfl)) (hts _ (List.mem_of_getElem? (i := 2) rfl)) dh_X7_within ⟨Nat.le_of_ble_eq_true rfl, Nat.le_of_ble_eq_true rfl⟩), (hts _ (List.mem_of_getElem? (i := 1) rfl)), trivial⟩ hK hN hZ rfl hl.1 rfl (Nat.le_of_ble_eq_true rfl) dX1_bodyFor_14 ⟨Nat.le_of_ble_eq_true rfl, Nat.le_of_ble_eq_true rfl⟩ (fun r_2 hr_2 => ?_)
    rcases hr_2 with ⟨rfl, g_3⟩ | ⟨rfl, g_4, g_5⟩ | ⟨rfl, g_6, g_7⟩
    · exfalso; omega
    · exfalso; omega
    · refine lv_if_eq (tgt := 48) hx hb dX1_bodyFor_17 (by decide) (fun c_8 => ?_) (fun c_8 => ?_)
      · exact absurd c_8 (by decide)
      · refine lv_iload_n hx hb dX1_bodyFor_20 rfl (lv_at hl 1 rfl) ?_
        refine lv_iload_n hx hb dX1_bodyFor_21 rfl (lv_at hl 3 rfl) ?_
        refine zc_S (As := [.int 1, .int 2]) (rest := []) ⟨hx, hb, hml, hown, hts⟩ (c_M_own_1_2 l D cI cJ cZ cP cS po  ) (va_cwS 2 hts gX1_bodyFor_X1_ownBody rfl rfl rfl dh_X1_ownBody ⟨Nat.le_of_ble_eq_true rfl, Nat.le_of_ble_eq_true rfl⟩) hK hN hZ rfl hl.1 rfl (Nat.le_of_ble_eq_true rfl) dX1_bodyFor_22 ⟨Nat.le_of_ble_eq_true rfl, Nat.le_of_ble_eq_true rfl⟩ (fun r_9 hr_9 => ?_)
        obtain rfl := hr_9
        refine lv_istore (lv' := [(4, .int (-1)), (3, .int 0), (2, .int 1), (0, .int 1), (1, .int 2)]) hx hb dX1_bodyFor_25 hl (by decide) rfl (fun ls hl => ?_)
        refine lv_iload hx hb dX1_bodyFor_27 (lv_at hl 0 rfl) ?_
        refine lv_iconst (v := (-1)) hx hb dX1_bodyFor_29 (by decide) ?_
        refine lv_icmp_eq (tgt := 36) hx hb dX1_bodyFor_30 (by decide) (fun c_10 => ?_) (fun c_10 => ?_)
        · obtain ⟨t_11, zt_11, yt_11⟩ := hZ.1.2
          refine va_getsN hx hb zt_11 va_S.rf hown (va_Nw.use rfl (hN.2.1 (RX1, 58) (List.mem_of_getElem? (i := 1) rfl))) (fun _ h9 => h9) dX1_bodyFor_36 ?_
          refine lv_iload_n hx hb dX1_bodyFor_39 rfl (lv_at hl 2 rfl) ?_
          refine va_ti hx hb yt_11 va_S.rf (zf_in (by decide) (by decide)) (v := .int 0) (by decide) dX1_bodyFor_40 ?_
          refine lv_istore_n (lv' := [(2, .int 0), (4, .int (-1)), (3, .int 0), (0, .int 1), (1, .int 2)]) hx hb dX1_bodyFor_41 rfl hl (by decide) rfl (fun ls hl => ?_)
          refine lv_iinc (v := 1) (lv' := [(3, .int 1), (2, .int 0), (4, .int (-1)), (0, .int 1), (1, .int 2)]) hx hb dX1_bodyFor_42 hl (k := 2) rfl (by decide) (by decide) rfl (fun ls hl => ?_)
          refine lv_goto (tgt := 4) hx hb dX1_bodyFor_45 (by decide) ?_
          refine lv_iload_n hx hb dX1_bodyFor_4 rfl (lv_at hl 0 rfl) ?_
          refine lv_bipush (v := 7) hx hb dX1_bodyFor_5 (by decide) ?_
          refine lv_icmp_ge (tgt := 48) hx hb dX1_bodyFor_7 (by decide) (fun c_12 => ?_) (fun c_12 => ?_)
          · exact absurd c_12 (by decide)
          · refine lv_iload_n hx hb dX1_bodyFor_10 rfl (lv_at hl 1 rfl) ?_
            refine lv_iconst (v := 0) hx hb dX1_bodyFor_11 (by decide) ?_
            refine lv_bipush (v := 6) hx hb dX1_bodyFor_12 (by decide) ?_
            refine zc_SN (As := [.int 0, .int 0, .int 6]) (rest := []) ⟨hx, hb, hml, hown, hts⟩ (c_within l D cI cJ cZ cP cS po (0) (0) (6) ) ⟨(va_cnB 3 hts gX1_bodyFor_X7_within_n44 rfl rfl rfl (hN.1 (RX1, 44, yX7_within) (List.mem_of_getElem? (i := 13) rfl)) (hts _ (List.mem_of_getElem? (i := 2) rfl)) dh_X7_within ⟨Nat.le_of_ble_eq_true rfl, Nat.le_of_ble_eq_true rfl⟩), (hts _ (List.mem_of_getElem? (i := 1) rfl)), trivial⟩ hK hN hZ rfl hl.1 rfl (Nat.le_of_ble_eq_true rfl) dX1_bodyFor_14 ⟨Nat.le_of_ble_eq_true rfl, Nat.le_of_ble_eq_true rfl⟩ (fun r_13 hr_13 => ?_)
            rcases hr_13 with ⟨rfl, g_14⟩ | ⟨rfl, g_15, g_16⟩ | ⟨rfl, g_17, g_18⟩
            · exfalso; omega
            · exfalso; omega
            · refine lv_if_eq (tgt := 48) hx hb dX1_bodyFor_17 (by decide) (fun c_19 => ?_) (fun c_19 => ?_)
              · exact absurd c_19 (by decide)
              · refine lv_iload_n hx hb dX1_bodyFor_20 rfl (lv_at hl 1 rfl) ?_
                refine lv_iload_n hx hb dX1_bodyFor_21 rfl (lv_at hl 4 rfl) ?_
                refine zc_S (As := [.int 0, .int 2]) (rest := []) ⟨hx, hb, hml, hown, hts⟩ (c_M_own_0_2 l D cI cJ cZ cP cS po  ) (va_cwS 2 hts gX1_bodyFor_X1_ownBody rfl rfl rfl dh_X1_ownBody ⟨Nat.le_of_ble_eq_true rfl, Nat.le_of_ble_eq_true rfl⟩) hK hN hZ rfl hl.1 rfl (Nat.le_of_ble_eq_true rfl) dX1_bodyFor_22 ⟨Nat.le_of_ble_eq_true rfl, Nat.le_of_ble_eq_true rfl⟩ (fun r_20 hr_20 => ?_)
                obtain rfl := hr_20
                refine lv_istore (lv' := [(4, .int 12), (3, .int 1), (2, .int 0), (0, .int 1), (1, .int 2)]) hx hb dX1_bodyFor_25 hl (by decide) rfl (fun ls hl => ?_)
                refine lv_iload hx hb dX1_bodyFor_27 (lv_at hl 0 rfl) ?_
                refine lv_iconst (v := (-1)) hx hb dX1_bodyFor_29 (by decide) ?_
                refine lv_icmp_eq (tgt := 36) hx hb dX1_bodyFor_30 (by decide) (fun c_21 => ?_) (fun c_21 => ?_)
                · exact absurd c_21 (by decide)
                · refine lv_iload hx hb dX1_bodyFor_33 (lv_at hl 0 rfl) ?_
                  exact W.iret (v := 12) hx hb hr (fun t ht hW => ⟨12, rfl, rfl, ht⟩) (fun q hq => by cases hq) dX1_bodyFor_35
        · exact absurd c_10 (by decide)
set_option maxHeartbeats 4000000 in
set_option maxRecDepth 100000 in
theorem c_M_bodyFor_2_0 (l : Launch) (D : va_G) (cI cJ cZ cP cS : ClassId) (po : zPool)   : Met l yX1_bodyFor wsX1_bodyFor ({ frames := 1, cells := 0, slots := 0, locals := 22 }) (va_Pc [.int 2, .int 0] (zR D (zKT cI cJ cZ cP cS) po [])) (vp_Si (fun r => r = 10)) 0 0 (fun _ => False) := by
  refine Met.ofW (cc := cX1_bodyFor) (maxL := 5) (ret := (some .int)) (by decide) rfl ?_
  intro p e s m args below meth c s₁ B hml hv
  obtain ⟨rfl, hP, hK, hN, hZ⟩ := hv
  have hx := B.exec
  have hb := B.bytes
  have hr := B.returns
  have hts := atoms_spec (ws := wsX1_bodyFor) B.pre
  have hown : s.vm.findClass RX1 = some m.cls := findClass_of_methodNamed B.named
  have hlocks := B.notSynchronized
  have hl := lv_entry ([.int 2, .int 0]) (n := 5) (Nat.le_of_ble_eq_true rfl)
  rw [lg_entry_eq]
  generalize (lg_sl ([.int 2, .int 0]) ++ List.replicate (5 - (lg_sl ([.int 2, .int 0])).length) Slot.unset).toArray = ls at hl ⊢
  replace hl : lv_has ls 5 [(0, .int 2), (1, .int 0)] := hl
  refine lv_iload_n hx hb dX1_bodyFor_0 rfl (lv_at hl 0 rfl) ?_
  refine lv_istore_n (lv' := [(2, .int 2), (0, .int 2), (1, .int 0)]) hx hb dX1_bodyFor_1 rfl hl (by decide) rfl (fun ls hl => ?_)
  refine lv_iconst (v := 0) hx hb dX1_bodyFor_2 (by decide) ?_
  refine lv_istore_n (lv' := [(3, .int 0), (2, .int 2), (0, .int 2), (1, .int 0)]) hx hb dX1_bodyFor_3 rfl hl (by decide) rfl (fun ls hl => ?_)
  refine lv_iload_n hx hb dX1_bodyFor_4 rfl (lv_at hl 0 rfl) ?_
  refine lv_bipush (v := 7) hx hb dX1_bodyFor_5 (by decide) ?_
  refine lv_icmp_ge (tgt := 48) hx hb dX1_bodyFor_7 (by decide) (fun c_1 => ?_) (fun c_1 => ?_)
  · exact absurd c_1 (by decide)
  · refine lv_iload_n hx hb dX1_bodyFor_10 rfl (lv_at hl 1 rfl) ?_
    refine lv_iconst (v := 0) hx hb dX1_bodyFor_11 (by decide) ?_
    refine lv_bipush (v := 6) hx hb dX1_bodyFor_12 (by decide) ?_
    have kc2 : (2 : Int32).toInt = 2 := by decide
    have kc0 : (0 : Int32).toInt = 0 := by decide
    have kc6 : (6 : Int32).toInt = 6 := by decide
    refine zc_SN (As := [.int 2, .int 0, .int 6]) (rest := []) ⟨hx, hb, hml, hown, hts⟩ (c_within l D cI cJ cZ cP cS po (2) (0) (6) ) ⟨(va_cnB 3 hts gX1_bodyFor_X7_within_n44 rfl rfl rfl (hN.1 (RX1, 44, yX7_within) (List.mem_of_getElem? (i := 13) rfl)) (hts _ (List.mem_of_getElem? (i := 2) rfl)) dh_X7_within ⟨Nat.le_of_ble_eq_true rfl, Nat.le_of_ble_eq_true rfl⟩), (hts _ (List.mem_of_getElem? (i := 1) rfl)), trivial⟩ hK hN hZ rfl hl.1 rfl (Nat.le_of_ble_eq_true rfl) dX1_bodyFor_14 ⟨Nat.le_of_ble_eq_true rfl, Nat.le_of_ble_eq_true rfl⟩ (fun r_2 hr_2 => ?_)
    rcases hr_2 with ⟨rfl, g_3⟩ | ⟨rfl, g_4, g_5⟩ | ⟨rfl, g_6, g_7⟩
    · exfalso; omega
    · exfalso; omega
    · refine lv_if_eq (tgt := 48) hx hb dX1_bodyFor_17 (by decide) (fun c_8 => ?_) (fun c_8 => ?_)
      · exact absurd c_8 (by decide)
      · refine lv_iload_n hx hb dX1_bodyFor_20 rfl (lv_at hl 1 rfl) ?_
        refine lv_iload_n hx hb dX1_bodyFor_21 rfl (lv_at hl 3 rfl) ?_
        refine zc_S (As := [.int 2, .int 0]) (rest := []) ⟨hx, hb, hml, hown, hts⟩ (c_M_own_2_0 l D cI cJ cZ cP cS po  ) (va_cwS 2 hts gX1_bodyFor_X1_ownBody rfl rfl rfl dh_X1_ownBody ⟨Nat.le_of_ble_eq_true rfl, Nat.le_of_ble_eq_true rfl⟩) hK hN hZ rfl hl.1 rfl (Nat.le_of_ble_eq_true rfl) dX1_bodyFor_22 ⟨Nat.le_of_ble_eq_true rfl, Nat.le_of_ble_eq_true rfl⟩ (fun r_9 hr_9 => ?_)
        obtain rfl := hr_9
        refine lv_istore (lv' := [(4, .int (-1)), (3, .int 0), (2, .int 2), (0, .int 2), (1, .int 0)]) hx hb dX1_bodyFor_25 hl (by decide) rfl (fun ls hl => ?_)
        refine lv_iload hx hb dX1_bodyFor_27 (lv_at hl 0 rfl) ?_
        refine lv_iconst (v := (-1)) hx hb dX1_bodyFor_29 (by decide) ?_
        refine lv_icmp_eq (tgt := 36) hx hb dX1_bodyFor_30 (by decide) (fun c_10 => ?_) (fun c_10 => ?_)
        · obtain ⟨t_11, zt_11, yt_11⟩ := hZ.1.2
          refine va_getsN hx hb zt_11 va_S.rf hown (va_Nw.use rfl (hN.2.1 (RX1, 58) (List.mem_of_getElem? (i := 1) rfl))) (fun _ h9 => h9) dX1_bodyFor_36 ?_
          refine lv_iload_n hx hb dX1_bodyFor_39 rfl (lv_at hl 2 rfl) ?_
          refine va_ti hx hb yt_11 va_S.rf (zf_in (by decide) (by decide)) (v := .int 0) (by decide) dX1_bodyFor_40 ?_
          refine lv_istore_n (lv' := [(2, .int 0), (4, .int (-1)), (3, .int 0), (0, .int 2), (1, .int 0)]) hx hb dX1_bodyFor_41 rfl hl (by decide) rfl (fun ls hl => ?_)
          refine lv_iinc (v := 1) (lv' := [(3, .int 1), (2, .int 0), (4, .int (-1)), (0, .int 2), (1, .int 0)]) hx hb dX1_bodyFor_42 hl (k := 2) rfl (by decide) (by decide) rfl (fun ls hl => ?_)
          refine lv_goto (tgt := 4) hx hb dX1_bodyFor_45 (by decide) ?_
          refine lv_iload_n hx hb dX1_bodyFor_4 rfl (lv_at hl 0 rfl) ?_
          refine lv_bipush (v := 7) hx hb dX1_bodyFor_5 (by decide) ?_
          refine lv_icmp_ge (tgt := 48) hx hb dX1_bodyFor_7 (by decide) (fun c_12 => ?_) (fun c_12 => ?_)
          · exact absurd c_12 (by decide)
          · refine lv_iload_n hx hb dX1_bodyFor_10 rfl (lv_at hl 1 rfl) ?_
            refine lv_iconst (v := 0) hx hb dX1_bodyFor_11 (by decide) ?_
            refine lv_bipush (v := 6) hx hb dX1_bodyFor_12 (by decide) ?_
            refine zc_SN (As := [.int 0, .int 0, .int 6]) (rest := []) ⟨hx, hb, hml, hown, hts⟩ (c_within l D cI cJ cZ cP cS po (0) (0) (6) ) ⟨(va_cnB 3 hts gX1_bodyFor_X7_within_n44 rfl rfl rfl (hN.1 (RX1, 44, yX7_within) (List.mem_of_getElem? (i := 13) rfl)) (hts _ (List.mem_of_getElem? (i := 2) rfl)) dh_X7_within ⟨Nat.le_of_ble_eq_true rfl, Nat.le_of_ble_eq_true rfl⟩), (hts _ (List.mem_of_getElem? (i := 1) rfl)), trivial⟩ hK hN hZ rfl hl.1 rfl (Nat.le_of_ble_eq_true rfl) dX1_bodyFor_14 ⟨Nat.le_of_ble_eq_true rfl, Nat.le_of_ble_eq_true rfl⟩ (fun r_13 hr_13 => ?_)
            rcases hr_13 with ⟨rfl, g_14⟩ | ⟨rfl, g_15, g_16⟩ | ⟨rfl, g_17, g_18⟩
            · exfalso; omega
            · exfalso; omega
            · refine lv_if_eq (tgt := 48) hx hb dX1_bodyFor_17 (by decide) (fun c_19 => ?_) (fun c_19 => ?_)
              · exact absurd c_19 (by decide)
              · refine lv_iload_n hx hb dX1_bodyFor_20 rfl (lv_at hl 1 rfl) ?_
                refine lv_iload_n hx hb dX1_bodyFor_21 rfl (lv_at hl 4 rfl) ?_
                refine zc_S (As := [.int 0, .int 0]) (rest := []) ⟨hx, hb, hml, hown, hts⟩ (c_M_own_0_0 l D cI cJ cZ cP cS po  ) (va_cwS 2 hts gX1_bodyFor_X1_ownBody rfl rfl rfl dh_X1_ownBody ⟨Nat.le_of_ble_eq_true rfl, Nat.le_of_ble_eq_true rfl⟩) hK hN hZ rfl hl.1 rfl (Nat.le_of_ble_eq_true rfl) dX1_bodyFor_22 ⟨Nat.le_of_ble_eq_true rfl, Nat.le_of_ble_eq_true rfl⟩ (fun r_20 hr_20 => ?_)
                obtain rfl := hr_20
                refine lv_istore (lv' := [(4, .int 10), (3, .int 1), (2, .int 0), (0, .int 2), (1, .int 0)]) hx hb dX1_bodyFor_25 hl (by decide) rfl (fun ls hl => ?_)
                refine lv_iload hx hb dX1_bodyFor_27 (lv_at hl 0 rfl) ?_
                refine lv_iconst (v := (-1)) hx hb dX1_bodyFor_29 (by decide) ?_
                refine lv_icmp_eq (tgt := 36) hx hb dX1_bodyFor_30 (by decide) (fun c_21 => ?_) (fun c_21 => ?_)
                · exact absurd c_21 (by decide)
                · refine lv_iload hx hb dX1_bodyFor_33 (lv_at hl 0 rfl) ?_
                  exact W.iret (v := 10) hx hb hr (fun t ht hW => ⟨10, rfl, rfl, ht⟩) (fun q hq => by cases hq) dX1_bodyFor_35
        · exact absurd c_10 (by decide)
set_option maxHeartbeats 4000000 in
set_option maxRecDepth 100000 in
theorem c_M_bodyFor_2_1 (l : Launch) (D : va_G) (cI cJ cZ cP cS : ClassId) (po : zPool)   : Met l yX1_bodyFor wsX1_bodyFor ({ frames := 1, cells := 0, slots := 0, locals := 22 }) (va_Pc [.int 2, .int 1] (zR D (zKT cI cJ cZ cP cS) po [])) (vp_Si (fun r => r = 30)) 0 0 (fun _ => False) := by
  refine Met.ofW (cc := cX1_bodyFor) (maxL := 5) (ret := (some .int)) (by decide) rfl ?_
  intro p e s m args below meth c s₁ B hml hv
  obtain ⟨rfl, hP, hK, hN, hZ⟩ := hv
  have hx := B.exec
  have hb := B.bytes
  have hr := B.returns
  have hts := atoms_spec (ws := wsX1_bodyFor) B.pre
  have hown : s.vm.findClass RX1 = some m.cls := findClass_of_methodNamed B.named
  have hlocks := B.notSynchronized
  have hl := lv_entry ([.int 2, .int 1]) (n := 5) (Nat.le_of_ble_eq_true rfl)
  rw [lg_entry_eq]
  generalize (lg_sl ([.int 2, .int 1]) ++ List.replicate (5 - (lg_sl ([.int 2, .int 1])).length) Slot.unset).toArray = ls at hl ⊢
  replace hl : lv_has ls 5 [(0, .int 2), (1, .int 1)] := hl
  refine lv_iload_n hx hb dX1_bodyFor_0 rfl (lv_at hl 0 rfl) ?_
  refine lv_istore_n (lv' := [(2, .int 2), (0, .int 2), (1, .int 1)]) hx hb dX1_bodyFor_1 rfl hl (by decide) rfl (fun ls hl => ?_)
  refine lv_iconst (v := 0) hx hb dX1_bodyFor_2 (by decide) ?_
  refine lv_istore_n (lv' := [(3, .int 0), (2, .int 2), (0, .int 2), (1, .int 1)]) hx hb dX1_bodyFor_3 rfl hl (by decide) rfl (fun ls hl => ?_)
  refine lv_iload_n hx hb dX1_bodyFor_4 rfl (lv_at hl 0 rfl) ?_
  refine lv_bipush (v := 7) hx hb dX1_bodyFor_5 (by decide) ?_
  refine lv_icmp_ge (tgt := 48) hx hb dX1_bodyFor_7 (by decide) (fun c_1 => ?_) (fun c_1 => ?_)
  · exact absurd c_1 (by decide)
  · refine lv_iload_n hx hb dX1_bodyFor_10 rfl (lv_at hl 1 rfl) ?_
    refine lv_iconst (v := 0) hx hb dX1_bodyFor_11 (by decide) ?_
    refine lv_bipush (v := 6) hx hb dX1_bodyFor_12 (by decide) ?_
    have kc2 : (2 : Int32).toInt = 2 := by decide
    have kc0 : (0 : Int32).toInt = 0 := by decide
    have kc6 : (6 : Int32).toInt = 6 := by decide
    refine zc_SN (As := [.int 2, .int 0, .int 6]) (rest := []) ⟨hx, hb, hml, hown, hts⟩ (c_within l D cI cJ cZ cP cS po (2) (0) (6) ) ⟨(va_cnB 3 hts gX1_bodyFor_X7_within_n44 rfl rfl rfl (hN.1 (RX1, 44, yX7_within) (List.mem_of_getElem? (i := 13) rfl)) (hts _ (List.mem_of_getElem? (i := 2) rfl)) dh_X7_within ⟨Nat.le_of_ble_eq_true rfl, Nat.le_of_ble_eq_true rfl⟩), (hts _ (List.mem_of_getElem? (i := 1) rfl)), trivial⟩ hK hN hZ rfl hl.1 rfl (Nat.le_of_ble_eq_true rfl) dX1_bodyFor_14 ⟨Nat.le_of_ble_eq_true rfl, Nat.le_of_ble_eq_true rfl⟩ (fun r_2 hr_2 => ?_)
    rcases hr_2 with ⟨rfl, g_3⟩ | ⟨rfl, g_4, g_5⟩ | ⟨rfl, g_6, g_7⟩
    · exfalso; omega
    · exfalso; omega
    · refine lv_if_eq (tgt := 48) hx hb dX1_bodyFor_17 (by decide) (fun c_8 => ?_) (fun c_8 => ?_)
      · exact absurd c_8 (by decide)
      · refine lv_iload_n hx hb dX1_bodyFor_20 rfl (lv_at hl 1 rfl) ?_
        refine lv_iload_n hx hb dX1_bodyFor_21 rfl (lv_at hl 3 rfl) ?_
        refine zc_S (As := [.int 2, .int 1]) (rest := []) ⟨hx, hb, hml, hown, hts⟩ (c_M_own_2_1 l D cI cJ cZ cP cS po  ) (va_cwS 2 hts gX1_bodyFor_X1_ownBody rfl rfl rfl dh_X1_ownBody ⟨Nat.le_of_ble_eq_true rfl, Nat.le_of_ble_eq_true rfl⟩) hK hN hZ rfl hl.1 rfl (Nat.le_of_ble_eq_true rfl) dX1_bodyFor_22 ⟨Nat.le_of_ble_eq_true rfl, Nat.le_of_ble_eq_true rfl⟩ (fun r_9 hr_9 => ?_)
        obtain rfl := hr_9
        refine lv_istore (lv' := [(4, .int 30), (3, .int 0), (2, .int 2), (0, .int 2), (1, .int 1)]) hx hb dX1_bodyFor_25 hl (by decide) rfl (fun ls hl => ?_)
        refine lv_iload hx hb dX1_bodyFor_27 (lv_at hl 0 rfl) ?_
        refine lv_iconst (v := (-1)) hx hb dX1_bodyFor_29 (by decide) ?_
        refine lv_icmp_eq (tgt := 36) hx hb dX1_bodyFor_30 (by decide) (fun c_10 => ?_) (fun c_10 => ?_)
        · exact absurd c_10 (by decide)
        · refine lv_iload hx hb dX1_bodyFor_33 (lv_at hl 0 rfl) ?_
          exact W.iret (v := 30) hx hb hr (fun t ht hW => ⟨30, rfl, rfl, ht⟩) (fun q hq => by cases hq) dX1_bodyFor_35
set_option maxHeartbeats 4000000 in
set_option maxRecDepth 100000 in
theorem c_M_bodyFor_2_2 (l : Launch) (D : va_G) (cI cJ cZ cP cS : ClassId) (po : zPool)   : Met l yX1_bodyFor wsX1_bodyFor ({ frames := 1, cells := 0, slots := 0, locals := 22 }) (va_Pc [.int 2, .int 2] (zR D (zKT cI cJ cZ cP cS) po [])) (vp_Si (fun r => r = 12)) 0 0 (fun _ => False) := by
  refine Met.ofW (cc := cX1_bodyFor) (maxL := 5) (ret := (some .int)) (by decide) rfl ?_
  intro p e s m args below meth c s₁ B hml hv
  obtain ⟨rfl, hP, hK, hN, hZ⟩ := hv
  have hx := B.exec
  have hb := B.bytes
  have hr := B.returns
  have hts := atoms_spec (ws := wsX1_bodyFor) B.pre
  have hown : s.vm.findClass RX1 = some m.cls := findClass_of_methodNamed B.named
  have hlocks := B.notSynchronized
  have hl := lv_entry ([.int 2, .int 2]) (n := 5) (Nat.le_of_ble_eq_true rfl)
  rw [lg_entry_eq]
  generalize (lg_sl ([.int 2, .int 2]) ++ List.replicate (5 - (lg_sl ([.int 2, .int 2])).length) Slot.unset).toArray = ls at hl ⊢
  replace hl : lv_has ls 5 [(0, .int 2), (1, .int 2)] := hl
  refine lv_iload_n hx hb dX1_bodyFor_0 rfl (lv_at hl 0 rfl) ?_
  refine lv_istore_n (lv' := [(2, .int 2), (0, .int 2), (1, .int 2)]) hx hb dX1_bodyFor_1 rfl hl (by decide) rfl (fun ls hl => ?_)
  refine lv_iconst (v := 0) hx hb dX1_bodyFor_2 (by decide) ?_
  refine lv_istore_n (lv' := [(3, .int 0), (2, .int 2), (0, .int 2), (1, .int 2)]) hx hb dX1_bodyFor_3 rfl hl (by decide) rfl (fun ls hl => ?_)
  refine lv_iload_n hx hb dX1_bodyFor_4 rfl (lv_at hl 0 rfl) ?_
  refine lv_bipush (v := 7) hx hb dX1_bodyFor_5 (by decide) ?_
  refine lv_icmp_ge (tgt := 48) hx hb dX1_bodyFor_7 (by decide) (fun c_1 => ?_) (fun c_1 => ?_)
  · exact absurd c_1 (by decide)
  · refine lv_iload_n hx hb dX1_bodyFor_10 rfl (lv_at hl 1 rfl) ?_
    refine lv_iconst (v := 0) hx hb dX1_bodyFor_11 (by decide) ?_
    refine lv_bipush (v := 6) hx hb dX1_bodyFor_12 (by decide) ?_
    have kc2 : (2 : Int32).toInt = 2 := by decide
    have kc0 : (0 : Int32).toInt = 0 := by decide
    have kc6 : (6 : Int32).toInt = 6 := by decide
    refine zc_SN (As := [.int 2, .int 0, .int 6]) (rest := []) ⟨hx, hb, hml, hown, hts⟩ (c_within l D cI cJ cZ cP cS po (2) (0) (6) ) ⟨(va_cnB 3 hts gX1_bodyFor_X7_within_n44 rfl rfl rfl (hN.1 (RX1, 44, yX7_within) (List.mem_of_getElem? (i := 13) rfl)) (hts _ (List.mem_of_getElem? (i := 2) rfl)) dh_X7_within ⟨Nat.le_of_ble_eq_true rfl, Nat.le_of_ble_eq_true rfl⟩), (hts _ (List.mem_of_getElem? (i := 1) rfl)), trivial⟩ hK hN hZ rfl hl.1 rfl (Nat.le_of_ble_eq_true rfl) dX1_bodyFor_14 ⟨Nat.le_of_ble_eq_true rfl, Nat.le_of_ble_eq_true rfl⟩ (fun r_2 hr_2 => ?_)
    rcases hr_2 with ⟨rfl, g_3⟩ | ⟨rfl, g_4, g_5⟩ | ⟨rfl, g_6, g_7⟩
    · exfalso; omega
    · exfalso; omega
    · refine lv_if_eq (tgt := 48) hx hb dX1_bodyFor_17 (by decide) (fun c_8 => ?_) (fun c_8 => ?_)
      · exact absurd c_8 (by decide)
      · refine lv_iload_n hx hb dX1_bodyFor_20 rfl (lv_at hl 1 rfl) ?_
        refine lv_iload_n hx hb dX1_bodyFor_21 rfl (lv_at hl 3 rfl) ?_
        refine zc_S (As := [.int 2, .int 2]) (rest := []) ⟨hx, hb, hml, hown, hts⟩ (c_M_own_2_2 l D cI cJ cZ cP cS po  ) (va_cwS 2 hts gX1_bodyFor_X1_ownBody rfl rfl rfl dh_X1_ownBody ⟨Nat.le_of_ble_eq_true rfl, Nat.le_of_ble_eq_true rfl⟩) hK hN hZ rfl hl.1 rfl (Nat.le_of_ble_eq_true rfl) dX1_bodyFor_22 ⟨Nat.le_of_ble_eq_true rfl, Nat.le_of_ble_eq_true rfl⟩ (fun r_9 hr_9 => ?_)
        obtain rfl := hr_9
        refine lv_istore (lv' := [(4, .int (-1)), (3, .int 0), (2, .int 2), (0, .int 2), (1, .int 2)]) hx hb dX1_bodyFor_25 hl (by decide) rfl (fun ls hl => ?_)
        refine lv_iload hx hb dX1_bodyFor_27 (lv_at hl 0 rfl) ?_
        refine lv_iconst (v := (-1)) hx hb dX1_bodyFor_29 (by decide) ?_
        refine lv_icmp_eq (tgt := 36) hx hb dX1_bodyFor_30 (by decide) (fun c_10 => ?_) (fun c_10 => ?_)
        · obtain ⟨t_11, zt_11, yt_11⟩ := hZ.1.2
          refine va_getsN hx hb zt_11 va_S.rf hown (va_Nw.use rfl (hN.2.1 (RX1, 58) (List.mem_of_getElem? (i := 1) rfl))) (fun _ h9 => h9) dX1_bodyFor_36 ?_
          refine lv_iload_n hx hb dX1_bodyFor_39 rfl (lv_at hl 2 rfl) ?_
          refine va_ti hx hb yt_11 va_S.rf (zf_in (by decide) (by decide)) (v := .int 0) (by decide) dX1_bodyFor_40 ?_
          refine lv_istore_n (lv' := [(2, .int 0), (4, .int (-1)), (3, .int 0), (0, .int 2), (1, .int 2)]) hx hb dX1_bodyFor_41 rfl hl (by decide) rfl (fun ls hl => ?_)
          refine lv_iinc (v := 1) (lv' := [(3, .int 1), (2, .int 0), (4, .int (-1)), (0, .int 2), (1, .int 2)]) hx hb dX1_bodyFor_42 hl (k := 2) rfl (by decide) (by decide) rfl (fun ls hl => ?_)
          refine lv_goto (tgt := 4) hx hb dX1_bodyFor_45 (by decide) ?_
          refine lv_iload_n hx hb dX1_bodyFor_4 rfl (lv_at hl 0 rfl) ?_
          refine lv_bipush (v := 7) hx hb dX1_bodyFor_5 (by decide) ?_
          refine lv_icmp_ge (tgt := 48) hx hb dX1_bodyFor_7 (by decide) (fun c_12 => ?_) (fun c_12 => ?_)
          · exact absurd c_12 (by decide)
          · refine lv_iload_n hx hb dX1_bodyFor_10 rfl (lv_at hl 1 rfl) ?_
            refine lv_iconst (v := 0) hx hb dX1_bodyFor_11 (by decide) ?_
            refine lv_bipush (v := 6) hx hb dX1_bodyFor_12 (by decide) ?_
            refine zc_SN (As := [.int 0, .int 0, .int 6]) (rest := []) ⟨hx, hb, hml, hown, hts⟩ (c_within l D cI cJ cZ cP cS po (0) (0) (6) ) ⟨(va_cnB 3 hts gX1_bodyFor_X7_within_n44 rfl rfl rfl (hN.1 (RX1, 44, yX7_within) (List.mem_of_getElem? (i := 13) rfl)) (hts _ (List.mem_of_getElem? (i := 2) rfl)) dh_X7_within ⟨Nat.le_of_ble_eq_true rfl, Nat.le_of_ble_eq_true rfl⟩), (hts _ (List.mem_of_getElem? (i := 1) rfl)), trivial⟩ hK hN hZ rfl hl.1 rfl (Nat.le_of_ble_eq_true rfl) dX1_bodyFor_14 ⟨Nat.le_of_ble_eq_true rfl, Nat.le_of_ble_eq_true rfl⟩ (fun r_13 hr_13 => ?_)
            rcases hr_13 with ⟨rfl, g_14⟩ | ⟨rfl, g_15, g_16⟩ | ⟨rfl, g_17, g_18⟩
            · exfalso; omega
            · exfalso; omega
            · refine lv_if_eq (tgt := 48) hx hb dX1_bodyFor_17 (by decide) (fun c_19 => ?_) (fun c_19 => ?_)
              · exact absurd c_19 (by decide)
              · refine lv_iload_n hx hb dX1_bodyFor_20 rfl (lv_at hl 1 rfl) ?_
                refine lv_iload_n hx hb dX1_bodyFor_21 rfl (lv_at hl 4 rfl) ?_
                refine zc_S (As := [.int 0, .int 2]) (rest := []) ⟨hx, hb, hml, hown, hts⟩ (c_M_own_0_2 l D cI cJ cZ cP cS po  ) (va_cwS 2 hts gX1_bodyFor_X1_ownBody rfl rfl rfl dh_X1_ownBody ⟨Nat.le_of_ble_eq_true rfl, Nat.le_of_ble_eq_true rfl⟩) hK hN hZ rfl hl.1 rfl (Nat.le_of_ble_eq_true rfl) dX1_bodyFor_22 ⟨Nat.le_of_ble_eq_true rfl, Nat.le_of_ble_eq_true rfl⟩ (fun r_20 hr_20 => ?_)
                obtain rfl := hr_20
                refine lv_istore (lv' := [(4, .int 12), (3, .int 1), (2, .int 0), (0, .int 2), (1, .int 2)]) hx hb dX1_bodyFor_25 hl (by decide) rfl (fun ls hl => ?_)
                refine lv_iload hx hb dX1_bodyFor_27 (lv_at hl 0 rfl) ?_
                refine lv_iconst (v := (-1)) hx hb dX1_bodyFor_29 (by decide) ?_
                refine lv_icmp_eq (tgt := 36) hx hb dX1_bodyFor_30 (by decide) (fun c_21 => ?_) (fun c_21 => ?_)
                · exact absurd c_21 (by decide)
                · refine lv_iload hx hb dX1_bodyFor_33 (lv_at hl 0 rfl) ?_
                  exact W.iret (v := 12) hx hb hr (fun t ht hW => ⟨12, rfl, rfl, ht⟩) (fun q hq => by cases hq) dX1_bodyFor_35
        · exact absurd c_10 (by decide)
set_option maxHeartbeats 4000000 in
set_option maxRecDepth 100000 in
theorem c_M_bodyFor_3_0 (l : Launch) (D : va_G) (cI cJ cZ cP cS : ClassId) (po : zPool)   : Met l yX1_bodyFor wsX1_bodyFor ({ frames := 1, cells := 0, slots := 0, locals := 22 }) (va_Pc [.int 3, .int 0] (zR D (zKT cI cJ cZ cP cS) po [])) (vp_Si (fun r => r = 20)) 0 0 (fun _ => False) := by
  refine Met.ofW (cc := cX1_bodyFor) (maxL := 5) (ret := (some .int)) (by decide) rfl ?_
  intro p e s m args below meth c s₁ B hml hv
  obtain ⟨rfl, hP, hK, hN, hZ⟩ := hv
  have hx := B.exec
  have hb := B.bytes
  have hr := B.returns
  have hts := atoms_spec (ws := wsX1_bodyFor) B.pre
  have hown : s.vm.findClass RX1 = some m.cls := findClass_of_methodNamed B.named
  have hlocks := B.notSynchronized
  have hl := lv_entry ([.int 3, .int 0]) (n := 5) (Nat.le_of_ble_eq_true rfl)
  rw [lg_entry_eq]
  generalize (lg_sl ([.int 3, .int 0]) ++ List.replicate (5 - (lg_sl ([.int 3, .int 0])).length) Slot.unset).toArray = ls at hl ⊢
  replace hl : lv_has ls 5 [(0, .int 3), (1, .int 0)] := hl
  refine lv_iload_n hx hb dX1_bodyFor_0 rfl (lv_at hl 0 rfl) ?_
  refine lv_istore_n (lv' := [(2, .int 3), (0, .int 3), (1, .int 0)]) hx hb dX1_bodyFor_1 rfl hl (by decide) rfl (fun ls hl => ?_)
  refine lv_iconst (v := 0) hx hb dX1_bodyFor_2 (by decide) ?_
  refine lv_istore_n (lv' := [(3, .int 0), (2, .int 3), (0, .int 3), (1, .int 0)]) hx hb dX1_bodyFor_3 rfl hl (by decide) rfl (fun ls hl => ?_)
  refine lv_iload_n hx hb dX1_bodyFor_4 rfl (lv_at hl 0 rfl) ?_
  refine lv_bipush (v := 7) hx hb dX1_bodyFor_5 (by decide) ?_
  refine lv_icmp_ge (tgt := 48) hx hb dX1_bodyFor_7 (by decide) (fun c_1 => ?_) (fun c_1 => ?_)
  · exact absurd c_1 (by decide)
  · refine lv_iload_n hx hb dX1_bodyFor_10 rfl (lv_at hl 1 rfl) ?_
    refine lv_iconst (v := 0) hx hb dX1_bodyFor_11 (by decide) ?_
    refine lv_bipush (v := 6) hx hb dX1_bodyFor_12 (by decide) ?_
    have kc3 : (3 : Int32).toInt = 3 := by decide
    have kc0 : (0 : Int32).toInt = 0 := by decide
    have kc6 : (6 : Int32).toInt = 6 := by decide
    refine zc_SN (As := [.int 3, .int 0, .int 6]) (rest := []) ⟨hx, hb, hml, hown, hts⟩ (c_within l D cI cJ cZ cP cS po (3) (0) (6) ) ⟨(va_cnB 3 hts gX1_bodyFor_X7_within_n44 rfl rfl rfl (hN.1 (RX1, 44, yX7_within) (List.mem_of_getElem? (i := 13) rfl)) (hts _ (List.mem_of_getElem? (i := 2) rfl)) dh_X7_within ⟨Nat.le_of_ble_eq_true rfl, Nat.le_of_ble_eq_true rfl⟩), (hts _ (List.mem_of_getElem? (i := 1) rfl)), trivial⟩ hK hN hZ rfl hl.1 rfl (Nat.le_of_ble_eq_true rfl) dX1_bodyFor_14 ⟨Nat.le_of_ble_eq_true rfl, Nat.le_of_ble_eq_true rfl⟩ (fun r_2 hr_2 => ?_)
    rcases hr_2 with ⟨rfl, g_3⟩ | ⟨rfl, g_4, g_5⟩ | ⟨rfl, g_6, g_7⟩
    · exfalso; omega
    · exfalso; omega
    · refine lv_if_eq (tgt := 48) hx hb dX1_bodyFor_17 (by decide) (fun c_8 => ?_) (fun c_8 => ?_)
      · exact absurd c_8 (by decide)
      · refine lv_iload_n hx hb dX1_bodyFor_20 rfl (lv_at hl 1 rfl) ?_
        refine lv_iload_n hx hb dX1_bodyFor_21 rfl (lv_at hl 3 rfl) ?_
        refine zc_S (As := [.int 3, .int 0]) (rest := []) ⟨hx, hb, hml, hown, hts⟩ (c_M_own_3_0 l D cI cJ cZ cP cS po  ) (va_cwS 2 hts gX1_bodyFor_X1_ownBody rfl rfl rfl dh_X1_ownBody ⟨Nat.le_of_ble_eq_true rfl, Nat.le_of_ble_eq_true rfl⟩) hK hN hZ rfl hl.1 rfl (Nat.le_of_ble_eq_true rfl) dX1_bodyFor_22 ⟨Nat.le_of_ble_eq_true rfl, Nat.le_of_ble_eq_true rfl⟩ (fun r_9 hr_9 => ?_)
        obtain rfl := hr_9
        refine lv_istore (lv' := [(4, .int (-1)), (3, .int 0), (2, .int 3), (0, .int 3), (1, .int 0)]) hx hb dX1_bodyFor_25 hl (by decide) rfl (fun ls hl => ?_)
        refine lv_iload hx hb dX1_bodyFor_27 (lv_at hl 0 rfl) ?_
        refine lv_iconst (v := (-1)) hx hb dX1_bodyFor_29 (by decide) ?_
        refine lv_icmp_eq (tgt := 36) hx hb dX1_bodyFor_30 (by decide) (fun c_10 => ?_) (fun c_10 => ?_)
        · obtain ⟨t_11, zt_11, yt_11⟩ := hZ.1.2
          refine va_getsN hx hb zt_11 va_S.rf hown (va_Nw.use rfl (hN.2.1 (RX1, 58) (List.mem_of_getElem? (i := 1) rfl))) (fun _ h9 => h9) dX1_bodyFor_36 ?_
          refine lv_iload_n hx hb dX1_bodyFor_39 rfl (lv_at hl 2 rfl) ?_
          refine va_ti hx hb yt_11 va_S.rf (zf_in (by decide) (by decide)) (v := .int 1) (by decide) dX1_bodyFor_40 ?_
          refine lv_istore_n (lv' := [(2, .int 1), (4, .int (-1)), (3, .int 0), (0, .int 3), (1, .int 0)]) hx hb dX1_bodyFor_41 rfl hl (by decide) rfl (fun ls hl => ?_)
          refine lv_iinc (v := 1) (lv' := [(3, .int 1), (2, .int 1), (4, .int (-1)), (0, .int 3), (1, .int 0)]) hx hb dX1_bodyFor_42 hl (k := 2) rfl (by decide) (by decide) rfl (fun ls hl => ?_)
          refine lv_goto (tgt := 4) hx hb dX1_bodyFor_45 (by decide) ?_
          refine lv_iload_n hx hb dX1_bodyFor_4 rfl (lv_at hl 0 rfl) ?_
          refine lv_bipush (v := 7) hx hb dX1_bodyFor_5 (by decide) ?_
          refine lv_icmp_ge (tgt := 48) hx hb dX1_bodyFor_7 (by decide) (fun c_12 => ?_) (fun c_12 => ?_)
          · exact absurd c_12 (by decide)
          · refine lv_iload_n hx hb dX1_bodyFor_10 rfl (lv_at hl 1 rfl) ?_
            refine lv_iconst (v := 0) hx hb dX1_bodyFor_11 (by decide) ?_
            refine lv_bipush (v := 6) hx hb dX1_bodyFor_12 (by decide) ?_
            have kc1 : (1 : Int32).toInt = 1 := by decide
            refine zc_SN (As := [.int 1, .int 0, .int 6]) (rest := []) ⟨hx, hb, hml, hown, hts⟩ (c_within l D cI cJ cZ cP cS po (1) (0) (6) ) ⟨(va_cnB 3 hts gX1_bodyFor_X7_within_n44 rfl rfl rfl (hN.1 (RX1, 44, yX7_within) (List.mem_of_getElem? (i := 13) rfl)) (hts _ (List.mem_of_getElem? (i := 2) rfl)) dh_X7_within ⟨Nat.le_of_ble_eq_true rfl, Nat.le_of_ble_eq_true rfl⟩), (hts _ (List.mem_of_getElem? (i := 1) rfl)), trivial⟩ hK hN hZ rfl hl.1 rfl (Nat.le_of_ble_eq_true rfl) dX1_bodyFor_14 ⟨Nat.le_of_ble_eq_true rfl, Nat.le_of_ble_eq_true rfl⟩ (fun r_13 hr_13 => ?_)
            rcases hr_13 with ⟨rfl, g_14⟩ | ⟨rfl, g_15, g_16⟩ | ⟨rfl, g_17, g_18⟩
            · exfalso; omega
            · exfalso; omega
            · refine lv_if_eq (tgt := 48) hx hb dX1_bodyFor_17 (by decide) (fun c_19 => ?_) (fun c_19 => ?_)
              · exact absurd c_19 (by decide)
              · refine lv_iload_n hx hb dX1_bodyFor_20 rfl (lv_at hl 1 rfl) ?_
                refine lv_iload_n hx hb dX1_bodyFor_21 rfl (lv_at hl 4 rfl) ?_
                refine zc_S (As := [.int 1, .int 0]) (rest := []) ⟨hx, hb, hml, hown, hts⟩ (c_M_own_1_0 l D cI cJ cZ cP cS po  ) (va_cwS 2 hts gX1_bodyFor_X1_ownBody rfl rfl rfl dh_X1_ownBody ⟨Nat.le_of_ble_eq_true rfl, Nat.le_of_ble_eq_true rfl⟩) hK hN hZ rfl hl.1 rfl (Nat.le_of_ble_eq_true rfl) dX1_bodyFor_22 ⟨Nat.le_of_ble_eq_true rfl, Nat.le_of_ble_eq_true rfl⟩ (fun r_20 hr_20 => ?_)
                obtain rfl := hr_20
                refine lv_istore (lv' := [(4, .int 20), (3, .int 1), (2, .int 1), (0, .int 3), (1, .int 0)]) hx hb dX1_bodyFor_25 hl (by decide) rfl (fun ls hl => ?_)
                refine lv_iload hx hb dX1_bodyFor_27 (lv_at hl 0 rfl) ?_
                refine lv_iconst (v := (-1)) hx hb dX1_bodyFor_29 (by decide) ?_
                refine lv_icmp_eq (tgt := 36) hx hb dX1_bodyFor_30 (by decide) (fun c_21 => ?_) (fun c_21 => ?_)
                · exact absurd c_21 (by decide)
                · refine lv_iload hx hb dX1_bodyFor_33 (lv_at hl 0 rfl) ?_
                  exact W.iret (v := 20) hx hb hr (fun t ht hW => ⟨20, rfl, rfl, ht⟩) (fun q hq => by cases hq) dX1_bodyFor_35
        · exact absurd c_10 (by decide)
set_option maxHeartbeats 4000000 in
set_option maxRecDepth 100000 in
theorem c_M_bodyFor_3_1 (l : Launch) (D : va_G) (cI cJ cZ cP cS : ClassId) (po : zPool)   : Met l yX1_bodyFor wsX1_bodyFor ({ frames := 1, cells := 0, slots := 0, locals := 22 }) (va_Pc [.int 3, .int 1] (zR D (zKT cI cJ cZ cP cS) po [])) (vp_Si (fun r => r = 40)) 0 0 (fun _ => False) := by
  refine Met.ofW (cc := cX1_bodyFor) (maxL := 5) (ret := (some .int)) (by decide) rfl ?_
  intro p e s m args below meth c s₁ B hml hv
  obtain ⟨rfl, hP, hK, hN, hZ⟩ := hv
  have hx := B.exec
  have hb := B.bytes
  have hr := B.returns
  have hts := atoms_spec (ws := wsX1_bodyFor) B.pre
  have hown : s.vm.findClass RX1 = some m.cls := findClass_of_methodNamed B.named
  have hlocks := B.notSynchronized
  have hl := lv_entry ([.int 3, .int 1]) (n := 5) (Nat.le_of_ble_eq_true rfl)
  rw [lg_entry_eq]
  generalize (lg_sl ([.int 3, .int 1]) ++ List.replicate (5 - (lg_sl ([.int 3, .int 1])).length) Slot.unset).toArray = ls at hl ⊢
  replace hl : lv_has ls 5 [(0, .int 3), (1, .int 1)] := hl
  refine lv_iload_n hx hb dX1_bodyFor_0 rfl (lv_at hl 0 rfl) ?_
  refine lv_istore_n (lv' := [(2, .int 3), (0, .int 3), (1, .int 1)]) hx hb dX1_bodyFor_1 rfl hl (by decide) rfl (fun ls hl => ?_)
  refine lv_iconst (v := 0) hx hb dX1_bodyFor_2 (by decide) ?_
  refine lv_istore_n (lv' := [(3, .int 0), (2, .int 3), (0, .int 3), (1, .int 1)]) hx hb dX1_bodyFor_3 rfl hl (by decide) rfl (fun ls hl => ?_)
  refine lv_iload_n hx hb dX1_bodyFor_4 rfl (lv_at hl 0 rfl) ?_
  refine lv_bipush (v := 7) hx hb dX1_bodyFor_5 (by decide) ?_
  refine lv_icmp_ge (tgt := 48) hx hb dX1_bodyFor_7 (by decide) (fun c_1 => ?_) (fun c_1 => ?_)
  · exact absurd c_1 (by decide)
  · refine lv_iload_n hx hb dX1_bodyFor_10 rfl (lv_at hl 1 rfl) ?_
    refine lv_iconst (v := 0) hx hb dX1_bodyFor_11 (by decide) ?_
    refine lv_bipush (v := 6) hx hb dX1_bodyFor_12 (by decide) ?_
    have kc3 : (3 : Int32).toInt = 3 := by decide
    have kc0 : (0 : Int32).toInt = 0 := by decide
    have kc6 : (6 : Int32).toInt = 6 := by decide
    refine zc_SN (As := [.int 3, .int 0, .int 6]) (rest := []) ⟨hx, hb, hml, hown, hts⟩ (c_within l D cI cJ cZ cP cS po (3) (0) (6) ) ⟨(va_cnB 3 hts gX1_bodyFor_X7_within_n44 rfl rfl rfl (hN.1 (RX1, 44, yX7_within) (List.mem_of_getElem? (i := 13) rfl)) (hts _ (List.mem_of_getElem? (i := 2) rfl)) dh_X7_within ⟨Nat.le_of_ble_eq_true rfl, Nat.le_of_ble_eq_true rfl⟩), (hts _ (List.mem_of_getElem? (i := 1) rfl)), trivial⟩ hK hN hZ rfl hl.1 rfl (Nat.le_of_ble_eq_true rfl) dX1_bodyFor_14 ⟨Nat.le_of_ble_eq_true rfl, Nat.le_of_ble_eq_true rfl⟩ (fun r_2 hr_2 => ?_)
    rcases hr_2 with ⟨rfl, g_3⟩ | ⟨rfl, g_4, g_5⟩ | ⟨rfl, g_6, g_7⟩
    · exfalso; omega
    · exfalso; omega
    · refine lv_if_eq (tgt := 48) hx hb dX1_bodyFor_17 (by decide) (fun c_8 => ?_) (fun c_8 => ?_)
      · exact absurd c_8 (by decide)
      · refine lv_iload_n hx hb dX1_bodyFor_20 rfl (lv_at hl 1 rfl) ?_
        refine lv_iload_n hx hb dX1_bodyFor_21 rfl (lv_at hl 3 rfl) ?_
        refine zc_S (As := [.int 3, .int 1]) (rest := []) ⟨hx, hb, hml, hown, hts⟩ (c_M_own_3_1 l D cI cJ cZ cP cS po  ) (va_cwS 2 hts gX1_bodyFor_X1_ownBody rfl rfl rfl dh_X1_ownBody ⟨Nat.le_of_ble_eq_true rfl, Nat.le_of_ble_eq_true rfl⟩) hK hN hZ rfl hl.1 rfl (Nat.le_of_ble_eq_true rfl) dX1_bodyFor_22 ⟨Nat.le_of_ble_eq_true rfl, Nat.le_of_ble_eq_true rfl⟩ (fun r_9 hr_9 => ?_)
        obtain rfl := hr_9
        refine lv_istore (lv' := [(4, .int 40), (3, .int 0), (2, .int 3), (0, .int 3), (1, .int 1)]) hx hb dX1_bodyFor_25 hl (by decide) rfl (fun ls hl => ?_)
        refine lv_iload hx hb dX1_bodyFor_27 (lv_at hl 0 rfl) ?_
        refine lv_iconst (v := (-1)) hx hb dX1_bodyFor_29 (by decide) ?_
        refine lv_icmp_eq (tgt := 36) hx hb dX1_bodyFor_30 (by decide) (fun c_10 => ?_) (fun c_10 => ?_)
        · exact absurd c_10 (by decide)
        · refine lv_iload hx hb dX1_bodyFor_33 (lv_at hl 0 rfl) ?_
          exact W.iret (v := 40) hx hb hr (fun t ht hW => ⟨40, rfl, rfl, ht⟩) (fun q hq => by cases hq) dX1_bodyFor_35
set_option maxHeartbeats 4000000 in
set_option maxRecDepth 100000 in
theorem c_M_bodyFor_3_2 (l : Launch) (D : va_G) (cI cJ cZ cP cS : ClassId) (po : zPool)   : Met l yX1_bodyFor wsX1_bodyFor ({ frames := 1, cells := 0, slots := 0, locals := 22 }) (va_Pc [.int 3, .int 2] (zR D (zKT cI cJ cZ cP cS) po [])) (vp_Si (fun r => r = 12)) 0 0 (fun _ => False) := by
  refine Met.ofW (cc := cX1_bodyFor) (maxL := 5) (ret := (some .int)) (by decide) rfl ?_
  intro p e s m args below meth c s₁ B hml hv
  obtain ⟨rfl, hP, hK, hN, hZ⟩ := hv
  have hx := B.exec
  have hb := B.bytes
  have hr := B.returns
  have hts := atoms_spec (ws := wsX1_bodyFor) B.pre
  have hown : s.vm.findClass RX1 = some m.cls := findClass_of_methodNamed B.named
  have hlocks := B.notSynchronized
  have hl := lv_entry ([.int 3, .int 2]) (n := 5) (Nat.le_of_ble_eq_true rfl)
  rw [lg_entry_eq]
  generalize (lg_sl ([.int 3, .int 2]) ++ List.replicate (5 - (lg_sl ([.int 3, .int 2])).length) Slot.unset).toArray = ls at hl ⊢
  replace hl : lv_has ls 5 [(0, .int 3), (1, .int 2)] := hl
  refine lv_iload_n hx hb dX1_bodyFor_0 rfl (lv_at hl 0 rfl) ?_
  refine lv_istore_n (lv' := [(2, .int 3), (0, .int 3), (1, .int 2)]) hx hb dX1_bodyFor_1 rfl hl (by decide) rfl (fun ls hl => ?_)
  refine lv_iconst (v := 0) hx hb dX1_bodyFor_2 (by decide) ?_
  refine lv_istore_n (lv' := [(3, .int 0), (2, .int 3), (0, .int 3), (1, .int 2)]) hx hb dX1_bodyFor_3 rfl hl (by decide) rfl (fun ls hl => ?_)
  refine lv_iload_n hx hb dX1_bodyFor_4 rfl (lv_at hl 0 rfl) ?_
  refine lv_bipush (v := 7) hx hb dX1_bodyFor_5 (by decide) ?_
  refine lv_icmp_ge (tgt := 48) hx hb dX1_bodyFor_7 (by decide) (fun c_1 => ?_) (fun c_1 => ?_)
  · exact absurd c_1 (by decide)
  · refine lv_iload_n hx hb dX1_bodyFor_10 rfl (lv_at hl 1 rfl) ?_
    refine lv_iconst (v := 0) hx hb dX1_bodyFor_11 (by decide) ?_
    refine lv_bipush (v := 6) hx hb dX1_bodyFor_12 (by decide) ?_
    have kc3 : (3 : Int32).toInt = 3 := by decide
    have kc0 : (0 : Int32).toInt = 0 := by decide
    have kc6 : (6 : Int32).toInt = 6 := by decide
    refine zc_SN (As := [.int 3, .int 0, .int 6]) (rest := []) ⟨hx, hb, hml, hown, hts⟩ (c_within l D cI cJ cZ cP cS po (3) (0) (6) ) ⟨(va_cnB 3 hts gX1_bodyFor_X7_within_n44 rfl rfl rfl (hN.1 (RX1, 44, yX7_within) (List.mem_of_getElem? (i := 13) rfl)) (hts _ (List.mem_of_getElem? (i := 2) rfl)) dh_X7_within ⟨Nat.le_of_ble_eq_true rfl, Nat.le_of_ble_eq_true rfl⟩), (hts _ (List.mem_of_getElem? (i := 1) rfl)), trivial⟩ hK hN hZ rfl hl.1 rfl (Nat.le_of_ble_eq_true rfl) dX1_bodyFor_14 ⟨Nat.le_of_ble_eq_true rfl, Nat.le_of_ble_eq_true rfl⟩ (fun r_2 hr_2 => ?_)
    rcases hr_2 with ⟨rfl, g_3⟩ | ⟨rfl, g_4, g_5⟩ | ⟨rfl, g_6, g_7⟩
    · exfalso; omega
    · exfalso; omega
    · refine lv_if_eq (tgt := 48) hx hb dX1_bodyFor_17 (by decide) (fun c_8 => ?_) (fun c_8 => ?_)
      · exact absurd c_8 (by decide)
      · refine lv_iload_n hx hb dX1_bodyFor_20 rfl (lv_at hl 1 rfl) ?_
        refine lv_iload_n hx hb dX1_bodyFor_21 rfl (lv_at hl 3 rfl) ?_
        refine zc_S (As := [.int 3, .int 2]) (rest := []) ⟨hx, hb, hml, hown, hts⟩ (c_M_own_3_2 l D cI cJ cZ cP cS po  ) (va_cwS 2 hts gX1_bodyFor_X1_ownBody rfl rfl rfl dh_X1_ownBody ⟨Nat.le_of_ble_eq_true rfl, Nat.le_of_ble_eq_true rfl⟩) hK hN hZ rfl hl.1 rfl (Nat.le_of_ble_eq_true rfl) dX1_bodyFor_22 ⟨Nat.le_of_ble_eq_true rfl, Nat.le_of_ble_eq_true rfl⟩ (fun r_9 hr_9 => ?_)
        obtain rfl := hr_9
        refine lv_istore (lv' := [(4, .int (-1)), (3, .int 0), (2, .int 3), (0, .int 3), (1, .int 2)]) hx hb dX1_bodyFor_25 hl (by decide) rfl (fun ls hl => ?_)
        refine lv_iload hx hb dX1_bodyFor_27 (lv_at hl 0 rfl) ?_
        refine lv_iconst (v := (-1)) hx hb dX1_bodyFor_29 (by decide) ?_
        refine lv_icmp_eq (tgt := 36) hx hb dX1_bodyFor_30 (by decide) (fun c_10 => ?_) (fun c_10 => ?_)
        · obtain ⟨t_11, zt_11, yt_11⟩ := hZ.1.2
          refine va_getsN hx hb zt_11 va_S.rf hown (va_Nw.use rfl (hN.2.1 (RX1, 58) (List.mem_of_getElem? (i := 1) rfl))) (fun _ h9 => h9) dX1_bodyFor_36 ?_
          refine lv_iload_n hx hb dX1_bodyFor_39 rfl (lv_at hl 2 rfl) ?_
          refine va_ti hx hb yt_11 va_S.rf (zf_in (by decide) (by decide)) (v := .int 1) (by decide) dX1_bodyFor_40 ?_
          refine lv_istore_n (lv' := [(2, .int 1), (4, .int (-1)), (3, .int 0), (0, .int 3), (1, .int 2)]) hx hb dX1_bodyFor_41 rfl hl (by decide) rfl (fun ls hl => ?_)
          refine lv_iinc (v := 1) (lv' := [(3, .int 1), (2, .int 1), (4, .int (-1)), (0, .int 3), (1, .int 2)]) hx hb dX1_bodyFor_42 hl (k := 2) rfl (by decide) (by decide) rfl (fun ls hl => ?_)
          refine lv_goto (tgt := 4) hx hb dX1_bodyFor_45 (by decide) ?_
          refine lv_iload_n hx hb dX1_bodyFor_4 rfl (lv_at hl 0 rfl) ?_
          refine lv_bipush (v := 7) hx hb dX1_bodyFor_5 (by decide) ?_
          refine lv_icmp_ge (tgt := 48) hx hb dX1_bodyFor_7 (by decide) (fun c_12 => ?_) (fun c_12 => ?_)
          · exact absurd c_12 (by decide)
          · refine lv_iload_n hx hb dX1_bodyFor_10 rfl (lv_at hl 1 rfl) ?_
            refine lv_iconst (v := 0) hx hb dX1_bodyFor_11 (by decide) ?_
            refine lv_bipush (v := 6) hx hb dX1_bodyFor_12 (by decide) ?_
            have kc1 : (1 : Int32).toInt = 1 := by decide
            refine zc_SN (As := [.int 1, .int 0, .int 6]) (rest := []) ⟨hx, hb, hml, hown, hts⟩ (c_within l D cI cJ cZ cP cS po (1) (0) (6) ) ⟨(va_cnB 3 hts gX1_bodyFor_X7_within_n44 rfl rfl rfl (hN.1 (RX1, 44, yX7_within) (List.mem_of_getElem? (i := 13) rfl)) (hts _ (List.mem_of_getElem? (i := 2) rfl)) dh_X7_within ⟨Nat.le_of_ble_eq_true rfl, Nat.le_of_ble_eq_true rfl⟩), (hts _ (List.mem_of_getElem? (i := 1) rfl)), trivial⟩ hK hN hZ rfl hl.1 rfl (Nat.le_of_ble_eq_true rfl) dX1_bodyFor_14 ⟨Nat.le_of_ble_eq_true rfl, Nat.le_of_ble_eq_true rfl⟩ (fun r_13 hr_13 => ?_)
            rcases hr_13 with ⟨rfl, g_14⟩ | ⟨rfl, g_15, g_16⟩ | ⟨rfl, g_17, g_18⟩
            · exfalso; omega
            · exfalso; omega
            · refine lv_if_eq (tgt := 48) hx hb dX1_bodyFor_17 (by decide) (fun c_19 => ?_) (fun c_19 => ?_)
              · exact absurd c_19 (by decide)
              · refine lv_iload_n hx hb dX1_bodyFor_20 rfl (lv_at hl 1 rfl) ?_
                refine lv_iload_n hx hb dX1_bodyFor_21 rfl (lv_at hl 4 rfl) ?_
                refine zc_S (As := [.int 1, .int 2]) (rest := []) ⟨hx, hb, hml, hown, hts⟩ (c_M_own_1_2 l D cI cJ cZ cP cS po  ) (va_cwS 2 hts gX1_bodyFor_X1_ownBody rfl rfl rfl dh_X1_ownBody ⟨Nat.le_of_ble_eq_true rfl, Nat.le_of_ble_eq_true rfl⟩) hK hN hZ rfl hl.1 rfl (Nat.le_of_ble_eq_true rfl) dX1_bodyFor_22 ⟨Nat.le_of_ble_eq_true rfl, Nat.le_of_ble_eq_true rfl⟩ (fun r_20 hr_20 => ?_)
                obtain rfl := hr_20
                refine lv_istore (lv' := [(4, .int (-1)), (3, .int 1), (2, .int 1), (0, .int 3), (1, .int 2)]) hx hb dX1_bodyFor_25 hl (by decide) rfl (fun ls hl => ?_)
                refine lv_iload hx hb dX1_bodyFor_27 (lv_at hl 0 rfl) ?_
                refine lv_iconst (v := (-1)) hx hb dX1_bodyFor_29 (by decide) ?_
                refine lv_icmp_eq (tgt := 36) hx hb dX1_bodyFor_30 (by decide) (fun c_21 => ?_) (fun c_21 => ?_)
                · obtain ⟨t_22, zt_22, yt_22⟩ := hZ.1.2
                  refine va_getsN hx hb zt_22 va_S.rf hown (va_Nw.use rfl (hN.2.1 (RX1, 58) (List.mem_of_getElem? (i := 1) rfl))) (fun _ h9 => h9) dX1_bodyFor_36 ?_
                  refine lv_iload_n hx hb dX1_bodyFor_39 rfl (lv_at hl 2 rfl) ?_
                  refine va_ti hx hb yt_22 va_S.rf (zf_in (by decide) (by decide)) (v := .int 0) (by decide) dX1_bodyFor_40 ?_
                  refine lv_istore_n (lv' := [(2, .int 0), (4, .int (-1)), (3, .int 1), (0, .int 3), (1, .int 2)]) hx hb dX1_bodyFor_41 rfl hl (by decide) rfl (fun ls hl => ?_)
                  refine lv_iinc (v := 2) (lv' := [(3, .int 2), (2, .int 0), (4, .int (-1)), (0, .int 3), (1, .int 2)]) hx hb dX1_bodyFor_42 hl (k := 2) rfl (by decide) (by decide) rfl (fun ls hl => ?_)
                  refine lv_goto (tgt := 4) hx hb dX1_bodyFor_45 (by decide) ?_
                  refine lv_iload_n hx hb dX1_bodyFor_4 rfl (lv_at hl 0 rfl) ?_
                  refine lv_bipush (v := 7) hx hb dX1_bodyFor_5 (by decide) ?_
                  refine lv_icmp_ge (tgt := 48) hx hb dX1_bodyFor_7 (by decide) (fun c_23 => ?_) (fun c_23 => ?_)
                  · exact absurd c_23 (by decide)
                  · refine lv_iload_n hx hb dX1_bodyFor_10 rfl (lv_at hl 1 rfl) ?_
                    refine lv_iconst (v := 0) hx hb dX1_bodyFor_11 (by decide) ?_
                    refine lv_bipush (v := 6) hx hb dX1_bodyFor_12 (by decide) ?_
                    refine zc_SN (As := [.int 0, .int 0, .int 6]) (rest := []) ⟨hx, hb, hml, hown, hts⟩ (c_within l D cI cJ cZ cP cS po (0) (0) (6) ) ⟨(va_cnB 3 hts gX1_bodyFor_X7_within_n44 rfl rfl rfl (hN.1 (RX1, 44, yX7_within) (List.mem_of_getElem? (i := 13) rfl)) (hts _ (List.mem_of_getElem? (i := 2) rfl)) dh_X7_within ⟨Nat.le_of_ble_eq_true rfl, Nat.le_of_ble_eq_true rfl⟩), (hts _ (List.mem_of_getElem? (i := 1) rfl)), trivial⟩ hK hN hZ rfl hl.1 rfl (Nat.le_of_ble_eq_true rfl) dX1_bodyFor_14 ⟨Nat.le_of_ble_eq_true rfl, Nat.le_of_ble_eq_true rfl⟩ (fun r_24 hr_24 => ?_)
                    rcases hr_24 with ⟨rfl, g_25⟩ | ⟨rfl, g_26, g_27⟩ | ⟨rfl, g_28, g_29⟩
                    · exfalso; omega
                    · exfalso; omega
                    · refine lv_if_eq (tgt := 48) hx hb dX1_bodyFor_17 (by decide) (fun c_30 => ?_) (fun c_30 => ?_)
                      · exact absurd c_30 (by decide)
                      · refine lv_iload_n hx hb dX1_bodyFor_20 rfl (lv_at hl 1 rfl) ?_
                        refine lv_iload_n hx hb dX1_bodyFor_21 rfl (lv_at hl 4 rfl) ?_
                        refine zc_S (As := [.int 0, .int 2]) (rest := []) ⟨hx, hb, hml, hown, hts⟩ (c_M_own_0_2 l D cI cJ cZ cP cS po  ) (va_cwS 2 hts gX1_bodyFor_X1_ownBody rfl rfl rfl dh_X1_ownBody ⟨Nat.le_of_ble_eq_true rfl, Nat.le_of_ble_eq_true rfl⟩) hK hN hZ rfl hl.1 rfl (Nat.le_of_ble_eq_true rfl) dX1_bodyFor_22 ⟨Nat.le_of_ble_eq_true rfl, Nat.le_of_ble_eq_true rfl⟩ (fun r_31 hr_31 => ?_)
                        obtain rfl := hr_31
                        refine lv_istore (lv' := [(4, .int 12), (3, .int 2), (2, .int 0), (0, .int 3), (1, .int 2)]) hx hb dX1_bodyFor_25 hl (by decide) rfl (fun ls hl => ?_)
                        refine lv_iload hx hb dX1_bodyFor_27 (lv_at hl 0 rfl) ?_
                        refine lv_iconst (v := (-1)) hx hb dX1_bodyFor_29 (by decide) ?_
                        refine lv_icmp_eq (tgt := 36) hx hb dX1_bodyFor_30 (by decide) (fun c_32 => ?_) (fun c_32 => ?_)
                        · exact absurd c_32 (by decide)
                        · refine lv_iload hx hb dX1_bodyFor_33 (lv_at hl 0 rfl) ?_
                          exact W.iret (v := 12) hx hb hr (fun t ht hW => ⟨12, rfl, rfl, ht⟩) (fun q hq => by cases hq) dX1_bodyFor_35
                · exact absurd c_21 (by decide)
        · exact absurd c_10 (by decide)
set_option maxHeartbeats 4000000 in
set_option maxRecDepth 100000 in
theorem c_M_bodyFor_4_0 (l : Launch) (D : va_G) (cI cJ cZ cP cS : ClassId) (po : zPool)   : Met l yX1_bodyFor wsX1_bodyFor ({ frames := 1, cells := 0, slots := 0, locals := 22 }) (va_Pc [.int 4, .int 0] (zR D (zKT cI cJ cZ cP cS) po [])) (vp_Si (fun r => r = 51)) 0 0 (fun _ => False) := by
  refine Met.ofW (cc := cX1_bodyFor) (maxL := 5) (ret := (some .int)) (by decide) rfl ?_
  intro p e s m args below meth c s₁ B hml hv
  obtain ⟨rfl, hP, hK, hN, hZ⟩ := hv
  have hx := B.exec
  have hb := B.bytes
  have hr := B.returns
  have hts := atoms_spec (ws := wsX1_bodyFor) B.pre
  have hown : s.vm.findClass RX1 = some m.cls := findClass_of_methodNamed B.named
  have hlocks := B.notSynchronized
  have hl := lv_entry ([.int 4, .int 0]) (n := 5) (Nat.le_of_ble_eq_true rfl)
  rw [lg_entry_eq]
  generalize (lg_sl ([.int 4, .int 0]) ++ List.replicate (5 - (lg_sl ([.int 4, .int 0])).length) Slot.unset).toArray = ls at hl ⊢
  replace hl : lv_has ls 5 [(0, .int 4), (1, .int 0)] := hl
  refine lv_iload_n hx hb dX1_bodyFor_0 rfl (lv_at hl 0 rfl) ?_
  refine lv_istore_n (lv' := [(2, .int 4), (0, .int 4), (1, .int 0)]) hx hb dX1_bodyFor_1 rfl hl (by decide) rfl (fun ls hl => ?_)
  refine lv_iconst (v := 0) hx hb dX1_bodyFor_2 (by decide) ?_
  refine lv_istore_n (lv' := [(3, .int 0), (2, .int 4), (0, .int 4), (1, .int 0)]) hx hb dX1_bodyFor_3 rfl hl (by decide) rfl (fun ls hl => ?_)
  refine lv_iload_n hx hb dX1_bodyFor_4 rfl (lv_at hl 0 rfl) ?_
  refine lv_bipush (v := 7) hx hb dX1_bodyFor_5 (by decide) ?_
  refine lv_icmp_ge (tgt := 48) hx hb dX1_bodyFor_7 (by decide) (fun c_1 => ?_) (fun c_1 => ?_)
  · exact absurd c_1 (by decide)
  · refine lv_iload_n hx hb dX1_bodyFor_10 rfl (lv_at hl 1 rfl) ?_
    refine lv_iconst (v := 0) hx hb dX1_bodyFor_11 (by decide) ?_
    refine lv_bipush (v := 6) hx hb dX1_bodyFor_12 (by decide) ?_
    have kc4 : (4 : Int32).toInt = 4 := by decide
    have kc0 : (0 : Int32).toInt = 0 := by decide
    have kc6 : (6 : Int32).toInt = 6 := by decide
    refine zc_SN (As := [.int 4, .int 0, .int 6]) (rest := []) ⟨hx, hb, hml, hown, hts⟩ (c_within l D cI cJ cZ cP cS po (4) (0) (6) ) ⟨(va_cnB 3 hts gX1_bodyFor_X7_within_n44 rfl rfl rfl (hN.1 (RX1, 44, yX7_within) (List.mem_of_getElem? (i := 13) rfl)) (hts _ (List.mem_of_getElem? (i := 2) rfl)) dh_X7_within ⟨Nat.le_of_ble_eq_true rfl, Nat.le_of_ble_eq_true rfl⟩), (hts _ (List.mem_of_getElem? (i := 1) rfl)), trivial⟩ hK hN hZ rfl hl.1 rfl (Nat.le_of_ble_eq_true rfl) dX1_bodyFor_14 ⟨Nat.le_of_ble_eq_true rfl, Nat.le_of_ble_eq_true rfl⟩ (fun r_2 hr_2 => ?_)
    rcases hr_2 with ⟨rfl, g_3⟩ | ⟨rfl, g_4, g_5⟩ | ⟨rfl, g_6, g_7⟩
    · exfalso; omega
    · exfalso; omega
    · refine lv_if_eq (tgt := 48) hx hb dX1_bodyFor_17 (by decide) (fun c_8 => ?_) (fun c_8 => ?_)
      · exact absurd c_8 (by decide)
      · refine lv_iload_n hx hb dX1_bodyFor_20 rfl (lv_at hl 1 rfl) ?_
        refine lv_iload_n hx hb dX1_bodyFor_21 rfl (lv_at hl 3 rfl) ?_
        refine zc_S (As := [.int 4, .int 0]) (rest := []) ⟨hx, hb, hml, hown, hts⟩ (c_M_own_4_0 l D cI cJ cZ cP cS po  ) (va_cwS 2 hts gX1_bodyFor_X1_ownBody rfl rfl rfl dh_X1_ownBody ⟨Nat.le_of_ble_eq_true rfl, Nat.le_of_ble_eq_true rfl⟩) hK hN hZ rfl hl.1 rfl (Nat.le_of_ble_eq_true rfl) dX1_bodyFor_22 ⟨Nat.le_of_ble_eq_true rfl, Nat.le_of_ble_eq_true rfl⟩ (fun r_9 hr_9 => ?_)
        obtain rfl := hr_9
        refine lv_istore (lv' := [(4, .int 51), (3, .int 0), (2, .int 4), (0, .int 4), (1, .int 0)]) hx hb dX1_bodyFor_25 hl (by decide) rfl (fun ls hl => ?_)
        refine lv_iload hx hb dX1_bodyFor_27 (lv_at hl 0 rfl) ?_
        refine lv_iconst (v := (-1)) hx hb dX1_bodyFor_29 (by decide) ?_
        refine lv_icmp_eq (tgt := 36) hx hb dX1_bodyFor_30 (by decide) (fun c_10 => ?_) (fun c_10 => ?_)
        · exact absurd c_10 (by decide)
        · refine lv_iload hx hb dX1_bodyFor_33 (lv_at hl 0 rfl) ?_
          exact W.iret (v := 51) hx hb hr (fun t ht hW => ⟨51, rfl, rfl, ht⟩) (fun q hq => by cases hq) dX1_bodyFor_35
set_option maxHeartbeats 4000000 in
set_option maxRecDepth 100000 in
theorem c_M_bodyFor_4_1 (l : Launch) (D : va_G) (cI cJ cZ cP cS : ClassId) (po : zPool)   : Met l yX1_bodyFor wsX1_bodyFor ({ frames := 1, cells := 0, slots := 0, locals := 22 }) (va_Pc [.int 4, .int 1] (zR D (zKT cI cJ cZ cP cS) po [])) (vp_Si (fun r => r = 11)) 0 0 (fun _ => False) := by
  refine Met.ofW (cc := cX1_bodyFor) (maxL := 5) (ret := (some .int)) (by decide) rfl ?_
  intro p e s m args below meth c s₁ B hml hv
  obtain ⟨rfl, hP, hK, hN, hZ⟩ := hv
  have hx := B.exec
  have hb := B.bytes
  have hr := B.returns
  have hts := atoms_spec (ws := wsX1_bodyFor) B.pre
  have hown : s.vm.findClass RX1 = some m.cls := findClass_of_methodNamed B.named
  have hlocks := B.notSynchronized
  have hl := lv_entry ([.int 4, .int 1]) (n := 5) (Nat.le_of_ble_eq_true rfl)
  rw [lg_entry_eq]
  generalize (lg_sl ([.int 4, .int 1]) ++ List.replicate (5 - (lg_sl ([.int 4, .int 1])).length) Slot.unset).toArray = ls at hl ⊢
  replace hl : lv_has ls 5 [(0, .int 4), (1, .int 1)] := hl
  refine lv_iload_n hx hb dX1_bodyFor_0 rfl (lv_at hl 0 rfl) ?_
  refine lv_istore_n (lv' := [(2, .int 4), (0, .int 4), (1, .int 1)]) hx hb dX1_bodyFor_1 rfl hl (by decide) rfl (fun ls hl => ?_)
  refine lv_iconst (v := 0) hx hb dX1_bodyFor_2 (by decide) ?_
  refine lv_istore_n (lv' := [(3, .int 0), (2, .int 4), (0, .int 4), (1, .int 1)]) hx hb dX1_bodyFor_3 rfl hl (by decide) rfl (fun ls hl => ?_)
  refine lv_iload_n hx hb dX1_bodyFor_4 rfl (lv_at hl 0 rfl) ?_
  refine lv_bipush (v := 7) hx hb dX1_bodyFor_5 (by decide) ?_
  refine lv_icmp_ge (tgt := 48) hx hb dX1_bodyFor_7 (by decide) (fun c_1 => ?_) (fun c_1 => ?_)
  · exact absurd c_1 (by decide)
  · refine lv_iload_n hx hb dX1_bodyFor_10 rfl (lv_at hl 1 rfl) ?_
    refine lv_iconst (v := 0) hx hb dX1_bodyFor_11 (by decide) ?_
    refine lv_bipush (v := 6) hx hb dX1_bodyFor_12 (by decide) ?_
    have kc4 : (4 : Int32).toInt = 4 := by decide
    have kc0 : (0 : Int32).toInt = 0 := by decide
    have kc6 : (6 : Int32).toInt = 6 := by decide
    refine zc_SN (As := [.int 4, .int 0, .int 6]) (rest := []) ⟨hx, hb, hml, hown, hts⟩ (c_within l D cI cJ cZ cP cS po (4) (0) (6) ) ⟨(va_cnB 3 hts gX1_bodyFor_X7_within_n44 rfl rfl rfl (hN.1 (RX1, 44, yX7_within) (List.mem_of_getElem? (i := 13) rfl)) (hts _ (List.mem_of_getElem? (i := 2) rfl)) dh_X7_within ⟨Nat.le_of_ble_eq_true rfl, Nat.le_of_ble_eq_true rfl⟩), (hts _ (List.mem_of_getElem? (i := 1) rfl)), trivial⟩ hK hN hZ rfl hl.1 rfl (Nat.le_of_ble_eq_true rfl) dX1_bodyFor_14 ⟨Nat.le_of_ble_eq_true rfl, Nat.le_of_ble_eq_true rfl⟩ (fun r_2 hr_2 => ?_)
    rcases hr_2 with ⟨rfl, g_3⟩ | ⟨rfl, g_4, g_5⟩ | ⟨rfl, g_6, g_7⟩
    · exfalso; omega
    · exfalso; omega
    · refine lv_if_eq (tgt := 48) hx hb dX1_bodyFor_17 (by decide) (fun c_8 => ?_) (fun c_8 => ?_)
      · exact absurd c_8 (by decide)
      · refine lv_iload_n hx hb dX1_bodyFor_20 rfl (lv_at hl 1 rfl) ?_
        refine lv_iload_n hx hb dX1_bodyFor_21 rfl (lv_at hl 3 rfl) ?_
        refine zc_S (As := [.int 4, .int 1]) (rest := []) ⟨hx, hb, hml, hown, hts⟩ (c_M_own_4_1 l D cI cJ cZ cP cS po  ) (va_cwS 2 hts gX1_bodyFor_X1_ownBody rfl rfl rfl dh_X1_ownBody ⟨Nat.le_of_ble_eq_true rfl, Nat.le_of_ble_eq_true rfl⟩) hK hN hZ rfl hl.1 rfl (Nat.le_of_ble_eq_true rfl) dX1_bodyFor_22 ⟨Nat.le_of_ble_eq_true rfl, Nat.le_of_ble_eq_true rfl⟩ (fun r_9 hr_9 => ?_)
        obtain rfl := hr_9
        refine lv_istore (lv' := [(4, .int (-1)), (3, .int 0), (2, .int 4), (0, .int 4), (1, .int 1)]) hx hb dX1_bodyFor_25 hl (by decide) rfl (fun ls hl => ?_)
        refine lv_iload hx hb dX1_bodyFor_27 (lv_at hl 0 rfl) ?_
        refine lv_iconst (v := (-1)) hx hb dX1_bodyFor_29 (by decide) ?_
        refine lv_icmp_eq (tgt := 36) hx hb dX1_bodyFor_30 (by decide) (fun c_10 => ?_) (fun c_10 => ?_)
        · obtain ⟨t_11, zt_11, yt_11⟩ := hZ.1.2
          refine va_getsN hx hb zt_11 va_S.rf hown (va_Nw.use rfl (hN.2.1 (RX1, 58) (List.mem_of_getElem? (i := 1) rfl))) (fun _ h9 => h9) dX1_bodyFor_36 ?_
          refine lv_iload_n hx hb dX1_bodyFor_39 rfl (lv_at hl 2 rfl) ?_
          refine va_ti hx hb yt_11 va_S.rf (zf_in (by decide) (by decide)) (v := .int 0) (by decide) dX1_bodyFor_40 ?_
          refine lv_istore_n (lv' := [(2, .int 0), (4, .int (-1)), (3, .int 0), (0, .int 4), (1, .int 1)]) hx hb dX1_bodyFor_41 rfl hl (by decide) rfl (fun ls hl => ?_)
          refine lv_iinc (v := 1) (lv' := [(3, .int 1), (2, .int 0), (4, .int (-1)), (0, .int 4), (1, .int 1)]) hx hb dX1_bodyFor_42 hl (k := 2) rfl (by decide) (by decide) rfl (fun ls hl => ?_)
          refine lv_goto (tgt := 4) hx hb dX1_bodyFor_45 (by decide) ?_
          refine lv_iload_n hx hb dX1_bodyFor_4 rfl (lv_at hl 0 rfl) ?_
          refine lv_bipush (v := 7) hx hb dX1_bodyFor_5 (by decide) ?_
          refine lv_icmp_ge (tgt := 48) hx hb dX1_bodyFor_7 (by decide) (fun c_12 => ?_) (fun c_12 => ?_)
          · exact absurd c_12 (by decide)
          · refine lv_iload_n hx hb dX1_bodyFor_10 rfl (lv_at hl 1 rfl) ?_
            refine lv_iconst (v := 0) hx hb dX1_bodyFor_11 (by decide) ?_
            refine lv_bipush (v := 6) hx hb dX1_bodyFor_12 (by decide) ?_
            refine zc_SN (As := [.int 0, .int 0, .int 6]) (rest := []) ⟨hx, hb, hml, hown, hts⟩ (c_within l D cI cJ cZ cP cS po (0) (0) (6) ) ⟨(va_cnB 3 hts gX1_bodyFor_X7_within_n44 rfl rfl rfl (hN.1 (RX1, 44, yX7_within) (List.mem_of_getElem? (i := 13) rfl)) (hts _ (List.mem_of_getElem? (i := 2) rfl)) dh_X7_within ⟨Nat.le_of_ble_eq_true rfl, Nat.le_of_ble_eq_true rfl⟩), (hts _ (List.mem_of_getElem? (i := 1) rfl)), trivial⟩ hK hN hZ rfl hl.1 rfl (Nat.le_of_ble_eq_true rfl) dX1_bodyFor_14 ⟨Nat.le_of_ble_eq_true rfl, Nat.le_of_ble_eq_true rfl⟩ (fun r_13 hr_13 => ?_)
            rcases hr_13 with ⟨rfl, g_14⟩ | ⟨rfl, g_15, g_16⟩ | ⟨rfl, g_17, g_18⟩
            · exfalso; omega
            · exfalso; omega
            · refine lv_if_eq (tgt := 48) hx hb dX1_bodyFor_17 (by decide) (fun c_19 => ?_) (fun c_19 => ?_)
              · exact absurd c_19 (by decide)
              · refine lv_iload_n hx hb dX1_bodyFor_20 rfl (lv_at hl 1 rfl) ?_
                refine lv_iload_n hx hb dX1_bodyFor_21 rfl (lv_at hl 4 rfl) ?_
                refine zc_S (As := [.int 0, .int 1]) (rest := []) ⟨hx, hb, hml, hown, hts⟩ (c_M_own_0_1 l D cI cJ cZ cP cS po  ) (va_cwS 2 hts gX1_bodyFor_X1_ownBody rfl rfl rfl dh_X1_ownBody ⟨Nat.le_of_ble_eq_true rfl, Nat.le_of_ble_eq_true rfl⟩) hK hN hZ rfl hl.1 rfl (Nat.le_of_ble_eq_true rfl) dX1_bodyFor_22 ⟨Nat.le_of_ble_eq_true rfl, Nat.le_of_ble_eq_true rfl⟩ (fun r_20 hr_20 => ?_)
                obtain rfl := hr_20
                refine lv_istore (lv' := [(4, .int 11), (3, .int 1), (2, .int 0), (0, .int 4), (1, .int 1)]) hx hb dX1_bodyFor_25 hl (by decide) rfl (fun ls hl => ?_)
                refine lv_iload hx hb dX1_bodyFor_27 (lv_at hl 0 rfl) ?_
                refine lv_iconst (v := (-1)) hx hb dX1_bodyFor_29 (by decide) ?_
                refine lv_icmp_eq (tgt := 36) hx hb dX1_bodyFor_30 (by decide) (fun c_21 => ?_) (fun c_21 => ?_)
                · exact absurd c_21 (by decide)
                · refine lv_iload hx hb dX1_bodyFor_33 (lv_at hl 0 rfl) ?_
                  exact W.iret (v := 11) hx hb hr (fun t ht hW => ⟨11, rfl, rfl, ht⟩) (fun q hq => by cases hq) dX1_bodyFor_35
        · exact absurd c_10 (by decide)
set_option maxHeartbeats 4000000 in
set_option maxRecDepth 100000 in
theorem c_M_bodyFor_4_2 (l : Launch) (D : va_G) (cI cJ cZ cP cS : ClassId) (po : zPool)   : Met l yX1_bodyFor wsX1_bodyFor ({ frames := 1, cells := 0, slots := 0, locals := 22 }) (va_Pc [.int 4, .int 2] (zR D (zKT cI cJ cZ cP cS) po [])) (vp_Si (fun r => r = 50)) 0 0 (fun _ => False) := by
  refine Met.ofW (cc := cX1_bodyFor) (maxL := 5) (ret := (some .int)) (by decide) rfl ?_
  intro p e s m args below meth c s₁ B hml hv
  obtain ⟨rfl, hP, hK, hN, hZ⟩ := hv
  have hx := B.exec
  have hb := B.bytes
  have hr := B.returns
  have hts := atoms_spec (ws := wsX1_bodyFor) B.pre
  have hown : s.vm.findClass RX1 = some m.cls := findClass_of_methodNamed B.named
  have hlocks := B.notSynchronized
  have hl := lv_entry ([.int 4, .int 2]) (n := 5) (Nat.le_of_ble_eq_true rfl)
  rw [lg_entry_eq]
  generalize (lg_sl ([.int 4, .int 2]) ++ List.replicate (5 - (lg_sl ([.int 4, .int 2])).length) Slot.unset).toArray = ls at hl ⊢
  replace hl : lv_has ls 5 [(0, .int 4), (1, .int 2)] := hl
  refine lv_iload_n hx hb dX1_bodyFor_0 rfl (lv_at hl 0 rfl) ?_
  refine lv_istore_n (lv' := [(2, .int 4), (0, .int 4), (1, .int 2)]) hx hb dX1_bodyFor_1 rfl hl (by decide) rfl (fun ls hl => ?_)
  refine lv_iconst (v := 0) hx hb dX1_bodyFor_2 (by decide) ?_
  refine lv_istore_n (lv' := [(3, .int 0), (2, .int 4), (0, .int 4), (1, .int 2)]) hx hb dX1_bodyFor_3 rfl hl (by decide) rfl (fun ls hl => ?_)
  refine lv_iload_n hx hb dX1_bodyFor_4 rfl (lv_at hl 0 rfl) ?_
  refine lv_bipush (v := 7) hx hb dX1_bodyFor_5 (by decide) ?_
  refine lv_icmp_ge (tgt := 48) hx hb dX1_bodyFor_7 (by decide) (fun c_1 => ?_) (fun c_1 => ?_)
  · exact absurd c_1 (by decide)
  · refine lv_iload_n hx hb dX1_bodyFor_10 rfl (lv_at hl 1 rfl) ?_
    refine lv_iconst (v := 0) hx hb dX1_bodyFor_11 (by decide) ?_
    refine lv_bipush (v := 6) hx hb dX1_bodyFor_12 (by decide) ?_
    have kc4 : (4 : Int32).toInt = 4 := by decide
    have kc0 : (0 : Int32).toInt = 0 := by decide
    have kc6 : (6 : Int32).toInt = 6 := by decide
    refine zc_SN (As := [.int 4, .int 0, .int 6]) (rest := []) ⟨hx, hb, hml, hown, hts⟩ (c_within l D cI cJ cZ cP cS po (4) (0) (6) ) ⟨(va_cnB 3 hts gX1_bodyFor_X7_within_n44 rfl rfl rfl (hN.1 (RX1, 44, yX7_within) (List.mem_of_getElem? (i := 13) rfl)) (hts _ (List.mem_of_getElem? (i := 2) rfl)) dh_X7_within ⟨Nat.le_of_ble_eq_true rfl, Nat.le_of_ble_eq_true rfl⟩), (hts _ (List.mem_of_getElem? (i := 1) rfl)), trivial⟩ hK hN hZ rfl hl.1 rfl (Nat.le_of_ble_eq_true rfl) dX1_bodyFor_14 ⟨Nat.le_of_ble_eq_true rfl, Nat.le_of_ble_eq_true rfl⟩ (fun r_2 hr_2 => ?_)
    rcases hr_2 with ⟨rfl, g_3⟩ | ⟨rfl, g_4, g_5⟩ | ⟨rfl, g_6, g_7⟩
    · exfalso; omega
    · exfalso; omega
    · refine lv_if_eq (tgt := 48) hx hb dX1_bodyFor_17 (by decide) (fun c_8 => ?_) (fun c_8 => ?_)
      · exact absurd c_8 (by decide)
      · refine lv_iload_n hx hb dX1_bodyFor_20 rfl (lv_at hl 1 rfl) ?_
        refine lv_iload_n hx hb dX1_bodyFor_21 rfl (lv_at hl 3 rfl) ?_
        refine zc_S (As := [.int 4, .int 2]) (rest := []) ⟨hx, hb, hml, hown, hts⟩ (c_M_own_4_2 l D cI cJ cZ cP cS po  ) (va_cwS 2 hts gX1_bodyFor_X1_ownBody rfl rfl rfl dh_X1_ownBody ⟨Nat.le_of_ble_eq_true rfl, Nat.le_of_ble_eq_true rfl⟩) hK hN hZ rfl hl.1 rfl (Nat.le_of_ble_eq_true rfl) dX1_bodyFor_22 ⟨Nat.le_of_ble_eq_true rfl, Nat.le_of_ble_eq_true rfl⟩ (fun r_9 hr_9 => ?_)
        obtain rfl := hr_9
        refine lv_istore (lv' := [(4, .int 50), (3, .int 0), (2, .int 4), (0, .int 4), (1, .int 2)]) hx hb dX1_bodyFor_25 hl (by decide) rfl (fun ls hl => ?_)
        refine lv_iload hx hb dX1_bodyFor_27 (lv_at hl 0 rfl) ?_
        refine lv_iconst (v := (-1)) hx hb dX1_bodyFor_29 (by decide) ?_
        refine lv_icmp_eq (tgt := 36) hx hb dX1_bodyFor_30 (by decide) (fun c_10 => ?_) (fun c_10 => ?_)
        · exact absurd c_10 (by decide)
        · refine lv_iload hx hb dX1_bodyFor_33 (lv_at hl 0 rfl) ?_
          exact W.iret (v := 50) hx hb hr (fun t ht hW => ⟨50, rfl, rfl, ht⟩) (fun q hq => by cases hq) dX1_bodyFor_35
set_option maxHeartbeats 4000000 in
set_option maxRecDepth 100000 in
theorem c_M_bodyFor_5_0 (l : Launch) (D : va_G) (cI cJ cZ cP cS : ClassId) (po : zPool)   : Met l yX1_bodyFor wsX1_bodyFor ({ frames := 1, cells := 0, slots := 0, locals := 22 }) (va_Pc [.int 5, .int 0] (zR D (zKT cI cJ cZ cP cS) po [])) (vp_Si (fun r => r = 10)) 0 0 (fun _ => False) := by
  refine Met.ofW (cc := cX1_bodyFor) (maxL := 5) (ret := (some .int)) (by decide) rfl ?_
  intro p e s m args below meth c s₁ B hml hv
  obtain ⟨rfl, hP, hK, hN, hZ⟩ := hv
  have hx := B.exec
  have hb := B.bytes
  have hr := B.returns
  have hts := atoms_spec (ws := wsX1_bodyFor) B.pre
  have hown : s.vm.findClass RX1 = some m.cls := findClass_of_methodNamed B.named
  have hlocks := B.notSynchronized
  have hl := lv_entry ([.int 5, .int 0]) (n := 5) (Nat.le_of_ble_eq_true rfl)
  rw [lg_entry_eq]
  generalize (lg_sl ([.int 5, .int 0]) ++ List.replicate (5 - (lg_sl ([.int 5, .int 0])).length) Slot.unset).toArray = ls at hl ⊢
  replace hl : lv_has ls 5 [(0, .int 5), (1, .int 0)] := hl
  refine lv_iload_n hx hb dX1_bodyFor_0 rfl (lv_at hl 0 rfl) ?_
  refine lv_istore_n (lv' := [(2, .int 5), (0, .int 5), (1, .int 0)]) hx hb dX1_bodyFor_1 rfl hl (by decide) rfl (fun ls hl => ?_)
  refine lv_iconst (v := 0) hx hb dX1_bodyFor_2 (by decide) ?_
  refine lv_istore_n (lv' := [(3, .int 0), (2, .int 5), (0, .int 5), (1, .int 0)]) hx hb dX1_bodyFor_3 rfl hl (by decide) rfl (fun ls hl => ?_)
  refine lv_iload_n hx hb dX1_bodyFor_4 rfl (lv_at hl 0 rfl) ?_
  refine lv_bipush (v := 7) hx hb dX1_bodyFor_5 (by decide) ?_
  refine lv_icmp_ge (tgt := 48) hx hb dX1_bodyFor_7 (by decide) (fun c_1 => ?_) (fun c_1 => ?_)
  · exact absurd c_1 (by decide)
  · refine lv_iload_n hx hb dX1_bodyFor_10 rfl (lv_at hl 1 rfl) ?_
    refine lv_iconst (v := 0) hx hb dX1_bodyFor_11 (by decide) ?_
    refine lv_bipush (v := 6) hx hb dX1_bodyFor_12 (by decide) ?_
    have kc5 : (5 : Int32).toInt = 5 := by decide
    have kc0 : (0 : Int32).toInt = 0 := by decide
    have kc6 : (6 : Int32).toInt = 6 := by decide
    refine zc_SN (As := [.int 5, .int 0, .int 6]) (rest := []) ⟨hx, hb, hml, hown, hts⟩ (c_within l D cI cJ cZ cP cS po (5) (0) (6) ) ⟨(va_cnB 3 hts gX1_bodyFor_X7_within_n44 rfl rfl rfl (hN.1 (RX1, 44, yX7_within) (List.mem_of_getElem? (i := 13) rfl)) (hts _ (List.mem_of_getElem? (i := 2) rfl)) dh_X7_within ⟨Nat.le_of_ble_eq_true rfl, Nat.le_of_ble_eq_true rfl⟩), (hts _ (List.mem_of_getElem? (i := 1) rfl)), trivial⟩ hK hN hZ rfl hl.1 rfl (Nat.le_of_ble_eq_true rfl) dX1_bodyFor_14 ⟨Nat.le_of_ble_eq_true rfl, Nat.le_of_ble_eq_true rfl⟩ (fun r_2 hr_2 => ?_)
    rcases hr_2 with ⟨rfl, g_3⟩ | ⟨rfl, g_4, g_5⟩ | ⟨rfl, g_6, g_7⟩
    · exfalso; omega
    · exfalso; omega
    · refine lv_if_eq (tgt := 48) hx hb dX1_bodyFor_17 (by decide) (fun c_8 => ?_) (fun c_8 => ?_)
      · exact absurd c_8 (by decide)
      · refine lv_iload_n hx hb dX1_bodyFor_20 rfl (lv_at hl 1 rfl) ?_
        refine lv_iload_n hx hb dX1_bodyFor_21 rfl (lv_at hl 3 rfl) ?_
        refine zc_S (As := [.int 5, .int 0]) (rest := []) ⟨hx, hb, hml, hown, hts⟩ (c_M_own_5_0 l D cI cJ cZ cP cS po  ) (va_cwS 2 hts gX1_bodyFor_X1_ownBody rfl rfl rfl dh_X1_ownBody ⟨Nat.le_of_ble_eq_true rfl, Nat.le_of_ble_eq_true rfl⟩) hK hN hZ rfl hl.1 rfl (Nat.le_of_ble_eq_true rfl) dX1_bodyFor_22 ⟨Nat.le_of_ble_eq_true rfl, Nat.le_of_ble_eq_true rfl⟩ (fun r_9 hr_9 => ?_)
        obtain rfl := hr_9
        refine lv_istore (lv' := [(4, .int (-1)), (3, .int 0), (2, .int 5), (0, .int 5), (1, .int 0)]) hx hb dX1_bodyFor_25 hl (by decide) rfl (fun ls hl => ?_)
        refine lv_iload hx hb dX1_bodyFor_27 (lv_at hl 0 rfl) ?_
        refine lv_iconst (v := (-1)) hx hb dX1_bodyFor_29 (by decide) ?_
        refine lv_icmp_eq (tgt := 36) hx hb dX1_bodyFor_30 (by decide) (fun c_10 => ?_) (fun c_10 => ?_)
        · obtain ⟨t_11, zt_11, yt_11⟩ := hZ.1.2
          refine va_getsN hx hb zt_11 va_S.rf hown (va_Nw.use rfl (hN.2.1 (RX1, 58) (List.mem_of_getElem? (i := 1) rfl))) (fun _ h9 => h9) dX1_bodyFor_36 ?_
          refine lv_iload_n hx hb dX1_bodyFor_39 rfl (lv_at hl 2 rfl) ?_
          refine va_ti hx hb yt_11 va_S.rf (zf_in (by decide) (by decide)) (v := .int 2) (by decide) dX1_bodyFor_40 ?_
          refine lv_istore_n (lv' := [(2, .int 2), (4, .int (-1)), (3, .int 0), (0, .int 5), (1, .int 0)]) hx hb dX1_bodyFor_41 rfl hl (by decide) rfl (fun ls hl => ?_)
          refine lv_iinc (v := 1) (lv' := [(3, .int 1), (2, .int 2), (4, .int (-1)), (0, .int 5), (1, .int 0)]) hx hb dX1_bodyFor_42 hl (k := 2) rfl (by decide) (by decide) rfl (fun ls hl => ?_)
          refine lv_goto (tgt := 4) hx hb dX1_bodyFor_45 (by decide) ?_
          refine lv_iload_n hx hb dX1_bodyFor_4 rfl (lv_at hl 0 rfl) ?_
          refine lv_bipush (v := 7) hx hb dX1_bodyFor_5 (by decide) ?_
          refine lv_icmp_ge (tgt := 48) hx hb dX1_bodyFor_7 (by decide) (fun c_12 => ?_) (fun c_12 => ?_)
          · exact absurd c_12 (by decide)
          · refine lv_iload_n hx hb dX1_bodyFor_10 rfl (lv_at hl 1 rfl) ?_
            refine lv_iconst (v := 0) hx hb dX1_bodyFor_11 (by decide) ?_
            refine lv_bipush (v := 6) hx hb dX1_bodyFor_12 (by decide) ?_
            have kc2 : (2 : Int32).toInt = 2 := by decide
            refine zc_SN (As := [.int 2, .int 0, .int 6]) (rest := []) ⟨hx, hb, hml, hown, hts⟩ (c_within l D cI cJ cZ cP cS po (2) (0) (6) ) ⟨(va_cnB 3 hts gX1_bodyFor_X7_within_n44 rfl rfl rfl (hN.1 (RX1, 44, yX7_within) (List.mem_of_getElem? (i := 13) rfl)) (hts _ (List.mem_of_getElem? (i := 2) rfl)) dh_X7_within ⟨Nat.le_of_ble_eq_true rfl, Nat.le_of_ble_eq_true rfl⟩), (hts _ (List.mem_of_getElem? (i := 1) rfl)), trivial⟩ hK hN hZ rfl hl.1 rfl (Nat.le_of_ble_eq_true rfl) dX1_bodyFor_14 ⟨Nat.le_of_ble_eq_true rfl, Nat.le_of_ble_eq_true rfl⟩ (fun r_13 hr_13 => ?_)
            rcases hr_13 with ⟨rfl, g_14⟩ | ⟨rfl, g_15, g_16⟩ | ⟨rfl, g_17, g_18⟩
            · exfalso; omega
            · exfalso; omega
            · refine lv_if_eq (tgt := 48) hx hb dX1_bodyFor_17 (by decide) (fun c_19 => ?_) (fun c_19 => ?_)
              · exact absurd c_19 (by decide)
              · refine lv_iload_n hx hb dX1_bodyFor_20 rfl (lv_at hl 1 rfl) ?_
                refine lv_iload_n hx hb dX1_bodyFor_21 rfl (lv_at hl 4 rfl) ?_
                refine zc_S (As := [.int 2, .int 0]) (rest := []) ⟨hx, hb, hml, hown, hts⟩ (c_M_own_2_0 l D cI cJ cZ cP cS po  ) (va_cwS 2 hts gX1_bodyFor_X1_ownBody rfl rfl rfl dh_X1_ownBody ⟨Nat.le_of_ble_eq_true rfl, Nat.le_of_ble_eq_true rfl⟩) hK hN hZ rfl hl.1 rfl (Nat.le_of_ble_eq_true rfl) dX1_bodyFor_22 ⟨Nat.le_of_ble_eq_true rfl, Nat.le_of_ble_eq_true rfl⟩ (fun r_20 hr_20 => ?_)
                obtain rfl := hr_20
                refine lv_istore (lv' := [(4, .int (-1)), (3, .int 1), (2, .int 2), (0, .int 5), (1, .int 0)]) hx hb dX1_bodyFor_25 hl (by decide) rfl (fun ls hl => ?_)
                refine lv_iload hx hb dX1_bodyFor_27 (lv_at hl 0 rfl) ?_
                refine lv_iconst (v := (-1)) hx hb dX1_bodyFor_29 (by decide) ?_
                refine lv_icmp_eq (tgt := 36) hx hb dX1_bodyFor_30 (by decide) (fun c_21 => ?_) (fun c_21 => ?_)
                · obtain ⟨t_22, zt_22, yt_22⟩ := hZ.1.2
                  refine va_getsN hx hb zt_22 va_S.rf hown (va_Nw.use rfl (hN.2.1 (RX1, 58) (List.mem_of_getElem? (i := 1) rfl))) (fun _ h9 => h9) dX1_bodyFor_36 ?_
                  refine lv_iload_n hx hb dX1_bodyFor_39 rfl (lv_at hl 2 rfl) ?_
                  refine va_ti hx hb yt_22 va_S.rf (zf_in (by decide) (by decide)) (v := .int 0) (by decide) dX1_bodyFor_40 ?_
                  refine lv_istore_n (lv' := [(2, .int 0), (4, .int (-1)), (3, .int 1), (0, .int 5), (1, .int 0)]) hx hb dX1_bodyFor_41 rfl hl (by decide) rfl (fun ls hl => ?_)
                  refine lv_iinc (v := 2) (lv' := [(3, .int 2), (2, .int 0), (4, .int (-1)), (0, .int 5), (1, .int 0)]) hx hb dX1_bodyFor_42 hl (k := 2) rfl (by decide) (by decide) rfl (fun ls hl => ?_)
                  refine lv_goto (tgt := 4) hx hb dX1_bodyFor_45 (by decide) ?_
                  refine lv_iload_n hx hb dX1_bodyFor_4 rfl (lv_at hl 0 rfl) ?_
                  refine lv_bipush (v := 7) hx hb dX1_bodyFor_5 (by decide) ?_
                  refine lv_icmp_ge (tgt := 48) hx hb dX1_bodyFor_7 (by decide) (fun c_23 => ?_) (fun c_23 => ?_)
                  · exact absurd c_23 (by decide)
                  · refine lv_iload_n hx hb dX1_bodyFor_10 rfl (lv_at hl 1 rfl) ?_
                    refine lv_iconst (v := 0) hx hb dX1_bodyFor_11 (by decide) ?_
                    refine lv_bipush (v := 6) hx hb dX1_bodyFor_12 (by decide) ?_
                    refine zc_SN (As := [.int 0, .int 0, .int 6]) (rest := []) ⟨hx, hb, hml, hown, hts⟩ (c_within l D cI cJ cZ cP cS po (0) (0) (6) ) ⟨(va_cnB 3 hts gX1_bodyFor_X7_within_n44 rfl rfl rfl (hN.1 (RX1, 44, yX7_within) (List.mem_of_getElem? (i := 13) rfl)) (hts _ (List.mem_of_getElem? (i := 2) rfl)) dh_X7_within ⟨Nat.le_of_ble_eq_true rfl, Nat.le_of_ble_eq_true rfl⟩), (hts _ (List.mem_of_getElem? (i := 1) rfl)), trivial⟩ hK hN hZ rfl hl.1 rfl (Nat.le_of_ble_eq_true rfl) dX1_bodyFor_14 ⟨Nat.le_of_ble_eq_true rfl, Nat.le_of_ble_eq_true rfl⟩ (fun r_24 hr_24 => ?_)
                    rcases hr_24 with ⟨rfl, g_25⟩ | ⟨rfl, g_26, g_27⟩ | ⟨rfl, g_28, g_29⟩
                    · exfalso; omega
                    · exfalso; omega
                    · refine lv_if_eq (tgt := 48) hx hb dX1_bodyFor_17 (by decide) (fun c_30 => ?_) (fun c_30 => ?_)
                      · exact absurd c_30 (by decide)
                      · refine lv_iload_n hx hb dX1_bodyFor_20 rfl (lv_at hl 1 rfl) ?_
                        refine lv_iload_n hx hb dX1_bodyFor_21 rfl (lv_at hl 4 rfl) ?_
                        refine zc_S (As := [.int 0, .int 0]) (rest := []) ⟨hx, hb, hml, hown, hts⟩ (c_M_own_0_0 l D cI cJ cZ cP cS po  ) (va_cwS 2 hts gX1_bodyFor_X1_ownBody rfl rfl rfl dh_X1_ownBody ⟨Nat.le_of_ble_eq_true rfl, Nat.le_of_ble_eq_true rfl⟩) hK hN hZ rfl hl.1 rfl (Nat.le_of_ble_eq_true rfl) dX1_bodyFor_22 ⟨Nat.le_of_ble_eq_true rfl, Nat.le_of_ble_eq_true rfl⟩ (fun r_31 hr_31 => ?_)
                        obtain rfl := hr_31
                        refine lv_istore (lv' := [(4, .int 10), (3, .int 2), (2, .int 0), (0, .int 5), (1, .int 0)]) hx hb dX1_bodyFor_25 hl (by decide) rfl (fun ls hl => ?_)
                        refine lv_iload hx hb dX1_bodyFor_27 (lv_at hl 0 rfl) ?_
                        refine lv_iconst (v := (-1)) hx hb dX1_bodyFor_29 (by decide) ?_
                        refine lv_icmp_eq (tgt := 36) hx hb dX1_bodyFor_30 (by decide) (fun c_32 => ?_) (fun c_32 => ?_)
                        · exact absurd c_32 (by decide)
                        · refine lv_iload hx hb dX1_bodyFor_33 (lv_at hl 0 rfl) ?_
                          exact W.iret (v := 10) hx hb hr (fun t ht hW => ⟨10, rfl, rfl, ht⟩) (fun q hq => by cases hq) dX1_bodyFor_35
                · exact absurd c_21 (by decide)
        · exact absurd c_10 (by decide)
set_option maxHeartbeats 4000000 in
set_option maxRecDepth 100000 in
theorem c_M_bodyFor_5_1 (l : Launch) (D : va_G) (cI cJ cZ cP cS : ClassId) (po : zPool)   : Met l yX1_bodyFor wsX1_bodyFor ({ frames := 1, cells := 0, slots := 0, locals := 22 }) (va_Pc [.int 5, .int 1] (zR D (zKT cI cJ cZ cP cS) po [])) (vp_Si (fun r => r = 30)) 0 0 (fun _ => False) := by
  refine Met.ofW (cc := cX1_bodyFor) (maxL := 5) (ret := (some .int)) (by decide) rfl ?_
  intro p e s m args below meth c s₁ B hml hv
  obtain ⟨rfl, hP, hK, hN, hZ⟩ := hv
  have hx := B.exec
  have hb := B.bytes
  have hr := B.returns
  have hts := atoms_spec (ws := wsX1_bodyFor) B.pre
  have hown : s.vm.findClass RX1 = some m.cls := findClass_of_methodNamed B.named
  have hlocks := B.notSynchronized
  have hl := lv_entry ([.int 5, .int 1]) (n := 5) (Nat.le_of_ble_eq_true rfl)
  rw [lg_entry_eq]
  generalize (lg_sl ([.int 5, .int 1]) ++ List.replicate (5 - (lg_sl ([.int 5, .int 1])).length) Slot.unset).toArray = ls at hl ⊢
  replace hl : lv_has ls 5 [(0, .int 5), (1, .int 1)] := hl
  refine lv_iload_n hx hb dX1_bodyFor_0 rfl (lv_at hl 0 rfl) ?_
  refine lv_istore_n (lv' := [(2, .int 5), (0, .int 5), (1, .int 1)]) hx hb dX1_bodyFor_1 rfl hl (by decide) rfl (fun ls hl => ?_)
  refine lv_iconst (v := 0) hx hb dX1_bodyFor_2 (by decide) ?_
  refine lv_istore_n (lv' := [(3, .int 0), (2, .int 5), (0, .int 5), (1, .int 1)]) hx hb dX1_bodyFor_3 rfl hl (by decide) rfl (fun ls hl => ?_)
  refine lv_iload_n hx hb dX1_bodyFor_4 rfl (lv_at hl 0 rfl) ?_
  refine lv_bipush (v := 7) hx hb dX1_bodyFor_5 (by decide) ?_
  refine lv_icmp_ge (tgt := 48) hx hb dX1_bodyFor_7 (by decide) (fun c_1 => ?_) (fun c_1 => ?_)
  · exact absurd c_1 (by decide)
  · refine lv_iload_n hx hb dX1_bodyFor_10 rfl (lv_at hl 1 rfl) ?_
    refine lv_iconst (v := 0) hx hb dX1_bodyFor_11 (by decide) ?_
    refine lv_bipush (v := 6) hx hb dX1_bodyFor_12 (by decide) ?_
    have kc5 : (5 : Int32).toInt = 5 := by decide
    have kc0 : (0 : Int32).toInt = 0 := by decide
    have kc6 : (6 : Int32).toInt = 6 := by decide
    refine zc_SN (As := [.int 5, .int 0, .int 6]) (rest := []) ⟨hx, hb, hml, hown, hts⟩ (c_within l D cI cJ cZ cP cS po (5) (0) (6) ) ⟨(va_cnB 3 hts gX1_bodyFor_X7_within_n44 rfl rfl rfl (hN.1 (RX1, 44, yX7_within) (List.mem_of_getElem? (i := 13) rfl)) (hts _ (List.mem_of_getElem? (i := 2) rfl)) dh_X7_within ⟨Nat.le_of_ble_eq_true rfl, Nat.le_of_ble_eq_true rfl⟩), (hts _ (List.mem_of_getElem? (i := 1) rfl)), trivial⟩ hK hN hZ rfl hl.1 rfl (Nat.le_of_ble_eq_true rfl) dX1_bodyFor_14 ⟨Nat.le_of_ble_eq_true rfl, Nat.le_of_ble_eq_true rfl⟩ (fun r_2 hr_2 => ?_)
    rcases hr_2 with ⟨rfl, g_3⟩ | ⟨rfl, g_4, g_5⟩ | ⟨rfl, g_6, g_7⟩
    · exfalso; omega
    · exfalso; omega
    · refine lv_if_eq (tgt := 48) hx hb dX1_bodyFor_17 (by decide) (fun c_8 => ?_) (fun c_8 => ?_)
      · exact absurd c_8 (by decide)
      · refine lv_iload_n hx hb dX1_bodyFor_20 rfl (lv_at hl 1 rfl) ?_
        refine lv_iload_n hx hb dX1_bodyFor_21 rfl (lv_at hl 3 rfl) ?_
        refine zc_S (As := [.int 5, .int 1]) (rest := []) ⟨hx, hb, hml, hown, hts⟩ (c_M_own_5_1 l D cI cJ cZ cP cS po  ) (va_cwS 2 hts gX1_bodyFor_X1_ownBody rfl rfl rfl dh_X1_ownBody ⟨Nat.le_of_ble_eq_true rfl, Nat.le_of_ble_eq_true rfl⟩) hK hN hZ rfl hl.1 rfl (Nat.le_of_ble_eq_true rfl) dX1_bodyFor_22 ⟨Nat.le_of_ble_eq_true rfl, Nat.le_of_ble_eq_true rfl⟩ (fun r_9 hr_9 => ?_)
        obtain rfl := hr_9
        refine lv_istore (lv' := [(4, .int (-1)), (3, .int 0), (2, .int 5), (0, .int 5), (1, .int 1)]) hx hb dX1_bodyFor_25 hl (by decide) rfl (fun ls hl => ?_)
        refine lv_iload hx hb dX1_bodyFor_27 (lv_at hl 0 rfl) ?_
        refine lv_iconst (v := (-1)) hx hb dX1_bodyFor_29 (by decide) ?_
        refine lv_icmp_eq (tgt := 36) hx hb dX1_bodyFor_30 (by decide) (fun c_10 => ?_) (fun c_10 => ?_)
        · obtain ⟨t_11, zt_11, yt_11⟩ := hZ.1.2
          refine va_getsN hx hb zt_11 va_S.rf hown (va_Nw.use rfl (hN.2.1 (RX1, 58) (List.mem_of_getElem? (i := 1) rfl))) (fun _ h9 => h9) dX1_bodyFor_36 ?_
          refine lv_iload_n hx hb dX1_bodyFor_39 rfl (lv_at hl 2 rfl) ?_
          refine va_ti hx hb yt_11 va_S.rf (zf_in (by decide) (by decide)) (v := .int 2) (by decide) dX1_bodyFor_40 ?_
          refine lv_istore_n (lv' := [(2, .int 2), (4, .int (-1)), (3, .int 0), (0, .int 5), (1, .int 1)]) hx hb dX1_bodyFor_41 rfl hl (by decide) rfl (fun ls hl => ?_)
          refine lv_iinc (v := 1) (lv' := [(3, .int 1), (2, .int 2), (4, .int (-1)), (0, .int 5), (1, .int 1)]) hx hb dX1_bodyFor_42 hl (k := 2) rfl (by decide) (by decide) rfl (fun ls hl => ?_)
          refine lv_goto (tgt := 4) hx hb dX1_bodyFor_45 (by decide) ?_
          refine lv_iload_n hx hb dX1_bodyFor_4 rfl (lv_at hl 0 rfl) ?_
          refine lv_bipush (v := 7) hx hb dX1_bodyFor_5 (by decide) ?_
          refine lv_icmp_ge (tgt := 48) hx hb dX1_bodyFor_7 (by decide) (fun c_12 => ?_) (fun c_12 => ?_)
          · exact absurd c_12 (by decide)
          · refine lv_iload_n hx hb dX1_bodyFor_10 rfl (lv_at hl 1 rfl) ?_
            refine lv_iconst (v := 0) hx hb dX1_bodyFor_11 (by decide) ?_
            refine lv_bipush (v := 6) hx hb dX1_bodyFor_12 (by decide) ?_
            have kc2 : (2 : Int32).toInt = 2 := by decide
            refine zc_SN (As := [.int 2, .int 0, .int 6]) (rest := []) ⟨hx, hb, hml, hown, hts⟩ (c_within l D cI cJ cZ cP cS po (2) (0) (6) ) ⟨(va_cnB 3 hts gX1_bodyFor_X7_within_n44 rfl rfl rfl (hN.1 (RX1, 44, yX7_within) (List.mem_of_getElem? (i := 13) rfl)) (hts _ (List.mem_of_getElem? (i := 2) rfl)) dh_X7_within ⟨Nat.le_of_ble_eq_true rfl, Nat.le_of_ble_eq_true rfl⟩), (hts _ (List.mem_of_getElem? (i := 1) rfl)), trivial⟩ hK hN hZ rfl hl.1 rfl (Nat.le_of_ble_eq_true rfl) dX1_bodyFor_14 ⟨Nat.le_of_ble_eq_true rfl, Nat.le_of_ble_eq_true rfl⟩ (fun r_13 hr_13 => ?_)
            rcases hr_13 with ⟨rfl, g_14⟩ | ⟨rfl, g_15, g_16⟩ | ⟨rfl, g_17, g_18⟩
            · exfalso; omega
            · exfalso; omega
            · refine lv_if_eq (tgt := 48) hx hb dX1_bodyFor_17 (by decide) (fun c_19 => ?_) (fun c_19 => ?_)
              · exact absurd c_19 (by decide)
              · refine lv_iload_n hx hb dX1_bodyFor_20 rfl (lv_at hl 1 rfl) ?_
                refine lv_iload_n hx hb dX1_bodyFor_21 rfl (lv_at hl 4 rfl) ?_
                refine zc_S (As := [.int 2, .int 1]) (rest := []) ⟨hx, hb, hml, hown, hts⟩ (c_M_own_2_1 l D cI cJ cZ cP cS po  ) (va_cwS 2 hts gX1_bodyFor_X1_ownBody rfl rfl rfl dh_X1_ownBody ⟨Nat.le_of_ble_eq_true rfl, Nat.le_of_ble_eq_true rfl⟩) hK hN hZ rfl hl.1 rfl (Nat.le_of_ble_eq_true rfl) dX1_bodyFor_22 ⟨Nat.le_of_ble_eq_true rfl, Nat.le_of_ble_eq_true rfl⟩ (fun r_20 hr_20 => ?_)
                obtain rfl := hr_20
                refine lv_istore (lv' := [(4, .int 30), (3, .int 1), (2, .int 2), (0, .int 5), (1, .int 1)]) hx hb dX1_bodyFor_25 hl (by decide) rfl (fun ls hl => ?_)
                refine lv_iload hx hb dX1_bodyFor_27 (lv_at hl 0 rfl) ?_
                refine lv_iconst (v := (-1)) hx hb dX1_bodyFor_29 (by decide) ?_
                refine lv_icmp_eq (tgt := 36) hx hb dX1_bodyFor_30 (by decide) (fun c_21 => ?_) (fun c_21 => ?_)
                · exact absurd c_21 (by decide)
                · refine lv_iload hx hb dX1_bodyFor_33 (lv_at hl 0 rfl) ?_
                  exact W.iret (v := 30) hx hb hr (fun t ht hW => ⟨30, rfl, rfl, ht⟩) (fun q hq => by cases hq) dX1_bodyFor_35
        · exact absurd c_10 (by decide)
set_option maxHeartbeats 4000000 in
set_option maxRecDepth 100000 in
theorem c_M_bodyFor_5_2 (l : Launch) (D : va_G) (cI cJ cZ cP cS : ClassId) (po : zPool)   : Met l yX1_bodyFor wsX1_bodyFor ({ frames := 1, cells := 0, slots := 0, locals := 22 }) (va_Pc [.int 5, .int 2] (zR D (zKT cI cJ cZ cP cS) po [])) (vp_Si (fun r => r = 60)) 0 0 (fun _ => False) := by
  refine Met.ofW (cc := cX1_bodyFor) (maxL := 5) (ret := (some .int)) (by decide) rfl ?_
  intro p e s m args below meth c s₁ B hml hv
  obtain ⟨rfl, hP, hK, hN, hZ⟩ := hv
  have hx := B.exec
  have hb := B.bytes
  have hr := B.returns
  have hts := atoms_spec (ws := wsX1_bodyFor) B.pre
  have hown : s.vm.findClass RX1 = some m.cls := findClass_of_methodNamed B.named
  have hlocks := B.notSynchronized
  have hl := lv_entry ([.int 5, .int 2]) (n := 5) (Nat.le_of_ble_eq_true rfl)
  rw [lg_entry_eq]
  generalize (lg_sl ([.int 5, .int 2]) ++ List.replicate (5 - (lg_sl ([.int 5, .int 2])).length) Slot.unset).toArray = ls at hl ⊢
  replace hl : lv_has ls 5 [(0, .int 5), (1, .int 2)] := hl
  refine lv_iload_n hx hb dX1_bodyFor_0 rfl (lv_at hl 0 rfl) ?_
  refine lv_istore_n (lv' := [(2, .int 5), (0, .int 5), (1, .int 2)]) hx hb dX1_bodyFor_1 rfl hl (by decide) rfl (fun ls hl => ?_)
  refine lv_iconst (v := 0) hx hb dX1_bodyFor_2 (by decide) ?_
  refine lv_istore_n (lv' := [(3, .int 0), (2, .int 5), (0, .int 5), (1, .int 2)]) hx hb dX1_bodyFor_3 rfl hl (by decide) rfl (fun ls hl => ?_)
  refine lv_iload_n hx hb dX1_bodyFor_4 rfl (lv_at hl 0 rfl) ?_
  refine lv_bipush (v := 7) hx hb dX1_bodyFor_5 (by decide) ?_
  refine lv_icmp_ge (tgt := 48) hx hb dX1_bodyFor_7 (by decide) (fun c_1 => ?_) (fun c_1 => ?_)
  · exact absurd c_1 (by decide)
  · refine lv_iload_n hx hb dX1_bodyFor_10 rfl (lv_at hl 1 rfl) ?_
    refine lv_iconst (v := 0) hx hb dX1_bodyFor_11 (by decide) ?_
    refine lv_bipush (v := 6) hx hb dX1_bodyFor_12 (by decide) ?_
    have kc5 : (5 : Int32).toInt = 5 := by decide
    have kc0 : (0 : Int32).toInt = 0 := by decide
    have kc6 : (6 : Int32).toInt = 6 := by decide
    refine zc_SN (As := [.int 5, .int 0, .int 6]) (rest := []) ⟨hx, hb, hml, hown, hts⟩ (c_within l D cI cJ cZ cP cS po (5) (0) (6) ) ⟨(va_cnB 3 hts gX1_bodyFor_X7_within_n44 rfl rfl rfl (hN.1 (RX1, 44, yX7_within) (List.mem_of_getElem? (i := 13) rfl)) (hts _ (List.mem_of_getElem? (i := 2) rfl)) dh_X7_within ⟨Nat.le_of_ble_eq_true rfl, Nat.le_of_ble_eq_true rfl⟩), (hts _ (List.mem_of_getElem? (i := 1) rfl)), trivial⟩ hK hN hZ rfl hl.1 rfl (Nat.le_of_ble_eq_true rfl) dX1_bodyFor_14 ⟨Nat.le_of_ble_eq_true rfl, Nat.le_of_ble_eq_true rfl⟩ (fun r_2 hr_2 => ?_)
    rcases hr_2 with ⟨rfl, g_3⟩ | ⟨rfl, g_4, g_5⟩ | ⟨rfl, g_6, g_7⟩
    · exfalso; omega
    · exfalso; omega
    · refine lv_if_eq (tgt := 48) hx hb dX1_bodyFor_17 (by decide) (fun c_8 => ?_) (fun c_8 => ?_)
      · exact absurd c_8 (by decide)
      · refine lv_iload_n hx hb dX1_bodyFor_20 rfl (lv_at hl 1 rfl) ?_
        refine lv_iload_n hx hb dX1_bodyFor_21 rfl (lv_at hl 3 rfl) ?_
        refine zc_S (As := [.int 5, .int 2]) (rest := []) ⟨hx, hb, hml, hown, hts⟩ (c_M_own_5_2 l D cI cJ cZ cP cS po  ) (va_cwS 2 hts gX1_bodyFor_X1_ownBody rfl rfl rfl dh_X1_ownBody ⟨Nat.le_of_ble_eq_true rfl, Nat.le_of_ble_eq_true rfl⟩) hK hN hZ rfl hl.1 rfl (Nat.le_of_ble_eq_true rfl) dX1_bodyFor_22 ⟨Nat.le_of_ble_eq_true rfl, Nat.le_of_ble_eq_true rfl⟩ (fun r_9 hr_9 => ?_)
        obtain rfl := hr_9
        refine lv_istore (lv' := [(4, .int 60), (3, .int 0), (2, .int 5), (0, .int 5), (1, .int 2)]) hx hb dX1_bodyFor_25 hl (by decide) rfl (fun ls hl => ?_)
        refine lv_iload hx hb dX1_bodyFor_27 (lv_at hl 0 rfl) ?_
        refine lv_iconst (v := (-1)) hx hb dX1_bodyFor_29 (by decide) ?_
        refine lv_icmp_eq (tgt := 36) hx hb dX1_bodyFor_30 (by decide) (fun c_10 => ?_) (fun c_10 => ?_)
        · exact absurd c_10 (by decide)
        · refine lv_iload hx hb dX1_bodyFor_33 (lv_at hl 0 rfl) ?_
          exact W.iret (v := 60) hx hb hr (fun t ht hW => ⟨60, rfl, rfl, ht⟩) (fun q hq => by cases hq) dX1_bodyFor_35
set_option maxHeartbeats 4000000 in
set_option maxRecDepth 100000 in
theorem c_M_bodyFor_6_0 (l : Launch) (D : va_G) (cI cJ cZ cP cS : ClassId) (po : zPool)   : Met l yX1_bodyFor wsX1_bodyFor ({ frames := 1, cells := 0, slots := 0, locals := 22 }) (va_Pc [.int 6, .int 0] (zR D (zKT cI cJ cZ cP cS) po [])) (vp_Si (fun r => r = 70)) 0 0 (fun _ => False) := by
  refine Met.ofW (cc := cX1_bodyFor) (maxL := 5) (ret := (some .int)) (by decide) rfl ?_
  intro p e s m args below meth c s₁ B hml hv
  obtain ⟨rfl, hP, hK, hN, hZ⟩ := hv
  have hx := B.exec
  have hb := B.bytes
  have hr := B.returns
  have hts := atoms_spec (ws := wsX1_bodyFor) B.pre
  have hown : s.vm.findClass RX1 = some m.cls := findClass_of_methodNamed B.named
  have hlocks := B.notSynchronized
  have hl := lv_entry ([.int 6, .int 0]) (n := 5) (Nat.le_of_ble_eq_true rfl)
  rw [lg_entry_eq]
  generalize (lg_sl ([.int 6, .int 0]) ++ List.replicate (5 - (lg_sl ([.int 6, .int 0])).length) Slot.unset).toArray = ls at hl ⊢
  replace hl : lv_has ls 5 [(0, .int 6), (1, .int 0)] := hl
  refine lv_iload_n hx hb dX1_bodyFor_0 rfl (lv_at hl 0 rfl) ?_
  refine lv_istore_n (lv' := [(2, .int 6), (0, .int 6), (1, .int 0)]) hx hb dX1_bodyFor_1 rfl hl (by decide) rfl (fun ls hl => ?_)
  refine lv_iconst (v := 0) hx hb dX1_bodyFor_2 (by decide) ?_
  refine lv_istore_n (lv' := [(3, .int 0), (2, .int 6), (0, .int 6), (1, .int 0)]) hx hb dX1_bodyFor_3 rfl hl (by decide) rfl (fun ls hl => ?_)
  refine lv_iload_n hx hb dX1_bodyFor_4 rfl (lv_at hl 0 rfl) ?_
  refine lv_bipush (v := 7) hx hb dX1_bodyFor_5 (by decide) ?_
  refine lv_icmp_ge (tgt := 48) hx hb dX1_bodyFor_7 (by decide) (fun c_1 => ?_) (fun c_1 => ?_)
  · exact absurd c_1 (by decide)
  · refine lv_iload_n hx hb dX1_bodyFor_10 rfl (lv_at hl 1 rfl) ?_
    refine lv_iconst (v := 0) hx hb dX1_bodyFor_11 (by decide) ?_
    refine lv_bipush (v := 6) hx hb dX1_bodyFor_12 (by decide) ?_
    have kc6 : (6 : Int32).toInt = 6 := by decide
    have kc0 : (0 : Int32).toInt = 0 := by decide
    refine zc_SN (As := [.int 6, .int 0, .int 6]) (rest := []) ⟨hx, hb, hml, hown, hts⟩ (c_within l D cI cJ cZ cP cS po (6) (0) (6) ) ⟨(va_cnB 3 hts gX1_bodyFor_X7_within_n44 rfl rfl rfl (hN.1 (RX1, 44, yX7_within) (List.mem_of_getElem? (i := 13) rfl)) (hts _ (List.mem_of_getElem? (i := 2) rfl)) dh_X7_within ⟨Nat.le_of_ble_eq_true rfl, Nat.le_of_ble_eq_true rfl⟩), (hts _ (List.mem_of_getElem? (i := 1) rfl)), trivial⟩ hK hN hZ rfl hl.1 rfl (Nat.le_of_ble_eq_true rfl) dX1_bodyFor_14 ⟨Nat.le_of_ble_eq_true rfl, Nat.le_of_ble_eq_true rfl⟩ (fun r_2 hr_2 => ?_)
    rcases hr_2 with ⟨rfl, g_3⟩ | ⟨rfl, g_4, g_5⟩ | ⟨rfl, g_6, g_7⟩
    · exfalso; omega
    · exfalso; omega
    · refine lv_if_eq (tgt := 48) hx hb dX1_bodyFor_17 (by decide) (fun c_8 => ?_) (fun c_8 => ?_)
      · exact absurd c_8 (by decide)
      · refine lv_iload_n hx hb dX1_bodyFor_20 rfl (lv_at hl 1 rfl) ?_
        refine lv_iload_n hx hb dX1_bodyFor_21 rfl (lv_at hl 3 rfl) ?_
        refine zc_S (As := [.int 6, .int 0]) (rest := []) ⟨hx, hb, hml, hown, hts⟩ (c_M_own_6_0 l D cI cJ cZ cP cS po  ) (va_cwS 2 hts gX1_bodyFor_X1_ownBody rfl rfl rfl dh_X1_ownBody ⟨Nat.le_of_ble_eq_true rfl, Nat.le_of_ble_eq_true rfl⟩) hK hN hZ rfl hl.1 rfl (Nat.le_of_ble_eq_true rfl) dX1_bodyFor_22 ⟨Nat.le_of_ble_eq_true rfl, Nat.le_of_ble_eq_true rfl⟩ (fun r_9 hr_9 => ?_)
        obtain rfl := hr_9
        refine lv_istore (lv' := [(4, .int 70), (3, .int 0), (2, .int 6), (0, .int 6), (1, .int 0)]) hx hb dX1_bodyFor_25 hl (by decide) rfl (fun ls hl => ?_)
        refine lv_iload hx hb dX1_bodyFor_27 (lv_at hl 0 rfl) ?_
        refine lv_iconst (v := (-1)) hx hb dX1_bodyFor_29 (by decide) ?_
        refine lv_icmp_eq (tgt := 36) hx hb dX1_bodyFor_30 (by decide) (fun c_10 => ?_) (fun c_10 => ?_)
        · exact absurd c_10 (by decide)
        · refine lv_iload hx hb dX1_bodyFor_33 (lv_at hl 0 rfl) ?_
          exact W.iret (v := 70) hx hb hr (fun t ht hW => ⟨70, rfl, rfl, ht⟩) (fun q hq => by cases hq) dX1_bodyFor_35
set_option maxHeartbeats 4000000 in
set_option maxRecDepth 100000 in
theorem c_M_bodyFor_6_1 (l : Launch) (D : va_G) (cI cJ cZ cP cS : ClassId) (po : zPool)   : Met l yX1_bodyFor wsX1_bodyFor ({ frames := 1, cells := 0, slots := 0, locals := 22 }) (va_Pc [.int 6, .int 1] (zR D (zKT cI cJ cZ cP cS) po [])) (vp_Si (fun r => r = 71)) 0 0 (fun _ => False) := by
  refine Met.ofW (cc := cX1_bodyFor) (maxL := 5) (ret := (some .int)) (by decide) rfl ?_
  intro p e s m args below meth c s₁ B hml hv
  obtain ⟨rfl, hP, hK, hN, hZ⟩ := hv
  have hx := B.exec
  have hb := B.bytes
  have hr := B.returns
  have hts := atoms_spec (ws := wsX1_bodyFor) B.pre
  have hown : s.vm.findClass RX1 = some m.cls := findClass_of_methodNamed B.named
  have hlocks := B.notSynchronized
  have hl := lv_entry ([.int 6, .int 1]) (n := 5) (Nat.le_of_ble_eq_true rfl)
  rw [lg_entry_eq]
  generalize (lg_sl ([.int 6, .int 1]) ++ List.replicate (5 - (lg_sl ([.int 6, .int 1])).length) Slot.unset).toArray = ls at hl ⊢
  replace hl : lv_has ls 5 [(0, .int 6), (1, .int 1)] := hl
  refine lv_iload_n hx hb dX1_bodyFor_0 rfl (lv_at hl 0 rfl) ?_
  refine lv_istore_n (lv' := [(2, .int 6), (0, .int 6), (1, .int 1)]) hx hb dX1_bodyFor_1 rfl hl (by decide) rfl (fun ls hl => ?_)
  refine lv_iconst (v := 0) hx hb dX1_bodyFor_2 (by decide) ?_
  refine lv_istore_n (lv' := [(3, .int 0), (2, .int 6), (0, .int 6), (1, .int 1)]) hx hb dX1_bodyFor_3 rfl hl (by decide) rfl (fun ls hl => ?_)
  refine lv_iload_n hx hb dX1_bodyFor_4 rfl (lv_at hl 0 rfl) ?_
  refine lv_bipush (v := 7) hx hb dX1_bodyFor_5 (by decide) ?_
  refine lv_icmp_ge (tgt := 48) hx hb dX1_bodyFor_7 (by decide) (fun c_1 => ?_) (fun c_1 => ?_)
  · exact absurd c_1 (by decide)
  · refine lv_iload_n hx hb dX1_bodyFor_10 rfl (lv_at hl 1 rfl) ?_
    refine lv_iconst (v := 0) hx hb dX1_bodyFor_11 (by decide) ?_
    refine lv_bipush (v := 6) hx hb dX1_bodyFor_12 (by decide) ?_
    have kc6 : (6 : Int32).toInt = 6 := by decide
    have kc0 : (0 : Int32).toInt = 0 := by decide
    refine zc_SN (As := [.int 6, .int 0, .int 6]) (rest := []) ⟨hx, hb, hml, hown, hts⟩ (c_within l D cI cJ cZ cP cS po (6) (0) (6) ) ⟨(va_cnB 3 hts gX1_bodyFor_X7_within_n44 rfl rfl rfl (hN.1 (RX1, 44, yX7_within) (List.mem_of_getElem? (i := 13) rfl)) (hts _ (List.mem_of_getElem? (i := 2) rfl)) dh_X7_within ⟨Nat.le_of_ble_eq_true rfl, Nat.le_of_ble_eq_true rfl⟩), (hts _ (List.mem_of_getElem? (i := 1) rfl)), trivial⟩ hK hN hZ rfl hl.1 rfl (Nat.le_of_ble_eq_true rfl) dX1_bodyFor_14 ⟨Nat.le_of_ble_eq_true rfl, Nat.le_of_ble_eq_true rfl⟩ (fun r_2 hr_2 => ?_)
    rcases hr_2 with ⟨rfl, g_3⟩ | ⟨rfl, g_4, g_5⟩ | ⟨rfl, g_6, g_7⟩
    · exfalso; omega
    · exfalso; omega
    · refine lv_if_eq (tgt := 48) hx hb dX1_bodyFor_17 (by decide) (fun c_8 => ?_) (fun c_8 => ?_)
      · exact absurd c_8 (by decide)
      · refine lv_iload_n hx hb dX1_bodyFor_20 rfl (lv_at hl 1 rfl) ?_
        refine lv_iload_n hx hb dX1_bodyFor_21 rfl (lv_at hl 3 rfl) ?_
        refine zc_S (As := [.int 6, .int 1]) (rest := []) ⟨hx, hb, hml, hown, hts⟩ (c_M_own_6_1 l D cI cJ cZ cP cS po  ) (va_cwS 2 hts gX1_bodyFor_X1_ownBody rfl rfl rfl dh_X1_ownBody ⟨Nat.le_of_ble_eq_true rfl, Nat.le_of_ble_eq_true rfl⟩) hK hN hZ rfl hl.1 rfl (Nat.le_of_ble_eq_true rfl) dX1_bodyFor_22 ⟨Nat.le_of_ble_eq_true rfl, Nat.le_of_ble_eq_true rfl⟩ (fun r_9 hr_9 => ?_)
        obtain rfl := hr_9
        refine lv_istore (lv' := [(4, .int 71), (3, .int 0), (2, .int 6), (0, .int 6), (1, .int 1)]) hx hb dX1_bodyFor_25 hl (by decide) rfl (fun ls hl => ?_)
        refine lv_iload hx hb dX1_bodyFor_27 (lv_at hl 0 rfl) ?_
        refine lv_iconst (v := (-1)) hx hb dX1_bodyFor_29 (by decide) ?_
        refine lv_icmp_eq (tgt := 36) hx hb dX1_bodyFor_30 (by decide) (fun c_10 => ?_) (fun c_10 => ?_)
        · exact absurd c_10 (by decide)
        · refine lv_iload hx hb dX1_bodyFor_33 (lv_at hl 0 rfl) ?_
          exact W.iret (v := 71) hx hb hr (fun t ht hW => ⟨71, rfl, rfl, ht⟩) (fun q hq => by cases hq) dX1_bodyFor_35
set_option maxHeartbeats 4000000 in
set_option maxRecDepth 100000 in
theorem c_M_bodyFor_6_2 (l : Launch) (D : va_G) (cI cJ cZ cP cS : ClassId) (po : zPool)   : Met l yX1_bodyFor wsX1_bodyFor ({ frames := 1, cells := 0, slots := 0, locals := 22 }) (va_Pc [.int 6, .int 2] (zR D (zKT cI cJ cZ cP cS) po [])) (vp_Si (fun r => r = 50)) 0 0 (fun _ => False) := by
  refine Met.ofW (cc := cX1_bodyFor) (maxL := 5) (ret := (some .int)) (by decide) rfl ?_
  intro p e s m args below meth c s₁ B hml hv
  obtain ⟨rfl, hP, hK, hN, hZ⟩ := hv
  have hx := B.exec
  have hb := B.bytes
  have hr := B.returns
  have hts := atoms_spec (ws := wsX1_bodyFor) B.pre
  have hown : s.vm.findClass RX1 = some m.cls := findClass_of_methodNamed B.named
  have hlocks := B.notSynchronized
  have hl := lv_entry ([.int 6, .int 2]) (n := 5) (Nat.le_of_ble_eq_true rfl)
  rw [lg_entry_eq]
  generalize (lg_sl ([.int 6, .int 2]) ++ List.replicate (5 - (lg_sl ([.int 6, .int 2])).length) Slot.unset).toArray = ls at hl ⊢
  replace hl : lv_has ls 5 [(0, .int 6), (1, .int 2)] := hl
  refine lv_iload_n hx hb dX1_bodyFor_0 rfl (lv_at hl 0 rfl) ?_
  refine lv_istore_n (lv' := [(2, .int 6), (0, .int 6), (1, .int 2)]) hx hb dX1_bodyFor_1 rfl hl (by decide) rfl (fun ls hl => ?_)
  refine lv_iconst (v := 0) hx hb dX1_bodyFor_2 (by decide) ?_
  refine lv_istore_n (lv' := [(3, .int 0), (2, .int 6), (0, .int 6), (1, .int 2)]) hx hb dX1_bodyFor_3 rfl hl (by decide) rfl (fun ls hl => ?_)
  refine lv_iload_n hx hb dX1_bodyFor_4 rfl (lv_at hl 0 rfl) ?_
  refine lv_bipush (v := 7) hx hb dX1_bodyFor_5 (by decide) ?_
  refine lv_icmp_ge (tgt := 48) hx hb dX1_bodyFor_7 (by decide) (fun c_1 => ?_) (fun c_1 => ?_)
  · exact absurd c_1 (by decide)
  · refine lv_iload_n hx hb dX1_bodyFor_10 rfl (lv_at hl 1 rfl) ?_
    refine lv_iconst (v := 0) hx hb dX1_bodyFor_11 (by decide) ?_
    refine lv_bipush (v := 6) hx hb dX1_bodyFor_12 (by decide) ?_
    have kc6 : (6 : Int32).toInt = 6 := by decide
    have kc0 : (0 : Int32).toInt = 0 := by decide
    refine zc_SN (As := [.int 6, .int 0, .int 6]) (rest := []) ⟨hx, hb, hml, hown, hts⟩ (c_within l D cI cJ cZ cP cS po (6) (0) (6) ) ⟨(va_cnB 3 hts gX1_bodyFor_X7_within_n44 rfl rfl rfl (hN.1 (RX1, 44, yX7_within) (List.mem_of_getElem? (i := 13) rfl)) (hts _ (List.mem_of_getElem? (i := 2) rfl)) dh_X7_within ⟨Nat.le_of_ble_eq_true rfl, Nat.le_of_ble_eq_true rfl⟩), (hts _ (List.mem_of_getElem? (i := 1) rfl)), trivial⟩ hK hN hZ rfl hl.1 rfl (Nat.le_of_ble_eq_true rfl) dX1_bodyFor_14 ⟨Nat.le_of_ble_eq_true rfl, Nat.le_of_ble_eq_true rfl⟩ (fun r_2 hr_2 => ?_)
    rcases hr_2 with ⟨rfl, g_3⟩ | ⟨rfl, g_4, g_5⟩ | ⟨rfl, g_6, g_7⟩
    · exfalso; omega
    · exfalso; omega
    · refine lv_if_eq (tgt := 48) hx hb dX1_bodyFor_17 (by decide) (fun c_8 => ?_) (fun c_8 => ?_)
      · exact absurd c_8 (by decide)
      · refine lv_iload_n hx hb dX1_bodyFor_20 rfl (lv_at hl 1 rfl) ?_
        refine lv_iload_n hx hb dX1_bodyFor_21 rfl (lv_at hl 3 rfl) ?_
        refine zc_S (As := [.int 6, .int 2]) (rest := []) ⟨hx, hb, hml, hown, hts⟩ (c_M_own_6_2 l D cI cJ cZ cP cS po  ) (va_cwS 2 hts gX1_bodyFor_X1_ownBody rfl rfl rfl dh_X1_ownBody ⟨Nat.le_of_ble_eq_true rfl, Nat.le_of_ble_eq_true rfl⟩) hK hN hZ rfl hl.1 rfl (Nat.le_of_ble_eq_true rfl) dX1_bodyFor_22 ⟨Nat.le_of_ble_eq_true rfl, Nat.le_of_ble_eq_true rfl⟩ (fun r_9 hr_9 => ?_)
        obtain rfl := hr_9
        refine lv_istore (lv' := [(4, .int (-1)), (3, .int 0), (2, .int 6), (0, .int 6), (1, .int 2)]) hx hb dX1_bodyFor_25 hl (by decide) rfl (fun ls hl => ?_)
        refine lv_iload hx hb dX1_bodyFor_27 (lv_at hl 0 rfl) ?_
        refine lv_iconst (v := (-1)) hx hb dX1_bodyFor_29 (by decide) ?_
        refine lv_icmp_eq (tgt := 36) hx hb dX1_bodyFor_30 (by decide) (fun c_10 => ?_) (fun c_10 => ?_)
        · obtain ⟨t_11, zt_11, yt_11⟩ := hZ.1.2
          refine va_getsN hx hb zt_11 va_S.rf hown (va_Nw.use rfl (hN.2.1 (RX1, 58) (List.mem_of_getElem? (i := 1) rfl))) (fun _ h9 => h9) dX1_bodyFor_36 ?_
          refine lv_iload_n hx hb dX1_bodyFor_39 rfl (lv_at hl 2 rfl) ?_
          refine va_ti hx hb yt_11 va_S.rf (zf_in (by decide) (by decide)) (v := .int 4) (by decide) dX1_bodyFor_40 ?_
          refine lv_istore_n (lv' := [(2, .int 4), (4, .int (-1)), (3, .int 0), (0, .int 6), (1, .int 2)]) hx hb dX1_bodyFor_41 rfl hl (by decide) rfl (fun ls hl => ?_)
          refine lv_iinc (v := 1) (lv' := [(3, .int 1), (2, .int 4), (4, .int (-1)), (0, .int 6), (1, .int 2)]) hx hb dX1_bodyFor_42 hl (k := 2) rfl (by decide) (by decide) rfl (fun ls hl => ?_)
          refine lv_goto (tgt := 4) hx hb dX1_bodyFor_45 (by decide) ?_
          refine lv_iload_n hx hb dX1_bodyFor_4 rfl (lv_at hl 0 rfl) ?_
          refine lv_bipush (v := 7) hx hb dX1_bodyFor_5 (by decide) ?_
          refine lv_icmp_ge (tgt := 48) hx hb dX1_bodyFor_7 (by decide) (fun c_12 => ?_) (fun c_12 => ?_)
          · exact absurd c_12 (by decide)
          · refine lv_iload_n hx hb dX1_bodyFor_10 rfl (lv_at hl 1 rfl) ?_
            refine lv_iconst (v := 0) hx hb dX1_bodyFor_11 (by decide) ?_
            refine lv_bipush (v := 6) hx hb dX1_bodyFor_12 (by decide) ?_
            have kc4 : (4 : Int32).toInt = 4 := by decide
            refine zc_SN (As := [.int 4, .int 0, .int 6]) (rest := []) ⟨hx, hb, hml, hown, hts⟩ (c_within l D cI cJ cZ cP cS po (4) (0) (6) ) ⟨(va_cnB 3 hts gX1_bodyFor_X7_within_n44 rfl rfl rfl (hN.1 (RX1, 44, yX7_within) (List.mem_of_getElem? (i := 13) rfl)) (hts _ (List.mem_of_getElem? (i := 2) rfl)) dh_X7_within ⟨Nat.le_of_ble_eq_true rfl, Nat.le_of_ble_eq_true rfl⟩), (hts _ (List.mem_of_getElem? (i := 1) rfl)), trivial⟩ hK hN hZ rfl hl.1 rfl (Nat.le_of_ble_eq_true rfl) dX1_bodyFor_14 ⟨Nat.le_of_ble_eq_true rfl, Nat.le_of_ble_eq_true rfl⟩ (fun r_13 hr_13 => ?_)
            rcases hr_13 with ⟨rfl, g_14⟩ | ⟨rfl, g_15, g_16⟩ | ⟨rfl, g_17, g_18⟩
            · exfalso; omega
            · exfalso; omega
            · refine lv_if_eq (tgt := 48) hx hb dX1_bodyFor_17 (by decide) (fun c_19 => ?_) (fun c_19 => ?_)
              · exact absurd c_19 (by decide)
              · refine lv_iload_n hx hb dX1_bodyFor_20 rfl (lv_at hl 1 rfl) ?_
                refine lv_iload_n hx hb dX1_bodyFor_21 rfl (lv_at hl 4 rfl) ?_
                refine zc_S (As := [.int 4, .int 2]) (rest := []) ⟨hx, hb, hml, hown, hts⟩ (c_M_own_4_2 l D cI cJ cZ cP cS po  ) (va_cwS 2 hts gX1_bodyFor_X1_ownBody rfl rfl rfl dh_X1_ownBody ⟨Nat.le_of_ble_eq_true rfl, Nat.le_of_ble_eq_true rfl⟩) hK hN hZ rfl hl.1 rfl (Nat.le_of_ble_eq_true rfl) dX1_bodyFor_22 ⟨Nat.le_of_ble_eq_true rfl, Nat.le_of_ble_eq_true rfl⟩ (fun r_20 hr_20 => ?_)
                obtain rfl := hr_20
                refine lv_istore (lv' := [(4, .int 50), (3, .int 1), (2, .int 4), (0, .int 6), (1, .int 2)]) hx hb dX1_bodyFor_25 hl (by decide) rfl (fun ls hl => ?_)
                refine lv_iload hx hb dX1_bodyFor_27 (lv_at hl 0 rfl) ?_
                refine lv_iconst (v := (-1)) hx hb dX1_bodyFor_29 (by decide) ?_
                refine lv_icmp_eq (tgt := 36) hx hb dX1_bodyFor_30 (by decide) (fun c_21 => ?_) (fun c_21 => ?_)
                · exact absurd c_21 (by decide)
                · refine lv_iload hx hb dX1_bodyFor_33 (lv_at hl 0 rfl) ?_
                  exact W.iret (v := 50) hx hb hr (fun t ht hW => ⟨50, rfl, rfl, ht⟩) (fun q hq => by cases hq) dX1_bodyFor_35
        · exact absurd c_10 (by decide)

