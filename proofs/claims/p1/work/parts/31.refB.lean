set_option maxHeartbeats 4000000 in
set_option maxRecDepth 100000 in
theorem c_M_power_0 (l : Launch) (D : va_G) (cI cJ cZ cP cS : ClassId) (m0 mrf mki mpa mta mla msl mco mhe mso msi msh mce mca mwo mnu mte mwa mke mma mth mtr : Nat) (hu : Int32)  : Met l yX8_power wsX8_power ({ frames := 0, cells := 0, slots := 0, locals := 0 }) (va_Pc [.ref m0, .int 0] (zR D (zKT cI cJ cZ cP cS) [(m0, .inr (8, (.int 0 :: .int 20 :: .int 0 :: .int 0 :: .int 0 :: .int 60 :: .int hu :: .int 3 :: .int 1 :: .int (-1) :: .ref mrf :: .ref mki :: .ref mpa :: .ref mta :: .ref mla :: .ref msl :: .ref mco :: .ref mhe :: .ref mso :: .ref msi :: .ref msh :: .ref mce :: .ref mca :: .ref mwo :: .ref mnu :: .ref mte :: .int 0 :: .int 0 :: .int 0 :: .int 0 :: .int 0 :: .ref mwa :: .ref mke :: .ref mma :: .ref mth :: .ref mtr :: .int 0 :: .int 0 :: [])))])) (vp_Si (fun r => r = 1)) 0 0 (fun _ => False) := by
  refine Met.ofW (cc := cX8_power) (maxL := 2) (ret := (some .int)) (by decide) rfl ?_
  intro p e s m args below meth c s₁ B hml hv
  obtain ⟨rfl, hP, hK, hN, hZ⟩ := hv
  have hx := B.exec
  have hb := B.bytes
  have hr := B.returns
  have hts := atoms_spec (ws := wsX8_power) B.pre
  have hown : s.vm.findClass RX8 = some m.cls := findClass_of_methodNamed B.named
  have hlocks := B.notSynchronized
  have hl := lv_entry ([.ref m0, .int 0]) (n := 2) (Nat.le_of_ble_eq_true rfl)
  rw [lg_entry_eq]
  generalize (lg_sl ([.ref m0, .int 0]) ++ List.replicate (2 - (lg_sl ([.ref m0, .int 0])).length) Slot.unset).toArray = ls at hl ⊢
  replace hl : lv_has ls 2 [(0, .ref m0), (1, .int 0)] := hl
  refine lv_iload_n hx hb dX8_power_0 rfl (lv_at hl 1 rfl) ?_
  refine lv_if_ne (tgt := 8) hx hb dX8_power_1 (by decide) (fun c_1 => ?_) (fun c_1 => ?_)
  · exact absurd c_1 (by decide)
  · refine lv_iconst (v := 1) hx hb dX8_power_4 (by decide) ?_
    refine lv_goto (tgt := 18) hx hb dX8_power_5 (by decide) ?_
    exact W.iret (v := 1) hx hb hr (fun t ht hW => ⟨1, rfl, rfl, ht⟩) (fun q hq => by cases hq) dX8_power_18
set_option maxHeartbeats 4000000 in
set_option maxRecDepth 100000 in
theorem c_M_power_1 (l : Launch) (D : va_G) (cI cJ cZ cP cS : ClassId) (m0 mrf mki mpa mta mla msl mco mhe mso msi msh mce mca mwo mnu mte mwa mke mma mth mtr : Nat) (hu : Int32)  : Met l yX8_power wsX8_power ({ frames := 1, cells := 0, slots := 0, locals := 21 }) (va_Pc [.ref m0, .int 1] (zR D (zKT cI cJ cZ cP cS) [(m0, .inr (8, (.int 0 :: .int 20 :: .int 0 :: .int 0 :: .int 0 :: .int 60 :: .int hu :: .int 3 :: .int 1 :: .int (-1) :: .ref mrf :: .ref mki :: .ref mpa :: .ref mta :: .ref mla :: .ref msl :: .ref mco :: .ref mhe :: .ref mso :: .ref msi :: .ref msh :: .ref mce :: .ref mca :: .ref mwo :: .ref mnu :: .ref mte :: .int 0 :: .int 0 :: .int 0 :: .int 0 :: .int 0 :: .ref mwa :: .ref mke :: .ref mma :: .ref mth :: .ref mtr :: .int 0 :: .int 0 :: [])))])) (vp_Si (fun r => r = 12)) 0 0 (fun _ => False) := by
  refine Met.ofW (cc := cX8_power) (maxL := 2) (ret := (some .int)) (by decide) rfl ?_
  intro p e s m args below meth c s₁ B hml hv
  obtain ⟨rfl, hP, hK, hN, hZ⟩ := hv
  have hx := B.exec
  have hb := B.bytes
  have hr := B.returns
  have hts := atoms_spec (ws := wsX8_power) B.pre
  have hown : s.vm.findClass RX8 = some m.cls := findClass_of_methodNamed B.named
  have hlocks := B.notSynchronized
  have hl := lv_entry ([.ref m0, .int 1]) (n := 2) (Nat.le_of_ble_eq_true rfl)
  rw [lg_entry_eq]
  generalize (lg_sl ([.ref m0, .int 1]) ++ List.replicate (2 - (lg_sl ([.ref m0, .int 1])).length) Slot.unset).toArray = ls at hl ⊢
  replace hl : lv_has ls 2 [(0, .ref m0), (1, .int 1)] := hl
  refine lv_iload_n hx hb dX8_power_0 rfl (lv_at hl 1 rfl) ?_
  refine lv_if_ne (tgt := 8) hx hb dX8_power_1 (by decide) (fun c_1 => ?_) (fun c_1 => ?_)
  · refine lv_bipush (v := 12) hx hb dX8_power_8 (by decide) ?_
    refine lv_aload_n hx hb dX8_power_10 rfl (lv_at hl 0 rfl) ?_
    refine lv_iload_n hx hb dX8_power_11 rfl (lv_at hl 1 rfl) ?_
    refine lv_iconst (v := 1) hx hb dX8_power_12 (by decide) ?_
    refine lv_isub hx hb dX8_power_13 ?_
    refine lv_topi (fun y_2 ey_2 => ?_)
    obtain rfl : y_2 = 0 := ey_2.trans (by decide)
    refine zc_V (As := [.int 0]) (rest := [.int 12]) ⟨hx, hb, hml, hown, hts⟩ (c_M_power_0 l D cI cJ cZ cP cS m0 mrf mki mpa mta mla msl mco mhe mso msi msh mce mca mwo mnu mte mwa mke mma mth mtr (hu) ) (cwV 1 hts gX8_power_X8_power rfl rfl rfl (by decide +kernel) ⟨Nat.le_of_ble_eq_true rfl, Nat.le_of_ble_eq_true rfl⟩) hK hN hZ hP [0] rfl (va_recv hK hP (ci := 8) (q0 := 0) rfl rfl) rfl hl.1 rfl (Nat.le_of_ble_eq_true rfl) dX8_power_14 ⟨Nat.le_of_ble_eq_true rfl, Nat.le_of_ble_eq_true rfl⟩ (fun r_3 hr_3 => ?_)
    obtain rfl := hr_3
    refine lv_imul hx hb dX8_power_17 ?_
    refine lv_topi (fun y_4 ey_4 => ?_)
    obtain rfl : y_4 = 12 := ey_4.trans (by decide)
    exact W.iret (v := 12) hx hb hr (fun t ht hW => ⟨12, rfl, rfl, ht⟩) (fun q hq => by cases hq) dX8_power_18
  · exact absurd c_1 (by decide)
set_option maxHeartbeats 4000000 in
set_option maxRecDepth 100000 in
theorem c_M_power_2 (l : Launch) (D : va_G) (cI cJ cZ cP cS : ClassId) (m0 mrf mki mpa mta mla msl mco mhe mso msi msh mce mca mwo mnu mte mwa mke mma mth mtr : Nat) (hu : Int32)  : Met l yX8_power wsX8_power ({ frames := 2, cells := 0, slots := 0, locals := 42 }) (va_Pc [.ref m0, .int 2] (zR D (zKT cI cJ cZ cP cS) [(m0, .inr (8, (.int 0 :: .int 20 :: .int 0 :: .int 0 :: .int 0 :: .int 60 :: .int hu :: .int 3 :: .int 1 :: .int (-1) :: .ref mrf :: .ref mki :: .ref mpa :: .ref mta :: .ref mla :: .ref msl :: .ref mco :: .ref mhe :: .ref mso :: .ref msi :: .ref msh :: .ref mce :: .ref mca :: .ref mwo :: .ref mnu :: .ref mte :: .int 0 :: .int 0 :: .int 0 :: .int 0 :: .int 0 :: .ref mwa :: .ref mke :: .ref mma :: .ref mth :: .ref mtr :: .int 0 :: .int 0 :: [])))])) (vp_Si (fun r => r = 144)) 0 0 (fun _ => False) := by
  refine Met.ofW (cc := cX8_power) (maxL := 2) (ret := (some .int)) (by decide) rfl ?_
  intro p e s m args below meth c s₁ B hml hv
  obtain ⟨rfl, hP, hK, hN, hZ⟩ := hv
  have hx := B.exec
  have hb := B.bytes
  have hr := B.returns
  have hts := atoms_spec (ws := wsX8_power) B.pre
  have hown : s.vm.findClass RX8 = some m.cls := findClass_of_methodNamed B.named
  have hlocks := B.notSynchronized
  have hl := lv_entry ([.ref m0, .int 2]) (n := 2) (Nat.le_of_ble_eq_true rfl)
  rw [lg_entry_eq]
  generalize (lg_sl ([.ref m0, .int 2]) ++ List.replicate (2 - (lg_sl ([.ref m0, .int 2])).length) Slot.unset).toArray = ls at hl ⊢
  replace hl : lv_has ls 2 [(0, .ref m0), (1, .int 2)] := hl
  refine lv_iload_n hx hb dX8_power_0 rfl (lv_at hl 1 rfl) ?_
  refine lv_if_ne (tgt := 8) hx hb dX8_power_1 (by decide) (fun c_1 => ?_) (fun c_1 => ?_)
  · refine lv_bipush (v := 12) hx hb dX8_power_8 (by decide) ?_
    refine lv_aload_n hx hb dX8_power_10 rfl (lv_at hl 0 rfl) ?_
    refine lv_iload_n hx hb dX8_power_11 rfl (lv_at hl 1 rfl) ?_
    refine lv_iconst (v := 1) hx hb dX8_power_12 (by decide) ?_
    refine lv_isub hx hb dX8_power_13 ?_
    refine lv_topi (fun y_2 ey_2 => ?_)
    obtain rfl : y_2 = 1 := ey_2.trans (by decide)
    refine zc_V (As := [.int 1]) (rest := [.int 12]) ⟨hx, hb, hml, hown, hts⟩ (c_M_power_1 l D cI cJ cZ cP cS m0 mrf mki mpa mta mla msl mco mhe mso msi msh mce mca mwo mnu mte mwa mke mma mth mtr (hu) ) (cwV 1 hts gX8_power_X8_power rfl rfl rfl (by decide +kernel) ⟨Nat.le_of_ble_eq_true rfl, Nat.le_of_ble_eq_true rfl⟩) hK hN hZ hP [0] rfl (va_recv hK hP (ci := 8) (q0 := 0) rfl rfl) rfl hl.1 rfl (Nat.le_of_ble_eq_true rfl) dX8_power_14 ⟨Nat.le_of_ble_eq_true rfl, Nat.le_of_ble_eq_true rfl⟩ (fun r_3 hr_3 => ?_)
    obtain rfl := hr_3
    refine lv_imul hx hb dX8_power_17 ?_
    refine lv_topi (fun y_4 ey_4 => ?_)
    obtain rfl : y_4 = 144 := ey_4.trans (by decide)
    exact W.iret (v := 144) hx hb hr (fun t ht hW => ⟨144, rfl, rfl, ht⟩) (fun q hq => by cases hq) dX8_power_18
  · exact absurd c_1 (by decide)
set_option maxHeartbeats 4000000 in
set_option maxRecDepth 100000 in
theorem c_M_power_3 (l : Launch) (D : va_G) (cI cJ cZ cP cS : ClassId) (m0 mrf mki mpa mta mla msl mco mhe mso msi msh mce mca mwo mnu mte mwa mke mma mth mtr : Nat) (hu : Int32)  : Met l yX8_power wsX8_power ({ frames := 3, cells := 0, slots := 0, locals := 63 }) (va_Pc [.ref m0, .int 3] (zR D (zKT cI cJ cZ cP cS) [(m0, .inr (8, (.int 0 :: .int 20 :: .int 0 :: .int 0 :: .int 0 :: .int 60 :: .int hu :: .int 3 :: .int 1 :: .int (-1) :: .ref mrf :: .ref mki :: .ref mpa :: .ref mta :: .ref mla :: .ref msl :: .ref mco :: .ref mhe :: .ref mso :: .ref msi :: .ref msh :: .ref mce :: .ref mca :: .ref mwo :: .ref mnu :: .ref mte :: .int 0 :: .int 0 :: .int 0 :: .int 0 :: .int 0 :: .ref mwa :: .ref mke :: .ref mma :: .ref mth :: .ref mtr :: .int 0 :: .int 0 :: [])))])) (vp_Si (fun r => r = 1728)) 0 0 (fun _ => False) := by
  refine Met.ofW (cc := cX8_power) (maxL := 2) (ret := (some .int)) (by decide) rfl ?_
  intro p e s m args below meth c s₁ B hml hv
  obtain ⟨rfl, hP, hK, hN, hZ⟩ := hv
  have hx := B.exec
  have hb := B.bytes
  have hr := B.returns
  have hts := atoms_spec (ws := wsX8_power) B.pre
  have hown : s.vm.findClass RX8 = some m.cls := findClass_of_methodNamed B.named
  have hlocks := B.notSynchronized
  have hl := lv_entry ([.ref m0, .int 3]) (n := 2) (Nat.le_of_ble_eq_true rfl)
  rw [lg_entry_eq]
  generalize (lg_sl ([.ref m0, .int 3]) ++ List.replicate (2 - (lg_sl ([.ref m0, .int 3])).length) Slot.unset).toArray = ls at hl ⊢
  replace hl : lv_has ls 2 [(0, .ref m0), (1, .int 3)] := hl
  refine lv_iload_n hx hb dX8_power_0 rfl (lv_at hl 1 rfl) ?_
  refine lv_if_ne (tgt := 8) hx hb dX8_power_1 (by decide) (fun c_1 => ?_) (fun c_1 => ?_)
  · refine lv_bipush (v := 12) hx hb dX8_power_8 (by decide) ?_
    refine lv_aload_n hx hb dX8_power_10 rfl (lv_at hl 0 rfl) ?_
    refine lv_iload_n hx hb dX8_power_11 rfl (lv_at hl 1 rfl) ?_
    refine lv_iconst (v := 1) hx hb dX8_power_12 (by decide) ?_
    refine lv_isub hx hb dX8_power_13 ?_
    refine lv_topi (fun y_2 ey_2 => ?_)
    obtain rfl : y_2 = 2 := ey_2.trans (by decide)
    refine zc_V (As := [.int 2]) (rest := [.int 12]) ⟨hx, hb, hml, hown, hts⟩ (c_M_power_2 l D cI cJ cZ cP cS m0 mrf mki mpa mta mla msl mco mhe mso msi msh mce mca mwo mnu mte mwa mke mma mth mtr (hu) ) (cwV 1 hts gX8_power_X8_power rfl rfl rfl (by decide +kernel) ⟨Nat.le_of_ble_eq_true rfl, Nat.le_of_ble_eq_true rfl⟩) hK hN hZ hP [0] rfl (va_recv hK hP (ci := 8) (q0 := 0) rfl rfl) rfl hl.1 rfl (Nat.le_of_ble_eq_true rfl) dX8_power_14 ⟨Nat.le_of_ble_eq_true rfl, Nat.le_of_ble_eq_true rfl⟩ (fun r_3 hr_3 => ?_)
    obtain rfl := hr_3
    refine lv_imul hx hb dX8_power_17 ?_
    refine lv_topi (fun y_4 ey_4 => ?_)
    obtain rfl : y_4 = 1728 := ey_4.trans (by decide)
    exact W.iret (v := 1728) hx hb hr (fun t ht hW => ⟨1728, rfl, rfl, ht⟩) (fun q hq => by cases hq) dX8_power_18
  · exact absurd c_1 (by decide)
set_option maxHeartbeats 4000000 in
set_option maxRecDepth 100000 in
theorem c_M_power_4 (l : Launch) (D : va_G) (cI cJ cZ cP cS : ClassId) (m0 mrf mki mpa mta mla msl mco mhe mso msi msh mce mca mwo mnu mte mwa mke mma mth mtr : Nat) (hu : Int32)  : Met l yX8_power wsX8_power ({ frames := 4, cells := 0, slots := 0, locals := 84 }) (va_Pc [.ref m0, .int 4] (zR D (zKT cI cJ cZ cP cS) [(m0, .inr (8, (.int 0 :: .int 20 :: .int 0 :: .int 0 :: .int 0 :: .int 60 :: .int hu :: .int 3 :: .int 1 :: .int (-1) :: .ref mrf :: .ref mki :: .ref mpa :: .ref mta :: .ref mla :: .ref msl :: .ref mco :: .ref mhe :: .ref mso :: .ref msi :: .ref msh :: .ref mce :: .ref mca :: .ref mwo :: .ref mnu :: .ref mte :: .int 0 :: .int 0 :: .int 0 :: .int 0 :: .int 0 :: .ref mwa :: .ref mke :: .ref mma :: .ref mth :: .ref mtr :: .int 0 :: .int 0 :: [])))])) (vp_Si (fun r => r = 20736)) 0 0 (fun _ => False) := by
  refine Met.ofW (cc := cX8_power) (maxL := 2) (ret := (some .int)) (by decide) rfl ?_
  intro p e s m args below meth c s₁ B hml hv
  obtain ⟨rfl, hP, hK, hN, hZ⟩ := hv
  have hx := B.exec
  have hb := B.bytes
  have hr := B.returns
  have hts := atoms_spec (ws := wsX8_power) B.pre
  have hown : s.vm.findClass RX8 = some m.cls := findClass_of_methodNamed B.named
  have hlocks := B.notSynchronized
  have hl := lv_entry ([.ref m0, .int 4]) (n := 2) (Nat.le_of_ble_eq_true rfl)
  rw [lg_entry_eq]
  generalize (lg_sl ([.ref m0, .int 4]) ++ List.replicate (2 - (lg_sl ([.ref m0, .int 4])).length) Slot.unset).toArray = ls at hl ⊢
  replace hl : lv_has ls 2 [(0, .ref m0), (1, .int 4)] := hl
  refine lv_iload_n hx hb dX8_power_0 rfl (lv_at hl 1 rfl) ?_
  refine lv_if_ne (tgt := 8) hx hb dX8_power_1 (by decide) (fun c_1 => ?_) (fun c_1 => ?_)
  · refine lv_bipush (v := 12) hx hb dX8_power_8 (by decide) ?_
    refine lv_aload_n hx hb dX8_power_10 rfl (lv_at hl 0 rfl) ?_
    refine lv_iload_n hx hb dX8_power_11 rfl (lv_at hl 1 rfl) ?_
    refine lv_iconst (v := 1) hx hb dX8_power_12 (by decide) ?_
    refine lv_isub hx hb dX8_power_13 ?_
    refine lv_topi (fun y_2 ey_2 => ?_)
    obtain rfl : y_2 = 3 := ey_2.trans (by decide)
    refine zc_V (As := [.int 3]) (rest := [.int 12]) ⟨hx, hb, hml, hown, hts⟩ (c_M_power_3 l D cI cJ cZ cP cS m0 mrf mki mpa mta mla msl mco mhe mso msi msh mce mca mwo mnu mte mwa mke mma mth mtr (hu) ) (cwV 1 hts gX8_power_X8_power rfl rfl rfl (by decide +kernel) ⟨Nat.le_of_ble_eq_true rfl, Nat.le_of_ble_eq_true rfl⟩) hK hN hZ hP [0] rfl (va_recv hK hP (ci := 8) (q0 := 0) rfl rfl) rfl hl.1 rfl (Nat.le_of_ble_eq_true rfl) dX8_power_14 ⟨Nat.le_of_ble_eq_true rfl, Nat.le_of_ble_eq_true rfl⟩ (fun r_3 hr_3 => ?_)
    obtain rfl := hr_3
    refine lv_imul hx hb dX8_power_17 ?_
    refine lv_topi (fun y_4 ey_4 => ?_)
    obtain rfl : y_4 = 20736 := ey_4.trans (by decide)
    exact W.iret (v := 20736) hx hb hr (fun t ht hW => ⟨20736, rfl, rfl, ht⟩) (fun q hq => by cases hq) dX8_power_18
  · exact absurd c_1 (by decide)
set_option maxHeartbeats 4000000 in
set_option maxRecDepth 100000 in
theorem c_M_mostCases_0 (l : Launch) (D : va_G) (cI cJ cZ cP cS : ClassId) (m0 mrf mki mpa mta mla msl mco mhe mso msi msh mce mca mwo mnu mte mwa mke mma mth mtr : Nat) (hu sec wh : Int32)  : Met l yX8_mostCases wsX8_mostCases ({ frames := 1, cells := 0, slots := 0, locals := 21 }) (va_Pc [.ref m0, .int 0, .int 0, .int sec, .int wh] (zR D (zKT cI cJ cZ cP cS) [(m0, .inr (8, (.int 0 :: .int 20 :: .int 0 :: .int 0 :: .int 0 :: .int 60 :: .int hu :: .int 3 :: .int 1 :: .int (-1) :: .ref mrf :: .ref mki :: .ref mpa :: .ref mta :: .ref mla :: .ref msl :: .ref mco :: .ref mhe :: .ref mso :: .ref msi :: .ref msh :: .ref mce :: .ref mca :: .ref mwo :: .ref mnu :: .ref mte :: .int 0 :: .int 0 :: .int 0 :: .int 0 :: .int 0 :: .ref mwa :: .ref mke :: .ref mma :: .ref mth :: .ref mtr :: .int 0 :: .int 0 :: [])))])) (vp_Si (fun r => r = 1)) 0 0 (fun _ => False) := by
  refine Met.ofW (cc := cX8_mostCases) (maxL := 8) (ret := (some .int)) (by decide) rfl ?_
  intro p e s m args below meth c s₁ B hml hv
  obtain ⟨rfl, hP, hK, hN, hZ⟩ := hv
  have hx := B.exec
  have hb := B.bytes
  have hr := B.returns
  have hts := atoms_spec (ws := wsX8_mostCases) B.pre
  have hown : s.vm.findClass RX8 = some m.cls := findClass_of_methodNamed B.named
  have hlocks := B.notSynchronized
  have hl := lv_entry ([.ref m0, .int 0, .int 0, .int sec, .int wh]) (n := 8) (Nat.le_of_ble_eq_true rfl)
  rw [lg_entry_eq]
  generalize (lg_sl ([.ref m0, .int 0, .int 0, .int sec, .int wh]) ++ List.replicate (8 - (lg_sl ([.ref m0, .int 0, .int 0, .int sec, .int wh])).length) Slot.unset).toArray = ls at hl ⊢
  replace hl : lv_has ls 8 [(0, .ref m0), (1, .int 0), (2, .int 0), (3, .int sec), (4, .int wh)] := hl
  refine lv_iload_n hx hb dX8_mostCases_0 rfl (lv_at hl 2 rfl) ?_
  refine lv_if_ne (tgt := 10) hx hb dX8_mostCases_1 (by decide) (fun c_1 => ?_) (fun c_1 => ?_)
  · exact absurd c_1 (by decide)
  · refine lv_aload_n hx hb dX8_mostCases_4 rfl (lv_at hl 0 rfl) ?_
    refine lv_iload_n hx hb dX8_mostCases_5 rfl (lv_at hl 1 rfl) ?_
    refine zc_V (As := [.int 0]) (rest := []) ⟨hx, hb, hml, hown, hts⟩ (c_M_power_0 l D cI cJ cZ cP cS m0 mrf mki mpa mta mla msl mco mhe mso msi msh mce mca mwo mnu mte mwa mke mma mth mtr (hu) ) (cwV 1 hts gX8_mostCases_X8_power rfl rfl rfl (by decide +kernel) ⟨Nat.le_of_ble_eq_true rfl, Nat.le_of_ble_eq_true rfl⟩) hK hN hZ hP [0] rfl (va_recv hK hP (ci := 8) (q0 := 0) rfl rfl) rfl hl.1 rfl (Nat.le_of_ble_eq_true rfl) dX8_mostCases_6 ⟨Nat.le_of_ble_eq_true rfl, Nat.le_of_ble_eq_true rfl⟩ (fun r_2 hr_2 => ?_)
    obtain rfl := hr_2
    exact W.iret (v := 1) hx hb hr (fun t ht hW => ⟨1, rfl, rfl, ht⟩) (fun q hq => by cases hq) dX8_mostCases_9
set_option maxHeartbeats 4000000 in
set_option maxRecDepth 100000 in
theorem c_M_mostCases_1 (l : Launch) (D : va_G) (cI cJ cZ cP cS : ClassId) (m0 mrf mki mpa mta mla msl mco mhe mso msi msh mce mca mwo mnu mte mwa mke mma mth mtr : Nat) (hu sec wh : Int32)  : Met l yX8_mostCases wsX8_mostCases ({ frames := 2, cells := 0, slots := 0, locals := 42 }) (va_Pc [.ref m0, .int 1, .int 0, .int sec, .int wh] (zR D (zKT cI cJ cZ cP cS) [(m0, .inr (8, (.int 0 :: .int 20 :: .int 0 :: .int 0 :: .int 0 :: .int 60 :: .int hu :: .int 3 :: .int 1 :: .int (-1) :: .ref mrf :: .ref mki :: .ref mpa :: .ref mta :: .ref mla :: .ref msl :: .ref mco :: .ref mhe :: .ref mso :: .ref msi :: .ref msh :: .ref mce :: .ref mca :: .ref mwo :: .ref mnu :: .ref mte :: .int 0 :: .int 0 :: .int 0 :: .int 0 :: .int 0 :: .ref mwa :: .ref mke :: .ref mma :: .ref mth :: .ref mtr :: .int 0 :: .int 0 :: [])))])) (vp_Si (fun r => r = 12)) 0 0 (fun _ => False) := by
  refine Met.ofW (cc := cX8_mostCases) (maxL := 8) (ret := (some .int)) (by decide) rfl ?_
  intro p e s m args below meth c s₁ B hml hv
  obtain ⟨rfl, hP, hK, hN, hZ⟩ := hv
  have hx := B.exec
  have hb := B.bytes
  have hr := B.returns
  have hts := atoms_spec (ws := wsX8_mostCases) B.pre
  have hown : s.vm.findClass RX8 = some m.cls := findClass_of_methodNamed B.named
  have hlocks := B.notSynchronized
  have hl := lv_entry ([.ref m0, .int 1, .int 0, .int sec, .int wh]) (n := 8) (Nat.le_of_ble_eq_true rfl)
  rw [lg_entry_eq]
  generalize (lg_sl ([.ref m0, .int 1, .int 0, .int sec, .int wh]) ++ List.replicate (8 - (lg_sl ([.ref m0, .int 1, .int 0, .int sec, .int wh])).length) Slot.unset).toArray = ls at hl ⊢
  replace hl : lv_has ls 8 [(0, .ref m0), (1, .int 1), (2, .int 0), (3, .int sec), (4, .int wh)] := hl
  refine lv_iload_n hx hb dX8_mostCases_0 rfl (lv_at hl 2 rfl) ?_
  refine lv_if_ne (tgt := 10) hx hb dX8_mostCases_1 (by decide) (fun c_1 => ?_) (fun c_1 => ?_)
  · exact absurd c_1 (by decide)
  · refine lv_aload_n hx hb dX8_mostCases_4 rfl (lv_at hl 0 rfl) ?_
    refine lv_iload_n hx hb dX8_mostCases_5 rfl (lv_at hl 1 rfl) ?_
    refine zc_V (As := [.int 1]) (rest := []) ⟨hx, hb, hml, hown, hts⟩ (c_M_power_1 l D cI cJ cZ cP cS m0 mrf mki mpa mta mla msl mco mhe mso msi msh mce mca mwo mnu mte mwa mke mma mth mtr (hu) ) (cwV 1 hts gX8_mostCases_X8_power rfl rfl rfl (by decide +kernel) ⟨Nat.le_of_ble_eq_true rfl, Nat.le_of_ble_eq_true rfl⟩) hK hN hZ hP [0] rfl (va_recv hK hP (ci := 8) (q0 := 0) rfl rfl) rfl hl.1 rfl (Nat.le_of_ble_eq_true rfl) dX8_mostCases_6 ⟨Nat.le_of_ble_eq_true rfl, Nat.le_of_ble_eq_true rfl⟩ (fun r_2 hr_2 => ?_)
    obtain rfl := hr_2
    exact W.iret (v := 12) hx hb hr (fun t ht hW => ⟨12, rfl, rfl, ht⟩) (fun q hq => by cases hq) dX8_mostCases_9
set_option maxHeartbeats 4000000 in
set_option maxRecDepth 100000 in
theorem c_M_mostCases_2 (l : Launch) (D : va_G) (cI cJ cZ cP cS : ClassId) (m0 mrf mki mpa mta mla msl mco mhe mso msi msh mce mca mwo mnu mte mwa mke mma mth mtr : Nat) (hu sec wh : Int32)  : Met l yX8_mostCases wsX8_mostCases ({ frames := 3, cells := 0, slots := 0, locals := 63 }) (va_Pc [.ref m0, .int 2, .int 0, .int sec, .int wh] (zR D (zKT cI cJ cZ cP cS) [(m0, .inr (8, (.int 0 :: .int 20 :: .int 0 :: .int 0 :: .int 0 :: .int 60 :: .int hu :: .int 3 :: .int 1 :: .int (-1) :: .ref mrf :: .ref mki :: .ref mpa :: .ref mta :: .ref mla :: .ref msl :: .ref mco :: .ref mhe :: .ref mso :: .ref msi :: .ref msh :: .ref mce :: .ref mca :: .ref mwo :: .ref mnu :: .ref mte :: .int 0 :: .int 0 :: .int 0 :: .int 0 :: .int 0 :: .ref mwa :: .ref mke :: .ref mma :: .ref mth :: .ref mtr :: .int 0 :: .int 0 :: [])))])) (vp_Si (fun r => r = 144)) 0 0 (fun _ => False) := by
  refine Met.ofW (cc := cX8_mostCases) (maxL := 8) (ret := (some .int)) (by decide) rfl ?_
  intro p e s m args below meth c s₁ B hml hv
  obtain ⟨rfl, hP, hK, hN, hZ⟩ := hv
  have hx := B.exec
  have hb := B.bytes
  have hr := B.returns
  have hts := atoms_spec (ws := wsX8_mostCases) B.pre
  have hown : s.vm.findClass RX8 = some m.cls := findClass_of_methodNamed B.named
  have hlocks := B.notSynchronized
  have hl := lv_entry ([.ref m0, .int 2, .int 0, .int sec, .int wh]) (n := 8) (Nat.le_of_ble_eq_true rfl)
  rw [lg_entry_eq]
  generalize (lg_sl ([.ref m0, .int 2, .int 0, .int sec, .int wh]) ++ List.replicate (8 - (lg_sl ([.ref m0, .int 2, .int 0, .int sec, .int wh])).length) Slot.unset).toArray = ls at hl ⊢
  replace hl : lv_has ls 8 [(0, .ref m0), (1, .int 2), (2, .int 0), (3, .int sec), (4, .int wh)] := hl
  refine lv_iload_n hx hb dX8_mostCases_0 rfl (lv_at hl 2 rfl) ?_
  refine lv_if_ne (tgt := 10) hx hb dX8_mostCases_1 (by decide) (fun c_1 => ?_) (fun c_1 => ?_)
  · exact absurd c_1 (by decide)
  · refine lv_aload_n hx hb dX8_mostCases_4 rfl (lv_at hl 0 rfl) ?_
    refine lv_iload_n hx hb dX8_mostCases_5 rfl (lv_at hl 1 rfl) ?_
    refine zc_V (As := [.int 2]) (rest := []) ⟨hx, hb, hml, hown, hts⟩ (c_M_power_2 l D cI cJ cZ cP cS m0 mrf mki mpa mta mla msl mco mhe mso msi msh mce mca mwo mnu mte mwa mke mma mth mtr (hu) ) (cwV 1 hts gX8_mostCases_X8_power rfl rfl rfl (by decide +kernel) ⟨Nat.le_of_ble_eq_true rfl, Nat.le_of_ble_eq_true rfl⟩) hK hN hZ hP [0] rfl (va_recv hK hP (ci := 8) (q0 := 0) rfl rfl) rfl hl.1 rfl (Nat.le_of_ble_eq_true rfl) dX8_mostCases_6 ⟨Nat.le_of_ble_eq_true rfl, Nat.le_of_ble_eq_true rfl⟩ (fun r_2 hr_2 => ?_)
    obtain rfl := hr_2
    exact W.iret (v := 144) hx hb hr (fun t ht hW => ⟨144, rfl, rfl, ht⟩) (fun q hq => by cases hq) dX8_mostCases_9
set_option maxHeartbeats 4000000 in
set_option maxRecDepth 100000 in
theorem c_M_mostCases_3 (l : Launch) (D : va_G) (cI cJ cZ cP cS : ClassId) (m0 mrf mki mpa mta mla msl mco mhe mso msi msh mce mca mwo mnu mte mwa mke mma mth mtr : Nat) (hu sec wh : Int32)  : Met l yX8_mostCases wsX8_mostCases ({ frames := 4, cells := 0, slots := 0, locals := 84 }) (va_Pc [.ref m0, .int 3, .int 0, .int sec, .int wh] (zR D (zKT cI cJ cZ cP cS) [(m0, .inr (8, (.int 0 :: .int 20 :: .int 0 :: .int 0 :: .int 0 :: .int 60 :: .int hu :: .int 3 :: .int 1 :: .int (-1) :: .ref mrf :: .ref mki :: .ref mpa :: .ref mta :: .ref mla :: .ref msl :: .ref mco :: .ref mhe :: .ref mso :: .ref msi :: .ref msh :: .ref mce :: .ref mca :: .ref mwo :: .ref mnu :: .ref mte :: .int 0 :: .int 0 :: .int 0 :: .int 0 :: .int 0 :: .ref mwa :: .ref mke :: .ref mma :: .ref mth :: .ref mtr :: .int 0 :: .int 0 :: [])))])) (vp_Si (fun r => r = 1728)) 0 0 (fun _ => False) := by
  refine Met.ofW (cc := cX8_mostCases) (maxL := 8) (ret := (some .int)) (by decide) rfl ?_
  intro p e s m args below meth c s₁ B hml hv
  obtain ⟨rfl, hP, hK, hN, hZ⟩ := hv
  have hx := B.exec
  have hb := B.bytes
  have hr := B.returns
  have hts := atoms_spec (ws := wsX8_mostCases) B.pre
  have hown : s.vm.findClass RX8 = some m.cls := findClass_of_methodNamed B.named
  have hlocks := B.notSynchronized
  have hl := lv_entry ([.ref m0, .int 3, .int 0, .int sec, .int wh]) (n := 8) (Nat.le_of_ble_eq_true rfl)
  rw [lg_entry_eq]
  generalize (lg_sl ([.ref m0, .int 3, .int 0, .int sec, .int wh]) ++ List.replicate (8 - (lg_sl ([.ref m0, .int 3, .int 0, .int sec, .int wh])).length) Slot.unset).toArray = ls at hl ⊢
  replace hl : lv_has ls 8 [(0, .ref m0), (1, .int 3), (2, .int 0), (3, .int sec), (4, .int wh)] := hl
  refine lv_iload_n hx hb dX8_mostCases_0 rfl (lv_at hl 2 rfl) ?_
  refine lv_if_ne (tgt := 10) hx hb dX8_mostCases_1 (by decide) (fun c_1 => ?_) (fun c_1 => ?_)
  · exact absurd c_1 (by decide)
  · refine lv_aload_n hx hb dX8_mostCases_4 rfl (lv_at hl 0 rfl) ?_
    refine lv_iload_n hx hb dX8_mostCases_5 rfl (lv_at hl 1 rfl) ?_
    refine zc_V (As := [.int 3]) (rest := []) ⟨hx, hb, hml, hown, hts⟩ (c_M_power_3 l D cI cJ cZ cP cS m0 mrf mki mpa mta mla msl mco mhe mso msi msh mce mca mwo mnu mte mwa mke mma mth mtr (hu) ) (cwV 1 hts gX8_mostCases_X8_power rfl rfl rfl (by decide +kernel) ⟨Nat.le_of_ble_eq_true rfl, Nat.le_of_ble_eq_true rfl⟩) hK hN hZ hP [0] rfl (va_recv hK hP (ci := 8) (q0 := 0) rfl rfl) rfl hl.1 rfl (Nat.le_of_ble_eq_true rfl) dX8_mostCases_6 ⟨Nat.le_of_ble_eq_true rfl, Nat.le_of_ble_eq_true rfl⟩ (fun r_2 hr_2 => ?_)
    obtain rfl := hr_2
    exact W.iret (v := 1728) hx hb hr (fun t ht hW => ⟨1728, rfl, rfl, ht⟩) (fun q hq => by cases hq) dX8_mostCases_9
set_option maxHeartbeats 4000000 in
set_option maxRecDepth 100000 in
theorem c_M_mostCases_4 (l : Launch) (D : va_G) (cI cJ cZ cP cS : ClassId) (m0 mrf mki mpa mta mla msl mco mhe mso msi msh mce mca mwo mnu mte mwa mke mma mth mtr : Nat) (hu sec wh : Int32)  : Met l yX8_mostCases wsX8_mostCases ({ frames := 5, cells := 0, slots := 0, locals := 105 }) (va_Pc [.ref m0, .int 4, .int 0, .int sec, .int wh] (zR D (zKT cI cJ cZ cP cS) [(m0, .inr (8, (.int 0 :: .int 20 :: .int 0 :: .int 0 :: .int 0 :: .int 60 :: .int hu :: .int 3 :: .int 1 :: .int (-1) :: .ref mrf :: .ref mki :: .ref mpa :: .ref mta :: .ref mla :: .ref msl :: .ref mco :: .ref mhe :: .ref mso :: .ref msi :: .ref msh :: .ref mce :: .ref mca :: .ref mwo :: .ref mnu :: .ref mte :: .int 0 :: .int 0 :: .int 0 :: .int 0 :: .int 0 :: .ref mwa :: .ref mke :: .ref mma :: .ref mth :: .ref mtr :: .int 0 :: .int 0 :: [])))])) (vp_Si (fun r => r = 20736)) 0 0 (fun _ => False) := by
  refine Met.ofW (cc := cX8_mostCases) (maxL := 8) (ret := (some .int)) (by decide) rfl ?_
  intro p e s m args below meth c s₁ B hml hv
  obtain ⟨rfl, hP, hK, hN, hZ⟩ := hv
  have hx := B.exec
  have hb := B.bytes
  have hr := B.returns
  have hts := atoms_spec (ws := wsX8_mostCases) B.pre
  have hown : s.vm.findClass RX8 = some m.cls := findClass_of_methodNamed B.named
  have hlocks := B.notSynchronized
  have hl := lv_entry ([.ref m0, .int 4, .int 0, .int sec, .int wh]) (n := 8) (Nat.le_of_ble_eq_true rfl)
  rw [lg_entry_eq]
  generalize (lg_sl ([.ref m0, .int 4, .int 0, .int sec, .int wh]) ++ List.replicate (8 - (lg_sl ([.ref m0, .int 4, .int 0, .int sec, .int wh])).length) Slot.unset).toArray = ls at hl ⊢
  replace hl : lv_has ls 8 [(0, .ref m0), (1, .int 4), (2, .int 0), (3, .int sec), (4, .int wh)] := hl
  refine lv_iload_n hx hb dX8_mostCases_0 rfl (lv_at hl 2 rfl) ?_
  refine lv_if_ne (tgt := 10) hx hb dX8_mostCases_1 (by decide) (fun c_1 => ?_) (fun c_1 => ?_)
  · exact absurd c_1 (by decide)
  · refine lv_aload_n hx hb dX8_mostCases_4 rfl (lv_at hl 0 rfl) ?_
    refine lv_iload_n hx hb dX8_mostCases_5 rfl (lv_at hl 1 rfl) ?_
    refine zc_V (As := [.int 4]) (rest := []) ⟨hx, hb, hml, hown, hts⟩ (c_M_power_4 l D cI cJ cZ cP cS m0 mrf mki mpa mta mla msl mco mhe mso msi msh mce mca mwo mnu mte mwa mke mma mth mtr (hu) ) (cwV 1 hts gX8_mostCases_X8_power rfl rfl rfl (by decide +kernel) ⟨Nat.le_of_ble_eq_true rfl, Nat.le_of_ble_eq_true rfl⟩) hK hN hZ hP [0] rfl (va_recv hK hP (ci := 8) (q0 := 0) rfl rfl) rfl hl.1 rfl (Nat.le_of_ble_eq_true rfl) dX8_mostCases_6 ⟨Nat.le_of_ble_eq_true rfl, Nat.le_of_ble_eq_true rfl⟩ (fun r_2 hr_2 => ?_)
    obtain rfl := hr_2
    exact W.iret (v := 20736) hx hb hr (fun t ht hW => ⟨20736, rfl, rfl, ht⟩) (fun q hq => by cases hq) dX8_mostCases_9
theorem hi_X8_nextOf_8 : ∀ w ∈ u_ws RX8 TX8 38, w ∈ wsX8_nextOf := by decide +kernel
set_option maxHeartbeats 4000000 in
set_option maxRecDepth 100000 in
theorem c_M_nextOf (l : Launch) (D : va_G) (cI cJ cZ cP cS : ClassId) (m0 mrf mki mpa mta mla msl mco mhe mso msi msh mce mca mwo mnu mte mwa mke mma mth mtr : Nat) (n : Int32)  : Met l yX8_nextOf wsX8_nextOf ({ frames := 0, cells := 0, slots := 0, locals := 0 }) (va_Pc [.ref m0, .int n] (zR D (zKT cI cJ cZ cP cS) [(m0, .inr (8, (.int 0 :: .int 20 :: .int 0 :: .int 0 :: .int 0 :: .int 60 :: .int 0 :: .int 3 :: .int 1 :: .int (-1) :: .ref mrf :: .ref mki :: .ref mpa :: .ref mta :: .ref mla :: .ref msl :: .ref mco :: .ref mhe :: .ref mso :: .ref msi :: .ref msh :: .ref mce :: .ref mca :: .ref mwo :: .ref mnu :: .ref mte :: .int 0 :: .int 0 :: .int 0 :: .int 0 :: .int 0 :: .ref mwa :: .ref mke :: .ref mma :: .ref mth :: .ref mtr :: .int 0 :: .int 0 :: [])))])) (vp_Si (fun r => r = (-1))) 0 0 (fun _ => False) := by
  refine Met.ofW (cc := cX8_nextOf) (maxL := 6) (ret := (some .int)) (by decide) rfl ?_
  intro p e s m args below meth c s₁ B hml hv
  obtain ⟨rfl, hP, hK, hN, hZ⟩ := hv
  have hx := B.exec
  have hb := B.bytes
  have hr := B.returns
  have hts := atoms_spec (ws := wsX8_nextOf) B.pre
  have hown : s.vm.findClass RX8 = some m.cls := findClass_of_methodNamed B.named
  have hlocks := B.notSynchronized
  have hl := lv_entry ([.ref m0, .int n]) (n := 6) (Nat.le_of_ble_eq_true rfl)
  rw [lg_entry_eq]
  generalize (lg_sl ([.ref m0, .int n]) ++ List.replicate (6 - (lg_sl ([.ref m0, .int n])).length) Slot.unset).toArray = ls at hl ⊢
  replace hl : lv_has ls 6 [(0, .ref m0), (1, .int n)] := hl
  refine lv_iconst (v := (-1)) hx hb dX8_nextOf_0 (by decide) ?_
  refine lv_istore_n (lv' := [(2, .int (-1)), (0, .ref m0), (1, .int n)]) hx hb dX8_nextOf_1 rfl hl (by decide) rfl (fun ls hl => ?_)
  refine lv_iconst (v := 0) hx hb dX8_nextOf_2 (by decide) ?_
  refine lv_istore_n (lv' := [(3, .int 0), (2, .int (-1)), (0, .ref m0), (1, .int n)]) hx hb dX8_nextOf_3 rfl hl (by decide) rfl (fun ls hl => ?_)
  refine lv_iconst (v := 0) hx hb dX8_nextOf_4 (by decide) ?_
  refine lv_istore (lv' := [(4, .int 0), (3, .int 0), (2, .int (-1)), (0, .ref m0), (1, .int n)]) hx hb dX8_nextOf_5 hl (by decide) rfl (fun ls hl => ?_)
  refine lv_iload hx hb dX8_nextOf_7 (lv_at hl 0 rfl) ?_
  refine lv_aload_n hx hb dX8_nextOf_9 rfl (lv_at hl 3 rfl) ?_
  refine va_get (D := D) (ci := 8) (v := .int 0) (C := RX8) (T := TX8) (N := 38) hx hb hts hi_X8_nextOf_8 hown hK hP 0 rfl rfl 0 (by decide) (hts (.fieldLink RX8 90 "TheLiningsInItModel" "pulls" "I") (List.mem_of_getElem? (i := 1) rfl)) (fun _ h9 => h9) rfl dX8_nextOf_10 ?_
  refine lv_icmp_ge (tgt := 84) hx hb dX8_nextOf_13 (by decide) (fun c_1 => ?_) (fun c_1 => ?_)
  · refine lv_iload_n hx hb dX8_nextOf_84 rfl (lv_at hl 2 rfl) ?_
    exact W.iret (v := (-1)) hx hb hr (fun t ht hW => ⟨(-1), rfl, rfl, ht⟩) (fun q hq => by cases hq) dX8_nextOf_85
  · exact absurd c_1 (by decide)
set_option maxHeartbeats 4000000 in
set_option maxRecDepth 100000 in
theorem c_M_isFew (l : Launch) (D : va_G) (cI cJ cZ cP cS : ClassId) (m0 mrf mki mpa mta mla msl mco mhe mso msi msh mce mca mwo mnu mte mwa mke mma mth mtr : Nat) (n : Int32)  : Met l yX8_isFew wsX8_isFew ({ frames := 0, cells := 0, slots := 0, locals := 0 }) (va_Pc [.ref m0, .int n] (zR D (zKT cI cJ cZ cP cS) [(m0, .inr (8, (.int 0 :: .int 20 :: .int 0 :: .int 0 :: .int 0 :: .int 60 :: .int 0 :: .int 3 :: .int 1 :: .int (-1) :: .ref mrf :: .ref mki :: .ref mpa :: .ref mta :: .ref mla :: .ref msl :: .ref mco :: .ref mhe :: .ref mso :: .ref msi :: .ref msh :: .ref mce :: .ref mca :: .ref mwo :: .ref mnu :: .ref mte :: .int 0 :: .int 0 :: .int 0 :: .int 0 :: .int 0 :: .ref mwa :: .ref mke :: .ref mma :: .ref mth :: .ref mtr :: .int 0 :: .int 0 :: [])))])) (vp_Si (fun r => (r = 0 ∧ n.toInt < 0) ∨ (r = 0 ∧ 0 ≤ n.toInt ∧ 4 < n.toInt) ∨ (r = 1 ∧ 0 ≤ n.toInt ∧ n.toInt ≤ 4))) 0 0 (fun _ => False) := by
  refine Met.ofW (cc := cX8_isFew) (maxL := 2) (ret := (some .boolean)) (by decide) rfl ?_
  intro p e s m args below meth c s₁ B hml hv
  obtain ⟨rfl, hP, hK, hN, hZ⟩ := hv
  have hx := B.exec
  have hb := B.bytes
  have hr := B.returns
  have hts := atoms_spec (ws := wsX8_isFew) B.pre
  have hown : s.vm.findClass RX8 = some m.cls := findClass_of_methodNamed B.named
  have hlocks := B.notSynchronized
  have hl := lv_entry ([.ref m0, .int n]) (n := 2) (Nat.le_of_ble_eq_true rfl)
  rw [lg_entry_eq]
  generalize (lg_sl ([.ref m0, .int n]) ++ List.replicate (2 - (lg_sl ([.ref m0, .int n])).length) Slot.unset).toArray = ls at hl ⊢
  replace hl : lv_has ls 2 [(0, .ref m0), (1, .int n)] := hl
  refine lv_iload_n hx hb dX8_isFew_0 rfl (lv_at hl 1 rfl) ?_
  refine lv_if_lt (tgt := 13) hx hb dX8_isFew_1 (by decide) (fun c_1 => ?_) (fun c_1 => ?_)
  · have fc_1 : n.toInt < 0 := zf_lt c_1 rfl (by decide)
    refine lv_iconst (v := 0) hx hb dX8_isFew_13 (by decide) ?_
    exact W.zret (v := 0) hx hb hr (by decide) (fun t ht hW => ⟨0, rfl, Or.inl (⟨rfl, (by first | omega | decide)⟩), ht⟩) (fun q hq => by cases hq) dX8_isFew_14
  · have fc_1 : 0 ≤ n.toInt := zf_nlt c_1 rfl (by decide)
    refine lv_iload_n hx hb dX8_isFew_4 rfl (lv_at hl 1 rfl) ?_
    refine lv_iconst (v := 4) hx hb dX8_isFew_5 (by decide) ?_
    refine lv_icmp_gt (tgt := 13) hx hb dX8_isFew_6 (by decide) (fun c_2 => ?_) (fun c_2 => ?_)
    · have fc_2 : 4 < n.toInt := zf_lt c_2 (by decide) rfl
      refine lv_iconst (v := 0) hx hb dX8_isFew_13 (by decide) ?_
      exact W.zret (v := 0) hx hb hr (by decide) (fun t ht hW => ⟨0, rfl, Or.inr (Or.inl (⟨rfl, (by first | omega | decide), (by first | omega | decide)⟩)), ht⟩) (fun q hq => by cases hq) dX8_isFew_14
    · have fc_2 : n.toInt ≤ 4 := zf_nlt c_2 (by decide) rfl
      refine lv_iconst (v := 1) hx hb dX8_isFew_9 (by decide) ?_
      refine lv_goto (tgt := 14) hx hb dX8_isFew_10 (by decide) ?_
      exact W.zret (v := 1) hx hb hr (by decide) (fun t ht hW => ⟨1, rfl, Or.inr (Or.inr (⟨rfl, (by first | omega | decide), (by first | omega | decide)⟩)), ht⟩) (fun q hq => by cases hq) dX8_isFew_14
theorem hi_X8_cases_8 : ∀ w ∈ u_ws RX8 TX8 38, w ∈ wsX8_cases := by decide +kernel
set_option maxHeartbeats 4000000 in
set_option maxRecDepth 100000 in
theorem c_M_cases (l : Launch) (D : va_G) (cI cJ cZ cP cS : ClassId) (m0 mrf mki mpa mta mla msl mco mhe mso msi msh mce mca mwo mnu mte mwa mke mma mth mtr : Nat) (n w : Int32)  (sz : Nat) : Met l yX8_cases wsX8_cases ({ frames := 6, cells := 0, slots := 0, locals := 132 }) (va_Pc [.ref m0, .int n, .int w] (zW D (zKT cI cJ cZ cP cS) [(m0, .inr (8, (.int 0 :: .int 20 :: .int 0 :: .int 0 :: .int 0 :: .int 60 :: .int 0 :: .int 3 :: .int 1 :: .int (-1) :: .ref mrf :: .ref mki :: .ref mpa :: .ref mta :: .ref mla :: .ref msl :: .ref mco :: .ref mhe :: .ref mso :: .ref msi :: .ref msh :: .ref mce :: .ref mca :: .ref mwo :: .ref mnu :: .ref mte :: .int 0 :: .int 0 :: .int 0 :: .int 0 :: .int 0 :: .ref mwa :: .ref mke :: .ref mma :: .ref mth :: .ref mtr :: .int 0 :: .int 0 :: []))), (mrf, .inl (cI, 8, .inl (fun _ => 0)))] sz)) (va_Qi (fun (r : Int32) (_ : Unit) => (r = (-15) ∧ w.toInt < 0) ∨ (r = (-16) ∧ 0 ≤ w.toInt ∧ w.toInt ≤ 2 ∧ n.toInt < 0) ∨ (r = (-16) ∧ 0 ≤ w.toInt ∧ w.toInt ≤ 2 ∧ 0 ≤ n.toInt ∧ 4 < n.toInt) ∨ (r = 1 ∧ 0 ≤ w.toInt ∧ w.toInt ≤ 2 ∧ 0 ≤ n.toInt ∧ n.toInt ≤ 4 ∧ n.toInt = 0 ∧ w.toInt ≠ 1 ∧ w.toInt ≠ 2) ∨ (r = 1 ∧ 0 ≤ w.toInt ∧ w.toInt ≤ 2 ∧ 0 ≤ n.toInt ∧ n.toInt ≤ 4 ∧ n.toInt = 0 ∧ w.toInt ≠ 1 ∧ w.toInt = 2) ∨ (r = (-1) ∧ 0 ≤ w.toInt ∧ w.toInt ≤ 2 ∧ 0 ≤ n.toInt ∧ n.toInt ≤ 4 ∧ n.toInt = 0 ∧ w.toInt = 1) ∨ (r = 12 ∧ 0 ≤ w.toInt ∧ w.toInt ≤ 2 ∧ 0 ≤ n.toInt ∧ n.toInt ≤ 4 ∧ n.toInt = 1 ∧ w.toInt ≠ 1 ∧ w.toInt ≠ 2) ∨ (r = 12 ∧ 0 ≤ w.toInt ∧ w.toInt ≤ 2 ∧ 0 ≤ n.toInt ∧ n.toInt ≤ 4 ∧ n.toInt = 1 ∧ w.toInt ≠ 1 ∧ w.toInt = 2) ∨ (r = (-1) ∧ 0 ≤ w.toInt ∧ w.toInt ≤ 2 ∧ 0 ≤ n.toInt ∧ n.toInt ≤ 4 ∧ n.toInt = 1 ∧ w.toInt = 1) ∨ (r = 144 ∧ 0 ≤ w.toInt ∧ w.toInt ≤ 2 ∧ 0 ≤ n.toInt ∧ n.toInt ≤ 4 ∧ n.toInt = 2 ∧ w.toInt ≠ 1 ∧ w.toInt ≠ 2) ∨ (r = 144 ∧ 0 ≤ w.toInt ∧ w.toInt ≤ 2 ∧ 0 ≤ n.toInt ∧ n.toInt ≤ 4 ∧ n.toInt = 2 ∧ w.toInt ≠ 1 ∧ w.toInt = 2) ∨ (r = (-1) ∧ 0 ≤ w.toInt ∧ w.toInt ≤ 2 ∧ 0 ≤ n.toInt ∧ n.toInt ≤ 4 ∧ n.toInt = 2 ∧ w.toInt = 1) ∨ (r = 1728 ∧ 0 ≤ w.toInt ∧ w.toInt ≤ 2 ∧ 0 ≤ n.toInt ∧ n.toInt ≤ 4 ∧ n.toInt = 3 ∧ w.toInt ≠ 1 ∧ w.toInt ≠ 2) ∨ (r = 1728 ∧ 0 ≤ w.toInt ∧ w.toInt ≤ 2 ∧ 0 ≤ n.toInt ∧ n.toInt ≤ 4 ∧ n.toInt = 3 ∧ w.toInt ≠ 1 ∧ w.toInt = 2) ∨ (r = (-1) ∧ 0 ≤ w.toInt ∧ w.toInt ≤ 2 ∧ 0 ≤ n.toInt ∧ n.toInt ≤ 4 ∧ n.toInt = 3 ∧ w.toInt = 1) ∨ (r = 20736 ∧ 0 ≤ w.toInt ∧ w.toInt ≤ 2 ∧ 0 ≤ n.toInt ∧ n.toInt ≤ 4 ∧ n.toInt = 4 ∧ w.toInt ≠ 1 ∧ w.toInt ≠ 2) ∨ (r = 20736 ∧ 0 ≤ w.toInt ∧ w.toInt ≤ 2 ∧ 0 ≤ n.toInt ∧ n.toInt ≤ 4 ∧ n.toInt = 4 ∧ w.toInt ≠ 1 ∧ w.toInt = 2) ∨ (r = (-1) ∧ 0 ≤ w.toInt ∧ w.toInt ≤ 2 ∧ 0 ≤ n.toInt ∧ n.toInt ≤ 4 ∧ n.toInt = 4 ∧ w.toInt = 1) ∨ (r = (-15) ∧ 0 ≤ w.toInt ∧ 2 < w.toInt)) (zB D [(m0, .inr (8, (.int 0 :: .int 20 :: .int 0 :: .int 0 :: .int 0 :: .int 60 :: .int 0 :: .int 3 :: .int 1 :: .int (-1) :: .ref mrf :: .ref mki :: .ref mpa :: .ref mta :: .ref mla :: .ref msl :: .ref mco :: .ref mhe :: .ref mso :: .ref msi :: .ref msh :: .ref mce :: .ref mca :: .ref mwo :: .ref mnu :: .ref mte :: .int 0 :: .int 0 :: .int 0 :: .int 0 :: .int 0 :: .ref mwa :: .ref mke :: .ref mma :: .ref mth :: .ref mtr :: .int 0 :: .int 0 :: []))), (mrf, .inl (cI, 8, .inl (fun _ => 0)))] sz (fun (_ : Unit) => ([] : va_W))) (va_A [(m0, .inr (8, (.int 0 :: .int 20 :: .int 0 :: .int 0 :: .int 0 :: .int 60 :: .int 0 :: .int 3 :: .int 1 :: .int (-1) :: .ref mrf :: .ref mki :: .ref mpa :: .ref mta :: .ref mla :: .ref msl :: .ref mco :: .ref mhe :: .ref mso :: .ref msi :: .ref msh :: .ref mce :: .ref mca :: .ref mwo :: .ref mnu :: .ref mte :: .int 0 :: .int 0 :: .int 0 :: .int 0 :: .int 0 :: .ref mwa :: .ref mke :: .ref mma :: .ref mth :: .ref mtr :: .int 0 :: .int 0 :: []))), (mrf, .inl (cI, 8, .inl (fun _ => 0)))] sz)) 0 0 (va_A [(m0, .inr (8, (.int 0 :: .int 20 :: .int 0 :: .int 0 :: .int 0 :: .int 60 :: .int 0 :: .int 3 :: .int 1 :: .int (-1) :: .ref mrf :: .ref mki :: .ref mpa :: .ref mta :: .ref mla :: .ref msl :: .ref mco :: .ref mhe :: .ref mso :: .ref msi :: .ref msh :: .ref mce :: .ref mca :: .ref mwo :: .ref mnu :: .ref mte :: .int 0 :: .int 0 :: .int 0 :: .int 0 :: .int 0 :: .ref mwa :: .ref mke :: .ref mma :: .ref mth :: .ref mtr :: .int 0 :: .int 0 :: []))), (mrf, .inl (cI, 8, .inl (fun _ => 0)))] sz) := by
  refine Met.ofW (cc := cX8_cases) (maxL := 3) (ret := (some .int)) (by decide) rfl ?_
  intro p e s m args below meth c s₁ B hml hv
  obtain ⟨rfl, hsz, hP, hK, hD0, hN, hZ⟩ := hv
  have hx := B.exec
  have hb := B.bytes
  have hr := B.returns
  have hts := atoms_spec (ws := wsX8_cases) B.pre
  have hown : s.vm.findClass RX8 = some m.cls := findClass_of_methodNamed B.named
  have hlocks := B.notSynchronized
  subst hsz
  have hD := hD0.self (sz := s.heap.size)
  have hA : ∀ q : Nat, s.heap.size ≤ q → va_A [(m0, .inr (8, (.int 0 :: .int 20 :: .int 0 :: .int 0 :: .int 0 :: .int 60 :: .int 0 :: .int 3 :: .int 1 :: .int (-1) :: .ref mrf :: .ref mki :: .ref mpa :: .ref mta :: .ref mla :: .ref msl :: .ref mco :: .ref mhe :: .ref mso :: .ref msi :: .ref msh :: .ref mce :: .ref mca :: .ref mwo :: .ref mnu :: .ref mte :: .int 0 :: .int 0 :: .int 0 :: .int 0 :: .int 0 :: .ref mwa :: .ref mke :: .ref mma :: .ref mth :: .ref mtr :: .int 0 :: .int 0 :: []))), (mrf, .inl (cI, 8, .inl (fun _ => 0)))] s.heap.size q := fun q h => Or.inr h
  have hS : va_S (va_A [(m0, .inr (8, (.int 0 :: .int 20 :: .int 0 :: .int 0 :: .int 0 :: .int 60 :: .int 0 :: .int 3 :: .int 1 :: .int (-1) :: .ref mrf :: .ref mki :: .ref mpa :: .ref mta :: .ref mla :: .ref msl :: .ref mco :: .ref mhe :: .ref mso :: .ref msi :: .ref msh :: .ref mce :: .ref mca :: .ref mwo :: .ref mnu :: .ref mte :: .int 0 :: .int 0 :: .int 0 :: .int 0 :: .int 0 :: .ref mwa :: .ref mke :: .ref mma :: .ref mth :: .ref mtr :: .int 0 :: .int 0 :: []))), (mrf, .inl (cI, 8, .inl (fun _ => 0)))] s.heap.size) s.heap s.heap [] := va_S.rf
  replace hP : va_P D vwCl _ s.heap := hP
  have hl := lv_entry ([.ref m0, .int n, .int w]) (n := 3) (Nat.le_of_ble_eq_true rfl)
  rw [lg_entry_eq]
  generalize (lg_sl ([.ref m0, .int n, .int w]) ++ List.replicate (3 - (lg_sl ([.ref m0, .int n, .int w])).length) Slot.unset).toArray = ls at hl ⊢
  replace hl : lv_has ls 3 [(0, .ref m0), (1, .int n), (2, .int w)] := hl
  refine zw_start (fun H locs hH hL => ?_)
  replace hP : va_P D vwCl [(m0, .inr (8, (.int 0 :: .int 20 :: .int 0 :: .int 0 :: .int 0 :: .int 60 :: .int 0 :: .int 3 :: .int 1 :: .int (-1) :: .ref mrf :: .ref mki :: .ref mpa :: .ref mta :: .ref mla :: .ref msl :: .ref mco :: .ref mhe :: .ref mso :: .ref msi :: .ref msh :: .ref mce :: .ref mca :: .ref mwo :: .ref mnu :: .ref mte :: .int 0 :: .int 0 :: .int 0 :: .int 0 :: .int 0 :: .ref mwa :: .ref mke :: .ref mma :: .ref mth :: .ref mtr :: .int 0 :: .int 0 :: []))), (mrf, .inl (cI, 8, .inl (fun _ => 0)))] H := by rw [hH]; exact hP
  replace hS : va_S (va_A [(m0, .inr (8, (.int 0 :: .int 20 :: .int 0 :: .int 0 :: .int 0 :: .int 60 :: .int 0 :: .int 3 :: .int 1 :: .int (-1) :: .ref mrf :: .ref mki :: .ref mpa :: .ref mta :: .ref mla :: .ref msl :: .ref mco :: .ref mhe :: .ref mso :: .ref msi :: .ref msh :: .ref mce :: .ref mca :: .ref mwo :: .ref mnu :: .ref mte :: .int 0 :: .int 0 :: .int 0 :: .int 0 :: .int 0 :: .ref mwa :: .ref mke :: .ref mma :: .ref mth :: .ref mtr :: .int 0 :: .int 0 :: []))), (mrf, .inl (cI, 8, .inl (fun _ => 0)))] s.heap.size) s.heap H locs := by rw [hH, hL]; exact hS
  clear hH hL
  refine lv_iload_n hx hb dX8_cases_0 rfl (lv_at hl 2 rfl) ?_
  refine lv_if_lt (tgt := 9) hx hb dX8_cases_1 (by decide) (fun c_1 => ?_) (fun c_1 => ?_)
  · have fc_1 : w.toInt < 0 := zf_lt c_1 rfl (by decide)
    refine lv_aload_n hx hb dX8_cases_9 rfl (lv_at hl 0 rfl) ?_
    refine lv_bipush (v := (-5)) hx hb dX8_cases_10 (by decide) ?_
    skip
    refine zw_V (As := [.int (-5)]) (rest := []) (wr := []) ⟨hx, hb, hml, hown, hts⟩ (c_M_noTen_5 l D cI cJ cZ cP cS m0 mrf mki mpa mta mla msl mco mhe mso msi msh mce mca mwo mnu mte mwa mke mma mth mtr  H.size) (cwV 1 hts gX8_cases_X8_noTen rfl rfl rfl (by decide +kernel) ⟨Nat.le_of_ble_eq_true rfl, Nat.le_of_ble_eq_true rfl⟩) hK hN (hZ.kept hS) hP hD hS hA [0, 1] [] rfl rfl (by decide) (by decide) (by decide) (va_recv hK hP (ci := 8) (q0 := 0) rfl rfl) rfl hl.1 rfl (Nat.le_of_ble_eq_true rfl) dX8_cases_12 ⟨Nat.le_of_ble_eq_true rfl, Nat.le_of_ble_eq_true rfl⟩ (fun r_2 u_3 H locs hr_2 hP hD hS => ?_)
    obtain rfl := hr_2
    exact W.iret (v := (-15)) hx hb hr (fun t ht hW => ⟨⟨(-15), (), rfl, Or.inl (⟨rfl, (by first | omega | decide)⟩), zP_nil, zD_nil⟩, hS.F ht⟩) hS.2.2 dX8_cases_15
  · have fc_1 : 0 ≤ w.toInt := zf_nlt c_1 rfl (by decide)
    refine lv_iload_n hx hb dX8_cases_4 rfl (lv_at hl 2 rfl) ?_
    refine lv_iconst (v := 2) hx hb dX8_cases_5 (by decide) ?_
    refine lv_icmp_le (tgt := 16) hx hb dX8_cases_6 (by decide) (fun c_4 => ?_) (fun c_4 => ?_)
    · have fc_4 : w.toInt ≤ 2 := zf_le c_4 rfl (by decide)
      refine lv_aload_n hx hb dX8_cases_16 rfl (lv_at hl 0 rfl) ?_
      refine lv_iload_n hx hb dX8_cases_17 rfl (lv_at hl 1 rfl) ?_
      refine zc_V (As := [.int n]) (rest := []) ⟨hx, hb, hml, hown, hts⟩ (c_M_isFew l D cI cJ cZ cP cS m0 mrf mki mpa mta mla msl mco mhe mso msi msh mce mca mwo mnu mte mwa mke mma mth mtr (n) ) (cwV 1 hts gX8_cases_X8_isFew rfl rfl rfl (by decide +kernel) ⟨Nat.le_of_ble_eq_true rfl, Nat.le_of_ble_eq_true rfl⟩) hK hN (hZ.kept hS) hP [0] rfl (va_recv hK hP (ci := 8) (q0 := 0) rfl rfl) rfl hl.1 rfl (Nat.le_of_ble_eq_true rfl) dX8_cases_18 ⟨Nat.le_of_ble_eq_true rfl, Nat.le_of_ble_eq_true rfl⟩ (fun r_5 hr_5 => ?_)
      rcases hr_5 with ⟨rfl, g_6⟩ | ⟨rfl, g_7, g_8⟩ | ⟨rfl, g_9, g_10⟩
      · refine lv_if_ne (tgt := 31) hx hb dX8_cases_21 (by decide) (fun c_11 => ?_) (fun c_11 => ?_)
        · exact absurd c_11 (by decide)
        · refine lv_aload_n hx hb dX8_cases_24 rfl (lv_at hl 0 rfl) ?_
          refine lv_bipush (v := (-6)) hx hb dX8_cases_25 (by decide) ?_
          skip
          refine zw_V (As := [.int (-6)]) (rest := []) (wr := []) ⟨hx, hb, hml, hown, hts⟩ (c_M_noTen_6 l D cI cJ cZ cP cS m0 mrf mki mpa mta mla msl mco mhe mso msi msh mce mca mwo mnu mte mwa mke mma mth mtr  H.size) (cwV 1 hts gX8_cases_X8_noTen rfl rfl rfl (by decide +kernel) ⟨Nat.le_of_ble_eq_true rfl, Nat.le_of_ble_eq_true rfl⟩) hK hN (hZ.kept hS) hP hD hS hA [0, 1] [] rfl rfl (by decide) (by decide) (by decide) (va_recv hK hP (ci := 8) (q0 := 0) rfl rfl) rfl hl.1 rfl (Nat.le_of_ble_eq_true rfl) dX8_cases_27 ⟨Nat.le_of_ble_eq_true rfl, Nat.le_of_ble_eq_true rfl⟩ (fun r_12 u_13 H locs hr_12 hP hD hS => ?_)
          obtain rfl := hr_12
          exact W.iret (v := (-16)) hx hb hr (fun t ht hW => ⟨⟨(-16), (), rfl, Or.inr (Or.inl (⟨rfl, (by first | omega | decide), (by first | omega | decide), (by first | omega | decide)⟩)), zP_nil, zD_nil⟩, hS.F ht⟩) hS.2.2 dX8_cases_30
      · refine lv_if_ne (tgt := 31) hx hb dX8_cases_21 (by decide) (fun c_14 => ?_) (fun c_14 => ?_)
        · exact absurd c_14 (by decide)
        · refine lv_aload_n hx hb dX8_cases_24 rfl (lv_at hl 0 rfl) ?_
          refine lv_bipush (v := (-6)) hx hb dX8_cases_25 (by decide) ?_
          skip
          refine zw_V (As := [.int (-6)]) (rest := []) (wr := []) ⟨hx, hb, hml, hown, hts⟩ (c_M_noTen_6 l D cI cJ cZ cP cS m0 mrf mki mpa mta mla msl mco mhe mso msi msh mce mca mwo mnu mte mwa mke mma mth mtr  H.size) (cwV 1 hts gX8_cases_X8_noTen rfl rfl rfl (by decide +kernel) ⟨Nat.le_of_ble_eq_true rfl, Nat.le_of_ble_eq_true rfl⟩) hK hN (hZ.kept hS) hP hD hS hA [0, 1] [] rfl rfl (by decide) (by decide) (by decide) (va_recv hK hP (ci := 8) (q0 := 0) rfl rfl) rfl hl.1 rfl (Nat.le_of_ble_eq_true rfl) dX8_cases_27 ⟨Nat.le_of_ble_eq_true rfl, Nat.le_of_ble_eq_true rfl⟩ (fun r_15 u_16 H locs hr_15 hP hD hS => ?_)
          obtain rfl := hr_15
          exact W.iret (v := (-16)) hx hb hr (fun t ht hW => ⟨⟨(-16), (), rfl, Or.inr (Or.inr (Or.inl (⟨rfl, (by first | omega | decide), (by first | omega | decide), (by first | omega | decide), (by first | omega | decide)⟩))), zP_nil, zD_nil⟩, hS.F ht⟩) hS.2.2 dX8_cases_30
      · refine lv_if_ne (tgt := 31) hx hb dX8_cases_21 (by decide) (fun c_17 => ?_) (fun c_17 => ?_)
        · have hsp : n = 0 ∨ n = 1 ∨ n = 2 ∨ n = 3 ∨ n = 4 := by
            rcases (show n.toInt = 0 ∨ n.toInt = 1 ∨ n.toInt = 2 ∨ n.toInt = 3 ∨ n.toInt = 4 by omega) with h9 | h9 | h9 | h9 | h9
            · refine Or.inl ?_; exact zf_val h9 (by decide)
            · refine Or.inr (Or.inl ?_); exact zf_val h9 (by decide)
            · refine Or.inr (Or.inr (Or.inl ?_)); exact zf_val h9 (by decide)
            · refine Or.inr (Or.inr (Or.inr (Or.inl ?_))); exact zf_val h9 (by decide)
            · refine Or.inr (Or.inr (Or.inr (Or.inr (?_)))); exact zf_val h9 (by decide)
          rcases hsp with rfl | rfl | rfl | rfl | rfl
          · refine lv_iload_n hx hb dX8_cases_31 rfl (lv_at hl 2 rfl) ?_
            refine lv_iconst (v := 1) hx hb dX8_cases_32 (by decide) ?_
            refine lv_icmp_ne (tgt := 44) hx hb dX8_cases_33 (by decide) (fun c_18 => ?_) (fun c_18 => ?_)
            · have fc_18 : w.toInt ≠ 1 := zf_ne c_18 rfl (by decide)
              refine lv_aload_n hx hb dX8_cases_44 rfl (lv_at hl 0 rfl) ?_
              refine lv_iload_n hx hb dX8_cases_45 rfl (lv_at hl 1 rfl) ?_
              refine lv_aload_n hx hb dX8_cases_46 rfl (lv_at hl 0 rfl) ?_
              refine va_get (D := D) (ci := 8) (v := .int 0) (C := RX8) (T := TX8) (N := 38) hx hb hts hi_X8_cases_8 hown hK hP 0 rfl rfl 3 (by decide) (hts (.fieldLink RX8 115 "TheLiningsInItModel" "depth" "I") (List.mem_of_getElem? (i := 1) rfl)) (fun _ h9 => h9) rfl dX8_cases_47 ?_
              refine lv_aload_n hx hb dX8_cases_50 rfl (lv_at hl 0 rfl) ?_
              refine va_get (D := D) (ci := 8) (v := .int 60) (C := RX8) (T := TX8) (N := 38) hx hb hts hi_X8_cases_8 hown hK hP 0 rfl rfl 5 (by decide) (hts (.fieldLink RX8 13 "TheLiningsInItModel" "seconds" "I") (List.mem_of_getElem? (i := 2) rfl)) (fun _ h9 => h9) rfl dX8_cases_51 ?_
              refine lv_iload_n hx hb dX8_cases_54 rfl (lv_at hl 2 rfl) ?_
              refine lv_iconst (v := 2) hx hb dX8_cases_55 (by decide) ?_
              refine lv_icmp_ne (tgt := 63) hx hb dX8_cases_56 (by decide) (fun c_19 => ?_) (fun c_19 => ?_)
              · have fc_19 : w.toInt ≠ 2 := zf_ne c_19 rfl (by decide)
                refine lv_iconst (v := 0) hx hb dX8_cases_63 (by decide) ?_
                refine zc_V (As := [.int 0, .int 0, .int 60, .int 0]) (rest := []) ⟨hx, hb, hml, hown, hts⟩ (c_M_mostCases_0 l D cI cJ cZ cP cS m0 mrf mki mpa mta mla msl mco mhe mso msi msh mce mca mwo mnu mte mwa mke mma mth mtr (0) (60) (0) ) (cwV 4 hts gX8_cases_X8_mostCases rfl rfl rfl (by decide +kernel) ⟨Nat.le_of_ble_eq_true rfl, Nat.le_of_ble_eq_true rfl⟩) hK hN (hZ.kept hS) hP [0] rfl (va_recv hK hP (ci := 8) (q0 := 0) rfl rfl) rfl hl.1 rfl (Nat.le_of_ble_eq_true rfl) dX8_cases_64 ⟨Nat.le_of_ble_eq_true rfl, Nat.le_of_ble_eq_true rfl⟩ (fun r_20 hr_20 => ?_)
                obtain rfl := hr_20
                exact W.iret (v := 1) hx hb hr (fun t ht hW => ⟨⟨1, (), rfl, Or.inr (Or.inr (Or.inr (Or.inl (⟨rfl, (by first | omega | decide), (by first | omega | decide), (by first | omega | decide), (by first | omega | decide), (by first | omega | decide), (by first | omega | decide), (by first | omega | decide)⟩)))), zP_nil, zD_nil⟩, hS.F ht⟩) hS.2.2 dX8_cases_67
              · have fc_19 : w.toInt = 2 := zf_eq c_19 rfl (by decide)
                refine lv_iconst (v := 1) hx hb dX8_cases_59 (by decide) ?_
                refine lv_goto (tgt := 64) hx hb dX8_cases_60 (by decide) ?_
                refine zc_V (As := [.int 0, .int 0, .int 60, .int 1]) (rest := []) ⟨hx, hb, hml, hown, hts⟩ (c_M_mostCases_0 l D cI cJ cZ cP cS m0 mrf mki mpa mta mla msl mco mhe mso msi msh mce mca mwo mnu mte mwa mke mma mth mtr (0) (60) (1) ) (cwV 4 hts gX8_cases_X8_mostCases rfl rfl rfl (by decide +kernel) ⟨Nat.le_of_ble_eq_true rfl, Nat.le_of_ble_eq_true rfl⟩) hK hN (hZ.kept hS) hP [0] rfl (va_recv hK hP (ci := 8) (q0 := 0) rfl rfl) rfl hl.1 rfl (Nat.le_of_ble_eq_true rfl) dX8_cases_64 ⟨Nat.le_of_ble_eq_true rfl, Nat.le_of_ble_eq_true rfl⟩ (fun r_21 hr_21 => ?_)
                obtain rfl := hr_21
                exact W.iret (v := 1) hx hb hr (fun t ht hW => ⟨⟨1, (), rfl, Or.inr (Or.inr (Or.inr (Or.inr (Or.inl (⟨rfl, (by first | omega | decide), (by first | omega | decide), (by first | omega | decide), (by first | omega | decide), (by first | omega | decide), (by first | omega | decide), (by first | omega | decide)⟩))))), zP_nil, zD_nil⟩, hS.F ht⟩) hS.2.2 dX8_cases_67
            · have fc_18 : w.toInt = 1 := zf_eq c_18 rfl (by decide)
              refine lv_aload_n hx hb dX8_cases_36 rfl (lv_at hl 0 rfl) ?_
              refine lv_iload_n hx hb dX8_cases_37 rfl (lv_at hl 1 rfl) ?_
              refine zc_V (As := [.int 0]) (rest := []) ⟨hx, hb, hml, hown, hts⟩ (c_M_nextOf l D cI cJ cZ cP cS m0 mrf mki mpa mta mla msl mco mhe mso msi msh mce mca mwo mnu mte mwa mke mma mth mtr (0) ) (cwV 1 hts gX8_cases_X8_nextOf rfl rfl rfl (by decide +kernel) ⟨Nat.le_of_ble_eq_true rfl, Nat.le_of_ble_eq_true rfl⟩) hK hN (hZ.kept hS) hP [0] rfl (va_recv hK hP (ci := 8) (q0 := 0) rfl rfl) rfl hl.1 rfl (Nat.le_of_ble_eq_true rfl) dX8_cases_38 ⟨Nat.le_of_ble_eq_true rfl, Nat.le_of_ble_eq_true rfl⟩ (fun r_22 hr_22 => ?_)
              obtain rfl := hr_22
              refine lv_goto (tgt := 67) hx hb dX8_cases_41 (by decide) ?_
              exact W.iret (v := (-1)) hx hb hr (fun t ht hW => ⟨⟨(-1), (), rfl, Or.inr (Or.inr (Or.inr (Or.inr (Or.inr (Or.inl (⟨rfl, (by first | omega | decide), (by first | omega | decide), (by first | omega | decide), (by first | omega | decide), (by first | omega | decide), (by first | omega | decide)⟩)))))), zP_nil, zD_nil⟩, hS.F ht⟩) hS.2.2 dX8_cases_67
          · refine lv_iload_n hx hb dX8_cases_31 rfl (lv_at hl 2 rfl) ?_
            refine lv_iconst (v := 1) hx hb dX8_cases_32 (by decide) ?_
            refine lv_icmp_ne (tgt := 44) hx hb dX8_cases_33 (by decide) (fun c_23 => ?_) (fun c_23 => ?_)
            · have fc_23 : w.toInt ≠ 1 := zf_ne c_23 rfl (by decide)
              refine lv_aload_n hx hb dX8_cases_44 rfl (lv_at hl 0 rfl) ?_
              refine lv_iload_n hx hb dX8_cases_45 rfl (lv_at hl 1 rfl) ?_
              refine lv_aload_n hx hb dX8_cases_46 rfl (lv_at hl 0 rfl) ?_
              refine va_get (D := D) (ci := 8) (v := .int 0) (C := RX8) (T := TX8) (N := 38) hx hb hts hi_X8_cases_8 hown hK hP 0 rfl rfl 3 (by decide) (hts (.fieldLink RX8 115 "TheLiningsInItModel" "depth" "I") (List.mem_of_getElem? (i := 1) rfl)) (fun _ h9 => h9) rfl dX8_cases_47 ?_
              refine lv_aload_n hx hb dX8_cases_50 rfl (lv_at hl 0 rfl) ?_
              refine va_get (D := D) (ci := 8) (v := .int 60) (C := RX8) (T := TX8) (N := 38) hx hb hts hi_X8_cases_8 hown hK hP 0 rfl rfl 5 (by decide) (hts (.fieldLink RX8 13 "TheLiningsInItModel" "seconds" "I") (List.mem_of_getElem? (i := 2) rfl)) (fun _ h9 => h9) rfl dX8_cases_51 ?_
              refine lv_iload_n hx hb dX8_cases_54 rfl (lv_at hl 2 rfl) ?_
              refine lv_iconst (v := 2) hx hb dX8_cases_55 (by decide) ?_
              refine lv_icmp_ne (tgt := 63) hx hb dX8_cases_56 (by decide) (fun c_24 => ?_) (fun c_24 => ?_)
              · have fc_24 : w.toInt ≠ 2 := zf_ne c_24 rfl (by decide)
                refine lv_iconst (v := 0) hx hb dX8_cases_63 (by decide) ?_
                refine zc_V (As := [.int 1, .int 0, .int 60, .int 0]) (rest := []) ⟨hx, hb, hml, hown, hts⟩ (c_M_mostCases_1 l D cI cJ cZ cP cS m0 mrf mki mpa mta mla msl mco mhe mso msi msh mce mca mwo mnu mte mwa mke mma mth mtr (0) (60) (0) ) (cwV 4 hts gX8_cases_X8_mostCases rfl rfl rfl (by decide +kernel) ⟨Nat.le_of_ble_eq_true rfl, Nat.le_of_ble_eq_true rfl⟩) hK hN (hZ.kept hS) hP [0] rfl (va_recv hK hP (ci := 8) (q0 := 0) rfl rfl) rfl hl.1 rfl (Nat.le_of_ble_eq_true rfl) dX8_cases_64 ⟨Nat.le_of_ble_eq_true rfl, Nat.le_of_ble_eq_true rfl⟩ (fun r_25 hr_25 => ?_)
                obtain rfl := hr_25
                exact W.iret (v := 12) hx hb hr (fun t ht hW => ⟨⟨12, (), rfl, Or.inr (Or.inr (Or.inr (Or.inr (Or.inr (Or.inr (Or.inl (⟨rfl, (by first | omega | decide), (by first | omega | decide), (by first | omega | decide), (by first | omega | decide), (by first | omega | decide), (by first | omega | decide), (by first | omega | decide)⟩))))))), zP_nil, zD_nil⟩, hS.F ht⟩) hS.2.2 dX8_cases_67
              · have fc_24 : w.toInt = 2 := zf_eq c_24 rfl (by decide)
                refine lv_iconst (v := 1) hx hb dX8_cases_59 (by decide) ?_
                refine lv_goto (tgt := 64) hx hb dX8_cases_60 (by decide) ?_
                refine zc_V (As := [.int 1, .int 0, .int 60, .int 1]) (rest := []) ⟨hx, hb, hml, hown, hts⟩ (c_M_mostCases_1 l D cI cJ cZ cP cS m0 mrf mki mpa mta mla msl mco mhe mso msi msh mce mca mwo mnu mte mwa mke mma mth mtr (0) (60) (1) ) (cwV 4 hts gX8_cases_X8_mostCases rfl rfl rfl (by decide +kernel) ⟨Nat.le_of_ble_eq_true rfl, Nat.le_of_ble_eq_true rfl⟩) hK hN (hZ.kept hS) hP [0] rfl (va_recv hK hP (ci := 8) (q0 := 0) rfl rfl) rfl hl.1 rfl (Nat.le_of_ble_eq_true rfl) dX8_cases_64 ⟨Nat.le_of_ble_eq_true rfl, Nat.le_of_ble_eq_true rfl⟩ (fun r_26 hr_26 => ?_)
                obtain rfl := hr_26
                exact W.iret (v := 12) hx hb hr (fun t ht hW => ⟨⟨12, (), rfl, Or.inr (Or.inr (Or.inr (Or.inr (Or.inr (Or.inr (Or.inr (Or.inl (⟨rfl, (by first | omega | decide), (by first | omega | decide), (by first | omega | decide), (by first | omega | decide), (by first | omega | decide), (by first | omega | decide), (by first | omega | decide)⟩)))))))), zP_nil, zD_nil⟩, hS.F ht⟩) hS.2.2 dX8_cases_67
            · have fc_23 : w.toInt = 1 := zf_eq c_23 rfl (by decide)
              refine lv_aload_n hx hb dX8_cases_36 rfl (lv_at hl 0 rfl) ?_
              refine lv_iload_n hx hb dX8_cases_37 rfl (lv_at hl 1 rfl) ?_
              refine zc_V (As := [.int 1]) (rest := []) ⟨hx, hb, hml, hown, hts⟩ (c_M_nextOf l D cI cJ cZ cP cS m0 mrf mki mpa mta mla msl mco mhe mso msi msh mce mca mwo mnu mte mwa mke mma mth mtr (1) ) (cwV 1 hts gX8_cases_X8_nextOf rfl rfl rfl (by decide +kernel) ⟨Nat.le_of_ble_eq_true rfl, Nat.le_of_ble_eq_true rfl⟩) hK hN (hZ.kept hS) hP [0] rfl (va_recv hK hP (ci := 8) (q0 := 0) rfl rfl) rfl hl.1 rfl (Nat.le_of_ble_eq_true rfl) dX8_cases_38 ⟨Nat.le_of_ble_eq_true rfl, Nat.le_of_ble_eq_true rfl⟩ (fun r_27 hr_27 => ?_)
              obtain rfl := hr_27
              refine lv_goto (tgt := 67) hx hb dX8_cases_41 (by decide) ?_
              exact W.iret (v := (-1)) hx hb hr (fun t ht hW => ⟨⟨(-1), (), rfl, Or.inr (Or.inr (Or.inr (Or.inr (Or.inr (Or.inr (Or.inr (Or.inr (Or.inl (⟨rfl, (by first | omega | decide), (by first | omega | decide), (by first | omega | decide), (by first | omega | decide), (by first | omega | decide), (by first | omega | decide)⟩))))))))), zP_nil, zD_nil⟩, hS.F ht⟩) hS.2.2 dX8_cases_67
          · refine lv_iload_n hx hb dX8_cases_31 rfl (lv_at hl 2 rfl) ?_
            refine lv_iconst (v := 1) hx hb dX8_cases_32 (by decide) ?_
            refine lv_icmp_ne (tgt := 44) hx hb dX8_cases_33 (by decide) (fun c_28 => ?_) (fun c_28 => ?_)
            · have fc_28 : w.toInt ≠ 1 := zf_ne c_28 rfl (by decide)
              refine lv_aload_n hx hb dX8_cases_44 rfl (lv_at hl 0 rfl) ?_
              refine lv_iload_n hx hb dX8_cases_45 rfl (lv_at hl 1 rfl) ?_
              refine lv_aload_n hx hb dX8_cases_46 rfl (lv_at hl 0 rfl) ?_
              refine va_get (D := D) (ci := 8) (v := .int 0) (C := RX8) (T := TX8) (N := 38) hx hb hts hi_X8_cases_8 hown hK hP 0 rfl rfl 3 (by decide) (hts (.fieldLink RX8 115 "TheLiningsInItModel" "depth" "I") (List.mem_of_getElem? (i := 1) rfl)) (fun _ h9 => h9) rfl dX8_cases_47 ?_
              refine lv_aload_n hx hb dX8_cases_50 rfl (lv_at hl 0 rfl) ?_
              refine va_get (D := D) (ci := 8) (v := .int 60) (C := RX8) (T := TX8) (N := 38) hx hb hts hi_X8_cases_8 hown hK hP 0 rfl rfl 5 (by decide) (hts (.fieldLink RX8 13 "TheLiningsInItModel" "seconds" "I") (List.mem_of_getElem? (i := 2) rfl)) (fun _ h9 => h9) rfl dX8_cases_51 ?_
              refine lv_iload_n hx hb dX8_cases_54 rfl (lv_at hl 2 rfl) ?_
              refine lv_iconst (v := 2) hx hb dX8_cases_55 (by decide) ?_
              refine lv_icmp_ne (tgt := 63) hx hb dX8_cases_56 (by decide) (fun c_29 => ?_) (fun c_29 => ?_)
              · have fc_29 : w.toInt ≠ 2 := zf_ne c_29 rfl (by decide)
                refine lv_iconst (v := 0) hx hb dX8_cases_63 (by decide) ?_
                refine zc_V (As := [.int 2, .int 0, .int 60, .int 0]) (rest := []) ⟨hx, hb, hml, hown, hts⟩ (c_M_mostCases_2 l D cI cJ cZ cP cS m0 mrf mki mpa mta mla msl mco mhe mso msi msh mce mca mwo mnu mte mwa mke mma mth mtr (0) (60) (0) ) (cwV 4 hts gX8_cases_X8_mostCases rfl rfl rfl (by decide +kernel) ⟨Nat.le_of_ble_eq_true rfl, Nat.le_of_ble_eq_true rfl⟩) hK hN (hZ.kept hS) hP [0] rfl (va_recv hK hP (ci := 8) (q0 := 0) rfl rfl) rfl hl.1 rfl (Nat.le_of_ble_eq_true rfl) dX8_cases_64 ⟨Nat.le_of_ble_eq_true rfl, Nat.le_of_ble_eq_true rfl⟩ (fun r_30 hr_30 => ?_)
                obtain rfl := hr_30
                exact W.iret (v := 144) hx hb hr (fun t ht hW => ⟨⟨144, (), rfl, Or.inr (Or.inr (Or.inr (Or.inr (Or.inr (Or.inr (Or.inr (Or.inr (Or.inr (Or.inl (⟨rfl, (by first | omega | decide), (by first | omega | decide), (by first | omega | decide), (by first | omega | decide), (by first | omega | decide), (by first | omega | decide), (by first | omega | decide)⟩)))))))))), zP_nil, zD_nil⟩, hS.F ht⟩) hS.2.2 dX8_cases_67
              · have fc_29 : w.toInt = 2 := zf_eq c_29 rfl (by decide)
                refine lv_iconst (v := 1) hx hb dX8_cases_59 (by decide) ?_
                refine lv_goto (tgt := 64) hx hb dX8_cases_60 (by decide) ?_
                refine zc_V (As := [.int 2, .int 0, .int 60, .int 1]) (rest := []) ⟨hx, hb, hml, hown, hts⟩ (c_M_mostCases_2 l D cI cJ cZ cP cS m0 mrf mki mpa mta mla msl mco mhe mso msi msh mce mca mwo mnu mte mwa mke mma mth mtr (0) (60) (1) ) (cwV 4 hts gX8_cases_X8_mostCases rfl rfl rfl (by decide +kernel) ⟨Nat.le_of_ble_eq_true rfl, Nat.le_of_ble_eq_true rfl⟩) hK hN (hZ.kept hS) hP [0] rfl (va_recv hK hP (ci := 8) (q0 := 0) rfl rfl) rfl hl.1 rfl (Nat.le_of_ble_eq_true rfl) dX8_cases_64 ⟨Nat.le_of_ble_eq_true rfl, Nat.le_of_ble_eq_true rfl⟩ (fun r_31 hr_31 => ?_)
                obtain rfl := hr_31
                exact W.iret (v := 144) hx hb hr (fun t ht hW => ⟨⟨144, (), rfl, Or.inr (Or.inr (Or.inr (Or.inr (Or.inr (Or.inr (Or.inr (Or.inr (Or.inr (Or.inr (Or.inl (⟨rfl, (by first | omega | decide), (by first | omega | decide), (by first | omega | decide), (by first | omega | decide), (by first | omega | decide), (by first | omega | decide), (by first | omega | decide)⟩))))))))))), zP_nil, zD_nil⟩, hS.F ht⟩) hS.2.2 dX8_cases_67
            · have fc_28 : w.toInt = 1 := zf_eq c_28 rfl (by decide)
              refine lv_aload_n hx hb dX8_cases_36 rfl (lv_at hl 0 rfl) ?_
              refine lv_iload_n hx hb dX8_cases_37 rfl (lv_at hl 1 rfl) ?_
              refine zc_V (As := [.int 2]) (rest := []) ⟨hx, hb, hml, hown, hts⟩ (c_M_nextOf l D cI cJ cZ cP cS m0 mrf mki mpa mta mla msl mco mhe mso msi msh mce mca mwo mnu mte mwa mke mma mth mtr (2) ) (cwV 1 hts gX8_cases_X8_nextOf rfl rfl rfl (by decide +kernel) ⟨Nat.le_of_ble_eq_true rfl, Nat.le_of_ble_eq_true rfl⟩) hK hN (hZ.kept hS) hP [0] rfl (va_recv hK hP (ci := 8) (q0 := 0) rfl rfl) rfl hl.1 rfl (Nat.le_of_ble_eq_true rfl) dX8_cases_38 ⟨Nat.le_of_ble_eq_true rfl, Nat.le_of_ble_eq_true rfl⟩ (fun r_32 hr_32 => ?_)
              obtain rfl := hr_32
              refine lv_goto (tgt := 67) hx hb dX8_cases_41 (by decide) ?_
              exact W.iret (v := (-1)) hx hb hr (fun t ht hW => ⟨⟨(-1), (), rfl, Or.inr (Or.inr (Or.inr (Or.inr (Or.inr (Or.inr (Or.inr (Or.inr (Or.inr (Or.inr (Or.inr (Or.inl (⟨rfl, (by first | omega | decide), (by first | omega | decide), (by first | omega | decide), (by first | omega | decide), (by first | omega | decide), (by first | omega | decide)⟩)))))))))))), zP_nil, zD_nil⟩, hS.F ht⟩) hS.2.2 dX8_cases_67
          · refine lv_iload_n hx hb dX8_cases_31 rfl (lv_at hl 2 rfl) ?_
            refine lv_iconst (v := 1) hx hb dX8_cases_32 (by decide) ?_
            refine lv_icmp_ne (tgt := 44) hx hb dX8_cases_33 (by decide) (fun c_33 => ?_) (fun c_33 => ?_)
            · have fc_33 : w.toInt ≠ 1 := zf_ne c_33 rfl (by decide)
              refine lv_aload_n hx hb dX8_cases_44 rfl (lv_at hl 0 rfl) ?_
              refine lv_iload_n hx hb dX8_cases_45 rfl (lv_at hl 1 rfl) ?_
              refine lv_aload_n hx hb dX8_cases_46 rfl (lv_at hl 0 rfl) ?_
              refine va_get (D := D) (ci := 8) (v := .int 0) (C := RX8) (T := TX8) (N := 38) hx hb hts hi_X8_cases_8 hown hK hP 0 rfl rfl 3 (by decide) (hts (.fieldLink RX8 115 "TheLiningsInItModel" "depth" "I") (List.mem_of_getElem? (i := 1) rfl)) (fun _ h9 => h9) rfl dX8_cases_47 ?_
              refine lv_aload_n hx hb dX8_cases_50 rfl (lv_at hl 0 rfl) ?_
              refine va_get (D := D) (ci := 8) (v := .int 60) (C := RX8) (T := TX8) (N := 38) hx hb hts hi_X8_cases_8 hown hK hP 0 rfl rfl 5 (by decide) (hts (.fieldLink RX8 13 "TheLiningsInItModel" "seconds" "I") (List.mem_of_getElem? (i := 2) rfl)) (fun _ h9 => h9) rfl dX8_cases_51 ?_
              refine lv_iload_n hx hb dX8_cases_54 rfl (lv_at hl 2 rfl) ?_
              refine lv_iconst (v := 2) hx hb dX8_cases_55 (by decide) ?_
              refine lv_icmp_ne (tgt := 63) hx hb dX8_cases_56 (by decide) (fun c_34 => ?_) (fun c_34 => ?_)
              · have fc_34 : w.toInt ≠ 2 := zf_ne c_34 rfl (by decide)
                refine lv_iconst (v := 0) hx hb dX8_cases_63 (by decide) ?_
                refine zc_V (As := [.int 3, .int 0, .int 60, .int 0]) (rest := []) ⟨hx, hb, hml, hown, hts⟩ (c_M_mostCases_3 l D cI cJ cZ cP cS m0 mrf mki mpa mta mla msl mco mhe mso msi msh mce mca mwo mnu mte mwa mke mma mth mtr (0) (60) (0) ) (cwV 4 hts gX8_cases_X8_mostCases rfl rfl rfl (by decide +kernel) ⟨Nat.le_of_ble_eq_true rfl, Nat.le_of_ble_eq_true rfl⟩) hK hN (hZ.kept hS) hP [0] rfl (va_recv hK hP (ci := 8) (q0 := 0) rfl rfl) rfl hl.1 rfl (Nat.le_of_ble_eq_true rfl) dX8_cases_64 ⟨Nat.le_of_ble_eq_true rfl, Nat.le_of_ble_eq_true rfl⟩ (fun r_35 hr_35 => ?_)
                obtain rfl := hr_35
                exact W.iret (v := 1728) hx hb hr (fun t ht hW => ⟨⟨1728, (), rfl, Or.inr (Or.inr (Or.inr (Or.inr (Or.inr (Or.inr (Or.inr (Or.inr (Or.inr (Or.inr (Or.inr (Or.inr (Or.inl (⟨rfl, (by first | omega | decide), (by first | omega | decide), (by first | omega | decide), (by first | omega | decide), (by first | omega | decide), (by first | omega | decide), (by first | omega | decide)⟩))))))))))))), zP_nil, zD_nil⟩, hS.F ht⟩) hS.2.2 dX8_cases_67
              · have fc_34 : w.toInt = 2 := zf_eq c_34 rfl (by decide)
                refine lv_iconst (v := 1) hx hb dX8_cases_59 (by decide) ?_
                refine lv_goto (tgt := 64) hx hb dX8_cases_60 (by decide) ?_
                refine zc_V (As := [.int 3, .int 0, .int 60, .int 1]) (rest := []) ⟨hx, hb, hml, hown, hts⟩ (c_M_mostCases_3 l D cI cJ cZ cP cS m0 mrf mki mpa mta mla msl mco mhe mso msi msh mce mca mwo mnu mte mwa mke mma mth mtr (0) (60) (1) ) (cwV 4 hts gX8_cases_X8_mostCases rfl rfl rfl (by decide +kernel) ⟨Nat.le_of_ble_eq_true rfl, Nat.le_of_ble_eq_true rfl⟩) hK hN (hZ.kept hS) hP [0] rfl (va_recv hK hP (ci := 8) (q0 := 0) rfl rfl) rfl hl.1 rfl (Nat.le_of_ble_eq_true rfl) dX8_cases_64 ⟨Nat.le_of_ble_eq_true rfl, Nat.le_of_ble_eq_true rfl⟩ (fun r_36 hr_36 => ?_)
                obtain rfl := hr_36
                exact W.iret (v := 1728) hx hb hr (fun t ht hW => ⟨⟨1728, (), rfl, Or.inr (Or.inr (Or.inr (Or.inr (Or.inr (Or.inr (Or.inr (Or.inr (Or.inr (Or.inr (Or.inr (Or.inr (Or.inr (Or.inl (⟨rfl, (by first | omega | decide), (by first | omega | decide), (by first | omega | decide), (by first | omega | decide), (by first | omega | decide), (by first | omega | decide), (by first | omega | decide)⟩)))))))))))))), zP_nil, zD_nil⟩, hS.F ht⟩) hS.2.2 dX8_cases_67
            · have fc_33 : w.toInt = 1 := zf_eq c_33 rfl (by decide)
              refine lv_aload_n hx hb dX8_cases_36 rfl (lv_at hl 0 rfl) ?_
              refine lv_iload_n hx hb dX8_cases_37 rfl (lv_at hl 1 rfl) ?_
              refine zc_V (As := [.int 3]) (rest := []) ⟨hx, hb, hml, hown, hts⟩ (c_M_nextOf l D cI cJ cZ cP cS m0 mrf mki mpa mta mla msl mco mhe mso msi msh mce mca mwo mnu mte mwa mke mma mth mtr (3) ) (cwV 1 hts gX8_cases_X8_nextOf rfl rfl rfl (by decide +kernel) ⟨Nat.le_of_ble_eq_true rfl, Nat.le_of_ble_eq_true rfl⟩) hK hN (hZ.kept hS) hP [0] rfl (va_recv hK hP (ci := 8) (q0 := 0) rfl rfl) rfl hl.1 rfl (Nat.le_of_ble_eq_true rfl) dX8_cases_38 ⟨Nat.le_of_ble_eq_true rfl, Nat.le_of_ble_eq_true rfl⟩ (fun r_37 hr_37 => ?_)
              obtain rfl := hr_37
              refine lv_goto (tgt := 67) hx hb dX8_cases_41 (by decide) ?_
              exact W.iret (v := (-1)) hx hb hr (fun t ht hW => ⟨⟨(-1), (), rfl, Or.inr (Or.inr (Or.inr (Or.inr (Or.inr (Or.inr (Or.inr (Or.inr (Or.inr (Or.inr (Or.inr (Or.inr (Or.inr (Or.inr (Or.inl (⟨rfl, (by first | omega | decide), (by first | omega | decide), (by first | omega | decide), (by first | omega | decide), (by first | omega | decide), (by first | omega | decide)⟩))))))))))))))), zP_nil, zD_nil⟩, hS.F ht⟩) hS.2.2 dX8_cases_67
          · refine lv_iload_n hx hb dX8_cases_31 rfl (lv_at hl 2 rfl) ?_
            refine lv_iconst (v := 1) hx hb dX8_cases_32 (by decide) ?_
            refine lv_icmp_ne (tgt := 44) hx hb dX8_cases_33 (by decide) (fun c_38 => ?_) (fun c_38 => ?_)
            · have fc_38 : w.toInt ≠ 1 := zf_ne c_38 rfl (by decide)
              refine lv_aload_n hx hb dX8_cases_44 rfl (lv_at hl 0 rfl) ?_
              refine lv_iload_n hx hb dX8_cases_45 rfl (lv_at hl 1 rfl) ?_
              refine lv_aload_n hx hb dX8_cases_46 rfl (lv_at hl 0 rfl) ?_
              refine va_get (D := D) (ci := 8) (v := .int 0) (C := RX8) (T := TX8) (N := 38) hx hb hts hi_X8_cases_8 hown hK hP 0 rfl rfl 3 (by decide) (hts (.fieldLink RX8 115 "TheLiningsInItModel" "depth" "I") (List.mem_of_getElem? (i := 1) rfl)) (fun _ h9 => h9) rfl dX8_cases_47 ?_
              refine lv_aload_n hx hb dX8_cases_50 rfl (lv_at hl 0 rfl) ?_
              refine va_get (D := D) (ci := 8) (v := .int 60) (C := RX8) (T := TX8) (N := 38) hx hb hts hi_X8_cases_8 hown hK hP 0 rfl rfl 5 (by decide) (hts (.fieldLink RX8 13 "TheLiningsInItModel" "seconds" "I") (List.mem_of_getElem? (i := 2) rfl)) (fun _ h9 => h9) rfl dX8_cases_51 ?_
              refine lv_iload_n hx hb dX8_cases_54 rfl (lv_at hl 2 rfl) ?_
              refine lv_iconst (v := 2) hx hb dX8_cases_55 (by decide) ?_
              refine lv_icmp_ne (tgt := 63) hx hb dX8_cases_56 (by decide) (fun c_39 => ?_) (fun c_39 => ?_)
              · have fc_39 : w.toInt ≠ 2 := zf_ne c_39 rfl (by decide)
                refine lv_iconst (v := 0) hx hb dX8_cases_63 (by decide) ?_
                refine zc_V (As := [.int 4, .int 0, .int 60, .int 0]) (rest := []) ⟨hx, hb, hml, hown, hts⟩ (c_M_mostCases_4 l D cI cJ cZ cP cS m0 mrf mki mpa mta mla msl mco mhe mso msi msh mce mca mwo mnu mte mwa mke mma mth mtr (0) (60) (0) ) (cwV 4 hts gX8_cases_X8_mostCases rfl rfl rfl (by decide +kernel) ⟨Nat.le_of_ble_eq_true rfl, Nat.le_of_ble_eq_true rfl⟩) hK hN (hZ.kept hS) hP [0] rfl (va_recv hK hP (ci := 8) (q0 := 0) rfl rfl) rfl hl.1 rfl (Nat.le_of_ble_eq_true rfl) dX8_cases_64 ⟨Nat.le_of_ble_eq_true rfl, Nat.le_of_ble_eq_true rfl⟩ (fun r_40 hr_40 => ?_)
                obtain rfl := hr_40
                exact W.iret (v := 20736) hx hb hr (fun t ht hW => ⟨⟨20736, (), rfl, Or.inr (Or.inr (Or.inr (Or.inr (Or.inr (Or.inr (Or.inr (Or.inr (Or.inr (Or.inr (Or.inr (Or.inr (Or.inr (Or.inr (Or.inr (Or.inl (⟨rfl, (by first | omega | decide), (by first | omega | decide), (by first | omega | decide), (by first | omega | decide), (by first | omega | decide), (by first | omega | decide), (by first | omega | decide)⟩)))))))))))))))), zP_nil, zD_nil⟩, hS.F ht⟩) hS.2.2 dX8_cases_67
              · have fc_39 : w.toInt = 2 := zf_eq c_39 rfl (by decide)
                refine lv_iconst (v := 1) hx hb dX8_cases_59 (by decide) ?_
                refine lv_goto (tgt := 64) hx hb dX8_cases_60 (by decide) ?_
                refine zc_V (As := [.int 4, .int 0, .int 60, .int 1]) (rest := []) ⟨hx, hb, hml, hown, hts⟩ (c_M_mostCases_4 l D cI cJ cZ cP cS m0 mrf mki mpa mta mla msl mco mhe mso msi msh mce mca mwo mnu mte mwa mke mma mth mtr (0) (60) (1) ) (cwV 4 hts gX8_cases_X8_mostCases rfl rfl rfl (by decide +kernel) ⟨Nat.le_of_ble_eq_true rfl, Nat.le_of_ble_eq_true rfl⟩) hK hN (hZ.kept hS) hP [0] rfl (va_recv hK hP (ci := 8) (q0 := 0) rfl rfl) rfl hl.1 rfl (Nat.le_of_ble_eq_true rfl) dX8_cases_64 ⟨Nat.le_of_ble_eq_true rfl, Nat.le_of_ble_eq_true rfl⟩ (fun r_41 hr_41 => ?_)
                obtain rfl := hr_41
                exact W.iret (v := 20736) hx hb hr (fun t ht hW => ⟨⟨20736, (), rfl, Or.inr (Or.inr (Or.inr (Or.inr (Or.inr (Or.inr (Or.inr (Or.inr (Or.inr (Or.inr (Or.inr (Or.inr (Or.inr (Or.inr (Or.inr (Or.inr (Or.inl (⟨rfl, (by first | omega | decide), (by first | omega | decide), (by first | omega | decide), (by first | omega | decide), (by first | omega | decide), (by first | omega | decide), (by first | omega | decide)⟩))))))))))))))))), zP_nil, zD_nil⟩, hS.F ht⟩) hS.2.2 dX8_cases_67
            · have fc_38 : w.toInt = 1 := zf_eq c_38 rfl (by decide)
              refine lv_aload_n hx hb dX8_cases_36 rfl (lv_at hl 0 rfl) ?_
              refine lv_iload_n hx hb dX8_cases_37 rfl (lv_at hl 1 rfl) ?_
              refine zc_V (As := [.int 4]) (rest := []) ⟨hx, hb, hml, hown, hts⟩ (c_M_nextOf l D cI cJ cZ cP cS m0 mrf mki mpa mta mla msl mco mhe mso msi msh mce mca mwo mnu mte mwa mke mma mth mtr (4) ) (cwV 1 hts gX8_cases_X8_nextOf rfl rfl rfl (by decide +kernel) ⟨Nat.le_of_ble_eq_true rfl, Nat.le_of_ble_eq_true rfl⟩) hK hN (hZ.kept hS) hP [0] rfl (va_recv hK hP (ci := 8) (q0 := 0) rfl rfl) rfl hl.1 rfl (Nat.le_of_ble_eq_true rfl) dX8_cases_38 ⟨Nat.le_of_ble_eq_true rfl, Nat.le_of_ble_eq_true rfl⟩ (fun r_42 hr_42 => ?_)
              obtain rfl := hr_42
              refine lv_goto (tgt := 67) hx hb dX8_cases_41 (by decide) ?_
              exact W.iret (v := (-1)) hx hb hr (fun t ht hW => ⟨⟨(-1), (), rfl, Or.inr (Or.inr (Or.inr (Or.inr (Or.inr (Or.inr (Or.inr (Or.inr (Or.inr (Or.inr (Or.inr (Or.inr (Or.inr (Or.inr (Or.inr (Or.inr (Or.inr (Or.inl (⟨rfl, (by first | omega | decide), (by first | omega | decide), (by first | omega | decide), (by first | omega | decide), (by first | omega | decide), (by first | omega | decide)⟩)))))))))))))))))), zP_nil, zD_nil⟩, hS.F ht⟩) hS.2.2 dX8_cases_67
        · exact absurd c_17 (by decide)
    · have fc_4 : 2 < w.toInt := zf_nle c_4 rfl (by decide)
      refine lv_aload_n hx hb dX8_cases_9 rfl (lv_at hl 0 rfl) ?_
      refine lv_bipush (v := (-5)) hx hb dX8_cases_10 (by decide) ?_
      skip
      refine zw_V (As := [.int (-5)]) (rest := []) (wr := []) ⟨hx, hb, hml, hown, hts⟩ (c_M_noTen_5 l D cI cJ cZ cP cS m0 mrf mki mpa mta mla msl mco mhe mso msi msh mce mca mwo mnu mte mwa mke mma mth mtr  H.size) (cwV 1 hts gX8_cases_X8_noTen rfl rfl rfl (by decide +kernel) ⟨Nat.le_of_ble_eq_true rfl, Nat.le_of_ble_eq_true rfl⟩) hK hN (hZ.kept hS) hP hD hS hA [0, 1] [] rfl rfl (by decide) (by decide) (by decide) (va_recv hK hP (ci := 8) (q0 := 0) rfl rfl) rfl hl.1 rfl (Nat.le_of_ble_eq_true rfl) dX8_cases_12 ⟨Nat.le_of_ble_eq_true rfl, Nat.le_of_ble_eq_true rfl⟩ (fun r_43 u_44 H locs hr_43 hP hD hS => ?_)
      obtain rfl := hr_43
      exact W.iret (v := (-15)) hx hb hr (fun t ht hW => ⟨⟨(-15), (), rfl, Or.inr (Or.inr (Or.inr (Or.inr (Or.inr (Or.inr (Or.inr (Or.inr (Or.inr (Or.inr (Or.inr (Or.inr (Or.inr (Or.inr (Or.inr (Or.inr (Or.inr (Or.inr (⟨rfl, (by first | omega | decide), (by first | omega | decide)⟩)))))))))))))))))), zP_nil, zD_nil⟩, hS.F ht⟩) hS.2.2 dX8_cases_15
set_option maxHeartbeats 4000000 in
set_option maxRecDepth 100000 in
theorem c_M_leastCost (l : Launch) (D : va_G) (cI cJ cZ cP cS : ClassId) (m0 mrf mki mpa mta mla msl mco mhe mso msi msh mce mca mwo mnu mte mwa mke mma mth mtr : Nat) (n sec : Int32)  : Met l yX8_leastCost wsX8_leastCost ({ frames := 0, cells := 0, slots := 0, locals := 0 }) (va_Pc [.ref m0, .int n, .int 0, .int sec] (zR D (zKT cI cJ cZ cP cS) [(m0, .inr (8, (.int 0 :: .int 20 :: .int 0 :: .int 0 :: .int 0 :: .int 60 :: .int 0 :: .int 3 :: .int 1 :: .int (-1) :: .ref mrf :: .ref mki :: .ref mpa :: .ref mta :: .ref mla :: .ref msl :: .ref mco :: .ref mhe :: .ref mso :: .ref msi :: .ref msh :: .ref mce :: .ref mca :: .ref mwo :: .ref mnu :: .ref mte :: .int 0 :: .int 0 :: .int 0 :: .int 0 :: .int 0 :: .ref mwa :: .ref mke :: .ref mma :: .ref mth :: .ref mtr :: .int 0 :: .int 0 :: [])))])) (vp_Si (fun r => r = 0)) 0 0 (fun _ => False) := by
  refine Met.ofW (cc := cX8_leastCost) (maxL := 7) (ret := (some .int)) (by decide) rfl ?_
  intro p e s m args below meth c s₁ B hml hv
  obtain ⟨rfl, hP, hK, hN, hZ⟩ := hv
  have hx := B.exec
  have hb := B.bytes
  have hr := B.returns
  have hts := atoms_spec (ws := wsX8_leastCost) B.pre
  have hown : s.vm.findClass RX8 = some m.cls := findClass_of_methodNamed B.named
  have hlocks := B.notSynchronized
  have hl := lv_entry ([.ref m0, .int n, .int 0, .int sec]) (n := 7) (Nat.le_of_ble_eq_true rfl)
  rw [lg_entry_eq]
  generalize (lg_sl ([.ref m0, .int n, .int 0, .int sec]) ++ List.replicate (7 - (lg_sl ([.ref m0, .int n, .int 0, .int sec])).length) Slot.unset).toArray = ls at hl ⊢
  replace hl : lv_has ls 7 [(0, .ref m0), (1, .int n), (2, .int 0), (3, .int sec)] := hl
  refine lv_iload_n hx hb dX8_leastCost_0 rfl (lv_at hl 2 rfl) ?_
  refine lv_if_ne (tgt := 6) hx hb dX8_leastCost_1 (by decide) (fun c_1 => ?_) (fun c_1 => ?_)
  · exact absurd c_1 (by decide)
  · refine lv_iconst (v := 0) hx hb dX8_leastCost_4 (by decide) ?_
    exact W.iret (v := 0) hx hb hr (fun t ht hW => ⟨0, rfl, rfl, ht⟩) (fun q hq => by cases hq) dX8_leastCost_5
theorem hi_X8_firstOf_8 : ∀ w ∈ u_ws RX8 TX8 38, w ∈ wsX8_firstOf := by decide +kernel
set_option maxHeartbeats 4000000 in
set_option maxRecDepth 100000 in
theorem c_M_firstOf (l : Launch) (D : va_G) (cI cJ cZ cP cS : ClassId) (m0 mrf mki mpa mta mla msl mco mhe mso msi msh mce mca mwo mnu mte mwa mke mma mth mtr : Nat) (n : Int32)  : Met l yX8_firstOf wsX8_firstOf ({ frames := 0, cells := 0, slots := 0, locals := 0 }) (va_Pc [.ref m0, .int n] (zR D (zKT cI cJ cZ cP cS) [(m0, .inr (8, (.int 0 :: .int 20 :: .int 0 :: .int 0 :: .int 0 :: .int 60 :: .int 0 :: .int 3 :: .int 1 :: .int (-1) :: .ref mrf :: .ref mki :: .ref mpa :: .ref mta :: .ref mla :: .ref msl :: .ref mco :: .ref mhe :: .ref mso :: .ref msi :: .ref msh :: .ref mce :: .ref mca :: .ref mwo :: .ref mnu :: .ref mte :: .int 0 :: .int 0 :: .int 0 :: .int 0 :: .int 0 :: .ref mwa :: .ref mke :: .ref mma :: .ref mth :: .ref mtr :: .int 0 :: .int 0 :: [])))])) (vp_Si (fun r => r = (-1))) 0 0 (fun _ => False) := by
  refine Met.ofW (cc := cX8_firstOf) (maxL := 4) (ret := (some .int)) (by decide) rfl ?_
  intro p e s m args below meth c s₁ B hml hv
  obtain ⟨rfl, hP, hK, hN, hZ⟩ := hv
  have hx := B.exec
  have hb := B.bytes
  have hr := B.returns
  have hts := atoms_spec (ws := wsX8_firstOf) B.pre
  have hown : s.vm.findClass RX8 = some m.cls := findClass_of_methodNamed B.named
  have hlocks := B.notSynchronized
  have hl := lv_entry ([.ref m0, .int n]) (n := 4) (Nat.le_of_ble_eq_true rfl)
  rw [lg_entry_eq]
  generalize (lg_sl ([.ref m0, .int n]) ++ List.replicate (4 - (lg_sl ([.ref m0, .int n])).length) Slot.unset).toArray = ls at hl ⊢
  replace hl : lv_has ls 4 [(0, .ref m0), (1, .int n)] := hl
  refine lv_aload_n hx hb dX8_firstOf_0 rfl (lv_at hl 0 rfl) ?_
  refine va_get (D := D) (ci := 8) (v := .int 0) (C := RX8) (T := TX8) (N := 38) hx hb hts hi_X8_firstOf_8 hown hK hP 0 rfl rfl 3 (by decide) (hts (.fieldLink RX8 115 "TheLiningsInItModel" "depth" "I") (List.mem_of_getElem? (i := 1) rfl)) (fun _ h9 => h9) rfl dX8_firstOf_1 ?_
  refine lv_if_ne (tgt := 9) hx hb dX8_firstOf_4 (by decide) (fun c_1 => ?_) (fun c_1 => ?_)
  · exact absurd c_1 (by decide)
  · refine lv_iconst (v := (-1)) hx hb dX8_firstOf_7 (by decide) ?_
    exact W.iret (v := (-1)) hx hb hr (fun t ht hW => ⟨(-1), rfl, rfl, ht⟩) (fun q hq => by cases hq) dX8_firstOf_8
theorem hi_X8_line_8 : ∀ w ∈ u_ws RX8 TX8 38, w ∈ wsX8_line := by decide +kernel
set_option maxHeartbeats 4000000 in
set_option maxRecDepth 100000 in
theorem c_M_line (l : Launch) (D : va_G) (cI cJ cZ cP cS : ClassId) (m0 mrf mki mpa mta mla msl mco mhe mso msi msh mce mca mwo mnu mte mwa mke mma mth mtr : Nat) (n w : Int32)  (sz : Nat) : Met l yX8_line wsX8_line ({ frames := 1, cells := 0, slots := 0, locals := 26 }) (va_Pc [.ref m0, .int n, .int w] (zW D (zKT cI cJ cZ cP cS) [(m0, .inr (8, (.int 0 :: .int 20 :: .int 0 :: .int 0 :: .int 0 :: .int 60 :: .int 0 :: .int 3 :: .int 1 :: .int (-1) :: .ref mrf :: .ref mki :: .ref mpa :: .ref mta :: .ref mla :: .ref msl :: .ref mco :: .ref mhe :: .ref mso :: .ref msi :: .ref msh :: .ref mce :: .ref mca :: .ref mwo :: .ref mnu :: .ref mte :: .int 0 :: .int 0 :: .int 0 :: .int 0 :: .int 0 :: .ref mwa :: .ref mke :: .ref mma :: .ref mth :: .ref mtr :: .int 0 :: .int 0 :: []))), (mrf, .inl (cI, 8, .inl (fun _ => 0)))] sz)) (va_Qi (fun (r : Int32) (_ : Unit) => (r = (-15) ∧ w.toInt < 0) ∨ (r = (-16) ∧ 0 ≤ w.toInt ∧ w.toInt ≤ 1 ∧ n.toInt < 0) ∨ (r = (-16) ∧ 0 ≤ w.toInt ∧ w.toInt ≤ 1 ∧ 0 ≤ n.toInt ∧ 4 < n.toInt) ∨ (r = (-1) ∧ 0 ≤ w.toInt ∧ w.toInt ≤ 1 ∧ 0 ≤ n.toInt ∧ n.toInt ≤ 4 ∧ w.toInt ≠ 0) ∨ (r = 0 ∧ 0 ≤ w.toInt ∧ w.toInt ≤ 1 ∧ 0 ≤ n.toInt ∧ n.toInt ≤ 4 ∧ w.toInt = 0) ∨ (r = (-15) ∧ 0 ≤ w.toInt ∧ 1 < w.toInt)) (zB D [(m0, .inr (8, (.int 0 :: .int 20 :: .int 0 :: .int 0 :: .int 0 :: .int 60 :: .int 0 :: .int 3 :: .int 1 :: .int (-1) :: .ref mrf :: .ref mki :: .ref mpa :: .ref mta :: .ref mla :: .ref msl :: .ref mco :: .ref mhe :: .ref mso :: .ref msi :: .ref msh :: .ref mce :: .ref mca :: .ref mwo :: .ref mnu :: .ref mte :: .int 0 :: .int 0 :: .int 0 :: .int 0 :: .int 0 :: .ref mwa :: .ref mke :: .ref mma :: .ref mth :: .ref mtr :: .int 0 :: .int 0 :: []))), (mrf, .inl (cI, 8, .inl (fun _ => 0)))] sz (fun (_ : Unit) => ([] : va_W))) (va_A [(m0, .inr (8, (.int 0 :: .int 20 :: .int 0 :: .int 0 :: .int 0 :: .int 60 :: .int 0 :: .int 3 :: .int 1 :: .int (-1) :: .ref mrf :: .ref mki :: .ref mpa :: .ref mta :: .ref mla :: .ref msl :: .ref mco :: .ref mhe :: .ref mso :: .ref msi :: .ref msh :: .ref mce :: .ref mca :: .ref mwo :: .ref mnu :: .ref mte :: .int 0 :: .int 0 :: .int 0 :: .int 0 :: .int 0 :: .ref mwa :: .ref mke :: .ref mma :: .ref mth :: .ref mtr :: .int 0 :: .int 0 :: []))), (mrf, .inl (cI, 8, .inl (fun _ => 0)))] sz)) 0 0 (va_A [(m0, .inr (8, (.int 0 :: .int 20 :: .int 0 :: .int 0 :: .int 0 :: .int 60 :: .int 0 :: .int 3 :: .int 1 :: .int (-1) :: .ref mrf :: .ref mki :: .ref mpa :: .ref mta :: .ref mla :: .ref msl :: .ref mco :: .ref mhe :: .ref mso :: .ref msi :: .ref msh :: .ref mce :: .ref mca :: .ref mwo :: .ref mnu :: .ref mte :: .int 0 :: .int 0 :: .int 0 :: .int 0 :: .int 0 :: .ref mwa :: .ref mke :: .ref mma :: .ref mth :: .ref mtr :: .int 0 :: .int 0 :: []))), (mrf, .inl (cI, 8, .inl (fun _ => 0)))] sz) := by
  refine Met.ofW (cc := cX8_line) (maxL := 3) (ret := (some .int)) (by decide) rfl ?_
  intro p e s m args below meth c s₁ B hml hv
  obtain ⟨rfl, hsz, hP, hK, hD0, hN, hZ⟩ := hv
  have hx := B.exec
  have hb := B.bytes
  have hr := B.returns
  have hts := atoms_spec (ws := wsX8_line) B.pre
  have hown : s.vm.findClass RX8 = some m.cls := findClass_of_methodNamed B.named
  have hlocks := B.notSynchronized
  subst hsz
  have hD := hD0.self (sz := s.heap.size)
  have hA : ∀ q : Nat, s.heap.size ≤ q → va_A [(m0, .inr (8, (.int 0 :: .int 20 :: .int 0 :: .int 0 :: .int 0 :: .int 60 :: .int 0 :: .int 3 :: .int 1 :: .int (-1) :: .ref mrf :: .ref mki :: .ref mpa :: .ref mta :: .ref mla :: .ref msl :: .ref mco :: .ref mhe :: .ref mso :: .ref msi :: .ref msh :: .ref mce :: .ref mca :: .ref mwo :: .ref mnu :: .ref mte :: .int 0 :: .int 0 :: .int 0 :: .int 0 :: .int 0 :: .ref mwa :: .ref mke :: .ref mma :: .ref mth :: .ref mtr :: .int 0 :: .int 0 :: []))), (mrf, .inl (cI, 8, .inl (fun _ => 0)))] s.heap.size q := fun q h => Or.inr h
  have hS : va_S (va_A [(m0, .inr (8, (.int 0 :: .int 20 :: .int 0 :: .int 0 :: .int 0 :: .int 60 :: .int 0 :: .int 3 :: .int 1 :: .int (-1) :: .ref mrf :: .ref mki :: .ref mpa :: .ref mta :: .ref mla :: .ref msl :: .ref mco :: .ref mhe :: .ref mso :: .ref msi :: .ref msh :: .ref mce :: .ref mca :: .ref mwo :: .ref mnu :: .ref mte :: .int 0 :: .int 0 :: .int 0 :: .int 0 :: .int 0 :: .ref mwa :: .ref mke :: .ref mma :: .ref mth :: .ref mtr :: .int 0 :: .int 0 :: []))), (mrf, .inl (cI, 8, .inl (fun _ => 0)))] s.heap.size) s.heap s.heap [] := va_S.rf
  replace hP : va_P D vwCl _ s.heap := hP
  have hl := lv_entry ([.ref m0, .int n, .int w]) (n := 3) (Nat.le_of_ble_eq_true rfl)
  rw [lg_entry_eq]
  generalize (lg_sl ([.ref m0, .int n, .int w]) ++ List.replicate (3 - (lg_sl ([.ref m0, .int n, .int w])).length) Slot.unset).toArray = ls at hl ⊢
  replace hl : lv_has ls 3 [(0, .ref m0), (1, .int n), (2, .int w)] := hl
  refine zw_start (fun H locs hH hL => ?_)
  replace hP : va_P D vwCl [(m0, .inr (8, (.int 0 :: .int 20 :: .int 0 :: .int 0 :: .int 0 :: .int 60 :: .int 0 :: .int 3 :: .int 1 :: .int (-1) :: .ref mrf :: .ref mki :: .ref mpa :: .ref mta :: .ref mla :: .ref msl :: .ref mco :: .ref mhe :: .ref mso :: .ref msi :: .ref msh :: .ref mce :: .ref mca :: .ref mwo :: .ref mnu :: .ref mte :: .int 0 :: .int 0 :: .int 0 :: .int 0 :: .int 0 :: .ref mwa :: .ref mke :: .ref mma :: .ref mth :: .ref mtr :: .int 0 :: .int 0 :: []))), (mrf, .inl (cI, 8, .inl (fun _ => 0)))] H := by rw [hH]; exact hP
  replace hS : va_S (va_A [(m0, .inr (8, (.int 0 :: .int 20 :: .int 0 :: .int 0 :: .int 0 :: .int 60 :: .int 0 :: .int 3 :: .int 1 :: .int (-1) :: .ref mrf :: .ref mki :: .ref mpa :: .ref mta :: .ref mla :: .ref msl :: .ref mco :: .ref mhe :: .ref mso :: .ref msi :: .ref msh :: .ref mce :: .ref mca :: .ref mwo :: .ref mnu :: .ref mte :: .int 0 :: .int 0 :: .int 0 :: .int 0 :: .int 0 :: .ref mwa :: .ref mke :: .ref mma :: .ref mth :: .ref mtr :: .int 0 :: .int 0 :: []))), (mrf, .inl (cI, 8, .inl (fun _ => 0)))] s.heap.size) s.heap H locs := by rw [hH, hL]; exact hS
  clear hH hL
  refine lv_iload_n hx hb dX8_line_0 rfl (lv_at hl 2 rfl) ?_
  refine lv_if_lt (tgt := 9) hx hb dX8_line_1 (by decide) (fun c_1 => ?_) (fun c_1 => ?_)
  · have fc_1 : w.toInt < 0 := zf_lt c_1 rfl (by decide)
    refine lv_aload_n hx hb dX8_line_9 rfl (lv_at hl 0 rfl) ?_
    refine lv_bipush (v := (-5)) hx hb dX8_line_10 (by decide) ?_
    skip
    refine zw_V (As := [.int (-5)]) (rest := []) (wr := []) ⟨hx, hb, hml, hown, hts⟩ (c_M_noTen_5 l D cI cJ cZ cP cS m0 mrf mki mpa mta mla msl mco mhe mso msi msh mce mca mwo mnu mte mwa mke mma mth mtr  H.size) (cwV 1 hts gX8_line_X8_noTen rfl rfl rfl (by decide +kernel) ⟨Nat.le_of_ble_eq_true rfl, Nat.le_of_ble_eq_true rfl⟩) hK hN (hZ.kept hS) hP hD hS hA [0, 1] [] rfl rfl (by decide) (by decide) (by decide) (va_recv hK hP (ci := 8) (q0 := 0) rfl rfl) rfl hl.1 rfl (Nat.le_of_ble_eq_true rfl) dX8_line_12 ⟨Nat.le_of_ble_eq_true rfl, Nat.le_of_ble_eq_true rfl⟩ (fun r_2 u_3 H locs hr_2 hP hD hS => ?_)
    obtain rfl := hr_2
    exact W.iret (v := (-15)) hx hb hr (fun t ht hW => ⟨⟨(-15), (), rfl, Or.inl (⟨rfl, (by first | omega | decide)⟩), zP_nil, zD_nil⟩, hS.F ht⟩) hS.2.2 dX8_line_15
  · have fc_1 : 0 ≤ w.toInt := zf_nlt c_1 rfl (by decide)
    refine lv_iload_n hx hb dX8_line_4 rfl (lv_at hl 2 rfl) ?_
    refine lv_iconst (v := 1) hx hb dX8_line_5 (by decide) ?_
    refine lv_icmp_le (tgt := 16) hx hb dX8_line_6 (by decide) (fun c_4 => ?_) (fun c_4 => ?_)
    · have fc_4 : w.toInt ≤ 1 := zf_le c_4 rfl (by decide)
      refine lv_aload_n hx hb dX8_line_16 rfl (lv_at hl 0 rfl) ?_
      refine lv_iload_n hx hb dX8_line_17 rfl (lv_at hl 1 rfl) ?_
      refine zc_V (As := [.int n]) (rest := []) ⟨hx, hb, hml, hown, hts⟩ (c_M_isFew l D cI cJ cZ cP cS m0 mrf mki mpa mta mla msl mco mhe mso msi msh mce mca mwo mnu mte mwa mke mma mth mtr (n) ) (cwV 1 hts gX8_line_X8_isFew rfl rfl rfl (by decide +kernel) ⟨Nat.le_of_ble_eq_true rfl, Nat.le_of_ble_eq_true rfl⟩) hK hN (hZ.kept hS) hP [0] rfl (va_recv hK hP (ci := 8) (q0 := 0) rfl rfl) rfl hl.1 rfl (Nat.le_of_ble_eq_true rfl) dX8_line_18 ⟨Nat.le_of_ble_eq_true rfl, Nat.le_of_ble_eq_true rfl⟩ (fun r_5 hr_5 => ?_)
      rcases hr_5 with ⟨rfl, g_6⟩ | ⟨rfl, g_7, g_8⟩ | ⟨rfl, g_9, g_10⟩
      · refine lv_if_ne (tgt := 31) hx hb dX8_line_21 (by decide) (fun c_11 => ?_) (fun c_11 => ?_)
        · exact absurd c_11 (by decide)
        · refine lv_aload_n hx hb dX8_line_24 rfl (lv_at hl 0 rfl) ?_
          refine lv_bipush (v := (-6)) hx hb dX8_line_25 (by decide) ?_
          skip
          refine zw_V (As := [.int (-6)]) (rest := []) (wr := []) ⟨hx, hb, hml, hown, hts⟩ (c_M_noTen_6 l D cI cJ cZ cP cS m0 mrf mki mpa mta mla msl mco mhe mso msi msh mce mca mwo mnu mte mwa mke mma mth mtr  H.size) (cwV 1 hts gX8_line_X8_noTen rfl rfl rfl (by decide +kernel) ⟨Nat.le_of_ble_eq_true rfl, Nat.le_of_ble_eq_true rfl⟩) hK hN (hZ.kept hS) hP hD hS hA [0, 1] [] rfl rfl (by decide) (by decide) (by decide) (va_recv hK hP (ci := 8) (q0 := 0) rfl rfl) rfl hl.1 rfl (Nat.le_of_ble_eq_true rfl) dX8_line_27 ⟨Nat.le_of_ble_eq_true rfl, Nat.le_of_ble_eq_true rfl⟩ (fun r_12 u_13 H locs hr_12 hP hD hS => ?_)
          obtain rfl := hr_12
          exact W.iret (v := (-16)) hx hb hr (fun t ht hW => ⟨⟨(-16), (), rfl, Or.inr (Or.inl (⟨rfl, (by first | omega | decide), (by first | omega | decide), (by first | omega | decide)⟩)), zP_nil, zD_nil⟩, hS.F ht⟩) hS.2.2 dX8_line_30
      · refine lv_if_ne (tgt := 31) hx hb dX8_line_21 (by decide) (fun c_14 => ?_) (fun c_14 => ?_)
        · exact absurd c_14 (by decide)
        · refine lv_aload_n hx hb dX8_line_24 rfl (lv_at hl 0 rfl) ?_
          refine lv_bipush (v := (-6)) hx hb dX8_line_25 (by decide) ?_
          skip
          refine zw_V (As := [.int (-6)]) (rest := []) (wr := []) ⟨hx, hb, hml, hown, hts⟩ (c_M_noTen_6 l D cI cJ cZ cP cS m0 mrf mki mpa mta mla msl mco mhe mso msi msh mce mca mwo mnu mte mwa mke mma mth mtr  H.size) (cwV 1 hts gX8_line_X8_noTen rfl rfl rfl (by decide +kernel) ⟨Nat.le_of_ble_eq_true rfl, Nat.le_of_ble_eq_true rfl⟩) hK hN (hZ.kept hS) hP hD hS hA [0, 1] [] rfl rfl (by decide) (by decide) (by decide) (va_recv hK hP (ci := 8) (q0 := 0) rfl rfl) rfl hl.1 rfl (Nat.le_of_ble_eq_true rfl) dX8_line_27 ⟨Nat.le_of_ble_eq_true rfl, Nat.le_of_ble_eq_true rfl⟩ (fun r_15 u_16 H locs hr_15 hP hD hS => ?_)
          obtain rfl := hr_15
          exact W.iret (v := (-16)) hx hb hr (fun t ht hW => ⟨⟨(-16), (), rfl, Or.inr (Or.inr (Or.inl (⟨rfl, (by first | omega | decide), (by first | omega | decide), (by first | omega | decide), (by first | omega | decide)⟩))), zP_nil, zD_nil⟩, hS.F ht⟩) hS.2.2 dX8_line_30
      · refine lv_if_ne (tgt := 31) hx hb dX8_line_21 (by decide) (fun c_17 => ?_) (fun c_17 => ?_)
        · refine lv_iload_n hx hb dX8_line_31 rfl (lv_at hl 2 rfl) ?_
          refine lv_if_ne (tgt := 51) hx hb dX8_line_32 (by decide) (fun c_18 => ?_) (fun c_18 => ?_)
          · have fc_18 : w.toInt ≠ 0 := zf_ne c_18 rfl (by decide)
            refine lv_aload_n hx hb dX8_line_51 rfl (lv_at hl 0 rfl) ?_
            refine lv_iload_n hx hb dX8_line_52 rfl (lv_at hl 1 rfl) ?_
            refine zc_V (As := [.int n]) (rest := []) ⟨hx, hb, hml, hown, hts⟩ (c_M_firstOf l D cI cJ cZ cP cS m0 mrf mki mpa mta mla msl mco mhe mso msi msh mce mca mwo mnu mte mwa mke mma mth mtr (n) ) (cwV 1 hts gX8_line_X8_firstOf rfl rfl rfl (by decide +kernel) ⟨Nat.le_of_ble_eq_true rfl, Nat.le_of_ble_eq_true rfl⟩) hK hN (hZ.kept hS) hP [0] rfl (va_recv hK hP (ci := 8) (q0 := 0) rfl rfl) rfl hl.1 rfl (Nat.le_of_ble_eq_true rfl) dX8_line_53 ⟨Nat.le_of_ble_eq_true rfl, Nat.le_of_ble_eq_true rfl⟩ (fun r_19 hr_19 => ?_)
            obtain rfl := hr_19
            exact W.iret (v := (-1)) hx hb hr (fun t ht hW => ⟨⟨(-1), (), rfl, Or.inr (Or.inr (Or.inr (Or.inl (⟨rfl, (by first | omega | decide), (by first | omega | decide), (by first | omega | decide), (by first | omega | decide), (by first | omega | decide)⟩)))), zP_nil, zD_nil⟩, hS.F ht⟩) hS.2.2 dX8_line_56
          · have fc_18 : w.toInt = 0 := zf_eq c_18 rfl (by decide)
            refine lv_aload_n hx hb dX8_line_35 rfl (lv_at hl 0 rfl) ?_
            refine lv_iload_n hx hb dX8_line_36 rfl (lv_at hl 1 rfl) ?_
            refine lv_aload_n hx hb dX8_line_37 rfl (lv_at hl 0 rfl) ?_
            refine va_get (D := D) (ci := 8) (v := .int 0) (C := RX8) (T := TX8) (N := 38) hx hb hts hi_X8_line_8 hown hK hP 0 rfl rfl 3 (by decide) (hts (.fieldLink RX8 115 "TheLiningsInItModel" "depth" "I") (List.mem_of_getElem? (i := 1) rfl)) (fun _ h9 => h9) rfl dX8_line_38 ?_
            refine lv_aload_n hx hb dX8_line_41 rfl (lv_at hl 0 rfl) ?_
            refine va_get (D := D) (ci := 8) (v := .int 60) (C := RX8) (T := TX8) (N := 38) hx hb hts hi_X8_line_8 hown hK hP 0 rfl rfl 5 (by decide) (hts (.fieldLink RX8 13 "TheLiningsInItModel" "seconds" "I") (List.mem_of_getElem? (i := 2) rfl)) (fun _ h9 => h9) rfl dX8_line_42 ?_
            refine zc_V (As := [.int n, .int 0, .int 60]) (rest := []) ⟨hx, hb, hml, hown, hts⟩ (c_M_leastCost l D cI cJ cZ cP cS m0 mrf mki mpa mta mla msl mco mhe mso msi msh mce mca mwo mnu mte mwa mke mma mth mtr (n) (60) ) (cwV 3 hts gX8_line_X8_leastCost rfl rfl rfl (by decide +kernel) ⟨Nat.le_of_ble_eq_true rfl, Nat.le_of_ble_eq_true rfl⟩) hK hN (hZ.kept hS) hP [0] rfl (va_recv hK hP (ci := 8) (q0 := 0) rfl rfl) rfl hl.1 rfl (Nat.le_of_ble_eq_true rfl) dX8_line_45 ⟨Nat.le_of_ble_eq_true rfl, Nat.le_of_ble_eq_true rfl⟩ (fun r_20 hr_20 => ?_)
            obtain rfl := hr_20
            refine lv_goto (tgt := 56) hx hb dX8_line_48 (by decide) ?_
            exact W.iret (v := 0) hx hb hr (fun t ht hW => ⟨⟨0, (), rfl, Or.inr (Or.inr (Or.inr (Or.inr (Or.inl (⟨rfl, (by first | omega | decide), (by first | omega | decide), (by first | omega | decide), (by first | omega | decide), (by first | omega | decide)⟩))))), zP_nil, zD_nil⟩, hS.F ht⟩) hS.2.2 dX8_line_56
        · exact absurd c_17 (by decide)
    · have fc_4 : 1 < w.toInt := zf_nle c_4 rfl (by decide)
      refine lv_aload_n hx hb dX8_line_9 rfl (lv_at hl 0 rfl) ?_
      refine lv_bipush (v := (-5)) hx hb dX8_line_10 (by decide) ?_
      skip
      refine zw_V (As := [.int (-5)]) (rest := []) (wr := []) ⟨hx, hb, hml, hown, hts⟩ (c_M_noTen_5 l D cI cJ cZ cP cS m0 mrf mki mpa mta mla msl mco mhe mso msi msh mce mca mwo mnu mte mwa mke mma mth mtr  H.size) (cwV 1 hts gX8_line_X8_noTen rfl rfl rfl (by decide +kernel) ⟨Nat.le_of_ble_eq_true rfl, Nat.le_of_ble_eq_true rfl⟩) hK hN (hZ.kept hS) hP hD hS hA [0, 1] [] rfl rfl (by decide) (by decide) (by decide) (va_recv hK hP (ci := 8) (q0 := 0) rfl rfl) rfl hl.1 rfl (Nat.le_of_ble_eq_true rfl) dX8_line_12 ⟨Nat.le_of_ble_eq_true rfl, Nat.le_of_ble_eq_true rfl⟩ (fun r_21 u_22 H locs hr_21 hP hD hS => ?_)
      obtain rfl := hr_21
      exact W.iret (v := (-15)) hx hb hr (fun t ht hW => ⟨⟨(-15), (), rfl, Or.inr (Or.inr (Or.inr (Or.inr (Or.inr (⟨rfl, (by first | omega | decide), (by first | omega | decide)⟩))))), zP_nil, zD_nil⟩, hS.F ht⟩) hS.2.2 dX8_line_15
theorem hi_X8_casesIn_8 : ∀ w ∈ u_ws RX8 TX8 38, w ∈ wsX8_casesIn := by decide +kernel
set_option maxHeartbeats 4000000 in
set_option maxRecDepth 100000 in
theorem c_M_casesIn_0 (l : Launch) (D : va_G) (cI cJ cZ cP cS : ClassId) (m0 mrf mki mpa mta mla msl mco mhe mso msi msh mce mca mwo mnu mte mwa mke mma mth mtr : Nat) (h : Int32)  (sz : Nat) : Met l yX8_casesIn wsX8_casesIn ({ frames := 2, cells := 0, slots := 0, locals := 48 }) (va_Pc [.ref m0, .int 0, .int h] (zW D (zKT cI cJ cZ cP cS) [(m0, .inr (8, (.int 0 :: .int 20 :: .int 0 :: .int 0 :: .int 0 :: .int 60 :: .int 0 :: .int 3 :: .int 1 :: .int (-1) :: .ref mrf :: .ref mki :: .ref mpa :: .ref mta :: .ref mla :: .ref msl :: .ref mco :: .ref mhe :: .ref mso :: .ref msi :: .ref msh :: .ref mce :: .ref mca :: .ref mwo :: .ref mnu :: .ref mte :: .int 0 :: .int 0 :: .int 0 :: .int 0 :: .int 0 :: .ref mwa :: .ref mke :: .ref mma :: .ref mth :: .ref mtr :: .int 0 :: .int 0 :: [])))] sz)) (va_Qi (fun (r : Int32) (_ : Unit) => r = 1) (zB D [(m0, .inr (8, (.int 0 :: .int 20 :: .int 0 :: .int 0 :: .int 0 :: .int 60 :: .int 0 :: .int 3 :: .int 1 :: .int (-1) :: .ref mrf :: .ref mki :: .ref mpa :: .ref mta :: .ref mla :: .ref msl :: .ref mco :: .ref mhe :: .ref mso :: .ref msi :: .ref msh :: .ref mce :: .ref mca :: .ref mwo :: .ref mnu :: .ref mte :: .int 0 :: .int 0 :: .int 0 :: .int 0 :: .int 0 :: .ref mwa :: .ref mke :: .ref mma :: .ref mth :: .ref mtr :: .int 0 :: .int 0 :: [])))] sz (fun (_ : Unit) => [(m0, .inr (8, (.int 0 :: .int 20 :: .int 0 :: .int 0 :: .int 0 :: .int 60 :: .int 0 :: .int 3 :: .int 1 :: .int (-1) :: .ref mrf :: .ref mki :: .ref mpa :: .ref mta :: .ref mla :: .ref msl :: .ref mco :: .ref mhe :: .ref mso :: .ref msi :: .ref msh :: .ref mce :: .ref mca :: .ref mwo :: .ref mnu :: .ref mte :: .int 0 :: .int 0 :: .int 0 :: .int 0 :: .int 0 :: .ref mwa :: .ref mke :: .ref mma :: .ref mth :: .ref mtr :: .int 0 :: .int 0 :: [])))])) (va_A [(m0, .inr (8, (.int 0 :: .int 20 :: .int 0 :: .int 0 :: .int 0 :: .int 60 :: .int 0 :: .int 3 :: .int 1 :: .int (-1) :: .ref mrf :: .ref mki :: .ref mpa :: .ref mta :: .ref mla :: .ref msl :: .ref mco :: .ref mhe :: .ref mso :: .ref msi :: .ref msh :: .ref mce :: .ref mca :: .ref mwo :: .ref mnu :: .ref mte :: .int 0 :: .int 0 :: .int 0 :: .int 0 :: .int 0 :: .ref mwa :: .ref mke :: .ref mma :: .ref mth :: .ref mtr :: .int 0 :: .int 0 :: [])))] sz)) 0 0 (va_A [(m0, .inr (8, (.int 0 :: .int 20 :: .int 0 :: .int 0 :: .int 0 :: .int 60 :: .int 0 :: .int 3 :: .int 1 :: .int (-1) :: .ref mrf :: .ref mki :: .ref mpa :: .ref mta :: .ref mla :: .ref msl :: .ref mco :: .ref mhe :: .ref mso :: .ref msi :: .ref msh :: .ref mce :: .ref mca :: .ref mwo :: .ref mnu :: .ref mte :: .int 0 :: .int 0 :: .int 0 :: .int 0 :: .int 0 :: .ref mwa :: .ref mke :: .ref mma :: .ref mth :: .ref mtr :: .int 0 :: .int 0 :: [])))] sz) := by
  refine Met.ofW (cc := cX8_casesIn) (maxL := 5) (ret := (some .int)) (by decide) rfl ?_
  intro p e s m args below meth c s₁ B hml hv
  obtain ⟨rfl, hsz, hP, hK, hD0, hN, hZ⟩ := hv
  have hx := B.exec
  have hb := B.bytes
  have hr := B.returns
  have hts := atoms_spec (ws := wsX8_casesIn) B.pre
  have hown : s.vm.findClass RX8 = some m.cls := findClass_of_methodNamed B.named
  have hlocks := B.notSynchronized
  subst hsz
  have hD := hD0.self (sz := s.heap.size)
  have hA : ∀ q : Nat, s.heap.size ≤ q → va_A [(m0, .inr (8, (.int 0 :: .int 20 :: .int 0 :: .int 0 :: .int 0 :: .int 60 :: .int 0 :: .int 3 :: .int 1 :: .int (-1) :: .ref mrf :: .ref mki :: .ref mpa :: .ref mta :: .ref mla :: .ref msl :: .ref mco :: .ref mhe :: .ref mso :: .ref msi :: .ref msh :: .ref mce :: .ref mca :: .ref mwo :: .ref mnu :: .ref mte :: .int 0 :: .int 0 :: .int 0 :: .int 0 :: .int 0 :: .ref mwa :: .ref mke :: .ref mma :: .ref mth :: .ref mtr :: .int 0 :: .int 0 :: [])))] s.heap.size q := fun q h => Or.inr h
  have hS : va_S (va_A [(m0, .inr (8, (.int 0 :: .int 20 :: .int 0 :: .int 0 :: .int 0 :: .int 60 :: .int 0 :: .int 3 :: .int 1 :: .int (-1) :: .ref mrf :: .ref mki :: .ref mpa :: .ref mta :: .ref mla :: .ref msl :: .ref mco :: .ref mhe :: .ref mso :: .ref msi :: .ref msh :: .ref mce :: .ref mca :: .ref mwo :: .ref mnu :: .ref mte :: .int 0 :: .int 0 :: .int 0 :: .int 0 :: .int 0 :: .ref mwa :: .ref mke :: .ref mma :: .ref mth :: .ref mtr :: .int 0 :: .int 0 :: [])))] s.heap.size) s.heap s.heap [] := va_S.rf
  replace hP : va_P D vwCl _ s.heap := hP
  have hl := lv_entry ([.ref m0, .int 0, .int h]) (n := 5) (Nat.le_of_ble_eq_true rfl)
  rw [lg_entry_eq]
  generalize (lg_sl ([.ref m0, .int 0, .int h]) ++ List.replicate (5 - (lg_sl ([.ref m0, .int 0, .int h])).length) Slot.unset).toArray = ls at hl ⊢
  replace hl : lv_has ls 5 [(0, .ref m0), (1, .int 0), (2, .int h)] := hl
  refine zw_start (fun H locs hH hL => ?_)
  replace hP : va_P D vwCl [(m0, .inr (8, (.int 0 :: .int 20 :: .int 0 :: .int 0 :: .int 0 :: .int 60 :: .int 0 :: .int 3 :: .int 1 :: .int (-1) :: .ref mrf :: .ref mki :: .ref mpa :: .ref mta :: .ref mla :: .ref msl :: .ref mco :: .ref mhe :: .ref mso :: .ref msi :: .ref msh :: .ref mce :: .ref mca :: .ref mwo :: .ref mnu :: .ref mte :: .int 0 :: .int 0 :: .int 0 :: .int 0 :: .int 0 :: .ref mwa :: .ref mke :: .ref mma :: .ref mth :: .ref mtr :: .int 0 :: .int 0 :: [])))] H := by rw [hH]; exact hP
  replace hS : va_S (va_A [(m0, .inr (8, (.int 0 :: .int 20 :: .int 0 :: .int 0 :: .int 0 :: .int 60 :: .int 0 :: .int 3 :: .int 1 :: .int (-1) :: .ref mrf :: .ref mki :: .ref mpa :: .ref mta :: .ref mla :: .ref msl :: .ref mco :: .ref mhe :: .ref mso :: .ref msi :: .ref msh :: .ref mce :: .ref mca :: .ref mwo :: .ref mnu :: .ref mte :: .int 0 :: .int 0 :: .int 0 :: .int 0 :: .int 0 :: .ref mwa :: .ref mke :: .ref mma :: .ref mth :: .ref mtr :: .int 0 :: .int 0 :: [])))] s.heap.size) s.heap H locs := by rw [hH, hL]; exact hS
  clear hH hL
  refine lv_aload_n hx hb dX8_casesIn_0 rfl (lv_at hl 0 rfl) ?_
  refine va_get (D := D) (ci := 8) (v := .int 0) (C := RX8) (T := TX8) (N := 38) hx hb hts hi_X8_casesIn_8 hown hK hP 0 rfl rfl 6 (by decide) (hts (.fieldLink RX8 135 "TheLiningsInItModel" "hurry" "I") (List.mem_of_getElem? (i := 1) rfl)) (fun _ h9 => h9) rfl dX8_casesIn_1 ?_
  refine lv_istore_n (lv' := [(3, .int 0), (0, .ref m0), (1, .int 0), (2, .int h)]) hx hb dX8_casesIn_4 rfl hl (by decide) rfl (fun ls hl => ?_)
  refine lv_aload_n hx hb dX8_casesIn_5 rfl (lv_at hl 1 rfl) ?_
  refine lv_iload_n hx hb dX8_casesIn_6 rfl (lv_at hl 3 rfl) ?_
  refine va_put (D := D) (ci := 8) (v := .int h) (ty := .int) (C := RX8) (T := TX8) (N := 38) hx hb hts hi_X8_casesIn_8 tyX8 tyX8_ok nmX8 hown hK hP hD hS 0 rfl rfl 6 (by decide) (hts (.fieldLink RX8 135 "TheLiningsInItModel" "hurry" "I") (List.mem_of_getElem? (i := 1) rfl)) (fun _ h9 => h9) rfl (by decide +kernel) rfl rfl (Nat.le_of_ble_eq_true rfl) dX8_casesIn_7 (fun H locs hP hD hS => ?_)
  replace hP : va_P D vwCl [(m0, .inr (8, (.int 0 :: .int 20 :: .int 0 :: .int 0 :: .int 0 :: .int 60 :: .int h :: .int 3 :: .int 1 :: .int (-1) :: .ref mrf :: .ref mki :: .ref mpa :: .ref mta :: .ref mla :: .ref msl :: .ref mco :: .ref mhe :: .ref mso :: .ref msi :: .ref msh :: .ref mce :: .ref mca :: .ref mwo :: .ref mnu :: .ref mte :: .int 0 :: .int 0 :: .int 0 :: .int 0 :: .int 0 :: .ref mwa :: .ref mke :: .ref mma :: .ref mth :: .ref mtr :: .int 0 :: .int 0 :: [])))] H := hP
  replace hD : va_D _ [(m0, .inr (8, (.int 0 :: .int 20 :: .int 0 :: .int 0 :: .int 0 :: .int 60 :: .int h :: .int 3 :: .int 1 :: .int (-1) :: .ref mrf :: .ref mki :: .ref mpa :: .ref mta :: .ref mla :: .ref msl :: .ref mco :: .ref mhe :: .ref mso :: .ref msi :: .ref msh :: .ref mce :: .ref mca :: .ref mwo :: .ref mnu :: .ref mte :: .int 0 :: .int 0 :: .int 0 :: .int 0 :: .int 0 :: .ref mwa :: .ref mke :: .ref mma :: .ref mth :: .ref mtr :: .int 0 :: .int 0 :: [])))] := hD
  refine lv_aload_n hx hb dX8_casesIn_10 rfl (lv_at hl 1 rfl) ?_
  refine lv_iload_n hx hb dX8_casesIn_11 rfl (lv_at hl 2 rfl) ?_
  refine lv_aload_n hx hb dX8_casesIn_12 rfl (lv_at hl 1 rfl) ?_
  refine va_get (D := D) (ci := 8) (v := .int 0) (C := RX8) (T := TX8) (N := 38) hx hb hts hi_X8_casesIn_8 hown hK hP 0 rfl rfl 3 (by decide) (hts (.fieldLink RX8 115 "TheLiningsInItModel" "depth" "I") (List.mem_of_getElem? (i := 2) rfl)) (fun _ h9 => h9) rfl dX8_casesIn_13 ?_
  refine lv_aload_n hx hb dX8_casesIn_16 rfl (lv_at hl 1 rfl) ?_
  refine va_get (D := D) (ci := 8) (v := .int 60) (C := RX8) (T := TX8) (N := 38) hx hb hts hi_X8_casesIn_8 hown hK hP 0 rfl rfl 5 (by decide) (hts (.fieldLink RX8 13 "TheLiningsInItModel" "seconds" "I") (List.mem_of_getElem? (i := 3) rfl)) (fun _ h9 => h9) rfl dX8_casesIn_17 ?_
  refine lv_iconst (v := 0) hx hb dX8_casesIn_20 (by decide) ?_
  refine zc_V (As := [.int 0, .int 0, .int 60, .int 0]) (rest := []) ⟨hx, hb, hml, hown, hts⟩ (c_M_mostCases_0 l D cI cJ cZ cP cS m0 mrf mki mpa mta mla msl mco mhe mso msi msh mce mca mwo mnu mte mwa mke mma mth mtr (h) (60) (0) ) (cwV 4 hts gX8_casesIn_X8_mostCases rfl rfl rfl (by decide +kernel) ⟨Nat.le_of_ble_eq_true rfl, Nat.le_of_ble_eq_true rfl⟩) hK hN (hZ.kept hS) hP [0] rfl (va_recv hK hP (ci := 8) (q0 := 0) rfl rfl) rfl hl.1 rfl (Nat.le_of_ble_eq_true rfl) dX8_casesIn_21 ⟨Nat.le_of_ble_eq_true rfl, Nat.le_of_ble_eq_true rfl⟩ (fun r_1 hr_1 => ?_)
  obtain rfl := hr_1
  refine lv_istore (lv' := [(4, .int 1), (3, .int 0), (0, .ref m0), (1, .int 0), (2, .int h)]) hx hb dX8_casesIn_24 hl (by decide) rfl (fun ls hl => ?_)
  refine lv_aload_n hx hb dX8_casesIn_26 rfl (lv_at hl 2 rfl) ?_
  refine lv_iload_n hx hb dX8_casesIn_27 rfl (lv_at hl 1 rfl) ?_
  refine va_put (D := D) (ci := 8) (v := .int 0) (ty := .int) (C := RX8) (T := TX8) (N := 38) hx hb hts hi_X8_casesIn_8 tyX8 tyX8_ok nmX8 hown hK hP hD hS 0 rfl rfl 6 (by decide) (hts (.fieldLink RX8 135 "TheLiningsInItModel" "hurry" "I") (List.mem_of_getElem? (i := 1) rfl)) (fun _ h9 => h9) rfl (by decide +kernel) rfl rfl (Nat.le_of_ble_eq_true rfl) dX8_casesIn_28 (fun H locs hP hD hS => ?_)
  replace hP : va_P D vwCl [(m0, .inr (8, (.int 0 :: .int 20 :: .int 0 :: .int 0 :: .int 0 :: .int 60 :: .int 0 :: .int 3 :: .int 1 :: .int (-1) :: .ref mrf :: .ref mki :: .ref mpa :: .ref mta :: .ref mla :: .ref msl :: .ref mco :: .ref mhe :: .ref mso :: .ref msi :: .ref msh :: .ref mce :: .ref mca :: .ref mwo :: .ref mnu :: .ref mte :: .int 0 :: .int 0 :: .int 0 :: .int 0 :: .int 0 :: .ref mwa :: .ref mke :: .ref mma :: .ref mth :: .ref mtr :: .int 0 :: .int 0 :: [])))] H := hP
  replace hD : va_D _ [(m0, .inr (8, (.int 0 :: .int 20 :: .int 0 :: .int 0 :: .int 0 :: .int 60 :: .int 0 :: .int 3 :: .int 1 :: .int (-1) :: .ref mrf :: .ref mki :: .ref mpa :: .ref mta :: .ref mla :: .ref msl :: .ref mco :: .ref mhe :: .ref mso :: .ref msi :: .ref msh :: .ref mce :: .ref mca :: .ref mwo :: .ref mnu :: .ref mte :: .int 0 :: .int 0 :: .int 0 :: .int 0 :: .int 0 :: .ref mwa :: .ref mke :: .ref mma :: .ref mth :: .ref mtr :: .int 0 :: .int 0 :: [])))] := hD
  refine lv_iload hx hb dX8_casesIn_31 (lv_at hl 0 rfl) ?_
  exact W.iret (v := 1) hx hb hr (fun t ht hW => ⟨⟨1, (), rfl, rfl, by rw [ht]; exact hP.sub (ws' := [(m0, .inr (8, (.int 0 :: .int 20 :: .int 0 :: .int 0 :: .int 0 :: .int 60 :: .int 0 :: .int 3 :: .int 1 :: .int (-1) :: .ref mrf :: .ref mki :: .ref mpa :: .ref mta :: .ref mla :: .ref msl :: .ref mco :: .ref mhe :: .ref mso :: .ref msi :: .ref msh :: .ref mce :: .ref mca :: .ref mwo :: .ref mnu :: .ref mte :: .int 0 :: .int 0 :: .int 0 :: .int 0 :: .int 0 :: .ref mwa :: .ref mke :: .ref mma :: .ref mth :: .ref mtr :: .int 0 :: .int 0 :: [])))]) [0] rfl, hD.sub (ws' := [(m0, .inr (8, (.int 0 :: .int 20 :: .int 0 :: .int 0 :: .int 0 :: .int 60 :: .int 0 :: .int 3 :: .int 1 :: .int (-1) :: .ref mrf :: .ref mki :: .ref mpa :: .ref mta :: .ref mla :: .ref msl :: .ref mco :: .ref mhe :: .ref mso :: .ref msi :: .ref msh :: .ref mce :: .ref mca :: .ref mwo :: .ref mnu :: .ref mte :: .int 0 :: .int 0 :: .int 0 :: .int 0 :: .int 0 :: .ref mwa :: .ref mke :: .ref mma :: .ref mth :: .ref mtr :: .int 0 :: .int 0 :: [])))]) [0] (by decide) rfl⟩, hS.F ht⟩) hS.2.2 dX8_casesIn_33
set_option maxHeartbeats 4000000 in
set_option maxRecDepth 100000 in
theorem c_M_casesIn_1 (l : Launch) (D : va_G) (cI cJ cZ cP cS : ClassId) (m0 mrf mki mpa mta mla msl mco mhe mso msi msh mce mca mwo mnu mte mwa mke mma mth mtr : Nat) (h : Int32)  (sz : Nat) : Met l yX8_casesIn wsX8_casesIn ({ frames := 3, cells := 0, slots := 0, locals := 69 }) (va_Pc [.ref m0, .int 1, .int h] (zW D (zKT cI cJ cZ cP cS) [(m0, .inr (8, (.int 0 :: .int 20 :: .int 0 :: .int 0 :: .int 0 :: .int 60 :: .int 0 :: .int 3 :: .int 1 :: .int (-1) :: .ref mrf :: .ref mki :: .ref mpa :: .ref mta :: .ref mla :: .ref msl :: .ref mco :: .ref mhe :: .ref mso :: .ref msi :: .ref msh :: .ref mce :: .ref mca :: .ref mwo :: .ref mnu :: .ref mte :: .int 0 :: .int 0 :: .int 0 :: .int 0 :: .int 0 :: .ref mwa :: .ref mke :: .ref mma :: .ref mth :: .ref mtr :: .int 0 :: .int 0 :: [])))] sz)) (va_Qi (fun (r : Int32) (_ : Unit) => r = 12) (zB D [(m0, .inr (8, (.int 0 :: .int 20 :: .int 0 :: .int 0 :: .int 0 :: .int 60 :: .int 0 :: .int 3 :: .int 1 :: .int (-1) :: .ref mrf :: .ref mki :: .ref mpa :: .ref mta :: .ref mla :: .ref msl :: .ref mco :: .ref mhe :: .ref mso :: .ref msi :: .ref msh :: .ref mce :: .ref mca :: .ref mwo :: .ref mnu :: .ref mte :: .int 0 :: .int 0 :: .int 0 :: .int 0 :: .int 0 :: .ref mwa :: .ref mke :: .ref mma :: .ref mth :: .ref mtr :: .int 0 :: .int 0 :: [])))] sz (fun (_ : Unit) => [(m0, .inr (8, (.int 0 :: .int 20 :: .int 0 :: .int 0 :: .int 0 :: .int 60 :: .int 0 :: .int 3 :: .int 1 :: .int (-1) :: .ref mrf :: .ref mki :: .ref mpa :: .ref mta :: .ref mla :: .ref msl :: .ref mco :: .ref mhe :: .ref mso :: .ref msi :: .ref msh :: .ref mce :: .ref mca :: .ref mwo :: .ref mnu :: .ref mte :: .int 0 :: .int 0 :: .int 0 :: .int 0 :: .int 0 :: .ref mwa :: .ref mke :: .ref mma :: .ref mth :: .ref mtr :: .int 0 :: .int 0 :: [])))])) (va_A [(m0, .inr (8, (.int 0 :: .int 20 :: .int 0 :: .int 0 :: .int 0 :: .int 60 :: .int 0 :: .int 3 :: .int 1 :: .int (-1) :: .ref mrf :: .ref mki :: .ref mpa :: .ref mta :: .ref mla :: .ref msl :: .ref mco :: .ref mhe :: .ref mso :: .ref msi :: .ref msh :: .ref mce :: .ref mca :: .ref mwo :: .ref mnu :: .ref mte :: .int 0 :: .int 0 :: .int 0 :: .int 0 :: .int 0 :: .ref mwa :: .ref mke :: .ref mma :: .ref mth :: .ref mtr :: .int 0 :: .int 0 :: [])))] sz)) 0 0 (va_A [(m0, .inr (8, (.int 0 :: .int 20 :: .int 0 :: .int 0 :: .int 0 :: .int 60 :: .int 0 :: .int 3 :: .int 1 :: .int (-1) :: .ref mrf :: .ref mki :: .ref mpa :: .ref mta :: .ref mla :: .ref msl :: .ref mco :: .ref mhe :: .ref mso :: .ref msi :: .ref msh :: .ref mce :: .ref mca :: .ref mwo :: .ref mnu :: .ref mte :: .int 0 :: .int 0 :: .int 0 :: .int 0 :: .int 0 :: .ref mwa :: .ref mke :: .ref mma :: .ref mth :: .ref mtr :: .int 0 :: .int 0 :: [])))] sz) := by
  refine Met.ofW (cc := cX8_casesIn) (maxL := 5) (ret := (some .int)) (by decide) rfl ?_
  intro p e s m args below meth c s₁ B hml hv
  obtain ⟨rfl, hsz, hP, hK, hD0, hN, hZ⟩ := hv
  have hx := B.exec
  have hb := B.bytes
  have hr := B.returns
  have hts := atoms_spec (ws := wsX8_casesIn) B.pre
  have hown : s.vm.findClass RX8 = some m.cls := findClass_of_methodNamed B.named
  have hlocks := B.notSynchronized
  subst hsz
  have hD := hD0.self (sz := s.heap.size)
  have hA : ∀ q : Nat, s.heap.size ≤ q → va_A [(m0, .inr (8, (.int 0 :: .int 20 :: .int 0 :: .int 0 :: .int 0 :: .int 60 :: .int 0 :: .int 3 :: .int 1 :: .int (-1) :: .ref mrf :: .ref mki :: .ref mpa :: .ref mta :: .ref mla :: .ref msl :: .ref mco :: .ref mhe :: .ref mso :: .ref msi :: .ref msh :: .ref mce :: .ref mca :: .ref mwo :: .ref mnu :: .ref mte :: .int 0 :: .int 0 :: .int 0 :: .int 0 :: .int 0 :: .ref mwa :: .ref mke :: .ref mma :: .ref mth :: .ref mtr :: .int 0 :: .int 0 :: [])))] s.heap.size q := fun q h => Or.inr h
  have hS : va_S (va_A [(m0, .inr (8, (.int 0 :: .int 20 :: .int 0 :: .int 0 :: .int 0 :: .int 60 :: .int 0 :: .int 3 :: .int 1 :: .int (-1) :: .ref mrf :: .ref mki :: .ref mpa :: .ref mta :: .ref mla :: .ref msl :: .ref mco :: .ref mhe :: .ref mso :: .ref msi :: .ref msh :: .ref mce :: .ref mca :: .ref mwo :: .ref mnu :: .ref mte :: .int 0 :: .int 0 :: .int 0 :: .int 0 :: .int 0 :: .ref mwa :: .ref mke :: .ref mma :: .ref mth :: .ref mtr :: .int 0 :: .int 0 :: [])))] s.heap.size) s.heap s.heap [] := va_S.rf
  replace hP : va_P D vwCl _ s.heap := hP
  have hl := lv_entry ([.ref m0, .int 1, .int h]) (n := 5) (Nat.le_of_ble_eq_true rfl)
  rw [lg_entry_eq]
  generalize (lg_sl ([.ref m0, .int 1, .int h]) ++ List.replicate (5 - (lg_sl ([.ref m0, .int 1, .int h])).length) Slot.unset).toArray = ls at hl ⊢
  replace hl : lv_has ls 5 [(0, .ref m0), (1, .int 1), (2, .int h)] := hl
  refine zw_start (fun H locs hH hL => ?_)
  replace hP : va_P D vwCl [(m0, .inr (8, (.int 0 :: .int 20 :: .int 0 :: .int 0 :: .int 0 :: .int 60 :: .int 0 :: .int 3 :: .int 1 :: .int (-1) :: .ref mrf :: .ref mki :: .ref mpa :: .ref mta :: .ref mla :: .ref msl :: .ref mco :: .ref mhe :: .ref mso :: .ref msi :: .ref msh :: .ref mce :: .ref mca :: .ref mwo :: .ref mnu :: .ref mte :: .int 0 :: .int 0 :: .int 0 :: .int 0 :: .int 0 :: .ref mwa :: .ref mke :: .ref mma :: .ref mth :: .ref mtr :: .int 0 :: .int 0 :: [])))] H := by rw [hH]; exact hP
  replace hS : va_S (va_A [(m0, .inr (8, (.int 0 :: .int 20 :: .int 0 :: .int 0 :: .int 0 :: .int 60 :: .int 0 :: .int 3 :: .int 1 :: .int (-1) :: .ref mrf :: .ref mki :: .ref mpa :: .ref mta :: .ref mla :: .ref msl :: .ref mco :: .ref mhe :: .ref mso :: .ref msi :: .ref msh :: .ref mce :: .ref mca :: .ref mwo :: .ref mnu :: .ref mte :: .int 0 :: .int 0 :: .int 0 :: .int 0 :: .int 0 :: .ref mwa :: .ref mke :: .ref mma :: .ref mth :: .ref mtr :: .int 0 :: .int 0 :: [])))] s.heap.size) s.heap H locs := by rw [hH, hL]; exact hS
  clear hH hL
  refine lv_aload_n hx hb dX8_casesIn_0 rfl (lv_at hl 0 rfl) ?_
  refine va_get (D := D) (ci := 8) (v := .int 0) (C := RX8) (T := TX8) (N := 38) hx hb hts hi_X8_casesIn_8 hown hK hP 0 rfl rfl 6 (by decide) (hts (.fieldLink RX8 135 "TheLiningsInItModel" "hurry" "I") (List.mem_of_getElem? (i := 1) rfl)) (fun _ h9 => h9) rfl dX8_casesIn_1 ?_
  refine lv_istore_n (lv' := [(3, .int 0), (0, .ref m0), (1, .int 1), (2, .int h)]) hx hb dX8_casesIn_4 rfl hl (by decide) rfl (fun ls hl => ?_)
  refine lv_aload_n hx hb dX8_casesIn_5 rfl (lv_at hl 1 rfl) ?_
  refine lv_iload_n hx hb dX8_casesIn_6 rfl (lv_at hl 3 rfl) ?_
  refine va_put (D := D) (ci := 8) (v := .int h) (ty := .int) (C := RX8) (T := TX8) (N := 38) hx hb hts hi_X8_casesIn_8 tyX8 tyX8_ok nmX8 hown hK hP hD hS 0 rfl rfl 6 (by decide) (hts (.fieldLink RX8 135 "TheLiningsInItModel" "hurry" "I") (List.mem_of_getElem? (i := 1) rfl)) (fun _ h9 => h9) rfl (by decide +kernel) rfl rfl (Nat.le_of_ble_eq_true rfl) dX8_casesIn_7 (fun H locs hP hD hS => ?_)
  replace hP : va_P D vwCl [(m0, .inr (8, (.int 0 :: .int 20 :: .int 0 :: .int 0 :: .int 0 :: .int 60 :: .int h :: .int 3 :: .int 1 :: .int (-1) :: .ref mrf :: .ref mki :: .ref mpa :: .ref mta :: .ref mla :: .ref msl :: .ref mco :: .ref mhe :: .ref mso :: .ref msi :: .ref msh :: .ref mce :: .ref mca :: .ref mwo :: .ref mnu :: .ref mte :: .int 0 :: .int 0 :: .int 0 :: .int 0 :: .int 0 :: .ref mwa :: .ref mke :: .ref mma :: .ref mth :: .ref mtr :: .int 0 :: .int 0 :: [])))] H := hP
  replace hD : va_D _ [(m0, .inr (8, (.int 0 :: .int 20 :: .int 0 :: .int 0 :: .int 0 :: .int 60 :: .int h :: .int 3 :: .int 1 :: .int (-1) :: .ref mrf :: .ref mki :: .ref mpa :: .ref mta :: .ref mla :: .ref msl :: .ref mco :: .ref mhe :: .ref mso :: .ref msi :: .ref msh :: .ref mce :: .ref mca :: .ref mwo :: .ref mnu :: .ref mte :: .int 0 :: .int 0 :: .int 0 :: .int 0 :: .int 0 :: .ref mwa :: .ref mke :: .ref mma :: .ref mth :: .ref mtr :: .int 0 :: .int 0 :: [])))] := hD
  refine lv_aload_n hx hb dX8_casesIn_10 rfl (lv_at hl 1 rfl) ?_
  refine lv_iload_n hx hb dX8_casesIn_11 rfl (lv_at hl 2 rfl) ?_
  refine lv_aload_n hx hb dX8_casesIn_12 rfl (lv_at hl 1 rfl) ?_
  refine va_get (D := D) (ci := 8) (v := .int 0) (C := RX8) (T := TX8) (N := 38) hx hb hts hi_X8_casesIn_8 hown hK hP 0 rfl rfl 3 (by decide) (hts (.fieldLink RX8 115 "TheLiningsInItModel" "depth" "I") (List.mem_of_getElem? (i := 2) rfl)) (fun _ h9 => h9) rfl dX8_casesIn_13 ?_
  refine lv_aload_n hx hb dX8_casesIn_16 rfl (lv_at hl 1 rfl) ?_
  refine va_get (D := D) (ci := 8) (v := .int 60) (C := RX8) (T := TX8) (N := 38) hx hb hts hi_X8_casesIn_8 hown hK hP 0 rfl rfl 5 (by decide) (hts (.fieldLink RX8 13 "TheLiningsInItModel" "seconds" "I") (List.mem_of_getElem? (i := 3) rfl)) (fun _ h9 => h9) rfl dX8_casesIn_17 ?_
  refine lv_iconst (v := 0) hx hb dX8_casesIn_20 (by decide) ?_
  refine zc_V (As := [.int 1, .int 0, .int 60, .int 0]) (rest := []) ⟨hx, hb, hml, hown, hts⟩ (c_M_mostCases_1 l D cI cJ cZ cP cS m0 mrf mki mpa mta mla msl mco mhe mso msi msh mce mca mwo mnu mte mwa mke mma mth mtr (h) (60) (0) ) (cwV 4 hts gX8_casesIn_X8_mostCases rfl rfl rfl (by decide +kernel) ⟨Nat.le_of_ble_eq_true rfl, Nat.le_of_ble_eq_true rfl⟩) hK hN (hZ.kept hS) hP [0] rfl (va_recv hK hP (ci := 8) (q0 := 0) rfl rfl) rfl hl.1 rfl (Nat.le_of_ble_eq_true rfl) dX8_casesIn_21 ⟨Nat.le_of_ble_eq_true rfl, Nat.le_of_ble_eq_true rfl⟩ (fun r_1 hr_1 => ?_)
  obtain rfl := hr_1
  refine lv_istore (lv' := [(4, .int 12), (3, .int 0), (0, .ref m0), (1, .int 1), (2, .int h)]) hx hb dX8_casesIn_24 hl (by decide) rfl (fun ls hl => ?_)
  refine lv_aload_n hx hb dX8_casesIn_26 rfl (lv_at hl 2 rfl) ?_
  refine lv_iload_n hx hb dX8_casesIn_27 rfl (lv_at hl 1 rfl) ?_
  refine va_put (D := D) (ci := 8) (v := .int 0) (ty := .int) (C := RX8) (T := TX8) (N := 38) hx hb hts hi_X8_casesIn_8 tyX8 tyX8_ok nmX8 hown hK hP hD hS 0 rfl rfl 6 (by decide) (hts (.fieldLink RX8 135 "TheLiningsInItModel" "hurry" "I") (List.mem_of_getElem? (i := 1) rfl)) (fun _ h9 => h9) rfl (by decide +kernel) rfl rfl (Nat.le_of_ble_eq_true rfl) dX8_casesIn_28 (fun H locs hP hD hS => ?_)
  replace hP : va_P D vwCl [(m0, .inr (8, (.int 0 :: .int 20 :: .int 0 :: .int 0 :: .int 0 :: .int 60 :: .int 0 :: .int 3 :: .int 1 :: .int (-1) :: .ref mrf :: .ref mki :: .ref mpa :: .ref mta :: .ref mla :: .ref msl :: .ref mco :: .ref mhe :: .ref mso :: .ref msi :: .ref msh :: .ref mce :: .ref mca :: .ref mwo :: .ref mnu :: .ref mte :: .int 0 :: .int 0 :: .int 0 :: .int 0 :: .int 0 :: .ref mwa :: .ref mke :: .ref mma :: .ref mth :: .ref mtr :: .int 0 :: .int 0 :: [])))] H := hP
  replace hD : va_D _ [(m0, .inr (8, (.int 0 :: .int 20 :: .int 0 :: .int 0 :: .int 0 :: .int 60 :: .int 0 :: .int 3 :: .int 1 :: .int (-1) :: .ref mrf :: .ref mki :: .ref mpa :: .ref mta :: .ref mla :: .ref msl :: .ref mco :: .ref mhe :: .ref mso :: .ref msi :: .ref msh :: .ref mce :: .ref mca :: .ref mwo :: .ref mnu :: .ref mte :: .int 0 :: .int 0 :: .int 0 :: .int 0 :: .int 0 :: .ref mwa :: .ref mke :: .ref mma :: .ref mth :: .ref mtr :: .int 0 :: .int 0 :: [])))] := hD
  refine lv_iload hx hb dX8_casesIn_31 (lv_at hl 0 rfl) ?_
  exact W.iret (v := 12) hx hb hr (fun t ht hW => ⟨⟨12, (), rfl, rfl, by rw [ht]; exact hP.sub (ws' := [(m0, .inr (8, (.int 0 :: .int 20 :: .int 0 :: .int 0 :: .int 0 :: .int 60 :: .int 0 :: .int 3 :: .int 1 :: .int (-1) :: .ref mrf :: .ref mki :: .ref mpa :: .ref mta :: .ref mla :: .ref msl :: .ref mco :: .ref mhe :: .ref mso :: .ref msi :: .ref msh :: .ref mce :: .ref mca :: .ref mwo :: .ref mnu :: .ref mte :: .int 0 :: .int 0 :: .int 0 :: .int 0 :: .int 0 :: .ref mwa :: .ref mke :: .ref mma :: .ref mth :: .ref mtr :: .int 0 :: .int 0 :: [])))]) [0] rfl, hD.sub (ws' := [(m0, .inr (8, (.int 0 :: .int 20 :: .int 0 :: .int 0 :: .int 0 :: .int 60 :: .int 0 :: .int 3 :: .int 1 :: .int (-1) :: .ref mrf :: .ref mki :: .ref mpa :: .ref mta :: .ref mla :: .ref msl :: .ref mco :: .ref mhe :: .ref mso :: .ref msi :: .ref msh :: .ref mce :: .ref mca :: .ref mwo :: .ref mnu :: .ref mte :: .int 0 :: .int 0 :: .int 0 :: .int 0 :: .int 0 :: .ref mwa :: .ref mke :: .ref mma :: .ref mth :: .ref mtr :: .int 0 :: .int 0 :: [])))]) [0] (by decide) rfl⟩, hS.F ht⟩) hS.2.2 dX8_casesIn_33
set_option maxHeartbeats 4000000 in
set_option maxRecDepth 100000 in
theorem c_M_casesIn_2 (l : Launch) (D : va_G) (cI cJ cZ cP cS : ClassId) (m0 mrf mki mpa mta mla msl mco mhe mso msi msh mce mca mwo mnu mte mwa mke mma mth mtr : Nat) (h : Int32)  (sz : Nat) : Met l yX8_casesIn wsX8_casesIn ({ frames := 4, cells := 0, slots := 0, locals := 90 }) (va_Pc [.ref m0, .int 2, .int h] (zW D (zKT cI cJ cZ cP cS) [(m0, .inr (8, (.int 0 :: .int 20 :: .int 0 :: .int 0 :: .int 0 :: .int 60 :: .int 0 :: .int 3 :: .int 1 :: .int (-1) :: .ref mrf :: .ref mki :: .ref mpa :: .ref mta :: .ref mla :: .ref msl :: .ref mco :: .ref mhe :: .ref mso :: .ref msi :: .ref msh :: .ref mce :: .ref mca :: .ref mwo :: .ref mnu :: .ref mte :: .int 0 :: .int 0 :: .int 0 :: .int 0 :: .int 0 :: .ref mwa :: .ref mke :: .ref mma :: .ref mth :: .ref mtr :: .int 0 :: .int 0 :: [])))] sz)) (va_Qi (fun (r : Int32) (_ : Unit) => r = 144) (zB D [(m0, .inr (8, (.int 0 :: .int 20 :: .int 0 :: .int 0 :: .int 0 :: .int 60 :: .int 0 :: .int 3 :: .int 1 :: .int (-1) :: .ref mrf :: .ref mki :: .ref mpa :: .ref mta :: .ref mla :: .ref msl :: .ref mco :: .ref mhe :: .ref mso :: .ref msi :: .ref msh :: .ref mce :: .ref mca :: .ref mwo :: .ref mnu :: .ref mte :: .int 0 :: .int 0 :: .int 0 :: .int 0 :: .int 0 :: .ref mwa :: .ref mke :: .ref mma :: .ref mth :: .ref mtr :: .int 0 :: .int 0 :: [])))] sz (fun (_ : Unit) => [(m0, .inr (8, (.int 0 :: .int 20 :: .int 0 :: .int 0 :: .int 0 :: .int 60 :: .int 0 :: .int 3 :: .int 1 :: .int (-1) :: .ref mrf :: .ref mki :: .ref mpa :: .ref mta :: .ref mla :: .ref msl :: .ref mco :: .ref mhe :: .ref mso :: .ref msi :: .ref msh :: .ref mce :: .ref mca :: .ref mwo :: .ref mnu :: .ref mte :: .int 0 :: .int 0 :: .int 0 :: .int 0 :: .int 0 :: .ref mwa :: .ref mke :: .ref mma :: .ref mth :: .ref mtr :: .int 0 :: .int 0 :: [])))])) (va_A [(m0, .inr (8, (.int 0 :: .int 20 :: .int 0 :: .int 0 :: .int 0 :: .int 60 :: .int 0 :: .int 3 :: .int 1 :: .int (-1) :: .ref mrf :: .ref mki :: .ref mpa :: .ref mta :: .ref mla :: .ref msl :: .ref mco :: .ref mhe :: .ref mso :: .ref msi :: .ref msh :: .ref mce :: .ref mca :: .ref mwo :: .ref mnu :: .ref mte :: .int 0 :: .int 0 :: .int 0 :: .int 0 :: .int 0 :: .ref mwa :: .ref mke :: .ref mma :: .ref mth :: .ref mtr :: .int 0 :: .int 0 :: [])))] sz)) 0 0 (va_A [(m0, .inr (8, (.int 0 :: .int 20 :: .int 0 :: .int 0 :: .int 0 :: .int 60 :: .int 0 :: .int 3 :: .int 1 :: .int (-1) :: .ref mrf :: .ref mki :: .ref mpa :: .ref mta :: .ref mla :: .ref msl :: .ref mco :: .ref mhe :: .ref mso :: .ref msi :: .ref msh :: .ref mce :: .ref mca :: .ref mwo :: .ref mnu :: .ref mte :: .int 0 :: .int 0 :: .int 0 :: .int 0 :: .int 0 :: .ref mwa :: .ref mke :: .ref mma :: .ref mth :: .ref mtr :: .int 0 :: .int 0 :: [])))] sz) := by
  refine Met.ofW (cc := cX8_casesIn) (maxL := 5) (ret := (some .int)) (by decide) rfl ?_
  intro p e s m args below meth c s₁ B hml hv
  obtain ⟨rfl, hsz, hP, hK, hD0, hN, hZ⟩ := hv
  have hx := B.exec
  have hb := B.bytes
  have hr := B.returns
  have hts := atoms_spec (ws := wsX8_casesIn) B.pre
  have hown : s.vm.findClass RX8 = some m.cls := findClass_of_methodNamed B.named
  have hlocks := B.notSynchronized
  subst hsz
  have hD := hD0.self (sz := s.heap.size)
  have hA : ∀ q : Nat, s.heap.size ≤ q → va_A [(m0, .inr (8, (.int 0 :: .int 20 :: .int 0 :: .int 0 :: .int 0 :: .int 60 :: .int 0 :: .int 3 :: .int 1 :: .int (-1) :: .ref mrf :: .ref mki :: .ref mpa :: .ref mta :: .ref mla :: .ref msl :: .ref mco :: .ref mhe :: .ref mso :: .ref msi :: .ref msh :: .ref mce :: .ref mca :: .ref mwo :: .ref mnu :: .ref mte :: .int 0 :: .int 0 :: .int 0 :: .int 0 :: .int 0 :: .ref mwa :: .ref mke :: .ref mma :: .ref mth :: .ref mtr :: .int 0 :: .int 0 :: [])))] s.heap.size q := fun q h => Or.inr h
  have hS : va_S (va_A [(m0, .inr (8, (.int 0 :: .int 20 :: .int 0 :: .int 0 :: .int 0 :: .int 60 :: .int 0 :: .int 3 :: .int 1 :: .int (-1) :: .ref mrf :: .ref mki :: .ref mpa :: .ref mta :: .ref mla :: .ref msl :: .ref mco :: .ref mhe :: .ref mso :: .ref msi :: .ref msh :: .ref mce :: .ref mca :: .ref mwo :: .ref mnu :: .ref mte :: .int 0 :: .int 0 :: .int 0 :: .int 0 :: .int 0 :: .ref mwa :: .ref mke :: .ref mma :: .ref mth :: .ref mtr :: .int 0 :: .int 0 :: [])))] s.heap.size) s.heap s.heap [] := va_S.rf
  replace hP : va_P D vwCl _ s.heap := hP
  have hl := lv_entry ([.ref m0, .int 2, .int h]) (n := 5) (Nat.le_of_ble_eq_true rfl)
  rw [lg_entry_eq]
  generalize (lg_sl ([.ref m0, .int 2, .int h]) ++ List.replicate (5 - (lg_sl ([.ref m0, .int 2, .int h])).length) Slot.unset).toArray = ls at hl ⊢
  replace hl : lv_has ls 5 [(0, .ref m0), (1, .int 2), (2, .int h)] := hl
  refine zw_start (fun H locs hH hL => ?_)
  replace hP : va_P D vwCl [(m0, .inr (8, (.int 0 :: .int 20 :: .int 0 :: .int 0 :: .int 0 :: .int 60 :: .int 0 :: .int 3 :: .int 1 :: .int (-1) :: .ref mrf :: .ref mki :: .ref mpa :: .ref mta :: .ref mla :: .ref msl :: .ref mco :: .ref mhe :: .ref mso :: .ref msi :: .ref msh :: .ref mce :: .ref mca :: .ref mwo :: .ref mnu :: .ref mte :: .int 0 :: .int 0 :: .int 0 :: .int 0 :: .int 0 :: .ref mwa :: .ref mke :: .ref mma :: .ref mth :: .ref mtr :: .int 0 :: .int 0 :: [])))] H := by rw [hH]; exact hP
  replace hS : va_S (va_A [(m0, .inr (8, (.int 0 :: .int 20 :: .int 0 :: .int 0 :: .int 0 :: .int 60 :: .int 0 :: .int 3 :: .int 1 :: .int (-1) :: .ref mrf :: .ref mki :: .ref mpa :: .ref mta :: .ref mla :: .ref msl :: .ref mco :: .ref mhe :: .ref mso :: .ref msi :: .ref msh :: .ref mce :: .ref mca :: .ref mwo :: .ref mnu :: .ref mte :: .int 0 :: .int 0 :: .int 0 :: .int 0 :: .int 0 :: .ref mwa :: .ref mke :: .ref mma :: .ref mth :: .ref mtr :: .int 0 :: .int 0 :: [])))] s.heap.size) s.heap H locs := by rw [hH, hL]; exact hS
  clear hH hL
  refine lv_aload_n hx hb dX8_casesIn_0 rfl (lv_at hl 0 rfl) ?_
  refine va_get (D := D) (ci := 8) (v := .int 0) (C := RX8) (T := TX8) (N := 38) hx hb hts hi_X8_casesIn_8 hown hK hP 0 rfl rfl 6 (by decide) (hts (.fieldLink RX8 135 "TheLiningsInItModel" "hurry" "I") (List.mem_of_getElem? (i := 1) rfl)) (fun _ h9 => h9) rfl dX8_casesIn_1 ?_
  refine lv_istore_n (lv' := [(3, .int 0), (0, .ref m0), (1, .int 2), (2, .int h)]) hx hb dX8_casesIn_4 rfl hl (by decide) rfl (fun ls hl => ?_)
  refine lv_aload_n hx hb dX8_casesIn_5 rfl (lv_at hl 1 rfl) ?_
  refine lv_iload_n hx hb dX8_casesIn_6 rfl (lv_at hl 3 rfl) ?_
  refine va_put (D := D) (ci := 8) (v := .int h) (ty := .int) (C := RX8) (T := TX8) (N := 38) hx hb hts hi_X8_casesIn_8 tyX8 tyX8_ok nmX8 hown hK hP hD hS 0 rfl rfl 6 (by decide) (hts (.fieldLink RX8 135 "TheLiningsInItModel" "hurry" "I") (List.mem_of_getElem? (i := 1) rfl)) (fun _ h9 => h9) rfl (by decide +kernel) rfl rfl (Nat.le_of_ble_eq_true rfl) dX8_casesIn_7 (fun H locs hP hD hS => ?_)
  replace hP : va_P D vwCl [(m0, .inr (8, (.int 0 :: .int 20 :: .int 0 :: .int 0 :: .int 0 :: .int 60 :: .int h :: .int 3 :: .int 1 :: .int (-1) :: .ref mrf :: .ref mki :: .ref mpa :: .ref mta :: .ref mla :: .ref msl :: .ref mco :: .ref mhe :: .ref mso :: .ref msi :: .ref msh :: .ref mce :: .ref mca :: .ref mwo :: .ref mnu :: .ref mte :: .int 0 :: .int 0 :: .int 0 :: .int 0 :: .int 0 :: .ref mwa :: .ref mke :: .ref mma :: .ref mth :: .ref mtr :: .int 0 :: .int 0 :: [])))] H := hP
  replace hD : va_D _ [(m0, .inr (8, (.int 0 :: .int 20 :: .int 0 :: .int 0 :: .int 0 :: .int 60 :: .int h :: .int 3 :: .int 1 :: .int (-1) :: .ref mrf :: .ref mki :: .ref mpa :: .ref mta :: .ref mla :: .ref msl :: .ref mco :: .ref mhe :: .ref mso :: .ref msi :: .ref msh :: .ref mce :: .ref mca :: .ref mwo :: .ref mnu :: .ref mte :: .int 0 :: .int 0 :: .int 0 :: .int 0 :: .int 0 :: .ref mwa :: .ref mke :: .ref mma :: .ref mth :: .ref mtr :: .int 0 :: .int 0 :: [])))] := hD
  refine lv_aload_n hx hb dX8_casesIn_10 rfl (lv_at hl 1 rfl) ?_
  refine lv_iload_n hx hb dX8_casesIn_11 rfl (lv_at hl 2 rfl) ?_
  refine lv_aload_n hx hb dX8_casesIn_12 rfl (lv_at hl 1 rfl) ?_
  refine va_get (D := D) (ci := 8) (v := .int 0) (C := RX8) (T := TX8) (N := 38) hx hb hts hi_X8_casesIn_8 hown hK hP 0 rfl rfl 3 (by decide) (hts (.fieldLink RX8 115 "TheLiningsInItModel" "depth" "I") (List.mem_of_getElem? (i := 2) rfl)) (fun _ h9 => h9) rfl dX8_casesIn_13 ?_
  refine lv_aload_n hx hb dX8_casesIn_16 rfl (lv_at hl 1 rfl) ?_
  refine va_get (D := D) (ci := 8) (v := .int 60) (C := RX8) (T := TX8) (N := 38) hx hb hts hi_X8_casesIn_8 hown hK hP 0 rfl rfl 5 (by decide) (hts (.fieldLink RX8 13 "TheLiningsInItModel" "seconds" "I") (List.mem_of_getElem? (i := 3) rfl)) (fun _ h9 => h9) rfl dX8_casesIn_17 ?_
  refine lv_iconst (v := 0) hx hb dX8_casesIn_20 (by decide) ?_
  refine zc_V (As := [.int 2, .int 0, .int 60, .int 0]) (rest := []) ⟨hx, hb, hml, hown, hts⟩ (c_M_mostCases_2 l D cI cJ cZ cP cS m0 mrf mki mpa mta mla msl mco mhe mso msi msh mce mca mwo mnu mte mwa mke mma mth mtr (h) (60) (0) ) (cwV 4 hts gX8_casesIn_X8_mostCases rfl rfl rfl (by decide +kernel) ⟨Nat.le_of_ble_eq_true rfl, Nat.le_of_ble_eq_true rfl⟩) hK hN (hZ.kept hS) hP [0] rfl (va_recv hK hP (ci := 8) (q0 := 0) rfl rfl) rfl hl.1 rfl (Nat.le_of_ble_eq_true rfl) dX8_casesIn_21 ⟨Nat.le_of_ble_eq_true rfl, Nat.le_of_ble_eq_true rfl⟩ (fun r_1 hr_1 => ?_)
  obtain rfl := hr_1
  refine lv_istore (lv' := [(4, .int 144), (3, .int 0), (0, .ref m0), (1, .int 2), (2, .int h)]) hx hb dX8_casesIn_24 hl (by decide) rfl (fun ls hl => ?_)
  refine lv_aload_n hx hb dX8_casesIn_26 rfl (lv_at hl 2 rfl) ?_
  refine lv_iload_n hx hb dX8_casesIn_27 rfl (lv_at hl 1 rfl) ?_
  refine va_put (D := D) (ci := 8) (v := .int 0) (ty := .int) (C := RX8) (T := TX8) (N := 38) hx hb hts hi_X8_casesIn_8 tyX8 tyX8_ok nmX8 hown hK hP hD hS 0 rfl rfl 6 (by decide) (hts (.fieldLink RX8 135 "TheLiningsInItModel" "hurry" "I") (List.mem_of_getElem? (i := 1) rfl)) (fun _ h9 => h9) rfl (by decide +kernel) rfl rfl (Nat.le_of_ble_eq_true rfl) dX8_casesIn_28 (fun H locs hP hD hS => ?_)
  replace hP : va_P D vwCl [(m0, .inr (8, (.int 0 :: .int 20 :: .int 0 :: .int 0 :: .int 0 :: .int 60 :: .int 0 :: .int 3 :: .int 1 :: .int (-1) :: .ref mrf :: .ref mki :: .ref mpa :: .ref mta :: .ref mla :: .ref msl :: .ref mco :: .ref mhe :: .ref mso :: .ref msi :: .ref msh :: .ref mce :: .ref mca :: .ref mwo :: .ref mnu :: .ref mte :: .int 0 :: .int 0 :: .int 0 :: .int 0 :: .int 0 :: .ref mwa :: .ref mke :: .ref mma :: .ref mth :: .ref mtr :: .int 0 :: .int 0 :: [])))] H := hP
  replace hD : va_D _ [(m0, .inr (8, (.int 0 :: .int 20 :: .int 0 :: .int 0 :: .int 0 :: .int 60 :: .int 0 :: .int 3 :: .int 1 :: .int (-1) :: .ref mrf :: .ref mki :: .ref mpa :: .ref mta :: .ref mla :: .ref msl :: .ref mco :: .ref mhe :: .ref mso :: .ref msi :: .ref msh :: .ref mce :: .ref mca :: .ref mwo :: .ref mnu :: .ref mte :: .int 0 :: .int 0 :: .int 0 :: .int 0 :: .int 0 :: .ref mwa :: .ref mke :: .ref mma :: .ref mth :: .ref mtr :: .int 0 :: .int 0 :: [])))] := hD
  refine lv_iload hx hb dX8_casesIn_31 (lv_at hl 0 rfl) ?_
  exact W.iret (v := 144) hx hb hr (fun t ht hW => ⟨⟨144, (), rfl, rfl, by rw [ht]; exact hP.sub (ws' := [(m0, .inr (8, (.int 0 :: .int 20 :: .int 0 :: .int 0 :: .int 0 :: .int 60 :: .int 0 :: .int 3 :: .int 1 :: .int (-1) :: .ref mrf :: .ref mki :: .ref mpa :: .ref mta :: .ref mla :: .ref msl :: .ref mco :: .ref mhe :: .ref mso :: .ref msi :: .ref msh :: .ref mce :: .ref mca :: .ref mwo :: .ref mnu :: .ref mte :: .int 0 :: .int 0 :: .int 0 :: .int 0 :: .int 0 :: .ref mwa :: .ref mke :: .ref mma :: .ref mth :: .ref mtr :: .int 0 :: .int 0 :: [])))]) [0] rfl, hD.sub (ws' := [(m0, .inr (8, (.int 0 :: .int 20 :: .int 0 :: .int 0 :: .int 0 :: .int 60 :: .int 0 :: .int 3 :: .int 1 :: .int (-1) :: .ref mrf :: .ref mki :: .ref mpa :: .ref mta :: .ref mla :: .ref msl :: .ref mco :: .ref mhe :: .ref mso :: .ref msi :: .ref msh :: .ref mce :: .ref mca :: .ref mwo :: .ref mnu :: .ref mte :: .int 0 :: .int 0 :: .int 0 :: .int 0 :: .int 0 :: .ref mwa :: .ref mke :: .ref mma :: .ref mth :: .ref mtr :: .int 0 :: .int 0 :: [])))]) [0] (by decide) rfl⟩, hS.F ht⟩) hS.2.2 dX8_casesIn_33
set_option maxHeartbeats 4000000 in
set_option maxRecDepth 100000 in
theorem c_M_casesIn_3 (l : Launch) (D : va_G) (cI cJ cZ cP cS : ClassId) (m0 mrf mki mpa mta mla msl mco mhe mso msi msh mce mca mwo mnu mte mwa mke mma mth mtr : Nat) (h : Int32)  (sz : Nat) : Met l yX8_casesIn wsX8_casesIn ({ frames := 5, cells := 0, slots := 0, locals := 111 }) (va_Pc [.ref m0, .int 3, .int h] (zW D (zKT cI cJ cZ cP cS) [(m0, .inr (8, (.int 0 :: .int 20 :: .int 0 :: .int 0 :: .int 0 :: .int 60 :: .int 0 :: .int 3 :: .int 1 :: .int (-1) :: .ref mrf :: .ref mki :: .ref mpa :: .ref mta :: .ref mla :: .ref msl :: .ref mco :: .ref mhe :: .ref mso :: .ref msi :: .ref msh :: .ref mce :: .ref mca :: .ref mwo :: .ref mnu :: .ref mte :: .int 0 :: .int 0 :: .int 0 :: .int 0 :: .int 0 :: .ref mwa :: .ref mke :: .ref mma :: .ref mth :: .ref mtr :: .int 0 :: .int 0 :: [])))] sz)) (va_Qi (fun (r : Int32) (_ : Unit) => r = 1728) (zB D [(m0, .inr (8, (.int 0 :: .int 20 :: .int 0 :: .int 0 :: .int 0 :: .int 60 :: .int 0 :: .int 3 :: .int 1 :: .int (-1) :: .ref mrf :: .ref mki :: .ref mpa :: .ref mta :: .ref mla :: .ref msl :: .ref mco :: .ref mhe :: .ref mso :: .ref msi :: .ref msh :: .ref mce :: .ref mca :: .ref mwo :: .ref mnu :: .ref mte :: .int 0 :: .int 0 :: .int 0 :: .int 0 :: .int 0 :: .ref mwa :: .ref mke :: .ref mma :: .ref mth :: .ref mtr :: .int 0 :: .int 0 :: [])))] sz (fun (_ : Unit) => [(m0, .inr (8, (.int 0 :: .int 20 :: .int 0 :: .int 0 :: .int 0 :: .int 60 :: .int 0 :: .int 3 :: .int 1 :: .int (-1) :: .ref mrf :: .ref mki :: .ref mpa :: .ref mta :: .ref mla :: .ref msl :: .ref mco :: .ref mhe :: .ref mso :: .ref msi :: .ref msh :: .ref mce :: .ref mca :: .ref mwo :: .ref mnu :: .ref mte :: .int 0 :: .int 0 :: .int 0 :: .int 0 :: .int 0 :: .ref mwa :: .ref mke :: .ref mma :: .ref mth :: .ref mtr :: .int 0 :: .int 0 :: [])))])) (va_A [(m0, .inr (8, (.int 0 :: .int 20 :: .int 0 :: .int 0 :: .int 0 :: .int 60 :: .int 0 :: .int 3 :: .int 1 :: .int (-1) :: .ref mrf :: .ref mki :: .ref mpa :: .ref mta :: .ref mla :: .ref msl :: .ref mco :: .ref mhe :: .ref mso :: .ref msi :: .ref msh :: .ref mce :: .ref mca :: .ref mwo :: .ref mnu :: .ref mte :: .int 0 :: .int 0 :: .int 0 :: .int 0 :: .int 0 :: .ref mwa :: .ref mke :: .ref mma :: .ref mth :: .ref mtr :: .int 0 :: .int 0 :: [])))] sz)) 0 0 (va_A [(m0, .inr (8, (.int 0 :: .int 20 :: .int 0 :: .int 0 :: .int 0 :: .int 60 :: .int 0 :: .int 3 :: .int 1 :: .int (-1) :: .ref mrf :: .ref mki :: .ref mpa :: .ref mta :: .ref mla :: .ref msl :: .ref mco :: .ref mhe :: .ref mso :: .ref msi :: .ref msh :: .ref mce :: .ref mca :: .ref mwo :: .ref mnu :: .ref mte :: .int 0 :: .int 0 :: .int 0 :: .int 0 :: .int 0 :: .ref mwa :: .ref mke :: .ref mma :: .ref mth :: .ref mtr :: .int 0 :: .int 0 :: [])))] sz) := by
  refine Met.ofW (cc := cX8_casesIn) (maxL := 5) (ret := (some .int)) (by decide) rfl ?_
  intro p e s m args below meth c s₁ B hml hv
  obtain ⟨rfl, hsz, hP, hK, hD0, hN, hZ⟩ := hv
  have hx := B.exec
  have hb := B.bytes
  have hr := B.returns
  have hts := atoms_spec (ws := wsX8_casesIn) B.pre
  have hown : s.vm.findClass RX8 = some m.cls := findClass_of_methodNamed B.named
  have hlocks := B.notSynchronized
  subst hsz
  have hD := hD0.self (sz := s.heap.size)
  have hA : ∀ q : Nat, s.heap.size ≤ q → va_A [(m0, .inr (8, (.int 0 :: .int 20 :: .int 0 :: .int 0 :: .int 0 :: .int 60 :: .int 0 :: .int 3 :: .int 1 :: .int (-1) :: .ref mrf :: .ref mki :: .ref mpa :: .ref mta :: .ref mla :: .ref msl :: .ref mco :: .ref mhe :: .ref mso :: .ref msi :: .ref msh :: .ref mce :: .ref mca :: .ref mwo :: .ref mnu :: .ref mte :: .int 0 :: .int 0 :: .int 0 :: .int 0 :: .int 0 :: .ref mwa :: .ref mke :: .ref mma :: .ref mth :: .ref mtr :: .int 0 :: .int 0 :: [])))] s.heap.size q := fun q h => Or.inr h
  have hS : va_S (va_A [(m0, .inr (8, (.int 0 :: .int 20 :: .int 0 :: .int 0 :: .int 0 :: .int 60 :: .int 0 :: .int 3 :: .int 1 :: .int (-1) :: .ref mrf :: .ref mki :: .ref mpa :: .ref mta :: .ref mla :: .ref msl :: .ref mco :: .ref mhe :: .ref mso :: .ref msi :: .ref msh :: .ref mce :: .ref mca :: .ref mwo :: .ref mnu :: .ref mte :: .int 0 :: .int 0 :: .int 0 :: .int 0 :: .int 0 :: .ref mwa :: .ref mke :: .ref mma :: .ref mth :: .ref mtr :: .int 0 :: .int 0 :: [])))] s.heap.size) s.heap s.heap [] := va_S.rf
  replace hP : va_P D vwCl _ s.heap := hP
  have hl := lv_entry ([.ref m0, .int 3, .int h]) (n := 5) (Nat.le_of_ble_eq_true rfl)
  rw [lg_entry_eq]
  generalize (lg_sl ([.ref m0, .int 3, .int h]) ++ List.replicate (5 - (lg_sl ([.ref m0, .int 3, .int h])).length) Slot.unset).toArray = ls at hl ⊢
  replace hl : lv_has ls 5 [(0, .ref m0), (1, .int 3), (2, .int h)] := hl
  refine zw_start (fun H locs hH hL => ?_)
  replace hP : va_P D vwCl [(m0, .inr (8, (.int 0 :: .int 20 :: .int 0 :: .int 0 :: .int 0 :: .int 60 :: .int 0 :: .int 3 :: .int 1 :: .int (-1) :: .ref mrf :: .ref mki :: .ref mpa :: .ref mta :: .ref mla :: .ref msl :: .ref mco :: .ref mhe :: .ref mso :: .ref msi :: .ref msh :: .ref mce :: .ref mca :: .ref mwo :: .ref mnu :: .ref mte :: .int 0 :: .int 0 :: .int 0 :: .int 0 :: .int 0 :: .ref mwa :: .ref mke :: .ref mma :: .ref mth :: .ref mtr :: .int 0 :: .int 0 :: [])))] H := by rw [hH]; exact hP
  replace hS : va_S (va_A [(m0, .inr (8, (.int 0 :: .int 20 :: .int 0 :: .int 0 :: .int 0 :: .int 60 :: .int 0 :: .int 3 :: .int 1 :: .int (-1) :: .ref mrf :: .ref mki :: .ref mpa :: .ref mta :: .ref mla :: .ref msl :: .ref mco :: .ref mhe :: .ref mso :: .ref msi :: .ref msh :: .ref mce :: .ref mca :: .ref mwo :: .ref mnu :: .ref mte :: .int 0 :: .int 0 :: .int 0 :: .int 0 :: .int 0 :: .ref mwa :: .ref mke :: .ref mma :: .ref mth :: .ref mtr :: .int 0 :: .int 0 :: [])))] s.heap.size) s.heap H locs := by rw [hH, hL]; exact hS
  clear hH hL
  refine lv_aload_n hx hb dX8_casesIn_0 rfl (lv_at hl 0 rfl) ?_
  refine va_get (D := D) (ci := 8) (v := .int 0) (C := RX8) (T := TX8) (N := 38) hx hb hts hi_X8_casesIn_8 hown hK hP 0 rfl rfl 6 (by decide) (hts (.fieldLink RX8 135 "TheLiningsInItModel" "hurry" "I") (List.mem_of_getElem? (i := 1) rfl)) (fun _ h9 => h9) rfl dX8_casesIn_1 ?_
  refine lv_istore_n (lv' := [(3, .int 0), (0, .ref m0), (1, .int 3), (2, .int h)]) hx hb dX8_casesIn_4 rfl hl (by decide) rfl (fun ls hl => ?_)
  refine lv_aload_n hx hb dX8_casesIn_5 rfl (lv_at hl 1 rfl) ?_
  refine lv_iload_n hx hb dX8_casesIn_6 rfl (lv_at hl 3 rfl) ?_
  refine va_put (D := D) (ci := 8) (v := .int h) (ty := .int) (C := RX8) (T := TX8) (N := 38) hx hb hts hi_X8_casesIn_8 tyX8 tyX8_ok nmX8 hown hK hP hD hS 0 rfl rfl 6 (by decide) (hts (.fieldLink RX8 135 "TheLiningsInItModel" "hurry" "I") (List.mem_of_getElem? (i := 1) rfl)) (fun _ h9 => h9) rfl (by decide +kernel) rfl rfl (Nat.le_of_ble_eq_true rfl) dX8_casesIn_7 (fun H locs hP hD hS => ?_)
  replace hP : va_P D vwCl [(m0, .inr (8, (.int 0 :: .int 20 :: .int 0 :: .int 0 :: .int 0 :: .int 60 :: .int h :: .int 3 :: .int 1 :: .int (-1) :: .ref mrf :: .ref mki :: .ref mpa :: .ref mta :: .ref mla :: .ref msl :: .ref mco :: .ref mhe :: .ref mso :: .ref msi :: .ref msh :: .ref mce :: .ref mca :: .ref mwo :: .ref mnu :: .ref mte :: .int 0 :: .int 0 :: .int 0 :: .int 0 :: .int 0 :: .ref mwa :: .ref mke :: .ref mma :: .ref mth :: .ref mtr :: .int 0 :: .int 0 :: [])))] H := hP
  replace hD : va_D _ [(m0, .inr (8, (.int 0 :: .int 20 :: .int 0 :: .int 0 :: .int 0 :: .int 60 :: .int h :: .int 3 :: .int 1 :: .int (-1) :: .ref mrf :: .ref mki :: .ref mpa :: .ref mta :: .ref mla :: .ref msl :: .ref mco :: .ref mhe :: .ref mso :: .ref msi :: .ref msh :: .ref mce :: .ref mca :: .ref mwo :: .ref mnu :: .ref mte :: .int 0 :: .int 0 :: .int 0 :: .int 0 :: .int 0 :: .ref mwa :: .ref mke :: .ref mma :: .ref mth :: .ref mtr :: .int 0 :: .int 0 :: [])))] := hD
  refine lv_aload_n hx hb dX8_casesIn_10 rfl (lv_at hl 1 rfl) ?_
  refine lv_iload_n hx hb dX8_casesIn_11 rfl (lv_at hl 2 rfl) ?_
  refine lv_aload_n hx hb dX8_casesIn_12 rfl (lv_at hl 1 rfl) ?_
  refine va_get (D := D) (ci := 8) (v := .int 0) (C := RX8) (T := TX8) (N := 38) hx hb hts hi_X8_casesIn_8 hown hK hP 0 rfl rfl 3 (by decide) (hts (.fieldLink RX8 115 "TheLiningsInItModel" "depth" "I") (List.mem_of_getElem? (i := 2) rfl)) (fun _ h9 => h9) rfl dX8_casesIn_13 ?_
  refine lv_aload_n hx hb dX8_casesIn_16 rfl (lv_at hl 1 rfl) ?_
  refine va_get (D := D) (ci := 8) (v := .int 60) (C := RX8) (T := TX8) (N := 38) hx hb hts hi_X8_casesIn_8 hown hK hP 0 rfl rfl 5 (by decide) (hts (.fieldLink RX8 13 "TheLiningsInItModel" "seconds" "I") (List.mem_of_getElem? (i := 3) rfl)) (fun _ h9 => h9) rfl dX8_casesIn_17 ?_
  refine lv_iconst (v := 0) hx hb dX8_casesIn_20 (by decide) ?_
  refine zc_V (As := [.int 3, .int 0, .int 60, .int 0]) (rest := []) ⟨hx, hb, hml, hown, hts⟩ (c_M_mostCases_3 l D cI cJ cZ cP cS m0 mrf mki mpa mta mla msl mco mhe mso msi msh mce mca mwo mnu mte mwa mke mma mth mtr (h) (60) (0) ) (cwV 4 hts gX8_casesIn_X8_mostCases rfl rfl rfl (by decide +kernel) ⟨Nat.le_of_ble_eq_true rfl, Nat.le_of_ble_eq_true rfl⟩) hK hN (hZ.kept hS) hP [0] rfl (va_recv hK hP (ci := 8) (q0 := 0) rfl rfl) rfl hl.1 rfl (Nat.le_of_ble_eq_true rfl) dX8_casesIn_21 ⟨Nat.le_of_ble_eq_true rfl, Nat.le_of_ble_eq_true rfl⟩ (fun r_1 hr_1 => ?_)
  obtain rfl := hr_1
  refine lv_istore (lv' := [(4, .int 1728), (3, .int 0), (0, .ref m0), (1, .int 3), (2, .int h)]) hx hb dX8_casesIn_24 hl (by decide) rfl (fun ls hl => ?_)
  refine lv_aload_n hx hb dX8_casesIn_26 rfl (lv_at hl 2 rfl) ?_
  refine lv_iload_n hx hb dX8_casesIn_27 rfl (lv_at hl 1 rfl) ?_
  refine va_put (D := D) (ci := 8) (v := .int 0) (ty := .int) (C := RX8) (T := TX8) (N := 38) hx hb hts hi_X8_casesIn_8 tyX8 tyX8_ok nmX8 hown hK hP hD hS 0 rfl rfl 6 (by decide) (hts (.fieldLink RX8 135 "TheLiningsInItModel" "hurry" "I") (List.mem_of_getElem? (i := 1) rfl)) (fun _ h9 => h9) rfl (by decide +kernel) rfl rfl (Nat.le_of_ble_eq_true rfl) dX8_casesIn_28 (fun H locs hP hD hS => ?_)
  replace hP : va_P D vwCl [(m0, .inr (8, (.int 0 :: .int 20 :: .int 0 :: .int 0 :: .int 0 :: .int 60 :: .int 0 :: .int 3 :: .int 1 :: .int (-1) :: .ref mrf :: .ref mki :: .ref mpa :: .ref mta :: .ref mla :: .ref msl :: .ref mco :: .ref mhe :: .ref mso :: .ref msi :: .ref msh :: .ref mce :: .ref mca :: .ref mwo :: .ref mnu :: .ref mte :: .int 0 :: .int 0 :: .int 0 :: .int 0 :: .int 0 :: .ref mwa :: .ref mke :: .ref mma :: .ref mth :: .ref mtr :: .int 0 :: .int 0 :: [])))] H := hP
  replace hD : va_D _ [(m0, .inr (8, (.int 0 :: .int 20 :: .int 0 :: .int 0 :: .int 0 :: .int 60 :: .int 0 :: .int 3 :: .int 1 :: .int (-1) :: .ref mrf :: .ref mki :: .ref mpa :: .ref mta :: .ref mla :: .ref msl :: .ref mco :: .ref mhe :: .ref mso :: .ref msi :: .ref msh :: .ref mce :: .ref mca :: .ref mwo :: .ref mnu :: .ref mte :: .int 0 :: .int 0 :: .int 0 :: .int 0 :: .int 0 :: .ref mwa :: .ref mke :: .ref mma :: .ref mth :: .ref mtr :: .int 0 :: .int 0 :: [])))] := hD
  refine lv_iload hx hb dX8_casesIn_31 (lv_at hl 0 rfl) ?_
  exact W.iret (v := 1728) hx hb hr (fun t ht hW => ⟨⟨1728, (), rfl, rfl, by rw [ht]; exact hP.sub (ws' := [(m0, .inr (8, (.int 0 :: .int 20 :: .int 0 :: .int 0 :: .int 0 :: .int 60 :: .int 0 :: .int 3 :: .int 1 :: .int (-1) :: .ref mrf :: .ref mki :: .ref mpa :: .ref mta :: .ref mla :: .ref msl :: .ref mco :: .ref mhe :: .ref mso :: .ref msi :: .ref msh :: .ref mce :: .ref mca :: .ref mwo :: .ref mnu :: .ref mte :: .int 0 :: .int 0 :: .int 0 :: .int 0 :: .int 0 :: .ref mwa :: .ref mke :: .ref mma :: .ref mth :: .ref mtr :: .int 0 :: .int 0 :: [])))]) [0] rfl, hD.sub (ws' := [(m0, .inr (8, (.int 0 :: .int 20 :: .int 0 :: .int 0 :: .int 0 :: .int 60 :: .int 0 :: .int 3 :: .int 1 :: .int (-1) :: .ref mrf :: .ref mki :: .ref mpa :: .ref mta :: .ref mla :: .ref msl :: .ref mco :: .ref mhe :: .ref mso :: .ref msi :: .ref msh :: .ref mce :: .ref mca :: .ref mwo :: .ref mnu :: .ref mte :: .int 0 :: .int 0 :: .int 0 :: .int 0 :: .int 0 :: .ref mwa :: .ref mke :: .ref mma :: .ref mth :: .ref mtr :: .int 0 :: .int 0 :: [])))]) [0] (by decide) rfl⟩, hS.F ht⟩) hS.2.2 dX8_casesIn_33
set_option maxHeartbeats 4000000 in
set_option maxRecDepth 100000 in
theorem c_M_casesIn_4 (l : Launch) (D : va_G) (cI cJ cZ cP cS : ClassId) (m0 mrf mki mpa mta mla msl mco mhe mso msi msh mce mca mwo mnu mte mwa mke mma mth mtr : Nat) (h : Int32)  (sz : Nat) : Met l yX8_casesIn wsX8_casesIn ({ frames := 6, cells := 0, slots := 0, locals := 132 }) (va_Pc [.ref m0, .int 4, .int h] (zW D (zKT cI cJ cZ cP cS) [(m0, .inr (8, (.int 0 :: .int 20 :: .int 0 :: .int 0 :: .int 0 :: .int 60 :: .int 0 :: .int 3 :: .int 1 :: .int (-1) :: .ref mrf :: .ref mki :: .ref mpa :: .ref mta :: .ref mla :: .ref msl :: .ref mco :: .ref mhe :: .ref mso :: .ref msi :: .ref msh :: .ref mce :: .ref mca :: .ref mwo :: .ref mnu :: .ref mte :: .int 0 :: .int 0 :: .int 0 :: .int 0 :: .int 0 :: .ref mwa :: .ref mke :: .ref mma :: .ref mth :: .ref mtr :: .int 0 :: .int 0 :: [])))] sz)) (va_Qi (fun (r : Int32) (_ : Unit) => r = 20736) (zB D [(m0, .inr (8, (.int 0 :: .int 20 :: .int 0 :: .int 0 :: .int 0 :: .int 60 :: .int 0 :: .int 3 :: .int 1 :: .int (-1) :: .ref mrf :: .ref mki :: .ref mpa :: .ref mta :: .ref mla :: .ref msl :: .ref mco :: .ref mhe :: .ref mso :: .ref msi :: .ref msh :: .ref mce :: .ref mca :: .ref mwo :: .ref mnu :: .ref mte :: .int 0 :: .int 0 :: .int 0 :: .int 0 :: .int 0 :: .ref mwa :: .ref mke :: .ref mma :: .ref mth :: .ref mtr :: .int 0 :: .int 0 :: [])))] sz (fun (_ : Unit) => [(m0, .inr (8, (.int 0 :: .int 20 :: .int 0 :: .int 0 :: .int 0 :: .int 60 :: .int 0 :: .int 3 :: .int 1 :: .int (-1) :: .ref mrf :: .ref mki :: .ref mpa :: .ref mta :: .ref mla :: .ref msl :: .ref mco :: .ref mhe :: .ref mso :: .ref msi :: .ref msh :: .ref mce :: .ref mca :: .ref mwo :: .ref mnu :: .ref mte :: .int 0 :: .int 0 :: .int 0 :: .int 0 :: .int 0 :: .ref mwa :: .ref mke :: .ref mma :: .ref mth :: .ref mtr :: .int 0 :: .int 0 :: [])))])) (va_A [(m0, .inr (8, (.int 0 :: .int 20 :: .int 0 :: .int 0 :: .int 0 :: .int 60 :: .int 0 :: .int 3 :: .int 1 :: .int (-1) :: .ref mrf :: .ref mki :: .ref mpa :: .ref mta :: .ref mla :: .ref msl :: .ref mco :: .ref mhe :: .ref mso :: .ref msi :: .ref msh :: .ref mce :: .ref mca :: .ref mwo :: .ref mnu :: .ref mte :: .int 0 :: .int 0 :: .int 0 :: .int 0 :: .int 0 :: .ref mwa :: .ref mke :: .ref mma :: .ref mth :: .ref mtr :: .int 0 :: .int 0 :: [])))] sz)) 0 0 (va_A [(m0, .inr (8, (.int 0 :: .int 20 :: .int 0 :: .int 0 :: .int 0 :: .int 60 :: .int 0 :: .int 3 :: .int 1 :: .int (-1) :: .ref mrf :: .ref mki :: .ref mpa :: .ref mta :: .ref mla :: .ref msl :: .ref mco :: .ref mhe :: .ref mso :: .ref msi :: .ref msh :: .ref mce :: .ref mca :: .ref mwo :: .ref mnu :: .ref mte :: .int 0 :: .int 0 :: .int 0 :: .int 0 :: .int 0 :: .ref mwa :: .ref mke :: .ref mma :: .ref mth :: .ref mtr :: .int 0 :: .int 0 :: [])))] sz) := by
  refine Met.ofW (cc := cX8_casesIn) (maxL := 5) (ret := (some .int)) (by decide) rfl ?_
  intro p e s m args below meth c s₁ B hml hv
  obtain ⟨rfl, hsz, hP, hK, hD0, hN, hZ⟩ := hv
  have hx := B.exec
  have hb := B.bytes
  have hr := B.returns
  have hts := atoms_spec (ws := wsX8_casesIn) B.pre
  have hown : s.vm.findClass RX8 = some m.cls := findClass_of_methodNamed B.named
  have hlocks := B.notSynchronized
  subst hsz
  have hD := hD0.self (sz := s.heap.size)
  have hA : ∀ q : Nat, s.heap.size ≤ q → va_A [(m0, .inr (8, (.int 0 :: .int 20 :: .int 0 :: .int 0 :: .int 0 :: .int 60 :: .int 0 :: .int 3 :: .int 1 :: .int (-1) :: .ref mrf :: .ref mki :: .ref mpa :: .ref mta :: .ref mla :: .ref msl :: .ref mco :: .ref mhe :: .ref mso :: .ref msi :: .ref msh :: .ref mce :: .ref mca :: .ref mwo :: .ref mnu :: .ref mte :: .int 0 :: .int 0 :: .int 0 :: .int 0 :: .int 0 :: .ref mwa :: .ref mke :: .ref mma :: .ref mth :: .ref mtr :: .int 0 :: .int 0 :: [])))] s.heap.size q := fun q h => Or.inr h
  have hS : va_S (va_A [(m0, .inr (8, (.int 0 :: .int 20 :: .int 0 :: .int 0 :: .int 0 :: .int 60 :: .int 0 :: .int 3 :: .int 1 :: .int (-1) :: .ref mrf :: .ref mki :: .ref mpa :: .ref mta :: .ref mla :: .ref msl :: .ref mco :: .ref mhe :: .ref mso :: .ref msi :: .ref msh :: .ref mce :: .ref mca :: .ref mwo :: .ref mnu :: .ref mte :: .int 0 :: .int 0 :: .int 0 :: .int 0 :: .int 0 :: .ref mwa :: .ref mke :: .ref mma :: .ref mth :: .ref mtr :: .int 0 :: .int 0 :: [])))] s.heap.size) s.heap s.heap [] := va_S.rf
  replace hP : va_P D vwCl _ s.heap := hP
  have hl := lv_entry ([.ref m0, .int 4, .int h]) (n := 5) (Nat.le_of_ble_eq_true rfl)
  rw [lg_entry_eq]
  generalize (lg_sl ([.ref m0, .int 4, .int h]) ++ List.replicate (5 - (lg_sl ([.ref m0, .int 4, .int h])).length) Slot.unset).toArray = ls at hl ⊢
  replace hl : lv_has ls 5 [(0, .ref m0), (1, .int 4), (2, .int h)] := hl
  refine zw_start (fun H locs hH hL => ?_)
  replace hP : va_P D vwCl [(m0, .inr (8, (.int 0 :: .int 20 :: .int 0 :: .int 0 :: .int 0 :: .int 60 :: .int 0 :: .int 3 :: .int 1 :: .int (-1) :: .ref mrf :: .ref mki :: .ref mpa :: .ref mta :: .ref mla :: .ref msl :: .ref mco :: .ref mhe :: .ref mso :: .ref msi :: .ref msh :: .ref mce :: .ref mca :: .ref mwo :: .ref mnu :: .ref mte :: .int 0 :: .int 0 :: .int 0 :: .int 0 :: .int 0 :: .ref mwa :: .ref mke :: .ref mma :: .ref mth :: .ref mtr :: .int 0 :: .int 0 :: [])))] H := by rw [hH]; exact hP
  replace hS : va_S (va_A [(m0, .inr (8, (.int 0 :: .int 20 :: .int 0 :: .int 0 :: .int 0 :: .int 60 :: .int 0 :: .int 3 :: .int 1 :: .int (-1) :: .ref mrf :: .ref mki :: .ref mpa :: .ref mta :: .ref mla :: .ref msl :: .ref mco :: .ref mhe :: .ref mso :: .ref msi :: .ref msh :: .ref mce :: .ref mca :: .ref mwo :: .ref mnu :: .ref mte :: .int 0 :: .int 0 :: .int 0 :: .int 0 :: .int 0 :: .ref mwa :: .ref mke :: .ref mma :: .ref mth :: .ref mtr :: .int 0 :: .int 0 :: [])))] s.heap.size) s.heap H locs := by rw [hH, hL]; exact hS
  clear hH hL
  refine lv_aload_n hx hb dX8_casesIn_0 rfl (lv_at hl 0 rfl) ?_
  refine va_get (D := D) (ci := 8) (v := .int 0) (C := RX8) (T := TX8) (N := 38) hx hb hts hi_X8_casesIn_8 hown hK hP 0 rfl rfl 6 (by decide) (hts (.fieldLink RX8 135 "TheLiningsInItModel" "hurry" "I") (List.mem_of_getElem? (i := 1) rfl)) (fun _ h9 => h9) rfl dX8_casesIn_1 ?_
  refine lv_istore_n (lv' := [(3, .int 0), (0, .ref m0), (1, .int 4), (2, .int h)]) hx hb dX8_casesIn_4 rfl hl (by decide) rfl (fun ls hl => ?_)
  refine lv_aload_n hx hb dX8_casesIn_5 rfl (lv_at hl 1 rfl) ?_
  refine lv_iload_n hx hb dX8_casesIn_6 rfl (lv_at hl 3 rfl) ?_
  refine va_put (D := D) (ci := 8) (v := .int h) (ty := .int) (C := RX8) (T := TX8) (N := 38) hx hb hts hi_X8_casesIn_8 tyX8 tyX8_ok nmX8 hown hK hP hD hS 0 rfl rfl 6 (by decide) (hts (.fieldLink RX8 135 "TheLiningsInItModel" "hurry" "I") (List.mem_of_getElem? (i := 1) rfl)) (fun _ h9 => h9) rfl (by decide +kernel) rfl rfl (Nat.le_of_ble_eq_true rfl) dX8_casesIn_7 (fun H locs hP hD hS => ?_)
  replace hP : va_P D vwCl [(m0, .inr (8, (.int 0 :: .int 20 :: .int 0 :: .int 0 :: .int 0 :: .int 60 :: .int h :: .int 3 :: .int 1 :: .int (-1) :: .ref mrf :: .ref mki :: .ref mpa :: .ref mta :: .ref mla :: .ref msl :: .ref mco :: .ref mhe :: .ref mso :: .ref msi :: .ref msh :: .ref mce :: .ref mca :: .ref mwo :: .ref mnu :: .ref mte :: .int 0 :: .int 0 :: .int 0 :: .int 0 :: .int 0 :: .ref mwa :: .ref mke :: .ref mma :: .ref mth :: .ref mtr :: .int 0 :: .int 0 :: [])))] H := hP
  replace hD : va_D _ [(m0, .inr (8, (.int 0 :: .int 20 :: .int 0 :: .int 0 :: .int 0 :: .int 60 :: .int h :: .int 3 :: .int 1 :: .int (-1) :: .ref mrf :: .ref mki :: .ref mpa :: .ref mta :: .ref mla :: .ref msl :: .ref mco :: .ref mhe :: .ref mso :: .ref msi :: .ref msh :: .ref mce :: .ref mca :: .ref mwo :: .ref mnu :: .ref mte :: .int 0 :: .int 0 :: .int 0 :: .int 0 :: .int 0 :: .ref mwa :: .ref mke :: .ref mma :: .ref mth :: .ref mtr :: .int 0 :: .int 0 :: [])))] := hD
  refine lv_aload_n hx hb dX8_casesIn_10 rfl (lv_at hl 1 rfl) ?_
  refine lv_iload_n hx hb dX8_casesIn_11 rfl (lv_at hl 2 rfl) ?_
  refine lv_aload_n hx hb dX8_casesIn_12 rfl (lv_at hl 1 rfl) ?_
  refine va_get (D := D) (ci := 8) (v := .int 0) (C := RX8) (T := TX8) (N := 38) hx hb hts hi_X8_casesIn_8 hown hK hP 0 rfl rfl 3 (by decide) (hts (.fieldLink RX8 115 "TheLiningsInItModel" "depth" "I") (List.mem_of_getElem? (i := 2) rfl)) (fun _ h9 => h9) rfl dX8_casesIn_13 ?_
  refine lv_aload_n hx hb dX8_casesIn_16 rfl (lv_at hl 1 rfl) ?_
  refine va_get (D := D) (ci := 8) (v := .int 60) (C := RX8) (T := TX8) (N := 38) hx hb hts hi_X8_casesIn_8 hown hK hP 0 rfl rfl 5 (by decide) (hts (.fieldLink RX8 13 "TheLiningsInItModel" "seconds" "I") (List.mem_of_getElem? (i := 3) rfl)) (fun _ h9 => h9) rfl dX8_casesIn_17 ?_
  refine lv_iconst (v := 0) hx hb dX8_casesIn_20 (by decide) ?_
  refine zc_V (As := [.int 4, .int 0, .int 60, .int 0]) (rest := []) ⟨hx, hb, hml, hown, hts⟩ (c_M_mostCases_4 l D cI cJ cZ cP cS m0 mrf mki mpa mta mla msl mco mhe mso msi msh mce mca mwo mnu mte mwa mke mma mth mtr (h) (60) (0) ) (cwV 4 hts gX8_casesIn_X8_mostCases rfl rfl rfl (by decide +kernel) ⟨Nat.le_of_ble_eq_true rfl, Nat.le_of_ble_eq_true rfl⟩) hK hN (hZ.kept hS) hP [0] rfl (va_recv hK hP (ci := 8) (q0 := 0) rfl rfl) rfl hl.1 rfl (Nat.le_of_ble_eq_true rfl) dX8_casesIn_21 ⟨Nat.le_of_ble_eq_true rfl, Nat.le_of_ble_eq_true rfl⟩ (fun r_1 hr_1 => ?_)
  obtain rfl := hr_1
  refine lv_istore (lv' := [(4, .int 20736), (3, .int 0), (0, .ref m0), (1, .int 4), (2, .int h)]) hx hb dX8_casesIn_24 hl (by decide) rfl (fun ls hl => ?_)
  refine lv_aload_n hx hb dX8_casesIn_26 rfl (lv_at hl 2 rfl) ?_
  refine lv_iload_n hx hb dX8_casesIn_27 rfl (lv_at hl 1 rfl) ?_
  refine va_put (D := D) (ci := 8) (v := .int 0) (ty := .int) (C := RX8) (T := TX8) (N := 38) hx hb hts hi_X8_casesIn_8 tyX8 tyX8_ok nmX8 hown hK hP hD hS 0 rfl rfl 6 (by decide) (hts (.fieldLink RX8 135 "TheLiningsInItModel" "hurry" "I") (List.mem_of_getElem? (i := 1) rfl)) (fun _ h9 => h9) rfl (by decide +kernel) rfl rfl (Nat.le_of_ble_eq_true rfl) dX8_casesIn_28 (fun H locs hP hD hS => ?_)
  replace hP : va_P D vwCl [(m0, .inr (8, (.int 0 :: .int 20 :: .int 0 :: .int 0 :: .int 0 :: .int 60 :: .int 0 :: .int 3 :: .int 1 :: .int (-1) :: .ref mrf :: .ref mki :: .ref mpa :: .ref mta :: .ref mla :: .ref msl :: .ref mco :: .ref mhe :: .ref mso :: .ref msi :: .ref msh :: .ref mce :: .ref mca :: .ref mwo :: .ref mnu :: .ref mte :: .int 0 :: .int 0 :: .int 0 :: .int 0 :: .int 0 :: .ref mwa :: .ref mke :: .ref mma :: .ref mth :: .ref mtr :: .int 0 :: .int 0 :: [])))] H := hP
  replace hD : va_D _ [(m0, .inr (8, (.int 0 :: .int 20 :: .int 0 :: .int 0 :: .int 0 :: .int 60 :: .int 0 :: .int 3 :: .int 1 :: .int (-1) :: .ref mrf :: .ref mki :: .ref mpa :: .ref mta :: .ref mla :: .ref msl :: .ref mco :: .ref mhe :: .ref mso :: .ref msi :: .ref msh :: .ref mce :: .ref mca :: .ref mwo :: .ref mnu :: .ref mte :: .int 0 :: .int 0 :: .int 0 :: .int 0 :: .int 0 :: .ref mwa :: .ref mke :: .ref mma :: .ref mth :: .ref mtr :: .int 0 :: .int 0 :: [])))] := hD
  refine lv_iload hx hb dX8_casesIn_31 (lv_at hl 0 rfl) ?_
  exact W.iret (v := 20736) hx hb hr (fun t ht hW => ⟨⟨20736, (), rfl, rfl, by rw [ht]; exact hP.sub (ws' := [(m0, .inr (8, (.int 0 :: .int 20 :: .int 0 :: .int 0 :: .int 0 :: .int 60 :: .int 0 :: .int 3 :: .int 1 :: .int (-1) :: .ref mrf :: .ref mki :: .ref mpa :: .ref mta :: .ref mla :: .ref msl :: .ref mco :: .ref mhe :: .ref mso :: .ref msi :: .ref msh :: .ref mce :: .ref mca :: .ref mwo :: .ref mnu :: .ref mte :: .int 0 :: .int 0 :: .int 0 :: .int 0 :: .int 0 :: .ref mwa :: .ref mke :: .ref mma :: .ref mth :: .ref mtr :: .int 0 :: .int 0 :: [])))]) [0] rfl, hD.sub (ws' := [(m0, .inr (8, (.int 0 :: .int 20 :: .int 0 :: .int 0 :: .int 0 :: .int 60 :: .int 0 :: .int 3 :: .int 1 :: .int (-1) :: .ref mrf :: .ref mki :: .ref mpa :: .ref mta :: .ref mla :: .ref msl :: .ref mco :: .ref mhe :: .ref mso :: .ref msi :: .ref msh :: .ref mce :: .ref mca :: .ref mwo :: .ref mnu :: .ref mte :: .int 0 :: .int 0 :: .int 0 :: .int 0 :: .int 0 :: .ref mwa :: .ref mke :: .ref mma :: .ref mth :: .ref mtr :: .int 0 :: .int 0 :: [])))]) [0] (by decide) rfl⟩, hS.F ht⟩) hS.2.2 dX8_casesIn_33
set_option maxHeartbeats 4000000 in
set_option maxRecDepth 100000 in
theorem c_M_haste (l : Launch) (D : va_G) (cI cJ cZ cP cS : ClassId) (m0 mrf mki mpa mta mla msl mco mhe mso msi msh mce mca mwo mnu mte mwa mke mma mth mtr : Nat) (n w : Int32)  (sz : Nat) : Met l yX8_haste wsX8_haste ({ frames := 7, cells := 0, slots := 0, locals := 156 }) (va_Pc [.ref m0, .int n, .int w] (zW D (zKT cI cJ cZ cP cS) [(m0, .inr (8, (.int 0 :: .int 20 :: .int 0 :: .int 0 :: .int 0 :: .int 60 :: .int 0 :: .int 3 :: .int 1 :: .int (-1) :: .ref mrf :: .ref mki :: .ref mpa :: .ref mta :: .ref mla :: .ref msl :: .ref mco :: .ref mhe :: .ref mso :: .ref msi :: .ref msh :: .ref mce :: .ref mca :: .ref mwo :: .ref mnu :: .ref mte :: .int 0 :: .int 0 :: .int 0 :: .int 0 :: .int 0 :: .ref mwa :: .ref mke :: .ref mma :: .ref mth :: .ref mtr :: .int 0 :: .int 0 :: []))), (mrf, .inl (cI, 8, .inl (fun _ => 0)))] sz)) (va_Qi (fun (r : Int32) (_ : Unit) => (r = (-5) ∧ w.toInt < 0) ∨ (r = (-6) ∧ 0 ≤ w.toInt ∧ w.toInt ≤ 1 ∧ n.toInt < 0) ∨ (r = (-6) ∧ 0 ≤ w.toInt ∧ w.toInt ≤ 1 ∧ 0 ≤ n.toInt ∧ 4 < n.toInt) ∨ (r = 0 ∧ 0 ≤ w.toInt ∧ w.toInt ≤ 1 ∧ 0 ≤ n.toInt ∧ n.toInt ≤ 4 ∧ n.toInt = 0 ∧ w.toInt ≠ 1) ∨ (r = 0 ∧ 0 ≤ w.toInt ∧ w.toInt ≤ 1 ∧ 0 ≤ n.toInt ∧ n.toInt ≤ 4 ∧ n.toInt = 0 ∧ w.toInt = 1) ∨ (r = 0 ∧ 0 ≤ w.toInt ∧ w.toInt ≤ 1 ∧ 0 ≤ n.toInt ∧ n.toInt ≤ 4 ∧ n.toInt = 1 ∧ w.toInt ≠ 1) ∨ (r = 0 ∧ 0 ≤ w.toInt ∧ w.toInt ≤ 1 ∧ 0 ≤ n.toInt ∧ n.toInt ≤ 4 ∧ n.toInt = 1 ∧ w.toInt = 1) ∨ (r = 0 ∧ 0 ≤ w.toInt ∧ w.toInt ≤ 1 ∧ 0 ≤ n.toInt ∧ n.toInt ≤ 4 ∧ n.toInt = 2 ∧ w.toInt ≠ 1) ∨ (r = 0 ∧ 0 ≤ w.toInt ∧ w.toInt ≤ 1 ∧ 0 ≤ n.toInt ∧ n.toInt ≤ 4 ∧ n.toInt = 2 ∧ w.toInt = 1) ∨ (r = 0 ∧ 0 ≤ w.toInt ∧ w.toInt ≤ 1 ∧ 0 ≤ n.toInt ∧ n.toInt ≤ 4 ∧ n.toInt = 3 ∧ w.toInt ≠ 1) ∨ (r = 0 ∧ 0 ≤ w.toInt ∧ w.toInt ≤ 1 ∧ 0 ≤ n.toInt ∧ n.toInt ≤ 4 ∧ n.toInt = 3 ∧ w.toInt = 1) ∨ (r = 0 ∧ 0 ≤ w.toInt ∧ w.toInt ≤ 1 ∧ 0 ≤ n.toInt ∧ n.toInt ≤ 4 ∧ n.toInt = 4 ∧ w.toInt ≠ 1) ∨ (r = 0 ∧ 0 ≤ w.toInt ∧ w.toInt ≤ 1 ∧ 0 ≤ n.toInt ∧ n.toInt ≤ 4 ∧ n.toInt = 4 ∧ w.toInt = 1) ∨ (r = (-5) ∧ 0 ≤ w.toInt ∧ 1 < w.toInt)) (zB D [(m0, .inr (8, (.int 0 :: .int 20 :: .int 0 :: .int 0 :: .int 0 :: .int 60 :: .int 0 :: .int 3 :: .int 1 :: .int (-1) :: .ref mrf :: .ref mki :: .ref mpa :: .ref mta :: .ref mla :: .ref msl :: .ref mco :: .ref mhe :: .ref mso :: .ref msi :: .ref msh :: .ref mce :: .ref mca :: .ref mwo :: .ref mnu :: .ref mte :: .int 0 :: .int 0 :: .int 0 :: .int 0 :: .int 0 :: .ref mwa :: .ref mke :: .ref mma :: .ref mth :: .ref mtr :: .int 0 :: .int 0 :: []))), (mrf, .inl (cI, 8, .inl (fun _ => 0)))] sz (fun (_ : Unit) => ([] : va_W))) (va_A [(m0, .inr (8, (.int 0 :: .int 20 :: .int 0 :: .int 0 :: .int 0 :: .int 60 :: .int 0 :: .int 3 :: .int 1 :: .int (-1) :: .ref mrf :: .ref mki :: .ref mpa :: .ref mta :: .ref mla :: .ref msl :: .ref mco :: .ref mhe :: .ref mso :: .ref msi :: .ref msh :: .ref mce :: .ref mca :: .ref mwo :: .ref mnu :: .ref mte :: .int 0 :: .int 0 :: .int 0 :: .int 0 :: .int 0 :: .ref mwa :: .ref mke :: .ref mma :: .ref mth :: .ref mtr :: .int 0 :: .int 0 :: []))), (mrf, .inl (cI, 8, .inl (fun _ => 0)))] sz)) 0 0 (va_A [(m0, .inr (8, (.int 0 :: .int 20 :: .int 0 :: .int 0 :: .int 0 :: .int 60 :: .int 0 :: .int 3 :: .int 1 :: .int (-1) :: .ref mrf :: .ref mki :: .ref mpa :: .ref mta :: .ref mla :: .ref msl :: .ref mco :: .ref mhe :: .ref mso :: .ref msi :: .ref msh :: .ref mce :: .ref mca :: .ref mwo :: .ref mnu :: .ref mte :: .int 0 :: .int 0 :: .int 0 :: .int 0 :: .int 0 :: .ref mwa :: .ref mke :: .ref mma :: .ref mth :: .ref mtr :: .int 0 :: .int 0 :: []))), (mrf, .inl (cI, 8, .inl (fun _ => 0)))] sz) := by
  refine Met.ofW (cc := cX8_haste) (maxL := 7) (ret := (some .int)) (by decide) rfl ?_
  intro p e s m args below meth c s₁ B hml hv
  obtain ⟨rfl, hsz, hP, hK, hD0, hN, hZ⟩ := hv
  have hx := B.exec
  have hb := B.bytes
  have hr := B.returns
  have hts := atoms_spec (ws := wsX8_haste) B.pre
  have hown : s.vm.findClass RX8 = some m.cls := findClass_of_methodNamed B.named
  have hlocks := B.notSynchronized
  subst hsz
  have hD := hD0.self (sz := s.heap.size)
  have hA : ∀ q : Nat, s.heap.size ≤ q → va_A [(m0, .inr (8, (.int 0 :: .int 20 :: .int 0 :: .int 0 :: .int 0 :: .int 60 :: .int 0 :: .int 3 :: .int 1 :: .int (-1) :: .ref mrf :: .ref mki :: .ref mpa :: .ref mta :: .ref mla :: .ref msl :: .ref mco :: .ref mhe :: .ref mso :: .ref msi :: .ref msh :: .ref mce :: .ref mca :: .ref mwo :: .ref mnu :: .ref mte :: .int 0 :: .int 0 :: .int 0 :: .int 0 :: .int 0 :: .ref mwa :: .ref mke :: .ref mma :: .ref mth :: .ref mtr :: .int 0 :: .int 0 :: []))), (mrf, .inl (cI, 8, .inl (fun _ => 0)))] s.heap.size q := fun q h => Or.inr h
  have hS : va_S (va_A [(m0, .inr (8, (.int 0 :: .int 20 :: .int 0 :: .int 0 :: .int 0 :: .int 60 :: .int 0 :: .int 3 :: .int 1 :: .int (-1) :: .ref mrf :: .ref mki :: .ref mpa :: .ref mta :: .ref mla :: .ref msl :: .ref mco :: .ref mhe :: .ref mso :: .ref msi :: .ref msh :: .ref mce :: .ref mca :: .ref mwo :: .ref mnu :: .ref mte :: .int 0 :: .int 0 :: .int 0 :: .int 0 :: .int 0 :: .ref mwa :: .ref mke :: .ref mma :: .ref mth :: .ref mtr :: .int 0 :: .int 0 :: []))), (mrf, .inl (cI, 8, .inl (fun _ => 0)))] s.heap.size) s.heap s.heap [] := va_S.rf
  replace hP : va_P D vwCl _ s.heap := hP
  have hl := lv_entry ([.ref m0, .int n, .int w]) (n := 7) (Nat.le_of_ble_eq_true rfl)
  rw [lg_entry_eq]
  generalize (lg_sl ([.ref m0, .int n, .int w]) ++ List.replicate (7 - (lg_sl ([.ref m0, .int n, .int w])).length) Slot.unset).toArray = ls at hl ⊢
  replace hl : lv_has ls 7 [(0, .ref m0), (1, .int n), (2, .int w)] := hl
  refine zw_start (fun H locs hH hL => ?_)
  replace hP : va_P D vwCl [(m0, .inr (8, (.int 0 :: .int 20 :: .int 0 :: .int 0 :: .int 0 :: .int 60 :: .int 0 :: .int 3 :: .int 1 :: .int (-1) :: .ref mrf :: .ref mki :: .ref mpa :: .ref mta :: .ref mla :: .ref msl :: .ref mco :: .ref mhe :: .ref mso :: .ref msi :: .ref msh :: .ref mce :: .ref mca :: .ref mwo :: .ref mnu :: .ref mte :: .int 0 :: .int 0 :: .int 0 :: .int 0 :: .int 0 :: .ref mwa :: .ref mke :: .ref mma :: .ref mth :: .ref mtr :: .int 0 :: .int 0 :: []))), (mrf, .inl (cI, 8, .inl (fun _ => 0)))] H := by rw [hH]; exact hP
  replace hS : va_S (va_A [(m0, .inr (8, (.int 0 :: .int 20 :: .int 0 :: .int 0 :: .int 0 :: .int 60 :: .int 0 :: .int 3 :: .int 1 :: .int (-1) :: .ref mrf :: .ref mki :: .ref mpa :: .ref mta :: .ref mla :: .ref msl :: .ref mco :: .ref mhe :: .ref mso :: .ref msi :: .ref msh :: .ref mce :: .ref mca :: .ref mwo :: .ref mnu :: .ref mte :: .int 0 :: .int 0 :: .int 0 :: .int 0 :: .int 0 :: .ref mwa :: .ref mke :: .ref mma :: .ref mth :: .ref mtr :: .int 0 :: .int 0 :: []))), (mrf, .inl (cI, 8, .inl (fun _ => 0)))] s.heap.size) s.heap H locs := by rw [hH, hL]; exact hS
  clear hH hL
  refine lv_iload_n hx hb dX8_haste_0 rfl (lv_at hl 2 rfl) ?_
  refine lv_if_lt (tgt := 9) hx hb dX8_haste_1 (by decide) (fun c_1 => ?_) (fun c_1 => ?_)
  · have fc_1 : w.toInt < 0 := zf_lt c_1 rfl (by decide)
    refine lv_aload_n hx hb dX8_haste_9 rfl (lv_at hl 0 rfl) ?_
    refine lv_bipush (v := (-5)) hx hb dX8_haste_10 (by decide) ?_
    skip
    refine zw_V (As := [.int (-5)]) (rest := []) (wr := []) ⟨hx, hb, hml, hown, hts⟩ (c_M_no_5 l D cI cJ cZ cP cS m0 mrf mki mpa mta mla msl mco mhe mso msi msh mce mca mwo mnu mte mwa mke mma mth mtr  H.size) (cwV 1 hts gX8_haste_X8_no rfl rfl rfl (by decide +kernel) ⟨Nat.le_of_ble_eq_true rfl, Nat.le_of_ble_eq_true rfl⟩) hK hN (hZ.kept hS) hP hD hS hA [0, 1] [] rfl rfl (by decide) (by decide) (by decide) (va_recv hK hP (ci := 8) (q0 := 0) rfl rfl) rfl hl.1 rfl (Nat.le_of_ble_eq_true rfl) dX8_haste_12 ⟨Nat.le_of_ble_eq_true rfl, Nat.le_of_ble_eq_true rfl⟩ (fun r_2 u_3 H locs hr_2 hP hD hS => ?_)
    replace hP : va_P D vwCl [] H := hP
    replace hD : va_D _ [] := hD
    obtain rfl := hr_2
    exact W.iret (v := (-5)) hx hb hr (fun t ht hW => ⟨⟨(-5), (), rfl, Or.inl (⟨rfl, (by first | omega | decide)⟩), zP_nil, zD_nil⟩, hS.F ht⟩) hS.2.2 dX8_haste_15
  · have fc_1 : 0 ≤ w.toInt := zf_nlt c_1 rfl (by decide)
    refine lv_iload_n hx hb dX8_haste_4 rfl (lv_at hl 2 rfl) ?_
    refine lv_iconst (v := 1) hx hb dX8_haste_5 (by decide) ?_
    refine lv_icmp_le (tgt := 16) hx hb dX8_haste_6 (by decide) (fun c_4 => ?_) (fun c_4 => ?_)
    · have fc_4 : w.toInt ≤ 1 := zf_le c_4 rfl (by decide)
      refine lv_aload_n hx hb dX8_haste_16 rfl (lv_at hl 0 rfl) ?_
      refine lv_iload_n hx hb dX8_haste_17 rfl (lv_at hl 1 rfl) ?_
      refine zc_V (As := [.int n]) (rest := []) ⟨hx, hb, hml, hown, hts⟩ (c_M_isFew l D cI cJ cZ cP cS m0 mrf mki mpa mta mla msl mco mhe mso msi msh mce mca mwo mnu mte mwa mke mma mth mtr (n) ) (cwV 1 hts gX8_haste_X8_isFew rfl rfl rfl (by decide +kernel) ⟨Nat.le_of_ble_eq_true rfl, Nat.le_of_ble_eq_true rfl⟩) hK hN (hZ.kept hS) hP [0] rfl (va_recv hK hP (ci := 8) (q0 := 0) rfl rfl) rfl hl.1 rfl (Nat.le_of_ble_eq_true rfl) dX8_haste_18 ⟨Nat.le_of_ble_eq_true rfl, Nat.le_of_ble_eq_true rfl⟩ (fun r_5 hr_5 => ?_)
      rcases hr_5 with ⟨rfl, g_6⟩ | ⟨rfl, g_7, g_8⟩ | ⟨rfl, g_9, g_10⟩
      · refine lv_if_ne (tgt := 31) hx hb dX8_haste_21 (by decide) (fun c_11 => ?_) (fun c_11 => ?_)
        · exact absurd c_11 (by decide)
        · refine lv_aload_n hx hb dX8_haste_24 rfl (lv_at hl 0 rfl) ?_
          refine lv_bipush (v := (-6)) hx hb dX8_haste_25 (by decide) ?_
          skip
          refine zw_V (As := [.int (-6)]) (rest := []) (wr := []) ⟨hx, hb, hml, hown, hts⟩ (c_M_no_6 l D cI cJ cZ cP cS m0 mrf mki mpa mta mla msl mco mhe mso msi msh mce mca mwo mnu mte mwa mke mma mth mtr  H.size) (cwV 1 hts gX8_haste_X8_no rfl rfl rfl (by decide +kernel) ⟨Nat.le_of_ble_eq_true rfl, Nat.le_of_ble_eq_true rfl⟩) hK hN (hZ.kept hS) hP hD hS hA [0, 1] [] rfl rfl (by decide) (by decide) (by decide) (va_recv hK hP (ci := 8) (q0 := 0) rfl rfl) rfl hl.1 rfl (Nat.le_of_ble_eq_true rfl) dX8_haste_27 ⟨Nat.le_of_ble_eq_true rfl, Nat.le_of_ble_eq_true rfl⟩ (fun r_12 u_13 H locs hr_12 hP hD hS => ?_)
          replace hP : va_P D vwCl [] H := hP
          replace hD : va_D _ [] := hD
          obtain rfl := hr_12
          exact W.iret (v := (-6)) hx hb hr (fun t ht hW => ⟨⟨(-6), (), rfl, Or.inr (Or.inl (⟨rfl, (by first | omega | decide), (by first | omega | decide), (by first | omega | decide)⟩)), zP_nil, zD_nil⟩, hS.F ht⟩) hS.2.2 dX8_haste_30
      · refine lv_if_ne (tgt := 31) hx hb dX8_haste_21 (by decide) (fun c_14 => ?_) (fun c_14 => ?_)
        · exact absurd c_14 (by decide)
        · refine lv_aload_n hx hb dX8_haste_24 rfl (lv_at hl 0 rfl) ?_
          refine lv_bipush (v := (-6)) hx hb dX8_haste_25 (by decide) ?_
          skip
          refine zw_V (As := [.int (-6)]) (rest := []) (wr := []) ⟨hx, hb, hml, hown, hts⟩ (c_M_no_6 l D cI cJ cZ cP cS m0 mrf mki mpa mta mla msl mco mhe mso msi msh mce mca mwo mnu mte mwa mke mma mth mtr  H.size) (cwV 1 hts gX8_haste_X8_no rfl rfl rfl (by decide +kernel) ⟨Nat.le_of_ble_eq_true rfl, Nat.le_of_ble_eq_true rfl⟩) hK hN (hZ.kept hS) hP hD hS hA [0, 1] [] rfl rfl (by decide) (by decide) (by decide) (va_recv hK hP (ci := 8) (q0 := 0) rfl rfl) rfl hl.1 rfl (Nat.le_of_ble_eq_true rfl) dX8_haste_27 ⟨Nat.le_of_ble_eq_true rfl, Nat.le_of_ble_eq_true rfl⟩ (fun r_15 u_16 H locs hr_15 hP hD hS => ?_)
          replace hP : va_P D vwCl [] H := hP
          replace hD : va_D _ [] := hD
          obtain rfl := hr_15
          exact W.iret (v := (-6)) hx hb hr (fun t ht hW => ⟨⟨(-6), (), rfl, Or.inr (Or.inr (Or.inl (⟨rfl, (by first | omega | decide), (by first | omega | decide), (by first | omega | decide), (by first | omega | decide)⟩))), zP_nil, zD_nil⟩, hS.F ht⟩) hS.2.2 dX8_haste_30
      · refine lv_if_ne (tgt := 31) hx hb dX8_haste_21 (by decide) (fun c_17 => ?_) (fun c_17 => ?_)
        · have hsp : n = 0 ∨ n = 1 ∨ n = 2 ∨ n = 3 ∨ n = 4 := by
            rcases (show n.toInt = 0 ∨ n.toInt = 1 ∨ n.toInt = 2 ∨ n.toInt = 3 ∨ n.toInt = 4 by omega) with h9 | h9 | h9 | h9 | h9
            · refine Or.inl ?_; exact zf_val h9 (by decide)
            · refine Or.inr (Or.inl ?_); exact zf_val h9 (by decide)
            · refine Or.inr (Or.inr (Or.inl ?_)); exact zf_val h9 (by decide)
            · refine Or.inr (Or.inr (Or.inr (Or.inl ?_))); exact zf_val h9 (by decide)
            · refine Or.inr (Or.inr (Or.inr (Or.inr (?_)))); exact zf_val h9 (by decide)
          rcases hsp with rfl | rfl | rfl | rfl | rfl
          · refine lv_iload_n hx hb dX8_haste_31 rfl (lv_at hl 2 rfl) ?_
            refine lv_iconst (v := 1) hx hb dX8_haste_32 (by decide) ?_
            refine lv_icmp_ne (tgt := 58) hx hb dX8_haste_33 (by decide) (fun c_18 => ?_) (fun c_18 => ?_)
            · have fc_18 : w.toInt ≠ 1 := zf_ne c_18 rfl (by decide)
              refine lv_iconst (v := 0) hx hb dX8_haste_58 (by decide) ?_
              refine lv_istore_n (lv' := [(3, .int 0), (0, .ref m0), (1, .int 0), (2, .int w)]) hx hb dX8_haste_59 rfl hl (by decide) rfl (fun ls hl => ?_)
              refine lv_iconst (v := (-1)) hx hb dX8_haste_60 (by decide) ?_
              refine lv_istore (lv' := [(4, .int (-1)), (3, .int 0), (0, .ref m0), (1, .int 0), (2, .int w)]) hx hb dX8_haste_61 hl (by decide) rfl (fun ls hl => ?_)
              refine lv_iconst (v := 0) hx hb dX8_haste_63 (by decide) ?_
              refine lv_istore (lv' := [(5, .int 0), (4, .int (-1)), (3, .int 0), (0, .ref m0), (1, .int 0), (2, .int w)]) hx hb dX8_haste_64 hl (by decide) rfl (fun ls hl => ?_)
              refine lv_iload hx hb dX8_haste_66 (lv_at hl 0 rfl) ?_
              refine lv_bipush (v := 10) hx hb dX8_haste_68 (by decide) ?_
              refine lv_icmp_ge (tgt := 105) hx hb dX8_haste_70 (by decide) (fun c_19 => ?_) (fun c_19 => ?_)
              · exact absurd c_19 (by decide)
              · refine lv_aload_n hx hb dX8_haste_73 rfl (lv_at hl 3 rfl) ?_
                refine lv_iload_n hx hb dX8_haste_74 rfl (lv_at hl 4 rfl) ?_
                refine lv_iload hx hb dX8_haste_75 (lv_at hl 0 rfl) ?_
                skip
                refine zw_V (As := [.int 0, .int 0]) (rest := []) (wr := [(mrf, .inl (cI, 8, .inl (fun _ => 0)))]) ⟨hx, hb, hml, hown, hts⟩ (c_M_casesIn_0 l D cI cJ cZ cP cS m0 mrf mki mpa mta mla msl mco mhe mso msi msh mce mca mwo mnu mte mwa mke mma mth mtr (0)  H.size) (cwV 2 hts gX8_haste_X8_casesIn rfl rfl rfl (by decide +kernel) ⟨Nat.le_of_ble_eq_true rfl, Nat.le_of_ble_eq_true rfl⟩) hK hN (hZ.kept hS) hP hD hS hA [0] [1] rfl rfl (by decide) (by decide) (by decide) (va_recv hK hP (ci := 8) (q0 := 0) rfl rfl) rfl hl.1 rfl (Nat.le_of_ble_eq_true rfl) dX8_haste_77 ⟨Nat.le_of_ble_eq_true rfl, Nat.le_of_ble_eq_true rfl⟩ (fun r_20 u_21 H locs hr_20 hP hD hS => ?_)
                replace hP : va_P D vwCl [(mrf, .inl (cI, 8, .inl (fun _ => 0))), (m0, .inr (8, (.int 0 :: .int 20 :: .int 0 :: .int 0 :: .int 0 :: .int 60 :: .int 0 :: .int 3 :: .int 1 :: .int (-1) :: .ref mrf :: .ref mki :: .ref mpa :: .ref mta :: .ref mla :: .ref msl :: .ref mco :: .ref mhe :: .ref mso :: .ref msi :: .ref msh :: .ref mce :: .ref mca :: .ref mwo :: .ref mnu :: .ref mte :: .int 0 :: .int 0 :: .int 0 :: .int 0 :: .int 0 :: .ref mwa :: .ref mke :: .ref mma :: .ref mth :: .ref mtr :: .int 0 :: .int 0 :: [])))] H := hP
                replace hD : va_D _ [(mrf, .inl (cI, 8, .inl (fun _ => 0))), (m0, .inr (8, (.int 0 :: .int 20 :: .int 0 :: .int 0 :: .int 0 :: .int 60 :: .int 0 :: .int 3 :: .int 1 :: .int (-1) :: .ref mrf :: .ref mki :: .ref mpa :: .ref mta :: .ref mla :: .ref msl :: .ref mco :: .ref mhe :: .ref mso :: .ref msi :: .ref msh :: .ref mce :: .ref mca :: .ref mwo :: .ref mnu :: .ref mte :: .int 0 :: .int 0 :: .int 0 :: .int 0 :: .int 0 :: .ref mwa :: .ref mke :: .ref mma :: .ref mth :: .ref mtr :: .int 0 :: .int 0 :: [])))] := hD
                obtain rfl := hr_20
                refine lv_istore (lv' := [(6, .int 1), (5, .int 0), (4, .int (-1)), (3, .int 0), (0, .ref m0), (1, .int 0), (2, .int w)]) hx hb dX8_haste_80 hl (by decide) rfl (fun ls hl => ?_)
                refine lv_iload hx hb dX8_haste_82 (lv_at hl 0 rfl) ?_
                refine lv_iload hx hb dX8_haste_84 (lv_at hl 2 rfl) ?_
                refine lv_icmp_gt (tgt := 92) hx hb dX8_haste_86 (by decide) (fun c_22 => ?_) (fun c_22 => ?_)
                · refine lv_iload hx hb dX8_haste_92 (lv_at hl 1 rfl) ?_
                  refine lv_istore_n (lv' := [(3, .int 0), (6, .int 1), (5, .int 0), (4, .int (-1)), (0, .ref m0), (1, .int 0), (2, .int w)]) hx hb dX8_haste_94 rfl hl (by decide) rfl (fun ls hl => ?_)
                  refine lv_iload hx hb dX8_haste_95 (lv_at hl 1 rfl) ?_
                  refine lv_istore (lv' := [(4, .int 1), (3, .int 0), (6, .int 1), (5, .int 0), (0, .ref m0), (1, .int 0), (2, .int w)]) hx hb dX8_haste_97 hl (by decide) rfl (fun ls hl => ?_)
                  refine lv_iinc (v := 1) (lv' := [(5, .int 1), (4, .int 1), (3, .int 0), (6, .int 1), (0, .ref m0), (1, .int 0), (2, .int w)]) hx hb dX8_haste_99 hl (k := 3) rfl (by decide) (by decide) rfl (fun ls hl => ?_)
                  refine lv_goto (tgt := 66) hx hb dX8_haste_102 (by decide) ?_
                  refine lv_iload hx hb dX8_haste_66 (lv_at hl 0 rfl) ?_
                  refine lv_bipush (v := 10) hx hb dX8_haste_68 (by decide) ?_
                  refine lv_icmp_ge (tgt := 105) hx hb dX8_haste_70 (by decide) (fun c_23 => ?_) (fun c_23 => ?_)
                  · exact absurd c_23 (by decide)
                  · refine lv_aload_n hx hb dX8_haste_73 rfl (lv_at hl 4 rfl) ?_
                    refine lv_iload_n hx hb dX8_haste_74 rfl (lv_at hl 5 rfl) ?_
                    refine lv_iload hx hb dX8_haste_75 (lv_at hl 0 rfl) ?_
                    skip
                    refine zw_V (As := [.int 0, .int 1]) (rest := []) (wr := [(mrf, .inl (cI, 8, .inl (fun _ => 0)))]) ⟨hx, hb, hml, hown, hts⟩ (c_M_casesIn_0 l D cI cJ cZ cP cS m0 mrf mki mpa mta mla msl mco mhe mso msi msh mce mca mwo mnu mte mwa mke mma mth mtr (1)  H.size) (cwV 2 hts gX8_haste_X8_casesIn rfl rfl rfl (by decide +kernel) ⟨Nat.le_of_ble_eq_true rfl, Nat.le_of_ble_eq_true rfl⟩) hK hN (hZ.kept hS) hP hD hS hA [1] [0] rfl rfl (by decide) (by decide) (by decide) (va_recv hK hP (ci := 8) (q0 := 1) rfl rfl) rfl hl.1 rfl (Nat.le_of_ble_eq_true rfl) dX8_haste_77 ⟨Nat.le_of_ble_eq_true rfl, Nat.le_of_ble_eq_true rfl⟩ (fun r_24 u_25 H locs hr_24 hP hD hS => ?_)
                    replace hP : va_P D vwCl [(mrf, .inl (cI, 8, .inl (fun _ => 0))), (m0, .inr (8, (.int 0 :: .int 20 :: .int 0 :: .int 0 :: .int 0 :: .int 60 :: .int 0 :: .int 3 :: .int 1 :: .int (-1) :: .ref mrf :: .ref mki :: .ref mpa :: .ref mta :: .ref mla :: .ref msl :: .ref mco :: .ref mhe :: .ref mso :: .ref msi :: .ref msh :: .ref mce :: .ref mca :: .ref mwo :: .ref mnu :: .ref mte :: .int 0 :: .int 0 :: .int 0 :: .int 0 :: .int 0 :: .ref mwa :: .ref mke :: .ref mma :: .ref mth :: .ref mtr :: .int 0 :: .int 0 :: [])))] H := hP
                    replace hD : va_D _ [(mrf, .inl (cI, 8, .inl (fun _ => 0))), (m0, .inr (8, (.int 0 :: .int 20 :: .int 0 :: .int 0 :: .int 0 :: .int 60 :: .int 0 :: .int 3 :: .int 1 :: .int (-1) :: .ref mrf :: .ref mki :: .ref mpa :: .ref mta :: .ref mla :: .ref msl :: .ref mco :: .ref mhe :: .ref mso :: .ref msi :: .ref msh :: .ref mce :: .ref mca :: .ref mwo :: .ref mnu :: .ref mte :: .int 0 :: .int 0 :: .int 0 :: .int 0 :: .int 0 :: .ref mwa :: .ref mke :: .ref mma :: .ref mth :: .ref mtr :: .int 0 :: .int 0 :: [])))] := hD
                    obtain rfl := hr_24
                    refine lv_istore (lv' := [(6, .int 1), (5, .int 1), (4, .int 1), (3, .int 0), (0, .ref m0), (1, .int 0), (2, .int w)]) hx hb dX8_haste_80 hl (by decide) rfl (fun ls hl => ?_)
                    refine lv_iload hx hb dX8_haste_82 (lv_at hl 0 rfl) ?_
                    refine lv_iload hx hb dX8_haste_84 (lv_at hl 2 rfl) ?_
                    refine lv_icmp_gt (tgt := 92) hx hb dX8_haste_86 (by decide) (fun c_26 => ?_) (fun c_26 => ?_)
                    · exact absurd c_26 (by decide)
                    · refine lv_goto (tgt := 99) hx hb dX8_haste_89 (by decide) ?_
                      refine lv_iinc (v := 2) (lv' := [(5, .int 2), (6, .int 1), (4, .int 1), (3, .int 0), (0, .ref m0), (1, .int 0), (2, .int w)]) hx hb dX8_haste_99 hl (k := 1) rfl (by decide) (by decide) rfl (fun ls hl => ?_)
                      refine lv_goto (tgt := 66) hx hb dX8_haste_102 (by decide) ?_
                      refine lv_iload hx hb dX8_haste_66 (lv_at hl 0 rfl) ?_
                      refine lv_bipush (v := 10) hx hb dX8_haste_68 (by decide) ?_
                      refine lv_icmp_ge (tgt := 105) hx hb dX8_haste_70 (by decide) (fun c_27 => ?_) (fun c_27 => ?_)
                      · exact absurd c_27 (by decide)
                      · refine lv_aload_n hx hb dX8_haste_73 rfl (lv_at hl 4 rfl) ?_
                        refine lv_iload_n hx hb dX8_haste_74 rfl (lv_at hl 5 rfl) ?_
                        refine lv_iload hx hb dX8_haste_75 (lv_at hl 0 rfl) ?_
                        skip
                        refine zw_V (As := [.int 0, .int 2]) (rest := []) (wr := [(mrf, .inl (cI, 8, .inl (fun _ => 0)))]) ⟨hx, hb, hml, hown, hts⟩ (c_M_casesIn_0 l D cI cJ cZ cP cS m0 mrf mki mpa mta mla msl mco mhe mso msi msh mce mca mwo mnu mte mwa mke mma mth mtr (2)  H.size) (cwV 2 hts gX8_haste_X8_casesIn rfl rfl rfl (by decide +kernel) ⟨Nat.le_of_ble_eq_true rfl, Nat.le_of_ble_eq_true rfl⟩) hK hN (hZ.kept hS) hP hD hS hA [1] [0] rfl rfl (by decide) (by decide) (by decide) (va_recv hK hP (ci := 8) (q0 := 1) rfl rfl) rfl hl.1 rfl (Nat.le_of_ble_eq_true rfl) dX8_haste_77 ⟨Nat.le_of_ble_eq_true rfl, Nat.le_of_ble_eq_true rfl⟩ (fun r_28 u_29 H locs hr_28 hP hD hS => ?_)
                        replace hP : va_P D vwCl [(mrf, .inl (cI, 8, .inl (fun _ => 0))), (m0, .inr (8, (.int 0 :: .int 20 :: .int 0 :: .int 0 :: .int 0 :: .int 60 :: .int 0 :: .int 3 :: .int 1 :: .int (-1) :: .ref mrf :: .ref mki :: .ref mpa :: .ref mta :: .ref mla :: .ref msl :: .ref mco :: .ref mhe :: .ref mso :: .ref msi :: .ref msh :: .ref mce :: .ref mca :: .ref mwo :: .ref mnu :: .ref mte :: .int 0 :: .int 0 :: .int 0 :: .int 0 :: .int 0 :: .ref mwa :: .ref mke :: .ref mma :: .ref mth :: .ref mtr :: .int 0 :: .int 0 :: [])))] H := hP
                        replace hD : va_D _ [(mrf, .inl (cI, 8, .inl (fun _ => 0))), (m0, .inr (8, (.int 0 :: .int 20 :: .int 0 :: .int 0 :: .int 0 :: .int 60 :: .int 0 :: .int 3 :: .int 1 :: .int (-1) :: .ref mrf :: .ref mki :: .ref mpa :: .ref mta :: .ref mla :: .ref msl :: .ref mco :: .ref mhe :: .ref mso :: .ref msi :: .ref msh :: .ref mce :: .ref mca :: .ref mwo :: .ref mnu :: .ref mte :: .int 0 :: .int 0 :: .int 0 :: .int 0 :: .int 0 :: .ref mwa :: .ref mke :: .ref mma :: .ref mth :: .ref mtr :: .int 0 :: .int 0 :: [])))] := hD
                        obtain rfl := hr_28
                        refine lv_istore (lv' := [(6, .int 1), (5, .int 2), (4, .int 1), (3, .int 0), (0, .ref m0), (1, .int 0), (2, .int w)]) hx hb dX8_haste_80 hl (by decide) rfl (fun ls hl => ?_)
                        refine lv_iload hx hb dX8_haste_82 (lv_at hl 0 rfl) ?_
                        refine lv_iload hx hb dX8_haste_84 (lv_at hl 2 rfl) ?_
                        refine lv_icmp_gt (tgt := 92) hx hb dX8_haste_86 (by decide) (fun c_30 => ?_) (fun c_30 => ?_)
                        · exact absurd c_30 (by decide)
                        · refine lv_goto (tgt := 99) hx hb dX8_haste_89 (by decide) ?_
                          refine lv_iinc (v := 3) (lv' := [(5, .int 3), (6, .int 1), (4, .int 1), (3, .int 0), (0, .ref m0), (1, .int 0), (2, .int w)]) hx hb dX8_haste_99 hl (k := 1) rfl (by decide) (by decide) rfl (fun ls hl => ?_)
                          refine lv_goto (tgt := 66) hx hb dX8_haste_102 (by decide) ?_
                          refine lv_iload hx hb dX8_haste_66 (lv_at hl 0 rfl) ?_
                          refine lv_bipush (v := 10) hx hb dX8_haste_68 (by decide) ?_
                          refine lv_icmp_ge (tgt := 105) hx hb dX8_haste_70 (by decide) (fun c_31 => ?_) (fun c_31 => ?_)
                          · exact absurd c_31 (by decide)
                          · refine lv_aload_n hx hb dX8_haste_73 rfl (lv_at hl 4 rfl) ?_
                            refine lv_iload_n hx hb dX8_haste_74 rfl (lv_at hl 5 rfl) ?_
                            refine lv_iload hx hb dX8_haste_75 (lv_at hl 0 rfl) ?_
                            skip
                            refine zw_V (As := [.int 0, .int 3]) (rest := []) (wr := [(mrf, .inl (cI, 8, .inl (fun _ => 0)))]) ⟨hx, hb, hml, hown, hts⟩ (c_M_casesIn_0 l D cI cJ cZ cP cS m0 mrf mki mpa mta mla msl mco mhe mso msi msh mce mca mwo mnu mte mwa mke mma mth mtr (3)  H.size) (cwV 2 hts gX8_haste_X8_casesIn rfl rfl rfl (by decide +kernel) ⟨Nat.le_of_ble_eq_true rfl, Nat.le_of_ble_eq_true rfl⟩) hK hN (hZ.kept hS) hP hD hS hA [1] [0] rfl rfl (by decide) (by decide) (by decide) (va_recv hK hP (ci := 8) (q0 := 1) rfl rfl) rfl hl.1 rfl (Nat.le_of_ble_eq_true rfl) dX8_haste_77 ⟨Nat.le_of_ble_eq_true rfl, Nat.le_of_ble_eq_true rfl⟩ (fun r_32 u_33 H locs hr_32 hP hD hS => ?_)
                            replace hP : va_P D vwCl [(mrf, .inl (cI, 8, .inl (fun _ => 0))), (m0, .inr (8, (.int 0 :: .int 20 :: .int 0 :: .int 0 :: .int 0 :: .int 60 :: .int 0 :: .int 3 :: .int 1 :: .int (-1) :: .ref mrf :: .ref mki :: .ref mpa :: .ref mta :: .ref mla :: .ref msl :: .ref mco :: .ref mhe :: .ref mso :: .ref msi :: .ref msh :: .ref mce :: .ref mca :: .ref mwo :: .ref mnu :: .ref mte :: .int 0 :: .int 0 :: .int 0 :: .int 0 :: .int 0 :: .ref mwa :: .ref mke :: .ref mma :: .ref mth :: .ref mtr :: .int 0 :: .int 0 :: [])))] H := hP
                            replace hD : va_D _ [(mrf, .inl (cI, 8, .inl (fun _ => 0))), (m0, .inr (8, (.int 0 :: .int 20 :: .int 0 :: .int 0 :: .int 0 :: .int 60 :: .int 0 :: .int 3 :: .int 1 :: .int (-1) :: .ref mrf :: .ref mki :: .ref mpa :: .ref mta :: .ref mla :: .ref msl :: .ref mco :: .ref mhe :: .ref mso :: .ref msi :: .ref msh :: .ref mce :: .ref mca :: .ref mwo :: .ref mnu :: .ref mte :: .int 0 :: .int 0 :: .int 0 :: .int 0 :: .int 0 :: .ref mwa :: .ref mke :: .ref mma :: .ref mth :: .ref mtr :: .int 0 :: .int 0 :: [])))] := hD
                            obtain rfl := hr_32
                            refine lv_istore (lv' := [(6, .int 1), (5, .int 3), (4, .int 1), (3, .int 0), (0, .ref m0), (1, .int 0), (2, .int w)]) hx hb dX8_haste_80 hl (by decide) rfl (fun ls hl => ?_)
                            refine lv_iload hx hb dX8_haste_82 (lv_at hl 0 rfl) ?_
                            refine lv_iload hx hb dX8_haste_84 (lv_at hl 2 rfl) ?_
                            refine lv_icmp_gt (tgt := 92) hx hb dX8_haste_86 (by decide) (fun c_34 => ?_) (fun c_34 => ?_)
                            · exact absurd c_34 (by decide)
                            · refine lv_goto (tgt := 99) hx hb dX8_haste_89 (by decide) ?_
                              refine lv_iinc (v := 4) (lv' := [(5, .int 4), (6, .int 1), (4, .int 1), (3, .int 0), (0, .ref m0), (1, .int 0), (2, .int w)]) hx hb dX8_haste_99 hl (k := 1) rfl (by decide) (by decide) rfl (fun ls hl => ?_)
                              refine lv_goto (tgt := 66) hx hb dX8_haste_102 (by decide) ?_
                              refine lv_iload hx hb dX8_haste_66 (lv_at hl 0 rfl) ?_
                              refine lv_bipush (v := 10) hx hb dX8_haste_68 (by decide) ?_
                              refine lv_icmp_ge (tgt := 105) hx hb dX8_haste_70 (by decide) (fun c_35 => ?_) (fun c_35 => ?_)
                              · exact absurd c_35 (by decide)
                              · refine lv_aload_n hx hb dX8_haste_73 rfl (lv_at hl 4 rfl) ?_
                                refine lv_iload_n hx hb dX8_haste_74 rfl (lv_at hl 5 rfl) ?_
                                refine lv_iload hx hb dX8_haste_75 (lv_at hl 0 rfl) ?_
                                skip
                                refine zw_V (As := [.int 0, .int 4]) (rest := []) (wr := [(mrf, .inl (cI, 8, .inl (fun _ => 0)))]) ⟨hx, hb, hml, hown, hts⟩ (c_M_casesIn_0 l D cI cJ cZ cP cS m0 mrf mki mpa mta mla msl mco mhe mso msi msh mce mca mwo mnu mte mwa mke mma mth mtr (4)  H.size) (cwV 2 hts gX8_haste_X8_casesIn rfl rfl rfl (by decide +kernel) ⟨Nat.le_of_ble_eq_true rfl, Nat.le_of_ble_eq_true rfl⟩) hK hN (hZ.kept hS) hP hD hS hA [1] [0] rfl rfl (by decide) (by decide) (by decide) (va_recv hK hP (ci := 8) (q0 := 1) rfl rfl) rfl hl.1 rfl (Nat.le_of_ble_eq_true rfl) dX8_haste_77 ⟨Nat.le_of_ble_eq_true rfl, Nat.le_of_ble_eq_true rfl⟩ (fun r_36 u_37 H locs hr_36 hP hD hS => ?_)
                                replace hP : va_P D vwCl [(mrf, .inl (cI, 8, .inl (fun _ => 0))), (m0, .inr (8, (.int 0 :: .int 20 :: .int 0 :: .int 0 :: .int 0 :: .int 60 :: .int 0 :: .int 3 :: .int 1 :: .int (-1) :: .ref mrf :: .ref mki :: .ref mpa :: .ref mta :: .ref mla :: .ref msl :: .ref mco :: .ref mhe :: .ref mso :: .ref msi :: .ref msh :: .ref mce :: .ref mca :: .ref mwo :: .ref mnu :: .ref mte :: .int 0 :: .int 0 :: .int 0 :: .int 0 :: .int 0 :: .ref mwa :: .ref mke :: .ref mma :: .ref mth :: .ref mtr :: .int 0 :: .int 0 :: [])))] H := hP
                                replace hD : va_D _ [(mrf, .inl (cI, 8, .inl (fun _ => 0))), (m0, .inr (8, (.int 0 :: .int 20 :: .int 0 :: .int 0 :: .int 0 :: .int 60 :: .int 0 :: .int 3 :: .int 1 :: .int (-1) :: .ref mrf :: .ref mki :: .ref mpa :: .ref mta :: .ref mla :: .ref msl :: .ref mco :: .ref mhe :: .ref mso :: .ref msi :: .ref msh :: .ref mce :: .ref mca :: .ref mwo :: .ref mnu :: .ref mte :: .int 0 :: .int 0 :: .int 0 :: .int 0 :: .int 0 :: .ref mwa :: .ref mke :: .ref mma :: .ref mth :: .ref mtr :: .int 0 :: .int 0 :: [])))] := hD
                                obtain rfl := hr_36
                                refine lv_istore (lv' := [(6, .int 1), (5, .int 4), (4, .int 1), (3, .int 0), (0, .ref m0), (1, .int 0), (2, .int w)]) hx hb dX8_haste_80 hl (by decide) rfl (fun ls hl => ?_)
                                refine lv_iload hx hb dX8_haste_82 (lv_at hl 0 rfl) ?_
                                refine lv_iload hx hb dX8_haste_84 (lv_at hl 2 rfl) ?_
                                refine lv_icmp_gt (tgt := 92) hx hb dX8_haste_86 (by decide) (fun c_38 => ?_) (fun c_38 => ?_)
                                · exact absurd c_38 (by decide)
                                · refine lv_goto (tgt := 99) hx hb dX8_haste_89 (by decide) ?_
                                  refine lv_iinc (v := 5) (lv' := [(5, .int 5), (6, .int 1), (4, .int 1), (3, .int 0), (0, .ref m0), (1, .int 0), (2, .int w)]) hx hb dX8_haste_99 hl (k := 1) rfl (by decide) (by decide) rfl (fun ls hl => ?_)
                                  refine lv_goto (tgt := 66) hx hb dX8_haste_102 (by decide) ?_
                                  refine lv_iload hx hb dX8_haste_66 (lv_at hl 0 rfl) ?_
                                  refine lv_bipush (v := 10) hx hb dX8_haste_68 (by decide) ?_
                                  refine lv_icmp_ge (tgt := 105) hx hb dX8_haste_70 (by decide) (fun c_39 => ?_) (fun c_39 => ?_)
                                  · exact absurd c_39 (by decide)
                                  · refine lv_aload_n hx hb dX8_haste_73 rfl (lv_at hl 4 rfl) ?_
                                    refine lv_iload_n hx hb dX8_haste_74 rfl (lv_at hl 5 rfl) ?_
                                    refine lv_iload hx hb dX8_haste_75 (lv_at hl 0 rfl) ?_
                                    skip
                                    refine zw_V (As := [.int 0, .int 5]) (rest := []) (wr := [(mrf, .inl (cI, 8, .inl (fun _ => 0)))]) ⟨hx, hb, hml, hown, hts⟩ (c_M_casesIn_0 l D cI cJ cZ cP cS m0 mrf mki mpa mta mla msl mco mhe mso msi msh mce mca mwo mnu mte mwa mke mma mth mtr (5)  H.size) (cwV 2 hts gX8_haste_X8_casesIn rfl rfl rfl (by decide +kernel) ⟨Nat.le_of_ble_eq_true rfl, Nat.le_of_ble_eq_true rfl⟩) hK hN (hZ.kept hS) hP hD hS hA [1] [0] rfl rfl (by decide) (by decide) (by decide) (va_recv hK hP (ci := 8) (q0 := 1) rfl rfl) rfl hl.1 rfl (Nat.le_of_ble_eq_true rfl) dX8_haste_77 ⟨Nat.le_of_ble_eq_true rfl, Nat.le_of_ble_eq_true rfl⟩ (fun r_40 u_41 H locs hr_40 hP hD hS => ?_)
                                    replace hP : va_P D vwCl [(mrf, .inl (cI, 8, .inl (fun _ => 0))), (m0, .inr (8, (.int 0 :: .int 20 :: .int 0 :: .int 0 :: .int 0 :: .int 60 :: .int 0 :: .int 3 :: .int 1 :: .int (-1) :: .ref mrf :: .ref mki :: .ref mpa :: .ref mta :: .ref mla :: .ref msl :: .ref mco :: .ref mhe :: .ref mso :: .ref msi :: .ref msh :: .ref mce :: .ref mca :: .ref mwo :: .ref mnu :: .ref mte :: .int 0 :: .int 0 :: .int 0 :: .int 0 :: .int 0 :: .ref mwa :: .ref mke :: .ref mma :: .ref mth :: .ref mtr :: .int 0 :: .int 0 :: [])))] H := hP
                                    replace hD : va_D _ [(mrf, .inl (cI, 8, .inl (fun _ => 0))), (m0, .inr (8, (.int 0 :: .int 20 :: .int 0 :: .int 0 :: .int 0 :: .int 60 :: .int 0 :: .int 3 :: .int 1 :: .int (-1) :: .ref mrf :: .ref mki :: .ref mpa :: .ref mta :: .ref mla :: .ref msl :: .ref mco :: .ref mhe :: .ref mso :: .ref msi :: .ref msh :: .ref mce :: .ref mca :: .ref mwo :: .ref mnu :: .ref mte :: .int 0 :: .int 0 :: .int 0 :: .int 0 :: .int 0 :: .ref mwa :: .ref mke :: .ref mma :: .ref mth :: .ref mtr :: .int 0 :: .int 0 :: [])))] := hD
                                    obtain rfl := hr_40
                                    refine lv_istore (lv' := [(6, .int 1), (5, .int 5), (4, .int 1), (3, .int 0), (0, .ref m0), (1, .int 0), (2, .int w)]) hx hb dX8_haste_80 hl (by decide) rfl (fun ls hl => ?_)
                                    refine lv_iload hx hb dX8_haste_82 (lv_at hl 0 rfl) ?_
                                    refine lv_iload hx hb dX8_haste_84 (lv_at hl 2 rfl) ?_
                                    refine lv_icmp_gt (tgt := 92) hx hb dX8_haste_86 (by decide) (fun c_42 => ?_) (fun c_42 => ?_)
                                    · exact absurd c_42 (by decide)
                                    · refine lv_goto (tgt := 99) hx hb dX8_haste_89 (by decide) ?_
                                      refine lv_iinc (v := 6) (lv' := [(5, .int 6), (6, .int 1), (4, .int 1), (3, .int 0), (0, .ref m0), (1, .int 0), (2, .int w)]) hx hb dX8_haste_99 hl (k := 1) rfl (by decide) (by decide) rfl (fun ls hl => ?_)
                                      refine lv_goto (tgt := 66) hx hb dX8_haste_102 (by decide) ?_
                                      refine lv_iload hx hb dX8_haste_66 (lv_at hl 0 rfl) ?_
                                      refine lv_bipush (v := 10) hx hb dX8_haste_68 (by decide) ?_
                                      refine lv_icmp_ge (tgt := 105) hx hb dX8_haste_70 (by decide) (fun c_43 => ?_) (fun c_43 => ?_)
                                      · exact absurd c_43 (by decide)
                                      · refine lv_aload_n hx hb dX8_haste_73 rfl (lv_at hl 4 rfl) ?_
                                        refine lv_iload_n hx hb dX8_haste_74 rfl (lv_at hl 5 rfl) ?_
                                        refine lv_iload hx hb dX8_haste_75 (lv_at hl 0 rfl) ?_
                                        skip
                                        refine zw_V (As := [.int 0, .int 6]) (rest := []) (wr := [(mrf, .inl (cI, 8, .inl (fun _ => 0)))]) ⟨hx, hb, hml, hown, hts⟩ (c_M_casesIn_0 l D cI cJ cZ cP cS m0 mrf mki mpa mta mla msl mco mhe mso msi msh mce mca mwo mnu mte mwa mke mma mth mtr (6)  H.size) (cwV 2 hts gX8_haste_X8_casesIn rfl rfl rfl (by decide +kernel) ⟨Nat.le_of_ble_eq_true rfl, Nat.le_of_ble_eq_true rfl⟩) hK hN (hZ.kept hS) hP hD hS hA [1] [0] rfl rfl (by decide) (by decide) (by decide) (va_recv hK hP (ci := 8) (q0 := 1) rfl rfl) rfl hl.1 rfl (Nat.le_of_ble_eq_true rfl) dX8_haste_77 ⟨Nat.le_of_ble_eq_true rfl, Nat.le_of_ble_eq_true rfl⟩ (fun r_44 u_45 H locs hr_44 hP hD hS => ?_)
                                        replace hP : va_P D vwCl [(mrf, .inl (cI, 8, .inl (fun _ => 0))), (m0, .inr (8, (.int 0 :: .int 20 :: .int 0 :: .int 0 :: .int 0 :: .int 60 :: .int 0 :: .int 3 :: .int 1 :: .int (-1) :: .ref mrf :: .ref mki :: .ref mpa :: .ref mta :: .ref mla :: .ref msl :: .ref mco :: .ref mhe :: .ref mso :: .ref msi :: .ref msh :: .ref mce :: .ref mca :: .ref mwo :: .ref mnu :: .ref mte :: .int 0 :: .int 0 :: .int 0 :: .int 0 :: .int 0 :: .ref mwa :: .ref mke :: .ref mma :: .ref mth :: .ref mtr :: .int 0 :: .int 0 :: [])))] H := hP
                                        replace hD : va_D _ [(mrf, .inl (cI, 8, .inl (fun _ => 0))), (m0, .inr (8, (.int 0 :: .int 20 :: .int 0 :: .int 0 :: .int 0 :: .int 60 :: .int 0 :: .int 3 :: .int 1 :: .int (-1) :: .ref mrf :: .ref mki :: .ref mpa :: .ref mta :: .ref mla :: .ref msl :: .ref mco :: .ref mhe :: .ref mso :: .ref msi :: .ref msh :: .ref mce :: .ref mca :: .ref mwo :: .ref mnu :: .ref mte :: .int 0 :: .int 0 :: .int 0 :: .int 0 :: .int 0 :: .ref mwa :: .ref mke :: .ref mma :: .ref mth :: .ref mtr :: .int 0 :: .int 0 :: [])))] := hD
                                        obtain rfl := hr_44
                                        refine lv_istore (lv' := [(6, .int 1), (5, .int 6), (4, .int 1), (3, .int 0), (0, .ref m0), (1, .int 0), (2, .int w)]) hx hb dX8_haste_80 hl (by decide) rfl (fun ls hl => ?_)
                                        refine lv_iload hx hb dX8_haste_82 (lv_at hl 0 rfl) ?_
                                        refine lv_iload hx hb dX8_haste_84 (lv_at hl 2 rfl) ?_
                                        refine lv_icmp_gt (tgt := 92) hx hb dX8_haste_86 (by decide) (fun c_46 => ?_) (fun c_46 => ?_)
                                        · exact absurd c_46 (by decide)
                                        · refine lv_goto (tgt := 99) hx hb dX8_haste_89 (by decide) ?_
                                          refine lv_iinc (v := 7) (lv' := [(5, .int 7), (6, .int 1), (4, .int 1), (3, .int 0), (0, .ref m0), (1, .int 0), (2, .int w)]) hx hb dX8_haste_99 hl (k := 1) rfl (by decide) (by decide) rfl (fun ls hl => ?_)
                                          refine lv_goto (tgt := 66) hx hb dX8_haste_102 (by decide) ?_
                                          refine lv_iload hx hb dX8_haste_66 (lv_at hl 0 rfl) ?_
                                          refine lv_bipush (v := 10) hx hb dX8_haste_68 (by decide) ?_
                                          refine lv_icmp_ge (tgt := 105) hx hb dX8_haste_70 (by decide) (fun c_47 => ?_) (fun c_47 => ?_)
                                          · exact absurd c_47 (by decide)
                                          · refine lv_aload_n hx hb dX8_haste_73 rfl (lv_at hl 4 rfl) ?_
                                            refine lv_iload_n hx hb dX8_haste_74 rfl (lv_at hl 5 rfl) ?_
                                            refine lv_iload hx hb dX8_haste_75 (lv_at hl 0 rfl) ?_
                                            skip
                                            refine zw_V (As := [.int 0, .int 7]) (rest := []) (wr := [(mrf, .inl (cI, 8, .inl (fun _ => 0)))]) ⟨hx, hb, hml, hown, hts⟩ (c_M_casesIn_0 l D cI cJ cZ cP cS m0 mrf mki mpa mta mla msl mco mhe mso msi msh mce mca mwo mnu mte mwa mke mma mth mtr (7)  H.size) (cwV 2 hts gX8_haste_X8_casesIn rfl rfl rfl (by decide +kernel) ⟨Nat.le_of_ble_eq_true rfl, Nat.le_of_ble_eq_true rfl⟩) hK hN (hZ.kept hS) hP hD hS hA [1] [0] rfl rfl (by decide) (by decide) (by decide) (va_recv hK hP (ci := 8) (q0 := 1) rfl rfl) rfl hl.1 rfl (Nat.le_of_ble_eq_true rfl) dX8_haste_77 ⟨Nat.le_of_ble_eq_true rfl, Nat.le_of_ble_eq_true rfl⟩ (fun r_48 u_49 H locs hr_48 hP hD hS => ?_)
                                            replace hP : va_P D vwCl [(mrf, .inl (cI, 8, .inl (fun _ => 0))), (m0, .inr (8, (.int 0 :: .int 20 :: .int 0 :: .int 0 :: .int 0 :: .int 60 :: .int 0 :: .int 3 :: .int 1 :: .int (-1) :: .ref mrf :: .ref mki :: .ref mpa :: .ref mta :: .ref mla :: .ref msl :: .ref mco :: .ref mhe :: .ref mso :: .ref msi :: .ref msh :: .ref mce :: .ref mca :: .ref mwo :: .ref mnu :: .ref mte :: .int 0 :: .int 0 :: .int 0 :: .int 0 :: .int 0 :: .ref mwa :: .ref mke :: .ref mma :: .ref mth :: .ref mtr :: .int 0 :: .int 0 :: [])))] H := hP
                                            replace hD : va_D _ [(mrf, .inl (cI, 8, .inl (fun _ => 0))), (m0, .inr (8, (.int 0 :: .int 20 :: .int 0 :: .int 0 :: .int 0 :: .int 60 :: .int 0 :: .int 3 :: .int 1 :: .int (-1) :: .ref mrf :: .ref mki :: .ref mpa :: .ref mta :: .ref mla :: .ref msl :: .ref mco :: .ref mhe :: .ref mso :: .ref msi :: .ref msh :: .ref mce :: .ref mca :: .ref mwo :: .ref mnu :: .ref mte :: .int 0 :: .int 0 :: .int 0 :: .int 0 :: .int 0 :: .ref mwa :: .ref mke :: .ref mma :: .ref mth :: .ref mtr :: .int 0 :: .int 0 :: [])))] := hD
                                            obtain rfl := hr_48
                                            refine lv_istore (lv' := [(6, .int 1), (5, .int 7), (4, .int 1), (3, .int 0), (0, .ref m0), (1, .int 0), (2, .int w)]) hx hb dX8_haste_80 hl (by decide) rfl (fun ls hl => ?_)
                                            refine lv_iload hx hb dX8_haste_82 (lv_at hl 0 rfl) ?_
                                            refine lv_iload hx hb dX8_haste_84 (lv_at hl 2 rfl) ?_
                                            refine lv_icmp_gt (tgt := 92) hx hb dX8_haste_86 (by decide) (fun c_50 => ?_) (fun c_50 => ?_)
                                            · exact absurd c_50 (by decide)
                                            · refine lv_goto (tgt := 99) hx hb dX8_haste_89 (by decide) ?_
                                              refine lv_iinc (v := 8) (lv' := [(5, .int 8), (6, .int 1), (4, .int 1), (3, .int 0), (0, .ref m0), (1, .int 0), (2, .int w)]) hx hb dX8_haste_99 hl (k := 1) rfl (by decide) (by decide) rfl (fun ls hl => ?_)
                                              refine lv_goto (tgt := 66) hx hb dX8_haste_102 (by decide) ?_
                                              refine lv_iload hx hb dX8_haste_66 (lv_at hl 0 rfl) ?_
                                              refine lv_bipush (v := 10) hx hb dX8_haste_68 (by decide) ?_
                                              refine lv_icmp_ge (tgt := 105) hx hb dX8_haste_70 (by decide) (fun c_51 => ?_) (fun c_51 => ?_)
                                              · exact absurd c_51 (by decide)
                                              · refine lv_aload_n hx hb dX8_haste_73 rfl (lv_at hl 4 rfl) ?_
                                                refine lv_iload_n hx hb dX8_haste_74 rfl (lv_at hl 5 rfl) ?_
                                                refine lv_iload hx hb dX8_haste_75 (lv_at hl 0 rfl) ?_
                                                skip
                                                refine zw_V (As := [.int 0, .int 8]) (rest := []) (wr := [(mrf, .inl (cI, 8, .inl (fun _ => 0)))]) ⟨hx, hb, hml, hown, hts⟩ (c_M_casesIn_0 l D cI cJ cZ cP cS m0 mrf mki mpa mta mla msl mco mhe mso msi msh mce mca mwo mnu mte mwa mke mma mth mtr (8)  H.size) (cwV 2 hts gX8_haste_X8_casesIn rfl rfl rfl (by decide +kernel) ⟨Nat.le_of_ble_eq_true rfl, Nat.le_of_ble_eq_true rfl⟩) hK hN (hZ.kept hS) hP hD hS hA [1] [0] rfl rfl (by decide) (by decide) (by decide) (va_recv hK hP (ci := 8) (q0 := 1) rfl rfl) rfl hl.1 rfl (Nat.le_of_ble_eq_true rfl) dX8_haste_77 ⟨Nat.le_of_ble_eq_true rfl, Nat.le_of_ble_eq_true rfl⟩ (fun r_52 u_53 H locs hr_52 hP hD hS => ?_)
                                                replace hP : va_P D vwCl [(mrf, .inl (cI, 8, .inl (fun _ => 0))), (m0, .inr (8, (.int 0 :: .int 20 :: .int 0 :: .int 0 :: .int 0 :: .int 60 :: .int 0 :: .int 3 :: .int 1 :: .int (-1) :: .ref mrf :: .ref mki :: .ref mpa :: .ref mta :: .ref mla :: .ref msl :: .ref mco :: .ref mhe :: .ref mso :: .ref msi :: .ref msh :: .ref mce :: .ref mca :: .ref mwo :: .ref mnu :: .ref mte :: .int 0 :: .int 0 :: .int 0 :: .int 0 :: .int 0 :: .ref mwa :: .ref mke :: .ref mma :: .ref mth :: .ref mtr :: .int 0 :: .int 0 :: [])))] H := hP
                                                replace hD : va_D _ [(mrf, .inl (cI, 8, .inl (fun _ => 0))), (m0, .inr (8, (.int 0 :: .int 20 :: .int 0 :: .int 0 :: .int 0 :: .int 60 :: .int 0 :: .int 3 :: .int 1 :: .int (-1) :: .ref mrf :: .ref mki :: .ref mpa :: .ref mta :: .ref mla :: .ref msl :: .ref mco :: .ref mhe :: .ref mso :: .ref msi :: .ref msh :: .ref mce :: .ref mca :: .ref mwo :: .ref mnu :: .ref mte :: .int 0 :: .int 0 :: .int 0 :: .int 0 :: .int 0 :: .ref mwa :: .ref mke :: .ref mma :: .ref mth :: .ref mtr :: .int 0 :: .int 0 :: [])))] := hD
                                                obtain rfl := hr_52
                                                refine lv_istore (lv' := [(6, .int 1), (5, .int 8), (4, .int 1), (3, .int 0), (0, .ref m0), (1, .int 0), (2, .int w)]) hx hb dX8_haste_80 hl (by decide) rfl (fun ls hl => ?_)
                                                refine lv_iload hx hb dX8_haste_82 (lv_at hl 0 rfl) ?_
                                                refine lv_iload hx hb dX8_haste_84 (lv_at hl 2 rfl) ?_
                                                refine lv_icmp_gt (tgt := 92) hx hb dX8_haste_86 (by decide) (fun c_54 => ?_) (fun c_54 => ?_)
                                                · exact absurd c_54 (by decide)
                                                · refine lv_goto (tgt := 99) hx hb dX8_haste_89 (by decide) ?_
                                                  refine lv_iinc (v := 9) (lv' := [(5, .int 9), (6, .int 1), (4, .int 1), (3, .int 0), (0, .ref m0), (1, .int 0), (2, .int w)]) hx hb dX8_haste_99 hl (k := 1) rfl (by decide) (by decide) rfl (fun ls hl => ?_)
                                                  refine lv_goto (tgt := 66) hx hb dX8_haste_102 (by decide) ?_
                                                  refine lv_iload hx hb dX8_haste_66 (lv_at hl 0 rfl) ?_
                                                  refine lv_bipush (v := 10) hx hb dX8_haste_68 (by decide) ?_
                                                  refine lv_icmp_ge (tgt := 105) hx hb dX8_haste_70 (by decide) (fun c_55 => ?_) (fun c_55 => ?_)
                                                  · exact absurd c_55 (by decide)
                                                  · refine lv_aload_n hx hb dX8_haste_73 rfl (lv_at hl 4 rfl) ?_
                                                    refine lv_iload_n hx hb dX8_haste_74 rfl (lv_at hl 5 rfl) ?_
                                                    refine lv_iload hx hb dX8_haste_75 (lv_at hl 0 rfl) ?_
                                                    skip
                                                    refine zw_V (As := [.int 0, .int 9]) (rest := []) (wr := [(mrf, .inl (cI, 8, .inl (fun _ => 0)))]) ⟨hx, hb, hml, hown, hts⟩ (c_M_casesIn_0 l D cI cJ cZ cP cS m0 mrf mki mpa mta mla msl mco mhe mso msi msh mce mca mwo mnu mte mwa mke mma mth mtr (9)  H.size) (cwV 2 hts gX8_haste_X8_casesIn rfl rfl rfl (by decide +kernel) ⟨Nat.le_of_ble_eq_true rfl, Nat.le_of_ble_eq_true rfl⟩) hK hN (hZ.kept hS) hP hD hS hA [1] [0] rfl rfl (by decide) (by decide) (by decide) (va_recv hK hP (ci := 8) (q0 := 1) rfl rfl) rfl hl.1 rfl (Nat.le_of_ble_eq_true rfl) dX8_haste_77 ⟨Nat.le_of_ble_eq_true rfl, Nat.le_of_ble_eq_true rfl⟩ (fun r_56 u_57 H locs hr_56 hP hD hS => ?_)
                                                    replace hP : va_P D vwCl [(mrf, .inl (cI, 8, .inl (fun _ => 0))), (m0, .inr (8, (.int 0 :: .int 20 :: .int 0 :: .int 0 :: .int 0 :: .int 60 :: .int 0 :: .int 3 :: .int 1 :: .int (-1) :: .ref mrf :: .ref mki :: .ref mpa :: .ref mta :: .ref mla :: .ref msl :: .ref mco :: .ref mhe :: .ref mso :: .ref msi :: .ref msh :: .ref mce :: .ref mca :: .ref mwo :: .ref mnu :: .ref mte :: .int 0 :: .int 0 :: .int 0 :: .int 0 :: .int 0 :: .ref mwa :: .ref mke :: .ref mma :: .ref mth :: .ref mtr :: .int 0 :: .int 0 :: [])))] H := hP
                                                    replace hD : va_D _ [(mrf, .inl (cI, 8, .inl (fun _ => 0))), (m0, .inr (8, (.int 0 :: .int 20 :: .int 0 :: .int 0 :: .int 0 :: .int 60 :: .int 0 :: .int 3 :: .int 1 :: .int (-1) :: .ref mrf :: .ref mki :: .ref mpa :: .ref mta :: .ref mla :: .ref msl :: .ref mco :: .ref mhe :: .ref mso :: .ref msi :: .ref msh :: .ref mce :: .ref mca :: .ref mwo :: .ref mnu :: .ref mte :: .int 0 :: .int 0 :: .int 0 :: .int 0 :: .int 0 :: .ref mwa :: .ref mke :: .ref mma :: .ref mth :: .ref mtr :: .int 0 :: .int 0 :: [])))] := hD
                                                    obtain rfl := hr_56
                                                    refine lv_istore (lv' := [(6, .int 1), (5, .int 9), (4, .int 1), (3, .int 0), (0, .ref m0), (1, .int 0), (2, .int w)]) hx hb dX8_haste_80 hl (by decide) rfl (fun ls hl => ?_)
                                                    refine lv_iload hx hb dX8_haste_82 (lv_at hl 0 rfl) ?_
                                                    refine lv_iload hx hb dX8_haste_84 (lv_at hl 2 rfl) ?_
                                                    refine lv_icmp_gt (tgt := 92) hx hb dX8_haste_86 (by decide) (fun c_58 => ?_) (fun c_58 => ?_)
                                                    · exact absurd c_58 (by decide)
                                                    · refine lv_goto (tgt := 99) hx hb dX8_haste_89 (by decide) ?_
                                                      refine lv_iinc (v := 10) (lv' := [(5, .int 10), (6, .int 1), (4, .int 1), (3, .int 0), (0, .ref m0), (1, .int 0), (2, .int w)]) hx hb dX8_haste_99 hl (k := 1) rfl (by decide) (by decide) rfl (fun ls hl => ?_)
                                                      refine lv_goto (tgt := 66) hx hb dX8_haste_102 (by decide) ?_
                                                      refine lv_iload hx hb dX8_haste_66 (lv_at hl 0 rfl) ?_
                                                      refine lv_bipush (v := 10) hx hb dX8_haste_68 (by decide) ?_
                                                      refine lv_icmp_ge (tgt := 105) hx hb dX8_haste_70 (by decide) (fun c_59 => ?_) (fun c_59 => ?_)
                                                      · refine lv_iload_n hx hb dX8_haste_105 rfl (lv_at hl 3 rfl) ?_
                                                        exact W.iret (v := 0) hx hb hr (fun t ht hW => ⟨⟨0, (), rfl, Or.inr (Or.inr (Or.inr (Or.inl (⟨rfl, (by first | omega | decide), (by first | omega | decide), (by first | omega | decide), (by first | omega | decide), (by first | omega | decide), (by first | omega | decide)⟩)))), zP_nil, zD_nil⟩, hS.F ht⟩) hS.2.2 dX8_haste_106
                                                      · exact absurd c_59 (by decide)
                · exact absurd c_22 (by decide)
            · have fc_18 : w.toInt = 1 := zf_eq c_18 rfl (by decide)
              refine lv_aload_n hx hb dX8_haste_36 rfl (lv_at hl 0 rfl) ?_
              refine lv_iload_n hx hb dX8_haste_37 rfl (lv_at hl 1 rfl) ?_
              refine lv_bipush (v := 9) hx hb dX8_haste_38 (by decide) ?_
              skip
              refine zw_V (As := [.int 0, .int 9]) (rest := []) (wr := [(mrf, .inl (cI, 8, .inl (fun _ => 0)))]) ⟨hx, hb, hml, hown, hts⟩ (c_M_casesIn_0 l D cI cJ cZ cP cS m0 mrf mki mpa mta mla msl mco mhe mso msi msh mce mca mwo mnu mte mwa mke mma mth mtr (9)  H.size) (cwV 2 hts gX8_haste_X8_casesIn rfl rfl rfl (by decide +kernel) ⟨Nat.le_of_ble_eq_true rfl, Nat.le_of_ble_eq_true rfl⟩) hK hN (hZ.kept hS) hP hD hS hA [0] [1] rfl rfl (by decide) (by decide) (by decide) (va_recv hK hP (ci := 8) (q0 := 0) rfl rfl) rfl hl.1 rfl (Nat.le_of_ble_eq_true rfl) dX8_haste_40 ⟨Nat.le_of_ble_eq_true rfl, Nat.le_of_ble_eq_true rfl⟩ (fun r_60 u_61 H locs hr_60 hP hD hS => ?_)
              replace hP : va_P D vwCl [(mrf, .inl (cI, 8, .inl (fun _ => 0))), (m0, .inr (8, (.int 0 :: .int 20 :: .int 0 :: .int 0 :: .int 0 :: .int 60 :: .int 0 :: .int 3 :: .int 1 :: .int (-1) :: .ref mrf :: .ref mki :: .ref mpa :: .ref mta :: .ref mla :: .ref msl :: .ref mco :: .ref mhe :: .ref mso :: .ref msi :: .ref msh :: .ref mce :: .ref mca :: .ref mwo :: .ref mnu :: .ref mte :: .int 0 :: .int 0 :: .int 0 :: .int 0 :: .int 0 :: .ref mwa :: .ref mke :: .ref mma :: .ref mth :: .ref mtr :: .int 0 :: .int 0 :: [])))] H := hP
              replace hD : va_D _ [(mrf, .inl (cI, 8, .inl (fun _ => 0))), (m0, .inr (8, (.int 0 :: .int 20 :: .int 0 :: .int 0 :: .int 0 :: .int 60 :: .int 0 :: .int 3 :: .int 1 :: .int (-1) :: .ref mrf :: .ref mki :: .ref mpa :: .ref mta :: .ref mla :: .ref msl :: .ref mco :: .ref mhe :: .ref mso :: .ref msi :: .ref msh :: .ref mce :: .ref mca :: .ref mwo :: .ref mnu :: .ref mte :: .int 0 :: .int 0 :: .int 0 :: .int 0 :: .int 0 :: .ref mwa :: .ref mke :: .ref mma :: .ref mth :: .ref mtr :: .int 0 :: .int 0 :: [])))] := hD
              obtain rfl := hr_60
              refine lv_aload_n hx hb dX8_haste_43 rfl (lv_at hl 0 rfl) ?_
              refine lv_iload_n hx hb dX8_haste_44 rfl (lv_at hl 1 rfl) ?_
              refine lv_iconst (v := 0) hx hb dX8_haste_45 (by decide) ?_
              skip
              refine zw_V (As := [.int 0, .int 0]) (rest := [.int 1]) (wr := [(mrf, .inl (cI, 8, .inl (fun _ => 0)))]) ⟨hx, hb, hml, hown, hts⟩ (c_M_casesIn_0 l D cI cJ cZ cP cS m0 mrf mki mpa mta mla msl mco mhe mso msi msh mce mca mwo mnu mte mwa mke mma mth mtr (0)  H.size) (cwV 2 hts gX8_haste_X8_casesIn rfl rfl rfl (by decide +kernel) ⟨Nat.le_of_ble_eq_true rfl, Nat.le_of_ble_eq_true rfl⟩) hK hN (hZ.kept hS) hP hD hS hA [1] [0] rfl rfl (by decide) (by decide) (by decide) (va_recv hK hP (ci := 8) (q0 := 1) rfl rfl) rfl hl.1 rfl (Nat.le_of_ble_eq_true rfl) dX8_haste_46 ⟨Nat.le_of_ble_eq_true rfl, Nat.le_of_ble_eq_true rfl⟩ (fun r_62 u_63 H locs hr_62 hP hD hS => ?_)
              replace hP : va_P D vwCl [(mrf, .inl (cI, 8, .inl (fun _ => 0))), (m0, .inr (8, (.int 0 :: .int 20 :: .int 0 :: .int 0 :: .int 0 :: .int 60 :: .int 0 :: .int 3 :: .int 1 :: .int (-1) :: .ref mrf :: .ref mki :: .ref mpa :: .ref mta :: .ref mla :: .ref msl :: .ref mco :: .ref mhe :: .ref mso :: .ref msi :: .ref msh :: .ref mce :: .ref mca :: .ref mwo :: .ref mnu :: .ref mte :: .int 0 :: .int 0 :: .int 0 :: .int 0 :: .int 0 :: .ref mwa :: .ref mke :: .ref mma :: .ref mth :: .ref mtr :: .int 0 :: .int 0 :: [])))] H := hP
              replace hD : va_D _ [(mrf, .inl (cI, 8, .inl (fun _ => 0))), (m0, .inr (8, (.int 0 :: .int 20 :: .int 0 :: .int 0 :: .int 0 :: .int 60 :: .int 0 :: .int 3 :: .int 1 :: .int (-1) :: .ref mrf :: .ref mki :: .ref mpa :: .ref mta :: .ref mla :: .ref msl :: .ref mco :: .ref mhe :: .ref mso :: .ref msi :: .ref msh :: .ref mce :: .ref mca :: .ref mwo :: .ref mnu :: .ref mte :: .int 0 :: .int 0 :: .int 0 :: .int 0 :: .int 0 :: .ref mwa :: .ref mke :: .ref mma :: .ref mth :: .ref mtr :: .int 0 :: .int 0 :: [])))] := hD
              obtain rfl := hr_62
              refine lv_icmp_ge (tgt := 56) hx hb dX8_haste_49 (by decide) (fun c_64 => ?_) (fun c_64 => ?_)
              · refine lv_iconst (v := 0) hx hb dX8_haste_56 (by decide) ?_
                exact W.iret (v := 0) hx hb hr (fun t ht hW => ⟨⟨0, (), rfl, Or.inr (Or.inr (Or.inr (Or.inr (Or.inl (⟨rfl, (by first | omega | decide), (by first | omega | decide), (by first | omega | decide), (by first | omega | decide), (by first | omega | decide), (by first | omega | decide)⟩))))), zP_nil, zD_nil⟩, hS.F ht⟩) hS.2.2 dX8_haste_57
              · exact absurd c_64 (by decide)
          · refine lv_iload_n hx hb dX8_haste_31 rfl (lv_at hl 2 rfl) ?_
            refine lv_iconst (v := 1) hx hb dX8_haste_32 (by decide) ?_
            refine lv_icmp_ne (tgt := 58) hx hb dX8_haste_33 (by decide) (fun c_65 => ?_) (fun c_65 => ?_)
            · have fc_65 : w.toInt ≠ 1 := zf_ne c_65 rfl (by decide)
              refine lv_iconst (v := 0) hx hb dX8_haste_58 (by decide) ?_
              refine lv_istore_n (lv' := [(3, .int 0), (0, .ref m0), (1, .int 1), (2, .int w)]) hx hb dX8_haste_59 rfl hl (by decide) rfl (fun ls hl => ?_)
              refine lv_iconst (v := (-1)) hx hb dX8_haste_60 (by decide) ?_
              refine lv_istore (lv' := [(4, .int (-1)), (3, .int 0), (0, .ref m0), (1, .int 1), (2, .int w)]) hx hb dX8_haste_61 hl (by decide) rfl (fun ls hl => ?_)
              refine lv_iconst (v := 0) hx hb dX8_haste_63 (by decide) ?_
              refine lv_istore (lv' := [(5, .int 0), (4, .int (-1)), (3, .int 0), (0, .ref m0), (1, .int 1), (2, .int w)]) hx hb dX8_haste_64 hl (by decide) rfl (fun ls hl => ?_)
              refine lv_iload hx hb dX8_haste_66 (lv_at hl 0 rfl) ?_
              refine lv_bipush (v := 10) hx hb dX8_haste_68 (by decide) ?_
              refine lv_icmp_ge (tgt := 105) hx hb dX8_haste_70 (by decide) (fun c_66 => ?_) (fun c_66 => ?_)
              · exact absurd c_66 (by decide)
              · refine lv_aload_n hx hb dX8_haste_73 rfl (lv_at hl 3 rfl) ?_
                refine lv_iload_n hx hb dX8_haste_74 rfl (lv_at hl 4 rfl) ?_
                refine lv_iload hx hb dX8_haste_75 (lv_at hl 0 rfl) ?_
                skip
                refine zw_V (As := [.int 1, .int 0]) (rest := []) (wr := [(mrf, .inl (cI, 8, .inl (fun _ => 0)))]) ⟨hx, hb, hml, hown, hts⟩ (c_M_casesIn_1 l D cI cJ cZ cP cS m0 mrf mki mpa mta mla msl mco mhe mso msi msh mce mca mwo mnu mte mwa mke mma mth mtr (0)  H.size) (cwV 2 hts gX8_haste_X8_casesIn rfl rfl rfl (by decide +kernel) ⟨Nat.le_of_ble_eq_true rfl, Nat.le_of_ble_eq_true rfl⟩) hK hN (hZ.kept hS) hP hD hS hA [0] [1] rfl rfl (by decide) (by decide) (by decide) (va_recv hK hP (ci := 8) (q0 := 0) rfl rfl) rfl hl.1 rfl (Nat.le_of_ble_eq_true rfl) dX8_haste_77 ⟨Nat.le_of_ble_eq_true rfl, Nat.le_of_ble_eq_true rfl⟩ (fun r_67 u_68 H locs hr_67 hP hD hS => ?_)
                replace hP : va_P D vwCl [(mrf, .inl (cI, 8, .inl (fun _ => 0))), (m0, .inr (8, (.int 0 :: .int 20 :: .int 0 :: .int 0 :: .int 0 :: .int 60 :: .int 0 :: .int 3 :: .int 1 :: .int (-1) :: .ref mrf :: .ref mki :: .ref mpa :: .ref mta :: .ref mla :: .ref msl :: .ref mco :: .ref mhe :: .ref mso :: .ref msi :: .ref msh :: .ref mce :: .ref mca :: .ref mwo :: .ref mnu :: .ref mte :: .int 0 :: .int 0 :: .int 0 :: .int 0 :: .int 0 :: .ref mwa :: .ref mke :: .ref mma :: .ref mth :: .ref mtr :: .int 0 :: .int 0 :: [])))] H := hP
                replace hD : va_D _ [(mrf, .inl (cI, 8, .inl (fun _ => 0))), (m0, .inr (8, (.int 0 :: .int 20 :: .int 0 :: .int 0 :: .int 0 :: .int 60 :: .int 0 :: .int 3 :: .int 1 :: .int (-1) :: .ref mrf :: .ref mki :: .ref mpa :: .ref mta :: .ref mla :: .ref msl :: .ref mco :: .ref mhe :: .ref mso :: .ref msi :: .ref msh :: .ref mce :: .ref mca :: .ref mwo :: .ref mnu :: .ref mte :: .int 0 :: .int 0 :: .int 0 :: .int 0 :: .int 0 :: .ref mwa :: .ref mke :: .ref mma :: .ref mth :: .ref mtr :: .int 0 :: .int 0 :: [])))] := hD
                obtain rfl := hr_67
                refine lv_istore (lv' := [(6, .int 12), (5, .int 0), (4, .int (-1)), (3, .int 0), (0, .ref m0), (1, .int 1), (2, .int w)]) hx hb dX8_haste_80 hl (by decide) rfl (fun ls hl => ?_)
                refine lv_iload hx hb dX8_haste_82 (lv_at hl 0 rfl) ?_
                refine lv_iload hx hb dX8_haste_84 (lv_at hl 2 rfl) ?_
                refine lv_icmp_gt (tgt := 92) hx hb dX8_haste_86 (by decide) (fun c_69 => ?_) (fun c_69 => ?_)
                · refine lv_iload hx hb dX8_haste_92 (lv_at hl 1 rfl) ?_
                  refine lv_istore_n (lv' := [(3, .int 0), (6, .int 12), (5, .int 0), (4, .int (-1)), (0, .ref m0), (1, .int 1), (2, .int w)]) hx hb dX8_haste_94 rfl hl (by decide) rfl (fun ls hl => ?_)
                  refine lv_iload hx hb dX8_haste_95 (lv_at hl 1 rfl) ?_
                  refine lv_istore (lv' := [(4, .int 12), (3, .int 0), (6, .int 12), (5, .int 0), (0, .ref m0), (1, .int 1), (2, .int w)]) hx hb dX8_haste_97 hl (by decide) rfl (fun ls hl => ?_)
                  refine lv_iinc (v := 1) (lv' := [(5, .int 1), (4, .int 12), (3, .int 0), (6, .int 12), (0, .ref m0), (1, .int 1), (2, .int w)]) hx hb dX8_haste_99 hl (k := 3) rfl (by decide) (by decide) rfl (fun ls hl => ?_)
                  refine lv_goto (tgt := 66) hx hb dX8_haste_102 (by decide) ?_
                  refine lv_iload hx hb dX8_haste_66 (lv_at hl 0 rfl) ?_
                  refine lv_bipush (v := 10) hx hb dX8_haste_68 (by decide) ?_
                  refine lv_icmp_ge (tgt := 105) hx hb dX8_haste_70 (by decide) (fun c_70 => ?_) (fun c_70 => ?_)
                  · exact absurd c_70 (by decide)
                  · refine lv_aload_n hx hb dX8_haste_73 rfl (lv_at hl 4 rfl) ?_
                    refine lv_iload_n hx hb dX8_haste_74 rfl (lv_at hl 5 rfl) ?_
                    refine lv_iload hx hb dX8_haste_75 (lv_at hl 0 rfl) ?_
                    skip
                    refine zw_V (As := [.int 1, .int 1]) (rest := []) (wr := [(mrf, .inl (cI, 8, .inl (fun _ => 0)))]) ⟨hx, hb, hml, hown, hts⟩ (c_M_casesIn_1 l D cI cJ cZ cP cS m0 mrf mki mpa mta mla msl mco mhe mso msi msh mce mca mwo mnu mte mwa mke mma mth mtr (1)  H.size) (cwV 2 hts gX8_haste_X8_casesIn rfl rfl rfl (by decide +kernel) ⟨Nat.le_of_ble_eq_true rfl, Nat.le_of_ble_eq_true rfl⟩) hK hN (hZ.kept hS) hP hD hS hA [1] [0] rfl rfl (by decide) (by decide) (by decide) (va_recv hK hP (ci := 8) (q0 := 1) rfl rfl) rfl hl.1 rfl (Nat.le_of_ble_eq_true rfl) dX8_haste_77 ⟨Nat.le_of_ble_eq_true rfl, Nat.le_of_ble_eq_true rfl⟩ (fun r_71 u_72 H locs hr_71 hP hD hS => ?_)
                    replace hP : va_P D vwCl [(mrf, .inl (cI, 8, .inl (fun _ => 0))), (m0, .inr (8, (.int 0 :: .int 20 :: .int 0 :: .int 0 :: .int 0 :: .int 60 :: .int 0 :: .int 3 :: .int 1 :: .int (-1) :: .ref mrf :: .ref mki :: .ref mpa :: .ref mta :: .ref mla :: .ref msl :: .ref mco :: .ref mhe :: .ref mso :: .ref msi :: .ref msh :: .ref mce :: .ref mca :: .ref mwo :: .ref mnu :: .ref mte :: .int 0 :: .int 0 :: .int 0 :: .int 0 :: .int 0 :: .ref mwa :: .ref mke :: .ref mma :: .ref mth :: .ref mtr :: .int 0 :: .int 0 :: [])))] H := hP
                    replace hD : va_D _ [(mrf, .inl (cI, 8, .inl (fun _ => 0))), (m0, .inr (8, (.int 0 :: .int 20 :: .int 0 :: .int 0 :: .int 0 :: .int 60 :: .int 0 :: .int 3 :: .int 1 :: .int (-1) :: .ref mrf :: .ref mki :: .ref mpa :: .ref mta :: .ref mla :: .ref msl :: .ref mco :: .ref mhe :: .ref mso :: .ref msi :: .ref msh :: .ref mce :: .ref mca :: .ref mwo :: .ref mnu :: .ref mte :: .int 0 :: .int 0 :: .int 0 :: .int 0 :: .int 0 :: .ref mwa :: .ref mke :: .ref mma :: .ref mth :: .ref mtr :: .int 0 :: .int 0 :: [])))] := hD
                    obtain rfl := hr_71
                    refine lv_istore (lv' := [(6, .int 12), (5, .int 1), (4, .int 12), (3, .int 0), (0, .ref m0), (1, .int 1), (2, .int w)]) hx hb dX8_haste_80 hl (by decide) rfl (fun ls hl => ?_)
                    refine lv_iload hx hb dX8_haste_82 (lv_at hl 0 rfl) ?_
                    refine lv_iload hx hb dX8_haste_84 (lv_at hl 2 rfl) ?_
                    refine lv_icmp_gt (tgt := 92) hx hb dX8_haste_86 (by decide) (fun c_73 => ?_) (fun c_73 => ?_)
                    · exact absurd c_73 (by decide)
                    · refine lv_goto (tgt := 99) hx hb dX8_haste_89 (by decide) ?_
                      refine lv_iinc (v := 2) (lv' := [(5, .int 2), (6, .int 12), (4, .int 12), (3, .int 0), (0, .ref m0), (1, .int 1), (2, .int w)]) hx hb dX8_haste_99 hl (k := 1) rfl (by decide) (by decide) rfl (fun ls hl => ?_)
                      refine lv_goto (tgt := 66) hx hb dX8_haste_102 (by decide) ?_
                      refine lv_iload hx hb dX8_haste_66 (lv_at hl 0 rfl) ?_
                      refine lv_bipush (v := 10) hx hb dX8_haste_68 (by decide) ?_
                      refine lv_icmp_ge (tgt := 105) hx hb dX8_haste_70 (by decide) (fun c_74 => ?_) (fun c_74 => ?_)
                      · exact absurd c_74 (by decide)
                      · refine lv_aload_n hx hb dX8_haste_73 rfl (lv_at hl 4 rfl) ?_
                        refine lv_iload_n hx hb dX8_haste_74 rfl (lv_at hl 5 rfl) ?_
                        refine lv_iload hx hb dX8_haste_75 (lv_at hl 0 rfl) ?_
                        skip
                        refine zw_V (As := [.int 1, .int 2]) (rest := []) (wr := [(mrf, .inl (cI, 8, .inl (fun _ => 0)))]) ⟨hx, hb, hml, hown, hts⟩ (c_M_casesIn_1 l D cI cJ cZ cP cS m0 mrf mki mpa mta mla msl mco mhe mso msi msh mce mca mwo mnu mte mwa mke mma mth mtr (2)  H.size) (cwV 2 hts gX8_haste_X8_casesIn rfl rfl rfl (by decide +kernel) ⟨Nat.le_of_ble_eq_true rfl, Nat.le_of_ble_eq_true rfl⟩) hK hN (hZ.kept hS) hP hD hS hA [1] [0] rfl rfl (by decide) (by decide) (by decide) (va_recv hK hP (ci := 8) (q0 := 1) rfl rfl) rfl hl.1 rfl (Nat.le_of_ble_eq_true rfl) dX8_haste_77 ⟨Nat.le_of_ble_eq_true rfl, Nat.le_of_ble_eq_true rfl⟩ (fun r_75 u_76 H locs hr_75 hP hD hS => ?_)
                        replace hP : va_P D vwCl [(mrf, .inl (cI, 8, .inl (fun _ => 0))), (m0, .inr (8, (.int 0 :: .int 20 :: .int 0 :: .int 0 :: .int 0 :: .int 60 :: .int 0 :: .int 3 :: .int 1 :: .int (-1) :: .ref mrf :: .ref mki :: .ref mpa :: .ref mta :: .ref mla :: .ref msl :: .ref mco :: .ref mhe :: .ref mso :: .ref msi :: .ref msh :: .ref mce :: .ref mca :: .ref mwo :: .ref mnu :: .ref mte :: .int 0 :: .int 0 :: .int 0 :: .int 0 :: .int 0 :: .ref mwa :: .ref mke :: .ref mma :: .ref mth :: .ref mtr :: .int 0 :: .int 0 :: [])))] H := hP
                        replace hD : va_D _ [(mrf, .inl (cI, 8, .inl (fun _ => 0))), (m0, .inr (8, (.int 0 :: .int 20 :: .int 0 :: .int 0 :: .int 0 :: .int 60 :: .int 0 :: .int 3 :: .int 1 :: .int (-1) :: .ref mrf :: .ref mki :: .ref mpa :: .ref mta :: .ref mla :: .ref msl :: .ref mco :: .ref mhe :: .ref mso :: .ref msi :: .ref msh :: .ref mce :: .ref mca :: .ref mwo :: .ref mnu :: .ref mte :: .int 0 :: .int 0 :: .int 0 :: .int 0 :: .int 0 :: .ref mwa :: .ref mke :: .ref mma :: .ref mth :: .ref mtr :: .int 0 :: .int 0 :: [])))] := hD
                        obtain rfl := hr_75
                        refine lv_istore (lv' := [(6, .int 12), (5, .int 2), (4, .int 12), (3, .int 0), (0, .ref m0), (1, .int 1), (2, .int w)]) hx hb dX8_haste_80 hl (by decide) rfl (fun ls hl => ?_)
                        refine lv_iload hx hb dX8_haste_82 (lv_at hl 0 rfl) ?_
                        refine lv_iload hx hb dX8_haste_84 (lv_at hl 2 rfl) ?_
                        refine lv_icmp_gt (tgt := 92) hx hb dX8_haste_86 (by decide) (fun c_77 => ?_) (fun c_77 => ?_)
                        · exact absurd c_77 (by decide)
                        · refine lv_goto (tgt := 99) hx hb dX8_haste_89 (by decide) ?_
                          refine lv_iinc (v := 3) (lv' := [(5, .int 3), (6, .int 12), (4, .int 12), (3, .int 0), (0, .ref m0), (1, .int 1), (2, .int w)]) hx hb dX8_haste_99 hl (k := 1) rfl (by decide) (by decide) rfl (fun ls hl => ?_)
                          refine lv_goto (tgt := 66) hx hb dX8_haste_102 (by decide) ?_
                          refine lv_iload hx hb dX8_haste_66 (lv_at hl 0 rfl) ?_
                          refine lv_bipush (v := 10) hx hb dX8_haste_68 (by decide) ?_
                          refine lv_icmp_ge (tgt := 105) hx hb dX8_haste_70 (by decide) (fun c_78 => ?_) (fun c_78 => ?_)
                          · exact absurd c_78 (by decide)
                          · refine lv_aload_n hx hb dX8_haste_73 rfl (lv_at hl 4 rfl) ?_
                            refine lv_iload_n hx hb dX8_haste_74 rfl (lv_at hl 5 rfl) ?_
                            refine lv_iload hx hb dX8_haste_75 (lv_at hl 0 rfl) ?_
                            skip
                            refine zw_V (As := [.int 1, .int 3]) (rest := []) (wr := [(mrf, .inl (cI, 8, .inl (fun _ => 0)))]) ⟨hx, hb, hml, hown, hts⟩ (c_M_casesIn_1 l D cI cJ cZ cP cS m0 mrf mki mpa mta mla msl mco mhe mso msi msh mce mca mwo mnu mte mwa mke mma mth mtr (3)  H.size) (cwV 2 hts gX8_haste_X8_casesIn rfl rfl rfl (by decide +kernel) ⟨Nat.le_of_ble_eq_true rfl, Nat.le_of_ble_eq_true rfl⟩) hK hN (hZ.kept hS) hP hD hS hA [1] [0] rfl rfl (by decide) (by decide) (by decide) (va_recv hK hP (ci := 8) (q0 := 1) rfl rfl) rfl hl.1 rfl (Nat.le_of_ble_eq_true rfl) dX8_haste_77 ⟨Nat.le_of_ble_eq_true rfl, Nat.le_of_ble_eq_true rfl⟩ (fun r_79 u_80 H locs hr_79 hP hD hS => ?_)
                            replace hP : va_P D vwCl [(mrf, .inl (cI, 8, .inl (fun _ => 0))), (m0, .inr (8, (.int 0 :: .int 20 :: .int 0 :: .int 0 :: .int 0 :: .int 60 :: .int 0 :: .int 3 :: .int 1 :: .int (-1) :: .ref mrf :: .ref mki :: .ref mpa :: .ref mta :: .ref mla :: .ref msl :: .ref mco :: .ref mhe :: .ref mso :: .ref msi :: .ref msh :: .ref mce :: .ref mca :: .ref mwo :: .ref mnu :: .ref mte :: .int 0 :: .int 0 :: .int 0 :: .int 0 :: .int 0 :: .ref mwa :: .ref mke :: .ref mma :: .ref mth :: .ref mtr :: .int 0 :: .int 0 :: [])))] H := hP
                            replace hD : va_D _ [(mrf, .inl (cI, 8, .inl (fun _ => 0))), (m0, .inr (8, (.int 0 :: .int 20 :: .int 0 :: .int 0 :: .int 0 :: .int 60 :: .int 0 :: .int 3 :: .int 1 :: .int (-1) :: .ref mrf :: .ref mki :: .ref mpa :: .ref mta :: .ref mla :: .ref msl :: .ref mco :: .ref mhe :: .ref mso :: .ref msi :: .ref msh :: .ref mce :: .ref mca :: .ref mwo :: .ref mnu :: .ref mte :: .int 0 :: .int 0 :: .int 0 :: .int 0 :: .int 0 :: .ref mwa :: .ref mke :: .ref mma :: .ref mth :: .ref mtr :: .int 0 :: .int 0 :: [])))] := hD
                            obtain rfl := hr_79
                            refine lv_istore (lv' := [(6, .int 12), (5, .int 3), (4, .int 12), (3, .int 0), (0, .ref m0), (1, .int 1), (2, .int w)]) hx hb dX8_haste_80 hl (by decide) rfl (fun ls hl => ?_)
                            refine lv_iload hx hb dX8_haste_82 (lv_at hl 0 rfl) ?_
                            refine lv_iload hx hb dX8_haste_84 (lv_at hl 2 rfl) ?_
                            refine lv_icmp_gt (tgt := 92) hx hb dX8_haste_86 (by decide) (fun c_81 => ?_) (fun c_81 => ?_)
                            · exact absurd c_81 (by decide)
                            · refine lv_goto (tgt := 99) hx hb dX8_haste_89 (by decide) ?_
                              refine lv_iinc (v := 4) (lv' := [(5, .int 4), (6, .int 12), (4, .int 12), (3, .int 0), (0, .ref m0), (1, .int 1), (2, .int w)]) hx hb dX8_haste_99 hl (k := 1) rfl (by decide) (by decide) rfl (fun ls hl => ?_)
                              refine lv_goto (tgt := 66) hx hb dX8_haste_102 (by decide) ?_
                              refine lv_iload hx hb dX8_haste_66 (lv_at hl 0 rfl) ?_
                              refine lv_bipush (v := 10) hx hb dX8_haste_68 (by decide) ?_
                              refine lv_icmp_ge (tgt := 105) hx hb dX8_haste_70 (by decide) (fun c_82 => ?_) (fun c_82 => ?_)
                              · exact absurd c_82 (by decide)
                              · refine lv_aload_n hx hb dX8_haste_73 rfl (lv_at hl 4 rfl) ?_
                                refine lv_iload_n hx hb dX8_haste_74 rfl (lv_at hl 5 rfl) ?_
                                refine lv_iload hx hb dX8_haste_75 (lv_at hl 0 rfl) ?_
                                skip
                                refine zw_V (As := [.int 1, .int 4]) (rest := []) (wr := [(mrf, .inl (cI, 8, .inl (fun _ => 0)))]) ⟨hx, hb, hml, hown, hts⟩ (c_M_casesIn_1 l D cI cJ cZ cP cS m0 mrf mki mpa mta mla msl mco mhe mso msi msh mce mca mwo mnu mte mwa mke mma mth mtr (4)  H.size) (cwV 2 hts gX8_haste_X8_casesIn rfl rfl rfl (by decide +kernel) ⟨Nat.le_of_ble_eq_true rfl, Nat.le_of_ble_eq_true rfl⟩) hK hN (hZ.kept hS) hP hD hS hA [1] [0] rfl rfl (by decide) (by decide) (by decide) (va_recv hK hP (ci := 8) (q0 := 1) rfl rfl) rfl hl.1 rfl (Nat.le_of_ble_eq_true rfl) dX8_haste_77 ⟨Nat.le_of_ble_eq_true rfl, Nat.le_of_ble_eq_true rfl⟩ (fun r_83 u_84 H locs hr_83 hP hD hS => ?_)
                                replace hP : va_P D vwCl [(mrf, .inl (cI, 8, .inl (fun _ => 0))), (m0, .inr (8, (.int 0 :: .int 20 :: .int 0 :: .int 0 :: .int 0 :: .int 60 :: .int 0 :: .int 3 :: .int 1 :: .int (-1) :: .ref mrf :: .ref mki :: .ref mpa :: .ref mta :: .ref mla :: .ref msl :: .ref mco :: .ref mhe :: .ref mso :: .ref msi :: .ref msh :: .ref mce :: .ref mca :: .ref mwo :: .ref mnu :: .ref mte :: .int 0 :: .int 0 :: .int 0 :: .int 0 :: .int 0 :: .ref mwa :: .ref mke :: .ref mma :: .ref mth :: .ref mtr :: .int 0 :: .int 0 :: [])))] H := hP
                                replace hD : va_D _ [(mrf, .inl (cI, 8, .inl (fun _ => 0))), (m0, .inr (8, (.int 0 :: .int 20 :: .int 0 :: .int 0 :: .int 0 :: .int 60 :: .int 0 :: .int 3 :: .int 1 :: .int (-1) :: .ref mrf :: .ref mki :: .ref mpa :: .ref mta :: .ref mla :: .ref msl :: .ref mco :: .ref mhe :: .ref mso :: .ref msi :: .ref msh :: .ref mce :: .ref mca :: .ref mwo :: .ref mnu :: .ref mte :: .int 0 :: .int 0 :: .int 0 :: .int 0 :: .int 0 :: .ref mwa :: .ref mke :: .ref mma :: .ref mth :: .ref mtr :: .int 0 :: .int 0 :: [])))] := hD
                                obtain rfl := hr_83
                                refine lv_istore (lv' := [(6, .int 12), (5, .int 4), (4, .int 12), (3, .int 0), (0, .ref m0), (1, .int 1), (2, .int w)]) hx hb dX8_haste_80 hl (by decide) rfl (fun ls hl => ?_)
                                refine lv_iload hx hb dX8_haste_82 (lv_at hl 0 rfl) ?_
                                refine lv_iload hx hb dX8_haste_84 (lv_at hl 2 rfl) ?_
                                refine lv_icmp_gt (tgt := 92) hx hb dX8_haste_86 (by decide) (fun c_85 => ?_) (fun c_85 => ?_)
                                · exact absurd c_85 (by decide)
                                · refine lv_goto (tgt := 99) hx hb dX8_haste_89 (by decide) ?_
                                  refine lv_iinc (v := 5) (lv' := [(5, .int 5), (6, .int 12), (4, .int 12), (3, .int 0), (0, .ref m0), (1, .int 1), (2, .int w)]) hx hb dX8_haste_99 hl (k := 1) rfl (by decide) (by decide) rfl (fun ls hl => ?_)
                                  refine lv_goto (tgt := 66) hx hb dX8_haste_102 (by decide) ?_
                                  refine lv_iload hx hb dX8_haste_66 (lv_at hl 0 rfl) ?_
                                  refine lv_bipush (v := 10) hx hb dX8_haste_68 (by decide) ?_
                                  refine lv_icmp_ge (tgt := 105) hx hb dX8_haste_70 (by decide) (fun c_86 => ?_) (fun c_86 => ?_)
                                  · exact absurd c_86 (by decide)
                                  · refine lv_aload_n hx hb dX8_haste_73 rfl (lv_at hl 4 rfl) ?_
                                    refine lv_iload_n hx hb dX8_haste_74 rfl (lv_at hl 5 rfl) ?_
                                    refine lv_iload hx hb dX8_haste_75 (lv_at hl 0 rfl) ?_
                                    skip
                                    refine zw_V (As := [.int 1, .int 5]) (rest := []) (wr := [(mrf, .inl (cI, 8, .inl (fun _ => 0)))]) ⟨hx, hb, hml, hown, hts⟩ (c_M_casesIn_1 l D cI cJ cZ cP cS m0 mrf mki mpa mta mla msl mco mhe mso msi msh mce mca mwo mnu mte mwa mke mma mth mtr (5)  H.size) (cwV 2 hts gX8_haste_X8_casesIn rfl rfl rfl (by decide +kernel) ⟨Nat.le_of_ble_eq_true rfl, Nat.le_of_ble_eq_true rfl⟩) hK hN (hZ.kept hS) hP hD hS hA [1] [0] rfl rfl (by decide) (by decide) (by decide) (va_recv hK hP (ci := 8) (q0 := 1) rfl rfl) rfl hl.1 rfl (Nat.le_of_ble_eq_true rfl) dX8_haste_77 ⟨Nat.le_of_ble_eq_true rfl, Nat.le_of_ble_eq_true rfl⟩ (fun r_87 u_88 H locs hr_87 hP hD hS => ?_)
                                    replace hP : va_P D vwCl [(mrf, .inl (cI, 8, .inl (fun _ => 0))), (m0, .inr (8, (.int 0 :: .int 20 :: .int 0 :: .int 0 :: .int 0 :: .int 60 :: .int 0 :: .int 3 :: .int 1 :: .int (-1) :: .ref mrf :: .ref mki :: .ref mpa :: .ref mta :: .ref mla :: .ref msl :: .ref mco :: .ref mhe :: .ref mso :: .ref msi :: .ref msh :: .ref mce :: .ref mca :: .ref mwo :: .ref mnu :: .ref mte :: .int 0 :: .int 0 :: .int 0 :: .int 0 :: .int 0 :: .ref mwa :: .ref mke :: .ref mma :: .ref mth :: .ref mtr :: .int 0 :: .int 0 :: [])))] H := hP
                                    replace hD : va_D _ [(mrf, .inl (cI, 8, .inl (fun _ => 0))), (m0, .inr (8, (.int 0 :: .int 20 :: .int 0 :: .int 0 :: .int 0 :: .int 60 :: .int 0 :: .int 3 :: .int 1 :: .int (-1) :: .ref mrf :: .ref mki :: .ref mpa :: .ref mta :: .ref mla :: .ref msl :: .ref mco :: .ref mhe :: .ref mso :: .ref msi :: .ref msh :: .ref mce :: .ref mca :: .ref mwo :: .ref mnu :: .ref mte :: .int 0 :: .int 0 :: .int 0 :: .int 0 :: .int 0 :: .ref mwa :: .ref mke :: .ref mma :: .ref mth :: .ref mtr :: .int 0 :: .int 0 :: [])))] := hD
                                    obtain rfl := hr_87
                                    refine lv_istore (lv' := [(6, .int 12), (5, .int 5), (4, .int 12), (3, .int 0), (0, .ref m0), (1, .int 1), (2, .int w)]) hx hb dX8_haste_80 hl (by decide) rfl (fun ls hl => ?_)
                                    refine lv_iload hx hb dX8_haste_82 (lv_at hl 0 rfl) ?_
                                    refine lv_iload hx hb dX8_haste_84 (lv_at hl 2 rfl) ?_
                                    refine lv_icmp_gt (tgt := 92) hx hb dX8_haste_86 (by decide) (fun c_89 => ?_) (fun c_89 => ?_)
                                    · exact absurd c_89 (by decide)
                                    · refine lv_goto (tgt := 99) hx hb dX8_haste_89 (by decide) ?_
                                      refine lv_iinc (v := 6) (lv' := [(5, .int 6), (6, .int 12), (4, .int 12), (3, .int 0), (0, .ref m0), (1, .int 1), (2, .int w)]) hx hb dX8_haste_99 hl (k := 1) rfl (by decide) (by decide) rfl (fun ls hl => ?_)
                                      refine lv_goto (tgt := 66) hx hb dX8_haste_102 (by decide) ?_
                                      refine lv_iload hx hb dX8_haste_66 (lv_at hl 0 rfl) ?_
                                      refine lv_bipush (v := 10) hx hb dX8_haste_68 (by decide) ?_
                                      refine lv_icmp_ge (tgt := 105) hx hb dX8_haste_70 (by decide) (fun c_90 => ?_) (fun c_90 => ?_)
                                      · exact absurd c_90 (by decide)
                                      · refine lv_aload_n hx hb dX8_haste_73 rfl (lv_at hl 4 rfl) ?_
                                        refine lv_iload_n hx hb dX8_haste_74 rfl (lv_at hl 5 rfl) ?_
                                        refine lv_iload hx hb dX8_haste_75 (lv_at hl 0 rfl) ?_
                                        skip
                                        refine zw_V (As := [.int 1, .int 6]) (rest := []) (wr := [(mrf, .inl (cI, 8, .inl (fun _ => 0)))]) ⟨hx, hb, hml, hown, hts⟩ (c_M_casesIn_1 l D cI cJ cZ cP cS m0 mrf mki mpa mta mla msl mco mhe mso msi msh mce mca mwo mnu mte mwa mke mma mth mtr (6)  H.size) (cwV 2 hts gX8_haste_X8_casesIn rfl rfl rfl (by decide +kernel) ⟨Nat.le_of_ble_eq_true rfl, Nat.le_of_ble_eq_true rfl⟩) hK hN (hZ.kept hS) hP hD hS hA [1] [0] rfl rfl (by decide) (by decide) (by decide) (va_recv hK hP (ci := 8) (q0 := 1) rfl rfl) rfl hl.1 rfl (Nat.le_of_ble_eq_true rfl) dX8_haste_77 ⟨Nat.le_of_ble_eq_true rfl, Nat.le_of_ble_eq_true rfl⟩ (fun r_91 u_92 H locs hr_91 hP hD hS => ?_)
                                        replace hP : va_P D vwCl [(mrf, .inl (cI, 8, .inl (fun _ => 0))), (m0, .inr (8, (.int 0 :: .int 20 :: .int 0 :: .int 0 :: .int 0 :: .int 60 :: .int 0 :: .int 3 :: .int 1 :: .int (-1) :: .ref mrf :: .ref mki :: .ref mpa :: .ref mta :: .ref mla :: .ref msl :: .ref mco :: .ref mhe :: .ref mso :: .ref msi :: .ref msh :: .ref mce :: .ref mca :: .ref mwo :: .ref mnu :: .ref mte :: .int 0 :: .int 0 :: .int 0 :: .int 0 :: .int 0 :: .ref mwa :: .ref mke :: .ref mma :: .ref mth :: .ref mtr :: .int 0 :: .int 0 :: [])))] H := hP
                                        replace hD : va_D _ [(mrf, .inl (cI, 8, .inl (fun _ => 0))), (m0, .inr (8, (.int 0 :: .int 20 :: .int 0 :: .int 0 :: .int 0 :: .int 60 :: .int 0 :: .int 3 :: .int 1 :: .int (-1) :: .ref mrf :: .ref mki :: .ref mpa :: .ref mta :: .ref mla :: .ref msl :: .ref mco :: .ref mhe :: .ref mso :: .ref msi :: .ref msh :: .ref mce :: .ref mca :: .ref mwo :: .ref mnu :: .ref mte :: .int 0 :: .int 0 :: .int 0 :: .int 0 :: .int 0 :: .ref mwa :: .ref mke :: .ref mma :: .ref mth :: .ref mtr :: .int 0 :: .int 0 :: [])))] := hD
                                        obtain rfl := hr_91
                                        refine lv_istore (lv' := [(6, .int 12), (5, .int 6), (4, .int 12), (3, .int 0), (0, .ref m0), (1, .int 1), (2, .int w)]) hx hb dX8_haste_80 hl (by decide) rfl (fun ls hl => ?_)
                                        refine lv_iload hx hb dX8_haste_82 (lv_at hl 0 rfl) ?_
                                        refine lv_iload hx hb dX8_haste_84 (lv_at hl 2 rfl) ?_
                                        refine lv_icmp_gt (tgt := 92) hx hb dX8_haste_86 (by decide) (fun c_93 => ?_) (fun c_93 => ?_)
                                        · exact absurd c_93 (by decide)
                                        · refine lv_goto (tgt := 99) hx hb dX8_haste_89 (by decide) ?_
                                          refine lv_iinc (v := 7) (lv' := [(5, .int 7), (6, .int 12), (4, .int 12), (3, .int 0), (0, .ref m0), (1, .int 1), (2, .int w)]) hx hb dX8_haste_99 hl (k := 1) rfl (by decide) (by decide) rfl (fun ls hl => ?_)
                                          refine lv_goto (tgt := 66) hx hb dX8_haste_102 (by decide) ?_
                                          refine lv_iload hx hb dX8_haste_66 (lv_at hl 0 rfl) ?_
                                          refine lv_bipush (v := 10) hx hb dX8_haste_68 (by decide) ?_
                                          refine lv_icmp_ge (tgt := 105) hx hb dX8_haste_70 (by decide) (fun c_94 => ?_) (fun c_94 => ?_)
                                          · exact absurd c_94 (by decide)
                                          · refine lv_aload_n hx hb dX8_haste_73 rfl (lv_at hl 4 rfl) ?_
                                            refine lv_iload_n hx hb dX8_haste_74 rfl (lv_at hl 5 rfl) ?_
                                            refine lv_iload hx hb dX8_haste_75 (lv_at hl 0 rfl) ?_
                                            skip
                                            refine zw_V (As := [.int 1, .int 7]) (rest := []) (wr := [(mrf, .inl (cI, 8, .inl (fun _ => 0)))]) ⟨hx, hb, hml, hown, hts⟩ (c_M_casesIn_1 l D cI cJ cZ cP cS m0 mrf mki mpa mta mla msl mco mhe mso msi msh mce mca mwo mnu mte mwa mke mma mth mtr (7)  H.size) (cwV 2 hts gX8_haste_X8_casesIn rfl rfl rfl (by decide +kernel) ⟨Nat.le_of_ble_eq_true rfl, Nat.le_of_ble_eq_true rfl⟩) hK hN (hZ.kept hS) hP hD hS hA [1] [0] rfl rfl (by decide) (by decide) (by decide) (va_recv hK hP (ci := 8) (q0 := 1) rfl rfl) rfl hl.1 rfl (Nat.le_of_ble_eq_true rfl) dX8_haste_77 ⟨Nat.le_of_ble_eq_true rfl, Nat.le_of_ble_eq_true rfl⟩ (fun r_95 u_96 H locs hr_95 hP hD hS => ?_)
                                            replace hP : va_P D vwCl [(mrf, .inl (cI, 8, .inl (fun _ => 0))), (m0, .inr (8, (.int 0 :: .int 20 :: .int 0 :: .int 0 :: .int 0 :: .int 60 :: .int 0 :: .int 3 :: .int 1 :: .int (-1) :: .ref mrf :: .ref mki :: .ref mpa :: .ref mta :: .ref mla :: .ref msl :: .ref mco :: .ref mhe :: .ref mso :: .ref msi :: .ref msh :: .ref mce :: .ref mca :: .ref mwo :: .ref mnu :: .ref mte :: .int 0 :: .int 0 :: .int 0 :: .int 0 :: .int 0 :: .ref mwa :: .ref mke :: .ref mma :: .ref mth :: .ref mtr :: .int 0 :: .int 0 :: [])))] H := hP
                                            replace hD : va_D _ [(mrf, .inl (cI, 8, .inl (fun _ => 0))), (m0, .inr (8, (.int 0 :: .int 20 :: .int 0 :: .int 0 :: .int 0 :: .int 60 :: .int 0 :: .int 3 :: .int 1 :: .int (-1) :: .ref mrf :: .ref mki :: .ref mpa :: .ref mta :: .ref mla :: .ref msl :: .ref mco :: .ref mhe :: .ref mso :: .ref msi :: .ref msh :: .ref mce :: .ref mca :: .ref mwo :: .ref mnu :: .ref mte :: .int 0 :: .int 0 :: .int 0 :: .int 0 :: .int 0 :: .ref mwa :: .ref mke :: .ref mma :: .ref mth :: .ref mtr :: .int 0 :: .int 0 :: [])))] := hD
                                            obtain rfl := hr_95
                                            refine lv_istore (lv' := [(6, .int 12), (5, .int 7), (4, .int 12), (3, .int 0), (0, .ref m0), (1, .int 1), (2, .int w)]) hx hb dX8_haste_80 hl (by decide) rfl (fun ls hl => ?_)
                                            refine lv_iload hx hb dX8_haste_82 (lv_at hl 0 rfl) ?_
                                            refine lv_iload hx hb dX8_haste_84 (lv_at hl 2 rfl) ?_
                                            refine lv_icmp_gt (tgt := 92) hx hb dX8_haste_86 (by decide) (fun c_97 => ?_) (fun c_97 => ?_)
                                            · exact absurd c_97 (by decide)
                                            · refine lv_goto (tgt := 99) hx hb dX8_haste_89 (by decide) ?_
                                              refine lv_iinc (v := 8) (lv' := [(5, .int 8), (6, .int 12), (4, .int 12), (3, .int 0), (0, .ref m0), (1, .int 1), (2, .int w)]) hx hb dX8_haste_99 hl (k := 1) rfl (by decide) (by decide) rfl (fun ls hl => ?_)
                                              refine lv_goto (tgt := 66) hx hb dX8_haste_102 (by decide) ?_
                                              refine lv_iload hx hb dX8_haste_66 (lv_at hl 0 rfl) ?_
                                              refine lv_bipush (v := 10) hx hb dX8_haste_68 (by decide) ?_
                                              refine lv_icmp_ge (tgt := 105) hx hb dX8_haste_70 (by decide) (fun c_98 => ?_) (fun c_98 => ?_)
                                              · exact absurd c_98 (by decide)
                                              · refine lv_aload_n hx hb dX8_haste_73 rfl (lv_at hl 4 rfl) ?_
                                                refine lv_iload_n hx hb dX8_haste_74 rfl (lv_at hl 5 rfl) ?_
                                                refine lv_iload hx hb dX8_haste_75 (lv_at hl 0 rfl) ?_
                                                skip
                                                refine zw_V (As := [.int 1, .int 8]) (rest := []) (wr := [(mrf, .inl (cI, 8, .inl (fun _ => 0)))]) ⟨hx, hb, hml, hown, hts⟩ (c_M_casesIn_1 l D cI cJ cZ cP cS m0 mrf mki mpa mta mla msl mco mhe mso msi msh mce mca mwo mnu mte mwa mke mma mth mtr (8)  H.size) (cwV 2 hts gX8_haste_X8_casesIn rfl rfl rfl (by decide +kernel) ⟨Nat.le_of_ble_eq_true rfl, Nat.le_of_ble_eq_true rfl⟩) hK hN (hZ.kept hS) hP hD hS hA [1] [0] rfl rfl (by decide) (by decide) (by decide) (va_recv hK hP (ci := 8) (q0 := 1) rfl rfl) rfl hl.1 rfl (Nat.le_of_ble_eq_true rfl) dX8_haste_77 ⟨Nat.le_of_ble_eq_true rfl, Nat.le_of_ble_eq_true rfl⟩ (fun r_99 u_100 H locs hr_99 hP hD hS => ?_)
                                                replace hP : va_P D vwCl [(mrf, .inl (cI, 8, .inl (fun _ => 0))), (m0, .inr (8, (.int 0 :: .int 20 :: .int 0 :: .int 0 :: .int 0 :: .int 60 :: .int 0 :: .int 3 :: .int 1 :: .int (-1) :: .ref mrf :: .ref mki :: .ref mpa :: .ref mta :: .ref mla :: .ref msl :: .ref mco :: .ref mhe :: .ref mso :: .ref msi :: .ref msh :: .ref mce :: .ref mca :: .ref mwo :: .ref mnu :: .ref mte :: .int 0 :: .int 0 :: .int 0 :: .int 0 :: .int 0 :: .ref mwa :: .ref mke :: .ref mma :: .ref mth :: .ref mtr :: .int 0 :: .int 0 :: [])))] H := hP
                                                replace hD : va_D _ [(mrf, .inl (cI, 8, .inl (fun _ => 0))), (m0, .inr (8, (.int 0 :: .int 20 :: .int 0 :: .int 0 :: .int 0 :: .int 60 :: .int 0 :: .int 3 :: .int 1 :: .int (-1) :: .ref mrf :: .ref mki :: .ref mpa :: .ref mta :: .ref mla :: .ref msl :: .ref mco :: .ref mhe :: .ref mso :: .ref msi :: .ref msh :: .ref mce :: .ref mca :: .ref mwo :: .ref mnu :: .ref mte :: .int 0 :: .int 0 :: .int 0 :: .int 0 :: .int 0 :: .ref mwa :: .ref mke :: .ref mma :: .ref mth :: .ref mtr :: .int 0 :: .int 0 :: [])))] := hD
                                                obtain rfl := hr_99
                                                refine lv_istore (lv' := [(6, .int 12), (5, .int 8), (4, .int 12), (3, .int 0), (0, .ref m0), (1, .int 1), (2, .int w)]) hx hb dX8_haste_80 hl (by decide) rfl (fun ls hl => ?_)
                                                refine lv_iload hx hb dX8_haste_82 (lv_at hl 0 rfl) ?_
                                                refine lv_iload hx hb dX8_haste_84 (lv_at hl 2 rfl) ?_
                                                refine lv_icmp_gt (tgt := 92) hx hb dX8_haste_86 (by decide) (fun c_101 => ?_) (fun c_101 => ?_)
                                                · exact absurd c_101 (by decide)
                                                · refine lv_goto (tgt := 99) hx hb dX8_haste_89 (by decide) ?_
                                                  refine lv_iinc (v := 9) (lv' := [(5, .int 9), (6, .int 12), (4, .int 12), (3, .int 0), (0, .ref m0), (1, .int 1), (2, .int w)]) hx hb dX8_haste_99 hl (k := 1) rfl (by decide) (by decide) rfl (fun ls hl => ?_)
                                                  refine lv_goto (tgt := 66) hx hb dX8_haste_102 (by decide) ?_
                                                  refine lv_iload hx hb dX8_haste_66 (lv_at hl 0 rfl) ?_
                                                  refine lv_bipush (v := 10) hx hb dX8_haste_68 (by decide) ?_
                                                  refine lv_icmp_ge (tgt := 105) hx hb dX8_haste_70 (by decide) (fun c_102 => ?_) (fun c_102 => ?_)
                                                  · exact absurd c_102 (by decide)
                                                  · refine lv_aload_n hx hb dX8_haste_73 rfl (lv_at hl 4 rfl) ?_
                                                    refine lv_iload_n hx hb dX8_haste_74 rfl (lv_at hl 5 rfl) ?_
                                                    refine lv_iload hx hb dX8_haste_75 (lv_at hl 0 rfl) ?_
                                                    skip
                                                    refine zw_V (As := [.int 1, .int 9]) (rest := []) (wr := [(mrf, .inl (cI, 8, .inl (fun _ => 0)))]) ⟨hx, hb, hml, hown, hts⟩ (c_M_casesIn_1 l D cI cJ cZ cP cS m0 mrf mki mpa mta mla msl mco mhe mso msi msh mce mca mwo mnu mte mwa mke mma mth mtr (9)  H.size) (cwV 2 hts gX8_haste_X8_casesIn rfl rfl rfl (by decide +kernel) ⟨Nat.le_of_ble_eq_true rfl, Nat.le_of_ble_eq_true rfl⟩) hK hN (hZ.kept hS) hP hD hS hA [1] [0] rfl rfl (by decide) (by decide) (by decide) (va_recv hK hP (ci := 8) (q0 := 1) rfl rfl) rfl hl.1 rfl (Nat.le_of_ble_eq_true rfl) dX8_haste_77 ⟨Nat.le_of_ble_eq_true rfl, Nat.le_of_ble_eq_true rfl⟩ (fun r_103 u_104 H locs hr_103 hP hD hS => ?_)
                                                    replace hP : va_P D vwCl [(mrf, .inl (cI, 8, .inl (fun _ => 0))), (m0, .inr (8, (.int 0 :: .int 20 :: .int 0 :: .int 0 :: .int 0 :: .int 60 :: .int 0 :: .int 3 :: .int 1 :: .int (-1) :: .ref mrf :: .ref mki :: .ref mpa :: .ref mta :: .ref mla :: .ref msl :: .ref mco :: .ref mhe :: .ref mso :: .ref msi :: .ref msh :: .ref mce :: .ref mca :: .ref mwo :: .ref mnu :: .ref mte :: .int 0 :: .int 0 :: .int 0 :: .int 0 :: .int 0 :: .ref mwa :: .ref mke :: .ref mma :: .ref mth :: .ref mtr :: .int 0 :: .int 0 :: [])))] H := hP
                                                    replace hD : va_D _ [(mrf, .inl (cI, 8, .inl (fun _ => 0))), (m0, .inr (8, (.int 0 :: .int 20 :: .int 0 :: .int 0 :: .int 0 :: .int 60 :: .int 0 :: .int 3 :: .int 1 :: .int (-1) :: .ref mrf :: .ref mki :: .ref mpa :: .ref mta :: .ref mla :: .ref msl :: .ref mco :: .ref mhe :: .ref mso :: .ref msi :: .ref msh :: .ref mce :: .ref mca :: .ref mwo :: .ref mnu :: .ref mte :: .int 0 :: .int 0 :: .int 0 :: .int 0 :: .int 0 :: .ref mwa :: .ref mke :: .ref mma :: .ref mth :: .ref mtr :: .int 0 :: .int 0 :: [])))] := hD
                                                    obtain rfl := hr_103
                                                    refine lv_istore (lv' := [(6, .int 12), (5, .int 9), (4, .int 12), (3, .int 0), (0, .ref m0), (1, .int 1), (2, .int w)]) hx hb dX8_haste_80 hl (by decide) rfl (fun ls hl => ?_)
                                                    refine lv_iload hx hb dX8_haste_82 (lv_at hl 0 rfl) ?_
                                                    refine lv_iload hx hb dX8_haste_84 (lv_at hl 2 rfl) ?_
                                                    refine lv_icmp_gt (tgt := 92) hx hb dX8_haste_86 (by decide) (fun c_105 => ?_) (fun c_105 => ?_)
                                                    · exact absurd c_105 (by decide)
                                                    · refine lv_goto (tgt := 99) hx hb dX8_haste_89 (by decide) ?_
                                                      refine lv_iinc (v := 10) (lv' := [(5, .int 10), (6, .int 12), (4, .int 12), (3, .int 0), (0, .ref m0), (1, .int 1), (2, .int w)]) hx hb dX8_haste_99 hl (k := 1) rfl (by decide) (by decide) rfl (fun ls hl => ?_)
                                                      refine lv_goto (tgt := 66) hx hb dX8_haste_102 (by decide) ?_
                                                      refine lv_iload hx hb dX8_haste_66 (lv_at hl 0 rfl) ?_
                                                      refine lv_bipush (v := 10) hx hb dX8_haste_68 (by decide) ?_
                                                      refine lv_icmp_ge (tgt := 105) hx hb dX8_haste_70 (by decide) (fun c_106 => ?_) (fun c_106 => ?_)
                                                      · refine lv_iload_n hx hb dX8_haste_105 rfl (lv_at hl 3 rfl) ?_
                                                        exact W.iret (v := 0) hx hb hr (fun t ht hW => ⟨⟨0, (), rfl, Or.inr (Or.inr (Or.inr (Or.inr (Or.inr (Or.inl (⟨rfl, (by first | omega | decide), (by first | omega | decide), (by first | omega | decide), (by first | omega | decide), (by first | omega | decide), (by first | omega | decide)⟩)))))), zP_nil, zD_nil⟩, hS.F ht⟩) hS.2.2 dX8_haste_106
                                                      · exact absurd c_106 (by decide)
                · exact absurd c_69 (by decide)
            · have fc_65 : w.toInt = 1 := zf_eq c_65 rfl (by decide)
              refine lv_aload_n hx hb dX8_haste_36 rfl (lv_at hl 0 rfl) ?_
              refine lv_iload_n hx hb dX8_haste_37 rfl (lv_at hl 1 rfl) ?_
              refine lv_bipush (v := 9) hx hb dX8_haste_38 (by decide) ?_
              skip
              refine zw_V (As := [.int 1, .int 9]) (rest := []) (wr := [(mrf, .inl (cI, 8, .inl (fun _ => 0)))]) ⟨hx, hb, hml, hown, hts⟩ (c_M_casesIn_1 l D cI cJ cZ cP cS m0 mrf mki mpa mta mla msl mco mhe mso msi msh mce mca mwo mnu mte mwa mke mma mth mtr (9)  H.size) (cwV 2 hts gX8_haste_X8_casesIn rfl rfl rfl (by decide +kernel) ⟨Nat.le_of_ble_eq_true rfl, Nat.le_of_ble_eq_true rfl⟩) hK hN (hZ.kept hS) hP hD hS hA [0] [1] rfl rfl (by decide) (by decide) (by decide) (va_recv hK hP (ci := 8) (q0 := 0) rfl rfl) rfl hl.1 rfl (Nat.le_of_ble_eq_true rfl) dX8_haste_40 ⟨Nat.le_of_ble_eq_true rfl, Nat.le_of_ble_eq_true rfl⟩ (fun r_107 u_108 H locs hr_107 hP hD hS => ?_)
              replace hP : va_P D vwCl [(mrf, .inl (cI, 8, .inl (fun _ => 0))), (m0, .inr (8, (.int 0 :: .int 20 :: .int 0 :: .int 0 :: .int 0 :: .int 60 :: .int 0 :: .int 3 :: .int 1 :: .int (-1) :: .ref mrf :: .ref mki :: .ref mpa :: .ref mta :: .ref mla :: .ref msl :: .ref mco :: .ref mhe :: .ref mso :: .ref msi :: .ref msh :: .ref mce :: .ref mca :: .ref mwo :: .ref mnu :: .ref mte :: .int 0 :: .int 0 :: .int 0 :: .int 0 :: .int 0 :: .ref mwa :: .ref mke :: .ref mma :: .ref mth :: .ref mtr :: .int 0 :: .int 0 :: [])))] H := hP
              replace hD : va_D _ [(mrf, .inl (cI, 8, .inl (fun _ => 0))), (m0, .inr (8, (.int 0 :: .int 20 :: .int 0 :: .int 0 :: .int 0 :: .int 60 :: .int 0 :: .int 3 :: .int 1 :: .int (-1) :: .ref mrf :: .ref mki :: .ref mpa :: .ref mta :: .ref mla :: .ref msl :: .ref mco :: .ref mhe :: .ref mso :: .ref msi :: .ref msh :: .ref mce :: .ref mca :: .ref mwo :: .ref mnu :: .ref mte :: .int 0 :: .int 0 :: .int 0 :: .int 0 :: .int 0 :: .ref mwa :: .ref mke :: .ref mma :: .ref mth :: .ref mtr :: .int 0 :: .int 0 :: [])))] := hD
              obtain rfl := hr_107
              refine lv_aload_n hx hb dX8_haste_43 rfl (lv_at hl 0 rfl) ?_
              refine lv_iload_n hx hb dX8_haste_44 rfl (lv_at hl 1 rfl) ?_
              refine lv_iconst (v := 0) hx hb dX8_haste_45 (by decide) ?_
              skip
              refine zw_V (As := [.int 1, .int 0]) (rest := [.int 12]) (wr := [(mrf, .inl (cI, 8, .inl (fun _ => 0)))]) ⟨hx, hb, hml, hown, hts⟩ (c_M_casesIn_1 l D cI cJ cZ cP cS m0 mrf mki mpa mta mla msl mco mhe mso msi msh mce mca mwo mnu mte mwa mke mma mth mtr (0)  H.size) (cwV 2 hts gX8_haste_X8_casesIn rfl rfl rfl (by decide +kernel) ⟨Nat.le_of_ble_eq_true rfl, Nat.le_of_ble_eq_true rfl⟩) hK hN (hZ.kept hS) hP hD hS hA [1] [0] rfl rfl (by decide) (by decide) (by decide) (va_recv hK hP (ci := 8) (q0 := 1) rfl rfl) rfl hl.1 rfl (Nat.le_of_ble_eq_true rfl) dX8_haste_46 ⟨Nat.le_of_ble_eq_true rfl, Nat.le_of_ble_eq_true rfl⟩ (fun r_109 u_110 H locs hr_109 hP hD hS => ?_)
              replace hP : va_P D vwCl [(mrf, .inl (cI, 8, .inl (fun _ => 0))), (m0, .inr (8, (.int 0 :: .int 20 :: .int 0 :: .int 0 :: .int 0 :: .int 60 :: .int 0 :: .int 3 :: .int 1 :: .int (-1) :: .ref mrf :: .ref mki :: .ref mpa :: .ref mta :: .ref mla :: .ref msl :: .ref mco :: .ref mhe :: .ref mso :: .ref msi :: .ref msh :: .ref mce :: .ref mca :: .ref mwo :: .ref mnu :: .ref mte :: .int 0 :: .int 0 :: .int 0 :: .int 0 :: .int 0 :: .ref mwa :: .ref mke :: .ref mma :: .ref mth :: .ref mtr :: .int 0 :: .int 0 :: [])))] H := hP
              replace hD : va_D _ [(mrf, .inl (cI, 8, .inl (fun _ => 0))), (m0, .inr (8, (.int 0 :: .int 20 :: .int 0 :: .int 0 :: .int 0 :: .int 60 :: .int 0 :: .int 3 :: .int 1 :: .int (-1) :: .ref mrf :: .ref mki :: .ref mpa :: .ref mta :: .ref mla :: .ref msl :: .ref mco :: .ref mhe :: .ref mso :: .ref msi :: .ref msh :: .ref mce :: .ref mca :: .ref mwo :: .ref mnu :: .ref mte :: .int 0 :: .int 0 :: .int 0 :: .int 0 :: .int 0 :: .ref mwa :: .ref mke :: .ref mma :: .ref mth :: .ref mtr :: .int 0 :: .int 0 :: [])))] := hD
              obtain rfl := hr_109
              refine lv_icmp_ge (tgt := 56) hx hb dX8_haste_49 (by decide) (fun c_111 => ?_) (fun c_111 => ?_)
              · refine lv_iconst (v := 0) hx hb dX8_haste_56 (by decide) ?_
                exact W.iret (v := 0) hx hb hr (fun t ht hW => ⟨⟨0, (), rfl, Or.inr (Or.inr (Or.inr (Or.inr (Or.inr (Or.inr (Or.inl (⟨rfl, (by first | omega | decide), (by first | omega | decide), (by first | omega | decide), (by first | omega | decide), (by first | omega | decide), (by first | omega | decide)⟩))))))), zP_nil, zD_nil⟩, hS.F ht⟩) hS.2.2 dX8_haste_57
              · exact absurd c_111 (by decide)
          · refine lv_iload_n hx hb dX8_haste_31 rfl (lv_at hl 2 rfl) ?_
            refine lv_iconst (v := 1) hx hb dX8_haste_32 (by decide) ?_
            refine lv_icmp_ne (tgt := 58) hx hb dX8_haste_33 (by decide) (fun c_112 => ?_) (fun c_112 => ?_)
            · have fc_112 : w.toInt ≠ 1 := zf_ne c_112 rfl (by decide)
              refine lv_iconst (v := 0) hx hb dX8_haste_58 (by decide) ?_
              refine lv_istore_n (lv' := [(3, .int 0), (0, .ref m0), (1, .int 2), (2, .int w)]) hx hb dX8_haste_59 rfl hl (by decide) rfl (fun ls hl => ?_)
              refine lv_iconst (v := (-1)) hx hb dX8_haste_60 (by decide) ?_
              refine lv_istore (lv' := [(4, .int (-1)), (3, .int 0), (0, .ref m0), (1, .int 2), (2, .int w)]) hx hb dX8_haste_61 hl (by decide) rfl (fun ls hl => ?_)
              refine lv_iconst (v := 0) hx hb dX8_haste_63 (by decide) ?_
              refine lv_istore (lv' := [(5, .int 0), (4, .int (-1)), (3, .int 0), (0, .ref m0), (1, .int 2), (2, .int w)]) hx hb dX8_haste_64 hl (by decide) rfl (fun ls hl => ?_)
              refine lv_iload hx hb dX8_haste_66 (lv_at hl 0 rfl) ?_
              refine lv_bipush (v := 10) hx hb dX8_haste_68 (by decide) ?_
              refine lv_icmp_ge (tgt := 105) hx hb dX8_haste_70 (by decide) (fun c_113 => ?_) (fun c_113 => ?_)
              · exact absurd c_113 (by decide)
              · refine lv_aload_n hx hb dX8_haste_73 rfl (lv_at hl 3 rfl) ?_
                refine lv_iload_n hx hb dX8_haste_74 rfl (lv_at hl 4 rfl) ?_
                refine lv_iload hx hb dX8_haste_75 (lv_at hl 0 rfl) ?_
                skip
                refine zw_V (As := [.int 2, .int 0]) (rest := []) (wr := [(mrf, .inl (cI, 8, .inl (fun _ => 0)))]) ⟨hx, hb, hml, hown, hts⟩ (c_M_casesIn_2 l D cI cJ cZ cP cS m0 mrf mki mpa mta mla msl mco mhe mso msi msh mce mca mwo mnu mte mwa mke mma mth mtr (0)  H.size) (cwV 2 hts gX8_haste_X8_casesIn rfl rfl rfl (by decide +kernel) ⟨Nat.le_of_ble_eq_true rfl, Nat.le_of_ble_eq_true rfl⟩) hK hN (hZ.kept hS) hP hD hS hA [0] [1] rfl rfl (by decide) (by decide) (by decide) (va_recv hK hP (ci := 8) (q0 := 0) rfl rfl) rfl hl.1 rfl (Nat.le_of_ble_eq_true rfl) dX8_haste_77 ⟨Nat.le_of_ble_eq_true rfl, Nat.le_of_ble_eq_true rfl⟩ (fun r_114 u_115 H locs hr_114 hP hD hS => ?_)
                replace hP : va_P D vwCl [(mrf, .inl (cI, 8, .inl (fun _ => 0))), (m0, .inr (8, (.int 0 :: .int 20 :: .int 0 :: .int 0 :: .int 0 :: .int 60 :: .int 0 :: .int 3 :: .int 1 :: .int (-1) :: .ref mrf :: .ref mki :: .ref mpa :: .ref mta :: .ref mla :: .ref msl :: .ref mco :: .ref mhe :: .ref mso :: .ref msi :: .ref msh :: .ref mce :: .ref mca :: .ref mwo :: .ref mnu :: .ref mte :: .int 0 :: .int 0 :: .int 0 :: .int 0 :: .int 0 :: .ref mwa :: .ref mke :: .ref mma :: .ref mth :: .ref mtr :: .int 0 :: .int 0 :: [])))] H := hP
                replace hD : va_D _ [(mrf, .inl (cI, 8, .inl (fun _ => 0))), (m0, .inr (8, (.int 0 :: .int 20 :: .int 0 :: .int 0 :: .int 0 :: .int 60 :: .int 0 :: .int 3 :: .int 1 :: .int (-1) :: .ref mrf :: .ref mki :: .ref mpa :: .ref mta :: .ref mla :: .ref msl :: .ref mco :: .ref mhe :: .ref mso :: .ref msi :: .ref msh :: .ref mce :: .ref mca :: .ref mwo :: .ref mnu :: .ref mte :: .int 0 :: .int 0 :: .int 0 :: .int 0 :: .int 0 :: .ref mwa :: .ref mke :: .ref mma :: .ref mth :: .ref mtr :: .int 0 :: .int 0 :: [])))] := hD
                obtain rfl := hr_114
                refine lv_istore (lv' := [(6, .int 144), (5, .int 0), (4, .int (-1)), (3, .int 0), (0, .ref m0), (1, .int 2), (2, .int w)]) hx hb dX8_haste_80 hl (by decide) rfl (fun ls hl => ?_)
                refine lv_iload hx hb dX8_haste_82 (lv_at hl 0 rfl) ?_
                refine lv_iload hx hb dX8_haste_84 (lv_at hl 2 rfl) ?_
                refine lv_icmp_gt (tgt := 92) hx hb dX8_haste_86 (by decide) (fun c_116 => ?_) (fun c_116 => ?_)
                · refine lv_iload hx hb dX8_haste_92 (lv_at hl 1 rfl) ?_
                  refine lv_istore_n (lv' := [(3, .int 0), (6, .int 144), (5, .int 0), (4, .int (-1)), (0, .ref m0), (1, .int 2), (2, .int w)]) hx hb dX8_haste_94 rfl hl (by decide) rfl (fun ls hl => ?_)
                  refine lv_iload hx hb dX8_haste_95 (lv_at hl 1 rfl) ?_
                  refine lv_istore (lv' := [(4, .int 144), (3, .int 0), (6, .int 144), (5, .int 0), (0, .ref m0), (1, .int 2), (2, .int w)]) hx hb dX8_haste_97 hl (by decide) rfl (fun ls hl => ?_)
                  refine lv_iinc (v := 1) (lv' := [(5, .int 1), (4, .int 144), (3, .int 0), (6, .int 144), (0, .ref m0), (1, .int 2), (2, .int w)]) hx hb dX8_haste_99 hl (k := 3) rfl (by decide) (by decide) rfl (fun ls hl => ?_)
                  refine lv_goto (tgt := 66) hx hb dX8_haste_102 (by decide) ?_
                  refine lv_iload hx hb dX8_haste_66 (lv_at hl 0 rfl) ?_
                  refine lv_bipush (v := 10) hx hb dX8_haste_68 (by decide) ?_
                  refine lv_icmp_ge (tgt := 105) hx hb dX8_haste_70 (by decide) (fun c_117 => ?_) (fun c_117 => ?_)
                  · exact absurd c_117 (by decide)
                  · refine lv_aload_n hx hb dX8_haste_73 rfl (lv_at hl 4 rfl) ?_
                    refine lv_iload_n hx hb dX8_haste_74 rfl (lv_at hl 5 rfl) ?_
                    refine lv_iload hx hb dX8_haste_75 (lv_at hl 0 rfl) ?_
                    skip
                    refine zw_V (As := [.int 2, .int 1]) (rest := []) (wr := [(mrf, .inl (cI, 8, .inl (fun _ => 0)))]) ⟨hx, hb, hml, hown, hts⟩ (c_M_casesIn_2 l D cI cJ cZ cP cS m0 mrf mki mpa mta mla msl mco mhe mso msi msh mce mca mwo mnu mte mwa mke mma mth mtr (1)  H.size) (cwV 2 hts gX8_haste_X8_casesIn rfl rfl rfl (by decide +kernel) ⟨Nat.le_of_ble_eq_true rfl, Nat.le_of_ble_eq_true rfl⟩) hK hN (hZ.kept hS) hP hD hS hA [1] [0] rfl rfl (by decide) (by decide) (by decide) (va_recv hK hP (ci := 8) (q0 := 1) rfl rfl) rfl hl.1 rfl (Nat.le_of_ble_eq_true rfl) dX8_haste_77 ⟨Nat.le_of_ble_eq_true rfl, Nat.le_of_ble_eq_true rfl⟩ (fun r_118 u_119 H locs hr_118 hP hD hS => ?_)
                    replace hP : va_P D vwCl [(mrf, .inl (cI, 8, .inl (fun _ => 0))), (m0, .inr (8, (.int 0 :: .int 20 :: .int 0 :: .int 0 :: .int 0 :: .int 60 :: .int 0 :: .int 3 :: .int 1 :: .int (-1) :: .ref mrf :: .ref mki :: .ref mpa :: .ref mta :: .ref mla :: .ref msl :: .ref mco :: .ref mhe :: .ref mso :: .ref msi :: .ref msh :: .ref mce :: .ref mca :: .ref mwo :: .ref mnu :: .ref mte :: .int 0 :: .int 0 :: .int 0 :: .int 0 :: .int 0 :: .ref mwa :: .ref mke :: .ref mma :: .ref mth :: .ref mtr :: .int 0 :: .int 0 :: [])))] H := hP
                    replace hD : va_D _ [(mrf, .inl (cI, 8, .inl (fun _ => 0))), (m0, .inr (8, (.int 0 :: .int 20 :: .int 0 :: .int 0 :: .int 0 :: .int 60 :: .int 0 :: .int 3 :: .int 1 :: .int (-1) :: .ref mrf :: .ref mki :: .ref mpa :: .ref mta :: .ref mla :: .ref msl :: .ref mco :: .ref mhe :: .ref mso :: .ref msi :: .ref msh :: .ref mce :: .ref mca :: .ref mwo :: .ref mnu :: .ref mte :: .int 0 :: .int 0 :: .int 0 :: .int 0 :: .int 0 :: .ref mwa :: .ref mke :: .ref mma :: .ref mth :: .ref mtr :: .int 0 :: .int 0 :: [])))] := hD
                    obtain rfl := hr_118
                    refine lv_istore (lv' := [(6, .int 144), (5, .int 1), (4, .int 144), (3, .int 0), (0, .ref m0), (1, .int 2), (2, .int w)]) hx hb dX8_haste_80 hl (by decide) rfl (fun ls hl => ?_)
                    refine lv_iload hx hb dX8_haste_82 (lv_at hl 0 rfl) ?_
                    refine lv_iload hx hb dX8_haste_84 (lv_at hl 2 rfl) ?_
                    refine lv_icmp_gt (tgt := 92) hx hb dX8_haste_86 (by decide) (fun c_120 => ?_) (fun c_120 => ?_)
                    · exact absurd c_120 (by decide)
                    · refine lv_goto (tgt := 99) hx hb dX8_haste_89 (by decide) ?_
                      refine lv_iinc (v := 2) (lv' := [(5, .int 2), (6, .int 144), (4, .int 144), (3, .int 0), (0, .ref m0), (1, .int 2), (2, .int w)]) hx hb dX8_haste_99 hl (k := 1) rfl (by decide) (by decide) rfl (fun ls hl => ?_)
                      refine lv_goto (tgt := 66) hx hb dX8_haste_102 (by decide) ?_
                      refine lv_iload hx hb dX8_haste_66 (lv_at hl 0 rfl) ?_
                      refine lv_bipush (v := 10) hx hb dX8_haste_68 (by decide) ?_
                      refine lv_icmp_ge (tgt := 105) hx hb dX8_haste_70 (by decide) (fun c_121 => ?_) (fun c_121 => ?_)
                      · exact absurd c_121 (by decide)
                      · refine lv_aload_n hx hb dX8_haste_73 rfl (lv_at hl 4 rfl) ?_
                        refine lv_iload_n hx hb dX8_haste_74 rfl (lv_at hl 5 rfl) ?_
                        refine lv_iload hx hb dX8_haste_75 (lv_at hl 0 rfl) ?_
                        skip
                        refine zw_V (As := [.int 2, .int 2]) (rest := []) (wr := [(mrf, .inl (cI, 8, .inl (fun _ => 0)))]) ⟨hx, hb, hml, hown, hts⟩ (c_M_casesIn_2 l D cI cJ cZ cP cS m0 mrf mki mpa mta mla msl mco mhe mso msi msh mce mca mwo mnu mte mwa mke mma mth mtr (2)  H.size) (cwV 2 hts gX8_haste_X8_casesIn rfl rfl rfl (by decide +kernel) ⟨Nat.le_of_ble_eq_true rfl, Nat.le_of_ble_eq_true rfl⟩) hK hN (hZ.kept hS) hP hD hS hA [1] [0] rfl rfl (by decide) (by decide) (by decide) (va_recv hK hP (ci := 8) (q0 := 1) rfl rfl) rfl hl.1 rfl (Nat.le_of_ble_eq_true rfl) dX8_haste_77 ⟨Nat.le_of_ble_eq_true rfl, Nat.le_of_ble_eq_true rfl⟩ (fun r_122 u_123 H locs hr_122 hP hD hS => ?_)
                        replace hP : va_P D vwCl [(mrf, .inl (cI, 8, .inl (fun _ => 0))), (m0, .inr (8, (.int 0 :: .int 20 :: .int 0 :: .int 0 :: .int 0 :: .int 60 :: .int 0 :: .int 3 :: .int 1 :: .int (-1) :: .ref mrf :: .ref mki :: .ref mpa :: .ref mta :: .ref mla :: .ref msl :: .ref mco :: .ref mhe :: .ref mso :: .ref msi :: .ref msh :: .ref mce :: .ref mca :: .ref mwo :: .ref mnu :: .ref mte :: .int 0 :: .int 0 :: .int 0 :: .int 0 :: .int 0 :: .ref mwa :: .ref mke :: .ref mma :: .ref mth :: .ref mtr :: .int 0 :: .int 0 :: [])))] H := hP
                        replace hD : va_D _ [(mrf, .inl (cI, 8, .inl (fun _ => 0))), (m0, .inr (8, (.int 0 :: .int 20 :: .int 0 :: .int 0 :: .int 0 :: .int 60 :: .int 0 :: .int 3 :: .int 1 :: .int (-1) :: .ref mrf :: .ref mki :: .ref mpa :: .ref mta :: .ref mla :: .ref msl :: .ref mco :: .ref mhe :: .ref mso :: .ref msi :: .ref msh :: .ref mce :: .ref mca :: .ref mwo :: .ref mnu :: .ref mte :: .int 0 :: .int 0 :: .int 0 :: .int 0 :: .int 0 :: .ref mwa :: .ref mke :: .ref mma :: .ref mth :: .ref mtr :: .int 0 :: .int 0 :: [])))] := hD
                        obtain rfl := hr_122
                        refine lv_istore (lv' := [(6, .int 144), (5, .int 2), (4, .int 144), (3, .int 0), (0, .ref m0), (1, .int 2), (2, .int w)]) hx hb dX8_haste_80 hl (by decide) rfl (fun ls hl => ?_)
                        refine lv_iload hx hb dX8_haste_82 (lv_at hl 0 rfl) ?_
                        refine lv_iload hx hb dX8_haste_84 (lv_at hl 2 rfl) ?_
                        refine lv_icmp_gt (tgt := 92) hx hb dX8_haste_86 (by decide) (fun c_124 => ?_) (fun c_124 => ?_)
                        · exact absurd c_124 (by decide)
                        · refine lv_goto (tgt := 99) hx hb dX8_haste_89 (by decide) ?_
                          refine lv_iinc (v := 3) (lv' := [(5, .int 3), (6, .int 144), (4, .int 144), (3, .int 0), (0, .ref m0), (1, .int 2), (2, .int w)]) hx hb dX8_haste_99 hl (k := 1) rfl (by decide) (by decide) rfl (fun ls hl => ?_)
                          refine lv_goto (tgt := 66) hx hb dX8_haste_102 (by decide) ?_
                          refine lv_iload hx hb dX8_haste_66 (lv_at hl 0 rfl) ?_
                          refine lv_bipush (v := 10) hx hb dX8_haste_68 (by decide) ?_
                          refine lv_icmp_ge (tgt := 105) hx hb dX8_haste_70 (by decide) (fun c_125 => ?_) (fun c_125 => ?_)
                          · exact absurd c_125 (by decide)
                          · refine lv_aload_n hx hb dX8_haste_73 rfl (lv_at hl 4 rfl) ?_
                            refine lv_iload_n hx hb dX8_haste_74 rfl (lv_at hl 5 rfl) ?_
                            refine lv_iload hx hb dX8_haste_75 (lv_at hl 0 rfl) ?_
                            skip
                            refine zw_V (As := [.int 2, .int 3]) (rest := []) (wr := [(mrf, .inl (cI, 8, .inl (fun _ => 0)))]) ⟨hx, hb, hml, hown, hts⟩ (c_M_casesIn_2 l D cI cJ cZ cP cS m0 mrf mki mpa mta mla msl mco mhe mso msi msh mce mca mwo mnu mte mwa mke mma mth mtr (3)  H.size) (cwV 2 hts gX8_haste_X8_casesIn rfl rfl rfl (by decide +kernel) ⟨Nat.le_of_ble_eq_true rfl, Nat.le_of_ble_eq_true rfl⟩) hK hN (hZ.kept hS) hP hD hS hA [1] [0] rfl rfl (by decide) (by decide) (by decide) (va_recv hK hP (ci := 8) (q0 := 1) rfl rfl) rfl hl.1 rfl (Nat.le_of_ble_eq_true rfl) dX8_haste_77 ⟨Nat.le_of_ble_eq_true rfl, Nat.le_of_ble_eq_true rfl⟩ (fun r_126 u_127 H locs hr_126 hP hD hS => ?_)
                            replace hP : va_P D vwCl [(mrf, .inl (cI, 8, .inl (fun _ => 0))), (m0, .inr (8, (.int 0 :: .int 20 :: .int 0 :: .int 0 :: .int 0 :: .int 60 :: .int 0 :: .int 3 :: .int 1 :: .int (-1) :: .ref mrf :: .ref mki :: .ref mpa :: .ref mta :: .ref mla :: .ref msl :: .ref mco :: .ref mhe :: .ref mso :: .ref msi :: .ref msh :: .ref mce :: .ref mca :: .ref mwo :: .ref mnu :: .ref mte :: .int 0 :: .int 0 :: .int 0 :: .int 0 :: .int 0 :: .ref mwa :: .ref mke :: .ref mma :: .ref mth :: .ref mtr :: .int 0 :: .int 0 :: [])))] H := hP
                            replace hD : va_D _ [(mrf, .inl (cI, 8, .inl (fun _ => 0))), (m0, .inr (8, (.int 0 :: .int 20 :: .int 0 :: .int 0 :: .int 0 :: .int 60 :: .int 0 :: .int 3 :: .int 1 :: .int (-1) :: .ref mrf :: .ref mki :: .ref mpa :: .ref mta :: .ref mla :: .ref msl :: .ref mco :: .ref mhe :: .ref mso :: .ref msi :: .ref msh :: .ref mce :: .ref mca :: .ref mwo :: .ref mnu :: .ref mte :: .int 0 :: .int 0 :: .int 0 :: .int 0 :: .int 0 :: .ref mwa :: .ref mke :: .ref mma :: .ref mth :: .ref mtr :: .int 0 :: .int 0 :: [])))] := hD
                            obtain rfl := hr_126
                            refine lv_istore (lv' := [(6, .int 144), (5, .int 3), (4, .int 144), (3, .int 0), (0, .ref m0), (1, .int 2), (2, .int w)]) hx hb dX8_haste_80 hl (by decide) rfl (fun ls hl => ?_)
                            refine lv_iload hx hb dX8_haste_82 (lv_at hl 0 rfl) ?_
                            refine lv_iload hx hb dX8_haste_84 (lv_at hl 2 rfl) ?_
                            refine lv_icmp_gt (tgt := 92) hx hb dX8_haste_86 (by decide) (fun c_128 => ?_) (fun c_128 => ?_)
                            · exact absurd c_128 (by decide)
                            · refine lv_goto (tgt := 99) hx hb dX8_haste_89 (by decide) ?_
                              refine lv_iinc (v := 4) (lv' := [(5, .int 4), (6, .int 144), (4, .int 144), (3, .int 0), (0, .ref m0), (1, .int 2), (2, .int w)]) hx hb dX8_haste_99 hl (k := 1) rfl (by decide) (by decide) rfl (fun ls hl => ?_)
                              refine lv_goto (tgt := 66) hx hb dX8_haste_102 (by decide) ?_
                              refine lv_iload hx hb dX8_haste_66 (lv_at hl 0 rfl) ?_
                              refine lv_bipush (v := 10) hx hb dX8_haste_68 (by decide) ?_
                              refine lv_icmp_ge (tgt := 105) hx hb dX8_haste_70 (by decide) (fun c_129 => ?_) (fun c_129 => ?_)
                              · exact absurd c_129 (by decide)
                              · refine lv_aload_n hx hb dX8_haste_73 rfl (lv_at hl 4 rfl) ?_
                                refine lv_iload_n hx hb dX8_haste_74 rfl (lv_at hl 5 rfl) ?_
                                refine lv_iload hx hb dX8_haste_75 (lv_at hl 0 rfl) ?_
                                skip
                                refine zw_V (As := [.int 2, .int 4]) (rest := []) (wr := [(mrf, .inl (cI, 8, .inl (fun _ => 0)))]) ⟨hx, hb, hml, hown, hts⟩ (c_M_casesIn_2 l D cI cJ cZ cP cS m0 mrf mki mpa mta mla msl mco mhe mso msi msh mce mca mwo mnu mte mwa mke mma mth mtr (4)  H.size) (cwV 2 hts gX8_haste_X8_casesIn rfl rfl rfl (by decide +kernel) ⟨Nat.le_of_ble_eq_true rfl, Nat.le_of_ble_eq_true rfl⟩) hK hN (hZ.kept hS) hP hD hS hA [1] [0] rfl rfl (by decide) (by decide) (by decide) (va_recv hK hP (ci := 8) (q0 := 1) rfl rfl) rfl hl.1 rfl (Nat.le_of_ble_eq_true rfl) dX8_haste_77 ⟨Nat.le_of_ble_eq_true rfl, Nat.le_of_ble_eq_true rfl⟩ (fun r_130 u_131 H locs hr_130 hP hD hS => ?_)
                                replace hP : va_P D vwCl [(mrf, .inl (cI, 8, .inl (fun _ => 0))), (m0, .inr (8, (.int 0 :: .int 20 :: .int 0 :: .int 0 :: .int 0 :: .int 60 :: .int 0 :: .int 3 :: .int 1 :: .int (-1) :: .ref mrf :: .ref mki :: .ref mpa :: .ref mta :: .ref mla :: .ref msl :: .ref mco :: .ref mhe :: .ref mso :: .ref msi :: .ref msh :: .ref mce :: .ref mca :: .ref mwo :: .ref mnu :: .ref mte :: .int 0 :: .int 0 :: .int 0 :: .int 0 :: .int 0 :: .ref mwa :: .ref mke :: .ref mma :: .ref mth :: .ref mtr :: .int 0 :: .int 0 :: [])))] H := hP
                                replace hD : va_D _ [(mrf, .inl (cI, 8, .inl (fun _ => 0))), (m0, .inr (8, (.int 0 :: .int 20 :: .int 0 :: .int 0 :: .int 0 :: .int 60 :: .int 0 :: .int 3 :: .int 1 :: .int (-1) :: .ref mrf :: .ref mki :: .ref mpa :: .ref mta :: .ref mla :: .ref msl :: .ref mco :: .ref mhe :: .ref mso :: .ref msi :: .ref msh :: .ref mce :: .ref mca :: .ref mwo :: .ref mnu :: .ref mte :: .int 0 :: .int 0 :: .int 0 :: .int 0 :: .int 0 :: .ref mwa :: .ref mke :: .ref mma :: .ref mth :: .ref mtr :: .int 0 :: .int 0 :: [])))] := hD
                                obtain rfl := hr_130
                                refine lv_istore (lv' := [(6, .int 144), (5, .int 4), (4, .int 144), (3, .int 0), (0, .ref m0), (1, .int 2), (2, .int w)]) hx hb dX8_haste_80 hl (by decide) rfl (fun ls hl => ?_)
                                refine lv_iload hx hb dX8_haste_82 (lv_at hl 0 rfl) ?_
                                refine lv_iload hx hb dX8_haste_84 (lv_at hl 2 rfl) ?_
                                refine lv_icmp_gt (tgt := 92) hx hb dX8_haste_86 (by decide) (fun c_132 => ?_) (fun c_132 => ?_)
                                · exact absurd c_132 (by decide)
                                · refine lv_goto (tgt := 99) hx hb dX8_haste_89 (by decide) ?_
                                  refine lv_iinc (v := 5) (lv' := [(5, .int 5), (6, .int 144), (4, .int 144), (3, .int 0), (0, .ref m0), (1, .int 2), (2, .int w)]) hx hb dX8_haste_99 hl (k := 1) rfl (by decide) (by decide) rfl (fun ls hl => ?_)
                                  refine lv_goto (tgt := 66) hx hb dX8_haste_102 (by decide) ?_
                                  refine lv_iload hx hb dX8_haste_66 (lv_at hl 0 rfl) ?_
                                  refine lv_bipush (v := 10) hx hb dX8_haste_68 (by decide) ?_
                                  refine lv_icmp_ge (tgt := 105) hx hb dX8_haste_70 (by decide) (fun c_133 => ?_) (fun c_133 => ?_)
                                  · exact absurd c_133 (by decide)
                                  · refine lv_aload_n hx hb dX8_haste_73 rfl (lv_at hl 4 rfl) ?_
                                    refine lv_iload_n hx hb dX8_haste_74 rfl (lv_at hl 5 rfl) ?_
                                    refine lv_iload hx hb dX8_haste_75 (lv_at hl 0 rfl) ?_
                                    skip
                                    refine zw_V (As := [.int 2, .int 5]) (rest := []) (wr := [(mrf, .inl (cI, 8, .inl (fun _ => 0)))]) ⟨hx, hb, hml, hown, hts⟩ (c_M_casesIn_2 l D cI cJ cZ cP cS m0 mrf mki mpa mta mla msl mco mhe mso msi msh mce mca mwo mnu mte mwa mke mma mth mtr (5)  H.size) (cwV 2 hts gX8_haste_X8_casesIn rfl rfl rfl (by decide +kernel) ⟨Nat.le_of_ble_eq_true rfl, Nat.le_of_ble_eq_true rfl⟩) hK hN (hZ.kept hS) hP hD hS hA [1] [0] rfl rfl (by decide) (by decide) (by decide) (va_recv hK hP (ci := 8) (q0 := 1) rfl rfl) rfl hl.1 rfl (Nat.le_of_ble_eq_true rfl) dX8_haste_77 ⟨Nat.le_of_ble_eq_true rfl, Nat.le_of_ble_eq_true rfl⟩ (fun r_134 u_135 H locs hr_134 hP hD hS => ?_)
                                    replace hP : va_P D vwCl [(mrf, .inl (cI, 8, .inl (fun _ => 0))), (m0, .inr (8, (.int 0 :: .int 20 :: .int 0 :: .int 0 :: .int 0 :: .int 60 :: .int 0 :: .int 3 :: .int 1 :: .int (-1) :: .ref mrf :: .ref mki :: .ref mpa :: .ref mta :: .ref mla :: .ref msl :: .ref mco :: .ref mhe :: .ref mso :: .ref msi :: .ref msh :: .ref mce :: .ref mca :: .ref mwo :: .ref mnu :: .ref mte :: .int 0 :: .int 0 :: .int 0 :: .int 0 :: .int 0 :: .ref mwa :: .ref mke :: .ref mma :: .ref mth :: .ref mtr :: .int 0 :: .int 0 :: [])))] H := hP
                                    replace hD : va_D _ [(mrf, .inl (cI, 8, .inl (fun _ => 0))), (m0, .inr (8, (.int 0 :: .int 20 :: .int 0 :: .int 0 :: .int 0 :: .int 60 :: .int 0 :: .int 3 :: .int 1 :: .int (-1) :: .ref mrf :: .ref mki :: .ref mpa :: .ref mta :: .ref mla :: .ref msl :: .ref mco :: .ref mhe :: .ref mso :: .ref msi :: .ref msh :: .ref mce :: .ref mca :: .ref mwo :: .ref mnu :: .ref mte :: .int 0 :: .int 0 :: .int 0 :: .int 0 :: .int 0 :: .ref mwa :: .ref mke :: .ref mma :: .ref mth :: .ref mtr :: .int 0 :: .int 0 :: [])))] := hD
                                    obtain rfl := hr_134
                                    refine lv_istore (lv' := [(6, .int 144), (5, .int 5), (4, .int 144), (3, .int 0), (0, .ref m0), (1, .int 2), (2, .int w)]) hx hb dX8_haste_80 hl (by decide) rfl (fun ls hl => ?_)
                                    refine lv_iload hx hb dX8_haste_82 (lv_at hl 0 rfl) ?_
                                    refine lv_iload hx hb dX8_haste_84 (lv_at hl 2 rfl) ?_
                                    refine lv_icmp_gt (tgt := 92) hx hb dX8_haste_86 (by decide) (fun c_136 => ?_) (fun c_136 => ?_)
                                    · exact absurd c_136 (by decide)
                                    · refine lv_goto (tgt := 99) hx hb dX8_haste_89 (by decide) ?_
                                      refine lv_iinc (v := 6) (lv' := [(5, .int 6), (6, .int 144), (4, .int 144), (3, .int 0), (0, .ref m0), (1, .int 2), (2, .int w)]) hx hb dX8_haste_99 hl (k := 1) rfl (by decide) (by decide) rfl (fun ls hl => ?_)
                                      refine lv_goto (tgt := 66) hx hb dX8_haste_102 (by decide) ?_
                                      refine lv_iload hx hb dX8_haste_66 (lv_at hl 0 rfl) ?_
                                      refine lv_bipush (v := 10) hx hb dX8_haste_68 (by decide) ?_
                                      refine lv_icmp_ge (tgt := 105) hx hb dX8_haste_70 (by decide) (fun c_137 => ?_) (fun c_137 => ?_)
                                      · exact absurd c_137 (by decide)
                                      · refine lv_aload_n hx hb dX8_haste_73 rfl (lv_at hl 4 rfl) ?_
                                        refine lv_iload_n hx hb dX8_haste_74 rfl (lv_at hl 5 rfl) ?_
                                        refine lv_iload hx hb dX8_haste_75 (lv_at hl 0 rfl) ?_
                                        skip
                                        refine zw_V (As := [.int 2, .int 6]) (rest := []) (wr := [(mrf, .inl (cI, 8, .inl (fun _ => 0)))]) ⟨hx, hb, hml, hown, hts⟩ (c_M_casesIn_2 l D cI cJ cZ cP cS m0 mrf mki mpa mta mla msl mco mhe mso msi msh mce mca mwo mnu mte mwa mke mma mth mtr (6)  H.size) (cwV 2 hts gX8_haste_X8_casesIn rfl rfl rfl (by decide +kernel) ⟨Nat.le_of_ble_eq_true rfl, Nat.le_of_ble_eq_true rfl⟩) hK hN (hZ.kept hS) hP hD hS hA [1] [0] rfl rfl (by decide) (by decide) (by decide) (va_recv hK hP (ci := 8) (q0 := 1) rfl rfl) rfl hl.1 rfl (Nat.le_of_ble_eq_true rfl) dX8_haste_77 ⟨Nat.le_of_ble_eq_true rfl, Nat.le_of_ble_eq_true rfl⟩ (fun r_138 u_139 H locs hr_138 hP hD hS => ?_)
                                        replace hP : va_P D vwCl [(mrf, .inl (cI, 8, .inl (fun _ => 0))), (m0, .inr (8, (.int 0 :: .int 20 :: .int 0 :: .int 0 :: .int 0 :: .int 60 :: .int 0 :: .int 3 :: .int 1 :: .int (-1) :: .ref mrf :: .ref mki :: .ref mpa :: .ref mta :: .ref mla :: .ref msl :: .ref mco :: .ref mhe :: .ref mso :: .ref msi :: .ref msh :: .ref mce :: .ref mca :: .ref mwo :: .ref mnu :: .ref mte :: .int 0 :: .int 0 :: .int 0 :: .int 0 :: .int 0 :: .ref mwa :: .ref mke :: .ref mma :: .ref mth :: .ref mtr :: .int 0 :: .int 0 :: [])))] H := hP
                                        replace hD : va_D _ [(mrf, .inl (cI, 8, .inl (fun _ => 0))), (m0, .inr (8, (.int 0 :: .int 20 :: .int 0 :: .int 0 :: .int 0 :: .int 60 :: .int 0 :: .int 3 :: .int 1 :: .int (-1) :: .ref mrf :: .ref mki :: .ref mpa :: .ref mta :: .ref mla :: .ref msl :: .ref mco :: .ref mhe :: .ref mso :: .ref msi :: .ref msh :: .ref mce :: .ref mca :: .ref mwo :: .ref mnu :: .ref mte :: .int 0 :: .int 0 :: .int 0 :: .int 0 :: .int 0 :: .ref mwa :: .ref mke :: .ref mma :: .ref mth :: .ref mtr :: .int 0 :: .int 0 :: [])))] := hD
                                        obtain rfl := hr_138
                                        refine lv_istore (lv' := [(6, .int 144), (5, .int 6), (4, .int 144), (3, .int 0), (0, .ref m0), (1, .int 2), (2, .int w)]) hx hb dX8_haste_80 hl (by decide) rfl (fun ls hl => ?_)
                                        refine lv_iload hx hb dX8_haste_82 (lv_at hl 0 rfl) ?_
                                        refine lv_iload hx hb dX8_haste_84 (lv_at hl 2 rfl) ?_
                                        refine lv_icmp_gt (tgt := 92) hx hb dX8_haste_86 (by decide) (fun c_140 => ?_) (fun c_140 => ?_)
                                        · exact absurd c_140 (by decide)
                                        · refine lv_goto (tgt := 99) hx hb dX8_haste_89 (by decide) ?_
                                          refine lv_iinc (v := 7) (lv' := [(5, .int 7), (6, .int 144), (4, .int 144), (3, .int 0), (0, .ref m0), (1, .int 2), (2, .int w)]) hx hb dX8_haste_99 hl (k := 1) rfl (by decide) (by decide) rfl (fun ls hl => ?_)
                                          refine lv_goto (tgt := 66) hx hb dX8_haste_102 (by decide) ?_
                                          refine lv_iload hx hb dX8_haste_66 (lv_at hl 0 rfl) ?_
                                          refine lv_bipush (v := 10) hx hb dX8_haste_68 (by decide) ?_
                                          refine lv_icmp_ge (tgt := 105) hx hb dX8_haste_70 (by decide) (fun c_141 => ?_) (fun c_141 => ?_)
                                          · exact absurd c_141 (by decide)
                                          · refine lv_aload_n hx hb dX8_haste_73 rfl (lv_at hl 4 rfl) ?_
                                            refine lv_iload_n hx hb dX8_haste_74 rfl (lv_at hl 5 rfl) ?_
                                            refine lv_iload hx hb dX8_haste_75 (lv_at hl 0 rfl) ?_
                                            skip
                                            refine zw_V (As := [.int 2, .int 7]) (rest := []) (wr := [(mrf, .inl (cI, 8, .inl (fun _ => 0)))]) ⟨hx, hb, hml, hown, hts⟩ (c_M_casesIn_2 l D cI cJ cZ cP cS m0 mrf mki mpa mta mla msl mco mhe mso msi msh mce mca mwo mnu mte mwa mke mma mth mtr (7)  H.size) (cwV 2 hts gX8_haste_X8_casesIn rfl rfl rfl (by decide +kernel) ⟨Nat.le_of_ble_eq_true rfl, Nat.le_of_ble_eq_true rfl⟩) hK hN (hZ.kept hS) hP hD hS hA [1] [0] rfl rfl (by decide) (by decide) (by decide) (va_recv hK hP (ci := 8) (q0 := 1) rfl rfl) rfl hl.1 rfl (Nat.le_of_ble_eq_true rfl) dX8_haste_77 ⟨Nat.le_of_ble_eq_true rfl, Nat.le_of_ble_eq_true rfl⟩ (fun r_142 u_143 H locs hr_142 hP hD hS => ?_)
                                            replace hP : va_P D vwCl [(mrf, .inl (cI, 8, .inl (fun _ => 0))), (m0, .inr (8, (.int 0 :: .int 20 :: .int 0 :: .int 0 :: .int 0 :: .int 60 :: .int 0 :: .int 3 :: .int 1 :: .int (-1) :: .ref mrf :: .ref mki :: .ref mpa :: .ref mta :: .ref mla :: .ref msl :: .ref mco :: .ref mhe :: .ref mso :: .ref msi :: .ref msh :: .ref mce :: .ref mca :: .ref mwo :: .ref mnu :: .ref mte :: .int 0 :: .int 0 :: .int 0 :: .int 0 :: .int 0 :: .ref mwa :: .ref mke :: .ref mma :: .ref mth :: .ref mtr :: .int 0 :: .int 0 :: [])))] H := hP
                                            replace hD : va_D _ [(mrf, .inl (cI, 8, .inl (fun _ => 0))), (m0, .inr (8, (.int 0 :: .int 20 :: .int 0 :: .int 0 :: .int 0 :: .int 60 :: .int 0 :: .int 3 :: .int 1 :: .int (-1) :: .ref mrf :: .ref mki :: .ref mpa :: .ref mta :: .ref mla :: .ref msl :: .ref mco :: .ref mhe :: .ref mso :: .ref msi :: .ref msh :: .ref mce :: .ref mca :: .ref mwo :: .ref mnu :: .ref mte :: .int 0 :: .int 0 :: .int 0 :: .int 0 :: .int 0 :: .ref mwa :: .ref mke :: .ref mma :: .ref mth :: .ref mtr :: .int 0 :: .int 0 :: [])))] := hD
                                            obtain rfl := hr_142
                                            refine lv_istore (lv' := [(6, .int 144), (5, .int 7), (4, .int 144), (3, .int 0), (0, .ref m0), (1, .int 2), (2, .int w)]) hx hb dX8_haste_80 hl (by decide) rfl (fun ls hl => ?_)
                                            refine lv_iload hx hb dX8_haste_82 (lv_at hl 0 rfl) ?_
                                            refine lv_iload hx hb dX8_haste_84 (lv_at hl 2 rfl) ?_
                                            refine lv_icmp_gt (tgt := 92) hx hb dX8_haste_86 (by decide) (fun c_144 => ?_) (fun c_144 => ?_)
                                            · exact absurd c_144 (by decide)
                                            · refine lv_goto (tgt := 99) hx hb dX8_haste_89 (by decide) ?_
                                              refine lv_iinc (v := 8) (lv' := [(5, .int 8), (6, .int 144), (4, .int 144), (3, .int 0), (0, .ref m0), (1, .int 2), (2, .int w)]) hx hb dX8_haste_99 hl (k := 1) rfl (by decide) (by decide) rfl (fun ls hl => ?_)
                                              refine lv_goto (tgt := 66) hx hb dX8_haste_102 (by decide) ?_
                                              refine lv_iload hx hb dX8_haste_66 (lv_at hl 0 rfl) ?_
                                              refine lv_bipush (v := 10) hx hb dX8_haste_68 (by decide) ?_
                                              refine lv_icmp_ge (tgt := 105) hx hb dX8_haste_70 (by decide) (fun c_145 => ?_) (fun c_145 => ?_)
                                              · exact absurd c_145 (by decide)
                                              · refine lv_aload_n hx hb dX8_haste_73 rfl (lv_at hl 4 rfl) ?_
                                                refine lv_iload_n hx hb dX8_haste_74 rfl (lv_at hl 5 rfl) ?_
                                                refine lv_iload hx hb dX8_haste_75 (lv_at hl 0 rfl) ?_
                                                skip
                                                refine zw_V (As := [.int 2, .int 8]) (rest := []) (wr := [(mrf, .inl (cI, 8, .inl (fun _ => 0)))]) ⟨hx, hb, hml, hown, hts⟩ (c_M_casesIn_2 l D cI cJ cZ cP cS m0 mrf mki mpa mta mla msl mco mhe mso msi msh mce mca mwo mnu mte mwa mke mma mth mtr (8)  H.size) (cwV 2 hts gX8_haste_X8_casesIn rfl rfl rfl (by decide +kernel) ⟨Nat.le_of_ble_eq_true rfl, Nat.le_of_ble_eq_true rfl⟩) hK hN (hZ.kept hS) hP hD hS hA [1] [0] rfl rfl (by decide) (by decide) (by decide) (va_recv hK hP (ci := 8) (q0 := 1) rfl rfl) rfl hl.1 rfl (Nat.le_of_ble_eq_true rfl) dX8_haste_77 ⟨Nat.le_of_ble_eq_true rfl, Nat.le_of_ble_eq_true rfl⟩ (fun r_146 u_147 H locs hr_146 hP hD hS => ?_)
                                                replace hP : va_P D vwCl [(mrf, .inl (cI, 8, .inl (fun _ => 0))), (m0, .inr (8, (.int 0 :: .int 20 :: .int 0 :: .int 0 :: .int 0 :: .int 60 :: .int 0 :: .int 3 :: .int 1 :: .int (-1) :: .ref mrf :: .ref mki :: .ref mpa :: .ref mta :: .ref mla :: .ref msl :: .ref mco :: .ref mhe :: .ref mso :: .ref msi :: .ref msh :: .ref mce :: .ref mca :: .ref mwo :: .ref mnu :: .ref mte :: .int 0 :: .int 0 :: .int 0 :: .int 0 :: .int 0 :: .ref mwa :: .ref mke :: .ref mma :: .ref mth :: .ref mtr :: .int 0 :: .int 0 :: [])))] H := hP
                                                replace hD : va_D _ [(mrf, .inl (cI, 8, .inl (fun _ => 0))), (m0, .inr (8, (.int 0 :: .int 20 :: .int 0 :: .int 0 :: .int 0 :: .int 60 :: .int 0 :: .int 3 :: .int 1 :: .int (-1) :: .ref mrf :: .ref mki :: .ref mpa :: .ref mta :: .ref mla :: .ref msl :: .ref mco :: .ref mhe :: .ref mso :: .ref msi :: .ref msh :: .ref mce :: .ref mca :: .ref mwo :: .ref mnu :: .ref mte :: .int 0 :: .int 0 :: .int 0 :: .int 0 :: .int 0 :: .ref mwa :: .ref mke :: .ref mma :: .ref mth :: .ref mtr :: .int 0 :: .int 0 :: [])))] := hD
                                                obtain rfl := hr_146
                                                refine lv_istore (lv' := [(6, .int 144), (5, .int 8), (4, .int 144), (3, .int 0), (0, .ref m0), (1, .int 2), (2, .int w)]) hx hb dX8_haste_80 hl (by decide) rfl (fun ls hl => ?_)
                                                refine lv_iload hx hb dX8_haste_82 (lv_at hl 0 rfl) ?_
                                                refine lv_iload hx hb dX8_haste_84 (lv_at hl 2 rfl) ?_
                                                refine lv_icmp_gt (tgt := 92) hx hb dX8_haste_86 (by decide) (fun c_148 => ?_) (fun c_148 => ?_)
                                                · exact absurd c_148 (by decide)
                                                · refine lv_goto (tgt := 99) hx hb dX8_haste_89 (by decide) ?_
                                                  refine lv_iinc (v := 9) (lv' := [(5, .int 9), (6, .int 144), (4, .int 144), (3, .int 0), (0, .ref m0), (1, .int 2), (2, .int w)]) hx hb dX8_haste_99 hl (k := 1) rfl (by decide) (by decide) rfl (fun ls hl => ?_)
                                                  refine lv_goto (tgt := 66) hx hb dX8_haste_102 (by decide) ?_
                                                  refine lv_iload hx hb dX8_haste_66 (lv_at hl 0 rfl) ?_
                                                  refine lv_bipush (v := 10) hx hb dX8_haste_68 (by decide) ?_
                                                  refine lv_icmp_ge (tgt := 105) hx hb dX8_haste_70 (by decide) (fun c_149 => ?_) (fun c_149 => ?_)
                                                  · exact absurd c_149 (by decide)
                                                  · refine lv_aload_n hx hb dX8_haste_73 rfl (lv_at hl 4 rfl) ?_
                                                    refine lv_iload_n hx hb dX8_haste_74 rfl (lv_at hl 5 rfl) ?_
                                                    refine lv_iload hx hb dX8_haste_75 (lv_at hl 0 rfl) ?_
                                                    skip
                                                    refine zw_V (As := [.int 2, .int 9]) (rest := []) (wr := [(mrf, .inl (cI, 8, .inl (fun _ => 0)))]) ⟨hx, hb, hml, hown, hts⟩ (c_M_casesIn_2 l D cI cJ cZ cP cS m0 mrf mki mpa mta mla msl mco mhe mso msi msh mce mca mwo mnu mte mwa mke mma mth mtr (9)  H.size) (cwV 2 hts gX8_haste_X8_casesIn rfl rfl rfl (by decide +kernel) ⟨Nat.le_of_ble_eq_true rfl, Nat.le_of_ble_eq_true rfl⟩) hK hN (hZ.kept hS) hP hD hS hA [1] [0] rfl rfl (by decide) (by decide) (by decide) (va_recv hK hP (ci := 8) (q0 := 1) rfl rfl) rfl hl.1 rfl (Nat.le_of_ble_eq_true rfl) dX8_haste_77 ⟨Nat.le_of_ble_eq_true rfl, Nat.le_of_ble_eq_true rfl⟩ (fun r_150 u_151 H locs hr_150 hP hD hS => ?_)
                                                    replace hP : va_P D vwCl [(mrf, .inl (cI, 8, .inl (fun _ => 0))), (m0, .inr (8, (.int 0 :: .int 20 :: .int 0 :: .int 0 :: .int 0 :: .int 60 :: .int 0 :: .int 3 :: .int 1 :: .int (-1) :: .ref mrf :: .ref mki :: .ref mpa :: .ref mta :: .ref mla :: .ref msl :: .ref mco :: .ref mhe :: .ref mso :: .ref msi :: .ref msh :: .ref mce :: .ref mca :: .ref mwo :: .ref mnu :: .ref mte :: .int 0 :: .int 0 :: .int 0 :: .int 0 :: .int 0 :: .ref mwa :: .ref mke :: .ref mma :: .ref mth :: .ref mtr :: .int 0 :: .int 0 :: [])))] H := hP
                                                    replace hD : va_D _ [(mrf, .inl (cI, 8, .inl (fun _ => 0))), (m0, .inr (8, (.int 0 :: .int 20 :: .int 0 :: .int 0 :: .int 0 :: .int 60 :: .int 0 :: .int 3 :: .int 1 :: .int (-1) :: .ref mrf :: .ref mki :: .ref mpa :: .ref mta :: .ref mla :: .ref msl :: .ref mco :: .ref mhe :: .ref mso :: .ref msi :: .ref msh :: .ref mce :: .ref mca :: .ref mwo :: .ref mnu :: .ref mte :: .int 0 :: .int 0 :: .int 0 :: .int 0 :: .int 0 :: .ref mwa :: .ref mke :: .ref mma :: .ref mth :: .ref mtr :: .int 0 :: .int 0 :: [])))] := hD
                                                    obtain rfl := hr_150
                                                    refine lv_istore (lv' := [(6, .int 144), (5, .int 9), (4, .int 144), (3, .int 0), (0, .ref m0), (1, .int 2), (2, .int w)]) hx hb dX8_haste_80 hl (by decide) rfl (fun ls hl => ?_)
                                                    refine lv_iload hx hb dX8_haste_82 (lv_at hl 0 rfl) ?_
                                                    refine lv_iload hx hb dX8_haste_84 (lv_at hl 2 rfl) ?_
                                                    refine lv_icmp_gt (tgt := 92) hx hb dX8_haste_86 (by decide) (fun c_152 => ?_) (fun c_152 => ?_)
                                                    · exact absurd c_152 (by decide)
                                                    · refine lv_goto (tgt := 99) hx hb dX8_haste_89 (by decide) ?_
                                                      refine lv_iinc (v := 10) (lv' := [(5, .int 10), (6, .int 144), (4, .int 144), (3, .int 0), (0, .ref m0), (1, .int 2), (2, .int w)]) hx hb dX8_haste_99 hl (k := 1) rfl (by decide) (by decide) rfl (fun ls hl => ?_)
                                                      refine lv_goto (tgt := 66) hx hb dX8_haste_102 (by decide) ?_
                                                      refine lv_iload hx hb dX8_haste_66 (lv_at hl 0 rfl) ?_
                                                      refine lv_bipush (v := 10) hx hb dX8_haste_68 (by decide) ?_
                                                      refine lv_icmp_ge (tgt := 105) hx hb dX8_haste_70 (by decide) (fun c_153 => ?_) (fun c_153 => ?_)
                                                      · refine lv_iload_n hx hb dX8_haste_105 rfl (lv_at hl 3 rfl) ?_
                                                        exact W.iret (v := 0) hx hb hr (fun t ht hW => ⟨⟨0, (), rfl, Or.inr (Or.inr (Or.inr (Or.inr (Or.inr (Or.inr (Or.inr (Or.inl (⟨rfl, (by first | omega | decide), (by first | omega | decide), (by first | omega | decide), (by first | omega | decide), (by first | omega | decide), (by first | omega | decide)⟩)))))))), zP_nil, zD_nil⟩, hS.F ht⟩) hS.2.2 dX8_haste_106
                                                      · exact absurd c_153 (by decide)
                · exact absurd c_116 (by decide)
            · have fc_112 : w.toInt = 1 := zf_eq c_112 rfl (by decide)
              refine lv_aload_n hx hb dX8_haste_36 rfl (lv_at hl 0 rfl) ?_
              refine lv_iload_n hx hb dX8_haste_37 rfl (lv_at hl 1 rfl) ?_
              refine lv_bipush (v := 9) hx hb dX8_haste_38 (by decide) ?_
              skip
              refine zw_V (As := [.int 2, .int 9]) (rest := []) (wr := [(mrf, .inl (cI, 8, .inl (fun _ => 0)))]) ⟨hx, hb, hml, hown, hts⟩ (c_M_casesIn_2 l D cI cJ cZ cP cS m0 mrf mki mpa mta mla msl mco mhe mso msi msh mce mca mwo mnu mte mwa mke mma mth mtr (9)  H.size) (cwV 2 hts gX8_haste_X8_casesIn rfl rfl rfl (by decide +kernel) ⟨Nat.le_of_ble_eq_true rfl, Nat.le_of_ble_eq_true rfl⟩) hK hN (hZ.kept hS) hP hD hS hA [0] [1] rfl rfl (by decide) (by decide) (by decide) (va_recv hK hP (ci := 8) (q0 := 0) rfl rfl) rfl hl.1 rfl (Nat.le_of_ble_eq_true rfl) dX8_haste_40 ⟨Nat.le_of_ble_eq_true rfl, Nat.le_of_ble_eq_true rfl⟩ (fun r_154 u_155 H locs hr_154 hP hD hS => ?_)
              replace hP : va_P D vwCl [(mrf, .inl (cI, 8, .inl (fun _ => 0))), (m0, .inr (8, (.int 0 :: .int 20 :: .int 0 :: .int 0 :: .int 0 :: .int 60 :: .int 0 :: .int 3 :: .int 1 :: .int (-1) :: .ref mrf :: .ref mki :: .ref mpa :: .ref mta :: .ref mla :: .ref msl :: .ref mco :: .ref mhe :: .ref mso :: .ref msi :: .ref msh :: .ref mce :: .ref mca :: .ref mwo :: .ref mnu :: .ref mte :: .int 0 :: .int 0 :: .int 0 :: .int 0 :: .int 0 :: .ref mwa :: .ref mke :: .ref mma :: .ref mth :: .ref mtr :: .int 0 :: .int 0 :: [])))] H := hP
              replace hD : va_D _ [(mrf, .inl (cI, 8, .inl (fun _ => 0))), (m0, .inr (8, (.int 0 :: .int 20 :: .int 0 :: .int 0 :: .int 0 :: .int 60 :: .int 0 :: .int 3 :: .int 1 :: .int (-1) :: .ref mrf :: .ref mki :: .ref mpa :: .ref mta :: .ref mla :: .ref msl :: .ref mco :: .ref mhe :: .ref mso :: .ref msi :: .ref msh :: .ref mce :: .ref mca :: .ref mwo :: .ref mnu :: .ref mte :: .int 0 :: .int 0 :: .int 0 :: .int 0 :: .int 0 :: .ref mwa :: .ref mke :: .ref mma :: .ref mth :: .ref mtr :: .int 0 :: .int 0 :: [])))] := hD
              obtain rfl := hr_154
              refine lv_aload_n hx hb dX8_haste_43 rfl (lv_at hl 0 rfl) ?_
              refine lv_iload_n hx hb dX8_haste_44 rfl (lv_at hl 1 rfl) ?_
              refine lv_iconst (v := 0) hx hb dX8_haste_45 (by decide) ?_
              skip
              refine zw_V (As := [.int 2, .int 0]) (rest := [.int 144]) (wr := [(mrf, .inl (cI, 8, .inl (fun _ => 0)))]) ⟨hx, hb, hml, hown, hts⟩ (c_M_casesIn_2 l D cI cJ cZ cP cS m0 mrf mki mpa mta mla msl mco mhe mso msi msh mce mca mwo mnu mte mwa mke mma mth mtr (0)  H.size) (cwV 2 hts gX8_haste_X8_casesIn rfl rfl rfl (by decide +kernel) ⟨Nat.le_of_ble_eq_true rfl, Nat.le_of_ble_eq_true rfl⟩) hK hN (hZ.kept hS) hP hD hS hA [1] [0] rfl rfl (by decide) (by decide) (by decide) (va_recv hK hP (ci := 8) (q0 := 1) rfl rfl) rfl hl.1 rfl (Nat.le_of_ble_eq_true rfl) dX8_haste_46 ⟨Nat.le_of_ble_eq_true rfl, Nat.le_of_ble_eq_true rfl⟩ (fun r_156 u_157 H locs hr_156 hP hD hS => ?_)
              replace hP : va_P D vwCl [(mrf, .inl (cI, 8, .inl (fun _ => 0))), (m0, .inr (8, (.int 0 :: .int 20 :: .int 0 :: .int 0 :: .int 0 :: .int 60 :: .int 0 :: .int 3 :: .int 1 :: .int (-1) :: .ref mrf :: .ref mki :: .ref mpa :: .ref mta :: .ref mla :: .ref msl :: .ref mco :: .ref mhe :: .ref mso :: .ref msi :: .ref msh :: .ref mce :: .ref mca :: .ref mwo :: .ref mnu :: .ref mte :: .int 0 :: .int 0 :: .int 0 :: .int 0 :: .int 0 :: .ref mwa :: .ref mke :: .ref mma :: .ref mth :: .ref mtr :: .int 0 :: .int 0 :: [])))] H := hP
              replace hD : va_D _ [(mrf, .inl (cI, 8, .inl (fun _ => 0))), (m0, .inr (8, (.int 0 :: .int 20 :: .int 0 :: .int 0 :: .int 0 :: .int 60 :: .int 0 :: .int 3 :: .int 1 :: .int (-1) :: .ref mrf :: .ref mki :: .ref mpa :: .ref mta :: .ref mla :: .ref msl :: .ref mco :: .ref mhe :: .ref mso :: .ref msi :: .ref msh :: .ref mce :: .ref mca :: .ref mwo :: .ref mnu :: .ref mte :: .int 0 :: .int 0 :: .int 0 :: .int 0 :: .int 0 :: .ref mwa :: .ref mke :: .ref mma :: .ref mth :: .ref mtr :: .int 0 :: .int 0 :: [])))] := hD
              obtain rfl := hr_156
              refine lv_icmp_ge (tgt := 56) hx hb dX8_haste_49 (by decide) (fun c_158 => ?_) (fun c_158 => ?_)
              · refine lv_iconst (v := 0) hx hb dX8_haste_56 (by decide) ?_
                exact W.iret (v := 0) hx hb hr (fun t ht hW => ⟨⟨0, (), rfl, Or.inr (Or.inr (Or.inr (Or.inr (Or.inr (Or.inr (Or.inr (Or.inr (Or.inl (⟨rfl, (by first | omega | decide), (by first | omega | decide), (by first | omega | decide), (by first | omega | decide), (by first | omega | decide), (by first | omega | decide)⟩))))))))), zP_nil, zD_nil⟩, hS.F ht⟩) hS.2.2 dX8_haste_57
              · exact absurd c_158 (by decide)
          · refine lv_iload_n hx hb dX8_haste_31 rfl (lv_at hl 2 rfl) ?_
            refine lv_iconst (v := 1) hx hb dX8_haste_32 (by decide) ?_
            refine lv_icmp_ne (tgt := 58) hx hb dX8_haste_33 (by decide) (fun c_159 => ?_) (fun c_159 => ?_)
            · have fc_159 : w.toInt ≠ 1 := zf_ne c_159 rfl (by decide)
              refine lv_iconst (v := 0) hx hb dX8_haste_58 (by decide) ?_
              refine lv_istore_n (lv' := [(3, .int 0), (0, .ref m0), (1, .int 3), (2, .int w)]) hx hb dX8_haste_59 rfl hl (by decide) rfl (fun ls hl => ?_)
              refine lv_iconst (v := (-1)) hx hb dX8_haste_60 (by decide) ?_
              refine lv_istore (lv' := [(4, .int (-1)), (3, .int 0), (0, .ref m0), (1, .int 3), (2, .int w)]) hx hb dX8_haste_61 hl (by decide) rfl (fun ls hl => ?_)
              refine lv_iconst (v := 0) hx hb dX8_haste_63 (by decide) ?_
              refine lv_istore (lv' := [(5, .int 0), (4, .int (-1)), (3, .int 0), (0, .ref m0), (1, .int 3), (2, .int w)]) hx hb dX8_haste_64 hl (by decide) rfl (fun ls hl => ?_)
              refine lv_iload hx hb dX8_haste_66 (lv_at hl 0 rfl) ?_
              refine lv_bipush (v := 10) hx hb dX8_haste_68 (by decide) ?_
              refine lv_icmp_ge (tgt := 105) hx hb dX8_haste_70 (by decide) (fun c_160 => ?_) (fun c_160 => ?_)
              · exact absurd c_160 (by decide)
              · refine lv_aload_n hx hb dX8_haste_73 rfl (lv_at hl 3 rfl) ?_
                refine lv_iload_n hx hb dX8_haste_74 rfl (lv_at hl 4 rfl) ?_
                refine lv_iload hx hb dX8_haste_75 (lv_at hl 0 rfl) ?_
                skip
                refine zw_V (As := [.int 3, .int 0]) (rest := []) (wr := [(mrf, .inl (cI, 8, .inl (fun _ => 0)))]) ⟨hx, hb, hml, hown, hts⟩ (c_M_casesIn_3 l D cI cJ cZ cP cS m0 mrf mki mpa mta mla msl mco mhe mso msi msh mce mca mwo mnu mte mwa mke mma mth mtr (0)  H.size) (cwV 2 hts gX8_haste_X8_casesIn rfl rfl rfl (by decide +kernel) ⟨Nat.le_of_ble_eq_true rfl, Nat.le_of_ble_eq_true rfl⟩) hK hN (hZ.kept hS) hP hD hS hA [0] [1] rfl rfl (by decide) (by decide) (by decide) (va_recv hK hP (ci := 8) (q0 := 0) rfl rfl) rfl hl.1 rfl (Nat.le_of_ble_eq_true rfl) dX8_haste_77 ⟨Nat.le_of_ble_eq_true rfl, Nat.le_of_ble_eq_true rfl⟩ (fun r_161 u_162 H locs hr_161 hP hD hS => ?_)
                replace hP : va_P D vwCl [(mrf, .inl (cI, 8, .inl (fun _ => 0))), (m0, .inr (8, (.int 0 :: .int 20 :: .int 0 :: .int 0 :: .int 0 :: .int 60 :: .int 0 :: .int 3 :: .int 1 :: .int (-1) :: .ref mrf :: .ref mki :: .ref mpa :: .ref mta :: .ref mla :: .ref msl :: .ref mco :: .ref mhe :: .ref mso :: .ref msi :: .ref msh :: .ref mce :: .ref mca :: .ref mwo :: .ref mnu :: .ref mte :: .int 0 :: .int 0 :: .int 0 :: .int 0 :: .int 0 :: .ref mwa :: .ref mke :: .ref mma :: .ref mth :: .ref mtr :: .int 0 :: .int 0 :: [])))] H := hP
                replace hD : va_D _ [(mrf, .inl (cI, 8, .inl (fun _ => 0))), (m0, .inr (8, (.int 0 :: .int 20 :: .int 0 :: .int 0 :: .int 0 :: .int 60 :: .int 0 :: .int 3 :: .int 1 :: .int (-1) :: .ref mrf :: .ref mki :: .ref mpa :: .ref mta :: .ref mla :: .ref msl :: .ref mco :: .ref mhe :: .ref mso :: .ref msi :: .ref msh :: .ref mce :: .ref mca :: .ref mwo :: .ref mnu :: .ref mte :: .int 0 :: .int 0 :: .int 0 :: .int 0 :: .int 0 :: .ref mwa :: .ref mke :: .ref mma :: .ref mth :: .ref mtr :: .int 0 :: .int 0 :: [])))] := hD
                obtain rfl := hr_161
                refine lv_istore (lv' := [(6, .int 1728), (5, .int 0), (4, .int (-1)), (3, .int 0), (0, .ref m0), (1, .int 3), (2, .int w)]) hx hb dX8_haste_80 hl (by decide) rfl (fun ls hl => ?_)
                refine lv_iload hx hb dX8_haste_82 (lv_at hl 0 rfl) ?_
                refine lv_iload hx hb dX8_haste_84 (lv_at hl 2 rfl) ?_
                refine lv_icmp_gt (tgt := 92) hx hb dX8_haste_86 (by decide) (fun c_163 => ?_) (fun c_163 => ?_)
                · refine lv_iload hx hb dX8_haste_92 (lv_at hl 1 rfl) ?_
                  refine lv_istore_n (lv' := [(3, .int 0), (6, .int 1728), (5, .int 0), (4, .int (-1)), (0, .ref m0), (1, .int 3), (2, .int w)]) hx hb dX8_haste_94 rfl hl (by decide) rfl (fun ls hl => ?_)
                  refine lv_iload hx hb dX8_haste_95 (lv_at hl 1 rfl) ?_
                  refine lv_istore (lv' := [(4, .int 1728), (3, .int 0), (6, .int 1728), (5, .int 0), (0, .ref m0), (1, .int 3), (2, .int w)]) hx hb dX8_haste_97 hl (by decide) rfl (fun ls hl => ?_)
                  refine lv_iinc (v := 1) (lv' := [(5, .int 1), (4, .int 1728), (3, .int 0), (6, .int 1728), (0, .ref m0), (1, .int 3), (2, .int w)]) hx hb dX8_haste_99 hl (k := 3) rfl (by decide) (by decide) rfl (fun ls hl => ?_)
                  refine lv_goto (tgt := 66) hx hb dX8_haste_102 (by decide) ?_
                  refine lv_iload hx hb dX8_haste_66 (lv_at hl 0 rfl) ?_
                  refine lv_bipush (v := 10) hx hb dX8_haste_68 (by decide) ?_
                  refine lv_icmp_ge (tgt := 105) hx hb dX8_haste_70 (by decide) (fun c_164 => ?_) (fun c_164 => ?_)
                  · exact absurd c_164 (by decide)
                  · refine lv_aload_n hx hb dX8_haste_73 rfl (lv_at hl 4 rfl) ?_
                    refine lv_iload_n hx hb dX8_haste_74 rfl (lv_at hl 5 rfl) ?_
                    refine lv_iload hx hb dX8_haste_75 (lv_at hl 0 rfl) ?_
                    skip
                    refine zw_V (As := [.int 3, .int 1]) (rest := []) (wr := [(mrf, .inl (cI, 8, .inl (fun _ => 0)))]) ⟨hx, hb, hml, hown, hts⟩ (c_M_casesIn_3 l D cI cJ cZ cP cS m0 mrf mki mpa mta mla msl mco mhe mso msi msh mce mca mwo mnu mte mwa mke mma mth mtr (1)  H.size) (cwV 2 hts gX8_haste_X8_casesIn rfl rfl rfl (by decide +kernel) ⟨Nat.le_of_ble_eq_true rfl, Nat.le_of_ble_eq_true rfl⟩) hK hN (hZ.kept hS) hP hD hS hA [1] [0] rfl rfl (by decide) (by decide) (by decide) (va_recv hK hP (ci := 8) (q0 := 1) rfl rfl) rfl hl.1 rfl (Nat.le_of_ble_eq_true rfl) dX8_haste_77 ⟨Nat.le_of_ble_eq_true rfl, Nat.le_of_ble_eq_true rfl⟩ (fun r_165 u_166 H locs hr_165 hP hD hS => ?_)
                    replace hP : va_P D vwCl [(mrf, .inl (cI, 8, .inl (fun _ => 0))), (m0, .inr (8, (.int 0 :: .int 20 :: .int 0 :: .int 0 :: .int 0 :: .int 60 :: .int 0 :: .int 3 :: .int 1 :: .int (-1) :: .ref mrf :: .ref mki :: .ref mpa :: .ref mta :: .ref mla :: .ref msl :: .ref mco :: .ref mhe :: .ref mso :: .ref msi :: .ref msh :: .ref mce :: .ref mca :: .ref mwo :: .ref mnu :: .ref mte :: .int 0 :: .int 0 :: .int 0 :: .int 0 :: .int 0 :: .ref mwa :: .ref mke :: .ref mma :: .ref mth :: .ref mtr :: .int 0 :: .int 0 :: [])))] H := hP
                    replace hD : va_D _ [(mrf, .inl (cI, 8, .inl (fun _ => 0))), (m0, .inr (8, (.int 0 :: .int 20 :: .int 0 :: .int 0 :: .int 0 :: .int 60 :: .int 0 :: .int 3 :: .int 1 :: .int (-1) :: .ref mrf :: .ref mki :: .ref mpa :: .ref mta :: .ref mla :: .ref msl :: .ref mco :: .ref mhe :: .ref mso :: .ref msi :: .ref msh :: .ref mce :: .ref mca :: .ref mwo :: .ref mnu :: .ref mte :: .int 0 :: .int 0 :: .int 0 :: .int 0 :: .int 0 :: .ref mwa :: .ref mke :: .ref mma :: .ref mth :: .ref mtr :: .int 0 :: .int 0 :: [])))] := hD
                    obtain rfl := hr_165
                    refine lv_istore (lv' := [(6, .int 1728), (5, .int 1), (4, .int 1728), (3, .int 0), (0, .ref m0), (1, .int 3), (2, .int w)]) hx hb dX8_haste_80 hl (by decide) rfl (fun ls hl => ?_)
                    refine lv_iload hx hb dX8_haste_82 (lv_at hl 0 rfl) ?_
                    refine lv_iload hx hb dX8_haste_84 (lv_at hl 2 rfl) ?_
                    refine lv_icmp_gt (tgt := 92) hx hb dX8_haste_86 (by decide) (fun c_167 => ?_) (fun c_167 => ?_)
                    · exact absurd c_167 (by decide)
                    · refine lv_goto (tgt := 99) hx hb dX8_haste_89 (by decide) ?_
                      refine lv_iinc (v := 2) (lv' := [(5, .int 2), (6, .int 1728), (4, .int 1728), (3, .int 0), (0, .ref m0), (1, .int 3), (2, .int w)]) hx hb dX8_haste_99 hl (k := 1) rfl (by decide) (by decide) rfl (fun ls hl => ?_)
                      refine lv_goto (tgt := 66) hx hb dX8_haste_102 (by decide) ?_
                      refine lv_iload hx hb dX8_haste_66 (lv_at hl 0 rfl) ?_
                      refine lv_bipush (v := 10) hx hb dX8_haste_68 (by decide) ?_
                      refine lv_icmp_ge (tgt := 105) hx hb dX8_haste_70 (by decide) (fun c_168 => ?_) (fun c_168 => ?_)
                      · exact absurd c_168 (by decide)
                      · refine lv_aload_n hx hb dX8_haste_73 rfl (lv_at hl 4 rfl) ?_
                        refine lv_iload_n hx hb dX8_haste_74 rfl (lv_at hl 5 rfl) ?_
                        refine lv_iload hx hb dX8_haste_75 (lv_at hl 0 rfl) ?_
                        skip
                        refine zw_V (As := [.int 3, .int 2]) (rest := []) (wr := [(mrf, .inl (cI, 8, .inl (fun _ => 0)))]) ⟨hx, hb, hml, hown, hts⟩ (c_M_casesIn_3 l D cI cJ cZ cP cS m0 mrf mki mpa mta mla msl mco mhe mso msi msh mce mca mwo mnu mte mwa mke mma mth mtr (2)  H.size) (cwV 2 hts gX8_haste_X8_casesIn rfl rfl rfl (by decide +kernel) ⟨Nat.le_of_ble_eq_true rfl, Nat.le_of_ble_eq_true rfl⟩) hK hN (hZ.kept hS) hP hD hS hA [1] [0] rfl rfl (by decide) (by decide) (by decide) (va_recv hK hP (ci := 8) (q0 := 1) rfl rfl) rfl hl.1 rfl (Nat.le_of_ble_eq_true rfl) dX8_haste_77 ⟨Nat.le_of_ble_eq_true rfl, Nat.le_of_ble_eq_true rfl⟩ (fun r_169 u_170 H locs hr_169 hP hD hS => ?_)
                        replace hP : va_P D vwCl [(mrf, .inl (cI, 8, .inl (fun _ => 0))), (m0, .inr (8, (.int 0 :: .int 20 :: .int 0 :: .int 0 :: .int 0 :: .int 60 :: .int 0 :: .int 3 :: .int 1 :: .int (-1) :: .ref mrf :: .ref mki :: .ref mpa :: .ref mta :: .ref mla :: .ref msl :: .ref mco :: .ref mhe :: .ref mso :: .ref msi :: .ref msh :: .ref mce :: .ref mca :: .ref mwo :: .ref mnu :: .ref mte :: .int 0 :: .int 0 :: .int 0 :: .int 0 :: .int 0 :: .ref mwa :: .ref mke :: .ref mma :: .ref mth :: .ref mtr :: .int 0 :: .int 0 :: [])))] H := hP
                        replace hD : va_D _ [(mrf, .inl (cI, 8, .inl (fun _ => 0))), (m0, .inr (8, (.int 0 :: .int 20 :: .int 0 :: .int 0 :: .int 0 :: .int 60 :: .int 0 :: .int 3 :: .int 1 :: .int (-1) :: .ref mrf :: .ref mki :: .ref mpa :: .ref mta :: .ref mla :: .ref msl :: .ref mco :: .ref mhe :: .ref mso :: .ref msi :: .ref msh :: .ref mce :: .ref mca :: .ref mwo :: .ref mnu :: .ref mte :: .int 0 :: .int 0 :: .int 0 :: .int 0 :: .int 0 :: .ref mwa :: .ref mke :: .ref mma :: .ref mth :: .ref mtr :: .int 0 :: .int 0 :: [])))] := hD
                        obtain rfl := hr_169
                        refine lv_istore (lv' := [(6, .int 1728), (5, .int 2), (4, .int 1728), (3, .int 0), (0, .ref m0), (1, .int 3), (2, .int w)]) hx hb dX8_haste_80 hl (by decide) rfl (fun ls hl => ?_)
                        refine lv_iload hx hb dX8_haste_82 (lv_at hl 0 rfl) ?_
                        refine lv_iload hx hb dX8_haste_84 (lv_at hl 2 rfl) ?_
                        refine lv_icmp_gt (tgt := 92) hx hb dX8_haste_86 (by decide) (fun c_171 => ?_) (fun c_171 => ?_)
                        · exact absurd c_171 (by decide)
                        · refine lv_goto (tgt := 99) hx hb dX8_haste_89 (by decide) ?_
                          refine lv_iinc (v := 3) (lv' := [(5, .int 3), (6, .int 1728), (4, .int 1728), (3, .int 0), (0, .ref m0), (1, .int 3), (2, .int w)]) hx hb dX8_haste_99 hl (k := 1) rfl (by decide) (by decide) rfl (fun ls hl => ?_)
                          refine lv_goto (tgt := 66) hx hb dX8_haste_102 (by decide) ?_
                          refine lv_iload hx hb dX8_haste_66 (lv_at hl 0 rfl) ?_
                          refine lv_bipush (v := 10) hx hb dX8_haste_68 (by decide) ?_
                          refine lv_icmp_ge (tgt := 105) hx hb dX8_haste_70 (by decide) (fun c_172 => ?_) (fun c_172 => ?_)
                          · exact absurd c_172 (by decide)
                          · refine lv_aload_n hx hb dX8_haste_73 rfl (lv_at hl 4 rfl) ?_
                            refine lv_iload_n hx hb dX8_haste_74 rfl (lv_at hl 5 rfl) ?_
                            refine lv_iload hx hb dX8_haste_75 (lv_at hl 0 rfl) ?_
                            skip
                            refine zw_V (As := [.int 3, .int 3]) (rest := []) (wr := [(mrf, .inl (cI, 8, .inl (fun _ => 0)))]) ⟨hx, hb, hml, hown, hts⟩ (c_M_casesIn_3 l D cI cJ cZ cP cS m0 mrf mki mpa mta mla msl mco mhe mso msi msh mce mca mwo mnu mte mwa mke mma mth mtr (3)  H.size) (cwV 2 hts gX8_haste_X8_casesIn rfl rfl rfl (by decide +kernel) ⟨Nat.le_of_ble_eq_true rfl, Nat.le_of_ble_eq_true rfl⟩) hK hN (hZ.kept hS) hP hD hS hA [1] [0] rfl rfl (by decide) (by decide) (by decide) (va_recv hK hP (ci := 8) (q0 := 1) rfl rfl) rfl hl.1 rfl (Nat.le_of_ble_eq_true rfl) dX8_haste_77 ⟨Nat.le_of_ble_eq_true rfl, Nat.le_of_ble_eq_true rfl⟩ (fun r_173 u_174 H locs hr_173 hP hD hS => ?_)
                            replace hP : va_P D vwCl [(mrf, .inl (cI, 8, .inl (fun _ => 0))), (m0, .inr (8, (.int 0 :: .int 20 :: .int 0 :: .int 0 :: .int 0 :: .int 60 :: .int 0 :: .int 3 :: .int 1 :: .int (-1) :: .ref mrf :: .ref mki :: .ref mpa :: .ref mta :: .ref mla :: .ref msl :: .ref mco :: .ref mhe :: .ref mso :: .ref msi :: .ref msh :: .ref mce :: .ref mca :: .ref mwo :: .ref mnu :: .ref mte :: .int 0 :: .int 0 :: .int 0 :: .int 0 :: .int 0 :: .ref mwa :: .ref mke :: .ref mma :: .ref mth :: .ref mtr :: .int 0 :: .int 0 :: [])))] H := hP
                            replace hD : va_D _ [(mrf, .inl (cI, 8, .inl (fun _ => 0))), (m0, .inr (8, (.int 0 :: .int 20 :: .int 0 :: .int 0 :: .int 0 :: .int 60 :: .int 0 :: .int 3 :: .int 1 :: .int (-1) :: .ref mrf :: .ref mki :: .ref mpa :: .ref mta :: .ref mla :: .ref msl :: .ref mco :: .ref mhe :: .ref mso :: .ref msi :: .ref msh :: .ref mce :: .ref mca :: .ref mwo :: .ref mnu :: .ref mte :: .int 0 :: .int 0 :: .int 0 :: .int 0 :: .int 0 :: .ref mwa :: .ref mke :: .ref mma :: .ref mth :: .ref mtr :: .int 0 :: .int 0 :: [])))] := hD
                            obtain rfl := hr_173
                            refine lv_istore (lv' := [(6, .int 1728), (5, .int 3), (4, .int 1728), (3, .int 0), (0, .ref m0), (1, .int 3), (2, .int w)]) hx hb dX8_haste_80 hl (by decide) rfl (fun ls hl => ?_)
                            refine lv_iload hx hb dX8_haste_82 (lv_at hl 0 rfl) ?_
                            refine lv_iload hx hb dX8_haste_84 (lv_at hl 2 rfl) ?_
                            refine lv_icmp_gt (tgt := 92) hx hb dX8_haste_86 (by decide) (fun c_175 => ?_) (fun c_175 => ?_)
                            · exact absurd c_175 (by decide)
                            · refine lv_goto (tgt := 99) hx hb dX8_haste_89 (by decide) ?_
                              refine lv_iinc (v := 4) (lv' := [(5, .int 4), (6, .int 1728), (4, .int 1728), (3, .int 0), (0, .ref m0), (1, .int 3), (2, .int w)]) hx hb dX8_haste_99 hl (k := 1) rfl (by decide) (by decide) rfl (fun ls hl => ?_)
                              refine lv_goto (tgt := 66) hx hb dX8_haste_102 (by decide) ?_
                              refine lv_iload hx hb dX8_haste_66 (lv_at hl 0 rfl) ?_
                              refine lv_bipush (v := 10) hx hb dX8_haste_68 (by decide) ?_
                              refine lv_icmp_ge (tgt := 105) hx hb dX8_haste_70 (by decide) (fun c_176 => ?_) (fun c_176 => ?_)
                              · exact absurd c_176 (by decide)
                              · refine lv_aload_n hx hb dX8_haste_73 rfl (lv_at hl 4 rfl) ?_
                                refine lv_iload_n hx hb dX8_haste_74 rfl (lv_at hl 5 rfl) ?_
                                refine lv_iload hx hb dX8_haste_75 (lv_at hl 0 rfl) ?_
                                skip
                                refine zw_V (As := [.int 3, .int 4]) (rest := []) (wr := [(mrf, .inl (cI, 8, .inl (fun _ => 0)))]) ⟨hx, hb, hml, hown, hts⟩ (c_M_casesIn_3 l D cI cJ cZ cP cS m0 mrf mki mpa mta mla msl mco mhe mso msi msh mce mca mwo mnu mte mwa mke mma mth mtr (4)  H.size) (cwV 2 hts gX8_haste_X8_casesIn rfl rfl rfl (by decide +kernel) ⟨Nat.le_of_ble_eq_true rfl, Nat.le_of_ble_eq_true rfl⟩) hK hN (hZ.kept hS) hP hD hS hA [1] [0] rfl rfl (by decide) (by decide) (by decide) (va_recv hK hP (ci := 8) (q0 := 1) rfl rfl) rfl hl.1 rfl (Nat.le_of_ble_eq_true rfl) dX8_haste_77 ⟨Nat.le_of_ble_eq_true rfl, Nat.le_of_ble_eq_true rfl⟩ (fun r_177 u_178 H locs hr_177 hP hD hS => ?_)
                                replace hP : va_P D vwCl [(mrf, .inl (cI, 8, .inl (fun _ => 0))), (m0, .inr (8, (.int 0 :: .int 20 :: .int 0 :: .int 0 :: .int 0 :: .int 60 :: .int 0 :: .int 3 :: .int 1 :: .int (-1) :: .ref mrf :: .ref mki :: .ref mpa :: .ref mta :: .ref mla :: .ref msl :: .ref mco :: .ref mhe :: .ref mso :: .ref msi :: .ref msh :: .ref mce :: .ref mca :: .ref mwo :: .ref mnu :: .ref mte :: .int 0 :: .int 0 :: .int 0 :: .int 0 :: .int 0 :: .ref mwa :: .ref mke :: .ref mma :: .ref mth :: .ref mtr :: .int 0 :: .int 0 :: [])))] H := hP
                                replace hD : va_D _ [(mrf, .inl (cI, 8, .inl (fun _ => 0))), (m0, .inr (8, (.int 0 :: .int 20 :: .int 0 :: .int 0 :: .int 0 :: .int 60 :: .int 0 :: .int 3 :: .int 1 :: .int (-1) :: .ref mrf :: .ref mki :: .ref mpa :: .ref mta :: .ref mla :: .ref msl :: .ref mco :: .ref mhe :: .ref mso :: .ref msi :: .ref msh :: .ref mce :: .ref mca :: .ref mwo :: .ref mnu :: .ref mte :: .int 0 :: .int 0 :: .int 0 :: .int 0 :: .int 0 :: .ref mwa :: .ref mke :: .ref mma :: .ref mth :: .ref mtr :: .int 0 :: .int 0 :: [])))] := hD
                                obtain rfl := hr_177
                                refine lv_istore (lv' := [(6, .int 1728), (5, .int 4), (4, .int 1728), (3, .int 0), (0, .ref m0), (1, .int 3), (2, .int w)]) hx hb dX8_haste_80 hl (by decide) rfl (fun ls hl => ?_)
                                refine lv_iload hx hb dX8_haste_82 (lv_at hl 0 rfl) ?_
                                refine lv_iload hx hb dX8_haste_84 (lv_at hl 2 rfl) ?_
                                refine lv_icmp_gt (tgt := 92) hx hb dX8_haste_86 (by decide) (fun c_179 => ?_) (fun c_179 => ?_)
                                · exact absurd c_179 (by decide)
                                · refine lv_goto (tgt := 99) hx hb dX8_haste_89 (by decide) ?_
                                  refine lv_iinc (v := 5) (lv' := [(5, .int 5), (6, .int 1728), (4, .int 1728), (3, .int 0), (0, .ref m0), (1, .int 3), (2, .int w)]) hx hb dX8_haste_99 hl (k := 1) rfl (by decide) (by decide) rfl (fun ls hl => ?_)
                                  refine lv_goto (tgt := 66) hx hb dX8_haste_102 (by decide) ?_
                                  refine lv_iload hx hb dX8_haste_66 (lv_at hl 0 rfl) ?_
                                  refine lv_bipush (v := 10) hx hb dX8_haste_68 (by decide) ?_
                                  refine lv_icmp_ge (tgt := 105) hx hb dX8_haste_70 (by decide) (fun c_180 => ?_) (fun c_180 => ?_)
                                  · exact absurd c_180 (by decide)
                                  · refine lv_aload_n hx hb dX8_haste_73 rfl (lv_at hl 4 rfl) ?_
                                    refine lv_iload_n hx hb dX8_haste_74 rfl (lv_at hl 5 rfl) ?_
                                    refine lv_iload hx hb dX8_haste_75 (lv_at hl 0 rfl) ?_
                                    skip
                                    refine zw_V (As := [.int 3, .int 5]) (rest := []) (wr := [(mrf, .inl (cI, 8, .inl (fun _ => 0)))]) ⟨hx, hb, hml, hown, hts⟩ (c_M_casesIn_3 l D cI cJ cZ cP cS m0 mrf mki mpa mta mla msl mco mhe mso msi msh mce mca mwo mnu mte mwa mke mma mth mtr (5)  H.size) (cwV 2 hts gX8_haste_X8_casesIn rfl rfl rfl (by decide +kernel) ⟨Nat.le_of_ble_eq_true rfl, Nat.le_of_ble_eq_true rfl⟩) hK hN (hZ.kept hS) hP hD hS hA [1] [0] rfl rfl (by decide) (by decide) (by decide) (va_recv hK hP (ci := 8) (q0 := 1) rfl rfl) rfl hl.1 rfl (Nat.le_of_ble_eq_true rfl) dX8_haste_77 ⟨Nat.le_of_ble_eq_true rfl, Nat.le_of_ble_eq_true rfl⟩ (fun r_181 u_182 H locs hr_181 hP hD hS => ?_)
                                    replace hP : va_P D vwCl [(mrf, .inl (cI, 8, .inl (fun _ => 0))), (m0, .inr (8, (.int 0 :: .int 20 :: .int 0 :: .int 0 :: .int 0 :: .int 60 :: .int 0 :: .int 3 :: .int 1 :: .int (-1) :: .ref mrf :: .ref mki :: .ref mpa :: .ref mta :: .ref mla :: .ref msl :: .ref mco :: .ref mhe :: .ref mso :: .ref msi :: .ref msh :: .ref mce :: .ref mca :: .ref mwo :: .ref mnu :: .ref mte :: .int 0 :: .int 0 :: .int 0 :: .int 0 :: .int 0 :: .ref mwa :: .ref mke :: .ref mma :: .ref mth :: .ref mtr :: .int 0 :: .int 0 :: [])))] H := hP
                                    replace hD : va_D _ [(mrf, .inl (cI, 8, .inl (fun _ => 0))), (m0, .inr (8, (.int 0 :: .int 20 :: .int 0 :: .int 0 :: .int 0 :: .int 60 :: .int 0 :: .int 3 :: .int 1 :: .int (-1) :: .ref mrf :: .ref mki :: .ref mpa :: .ref mta :: .ref mla :: .ref msl :: .ref mco :: .ref mhe :: .ref mso :: .ref msi :: .ref msh :: .ref mce :: .ref mca :: .ref mwo :: .ref mnu :: .ref mte :: .int 0 :: .int 0 :: .int 0 :: .int 0 :: .int 0 :: .ref mwa :: .ref mke :: .ref mma :: .ref mth :: .ref mtr :: .int 0 :: .int 0 :: [])))] := hD
                                    obtain rfl := hr_181
                                    refine lv_istore (lv' := [(6, .int 1728), (5, .int 5), (4, .int 1728), (3, .int 0), (0, .ref m0), (1, .int 3), (2, .int w)]) hx hb dX8_haste_80 hl (by decide) rfl (fun ls hl => ?_)
                                    refine lv_iload hx hb dX8_haste_82 (lv_at hl 0 rfl) ?_
                                    refine lv_iload hx hb dX8_haste_84 (lv_at hl 2 rfl) ?_
                                    refine lv_icmp_gt (tgt := 92) hx hb dX8_haste_86 (by decide) (fun c_183 => ?_) (fun c_183 => ?_)
                                    · exact absurd c_183 (by decide)
                                    · refine lv_goto (tgt := 99) hx hb dX8_haste_89 (by decide) ?_
                                      refine lv_iinc (v := 6) (lv' := [(5, .int 6), (6, .int 1728), (4, .int 1728), (3, .int 0), (0, .ref m0), (1, .int 3), (2, .int w)]) hx hb dX8_haste_99 hl (k := 1) rfl (by decide) (by decide) rfl (fun ls hl => ?_)
                                      refine lv_goto (tgt := 66) hx hb dX8_haste_102 (by decide) ?_
                                      refine lv_iload hx hb dX8_haste_66 (lv_at hl 0 rfl) ?_
                                      refine lv_bipush (v := 10) hx hb dX8_haste_68 (by decide) ?_
                                      refine lv_icmp_ge (tgt := 105) hx hb dX8_haste_70 (by decide) (fun c_184 => ?_) (fun c_184 => ?_)
                                      · exact absurd c_184 (by decide)
                                      · refine lv_aload_n hx hb dX8_haste_73 rfl (lv_at hl 4 rfl) ?_
                                        refine lv_iload_n hx hb dX8_haste_74 rfl (lv_at hl 5 rfl) ?_
                                        refine lv_iload hx hb dX8_haste_75 (lv_at hl 0 rfl) ?_
                                        skip
                                        refine zw_V (As := [.int 3, .int 6]) (rest := []) (wr := [(mrf, .inl (cI, 8, .inl (fun _ => 0)))]) ⟨hx, hb, hml, hown, hts⟩ (c_M_casesIn_3 l D cI cJ cZ cP cS m0 mrf mki mpa mta mla msl mco mhe mso msi msh mce mca mwo mnu mte mwa mke mma mth mtr (6)  H.size) (cwV 2 hts gX8_haste_X8_casesIn rfl rfl rfl (by decide +kernel) ⟨Nat.le_of_ble_eq_true rfl, Nat.le_of_ble_eq_true rfl⟩) hK hN (hZ.kept hS) hP hD hS hA [1] [0] rfl rfl (by decide) (by decide) (by decide) (va_recv hK hP (ci := 8) (q0 := 1) rfl rfl) rfl hl.1 rfl (Nat.le_of_ble_eq_true rfl) dX8_haste_77 ⟨Nat.le_of_ble_eq_true rfl, Nat.le_of_ble_eq_true rfl⟩ (fun r_185 u_186 H locs hr_185 hP hD hS => ?_)
                                        replace hP : va_P D vwCl [(mrf, .inl (cI, 8, .inl (fun _ => 0))), (m0, .inr (8, (.int 0 :: .int 20 :: .int 0 :: .int 0 :: .int 0 :: .int 60 :: .int 0 :: .int 3 :: .int 1 :: .int (-1) :: .ref mrf :: .ref mki :: .ref mpa :: .ref mta :: .ref mla :: .ref msl :: .ref mco :: .ref mhe :: .ref mso :: .ref msi :: .ref msh :: .ref mce :: .ref mca :: .ref mwo :: .ref mnu :: .ref mte :: .int 0 :: .int 0 :: .int 0 :: .int 0 :: .int 0 :: .ref mwa :: .ref mke :: .ref mma :: .ref mth :: .ref mtr :: .int 0 :: .int 0 :: [])))] H := hP
                                        replace hD : va_D _ [(mrf, .inl (cI, 8, .inl (fun _ => 0))), (m0, .inr (8, (.int 0 :: .int 20 :: .int 0 :: .int 0 :: .int 0 :: .int 60 :: .int 0 :: .int 3 :: .int 1 :: .int (-1) :: .ref mrf :: .ref mki :: .ref mpa :: .ref mta :: .ref mla :: .ref msl :: .ref mco :: .ref mhe :: .ref mso :: .ref msi :: .ref msh :: .ref mce :: .ref mca :: .ref mwo :: .ref mnu :: .ref mte :: .int 0 :: .int 0 :: .int 0 :: .int 0 :: .int 0 :: .ref mwa :: .ref mke :: .ref mma :: .ref mth :: .ref mtr :: .int 0 :: .int 0 :: [])))] := hD
                                        obtain rfl := hr_185
                                        refine lv_istore (lv' := [(6, .int 1728), (5, .int 6), (4, .int 1728), (3, .int 0), (0, .ref m0), (1, .int 3), (2, .int w)]) hx hb dX8_haste_80 hl (by decide) rfl (fun ls hl => ?_)
                                        refine lv_iload hx hb dX8_haste_82 (lv_at hl 0 rfl) ?_
                                        refine lv_iload hx hb dX8_haste_84 (lv_at hl 2 rfl) ?_
                                        refine lv_icmp_gt (tgt := 92) hx hb dX8_haste_86 (by decide) (fun c_187 => ?_) (fun c_187 => ?_)
                                        · exact absurd c_187 (by decide)
                                        · refine lv_goto (tgt := 99) hx hb dX8_haste_89 (by decide) ?_
                                          refine lv_iinc (v := 7) (lv' := [(5, .int 7), (6, .int 1728), (4, .int 1728), (3, .int 0), (0, .ref m0), (1, .int 3), (2, .int w)]) hx hb dX8_haste_99 hl (k := 1) rfl (by decide) (by decide) rfl (fun ls hl => ?_)
                                          refine lv_goto (tgt := 66) hx hb dX8_haste_102 (by decide) ?_
                                          refine lv_iload hx hb dX8_haste_66 (lv_at hl 0 rfl) ?_
                                          refine lv_bipush (v := 10) hx hb dX8_haste_68 (by decide) ?_
                                          refine lv_icmp_ge (tgt := 105) hx hb dX8_haste_70 (by decide) (fun c_188 => ?_) (fun c_188 => ?_)
                                          · exact absurd c_188 (by decide)
                                          · refine lv_aload_n hx hb dX8_haste_73 rfl (lv_at hl 4 rfl) ?_
                                            refine lv_iload_n hx hb dX8_haste_74 rfl (lv_at hl 5 rfl) ?_
                                            refine lv_iload hx hb dX8_haste_75 (lv_at hl 0 rfl) ?_
                                            skip
                                            refine zw_V (As := [.int 3, .int 7]) (rest := []) (wr := [(mrf, .inl (cI, 8, .inl (fun _ => 0)))]) ⟨hx, hb, hml, hown, hts⟩ (c_M_casesIn_3 l D cI cJ cZ cP cS m0 mrf mki mpa mta mla msl mco mhe mso msi msh mce mca mwo mnu mte mwa mke mma mth mtr (7)  H.size) (cwV 2 hts gX8_haste_X8_casesIn rfl rfl rfl (by decide +kernel) ⟨Nat.le_of_ble_eq_true rfl, Nat.le_of_ble_eq_true rfl⟩) hK hN (hZ.kept hS) hP hD hS hA [1] [0] rfl rfl (by decide) (by decide) (by decide) (va_recv hK hP (ci := 8) (q0 := 1) rfl rfl) rfl hl.1 rfl (Nat.le_of_ble_eq_true rfl) dX8_haste_77 ⟨Nat.le_of_ble_eq_true rfl, Nat.le_of_ble_eq_true rfl⟩ (fun r_189 u_190 H locs hr_189 hP hD hS => ?_)
                                            replace hP : va_P D vwCl [(mrf, .inl (cI, 8, .inl (fun _ => 0))), (m0, .inr (8, (.int 0 :: .int 20 :: .int 0 :: .int 0 :: .int 0 :: .int 60 :: .int 0 :: .int 3 :: .int 1 :: .int (-1) :: .ref mrf :: .ref mki :: .ref mpa :: .ref mta :: .ref mla :: .ref msl :: .ref mco :: .ref mhe :: .ref mso :: .ref msi :: .ref msh :: .ref mce :: .ref mca :: .ref mwo :: .ref mnu :: .ref mte :: .int 0 :: .int 0 :: .int 0 :: .int 0 :: .int 0 :: .ref mwa :: .ref mke :: .ref mma :: .ref mth :: .ref mtr :: .int 0 :: .int 0 :: [])))] H := hP
                                            replace hD : va_D _ [(mrf, .inl (cI, 8, .inl (fun _ => 0))), (m0, .inr (8, (.int 0 :: .int 20 :: .int 0 :: .int 0 :: .int 0 :: .int 60 :: .int 0 :: .int 3 :: .int 1 :: .int (-1) :: .ref mrf :: .ref mki :: .ref mpa :: .ref mta :: .ref mla :: .ref msl :: .ref mco :: .ref mhe :: .ref mso :: .ref msi :: .ref msh :: .ref mce :: .ref mca :: .ref mwo :: .ref mnu :: .ref mte :: .int 0 :: .int 0 :: .int 0 :: .int 0 :: .int 0 :: .ref mwa :: .ref mke :: .ref mma :: .ref mth :: .ref mtr :: .int 0 :: .int 0 :: [])))] := hD
                                            obtain rfl := hr_189
                                            refine lv_istore (lv' := [(6, .int 1728), (5, .int 7), (4, .int 1728), (3, .int 0), (0, .ref m0), (1, .int 3), (2, .int w)]) hx hb dX8_haste_80 hl (by decide) rfl (fun ls hl => ?_)
                                            refine lv_iload hx hb dX8_haste_82 (lv_at hl 0 rfl) ?_
                                            refine lv_iload hx hb dX8_haste_84 (lv_at hl 2 rfl) ?_
                                            refine lv_icmp_gt (tgt := 92) hx hb dX8_haste_86 (by decide) (fun c_191 => ?_) (fun c_191 => ?_)
                                            · exact absurd c_191 (by decide)
                                            · refine lv_goto (tgt := 99) hx hb dX8_haste_89 (by decide) ?_
                                              refine lv_iinc (v := 8) (lv' := [(5, .int 8), (6, .int 1728), (4, .int 1728), (3, .int 0), (0, .ref m0), (1, .int 3), (2, .int w)]) hx hb dX8_haste_99 hl (k := 1) rfl (by decide) (by decide) rfl (fun ls hl => ?_)
                                              refine lv_goto (tgt := 66) hx hb dX8_haste_102 (by decide) ?_
                                              refine lv_iload hx hb dX8_haste_66 (lv_at hl 0 rfl) ?_
                                              refine lv_bipush (v := 10) hx hb dX8_haste_68 (by decide) ?_
                                              refine lv_icmp_ge (tgt := 105) hx hb dX8_haste_70 (by decide) (fun c_192 => ?_) (fun c_192 => ?_)
                                              · exact absurd c_192 (by decide)
                                              · refine lv_aload_n hx hb dX8_haste_73 rfl (lv_at hl 4 rfl) ?_
                                                refine lv_iload_n hx hb dX8_haste_74 rfl (lv_at hl 5 rfl) ?_
                                                refine lv_iload hx hb dX8_haste_75 (lv_at hl 0 rfl) ?_
                                                skip
                                                refine zw_V (As := [.int 3, .int 8]) (rest := []) (wr := [(mrf, .inl (cI, 8, .inl (fun _ => 0)))]) ⟨hx, hb, hml, hown, hts⟩ (c_M_casesIn_3 l D cI cJ cZ cP cS m0 mrf mki mpa mta mla msl mco mhe mso msi msh mce mca mwo mnu mte mwa mke mma mth mtr (8)  H.size) (cwV 2 hts gX8_haste_X8_casesIn rfl rfl rfl (by decide +kernel) ⟨Nat.le_of_ble_eq_true rfl, Nat.le_of_ble_eq_true rfl⟩) hK hN (hZ.kept hS) hP hD hS hA [1] [0] rfl rfl (by decide) (by decide) (by decide) (va_recv hK hP (ci := 8) (q0 := 1) rfl rfl) rfl hl.1 rfl (Nat.le_of_ble_eq_true rfl) dX8_haste_77 ⟨Nat.le_of_ble_eq_true rfl, Nat.le_of_ble_eq_true rfl⟩ (fun r_193 u_194 H locs hr_193 hP hD hS => ?_)
                                                replace hP : va_P D vwCl [(mrf, .inl (cI, 8, .inl (fun _ => 0))), (m0, .inr (8, (.int 0 :: .int 20 :: .int 0 :: .int 0 :: .int 0 :: .int 60 :: .int 0 :: .int 3 :: .int 1 :: .int (-1) :: .ref mrf :: .ref mki :: .ref mpa :: .ref mta :: .ref mla :: .ref msl :: .ref mco :: .ref mhe :: .ref mso :: .ref msi :: .ref msh :: .ref mce :: .ref mca :: .ref mwo :: .ref mnu :: .ref mte :: .int 0 :: .int 0 :: .int 0 :: .int 0 :: .int 0 :: .ref mwa :: .ref mke :: .ref mma :: .ref mth :: .ref mtr :: .int 0 :: .int 0 :: [])))] H := hP
                                                replace hD : va_D _ [(mrf, .inl (cI, 8, .inl (fun _ => 0))), (m0, .inr (8, (.int 0 :: .int 20 :: .int 0 :: .int 0 :: .int 0 :: .int 60 :: .int 0 :: .int 3 :: .int 1 :: .int (-1) :: .ref mrf :: .ref mki :: .ref mpa :: .ref mta :: .ref mla :: .ref msl :: .ref mco :: .ref mhe :: .ref mso :: .ref msi :: .ref msh :: .ref mce :: .ref mca :: .ref mwo :: .ref mnu :: .ref mte :: .int 0 :: .int 0 :: .int 0 :: .int 0 :: .int 0 :: .ref mwa :: .ref mke :: .ref mma :: .ref mth :: .ref mtr :: .int 0 :: .int 0 :: [])))] := hD
                                                obtain rfl := hr_193
                                                refine lv_istore (lv' := [(6, .int 1728), (5, .int 8), (4, .int 1728), (3, .int 0), (0, .ref m0), (1, .int 3), (2, .int w)]) hx hb dX8_haste_80 hl (by decide) rfl (fun ls hl => ?_)
                                                refine lv_iload hx hb dX8_haste_82 (lv_at hl 0 rfl) ?_
                                                refine lv_iload hx hb dX8_haste_84 (lv_at hl 2 rfl) ?_
                                                refine lv_icmp_gt (tgt := 92) hx hb dX8_haste_86 (by decide) (fun c_195 => ?_) (fun c_195 => ?_)
                                                · exact absurd c_195 (by decide)
                                                · refine lv_goto (tgt := 99) hx hb dX8_haste_89 (by decide) ?_
                                                  refine lv_iinc (v := 9) (lv' := [(5, .int 9), (6, .int 1728), (4, .int 1728), (3, .int 0), (0, .ref m0), (1, .int 3), (2, .int w)]) hx hb dX8_haste_99 hl (k := 1) rfl (by decide) (by decide) rfl (fun ls hl => ?_)
                                                  refine lv_goto (tgt := 66) hx hb dX8_haste_102 (by decide) ?_
                                                  refine lv_iload hx hb dX8_haste_66 (lv_at hl 0 rfl) ?_
                                                  refine lv_bipush (v := 10) hx hb dX8_haste_68 (by decide) ?_
                                                  refine lv_icmp_ge (tgt := 105) hx hb dX8_haste_70 (by decide) (fun c_196 => ?_) (fun c_196 => ?_)
                                                  · exact absurd c_196 (by decide)
                                                  · refine lv_aload_n hx hb dX8_haste_73 rfl (lv_at hl 4 rfl) ?_
                                                    refine lv_iload_n hx hb dX8_haste_74 rfl (lv_at hl 5 rfl) ?_
                                                    refine lv_iload hx hb dX8_haste_75 (lv_at hl 0 rfl) ?_
                                                    skip
                                                    refine zw_V (As := [.int 3, .int 9]) (rest := []) (wr := [(mrf, .inl (cI, 8, .inl (fun _ => 0)))]) ⟨hx, hb, hml, hown, hts⟩ (c_M_casesIn_3 l D cI cJ cZ cP cS m0 mrf mki mpa mta mla msl mco mhe mso msi msh mce mca mwo mnu mte mwa mke mma mth mtr (9)  H.size) (cwV 2 hts gX8_haste_X8_casesIn rfl rfl rfl (by decide +kernel) ⟨Nat.le_of_ble_eq_true rfl, Nat.le_of_ble_eq_true rfl⟩) hK hN (hZ.kept hS) hP hD hS hA [1] [0] rfl rfl (by decide) (by decide) (by decide) (va_recv hK hP (ci := 8) (q0 := 1) rfl rfl) rfl hl.1 rfl (Nat.le_of_ble_eq_true rfl) dX8_haste_77 ⟨Nat.le_of_ble_eq_true rfl, Nat.le_of_ble_eq_true rfl⟩ (fun r_197 u_198 H locs hr_197 hP hD hS => ?_)
                                                    replace hP : va_P D vwCl [(mrf, .inl (cI, 8, .inl (fun _ => 0))), (m0, .inr (8, (.int 0 :: .int 20 :: .int 0 :: .int 0 :: .int 0 :: .int 60 :: .int 0 :: .int 3 :: .int 1 :: .int (-1) :: .ref mrf :: .ref mki :: .ref mpa :: .ref mta :: .ref mla :: .ref msl :: .ref mco :: .ref mhe :: .ref mso :: .ref msi :: .ref msh :: .ref mce :: .ref mca :: .ref mwo :: .ref mnu :: .ref mte :: .int 0 :: .int 0 :: .int 0 :: .int 0 :: .int 0 :: .ref mwa :: .ref mke :: .ref mma :: .ref mth :: .ref mtr :: .int 0 :: .int 0 :: [])))] H := hP
                                                    replace hD : va_D _ [(mrf, .inl (cI, 8, .inl (fun _ => 0))), (m0, .inr (8, (.int 0 :: .int 20 :: .int 0 :: .int 0 :: .int 0 :: .int 60 :: .int 0 :: .int 3 :: .int 1 :: .int (-1) :: .ref mrf :: .ref mki :: .ref mpa :: .ref mta :: .ref mla :: .ref msl :: .ref mco :: .ref mhe :: .ref mso :: .ref msi :: .ref msh :: .ref mce :: .ref mca :: .ref mwo :: .ref mnu :: .ref mte :: .int 0 :: .int 0 :: .int 0 :: .int 0 :: .int 0 :: .ref mwa :: .ref mke :: .ref mma :: .ref mth :: .ref mtr :: .int 0 :: .int 0 :: [])))] := hD
                                                    obtain rfl := hr_197
                                                    refine lv_istore (lv' := [(6, .int 1728), (5, .int 9), (4, .int 1728), (3, .int 0), (0, .ref m0), (1, .int 3), (2, .int w)]) hx hb dX8_haste_80 hl (by decide) rfl (fun ls hl => ?_)
                                                    refine lv_iload hx hb dX8_haste_82 (lv_at hl 0 rfl) ?_
                                                    refine lv_iload hx hb dX8_haste_84 (lv_at hl 2 rfl) ?_
                                                    refine lv_icmp_gt (tgt := 92) hx hb dX8_haste_86 (by decide) (fun c_199 => ?_) (fun c_199 => ?_)
                                                    · exact absurd c_199 (by decide)
                                                    · refine lv_goto (tgt := 99) hx hb dX8_haste_89 (by decide) ?_
                                                      refine lv_iinc (v := 10) (lv' := [(5, .int 10), (6, .int 1728), (4, .int 1728), (3, .int 0), (0, .ref m0), (1, .int 3), (2, .int w)]) hx hb dX8_haste_99 hl (k := 1) rfl (by decide) (by decide) rfl (fun ls hl => ?_)
                                                      refine lv_goto (tgt := 66) hx hb dX8_haste_102 (by decide) ?_
                                                      refine lv_iload hx hb dX8_haste_66 (lv_at hl 0 rfl) ?_
                                                      refine lv_bipush (v := 10) hx hb dX8_haste_68 (by decide) ?_
                                                      refine lv_icmp_ge (tgt := 105) hx hb dX8_haste_70 (by decide) (fun c_200 => ?_) (fun c_200 => ?_)
                                                      · refine lv_iload_n hx hb dX8_haste_105 rfl (lv_at hl 3 rfl) ?_
                                                        exact W.iret (v := 0) hx hb hr (fun t ht hW => ⟨⟨0, (), rfl, Or.inr (Or.inr (Or.inr (Or.inr (Or.inr (Or.inr (Or.inr (Or.inr (Or.inr (Or.inl (⟨rfl, (by first | omega | decide), (by first | omega | decide), (by first | omega | decide), (by first | omega | decide), (by first | omega | decide), (by first | omega | decide)⟩)))))))))), zP_nil, zD_nil⟩, hS.F ht⟩) hS.2.2 dX8_haste_106
                                                      · exact absurd c_200 (by decide)
                · exact absurd c_163 (by decide)
            · have fc_159 : w.toInt = 1 := zf_eq c_159 rfl (by decide)
              refine lv_aload_n hx hb dX8_haste_36 rfl (lv_at hl 0 rfl) ?_
              refine lv_iload_n hx hb dX8_haste_37 rfl (lv_at hl 1 rfl) ?_
              refine lv_bipush (v := 9) hx hb dX8_haste_38 (by decide) ?_
              skip
              refine zw_V (As := [.int 3, .int 9]) (rest := []) (wr := [(mrf, .inl (cI, 8, .inl (fun _ => 0)))]) ⟨hx, hb, hml, hown, hts⟩ (c_M_casesIn_3 l D cI cJ cZ cP cS m0 mrf mki mpa mta mla msl mco mhe mso msi msh mce mca mwo mnu mte mwa mke mma mth mtr (9)  H.size) (cwV 2 hts gX8_haste_X8_casesIn rfl rfl rfl (by decide +kernel) ⟨Nat.le_of_ble_eq_true rfl, Nat.le_of_ble_eq_true rfl⟩) hK hN (hZ.kept hS) hP hD hS hA [0] [1] rfl rfl (by decide) (by decide) (by decide) (va_recv hK hP (ci := 8) (q0 := 0) rfl rfl) rfl hl.1 rfl (Nat.le_of_ble_eq_true rfl) dX8_haste_40 ⟨Nat.le_of_ble_eq_true rfl, Nat.le_of_ble_eq_true rfl⟩ (fun r_201 u_202 H locs hr_201 hP hD hS => ?_)
              replace hP : va_P D vwCl [(mrf, .inl (cI, 8, .inl (fun _ => 0))), (m0, .inr (8, (.int 0 :: .int 20 :: .int 0 :: .int 0 :: .int 0 :: .int 60 :: .int 0 :: .int 3 :: .int 1 :: .int (-1) :: .ref mrf :: .ref mki :: .ref mpa :: .ref mta :: .ref mla :: .ref msl :: .ref mco :: .ref mhe :: .ref mso :: .ref msi :: .ref msh :: .ref mce :: .ref mca :: .ref mwo :: .ref mnu :: .ref mte :: .int 0 :: .int 0 :: .int 0 :: .int 0 :: .int 0 :: .ref mwa :: .ref mke :: .ref mma :: .ref mth :: .ref mtr :: .int 0 :: .int 0 :: [])))] H := hP
              replace hD : va_D _ [(mrf, .inl (cI, 8, .inl (fun _ => 0))), (m0, .inr (8, (.int 0 :: .int 20 :: .int 0 :: .int 0 :: .int 0 :: .int 60 :: .int 0 :: .int 3 :: .int 1 :: .int (-1) :: .ref mrf :: .ref mki :: .ref mpa :: .ref mta :: .ref mla :: .ref msl :: .ref mco :: .ref mhe :: .ref mso :: .ref msi :: .ref msh :: .ref mce :: .ref mca :: .ref mwo :: .ref mnu :: .ref mte :: .int 0 :: .int 0 :: .int 0 :: .int 0 :: .int 0 :: .ref mwa :: .ref mke :: .ref mma :: .ref mth :: .ref mtr :: .int 0 :: .int 0 :: [])))] := hD
              obtain rfl := hr_201
              refine lv_aload_n hx hb dX8_haste_43 rfl (lv_at hl 0 rfl) ?_
              refine lv_iload_n hx hb dX8_haste_44 rfl (lv_at hl 1 rfl) ?_
              refine lv_iconst (v := 0) hx hb dX8_haste_45 (by decide) ?_
              skip
              refine zw_V (As := [.int 3, .int 0]) (rest := [.int 1728]) (wr := [(mrf, .inl (cI, 8, .inl (fun _ => 0)))]) ⟨hx, hb, hml, hown, hts⟩ (c_M_casesIn_3 l D cI cJ cZ cP cS m0 mrf mki mpa mta mla msl mco mhe mso msi msh mce mca mwo mnu mte mwa mke mma mth mtr (0)  H.size) (cwV 2 hts gX8_haste_X8_casesIn rfl rfl rfl (by decide +kernel) ⟨Nat.le_of_ble_eq_true rfl, Nat.le_of_ble_eq_true rfl⟩) hK hN (hZ.kept hS) hP hD hS hA [1] [0] rfl rfl (by decide) (by decide) (by decide) (va_recv hK hP (ci := 8) (q0 := 1) rfl rfl) rfl hl.1 rfl (Nat.le_of_ble_eq_true rfl) dX8_haste_46 ⟨Nat.le_of_ble_eq_true rfl, Nat.le_of_ble_eq_true rfl⟩ (fun r_203 u_204 H locs hr_203 hP hD hS => ?_)
              replace hP : va_P D vwCl [(mrf, .inl (cI, 8, .inl (fun _ => 0))), (m0, .inr (8, (.int 0 :: .int 20 :: .int 0 :: .int 0 :: .int 0 :: .int 60 :: .int 0 :: .int 3 :: .int 1 :: .int (-1) :: .ref mrf :: .ref mki :: .ref mpa :: .ref mta :: .ref mla :: .ref msl :: .ref mco :: .ref mhe :: .ref mso :: .ref msi :: .ref msh :: .ref mce :: .ref mca :: .ref mwo :: .ref mnu :: .ref mte :: .int 0 :: .int 0 :: .int 0 :: .int 0 :: .int 0 :: .ref mwa :: .ref mke :: .ref mma :: .ref mth :: .ref mtr :: .int 0 :: .int 0 :: [])))] H := hP
              replace hD : va_D _ [(mrf, .inl (cI, 8, .inl (fun _ => 0))), (m0, .inr (8, (.int 0 :: .int 20 :: .int 0 :: .int 0 :: .int 0 :: .int 60 :: .int 0 :: .int 3 :: .int 1 :: .int (-1) :: .ref mrf :: .ref mki :: .ref mpa :: .ref mta :: .ref mla :: .ref msl :: .ref mco :: .ref mhe :: .ref mso :: .ref msi :: .ref msh :: .ref mce :: .ref mca :: .ref mwo :: .ref mnu :: .ref mte :: .int 0 :: .int 0 :: .int 0 :: .int 0 :: .int 0 :: .ref mwa :: .ref mke :: .ref mma :: .ref mth :: .ref mtr :: .int 0 :: .int 0 :: [])))] := hD
              obtain rfl := hr_203
              refine lv_icmp_ge (tgt := 56) hx hb dX8_haste_49 (by decide) (fun c_205 => ?_) (fun c_205 => ?_)
              · refine lv_iconst (v := 0) hx hb dX8_haste_56 (by decide) ?_
                exact W.iret (v := 0) hx hb hr (fun t ht hW => ⟨⟨0, (), rfl, Or.inr (Or.inr (Or.inr (Or.inr (Or.inr (Or.inr (Or.inr (Or.inr (Or.inr (Or.inr (Or.inl (⟨rfl, (by first | omega | decide), (by first | omega | decide), (by first | omega | decide), (by first | omega | decide), (by first | omega | decide), (by first | omega | decide)⟩))))))))))), zP_nil, zD_nil⟩, hS.F ht⟩) hS.2.2 dX8_haste_57
              · exact absurd c_205 (by decide)
          · refine lv_iload_n hx hb dX8_haste_31 rfl (lv_at hl 2 rfl) ?_
            refine lv_iconst (v := 1) hx hb dX8_haste_32 (by decide) ?_
            refine lv_icmp_ne (tgt := 58) hx hb dX8_haste_33 (by decide) (fun c_206 => ?_) (fun c_206 => ?_)
            · have fc_206 : w.toInt ≠ 1 := zf_ne c_206 rfl (by decide)
              refine lv_iconst (v := 0) hx hb dX8_haste_58 (by decide) ?_
              refine lv_istore_n (lv' := [(3, .int 0), (0, .ref m0), (1, .int 4), (2, .int w)]) hx hb dX8_haste_59 rfl hl (by decide) rfl (fun ls hl => ?_)
              refine lv_iconst (v := (-1)) hx hb dX8_haste_60 (by decide) ?_
              refine lv_istore (lv' := [(4, .int (-1)), (3, .int 0), (0, .ref m0), (1, .int 4), (2, .int w)]) hx hb dX8_haste_61 hl (by decide) rfl (fun ls hl => ?_)
              refine lv_iconst (v := 0) hx hb dX8_haste_63 (by decide) ?_
              refine lv_istore (lv' := [(5, .int 0), (4, .int (-1)), (3, .int 0), (0, .ref m0), (1, .int 4), (2, .int w)]) hx hb dX8_haste_64 hl (by decide) rfl (fun ls hl => ?_)
              refine lv_iload hx hb dX8_haste_66 (lv_at hl 0 rfl) ?_
              refine lv_bipush (v := 10) hx hb dX8_haste_68 (by decide) ?_
              refine lv_icmp_ge (tgt := 105) hx hb dX8_haste_70 (by decide) (fun c_207 => ?_) (fun c_207 => ?_)
              · exact absurd c_207 (by decide)
              · refine lv_aload_n hx hb dX8_haste_73 rfl (lv_at hl 3 rfl) ?_
                refine lv_iload_n hx hb dX8_haste_74 rfl (lv_at hl 4 rfl) ?_
                refine lv_iload hx hb dX8_haste_75 (lv_at hl 0 rfl) ?_
                skip
                refine zw_V (As := [.int 4, .int 0]) (rest := []) (wr := [(mrf, .inl (cI, 8, .inl (fun _ => 0)))]) ⟨hx, hb, hml, hown, hts⟩ (c_M_casesIn_4 l D cI cJ cZ cP cS m0 mrf mki mpa mta mla msl mco mhe mso msi msh mce mca mwo mnu mte mwa mke mma mth mtr (0)  H.size) (cwV 2 hts gX8_haste_X8_casesIn rfl rfl rfl (by decide +kernel) ⟨Nat.le_of_ble_eq_true rfl, Nat.le_of_ble_eq_true rfl⟩) hK hN (hZ.kept hS) hP hD hS hA [0] [1] rfl rfl (by decide) (by decide) (by decide) (va_recv hK hP (ci := 8) (q0 := 0) rfl rfl) rfl hl.1 rfl (Nat.le_of_ble_eq_true rfl) dX8_haste_77 ⟨Nat.le_of_ble_eq_true rfl, Nat.le_of_ble_eq_true rfl⟩ (fun r_208 u_209 H locs hr_208 hP hD hS => ?_)
                replace hP : va_P D vwCl [(mrf, .inl (cI, 8, .inl (fun _ => 0))), (m0, .inr (8, (.int 0 :: .int 20 :: .int 0 :: .int 0 :: .int 0 :: .int 60 :: .int 0 :: .int 3 :: .int 1 :: .int (-1) :: .ref mrf :: .ref mki :: .ref mpa :: .ref mta :: .ref mla :: .ref msl :: .ref mco :: .ref mhe :: .ref mso :: .ref msi :: .ref msh :: .ref mce :: .ref mca :: .ref mwo :: .ref mnu :: .ref mte :: .int 0 :: .int 0 :: .int 0 :: .int 0 :: .int 0 :: .ref mwa :: .ref mke :: .ref mma :: .ref mth :: .ref mtr :: .int 0 :: .int 0 :: [])))] H := hP
                replace hD : va_D _ [(mrf, .inl (cI, 8, .inl (fun _ => 0))), (m0, .inr (8, (.int 0 :: .int 20 :: .int 0 :: .int 0 :: .int 0 :: .int 60 :: .int 0 :: .int 3 :: .int 1 :: .int (-1) :: .ref mrf :: .ref mki :: .ref mpa :: .ref mta :: .ref mla :: .ref msl :: .ref mco :: .ref mhe :: .ref mso :: .ref msi :: .ref msh :: .ref mce :: .ref mca :: .ref mwo :: .ref mnu :: .ref mte :: .int 0 :: .int 0 :: .int 0 :: .int 0 :: .int 0 :: .ref mwa :: .ref mke :: .ref mma :: .ref mth :: .ref mtr :: .int 0 :: .int 0 :: [])))] := hD
                obtain rfl := hr_208
                refine lv_istore (lv' := [(6, .int 20736), (5, .int 0), (4, .int (-1)), (3, .int 0), (0, .ref m0), (1, .int 4), (2, .int w)]) hx hb dX8_haste_80 hl (by decide) rfl (fun ls hl => ?_)
                refine lv_iload hx hb dX8_haste_82 (lv_at hl 0 rfl) ?_
                refine lv_iload hx hb dX8_haste_84 (lv_at hl 2 rfl) ?_
                refine lv_icmp_gt (tgt := 92) hx hb dX8_haste_86 (by decide) (fun c_210 => ?_) (fun c_210 => ?_)
                · refine lv_iload hx hb dX8_haste_92 (lv_at hl 1 rfl) ?_
                  refine lv_istore_n (lv' := [(3, .int 0), (6, .int 20736), (5, .int 0), (4, .int (-1)), (0, .ref m0), (1, .int 4), (2, .int w)]) hx hb dX8_haste_94 rfl hl (by decide) rfl (fun ls hl => ?_)
                  refine lv_iload hx hb dX8_haste_95 (lv_at hl 1 rfl) ?_
                  refine lv_istore (lv' := [(4, .int 20736), (3, .int 0), (6, .int 20736), (5, .int 0), (0, .ref m0), (1, .int 4), (2, .int w)]) hx hb dX8_haste_97 hl (by decide) rfl (fun ls hl => ?_)
                  refine lv_iinc (v := 1) (lv' := [(5, .int 1), (4, .int 20736), (3, .int 0), (6, .int 20736), (0, .ref m0), (1, .int 4), (2, .int w)]) hx hb dX8_haste_99 hl (k := 3) rfl (by decide) (by decide) rfl (fun ls hl => ?_)
                  refine lv_goto (tgt := 66) hx hb dX8_haste_102 (by decide) ?_
                  refine lv_iload hx hb dX8_haste_66 (lv_at hl 0 rfl) ?_
                  refine lv_bipush (v := 10) hx hb dX8_haste_68 (by decide) ?_
                  refine lv_icmp_ge (tgt := 105) hx hb dX8_haste_70 (by decide) (fun c_211 => ?_) (fun c_211 => ?_)
                  · exact absurd c_211 (by decide)
                  · refine lv_aload_n hx hb dX8_haste_73 rfl (lv_at hl 4 rfl) ?_
                    refine lv_iload_n hx hb dX8_haste_74 rfl (lv_at hl 5 rfl) ?_
                    refine lv_iload hx hb dX8_haste_75 (lv_at hl 0 rfl) ?_
                    skip
                    refine zw_V (As := [.int 4, .int 1]) (rest := []) (wr := [(mrf, .inl (cI, 8, .inl (fun _ => 0)))]) ⟨hx, hb, hml, hown, hts⟩ (c_M_casesIn_4 l D cI cJ cZ cP cS m0 mrf mki mpa mta mla msl mco mhe mso msi msh mce mca mwo mnu mte mwa mke mma mth mtr (1)  H.size) (cwV 2 hts gX8_haste_X8_casesIn rfl rfl rfl (by decide +kernel) ⟨Nat.le_of_ble_eq_true rfl, Nat.le_of_ble_eq_true rfl⟩) hK hN (hZ.kept hS) hP hD hS hA [1] [0] rfl rfl (by decide) (by decide) (by decide) (va_recv hK hP (ci := 8) (q0 := 1) rfl rfl) rfl hl.1 rfl (Nat.le_of_ble_eq_true rfl) dX8_haste_77 ⟨Nat.le_of_ble_eq_true rfl, Nat.le_of_ble_eq_true rfl⟩ (fun r_212 u_213 H locs hr_212 hP hD hS => ?_)
                    replace hP : va_P D vwCl [(mrf, .inl (cI, 8, .inl (fun _ => 0))), (m0, .inr (8, (.int 0 :: .int 20 :: .int 0 :: .int 0 :: .int 0 :: .int 60 :: .int 0 :: .int 3 :: .int 1 :: .int (-1) :: .ref mrf :: .ref mki :: .ref mpa :: .ref mta :: .ref mla :: .ref msl :: .ref mco :: .ref mhe :: .ref mso :: .ref msi :: .ref msh :: .ref mce :: .ref mca :: .ref mwo :: .ref mnu :: .ref mte :: .int 0 :: .int 0 :: .int 0 :: .int 0 :: .int 0 :: .ref mwa :: .ref mke :: .ref mma :: .ref mth :: .ref mtr :: .int 0 :: .int 0 :: [])))] H := hP
                    replace hD : va_D _ [(mrf, .inl (cI, 8, .inl (fun _ => 0))), (m0, .inr (8, (.int 0 :: .int 20 :: .int 0 :: .int 0 :: .int 0 :: .int 60 :: .int 0 :: .int 3 :: .int 1 :: .int (-1) :: .ref mrf :: .ref mki :: .ref mpa :: .ref mta :: .ref mla :: .ref msl :: .ref mco :: .ref mhe :: .ref mso :: .ref msi :: .ref msh :: .ref mce :: .ref mca :: .ref mwo :: .ref mnu :: .ref mte :: .int 0 :: .int 0 :: .int 0 :: .int 0 :: .int 0 :: .ref mwa :: .ref mke :: .ref mma :: .ref mth :: .ref mtr :: .int 0 :: .int 0 :: [])))] := hD
                    obtain rfl := hr_212
                    refine lv_istore (lv' := [(6, .int 20736), (5, .int 1), (4, .int 20736), (3, .int 0), (0, .ref m0), (1, .int 4), (2, .int w)]) hx hb dX8_haste_80 hl (by decide) rfl (fun ls hl => ?_)
                    refine lv_iload hx hb dX8_haste_82 (lv_at hl 0 rfl) ?_
                    refine lv_iload hx hb dX8_haste_84 (lv_at hl 2 rfl) ?_
                    refine lv_icmp_gt (tgt := 92) hx hb dX8_haste_86 (by decide) (fun c_214 => ?_) (fun c_214 => ?_)
                    · exact absurd c_214 (by decide)
                    · refine lv_goto (tgt := 99) hx hb dX8_haste_89 (by decide) ?_
                      refine lv_iinc (v := 2) (lv' := [(5, .int 2), (6, .int 20736), (4, .int 20736), (3, .int 0), (0, .ref m0), (1, .int 4), (2, .int w)]) hx hb dX8_haste_99 hl (k := 1) rfl (by decide) (by decide) rfl (fun ls hl => ?_)
                      refine lv_goto (tgt := 66) hx hb dX8_haste_102 (by decide) ?_
                      refine lv_iload hx hb dX8_haste_66 (lv_at hl 0 rfl) ?_
                      refine lv_bipush (v := 10) hx hb dX8_haste_68 (by decide) ?_
                      refine lv_icmp_ge (tgt := 105) hx hb dX8_haste_70 (by decide) (fun c_215 => ?_) (fun c_215 => ?_)
                      · exact absurd c_215 (by decide)
                      · refine lv_aload_n hx hb dX8_haste_73 rfl (lv_at hl 4 rfl) ?_
                        refine lv_iload_n hx hb dX8_haste_74 rfl (lv_at hl 5 rfl) ?_
                        refine lv_iload hx hb dX8_haste_75 (lv_at hl 0 rfl) ?_
                        skip
                        refine zw_V (As := [.int 4, .int 2]) (rest := []) (wr := [(mrf, .inl (cI, 8, .inl (fun _ => 0)))]) ⟨hx, hb, hml, hown, hts⟩ (c_M_casesIn_4 l D cI cJ cZ cP cS m0 mrf mki mpa mta mla msl mco mhe mso msi msh mce mca mwo mnu mte mwa mke mma mth mtr (2)  H.size) (cwV 2 hts gX8_haste_X8_casesIn rfl rfl rfl (by decide +kernel) ⟨Nat.le_of_ble_eq_true rfl, Nat.le_of_ble_eq_true rfl⟩) hK hN (hZ.kept hS) hP hD hS hA [1] [0] rfl rfl (by decide) (by decide) (by decide) (va_recv hK hP (ci := 8) (q0 := 1) rfl rfl) rfl hl.1 rfl (Nat.le_of_ble_eq_true rfl) dX8_haste_77 ⟨Nat.le_of_ble_eq_true rfl, Nat.le_of_ble_eq_true rfl⟩ (fun r_216 u_217 H locs hr_216 hP hD hS => ?_)
                        replace hP : va_P D vwCl [(mrf, .inl (cI, 8, .inl (fun _ => 0))), (m0, .inr (8, (.int 0 :: .int 20 :: .int 0 :: .int 0 :: .int 0 :: .int 60 :: .int 0 :: .int 3 :: .int 1 :: .int (-1) :: .ref mrf :: .ref mki :: .ref mpa :: .ref mta :: .ref mla :: .ref msl :: .ref mco :: .ref mhe :: .ref mso :: .ref msi :: .ref msh :: .ref mce :: .ref mca :: .ref mwo :: .ref mnu :: .ref mte :: .int 0 :: .int 0 :: .int 0 :: .int 0 :: .int 0 :: .ref mwa :: .ref mke :: .ref mma :: .ref mth :: .ref mtr :: .int 0 :: .int 0 :: [])))] H := hP
                        replace hD : va_D _ [(mrf, .inl (cI, 8, .inl (fun _ => 0))), (m0, .inr (8, (.int 0 :: .int 20 :: .int 0 :: .int 0 :: .int 0 :: .int 60 :: .int 0 :: .int 3 :: .int 1 :: .int (-1) :: .ref mrf :: .ref mki :: .ref mpa :: .ref mta :: .ref mla :: .ref msl :: .ref mco :: .ref mhe :: .ref mso :: .ref msi :: .ref msh :: .ref mce :: .ref mca :: .ref mwo :: .ref mnu :: .ref mte :: .int 0 :: .int 0 :: .int 0 :: .int 0 :: .int 0 :: .ref mwa :: .ref mke :: .ref mma :: .ref mth :: .ref mtr :: .int 0 :: .int 0 :: [])))] := hD
                        obtain rfl := hr_216
                        refine lv_istore (lv' := [(6, .int 20736), (5, .int 2), (4, .int 20736), (3, .int 0), (0, .ref m0), (1, .int 4), (2, .int w)]) hx hb dX8_haste_80 hl (by decide) rfl (fun ls hl => ?_)
                        refine lv_iload hx hb dX8_haste_82 (lv_at hl 0 rfl) ?_
                        refine lv_iload hx hb dX8_haste_84 (lv_at hl 2 rfl) ?_
                        refine lv_icmp_gt (tgt := 92) hx hb dX8_haste_86 (by decide) (fun c_218 => ?_) (fun c_218 => ?_)
                        · exact absurd c_218 (by decide)
                        · refine lv_goto (tgt := 99) hx hb dX8_haste_89 (by decide) ?_
                          refine lv_iinc (v := 3) (lv' := [(5, .int 3), (6, .int 20736), (4, .int 20736), (3, .int 0), (0, .ref m0), (1, .int 4), (2, .int w)]) hx hb dX8_haste_99 hl (k := 1) rfl (by decide) (by decide) rfl (fun ls hl => ?_)
                          refine lv_goto (tgt := 66) hx hb dX8_haste_102 (by decide) ?_
                          refine lv_iload hx hb dX8_haste_66 (lv_at hl 0 rfl) ?_
                          refine lv_bipush (v := 10) hx hb dX8_haste_68 (by decide) ?_
                          refine lv_icmp_ge (tgt := 105) hx hb dX8_haste_70 (by decide) (fun c_219 => ?_) (fun c_219 => ?_)
                          · exact absurd c_219 (by decide)
                          · refine lv_aload_n hx hb dX8_haste_73 rfl (lv_at hl 4 rfl) ?_
                            refine lv_iload_n hx hb dX8_haste_74 rfl (lv_at hl 5 rfl) ?_
                            refine lv_iload hx hb dX8_haste_75 (lv_at hl 0 rfl) ?_
                            skip
                            refine zw_V (As := [.int 4, .int 3]) (rest := []) (wr := [(mrf, .inl (cI, 8, .inl (fun _ => 0)))]) ⟨hx, hb, hml, hown, hts⟩ (c_M_casesIn_4 l D cI cJ cZ cP cS m0 mrf mki mpa mta mla msl mco mhe mso msi msh mce mca mwo mnu mte mwa mke mma mth mtr (3)  H.size) (cwV 2 hts gX8_haste_X8_casesIn rfl rfl rfl (by decide +kernel) ⟨Nat.le_of_ble_eq_true rfl, Nat.le_of_ble_eq_true rfl⟩) hK hN (hZ.kept hS) hP hD hS hA [1] [0] rfl rfl (by decide) (by decide) (by decide) (va_recv hK hP (ci := 8) (q0 := 1) rfl rfl) rfl hl.1 rfl (Nat.le_of_ble_eq_true rfl) dX8_haste_77 ⟨Nat.le_of_ble_eq_true rfl, Nat.le_of_ble_eq_true rfl⟩ (fun r_220 u_221 H locs hr_220 hP hD hS => ?_)
                            replace hP : va_P D vwCl [(mrf, .inl (cI, 8, .inl (fun _ => 0))), (m0, .inr (8, (.int 0 :: .int 20 :: .int 0 :: .int 0 :: .int 0 :: .int 60 :: .int 0 :: .int 3 :: .int 1 :: .int (-1) :: .ref mrf :: .ref mki :: .ref mpa :: .ref mta :: .ref mla :: .ref msl :: .ref mco :: .ref mhe :: .ref mso :: .ref msi :: .ref msh :: .ref mce :: .ref mca :: .ref mwo :: .ref mnu :: .ref mte :: .int 0 :: .int 0 :: .int 0 :: .int 0 :: .int 0 :: .ref mwa :: .ref mke :: .ref mma :: .ref mth :: .ref mtr :: .int 0 :: .int 0 :: [])))] H := hP
                            replace hD : va_D _ [(mrf, .inl (cI, 8, .inl (fun _ => 0))), (m0, .inr (8, (.int 0 :: .int 20 :: .int 0 :: .int 0 :: .int 0 :: .int 60 :: .int 0 :: .int 3 :: .int 1 :: .int (-1) :: .ref mrf :: .ref mki :: .ref mpa :: .ref mta :: .ref mla :: .ref msl :: .ref mco :: .ref mhe :: .ref mso :: .ref msi :: .ref msh :: .ref mce :: .ref mca :: .ref mwo :: .ref mnu :: .ref mte :: .int 0 :: .int 0 :: .int 0 :: .int 0 :: .int 0 :: .ref mwa :: .ref mke :: .ref mma :: .ref mth :: .ref mtr :: .int 0 :: .int 0 :: [])))] := hD
                            obtain rfl := hr_220
                            refine lv_istore (lv' := [(6, .int 20736), (5, .int 3), (4, .int 20736), (3, .int 0), (0, .ref m0), (1, .int 4), (2, .int w)]) hx hb dX8_haste_80 hl (by decide) rfl (fun ls hl => ?_)
                            refine lv_iload hx hb dX8_haste_82 (lv_at hl 0 rfl) ?_
                            refine lv_iload hx hb dX8_haste_84 (lv_at hl 2 rfl) ?_
                            refine lv_icmp_gt (tgt := 92) hx hb dX8_haste_86 (by decide) (fun c_222 => ?_) (fun c_222 => ?_)
                            · exact absurd c_222 (by decide)
                            · refine lv_goto (tgt := 99) hx hb dX8_haste_89 (by decide) ?_
                              refine lv_iinc (v := 4) (lv' := [(5, .int 4), (6, .int 20736), (4, .int 20736), (3, .int 0), (0, .ref m0), (1, .int 4), (2, .int w)]) hx hb dX8_haste_99 hl (k := 1) rfl (by decide) (by decide) rfl (fun ls hl => ?_)
                              refine lv_goto (tgt := 66) hx hb dX8_haste_102 (by decide) ?_
                              refine lv_iload hx hb dX8_haste_66 (lv_at hl 0 rfl) ?_
                              refine lv_bipush (v := 10) hx hb dX8_haste_68 (by decide) ?_
                              refine lv_icmp_ge (tgt := 105) hx hb dX8_haste_70 (by decide) (fun c_223 => ?_) (fun c_223 => ?_)
                              · exact absurd c_223 (by decide)
                              · refine lv_aload_n hx hb dX8_haste_73 rfl (lv_at hl 4 rfl) ?_
                                refine lv_iload_n hx hb dX8_haste_74 rfl (lv_at hl 5 rfl) ?_
                                refine lv_iload hx hb dX8_haste_75 (lv_at hl 0 rfl) ?_
                                skip
                                refine zw_V (As := [.int 4, .int 4]) (rest := []) (wr := [(mrf, .inl (cI, 8, .inl (fun _ => 0)))]) ⟨hx, hb, hml, hown, hts⟩ (c_M_casesIn_4 l D cI cJ cZ cP cS m0 mrf mki mpa mta mla msl mco mhe mso msi msh mce mca mwo mnu mte mwa mke mma mth mtr (4)  H.size) (cwV 2 hts gX8_haste_X8_casesIn rfl rfl rfl (by decide +kernel) ⟨Nat.le_of_ble_eq_true rfl, Nat.le_of_ble_eq_true rfl⟩) hK hN (hZ.kept hS) hP hD hS hA [1] [0] rfl rfl (by decide) (by decide) (by decide) (va_recv hK hP (ci := 8) (q0 := 1) rfl rfl) rfl hl.1 rfl (Nat.le_of_ble_eq_true rfl) dX8_haste_77 ⟨Nat.le_of_ble_eq_true rfl, Nat.le_of_ble_eq_true rfl⟩ (fun r_224 u_225 H locs hr_224 hP hD hS => ?_)
                                replace hP : va_P D vwCl [(mrf, .inl (cI, 8, .inl (fun _ => 0))), (m0, .inr (8, (.int 0 :: .int 20 :: .int 0 :: .int 0 :: .int 0 :: .int 60 :: .int 0 :: .int 3 :: .int 1 :: .int (-1) :: .ref mrf :: .ref mki :: .ref mpa :: .ref mta :: .ref mla :: .ref msl :: .ref mco :: .ref mhe :: .ref mso :: .ref msi :: .ref msh :: .ref mce :: .ref mca :: .ref mwo :: .ref mnu :: .ref mte :: .int 0 :: .int 0 :: .int 0 :: .int 0 :: .int 0 :: .ref mwa :: .ref mke :: .ref mma :: .ref mth :: .ref mtr :: .int 0 :: .int 0 :: [])))] H := hP
                                replace hD : va_D _ [(mrf, .inl (cI, 8, .inl (fun _ => 0))), (m0, .inr (8, (.int 0 :: .int 20 :: .int 0 :: .int 0 :: .int 0 :: .int 60 :: .int 0 :: .int 3 :: .int 1 :: .int (-1) :: .ref mrf :: .ref mki :: .ref mpa :: .ref mta :: .ref mla :: .ref msl :: .ref mco :: .ref mhe :: .ref mso :: .ref msi :: .ref msh :: .ref mce :: .ref mca :: .ref mwo :: .ref mnu :: .ref mte :: .int 0 :: .int 0 :: .int 0 :: .int 0 :: .int 0 :: .ref mwa :: .ref mke :: .ref mma :: .ref mth :: .ref mtr :: .int 0 :: .int 0 :: [])))] := hD
                                obtain rfl := hr_224
                                refine lv_istore (lv' := [(6, .int 20736), (5, .int 4), (4, .int 20736), (3, .int 0), (0, .ref m0), (1, .int 4), (2, .int w)]) hx hb dX8_haste_80 hl (by decide) rfl (fun ls hl => ?_)
                                refine lv_iload hx hb dX8_haste_82 (lv_at hl 0 rfl) ?_
                                refine lv_iload hx hb dX8_haste_84 (lv_at hl 2 rfl) ?_
                                refine lv_icmp_gt (tgt := 92) hx hb dX8_haste_86 (by decide) (fun c_226 => ?_) (fun c_226 => ?_)
                                · exact absurd c_226 (by decide)
                                · refine lv_goto (tgt := 99) hx hb dX8_haste_89 (by decide) ?_
                                  refine lv_iinc (v := 5) (lv' := [(5, .int 5), (6, .int 20736), (4, .int 20736), (3, .int 0), (0, .ref m0), (1, .int 4), (2, .int w)]) hx hb dX8_haste_99 hl (k := 1) rfl (by decide) (by decide) rfl (fun ls hl => ?_)
                                  refine lv_goto (tgt := 66) hx hb dX8_haste_102 (by decide) ?_
                                  refine lv_iload hx hb dX8_haste_66 (lv_at hl 0 rfl) ?_
                                  refine lv_bipush (v := 10) hx hb dX8_haste_68 (by decide) ?_
                                  refine lv_icmp_ge (tgt := 105) hx hb dX8_haste_70 (by decide) (fun c_227 => ?_) (fun c_227 => ?_)
                                  · exact absurd c_227 (by decide)
                                  · refine lv_aload_n hx hb dX8_haste_73 rfl (lv_at hl 4 rfl) ?_
                                    refine lv_iload_n hx hb dX8_haste_74 rfl (lv_at hl 5 rfl) ?_
                                    refine lv_iload hx hb dX8_haste_75 (lv_at hl 0 rfl) ?_
                                    skip
                                    refine zw_V (As := [.int 4, .int 5]) (rest := []) (wr := [(mrf, .inl (cI, 8, .inl (fun _ => 0)))]) ⟨hx, hb, hml, hown, hts⟩ (c_M_casesIn_4 l D cI cJ cZ cP cS m0 mrf mki mpa mta mla msl mco mhe mso msi msh mce mca mwo mnu mte mwa mke mma mth mtr (5)  H.size) (cwV 2 hts gX8_haste_X8_casesIn rfl rfl rfl (by decide +kernel) ⟨Nat.le_of_ble_eq_true rfl, Nat.le_of_ble_eq_true rfl⟩) hK hN (hZ.kept hS) hP hD hS hA [1] [0] rfl rfl (by decide) (by decide) (by decide) (va_recv hK hP (ci := 8) (q0 := 1) rfl rfl) rfl hl.1 rfl (Nat.le_of_ble_eq_true rfl) dX8_haste_77 ⟨Nat.le_of_ble_eq_true rfl, Nat.le_of_ble_eq_true rfl⟩ (fun r_228 u_229 H locs hr_228 hP hD hS => ?_)
                                    replace hP : va_P D vwCl [(mrf, .inl (cI, 8, .inl (fun _ => 0))), (m0, .inr (8, (.int 0 :: .int 20 :: .int 0 :: .int 0 :: .int 0 :: .int 60 :: .int 0 :: .int 3 :: .int 1 :: .int (-1) :: .ref mrf :: .ref mki :: .ref mpa :: .ref mta :: .ref mla :: .ref msl :: .ref mco :: .ref mhe :: .ref mso :: .ref msi :: .ref msh :: .ref mce :: .ref mca :: .ref mwo :: .ref mnu :: .ref mte :: .int 0 :: .int 0 :: .int 0 :: .int 0 :: .int 0 :: .ref mwa :: .ref mke :: .ref mma :: .ref mth :: .ref mtr :: .int 0 :: .int 0 :: [])))] H := hP
                                    replace hD : va_D _ [(mrf, .inl (cI, 8, .inl (fun _ => 0))), (m0, .inr (8, (.int 0 :: .int 20 :: .int 0 :: .int 0 :: .int 0 :: .int 60 :: .int 0 :: .int 3 :: .int 1 :: .int (-1) :: .ref mrf :: .ref mki :: .ref mpa :: .ref mta :: .ref mla :: .ref msl :: .ref mco :: .ref mhe :: .ref mso :: .ref msi :: .ref msh :: .ref mce :: .ref mca :: .ref mwo :: .ref mnu :: .ref mte :: .int 0 :: .int 0 :: .int 0 :: .int 0 :: .int 0 :: .ref mwa :: .ref mke :: .ref mma :: .ref mth :: .ref mtr :: .int 0 :: .int 0 :: [])))] := hD
                                    obtain rfl := hr_228
                                    refine lv_istore (lv' := [(6, .int 20736), (5, .int 5), (4, .int 20736), (3, .int 0), (0, .ref m0), (1, .int 4), (2, .int w)]) hx hb dX8_haste_80 hl (by decide) rfl (fun ls hl => ?_)
                                    refine lv_iload hx hb dX8_haste_82 (lv_at hl 0 rfl) ?_
                                    refine lv_iload hx hb dX8_haste_84 (lv_at hl 2 rfl) ?_
                                    refine lv_icmp_gt (tgt := 92) hx hb dX8_haste_86 (by decide) (fun c_230 => ?_) (fun c_230 => ?_)
                                    · exact absurd c_230 (by decide)
                                    · refine lv_goto (tgt := 99) hx hb dX8_haste_89 (by decide) ?_
                                      refine lv_iinc (v := 6) (lv' := [(5, .int 6), (6, .int 20736), (4, .int 20736), (3, .int 0), (0, .ref m0), (1, .int 4), (2, .int w)]) hx hb dX8_haste_99 hl (k := 1) rfl (by decide) (by decide) rfl (fun ls hl => ?_)
                                      refine lv_goto (tgt := 66) hx hb dX8_haste_102 (by decide) ?_
                                      refine lv_iload hx hb dX8_haste_66 (lv_at hl 0 rfl) ?_
                                      refine lv_bipush (v := 10) hx hb dX8_haste_68 (by decide) ?_
                                      refine lv_icmp_ge (tgt := 105) hx hb dX8_haste_70 (by decide) (fun c_231 => ?_) (fun c_231 => ?_)
                                      · exact absurd c_231 (by decide)
                                      · refine lv_aload_n hx hb dX8_haste_73 rfl (lv_at hl 4 rfl) ?_
                                        refine lv_iload_n hx hb dX8_haste_74 rfl (lv_at hl 5 rfl) ?_
                                        refine lv_iload hx hb dX8_haste_75 (lv_at hl 0 rfl) ?_
                                        skip
                                        refine zw_V (As := [.int 4, .int 6]) (rest := []) (wr := [(mrf, .inl (cI, 8, .inl (fun _ => 0)))]) ⟨hx, hb, hml, hown, hts⟩ (c_M_casesIn_4 l D cI cJ cZ cP cS m0 mrf mki mpa mta mla msl mco mhe mso msi msh mce mca mwo mnu mte mwa mke mma mth mtr (6)  H.size) (cwV 2 hts gX8_haste_X8_casesIn rfl rfl rfl (by decide +kernel) ⟨Nat.le_of_ble_eq_true rfl, Nat.le_of_ble_eq_true rfl⟩) hK hN (hZ.kept hS) hP hD hS hA [1] [0] rfl rfl (by decide) (by decide) (by decide) (va_recv hK hP (ci := 8) (q0 := 1) rfl rfl) rfl hl.1 rfl (Nat.le_of_ble_eq_true rfl) dX8_haste_77 ⟨Nat.le_of_ble_eq_true rfl, Nat.le_of_ble_eq_true rfl⟩ (fun r_232 u_233 H locs hr_232 hP hD hS => ?_)
                                        replace hP : va_P D vwCl [(mrf, .inl (cI, 8, .inl (fun _ => 0))), (m0, .inr (8, (.int 0 :: .int 20 :: .int 0 :: .int 0 :: .int 0 :: .int 60 :: .int 0 :: .int 3 :: .int 1 :: .int (-1) :: .ref mrf :: .ref mki :: .ref mpa :: .ref mta :: .ref mla :: .ref msl :: .ref mco :: .ref mhe :: .ref mso :: .ref msi :: .ref msh :: .ref mce :: .ref mca :: .ref mwo :: .ref mnu :: .ref mte :: .int 0 :: .int 0 :: .int 0 :: .int 0 :: .int 0 :: .ref mwa :: .ref mke :: .ref mma :: .ref mth :: .ref mtr :: .int 0 :: .int 0 :: [])))] H := hP
                                        replace hD : va_D _ [(mrf, .inl (cI, 8, .inl (fun _ => 0))), (m0, .inr (8, (.int 0 :: .int 20 :: .int 0 :: .int 0 :: .int 0 :: .int 60 :: .int 0 :: .int 3 :: .int 1 :: .int (-1) :: .ref mrf :: .ref mki :: .ref mpa :: .ref mta :: .ref mla :: .ref msl :: .ref mco :: .ref mhe :: .ref mso :: .ref msi :: .ref msh :: .ref mce :: .ref mca :: .ref mwo :: .ref mnu :: .ref mte :: .int 0 :: .int 0 :: .int 0 :: .int 0 :: .int 0 :: .ref mwa :: .ref mke :: .ref mma :: .ref mth :: .ref mtr :: .int 0 :: .int 0 :: [])))] := hD
                                        obtain rfl := hr_232
                                        refine lv_istore (lv' := [(6, .int 20736), (5, .int 6), (4, .int 20736), (3, .int 0), (0, .ref m0), (1, .int 4), (2, .int w)]) hx hb dX8_haste_80 hl (by decide) rfl (fun ls hl => ?_)
                                        refine lv_iload hx hb dX8_haste_82 (lv_at hl 0 rfl) ?_
                                        refine lv_iload hx hb dX8_haste_84 (lv_at hl 2 rfl) ?_
                                        refine lv_icmp_gt (tgt := 92) hx hb dX8_haste_86 (by decide) (fun c_234 => ?_) (fun c_234 => ?_)
                                        · exact absurd c_234 (by decide)
                                        · refine lv_goto (tgt := 99) hx hb dX8_haste_89 (by decide) ?_
                                          refine lv_iinc (v := 7) (lv' := [(5, .int 7), (6, .int 20736), (4, .int 20736), (3, .int 0), (0, .ref m0), (1, .int 4), (2, .int w)]) hx hb dX8_haste_99 hl (k := 1) rfl (by decide) (by decide) rfl (fun ls hl => ?_)
                                          refine lv_goto (tgt := 66) hx hb dX8_haste_102 (by decide) ?_
                                          refine lv_iload hx hb dX8_haste_66 (lv_at hl 0 rfl) ?_
                                          refine lv_bipush (v := 10) hx hb dX8_haste_68 (by decide) ?_
                                          refine lv_icmp_ge (tgt := 105) hx hb dX8_haste_70 (by decide) (fun c_235 => ?_) (fun c_235 => ?_)
                                          · exact absurd c_235 (by decide)
                                          · refine lv_aload_n hx hb dX8_haste_73 rfl (lv_at hl 4 rfl) ?_
                                            refine lv_iload_n hx hb dX8_haste_74 rfl (lv_at hl 5 rfl) ?_
                                            refine lv_iload hx hb dX8_haste_75 (lv_at hl 0 rfl) ?_
                                            skip
                                            refine zw_V (As := [.int 4, .int 7]) (rest := []) (wr := [(mrf, .inl (cI, 8, .inl (fun _ => 0)))]) ⟨hx, hb, hml, hown, hts⟩ (c_M_casesIn_4 l D cI cJ cZ cP cS m0 mrf mki mpa mta mla msl mco mhe mso msi msh mce mca mwo mnu mte mwa mke mma mth mtr (7)  H.size) (cwV 2 hts gX8_haste_X8_casesIn rfl rfl rfl (by decide +kernel) ⟨Nat.le_of_ble_eq_true rfl, Nat.le_of_ble_eq_true rfl⟩) hK hN (hZ.kept hS) hP hD hS hA [1] [0] rfl rfl (by decide) (by decide) (by decide) (va_recv hK hP (ci := 8) (q0 := 1) rfl rfl) rfl hl.1 rfl (Nat.le_of_ble_eq_true rfl) dX8_haste_77 ⟨Nat.le_of_ble_eq_true rfl, Nat.le_of_ble_eq_true rfl⟩ (fun r_236 u_237 H locs hr_236 hP hD hS => ?_)
                                            replace hP : va_P D vwCl [(mrf, .inl (cI, 8, .inl (fun _ => 0))), (m0, .inr (8, (.int 0 :: .int 20 :: .int 0 :: .int 0 :: .int 0 :: .int 60 :: .int 0 :: .int 3 :: .int 1 :: .int (-1) :: .ref mrf :: .ref mki :: .ref mpa :: .ref mta :: .ref mla :: .ref msl :: .ref mco :: .ref mhe :: .ref mso :: .ref msi :: .ref msh :: .ref mce :: .ref mca :: .ref mwo :: .ref mnu :: .ref mte :: .int 0 :: .int 0 :: .int 0 :: .int 0 :: .int 0 :: .ref mwa :: .ref mke :: .ref mma :: .ref mth :: .ref mtr :: .int 0 :: .int 0 :: [])))] H := hP
                                            replace hD : va_D _ [(mrf, .inl (cI, 8, .inl (fun _ => 0))), (m0, .inr (8, (.int 0 :: .int 20 :: .int 0 :: .int 0 :: .int 0 :: .int 60 :: .int 0 :: .int 3 :: .int 1 :: .int (-1) :: .ref mrf :: .ref mki :: .ref mpa :: .ref mta :: .ref mla :: .ref msl :: .ref mco :: .ref mhe :: .ref mso :: .ref msi :: .ref msh :: .ref mce :: .ref mca :: .ref mwo :: .ref mnu :: .ref mte :: .int 0 :: .int 0 :: .int 0 :: .int 0 :: .int 0 :: .ref mwa :: .ref mke :: .ref mma :: .ref mth :: .ref mtr :: .int 0 :: .int 0 :: [])))] := hD
                                            obtain rfl := hr_236
                                            refine lv_istore (lv' := [(6, .int 20736), (5, .int 7), (4, .int 20736), (3, .int 0), (0, .ref m0), (1, .int 4), (2, .int w)]) hx hb dX8_haste_80 hl (by decide) rfl (fun ls hl => ?_)
                                            refine lv_iload hx hb dX8_haste_82 (lv_at hl 0 rfl) ?_
                                            refine lv_iload hx hb dX8_haste_84 (lv_at hl 2 rfl) ?_
                                            refine lv_icmp_gt (tgt := 92) hx hb dX8_haste_86 (by decide) (fun c_238 => ?_) (fun c_238 => ?_)
                                            · exact absurd c_238 (by decide)
                                            · refine lv_goto (tgt := 99) hx hb dX8_haste_89 (by decide) ?_
                                              refine lv_iinc (v := 8) (lv' := [(5, .int 8), (6, .int 20736), (4, .int 20736), (3, .int 0), (0, .ref m0), (1, .int 4), (2, .int w)]) hx hb dX8_haste_99 hl (k := 1) rfl (by decide) (by decide) rfl (fun ls hl => ?_)
                                              refine lv_goto (tgt := 66) hx hb dX8_haste_102 (by decide) ?_
                                              refine lv_iload hx hb dX8_haste_66 (lv_at hl 0 rfl) ?_
                                              refine lv_bipush (v := 10) hx hb dX8_haste_68 (by decide) ?_
                                              refine lv_icmp_ge (tgt := 105) hx hb dX8_haste_70 (by decide) (fun c_239 => ?_) (fun c_239 => ?_)
                                              · exact absurd c_239 (by decide)
                                              · refine lv_aload_n hx hb dX8_haste_73 rfl (lv_at hl 4 rfl) ?_
                                                refine lv_iload_n hx hb dX8_haste_74 rfl (lv_at hl 5 rfl) ?_
                                                refine lv_iload hx hb dX8_haste_75 (lv_at hl 0 rfl) ?_
                                                skip
                                                refine zw_V (As := [.int 4, .int 8]) (rest := []) (wr := [(mrf, .inl (cI, 8, .inl (fun _ => 0)))]) ⟨hx, hb, hml, hown, hts⟩ (c_M_casesIn_4 l D cI cJ cZ cP cS m0 mrf mki mpa mta mla msl mco mhe mso msi msh mce mca mwo mnu mte mwa mke mma mth mtr (8)  H.size) (cwV 2 hts gX8_haste_X8_casesIn rfl rfl rfl (by decide +kernel) ⟨Nat.le_of_ble_eq_true rfl, Nat.le_of_ble_eq_true rfl⟩) hK hN (hZ.kept hS) hP hD hS hA [1] [0] rfl rfl (by decide) (by decide) (by decide) (va_recv hK hP (ci := 8) (q0 := 1) rfl rfl) rfl hl.1 rfl (Nat.le_of_ble_eq_true rfl) dX8_haste_77 ⟨Nat.le_of_ble_eq_true rfl, Nat.le_of_ble_eq_true rfl⟩ (fun r_240 u_241 H locs hr_240 hP hD hS => ?_)
                                                replace hP : va_P D vwCl [(mrf, .inl (cI, 8, .inl (fun _ => 0))), (m0, .inr (8, (.int 0 :: .int 20 :: .int 0 :: .int 0 :: .int 0 :: .int 60 :: .int 0 :: .int 3 :: .int 1 :: .int (-1) :: .ref mrf :: .ref mki :: .ref mpa :: .ref mta :: .ref mla :: .ref msl :: .ref mco :: .ref mhe :: .ref mso :: .ref msi :: .ref msh :: .ref mce :: .ref mca :: .ref mwo :: .ref mnu :: .ref mte :: .int 0 :: .int 0 :: .int 0 :: .int 0 :: .int 0 :: .ref mwa :: .ref mke :: .ref mma :: .ref mth :: .ref mtr :: .int 0 :: .int 0 :: [])))] H := hP
                                                replace hD : va_D _ [(mrf, .inl (cI, 8, .inl (fun _ => 0))), (m0, .inr (8, (.int 0 :: .int 20 :: .int 0 :: .int 0 :: .int 0 :: .int 60 :: .int 0 :: .int 3 :: .int 1 :: .int (-1) :: .ref mrf :: .ref mki :: .ref mpa :: .ref mta :: .ref mla :: .ref msl :: .ref mco :: .ref mhe :: .ref mso :: .ref msi :: .ref msh :: .ref mce :: .ref mca :: .ref mwo :: .ref mnu :: .ref mte :: .int 0 :: .int 0 :: .int 0 :: .int 0 :: .int 0 :: .ref mwa :: .ref mke :: .ref mma :: .ref mth :: .ref mtr :: .int 0 :: .int 0 :: [])))] := hD
                                                obtain rfl := hr_240
                                                refine lv_istore (lv' := [(6, .int 20736), (5, .int 8), (4, .int 20736), (3, .int 0), (0, .ref m0), (1, .int 4), (2, .int w)]) hx hb dX8_haste_80 hl (by decide) rfl (fun ls hl => ?_)
                                                refine lv_iload hx hb dX8_haste_82 (lv_at hl 0 rfl) ?_
                                                refine lv_iload hx hb dX8_haste_84 (lv_at hl 2 rfl) ?_
                                                refine lv_icmp_gt (tgt := 92) hx hb dX8_haste_86 (by decide) (fun c_242 => ?_) (fun c_242 => ?_)
                                                · exact absurd c_242 (by decide)
                                                · refine lv_goto (tgt := 99) hx hb dX8_haste_89 (by decide) ?_
                                                  refine lv_iinc (v := 9) (lv' := [(5, .int 9), (6, .int 20736), (4, .int 20736), (3, .int 0), (0, .ref m0), (1, .int 4), (2, .int w)]) hx hb dX8_haste_99 hl (k := 1) rfl (by decide) (by decide) rfl (fun ls hl => ?_)
                                                  refine lv_goto (tgt := 66) hx hb dX8_haste_102 (by decide) ?_
                                                  refine lv_iload hx hb dX8_haste_66 (lv_at hl 0 rfl) ?_
                                                  refine lv_bipush (v := 10) hx hb dX8_haste_68 (by decide) ?_
                                                  refine lv_icmp_ge (tgt := 105) hx hb dX8_haste_70 (by decide) (fun c_243 => ?_) (fun c_243 => ?_)
                                                  · exact absurd c_243 (by decide)
                                                  · refine lv_aload_n hx hb dX8_haste_73 rfl (lv_at hl 4 rfl) ?_
                                                    refine lv_iload_n hx hb dX8_haste_74 rfl (lv_at hl 5 rfl) ?_
                                                    refine lv_iload hx hb dX8_haste_75 (lv_at hl 0 rfl) ?_
                                                    skip
                                                    refine zw_V (As := [.int 4, .int 9]) (rest := []) (wr := [(mrf, .inl (cI, 8, .inl (fun _ => 0)))]) ⟨hx, hb, hml, hown, hts⟩ (c_M_casesIn_4 l D cI cJ cZ cP cS m0 mrf mki mpa mta mla msl mco mhe mso msi msh mce mca mwo mnu mte mwa mke mma mth mtr (9)  H.size) (cwV 2 hts gX8_haste_X8_casesIn rfl rfl rfl (by decide +kernel) ⟨Nat.le_of_ble_eq_true rfl, Nat.le_of_ble_eq_true rfl⟩) hK hN (hZ.kept hS) hP hD hS hA [1] [0] rfl rfl (by decide) (by decide) (by decide) (va_recv hK hP (ci := 8) (q0 := 1) rfl rfl) rfl hl.1 rfl (Nat.le_of_ble_eq_true rfl) dX8_haste_77 ⟨Nat.le_of_ble_eq_true rfl, Nat.le_of_ble_eq_true rfl⟩ (fun r_244 u_245 H locs hr_244 hP hD hS => ?_)
                                                    replace hP : va_P D vwCl [(mrf, .inl (cI, 8, .inl (fun _ => 0))), (m0, .inr (8, (.int 0 :: .int 20 :: .int 0 :: .int 0 :: .int 0 :: .int 60 :: .int 0 :: .int 3 :: .int 1 :: .int (-1) :: .ref mrf :: .ref mki :: .ref mpa :: .ref mta :: .ref mla :: .ref msl :: .ref mco :: .ref mhe :: .ref mso :: .ref msi :: .ref msh :: .ref mce :: .ref mca :: .ref mwo :: .ref mnu :: .ref mte :: .int 0 :: .int 0 :: .int 0 :: .int 0 :: .int 0 :: .ref mwa :: .ref mke :: .ref mma :: .ref mth :: .ref mtr :: .int 0 :: .int 0 :: [])))] H := hP
                                                    replace hD : va_D _ [(mrf, .inl (cI, 8, .inl (fun _ => 0))), (m0, .inr (8, (.int 0 :: .int 20 :: .int 0 :: .int 0 :: .int 0 :: .int 60 :: .int 0 :: .int 3 :: .int 1 :: .int (-1) :: .ref mrf :: .ref mki :: .ref mpa :: .ref mta :: .ref mla :: .ref msl :: .ref mco :: .ref mhe :: .ref mso :: .ref msi :: .ref msh :: .ref mce :: .ref mca :: .ref mwo :: .ref mnu :: .ref mte :: .int 0 :: .int 0 :: .int 0 :: .int 0 :: .int 0 :: .ref mwa :: .ref mke :: .ref mma :: .ref mth :: .ref mtr :: .int 0 :: .int 0 :: [])))] := hD
                                                    obtain rfl := hr_244
                                                    refine lv_istore (lv' := [(6, .int 20736), (5, .int 9), (4, .int 20736), (3, .int 0), (0, .ref m0), (1, .int 4), (2, .int w)]) hx hb dX8_haste_80 hl (by decide) rfl (fun ls hl => ?_)
                                                    refine lv_iload hx hb dX8_haste_82 (lv_at hl 0 rfl) ?_
                                                    refine lv_iload hx hb dX8_haste_84 (lv_at hl 2 rfl) ?_
                                                    refine lv_icmp_gt (tgt := 92) hx hb dX8_haste_86 (by decide) (fun c_246 => ?_) (fun c_246 => ?_)
                                                    · exact absurd c_246 (by decide)
                                                    · refine lv_goto (tgt := 99) hx hb dX8_haste_89 (by decide) ?_
                                                      refine lv_iinc (v := 10) (lv' := [(5, .int 10), (6, .int 20736), (4, .int 20736), (3, .int 0), (0, .ref m0), (1, .int 4), (2, .int w)]) hx hb dX8_haste_99 hl (k := 1) rfl (by decide) (by decide) rfl (fun ls hl => ?_)
                                                      refine lv_goto (tgt := 66) hx hb dX8_haste_102 (by decide) ?_
                                                      refine lv_iload hx hb dX8_haste_66 (lv_at hl 0 rfl) ?_
                                                      refine lv_bipush (v := 10) hx hb dX8_haste_68 (by decide) ?_
                                                      refine lv_icmp_ge (tgt := 105) hx hb dX8_haste_70 (by decide) (fun c_247 => ?_) (fun c_247 => ?_)
                                                      · refine lv_iload_n hx hb dX8_haste_105 rfl (lv_at hl 3 rfl) ?_
                                                        exact W.iret (v := 0) hx hb hr (fun t ht hW => ⟨⟨0, (), rfl, Or.inr (Or.inr (Or.inr (Or.inr (Or.inr (Or.inr (Or.inr (Or.inr (Or.inr (Or.inr (Or.inr (Or.inl (⟨rfl, (by first | omega | decide), (by first | omega | decide), (by first | omega | decide), (by first | omega | decide), (by first | omega | decide), (by first | omega | decide)⟩)))))))))))), zP_nil, zD_nil⟩, hS.F ht⟩) hS.2.2 dX8_haste_106
                                                      · exact absurd c_247 (by decide)
                · exact absurd c_210 (by decide)
            · have fc_206 : w.toInt = 1 := zf_eq c_206 rfl (by decide)
              refine lv_aload_n hx hb dX8_haste_36 rfl (lv_at hl 0 rfl) ?_
              refine lv_iload_n hx hb dX8_haste_37 rfl (lv_at hl 1 rfl) ?_
              refine lv_bipush (v := 9) hx hb dX8_haste_38 (by decide) ?_
              skip
              refine zw_V (As := [.int 4, .int 9]) (rest := []) (wr := [(mrf, .inl (cI, 8, .inl (fun _ => 0)))]) ⟨hx, hb, hml, hown, hts⟩ (c_M_casesIn_4 l D cI cJ cZ cP cS m0 mrf mki mpa mta mla msl mco mhe mso msi msh mce mca mwo mnu mte mwa mke mma mth mtr (9)  H.size) (cwV 2 hts gX8_haste_X8_casesIn rfl rfl rfl (by decide +kernel) ⟨Nat.le_of_ble_eq_true rfl, Nat.le_of_ble_eq_true rfl⟩) hK hN (hZ.kept hS) hP hD hS hA [0] [1] rfl rfl (by decide) (by decide) (by decide) (va_recv hK hP (ci := 8) (q0 := 0) rfl rfl) rfl hl.1 rfl (Nat.le_of_ble_eq_true rfl) dX8_haste_40 ⟨Nat.le_of_ble_eq_true rfl, Nat.le_of_ble_eq_true rfl⟩ (fun r_248 u_249 H locs hr_248 hP hD hS => ?_)
              replace hP : va_P D vwCl [(mrf, .inl (cI, 8, .inl (fun _ => 0))), (m0, .inr (8, (.int 0 :: .int 20 :: .int 0 :: .int 0 :: .int 0 :: .int 60 :: .int 0 :: .int 3 :: .int 1 :: .int (-1) :: .ref mrf :: .ref mki :: .ref mpa :: .ref mta :: .ref mla :: .ref msl :: .ref mco :: .ref mhe :: .ref mso :: .ref msi :: .ref msh :: .ref mce :: .ref mca :: .ref mwo :: .ref mnu :: .ref mte :: .int 0 :: .int 0 :: .int 0 :: .int 0 :: .int 0 :: .ref mwa :: .ref mke :: .ref mma :: .ref mth :: .ref mtr :: .int 0 :: .int 0 :: [])))] H := hP
              replace hD : va_D _ [(mrf, .inl (cI, 8, .inl (fun _ => 0))), (m0, .inr (8, (.int 0 :: .int 20 :: .int 0 :: .int 0 :: .int 0 :: .int 60 :: .int 0 :: .int 3 :: .int 1 :: .int (-1) :: .ref mrf :: .ref mki :: .ref mpa :: .ref mta :: .ref mla :: .ref msl :: .ref mco :: .ref mhe :: .ref mso :: .ref msi :: .ref msh :: .ref mce :: .ref mca :: .ref mwo :: .ref mnu :: .ref mte :: .int 0 :: .int 0 :: .int 0 :: .int 0 :: .int 0 :: .ref mwa :: .ref mke :: .ref mma :: .ref mth :: .ref mtr :: .int 0 :: .int 0 :: [])))] := hD
              obtain rfl := hr_248
              refine lv_aload_n hx hb dX8_haste_43 rfl (lv_at hl 0 rfl) ?_
              refine lv_iload_n hx hb dX8_haste_44 rfl (lv_at hl 1 rfl) ?_
              refine lv_iconst (v := 0) hx hb dX8_haste_45 (by decide) ?_
              skip
              refine zw_V (As := [.int 4, .int 0]) (rest := [.int 20736]) (wr := [(mrf, .inl (cI, 8, .inl (fun _ => 0)))]) ⟨hx, hb, hml, hown, hts⟩ (c_M_casesIn_4 l D cI cJ cZ cP cS m0 mrf mki mpa mta mla msl mco mhe mso msi msh mce mca mwo mnu mte mwa mke mma mth mtr (0)  H.size) (cwV 2 hts gX8_haste_X8_casesIn rfl rfl rfl (by decide +kernel) ⟨Nat.le_of_ble_eq_true rfl, Nat.le_of_ble_eq_true rfl⟩) hK hN (hZ.kept hS) hP hD hS hA [1] [0] rfl rfl (by decide) (by decide) (by decide) (va_recv hK hP (ci := 8) (q0 := 1) rfl rfl) rfl hl.1 rfl (Nat.le_of_ble_eq_true rfl) dX8_haste_46 ⟨Nat.le_of_ble_eq_true rfl, Nat.le_of_ble_eq_true rfl⟩ (fun r_250 u_251 H locs hr_250 hP hD hS => ?_)
              replace hP : va_P D vwCl [(mrf, .inl (cI, 8, .inl (fun _ => 0))), (m0, .inr (8, (.int 0 :: .int 20 :: .int 0 :: .int 0 :: .int 0 :: .int 60 :: .int 0 :: .int 3 :: .int 1 :: .int (-1) :: .ref mrf :: .ref mki :: .ref mpa :: .ref mta :: .ref mla :: .ref msl :: .ref mco :: .ref mhe :: .ref mso :: .ref msi :: .ref msh :: .ref mce :: .ref mca :: .ref mwo :: .ref mnu :: .ref mte :: .int 0 :: .int 0 :: .int 0 :: .int 0 :: .int 0 :: .ref mwa :: .ref mke :: .ref mma :: .ref mth :: .ref mtr :: .int 0 :: .int 0 :: [])))] H := hP
              replace hD : va_D _ [(mrf, .inl (cI, 8, .inl (fun _ => 0))), (m0, .inr (8, (.int 0 :: .int 20 :: .int 0 :: .int 0 :: .int 0 :: .int 60 :: .int 0 :: .int 3 :: .int 1 :: .int (-1) :: .ref mrf :: .ref mki :: .ref mpa :: .ref mta :: .ref mla :: .ref msl :: .ref mco :: .ref mhe :: .ref mso :: .ref msi :: .ref msh :: .ref mce :: .ref mca :: .ref mwo :: .ref mnu :: .ref mte :: .int 0 :: .int 0 :: .int 0 :: .int 0 :: .int 0 :: .ref mwa :: .ref mke :: .ref mma :: .ref mth :: .ref mtr :: .int 0 :: .int 0 :: [])))] := hD
              obtain rfl := hr_250
              refine lv_icmp_ge (tgt := 56) hx hb dX8_haste_49 (by decide) (fun c_252 => ?_) (fun c_252 => ?_)
              · refine lv_iconst (v := 0) hx hb dX8_haste_56 (by decide) ?_
                exact W.iret (v := 0) hx hb hr (fun t ht hW => ⟨⟨0, (), rfl, Or.inr (Or.inr (Or.inr (Or.inr (Or.inr (Or.inr (Or.inr (Or.inr (Or.inr (Or.inr (Or.inr (Or.inr (Or.inl (⟨rfl, (by first | omega | decide), (by first | omega | decide), (by first | omega | decide), (by first | omega | decide), (by first | omega | decide), (by first | omega | decide)⟩))))))))))))), zP_nil, zD_nil⟩, hS.F ht⟩) hS.2.2 dX8_haste_57
              · exact absurd c_252 (by decide)
        · exact absurd c_17 (by decide)
    · have fc_4 : 1 < w.toInt := zf_nle c_4 rfl (by decide)
      refine lv_aload_n hx hb dX8_haste_9 rfl (lv_at hl 0 rfl) ?_
      refine lv_bipush (v := (-5)) hx hb dX8_haste_10 (by decide) ?_
      skip
      refine zw_V (As := [.int (-5)]) (rest := []) (wr := []) ⟨hx, hb, hml, hown, hts⟩ (c_M_no_5 l D cI cJ cZ cP cS m0 mrf mki mpa mta mla msl mco mhe mso msi msh mce mca mwo mnu mte mwa mke mma mth mtr  H.size) (cwV 1 hts gX8_haste_X8_no rfl rfl rfl (by decide +kernel) ⟨Nat.le_of_ble_eq_true rfl, Nat.le_of_ble_eq_true rfl⟩) hK hN (hZ.kept hS) hP hD hS hA [0, 1] [] rfl rfl (by decide) (by decide) (by decide) (va_recv hK hP (ci := 8) (q0 := 0) rfl rfl) rfl hl.1 rfl (Nat.le_of_ble_eq_true rfl) dX8_haste_12 ⟨Nat.le_of_ble_eq_true rfl, Nat.le_of_ble_eq_true rfl⟩ (fun r_253 u_254 H locs hr_253 hP hD hS => ?_)
      replace hP : va_P D vwCl [] H := hP
      replace hD : va_D _ [] := hD
      obtain rfl := hr_253
      exact W.iret (v := (-5)) hx hb hr (fun t ht hW => ⟨⟨(-5), (), rfl, Or.inr (Or.inr (Or.inr (Or.inr (Or.inr (Or.inr (Or.inr (Or.inr (Or.inr (Or.inr (Or.inr (Or.inr (Or.inr (⟨rfl, (by first | omega | decide), (by first | omega | decide)⟩))))))))))))), zP_nil, zD_nil⟩, hS.F ht⟩) hS.2.2 dX8_haste_15
