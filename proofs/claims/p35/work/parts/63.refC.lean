set_option maxHeartbeats 4000000 in
set_option maxRecDepth 100000 in
theorem c_M_power_0 (l : Launch) (D : va_G) (cI cJ cZ cP cS : ClassId) (po : zPool) (m0 mrf mki mpa mta mla msl mco mhe mso msi msh mce mca mwo mnu mte mwa mke mma mth mtr : Nat) (npu nte nat_ nde nto nse nhu nga nsd nfa nba npl nen nnu nwr nra nik : Int32) (hy0 : 0 ≤ npu.toInt) (hy1 : npu.toInt ≤ 8) (hy2 : 4 ≤ nte.toInt) (hy3 : nte.toInt ≤ 40) (hy4 : 0 ≤ nat_.toInt) (hy5 : nat_.toInt ≤ 40) (hy6 : 0 ≤ nde.toInt) (hy7 : nde.toInt ≤ 24) (hy8 : 0 ≤ nhu.toInt) (hy9 : nhu.toInt ≤ 9) (hy10 : 0 ≤ nra.toInt) (hy11 : nra.toInt ≤ 2000) (hy12 : 0 ≤ nik.toInt) (hy13 : nik.toInt ≤ 1) : Met l yX8_power wsX8_power ({ frames := 0, cells := 0, slots := 0, locals := 0 }) (va_Pc [.ref m0, .int 0] (zR D (zKT cI cJ cZ cP cS) po [(zMO m0 npu nte nat_ nde nto nse nhu nga nsd nfa mrf mki mpa mta mla msl mco mhe mso msi msh mce mca mwo mnu mte nba npl nen nnu nwr mwa mke mma mth mtr nra nik)])) (vp_Si (fun r => r = 1)) 0 0 (fun _ => False) := by
  refine Met.ofW (cc := cX8_power) (maxL := 2) (ret := (some .int)) (by decide) rfl ?_
  intro p e s m args below meth c s₁ B hml hv
  obtain ⟨rfl, hP, hK, hN, hZ⟩ := hv
  have hx := B.exec
  have hb := B.bytes
  have hr := B.returns
  have hts := atoms_spec (ws := wsX8_power) B.pre
  have hown : s.vm.findClass RX8 = some m.cls := findClass_of_methodNamed B.named
  have hlocks := B.notSynchronized
  have hl := lv_entry ([.ref m0, .int 0]) (n := 2) (Nat.le_of_ble_eq_true rfl)
  rw [lg_entry_eq]
  generalize (lg_sl ([.ref m0, .int 0]) ++ List.replicate (2 - (lg_sl ([.ref m0, .int 0])).length) Slot.unset).toArray = ls at hl ⊢
  replace hl : lv_has ls 2 [(0, .ref m0), (1, .int 0)] := hl
  refine lv_iload_n hx hb dX8_power_0 rfl (lv_at hl 1 rfl) ?_
  refine lv_if_ne (tgt := 8) hx hb dX8_power_1 (by decide) (fun c_1 => ?_) (fun c_1 => ?_)
  · exact absurd c_1 (by decide)
  · refine lv_iconst (v := 1) hx hb dX8_power_4 (by decide) ?_
    refine lv_goto (tgt := 18) hx hb dX8_power_5 (by decide) ?_
    exact W.iret (v := 1) hx hb hr (fun t ht hW => ⟨1, rfl, rfl, ht⟩) (fun q hq => by cases hq) dX8_power_18
set_option maxHeartbeats 4000000 in
set_option maxRecDepth 100000 in
theorem c_M_power_1 (l : Launch) (D : va_G) (cI cJ cZ cP cS : ClassId) (po : zPool) (m0 mrf mki mpa mta mla msl mco mhe mso msi msh mce mca mwo mnu mte mwa mke mma mth mtr : Nat) (npu nte nat_ nde nto nse nhu nga nsd nfa nba npl nen nnu nwr nra nik : Int32) (hy0 : 0 ≤ npu.toInt) (hy1 : npu.toInt ≤ 8) (hy2 : 4 ≤ nte.toInt) (hy3 : nte.toInt ≤ 40) (hy4 : 0 ≤ nat_.toInt) (hy5 : nat_.toInt ≤ 40) (hy6 : 0 ≤ nde.toInt) (hy7 : nde.toInt ≤ 24) (hy8 : 0 ≤ nhu.toInt) (hy9 : nhu.toInt ≤ 9) (hy10 : 0 ≤ nra.toInt) (hy11 : nra.toInt ≤ 2000) (hy12 : 0 ≤ nik.toInt) (hy13 : nik.toInt ≤ 1) : Met l yX8_power wsX8_power ({ frames := 1, cells := 0, slots := 0, locals := 21 }) (va_Pc [.ref m0, .int 1] (zR D (zKT cI cJ cZ cP cS) po [(zMO m0 npu nte nat_ nde nto nse nhu nga nsd nfa mrf mki mpa mta mla msl mco mhe mso msi msh mce mca mwo mnu mte nba npl nen nnu nwr mwa mke mma mth mtr nra nik)])) (vp_Si (fun r => r = 12)) 0 0 (fun _ => False) := by
  refine Met.ofW (cc := cX8_power) (maxL := 2) (ret := (some .int)) (by decide) rfl ?_
  intro p e s m args below meth c s₁ B hml hv
  obtain ⟨rfl, hP, hK, hN, hZ⟩ := hv
  have hx := B.exec
  have hb := B.bytes
  have hr := B.returns
  have hts := atoms_spec (ws := wsX8_power) B.pre
  have hown : s.vm.findClass RX8 = some m.cls := findClass_of_methodNamed B.named
  have hlocks := B.notSynchronized
  have hl := lv_entry ([.ref m0, .int 1]) (n := 2) (Nat.le_of_ble_eq_true rfl)
  rw [lg_entry_eq]
  generalize (lg_sl ([.ref m0, .int 1]) ++ List.replicate (2 - (lg_sl ([.ref m0, .int 1])).length) Slot.unset).toArray = ls at hl ⊢
  replace hl : lv_has ls 2 [(0, .ref m0), (1, .int 1)] := hl
  refine lv_iload_n hx hb dX8_power_0 rfl (lv_at hl 1 rfl) ?_
  refine lv_if_ne (tgt := 8) hx hb dX8_power_1 (by decide) (fun c_1 => ?_) (fun c_1 => ?_)
  · refine lv_bipush (v := 12) hx hb dX8_power_8 (by decide) ?_
    refine lv_aload_n hx hb dX8_power_10 rfl (lv_at hl 0 rfl) ?_
    refine lv_iload_n hx hb dX8_power_11 rfl (lv_at hl 1 rfl) ?_
    refine lv_iconst (v := 1) hx hb dX8_power_12 (by decide) ?_
    refine lv_isub hx hb dX8_power_13 ?_
    refine lv_topi (fun y_2 ey_2 => ?_)
    obtain rfl : y_2 = 0 := ey_2.trans (by decide)
    refine zc_V (As := [.int 0]) (rest := [.int 12]) ⟨hx, hb, hml, hown, hts⟩ (c_M_power_0 l D cI cJ cZ cP cS po m0 mrf mki mpa mta mla msl mco mhe mso msi msh mce mca mwo mnu mte mwa mke mma mth mtr (npu) (nte) (nat_) (nde) (nto) (nse) (nhu) (nga) (nsd) (nfa) (nba) (npl) (nen) (nnu) (nwr) (nra) (nik) hy0 hy1 hy2 hy3 hy4 hy5 hy6 hy7 hy8 hy9 hy10 hy11 hy12 hy13) (cwV 1 hts gX8_power_X8_power rfl rfl rfl ⟨rfl, dh_X8_power⟩ ⟨Nat.le_of_ble_eq_true rfl, Nat.le_of_ble_eq_true rfl⟩) hK hN hZ hP (hP.sub [0] rfl) (va_recv (q := (RX8, TX8, 38)) hK hP (ci := 8) (q0 := 0) rfl rfl) rfl hl.1 rfl (Nat.le_of_ble_eq_true rfl) dX8_power_14 ⟨Nat.le_of_ble_eq_true rfl, Nat.le_of_ble_eq_true rfl⟩ (fun r_3 hr_3 => ?_)
    obtain rfl := hr_3
    refine lv_imul hx hb dX8_power_17 ?_
    refine lv_topi (fun y_4 ey_4 => ?_)
    obtain rfl : y_4 = 12 := ey_4.trans (by decide)
    exact W.iret (v := 12) hx hb hr (fun t ht hW => ⟨12, rfl, rfl, ht⟩) (fun q hq => by cases hq) dX8_power_18
  · exact absurd c_1 (by decide)
set_option maxHeartbeats 4000000 in
set_option maxRecDepth 100000 in
theorem c_M_power_2 (l : Launch) (D : va_G) (cI cJ cZ cP cS : ClassId) (po : zPool) (m0 mrf mki mpa mta mla msl mco mhe mso msi msh mce mca mwo mnu mte mwa mke mma mth mtr : Nat) (npu nte nat_ nde nto nse nhu nga nsd nfa nba npl nen nnu nwr nra nik : Int32) (hy0 : 0 ≤ npu.toInt) (hy1 : npu.toInt ≤ 8) (hy2 : 4 ≤ nte.toInt) (hy3 : nte.toInt ≤ 40) (hy4 : 0 ≤ nat_.toInt) (hy5 : nat_.toInt ≤ 40) (hy6 : 0 ≤ nde.toInt) (hy7 : nde.toInt ≤ 24) (hy8 : 0 ≤ nhu.toInt) (hy9 : nhu.toInt ≤ 9) (hy10 : 0 ≤ nra.toInt) (hy11 : nra.toInt ≤ 2000) (hy12 : 0 ≤ nik.toInt) (hy13 : nik.toInt ≤ 1) : Met l yX8_power wsX8_power ({ frames := 2, cells := 0, slots := 0, locals := 42 }) (va_Pc [.ref m0, .int 2] (zR D (zKT cI cJ cZ cP cS) po [(zMO m0 npu nte nat_ nde nto nse nhu nga nsd nfa mrf mki mpa mta mla msl mco mhe mso msi msh mce mca mwo mnu mte nba npl nen nnu nwr mwa mke mma mth mtr nra nik)])) (vp_Si (fun r => r = 144)) 0 0 (fun _ => False) := by
  refine Met.ofW (cc := cX8_power) (maxL := 2) (ret := (some .int)) (by decide) rfl ?_
  intro p e s m args below meth c s₁ B hml hv
  obtain ⟨rfl, hP, hK, hN, hZ⟩ := hv
  have hx := B.exec
  have hb := B.bytes
  have hr := B.returns
  have hts := atoms_spec (ws := wsX8_power) B.pre
  have hown : s.vm.findClass RX8 = some m.cls := findClass_of_methodNamed B.named
  have hlocks := B.notSynchronized
  have hl := lv_entry ([.ref m0, .int 2]) (n := 2) (Nat.le_of_ble_eq_true rfl)
  rw [lg_entry_eq]
  generalize (lg_sl ([.ref m0, .int 2]) ++ List.replicate (2 - (lg_sl ([.ref m0, .int 2])).length) Slot.unset).toArray = ls at hl ⊢
  replace hl : lv_has ls 2 [(0, .ref m0), (1, .int 2)] := hl
  refine lv_iload_n hx hb dX8_power_0 rfl (lv_at hl 1 rfl) ?_
  refine lv_if_ne (tgt := 8) hx hb dX8_power_1 (by decide) (fun c_1 => ?_) (fun c_1 => ?_)
  · refine lv_bipush (v := 12) hx hb dX8_power_8 (by decide) ?_
    refine lv_aload_n hx hb dX8_power_10 rfl (lv_at hl 0 rfl) ?_
    refine lv_iload_n hx hb dX8_power_11 rfl (lv_at hl 1 rfl) ?_
    refine lv_iconst (v := 1) hx hb dX8_power_12 (by decide) ?_
    refine lv_isub hx hb dX8_power_13 ?_
    refine lv_topi (fun y_2 ey_2 => ?_)
    obtain rfl : y_2 = 1 := ey_2.trans (by decide)
    refine zc_V (As := [.int 1]) (rest := [.int 12]) ⟨hx, hb, hml, hown, hts⟩ (c_M_power_1 l D cI cJ cZ cP cS po m0 mrf mki mpa mta mla msl mco mhe mso msi msh mce mca mwo mnu mte mwa mke mma mth mtr (npu) (nte) (nat_) (nde) (nto) (nse) (nhu) (nga) (nsd) (nfa) (nba) (npl) (nen) (nnu) (nwr) (nra) (nik) hy0 hy1 hy2 hy3 hy4 hy5 hy6 hy7 hy8 hy9 hy10 hy11 hy12 hy13) (cwV 1 hts gX8_power_X8_power rfl rfl rfl ⟨rfl, dh_X8_power⟩ ⟨Nat.le_of_ble_eq_true rfl, Nat.le_of_ble_eq_true rfl⟩) hK hN hZ hP (hP.sub [0] rfl) (va_recv (q := (RX8, TX8, 38)) hK hP (ci := 8) (q0 := 0) rfl rfl) rfl hl.1 rfl (Nat.le_of_ble_eq_true rfl) dX8_power_14 ⟨Nat.le_of_ble_eq_true rfl, Nat.le_of_ble_eq_true rfl⟩ (fun r_3 hr_3 => ?_)
    obtain rfl := hr_3
    refine lv_imul hx hb dX8_power_17 ?_
    refine lv_topi (fun y_4 ey_4 => ?_)
    obtain rfl : y_4 = 144 := ey_4.trans (by decide)
    exact W.iret (v := 144) hx hb hr (fun t ht hW => ⟨144, rfl, rfl, ht⟩) (fun q hq => by cases hq) dX8_power_18
  · exact absurd c_1 (by decide)
set_option maxHeartbeats 4000000 in
set_option maxRecDepth 100000 in
theorem c_M_power_3 (l : Launch) (D : va_G) (cI cJ cZ cP cS : ClassId) (po : zPool) (m0 mrf mki mpa mta mla msl mco mhe mso msi msh mce mca mwo mnu mte mwa mke mma mth mtr : Nat) (npu nte nat_ nde nto nse nhu nga nsd nfa nba npl nen nnu nwr nra nik : Int32) (hy0 : 0 ≤ npu.toInt) (hy1 : npu.toInt ≤ 8) (hy2 : 4 ≤ nte.toInt) (hy3 : nte.toInt ≤ 40) (hy4 : 0 ≤ nat_.toInt) (hy5 : nat_.toInt ≤ 40) (hy6 : 0 ≤ nde.toInt) (hy7 : nde.toInt ≤ 24) (hy8 : 0 ≤ nhu.toInt) (hy9 : nhu.toInt ≤ 9) (hy10 : 0 ≤ nra.toInt) (hy11 : nra.toInt ≤ 2000) (hy12 : 0 ≤ nik.toInt) (hy13 : nik.toInt ≤ 1) : Met l yX8_power wsX8_power ({ frames := 3, cells := 0, slots := 0, locals := 63 }) (va_Pc [.ref m0, .int 3] (zR D (zKT cI cJ cZ cP cS) po [(zMO m0 npu nte nat_ nde nto nse nhu nga nsd nfa mrf mki mpa mta mla msl mco mhe mso msi msh mce mca mwo mnu mte nba npl nen nnu nwr mwa mke mma mth mtr nra nik)])) (vp_Si (fun r => r = 1728)) 0 0 (fun _ => False) := by
  refine Met.ofW (cc := cX8_power) (maxL := 2) (ret := (some .int)) (by decide) rfl ?_
  intro p e s m args below meth c s₁ B hml hv
  obtain ⟨rfl, hP, hK, hN, hZ⟩ := hv
  have hx := B.exec
  have hb := B.bytes
  have hr := B.returns
  have hts := atoms_spec (ws := wsX8_power) B.pre
  have hown : s.vm.findClass RX8 = some m.cls := findClass_of_methodNamed B.named
  have hlocks := B.notSynchronized
  have hl := lv_entry ([.ref m0, .int 3]) (n := 2) (Nat.le_of_ble_eq_true rfl)
  rw [lg_entry_eq]
  generalize (lg_sl ([.ref m0, .int 3]) ++ List.replicate (2 - (lg_sl ([.ref m0, .int 3])).length) Slot.unset).toArray = ls at hl ⊢
  replace hl : lv_has ls 2 [(0, .ref m0), (1, .int 3)] := hl
  refine lv_iload_n hx hb dX8_power_0 rfl (lv_at hl 1 rfl) ?_
  refine lv_if_ne (tgt := 8) hx hb dX8_power_1 (by decide) (fun c_1 => ?_) (fun c_1 => ?_)
  · refine lv_bipush (v := 12) hx hb dX8_power_8 (by decide) ?_
    refine lv_aload_n hx hb dX8_power_10 rfl (lv_at hl 0 rfl) ?_
    refine lv_iload_n hx hb dX8_power_11 rfl (lv_at hl 1 rfl) ?_
    refine lv_iconst (v := 1) hx hb dX8_power_12 (by decide) ?_
    refine lv_isub hx hb dX8_power_13 ?_
    refine lv_topi (fun y_2 ey_2 => ?_)
    obtain rfl : y_2 = 2 := ey_2.trans (by decide)
    refine zc_V (As := [.int 2]) (rest := [.int 12]) ⟨hx, hb, hml, hown, hts⟩ (c_M_power_2 l D cI cJ cZ cP cS po m0 mrf mki mpa mta mla msl mco mhe mso msi msh mce mca mwo mnu mte mwa mke mma mth mtr (npu) (nte) (nat_) (nde) (nto) (nse) (nhu) (nga) (nsd) (nfa) (nba) (npl) (nen) (nnu) (nwr) (nra) (nik) hy0 hy1 hy2 hy3 hy4 hy5 hy6 hy7 hy8 hy9 hy10 hy11 hy12 hy13) (cwV 1 hts gX8_power_X8_power rfl rfl rfl ⟨rfl, dh_X8_power⟩ ⟨Nat.le_of_ble_eq_true rfl, Nat.le_of_ble_eq_true rfl⟩) hK hN hZ hP (hP.sub [0] rfl) (va_recv (q := (RX8, TX8, 38)) hK hP (ci := 8) (q0 := 0) rfl rfl) rfl hl.1 rfl (Nat.le_of_ble_eq_true rfl) dX8_power_14 ⟨Nat.le_of_ble_eq_true rfl, Nat.le_of_ble_eq_true rfl⟩ (fun r_3 hr_3 => ?_)
    obtain rfl := hr_3
    refine lv_imul hx hb dX8_power_17 ?_
    refine lv_topi (fun y_4 ey_4 => ?_)
    obtain rfl : y_4 = 1728 := ey_4.trans (by decide)
    exact W.iret (v := 1728) hx hb hr (fun t ht hW => ⟨1728, rfl, rfl, ht⟩) (fun q hq => by cases hq) dX8_power_18
  · exact absurd c_1 (by decide)
set_option maxHeartbeats 4000000 in
set_option maxRecDepth 100000 in
theorem c_M_power_4 (l : Launch) (D : va_G) (cI cJ cZ cP cS : ClassId) (po : zPool) (m0 mrf mki mpa mta mla msl mco mhe mso msi msh mce mca mwo mnu mte mwa mke mma mth mtr : Nat) (npu nte nat_ nde nto nse nhu nga nsd nfa nba npl nen nnu nwr nra nik : Int32) (hy0 : 0 ≤ npu.toInt) (hy1 : npu.toInt ≤ 8) (hy2 : 4 ≤ nte.toInt) (hy3 : nte.toInt ≤ 40) (hy4 : 0 ≤ nat_.toInt) (hy5 : nat_.toInt ≤ 40) (hy6 : 0 ≤ nde.toInt) (hy7 : nde.toInt ≤ 24) (hy8 : 0 ≤ nhu.toInt) (hy9 : nhu.toInt ≤ 9) (hy10 : 0 ≤ nra.toInt) (hy11 : nra.toInt ≤ 2000) (hy12 : 0 ≤ nik.toInt) (hy13 : nik.toInt ≤ 1) : Met l yX8_power wsX8_power ({ frames := 4, cells := 0, slots := 0, locals := 84 }) (va_Pc [.ref m0, .int 4] (zR D (zKT cI cJ cZ cP cS) po [(zMO m0 npu nte nat_ nde nto nse nhu nga nsd nfa mrf mki mpa mta mla msl mco mhe mso msi msh mce mca mwo mnu mte nba npl nen nnu nwr mwa mke mma mth mtr nra nik)])) (vp_Si (fun r => r = 20736)) 0 0 (fun _ => False) := by
  refine Met.ofW (cc := cX8_power) (maxL := 2) (ret := (some .int)) (by decide) rfl ?_
  intro p e s m args below meth c s₁ B hml hv
  obtain ⟨rfl, hP, hK, hN, hZ⟩ := hv
  have hx := B.exec
  have hb := B.bytes
  have hr := B.returns
  have hts := atoms_spec (ws := wsX8_power) B.pre
  have hown : s.vm.findClass RX8 = some m.cls := findClass_of_methodNamed B.named
  have hlocks := B.notSynchronized
  have hl := lv_entry ([.ref m0, .int 4]) (n := 2) (Nat.le_of_ble_eq_true rfl)
  rw [lg_entry_eq]
  generalize (lg_sl ([.ref m0, .int 4]) ++ List.replicate (2 - (lg_sl ([.ref m0, .int 4])).length) Slot.unset).toArray = ls at hl ⊢
  replace hl : lv_has ls 2 [(0, .ref m0), (1, .int 4)] := hl
  refine lv_iload_n hx hb dX8_power_0 rfl (lv_at hl 1 rfl) ?_
  refine lv_if_ne (tgt := 8) hx hb dX8_power_1 (by decide) (fun c_1 => ?_) (fun c_1 => ?_)
  · refine lv_bipush (v := 12) hx hb dX8_power_8 (by decide) ?_
    refine lv_aload_n hx hb dX8_power_10 rfl (lv_at hl 0 rfl) ?_
    refine lv_iload_n hx hb dX8_power_11 rfl (lv_at hl 1 rfl) ?_
    refine lv_iconst (v := 1) hx hb dX8_power_12 (by decide) ?_
    refine lv_isub hx hb dX8_power_13 ?_
    refine lv_topi (fun y_2 ey_2 => ?_)
    obtain rfl : y_2 = 3 := ey_2.trans (by decide)
    refine zc_V (As := [.int 3]) (rest := [.int 12]) ⟨hx, hb, hml, hown, hts⟩ (c_M_power_3 l D cI cJ cZ cP cS po m0 mrf mki mpa mta mla msl mco mhe mso msi msh mce mca mwo mnu mte mwa mke mma mth mtr (npu) (nte) (nat_) (nde) (nto) (nse) (nhu) (nga) (nsd) (nfa) (nba) (npl) (nen) (nnu) (nwr) (nra) (nik) hy0 hy1 hy2 hy3 hy4 hy5 hy6 hy7 hy8 hy9 hy10 hy11 hy12 hy13) (cwV 1 hts gX8_power_X8_power rfl rfl rfl ⟨rfl, dh_X8_power⟩ ⟨Nat.le_of_ble_eq_true rfl, Nat.le_of_ble_eq_true rfl⟩) hK hN hZ hP (hP.sub [0] rfl) (va_recv (q := (RX8, TX8, 38)) hK hP (ci := 8) (q0 := 0) rfl rfl) rfl hl.1 rfl (Nat.le_of_ble_eq_true rfl) dX8_power_14 ⟨Nat.le_of_ble_eq_true rfl, Nat.le_of_ble_eq_true rfl⟩ (fun r_3 hr_3 => ?_)
    obtain rfl := hr_3
    refine lv_imul hx hb dX8_power_17 ?_
    refine lv_topi (fun y_4 ey_4 => ?_)
    obtain rfl : y_4 = 20736 := ey_4.trans (by decide)
    exact W.iret (v := 20736) hx hb hr (fun t ht hW => ⟨20736, rfl, rfl, ht⟩) (fun q hq => by cases hq) dX8_power_18
  · exact absurd c_1 (by decide)
set_option maxHeartbeats 4000000 in
set_option maxRecDepth 100000 in
theorem c_M_mostCases_0 (l : Launch) (D : va_G) (cI cJ cZ cP cS : ClassId) (po : zPool) (m0 mrf mki mpa mta mla msl mco mhe mso msi msh mce mca mwo mnu mte mwa mke mma mth mtr : Nat) (npu nte nat_ nde nto nse nhu nga nsd nfa nba npl nen nnu nwr nra nik : Int32) (gki gpa gta : Nat → Int32) (d sec wh : Int32) (hy0 : 0 ≤ npu.toInt) (hy1 : npu.toInt ≤ 8) (hy2 : 4 ≤ nte.toInt) (hy3 : nte.toInt ≤ 40) (hy4 : 0 ≤ nat_.toInt) (hy5 : nat_.toInt ≤ 40) (hy6 : 0 ≤ nde.toInt) (hy7 : nde.toInt ≤ 24) (hy8 : 0 ≤ nhu.toInt) (hy9 : nhu.toInt ≤ 9) (hy10 : 0 ≤ nra.toInt) (hy11 : nra.toInt ≤ 2000) (hy12 : 0 ≤ nik.toInt) (hy13 : nik.toInt ≤ 1) (hy14 : 0 ≤ d.toInt) (hy15 : d.toInt ≤ 24) (hp_gki : zRg gki (0) 6) (hp_gpa : zRg gpa (0) 9) (hp_gta : zRg gta (0) 60) : Met l yX8_mostCases wsX8_mostCases ({ frames := 1, cells := 0, slots := 0, locals := 21 }) (va_Pc [.ref m0, .int 0, .int d, .int sec, .int wh] (zR D (zKT cI cJ cZ cP cS) po [(zMO m0 npu nte nat_ nde nto nse nhu nga nsd nfa mrf mki mpa mta mla msl mco mhe mso msi msh mce mca mwo mnu mte nba npl nen nnu nwr mwa mke mma mth mtr nra nik), (mki, .inl (cI, 8, .inl gki)), (mpa, .inl (cI, 8, .inl gpa)), (mta, .inl (cI, 8, .inl gta))])) (vp_Si (fun r => True)) 0 0 (fun _ => False) := by
  refine Met.ofW (cc := cX8_mostCases) (maxL := 8) (ret := (some .int)) (by decide) rfl ?_
  intro p e s m args below meth c s₁ B hml hv
  obtain ⟨rfl, hP, hK, hN, hZ⟩ := hv
  have hx := B.exec
  have hb := B.bytes
  have hr := B.returns
  have hts := atoms_spec (ws := wsX8_mostCases) B.pre
  have hown : s.vm.findClass RX8 = some m.cls := findClass_of_methodNamed B.named
  have hlocks := B.notSynchronized
  have hl := lv_entry ([.ref m0, .int 0, .int d, .int sec, .int wh]) (n := 8) (Nat.le_of_ble_eq_true rfl)
  rw [lg_entry_eq]
  generalize (lg_sl ([.ref m0, .int 0, .int d, .int sec, .int wh]) ++ List.replicate (8 - (lg_sl ([.ref m0, .int 0, .int d, .int sec, .int wh])).length) Slot.unset).toArray = ls at hl ⊢
  replace hl : lv_has ls 8 [(0, .ref m0), (1, .int 0), (2, .int d), (3, .int sec), (4, .int wh)] := hl
  refine lv_iload_n hx hb dX8_mostCases_0 rfl (lv_at hl 2 rfl) ?_
  refine lv_if_ne (tgt := 10) hx hb dX8_mostCases_1 (by decide) (fun c_1 => ?_) (fun c_1 => ?_)
  · have fc_1 : d.toInt ≠ 0 := zf_ne c_1 rfl (by decide)
    refine lv_iload_n hx hb dX8_mostCases_10 rfl (lv_at hl 1 rfl) ?_
    refine lv_if_ne (tgt := 16) hx hb dX8_mostCases_11 (by decide) (fun c_2 => ?_) (fun c_2 => ?_)
    · exact absurd c_2 (by decide)
    · refine lv_iconst (v := 0) hx hb dX8_mostCases_14 (by decide) ?_
      exact W.iret (v := 0) hx hb hr (fun t ht hW => ⟨0, rfl, trivial, ht⟩) (fun q hq => by cases hq) dX8_mostCases_15
  · have fc_1 : d.toInt = 0 := zf_eq c_1 rfl (by decide)
    refine lv_aload_n hx hb dX8_mostCases_4 rfl (lv_at hl 0 rfl) ?_
    refine lv_iload_n hx hb dX8_mostCases_5 rfl (lv_at hl 1 rfl) ?_
    refine zc_V (As := [.int 0]) (rest := []) ⟨hx, hb, hml, hown, hts⟩ (c_M_power_0 l D cI cJ cZ cP cS po m0 mrf mki mpa mta mla msl mco mhe mso msi msh mce mca mwo mnu mte mwa mke mma mth mtr (npu) (nte) (nat_) (nde) (nto) (nse) (nhu) (nga) (nsd) (nfa) (nba) (npl) (nen) (nnu) (nwr) (nra) (nik) hy0 hy1 hy2 hy3 hy4 hy5 hy6 hy7 hy8 hy9 hy10 hy11 hy12 hy13) (cwV 1 hts gX8_mostCases_X8_power rfl rfl rfl ⟨rfl, dh_X8_power⟩ ⟨Nat.le_of_ble_eq_true rfl, Nat.le_of_ble_eq_true rfl⟩) hK hN hZ hP (hP.sub [0] rfl) (va_recv (q := (RX8, TX8, 38)) hK hP (ci := 8) (q0 := 0) rfl rfl) rfl hl.1 rfl (Nat.le_of_ble_eq_true rfl) dX8_mostCases_6 ⟨Nat.le_of_ble_eq_true rfl, Nat.le_of_ble_eq_true rfl⟩ (fun r_3 hr_3 => ?_)
    obtain rfl := hr_3
    exact W.iret (v := 1) hx hb hr (fun t ht hW => ⟨1, rfl, trivial, ht⟩) (fun q hq => by cases hq) dX8_mostCases_9
theorem hi_X8_casesBy_8 : ∀ w ∈ u_ws RX8 TX8 38, w ∈ wsX8_casesBy := fun w h => (gl_X8_casesBy_X80 w h).1
set_option maxHeartbeats 4000000 in
set_option maxRecDepth 100000 in
theorem c_M_casesBy_1 (l : Launch) (D : va_G) (cI cJ cZ cP cS : ClassId) (po : zPool) (m0 mrf mki mpa mta mla msl mco mhe mso msi msh mce mca mwo mnu mte mwa mke mma mth mtr : Nat) (npu nte nat_ nde nto nse nhu nga nsd nfa nba npl nen nnu nwr nra nik : Int32) (gki gpa gta : Nat → Int32) (p_ d sec wh : Int32) (hy0 : 0 ≤ npu.toInt) (hy1 : npu.toInt ≤ 8) (hy2 : 4 ≤ nte.toInt) (hy3 : nte.toInt ≤ 40) (hy4 : 0 ≤ nat_.toInt) (hy5 : nat_.toInt ≤ 40) (hy6 : 0 ≤ nde.toInt) (hy7 : nde.toInt ≤ 24) (hy8 : 0 ≤ nhu.toInt) (hy9 : nhu.toInt ≤ 9) (hy10 : 0 ≤ nra.toInt) (hy11 : nra.toInt ≤ 2000) (hy12 : 0 ≤ nik.toInt) (hy13 : nik.toInt ≤ 1) (hy14 : 0 ≤ p_.toInt) (hy15 : p_.toInt ≤ 7) (hy16 : 0 ≤ d.toInt) (hy17 : d.toInt ≤ 24) (hp_gki : zRg gki (0) 6) (hp_gpa : zRg gpa (0) 9) (hp_gta : zRg gta (0) 60) : Met l yX8_casesBy wsX8_casesBy ({ frames := 2, cells := 0, slots := 0, locals := 48 }) (va_Pc [.ref m0, .int p_, .int 1, .int d, .int sec, .int wh] (zR D (zKT cI cJ cZ cP cS) po [(zMO m0 npu nte nat_ nde nto nse nhu nga nsd nfa mrf mki mpa mta mla msl mco mhe mso msi msh mce mca mwo mnu mte nba npl nen nnu nwr mwa mke mma mth mtr nra nik), (mki, .inl (cI, 8, .inl gki)), (mpa, .inl (cI, 8, .inl gpa)), (mta, .inl (cI, 8, .inl gta))])) (vp_Si (fun r => True)) 0 0 (fun _ => False) := by
  refine Met.ofW (cc := cX8_casesBy) (maxL := 8) (ret := (some .int)) (by decide) rfl ?_
  intro p e s m args below meth c s₁ B hml hv
  obtain ⟨rfl, hP, hK, hN, hZ⟩ := hv
  have hx := B.exec
  have hb := B.bytes
  have hr := B.returns
  have hts := atoms_spec (ws := wsX8_casesBy) B.pre
  have hown : s.vm.findClass RX8 = some m.cls := findClass_of_methodNamed B.named
  have hlocks := B.notSynchronized
  have hl := lv_entry ([.ref m0, .int p_, .int 1, .int d, .int sec, .int wh]) (n := 8) (Nat.le_of_ble_eq_true rfl)
  rw [lg_entry_eq]
  generalize (lg_sl ([.ref m0, .int p_, .int 1, .int d, .int sec, .int wh]) ++ List.replicate (8 - (lg_sl ([.ref m0, .int p_, .int 1, .int d, .int sec, .int wh])).length) Slot.unset).toArray = ls at hl ⊢
  replace hl : lv_has ls 8 [(0, .ref m0), (1, .int p_), (2, .int 1), (3, .int d), (4, .int sec), (5, .int wh)] := hl
  refine lv_aload_n hx hb dX8_casesBy_0 rfl (lv_at hl 0 rfl) ?_
  refine lv_iload_n hx hb dX8_casesBy_1 rfl (lv_at hl 1 rfl) ?_
  refine lv_iload_n hx hb dX8_casesBy_2 rfl (lv_at hl 3 rfl) ?_
  refine zc_V (As := [.int p_, .int d]) (rest := []) ⟨hx, hb, hml, hown, hts⟩ (c_M_ways l D cI cJ cZ cP cS po m0 mrf mki mpa mta mla msl mco mhe mso msi msh mce mca mwo mnu mte mwa mke mma mth mtr (npu) (nte) (nat_) (nde) (nto) (nse) (nhu) (nga) (nsd) (nfa) (nba) (npl) (nen) (nnu) (nwr) (nra) (nik) gki gpa (p_) (d) hy0 hy1 hy2 hy3 hy4 hy5 hy6 hy7 hy8 hy9 hy10 hy11 hy12 hy13 hy14 hy15 hp_gki hp_gpa) (cwV 2 hts gX8_casesBy_X8_ways rfl rfl rfl ⟨rfl, dh_X8_ways⟩ ⟨Nat.le_of_ble_eq_true rfl, Nat.le_of_ble_eq_true rfl⟩) hK hN hZ hP (hP.sub [0, 1, 2] rfl) (va_recv (q := (RX8, TX8, 38)) hK hP (ci := 8) (q0 := 0) rfl rfl) rfl hl.1 rfl (Nat.le_of_ble_eq_true rfl) dX8_casesBy_3 ⟨Nat.le_of_ble_eq_true rfl, Nat.le_of_ble_eq_true rfl⟩ (fun r_1 hr_1 => ?_)
  obtain ⟨g_2, g_3⟩ := hr_1
  refine lv_istore (lv' := [(6, .int r_1), (0, .ref m0), (1, .int p_), (2, .int 1), (3, .int d), (4, .int sec), (5, .int wh)]) hx hb dX8_casesBy_6 hl (by decide) rfl (fun ls hl => ?_)
  refine lv_iload hx hb dX8_casesBy_8 (lv_at hl 0 rfl) ?_
  refine lv_if_ne (tgt := 17) hx hb dX8_casesBy_10 (by decide) (fun c_4 => ?_) (fun c_4 => ?_)
  · have fc_4 : r_1.toInt ≠ 0 := zf_ne c_4 rfl (by decide)
    refine lv_iload hx hb dX8_casesBy_17 (lv_at hl 0 rfl) ?_
    refine lv_aload_n hx hb dX8_casesBy_19 rfl (lv_at hl 1 rfl) ?_
    refine lv_iload_n hx hb dX8_casesBy_20 rfl (lv_at hl 3 rfl) ?_
    refine lv_iconst (v := 1) hx hb dX8_casesBy_21 (by decide) ?_
    refine lv_isub hx hb dX8_casesBy_22 ?_
    refine lv_topi (fun y_5 ey_5 => ?_)
    obtain rfl : y_5 = 0 := ey_5.trans (by decide)
    refine lv_aload_n hx hb dX8_casesBy_23 rfl (lv_at hl 1 rfl) ?_
    refine lv_iload_n hx hb dX8_casesBy_24 rfl (lv_at hl 2 rfl) ?_
    refine lv_iload_n hx hb dX8_casesBy_25 rfl (lv_at hl 4 rfl) ?_
    refine lv_iconst (v := 1) hx hb dX8_casesBy_26 (by decide) ?_
    refine zc_V (As := [.int p_, .int d, .int 1]) (rest := [.int 0, .ref m0, .int r_1]) ⟨hx, hb, hml, hown, hts⟩ (c_M_deep l D cI cJ cZ cP cS po m0 mrf mki mpa mta mla msl mco mhe mso msi msh mce mca mwo mnu mte mwa mke mma mth mtr (npu) (nte) (nat_) (nde) (nto) (nse) (nhu) (nga) (nsd) (nfa) (nba) (npl) (nen) (nnu) (nwr) (nra) (nik) gki gpa (p_) (d) (1) hy0 hy1 hy2 hy3 hy4 hy5 hy6 hy7 hy8 hy9 hy10 hy11 hy12 hy13 hy14 hy15 hy16 hy17 hp_gki hp_gpa) (cwV 3 hts gX8_casesBy_X8_deep rfl rfl rfl ⟨rfl, dh_X8_deep⟩ ⟨Nat.le_of_ble_eq_true rfl, Nat.le_of_ble_eq_true rfl⟩) hK hN hZ hP (hP.sub [0, 1, 2] rfl) (va_recv (q := (RX8, TX8, 38)) hK hP (ci := 8) (q0 := 0) rfl rfl) rfl hl.1 rfl (Nat.le_of_ble_eq_true rfl) dX8_casesBy_27 ⟨Nat.le_of_ble_eq_true rfl, Nat.le_of_ble_eq_true rfl⟩ (fun r_6 hr_6 => ?_)
    obtain ⟨g_7, g_8⟩ := hr_6
    refine lv_iload hx hb dX8_casesBy_30 (lv_at hl 5 rfl) ?_
    refine lv_aload_n hx hb dX8_casesBy_32 rfl (lv_at hl 1 rfl) ?_
    refine va_get (D := D) (ci := 8) (v := .ref mta) (C := RX8) (T := TX8) (N := 38) hx hb hts hi_X8_casesBy_8 hown hK hP 0 rfl rfl 13 (by decide) (hts (.fieldLink RX8 35 "TheLiningsInItModel" "takes" "[I") (List.mem_of_getElem? (i := 1) rfl)) (fun _ h9 => h9) rfl dX8_casesBy_33 ?_
    refine lv_iload_n hx hb dX8_casesBy_36 rfl (lv_at hl 2 rfl) ?_
    refine va_iald hx hb hK hP 3 0 rfl rfl (zf_in (by omega) (by omega)) dX8_casesBy_37 ?_
    refine lv_topi (fun x_9 ex_9 => ?_)
    have bx_9 : 0 ≤ x_9.toInt ∧ x_9.toInt ≤ 60 := by rw [ex_9]; exact hp_gta _
    refine lv_isub hx hb dX8_casesBy_38 ?_
    refine lv_topi (fun x_10 ex_10 => ?_)
    refine lv_iload hx hb dX8_casesBy_39 (lv_at hl 6 rfl) ?_
    refine zc_V (As := [.int 0, .int r_6, .int x_10, .int wh]) (rest := [.int r_1]) ⟨hx, hb, hml, hown, hts⟩ (c_M_mostCases_0 l D cI cJ cZ cP cS po m0 mrf mki mpa mta mla msl mco mhe mso msi msh mce mca mwo mnu mte mwa mke mma mth mtr (npu) (nte) (nat_) (nde) (nto) (nse) (nhu) (nga) (nsd) (nfa) (nba) (npl) (nen) (nnu) (nwr) (nra) (nik) gki gpa gta (r_6) (x_10) (wh) hy0 hy1 hy2 hy3 hy4 hy5 hy6 hy7 hy8 hy9 hy10 hy11 hy12 hy13 (by omega) (by omega) hp_gki hp_gpa hp_gta) (cwV 4 hts gX8_casesBy_X8_mostCases rfl rfl rfl ⟨rfl, dh_X8_mostCases⟩ ⟨Nat.le_of_ble_eq_true rfl, Nat.le_of_ble_eq_true rfl⟩) hK hN hZ hP (hP.sub [0, 1, 2, 3] rfl) (va_recv (q := (RX8, TX8, 38)) hK hP (ci := 8) (q0 := 0) rfl rfl) rfl hl.1 rfl (Nat.le_of_ble_eq_true rfl) dX8_casesBy_41 ⟨Nat.le_of_ble_eq_true rfl, Nat.le_of_ble_eq_true rfl⟩ (fun r_11 hr_11 => ?_)
    refine lv_imul hx hb dX8_casesBy_44 ?_
    refine lv_topi (fun x_12 ex_12 => ?_)
    refine lv_istore (lv' := [(7, .int x_12), (6, .int r_1), (0, .ref m0), (1, .int p_), (2, .int 1), (3, .int d), (4, .int sec), (5, .int wh)]) hx hb dX8_casesBy_45 hl (by decide) rfl (fun ls hl => ?_)
    refine lv_iload hx hb dX8_casesBy_47 (lv_at hl 1 rfl) ?_
    refine lv_bipush (v := 12) hx hb dX8_casesBy_49 (by decide) ?_
    refine lv_icmp_ne (tgt := 59) hx hb dX8_casesBy_51 (by decide) (fun c_13 => ?_) (fun c_13 => ?_)
    · have fc_13 : r_1.toInt ≠ 12 := zf_ne c_13 rfl (by decide)
      refine lv_iload hx hb dX8_casesBy_59 (lv_at hl 0 rfl) ?_
      refine lv_bipush (v := 12) hx hb dX8_casesBy_61 (by decide) ?_
      refine lv_iload hx hb dX8_casesBy_63 (lv_at hl 1 rfl) ?_
      refine lv_isub hx hb dX8_casesBy_65 ?_
      refine lv_topi (fun x_14 ex_14 => ?_)
      have qx_14 : x_14.toInt = 12 - r_1.toInt := by rw [ex_14]; exact zf_sub (by decide) rfl (by omega) (by omega)
      refine lv_aload_n hx hb dX8_casesBy_66 rfl (lv_at hl 2 rfl) ?_
      refine lv_iload_n hx hb dX8_casesBy_67 rfl (lv_at hl 4 rfl) ?_
      refine lv_iconst (v := 1) hx hb dX8_casesBy_68 (by decide) ?_
      refine lv_isub hx hb dX8_casesBy_69 ?_
      refine lv_topi (fun y_15 ey_15 => ?_)
      obtain rfl : y_15 = 0 := ey_15.trans (by decide)
      refine lv_aload_n hx hb dX8_casesBy_70 rfl (lv_at hl 2 rfl) ?_
      refine lv_iload_n hx hb dX8_casesBy_71 rfl (lv_at hl 3 rfl) ?_
      refine lv_iload_n hx hb dX8_casesBy_72 rfl (lv_at hl 5 rfl) ?_
      refine lv_iconst (v := 0) hx hb dX8_casesBy_73 (by decide) ?_
      refine zc_V (As := [.int p_, .int d, .int 0]) (rest := [.int 0, .ref m0, .int x_14, .int x_12]) ⟨hx, hb, hml, hown, hts⟩ (c_M_deep l D cI cJ cZ cP cS po m0 mrf mki mpa mta mla msl mco mhe mso msi msh mce mca mwo mnu mte mwa mke mma mth mtr (npu) (nte) (nat_) (nde) (nto) (nse) (nhu) (nga) (nsd) (nfa) (nba) (npl) (nen) (nnu) (nwr) (nra) (nik) gki gpa (p_) (d) (0) hy0 hy1 hy2 hy3 hy4 hy5 hy6 hy7 hy8 hy9 hy10 hy11 hy12 hy13 hy14 hy15 hy16 hy17 hp_gki hp_gpa) (cwV 3 hts gX8_casesBy_X8_deep rfl rfl rfl ⟨rfl, dh_X8_deep⟩ ⟨Nat.le_of_ble_eq_true rfl, Nat.le_of_ble_eq_true rfl⟩) hK hN hZ hP (hP.sub [0, 1, 2] rfl) (va_recv (q := (RX8, TX8, 38)) hK hP (ci := 8) (q0 := 0) rfl rfl) rfl hl.1 rfl (Nat.le_of_ble_eq_true rfl) dX8_casesBy_74 ⟨Nat.le_of_ble_eq_true rfl, Nat.le_of_ble_eq_true rfl⟩ (fun r_16 hr_16 => ?_)
      obtain ⟨g_17, g_18⟩ := hr_16
      refine lv_iload hx hb dX8_casesBy_77 (lv_at hl 6 rfl) ?_
      refine lv_aload_n hx hb dX8_casesBy_79 rfl (lv_at hl 2 rfl) ?_
      refine va_get (D := D) (ci := 8) (v := .ref mta) (C := RX8) (T := TX8) (N := 38) hx hb hts hi_X8_casesBy_8 hown hK hP 0 rfl rfl 13 (by decide) (hts (.fieldLink RX8 35 "TheLiningsInItModel" "takes" "[I") (List.mem_of_getElem? (i := 1) rfl)) (fun _ h9 => h9) rfl dX8_casesBy_80 ?_
      refine lv_iload_n hx hb dX8_casesBy_83 rfl (lv_at hl 3 rfl) ?_
      refine va_iald hx hb hK hP 3 0 rfl rfl (zf_in (by omega) (by omega)) dX8_casesBy_84 ?_
      refine lv_topi (fun x_19 ex_19 => ?_)
      have bx_19 : 0 ≤ x_19.toInt ∧ x_19.toInt ≤ 60 := by rw [ex_19]; exact hp_gta _
      refine lv_isub hx hb dX8_casesBy_85 ?_
      refine lv_topi (fun x_20 ex_20 => ?_)
      refine lv_iload hx hb dX8_casesBy_86 (lv_at hl 7 rfl) ?_
      refine zc_V (As := [.int 0, .int r_16, .int x_20, .int wh]) (rest := [.int x_14, .int x_12]) ⟨hx, hb, hml, hown, hts⟩ (c_M_mostCases_0 l D cI cJ cZ cP cS po m0 mrf mki mpa mta mla msl mco mhe mso msi msh mce mca mwo mnu mte mwa mke mma mth mtr (npu) (nte) (nat_) (nde) (nto) (nse) (nhu) (nga) (nsd) (nfa) (nba) (npl) (nen) (nnu) (nwr) (nra) (nik) gki gpa gta (r_16) (x_20) (wh) hy0 hy1 hy2 hy3 hy4 hy5 hy6 hy7 hy8 hy9 hy10 hy11 hy12 hy13 (by omega) (by omega) hp_gki hp_gpa hp_gta) (cwV 4 hts gX8_casesBy_X8_mostCases rfl rfl rfl ⟨rfl, dh_X8_mostCases⟩ ⟨Nat.le_of_ble_eq_true rfl, Nat.le_of_ble_eq_true rfl⟩) hK hN hZ hP (hP.sub [0, 1, 2, 3] rfl) (va_recv (q := (RX8, TX8, 38)) hK hP (ci := 8) (q0 := 0) rfl rfl) rfl hl.1 rfl (Nat.le_of_ble_eq_true rfl) dX8_casesBy_88 ⟨Nat.le_of_ble_eq_true rfl, Nat.le_of_ble_eq_true rfl⟩ (fun r_21 hr_21 => ?_)
      refine lv_imul hx hb dX8_casesBy_91 ?_
      refine lv_topi (fun x_22 ex_22 => ?_)
      refine lv_iadd hx hb dX8_casesBy_92 ?_
      refine lv_topi (fun x_23 ex_23 => ?_)
      exact W.iret (v := x_23) hx hb hr (fun t ht hW => ⟨x_23, rfl, trivial, ht⟩) (fun q hq => by cases hq) dX8_casesBy_93
    · have fc_13 : r_1.toInt = 12 := zf_eq c_13 rfl (by decide)
      refine lv_iload hx hb dX8_casesBy_54 (lv_at hl 0 rfl) ?_
      refine lv_goto (tgt := 93) hx hb dX8_casesBy_56 (by decide) ?_
      exact W.iret (v := x_12) hx hb hr (fun t ht hW => ⟨x_12, rfl, trivial, ht⟩) (fun q hq => by cases hq) dX8_casesBy_93
  · have fc_4 : r_1.toInt = 0 := zf_eq c_4 rfl (by decide)
    refine lv_iconst (v := 0) hx hb dX8_casesBy_13 (by decide) ?_
    refine lv_goto (tgt := 45) hx hb dX8_casesBy_14 (by decide) ?_
    refine lv_istore (lv' := [(7, .int 0), (6, .int r_1), (0, .ref m0), (1, .int p_), (2, .int 1), (3, .int d), (4, .int sec), (5, .int wh)]) hx hb dX8_casesBy_45 hl (by decide) rfl (fun ls hl => ?_)
    refine lv_iload hx hb dX8_casesBy_47 (lv_at hl 1 rfl) ?_
    refine lv_bipush (v := 12) hx hb dX8_casesBy_49 (by decide) ?_
    refine lv_icmp_ne (tgt := 59) hx hb dX8_casesBy_51 (by decide) (fun c_24 => ?_) (fun c_24 => ?_)
    · have fc_24 : r_1.toInt ≠ 12 := zf_ne c_24 rfl (by decide)
      refine lv_iload hx hb dX8_casesBy_59 (lv_at hl 0 rfl) ?_
      refine lv_bipush (v := 12) hx hb dX8_casesBy_61 (by decide) ?_
      refine lv_iload hx hb dX8_casesBy_63 (lv_at hl 1 rfl) ?_
      refine lv_isub hx hb dX8_casesBy_65 ?_
      refine lv_topi (fun x_25 ex_25 => ?_)
      have qx_25 : x_25.toInt = 12 - r_1.toInt := by rw [ex_25]; exact zf_sub (by decide) rfl (by omega) (by omega)
      refine lv_aload_n hx hb dX8_casesBy_66 rfl (lv_at hl 2 rfl) ?_
      refine lv_iload_n hx hb dX8_casesBy_67 rfl (lv_at hl 4 rfl) ?_
      refine lv_iconst (v := 1) hx hb dX8_casesBy_68 (by decide) ?_
      refine lv_isub hx hb dX8_casesBy_69 ?_
      refine lv_topi (fun y_26 ey_26 => ?_)
      obtain rfl : y_26 = 0 := ey_26.trans (by decide)
      refine lv_aload_n hx hb dX8_casesBy_70 rfl (lv_at hl 2 rfl) ?_
      refine lv_iload_n hx hb dX8_casesBy_71 rfl (lv_at hl 3 rfl) ?_
      refine lv_iload_n hx hb dX8_casesBy_72 rfl (lv_at hl 5 rfl) ?_
      refine lv_iconst (v := 0) hx hb dX8_casesBy_73 (by decide) ?_
      refine zc_V (As := [.int p_, .int d, .int 0]) (rest := [.int 0, .ref m0, .int x_25, .int 0]) ⟨hx, hb, hml, hown, hts⟩ (c_M_deep l D cI cJ cZ cP cS po m0 mrf mki mpa mta mla msl mco mhe mso msi msh mce mca mwo mnu mte mwa mke mma mth mtr (npu) (nte) (nat_) (nde) (nto) (nse) (nhu) (nga) (nsd) (nfa) (nba) (npl) (nen) (nnu) (nwr) (nra) (nik) gki gpa (p_) (d) (0) hy0 hy1 hy2 hy3 hy4 hy5 hy6 hy7 hy8 hy9 hy10 hy11 hy12 hy13 hy14 hy15 hy16 hy17 hp_gki hp_gpa) (cwV 3 hts gX8_casesBy_X8_deep rfl rfl rfl ⟨rfl, dh_X8_deep⟩ ⟨Nat.le_of_ble_eq_true rfl, Nat.le_of_ble_eq_true rfl⟩) hK hN hZ hP (hP.sub [0, 1, 2] rfl) (va_recv (q := (RX8, TX8, 38)) hK hP (ci := 8) (q0 := 0) rfl rfl) rfl hl.1 rfl (Nat.le_of_ble_eq_true rfl) dX8_casesBy_74 ⟨Nat.le_of_ble_eq_true rfl, Nat.le_of_ble_eq_true rfl⟩ (fun r_27 hr_27 => ?_)
      obtain ⟨g_28, g_29⟩ := hr_27
      refine lv_iload hx hb dX8_casesBy_77 (lv_at hl 6 rfl) ?_
      refine lv_aload_n hx hb dX8_casesBy_79 rfl (lv_at hl 2 rfl) ?_
      refine va_get (D := D) (ci := 8) (v := .ref mta) (C := RX8) (T := TX8) (N := 38) hx hb hts hi_X8_casesBy_8 hown hK hP 0 rfl rfl 13 (by decide) (hts (.fieldLink RX8 35 "TheLiningsInItModel" "takes" "[I") (List.mem_of_getElem? (i := 1) rfl)) (fun _ h9 => h9) rfl dX8_casesBy_80 ?_
      refine lv_iload_n hx hb dX8_casesBy_83 rfl (lv_at hl 3 rfl) ?_
      refine va_iald hx hb hK hP 3 0 rfl rfl (zf_in (by omega) (by omega)) dX8_casesBy_84 ?_
      refine lv_topi (fun x_30 ex_30 => ?_)
      have bx_30 : 0 ≤ x_30.toInt ∧ x_30.toInt ≤ 60 := by rw [ex_30]; exact hp_gta _
      refine lv_isub hx hb dX8_casesBy_85 ?_
      refine lv_topi (fun x_31 ex_31 => ?_)
      refine lv_iload hx hb dX8_casesBy_86 (lv_at hl 7 rfl) ?_
      refine zc_V (As := [.int 0, .int r_27, .int x_31, .int wh]) (rest := [.int x_25, .int 0]) ⟨hx, hb, hml, hown, hts⟩ (c_M_mostCases_0 l D cI cJ cZ cP cS po m0 mrf mki mpa mta mla msl mco mhe mso msi msh mce mca mwo mnu mte mwa mke mma mth mtr (npu) (nte) (nat_) (nde) (nto) (nse) (nhu) (nga) (nsd) (nfa) (nba) (npl) (nen) (nnu) (nwr) (nra) (nik) gki gpa gta (r_27) (x_31) (wh) hy0 hy1 hy2 hy3 hy4 hy5 hy6 hy7 hy8 hy9 hy10 hy11 hy12 hy13 (by omega) (by omega) hp_gki hp_gpa hp_gta) (cwV 4 hts gX8_casesBy_X8_mostCases rfl rfl rfl ⟨rfl, dh_X8_mostCases⟩ ⟨Nat.le_of_ble_eq_true rfl, Nat.le_of_ble_eq_true rfl⟩) hK hN hZ hP (hP.sub [0, 1, 2, 3] rfl) (va_recv (q := (RX8, TX8, 38)) hK hP (ci := 8) (q0 := 0) rfl rfl) rfl hl.1 rfl (Nat.le_of_ble_eq_true rfl) dX8_casesBy_88 ⟨Nat.le_of_ble_eq_true rfl, Nat.le_of_ble_eq_true rfl⟩ (fun r_32 hr_32 => ?_)
      refine lv_imul hx hb dX8_casesBy_91 ?_
      refine lv_topi (fun x_33 ex_33 => ?_)
      refine lv_iadd hx hb dX8_casesBy_92 ?_
      refine lv_topi (fun x_34 ex_34 => ?_)
      have rbx_34 := zf_rng x_33
      have qx_34 : x_34.toInt = 0 + x_33.toInt := by rw [ex_34]; exact zf_add (by decide) rfl (by omega) (by omega)
      exact W.iret (v := x_34) hx hb hr (fun t ht hW => ⟨x_34, rfl, trivial, ht⟩) (fun q hq => by cases hq) dX8_casesBy_93
    · exfalso; have fc_24 : r_1.toInt = 12 := zf_eq c_24 rfl (by decide); omega
theorem hi_X8_mostCases_8 : ∀ w ∈ u_ws RX8 TX8 38, w ∈ wsX8_mostCases := fun w h => (gl_X8_mostCases_X80 w h).1
set_option maxHeartbeats 4000000 in
set_option maxRecDepth 100000 in
theorem c_M_mostCases_1 (l : Launch) (D : va_G) (cI cJ cZ cP cS : ClassId) (po : zPool) (m0 mrf mki mpa mta mla msl mco mhe mso msi msh mce mca mwo mnu mte mwa mke mma mth mtr : Nat) (npu nte nat_ nde nto nse nhu nga nsd nfa nba npl nen nnu nwr nra nik : Int32) (gki gpa gta : Nat → Int32) (d sec wh : Int32) (hy0 : 0 ≤ npu.toInt) (hy1 : npu.toInt ≤ 8) (hy2 : 4 ≤ nte.toInt) (hy3 : nte.toInt ≤ 40) (hy4 : 0 ≤ nat_.toInt) (hy5 : nat_.toInt ≤ 40) (hy6 : 0 ≤ nde.toInt) (hy7 : nde.toInt ≤ 24) (hy8 : 0 ≤ nhu.toInt) (hy9 : nhu.toInt ≤ 9) (hy10 : 0 ≤ nra.toInt) (hy11 : nra.toInt ≤ 2000) (hy12 : 0 ≤ nik.toInt) (hy13 : nik.toInt ≤ 1) (hy14 : 0 ≤ d.toInt) (hy15 : d.toInt ≤ 24) (hp_gki : zRg gki (0) 6) (hp_gpa : zRg gpa (0) 9) (hp_gta : zRg gta (0) 60) : Met l yX8_mostCases wsX8_mostCases ({ frames := 3, cells := 0, slots := 0, locals := 75 }) (va_Pc [.ref m0, .int 1, .int d, .int sec, .int wh] (zR D (zKT cI cJ cZ cP cS) po [(zMO m0 npu nte nat_ nde nto nse nhu nga nsd nfa mrf mki mpa mta mla msl mco mhe mso msi msh mce mca mwo mnu mte nba npl nen nnu nwr mwa mke mma mth mtr nra nik), (mki, .inl (cI, 8, .inl gki)), (mpa, .inl (cI, 8, .inl gpa)), (mta, .inl (cI, 8, .inl gta))])) (vp_Si (fun r => True)) 0 0 (fun _ => False) := by
  refine Met.ofW (cc := cX8_mostCases) (maxL := 8) (ret := (some .int)) (by decide) rfl ?_
  intro p e s m args below meth c s₁ B hml hv
  obtain ⟨rfl, hP, hK, hN, hZ⟩ := hv
  have hx := B.exec
  have hb := B.bytes
  have hr := B.returns
  have hts := atoms_spec (ws := wsX8_mostCases) B.pre
  have hown : s.vm.findClass RX8 = some m.cls := findClass_of_methodNamed B.named
  have hlocks := B.notSynchronized
  have hl := lv_entry ([.ref m0, .int 1, .int d, .int sec, .int wh]) (n := 8) (Nat.le_of_ble_eq_true rfl)
  rw [lg_entry_eq]
  generalize (lg_sl ([.ref m0, .int 1, .int d, .int sec, .int wh]) ++ List.replicate (8 - (lg_sl ([.ref m0, .int 1, .int d, .int sec, .int wh])).length) Slot.unset).toArray = ls at hl ⊢
  replace hl : lv_has ls 8 [(0, .ref m0), (1, .int 1), (2, .int d), (3, .int sec), (4, .int wh)] := hl
  refine lv_iload_n hx hb dX8_mostCases_0 rfl (lv_at hl 2 rfl) ?_
  refine lv_if_ne (tgt := 10) hx hb dX8_mostCases_1 (by decide) (fun c_1 => ?_) (fun c_1 => ?_)
  · have fc_1 : d.toInt ≠ 0 := zf_ne c_1 rfl (by decide)
    refine lv_iload_n hx hb dX8_mostCases_10 rfl (lv_at hl 1 rfl) ?_
    refine lv_if_ne (tgt := 16) hx hb dX8_mostCases_11 (by decide) (fun c_2 => ?_) (fun c_2 => ?_)
    · refine lv_bipush (v := 12) hx hb dX8_mostCases_16 (by decide) ?_
      refine lv_aload_n hx hb dX8_mostCases_18 rfl (lv_at hl 0 rfl) ?_
      refine lv_iload_n hx hb dX8_mostCases_19 rfl (lv_at hl 1 rfl) ?_
      refine lv_iconst (v := 1) hx hb dX8_mostCases_20 (by decide) ?_
      refine lv_isub hx hb dX8_mostCases_21 ?_
      refine lv_topi (fun y_3 ey_3 => ?_)
      obtain rfl : y_3 = 0 := ey_3.trans (by decide)
      refine lv_iload_n hx hb dX8_mostCases_22 rfl (lv_at hl 2 rfl) ?_
      refine lv_iload_n hx hb dX8_mostCases_23 rfl (lv_at hl 3 rfl) ?_
      refine lv_iload hx hb dX8_mostCases_24 (lv_at hl 4 rfl) ?_
      refine zc_V (As := [.int 0, .int d, .int sec, .int wh]) (rest := [.int 12]) ⟨hx, hb, hml, hown, hts⟩ (c_M_mostCases_0 l D cI cJ cZ cP cS po m0 mrf mki mpa mta mla msl mco mhe mso msi msh mce mca mwo mnu mte mwa mke mma mth mtr (npu) (nte) (nat_) (nde) (nto) (nse) (nhu) (nga) (nsd) (nfa) (nba) (npl) (nen) (nnu) (nwr) (nra) (nik) gki gpa gta (d) (sec) (wh) hy0 hy1 hy2 hy3 hy4 hy5 hy6 hy7 hy8 hy9 hy10 hy11 hy12 hy13 hy14 hy15 hp_gki hp_gpa hp_gta) (cwV 4 hts gX8_mostCases_X8_mostCases rfl rfl rfl ⟨rfl, dh_X8_mostCases⟩ ⟨Nat.le_of_ble_eq_true rfl, Nat.le_of_ble_eq_true rfl⟩) hK hN hZ hP (hP.sub [0, 1, 2, 3] rfl) (va_recv (q := (RX8, TX8, 38)) hK hP (ci := 8) (q0 := 0) rfl rfl) rfl hl.1 rfl (Nat.le_of_ble_eq_true rfl) dX8_mostCases_26 ⟨Nat.le_of_ble_eq_true rfl, Nat.le_of_ble_eq_true rfl⟩ (fun r_4 hr_4 => ?_)
      refine lv_imul hx hb dX8_mostCases_29 ?_
      refine lv_topi (fun x_5 ex_5 => ?_)
      refine lv_istore (lv' := [(5, .int x_5), (0, .ref m0), (1, .int 1), (2, .int d), (3, .int sec), (4, .int wh)]) hx hb dX8_mostCases_30 hl (by decide) rfl (fun ls hl => ?_)
      refine lv_iconst (v := 0) hx hb dX8_mostCases_32 (by decide) ?_
      refine lv_istore (lv' := [(6, .int 0), (5, .int x_5), (0, .ref m0), (1, .int 1), (2, .int d), (3, .int sec), (4, .int wh)]) hx hb dX8_mostCases_33 hl (by decide) rfl (fun ls hl => ?_)
      obtain ⟨i_35, hi_35⟩ : ∃ i : Int32, i = 0 := ⟨_, rfl⟩
      replace hl : lv_has ls 8 [(6, .int i_35), (5, .int x_5), (0, .ref m0), (1, .int 1), (2, .int d), (3, .int sec), (4, .int wh)] := by rw [hi_35]; exact lv_sub hl [0, 1, 2, 3, 4, 5, 6] rfl
      have h1i_35 : i_35.toInt = 0 := by rw [hi_35]; decide
      obtain ⟨nfu, hni_35⟩ : ∃ nq9 : Nat, npu.toInt ≤ i_35.toInt + (nq9 : Int) := ⟨((npu.toInt : Int) - 0).toNat, by omega⟩
      have hloi_35 : 0 ≤ i_35.toInt := by omega
      obtain ⟨v_6, hv_6⟩ : ∃ g : Int32, g = x_5 := ⟨_, rfl⟩
      replace hl : lv_has ls 8 [(6, .int i_35), (5, .int v_6), (0, .ref m0), (1, .int 1), (2, .int d), (3, .int sec), (4, .int wh)] := by rw [hv_6]; exact hl
      clear h1i_35 hi_35 hv_6
      revert hni_35
      revert hloi_35
      revert hl
      revert ls
      revert v_6
      revert i_35
      induction nfu with
      | zero =>
        intro i_35 v_6 ls hl hloi_35 hni_35
        have hzi_35 : npu.toInt ≤ i_35.toInt := by omega
        refine lv_iload hx hb dX8_mostCases_35 (lv_at hl 0 rfl) ?_
        refine lv_aload_n hx hb dX8_mostCases_37 rfl (lv_at hl 2 rfl) ?_
        refine va_get (D := D) (ci := 8) (v := .int npu) (C := RX8) (T := TX8) (N := 38) hx hb hts hi_X8_mostCases_8 hown hK hP 0 rfl rfl 0 (by decide) (hts (.fieldLink RX8 90 "TheLiningsInItModel" "pulls" "I") (List.mem_of_getElem? (i := 1) rfl)) (fun _ h9 => h9) rfl dX8_mostCases_38 ?_
        refine lv_icmp_ge (tgt := 109) hx hb dX8_mostCases_41 (by decide) (fun c_7 => ?_) (fun c_7 => ?_)
        · have fc_7 : npu.toInt ≤ i_35.toInt := zf_le c_7 rfl rfl
          refine lv_iload hx hb dX8_mostCases_109 (lv_at hl 1 rfl) ?_
          exact W.iret (v := v_6) hx hb hr (fun t ht hW => ⟨v_6, rfl, trivial, ht⟩) (fun q hq => by cases hq) dX8_mostCases_111
        · exfalso; have fc_7 : i_35.toInt < npu.toInt := zf_nle c_7 rfl rfl; omega
      | succ nfu ih =>
        intro i_35 v_6 ls hl hloi_35 hni_35
        refine lv_iload hx hb dX8_mostCases_35 (lv_at hl 0 rfl) ?_
        refine lv_aload_n hx hb dX8_mostCases_37 rfl (lv_at hl 2 rfl) ?_
        refine va_get (D := D) (ci := 8) (v := .int npu) (C := RX8) (T := TX8) (N := 38) hx hb hts hi_X8_mostCases_8 hown hK hP 0 rfl rfl 0 (by decide) (hts (.fieldLink RX8 90 "TheLiningsInItModel" "pulls" "I") (List.mem_of_getElem? (i := 1) rfl)) (fun _ h9 => h9) rfl dX8_mostCases_38 ?_
        refine lv_icmp_ge (tgt := 109) hx hb dX8_mostCases_41 (by decide) (fun c_8 => ?_) (fun c_8 => ?_)
        · have fc_8 : npu.toInt ≤ i_35.toInt := zf_le c_8 rfl rfl
          refine lv_iload hx hb dX8_mostCases_109 (lv_at hl 1 rfl) ?_
          exact W.iret (v := v_6) hx hb hr (fun t ht hW => ⟨v_6, rfl, trivial, ht⟩) (fun q hq => by cases hq) dX8_mostCases_111
        · have fc_8 : i_35.toInt < npu.toInt := zf_nle c_8 rfl rfl
          refine lv_aload_n hx hb dX8_mostCases_44 rfl (lv_at hl 2 rfl) ?_
          refine lv_iload hx hb dX8_mostCases_45 (lv_at hl 0 rfl) ?_
          refine lv_iload_n hx hb dX8_mostCases_47 rfl (lv_at hl 4 rfl) ?_
          refine lv_iload_n hx hb dX8_mostCases_48 rfl (lv_at hl 5 rfl) ?_
          refine zc_V (As := [.int i_35, .int d, .int sec]) (rest := []) ⟨hx, hb, hml, hown, hts⟩ (c_M_mayBe l D cI cJ cZ cP cS po m0 mrf mki mpa mta mla msl mco mhe mso msi msh mce mca mwo mnu mte mwa mke mma mth mtr (npu) (nte) (nat_) (nde) (nto) (nse) (nhu) (nga) (nsd) (nfa) (nba) (npl) (nen) (nnu) (nwr) (nra) (nik) gta (i_35) (d) (sec) hy0 hy1 hy2 hy3 hy4 hy5 hy6 hy7 hy8 hy9 hy10 hy11 hy12 hy13 (by omega) (by omega) hp_gta) (cwV 3 hts gX8_mostCases_X8_mayBe rfl rfl rfl ⟨rfl, dh_X8_mayBe⟩ ⟨Nat.le_of_ble_eq_true rfl, Nat.le_of_ble_eq_true rfl⟩) hK hN hZ hP (hP.sub [0, 3] rfl) (va_recv (q := (RX8, TX8, 38)) hK hP (ci := 8) (q0 := 0) rfl rfl) rfl hl.1 rfl (Nat.le_of_ble_eq_true rfl) dX8_mostCases_49 ⟨Nat.le_of_ble_eq_true rfl, Nat.le_of_ble_eq_true rfl⟩ (fun r_9 hr_9 => ?_)
          obtain ⟨g_10, g_11, hsr_9_0⟩ := hr_9
          refine lv_if_eq (tgt := 103) hx hb dX8_mostCases_52 (by decide) (fun c_12 => ?_) (fun c_12 => ?_)
          · have fc_12 : r_9.toInt = 0 := zf_eq c_12 rfl (by decide)
            obtain ⟨x_13, ex_13⟩ : ∃ y : Int32, y = i_35 + 1 := ⟨_, rfl⟩
            have qx_13 : x_13.toInt = i_35.toInt + 1 := dw_inc ex_13 fc_8
            refine lv_iinc (v := x_13) (lv' := [(6, .int x_13), (5, .int v_6), (0, .ref m0), (1, .int 1), (2, .int d), (3, .int sec), (4, .int wh)]) hx hb dX8_mostCases_103 hl (k := 0) rfl ex_13.symm (by decide) rfl (fun ls hl => ?_)
            refine lv_goto (tgt := 35) hx hb dX8_mostCases_106 (by decide) ?_
            exact ih x_13 v_6 _ (lv_sub hl [0, 1, 2, 3, 4, 5, 6] rfl) (dw_lo hloi_35 qx_13) (dw_hn hni_35 qx_13)
          · have fc_12 : r_9.toInt ≠ 0 := zf_ne c_12 rfl (by decide)
            refine lv_iload hx hb dX8_mostCases_55 (lv_at hl 6 rfl) ?_
            refine lv_if_eq (tgt := 74) hx hb dX8_mostCases_57 (by decide) (fun c_14 => ?_) (fun c_14 => ?_)
            · have fc_14 : wh.toInt = 0 := zf_eq c_14 rfl (by decide)
              refine lv_aload_n hx hb dX8_mostCases_74 rfl (lv_at hl 2 rfl) ?_
              refine lv_iload hx hb dX8_mostCases_75 (lv_at hl 0 rfl) ?_
              refine lv_iload_n hx hb dX8_mostCases_77 rfl (lv_at hl 3 rfl) ?_
              refine lv_iload_n hx hb dX8_mostCases_78 rfl (lv_at hl 4 rfl) ?_
              refine lv_iload_n hx hb dX8_mostCases_79 rfl (lv_at hl 5 rfl) ?_
              refine lv_iload hx hb dX8_mostCases_80 (lv_at hl 6 rfl) ?_
              refine zc_V (As := [.int i_35, .int 1, .int d, .int sec, .int wh]) (rest := []) ⟨hx, hb, hml, hown, hts⟩ (c_M_casesBy_1 l D cI cJ cZ cP cS po m0 mrf mki mpa mta mla msl mco mhe mso msi msh mce mca mwo mnu mte mwa mke mma mth mtr (npu) (nte) (nat_) (nde) (nto) (nse) (nhu) (nga) (nsd) (nfa) (nba) (npl) (nen) (nnu) (nwr) (nra) (nik) gki gpa gta (i_35) (d) (sec) (wh) hy0 hy1 hy2 hy3 hy4 hy5 hy6 hy7 hy8 hy9 hy10 hy11 hy12 hy13 (by omega) (by omega) hy14 hy15 hp_gki hp_gpa hp_gta) (cwV 5 hts gX8_mostCases_X8_casesBy rfl rfl rfl ⟨rfl, dh_X8_casesBy⟩ ⟨Nat.le_of_ble_eq_true rfl, Nat.le_of_ble_eq_true rfl⟩) hK hN hZ hP (hP.sub [0, 1, 2, 3] rfl) (va_recv (q := (RX8, TX8, 38)) hK hP (ci := 8) (q0 := 0) rfl rfl) rfl hl.1 rfl (Nat.le_of_ble_eq_true rfl) dX8_mostCases_82 ⟨Nat.le_of_ble_eq_true rfl, Nat.le_of_ble_eq_true rfl⟩ (fun r_15 hr_15 => ?_)
              refine lv_istore (lv' := [(7, .int r_15), (6, .int i_35), (5, .int v_6), (0, .ref m0), (1, .int 1), (2, .int d), (3, .int sec), (4, .int wh)]) hx hb dX8_mostCases_85 hl (by decide) rfl (fun ls hl => ?_)
              refine lv_iload hx hb dX8_mostCases_87 (lv_at hl 0 rfl) ?_
              refine lv_iload hx hb dX8_mostCases_89 (lv_at hl 2 rfl) ?_
              refine lv_icmp_le (tgt := 99) hx hb dX8_mostCases_91 (by decide) (fun c_16 => ?_) (fun c_16 => ?_)
              · have fc_16 : r_15.toInt ≤ v_6.toInt := zf_le c_16 rfl rfl
                refine lv_iload hx hb dX8_mostCases_99 (lv_at hl 2 rfl) ?_
                refine lv_istore (lv' := [(5, .int v_6), (7, .int r_15), (6, .int i_35), (0, .ref m0), (1, .int 1), (2, .int d), (3, .int sec), (4, .int wh)]) hx hb dX8_mostCases_101 hl (by decide) rfl (fun ls hl => ?_)
                obtain ⟨x_17, ex_17⟩ : ∃ y : Int32, y = i_35 + 1 := ⟨_, rfl⟩
                have qx_17 : x_17.toInt = i_35.toInt + 1 := dw_inc ex_17 fc_8
                refine lv_iinc (v := x_17) (lv' := [(6, .int x_17), (5, .int v_6), (7, .int r_15), (0, .ref m0), (1, .int 1), (2, .int d), (3, .int sec), (4, .int wh)]) hx hb dX8_mostCases_103 hl (k := 2) rfl ex_17.symm (by decide) rfl (fun ls hl => ?_)
                refine lv_goto (tgt := 35) hx hb dX8_mostCases_106 (by decide) ?_
                exact ih x_17 v_6 _ (lv_sub hl [0, 1, 3, 4, 5, 6, 7] rfl) (dw_lo hloi_35 qx_17) (dw_hn hni_35 qx_17)
              · have fc_16 : v_6.toInt < r_15.toInt := zf_nle c_16 rfl rfl
                refine lv_iload hx hb dX8_mostCases_94 (lv_at hl 0 rfl) ?_
                refine lv_goto (tgt := 101) hx hb dX8_mostCases_96 (by decide) ?_
                refine lv_istore (lv' := [(5, .int r_15), (7, .int r_15), (6, .int i_35), (0, .ref m0), (1, .int 1), (2, .int d), (3, .int sec), (4, .int wh)]) hx hb dX8_mostCases_101 hl (by decide) rfl (fun ls hl => ?_)
                obtain ⟨x_18, ex_18⟩ : ∃ y : Int32, y = i_35 + 1 := ⟨_, rfl⟩
                have qx_18 : x_18.toInt = i_35.toInt + 1 := dw_inc ex_18 fc_8
                refine lv_iinc (v := x_18) (lv' := [(6, .int x_18), (5, .int r_15), (7, .int r_15), (0, .ref m0), (1, .int 1), (2, .int d), (3, .int sec), (4, .int wh)]) hx hb dX8_mostCases_103 hl (k := 2) rfl ex_18.symm (by decide) rfl (fun ls hl => ?_)
                refine lv_goto (tgt := 35) hx hb dX8_mostCases_106 (by decide) ?_
                exact ih x_18 r_15 _ (lv_sub hl [0, 1, 3, 4, 5, 6, 7] rfl) (dw_lo hloi_35 qx_18) (dw_hn hni_35 qx_18)
            · have fc_14 : wh.toInt ≠ 0 := zf_ne c_14 rfl (by decide)
              refine lv_aload_n hx hb dX8_mostCases_60 rfl (lv_at hl 2 rfl) ?_
              refine va_get (D := D) (ci := 8) (v := .ref mki) (C := RX8) (T := TX8) (N := 38) hx hb hts hi_X8_mostCases_8 hown hK hP 0 rfl rfl 11 (by decide) (hts (.fieldLink RX8 29 "TheLiningsInItModel" "kind" "[I") (List.mem_of_getElem? (i := 2) rfl)) (fun _ h9 => h9) rfl dX8_mostCases_61 ?_
              refine lv_iload hx hb dX8_mostCases_64 (lv_at hl 0 rfl) ?_
              refine va_iald hx hb hK hP 1 0 rfl rfl (zf_in (by omega) (by omega)) dX8_mostCases_66 ?_
              refine lv_topi (fun x_19 ex_19 => ?_)
              have bx_19 : 0 ≤ x_19.toInt ∧ x_19.toInt ≤ 6 := by rw [ex_19]; exact hp_gki _
              refine lv_iconst (v := 5) hx hb dX8_mostCases_67 (by decide) ?_
              refine lv_icmp_ne (tgt := 74) hx hb dX8_mostCases_68 (by decide) (fun c_20 => ?_) (fun c_20 => ?_)
              · have fc_20 : x_19.toInt ≠ 5 := zf_ne c_20 rfl (by decide)
                refine lv_aload_n hx hb dX8_mostCases_74 rfl (lv_at hl 2 rfl) ?_
                refine lv_iload hx hb dX8_mostCases_75 (lv_at hl 0 rfl) ?_
                refine lv_iload_n hx hb dX8_mostCases_77 rfl (lv_at hl 3 rfl) ?_
                refine lv_iload_n hx hb dX8_mostCases_78 rfl (lv_at hl 4 rfl) ?_
                refine lv_iload_n hx hb dX8_mostCases_79 rfl (lv_at hl 5 rfl) ?_
                refine lv_iload hx hb dX8_mostCases_80 (lv_at hl 6 rfl) ?_
                refine zc_V (As := [.int i_35, .int 1, .int d, .int sec, .int wh]) (rest := []) ⟨hx, hb, hml, hown, hts⟩ (c_M_casesBy_1 l D cI cJ cZ cP cS po m0 mrf mki mpa mta mla msl mco mhe mso msi msh mce mca mwo mnu mte mwa mke mma mth mtr (npu) (nte) (nat_) (nde) (nto) (nse) (nhu) (nga) (nsd) (nfa) (nba) (npl) (nen) (nnu) (nwr) (nra) (nik) gki gpa gta (i_35) (d) (sec) (wh) hy0 hy1 hy2 hy3 hy4 hy5 hy6 hy7 hy8 hy9 hy10 hy11 hy12 hy13 (by omega) (by omega) hy14 hy15 hp_gki hp_gpa hp_gta) (cwV 5 hts gX8_mostCases_X8_casesBy rfl rfl rfl ⟨rfl, dh_X8_casesBy⟩ ⟨Nat.le_of_ble_eq_true rfl, Nat.le_of_ble_eq_true rfl⟩) hK hN hZ hP (hP.sub [0, 1, 2, 3] rfl) (va_recv (q := (RX8, TX8, 38)) hK hP (ci := 8) (q0 := 0) rfl rfl) rfl hl.1 rfl (Nat.le_of_ble_eq_true rfl) dX8_mostCases_82 ⟨Nat.le_of_ble_eq_true rfl, Nat.le_of_ble_eq_true rfl⟩ (fun r_21 hr_21 => ?_)
                refine lv_istore (lv' := [(7, .int r_21), (6, .int i_35), (5, .int v_6), (0, .ref m0), (1, .int 1), (2, .int d), (3, .int sec), (4, .int wh)]) hx hb dX8_mostCases_85 hl (by decide) rfl (fun ls hl => ?_)
                refine lv_iload hx hb dX8_mostCases_87 (lv_at hl 0 rfl) ?_
                refine lv_iload hx hb dX8_mostCases_89 (lv_at hl 2 rfl) ?_
                refine lv_icmp_le (tgt := 99) hx hb dX8_mostCases_91 (by decide) (fun c_22 => ?_) (fun c_22 => ?_)
                · have fc_22 : r_21.toInt ≤ v_6.toInt := zf_le c_22 rfl rfl
                  refine lv_iload hx hb dX8_mostCases_99 (lv_at hl 2 rfl) ?_
                  refine lv_istore (lv' := [(5, .int v_6), (7, .int r_21), (6, .int i_35), (0, .ref m0), (1, .int 1), (2, .int d), (3, .int sec), (4, .int wh)]) hx hb dX8_mostCases_101 hl (by decide) rfl (fun ls hl => ?_)
                  obtain ⟨x_23, ex_23⟩ : ∃ y : Int32, y = i_35 + 1 := ⟨_, rfl⟩
                  have qx_23 : x_23.toInt = i_35.toInt + 1 := dw_inc ex_23 fc_8
                  refine lv_iinc (v := x_23) (lv' := [(6, .int x_23), (5, .int v_6), (7, .int r_21), (0, .ref m0), (1, .int 1), (2, .int d), (3, .int sec), (4, .int wh)]) hx hb dX8_mostCases_103 hl (k := 2) rfl ex_23.symm (by decide) rfl (fun ls hl => ?_)
                  refine lv_goto (tgt := 35) hx hb dX8_mostCases_106 (by decide) ?_
                  exact ih x_23 v_6 _ (lv_sub hl [0, 1, 3, 4, 5, 6, 7] rfl) (dw_lo hloi_35 qx_23) (dw_hn hni_35 qx_23)
                · have fc_22 : v_6.toInt < r_21.toInt := zf_nle c_22 rfl rfl
                  refine lv_iload hx hb dX8_mostCases_94 (lv_at hl 0 rfl) ?_
                  refine lv_goto (tgt := 101) hx hb dX8_mostCases_96 (by decide) ?_
                  refine lv_istore (lv' := [(5, .int r_21), (7, .int r_21), (6, .int i_35), (0, .ref m0), (1, .int 1), (2, .int d), (3, .int sec), (4, .int wh)]) hx hb dX8_mostCases_101 hl (by decide) rfl (fun ls hl => ?_)
                  obtain ⟨x_24, ex_24⟩ : ∃ y : Int32, y = i_35 + 1 := ⟨_, rfl⟩
                  have qx_24 : x_24.toInt = i_35.toInt + 1 := dw_inc ex_24 fc_8
                  refine lv_iinc (v := x_24) (lv' := [(6, .int x_24), (5, .int r_21), (7, .int r_21), (0, .ref m0), (1, .int 1), (2, .int d), (3, .int sec), (4, .int wh)]) hx hb dX8_mostCases_103 hl (k := 2) rfl ex_24.symm (by decide) rfl (fun ls hl => ?_)
                  refine lv_goto (tgt := 35) hx hb dX8_mostCases_106 (by decide) ?_
                  exact ih x_24 r_21 _ (lv_sub hl [0, 1, 3, 4, 5, 6, 7] rfl) (dw_lo hloi_35 qx_24) (dw_hn hni_35 qx_24)
              · have fc_20 : x_19.toInt = 5 := zf_eq c_20 rfl (by decide)
                refine lv_goto (tgt := 103) hx hb dX8_mostCases_71 (by decide) ?_
                obtain ⟨x_25, ex_25⟩ : ∃ y : Int32, y = i_35 + 1 := ⟨_, rfl⟩
                have qx_25 : x_25.toInt = i_35.toInt + 1 := dw_inc ex_25 fc_8
                refine lv_iinc (v := x_25) (lv' := [(6, .int x_25), (5, .int v_6), (0, .ref m0), (1, .int 1), (2, .int d), (3, .int sec), (4, .int wh)]) hx hb dX8_mostCases_103 hl (k := 0) rfl ex_25.symm (by decide) rfl (fun ls hl => ?_)
                refine lv_goto (tgt := 35) hx hb dX8_mostCases_106 (by decide) ?_
                exact ih x_25 v_6 _ (lv_sub hl [0, 1, 2, 3, 4, 5, 6] rfl) (dw_lo hloi_35 qx_25) (dw_hn hni_35 qx_25)
    · exact absurd c_2 (by decide)
  · have fc_1 : d.toInt = 0 := zf_eq c_1 rfl (by decide)
    refine lv_aload_n hx hb dX8_mostCases_4 rfl (lv_at hl 0 rfl) ?_
    refine lv_iload_n hx hb dX8_mostCases_5 rfl (lv_at hl 1 rfl) ?_
    refine zc_V (As := [.int 1]) (rest := []) ⟨hx, hb, hml, hown, hts⟩ (c_M_power_1 l D cI cJ cZ cP cS po m0 mrf mki mpa mta mla msl mco mhe mso msi msh mce mca mwo mnu mte mwa mke mma mth mtr (npu) (nte) (nat_) (nde) (nto) (nse) (nhu) (nga) (nsd) (nfa) (nba) (npl) (nen) (nnu) (nwr) (nra) (nik) hy0 hy1 hy2 hy3 hy4 hy5 hy6 hy7 hy8 hy9 hy10 hy11 hy12 hy13) (cwV 1 hts gX8_mostCases_X8_power rfl rfl rfl ⟨rfl, dh_X8_power⟩ ⟨Nat.le_of_ble_eq_true rfl, Nat.le_of_ble_eq_true rfl⟩) hK hN hZ hP (hP.sub [0] rfl) (va_recv (q := (RX8, TX8, 38)) hK hP (ci := 8) (q0 := 0) rfl rfl) rfl hl.1 rfl (Nat.le_of_ble_eq_true rfl) dX8_mostCases_6 ⟨Nat.le_of_ble_eq_true rfl, Nat.le_of_ble_eq_true rfl⟩ (fun r_26 hr_26 => ?_)
    obtain rfl := hr_26
    exact W.iret (v := 12) hx hb hr (fun t ht hW => ⟨12, rfl, trivial, ht⟩) (fun q hq => by cases hq) dX8_mostCases_9
set_option maxHeartbeats 4000000 in
set_option maxRecDepth 100000 in
theorem c_M_casesBy_2 (l : Launch) (D : va_G) (cI cJ cZ cP cS : ClassId) (po : zPool) (m0 mrf mki mpa mta mla msl mco mhe mso msi msh mce mca mwo mnu mte mwa mke mma mth mtr : Nat) (npu nte nat_ nde nto nse nhu nga nsd nfa nba npl nen nnu nwr nra nik : Int32) (gki gpa gta : Nat → Int32) (p_ d sec wh : Int32) (hy0 : 0 ≤ npu.toInt) (hy1 : npu.toInt ≤ 8) (hy2 : 4 ≤ nte.toInt) (hy3 : nte.toInt ≤ 40) (hy4 : 0 ≤ nat_.toInt) (hy5 : nat_.toInt ≤ 40) (hy6 : 0 ≤ nde.toInt) (hy7 : nde.toInt ≤ 24) (hy8 : 0 ≤ nhu.toInt) (hy9 : nhu.toInt ≤ 9) (hy10 : 0 ≤ nra.toInt) (hy11 : nra.toInt ≤ 2000) (hy12 : 0 ≤ nik.toInt) (hy13 : nik.toInt ≤ 1) (hy14 : 0 ≤ p_.toInt) (hy15 : p_.toInt ≤ 7) (hy16 : 0 ≤ d.toInt) (hy17 : d.toInt ≤ 24) (hp_gki : zRg gki (0) 6) (hp_gpa : zRg gpa (0) 9) (hp_gta : zRg gta (0) 60) : Met l yX8_casesBy wsX8_casesBy ({ frames := 4, cells := 0, slots := 0, locals := 102 }) (va_Pc [.ref m0, .int p_, .int 2, .int d, .int sec, .int wh] (zR D (zKT cI cJ cZ cP cS) po [(zMO m0 npu nte nat_ nde nto nse nhu nga nsd nfa mrf mki mpa mta mla msl mco mhe mso msi msh mce mca mwo mnu mte nba npl nen nnu nwr mwa mke mma mth mtr nra nik), (mki, .inl (cI, 8, .inl gki)), (mpa, .inl (cI, 8, .inl gpa)), (mta, .inl (cI, 8, .inl gta))])) (vp_Si (fun r => True)) 0 0 (fun _ => False) := by
  refine Met.ofW (cc := cX8_casesBy) (maxL := 8) (ret := (some .int)) (by decide) rfl ?_
  intro p e s m args below meth c s₁ B hml hv
  obtain ⟨rfl, hP, hK, hN, hZ⟩ := hv
  have hx := B.exec
  have hb := B.bytes
  have hr := B.returns
  have hts := atoms_spec (ws := wsX8_casesBy) B.pre
  have hown : s.vm.findClass RX8 = some m.cls := findClass_of_methodNamed B.named
  have hlocks := B.notSynchronized
  have hl := lv_entry ([.ref m0, .int p_, .int 2, .int d, .int sec, .int wh]) (n := 8) (Nat.le_of_ble_eq_true rfl)
  rw [lg_entry_eq]
  generalize (lg_sl ([.ref m0, .int p_, .int 2, .int d, .int sec, .int wh]) ++ List.replicate (8 - (lg_sl ([.ref m0, .int p_, .int 2, .int d, .int sec, .int wh])).length) Slot.unset).toArray = ls at hl ⊢
  replace hl : lv_has ls 8 [(0, .ref m0), (1, .int p_), (2, .int 2), (3, .int d), (4, .int sec), (5, .int wh)] := hl
  refine lv_aload_n hx hb dX8_casesBy_0 rfl (lv_at hl 0 rfl) ?_
  refine lv_iload_n hx hb dX8_casesBy_1 rfl (lv_at hl 1 rfl) ?_
  refine lv_iload_n hx hb dX8_casesBy_2 rfl (lv_at hl 3 rfl) ?_
  refine zc_V (As := [.int p_, .int d]) (rest := []) ⟨hx, hb, hml, hown, hts⟩ (c_M_ways l D cI cJ cZ cP cS po m0 mrf mki mpa mta mla msl mco mhe mso msi msh mce mca mwo mnu mte mwa mke mma mth mtr (npu) (nte) (nat_) (nde) (nto) (nse) (nhu) (nga) (nsd) (nfa) (nba) (npl) (nen) (nnu) (nwr) (nra) (nik) gki gpa (p_) (d) hy0 hy1 hy2 hy3 hy4 hy5 hy6 hy7 hy8 hy9 hy10 hy11 hy12 hy13 hy14 hy15 hp_gki hp_gpa) (cwV 2 hts gX8_casesBy_X8_ways rfl rfl rfl ⟨rfl, dh_X8_ways⟩ ⟨Nat.le_of_ble_eq_true rfl, Nat.le_of_ble_eq_true rfl⟩) hK hN hZ hP (hP.sub [0, 1, 2] rfl) (va_recv (q := (RX8, TX8, 38)) hK hP (ci := 8) (q0 := 0) rfl rfl) rfl hl.1 rfl (Nat.le_of_ble_eq_true rfl) dX8_casesBy_3 ⟨Nat.le_of_ble_eq_true rfl, Nat.le_of_ble_eq_true rfl⟩ (fun r_1 hr_1 => ?_)
  obtain ⟨g_2, g_3⟩ := hr_1
  refine lv_istore (lv' := [(6, .int r_1), (0, .ref m0), (1, .int p_), (2, .int 2), (3, .int d), (4, .int sec), (5, .int wh)]) hx hb dX8_casesBy_6 hl (by decide) rfl (fun ls hl => ?_)
  refine lv_iload hx hb dX8_casesBy_8 (lv_at hl 0 rfl) ?_
  refine lv_if_ne (tgt := 17) hx hb dX8_casesBy_10 (by decide) (fun c_4 => ?_) (fun c_4 => ?_)
  · have fc_4 : r_1.toInt ≠ 0 := zf_ne c_4 rfl (by decide)
    refine lv_iload hx hb dX8_casesBy_17 (lv_at hl 0 rfl) ?_
    refine lv_aload_n hx hb dX8_casesBy_19 rfl (lv_at hl 1 rfl) ?_
    refine lv_iload_n hx hb dX8_casesBy_20 rfl (lv_at hl 3 rfl) ?_
    refine lv_iconst (v := 1) hx hb dX8_casesBy_21 (by decide) ?_
    refine lv_isub hx hb dX8_casesBy_22 ?_
    refine lv_topi (fun y_5 ey_5 => ?_)
    obtain rfl : y_5 = 1 := ey_5.trans (by decide)
    refine lv_aload_n hx hb dX8_casesBy_23 rfl (lv_at hl 1 rfl) ?_
    refine lv_iload_n hx hb dX8_casesBy_24 rfl (lv_at hl 2 rfl) ?_
    refine lv_iload_n hx hb dX8_casesBy_25 rfl (lv_at hl 4 rfl) ?_
    refine lv_iconst (v := 1) hx hb dX8_casesBy_26 (by decide) ?_
    refine zc_V (As := [.int p_, .int d, .int 1]) (rest := [.int 1, .ref m0, .int r_1]) ⟨hx, hb, hml, hown, hts⟩ (c_M_deep l D cI cJ cZ cP cS po m0 mrf mki mpa mta mla msl mco mhe mso msi msh mce mca mwo mnu mte mwa mke mma mth mtr (npu) (nte) (nat_) (nde) (nto) (nse) (nhu) (nga) (nsd) (nfa) (nba) (npl) (nen) (nnu) (nwr) (nra) (nik) gki gpa (p_) (d) (1) hy0 hy1 hy2 hy3 hy4 hy5 hy6 hy7 hy8 hy9 hy10 hy11 hy12 hy13 hy14 hy15 hy16 hy17 hp_gki hp_gpa) (cwV 3 hts gX8_casesBy_X8_deep rfl rfl rfl ⟨rfl, dh_X8_deep⟩ ⟨Nat.le_of_ble_eq_true rfl, Nat.le_of_ble_eq_true rfl⟩) hK hN hZ hP (hP.sub [0, 1, 2] rfl) (va_recv (q := (RX8, TX8, 38)) hK hP (ci := 8) (q0 := 0) rfl rfl) rfl hl.1 rfl (Nat.le_of_ble_eq_true rfl) dX8_casesBy_27 ⟨Nat.le_of_ble_eq_true rfl, Nat.le_of_ble_eq_true rfl⟩ (fun r_6 hr_6 => ?_)
    obtain ⟨g_7, g_8⟩ := hr_6
    refine lv_iload hx hb dX8_casesBy_30 (lv_at hl 5 rfl) ?_
    refine lv_aload_n hx hb dX8_casesBy_32 rfl (lv_at hl 1 rfl) ?_
    refine va_get (D := D) (ci := 8) (v := .ref mta) (C := RX8) (T := TX8) (N := 38) hx hb hts hi_X8_casesBy_8 hown hK hP 0 rfl rfl 13 (by decide) (hts (.fieldLink RX8 35 "TheLiningsInItModel" "takes" "[I") (List.mem_of_getElem? (i := 1) rfl)) (fun _ h9 => h9) rfl dX8_casesBy_33 ?_
    refine lv_iload_n hx hb dX8_casesBy_36 rfl (lv_at hl 2 rfl) ?_
    refine va_iald hx hb hK hP 3 0 rfl rfl (zf_in (by omega) (by omega)) dX8_casesBy_37 ?_
    refine lv_topi (fun x_9 ex_9 => ?_)
    have bx_9 : 0 ≤ x_9.toInt ∧ x_9.toInt ≤ 60 := by rw [ex_9]; exact hp_gta _
    refine lv_isub hx hb dX8_casesBy_38 ?_
    refine lv_topi (fun x_10 ex_10 => ?_)
    refine lv_iload hx hb dX8_casesBy_39 (lv_at hl 6 rfl) ?_
    refine zc_V (As := [.int 1, .int r_6, .int x_10, .int wh]) (rest := [.int r_1]) ⟨hx, hb, hml, hown, hts⟩ (c_M_mostCases_1 l D cI cJ cZ cP cS po m0 mrf mki mpa mta mla msl mco mhe mso msi msh mce mca mwo mnu mte mwa mke mma mth mtr (npu) (nte) (nat_) (nde) (nto) (nse) (nhu) (nga) (nsd) (nfa) (nba) (npl) (nen) (nnu) (nwr) (nra) (nik) gki gpa gta (r_6) (x_10) (wh) hy0 hy1 hy2 hy3 hy4 hy5 hy6 hy7 hy8 hy9 hy10 hy11 hy12 hy13 (by omega) (by omega) hp_gki hp_gpa hp_gta) (cwV 4 hts gX8_casesBy_X8_mostCases rfl rfl rfl ⟨rfl, dh_X8_mostCases⟩ ⟨Nat.le_of_ble_eq_true rfl, Nat.le_of_ble_eq_true rfl⟩) hK hN hZ hP (hP.sub [0, 1, 2, 3] rfl) (va_recv (q := (RX8, TX8, 38)) hK hP (ci := 8) (q0 := 0) rfl rfl) rfl hl.1 rfl (Nat.le_of_ble_eq_true rfl) dX8_casesBy_41 ⟨Nat.le_of_ble_eq_true rfl, Nat.le_of_ble_eq_true rfl⟩ (fun r_11 hr_11 => ?_)
    refine lv_imul hx hb dX8_casesBy_44 ?_
    refine lv_topi (fun x_12 ex_12 => ?_)
    refine lv_istore (lv' := [(7, .int x_12), (6, .int r_1), (0, .ref m0), (1, .int p_), (2, .int 2), (3, .int d), (4, .int sec), (5, .int wh)]) hx hb dX8_casesBy_45 hl (by decide) rfl (fun ls hl => ?_)
    refine lv_iload hx hb dX8_casesBy_47 (lv_at hl 1 rfl) ?_
    refine lv_bipush (v := 12) hx hb dX8_casesBy_49 (by decide) ?_
    refine lv_icmp_ne (tgt := 59) hx hb dX8_casesBy_51 (by decide) (fun c_13 => ?_) (fun c_13 => ?_)
    · have fc_13 : r_1.toInt ≠ 12 := zf_ne c_13 rfl (by decide)
      refine lv_iload hx hb dX8_casesBy_59 (lv_at hl 0 rfl) ?_
      refine lv_bipush (v := 12) hx hb dX8_casesBy_61 (by decide) ?_
      refine lv_iload hx hb dX8_casesBy_63 (lv_at hl 1 rfl) ?_
      refine lv_isub hx hb dX8_casesBy_65 ?_
      refine lv_topi (fun x_14 ex_14 => ?_)
      have qx_14 : x_14.toInt = 12 - r_1.toInt := by rw [ex_14]; exact zf_sub (by decide) rfl (by omega) (by omega)
      refine lv_aload_n hx hb dX8_casesBy_66 rfl (lv_at hl 2 rfl) ?_
      refine lv_iload_n hx hb dX8_casesBy_67 rfl (lv_at hl 4 rfl) ?_
      refine lv_iconst (v := 1) hx hb dX8_casesBy_68 (by decide) ?_
      refine lv_isub hx hb dX8_casesBy_69 ?_
      refine lv_topi (fun y_15 ey_15 => ?_)
      obtain rfl : y_15 = 1 := ey_15.trans (by decide)
      refine lv_aload_n hx hb dX8_casesBy_70 rfl (lv_at hl 2 rfl) ?_
      refine lv_iload_n hx hb dX8_casesBy_71 rfl (lv_at hl 3 rfl) ?_
      refine lv_iload_n hx hb dX8_casesBy_72 rfl (lv_at hl 5 rfl) ?_
      refine lv_iconst (v := 0) hx hb dX8_casesBy_73 (by decide) ?_
      refine zc_V (As := [.int p_, .int d, .int 0]) (rest := [.int 1, .ref m0, .int x_14, .int x_12]) ⟨hx, hb, hml, hown, hts⟩ (c_M_deep l D cI cJ cZ cP cS po m0 mrf mki mpa mta mla msl mco mhe mso msi msh mce mca mwo mnu mte mwa mke mma mth mtr (npu) (nte) (nat_) (nde) (nto) (nse) (nhu) (nga) (nsd) (nfa) (nba) (npl) (nen) (nnu) (nwr) (nra) (nik) gki gpa (p_) (d) (0) hy0 hy1 hy2 hy3 hy4 hy5 hy6 hy7 hy8 hy9 hy10 hy11 hy12 hy13 hy14 hy15 hy16 hy17 hp_gki hp_gpa) (cwV 3 hts gX8_casesBy_X8_deep rfl rfl rfl ⟨rfl, dh_X8_deep⟩ ⟨Nat.le_of_ble_eq_true rfl, Nat.le_of_ble_eq_true rfl⟩) hK hN hZ hP (hP.sub [0, 1, 2] rfl) (va_recv (q := (RX8, TX8, 38)) hK hP (ci := 8) (q0 := 0) rfl rfl) rfl hl.1 rfl (Nat.le_of_ble_eq_true rfl) dX8_casesBy_74 ⟨Nat.le_of_ble_eq_true rfl, Nat.le_of_ble_eq_true rfl⟩ (fun r_16 hr_16 => ?_)
      obtain ⟨g_17, g_18⟩ := hr_16
      refine lv_iload hx hb dX8_casesBy_77 (lv_at hl 6 rfl) ?_
      refine lv_aload_n hx hb dX8_casesBy_79 rfl (lv_at hl 2 rfl) ?_
      refine va_get (D := D) (ci := 8) (v := .ref mta) (C := RX8) (T := TX8) (N := 38) hx hb hts hi_X8_casesBy_8 hown hK hP 0 rfl rfl 13 (by decide) (hts (.fieldLink RX8 35 "TheLiningsInItModel" "takes" "[I") (List.mem_of_getElem? (i := 1) rfl)) (fun _ h9 => h9) rfl dX8_casesBy_80 ?_
      refine lv_iload_n hx hb dX8_casesBy_83 rfl (lv_at hl 3 rfl) ?_
      refine va_iald hx hb hK hP 3 0 rfl rfl (zf_in (by omega) (by omega)) dX8_casesBy_84 ?_
      refine lv_topi (fun x_19 ex_19 => ?_)
      have bx_19 : 0 ≤ x_19.toInt ∧ x_19.toInt ≤ 60 := by rw [ex_19]; exact hp_gta _
      refine lv_isub hx hb dX8_casesBy_85 ?_
      refine lv_topi (fun x_20 ex_20 => ?_)
      refine lv_iload hx hb dX8_casesBy_86 (lv_at hl 7 rfl) ?_
      refine zc_V (As := [.int 1, .int r_16, .int x_20, .int wh]) (rest := [.int x_14, .int x_12]) ⟨hx, hb, hml, hown, hts⟩ (c_M_mostCases_1 l D cI cJ cZ cP cS po m0 mrf mki mpa mta mla msl mco mhe mso msi msh mce mca mwo mnu mte mwa mke mma mth mtr (npu) (nte) (nat_) (nde) (nto) (nse) (nhu) (nga) (nsd) (nfa) (nba) (npl) (nen) (nnu) (nwr) (nra) (nik) gki gpa gta (r_16) (x_20) (wh) hy0 hy1 hy2 hy3 hy4 hy5 hy6 hy7 hy8 hy9 hy10 hy11 hy12 hy13 (by omega) (by omega) hp_gki hp_gpa hp_gta) (cwV 4 hts gX8_casesBy_X8_mostCases rfl rfl rfl ⟨rfl, dh_X8_mostCases⟩ ⟨Nat.le_of_ble_eq_true rfl, Nat.le_of_ble_eq_true rfl⟩) hK hN hZ hP (hP.sub [0, 1, 2, 3] rfl) (va_recv (q := (RX8, TX8, 38)) hK hP (ci := 8) (q0 := 0) rfl rfl) rfl hl.1 rfl (Nat.le_of_ble_eq_true rfl) dX8_casesBy_88 ⟨Nat.le_of_ble_eq_true rfl, Nat.le_of_ble_eq_true rfl⟩ (fun r_21 hr_21 => ?_)
      refine lv_imul hx hb dX8_casesBy_91 ?_
      refine lv_topi (fun x_22 ex_22 => ?_)
      refine lv_iadd hx hb dX8_casesBy_92 ?_
      refine lv_topi (fun x_23 ex_23 => ?_)
      exact W.iret (v := x_23) hx hb hr (fun t ht hW => ⟨x_23, rfl, trivial, ht⟩) (fun q hq => by cases hq) dX8_casesBy_93
    · have fc_13 : r_1.toInt = 12 := zf_eq c_13 rfl (by decide)
      refine lv_iload hx hb dX8_casesBy_54 (lv_at hl 0 rfl) ?_
      refine lv_goto (tgt := 93) hx hb dX8_casesBy_56 (by decide) ?_
      exact W.iret (v := x_12) hx hb hr (fun t ht hW => ⟨x_12, rfl, trivial, ht⟩) (fun q hq => by cases hq) dX8_casesBy_93
  · have fc_4 : r_1.toInt = 0 := zf_eq c_4 rfl (by decide)
    refine lv_iconst (v := 0) hx hb dX8_casesBy_13 (by decide) ?_
    refine lv_goto (tgt := 45) hx hb dX8_casesBy_14 (by decide) ?_
    refine lv_istore (lv' := [(7, .int 0), (6, .int r_1), (0, .ref m0), (1, .int p_), (2, .int 2), (3, .int d), (4, .int sec), (5, .int wh)]) hx hb dX8_casesBy_45 hl (by decide) rfl (fun ls hl => ?_)
    refine lv_iload hx hb dX8_casesBy_47 (lv_at hl 1 rfl) ?_
    refine lv_bipush (v := 12) hx hb dX8_casesBy_49 (by decide) ?_
    refine lv_icmp_ne (tgt := 59) hx hb dX8_casesBy_51 (by decide) (fun c_24 => ?_) (fun c_24 => ?_)
    · have fc_24 : r_1.toInt ≠ 12 := zf_ne c_24 rfl (by decide)
      refine lv_iload hx hb dX8_casesBy_59 (lv_at hl 0 rfl) ?_
      refine lv_bipush (v := 12) hx hb dX8_casesBy_61 (by decide) ?_
      refine lv_iload hx hb dX8_casesBy_63 (lv_at hl 1 rfl) ?_
      refine lv_isub hx hb dX8_casesBy_65 ?_
      refine lv_topi (fun x_25 ex_25 => ?_)
      have qx_25 : x_25.toInt = 12 - r_1.toInt := by rw [ex_25]; exact zf_sub (by decide) rfl (by omega) (by omega)
      refine lv_aload_n hx hb dX8_casesBy_66 rfl (lv_at hl 2 rfl) ?_
      refine lv_iload_n hx hb dX8_casesBy_67 rfl (lv_at hl 4 rfl) ?_
      refine lv_iconst (v := 1) hx hb dX8_casesBy_68 (by decide) ?_
      refine lv_isub hx hb dX8_casesBy_69 ?_
      refine lv_topi (fun y_26 ey_26 => ?_)
      obtain rfl : y_26 = 1 := ey_26.trans (by decide)
      refine lv_aload_n hx hb dX8_casesBy_70 rfl (lv_at hl 2 rfl) ?_
      refine lv_iload_n hx hb dX8_casesBy_71 rfl (lv_at hl 3 rfl) ?_
      refine lv_iload_n hx hb dX8_casesBy_72 rfl (lv_at hl 5 rfl) ?_
      refine lv_iconst (v := 0) hx hb dX8_casesBy_73 (by decide) ?_
      refine zc_V (As := [.int p_, .int d, .int 0]) (rest := [.int 1, .ref m0, .int x_25, .int 0]) ⟨hx, hb, hml, hown, hts⟩ (c_M_deep l D cI cJ cZ cP cS po m0 mrf mki mpa mta mla msl mco mhe mso msi msh mce mca mwo mnu mte mwa mke mma mth mtr (npu) (nte) (nat_) (nde) (nto) (nse) (nhu) (nga) (nsd) (nfa) (nba) (npl) (nen) (nnu) (nwr) (nra) (nik) gki gpa (p_) (d) (0) hy0 hy1 hy2 hy3 hy4 hy5 hy6 hy7 hy8 hy9 hy10 hy11 hy12 hy13 hy14 hy15 hy16 hy17 hp_gki hp_gpa) (cwV 3 hts gX8_casesBy_X8_deep rfl rfl rfl ⟨rfl, dh_X8_deep⟩ ⟨Nat.le_of_ble_eq_true rfl, Nat.le_of_ble_eq_true rfl⟩) hK hN hZ hP (hP.sub [0, 1, 2] rfl) (va_recv (q := (RX8, TX8, 38)) hK hP (ci := 8) (q0 := 0) rfl rfl) rfl hl.1 rfl (Nat.le_of_ble_eq_true rfl) dX8_casesBy_74 ⟨Nat.le_of_ble_eq_true rfl, Nat.le_of_ble_eq_true rfl⟩ (fun r_27 hr_27 => ?_)
      obtain ⟨g_28, g_29⟩ := hr_27
      refine lv_iload hx hb dX8_casesBy_77 (lv_at hl 6 rfl) ?_
      refine lv_aload_n hx hb dX8_casesBy_79 rfl (lv_at hl 2 rfl) ?_
      refine va_get (D := D) (ci := 8) (v := .ref mta) (C := RX8) (T := TX8) (N := 38) hx hb hts hi_X8_casesBy_8 hown hK hP 0 rfl rfl 13 (by decide) (hts (.fieldLink RX8 35 "TheLiningsInItModel" "takes" "[I") (List.mem_of_getElem? (i := 1) rfl)) (fun _ h9 => h9) rfl dX8_casesBy_80 ?_
      refine lv_iload_n hx hb dX8_casesBy_83 rfl (lv_at hl 3 rfl) ?_
      refine va_iald hx hb hK hP 3 0 rfl rfl (zf_in (by omega) (by omega)) dX8_casesBy_84 ?_
      refine lv_topi (fun x_30 ex_30 => ?_)
      have bx_30 : 0 ≤ x_30.toInt ∧ x_30.toInt ≤ 60 := by rw [ex_30]; exact hp_gta _
      refine lv_isub hx hb dX8_casesBy_85 ?_
      refine lv_topi (fun x_31 ex_31 => ?_)
      refine lv_iload hx hb dX8_casesBy_86 (lv_at hl 7 rfl) ?_
      refine zc_V (As := [.int 1, .int r_27, .int x_31, .int wh]) (rest := [.int x_25, .int 0]) ⟨hx, hb, hml, hown, hts⟩ (c_M_mostCases_1 l D cI cJ cZ cP cS po m0 mrf mki mpa mta mla msl mco mhe mso msi msh mce mca mwo mnu mte mwa mke mma mth mtr (npu) (nte) (nat_) (nde) (nto) (nse) (nhu) (nga) (nsd) (nfa) (nba) (npl) (nen) (nnu) (nwr) (nra) (nik) gki gpa gta (r_27) (x_31) (wh) hy0 hy1 hy2 hy3 hy4 hy5 hy6 hy7 hy8 hy9 hy10 hy11 hy12 hy13 (by omega) (by omega) hp_gki hp_gpa hp_gta) (cwV 4 hts gX8_casesBy_X8_mostCases rfl rfl rfl ⟨rfl, dh_X8_mostCases⟩ ⟨Nat.le_of_ble_eq_true rfl, Nat.le_of_ble_eq_true rfl⟩) hK hN hZ hP (hP.sub [0, 1, 2, 3] rfl) (va_recv (q := (RX8, TX8, 38)) hK hP (ci := 8) (q0 := 0) rfl rfl) rfl hl.1 rfl (Nat.le_of_ble_eq_true rfl) dX8_casesBy_88 ⟨Nat.le_of_ble_eq_true rfl, Nat.le_of_ble_eq_true rfl⟩ (fun r_32 hr_32 => ?_)
      refine lv_imul hx hb dX8_casesBy_91 ?_
      refine lv_topi (fun x_33 ex_33 => ?_)
      refine lv_iadd hx hb dX8_casesBy_92 ?_
      refine lv_topi (fun x_34 ex_34 => ?_)
      have rbx_34 := zf_rng x_33
      have qx_34 : x_34.toInt = 0 + x_33.toInt := by rw [ex_34]; exact zf_add (by decide) rfl (by omega) (by omega)
      exact W.iret (v := x_34) hx hb hr (fun t ht hW => ⟨x_34, rfl, trivial, ht⟩) (fun q hq => by cases hq) dX8_casesBy_93
    · exfalso; have fc_24 : r_1.toInt = 12 := zf_eq c_24 rfl (by decide); omega
set_option maxHeartbeats 4000000 in
set_option maxRecDepth 100000 in
theorem c_M_mostCases_2 (l : Launch) (D : va_G) (cI cJ cZ cP cS : ClassId) (po : zPool) (m0 mrf mki mpa mta mla msl mco mhe mso msi msh mce mca mwo mnu mte mwa mke mma mth mtr : Nat) (npu nte nat_ nde nto nse nhu nga nsd nfa nba npl nen nnu nwr nra nik : Int32) (gki gpa gta : Nat → Int32) (d sec wh : Int32) (hy0 : 0 ≤ npu.toInt) (hy1 : npu.toInt ≤ 8) (hy2 : 4 ≤ nte.toInt) (hy3 : nte.toInt ≤ 40) (hy4 : 0 ≤ nat_.toInt) (hy5 : nat_.toInt ≤ 40) (hy6 : 0 ≤ nde.toInt) (hy7 : nde.toInt ≤ 24) (hy8 : 0 ≤ nhu.toInt) (hy9 : nhu.toInt ≤ 9) (hy10 : 0 ≤ nra.toInt) (hy11 : nra.toInt ≤ 2000) (hy12 : 0 ≤ nik.toInt) (hy13 : nik.toInt ≤ 1) (hy14 : 0 ≤ d.toInt) (hy15 : d.toInt ≤ 24) (hp_gki : zRg gki (0) 6) (hp_gpa : zRg gpa (0) 9) (hp_gta : zRg gta (0) 60) : Met l yX8_mostCases wsX8_mostCases ({ frames := 5, cells := 0, slots := 0, locals := 129 }) (va_Pc [.ref m0, .int 2, .int d, .int sec, .int wh] (zR D (zKT cI cJ cZ cP cS) po [(zMO m0 npu nte nat_ nde nto nse nhu nga nsd nfa mrf mki mpa mta mla msl mco mhe mso msi msh mce mca mwo mnu mte nba npl nen nnu nwr mwa mke mma mth mtr nra nik), (mki, .inl (cI, 8, .inl gki)), (mpa, .inl (cI, 8, .inl gpa)), (mta, .inl (cI, 8, .inl gta))])) (vp_Si (fun r => True)) 0 0 (fun _ => False) := by
  refine Met.ofW (cc := cX8_mostCases) (maxL := 8) (ret := (some .int)) (by decide) rfl ?_
  intro p e s m args below meth c s₁ B hml hv
  obtain ⟨rfl, hP, hK, hN, hZ⟩ := hv
  have hx := B.exec
  have hb := B.bytes
  have hr := B.returns
  have hts := atoms_spec (ws := wsX8_mostCases) B.pre
  have hown : s.vm.findClass RX8 = some m.cls := findClass_of_methodNamed B.named
  have hlocks := B.notSynchronized
  have hl := lv_entry ([.ref m0, .int 2, .int d, .int sec, .int wh]) (n := 8) (Nat.le_of_ble_eq_true rfl)
  rw [lg_entry_eq]
  generalize (lg_sl ([.ref m0, .int 2, .int d, .int sec, .int wh]) ++ List.replicate (8 - (lg_sl ([.ref m0, .int 2, .int d, .int sec, .int wh])).length) Slot.unset).toArray = ls at hl ⊢
  replace hl : lv_has ls 8 [(0, .ref m0), (1, .int 2), (2, .int d), (3, .int sec), (4, .int wh)] := hl
  refine lv_iload_n hx hb dX8_mostCases_0 rfl (lv_at hl 2 rfl) ?_
  refine lv_if_ne (tgt := 10) hx hb dX8_mostCases_1 (by decide) (fun c_1 => ?_) (fun c_1 => ?_)
  · have fc_1 : d.toInt ≠ 0 := zf_ne c_1 rfl (by decide)
    refine lv_iload_n hx hb dX8_mostCases_10 rfl (lv_at hl 1 rfl) ?_
    refine lv_if_ne (tgt := 16) hx hb dX8_mostCases_11 (by decide) (fun c_2 => ?_) (fun c_2 => ?_)
    · refine lv_bipush (v := 12) hx hb dX8_mostCases_16 (by decide) ?_
      refine lv_aload_n hx hb dX8_mostCases_18 rfl (lv_at hl 0 rfl) ?_
      refine lv_iload_n hx hb dX8_mostCases_19 rfl (lv_at hl 1 rfl) ?_
      refine lv_iconst (v := 1) hx hb dX8_mostCases_20 (by decide) ?_
      refine lv_isub hx hb dX8_mostCases_21 ?_
      refine lv_topi (fun y_3 ey_3 => ?_)
      obtain rfl : y_3 = 1 := ey_3.trans (by decide)
      refine lv_iload_n hx hb dX8_mostCases_22 rfl (lv_at hl 2 rfl) ?_
      refine lv_iload_n hx hb dX8_mostCases_23 rfl (lv_at hl 3 rfl) ?_
      refine lv_iload hx hb dX8_mostCases_24 (lv_at hl 4 rfl) ?_
      refine zc_V (As := [.int 1, .int d, .int sec, .int wh]) (rest := [.int 12]) ⟨hx, hb, hml, hown, hts⟩ (c_M_mostCases_1 l D cI cJ cZ cP cS po m0 mrf mki mpa mta mla msl mco mhe mso msi msh mce mca mwo mnu mte mwa mke mma mth mtr (npu) (nte) (nat_) (nde) (nto) (nse) (nhu) (nga) (nsd) (nfa) (nba) (npl) (nen) (nnu) (nwr) (nra) (nik) gki gpa gta (d) (sec) (wh) hy0 hy1 hy2 hy3 hy4 hy5 hy6 hy7 hy8 hy9 hy10 hy11 hy12 hy13 hy14 hy15 hp_gki hp_gpa hp_gta) (cwV 4 hts gX8_mostCases_X8_mostCases rfl rfl rfl ⟨rfl, dh_X8_mostCases⟩ ⟨Nat.le_of_ble_eq_true rfl, Nat.le_of_ble_eq_true rfl⟩) hK hN hZ hP (hP.sub [0, 1, 2, 3] rfl) (va_recv (q := (RX8, TX8, 38)) hK hP (ci := 8) (q0 := 0) rfl rfl) rfl hl.1 rfl (Nat.le_of_ble_eq_true rfl) dX8_mostCases_26 ⟨Nat.le_of_ble_eq_true rfl, Nat.le_of_ble_eq_true rfl⟩ (fun r_4 hr_4 => ?_)
      refine lv_imul hx hb dX8_mostCases_29 ?_
      refine lv_topi (fun x_5 ex_5 => ?_)
      refine lv_istore (lv' := [(5, .int x_5), (0, .ref m0), (1, .int 2), (2, .int d), (3, .int sec), (4, .int wh)]) hx hb dX8_mostCases_30 hl (by decide) rfl (fun ls hl => ?_)
      refine lv_iconst (v := 0) hx hb dX8_mostCases_32 (by decide) ?_
      refine lv_istore (lv' := [(6, .int 0), (5, .int x_5), (0, .ref m0), (1, .int 2), (2, .int d), (3, .int sec), (4, .int wh)]) hx hb dX8_mostCases_33 hl (by decide) rfl (fun ls hl => ?_)
      obtain ⟨i_35, hi_35⟩ : ∃ i : Int32, i = 0 := ⟨_, rfl⟩
      replace hl : lv_has ls 8 [(6, .int i_35), (5, .int x_5), (0, .ref m0), (1, .int 2), (2, .int d), (3, .int sec), (4, .int wh)] := by rw [hi_35]; exact lv_sub hl [0, 1, 2, 3, 4, 5, 6] rfl
      have h1i_35 : i_35.toInt = 0 := by rw [hi_35]; decide
      obtain ⟨nfu, hni_35⟩ : ∃ nq9 : Nat, npu.toInt ≤ i_35.toInt + (nq9 : Int) := ⟨((npu.toInt : Int) - 0).toNat, by omega⟩
      have hloi_35 : 0 ≤ i_35.toInt := by omega
      obtain ⟨v_6, hv_6⟩ : ∃ g : Int32, g = x_5 := ⟨_, rfl⟩
      replace hl : lv_has ls 8 [(6, .int i_35), (5, .int v_6), (0, .ref m0), (1, .int 2), (2, .int d), (3, .int sec), (4, .int wh)] := by rw [hv_6]; exact hl
      clear h1i_35 hi_35 hv_6
      revert hni_35
      revert hloi_35
      revert hl
      revert ls
      revert v_6
      revert i_35
      induction nfu with
      | zero =>
        intro i_35 v_6 ls hl hloi_35 hni_35
        have hzi_35 : npu.toInt ≤ i_35.toInt := by omega
        refine lv_iload hx hb dX8_mostCases_35 (lv_at hl 0 rfl) ?_
        refine lv_aload_n hx hb dX8_mostCases_37 rfl (lv_at hl 2 rfl) ?_
        refine va_get (D := D) (ci := 8) (v := .int npu) (C := RX8) (T := TX8) (N := 38) hx hb hts hi_X8_mostCases_8 hown hK hP 0 rfl rfl 0 (by decide) (hts (.fieldLink RX8 90 "TheLiningsInItModel" "pulls" "I") (List.mem_of_getElem? (i := 1) rfl)) (fun _ h9 => h9) rfl dX8_mostCases_38 ?_
        refine lv_icmp_ge (tgt := 109) hx hb dX8_mostCases_41 (by decide) (fun c_7 => ?_) (fun c_7 => ?_)
        · have fc_7 : npu.toInt ≤ i_35.toInt := zf_le c_7 rfl rfl
          refine lv_iload hx hb dX8_mostCases_109 (lv_at hl 1 rfl) ?_
          exact W.iret (v := v_6) hx hb hr (fun t ht hW => ⟨v_6, rfl, trivial, ht⟩) (fun q hq => by cases hq) dX8_mostCases_111
        · exfalso; have fc_7 : i_35.toInt < npu.toInt := zf_nle c_7 rfl rfl; omega
      | succ nfu ih =>
        intro i_35 v_6 ls hl hloi_35 hni_35
        refine lv_iload hx hb dX8_mostCases_35 (lv_at hl 0 rfl) ?_
        refine lv_aload_n hx hb dX8_mostCases_37 rfl (lv_at hl 2 rfl) ?_
        refine va_get (D := D) (ci := 8) (v := .int npu) (C := RX8) (T := TX8) (N := 38) hx hb hts hi_X8_mostCases_8 hown hK hP 0 rfl rfl 0 (by decide) (hts (.fieldLink RX8 90 "TheLiningsInItModel" "pulls" "I") (List.mem_of_getElem? (i := 1) rfl)) (fun _ h9 => h9) rfl dX8_mostCases_38 ?_
        refine lv_icmp_ge (tgt := 109) hx hb dX8_mostCases_41 (by decide) (fun c_8 => ?_) (fun c_8 => ?_)
        · have fc_8 : npu.toInt ≤ i_35.toInt := zf_le c_8 rfl rfl
          refine lv_iload hx hb dX8_mostCases_109 (lv_at hl 1 rfl) ?_
          exact W.iret (v := v_6) hx hb hr (fun t ht hW => ⟨v_6, rfl, trivial, ht⟩) (fun q hq => by cases hq) dX8_mostCases_111
        · have fc_8 : i_35.toInt < npu.toInt := zf_nle c_8 rfl rfl
          refine lv_aload_n hx hb dX8_mostCases_44 rfl (lv_at hl 2 rfl) ?_
          refine lv_iload hx hb dX8_mostCases_45 (lv_at hl 0 rfl) ?_
          refine lv_iload_n hx hb dX8_mostCases_47 rfl (lv_at hl 4 rfl) ?_
          refine lv_iload_n hx hb dX8_mostCases_48 rfl (lv_at hl 5 rfl) ?_
          refine zc_V (As := [.int i_35, .int d, .int sec]) (rest := []) ⟨hx, hb, hml, hown, hts⟩ (c_M_mayBe l D cI cJ cZ cP cS po m0 mrf mki mpa mta mla msl mco mhe mso msi msh mce mca mwo mnu mte mwa mke mma mth mtr (npu) (nte) (nat_) (nde) (nto) (nse) (nhu) (nga) (nsd) (nfa) (nba) (npl) (nen) (nnu) (nwr) (nra) (nik) gta (i_35) (d) (sec) hy0 hy1 hy2 hy3 hy4 hy5 hy6 hy7 hy8 hy9 hy10 hy11 hy12 hy13 (by omega) (by omega) hp_gta) (cwV 3 hts gX8_mostCases_X8_mayBe rfl rfl rfl ⟨rfl, dh_X8_mayBe⟩ ⟨Nat.le_of_ble_eq_true rfl, Nat.le_of_ble_eq_true rfl⟩) hK hN hZ hP (hP.sub [0, 3] rfl) (va_recv (q := (RX8, TX8, 38)) hK hP (ci := 8) (q0 := 0) rfl rfl) rfl hl.1 rfl (Nat.le_of_ble_eq_true rfl) dX8_mostCases_49 ⟨Nat.le_of_ble_eq_true rfl, Nat.le_of_ble_eq_true rfl⟩ (fun r_9 hr_9 => ?_)
          obtain ⟨g_10, g_11, hsr_9_0⟩ := hr_9
          refine lv_if_eq (tgt := 103) hx hb dX8_mostCases_52 (by decide) (fun c_12 => ?_) (fun c_12 => ?_)
          · have fc_12 : r_9.toInt = 0 := zf_eq c_12 rfl (by decide)
            obtain ⟨x_13, ex_13⟩ : ∃ y : Int32, y = i_35 + 1 := ⟨_, rfl⟩
            have qx_13 : x_13.toInt = i_35.toInt + 1 := dw_inc ex_13 fc_8
            refine lv_iinc (v := x_13) (lv' := [(6, .int x_13), (5, .int v_6), (0, .ref m0), (1, .int 2), (2, .int d), (3, .int sec), (4, .int wh)]) hx hb dX8_mostCases_103 hl (k := 0) rfl ex_13.symm (by decide) rfl (fun ls hl => ?_)
            refine lv_goto (tgt := 35) hx hb dX8_mostCases_106 (by decide) ?_
            exact ih x_13 v_6 _ (lv_sub hl [0, 1, 2, 3, 4, 5, 6] rfl) (dw_lo hloi_35 qx_13) (dw_hn hni_35 qx_13)
          · have fc_12 : r_9.toInt ≠ 0 := zf_ne c_12 rfl (by decide)
            refine lv_iload hx hb dX8_mostCases_55 (lv_at hl 6 rfl) ?_
            refine lv_if_eq (tgt := 74) hx hb dX8_mostCases_57 (by decide) (fun c_14 => ?_) (fun c_14 => ?_)
            · have fc_14 : wh.toInt = 0 := zf_eq c_14 rfl (by decide)
              refine lv_aload_n hx hb dX8_mostCases_74 rfl (lv_at hl 2 rfl) ?_
              refine lv_iload hx hb dX8_mostCases_75 (lv_at hl 0 rfl) ?_
              refine lv_iload_n hx hb dX8_mostCases_77 rfl (lv_at hl 3 rfl) ?_
              refine lv_iload_n hx hb dX8_mostCases_78 rfl (lv_at hl 4 rfl) ?_
              refine lv_iload_n hx hb dX8_mostCases_79 rfl (lv_at hl 5 rfl) ?_
              refine lv_iload hx hb dX8_mostCases_80 (lv_at hl 6 rfl) ?_
              refine zc_V (As := [.int i_35, .int 2, .int d, .int sec, .int wh]) (rest := []) ⟨hx, hb, hml, hown, hts⟩ (c_M_casesBy_2 l D cI cJ cZ cP cS po m0 mrf mki mpa mta mla msl mco mhe mso msi msh mce mca mwo mnu mte mwa mke mma mth mtr (npu) (nte) (nat_) (nde) (nto) (nse) (nhu) (nga) (nsd) (nfa) (nba) (npl) (nen) (nnu) (nwr) (nra) (nik) gki gpa gta (i_35) (d) (sec) (wh) hy0 hy1 hy2 hy3 hy4 hy5 hy6 hy7 hy8 hy9 hy10 hy11 hy12 hy13 (by omega) (by omega) hy14 hy15 hp_gki hp_gpa hp_gta) (cwV 5 hts gX8_mostCases_X8_casesBy rfl rfl rfl ⟨rfl, dh_X8_casesBy⟩ ⟨Nat.le_of_ble_eq_true rfl, Nat.le_of_ble_eq_true rfl⟩) hK hN hZ hP (hP.sub [0, 1, 2, 3] rfl) (va_recv (q := (RX8, TX8, 38)) hK hP (ci := 8) (q0 := 0) rfl rfl) rfl hl.1 rfl (Nat.le_of_ble_eq_true rfl) dX8_mostCases_82 ⟨Nat.le_of_ble_eq_true rfl, Nat.le_of_ble_eq_true rfl⟩ (fun r_15 hr_15 => ?_)
              refine lv_istore (lv' := [(7, .int r_15), (6, .int i_35), (5, .int v_6), (0, .ref m0), (1, .int 2), (2, .int d), (3, .int sec), (4, .int wh)]) hx hb dX8_mostCases_85 hl (by decide) rfl (fun ls hl => ?_)
              refine lv_iload hx hb dX8_mostCases_87 (lv_at hl 0 rfl) ?_
              refine lv_iload hx hb dX8_mostCases_89 (lv_at hl 2 rfl) ?_
              refine lv_icmp_le (tgt := 99) hx hb dX8_mostCases_91 (by decide) (fun c_16 => ?_) (fun c_16 => ?_)
              · have fc_16 : r_15.toInt ≤ v_6.toInt := zf_le c_16 rfl rfl
                refine lv_iload hx hb dX8_mostCases_99 (lv_at hl 2 rfl) ?_
                refine lv_istore (lv' := [(5, .int v_6), (7, .int r_15), (6, .int i_35), (0, .ref m0), (1, .int 2), (2, .int d), (3, .int sec), (4, .int wh)]) hx hb dX8_mostCases_101 hl (by decide) rfl (fun ls hl => ?_)
                obtain ⟨x_17, ex_17⟩ : ∃ y : Int32, y = i_35 + 1 := ⟨_, rfl⟩
                have qx_17 : x_17.toInt = i_35.toInt + 1 := dw_inc ex_17 fc_8
                refine lv_iinc (v := x_17) (lv' := [(6, .int x_17), (5, .int v_6), (7, .int r_15), (0, .ref m0), (1, .int 2), (2, .int d), (3, .int sec), (4, .int wh)]) hx hb dX8_mostCases_103 hl (k := 2) rfl ex_17.symm (by decide) rfl (fun ls hl => ?_)
                refine lv_goto (tgt := 35) hx hb dX8_mostCases_106 (by decide) ?_
                exact ih x_17 v_6 _ (lv_sub hl [0, 1, 3, 4, 5, 6, 7] rfl) (dw_lo hloi_35 qx_17) (dw_hn hni_35 qx_17)
              · have fc_16 : v_6.toInt < r_15.toInt := zf_nle c_16 rfl rfl
                refine lv_iload hx hb dX8_mostCases_94 (lv_at hl 0 rfl) ?_
                refine lv_goto (tgt := 101) hx hb dX8_mostCases_96 (by decide) ?_
                refine lv_istore (lv' := [(5, .int r_15), (7, .int r_15), (6, .int i_35), (0, .ref m0), (1, .int 2), (2, .int d), (3, .int sec), (4, .int wh)]) hx hb dX8_mostCases_101 hl (by decide) rfl (fun ls hl => ?_)
                obtain ⟨x_18, ex_18⟩ : ∃ y : Int32, y = i_35 + 1 := ⟨_, rfl⟩
                have qx_18 : x_18.toInt = i_35.toInt + 1 := dw_inc ex_18 fc_8
                refine lv_iinc (v := x_18) (lv' := [(6, .int x_18), (5, .int r_15), (7, .int r_15), (0, .ref m0), (1, .int 2), (2, .int d), (3, .int sec), (4, .int wh)]) hx hb dX8_mostCases_103 hl (k := 2) rfl ex_18.symm (by decide) rfl (fun ls hl => ?_)
                refine lv_goto (tgt := 35) hx hb dX8_mostCases_106 (by decide) ?_
                exact ih x_18 r_15 _ (lv_sub hl [0, 1, 3, 4, 5, 6, 7] rfl) (dw_lo hloi_35 qx_18) (dw_hn hni_35 qx_18)
            · have fc_14 : wh.toInt ≠ 0 := zf_ne c_14 rfl (by decide)
              refine lv_aload_n hx hb dX8_mostCases_60 rfl (lv_at hl 2 rfl) ?_
              refine va_get (D := D) (ci := 8) (v := .ref mki) (C := RX8) (T := TX8) (N := 38) hx hb hts hi_X8_mostCases_8 hown hK hP 0 rfl rfl 11 (by decide) (hts (.fieldLink RX8 29 "TheLiningsInItModel" "kind" "[I") (List.mem_of_getElem? (i := 2) rfl)) (fun _ h9 => h9) rfl dX8_mostCases_61 ?_
              refine lv_iload hx hb dX8_mostCases_64 (lv_at hl 0 rfl) ?_
              refine va_iald hx hb hK hP 1 0 rfl rfl (zf_in (by omega) (by omega)) dX8_mostCases_66 ?_
              refine lv_topi (fun x_19 ex_19 => ?_)
              have bx_19 : 0 ≤ x_19.toInt ∧ x_19.toInt ≤ 6 := by rw [ex_19]; exact hp_gki _
              refine lv_iconst (v := 5) hx hb dX8_mostCases_67 (by decide) ?_
              refine lv_icmp_ne (tgt := 74) hx hb dX8_mostCases_68 (by decide) (fun c_20 => ?_) (fun c_20 => ?_)
              · have fc_20 : x_19.toInt ≠ 5 := zf_ne c_20 rfl (by decide)
                refine lv_aload_n hx hb dX8_mostCases_74 rfl (lv_at hl 2 rfl) ?_
                refine lv_iload hx hb dX8_mostCases_75 (lv_at hl 0 rfl) ?_
                refine lv_iload_n hx hb dX8_mostCases_77 rfl (lv_at hl 3 rfl) ?_
                refine lv_iload_n hx hb dX8_mostCases_78 rfl (lv_at hl 4 rfl) ?_
                refine lv_iload_n hx hb dX8_mostCases_79 rfl (lv_at hl 5 rfl) ?_
                refine lv_iload hx hb dX8_mostCases_80 (lv_at hl 6 rfl) ?_
                refine zc_V (As := [.int i_35, .int 2, .int d, .int sec, .int wh]) (rest := []) ⟨hx, hb, hml, hown, hts⟩ (c_M_casesBy_2 l D cI cJ cZ cP cS po m0 mrf mki mpa mta mla msl mco mhe mso msi msh mce mca mwo mnu mte mwa mke mma mth mtr (npu) (nte) (nat_) (nde) (nto) (nse) (nhu) (nga) (nsd) (nfa) (nba) (npl) (nen) (nnu) (nwr) (nra) (nik) gki gpa gta (i_35) (d) (sec) (wh) hy0 hy1 hy2 hy3 hy4 hy5 hy6 hy7 hy8 hy9 hy10 hy11 hy12 hy13 (by omega) (by omega) hy14 hy15 hp_gki hp_gpa hp_gta) (cwV 5 hts gX8_mostCases_X8_casesBy rfl rfl rfl ⟨rfl, dh_X8_casesBy⟩ ⟨Nat.le_of_ble_eq_true rfl, Nat.le_of_ble_eq_true rfl⟩) hK hN hZ hP (hP.sub [0, 1, 2, 3] rfl) (va_recv (q := (RX8, TX8, 38)) hK hP (ci := 8) (q0 := 0) rfl rfl) rfl hl.1 rfl (Nat.le_of_ble_eq_true rfl) dX8_mostCases_82 ⟨Nat.le_of_ble_eq_true rfl, Nat.le_of_ble_eq_true rfl⟩ (fun r_21 hr_21 => ?_)
                refine lv_istore (lv' := [(7, .int r_21), (6, .int i_35), (5, .int v_6), (0, .ref m0), (1, .int 2), (2, .int d), (3, .int sec), (4, .int wh)]) hx hb dX8_mostCases_85 hl (by decide) rfl (fun ls hl => ?_)
                refine lv_iload hx hb dX8_mostCases_87 (lv_at hl 0 rfl) ?_
                refine lv_iload hx hb dX8_mostCases_89 (lv_at hl 2 rfl) ?_
                refine lv_icmp_le (tgt := 99) hx hb dX8_mostCases_91 (by decide) (fun c_22 => ?_) (fun c_22 => ?_)
                · have fc_22 : r_21.toInt ≤ v_6.toInt := zf_le c_22 rfl rfl
                  refine lv_iload hx hb dX8_mostCases_99 (lv_at hl 2 rfl) ?_
                  refine lv_istore (lv' := [(5, .int v_6), (7, .int r_21), (6, .int i_35), (0, .ref m0), (1, .int 2), (2, .int d), (3, .int sec), (4, .int wh)]) hx hb dX8_mostCases_101 hl (by decide) rfl (fun ls hl => ?_)
                  obtain ⟨x_23, ex_23⟩ : ∃ y : Int32, y = i_35 + 1 := ⟨_, rfl⟩
                  have qx_23 : x_23.toInt = i_35.toInt + 1 := dw_inc ex_23 fc_8
                  refine lv_iinc (v := x_23) (lv' := [(6, .int x_23), (5, .int v_6), (7, .int r_21), (0, .ref m0), (1, .int 2), (2, .int d), (3, .int sec), (4, .int wh)]) hx hb dX8_mostCases_103 hl (k := 2) rfl ex_23.symm (by decide) rfl (fun ls hl => ?_)
                  refine lv_goto (tgt := 35) hx hb dX8_mostCases_106 (by decide) ?_
                  exact ih x_23 v_6 _ (lv_sub hl [0, 1, 3, 4, 5, 6, 7] rfl) (dw_lo hloi_35 qx_23) (dw_hn hni_35 qx_23)
                · have fc_22 : v_6.toInt < r_21.toInt := zf_nle c_22 rfl rfl
                  refine lv_iload hx hb dX8_mostCases_94 (lv_at hl 0 rfl) ?_
                  refine lv_goto (tgt := 101) hx hb dX8_mostCases_96 (by decide) ?_
                  refine lv_istore (lv' := [(5, .int r_21), (7, .int r_21), (6, .int i_35), (0, .ref m0), (1, .int 2), (2, .int d), (3, .int sec), (4, .int wh)]) hx hb dX8_mostCases_101 hl (by decide) rfl (fun ls hl => ?_)
                  obtain ⟨x_24, ex_24⟩ : ∃ y : Int32, y = i_35 + 1 := ⟨_, rfl⟩
                  have qx_24 : x_24.toInt = i_35.toInt + 1 := dw_inc ex_24 fc_8
                  refine lv_iinc (v := x_24) (lv' := [(6, .int x_24), (5, .int r_21), (7, .int r_21), (0, .ref m0), (1, .int 2), (2, .int d), (3, .int sec), (4, .int wh)]) hx hb dX8_mostCases_103 hl (k := 2) rfl ex_24.symm (by decide) rfl (fun ls hl => ?_)
                  refine lv_goto (tgt := 35) hx hb dX8_mostCases_106 (by decide) ?_
                  exact ih x_24 r_21 _ (lv_sub hl [0, 1, 3, 4, 5, 6, 7] rfl) (dw_lo hloi_35 qx_24) (dw_hn hni_35 qx_24)
              · have fc_20 : x_19.toInt = 5 := zf_eq c_20 rfl (by decide)
                refine lv_goto (tgt := 103) hx hb dX8_mostCases_71 (by decide) ?_
                obtain ⟨x_25, ex_25⟩ : ∃ y : Int32, y = i_35 + 1 := ⟨_, rfl⟩
                have qx_25 : x_25.toInt = i_35.toInt + 1 := dw_inc ex_25 fc_8
                refine lv_iinc (v := x_25) (lv' := [(6, .int x_25), (5, .int v_6), (0, .ref m0), (1, .int 2), (2, .int d), (3, .int sec), (4, .int wh)]) hx hb dX8_mostCases_103 hl (k := 0) rfl ex_25.symm (by decide) rfl (fun ls hl => ?_)
                refine lv_goto (tgt := 35) hx hb dX8_mostCases_106 (by decide) ?_
                exact ih x_25 v_6 _ (lv_sub hl [0, 1, 2, 3, 4, 5, 6] rfl) (dw_lo hloi_35 qx_25) (dw_hn hni_35 qx_25)
    · exact absurd c_2 (by decide)
  · have fc_1 : d.toInt = 0 := zf_eq c_1 rfl (by decide)
    refine lv_aload_n hx hb dX8_mostCases_4 rfl (lv_at hl 0 rfl) ?_
    refine lv_iload_n hx hb dX8_mostCases_5 rfl (lv_at hl 1 rfl) ?_
    refine zc_V (As := [.int 2]) (rest := []) ⟨hx, hb, hml, hown, hts⟩ (c_M_power_2 l D cI cJ cZ cP cS po m0 mrf mki mpa mta mla msl mco mhe mso msi msh mce mca mwo mnu mte mwa mke mma mth mtr (npu) (nte) (nat_) (nde) (nto) (nse) (nhu) (nga) (nsd) (nfa) (nba) (npl) (nen) (nnu) (nwr) (nra) (nik) hy0 hy1 hy2 hy3 hy4 hy5 hy6 hy7 hy8 hy9 hy10 hy11 hy12 hy13) (cwV 1 hts gX8_mostCases_X8_power rfl rfl rfl ⟨rfl, dh_X8_power⟩ ⟨Nat.le_of_ble_eq_true rfl, Nat.le_of_ble_eq_true rfl⟩) hK hN hZ hP (hP.sub [0] rfl) (va_recv (q := (RX8, TX8, 38)) hK hP (ci := 8) (q0 := 0) rfl rfl) rfl hl.1 rfl (Nat.le_of_ble_eq_true rfl) dX8_mostCases_6 ⟨Nat.le_of_ble_eq_true rfl, Nat.le_of_ble_eq_true rfl⟩ (fun r_26 hr_26 => ?_)
    obtain rfl := hr_26
    exact W.iret (v := 144) hx hb hr (fun t ht hW => ⟨144, rfl, trivial, ht⟩) (fun q hq => by cases hq) dX8_mostCases_9
set_option maxHeartbeats 4000000 in
set_option maxRecDepth 100000 in
theorem c_M_casesBy_3 (l : Launch) (D : va_G) (cI cJ cZ cP cS : ClassId) (po : zPool) (m0 mrf mki mpa mta mla msl mco mhe mso msi msh mce mca mwo mnu mte mwa mke mma mth mtr : Nat) (npu nte nat_ nde nto nse nhu nga nsd nfa nba npl nen nnu nwr nra nik : Int32) (gki gpa gta : Nat → Int32) (p_ d sec wh : Int32) (hy0 : 0 ≤ npu.toInt) (hy1 : npu.toInt ≤ 8) (hy2 : 4 ≤ nte.toInt) (hy3 : nte.toInt ≤ 40) (hy4 : 0 ≤ nat_.toInt) (hy5 : nat_.toInt ≤ 40) (hy6 : 0 ≤ nde.toInt) (hy7 : nde.toInt ≤ 24) (hy8 : 0 ≤ nhu.toInt) (hy9 : nhu.toInt ≤ 9) (hy10 : 0 ≤ nra.toInt) (hy11 : nra.toInt ≤ 2000) (hy12 : 0 ≤ nik.toInt) (hy13 : nik.toInt ≤ 1) (hy14 : 0 ≤ p_.toInt) (hy15 : p_.toInt ≤ 7) (hy16 : 0 ≤ d.toInt) (hy17 : d.toInt ≤ 24) (hp_gki : zRg gki (0) 6) (hp_gpa : zRg gpa (0) 9) (hp_gta : zRg gta (0) 60) : Met l yX8_casesBy wsX8_casesBy ({ frames := 6, cells := 0, slots := 0, locals := 156 }) (va_Pc [.ref m0, .int p_, .int 3, .int d, .int sec, .int wh] (zR D (zKT cI cJ cZ cP cS) po [(zMO m0 npu nte nat_ nde nto nse nhu nga nsd nfa mrf mki mpa mta mla msl mco mhe mso msi msh mce mca mwo mnu mte nba npl nen nnu nwr mwa mke mma mth mtr nra nik), (mki, .inl (cI, 8, .inl gki)), (mpa, .inl (cI, 8, .inl gpa)), (mta, .inl (cI, 8, .inl gta))])) (vp_Si (fun r => True)) 0 0 (fun _ => False) := by
  refine Met.ofW (cc := cX8_casesBy) (maxL := 8) (ret := (some .int)) (by decide) rfl ?_
  intro p e s m args below meth c s₁ B hml hv
  obtain ⟨rfl, hP, hK, hN, hZ⟩ := hv
  have hx := B.exec
  have hb := B.bytes
  have hr := B.returns
  have hts := atoms_spec (ws := wsX8_casesBy) B.pre
  have hown : s.vm.findClass RX8 = some m.cls := findClass_of_methodNamed B.named
  have hlocks := B.notSynchronized
  have hl := lv_entry ([.ref m0, .int p_, .int 3, .int d, .int sec, .int wh]) (n := 8) (Nat.le_of_ble_eq_true rfl)
  rw [lg_entry_eq]
  generalize (lg_sl ([.ref m0, .int p_, .int 3, .int d, .int sec, .int wh]) ++ List.replicate (8 - (lg_sl ([.ref m0, .int p_, .int 3, .int d, .int sec, .int wh])).length) Slot.unset).toArray = ls at hl ⊢
  replace hl : lv_has ls 8 [(0, .ref m0), (1, .int p_), (2, .int 3), (3, .int d), (4, .int sec), (5, .int wh)] := hl
  refine lv_aload_n hx hb dX8_casesBy_0 rfl (lv_at hl 0 rfl) ?_
  refine lv_iload_n hx hb dX8_casesBy_1 rfl (lv_at hl 1 rfl) ?_
  refine lv_iload_n hx hb dX8_casesBy_2 rfl (lv_at hl 3 rfl) ?_
  refine zc_V (As := [.int p_, .int d]) (rest := []) ⟨hx, hb, hml, hown, hts⟩ (c_M_ways l D cI cJ cZ cP cS po m0 mrf mki mpa mta mla msl mco mhe mso msi msh mce mca mwo mnu mte mwa mke mma mth mtr (npu) (nte) (nat_) (nde) (nto) (nse) (nhu) (nga) (nsd) (nfa) (nba) (npl) (nen) (nnu) (nwr) (nra) (nik) gki gpa (p_) (d) hy0 hy1 hy2 hy3 hy4 hy5 hy6 hy7 hy8 hy9 hy10 hy11 hy12 hy13 hy14 hy15 hp_gki hp_gpa) (cwV 2 hts gX8_casesBy_X8_ways rfl rfl rfl ⟨rfl, dh_X8_ways⟩ ⟨Nat.le_of_ble_eq_true rfl, Nat.le_of_ble_eq_true rfl⟩) hK hN hZ hP (hP.sub [0, 1, 2] rfl) (va_recv (q := (RX8, TX8, 38)) hK hP (ci := 8) (q0 := 0) rfl rfl) rfl hl.1 rfl (Nat.le_of_ble_eq_true rfl) dX8_casesBy_3 ⟨Nat.le_of_ble_eq_true rfl, Nat.le_of_ble_eq_true rfl⟩ (fun r_1 hr_1 => ?_)
  obtain ⟨g_2, g_3⟩ := hr_1
  refine lv_istore (lv' := [(6, .int r_1), (0, .ref m0), (1, .int p_), (2, .int 3), (3, .int d), (4, .int sec), (5, .int wh)]) hx hb dX8_casesBy_6 hl (by decide) rfl (fun ls hl => ?_)
  refine lv_iload hx hb dX8_casesBy_8 (lv_at hl 0 rfl) ?_
  refine lv_if_ne (tgt := 17) hx hb dX8_casesBy_10 (by decide) (fun c_4 => ?_) (fun c_4 => ?_)
  · have fc_4 : r_1.toInt ≠ 0 := zf_ne c_4 rfl (by decide)
    refine lv_iload hx hb dX8_casesBy_17 (lv_at hl 0 rfl) ?_
    refine lv_aload_n hx hb dX8_casesBy_19 rfl (lv_at hl 1 rfl) ?_
    refine lv_iload_n hx hb dX8_casesBy_20 rfl (lv_at hl 3 rfl) ?_
    refine lv_iconst (v := 1) hx hb dX8_casesBy_21 (by decide) ?_
    refine lv_isub hx hb dX8_casesBy_22 ?_
    refine lv_topi (fun y_5 ey_5 => ?_)
    obtain rfl : y_5 = 2 := ey_5.trans (by decide)
    refine lv_aload_n hx hb dX8_casesBy_23 rfl (lv_at hl 1 rfl) ?_
    refine lv_iload_n hx hb dX8_casesBy_24 rfl (lv_at hl 2 rfl) ?_
    refine lv_iload_n hx hb dX8_casesBy_25 rfl (lv_at hl 4 rfl) ?_
    refine lv_iconst (v := 1) hx hb dX8_casesBy_26 (by decide) ?_
    refine zc_V (As := [.int p_, .int d, .int 1]) (rest := [.int 2, .ref m0, .int r_1]) ⟨hx, hb, hml, hown, hts⟩ (c_M_deep l D cI cJ cZ cP cS po m0 mrf mki mpa mta mla msl mco mhe mso msi msh mce mca mwo mnu mte mwa mke mma mth mtr (npu) (nte) (nat_) (nde) (nto) (nse) (nhu) (nga) (nsd) (nfa) (nba) (npl) (nen) (nnu) (nwr) (nra) (nik) gki gpa (p_) (d) (1) hy0 hy1 hy2 hy3 hy4 hy5 hy6 hy7 hy8 hy9 hy10 hy11 hy12 hy13 hy14 hy15 hy16 hy17 hp_gki hp_gpa) (cwV 3 hts gX8_casesBy_X8_deep rfl rfl rfl ⟨rfl, dh_X8_deep⟩ ⟨Nat.le_of_ble_eq_true rfl, Nat.le_of_ble_eq_true rfl⟩) hK hN hZ hP (hP.sub [0, 1, 2] rfl) (va_recv (q := (RX8, TX8, 38)) hK hP (ci := 8) (q0 := 0) rfl rfl) rfl hl.1 rfl (Nat.le_of_ble_eq_true rfl) dX8_casesBy_27 ⟨Nat.le_of_ble_eq_true rfl, Nat.le_of_ble_eq_true rfl⟩ (fun r_6 hr_6 => ?_)
    obtain ⟨g_7, g_8⟩ := hr_6
    refine lv_iload hx hb dX8_casesBy_30 (lv_at hl 5 rfl) ?_
    refine lv_aload_n hx hb dX8_casesBy_32 rfl (lv_at hl 1 rfl) ?_
    refine va_get (D := D) (ci := 8) (v := .ref mta) (C := RX8) (T := TX8) (N := 38) hx hb hts hi_X8_casesBy_8 hown hK hP 0 rfl rfl 13 (by decide) (hts (.fieldLink RX8 35 "TheLiningsInItModel" "takes" "[I") (List.mem_of_getElem? (i := 1) rfl)) (fun _ h9 => h9) rfl dX8_casesBy_33 ?_
    refine lv_iload_n hx hb dX8_casesBy_36 rfl (lv_at hl 2 rfl) ?_
    refine va_iald hx hb hK hP 3 0 rfl rfl (zf_in (by omega) (by omega)) dX8_casesBy_37 ?_
    refine lv_topi (fun x_9 ex_9 => ?_)
    have bx_9 : 0 ≤ x_9.toInt ∧ x_9.toInt ≤ 60 := by rw [ex_9]; exact hp_gta _
    refine lv_isub hx hb dX8_casesBy_38 ?_
    refine lv_topi (fun x_10 ex_10 => ?_)
    refine lv_iload hx hb dX8_casesBy_39 (lv_at hl 6 rfl) ?_
    refine zc_V (As := [.int 2, .int r_6, .int x_10, .int wh]) (rest := [.int r_1]) ⟨hx, hb, hml, hown, hts⟩ (c_M_mostCases_2 l D cI cJ cZ cP cS po m0 mrf mki mpa mta mla msl mco mhe mso msi msh mce mca mwo mnu mte mwa mke mma mth mtr (npu) (nte) (nat_) (nde) (nto) (nse) (nhu) (nga) (nsd) (nfa) (nba) (npl) (nen) (nnu) (nwr) (nra) (nik) gki gpa gta (r_6) (x_10) (wh) hy0 hy1 hy2 hy3 hy4 hy5 hy6 hy7 hy8 hy9 hy10 hy11 hy12 hy13 (by omega) (by omega) hp_gki hp_gpa hp_gta) (cwV 4 hts gX8_casesBy_X8_mostCases rfl rfl rfl ⟨rfl, dh_X8_mostCases⟩ ⟨Nat.le_of_ble_eq_true rfl, Nat.le_of_ble_eq_true rfl⟩) hK hN hZ hP (hP.sub [0, 1, 2, 3] rfl) (va_recv (q := (RX8, TX8, 38)) hK hP (ci := 8) (q0 := 0) rfl rfl) rfl hl.1 rfl (Nat.le_of_ble_eq_true rfl) dX8_casesBy_41 ⟨Nat.le_of_ble_eq_true rfl, Nat.le_of_ble_eq_true rfl⟩ (fun r_11 hr_11 => ?_)
    refine lv_imul hx hb dX8_casesBy_44 ?_
    refine lv_topi (fun x_12 ex_12 => ?_)
    refine lv_istore (lv' := [(7, .int x_12), (6, .int r_1), (0, .ref m0), (1, .int p_), (2, .int 3), (3, .int d), (4, .int sec), (5, .int wh)]) hx hb dX8_casesBy_45 hl (by decide) rfl (fun ls hl => ?_)
    refine lv_iload hx hb dX8_casesBy_47 (lv_at hl 1 rfl) ?_
    refine lv_bipush (v := 12) hx hb dX8_casesBy_49 (by decide) ?_
    refine lv_icmp_ne (tgt := 59) hx hb dX8_casesBy_51 (by decide) (fun c_13 => ?_) (fun c_13 => ?_)
    · have fc_13 : r_1.toInt ≠ 12 := zf_ne c_13 rfl (by decide)
      refine lv_iload hx hb dX8_casesBy_59 (lv_at hl 0 rfl) ?_
      refine lv_bipush (v := 12) hx hb dX8_casesBy_61 (by decide) ?_
      refine lv_iload hx hb dX8_casesBy_63 (lv_at hl 1 rfl) ?_
      refine lv_isub hx hb dX8_casesBy_65 ?_
      refine lv_topi (fun x_14 ex_14 => ?_)
      have qx_14 : x_14.toInt = 12 - r_1.toInt := by rw [ex_14]; exact zf_sub (by decide) rfl (by omega) (by omega)
      refine lv_aload_n hx hb dX8_casesBy_66 rfl (lv_at hl 2 rfl) ?_
      refine lv_iload_n hx hb dX8_casesBy_67 rfl (lv_at hl 4 rfl) ?_
      refine lv_iconst (v := 1) hx hb dX8_casesBy_68 (by decide) ?_
      refine lv_isub hx hb dX8_casesBy_69 ?_
      refine lv_topi (fun y_15 ey_15 => ?_)
      obtain rfl : y_15 = 2 := ey_15.trans (by decide)
      refine lv_aload_n hx hb dX8_casesBy_70 rfl (lv_at hl 2 rfl) ?_
      refine lv_iload_n hx hb dX8_casesBy_71 rfl (lv_at hl 3 rfl) ?_
      refine lv_iload_n hx hb dX8_casesBy_72 rfl (lv_at hl 5 rfl) ?_
      refine lv_iconst (v := 0) hx hb dX8_casesBy_73 (by decide) ?_
      refine zc_V (As := [.int p_, .int d, .int 0]) (rest := [.int 2, .ref m0, .int x_14, .int x_12]) ⟨hx, hb, hml, hown, hts⟩ (c_M_deep l D cI cJ cZ cP cS po m0 mrf mki mpa mta mla msl mco mhe mso msi msh mce mca mwo mnu mte mwa mke mma mth mtr (npu) (nte) (nat_) (nde) (nto) (nse) (nhu) (nga) (nsd) (nfa) (nba) (npl) (nen) (nnu) (nwr) (nra) (nik) gki gpa (p_) (d) (0) hy0 hy1 hy2 hy3 hy4 hy5 hy6 hy7 hy8 hy9 hy10 hy11 hy12 hy13 hy14 hy15 hy16 hy17 hp_gki hp_gpa) (cwV 3 hts gX8_casesBy_X8_deep rfl rfl rfl ⟨rfl, dh_X8_deep⟩ ⟨Nat.le_of_ble_eq_true rfl, Nat.le_of_ble_eq_true rfl⟩) hK hN hZ hP (hP.sub [0, 1, 2] rfl) (va_recv (q := (RX8, TX8, 38)) hK hP (ci := 8) (q0 := 0) rfl rfl) rfl hl.1 rfl (Nat.le_of_ble_eq_true rfl) dX8_casesBy_74 ⟨Nat.le_of_ble_eq_true rfl, Nat.le_of_ble_eq_true rfl⟩ (fun r_16 hr_16 => ?_)
      obtain ⟨g_17, g_18⟩ := hr_16
      refine lv_iload hx hb dX8_casesBy_77 (lv_at hl 6 rfl) ?_
      refine lv_aload_n hx hb dX8_casesBy_79 rfl (lv_at hl 2 rfl) ?_
      refine va_get (D := D) (ci := 8) (v := .ref mta) (C := RX8) (T := TX8) (N := 38) hx hb hts hi_X8_casesBy_8 hown hK hP 0 rfl rfl 13 (by decide) (hts (.fieldLink RX8 35 "TheLiningsInItModel" "takes" "[I") (List.mem_of_getElem? (i := 1) rfl)) (fun _ h9 => h9) rfl dX8_casesBy_80 ?_
      refine lv_iload_n hx hb dX8_casesBy_83 rfl (lv_at hl 3 rfl) ?_
      refine va_iald hx hb hK hP 3 0 rfl rfl (zf_in (by omega) (by omega)) dX8_casesBy_84 ?_
      refine lv_topi (fun x_19 ex_19 => ?_)
      have bx_19 : 0 ≤ x_19.toInt ∧ x_19.toInt ≤ 60 := by rw [ex_19]; exact hp_gta _
      refine lv_isub hx hb dX8_casesBy_85 ?_
      refine lv_topi (fun x_20 ex_20 => ?_)
      refine lv_iload hx hb dX8_casesBy_86 (lv_at hl 7 rfl) ?_
      refine zc_V (As := [.int 2, .int r_16, .int x_20, .int wh]) (rest := [.int x_14, .int x_12]) ⟨hx, hb, hml, hown, hts⟩ (c_M_mostCases_2 l D cI cJ cZ cP cS po m0 mrf mki mpa mta mla msl mco mhe mso msi msh mce mca mwo mnu mte mwa mke mma mth mtr (npu) (nte) (nat_) (nde) (nto) (nse) (nhu) (nga) (nsd) (nfa) (nba) (npl) (nen) (nnu) (nwr) (nra) (nik) gki gpa gta (r_16) (x_20) (wh) hy0 hy1 hy2 hy3 hy4 hy5 hy6 hy7 hy8 hy9 hy10 hy11 hy12 hy13 (by omega) (by omega) hp_gki hp_gpa hp_gta) (cwV 4 hts gX8_casesBy_X8_mostCases rfl rfl rfl ⟨rfl, dh_X8_mostCases⟩ ⟨Nat.le_of_ble_eq_true rfl, Nat.le_of_ble_eq_true rfl⟩) hK hN hZ hP (hP.sub [0, 1, 2, 3] rfl) (va_recv (q := (RX8, TX8, 38)) hK hP (ci := 8) (q0 := 0) rfl rfl) rfl hl.1 rfl (Nat.le_of_ble_eq_true rfl) dX8_casesBy_88 ⟨Nat.le_of_ble_eq_true rfl, Nat.le_of_ble_eq_true rfl⟩ (fun r_21 hr_21 => ?_)
      refine lv_imul hx hb dX8_casesBy_91 ?_
      refine lv_topi (fun x_22 ex_22 => ?_)
      refine lv_iadd hx hb dX8_casesBy_92 ?_
      refine lv_topi (fun x_23 ex_23 => ?_)
      exact W.iret (v := x_23) hx hb hr (fun t ht hW => ⟨x_23, rfl, trivial, ht⟩) (fun q hq => by cases hq) dX8_casesBy_93
    · have fc_13 : r_1.toInt = 12 := zf_eq c_13 rfl (by decide)
      refine lv_iload hx hb dX8_casesBy_54 (lv_at hl 0 rfl) ?_
      refine lv_goto (tgt := 93) hx hb dX8_casesBy_56 (by decide) ?_
      exact W.iret (v := x_12) hx hb hr (fun t ht hW => ⟨x_12, rfl, trivial, ht⟩) (fun q hq => by cases hq) dX8_casesBy_93
  · have fc_4 : r_1.toInt = 0 := zf_eq c_4 rfl (by decide)
    refine lv_iconst (v := 0) hx hb dX8_casesBy_13 (by decide) ?_
    refine lv_goto (tgt := 45) hx hb dX8_casesBy_14 (by decide) ?_
    refine lv_istore (lv' := [(7, .int 0), (6, .int r_1), (0, .ref m0), (1, .int p_), (2, .int 3), (3, .int d), (4, .int sec), (5, .int wh)]) hx hb dX8_casesBy_45 hl (by decide) rfl (fun ls hl => ?_)
    refine lv_iload hx hb dX8_casesBy_47 (lv_at hl 1 rfl) ?_
    refine lv_bipush (v := 12) hx hb dX8_casesBy_49 (by decide) ?_
    refine lv_icmp_ne (tgt := 59) hx hb dX8_casesBy_51 (by decide) (fun c_24 => ?_) (fun c_24 => ?_)
    · have fc_24 : r_1.toInt ≠ 12 := zf_ne c_24 rfl (by decide)
      refine lv_iload hx hb dX8_casesBy_59 (lv_at hl 0 rfl) ?_
      refine lv_bipush (v := 12) hx hb dX8_casesBy_61 (by decide) ?_
      refine lv_iload hx hb dX8_casesBy_63 (lv_at hl 1 rfl) ?_
      refine lv_isub hx hb dX8_casesBy_65 ?_
      refine lv_topi (fun x_25 ex_25 => ?_)
      have qx_25 : x_25.toInt = 12 - r_1.toInt := by rw [ex_25]; exact zf_sub (by decide) rfl (by omega) (by omega)
      refine lv_aload_n hx hb dX8_casesBy_66 rfl (lv_at hl 2 rfl) ?_
      refine lv_iload_n hx hb dX8_casesBy_67 rfl (lv_at hl 4 rfl) ?_
      refine lv_iconst (v := 1) hx hb dX8_casesBy_68 (by decide) ?_
      refine lv_isub hx hb dX8_casesBy_69 ?_
      refine lv_topi (fun y_26 ey_26 => ?_)
      obtain rfl : y_26 = 2 := ey_26.trans (by decide)
      refine lv_aload_n hx hb dX8_casesBy_70 rfl (lv_at hl 2 rfl) ?_
      refine lv_iload_n hx hb dX8_casesBy_71 rfl (lv_at hl 3 rfl) ?_
      refine lv_iload_n hx hb dX8_casesBy_72 rfl (lv_at hl 5 rfl) ?_
      refine lv_iconst (v := 0) hx hb dX8_casesBy_73 (by decide) ?_
      refine zc_V (As := [.int p_, .int d, .int 0]) (rest := [.int 2, .ref m0, .int x_25, .int 0]) ⟨hx, hb, hml, hown, hts⟩ (c_M_deep l D cI cJ cZ cP cS po m0 mrf mki mpa mta mla msl mco mhe mso msi msh mce mca mwo mnu mte mwa mke mma mth mtr (npu) (nte) (nat_) (nde) (nto) (nse) (nhu) (nga) (nsd) (nfa) (nba) (npl) (nen) (nnu) (nwr) (nra) (nik) gki gpa (p_) (d) (0) hy0 hy1 hy2 hy3 hy4 hy5 hy6 hy7 hy8 hy9 hy10 hy11 hy12 hy13 hy14 hy15 hy16 hy17 hp_gki hp_gpa) (cwV 3 hts gX8_casesBy_X8_deep rfl rfl rfl ⟨rfl, dh_X8_deep⟩ ⟨Nat.le_of_ble_eq_true rfl, Nat.le_of_ble_eq_true rfl⟩) hK hN hZ hP (hP.sub [0, 1, 2] rfl) (va_recv (q := (RX8, TX8, 38)) hK hP (ci := 8) (q0 := 0) rfl rfl) rfl hl.1 rfl (Nat.le_of_ble_eq_true rfl) dX8_casesBy_74 ⟨Nat.le_of_ble_eq_true rfl, Nat.le_of_ble_eq_true rfl⟩ (fun r_27 hr_27 => ?_)
      obtain ⟨g_28, g_29⟩ := hr_27
      refine lv_iload hx hb dX8_casesBy_77 (lv_at hl 6 rfl) ?_
      refine lv_aload_n hx hb dX8_casesBy_79 rfl (lv_at hl 2 rfl) ?_
      refine va_get (D := D) (ci := 8) (v := .ref mta) (C := RX8) (T := TX8) (N := 38) hx hb hts hi_X8_casesBy_8 hown hK hP 0 rfl rfl 13 (by decide) (hts (.fieldLink RX8 35 "TheLiningsInItModel" "takes" "[I") (List.mem_of_getElem? (i := 1) rfl)) (fun _ h9 => h9) rfl dX8_casesBy_80 ?_
      refine lv_iload_n hx hb dX8_casesBy_83 rfl (lv_at hl 3 rfl) ?_
      refine va_iald hx hb hK hP 3 0 rfl rfl (zf_in (by omega) (by omega)) dX8_casesBy_84 ?_
      refine lv_topi (fun x_30 ex_30 => ?_)
      have bx_30 : 0 ≤ x_30.toInt ∧ x_30.toInt ≤ 60 := by rw [ex_30]; exact hp_gta _
      refine lv_isub hx hb dX8_casesBy_85 ?_
      refine lv_topi (fun x_31 ex_31 => ?_)
      refine lv_iload hx hb dX8_casesBy_86 (lv_at hl 7 rfl) ?_
      refine zc_V (As := [.int 2, .int r_27, .int x_31, .int wh]) (rest := [.int x_25, .int 0]) ⟨hx, hb, hml, hown, hts⟩ (c_M_mostCases_2 l D cI cJ cZ cP cS po m0 mrf mki mpa mta mla msl mco mhe mso msi msh mce mca mwo mnu mte mwa mke mma mth mtr (npu) (nte) (nat_) (nde) (nto) (nse) (nhu) (nga) (nsd) (nfa) (nba) (npl) (nen) (nnu) (nwr) (nra) (nik) gki gpa gta (r_27) (x_31) (wh) hy0 hy1 hy2 hy3 hy4 hy5 hy6 hy7 hy8 hy9 hy10 hy11 hy12 hy13 (by omega) (by omega) hp_gki hp_gpa hp_gta) (cwV 4 hts gX8_casesBy_X8_mostCases rfl rfl rfl ⟨rfl, dh_X8_mostCases⟩ ⟨Nat.le_of_ble_eq_true rfl, Nat.le_of_ble_eq_true rfl⟩) hK hN hZ hP (hP.sub [0, 1, 2, 3] rfl) (va_recv (q := (RX8, TX8, 38)) hK hP (ci := 8) (q0 := 0) rfl rfl) rfl hl.1 rfl (Nat.le_of_ble_eq_true rfl) dX8_casesBy_88 ⟨Nat.le_of_ble_eq_true rfl, Nat.le_of_ble_eq_true rfl⟩ (fun r_32 hr_32 => ?_)
      refine lv_imul hx hb dX8_casesBy_91 ?_
      refine lv_topi (fun x_33 ex_33 => ?_)
      refine lv_iadd hx hb dX8_casesBy_92 ?_
      refine lv_topi (fun x_34 ex_34 => ?_)
      have rbx_34 := zf_rng x_33
      have qx_34 : x_34.toInt = 0 + x_33.toInt := by rw [ex_34]; exact zf_add (by decide) rfl (by omega) (by omega)
      exact W.iret (v := x_34) hx hb hr (fun t ht hW => ⟨x_34, rfl, trivial, ht⟩) (fun q hq => by cases hq) dX8_casesBy_93
    · exfalso; have fc_24 : r_1.toInt = 12 := zf_eq c_24 rfl (by decide); omega
set_option maxHeartbeats 4000000 in
set_option maxRecDepth 100000 in
theorem c_M_mostCases_3 (l : Launch) (D : va_G) (cI cJ cZ cP cS : ClassId) (po : zPool) (m0 mrf mki mpa mta mla msl mco mhe mso msi msh mce mca mwo mnu mte mwa mke mma mth mtr : Nat) (npu nte nat_ nde nto nse nhu nga nsd nfa nba npl nen nnu nwr nra nik : Int32) (gki gpa gta : Nat → Int32) (d sec wh : Int32) (hy0 : 0 ≤ npu.toInt) (hy1 : npu.toInt ≤ 8) (hy2 : 4 ≤ nte.toInt) (hy3 : nte.toInt ≤ 40) (hy4 : 0 ≤ nat_.toInt) (hy5 : nat_.toInt ≤ 40) (hy6 : 0 ≤ nde.toInt) (hy7 : nde.toInt ≤ 24) (hy8 : 0 ≤ nhu.toInt) (hy9 : nhu.toInt ≤ 9) (hy10 : 0 ≤ nra.toInt) (hy11 : nra.toInt ≤ 2000) (hy12 : 0 ≤ nik.toInt) (hy13 : nik.toInt ≤ 1) (hy14 : 0 ≤ d.toInt) (hy15 : d.toInt ≤ 24) (hp_gki : zRg gki (0) 6) (hp_gpa : zRg gpa (0) 9) (hp_gta : zRg gta (0) 60) : Met l yX8_mostCases wsX8_mostCases ({ frames := 7, cells := 0, slots := 0, locals := 183 }) (va_Pc [.ref m0, .int 3, .int d, .int sec, .int wh] (zR D (zKT cI cJ cZ cP cS) po [(zMO m0 npu nte nat_ nde nto nse nhu nga nsd nfa mrf mki mpa mta mla msl mco mhe mso msi msh mce mca mwo mnu mte nba npl nen nnu nwr mwa mke mma mth mtr nra nik), (mki, .inl (cI, 8, .inl gki)), (mpa, .inl (cI, 8, .inl gpa)), (mta, .inl (cI, 8, .inl gta))])) (vp_Si (fun r => True)) 0 0 (fun _ => False) := by
  refine Met.ofW (cc := cX8_mostCases) (maxL := 8) (ret := (some .int)) (by decide) rfl ?_
  intro p e s m args below meth c s₁ B hml hv
  obtain ⟨rfl, hP, hK, hN, hZ⟩ := hv
  have hx := B.exec
  have hb := B.bytes
  have hr := B.returns
  have hts := atoms_spec (ws := wsX8_mostCases) B.pre
  have hown : s.vm.findClass RX8 = some m.cls := findClass_of_methodNamed B.named
  have hlocks := B.notSynchronized
  have hl := lv_entry ([.ref m0, .int 3, .int d, .int sec, .int wh]) (n := 8) (Nat.le_of_ble_eq_true rfl)
  rw [lg_entry_eq]
  generalize (lg_sl ([.ref m0, .int 3, .int d, .int sec, .int wh]) ++ List.replicate (8 - (lg_sl ([.ref m0, .int 3, .int d, .int sec, .int wh])).length) Slot.unset).toArray = ls at hl ⊢
  replace hl : lv_has ls 8 [(0, .ref m0), (1, .int 3), (2, .int d), (3, .int sec), (4, .int wh)] := hl
  refine lv_iload_n hx hb dX8_mostCases_0 rfl (lv_at hl 2 rfl) ?_
  refine lv_if_ne (tgt := 10) hx hb dX8_mostCases_1 (by decide) (fun c_1 => ?_) (fun c_1 => ?_)
  · have fc_1 : d.toInt ≠ 0 := zf_ne c_1 rfl (by decide)
    refine lv_iload_n hx hb dX8_mostCases_10 rfl (lv_at hl 1 rfl) ?_
    refine lv_if_ne (tgt := 16) hx hb dX8_mostCases_11 (by decide) (fun c_2 => ?_) (fun c_2 => ?_)
    · refine lv_bipush (v := 12) hx hb dX8_mostCases_16 (by decide) ?_
      refine lv_aload_n hx hb dX8_mostCases_18 rfl (lv_at hl 0 rfl) ?_
      refine lv_iload_n hx hb dX8_mostCases_19 rfl (lv_at hl 1 rfl) ?_
      refine lv_iconst (v := 1) hx hb dX8_mostCases_20 (by decide) ?_
      refine lv_isub hx hb dX8_mostCases_21 ?_
      refine lv_topi (fun y_3 ey_3 => ?_)
      obtain rfl : y_3 = 2 := ey_3.trans (by decide)
      refine lv_iload_n hx hb dX8_mostCases_22 rfl (lv_at hl 2 rfl) ?_
      refine lv_iload_n hx hb dX8_mostCases_23 rfl (lv_at hl 3 rfl) ?_
      refine lv_iload hx hb dX8_mostCases_24 (lv_at hl 4 rfl) ?_
      refine zc_V (As := [.int 2, .int d, .int sec, .int wh]) (rest := [.int 12]) ⟨hx, hb, hml, hown, hts⟩ (c_M_mostCases_2 l D cI cJ cZ cP cS po m0 mrf mki mpa mta mla msl mco mhe mso msi msh mce mca mwo mnu mte mwa mke mma mth mtr (npu) (nte) (nat_) (nde) (nto) (nse) (nhu) (nga) (nsd) (nfa) (nba) (npl) (nen) (nnu) (nwr) (nra) (nik) gki gpa gta (d) (sec) (wh) hy0 hy1 hy2 hy3 hy4 hy5 hy6 hy7 hy8 hy9 hy10 hy11 hy12 hy13 hy14 hy15 hp_gki hp_gpa hp_gta) (cwV 4 hts gX8_mostCases_X8_mostCases rfl rfl rfl ⟨rfl, dh_X8_mostCases⟩ ⟨Nat.le_of_ble_eq_true rfl, Nat.le_of_ble_eq_true rfl⟩) hK hN hZ hP (hP.sub [0, 1, 2, 3] rfl) (va_recv (q := (RX8, TX8, 38)) hK hP (ci := 8) (q0 := 0) rfl rfl) rfl hl.1 rfl (Nat.le_of_ble_eq_true rfl) dX8_mostCases_26 ⟨Nat.le_of_ble_eq_true rfl, Nat.le_of_ble_eq_true rfl⟩ (fun r_4 hr_4 => ?_)
      refine lv_imul hx hb dX8_mostCases_29 ?_
      refine lv_topi (fun x_5 ex_5 => ?_)
      refine lv_istore (lv' := [(5, .int x_5), (0, .ref m0), (1, .int 3), (2, .int d), (3, .int sec), (4, .int wh)]) hx hb dX8_mostCases_30 hl (by decide) rfl (fun ls hl => ?_)
      refine lv_iconst (v := 0) hx hb dX8_mostCases_32 (by decide) ?_
      refine lv_istore (lv' := [(6, .int 0), (5, .int x_5), (0, .ref m0), (1, .int 3), (2, .int d), (3, .int sec), (4, .int wh)]) hx hb dX8_mostCases_33 hl (by decide) rfl (fun ls hl => ?_)
      obtain ⟨i_35, hi_35⟩ : ∃ i : Int32, i = 0 := ⟨_, rfl⟩
      replace hl : lv_has ls 8 [(6, .int i_35), (5, .int x_5), (0, .ref m0), (1, .int 3), (2, .int d), (3, .int sec), (4, .int wh)] := by rw [hi_35]; exact lv_sub hl [0, 1, 2, 3, 4, 5, 6] rfl
      have h1i_35 : i_35.toInt = 0 := by rw [hi_35]; decide
      obtain ⟨nfu, hni_35⟩ : ∃ nq9 : Nat, npu.toInt ≤ i_35.toInt + (nq9 : Int) := ⟨((npu.toInt : Int) - 0).toNat, by omega⟩
      have hloi_35 : 0 ≤ i_35.toInt := by omega
      obtain ⟨v_6, hv_6⟩ : ∃ g : Int32, g = x_5 := ⟨_, rfl⟩
      replace hl : lv_has ls 8 [(6, .int i_35), (5, .int v_6), (0, .ref m0), (1, .int 3), (2, .int d), (3, .int sec), (4, .int wh)] := by rw [hv_6]; exact hl
      clear h1i_35 hi_35 hv_6
      revert hni_35
      revert hloi_35
      revert hl
      revert ls
      revert v_6
      revert i_35
      induction nfu with
      | zero =>
        intro i_35 v_6 ls hl hloi_35 hni_35
        have hzi_35 : npu.toInt ≤ i_35.toInt := by omega
        refine lv_iload hx hb dX8_mostCases_35 (lv_at hl 0 rfl) ?_
        refine lv_aload_n hx hb dX8_mostCases_37 rfl (lv_at hl 2 rfl) ?_
        refine va_get (D := D) (ci := 8) (v := .int npu) (C := RX8) (T := TX8) (N := 38) hx hb hts hi_X8_mostCases_8 hown hK hP 0 rfl rfl 0 (by decide) (hts (.fieldLink RX8 90 "TheLiningsInItModel" "pulls" "I") (List.mem_of_getElem? (i := 1) rfl)) (fun _ h9 => h9) rfl dX8_mostCases_38 ?_
        refine lv_icmp_ge (tgt := 109) hx hb dX8_mostCases_41 (by decide) (fun c_7 => ?_) (fun c_7 => ?_)
        · have fc_7 : npu.toInt ≤ i_35.toInt := zf_le c_7 rfl rfl
          refine lv_iload hx hb dX8_mostCases_109 (lv_at hl 1 rfl) ?_
          exact W.iret (v := v_6) hx hb hr (fun t ht hW => ⟨v_6, rfl, trivial, ht⟩) (fun q hq => by cases hq) dX8_mostCases_111
        · exfalso; have fc_7 : i_35.toInt < npu.toInt := zf_nle c_7 rfl rfl; omega
      | succ nfu ih =>
        intro i_35 v_6 ls hl hloi_35 hni_35
        refine lv_iload hx hb dX8_mostCases_35 (lv_at hl 0 rfl) ?_
        refine lv_aload_n hx hb dX8_mostCases_37 rfl (lv_at hl 2 rfl) ?_
        refine va_get (D := D) (ci := 8) (v := .int npu) (C := RX8) (T := TX8) (N := 38) hx hb hts hi_X8_mostCases_8 hown hK hP 0 rfl rfl 0 (by decide) (hts (.fieldLink RX8 90 "TheLiningsInItModel" "pulls" "I") (List.mem_of_getElem? (i := 1) rfl)) (fun _ h9 => h9) rfl dX8_mostCases_38 ?_
        refine lv_icmp_ge (tgt := 109) hx hb dX8_mostCases_41 (by decide) (fun c_8 => ?_) (fun c_8 => ?_)
        · have fc_8 : npu.toInt ≤ i_35.toInt := zf_le c_8 rfl rfl
          refine lv_iload hx hb dX8_mostCases_109 (lv_at hl 1 rfl) ?_
          exact W.iret (v := v_6) hx hb hr (fun t ht hW => ⟨v_6, rfl, trivial, ht⟩) (fun q hq => by cases hq) dX8_mostCases_111
        · have fc_8 : i_35.toInt < npu.toInt := zf_nle c_8 rfl rfl
          refine lv_aload_n hx hb dX8_mostCases_44 rfl (lv_at hl 2 rfl) ?_
          refine lv_iload hx hb dX8_mostCases_45 (lv_at hl 0 rfl) ?_
          refine lv_iload_n hx hb dX8_mostCases_47 rfl (lv_at hl 4 rfl) ?_
          refine lv_iload_n hx hb dX8_mostCases_48 rfl (lv_at hl 5 rfl) ?_
          refine zc_V (As := [.int i_35, .int d, .int sec]) (rest := []) ⟨hx, hb, hml, hown, hts⟩ (c_M_mayBe l D cI cJ cZ cP cS po m0 mrf mki mpa mta mla msl mco mhe mso msi msh mce mca mwo mnu mte mwa mke mma mth mtr (npu) (nte) (nat_) (nde) (nto) (nse) (nhu) (nga) (nsd) (nfa) (nba) (npl) (nen) (nnu) (nwr) (nra) (nik) gta (i_35) (d) (sec) hy0 hy1 hy2 hy3 hy4 hy5 hy6 hy7 hy8 hy9 hy10 hy11 hy12 hy13 (by omega) (by omega) hp_gta) (cwV 3 hts gX8_mostCases_X8_mayBe rfl rfl rfl ⟨rfl, dh_X8_mayBe⟩ ⟨Nat.le_of_ble_eq_true rfl, Nat.le_of_ble_eq_true rfl⟩) hK hN hZ hP (hP.sub [0, 3] rfl) (va_recv (q := (RX8, TX8, 38)) hK hP (ci := 8) (q0 := 0) rfl rfl) rfl hl.1 rfl (Nat.le_of_ble_eq_true rfl) dX8_mostCases_49 ⟨Nat.le_of_ble_eq_true rfl, Nat.le_of_ble_eq_true rfl⟩ (fun r_9 hr_9 => ?_)
          obtain ⟨g_10, g_11, hsr_9_0⟩ := hr_9
          refine lv_if_eq (tgt := 103) hx hb dX8_mostCases_52 (by decide) (fun c_12 => ?_) (fun c_12 => ?_)
          · have fc_12 : r_9.toInt = 0 := zf_eq c_12 rfl (by decide)
            obtain ⟨x_13, ex_13⟩ : ∃ y : Int32, y = i_35 + 1 := ⟨_, rfl⟩
            have qx_13 : x_13.toInt = i_35.toInt + 1 := dw_inc ex_13 fc_8
            refine lv_iinc (v := x_13) (lv' := [(6, .int x_13), (5, .int v_6), (0, .ref m0), (1, .int 3), (2, .int d), (3, .int sec), (4, .int wh)]) hx hb dX8_mostCases_103 hl (k := 0) rfl ex_13.symm (by decide) rfl (fun ls hl => ?_)
            refine lv_goto (tgt := 35) hx hb dX8_mostCases_106 (by decide) ?_
            exact ih x_13 v_6 _ (lv_sub hl [0, 1, 2, 3, 4, 5, 6] rfl) (dw_lo hloi_35 qx_13) (dw_hn hni_35 qx_13)
          · have fc_12 : r_9.toInt ≠ 0 := zf_ne c_12 rfl (by decide)
            refine lv_iload hx hb dX8_mostCases_55 (lv_at hl 6 rfl) ?_
            refine lv_if_eq (tgt := 74) hx hb dX8_mostCases_57 (by decide) (fun c_14 => ?_) (fun c_14 => ?_)
            · have fc_14 : wh.toInt = 0 := zf_eq c_14 rfl (by decide)
              refine lv_aload_n hx hb dX8_mostCases_74 rfl (lv_at hl 2 rfl) ?_
              refine lv_iload hx hb dX8_mostCases_75 (lv_at hl 0 rfl) ?_
              refine lv_iload_n hx hb dX8_mostCases_77 rfl (lv_at hl 3 rfl) ?_
              refine lv_iload_n hx hb dX8_mostCases_78 rfl (lv_at hl 4 rfl) ?_
              refine lv_iload_n hx hb dX8_mostCases_79 rfl (lv_at hl 5 rfl) ?_
              refine lv_iload hx hb dX8_mostCases_80 (lv_at hl 6 rfl) ?_
              refine zc_V (As := [.int i_35, .int 3, .int d, .int sec, .int wh]) (rest := []) ⟨hx, hb, hml, hown, hts⟩ (c_M_casesBy_3 l D cI cJ cZ cP cS po m0 mrf mki mpa mta mla msl mco mhe mso msi msh mce mca mwo mnu mte mwa mke mma mth mtr (npu) (nte) (nat_) (nde) (nto) (nse) (nhu) (nga) (nsd) (nfa) (nba) (npl) (nen) (nnu) (nwr) (nra) (nik) gki gpa gta (i_35) (d) (sec) (wh) hy0 hy1 hy2 hy3 hy4 hy5 hy6 hy7 hy8 hy9 hy10 hy11 hy12 hy13 (by omega) (by omega) hy14 hy15 hp_gki hp_gpa hp_gta) (cwV 5 hts gX8_mostCases_X8_casesBy rfl rfl rfl ⟨rfl, dh_X8_casesBy⟩ ⟨Nat.le_of_ble_eq_true rfl, Nat.le_of_ble_eq_true rfl⟩) hK hN hZ hP (hP.sub [0, 1, 2, 3] rfl) (va_recv (q := (RX8, TX8, 38)) hK hP (ci := 8) (q0 := 0) rfl rfl) rfl hl.1 rfl (Nat.le_of_ble_eq_true rfl) dX8_mostCases_82 ⟨Nat.le_of_ble_eq_true rfl, Nat.le_of_ble_eq_true rfl⟩ (fun r_15 hr_15 => ?_)
              refine lv_istore (lv' := [(7, .int r_15), (6, .int i_35), (5, .int v_6), (0, .ref m0), (1, .int 3), (2, .int d), (3, .int sec), (4, .int wh)]) hx hb dX8_mostCases_85 hl (by decide) rfl (fun ls hl => ?_)
              refine lv_iload hx hb dX8_mostCases_87 (lv_at hl 0 rfl) ?_
              refine lv_iload hx hb dX8_mostCases_89 (lv_at hl 2 rfl) ?_
              refine lv_icmp_le (tgt := 99) hx hb dX8_mostCases_91 (by decide) (fun c_16 => ?_) (fun c_16 => ?_)
              · have fc_16 : r_15.toInt ≤ v_6.toInt := zf_le c_16 rfl rfl
                refine lv_iload hx hb dX8_mostCases_99 (lv_at hl 2 rfl) ?_
                refine lv_istore (lv' := [(5, .int v_6), (7, .int r_15), (6, .int i_35), (0, .ref m0), (1, .int 3), (2, .int d), (3, .int sec), (4, .int wh)]) hx hb dX8_mostCases_101 hl (by decide) rfl (fun ls hl => ?_)
                obtain ⟨x_17, ex_17⟩ : ∃ y : Int32, y = i_35 + 1 := ⟨_, rfl⟩
                have qx_17 : x_17.toInt = i_35.toInt + 1 := dw_inc ex_17 fc_8
                refine lv_iinc (v := x_17) (lv' := [(6, .int x_17), (5, .int v_6), (7, .int r_15), (0, .ref m0), (1, .int 3), (2, .int d), (3, .int sec), (4, .int wh)]) hx hb dX8_mostCases_103 hl (k := 2) rfl ex_17.symm (by decide) rfl (fun ls hl => ?_)
                refine lv_goto (tgt := 35) hx hb dX8_mostCases_106 (by decide) ?_
                exact ih x_17 v_6 _ (lv_sub hl [0, 1, 3, 4, 5, 6, 7] rfl) (dw_lo hloi_35 qx_17) (dw_hn hni_35 qx_17)
              · have fc_16 : v_6.toInt < r_15.toInt := zf_nle c_16 rfl rfl
                refine lv_iload hx hb dX8_mostCases_94 (lv_at hl 0 rfl) ?_
                refine lv_goto (tgt := 101) hx hb dX8_mostCases_96 (by decide) ?_
                refine lv_istore (lv' := [(5, .int r_15), (7, .int r_15), (6, .int i_35), (0, .ref m0), (1, .int 3), (2, .int d), (3, .int sec), (4, .int wh)]) hx hb dX8_mostCases_101 hl (by decide) rfl (fun ls hl => ?_)
                obtain ⟨x_18, ex_18⟩ : ∃ y : Int32, y = i_35 + 1 := ⟨_, rfl⟩
                have qx_18 : x_18.toInt = i_35.toInt + 1 := dw_inc ex_18 fc_8
                refine lv_iinc (v := x_18) (lv' := [(6, .int x_18), (5, .int r_15), (7, .int r_15), (0, .ref m0), (1, .int 3), (2, .int d), (3, .int sec), (4, .int wh)]) hx hb dX8_mostCases_103 hl (k := 2) rfl ex_18.symm (by decide) rfl (fun ls hl => ?_)
                refine lv_goto (tgt := 35) hx hb dX8_mostCases_106 (by decide) ?_
                exact ih x_18 r_15 _ (lv_sub hl [0, 1, 3, 4, 5, 6, 7] rfl) (dw_lo hloi_35 qx_18) (dw_hn hni_35 qx_18)
            · have fc_14 : wh.toInt ≠ 0 := zf_ne c_14 rfl (by decide)
              refine lv_aload_n hx hb dX8_mostCases_60 rfl (lv_at hl 2 rfl) ?_
              refine va_get (D := D) (ci := 8) (v := .ref mki) (C := RX8) (T := TX8) (N := 38) hx hb hts hi_X8_mostCases_8 hown hK hP 0 rfl rfl 11 (by decide) (hts (.fieldLink RX8 29 "TheLiningsInItModel" "kind" "[I") (List.mem_of_getElem? (i := 2) rfl)) (fun _ h9 => h9) rfl dX8_mostCases_61 ?_
              refine lv_iload hx hb dX8_mostCases_64 (lv_at hl 0 rfl) ?_
              refine va_iald hx hb hK hP 1 0 rfl rfl (zf_in (by omega) (by omega)) dX8_mostCases_66 ?_
              refine lv_topi (fun x_19 ex_19 => ?_)
              have bx_19 : 0 ≤ x_19.toInt ∧ x_19.toInt ≤ 6 := by rw [ex_19]; exact hp_gki _
              refine lv_iconst (v := 5) hx hb dX8_mostCases_67 (by decide) ?_
              refine lv_icmp_ne (tgt := 74) hx hb dX8_mostCases_68 (by decide) (fun c_20 => ?_) (fun c_20 => ?_)
              · have fc_20 : x_19.toInt ≠ 5 := zf_ne c_20 rfl (by decide)
                refine lv_aload_n hx hb dX8_mostCases_74 rfl (lv_at hl 2 rfl) ?_
                refine lv_iload hx hb dX8_mostCases_75 (lv_at hl 0 rfl) ?_
                refine lv_iload_n hx hb dX8_mostCases_77 rfl (lv_at hl 3 rfl) ?_
                refine lv_iload_n hx hb dX8_mostCases_78 rfl (lv_at hl 4 rfl) ?_
                refine lv_iload_n hx hb dX8_mostCases_79 rfl (lv_at hl 5 rfl) ?_
                refine lv_iload hx hb dX8_mostCases_80 (lv_at hl 6 rfl) ?_
                refine zc_V (As := [.int i_35, .int 3, .int d, .int sec, .int wh]) (rest := []) ⟨hx, hb, hml, hown, hts⟩ (c_M_casesBy_3 l D cI cJ cZ cP cS po m0 mrf mki mpa mta mla msl mco mhe mso msi msh mce mca mwo mnu mte mwa mke mma mth mtr (npu) (nte) (nat_) (nde) (nto) (nse) (nhu) (nga) (nsd) (nfa) (nba) (npl) (nen) (nnu) (nwr) (nra) (nik) gki gpa gta (i_35) (d) (sec) (wh) hy0 hy1 hy2 hy3 hy4 hy5 hy6 hy7 hy8 hy9 hy10 hy11 hy12 hy13 (by omega) (by omega) hy14 hy15 hp_gki hp_gpa hp_gta) (cwV 5 hts gX8_mostCases_X8_casesBy rfl rfl rfl ⟨rfl, dh_X8_casesBy⟩ ⟨Nat.le_of_ble_eq_true rfl, Nat.le_of_ble_eq_true rfl⟩) hK hN hZ hP (hP.sub [0, 1, 2, 3] rfl) (va_recv (q := (RX8, TX8, 38)) hK hP (ci := 8) (q0 := 0) rfl rfl) rfl hl.1 rfl (Nat.le_of_ble_eq_true rfl) dX8_mostCases_82 ⟨Nat.le_of_ble_eq_true rfl, Nat.le_of_ble_eq_true rfl⟩ (fun r_21 hr_21 => ?_)
                refine lv_istore (lv' := [(7, .int r_21), (6, .int i_35), (5, .int v_6), (0, .ref m0), (1, .int 3), (2, .int d), (3, .int sec), (4, .int wh)]) hx hb dX8_mostCases_85 hl (by decide) rfl (fun ls hl => ?_)
                refine lv_iload hx hb dX8_mostCases_87 (lv_at hl 0 rfl) ?_
                refine lv_iload hx hb dX8_mostCases_89 (lv_at hl 2 rfl) ?_
                refine lv_icmp_le (tgt := 99) hx hb dX8_mostCases_91 (by decide) (fun c_22 => ?_) (fun c_22 => ?_)
                · have fc_22 : r_21.toInt ≤ v_6.toInt := zf_le c_22 rfl rfl
                  refine lv_iload hx hb dX8_mostCases_99 (lv_at hl 2 rfl) ?_
                  refine lv_istore (lv' := [(5, .int v_6), (7, .int r_21), (6, .int i_35), (0, .ref m0), (1, .int 3), (2, .int d), (3, .int sec), (4, .int wh)]) hx hb dX8_mostCases_101 hl (by decide) rfl (fun ls hl => ?_)
                  obtain ⟨x_23, ex_23⟩ : ∃ y : Int32, y = i_35 + 1 := ⟨_, rfl⟩
                  have qx_23 : x_23.toInt = i_35.toInt + 1 := dw_inc ex_23 fc_8
                  refine lv_iinc (v := x_23) (lv' := [(6, .int x_23), (5, .int v_6), (7, .int r_21), (0, .ref m0), (1, .int 3), (2, .int d), (3, .int sec), (4, .int wh)]) hx hb dX8_mostCases_103 hl (k := 2) rfl ex_23.symm (by decide) rfl (fun ls hl => ?_)
                  refine lv_goto (tgt := 35) hx hb dX8_mostCases_106 (by decide) ?_
                  exact ih x_23 v_6 _ (lv_sub hl [0, 1, 3, 4, 5, 6, 7] rfl) (dw_lo hloi_35 qx_23) (dw_hn hni_35 qx_23)
                · have fc_22 : v_6.toInt < r_21.toInt := zf_nle c_22 rfl rfl
                  refine lv_iload hx hb dX8_mostCases_94 (lv_at hl 0 rfl) ?_
                  refine lv_goto (tgt := 101) hx hb dX8_mostCases_96 (by decide) ?_
                  refine lv_istore (lv' := [(5, .int r_21), (7, .int r_21), (6, .int i_35), (0, .ref m0), (1, .int 3), (2, .int d), (3, .int sec), (4, .int wh)]) hx hb dX8_mostCases_101 hl (by decide) rfl (fun ls hl => ?_)
                  obtain ⟨x_24, ex_24⟩ : ∃ y : Int32, y = i_35 + 1 := ⟨_, rfl⟩
                  have qx_24 : x_24.toInt = i_35.toInt + 1 := dw_inc ex_24 fc_8
                  refine lv_iinc (v := x_24) (lv' := [(6, .int x_24), (5, .int r_21), (7, .int r_21), (0, .ref m0), (1, .int 3), (2, .int d), (3, .int sec), (4, .int wh)]) hx hb dX8_mostCases_103 hl (k := 2) rfl ex_24.symm (by decide) rfl (fun ls hl => ?_)
                  refine lv_goto (tgt := 35) hx hb dX8_mostCases_106 (by decide) ?_
                  exact ih x_24 r_21 _ (lv_sub hl [0, 1, 3, 4, 5, 6, 7] rfl) (dw_lo hloi_35 qx_24) (dw_hn hni_35 qx_24)
              · have fc_20 : x_19.toInt = 5 := zf_eq c_20 rfl (by decide)
                refine lv_goto (tgt := 103) hx hb dX8_mostCases_71 (by decide) ?_
                obtain ⟨x_25, ex_25⟩ : ∃ y : Int32, y = i_35 + 1 := ⟨_, rfl⟩
                have qx_25 : x_25.toInt = i_35.toInt + 1 := dw_inc ex_25 fc_8
                refine lv_iinc (v := x_25) (lv' := [(6, .int x_25), (5, .int v_6), (0, .ref m0), (1, .int 3), (2, .int d), (3, .int sec), (4, .int wh)]) hx hb dX8_mostCases_103 hl (k := 0) rfl ex_25.symm (by decide) rfl (fun ls hl => ?_)
                refine lv_goto (tgt := 35) hx hb dX8_mostCases_106 (by decide) ?_
                exact ih x_25 v_6 _ (lv_sub hl [0, 1, 2, 3, 4, 5, 6] rfl) (dw_lo hloi_35 qx_25) (dw_hn hni_35 qx_25)
    · exact absurd c_2 (by decide)
  · have fc_1 : d.toInt = 0 := zf_eq c_1 rfl (by decide)
    refine lv_aload_n hx hb dX8_mostCases_4 rfl (lv_at hl 0 rfl) ?_
    refine lv_iload_n hx hb dX8_mostCases_5 rfl (lv_at hl 1 rfl) ?_
    refine zc_V (As := [.int 3]) (rest := []) ⟨hx, hb, hml, hown, hts⟩ (c_M_power_3 l D cI cJ cZ cP cS po m0 mrf mki mpa mta mla msl mco mhe mso msi msh mce mca mwo mnu mte mwa mke mma mth mtr (npu) (nte) (nat_) (nde) (nto) (nse) (nhu) (nga) (nsd) (nfa) (nba) (npl) (nen) (nnu) (nwr) (nra) (nik) hy0 hy1 hy2 hy3 hy4 hy5 hy6 hy7 hy8 hy9 hy10 hy11 hy12 hy13) (cwV 1 hts gX8_mostCases_X8_power rfl rfl rfl ⟨rfl, dh_X8_power⟩ ⟨Nat.le_of_ble_eq_true rfl, Nat.le_of_ble_eq_true rfl⟩) hK hN hZ hP (hP.sub [0] rfl) (va_recv (q := (RX8, TX8, 38)) hK hP (ci := 8) (q0 := 0) rfl rfl) rfl hl.1 rfl (Nat.le_of_ble_eq_true rfl) dX8_mostCases_6 ⟨Nat.le_of_ble_eq_true rfl, Nat.le_of_ble_eq_true rfl⟩ (fun r_26 hr_26 => ?_)
    obtain rfl := hr_26
    exact W.iret (v := 1728) hx hb hr (fun t ht hW => ⟨1728, rfl, trivial, ht⟩) (fun q hq => by cases hq) dX8_mostCases_9
set_option maxHeartbeats 4000000 in
set_option maxRecDepth 100000 in
theorem c_M_casesBy_4 (l : Launch) (D : va_G) (cI cJ cZ cP cS : ClassId) (po : zPool) (m0 mrf mki mpa mta mla msl mco mhe mso msi msh mce mca mwo mnu mte mwa mke mma mth mtr : Nat) (npu nte nat_ nde nto nse nhu nga nsd nfa nba npl nen nnu nwr nra nik : Int32) (gki gpa gta : Nat → Int32) (p_ d sec wh : Int32) (hy0 : 0 ≤ npu.toInt) (hy1 : npu.toInt ≤ 8) (hy2 : 4 ≤ nte.toInt) (hy3 : nte.toInt ≤ 40) (hy4 : 0 ≤ nat_.toInt) (hy5 : nat_.toInt ≤ 40) (hy6 : 0 ≤ nde.toInt) (hy7 : nde.toInt ≤ 24) (hy8 : 0 ≤ nhu.toInt) (hy9 : nhu.toInt ≤ 9) (hy10 : 0 ≤ nra.toInt) (hy11 : nra.toInt ≤ 2000) (hy12 : 0 ≤ nik.toInt) (hy13 : nik.toInt ≤ 1) (hy14 : 0 ≤ p_.toInt) (hy15 : p_.toInt ≤ 7) (hy16 : 0 ≤ d.toInt) (hy17 : d.toInt ≤ 24) (hp_gki : zRg gki (0) 6) (hp_gpa : zRg gpa (0) 9) (hp_gta : zRg gta (0) 60) : Met l yX8_casesBy wsX8_casesBy ({ frames := 8, cells := 0, slots := 0, locals := 210 }) (va_Pc [.ref m0, .int p_, .int 4, .int d, .int sec, .int wh] (zR D (zKT cI cJ cZ cP cS) po [(zMO m0 npu nte nat_ nde nto nse nhu nga nsd nfa mrf mki mpa mta mla msl mco mhe mso msi msh mce mca mwo mnu mte nba npl nen nnu nwr mwa mke mma mth mtr nra nik), (mki, .inl (cI, 8, .inl gki)), (mpa, .inl (cI, 8, .inl gpa)), (mta, .inl (cI, 8, .inl gta))])) (vp_Si (fun r => True)) 0 0 (fun _ => False) := by
  refine Met.ofW (cc := cX8_casesBy) (maxL := 8) (ret := (some .int)) (by decide) rfl ?_
  intro p e s m args below meth c s₁ B hml hv
  obtain ⟨rfl, hP, hK, hN, hZ⟩ := hv
  have hx := B.exec
  have hb := B.bytes
  have hr := B.returns
  have hts := atoms_spec (ws := wsX8_casesBy) B.pre
  have hown : s.vm.findClass RX8 = some m.cls := findClass_of_methodNamed B.named
  have hlocks := B.notSynchronized
  have hl := lv_entry ([.ref m0, .int p_, .int 4, .int d, .int sec, .int wh]) (n := 8) (Nat.le_of_ble_eq_true rfl)
  rw [lg_entry_eq]
  generalize (lg_sl ([.ref m0, .int p_, .int 4, .int d, .int sec, .int wh]) ++ List.replicate (8 - (lg_sl ([.ref m0, .int p_, .int 4, .int d, .int sec, .int wh])).length) Slot.unset).toArray = ls at hl ⊢
  replace hl : lv_has ls 8 [(0, .ref m0), (1, .int p_), (2, .int 4), (3, .int d), (4, .int sec), (5, .int wh)] := hl
  refine lv_aload_n hx hb dX8_casesBy_0 rfl (lv_at hl 0 rfl) ?_
  refine lv_iload_n hx hb dX8_casesBy_1 rfl (lv_at hl 1 rfl) ?_
  refine lv_iload_n hx hb dX8_casesBy_2 rfl (lv_at hl 3 rfl) ?_
  refine zc_V (As := [.int p_, .int d]) (rest := []) ⟨hx, hb, hml, hown, hts⟩ (c_M_ways l D cI cJ cZ cP cS po m0 mrf mki mpa mta mla msl mco mhe mso msi msh mce mca mwo mnu mte mwa mke mma mth mtr (npu) (nte) (nat_) (nde) (nto) (nse) (nhu) (nga) (nsd) (nfa) (nba) (npl) (nen) (nnu) (nwr) (nra) (nik) gki gpa (p_) (d) hy0 hy1 hy2 hy3 hy4 hy5 hy6 hy7 hy8 hy9 hy10 hy11 hy12 hy13 hy14 hy15 hp_gki hp_gpa) (cwV 2 hts gX8_casesBy_X8_ways rfl rfl rfl ⟨rfl, dh_X8_ways⟩ ⟨Nat.le_of_ble_eq_true rfl, Nat.le_of_ble_eq_true rfl⟩) hK hN hZ hP (hP.sub [0, 1, 2] rfl) (va_recv (q := (RX8, TX8, 38)) hK hP (ci := 8) (q0 := 0) rfl rfl) rfl hl.1 rfl (Nat.le_of_ble_eq_true rfl) dX8_casesBy_3 ⟨Nat.le_of_ble_eq_true rfl, Nat.le_of_ble_eq_true rfl⟩ (fun r_1 hr_1 => ?_)
  obtain ⟨g_2, g_3⟩ := hr_1
  refine lv_istore (lv' := [(6, .int r_1), (0, .ref m0), (1, .int p_), (2, .int 4), (3, .int d), (4, .int sec), (5, .int wh)]) hx hb dX8_casesBy_6 hl (by decide) rfl (fun ls hl => ?_)
  refine lv_iload hx hb dX8_casesBy_8 (lv_at hl 0 rfl) ?_
  refine lv_if_ne (tgt := 17) hx hb dX8_casesBy_10 (by decide) (fun c_4 => ?_) (fun c_4 => ?_)
  · have fc_4 : r_1.toInt ≠ 0 := zf_ne c_4 rfl (by decide)
    refine lv_iload hx hb dX8_casesBy_17 (lv_at hl 0 rfl) ?_
    refine lv_aload_n hx hb dX8_casesBy_19 rfl (lv_at hl 1 rfl) ?_
    refine lv_iload_n hx hb dX8_casesBy_20 rfl (lv_at hl 3 rfl) ?_
    refine lv_iconst (v := 1) hx hb dX8_casesBy_21 (by decide) ?_
    refine lv_isub hx hb dX8_casesBy_22 ?_
    refine lv_topi (fun y_5 ey_5 => ?_)
    obtain rfl : y_5 = 3 := ey_5.trans (by decide)
    refine lv_aload_n hx hb dX8_casesBy_23 rfl (lv_at hl 1 rfl) ?_
    refine lv_iload_n hx hb dX8_casesBy_24 rfl (lv_at hl 2 rfl) ?_
    refine lv_iload_n hx hb dX8_casesBy_25 rfl (lv_at hl 4 rfl) ?_
    refine lv_iconst (v := 1) hx hb dX8_casesBy_26 (by decide) ?_
    refine zc_V (As := [.int p_, .int d, .int 1]) (rest := [.int 3, .ref m0, .int r_1]) ⟨hx, hb, hml, hown, hts⟩ (c_M_deep l D cI cJ cZ cP cS po m0 mrf mki mpa mta mla msl mco mhe mso msi msh mce mca mwo mnu mte mwa mke mma mth mtr (npu) (nte) (nat_) (nde) (nto) (nse) (nhu) (nga) (nsd) (nfa) (nba) (npl) (nen) (nnu) (nwr) (nra) (nik) gki gpa (p_) (d) (1) hy0 hy1 hy2 hy3 hy4 hy5 hy6 hy7 hy8 hy9 hy10 hy11 hy12 hy13 hy14 hy15 hy16 hy17 hp_gki hp_gpa) (cwV 3 hts gX8_casesBy_X8_deep rfl rfl rfl ⟨rfl, dh_X8_deep⟩ ⟨Nat.le_of_ble_eq_true rfl, Nat.le_of_ble_eq_true rfl⟩) hK hN hZ hP (hP.sub [0, 1, 2] rfl) (va_recv (q := (RX8, TX8, 38)) hK hP (ci := 8) (q0 := 0) rfl rfl) rfl hl.1 rfl (Nat.le_of_ble_eq_true rfl) dX8_casesBy_27 ⟨Nat.le_of_ble_eq_true rfl, Nat.le_of_ble_eq_true rfl⟩ (fun r_6 hr_6 => ?_)
    obtain ⟨g_7, g_8⟩ := hr_6
    refine lv_iload hx hb dX8_casesBy_30 (lv_at hl 5 rfl) ?_
    refine lv_aload_n hx hb dX8_casesBy_32 rfl (lv_at hl 1 rfl) ?_
    refine va_get (D := D) (ci := 8) (v := .ref mta) (C := RX8) (T := TX8) (N := 38) hx hb hts hi_X8_casesBy_8 hown hK hP 0 rfl rfl 13 (by decide) (hts (.fieldLink RX8 35 "TheLiningsInItModel" "takes" "[I") (List.mem_of_getElem? (i := 1) rfl)) (fun _ h9 => h9) rfl dX8_casesBy_33 ?_
    refine lv_iload_n hx hb dX8_casesBy_36 rfl (lv_at hl 2 rfl) ?_
    refine va_iald hx hb hK hP 3 0 rfl rfl (zf_in (by omega) (by omega)) dX8_casesBy_37 ?_
    refine lv_topi (fun x_9 ex_9 => ?_)
    have bx_9 : 0 ≤ x_9.toInt ∧ x_9.toInt ≤ 60 := by rw [ex_9]; exact hp_gta _
    refine lv_isub hx hb dX8_casesBy_38 ?_
    refine lv_topi (fun x_10 ex_10 => ?_)
    refine lv_iload hx hb dX8_casesBy_39 (lv_at hl 6 rfl) ?_
    refine zc_V (As := [.int 3, .int r_6, .int x_10, .int wh]) (rest := [.int r_1]) ⟨hx, hb, hml, hown, hts⟩ (c_M_mostCases_3 l D cI cJ cZ cP cS po m0 mrf mki mpa mta mla msl mco mhe mso msi msh mce mca mwo mnu mte mwa mke mma mth mtr (npu) (nte) (nat_) (nde) (nto) (nse) (nhu) (nga) (nsd) (nfa) (nba) (npl) (nen) (nnu) (nwr) (nra) (nik) gki gpa gta (r_6) (x_10) (wh) hy0 hy1 hy2 hy3 hy4 hy5 hy6 hy7 hy8 hy9 hy10 hy11 hy12 hy13 (by omega) (by omega) hp_gki hp_gpa hp_gta) (cwV 4 hts gX8_casesBy_X8_mostCases rfl rfl rfl ⟨rfl, dh_X8_mostCases⟩ ⟨Nat.le_of_ble_eq_true rfl, Nat.le_of_ble_eq_true rfl⟩) hK hN hZ hP (hP.sub [0, 1, 2, 3] rfl) (va_recv (q := (RX8, TX8, 38)) hK hP (ci := 8) (q0 := 0) rfl rfl) rfl hl.1 rfl (Nat.le_of_ble_eq_true rfl) dX8_casesBy_41 ⟨Nat.le_of_ble_eq_true rfl, Nat.le_of_ble_eq_true rfl⟩ (fun r_11 hr_11 => ?_)
    refine lv_imul hx hb dX8_casesBy_44 ?_
    refine lv_topi (fun x_12 ex_12 => ?_)
    refine lv_istore (lv' := [(7, .int x_12), (6, .int r_1), (0, .ref m0), (1, .int p_), (2, .int 4), (3, .int d), (4, .int sec), (5, .int wh)]) hx hb dX8_casesBy_45 hl (by decide) rfl (fun ls hl => ?_)
    refine lv_iload hx hb dX8_casesBy_47 (lv_at hl 1 rfl) ?_
    refine lv_bipush (v := 12) hx hb dX8_casesBy_49 (by decide) ?_
    refine lv_icmp_ne (tgt := 59) hx hb dX8_casesBy_51 (by decide) (fun c_13 => ?_) (fun c_13 => ?_)
    · have fc_13 : r_1.toInt ≠ 12 := zf_ne c_13 rfl (by decide)
      refine lv_iload hx hb dX8_casesBy_59 (lv_at hl 0 rfl) ?_
      refine lv_bipush (v := 12) hx hb dX8_casesBy_61 (by decide) ?_
      refine lv_iload hx hb dX8_casesBy_63 (lv_at hl 1 rfl) ?_
      refine lv_isub hx hb dX8_casesBy_65 ?_
      refine lv_topi (fun x_14 ex_14 => ?_)
      have qx_14 : x_14.toInt = 12 - r_1.toInt := by rw [ex_14]; exact zf_sub (by decide) rfl (by omega) (by omega)
      refine lv_aload_n hx hb dX8_casesBy_66 rfl (lv_at hl 2 rfl) ?_
      refine lv_iload_n hx hb dX8_casesBy_67 rfl (lv_at hl 4 rfl) ?_
      refine lv_iconst (v := 1) hx hb dX8_casesBy_68 (by decide) ?_
      refine lv_isub hx hb dX8_casesBy_69 ?_
      refine lv_topi (fun y_15 ey_15 => ?_)
      obtain rfl : y_15 = 3 := ey_15.trans (by decide)
      refine lv_aload_n hx hb dX8_casesBy_70 rfl (lv_at hl 2 rfl) ?_
      refine lv_iload_n hx hb dX8_casesBy_71 rfl (lv_at hl 3 rfl) ?_
      refine lv_iload_n hx hb dX8_casesBy_72 rfl (lv_at hl 5 rfl) ?_
      refine lv_iconst (v := 0) hx hb dX8_casesBy_73 (by decide) ?_
      refine zc_V (As := [.int p_, .int d, .int 0]) (rest := [.int 3, .ref m0, .int x_14, .int x_12]) ⟨hx, hb, hml, hown, hts⟩ (c_M_deep l D cI cJ cZ cP cS po m0 mrf mki mpa mta mla msl mco mhe mso msi msh mce mca mwo mnu mte mwa mke mma mth mtr (npu) (nte) (nat_) (nde) (nto) (nse) (nhu) (nga) (nsd) (nfa) (nba) (npl) (nen) (nnu) (nwr) (nra) (nik) gki gpa (p_) (d) (0) hy0 hy1 hy2 hy3 hy4 hy5 hy6 hy7 hy8 hy9 hy10 hy11 hy12 hy13 hy14 hy15 hy16 hy17 hp_gki hp_gpa) (cwV 3 hts gX8_casesBy_X8_deep rfl rfl rfl ⟨rfl, dh_X8_deep⟩ ⟨Nat.le_of_ble_eq_true rfl, Nat.le_of_ble_eq_true rfl⟩) hK hN hZ hP (hP.sub [0, 1, 2] rfl) (va_recv (q := (RX8, TX8, 38)) hK hP (ci := 8) (q0 := 0) rfl rfl) rfl hl.1 rfl (Nat.le_of_ble_eq_true rfl) dX8_casesBy_74 ⟨Nat.le_of_ble_eq_true rfl, Nat.le_of_ble_eq_true rfl⟩ (fun r_16 hr_16 => ?_)
      obtain ⟨g_17, g_18⟩ := hr_16
      refine lv_iload hx hb dX8_casesBy_77 (lv_at hl 6 rfl) ?_
      refine lv_aload_n hx hb dX8_casesBy_79 rfl (lv_at hl 2 rfl) ?_
      refine va_get (D := D) (ci := 8) (v := .ref mta) (C := RX8) (T := TX8) (N := 38) hx hb hts hi_X8_casesBy_8 hown hK hP 0 rfl rfl 13 (by decide) (hts (.fieldLink RX8 35 "TheLiningsInItModel" "takes" "[I") (List.mem_of_getElem? (i := 1) rfl)) (fun _ h9 => h9) rfl dX8_casesBy_80 ?_
      refine lv_iload_n hx hb dX8_casesBy_83 rfl (lv_at hl 3 rfl) ?_
      refine va_iald hx hb hK hP 3 0 rfl rfl (zf_in (by omega) (by omega)) dX8_casesBy_84 ?_
      refine lv_topi (fun x_19 ex_19 => ?_)
      have bx_19 : 0 ≤ x_19.toInt ∧ x_19.toInt ≤ 60 := by rw [ex_19]; exact hp_gta _
      refine lv_isub hx hb dX8_casesBy_85 ?_
      refine lv_topi (fun x_20 ex_20 => ?_)
      refine lv_iload hx hb dX8_casesBy_86 (lv_at hl 7 rfl) ?_
      refine zc_V (As := [.int 3, .int r_16, .int x_20, .int wh]) (rest := [.int x_14, .int x_12]) ⟨hx, hb, hml, hown, hts⟩ (c_M_mostCases_3 l D cI cJ cZ cP cS po m0 mrf mki mpa mta mla msl mco mhe mso msi msh mce mca mwo mnu mte mwa mke mma mth mtr (npu) (nte) (nat_) (nde) (nto) (nse) (nhu) (nga) (nsd) (nfa) (nba) (npl) (nen) (nnu) (nwr) (nra) (nik) gki gpa gta (r_16) (x_20) (wh) hy0 hy1 hy2 hy3 hy4 hy5 hy6 hy7 hy8 hy9 hy10 hy11 hy12 hy13 (by omega) (by omega) hp_gki hp_gpa hp_gta) (cwV 4 hts gX8_casesBy_X8_mostCases rfl rfl rfl ⟨rfl, dh_X8_mostCases⟩ ⟨Nat.le_of_ble_eq_true rfl, Nat.le_of_ble_eq_true rfl⟩) hK hN hZ hP (hP.sub [0, 1, 2, 3] rfl) (va_recv (q := (RX8, TX8, 38)) hK hP (ci := 8) (q0 := 0) rfl rfl) rfl hl.1 rfl (Nat.le_of_ble_eq_true rfl) dX8_casesBy_88 ⟨Nat.le_of_ble_eq_true rfl, Nat.le_of_ble_eq_true rfl⟩ (fun r_21 hr_21 => ?_)
      refine lv_imul hx hb dX8_casesBy_91 ?_
      refine lv_topi (fun x_22 ex_22 => ?_)
      refine lv_iadd hx hb dX8_casesBy_92 ?_
      refine lv_topi (fun x_23 ex_23 => ?_)
      exact W.iret (v := x_23) hx hb hr (fun t ht hW => ⟨x_23, rfl, trivial, ht⟩) (fun q hq => by cases hq) dX8_casesBy_93
    · have fc_13 : r_1.toInt = 12 := zf_eq c_13 rfl (by decide)
      refine lv_iload hx hb dX8_casesBy_54 (lv_at hl 0 rfl) ?_
      refine lv_goto (tgt := 93) hx hb dX8_casesBy_56 (by decide) ?_
      exact W.iret (v := x_12) hx hb hr (fun t ht hW => ⟨x_12, rfl, trivial, ht⟩) (fun q hq => by cases hq) dX8_casesBy_93
  · have fc_4 : r_1.toInt = 0 := zf_eq c_4 rfl (by decide)
    refine lv_iconst (v := 0) hx hb dX8_casesBy_13 (by decide) ?_
    refine lv_goto (tgt := 45) hx hb dX8_casesBy_14 (by decide) ?_
    refine lv_istore (lv' := [(7, .int 0), (6, .int r_1), (0, .ref m0), (1, .int p_), (2, .int 4), (3, .int d), (4, .int sec), (5, .int wh)]) hx hb dX8_casesBy_45 hl (by decide) rfl (fun ls hl => ?_)
    refine lv_iload hx hb dX8_casesBy_47 (lv_at hl 1 rfl) ?_
    refine lv_bipush (v := 12) hx hb dX8_casesBy_49 (by decide) ?_
    refine lv_icmp_ne (tgt := 59) hx hb dX8_casesBy_51 (by decide) (fun c_24 => ?_) (fun c_24 => ?_)
    · have fc_24 : r_1.toInt ≠ 12 := zf_ne c_24 rfl (by decide)
      refine lv_iload hx hb dX8_casesBy_59 (lv_at hl 0 rfl) ?_
      refine lv_bipush (v := 12) hx hb dX8_casesBy_61 (by decide) ?_
      refine lv_iload hx hb dX8_casesBy_63 (lv_at hl 1 rfl) ?_
      refine lv_isub hx hb dX8_casesBy_65 ?_
      refine lv_topi (fun x_25 ex_25 => ?_)
      have qx_25 : x_25.toInt = 12 - r_1.toInt := by rw [ex_25]; exact zf_sub (by decide) rfl (by omega) (by omega)
      refine lv_aload_n hx hb dX8_casesBy_66 rfl (lv_at hl 2 rfl) ?_
      refine lv_iload_n hx hb dX8_casesBy_67 rfl (lv_at hl 4 rfl) ?_
      refine lv_iconst (v := 1) hx hb dX8_casesBy_68 (by decide) ?_
      refine lv_isub hx hb dX8_casesBy_69 ?_
      refine lv_topi (fun y_26 ey_26 => ?_)
      obtain rfl : y_26 = 3 := ey_26.trans (by decide)
      refine lv_aload_n hx hb dX8_casesBy_70 rfl (lv_at hl 2 rfl) ?_
      refine lv_iload_n hx hb dX8_casesBy_71 rfl (lv_at hl 3 rfl) ?_
      refine lv_iload_n hx hb dX8_casesBy_72 rfl (lv_at hl 5 rfl) ?_
      refine lv_iconst (v := 0) hx hb dX8_casesBy_73 (by decide) ?_
      refine zc_V (As := [.int p_, .int d, .int 0]) (rest := [.int 3, .ref m0, .int x_25, .int 0]) ⟨hx, hb, hml, hown, hts⟩ (c_M_deep l D cI cJ cZ cP cS po m0 mrf mki mpa mta mla msl mco mhe mso msi msh mce mca mwo mnu mte mwa mke mma mth mtr (npu) (nte) (nat_) (nde) (nto) (nse) (nhu) (nga) (nsd) (nfa) (nba) (npl) (nen) (nnu) (nwr) (nra) (nik) gki gpa (p_) (d) (0) hy0 hy1 hy2 hy3 hy4 hy5 hy6 hy7 hy8 hy9 hy10 hy11 hy12 hy13 hy14 hy15 hy16 hy17 hp_gki hp_gpa) (cwV 3 hts gX8_casesBy_X8_deep rfl rfl rfl ⟨rfl, dh_X8_deep⟩ ⟨Nat.le_of_ble_eq_true rfl, Nat.le_of_ble_eq_true rfl⟩) hK hN hZ hP (hP.sub [0, 1, 2] rfl) (va_recv (q := (RX8, TX8, 38)) hK hP (ci := 8) (q0 := 0) rfl rfl) rfl hl.1 rfl (Nat.le_of_ble_eq_true rfl) dX8_casesBy_74 ⟨Nat.le_of_ble_eq_true rfl, Nat.le_of_ble_eq_true rfl⟩ (fun r_27 hr_27 => ?_)
      obtain ⟨g_28, g_29⟩ := hr_27
      refine lv_iload hx hb dX8_casesBy_77 (lv_at hl 6 rfl) ?_
      refine lv_aload_n hx hb dX8_casesBy_79 rfl (lv_at hl 2 rfl) ?_
      refine va_get (D := D) (ci := 8) (v := .ref mta) (C := RX8) (T := TX8) (N := 38) hx hb hts hi_X8_casesBy_8 hown hK hP 0 rfl rfl 13 (by decide) (hts (.fieldLink RX8 35 "TheLiningsInItModel" "takes" "[I") (List.mem_of_getElem? (i := 1) rfl)) (fun _ h9 => h9) rfl dX8_casesBy_80 ?_
      refine lv_iload_n hx hb dX8_casesBy_83 rfl (lv_at hl 3 rfl) ?_
      refine va_iald hx hb hK hP 3 0 rfl rfl (zf_in (by omega) (by omega)) dX8_casesBy_84 ?_
      refine lv_topi (fun x_30 ex_30 => ?_)
      have bx_30 : 0 ≤ x_30.toInt ∧ x_30.toInt ≤ 60 := by rw [ex_30]; exact hp_gta _
      refine lv_isub hx hb dX8_casesBy_85 ?_
      refine lv_topi (fun x_31 ex_31 => ?_)
      refine lv_iload hx hb dX8_casesBy_86 (lv_at hl 7 rfl) ?_
      refine zc_V (As := [.int 3, .int r_27, .int x_31, .int wh]) (rest := [.int x_25, .int 0]) ⟨hx, hb, hml, hown, hts⟩ (c_M_mostCases_3 l D cI cJ cZ cP cS po m0 mrf mki mpa mta mla msl mco mhe mso msi msh mce mca mwo mnu mte mwa mke mma mth mtr (npu) (nte) (nat_) (nde) (nto) (nse) (nhu) (nga) (nsd) (nfa) (nba) (npl) (nen) (nnu) (nwr) (nra) (nik) gki gpa gta (r_27) (x_31) (wh) hy0 hy1 hy2 hy3 hy4 hy5 hy6 hy7 hy8 hy9 hy10 hy11 hy12 hy13 (by omega) (by omega) hp_gki hp_gpa hp_gta) (cwV 4 hts gX8_casesBy_X8_mostCases rfl rfl rfl ⟨rfl, dh_X8_mostCases⟩ ⟨Nat.le_of_ble_eq_true rfl, Nat.le_of_ble_eq_true rfl⟩) hK hN hZ hP (hP.sub [0, 1, 2, 3] rfl) (va_recv (q := (RX8, TX8, 38)) hK hP (ci := 8) (q0 := 0) rfl rfl) rfl hl.1 rfl (Nat.le_of_ble_eq_true rfl) dX8_casesBy_88 ⟨Nat.le_of_ble_eq_true rfl, Nat.le_of_ble_eq_true rfl⟩ (fun r_32 hr_32 => ?_)
      refine lv_imul hx hb dX8_casesBy_91 ?_
      refine lv_topi (fun x_33 ex_33 => ?_)
      refine lv_iadd hx hb dX8_casesBy_92 ?_
      refine lv_topi (fun x_34 ex_34 => ?_)
      have rbx_34 := zf_rng x_33
      have qx_34 : x_34.toInt = 0 + x_33.toInt := by rw [ex_34]; exact zf_add (by decide) rfl (by omega) (by omega)
      exact W.iret (v := x_34) hx hb hr (fun t ht hW => ⟨x_34, rfl, trivial, ht⟩) (fun q hq => by cases hq) dX8_casesBy_93
    · exfalso; have fc_24 : r_1.toInt = 12 := zf_eq c_24 rfl (by decide); omega
set_option maxHeartbeats 4000000 in
set_option maxRecDepth 100000 in
theorem c_M_mostCases_4 (l : Launch) (D : va_G) (cI cJ cZ cP cS : ClassId) (po : zPool) (m0 mrf mki mpa mta mla msl mco mhe mso msi msh mce mca mwo mnu mte mwa mke mma mth mtr : Nat) (npu nte nat_ nde nto nse nhu nga nsd nfa nba npl nen nnu nwr nra nik : Int32) (gki gpa gta : Nat → Int32) (d sec wh : Int32) (hy0 : 0 ≤ npu.toInt) (hy1 : npu.toInt ≤ 8) (hy2 : 4 ≤ nte.toInt) (hy3 : nte.toInt ≤ 40) (hy4 : 0 ≤ nat_.toInt) (hy5 : nat_.toInt ≤ 40) (hy6 : 0 ≤ nde.toInt) (hy7 : nde.toInt ≤ 24) (hy8 : 0 ≤ nhu.toInt) (hy9 : nhu.toInt ≤ 9) (hy10 : 0 ≤ nra.toInt) (hy11 : nra.toInt ≤ 2000) (hy12 : 0 ≤ nik.toInt) (hy13 : nik.toInt ≤ 1) (hy14 : 0 ≤ d.toInt) (hy15 : d.toInt ≤ 24) (hp_gki : zRg gki (0) 6) (hp_gpa : zRg gpa (0) 9) (hp_gta : zRg gta (0) 60) : Met l yX8_mostCases wsX8_mostCases ({ frames := 9, cells := 0, slots := 0, locals := 237 }) (va_Pc [.ref m0, .int 4, .int d, .int sec, .int wh] (zR D (zKT cI cJ cZ cP cS) po [(zMO m0 npu nte nat_ nde nto nse nhu nga nsd nfa mrf mki mpa mta mla msl mco mhe mso msi msh mce mca mwo mnu mte nba npl nen nnu nwr mwa mke mma mth mtr nra nik), (mki, .inl (cI, 8, .inl gki)), (mpa, .inl (cI, 8, .inl gpa)), (mta, .inl (cI, 8, .inl gta))])) (vp_Si (fun r => True)) 0 0 (fun _ => False) := by
  refine Met.ofW (cc := cX8_mostCases) (maxL := 8) (ret := (some .int)) (by decide) rfl ?_
  intro p e s m args below meth c s₁ B hml hv
  obtain ⟨rfl, hP, hK, hN, hZ⟩ := hv
  have hx := B.exec
  have hb := B.bytes
  have hr := B.returns
  have hts := atoms_spec (ws := wsX8_mostCases) B.pre
  have hown : s.vm.findClass RX8 = some m.cls := findClass_of_methodNamed B.named
  have hlocks := B.notSynchronized
  have hl := lv_entry ([.ref m0, .int 4, .int d, .int sec, .int wh]) (n := 8) (Nat.le_of_ble_eq_true rfl)
  rw [lg_entry_eq]
  generalize (lg_sl ([.ref m0, .int 4, .int d, .int sec, .int wh]) ++ List.replicate (8 - (lg_sl ([.ref m0, .int 4, .int d, .int sec, .int wh])).length) Slot.unset).toArray = ls at hl ⊢
  replace hl : lv_has ls 8 [(0, .ref m0), (1, .int 4), (2, .int d), (3, .int sec), (4, .int wh)] := hl
  refine lv_iload_n hx hb dX8_mostCases_0 rfl (lv_at hl 2 rfl) ?_
  refine lv_if_ne (tgt := 10) hx hb dX8_mostCases_1 (by decide) (fun c_1 => ?_) (fun c_1 => ?_)
  · have fc_1 : d.toInt ≠ 0 := zf_ne c_1 rfl (by decide)
    refine lv_iload_n hx hb dX8_mostCases_10 rfl (lv_at hl 1 rfl) ?_
    refine lv_if_ne (tgt := 16) hx hb dX8_mostCases_11 (by decide) (fun c_2 => ?_) (fun c_2 => ?_)
    · refine lv_bipush (v := 12) hx hb dX8_mostCases_16 (by decide) ?_
      refine lv_aload_n hx hb dX8_mostCases_18 rfl (lv_at hl 0 rfl) ?_
      refine lv_iload_n hx hb dX8_mostCases_19 rfl (lv_at hl 1 rfl) ?_
      refine lv_iconst (v := 1) hx hb dX8_mostCases_20 (by decide) ?_
      refine lv_isub hx hb dX8_mostCases_21 ?_
      refine lv_topi (fun y_3 ey_3 => ?_)
      obtain rfl : y_3 = 3 := ey_3.trans (by decide)
      refine lv_iload_n hx hb dX8_mostCases_22 rfl (lv_at hl 2 rfl) ?_
      refine lv_iload_n hx hb dX8_mostCases_23 rfl (lv_at hl 3 rfl) ?_
      refine lv_iload hx hb dX8_mostCases_24 (lv_at hl 4 rfl) ?_
      refine zc_V (As := [.int 3, .int d, .int sec, .int wh]) (rest := [.int 12]) ⟨hx, hb, hml, hown, hts⟩ (c_M_mostCases_3 l D cI cJ cZ cP cS po m0 mrf mki mpa mta mla msl mco mhe mso msi msh mce mca mwo mnu mte mwa mke mma mth mtr (npu) (nte) (nat_) (nde) (nto) (nse) (nhu) (nga) (nsd) (nfa) (nba) (npl) (nen) (nnu) (nwr) (nra) (nik) gki gpa gta (d) (sec) (wh) hy0 hy1 hy2 hy3 hy4 hy5 hy6 hy7 hy8 hy9 hy10 hy11 hy12 hy13 hy14 hy15 hp_gki hp_gpa hp_gta) (cwV 4 hts gX8_mostCases_X8_mostCases rfl rfl rfl ⟨rfl, dh_X8_mostCases⟩ ⟨Nat.le_of_ble_eq_true rfl, Nat.le_of_ble_eq_true rfl⟩) hK hN hZ hP (hP.sub [0, 1, 2, 3] rfl) (va_recv (q := (RX8, TX8, 38)) hK hP (ci := 8) (q0 := 0) rfl rfl) rfl hl.1 rfl (Nat.le_of_ble_eq_true rfl) dX8_mostCases_26 ⟨Nat.le_of_ble_eq_true rfl, Nat.le_of_ble_eq_true rfl⟩ (fun r_4 hr_4 => ?_)
      refine lv_imul hx hb dX8_mostCases_29 ?_
      refine lv_topi (fun x_5 ex_5 => ?_)
      refine lv_istore (lv' := [(5, .int x_5), (0, .ref m0), (1, .int 4), (2, .int d), (3, .int sec), (4, .int wh)]) hx hb dX8_mostCases_30 hl (by decide) rfl (fun ls hl => ?_)
      refine lv_iconst (v := 0) hx hb dX8_mostCases_32 (by decide) ?_
      refine lv_istore (lv' := [(6, .int 0), (5, .int x_5), (0, .ref m0), (1, .int 4), (2, .int d), (3, .int sec), (4, .int wh)]) hx hb dX8_mostCases_33 hl (by decide) rfl (fun ls hl => ?_)
      obtain ⟨i_35, hi_35⟩ : ∃ i : Int32, i = 0 := ⟨_, rfl⟩
      replace hl : lv_has ls 8 [(6, .int i_35), (5, .int x_5), (0, .ref m0), (1, .int 4), (2, .int d), (3, .int sec), (4, .int wh)] := by rw [hi_35]; exact lv_sub hl [0, 1, 2, 3, 4, 5, 6] rfl
      have h1i_35 : i_35.toInt = 0 := by rw [hi_35]; decide
      obtain ⟨nfu, hni_35⟩ : ∃ nq9 : Nat, npu.toInt ≤ i_35.toInt + (nq9 : Int) := ⟨((npu.toInt : Int) - 0).toNat, by omega⟩
      have hloi_35 : 0 ≤ i_35.toInt := by omega
      obtain ⟨v_6, hv_6⟩ : ∃ g : Int32, g = x_5 := ⟨_, rfl⟩
      replace hl : lv_has ls 8 [(6, .int i_35), (5, .int v_6), (0, .ref m0), (1, .int 4), (2, .int d), (3, .int sec), (4, .int wh)] := by rw [hv_6]; exact hl
      clear h1i_35 hi_35 hv_6
      revert hni_35
      revert hloi_35
      revert hl
      revert ls
      revert v_6
      revert i_35
      induction nfu with
      | zero =>
        intro i_35 v_6 ls hl hloi_35 hni_35
        have hzi_35 : npu.toInt ≤ i_35.toInt := by omega
        refine lv_iload hx hb dX8_mostCases_35 (lv_at hl 0 rfl) ?_
        refine lv_aload_n hx hb dX8_mostCases_37 rfl (lv_at hl 2 rfl) ?_
        refine va_get (D := D) (ci := 8) (v := .int npu) (C := RX8) (T := TX8) (N := 38) hx hb hts hi_X8_mostCases_8 hown hK hP 0 rfl rfl 0 (by decide) (hts (.fieldLink RX8 90 "TheLiningsInItModel" "pulls" "I") (List.mem_of_getElem? (i := 1) rfl)) (fun _ h9 => h9) rfl dX8_mostCases_38 ?_
        refine lv_icmp_ge (tgt := 109) hx hb dX8_mostCases_41 (by decide) (fun c_7 => ?_) (fun c_7 => ?_)
        · have fc_7 : npu.toInt ≤ i_35.toInt := zf_le c_7 rfl rfl
          refine lv_iload hx hb dX8_mostCases_109 (lv_at hl 1 rfl) ?_
          exact W.iret (v := v_6) hx hb hr (fun t ht hW => ⟨v_6, rfl, trivial, ht⟩) (fun q hq => by cases hq) dX8_mostCases_111
        · exfalso; have fc_7 : i_35.toInt < npu.toInt := zf_nle c_7 rfl rfl; omega
      | succ nfu ih =>
        intro i_35 v_6 ls hl hloi_35 hni_35
        refine lv_iload hx hb dX8_mostCases_35 (lv_at hl 0 rfl) ?_
        refine lv_aload_n hx hb dX8_mostCases_37 rfl (lv_at hl 2 rfl) ?_
        refine va_get (D := D) (ci := 8) (v := .int npu) (C := RX8) (T := TX8) (N := 38) hx hb hts hi_X8_mostCases_8 hown hK hP 0 rfl rfl 0 (by decide) (hts (.fieldLink RX8 90 "TheLiningsInItModel" "pulls" "I") (List.mem_of_getElem? (i := 1) rfl)) (fun _ h9 => h9) rfl dX8_mostCases_38 ?_
        refine lv_icmp_ge (tgt := 109) hx hb dX8_mostCases_41 (by decide) (fun c_8 => ?_) (fun c_8 => ?_)
        · have fc_8 : npu.toInt ≤ i_35.toInt := zf_le c_8 rfl rfl
          refine lv_iload hx hb dX8_mostCases_109 (lv_at hl 1 rfl) ?_
          exact W.iret (v := v_6) hx hb hr (fun t ht hW => ⟨v_6, rfl, trivial, ht⟩) (fun q hq => by cases hq) dX8_mostCases_111
        · have fc_8 : i_35.toInt < npu.toInt := zf_nle c_8 rfl rfl
          refine lv_aload_n hx hb dX8_mostCases_44 rfl (lv_at hl 2 rfl) ?_
          refine lv_iload hx hb dX8_mostCases_45 (lv_at hl 0 rfl) ?_
          refine lv_iload_n hx hb dX8_mostCases_47 rfl (lv_at hl 4 rfl) ?_
          refine lv_iload_n hx hb dX8_mostCases_48 rfl (lv_at hl 5 rfl) ?_
          refine zc_V (As := [.int i_35, .int d, .int sec]) (rest := []) ⟨hx, hb, hml, hown, hts⟩ (c_M_mayBe l D cI cJ cZ cP cS po m0 mrf mki mpa mta mla msl mco mhe mso msi msh mce mca mwo mnu mte mwa mke mma mth mtr (npu) (nte) (nat_) (nde) (nto) (nse) (nhu) (nga) (nsd) (nfa) (nba) (npl) (nen) (nnu) (nwr) (nra) (nik) gta (i_35) (d) (sec) hy0 hy1 hy2 hy3 hy4 hy5 hy6 hy7 hy8 hy9 hy10 hy11 hy12 hy13 (by omega) (by omega) hp_gta) (cwV 3 hts gX8_mostCases_X8_mayBe rfl rfl rfl ⟨rfl, dh_X8_mayBe⟩ ⟨Nat.le_of_ble_eq_true rfl, Nat.le_of_ble_eq_true rfl⟩) hK hN hZ hP (hP.sub [0, 3] rfl) (va_recv (q := (RX8, TX8, 38)) hK hP (ci := 8) (q0 := 0) rfl rfl) rfl hl.1 rfl (Nat.le_of_ble_eq_true rfl) dX8_mostCases_49 ⟨Nat.le_of_ble_eq_true rfl, Nat.le_of_ble_eq_true rfl⟩ (fun r_9 hr_9 => ?_)
          obtain ⟨g_10, g_11, hsr_9_0⟩ := hr_9
          refine lv_if_eq (tgt := 103) hx hb dX8_mostCases_52 (by decide) (fun c_12 => ?_) (fun c_12 => ?_)
          · have fc_12 : r_9.toInt = 0 := zf_eq c_12 rfl (by decide)
            obtain ⟨x_13, ex_13⟩ : ∃ y : Int32, y = i_35 + 1 := ⟨_, rfl⟩
            have qx_13 : x_13.toInt = i_35.toInt + 1 := dw_inc ex_13 fc_8
            refine lv_iinc (v := x_13) (lv' := [(6, .int x_13), (5, .int v_6), (0, .ref m0), (1, .int 4), (2, .int d), (3, .int sec), (4, .int wh)]) hx hb dX8_mostCases_103 hl (k := 0) rfl ex_13.symm (by decide) rfl (fun ls hl => ?_)
            refine lv_goto (tgt := 35) hx hb dX8_mostCases_106 (by decide) ?_
            exact ih x_13 v_6 _ (lv_sub hl [0, 1, 2, 3, 4, 5, 6] rfl) (dw_lo hloi_35 qx_13) (dw_hn hni_35 qx_13)
          · have fc_12 : r_9.toInt ≠ 0 := zf_ne c_12 rfl (by decide)
            refine lv_iload hx hb dX8_mostCases_55 (lv_at hl 6 rfl) ?_
            refine lv_if_eq (tgt := 74) hx hb dX8_mostCases_57 (by decide) (fun c_14 => ?_) (fun c_14 => ?_)
            · have fc_14 : wh.toInt = 0 := zf_eq c_14 rfl (by decide)
              refine lv_aload_n hx hb dX8_mostCases_74 rfl (lv_at hl 2 rfl) ?_
              refine lv_iload hx hb dX8_mostCases_75 (lv_at hl 0 rfl) ?_
              refine lv_iload_n hx hb dX8_mostCases_77 rfl (lv_at hl 3 rfl) ?_
              refine lv_iload_n hx hb dX8_mostCases_78 rfl (lv_at hl 4 rfl) ?_
              refine lv_iload_n hx hb dX8_mostCases_79 rfl (lv_at hl 5 rfl) ?_
              refine lv_iload hx hb dX8_mostCases_80 (lv_at hl 6 rfl) ?_
              refine zc_V (As := [.int i_35, .int 4, .int d, .int sec, .int wh]) (rest := []) ⟨hx, hb, hml, hown, hts⟩ (c_M_casesBy_4 l D cI cJ cZ cP cS po m0 mrf mki mpa mta mla msl mco mhe mso msi msh mce mca mwo mnu mte mwa mke mma mth mtr (npu) (nte) (nat_) (nde) (nto) (nse) (nhu) (nga) (nsd) (nfa) (nba) (npl) (nen) (nnu) (nwr) (nra) (nik) gki gpa gta (i_35) (d) (sec) (wh) hy0 hy1 hy2 hy3 hy4 hy5 hy6 hy7 hy8 hy9 hy10 hy11 hy12 hy13 (by omega) (by omega) hy14 hy15 hp_gki hp_gpa hp_gta) (cwV 5 hts gX8_mostCases_X8_casesBy rfl rfl rfl ⟨rfl, dh_X8_casesBy⟩ ⟨Nat.le_of_ble_eq_true rfl, Nat.le_of_ble_eq_true rfl⟩) hK hN hZ hP (hP.sub [0, 1, 2, 3] rfl) (va_recv (q := (RX8, TX8, 38)) hK hP (ci := 8) (q0 := 0) rfl rfl) rfl hl.1 rfl (Nat.le_of_ble_eq_true rfl) dX8_mostCases_82 ⟨Nat.le_of_ble_eq_true rfl, Nat.le_of_ble_eq_true rfl⟩ (fun r_15 hr_15 => ?_)
              refine lv_istore (lv' := [(7, .int r_15), (6, .int i_35), (5, .int v_6), (0, .ref m0), (1, .int 4), (2, .int d), (3, .int sec), (4, .int wh)]) hx hb dX8_mostCases_85 hl (by decide) rfl (fun ls hl => ?_)
              refine lv_iload hx hb dX8_mostCases_87 (lv_at hl 0 rfl) ?_
              refine lv_iload hx hb dX8_mostCases_89 (lv_at hl 2 rfl) ?_
              refine lv_icmp_le (tgt := 99) hx hb dX8_mostCases_91 (by decide) (fun c_16 => ?_) (fun c_16 => ?_)
              · have fc_16 : r_15.toInt ≤ v_6.toInt := zf_le c_16 rfl rfl
                refine lv_iload hx hb dX8_mostCases_99 (lv_at hl 2 rfl) ?_
                refine lv_istore (lv' := [(5, .int v_6), (7, .int r_15), (6, .int i_35), (0, .ref m0), (1, .int 4), (2, .int d), (3, .int sec), (4, .int wh)]) hx hb dX8_mostCases_101 hl (by decide) rfl (fun ls hl => ?_)
                obtain ⟨x_17, ex_17⟩ : ∃ y : Int32, y = i_35 + 1 := ⟨_, rfl⟩
                have qx_17 : x_17.toInt = i_35.toInt + 1 := dw_inc ex_17 fc_8
                refine lv_iinc (v := x_17) (lv' := [(6, .int x_17), (5, .int v_6), (7, .int r_15), (0, .ref m0), (1, .int 4), (2, .int d), (3, .int sec), (4, .int wh)]) hx hb dX8_mostCases_103 hl (k := 2) rfl ex_17.symm (by decide) rfl (fun ls hl => ?_)
                refine lv_goto (tgt := 35) hx hb dX8_mostCases_106 (by decide) ?_
                exact ih x_17 v_6 _ (lv_sub hl [0, 1, 3, 4, 5, 6, 7] rfl) (dw_lo hloi_35 qx_17) (dw_hn hni_35 qx_17)
              · have fc_16 : v_6.toInt < r_15.toInt := zf_nle c_16 rfl rfl
                refine lv_iload hx hb dX8_mostCases_94 (lv_at hl 0 rfl) ?_
                refine lv_goto (tgt := 101) hx hb dX8_mostCases_96 (by decide) ?_
                refine lv_istore (lv' := [(5, .int r_15), (7, .int r_15), (6, .int i_35), (0, .ref m0), (1, .int 4), (2, .int d), (3, .int sec), (4, .int wh)]) hx hb dX8_mostCases_101 hl (by decide) rfl (fun ls hl => ?_)
                obtain ⟨x_18, ex_18⟩ : ∃ y : Int32, y = i_35 + 1 := ⟨_, rfl⟩
                have qx_18 : x_18.toInt = i_35.toInt + 1 := dw_inc ex_18 fc_8
                refine lv_iinc (v := x_18) (lv' := [(6, .int x_18), (5, .int r_15), (7, .int r_15), (0, .ref m0), (1, .int 4), (2, .int d), (3, .int sec), (4, .int wh)]) hx hb dX8_mostCases_103 hl (k := 2) rfl ex_18.symm (by decide) rfl (fun ls hl => ?_)
                refine lv_goto (tgt := 35) hx hb dX8_mostCases_106 (by decide) ?_
                exact ih x_18 r_15 _ (lv_sub hl [0, 1, 3, 4, 5, 6, 7] rfl) (dw_lo hloi_35 qx_18) (dw_hn hni_35 qx_18)
            · have fc_14 : wh.toInt ≠ 0 := zf_ne c_14 rfl (by decide)
              refine lv_aload_n hx hb dX8_mostCases_60 rfl (lv_at hl 2 rfl) ?_
              refine va_get (D := D) (ci := 8) (v := .ref mki) (C := RX8) (T := TX8) (N := 38) hx hb hts hi_X8_mostCases_8 hown hK hP 0 rfl rfl 11 (by decide) (hts (.fieldLink RX8 29 "TheLiningsInItModel" "kind" "[I") (List.mem_of_getElem? (i := 2) rfl)) (fun _ h9 => h9) rfl dX8_mostCases_61 ?_
              refine lv_iload hx hb dX8_mostCases_64 (lv_at hl 0 rfl) ?_
              refine va_iald hx hb hK hP 1 0 rfl rfl (zf_in (by omega) (by omega)) dX8_mostCases_66 ?_
              refine lv_topi (fun x_19 ex_19 => ?_)
              have bx_19 : 0 ≤ x_19.toInt ∧ x_19.toInt ≤ 6 := by rw [ex_19]; exact hp_gki _
              refine lv_iconst (v := 5) hx hb dX8_mostCases_67 (by decide) ?_
              refine lv_icmp_ne (tgt := 74) hx hb dX8_mostCases_68 (by decide) (fun c_20 => ?_) (fun c_20 => ?_)
              · have fc_20 : x_19.toInt ≠ 5 := zf_ne c_20 rfl (by decide)
                refine lv_aload_n hx hb dX8_mostCases_74 rfl (lv_at hl 2 rfl) ?_
                refine lv_iload hx hb dX8_mostCases_75 (lv_at hl 0 rfl) ?_
                refine lv_iload_n hx hb dX8_mostCases_77 rfl (lv_at hl 3 rfl) ?_
                refine lv_iload_n hx hb dX8_mostCases_78 rfl (lv_at hl 4 rfl) ?_
                refine lv_iload_n hx hb dX8_mostCases_79 rfl (lv_at hl 5 rfl) ?_
                refine lv_iload hx hb dX8_mostCases_80 (lv_at hl 6 rfl) ?_
                refine zc_V (As := [.int i_35, .int 4, .int d, .int sec, .int wh]) (rest := []) ⟨hx, hb, hml, hown, hts⟩ (c_M_casesBy_4 l D cI cJ cZ cP cS po m0 mrf mki mpa mta mla msl mco mhe mso msi msh mce mca mwo mnu mte mwa mke mma mth mtr (npu) (nte) (nat_) (nde) (nto) (nse) (nhu) (nga) (nsd) (nfa) (nba) (npl) (nen) (nnu) (nwr) (nra) (nik) gki gpa gta (i_35) (d) (sec) (wh) hy0 hy1 hy2 hy3 hy4 hy5 hy6 hy7 hy8 hy9 hy10 hy11 hy12 hy13 (by omega) (by omega) hy14 hy15 hp_gki hp_gpa hp_gta) (cwV 5 hts gX8_mostCases_X8_casesBy rfl rfl rfl ⟨rfl, dh_X8_casesBy⟩ ⟨Nat.le_of_ble_eq_true rfl, Nat.le_of_ble_eq_true rfl⟩) hK hN hZ hP (hP.sub [0, 1, 2, 3] rfl) (va_recv (q := (RX8, TX8, 38)) hK hP (ci := 8) (q0 := 0) rfl rfl) rfl hl.1 rfl (Nat.le_of_ble_eq_true rfl) dX8_mostCases_82 ⟨Nat.le_of_ble_eq_true rfl, Nat.le_of_ble_eq_true rfl⟩ (fun r_21 hr_21 => ?_)
                refine lv_istore (lv' := [(7, .int r_21), (6, .int i_35), (5, .int v_6), (0, .ref m0), (1, .int 4), (2, .int d), (3, .int sec), (4, .int wh)]) hx hb dX8_mostCases_85 hl (by decide) rfl (fun ls hl => ?_)
                refine lv_iload hx hb dX8_mostCases_87 (lv_at hl 0 rfl) ?_
                refine lv_iload hx hb dX8_mostCases_89 (lv_at hl 2 rfl) ?_
                refine lv_icmp_le (tgt := 99) hx hb dX8_mostCases_91 (by decide) (fun c_22 => ?_) (fun c_22 => ?_)
                · have fc_22 : r_21.toInt ≤ v_6.toInt := zf_le c_22 rfl rfl
                  refine lv_iload hx hb dX8_mostCases_99 (lv_at hl 2 rfl) ?_
                  refine lv_istore (lv' := [(5, .int v_6), (7, .int r_21), (6, .int i_35), (0, .ref m0), (1, .int 4), (2, .int d), (3, .int sec), (4, .int wh)]) hx hb dX8_mostCases_101 hl (by decide) rfl (fun ls hl => ?_)
                  obtain ⟨x_23, ex_23⟩ : ∃ y : Int32, y = i_35 + 1 := ⟨_, rfl⟩
                  have qx_23 : x_23.toInt = i_35.toInt + 1 := dw_inc ex_23 fc_8
                  refine lv_iinc (v := x_23) (lv' := [(6, .int x_23), (5, .int v_6), (7, .int r_21), (0, .ref m0), (1, .int 4), (2, .int d), (3, .int sec), (4, .int wh)]) hx hb dX8_mostCases_103 hl (k := 2) rfl ex_23.symm (by decide) rfl (fun ls hl => ?_)
                  refine lv_goto (tgt := 35) hx hb dX8_mostCases_106 (by decide) ?_
                  exact ih x_23 v_6 _ (lv_sub hl [0, 1, 3, 4, 5, 6, 7] rfl) (dw_lo hloi_35 qx_23) (dw_hn hni_35 qx_23)
                · have fc_22 : v_6.toInt < r_21.toInt := zf_nle c_22 rfl rfl
                  refine lv_iload hx hb dX8_mostCases_94 (lv_at hl 0 rfl) ?_
                  refine lv_goto (tgt := 101) hx hb dX8_mostCases_96 (by decide) ?_
                  refine lv_istore (lv' := [(5, .int r_21), (7, .int r_21), (6, .int i_35), (0, .ref m0), (1, .int 4), (2, .int d), (3, .int sec), (4, .int wh)]) hx hb dX8_mostCases_101 hl (by decide) rfl (fun ls hl => ?_)
                  obtain ⟨x_24, ex_24⟩ : ∃ y : Int32, y = i_35 + 1 := ⟨_, rfl⟩
                  have qx_24 : x_24.toInt = i_35.toInt + 1 := dw_inc ex_24 fc_8
                  refine lv_iinc (v := x_24) (lv' := [(6, .int x_24), (5, .int r_21), (7, .int r_21), (0, .ref m0), (1, .int 4), (2, .int d), (3, .int sec), (4, .int wh)]) hx hb dX8_mostCases_103 hl (k := 2) rfl ex_24.symm (by decide) rfl (fun ls hl => ?_)
                  refine lv_goto (tgt := 35) hx hb dX8_mostCases_106 (by decide) ?_
                  exact ih x_24 r_21 _ (lv_sub hl [0, 1, 3, 4, 5, 6, 7] rfl) (dw_lo hloi_35 qx_24) (dw_hn hni_35 qx_24)
              · have fc_20 : x_19.toInt = 5 := zf_eq c_20 rfl (by decide)
                refine lv_goto (tgt := 103) hx hb dX8_mostCases_71 (by decide) ?_
                obtain ⟨x_25, ex_25⟩ : ∃ y : Int32, y = i_35 + 1 := ⟨_, rfl⟩
                have qx_25 : x_25.toInt = i_35.toInt + 1 := dw_inc ex_25 fc_8
                refine lv_iinc (v := x_25) (lv' := [(6, .int x_25), (5, .int v_6), (0, .ref m0), (1, .int 4), (2, .int d), (3, .int sec), (4, .int wh)]) hx hb dX8_mostCases_103 hl (k := 0) rfl ex_25.symm (by decide) rfl (fun ls hl => ?_)
                refine lv_goto (tgt := 35) hx hb dX8_mostCases_106 (by decide) ?_
                exact ih x_25 v_6 _ (lv_sub hl [0, 1, 2, 3, 4, 5, 6] rfl) (dw_lo hloi_35 qx_25) (dw_hn hni_35 qx_25)
    · exact absurd c_2 (by decide)
  · have fc_1 : d.toInt = 0 := zf_eq c_1 rfl (by decide)
    refine lv_aload_n hx hb dX8_mostCases_4 rfl (lv_at hl 0 rfl) ?_
    refine lv_iload_n hx hb dX8_mostCases_5 rfl (lv_at hl 1 rfl) ?_
    refine zc_V (As := [.int 4]) (rest := []) ⟨hx, hb, hml, hown, hts⟩ (c_M_power_4 l D cI cJ cZ cP cS po m0 mrf mki mpa mta mla msl mco mhe mso msi msh mce mca mwo mnu mte mwa mke mma mth mtr (npu) (nte) (nat_) (nde) (nto) (nse) (nhu) (nga) (nsd) (nfa) (nba) (npl) (nen) (nnu) (nwr) (nra) (nik) hy0 hy1 hy2 hy3 hy4 hy5 hy6 hy7 hy8 hy9 hy10 hy11 hy12 hy13) (cwV 1 hts gX8_mostCases_X8_power rfl rfl rfl ⟨rfl, dh_X8_power⟩ ⟨Nat.le_of_ble_eq_true rfl, Nat.le_of_ble_eq_true rfl⟩) hK hN hZ hP (hP.sub [0] rfl) (va_recv (q := (RX8, TX8, 38)) hK hP (ci := 8) (q0 := 0) rfl rfl) rfl hl.1 rfl (Nat.le_of_ble_eq_true rfl) dX8_mostCases_6 ⟨Nat.le_of_ble_eq_true rfl, Nat.le_of_ble_eq_true rfl⟩ (fun r_26 hr_26 => ?_)
    obtain rfl := hr_26
    exact W.iret (v := 20736) hx hb hr (fun t ht hW => ⟨20736, rfl, trivial, ht⟩) (fun q hq => by cases hq) dX8_mostCases_9

