set_option maxHeartbeats 4000000 in
set_option maxRecDepth 100000 in
theorem c_F_M_mayBe (l : Launch) (D : va_G) (cI cJ cZ cP cS : ClassId) (po : zPool) (m0 mrf mki mpa mta mla msl mco mhe mso msi msh mce mca mwo mnu mte mwa mke mma mth mtr : Nat) (npu nte nat_ nde nto nse nhu nga nsd nfa nba npl nen nnu nwr nra nik : Int32) (gta : Nat → Int32) (p_ d sec : Int32) (hy0 : 0 ≤ npu.toInt) (hy1 : npu.toInt ≤ 8) (hy2 : 4 ≤ nte.toInt) (hy3 : nte.toInt ≤ 40) (hy4 : 0 ≤ nat_.toInt) (hy5 : nat_.toInt ≤ 40) (hy6 : 0 ≤ nde.toInt) (hy7 : nde.toInt ≤ 24) (hy8 : 0 ≤ nhu.toInt) (hy9 : nhu.toInt ≤ 9) (hy10 : 0 ≤ nra.toInt) (hy11 : nra.toInt ≤ 2000) (hy12 : 0 ≤ nik.toInt) (hy13 : nik.toInt ≤ 1) (hy14 : 0 ≤ p_.toInt) (hy15 : p_.toInt ≤ 7) (hp_gta : zRg gta (0) 60) : Met l yX8_mayBe wsX8_mayBe ({ frames := 0, cells := 0, slots := 0, locals := 0 }) (va_Pc [.ref m0, .int p_, .int d, .int sec] (zR D (zKT cI cJ cZ cP cS) po [(zMO m0 npu nte nat_ nde nto nse nhu nga nsd nfa mrf mki mpa mta mla msl mco mhe mso msi msh mce mca mwo mnu mte nba npl nen nnu nwr mwa mke mma mth mtr nra nik), (mta, .inl (cI, 8, .inl gta))])) (vp_Si (fun r => 0 ≤ r.toInt ∧ r.toInt ≤ 1 ∧ ((r.toInt = 1 ↔ (1 ≤ d.toInt ∧ (gta p_.toNatClampNeg).toInt ≤ sec.toInt))))) 0 0 (fun _ => False) := by
  refine Met.ofW (cc := cX8_mayBe) (maxL := 4) (ret := (some .boolean)) (by decide) rfl ?_
  intro p e s m args below meth c s₁ B hml hv
  obtain ⟨rfl, hP, hK, hN, hZ⟩ := hv
  have hx := B.exec
  have hb := B.bytes
  have hr := B.returns
  have hts := atoms_spec (ws := wsX8_mayBe) B.pre
  have hown : s.vm.findClass RX8 = some m.cls := findClass_of_methodNamed B.named
  have hlocks := B.notSynchronized
  have hl := lv_entry ([.ref m0, .int p_, .int d, .int sec]) (n := 4) (Nat.le_of_ble_eq_true rfl)
  rw [lg_entry_eq]
  generalize (lg_sl ([.ref m0, .int p_, .int d, .int sec]) ++ List.replicate (4 - (lg_sl ([.ref m0, .int p_, .int d, .int sec])).length) Slot.unset).toArray = ls at hl ⊢
  replace hl : lv_has ls 4 [(0, .ref m0), (1, .int p_), (2, .int d), (3, .int sec)] := hl
  refine lv_iload_n hx hb dX8_mayBe_0 rfl (lv_at hl 2 rfl) ?_
  refine lv_iconst (v := 1) hx hb dX8_mayBe_1 (by decide) ?_
  refine lv_icmp_lt (tgt := 19) hx hb dX8_mayBe_2 (by decide) (fun c_1 => ?_) (fun c_1 => ?_)
  · have fc_1 : d.toInt < 1 := zf_lt c_1 rfl (by decide)
    refine lv_iconst (v := 0) hx hb dX8_mayBe_19 (by decide) ?_
    exact W.zret (v := 0) hx hb hr (by decide) (fun t ht hW => ⟨0, rfl, ⟨by decide, by decide, (show ((0 : Int32).toInt = 1 ↔ (1 ≤ d.toInt ∧ (gta p_.toNatClampNeg).toInt ≤ sec.toInt)) from by (have k9 : (0 : Int32).toInt = 0 := (by decide); omega))⟩, ht⟩) (fun q hq => by cases hq) dX8_mayBe_20
  · have fc_1 : 1 ≤ d.toInt := zf_nlt c_1 rfl (by decide)
    refine lv_iload_n hx hb dX8_mayBe_5 rfl (lv_at hl 3 rfl) ?_
    refine lv_aload_n hx hb dX8_mayBe_6 rfl (lv_at hl 0 rfl) ?_
    refine va_get (D := D) (ci := 8) (v := .ref mta) (C := RX8) (T := TX8) (N := 38) hx hb hts hi_X8_mayBe_8 hown hK hP 0 rfl rfl 13 (by decide) (hts (.fieldLink RX8 35 "TheLiningsInItModel" "takes" "[I") (List.mem_of_getElem? (i := 1) rfl)) (fun _ h9 => h9) rfl dX8_mayBe_7 ?_
    refine lv_iload_n hx hb dX8_mayBe_10 rfl (lv_at hl 1 rfl) ?_
    refine va_iald hx hb hK hP 1 0 rfl rfl (zf_in (by omega) (by omega)) dX8_mayBe_11 ?_
    refine lv_topi (fun x_2 ex_2 => ?_)
    have bx_2 : 0 ≤ x_2.toInt ∧ x_2.toInt ≤ 60 := by rw [ex_2]; exact hp_gta _
    refine lv_icmp_lt (tgt := 19) hx hb dX8_mayBe_12 (by decide) (fun c_3 => ?_) (fun c_3 => ?_)
    · have fc_3 : sec.toInt < x_2.toInt := zf_lt c_3 rfl rfl
      refine lv_iconst (v := 0) hx hb dX8_mayBe_19 (by decide) ?_
      exact W.zret (v := 0) hx hb hr (by decide) (fun t ht hW => ⟨0, rfl, ⟨by decide, by decide, (show ((0 : Int32).toInt = 1 ↔ (1 ≤ d.toInt ∧ (gta p_.toNatClampNeg).toInt ≤ sec.toInt)) from by (have k9 : (0 : Int32).toInt = 0 := (by decide); rw [← ex_2]; omega))⟩, ht⟩) (fun q hq => by cases hq) dX8_mayBe_20
    · have fc_3 : x_2.toInt ≤ sec.toInt := zf_nlt c_3 rfl rfl
      refine lv_iconst (v := 1) hx hb dX8_mayBe_15 (by decide) ?_
      refine lv_goto (tgt := 20) hx hb dX8_mayBe_16 (by decide) ?_
      exact W.zret (v := 1) hx hb hr (by decide) (fun t ht hW => ⟨1, rfl, ⟨by decide, by decide, (show ((1 : Int32).toInt = 1 ↔ (1 ≤ d.toInt ∧ (gta p_.toNatClampNeg).toInt ≤ sec.toInt)) from by (have k9 : (1 : Int32).toInt = 1 := (by decide); rw [← ex_2]; omega))⟩, ht⟩) (fun q hq => by cases hq) dX8_mayBe_20
set_option maxHeartbeats 4000000 in
set_option maxRecDepth 100000 in
theorem c_F_M_mostCases_0 (l : Launch) (D : va_G) (cI cJ cZ cP cS : ClassId) (po : zPool) (m0 mrf mki mpa mta mla msl mco mhe mso msi msh mce mca mwo mnu mte mwa mke mma mth mtr : Nat) (npu nte nat_ nde nto nse nhu nga nsd nfa nba npl nen nnu nwr nra nik : Int32) (gki gpa gta : Nat → Int32) (d sec wh : Int32) (hy0 : 0 ≤ npu.toInt) (hy1 : npu.toInt ≤ 8) (hy2 : 4 ≤ nte.toInt) (hy3 : nte.toInt ≤ 40) (hy4 : 0 ≤ nat_.toInt) (hy5 : nat_.toInt ≤ 40) (hy6 : 0 ≤ nde.toInt) (hy7 : nde.toInt ≤ 24) (hy8 : 0 ≤ nhu.toInt) (hy9 : nhu.toInt ≤ 9) (hy10 : 0 ≤ nra.toInt) (hy11 : nra.toInt ≤ 2000) (hy12 : 0 ≤ nik.toInt) (hy13 : nik.toInt ≤ 1) (hy14 : 0 ≤ d.toInt) (hy15 : d.toInt ≤ 24) (hy16 : 0 ≤ sec.toInt) (hy17 : sec.toInt ≤ 300) (hy18 : 0 ≤ wh.toInt) (hy19 : wh.toInt ≤ 1) (hp_gki : zRg gki (0) 6) (hp_gpa : zRg gpa (0) 9) (hp_gta : zRg gta (0) 60) : Met l yX8_mostCases wsX8_mostCases ({ frames := 1, cells := 0, slots := 0, locals := 21 }) (va_Pc [.ref m0, .int 0, .int d, .int sec, .int wh] (zR D (zKT cI cJ cZ cP cS) po [(zMO m0 npu nte nat_ nde nto nse nhu nga nsd nfa mrf mki mpa mta mla msl mco mhe mso msi msh mce mca mwo mnu mte nba npl nen nnu nwr mwa mke mma mth mtr nra nik), (mki, .inl (cI, 8, .inl gki)), (mpa, .inl (cI, 8, .inl gpa)), (mta, .inl (cI, 8, .inl gta))])) (vp_Si (fun r => 0 ≤ r.toInt ∧ r.toInt ≤ 1 ∧ (r.toInt = (zM gki gpa gta npu.toInt.toNat nhu.toInt (if wh.toInt = 0 then 1 else 0) 0) d.toInt sec.toInt))) 0 0 (fun _ => False) := by
  refine Met.ofW (cc := cX8_mostCases) (maxL := 8) (ret := (some .int)) (by decide) rfl ?_
  intro p e s m args below meth c s₁ B hml hv
  obtain ⟨rfl, hP, hK, hN, hZ⟩ := hv
  have hx := B.exec
  have hb := B.bytes
  have hr := B.returns
  have hts := atoms_spec (ws := wsX8_mostCases) B.pre
  have hown : s.vm.findClass RX8 = some m.cls := findClass_of_methodNamed B.named
  have hlocks := B.notSynchronized
  have hl := lv_entry ([.ref m0, .int 0, .int d, .int sec, .int wh]) (n := 8) (Nat.le_of_ble_eq_true rfl)
  rw [lg_entry_eq]
  generalize (lg_sl ([.ref m0, .int 0, .int d, .int sec, .int wh]) ++ List.replicate (8 - (lg_sl ([.ref m0, .int 0, .int d, .int sec, .int wh])).length) Slot.unset).toArray = ls at hl ⊢
  replace hl : lv_has ls 8 [(0, .ref m0), (1, .int 0), (2, .int d), (3, .int sec), (4, .int wh)] := hl
  refine lv_iload_n hx hb dX8_mostCases_0 rfl (lv_at hl 2 rfl) ?_
  refine lv_if_ne (tgt := 10) hx hb dX8_mostCases_1 (by decide) (fun c_1 => ?_) (fun c_1 => ?_)
  · have fc_1 : d.toInt ≠ 0 := zf_ne c_1 rfl (by decide)
    refine lv_iload_n hx hb dX8_mostCases_10 rfl (lv_at hl 1 rfl) ?_
    refine lv_if_ne (tgt := 16) hx hb dX8_mostCases_11 (by decide) (fun c_2 => ?_) (fun c_2 => ?_)
    · exact absurd c_2 (by decide)
    · refine lv_iconst (v := 0) hx hb dX8_mostCases_14 (by decide) ?_
      exact W.iret (v := 0) hx hb hr (fun t ht hW => ⟨0, rfl, ⟨by decide, by decide, (show (0 : Int32).toInt = (zM gki gpa gta npu.toInt.toNat nhu.toInt (if wh.toInt = 0 then 1 else 0) 0) d.toInt sec.toInt from by (have k9 : (0 : Int32).toInt = 0 := (by decide); rw [zM_0]; first | (rw [if_neg (by omega)]; omega) | (rw [if_pos (by omega)]; omega)))⟩, ht⟩) (fun q hq => by cases hq) dX8_mostCases_15
  · have fc_1 : d.toInt = 0 := zf_eq c_1 rfl (by decide)
    refine lv_aload_n hx hb dX8_mostCases_4 rfl (lv_at hl 0 rfl) ?_
    refine lv_iload_n hx hb dX8_mostCases_5 rfl (lv_at hl 1 rfl) ?_
    refine zc_V (As := [.int 0]) (rest := []) ⟨hx, hb, hml, hown, hts⟩ (c_M_power_0 l D cI cJ cZ cP cS po m0 mrf mki mpa mta mla msl mco mhe mso msi msh mce mca mwo mnu mte mwa mke mma mth mtr (npu) (nte) (nat_) (nde) (nto) (nse) (nhu) (nga) (nsd) (nfa) (nba) (npl) (nen) (nnu) (nwr) (nra) (nik) hy0 hy1 hy2 hy3 hy4 hy5 hy6 hy7 hy8 hy9 hy10 hy11 hy12 hy13) (cwV 1 hts gX8_mostCases_X8_power rfl rfl rfl ⟨rfl, dh_X8_power⟩ ⟨Nat.le_of_ble_eq_true rfl, Nat.le_of_ble_eq_true rfl⟩) hK hN hZ hP (hP.sub [0] rfl) (va_recv (q := (RX8, TX8, 38)) hK hP (ci := 8) (q0 := 0) rfl rfl) rfl hl.1 rfl (Nat.le_of_ble_eq_true rfl) dX8_mostCases_6 ⟨Nat.le_of_ble_eq_true rfl, Nat.le_of_ble_eq_true rfl⟩ (fun r_3 hr_3 => ?_)
    obtain rfl := hr_3
    exact W.iret (v := 1) hx hb hr (fun t ht hW => ⟨1, rfl, ⟨by decide, by decide, (show (1 : Int32).toInt = (zM gki gpa gta npu.toInt.toNat nhu.toInt (if wh.toInt = 0 then 1 else 0) 0) d.toInt sec.toInt from by (have k9 : (1 : Int32).toInt = 1 := (by decide); rw [zM_0]; first | (rw [if_pos (by omega)]; omega) | (rw [if_neg (by omega)]; omega)))⟩, ht⟩) (fun q hq => by cases hq) dX8_mostCases_9
set_option maxHeartbeats 4000000 in
set_option maxRecDepth 100000 in
theorem c_F_M_casesBy_1 (l : Launch) (D : va_G) (cI cJ cZ cP cS : ClassId) (po : zPool) (m0 mrf mki mpa mta mla msl mco mhe mso msi msh mce mca mwo mnu mte mwa mke mma mth mtr : Nat) (npu nte nat_ nde nto nse nhu nga nsd nfa nba npl nen nnu nwr nra nik : Int32) (gki gpa gta : Nat → Int32) (p_ d sec wh : Int32) (hy0 : 0 ≤ npu.toInt) (hy1 : npu.toInt ≤ 8) (hy2 : 4 ≤ nte.toInt) (hy3 : nte.toInt ≤ 40) (hy4 : 0 ≤ nat_.toInt) (hy5 : nat_.toInt ≤ 40) (hy6 : 0 ≤ nde.toInt) (hy7 : nde.toInt ≤ 24) (hy8 : 0 ≤ nhu.toInt) (hy9 : nhu.toInt ≤ 9) (hy10 : 0 ≤ nra.toInt) (hy11 : nra.toInt ≤ 2000) (hy12 : 0 ≤ nik.toInt) (hy13 : nik.toInt ≤ 1) (hy14 : 0 ≤ p_.toInt) (hy15 : p_.toInt ≤ 7) (hy16 : 0 ≤ d.toInt) (hy17 : d.toInt ≤ 24) (hy18 : 0 ≤ sec.toInt) (hy19 : sec.toInt ≤ 300) (hy20 : 0 ≤ wh.toInt) (hy21 : wh.toInt ≤ 1) (htl : (gta p_.toNatClampNeg).toInt ≤ sec.toInt) (hp_gki : zRg gki (0) 6) (hp_gpa : zRg gpa (0) 9) (hp_gta : zRg gta (0) 60) : Met l yX8_casesBy wsX8_casesBy ({ frames := 2, cells := 0, slots := 0, locals := 48 }) (va_Pc [.ref m0, .int p_, .int 1, .int d, .int sec, .int wh] (zR D (zKT cI cJ cZ cP cS) po [(zMO m0 npu nte nat_ nde nto nse nhu nga nsd nfa mrf mki mpa mta mla msl mco mhe mso msi msh mce mca mwo mnu mte nba npl nen nnu nwr mwa mke mma mth mtr nra nik), (mki, .inl (cI, 8, .inl gki)), (mpa, .inl (cI, 8, .inl gpa)), (mta, .inl (cI, 8, .inl gta))])) (vp_Si (fun r => 0 ≤ r.toInt ∧ r.toInt ≤ 12 ∧ (r.toInt = zBy1 (zM gki gpa gta npu.toInt.toNat nhu.toInt (if wh.toInt = 0 then 1 else 0) 0) (gki p_.toNatClampNeg).toInt (gpa p_.toNatClampNeg).toInt (gta p_.toNatClampNeg).toInt nhu.toInt d.toInt sec.toInt))) 0 0 (fun _ => False) := by
  refine Met.ofW (cc := cX8_casesBy) (maxL := 8) (ret := (some .int)) (by decide) rfl ?_
  intro p e s m args below meth c s₁ B hml hv
  obtain ⟨rfl, hP, hK, hN, hZ⟩ := hv
  have hx := B.exec
  have hb := B.bytes
  have hr := B.returns
  have hts := atoms_spec (ws := wsX8_casesBy) B.pre
  have hown : s.vm.findClass RX8 = some m.cls := findClass_of_methodNamed B.named
  have hlocks := B.notSynchronized
  have hl := lv_entry ([.ref m0, .int p_, .int 1, .int d, .int sec, .int wh]) (n := 8) (Nat.le_of_ble_eq_true rfl)
  rw [lg_entry_eq]
  generalize (lg_sl ([.ref m0, .int p_, .int 1, .int d, .int sec, .int wh]) ++ List.replicate (8 - (lg_sl ([.ref m0, .int p_, .int 1, .int d, .int sec, .int wh])).length) Slot.unset).toArray = ls at hl ⊢
  replace hl : lv_has ls 8 [(0, .ref m0), (1, .int p_), (2, .int 1), (3, .int d), (4, .int sec), (5, .int wh)] := hl
  refine lv_aload_n hx hb dX8_casesBy_0 rfl (lv_at hl 0 rfl) ?_
  refine lv_iload_n hx hb dX8_casesBy_1 rfl (lv_at hl 1 rfl) ?_
  refine lv_iload_n hx hb dX8_casesBy_2 rfl (lv_at hl 3 rfl) ?_
  refine zc_V (As := [.int p_, .int d]) (rest := []) ⟨hx, hb, hml, hown, hts⟩ (c_F_M_ways l D cI cJ cZ cP cS po m0 mrf mki mpa mta mla msl mco mhe mso msi msh mce mca mwo mnu mte mwa mke mma mth mtr (npu) (nte) (nat_) (nde) (nto) (nse) (nhu) (nga) (nsd) (nfa) (nba) (npl) (nen) (nnu) (nwr) (nra) (nik) gki gpa (p_) (d) hy0 hy1 hy2 hy3 hy4 hy5 hy6 hy7 hy8 hy9 hy10 hy11 hy12 hy13 hy14 hy15 hy16 hy17 hp_gki hp_gpa) (cwV 2 hts gX8_casesBy_X8_ways rfl rfl rfl ⟨rfl, dh_X8_ways⟩ ⟨Nat.le_of_ble_eq_true rfl, Nat.le_of_ble_eq_true rfl⟩) hK hN hZ hP (hP.sub [0, 1, 2] rfl) (va_recv (q := (RX8, TX8, 38)) hK hP (ci := 8) (q0 := 0) rfl rfl) rfl hl.1 rfl (Nat.le_of_ble_eq_true rfl) dX8_casesBy_3 ⟨Nat.le_of_ble_eq_true rfl, Nat.le_of_ble_eq_true rfl⟩ (fun r_1 hr_1 => ?_)
  obtain ⟨g_2, g_3, hsr_1_0⟩ := hr_1
  refine lv_istore (lv' := [(6, .int r_1), (0, .ref m0), (1, .int p_), (2, .int 1), (3, .int d), (4, .int sec), (5, .int wh)]) hx hb dX8_casesBy_6 hl (by decide) rfl (fun ls hl => ?_)
  refine lv_iload hx hb dX8_casesBy_8 (lv_at hl 0 rfl) ?_
  refine lv_if_ne (tgt := 17) hx hb dX8_casesBy_10 (by decide) (fun c_4 => ?_) (fun c_4 => ?_)
  · have fc_4 : r_1.toInt ≠ 0 := zf_ne c_4 rfl (by decide)
    refine lv_iload hx hb dX8_casesBy_17 (lv_at hl 0 rfl) ?_
    refine lv_aload_n hx hb dX8_casesBy_19 rfl (lv_at hl 1 rfl) ?_
    refine lv_iload_n hx hb dX8_casesBy_20 rfl (lv_at hl 3 rfl) ?_
    refine lv_iconst (v := 1) hx hb dX8_casesBy_21 (by decide) ?_
    refine lv_isub hx hb dX8_casesBy_22 ?_
    refine lv_topi (fun y_5 ey_5 => ?_)
    obtain rfl : y_5 = 0 := ey_5.trans (by decide)
    refine lv_aload_n hx hb dX8_casesBy_23 rfl (lv_at hl 1 rfl) ?_
    refine lv_iload_n hx hb dX8_casesBy_24 rfl (lv_at hl 2 rfl) ?_
    refine lv_iload_n hx hb dX8_casesBy_25 rfl (lv_at hl 4 rfl) ?_
    refine lv_iconst (v := 1) hx hb dX8_casesBy_26 (by decide) ?_
    have kc1 : (1 : Int32).toInt = 1 := by decide
    refine zc_V (As := [.int p_, .int d, .int 1]) (rest := [.int 0, .ref m0, .int r_1]) ⟨hx, hb, hml, hown, hts⟩ (c_F_M_deep l D cI cJ cZ cP cS po m0 mrf mki mpa mta mla msl mco mhe mso msi msh mce mca mwo mnu mte mwa mke mma mth mtr (npu) (nte) (nat_) (nde) (nto) (nse) (nhu) (nga) (nsd) (nfa) (nba) (npl) (nen) (nnu) (nwr) (nra) (nik) gki gpa (p_) (d) (1) hy0 hy1 hy2 hy3 hy4 hy5 hy6 hy7 hy8 hy9 hy10 hy11 hy12 hy13 hy14 hy15 hy16 hy17 (by omega) (by omega) hp_gki hp_gpa) (cwV 3 hts gX8_casesBy_X8_deep rfl rfl rfl ⟨rfl, dh_X8_deep⟩ ⟨Nat.le_of_ble_eq_true rfl, Nat.le_of_ble_eq_true rfl⟩) hK hN hZ hP (hP.sub [0, 1, 2] rfl) (va_recv (q := (RX8, TX8, 38)) hK hP (ci := 8) (q0 := 0) rfl rfl) rfl hl.1 rfl (Nat.le_of_ble_eq_true rfl) dX8_casesBy_27 ⟨Nat.le_of_ble_eq_true rfl, Nat.le_of_ble_eq_true rfl⟩ (fun r_6 hr_6 => ?_)
    obtain ⟨g_7, g_8, hsr_6_0⟩ := hr_6
    refine lv_iload hx hb dX8_casesBy_30 (lv_at hl 5 rfl) ?_
    refine lv_aload_n hx hb dX8_casesBy_32 rfl (lv_at hl 1 rfl) ?_
    refine va_get (D := D) (ci := 8) (v := .ref mta) (C := RX8) (T := TX8) (N := 38) hx hb hts hi_X8_casesBy_8 hown hK hP 0 rfl rfl 13 (by decide) (hts (.fieldLink RX8 35 "TheLiningsInItModel" "takes" "[I") (List.mem_of_getElem? (i := 1) rfl)) (fun _ h9 => h9) rfl dX8_casesBy_33 ?_
    refine lv_iload_n hx hb dX8_casesBy_36 rfl (lv_at hl 2 rfl) ?_
    refine va_iald hx hb hK hP 3 0 rfl rfl (zf_in (by omega) (by omega)) dX8_casesBy_37 ?_
    refine lv_topi (fun x_9 ex_9 => ?_)
    have bx_9 : 0 ≤ x_9.toInt ∧ x_9.toInt ≤ 60 := by rw [ex_9]; exact hp_gta _
    have htx_9 : x_9.toInt ≤ sec.toInt := by (rw [ex_9]; exact htl)
    refine lv_isub hx hb dX8_casesBy_38 ?_
    refine lv_topi (fun x_10 ex_10 => ?_)
    have qx_10 : x_10.toInt = sec.toInt - x_9.toInt := by rw [ex_10]; exact zf_sub rfl rfl (by omega) (by omega)
    refine lv_iload hx hb dX8_casesBy_39 (lv_at hl 6 rfl) ?_
    refine zc_V (As := [.int 0, .int r_6, .int x_10, .int wh]) (rest := [.int r_1]) ⟨hx, hb, hml, hown, hts⟩ (c_F_M_mostCases_0 l D cI cJ cZ cP cS po m0 mrf mki mpa mta mla msl mco mhe mso msi msh mce mca mwo mnu mte mwa mke mma mth mtr (npu) (nte) (nat_) (nde) (nto) (nse) (nhu) (nga) (nsd) (nfa) (nba) (npl) (nen) (nnu) (nwr) (nra) (nik) gki gpa gta (r_6) (x_10) (wh) hy0 hy1 hy2 hy3 hy4 hy5 hy6 hy7 hy8 hy9 hy10 hy11 hy12 hy13 (by omega) (by omega) (by omega) (by omega) hy20 hy21 hp_gki hp_gpa hp_gta) (cwV 4 hts gX8_casesBy_X8_mostCases rfl rfl rfl ⟨rfl, dh_X8_mostCases⟩ ⟨Nat.le_of_ble_eq_true rfl, Nat.le_of_ble_eq_true rfl⟩) hK hN hZ hP (hP.sub [0, 1, 2, 3] rfl) (va_recv (q := (RX8, TX8, 38)) hK hP (ci := 8) (q0 := 0) rfl rfl) rfl hl.1 rfl (Nat.le_of_ble_eq_true rfl) dX8_casesBy_41 ⟨Nat.le_of_ble_eq_true rfl, Nat.le_of_ble_eq_true rfl⟩ (fun r_11 hr_11 => ?_)
    obtain ⟨g_12, g_13, hsr_11_0⟩ := hr_11
    refine lv_imul hx hb dX8_casesBy_44 ?_
    refine lv_topi (fun x_14 ex_14 => ?_)
    obtain ⟨mx_14, nx_14, ox_14⟩ := zf_mulc (a := r_1) (b := r_11) (x := r_1.toInt) (y := r_11.toInt) (P := 1) rfl rfl ⟨by omega, by omega⟩ ⟨by omega, by omega⟩ (by decide)
    rw [← ex_14] at mx_14
    refine lv_istore (lv' := [(7, .int x_14), (6, .int r_1), (0, .ref m0), (1, .int p_), (2, .int 1), (3, .int d), (4, .int sec), (5, .int wh)]) hx hb dX8_casesBy_45 hl (by decide) rfl (fun ls hl => ?_)
    refine lv_iload hx hb dX8_casesBy_47 (lv_at hl 1 rfl) ?_
    refine lv_bipush (v := 12) hx hb dX8_casesBy_49 (by decide) ?_
    refine lv_icmp_ne (tgt := 59) hx hb dX8_casesBy_51 (by decide) (fun c_15 => ?_) (fun c_15 => ?_)
    · have fc_15 : r_1.toInt ≠ 12 := zf_ne c_15 rfl (by decide)
      refine lv_iload hx hb dX8_casesBy_59 (lv_at hl 0 rfl) ?_
      refine lv_bipush (v := 12) hx hb dX8_casesBy_61 (by decide) ?_
      refine lv_iload hx hb dX8_casesBy_63 (lv_at hl 1 rfl) ?_
      refine lv_isub hx hb dX8_casesBy_65 ?_
      refine lv_topi (fun x_16 ex_16 => ?_)
      have qx_16 : x_16.toInt = 12 - r_1.toInt := by rw [ex_16]; exact zf_sub (by decide) rfl (by omega) (by omega)
      refine lv_aload_n hx hb dX8_casesBy_66 rfl (lv_at hl 2 rfl) ?_
      refine lv_iload_n hx hb dX8_casesBy_67 rfl (lv_at hl 4 rfl) ?_
      refine lv_iconst (v := 1) hx hb dX8_casesBy_68 (by decide) ?_
      refine lv_isub hx hb dX8_casesBy_69 ?_
      refine lv_topi (fun y_17 ey_17 => ?_)
      obtain rfl : y_17 = 0 := ey_17.trans (by decide)
      refine lv_aload_n hx hb dX8_casesBy_70 rfl (lv_at hl 2 rfl) ?_
      refine lv_iload_n hx hb dX8_casesBy_71 rfl (lv_at hl 3 rfl) ?_
      refine lv_iload_n hx hb dX8_casesBy_72 rfl (lv_at hl 5 rfl) ?_
      refine lv_iconst (v := 0) hx hb dX8_casesBy_73 (by decide) ?_
      have kc0 : (0 : Int32).toInt = 0 := by decide
      refine zc_V (As := [.int p_, .int d, .int 0]) (rest := [.int 0, .ref m0, .int x_16, .int x_14]) ⟨hx, hb, hml, hown, hts⟩ (c_F_M_deep l D cI cJ cZ cP cS po m0 mrf mki mpa mta mla msl mco mhe mso msi msh mce mca mwo mnu mte mwa mke mma mth mtr (npu) (nte) (nat_) (nde) (nto) (nse) (nhu) (nga) (nsd) (nfa) (nba) (npl) (nen) (nnu) (nwr) (nra) (nik) gki gpa (p_) (d) (0) hy0 hy1 hy2 hy3 hy4 hy5 hy6 hy7 hy8 hy9 hy10 hy11 hy12 hy13 hy14 hy15 hy16 hy17 (by omega) (by omega) hp_gki hp_gpa) (cwV 3 hts gX8_casesBy_X8_deep rfl rfl rfl ⟨rfl, dh_X8_deep⟩ ⟨Nat.le_of_ble_eq_true rfl, Nat.le_of_ble_eq_true rfl⟩) hK hN hZ hP (hP.sub [0, 1, 2] rfl) (va_recv (q := (RX8, TX8, 38)) hK hP (ci := 8) (q0 := 0) rfl rfl) rfl hl.1 rfl (Nat.le_of_ble_eq_true rfl) dX8_casesBy_74 ⟨Nat.le_of_ble_eq_true rfl, Nat.le_of_ble_eq_true rfl⟩ (fun r_18 hr_18 => ?_)
      obtain ⟨g_19, g_20, hsr_18_0⟩ := hr_18
      refine lv_iload hx hb dX8_casesBy_77 (lv_at hl 6 rfl) ?_
      refine lv_aload_n hx hb dX8_casesBy_79 rfl (lv_at hl 2 rfl) ?_
      refine va_get (D := D) (ci := 8) (v := .ref mta) (C := RX8) (T := TX8) (N := 38) hx hb hts hi_X8_casesBy_8 hown hK hP 0 rfl rfl 13 (by decide) (hts (.fieldLink RX8 35 "TheLiningsInItModel" "takes" "[I") (List.mem_of_getElem? (i := 1) rfl)) (fun _ h9 => h9) rfl dX8_casesBy_80 ?_
      refine lv_iload_n hx hb dX8_casesBy_83 rfl (lv_at hl 3 rfl) ?_
      refine va_iald hx hb hK hP 3 0 rfl rfl (zf_in (by omega) (by omega)) dX8_casesBy_84 ?_
      refine lv_topi (fun y_21 ey_21 => ?_)
      obtain rfl : x_9 = y_21 := ex_9.trans ey_21.symm
      refine lv_isub hx hb dX8_casesBy_85 ?_
      refine lv_topi (fun y_22 ey_22 => ?_)
      obtain rfl : x_10 = y_22 := ex_10.trans ey_22.symm
      refine lv_iload hx hb dX8_casesBy_86 (lv_at hl 7 rfl) ?_
      refine zc_V (As := [.int 0, .int r_18, .int x_10, .int wh]) (rest := [.int x_16, .int x_14]) ⟨hx, hb, hml, hown, hts⟩ (c_F_M_mostCases_0 l D cI cJ cZ cP cS po m0 mrf mki mpa mta mla msl mco mhe mso msi msh mce mca mwo mnu mte mwa mke mma mth mtr (npu) (nte) (nat_) (nde) (nto) (nse) (nhu) (nga) (nsd) (nfa) (nba) (npl) (nen) (nnu) (nwr) (nra) (nik) gki gpa gta (r_18) (x_10) (wh) hy0 hy1 hy2 hy3 hy4 hy5 hy6 hy7 hy8 hy9 hy10 hy11 hy12 hy13 (by omega) (by omega) (by omega) (by omega) hy20 hy21 hp_gki hp_gpa hp_gta) (cwV 4 hts gX8_casesBy_X8_mostCases rfl rfl rfl ⟨rfl, dh_X8_mostCases⟩ ⟨Nat.le_of_ble_eq_true rfl, Nat.le_of_ble_eq_true rfl⟩) hK hN hZ hP (hP.sub [0, 1, 2, 3] rfl) (va_recv (q := (RX8, TX8, 38)) hK hP (ci := 8) (q0 := 0) rfl rfl) rfl hl.1 rfl (Nat.le_of_ble_eq_true rfl) dX8_casesBy_88 ⟨Nat.le_of_ble_eq_true rfl, Nat.le_of_ble_eq_true rfl⟩ (fun r_23 hr_23 => ?_)
      obtain ⟨g_24, g_25, hsr_23_0⟩ := hr_23
      refine lv_imul hx hb dX8_casesBy_91 ?_
      refine lv_topi (fun x_26 ex_26 => ?_)
      obtain ⟨mx_26, nx_26, ox_26⟩ := zf_mulc (a := x_16) (b := r_23) (x := x_16.toInt) (y := r_23.toInt) (P := 1) rfl rfl ⟨by omega, by omega⟩ ⟨by omega, by omega⟩ (by decide)
      rw [← ex_26] at mx_26
      refine lv_iadd hx hb dX8_casesBy_92 ?_
      refine lv_topi (fun x_27 ex_27 => ?_)
      have qx_27 : x_27.toInt = x_14.toInt + x_26.toInt := by rw [ex_27]; exact zf_add rfl rfl (by omega) (by omega)
      have hmx9 := zMix (w := r_1.toInt) (x := r_11.toInt) (y := r_23.toInt) (P := 1) ⟨by omega, by omega⟩ ⟨by omega, by omega⟩ ⟨by omega, by omega⟩
      rw [show 12 - r_1.toInt = x_16.toInt from by omega] at hmx9
      exact W.iret (v := x_27) hx hb hr (fun t ht hW => ⟨x_27, rfl, ⟨by omega, by omega, (show (x_27 : Int32).toInt = zBy1 (zM gki gpa gta npu.toInt.toNat nhu.toInt (if wh.toInt = 0 then 1 else 0) 0) (gki p_.toNatClampNeg).toInt (gpa p_.toNatClampNeg).toInt (gta p_.toNatClampNeg).toInt nhu.toInt d.toInt sec.toInt from by (have zw := hsr_1_0; have E1 : r_1.toInt * (zM gki gpa gta npu.toInt.toNat nhu.toInt (if wh.toInt = 0 then 1 else 0) 0) (zShl (gki p_.toNatClampNeg).toInt (gpa p_.toNatClampNeg).toInt d.toInt) (sec.toInt - (gta p_.toNatClampNeg).toInt) = x_14.toInt := (by rw [← hsr_6_0.1 (by decide), show sec.toInt - (gta p_.toNatClampNeg).toInt = (x_10 : Int32).toInt from by (have z : (gta p_.toNatClampNeg).toInt = x_9.toInt := (by rw [ex_9]); omega), ← hsr_11_0]; omega); have E2 : (12 - r_1.toInt) * (zM gki gpa gta npu.toInt.toNat nhu.toInt (if wh.toInt = 0 then 1 else 0) 0) (zDpr (gki p_.toNatClampNeg).toInt (gpa p_.toNatClampNeg).toInt nhu.toInt d.toInt) (sec.toInt - (gta p_.toNatClampNeg).toInt) = x_26.toInt := (by rw [← hsr_18_0.2 (by decide), show sec.toInt - (gta p_.toNatClampNeg).toInt = (x_10 : Int32).toInt from by (have z : (gta p_.toNatClampNeg).toInt = x_9.toInt := (by rw [ex_9]); omega), ← hsr_23_0, show 12 - r_1.toInt = x_16.toInt from by omega]; omega); unfold zBy1; rw [← zw, E1, E2]; omega))⟩, ht⟩) (fun q hq => by cases hq) dX8_casesBy_93
    · have fc_15 : r_1.toInt = 12 := zf_eq c_15 rfl (by decide)
      refine lv_iload hx hb dX8_casesBy_54 (lv_at hl 0 rfl) ?_
      refine lv_goto (tgt := 93) hx hb dX8_casesBy_56 (by decide) ?_
      exact W.iret (v := x_14) hx hb hr (fun t ht hW => ⟨x_14, rfl, ⟨by omega, by omega, (show (x_14 : Int32).toInt = zBy1 (zM gki gpa gta npu.toInt.toNat nhu.toInt (if wh.toInt = 0 then 1 else 0) 0) (gki p_.toNatClampNeg).toInt (gpa p_.toNatClampNeg).toInt (gta p_.toNatClampNeg).toInt nhu.toInt d.toInt sec.toInt from by (have zw := hsr_1_0; have E1 : r_1.toInt * (zM gki gpa gta npu.toInt.toNat nhu.toInt (if wh.toInt = 0 then 1 else 0) 0) (zShl (gki p_.toNatClampNeg).toInt (gpa p_.toNatClampNeg).toInt d.toInt) (sec.toInt - (gta p_.toNatClampNeg).toInt) = x_14.toInt := (by rw [← hsr_6_0.1 (by decide), show sec.toInt - (gta p_.toNatClampNeg).toInt = (x_10 : Int32).toInt from by (have z : (gta p_.toNatClampNeg).toInt = x_9.toInt := (by rw [ex_9]); omega), ← hsr_11_0]; omega); have E2 : (12 - r_1.toInt) * (zM gki gpa gta npu.toInt.toNat nhu.toInt (if wh.toInt = 0 then 1 else 0) 0) (zDpr (gki p_.toNatClampNeg).toInt (gpa p_.toNatClampNeg).toInt nhu.toInt d.toInt) (sec.toInt - (gta p_.toNatClampNeg).toInt) = 0 := (by rw [show 12 - r_1.toInt = 0 from by omega, Int.zero_mul]); unfold zBy1; rw [← zw, E1, E2]; omega))⟩, ht⟩) (fun q hq => by cases hq) dX8_casesBy_93
  · have fc_4 : r_1.toInt = 0 := zf_eq c_4 rfl (by decide)
    refine lv_iconst (v := 0) hx hb dX8_casesBy_13 (by decide) ?_
    refine lv_goto (tgt := 45) hx hb dX8_casesBy_14 (by decide) ?_
    refine lv_istore (lv' := [(7, .int 0), (6, .int r_1), (0, .ref m0), (1, .int p_), (2, .int 1), (3, .int d), (4, .int sec), (5, .int wh)]) hx hb dX8_casesBy_45 hl (by decide) rfl (fun ls hl => ?_)
    refine lv_iload hx hb dX8_casesBy_47 (lv_at hl 1 rfl) ?_
    refine lv_bipush (v := 12) hx hb dX8_casesBy_49 (by decide) ?_
    refine lv_icmp_ne (tgt := 59) hx hb dX8_casesBy_51 (by decide) (fun c_28 => ?_) (fun c_28 => ?_)
    · have fc_28 : r_1.toInt ≠ 12 := zf_ne c_28 rfl (by decide)
      refine lv_iload hx hb dX8_casesBy_59 (lv_at hl 0 rfl) ?_
      refine lv_bipush (v := 12) hx hb dX8_casesBy_61 (by decide) ?_
      refine lv_iload hx hb dX8_casesBy_63 (lv_at hl 1 rfl) ?_
      refine lv_isub hx hb dX8_casesBy_65 ?_
      refine lv_topi (fun x_29 ex_29 => ?_)
      have qx_29 : x_29.toInt = 12 - r_1.toInt := by rw [ex_29]; exact zf_sub (by decide) rfl (by omega) (by omega)
      refine lv_aload_n hx hb dX8_casesBy_66 rfl (lv_at hl 2 rfl) ?_
      refine lv_iload_n hx hb dX8_casesBy_67 rfl (lv_at hl 4 rfl) ?_
      refine lv_iconst (v := 1) hx hb dX8_casesBy_68 (by decide) ?_
      refine lv_isub hx hb dX8_casesBy_69 ?_
      refine lv_topi (fun y_30 ey_30 => ?_)
      obtain rfl : y_30 = 0 := ey_30.trans (by decide)
      refine lv_aload_n hx hb dX8_casesBy_70 rfl (lv_at hl 2 rfl) ?_
      refine lv_iload_n hx hb dX8_casesBy_71 rfl (lv_at hl 3 rfl) ?_
      refine lv_iload_n hx hb dX8_casesBy_72 rfl (lv_at hl 5 rfl) ?_
      refine lv_iconst (v := 0) hx hb dX8_casesBy_73 (by decide) ?_
      have kc0 : (0 : Int32).toInt = 0 := by decide
      refine zc_V (As := [.int p_, .int d, .int 0]) (rest := [.int 0, .ref m0, .int x_29, .int 0]) ⟨hx, hb, hml, hown, hts⟩ (c_F_M_deep l D cI cJ cZ cP cS po m0 mrf mki mpa mta mla msl mco mhe mso msi msh mce mca mwo mnu mte mwa mke mma mth mtr (npu) (nte) (nat_) (nde) (nto) (nse) (nhu) (nga) (nsd) (nfa) (nba) (npl) (nen) (nnu) (nwr) (nra) (nik) gki gpa (p_) (d) (0) hy0 hy1 hy2 hy3 hy4 hy5 hy6 hy7 hy8 hy9 hy10 hy11 hy12 hy13 hy14 hy15 hy16 hy17 (by omega) (by omega) hp_gki hp_gpa) (cwV 3 hts gX8_casesBy_X8_deep rfl rfl rfl ⟨rfl, dh_X8_deep⟩ ⟨Nat.le_of_ble_eq_true rfl, Nat.le_of_ble_eq_true rfl⟩) hK hN hZ hP (hP.sub [0, 1, 2] rfl) (va_recv (q := (RX8, TX8, 38)) hK hP (ci := 8) (q0 := 0) rfl rfl) rfl hl.1 rfl (Nat.le_of_ble_eq_true rfl) dX8_casesBy_74 ⟨Nat.le_of_ble_eq_true rfl, Nat.le_of_ble_eq_true rfl⟩ (fun r_31 hr_31 => ?_)
      obtain ⟨g_32, g_33, hsr_31_0⟩ := hr_31
      refine lv_iload hx hb dX8_casesBy_77 (lv_at hl 6 rfl) ?_
      refine lv_aload_n hx hb dX8_casesBy_79 rfl (lv_at hl 2 rfl) ?_
      refine va_get (D := D) (ci := 8) (v := .ref mta) (C := RX8) (T := TX8) (N := 38) hx hb hts hi_X8_casesBy_8 hown hK hP 0 rfl rfl 13 (by decide) (hts (.fieldLink RX8 35 "TheLiningsInItModel" "takes" "[I") (List.mem_of_getElem? (i := 1) rfl)) (fun _ h9 => h9) rfl dX8_casesBy_80 ?_
      refine lv_iload_n hx hb dX8_casesBy_83 rfl (lv_at hl 3 rfl) ?_
      refine va_iald hx hb hK hP 3 0 rfl rfl (zf_in (by omega) (by omega)) dX8_casesBy_84 ?_
      refine lv_topi (fun x_34 ex_34 => ?_)
      have bx_34 : 0 ≤ x_34.toInt ∧ x_34.toInt ≤ 60 := by rw [ex_34]; exact hp_gta _
      have htx_34 : x_34.toInt ≤ sec.toInt := by (rw [ex_34]; exact htl)
      refine lv_isub hx hb dX8_casesBy_85 ?_
      refine lv_topi (fun x_35 ex_35 => ?_)
      have qx_35 : x_35.toInt = sec.toInt - x_34.toInt := by rw [ex_35]; exact zf_sub rfl rfl (by omega) (by omega)
      refine lv_iload hx hb dX8_casesBy_86 (lv_at hl 7 rfl) ?_
      refine zc_V (As := [.int 0, .int r_31, .int x_35, .int wh]) (rest := [.int x_29, .int 0]) ⟨hx, hb, hml, hown, hts⟩ (c_F_M_mostCases_0 l D cI cJ cZ cP cS po m0 mrf mki mpa mta mla msl mco mhe mso msi msh mce mca mwo mnu mte mwa mke mma mth mtr (npu) (nte) (nat_) (nde) (nto) (nse) (nhu) (nga) (nsd) (nfa) (nba) (npl) (nen) (nnu) (nwr) (nra) (nik) gki gpa gta (r_31) (x_35) (wh) hy0 hy1 hy2 hy3 hy4 hy5 hy6 hy7 hy8 hy9 hy10 hy11 hy12 hy13 (by omega) (by omega) (by omega) (by omega) hy20 hy21 hp_gki hp_gpa hp_gta) (cwV 4 hts gX8_casesBy_X8_mostCases rfl rfl rfl ⟨rfl, dh_X8_mostCases⟩ ⟨Nat.le_of_ble_eq_true rfl, Nat.le_of_ble_eq_true rfl⟩) hK hN hZ hP (hP.sub [0, 1, 2, 3] rfl) (va_recv (q := (RX8, TX8, 38)) hK hP (ci := 8) (q0 := 0) rfl rfl) rfl hl.1 rfl (Nat.le_of_ble_eq_true rfl) dX8_casesBy_88 ⟨Nat.le_of_ble_eq_true rfl, Nat.le_of_ble_eq_true rfl⟩ (fun r_36 hr_36 => ?_)
      obtain ⟨g_37, g_38, hsr_36_0⟩ := hr_36
      refine lv_imul hx hb dX8_casesBy_91 ?_
      refine lv_topi (fun x_39 ex_39 => ?_)
      obtain ⟨mx_39, nx_39, ox_39⟩ := zf_mulc (a := x_29) (b := r_36) (x := x_29.toInt) (y := r_36.toInt) (P := 1) rfl rfl ⟨by omega, by omega⟩ ⟨by omega, by omega⟩ (by decide)
      rw [← ex_39] at mx_39
      refine lv_iadd hx hb dX8_casesBy_92 ?_
      refine lv_topi (fun x_40 ex_40 => ?_)
      have qx_40 : x_40.toInt = 0 + x_39.toInt := by rw [ex_40]; exact zf_add (by decide) rfl (by omega) (by omega)
      exact W.iret (v := x_40) hx hb hr (fun t ht hW => ⟨x_40, rfl, ⟨by omega, by omega, (show (x_40 : Int32).toInt = zBy1 (zM gki gpa gta npu.toInt.toNat nhu.toInt (if wh.toInt = 0 then 1 else 0) 0) (gki p_.toNatClampNeg).toInt (gpa p_.toNatClampNeg).toInt (gta p_.toNatClampNeg).toInt nhu.toInt d.toInt sec.toInt from by (have zw := hsr_1_0; have E1 : r_1.toInt * (zM gki gpa gta npu.toInt.toNat nhu.toInt (if wh.toInt = 0 then 1 else 0) 0) (zShl (gki p_.toNatClampNeg).toInt (gpa p_.toNatClampNeg).toInt d.toInt) (sec.toInt - (gta p_.toNatClampNeg).toInt) = 0 := (by rw [show r_1.toInt = 0 from by omega, Int.zero_mul]); have E2 : (12 - r_1.toInt) * (zM gki gpa gta npu.toInt.toNat nhu.toInt (if wh.toInt = 0 then 1 else 0) 0) (zDpr (gki p_.toNatClampNeg).toInt (gpa p_.toNatClampNeg).toInt nhu.toInt d.toInt) (sec.toInt - (gta p_.toNatClampNeg).toInt) = x_39.toInt := (by rw [← hsr_31_0.2 (by decide), show sec.toInt - (gta p_.toNatClampNeg).toInt = (x_35 : Int32).toInt from by (have z : (gta p_.toNatClampNeg).toInt = x_34.toInt := (by rw [ex_34]); omega), ← hsr_36_0, show 12 - r_1.toInt = x_29.toInt from by omega]; omega); unfold zBy1; rw [← zw, E1, E2]; omega))⟩, ht⟩) (fun q hq => by cases hq) dX8_casesBy_93
    · exfalso; have fc_28 : r_1.toInt = 12 := zf_eq c_28 rfl (by decide); omega
set_option maxHeartbeats 4000000 in
set_option maxRecDepth 100000 in
theorem c_F_M_mostCases_1 (l : Launch) (D : va_G) (cI cJ cZ cP cS : ClassId) (po : zPool) (m0 mrf mki mpa mta mla msl mco mhe mso msi msh mce mca mwo mnu mte mwa mke mma mth mtr : Nat) (npu nte nat_ nde nto nse nhu nga nsd nfa nba npl nen nnu nwr nra nik : Int32) (gki gpa gta : Nat → Int32) (d sec wh : Int32) (hy0 : 0 ≤ npu.toInt) (hy1 : npu.toInt ≤ 8) (hy2 : 4 ≤ nte.toInt) (hy3 : nte.toInt ≤ 40) (hy4 : 0 ≤ nat_.toInt) (hy5 : nat_.toInt ≤ 40) (hy6 : 0 ≤ nde.toInt) (hy7 : nde.toInt ≤ 24) (hy8 : 0 ≤ nhu.toInt) (hy9 : nhu.toInt ≤ 9) (hy10 : 0 ≤ nra.toInt) (hy11 : nra.toInt ≤ 2000) (hy12 : 0 ≤ nik.toInt) (hy13 : nik.toInt ≤ 1) (hy14 : 0 ≤ d.toInt) (hy15 : d.toInt ≤ 24) (hy16 : 0 ≤ sec.toInt) (hy17 : sec.toInt ≤ 300) (hy18 : 0 ≤ wh.toInt) (hy19 : wh.toInt ≤ 1) (hp_gki : zRg gki (0) 6) (hp_gpa : zRg gpa (0) 9) (hp_gta : zRg gta (0) 60) : Met l yX8_mostCases wsX8_mostCases ({ frames := 3, cells := 0, slots := 0, locals := 75 }) (va_Pc [.ref m0, .int 1, .int d, .int sec, .int wh] (zR D (zKT cI cJ cZ cP cS) po [(zMO m0 npu nte nat_ nde nto nse nhu nga nsd nfa mrf mki mpa mta mla msl mco mhe mso msi msh mce mca mwo mnu mte nba npl nen nnu nwr mwa mke mma mth mtr nra nik), (mki, .inl (cI, 8, .inl gki)), (mpa, .inl (cI, 8, .inl gpa)), (mta, .inl (cI, 8, .inl gta))])) (vp_Si (fun r => 0 ≤ r.toInt ∧ r.toInt ≤ 12 ∧ (r.toInt = (zM gki gpa gta npu.toInt.toNat nhu.toInt (if wh.toInt = 0 then 1 else 0) 1) d.toInt sec.toInt))) 0 0 (fun _ => False) := by
  refine Met.ofW (cc := cX8_mostCases) (maxL := 8) (ret := (some .int)) (by decide) rfl ?_
  intro p e s m args below meth c s₁ B hml hv
  obtain ⟨rfl, hP, hK, hN, hZ⟩ := hv
  have hx := B.exec
  have hb := B.bytes
  have hr := B.returns
  have hts := atoms_spec (ws := wsX8_mostCases) B.pre
  have hown : s.vm.findClass RX8 = some m.cls := findClass_of_methodNamed B.named
  have hlocks := B.notSynchronized
  have hl := lv_entry ([.ref m0, .int 1, .int d, .int sec, .int wh]) (n := 8) (Nat.le_of_ble_eq_true rfl)
  rw [lg_entry_eq]
  generalize (lg_sl ([.ref m0, .int 1, .int d, .int sec, .int wh]) ++ List.replicate (8 - (lg_sl ([.ref m0, .int 1, .int d, .int sec, .int wh])).length) Slot.unset).toArray = ls at hl ⊢
  replace hl : lv_has ls 8 [(0, .ref m0), (1, .int 1), (2, .int d), (3, .int sec), (4, .int wh)] := hl
  refine lv_iload_n hx hb dX8_mostCases_0 rfl (lv_at hl 2 rfl) ?_
  refine lv_if_ne (tgt := 10) hx hb dX8_mostCases_1 (by decide) (fun c_1 => ?_) (fun c_1 => ?_)
  · have fc_1 : d.toInt ≠ 0 := zf_ne c_1 rfl (by decide)
    refine lv_iload_n hx hb dX8_mostCases_10 rfl (lv_at hl 1 rfl) ?_
    refine lv_if_ne (tgt := 16) hx hb dX8_mostCases_11 (by decide) (fun c_2 => ?_) (fun c_2 => ?_)
    · refine lv_bipush (v := 12) hx hb dX8_mostCases_16 (by decide) ?_
      refine lv_aload_n hx hb dX8_mostCases_18 rfl (lv_at hl 0 rfl) ?_
      refine lv_iload_n hx hb dX8_mostCases_19 rfl (lv_at hl 1 rfl) ?_
      refine lv_iconst (v := 1) hx hb dX8_mostCases_20 (by decide) ?_
      refine lv_isub hx hb dX8_mostCases_21 ?_
      refine lv_topi (fun y_3 ey_3 => ?_)
      obtain rfl : y_3 = 0 := ey_3.trans (by decide)
      refine lv_iload_n hx hb dX8_mostCases_22 rfl (lv_at hl 2 rfl) ?_
      refine lv_iload_n hx hb dX8_mostCases_23 rfl (lv_at hl 3 rfl) ?_
      refine lv_iload hx hb dX8_mostCases_24 (lv_at hl 4 rfl) ?_
      refine zc_V (As := [.int 0, .int d, .int sec, .int wh]) (rest := [.int 12]) ⟨hx, hb, hml, hown, hts⟩ (c_F_M_mostCases_0 l D cI cJ cZ cP cS po m0 mrf mki mpa mta mla msl mco mhe mso msi msh mce mca mwo mnu mte mwa mke mma mth mtr (npu) (nte) (nat_) (nde) (nto) (nse) (nhu) (nga) (nsd) (nfa) (nba) (npl) (nen) (nnu) (nwr) (nra) (nik) gki gpa gta (d) (sec) (wh) hy0 hy1 hy2 hy3 hy4 hy5 hy6 hy7 hy8 hy9 hy10 hy11 hy12 hy13 hy14 hy15 hy16 hy17 hy18 hy19 hp_gki hp_gpa hp_gta) (cwV 4 hts gX8_mostCases_X8_mostCases rfl rfl rfl ⟨rfl, dh_X8_mostCases⟩ ⟨Nat.le_of_ble_eq_true rfl, Nat.le_of_ble_eq_true rfl⟩) hK hN hZ hP (hP.sub [0, 1, 2, 3] rfl) (va_recv (q := (RX8, TX8, 38)) hK hP (ci := 8) (q0 := 0) rfl rfl) rfl hl.1 rfl (Nat.le_of_ble_eq_true rfl) dX8_mostCases_26 ⟨Nat.le_of_ble_eq_true rfl, Nat.le_of_ble_eq_true rfl⟩ (fun r_4 hr_4 => ?_)
      obtain ⟨g_5, g_6, hsr_4_0⟩ := hr_4
      refine lv_imul hx hb dX8_mostCases_29 ?_
      refine lv_topi (fun x_7 ex_7 => ?_)
      have qx_7 : x_7.toInt = 12 * r_4.toInt := by rw [ex_7]; exact zf_mul (by decide) rfl (by omega) (by omega)
      refine lv_istore (lv' := [(5, .int x_7), (0, .ref m0), (1, .int 1), (2, .int d), (3, .int sec), (4, .int wh)]) hx hb dX8_mostCases_30 hl (by decide) rfl (fun ls hl => ?_)
      refine lv_iconst (v := 0) hx hb dX8_mostCases_32 (by decide) ?_
      refine lv_istore (lv' := [(6, .int 0), (5, .int x_7), (0, .ref m0), (1, .int 1), (2, .int d), (3, .int sec), (4, .int wh)]) hx hb dX8_mostCases_33 hl (by decide) rfl (fun ls hl => ?_)
      obtain ⟨i_35, hi_35⟩ : ∃ i : Int32, i = 0 := ⟨_, rfl⟩
      replace hl : lv_has ls 8 [(6, .int i_35), (5, .int x_7), (0, .ref m0), (1, .int 1), (2, .int d), (3, .int sec), (4, .int wh)] := by rw [hi_35]; exact lv_sub hl [0, 1, 2, 3, 4, 5, 6] rfl
      have h1i_35 : i_35.toInt = 0 := by rw [hi_35]; decide
      obtain ⟨nfu, hni_35⟩ : ∃ nq9 : Nat, npu.toInt ≤ i_35.toInt + (nq9 : Int) := ⟨((npu.toInt : Int) - 0).toNat, by omega⟩
      have hloi_35 : 0 ≤ i_35.toInt := by omega
      obtain ⟨v_8, hv_8⟩ : ∃ g : Int32, g = x_7 := ⟨_, rfl⟩
      replace hl : lv_has ls 8 [(6, .int i_35), (5, .int v_8), (0, .ref m0), (1, .int 1), (2, .int d), (3, .int sec), (4, .int wh)] := by rw [hv_8]; exact hl
      have hbv_8 : 0 ≤ v_8.toInt ∧ v_8.toInt ≤ 12 := by rw [hv_8]; exact ⟨by omega, by omega⟩
      have hvi_35_0 : (v_8 : Int32).toInt = zFo gki gta (if wh.toInt = 0 then 1 else 0) d.toInt sec.toInt (12 * (zM gki gpa gta npu.toInt.toNat nhu.toInt (if wh.toInt = 0 then 1 else 0) 0) d.toInt sec.toInt) (zBy (zM gki gpa gta npu.toInt.toNat nhu.toInt (if wh.toInt = 0 then 1 else 0) 0) gki gpa gta nhu.toInt d.toInt sec.toInt) i_35.toInt.toNat := by
        (try rw [hi_35]); (try rw [hv_8]); (rw [(show ((0 : Int32).toInt.toNat) = 0 from by decide)]; have z := hsr_4_0; show _ = 12 * (zM gki gpa gta npu.toInt.toNat nhu.toInt (if wh.toInt = 0 then 1 else 0) 0) d.toInt sec.toInt; rw [← z]; omega)
      have hvi_35_1 : i_35.toInt ≤ npu.toInt := by
        (try rw [hi_35]); (try rw [hv_8]); (have k0 : (0 : Int32).toInt = 0 := (by decide); omega)
      clear h1i_35 hi_35 hv_8
      revert hni_35
      revert hloi_35
      revert hvi_35_1
      revert hvi_35_0
      revert hbv_8
      revert hl
      revert ls
      revert v_8
      revert i_35
      induction nfu with
      | zero =>
        intro i_35 v_8 ls hl hbv_8 hvi_35_0 hvi_35_1 hloi_35 hni_35
        have hzi_35 : npu.toInt ≤ i_35.toInt := by omega
        refine lv_iload hx hb dX8_mostCases_35 (lv_at hl 0 rfl) ?_
        refine lv_aload_n hx hb dX8_mostCases_37 rfl (lv_at hl 2 rfl) ?_
        refine va_get (D := D) (ci := 8) (v := .int npu) (C := RX8) (T := TX8) (N := 38) hx hb hts hi_X8_mostCases_8 hown hK hP 0 rfl rfl 0 (by decide) (hts (.fieldLink RX8 90 "TheLiningsInItModel" "pulls" "I") (List.mem_of_getElem? (i := 1) rfl)) (fun _ h9 => h9) rfl dX8_mostCases_38 ?_
        refine lv_icmp_ge (tgt := 109) hx hb dX8_mostCases_41 (by decide) (fun c_9 => ?_) (fun c_9 => ?_)
        · have fc_9 : npu.toInt ≤ i_35.toInt := zf_le c_9 rfl rfl
          refine lv_iload hx hb dX8_mostCases_109 (lv_at hl 1 rfl) ?_
          exact W.iret (v := v_8) hx hb hr (fun t ht hW => ⟨v_8, rfl, ⟨by omega, by omega, (show (v_8 : Int32).toInt = (zM gki gpa gta npu.toInt.toNat nhu.toInt (if wh.toInt = 0 then 1 else 0) 1) d.toInt sec.toInt from by (have h9 : i_35.toInt.toNat = npu.toInt.toNat := (by omega); have z := hvi_35_0; rw [h9, zM_ref (by omega)] at z; exact z))⟩, ht⟩) (fun q hq => by cases hq) dX8_mostCases_111
        · exfalso; have fc_9 : i_35.toInt < npu.toInt := zf_nle c_9 rfl rfl; omega
      | succ nfu ih =>
        intro i_35 v_8 ls hl hbv_8 hvi_35_0 hvi_35_1 hloi_35 hni_35
        refine lv_iload hx hb dX8_mostCases_35 (lv_at hl 0 rfl) ?_
        refine lv_aload_n hx hb dX8_mostCases_37 rfl (lv_at hl 2 rfl) ?_
        refine va_get (D := D) (ci := 8) (v := .int npu) (C := RX8) (T := TX8) (N := 38) hx hb hts hi_X8_mostCases_8 hown hK hP 0 rfl rfl 0 (by decide) (hts (.fieldLink RX8 90 "TheLiningsInItModel" "pulls" "I") (List.mem_of_getElem? (i := 1) rfl)) (fun _ h9 => h9) rfl dX8_mostCases_38 ?_
        refine lv_icmp_ge (tgt := 109) hx hb dX8_mostCases_41 (by decide) (fun c_10 => ?_) (fun c_10 => ?_)
        · have fc_10 : npu.toInt ≤ i_35.toInt := zf_le c_10 rfl rfl
          refine lv_iload hx hb dX8_mostCases_109 (lv_at hl 1 rfl) ?_
          exact W.iret (v := v_8) hx hb hr (fun t ht hW => ⟨v_8, rfl, ⟨by omega, by omega, (show (v_8 : Int32).toInt = (zM gki gpa gta npu.toInt.toNat nhu.toInt (if wh.toInt = 0 then 1 else 0) 1) d.toInt sec.toInt from by (have h9 : i_35.toInt.toNat = npu.toInt.toNat := (by omega); have z := hvi_35_0; rw [h9, zM_ref (by omega)] at z; exact z))⟩, ht⟩) (fun q hq => by cases hq) dX8_mostCases_111
        · have fc_10 : i_35.toInt < npu.toInt := zf_nle c_10 rfl rfl
          refine lv_aload_n hx hb dX8_mostCases_44 rfl (lv_at hl 2 rfl) ?_
          refine lv_iload hx hb dX8_mostCases_45 (lv_at hl 0 rfl) ?_
          refine lv_iload_n hx hb dX8_mostCases_47 rfl (lv_at hl 4 rfl) ?_
          refine lv_iload_n hx hb dX8_mostCases_48 rfl (lv_at hl 5 rfl) ?_
          refine zc_V (As := [.int i_35, .int d, .int sec]) (rest := []) ⟨hx, hb, hml, hown, hts⟩ (c_F_M_mayBe l D cI cJ cZ cP cS po m0 mrf mki mpa mta mla msl mco mhe mso msi msh mce mca mwo mnu mte mwa mke mma mth mtr (npu) (nte) (nat_) (nde) (nto) (nse) (nhu) (nga) (nsd) (nfa) (nba) (npl) (nen) (nnu) (nwr) (nra) (nik) gta (i_35) (d) (sec) hy0 hy1 hy2 hy3 hy4 hy5 hy6 hy7 hy8 hy9 hy10 hy11 hy12 hy13 (by omega) (by omega) hp_gta) (cwV 3 hts gX8_mostCases_X8_mayBe rfl rfl rfl ⟨rfl, dh_X8_mayBe⟩ ⟨Nat.le_of_ble_eq_true rfl, Nat.le_of_ble_eq_true rfl⟩) hK hN hZ hP (hP.sub [0, 3] rfl) (va_recv (q := (RX8, TX8, 38)) hK hP (ci := 8) (q0 := 0) rfl rfl) rfl hl.1 rfl (Nat.le_of_ble_eq_true rfl) dX8_mostCases_49 ⟨Nat.le_of_ble_eq_true rfl, Nat.le_of_ble_eq_true rfl⟩ (fun r_11 hr_11 => ?_)
          obtain ⟨g_12, g_13, hsr_11_0⟩ := hr_11
          refine lv_if_eq (tgt := 103) hx hb dX8_mostCases_52 (by decide) (fun c_14 => ?_) (fun c_14 => ?_)
          · have fc_14 : r_11.toInt = 0 := zf_eq c_14 rfl (by decide)
            obtain ⟨x_15, ex_15⟩ : ∃ y : Int32, y = i_35 + 1 := ⟨_, rfl⟩
            have qx_15 : x_15.toInt = i_35.toInt + 1 := dw_inc ex_15 fc_10
            refine lv_iinc (v := x_15) (lv' := [(6, .int x_15), (5, .int v_8), (0, .ref m0), (1, .int 1), (2, .int d), (3, .int sec), (4, .int wh)]) hx hb dX8_mostCases_103 hl (k := 0) rfl ex_15.symm (by decide) rfl (fun ls hl => ?_)
            refine lv_goto (tgt := 35) hx hb dX8_mostCases_106 (by decide) ?_
            exact ih x_15 v_8 _ (lv_sub hl [0, 1, 2, 3, 4, 5, 6] rfl) hbv_8 (show (v_8 : Int32).toInt = zFo gki gta (if wh.toInt = 0 then 1 else 0) d.toInt sec.toInt (12 * (zM gki gpa gta npu.toInt.toNat nhu.toInt (if wh.toInt = 0 then 1 else 0) 0) d.toInt sec.toInt) (zBy (zM gki gpa gta npu.toInt.toNat nhu.toInt (if wh.toInt = 0 then 1 else 0) 0) gki gpa gta nhu.toInt d.toInt sec.toInt) x_15.toInt.toNat from by (have hx : x_15.toInt.toNat = i_35.toInt.toNat + 1 := (by omega); have y9 : i_35.toNatClampNeg = i_35.toInt.toNat := rfl; have hm := hsr_11_0; rw [y9] at hm; have no : ¬ zOk gki gta (if wh.toInt = 0 then 1 else 0) d.toInt sec.toInt i_35.toInt.toNat := (fun z => by first | (have z1 := hm.mpr ⟨z.1, z.2.1⟩; omega) | (have z3 := z.2.2; rw [if_neg (by omega)] at z3; omega)); rw [hx, zFo_n no]; exact hvi_35_0)) (show x_15.toInt ≤ npu.toInt from by omega) (dw_lo hloi_35 qx_15) (dw_hn hni_35 qx_15)
          · have fc_14 : r_11.toInt ≠ 0 := zf_ne c_14 rfl (by decide)
            refine lv_iload hx hb dX8_mostCases_55 (lv_at hl 6 rfl) ?_
            refine lv_if_eq (tgt := 74) hx hb dX8_mostCases_57 (by decide) (fun c_16 => ?_) (fun c_16 => ?_)
            · have fc_16 : wh.toInt = 0 := zf_eq c_16 rfl (by decide)
              have htl9 : (gta i_35.toNatClampNeg).toInt ≤ sec.toInt := (hsr_11_0.mp (by omega)).2
              refine lv_aload_n hx hb dX8_mostCases_74 rfl (lv_at hl 2 rfl) ?_
              refine lv_iload hx hb dX8_mostCases_75 (lv_at hl 0 rfl) ?_
              refine lv_iload_n hx hb dX8_mostCases_77 rfl (lv_at hl 3 rfl) ?_
              refine lv_iload_n hx hb dX8_mostCases_78 rfl (lv_at hl 4 rfl) ?_
              refine lv_iload_n hx hb dX8_mostCases_79 rfl (lv_at hl 5 rfl) ?_
              refine lv_iload hx hb dX8_mostCases_80 (lv_at hl 6 rfl) ?_
              refine zc_V (As := [.int i_35, .int 1, .int d, .int sec, .int wh]) (rest := []) ⟨hx, hb, hml, hown, hts⟩ (c_F_M_casesBy_1 l D cI cJ cZ cP cS po m0 mrf mki mpa mta mla msl mco mhe mso msi msh mce mca mwo mnu mte mwa mke mma mth mtr (npu) (nte) (nat_) (nde) (nto) (nse) (nhu) (nga) (nsd) (nfa) (nba) (npl) (nen) (nnu) (nwr) (nra) (nik) gki gpa gta (i_35) (d) (sec) (wh) hy0 hy1 hy2 hy3 hy4 hy5 hy6 hy7 hy8 hy9 hy10 hy11 hy12 hy13 (by omega) (by omega) hy14 hy15 hy16 hy17 hy18 hy19 (by first | assumption | omega) hp_gki hp_gpa hp_gta) (cwV 5 hts gX8_mostCases_X8_casesBy rfl rfl rfl ⟨rfl, dh_X8_casesBy⟩ ⟨Nat.le_of_ble_eq_true rfl, Nat.le_of_ble_eq_true rfl⟩) hK hN hZ hP (hP.sub [0, 1, 2, 3] rfl) (va_recv (q := (RX8, TX8, 38)) hK hP (ci := 8) (q0 := 0) rfl rfl) rfl hl.1 rfl (Nat.le_of_ble_eq_true rfl) dX8_mostCases_82 ⟨Nat.le_of_ble_eq_true rfl, Nat.le_of_ble_eq_true rfl⟩ (fun r_17 hr_17 => ?_)
              obtain ⟨g_18, g_19, hsr_17_0⟩ := hr_17
              refine lv_istore (lv' := [(7, .int r_17), (6, .int i_35), (5, .int v_8), (0, .ref m0), (1, .int 1), (2, .int d), (3, .int sec), (4, .int wh)]) hx hb dX8_mostCases_85 hl (by decide) rfl (fun ls hl => ?_)
              refine lv_iload hx hb dX8_mostCases_87 (lv_at hl 0 rfl) ?_
              refine lv_iload hx hb dX8_mostCases_89 (lv_at hl 2 rfl) ?_
              refine lv_icmp_le (tgt := 99) hx hb dX8_mostCases_91 (by decide) (fun c_20 => ?_) (fun c_20 => ?_)
              · have fc_20 : r_17.toInt ≤ v_8.toInt := zf_le c_20 rfl rfl
                refine lv_iload hx hb dX8_mostCases_99 (lv_at hl 2 rfl) ?_
                refine lv_istore (lv' := [(5, .int v_8), (7, .int r_17), (6, .int i_35), (0, .ref m0), (1, .int 1), (2, .int d), (3, .int sec), (4, .int wh)]) hx hb dX8_mostCases_101 hl (by decide) rfl (fun ls hl => ?_)
                obtain ⟨x_21, ex_21⟩ : ∃ y : Int32, y = i_35 + 1 := ⟨_, rfl⟩
                have qx_21 : x_21.toInt = i_35.toInt + 1 := dw_inc ex_21 fc_10
                refine lv_iinc (v := x_21) (lv' := [(6, .int x_21), (5, .int v_8), (7, .int r_17), (0, .ref m0), (1, .int 1), (2, .int d), (3, .int sec), (4, .int wh)]) hx hb dX8_mostCases_103 hl (k := 2) rfl ex_21.symm (by decide) rfl (fun ls hl => ?_)
                refine lv_goto (tgt := 35) hx hb dX8_mostCases_106 (by decide) ?_
                exact ih x_21 v_8 _ (lv_sub hl [0, 1, 3, 4, 5, 6, 7] rfl) hbv_8 (show (v_8 : Int32).toInt = zFo gki gta (if wh.toInt = 0 then 1 else 0) d.toInt sec.toInt (12 * (zM gki gpa gta npu.toInt.toNat nhu.toInt (if wh.toInt = 0 then 1 else 0) 0) d.toInt sec.toInt) (zBy (zM gki gpa gta npu.toInt.toNat nhu.toInt (if wh.toInt = 0 then 1 else 0) 0) gki gpa gta nhu.toInt d.toInt sec.toInt) x_21.toInt.toNat from by (have hx : x_21.toInt.toNat = i_35.toInt.toNat + 1 := (by omega); have y9 : i_35.toNatClampNeg = i_35.toInt.toNat := rfl; have hm := hsr_11_0; rw [y9] at hm; have ok : zOk gki gta (if wh.toInt = 0 then 1 else 0) d.toInt sec.toInt i_35.toInt.toNat := ⟨(hm.mp (by omega)).1, (hm.mp (by omega)).2, (by first | exact Or.inl (by rw [if_pos (by omega)]; decide) | exact Or.inr (by omega))⟩; rw [hx, zFo_y ok, ← hvi_35_0]; have zr := hsr_17_0; rw [y9] at zr; have zr2 : r_17.toInt = (zBy (zM gki gpa gta npu.toInt.toNat nhu.toInt (if wh.toInt = 0 then 1 else 0) 0) gki gpa gta nhu.toInt d.toInt sec.toInt) i_35.toInt.toNat := zr; omega)) (show x_21.toInt ≤ npu.toInt from by omega) (dw_lo hloi_35 qx_21) (dw_hn hni_35 qx_21)
              · have fc_20 : v_8.toInt < r_17.toInt := zf_nle c_20 rfl rfl
                refine lv_iload hx hb dX8_mostCases_94 (lv_at hl 0 rfl) ?_
                refine lv_goto (tgt := 101) hx hb dX8_mostCases_96 (by decide) ?_
                refine lv_istore (lv' := [(5, .int r_17), (7, .int r_17), (6, .int i_35), (0, .ref m0), (1, .int 1), (2, .int d), (3, .int sec), (4, .int wh)]) hx hb dX8_mostCases_101 hl (by decide) rfl (fun ls hl => ?_)
                obtain ⟨x_22, ex_22⟩ : ∃ y : Int32, y = i_35 + 1 := ⟨_, rfl⟩
                have qx_22 : x_22.toInt = i_35.toInt + 1 := dw_inc ex_22 fc_10
                refine lv_iinc (v := x_22) (lv' := [(6, .int x_22), (5, .int r_17), (7, .int r_17), (0, .ref m0), (1, .int 1), (2, .int d), (3, .int sec), (4, .int wh)]) hx hb dX8_mostCases_103 hl (k := 2) rfl ex_22.symm (by decide) rfl (fun ls hl => ?_)
                refine lv_goto (tgt := 35) hx hb dX8_mostCases_106 (by decide) ?_
                exact ih x_22 r_17 _ (lv_sub hl [0, 1, 3, 4, 5, 6, 7] rfl) ⟨by omega, by omega⟩ (show (r_17 : Int32).toInt = zFo gki gta (if wh.toInt = 0 then 1 else 0) d.toInt sec.toInt (12 * (zM gki gpa gta npu.toInt.toNat nhu.toInt (if wh.toInt = 0 then 1 else 0) 0) d.toInt sec.toInt) (zBy (zM gki gpa gta npu.toInt.toNat nhu.toInt (if wh.toInt = 0 then 1 else 0) 0) gki gpa gta nhu.toInt d.toInt sec.toInt) x_22.toInt.toNat from by (have hx : x_22.toInt.toNat = i_35.toInt.toNat + 1 := (by omega); have y9 : i_35.toNatClampNeg = i_35.toInt.toNat := rfl; have hm := hsr_11_0; rw [y9] at hm; have ok : zOk gki gta (if wh.toInt = 0 then 1 else 0) d.toInt sec.toInt i_35.toInt.toNat := ⟨(hm.mp (by omega)).1, (hm.mp (by omega)).2, (by first | exact Or.inl (by rw [if_pos (by omega)]; decide) | exact Or.inr (by omega))⟩; rw [hx, zFo_y ok, ← hvi_35_0]; have zr := hsr_17_0; rw [y9] at zr; have zr2 : r_17.toInt = (zBy (zM gki gpa gta npu.toInt.toNat nhu.toInt (if wh.toInt = 0 then 1 else 0) 0) gki gpa gta nhu.toInt d.toInt sec.toInt) i_35.toInt.toNat := zr; omega)) (show x_22.toInt ≤ npu.toInt from by omega) (dw_lo hloi_35 qx_22) (dw_hn hni_35 qx_22)
            · have fc_16 : wh.toInt ≠ 0 := zf_ne c_16 rfl (by decide)
              refine lv_aload_n hx hb dX8_mostCases_60 rfl (lv_at hl 2 rfl) ?_
              refine va_get (D := D) (ci := 8) (v := .ref mki) (C := RX8) (T := TX8) (N := 38) hx hb hts hi_X8_mostCases_8 hown hK hP 0 rfl rfl 11 (by decide) (hts (.fieldLink RX8 29 "TheLiningsInItModel" "kind" "[I") (List.mem_of_getElem? (i := 2) rfl)) (fun _ h9 => h9) rfl dX8_mostCases_61 ?_
              refine lv_iload hx hb dX8_mostCases_64 (lv_at hl 0 rfl) ?_
              refine va_iald hx hb hK hP 1 0 rfl rfl (zf_in (by omega) (by omega)) dX8_mostCases_66 ?_
              refine lv_topi (fun x_23 ex_23 => ?_)
              have bx_23 : 0 ≤ x_23.toInt ∧ x_23.toInt ≤ 6 := by rw [ex_23]; exact hp_gki _
              refine lv_iconst (v := 5) hx hb dX8_mostCases_67 (by decide) ?_
              refine lv_icmp_ne (tgt := 74) hx hb dX8_mostCases_68 (by decide) (fun c_24 => ?_) (fun c_24 => ?_)
              · have fc_24 : x_23.toInt ≠ 5 := zf_ne c_24 rfl (by decide)
                have htl9 : (gta i_35.toNatClampNeg).toInt ≤ sec.toInt := (hsr_11_0.mp (by omega)).2
                refine lv_aload_n hx hb dX8_mostCases_74 rfl (lv_at hl 2 rfl) ?_
                refine lv_iload hx hb dX8_mostCases_75 (lv_at hl 0 rfl) ?_
                refine lv_iload_n hx hb dX8_mostCases_77 rfl (lv_at hl 3 rfl) ?_
                refine lv_iload_n hx hb dX8_mostCases_78 rfl (lv_at hl 4 rfl) ?_
                refine lv_iload_n hx hb dX8_mostCases_79 rfl (lv_at hl 5 rfl) ?_
                refine lv_iload hx hb dX8_mostCases_80 (lv_at hl 6 rfl) ?_
                refine zc_V (As := [.int i_35, .int 1, .int d, .int sec, .int wh]) (rest := []) ⟨hx, hb, hml, hown, hts⟩ (c_F_M_casesBy_1 l D cI cJ cZ cP cS po m0 mrf mki mpa mta mla msl mco mhe mso msi msh mce mca mwo mnu mte mwa mke mma mth mtr (npu) (nte) (nat_) (nde) (nto) (nse) (nhu) (nga) (nsd) (nfa) (nba) (npl) (nen) (nnu) (nwr) (nra) (nik) gki gpa gta (i_35) (d) (sec) (wh) hy0 hy1 hy2 hy3 hy4 hy5 hy6 hy7 hy8 hy9 hy10 hy11 hy12 hy13 (by omega) (by omega) hy14 hy15 hy16 hy17 hy18 hy19 (by first | assumption | omega) hp_gki hp_gpa hp_gta) (cwV 5 hts gX8_mostCases_X8_casesBy rfl rfl rfl ⟨rfl, dh_X8_casesBy⟩ ⟨Nat.le_of_ble_eq_true rfl, Nat.le_of_ble_eq_true rfl⟩) hK hN hZ hP (hP.sub [0, 1, 2, 3] rfl) (va_recv (q := (RX8, TX8, 38)) hK hP (ci := 8) (q0 := 0) rfl rfl) rfl hl.1 rfl (Nat.le_of_ble_eq_true rfl) dX8_mostCases_82 ⟨Nat.le_of_ble_eq_true rfl, Nat.le_of_ble_eq_true rfl⟩ (fun r_25 hr_25 => ?_)
                obtain ⟨g_26, g_27, hsr_25_0⟩ := hr_25
                refine lv_istore (lv' := [(7, .int r_25), (6, .int i_35), (5, .int v_8), (0, .ref m0), (1, .int 1), (2, .int d), (3, .int sec), (4, .int wh)]) hx hb dX8_mostCases_85 hl (by decide) rfl (fun ls hl => ?_)
                refine lv_iload hx hb dX8_mostCases_87 (lv_at hl 0 rfl) ?_
                refine lv_iload hx hb dX8_mostCases_89 (lv_at hl 2 rfl) ?_
                refine lv_icmp_le (tgt := 99) hx hb dX8_mostCases_91 (by decide) (fun c_28 => ?_) (fun c_28 => ?_)
                · have fc_28 : r_25.toInt ≤ v_8.toInt := zf_le c_28 rfl rfl
                  refine lv_iload hx hb dX8_mostCases_99 (lv_at hl 2 rfl) ?_
                  refine lv_istore (lv' := [(5, .int v_8), (7, .int r_25), (6, .int i_35), (0, .ref m0), (1, .int 1), (2, .int d), (3, .int sec), (4, .int wh)]) hx hb dX8_mostCases_101 hl (by decide) rfl (fun ls hl => ?_)
                  obtain ⟨x_29, ex_29⟩ : ∃ y : Int32, y = i_35 + 1 := ⟨_, rfl⟩
                  have qx_29 : x_29.toInt = i_35.toInt + 1 := dw_inc ex_29 fc_10
                  refine lv_iinc (v := x_29) (lv' := [(6, .int x_29), (5, .int v_8), (7, .int r_25), (0, .ref m0), (1, .int 1), (2, .int d), (3, .int sec), (4, .int wh)]) hx hb dX8_mostCases_103 hl (k := 2) rfl ex_29.symm (by decide) rfl (fun ls hl => ?_)
                  refine lv_goto (tgt := 35) hx hb dX8_mostCases_106 (by decide) ?_
                  exact ih x_29 v_8 _ (lv_sub hl [0, 1, 3, 4, 5, 6, 7] rfl) hbv_8 (show (v_8 : Int32).toInt = zFo gki gta (if wh.toInt = 0 then 1 else 0) d.toInt sec.toInt (12 * (zM gki gpa gta npu.toInt.toNat nhu.toInt (if wh.toInt = 0 then 1 else 0) 0) d.toInt sec.toInt) (zBy (zM gki gpa gta npu.toInt.toNat nhu.toInt (if wh.toInt = 0 then 1 else 0) 0) gki gpa gta nhu.toInt d.toInt sec.toInt) x_29.toInt.toNat from by (have hx : x_29.toInt.toNat = i_35.toInt.toNat + 1 := (by omega); have y9 : i_35.toNatClampNeg = i_35.toInt.toNat := rfl; have hm := hsr_11_0; rw [y9] at hm; have nk : (gki i_35.toInt.toNat).toInt = x_23.toInt := (by rw [ex_23]; rfl); have ok : zOk gki gta (if wh.toInt = 0 then 1 else 0) d.toInt sec.toInt i_35.toInt.toNat := ⟨(hm.mp (by omega)).1, (hm.mp (by omega)).2, (by first | exact Or.inl (by rw [if_pos (by omega)]; decide) | exact Or.inr (by omega))⟩; rw [hx, zFo_y ok, ← hvi_35_0]; have zr := hsr_25_0; rw [y9] at zr; have zr2 : r_25.toInt = (zBy (zM gki gpa gta npu.toInt.toNat nhu.toInt (if wh.toInt = 0 then 1 else 0) 0) gki gpa gta nhu.toInt d.toInt sec.toInt) i_35.toInt.toNat := zr; omega)) (show x_29.toInt ≤ npu.toInt from by omega) (dw_lo hloi_35 qx_29) (dw_hn hni_35 qx_29)
                · have fc_28 : v_8.toInt < r_25.toInt := zf_nle c_28 rfl rfl
                  refine lv_iload hx hb dX8_mostCases_94 (lv_at hl 0 rfl) ?_
                  refine lv_goto (tgt := 101) hx hb dX8_mostCases_96 (by decide) ?_
                  refine lv_istore (lv' := [(5, .int r_25), (7, .int r_25), (6, .int i_35), (0, .ref m0), (1, .int 1), (2, .int d), (3, .int sec), (4, .int wh)]) hx hb dX8_mostCases_101 hl (by decide) rfl (fun ls hl => ?_)
                  obtain ⟨x_30, ex_30⟩ : ∃ y : Int32, y = i_35 + 1 := ⟨_, rfl⟩
                  have qx_30 : x_30.toInt = i_35.toInt + 1 := dw_inc ex_30 fc_10
                  refine lv_iinc (v := x_30) (lv' := [(6, .int x_30), (5, .int r_25), (7, .int r_25), (0, .ref m0), (1, .int 1), (2, .int d), (3, .int sec), (4, .int wh)]) hx hb dX8_mostCases_103 hl (k := 2) rfl ex_30.symm (by decide) rfl (fun ls hl => ?_)
                  refine lv_goto (tgt := 35) hx hb dX8_mostCases_106 (by decide) ?_
                  exact ih x_30 r_25 _ (lv_sub hl [0, 1, 3, 4, 5, 6, 7] rfl) ⟨by omega, by omega⟩ (show (r_25 : Int32).toInt = zFo gki gta (if wh.toInt = 0 then 1 else 0) d.toInt sec.toInt (12 * (zM gki gpa gta npu.toInt.toNat nhu.toInt (if wh.toInt = 0 then 1 else 0) 0) d.toInt sec.toInt) (zBy (zM gki gpa gta npu.toInt.toNat nhu.toInt (if wh.toInt = 0 then 1 else 0) 0) gki gpa gta nhu.toInt d.toInt sec.toInt) x_30.toInt.toNat from by (have hx : x_30.toInt.toNat = i_35.toInt.toNat + 1 := (by omega); have y9 : i_35.toNatClampNeg = i_35.toInt.toNat := rfl; have hm := hsr_11_0; rw [y9] at hm; have nk : (gki i_35.toInt.toNat).toInt = x_23.toInt := (by rw [ex_23]; rfl); have ok : zOk gki gta (if wh.toInt = 0 then 1 else 0) d.toInt sec.toInt i_35.toInt.toNat := ⟨(hm.mp (by omega)).1, (hm.mp (by omega)).2, (by first | exact Or.inl (by rw [if_pos (by omega)]; decide) | exact Or.inr (by omega))⟩; rw [hx, zFo_y ok, ← hvi_35_0]; have zr := hsr_25_0; rw [y9] at zr; have zr2 : r_25.toInt = (zBy (zM gki gpa gta npu.toInt.toNat nhu.toInt (if wh.toInt = 0 then 1 else 0) 0) gki gpa gta nhu.toInt d.toInt sec.toInt) i_35.toInt.toNat := zr; omega)) (show x_30.toInt ≤ npu.toInt from by omega) (dw_lo hloi_35 qx_30) (dw_hn hni_35 qx_30)
              · have fc_24 : x_23.toInt = 5 := zf_eq c_24 rfl (by decide)
                refine lv_goto (tgt := 103) hx hb dX8_mostCases_71 (by decide) ?_
                obtain ⟨x_31, ex_31⟩ : ∃ y : Int32, y = i_35 + 1 := ⟨_, rfl⟩
                have qx_31 : x_31.toInt = i_35.toInt + 1 := dw_inc ex_31 fc_10
                refine lv_iinc (v := x_31) (lv' := [(6, .int x_31), (5, .int v_8), (0, .ref m0), (1, .int 1), (2, .int d), (3, .int sec), (4, .int wh)]) hx hb dX8_mostCases_103 hl (k := 0) rfl ex_31.symm (by decide) rfl (fun ls hl => ?_)
                refine lv_goto (tgt := 35) hx hb dX8_mostCases_106 (by decide) ?_
                exact ih x_31 v_8 _ (lv_sub hl [0, 1, 2, 3, 4, 5, 6] rfl) hbv_8 (show (v_8 : Int32).toInt = zFo gki gta (if wh.toInt = 0 then 1 else 0) d.toInt sec.toInt (12 * (zM gki gpa gta npu.toInt.toNat nhu.toInt (if wh.toInt = 0 then 1 else 0) 0) d.toInt sec.toInt) (zBy (zM gki gpa gta npu.toInt.toNat nhu.toInt (if wh.toInt = 0 then 1 else 0) 0) gki gpa gta nhu.toInt d.toInt sec.toInt) x_31.toInt.toNat from by (have hx : x_31.toInt.toNat = i_35.toInt.toNat + 1 := (by omega); have y9 : i_35.toNatClampNeg = i_35.toInt.toNat := rfl; have hm := hsr_11_0; rw [y9] at hm; have nk : (gki i_35.toInt.toNat).toInt = x_23.toInt := (by rw [ex_23]; rfl); have no : ¬ zOk gki gta (if wh.toInt = 0 then 1 else 0) d.toInt sec.toInt i_35.toInt.toNat := (fun z => by first | (have z1 := hm.mpr ⟨z.1, z.2.1⟩; omega) | (have z3 := z.2.2; rw [if_neg (by omega)] at z3; omega)); rw [hx, zFo_n no]; exact hvi_35_0)) (show x_31.toInt ≤ npu.toInt from by omega) (dw_lo hloi_35 qx_31) (dw_hn hni_35 qx_31)
    · exact absurd c_2 (by decide)
  · have fc_1 : d.toInt = 0 := zf_eq c_1 rfl (by decide)
    refine lv_aload_n hx hb dX8_mostCases_4 rfl (lv_at hl 0 rfl) ?_
    refine lv_iload_n hx hb dX8_mostCases_5 rfl (lv_at hl 1 rfl) ?_
    refine zc_V (As := [.int 1]) (rest := []) ⟨hx, hb, hml, hown, hts⟩ (c_M_power_1 l D cI cJ cZ cP cS po m0 mrf mki mpa mta mla msl mco mhe mso msi msh mce mca mwo mnu mte mwa mke mma mth mtr (npu) (nte) (nat_) (nde) (nto) (nse) (nhu) (nga) (nsd) (nfa) (nba) (npl) (nen) (nnu) (nwr) (nra) (nik) hy0 hy1 hy2 hy3 hy4 hy5 hy6 hy7 hy8 hy9 hy10 hy11 hy12 hy13) (cwV 1 hts gX8_mostCases_X8_power rfl rfl rfl ⟨rfl, dh_X8_power⟩ ⟨Nat.le_of_ble_eq_true rfl, Nat.le_of_ble_eq_true rfl⟩) hK hN hZ hP (hP.sub [0] rfl) (va_recv (q := (RX8, TX8, 38)) hK hP (ci := 8) (q0 := 0) rfl rfl) rfl hl.1 rfl (Nat.le_of_ble_eq_true rfl) dX8_mostCases_6 ⟨Nat.le_of_ble_eq_true rfl, Nat.le_of_ble_eq_true rfl⟩ (fun r_32 hr_32 => ?_)
    obtain rfl := hr_32
    exact W.iret (v := 12) hx hb hr (fun t ht hW => ⟨12, rfl, ⟨by decide, by decide, (show (12 : Int32).toInt = (zM gki gpa gta npu.toInt.toNat nhu.toInt (if wh.toInt = 0 then 1 else 0) 1) d.toInt sec.toInt from by (have k9 : (12 : Int32).toInt = 12 := (by decide); rw [zM_s, if_pos (by omega)]; rw [show zPw 1 = 12 from by decide]; omega))⟩, ht⟩) (fun q hq => by cases hq) dX8_mostCases_9
set_option maxHeartbeats 4000000 in
set_option maxRecDepth 100000 in
theorem c_F_M_casesBy_2 (l : Launch) (D : va_G) (cI cJ cZ cP cS : ClassId) (po : zPool) (m0 mrf mki mpa mta mla msl mco mhe mso msi msh mce mca mwo mnu mte mwa mke mma mth mtr : Nat) (npu nte nat_ nde nto nse nhu nga nsd nfa nba npl nen nnu nwr nra nik : Int32) (gki gpa gta : Nat → Int32) (p_ d sec wh : Int32) (hy0 : 0 ≤ npu.toInt) (hy1 : npu.toInt ≤ 8) (hy2 : 4 ≤ nte.toInt) (hy3 : nte.toInt ≤ 40) (hy4 : 0 ≤ nat_.toInt) (hy5 : nat_.toInt ≤ 40) (hy6 : 0 ≤ nde.toInt) (hy7 : nde.toInt ≤ 24) (hy8 : 0 ≤ nhu.toInt) (hy9 : nhu.toInt ≤ 9) (hy10 : 0 ≤ nra.toInt) (hy11 : nra.toInt ≤ 2000) (hy12 : 0 ≤ nik.toInt) (hy13 : nik.toInt ≤ 1) (hy14 : 0 ≤ p_.toInt) (hy15 : p_.toInt ≤ 7) (hy16 : 0 ≤ d.toInt) (hy17 : d.toInt ≤ 24) (hy18 : 0 ≤ sec.toInt) (hy19 : sec.toInt ≤ 300) (hy20 : 0 ≤ wh.toInt) (hy21 : wh.toInt ≤ 1) (htl : (gta p_.toNatClampNeg).toInt ≤ sec.toInt) (hp_gki : zRg gki (0) 6) (hp_gpa : zRg gpa (0) 9) (hp_gta : zRg gta (0) 60) : Met l yX8_casesBy wsX8_casesBy ({ frames := 4, cells := 0, slots := 0, locals := 102 }) (va_Pc [.ref m0, .int p_, .int 2, .int d, .int sec, .int wh] (zR D (zKT cI cJ cZ cP cS) po [(zMO m0 npu nte nat_ nde nto nse nhu nga nsd nfa mrf mki mpa mta mla msl mco mhe mso msi msh mce mca mwo mnu mte nba npl nen nnu nwr mwa mke mma mth mtr nra nik), (mki, .inl (cI, 8, .inl gki)), (mpa, .inl (cI, 8, .inl gpa)), (mta, .inl (cI, 8, .inl gta))])) (vp_Si (fun r => 0 ≤ r.toInt ∧ r.toInt ≤ 144 ∧ (r.toInt = zBy1 (zM gki gpa gta npu.toInt.toNat nhu.toInt (if wh.toInt = 0 then 1 else 0) 1) (gki p_.toNatClampNeg).toInt (gpa p_.toNatClampNeg).toInt (gta p_.toNatClampNeg).toInt nhu.toInt d.toInt sec.toInt))) 0 0 (fun _ => False) := by
  refine Met.ofW (cc := cX8_casesBy) (maxL := 8) (ret := (some .int)) (by decide) rfl ?_
  intro p e s m args below meth c s₁ B hml hv
  obtain ⟨rfl, hP, hK, hN, hZ⟩ := hv
  have hx := B.exec
  have hb := B.bytes
  have hr := B.returns
  have hts := atoms_spec (ws := wsX8_casesBy) B.pre
  have hown : s.vm.findClass RX8 = some m.cls := findClass_of_methodNamed B.named
  have hlocks := B.notSynchronized
  have hl := lv_entry ([.ref m0, .int p_, .int 2, .int d, .int sec, .int wh]) (n := 8) (Nat.le_of_ble_eq_true rfl)
  rw [lg_entry_eq]
  generalize (lg_sl ([.ref m0, .int p_, .int 2, .int d, .int sec, .int wh]) ++ List.replicate (8 - (lg_sl ([.ref m0, .int p_, .int 2, .int d, .int sec, .int wh])).length) Slot.unset).toArray = ls at hl ⊢
  replace hl : lv_has ls 8 [(0, .ref m0), (1, .int p_), (2, .int 2), (3, .int d), (4, .int sec), (5, .int wh)] := hl
  refine lv_aload_n hx hb dX8_casesBy_0 rfl (lv_at hl 0 rfl) ?_
  refine lv_iload_n hx hb dX8_casesBy_1 rfl (lv_at hl 1 rfl) ?_
  refine lv_iload_n hx hb dX8_casesBy_2 rfl (lv_at hl 3 rfl) ?_
  refine zc_V (As := [.int p_, .int d]) (rest := []) ⟨hx, hb, hml, hown, hts⟩ (c_F_M_ways l D cI cJ cZ cP cS po m0 mrf mki mpa mta mla msl mco mhe mso msi msh mce mca mwo mnu mte mwa mke mma mth mtr (npu) (nte) (nat_) (nde) (nto) (nse) (nhu) (nga) (nsd) (nfa) (nba) (npl) (nen) (nnu) (nwr) (nra) (nik) gki gpa (p_) (d) hy0 hy1 hy2 hy3 hy4 hy5 hy6 hy7 hy8 hy9 hy10 hy11 hy12 hy13 hy14 hy15 hy16 hy17 hp_gki hp_gpa) (cwV 2 hts gX8_casesBy_X8_ways rfl rfl rfl ⟨rfl, dh_X8_ways⟩ ⟨Nat.le_of_ble_eq_true rfl, Nat.le_of_ble_eq_true rfl⟩) hK hN hZ hP (hP.sub [0, 1, 2] rfl) (va_recv (q := (RX8, TX8, 38)) hK hP (ci := 8) (q0 := 0) rfl rfl) rfl hl.1 rfl (Nat.le_of_ble_eq_true rfl) dX8_casesBy_3 ⟨Nat.le_of_ble_eq_true rfl, Nat.le_of_ble_eq_true rfl⟩ (fun r_1 hr_1 => ?_)
  obtain ⟨g_2, g_3, hsr_1_0⟩ := hr_1
  refine lv_istore (lv' := [(6, .int r_1), (0, .ref m0), (1, .int p_), (2, .int 2), (3, .int d), (4, .int sec), (5, .int wh)]) hx hb dX8_casesBy_6 hl (by decide) rfl (fun ls hl => ?_)
  refine lv_iload hx hb dX8_casesBy_8 (lv_at hl 0 rfl) ?_
  refine lv_if_ne (tgt := 17) hx hb dX8_casesBy_10 (by decide) (fun c_4 => ?_) (fun c_4 => ?_)
  · have fc_4 : r_1.toInt ≠ 0 := zf_ne c_4 rfl (by decide)
    refine lv_iload hx hb dX8_casesBy_17 (lv_at hl 0 rfl) ?_
    refine lv_aload_n hx hb dX8_casesBy_19 rfl (lv_at hl 1 rfl) ?_
    refine lv_iload_n hx hb dX8_casesBy_20 rfl (lv_at hl 3 rfl) ?_
    refine lv_iconst (v := 1) hx hb dX8_casesBy_21 (by decide) ?_
    refine lv_isub hx hb dX8_casesBy_22 ?_
    refine lv_topi (fun y_5 ey_5 => ?_)
    obtain rfl : y_5 = 1 := ey_5.trans (by decide)
    refine lv_aload_n hx hb dX8_casesBy_23 rfl (lv_at hl 1 rfl) ?_
    refine lv_iload_n hx hb dX8_casesBy_24 rfl (lv_at hl 2 rfl) ?_
    refine lv_iload_n hx hb dX8_casesBy_25 rfl (lv_at hl 4 rfl) ?_
    refine lv_iconst (v := 1) hx hb dX8_casesBy_26 (by decide) ?_
    have kc1 : (1 : Int32).toInt = 1 := by decide
    refine zc_V (As := [.int p_, .int d, .int 1]) (rest := [.int 1, .ref m0, .int r_1]) ⟨hx, hb, hml, hown, hts⟩ (c_F_M_deep l D cI cJ cZ cP cS po m0 mrf mki mpa mta mla msl mco mhe mso msi msh mce mca mwo mnu mte mwa mke mma mth mtr (npu) (nte) (nat_) (nde) (nto) (nse) (nhu) (nga) (nsd) (nfa) (nba) (npl) (nen) (nnu) (nwr) (nra) (nik) gki gpa (p_) (d) (1) hy0 hy1 hy2 hy3 hy4 hy5 hy6 hy7 hy8 hy9 hy10 hy11 hy12 hy13 hy14 hy15 hy16 hy17 (by omega) (by omega) hp_gki hp_gpa) (cwV 3 hts gX8_casesBy_X8_deep rfl rfl rfl ⟨rfl, dh_X8_deep⟩ ⟨Nat.le_of_ble_eq_true rfl, Nat.le_of_ble_eq_true rfl⟩) hK hN hZ hP (hP.sub [0, 1, 2] rfl) (va_recv (q := (RX8, TX8, 38)) hK hP (ci := 8) (q0 := 0) rfl rfl) rfl hl.1 rfl (Nat.le_of_ble_eq_true rfl) dX8_casesBy_27 ⟨Nat.le_of_ble_eq_true rfl, Nat.le_of_ble_eq_true rfl⟩ (fun r_6 hr_6 => ?_)
    obtain ⟨g_7, g_8, hsr_6_0⟩ := hr_6
    refine lv_iload hx hb dX8_casesBy_30 (lv_at hl 5 rfl) ?_
    refine lv_aload_n hx hb dX8_casesBy_32 rfl (lv_at hl 1 rfl) ?_
    refine va_get (D := D) (ci := 8) (v := .ref mta) (C := RX8) (T := TX8) (N := 38) hx hb hts hi_X8_casesBy_8 hown hK hP 0 rfl rfl 13 (by decide) (hts (.fieldLink RX8 35 "TheLiningsInItModel" "takes" "[I") (List.mem_of_getElem? (i := 1) rfl)) (fun _ h9 => h9) rfl dX8_casesBy_33 ?_
    refine lv_iload_n hx hb dX8_casesBy_36 rfl (lv_at hl 2 rfl) ?_
    refine va_iald hx hb hK hP 3 0 rfl rfl (zf_in (by omega) (by omega)) dX8_casesBy_37 ?_
    refine lv_topi (fun x_9 ex_9 => ?_)
    have bx_9 : 0 ≤ x_9.toInt ∧ x_9.toInt ≤ 60 := by rw [ex_9]; exact hp_gta _
    have htx_9 : x_9.toInt ≤ sec.toInt := by (rw [ex_9]; exact htl)
    refine lv_isub hx hb dX8_casesBy_38 ?_
    refine lv_topi (fun x_10 ex_10 => ?_)
    have qx_10 : x_10.toInt = sec.toInt - x_9.toInt := by rw [ex_10]; exact zf_sub rfl rfl (by omega) (by omega)
    refine lv_iload hx hb dX8_casesBy_39 (lv_at hl 6 rfl) ?_
    refine zc_V (As := [.int 1, .int r_6, .int x_10, .int wh]) (rest := [.int r_1]) ⟨hx, hb, hml, hown, hts⟩ (c_F_M_mostCases_1 l D cI cJ cZ cP cS po m0 mrf mki mpa mta mla msl mco mhe mso msi msh mce mca mwo mnu mte mwa mke mma mth mtr (npu) (nte) (nat_) (nde) (nto) (nse) (nhu) (nga) (nsd) (nfa) (nba) (npl) (nen) (nnu) (nwr) (nra) (nik) gki gpa gta (r_6) (x_10) (wh) hy0 hy1 hy2 hy3 hy4 hy5 hy6 hy7 hy8 hy9 hy10 hy11 hy12 hy13 (by omega) (by omega) (by omega) (by omega) hy20 hy21 hp_gki hp_gpa hp_gta) (cwV 4 hts gX8_casesBy_X8_mostCases rfl rfl rfl ⟨rfl, dh_X8_mostCases⟩ ⟨Nat.le_of_ble_eq_true rfl, Nat.le_of_ble_eq_true rfl⟩) hK hN hZ hP (hP.sub [0, 1, 2, 3] rfl) (va_recv (q := (RX8, TX8, 38)) hK hP (ci := 8) (q0 := 0) rfl rfl) rfl hl.1 rfl (Nat.le_of_ble_eq_true rfl) dX8_casesBy_41 ⟨Nat.le_of_ble_eq_true rfl, Nat.le_of_ble_eq_true rfl⟩ (fun r_11 hr_11 => ?_)
    obtain ⟨g_12, g_13, hsr_11_0⟩ := hr_11
    refine lv_imul hx hb dX8_casesBy_44 ?_
    refine lv_topi (fun x_14 ex_14 => ?_)
    obtain ⟨mx_14, nx_14, ox_14⟩ := zf_mulc (a := r_1) (b := r_11) (x := r_1.toInt) (y := r_11.toInt) (P := 12) rfl rfl ⟨by omega, by omega⟩ ⟨by omega, by omega⟩ (by decide)
    rw [← ex_14] at mx_14
    refine lv_istore (lv' := [(7, .int x_14), (6, .int r_1), (0, .ref m0), (1, .int p_), (2, .int 2), (3, .int d), (4, .int sec), (5, .int wh)]) hx hb dX8_casesBy_45 hl (by decide) rfl (fun ls hl => ?_)
    refine lv_iload hx hb dX8_casesBy_47 (lv_at hl 1 rfl) ?_
    refine lv_bipush (v := 12) hx hb dX8_casesBy_49 (by decide) ?_
    refine lv_icmp_ne (tgt := 59) hx hb dX8_casesBy_51 (by decide) (fun c_15 => ?_) (fun c_15 => ?_)
    · have fc_15 : r_1.toInt ≠ 12 := zf_ne c_15 rfl (by decide)
      refine lv_iload hx hb dX8_casesBy_59 (lv_at hl 0 rfl) ?_
      refine lv_bipush (v := 12) hx hb dX8_casesBy_61 (by decide) ?_
      refine lv_iload hx hb dX8_casesBy_63 (lv_at hl 1 rfl) ?_
      refine lv_isub hx hb dX8_casesBy_65 ?_
      refine lv_topi (fun x_16 ex_16 => ?_)
      have qx_16 : x_16.toInt = 12 - r_1.toInt := by rw [ex_16]; exact zf_sub (by decide) rfl (by omega) (by omega)
      refine lv_aload_n hx hb dX8_casesBy_66 rfl (lv_at hl 2 rfl) ?_
      refine lv_iload_n hx hb dX8_casesBy_67 rfl (lv_at hl 4 rfl) ?_
      refine lv_iconst (v := 1) hx hb dX8_casesBy_68 (by decide) ?_
      refine lv_isub hx hb dX8_casesBy_69 ?_
      refine lv_topi (fun y_17 ey_17 => ?_)
      obtain rfl : y_17 = 1 := ey_17.trans (by decide)
      refine lv_aload_n hx hb dX8_casesBy_70 rfl (lv_at hl 2 rfl) ?_
      refine lv_iload_n hx hb dX8_casesBy_71 rfl (lv_at hl 3 rfl) ?_
      refine lv_iload_n hx hb dX8_casesBy_72 rfl (lv_at hl 5 rfl) ?_
      refine lv_iconst (v := 0) hx hb dX8_casesBy_73 (by decide) ?_
      have kc0 : (0 : Int32).toInt = 0 := by decide
      refine zc_V (As := [.int p_, .int d, .int 0]) (rest := [.int 1, .ref m0, .int x_16, .int x_14]) ⟨hx, hb, hml, hown, hts⟩ (c_F_M_deep l D cI cJ cZ cP cS po m0 mrf mki mpa mta mla msl mco mhe mso msi msh mce mca mwo mnu mte mwa mke mma mth mtr (npu) (nte) (nat_) (nde) (nto) (nse) (nhu) (nga) (nsd) (nfa) (nba) (npl) (nen) (nnu) (nwr) (nra) (nik) gki gpa (p_) (d) (0) hy0 hy1 hy2 hy3 hy4 hy5 hy6 hy7 hy8 hy9 hy10 hy11 hy12 hy13 hy14 hy15 hy16 hy17 (by omega) (by omega) hp_gki hp_gpa) (cwV 3 hts gX8_casesBy_X8_deep rfl rfl rfl ⟨rfl, dh_X8_deep⟩ ⟨Nat.le_of_ble_eq_true rfl, Nat.le_of_ble_eq_true rfl⟩) hK hN hZ hP (hP.sub [0, 1, 2] rfl) (va_recv (q := (RX8, TX8, 38)) hK hP (ci := 8) (q0 := 0) rfl rfl) rfl hl.1 rfl (Nat.le_of_ble_eq_true rfl) dX8_casesBy_74 ⟨Nat.le_of_ble_eq_true rfl, Nat.le_of_ble_eq_true rfl⟩ (fun r_18 hr_18 => ?_)
      obtain ⟨g_19, g_20, hsr_18_0⟩ := hr_18
      refine lv_iload hx hb dX8_casesBy_77 (lv_at hl 6 rfl) ?_
      refine lv_aload_n hx hb dX8_casesBy_79 rfl (lv_at hl 2 rfl) ?_
      refine va_get (D := D) (ci := 8) (v := .ref mta) (C := RX8) (T := TX8) (N := 38) hx hb hts hi_X8_casesBy_8 hown hK hP 0 rfl rfl 13 (by decide) (hts (.fieldLink RX8 35 "TheLiningsInItModel" "takes" "[I") (List.mem_of_getElem? (i := 1) rfl)) (fun _ h9 => h9) rfl dX8_casesBy_80 ?_
      refine lv_iload_n hx hb dX8_casesBy_83 rfl (lv_at hl 3 rfl) ?_
      refine va_iald hx hb hK hP 3 0 rfl rfl (zf_in (by omega) (by omega)) dX8_casesBy_84 ?_
      refine lv_topi (fun y_21 ey_21 => ?_)
      obtain rfl : x_9 = y_21 := ex_9.trans ey_21.symm
      refine lv_isub hx hb dX8_casesBy_85 ?_
      refine lv_topi (fun y_22 ey_22 => ?_)
      obtain rfl : x_10 = y_22 := ex_10.trans ey_22.symm
      refine lv_iload hx hb dX8_casesBy_86 (lv_at hl 7 rfl) ?_
      refine zc_V (As := [.int 1, .int r_18, .int x_10, .int wh]) (rest := [.int x_16, .int x_14]) ⟨hx, hb, hml, hown, hts⟩ (c_F_M_mostCases_1 l D cI cJ cZ cP cS po m0 mrf mki mpa mta mla msl mco mhe mso msi msh mce mca mwo mnu mte mwa mke mma mth mtr (npu) (nte) (nat_) (nde) (nto) (nse) (nhu) (nga) (nsd) (nfa) (nba) (npl) (nen) (nnu) (nwr) (nra) (nik) gki gpa gta (r_18) (x_10) (wh) hy0 hy1 hy2 hy3 hy4 hy5 hy6 hy7 hy8 hy9 hy10 hy11 hy12 hy13 (by omega) (by omega) (by omega) (by omega) hy20 hy21 hp_gki hp_gpa hp_gta) (cwV 4 hts gX8_casesBy_X8_mostCases rfl rfl rfl ⟨rfl, dh_X8_mostCases⟩ ⟨Nat.le_of_ble_eq_true rfl, Nat.le_of_ble_eq_true rfl⟩) hK hN hZ hP (hP.sub [0, 1, 2, 3] rfl) (va_recv (q := (RX8, TX8, 38)) hK hP (ci := 8) (q0 := 0) rfl rfl) rfl hl.1 rfl (Nat.le_of_ble_eq_true rfl) dX8_casesBy_88 ⟨Nat.le_of_ble_eq_true rfl, Nat.le_of_ble_eq_true rfl⟩ (fun r_23 hr_23 => ?_)
      obtain ⟨g_24, g_25, hsr_23_0⟩ := hr_23
      refine lv_imul hx hb dX8_casesBy_91 ?_
      refine lv_topi (fun x_26 ex_26 => ?_)
      obtain ⟨mx_26, nx_26, ox_26⟩ := zf_mulc (a := x_16) (b := r_23) (x := x_16.toInt) (y := r_23.toInt) (P := 12) rfl rfl ⟨by omega, by omega⟩ ⟨by omega, by omega⟩ (by decide)
      rw [← ex_26] at mx_26
      refine lv_iadd hx hb dX8_casesBy_92 ?_
      refine lv_topi (fun x_27 ex_27 => ?_)
      have qx_27 : x_27.toInt = x_14.toInt + x_26.toInt := by rw [ex_27]; exact zf_add rfl rfl (by omega) (by omega)
      have hmx9 := zMix (w := r_1.toInt) (x := r_11.toInt) (y := r_23.toInt) (P := 12) ⟨by omega, by omega⟩ ⟨by omega, by omega⟩ ⟨by omega, by omega⟩
      rw [show 12 - r_1.toInt = x_16.toInt from by omega] at hmx9
      exact W.iret (v := x_27) hx hb hr (fun t ht hW => ⟨x_27, rfl, ⟨by omega, by omega, (show (x_27 : Int32).toInt = zBy1 (zM gki gpa gta npu.toInt.toNat nhu.toInt (if wh.toInt = 0 then 1 else 0) 1) (gki p_.toNatClampNeg).toInt (gpa p_.toNatClampNeg).toInt (gta p_.toNatClampNeg).toInt nhu.toInt d.toInt sec.toInt from by (have zw := hsr_1_0; have E1 : r_1.toInt * (zM gki gpa gta npu.toInt.toNat nhu.toInt (if wh.toInt = 0 then 1 else 0) 1) (zShl (gki p_.toNatClampNeg).toInt (gpa p_.toNatClampNeg).toInt d.toInt) (sec.toInt - (gta p_.toNatClampNeg).toInt) = x_14.toInt := (by rw [← hsr_6_0.1 (by decide), show sec.toInt - (gta p_.toNatClampNeg).toInt = (x_10 : Int32).toInt from by (have z : (gta p_.toNatClampNeg).toInt = x_9.toInt := (by rw [ex_9]); omega), ← hsr_11_0]; omega); have E2 : (12 - r_1.toInt) * (zM gki gpa gta npu.toInt.toNat nhu.toInt (if wh.toInt = 0 then 1 else 0) 1) (zDpr (gki p_.toNatClampNeg).toInt (gpa p_.toNatClampNeg).toInt nhu.toInt d.toInt) (sec.toInt - (gta p_.toNatClampNeg).toInt) = x_26.toInt := (by rw [← hsr_18_0.2 (by decide), show sec.toInt - (gta p_.toNatClampNeg).toInt = (x_10 : Int32).toInt from by (have z : (gta p_.toNatClampNeg).toInt = x_9.toInt := (by rw [ex_9]); omega), ← hsr_23_0, show 12 - r_1.toInt = x_16.toInt from by omega]; omega); unfold zBy1; rw [← zw, E1, E2]; omega))⟩, ht⟩) (fun q hq => by cases hq) dX8_casesBy_93
    · have fc_15 : r_1.toInt = 12 := zf_eq c_15 rfl (by decide)
      refine lv_iload hx hb dX8_casesBy_54 (lv_at hl 0 rfl) ?_
      refine lv_goto (tgt := 93) hx hb dX8_casesBy_56 (by decide) ?_
      exact W.iret (v := x_14) hx hb hr (fun t ht hW => ⟨x_14, rfl, ⟨by omega, by omega, (show (x_14 : Int32).toInt = zBy1 (zM gki gpa gta npu.toInt.toNat nhu.toInt (if wh.toInt = 0 then 1 else 0) 1) (gki p_.toNatClampNeg).toInt (gpa p_.toNatClampNeg).toInt (gta p_.toNatClampNeg).toInt nhu.toInt d.toInt sec.toInt from by (have zw := hsr_1_0; have E1 : r_1.toInt * (zM gki gpa gta npu.toInt.toNat nhu.toInt (if wh.toInt = 0 then 1 else 0) 1) (zShl (gki p_.toNatClampNeg).toInt (gpa p_.toNatClampNeg).toInt d.toInt) (sec.toInt - (gta p_.toNatClampNeg).toInt) = x_14.toInt := (by rw [← hsr_6_0.1 (by decide), show sec.toInt - (gta p_.toNatClampNeg).toInt = (x_10 : Int32).toInt from by (have z : (gta p_.toNatClampNeg).toInt = x_9.toInt := (by rw [ex_9]); omega), ← hsr_11_0]; omega); have E2 : (12 - r_1.toInt) * (zM gki gpa gta npu.toInt.toNat nhu.toInt (if wh.toInt = 0 then 1 else 0) 1) (zDpr (gki p_.toNatClampNeg).toInt (gpa p_.toNatClampNeg).toInt nhu.toInt d.toInt) (sec.toInt - (gta p_.toNatClampNeg).toInt) = 0 := (by rw [show 12 - r_1.toInt = 0 from by omega, Int.zero_mul]); unfold zBy1; rw [← zw, E1, E2]; omega))⟩, ht⟩) (fun q hq => by cases hq) dX8_casesBy_93
  · have fc_4 : r_1.toInt = 0 := zf_eq c_4 rfl (by decide)
    refine lv_iconst (v := 0) hx hb dX8_casesBy_13 (by decide) ?_
    refine lv_goto (tgt := 45) hx hb dX8_casesBy_14 (by decide) ?_
    refine lv_istore (lv' := [(7, .int 0), (6, .int r_1), (0, .ref m0), (1, .int p_), (2, .int 2), (3, .int d), (4, .int sec), (5, .int wh)]) hx hb dX8_casesBy_45 hl (by decide) rfl (fun ls hl => ?_)
    refine lv_iload hx hb dX8_casesBy_47 (lv_at hl 1 rfl) ?_
    refine lv_bipush (v := 12) hx hb dX8_casesBy_49 (by decide) ?_
    refine lv_icmp_ne (tgt := 59) hx hb dX8_casesBy_51 (by decide) (fun c_28 => ?_) (fun c_28 => ?_)
    · have fc_28 : r_1.toInt ≠ 12 := zf_ne c_28 rfl (by decide)
      refine lv_iload hx hb dX8_casesBy_59 (lv_at hl 0 rfl) ?_
      refine lv_bipush (v := 12) hx hb dX8_casesBy_61 (by decide) ?_
      refine lv_iload hx hb dX8_casesBy_63 (lv_at hl 1 rfl) ?_
      refine lv_isub hx hb dX8_casesBy_65 ?_
      refine lv_topi (fun x_29 ex_29 => ?_)
      have qx_29 : x_29.toInt = 12 - r_1.toInt := by rw [ex_29]; exact zf_sub (by decide) rfl (by omega) (by omega)
      refine lv_aload_n hx hb dX8_casesBy_66 rfl (lv_at hl 2 rfl) ?_
      refine lv_iload_n hx hb dX8_casesBy_67 rfl (lv_at hl 4 rfl) ?_
      refine lv_iconst (v := 1) hx hb dX8_casesBy_68 (by decide) ?_
      refine lv_isub hx hb dX8_casesBy_69 ?_
      refine lv_topi (fun y_30 ey_30 => ?_)
      obtain rfl : y_30 = 1 := ey_30.trans (by decide)
      refine lv_aload_n hx hb dX8_casesBy_70 rfl (lv_at hl 2 rfl) ?_
      refine lv_iload_n hx hb dX8_casesBy_71 rfl (lv_at hl 3 rfl) ?_
      refine lv_iload_n hx hb dX8_casesBy_72 rfl (lv_at hl 5 rfl) ?_
      refine lv_iconst (v := 0) hx hb dX8_casesBy_73 (by decide) ?_
      have kc0 : (0 : Int32).toInt = 0 := by decide
      refine zc_V (As := [.int p_, .int d, .int 0]) (rest := [.int 1, .ref m0, .int x_29, .int 0]) ⟨hx, hb, hml, hown, hts⟩ (c_F_M_deep l D cI cJ cZ cP cS po m0 mrf mki mpa mta mla msl mco mhe mso msi msh mce mca mwo mnu mte mwa mke mma mth mtr (npu) (nte) (nat_) (nde) (nto) (nse) (nhu) (nga) (nsd) (nfa) (nba) (npl) (nen) (nnu) (nwr) (nra) (nik) gki gpa (p_) (d) (0) hy0 hy1 hy2 hy3 hy4 hy5 hy6 hy7 hy8 hy9 hy10 hy11 hy12 hy13 hy14 hy15 hy16 hy17 (by omega) (by omega) hp_gki hp_gpa) (cwV 3 hts gX8_casesBy_X8_deep rfl rfl rfl ⟨rfl, dh_X8_deep⟩ ⟨Nat.le_of_ble_eq_true rfl, Nat.le_of_ble_eq_true rfl⟩) hK hN hZ hP (hP.sub [0, 1, 2] rfl) (va_recv (q := (RX8, TX8, 38)) hK hP (ci := 8) (q0 := 0) rfl rfl) rfl hl.1 rfl (Nat.le_of_ble_eq_true rfl) dX8_casesBy_74 ⟨Nat.le_of_ble_eq_true rfl, Nat.le_of_ble_eq_true rfl⟩ (fun r_31 hr_31 => ?_)
      obtain ⟨g_32, g_33, hsr_31_0⟩ := hr_31
      refine lv_iload hx hb dX8_casesBy_77 (lv_at hl 6 rfl) ?_
      refine lv_aload_n hx hb dX8_casesBy_79 rfl (lv_at hl 2 rfl) ?_
      refine va_get (D := D) (ci := 8) (v := .ref mta) (C := RX8) (T := TX8) (N := 38) hx hb hts hi_X8_casesBy_8 hown hK hP 0 rfl rfl 13 (by decide) (hts (.fieldLink RX8 35 "TheLiningsInItModel" "takes" "[I") (List.mem_of_getElem? (i := 1) rfl)) (fun _ h9 => h9) rfl dX8_casesBy_80 ?_
      refine lv_iload_n hx hb dX8_casesBy_83 rfl (lv_at hl 3 rfl) ?_
      refine va_iald hx hb hK hP 3 0 rfl rfl (zf_in (by omega) (by omega)) dX8_casesBy_84 ?_
      refine lv_topi (fun x_34 ex_34 => ?_)
      have bx_34 : 0 ≤ x_34.toInt ∧ x_34.toInt ≤ 60 := by rw [ex_34]; exact hp_gta _
      have htx_34 : x_34.toInt ≤ sec.toInt := by (rw [ex_34]; exact htl)
      refine lv_isub hx hb dX8_casesBy_85 ?_
      refine lv_topi (fun x_35 ex_35 => ?_)
      have qx_35 : x_35.toInt = sec.toInt - x_34.toInt := by rw [ex_35]; exact zf_sub rfl rfl (by omega) (by omega)
      refine lv_iload hx hb dX8_casesBy_86 (lv_at hl 7 rfl) ?_
      refine zc_V (As := [.int 1, .int r_31, .int x_35, .int wh]) (rest := [.int x_29, .int 0]) ⟨hx, hb, hml, hown, hts⟩ (c_F_M_mostCases_1 l D cI cJ cZ cP cS po m0 mrf mki mpa mta mla msl mco mhe mso msi msh mce mca mwo mnu mte mwa mke mma mth mtr (npu) (nte) (nat_) (nde) (nto) (nse) (nhu) (nga) (nsd) (nfa) (nba) (npl) (nen) (nnu) (nwr) (nra) (nik) gki gpa gta (r_31) (x_35) (wh) hy0 hy1 hy2 hy3 hy4 hy5 hy6 hy7 hy8 hy9 hy10 hy11 hy12 hy13 (by omega) (by omega) (by omega) (by omega) hy20 hy21 hp_gki hp_gpa hp_gta) (cwV 4 hts gX8_casesBy_X8_mostCases rfl rfl rfl ⟨rfl, dh_X8_mostCases⟩ ⟨Nat.le_of_ble_eq_true rfl, Nat.le_of_ble_eq_true rfl⟩) hK hN hZ hP (hP.sub [0, 1, 2, 3] rfl) (va_recv (q := (RX8, TX8, 38)) hK hP (ci := 8) (q0 := 0) rfl rfl) rfl hl.1 rfl (Nat.le_of_ble_eq_true rfl) dX8_casesBy_88 ⟨Nat.le_of_ble_eq_true rfl, Nat.le_of_ble_eq_true rfl⟩ (fun r_36 hr_36 => ?_)
      obtain ⟨g_37, g_38, hsr_36_0⟩ := hr_36
      refine lv_imul hx hb dX8_casesBy_91 ?_
      refine lv_topi (fun x_39 ex_39 => ?_)
      obtain ⟨mx_39, nx_39, ox_39⟩ := zf_mulc (a := x_29) (b := r_36) (x := x_29.toInt) (y := r_36.toInt) (P := 12) rfl rfl ⟨by omega, by omega⟩ ⟨by omega, by omega⟩ (by decide)
      rw [← ex_39] at mx_39
      refine lv_iadd hx hb dX8_casesBy_92 ?_
      refine lv_topi (fun x_40 ex_40 => ?_)
      have qx_40 : x_40.toInt = 0 + x_39.toInt := by rw [ex_40]; exact zf_add (by decide) rfl (by omega) (by omega)
      exact W.iret (v := x_40) hx hb hr (fun t ht hW => ⟨x_40, rfl, ⟨by omega, by omega, (show (x_40 : Int32).toInt = zBy1 (zM gki gpa gta npu.toInt.toNat nhu.toInt (if wh.toInt = 0 then 1 else 0) 1) (gki p_.toNatClampNeg).toInt (gpa p_.toNatClampNeg).toInt (gta p_.toNatClampNeg).toInt nhu.toInt d.toInt sec.toInt from by (have zw := hsr_1_0; have E1 : r_1.toInt * (zM gki gpa gta npu.toInt.toNat nhu.toInt (if wh.toInt = 0 then 1 else 0) 1) (zShl (gki p_.toNatClampNeg).toInt (gpa p_.toNatClampNeg).toInt d.toInt) (sec.toInt - (gta p_.toNatClampNeg).toInt) = 0 := (by rw [show r_1.toInt = 0 from by omega, Int.zero_mul]); have E2 : (12 - r_1.toInt) * (zM gki gpa gta npu.toInt.toNat nhu.toInt (if wh.toInt = 0 then 1 else 0) 1) (zDpr (gki p_.toNatClampNeg).toInt (gpa p_.toNatClampNeg).toInt nhu.toInt d.toInt) (sec.toInt - (gta p_.toNatClampNeg).toInt) = x_39.toInt := (by rw [← hsr_31_0.2 (by decide), show sec.toInt - (gta p_.toNatClampNeg).toInt = (x_35 : Int32).toInt from by (have z : (gta p_.toNatClampNeg).toInt = x_34.toInt := (by rw [ex_34]); omega), ← hsr_36_0, show 12 - r_1.toInt = x_29.toInt from by omega]; omega); unfold zBy1; rw [← zw, E1, E2]; omega))⟩, ht⟩) (fun q hq => by cases hq) dX8_casesBy_93
    · exfalso; have fc_28 : r_1.toInt = 12 := zf_eq c_28 rfl (by decide); omega
set_option maxHeartbeats 4000000 in
set_option maxRecDepth 100000 in
theorem c_F_M_mostCases_2 (l : Launch) (D : va_G) (cI cJ cZ cP cS : ClassId) (po : zPool) (m0 mrf mki mpa mta mla msl mco mhe mso msi msh mce mca mwo mnu mte mwa mke mma mth mtr : Nat) (npu nte nat_ nde nto nse nhu nga nsd nfa nba npl nen nnu nwr nra nik : Int32) (gki gpa gta : Nat → Int32) (d sec wh : Int32) (hy0 : 0 ≤ npu.toInt) (hy1 : npu.toInt ≤ 8) (hy2 : 4 ≤ nte.toInt) (hy3 : nte.toInt ≤ 40) (hy4 : 0 ≤ nat_.toInt) (hy5 : nat_.toInt ≤ 40) (hy6 : 0 ≤ nde.toInt) (hy7 : nde.toInt ≤ 24) (hy8 : 0 ≤ nhu.toInt) (hy9 : nhu.toInt ≤ 9) (hy10 : 0 ≤ nra.toInt) (hy11 : nra.toInt ≤ 2000) (hy12 : 0 ≤ nik.toInt) (hy13 : nik.toInt ≤ 1) (hy14 : 0 ≤ d.toInt) (hy15 : d.toInt ≤ 24) (hy16 : 0 ≤ sec.toInt) (hy17 : sec.toInt ≤ 300) (hy18 : 0 ≤ wh.toInt) (hy19 : wh.toInt ≤ 1) (hp_gki : zRg gki (0) 6) (hp_gpa : zRg gpa (0) 9) (hp_gta : zRg gta (0) 60) : Met l yX8_mostCases wsX8_mostCases ({ frames := 5, cells := 0, slots := 0, locals := 129 }) (va_Pc [.ref m0, .int 2, .int d, .int sec, .int wh] (zR D (zKT cI cJ cZ cP cS) po [(zMO m0 npu nte nat_ nde nto nse nhu nga nsd nfa mrf mki mpa mta mla msl mco mhe mso msi msh mce mca mwo mnu mte nba npl nen nnu nwr mwa mke mma mth mtr nra nik), (mki, .inl (cI, 8, .inl gki)), (mpa, .inl (cI, 8, .inl gpa)), (mta, .inl (cI, 8, .inl gta))])) (vp_Si (fun r => 0 ≤ r.toInt ∧ r.toInt ≤ 144 ∧ (r.toInt = (zM gki gpa gta npu.toInt.toNat nhu.toInt (if wh.toInt = 0 then 1 else 0) 2) d.toInt sec.toInt))) 0 0 (fun _ => False) := by
  refine Met.ofW (cc := cX8_mostCases) (maxL := 8) (ret := (some .int)) (by decide) rfl ?_
  intro p e s m args below meth c s₁ B hml hv
  obtain ⟨rfl, hP, hK, hN, hZ⟩ := hv
  have hx := B.exec
  have hb := B.bytes
  have hr := B.returns
  have hts := atoms_spec (ws := wsX8_mostCases) B.pre
  have hown : s.vm.findClass RX8 = some m.cls := findClass_of_methodNamed B.named
  have hlocks := B.notSynchronized
  have hl := lv_entry ([.ref m0, .int 2, .int d, .int sec, .int wh]) (n := 8) (Nat.le_of_ble_eq_true rfl)
  rw [lg_entry_eq]
  generalize (lg_sl ([.ref m0, .int 2, .int d, .int sec, .int wh]) ++ List.replicate (8 - (lg_sl ([.ref m0, .int 2, .int d, .int sec, .int wh])).length) Slot.unset).toArray = ls at hl ⊢
  replace hl : lv_has ls 8 [(0, .ref m0), (1, .int 2), (2, .int d), (3, .int sec), (4, .int wh)] := hl
  refine lv_iload_n hx hb dX8_mostCases_0 rfl (lv_at hl 2 rfl) ?_
  refine lv_if_ne (tgt := 10) hx hb dX8_mostCases_1 (by decide) (fun c_1 => ?_) (fun c_1 => ?_)
  · have fc_1 : d.toInt ≠ 0 := zf_ne c_1 rfl (by decide)
    refine lv_iload_n hx hb dX8_mostCases_10 rfl (lv_at hl 1 rfl) ?_
    refine lv_if_ne (tgt := 16) hx hb dX8_mostCases_11 (by decide) (fun c_2 => ?_) (fun c_2 => ?_)
    · refine lv_bipush (v := 12) hx hb dX8_mostCases_16 (by decide) ?_
      refine lv_aload_n hx hb dX8_mostCases_18 rfl (lv_at hl 0 rfl) ?_
      refine lv_iload_n hx hb dX8_mostCases_19 rfl (lv_at hl 1 rfl) ?_
      refine lv_iconst (v := 1) hx hb dX8_mostCases_20 (by decide) ?_
      refine lv_isub hx hb dX8_mostCases_21 ?_
      refine lv_topi (fun y_3 ey_3 => ?_)
      obtain rfl : y_3 = 1 := ey_3.trans (by decide)
      refine lv_iload_n hx hb dX8_mostCases_22 rfl (lv_at hl 2 rfl) ?_
      refine lv_iload_n hx hb dX8_mostCases_23 rfl (lv_at hl 3 rfl) ?_
      refine lv_iload hx hb dX8_mostCases_24 (lv_at hl 4 rfl) ?_
      refine zc_V (As := [.int 1, .int d, .int sec, .int wh]) (rest := [.int 12]) ⟨hx, hb, hml, hown, hts⟩ (c_F_M_mostCases_1 l D cI cJ cZ cP cS po m0 mrf mki mpa mta mla msl mco mhe mso msi msh mce mca mwo mnu mte mwa mke mma mth mtr (npu) (nte) (nat_) (nde) (nto) (nse) (nhu) (nga) (nsd) (nfa) (nba) (npl) (nen) (nnu) (nwr) (nra) (nik) gki gpa gta (d) (sec) (wh) hy0 hy1 hy2 hy3 hy4 hy5 hy6 hy7 hy8 hy9 hy10 hy11 hy12 hy13 hy14 hy15 hy16 hy17 hy18 hy19 hp_gki hp_gpa hp_gta) (cwV 4 hts gX8_mostCases_X8_mostCases rfl rfl rfl ⟨rfl, dh_X8_mostCases⟩ ⟨Nat.le_of_ble_eq_true rfl, Nat.le_of_ble_eq_true rfl⟩) hK hN hZ hP (hP.sub [0, 1, 2, 3] rfl) (va_recv (q := (RX8, TX8, 38)) hK hP (ci := 8) (q0 := 0) rfl rfl) rfl hl.1 rfl (Nat.le_of_ble_eq_true rfl) dX8_mostCases_26 ⟨Nat.le_of_ble_eq_true rfl, Nat.le_of_ble_eq_true rfl⟩ (fun r_4 hr_4 => ?_)
      obtain ⟨g_5, g_6, hsr_4_0⟩ := hr_4
      refine lv_imul hx hb dX8_mostCases_29 ?_
      refine lv_topi (fun x_7 ex_7 => ?_)
      have qx_7 : x_7.toInt = 12 * r_4.toInt := by rw [ex_7]; exact zf_mul (by decide) rfl (by omega) (by omega)
      refine lv_istore (lv' := [(5, .int x_7), (0, .ref m0), (1, .int 2), (2, .int d), (3, .int sec), (4, .int wh)]) hx hb dX8_mostCases_30 hl (by decide) rfl (fun ls hl => ?_)
      refine lv_iconst (v := 0) hx hb dX8_mostCases_32 (by decide) ?_
      refine lv_istore (lv' := [(6, .int 0), (5, .int x_7), (0, .ref m0), (1, .int 2), (2, .int d), (3, .int sec), (4, .int wh)]) hx hb dX8_mostCases_33 hl (by decide) rfl (fun ls hl => ?_)
      obtain ⟨i_35, hi_35⟩ : ∃ i : Int32, i = 0 := ⟨_, rfl⟩
      replace hl : lv_has ls 8 [(6, .int i_35), (5, .int x_7), (0, .ref m0), (1, .int 2), (2, .int d), (3, .int sec), (4, .int wh)] := by rw [hi_35]; exact lv_sub hl [0, 1, 2, 3, 4, 5, 6] rfl
      have h1i_35 : i_35.toInt = 0 := by rw [hi_35]; decide
      obtain ⟨nfu, hni_35⟩ : ∃ nq9 : Nat, npu.toInt ≤ i_35.toInt + (nq9 : Int) := ⟨((npu.toInt : Int) - 0).toNat, by omega⟩
      have hloi_35 : 0 ≤ i_35.toInt := by omega
      obtain ⟨v_8, hv_8⟩ : ∃ g : Int32, g = x_7 := ⟨_, rfl⟩
      replace hl : lv_has ls 8 [(6, .int i_35), (5, .int v_8), (0, .ref m0), (1, .int 2), (2, .int d), (3, .int sec), (4, .int wh)] := by rw [hv_8]; exact hl
      have hbv_8 : 0 ≤ v_8.toInt ∧ v_8.toInt ≤ 144 := by rw [hv_8]; exact ⟨by omega, by omega⟩
      have hvi_35_0 : (v_8 : Int32).toInt = zFo gki gta (if wh.toInt = 0 then 1 else 0) d.toInt sec.toInt (12 * (zM gki gpa gta npu.toInt.toNat nhu.toInt (if wh.toInt = 0 then 1 else 0) 1) d.toInt sec.toInt) (zBy (zM gki gpa gta npu.toInt.toNat nhu.toInt (if wh.toInt = 0 then 1 else 0) 1) gki gpa gta nhu.toInt d.toInt sec.toInt) i_35.toInt.toNat := by
        (try rw [hi_35]); (try rw [hv_8]); (rw [(show ((0 : Int32).toInt.toNat) = 0 from by decide)]; have z := hsr_4_0; show _ = 12 * (zM gki gpa gta npu.toInt.toNat nhu.toInt (if wh.toInt = 0 then 1 else 0) 1) d.toInt sec.toInt; rw [← z]; omega)
      have hvi_35_1 : i_35.toInt ≤ npu.toInt := by
        (try rw [hi_35]); (try rw [hv_8]); (have k0 : (0 : Int32).toInt = 0 := (by decide); omega)
      clear h1i_35 hi_35 hv_8
      revert hni_35
      revert hloi_35
      revert hvi_35_1
      revert hvi_35_0
      revert hbv_8
      revert hl
      revert ls
      revert v_8
      revert i_35
      induction nfu with
      | zero =>
        intro i_35 v_8 ls hl hbv_8 hvi_35_0 hvi_35_1 hloi_35 hni_35
        have hzi_35 : npu.toInt ≤ i_35.toInt := by omega
        refine lv_iload hx hb dX8_mostCases_35 (lv_at hl 0 rfl) ?_
        refine lv_aload_n hx hb dX8_mostCases_37 rfl (lv_at hl 2 rfl) ?_
        refine va_get (D := D) (ci := 8) (v := .int npu) (C := RX8) (T := TX8) (N := 38) hx hb hts hi_X8_mostCases_8 hown hK hP 0 rfl rfl 0 (by decide) (hts (.fieldLink RX8 90 "TheLiningsInItModel" "pulls" "I") (List.mem_of_getElem? (i := 1) rfl)) (fun _ h9 => h9) rfl dX8_mostCases_38 ?_
        refine lv_icmp_ge (tgt := 109) hx hb dX8_mostCases_41 (by decide) (fun c_9 => ?_) (fun c_9 => ?_)
        · have fc_9 : npu.toInt ≤ i_35.toInt := zf_le c_9 rfl rfl
          refine lv_iload hx hb dX8_mostCases_109 (lv_at hl 1 rfl) ?_
          exact W.iret (v := v_8) hx hb hr (fun t ht hW => ⟨v_8, rfl, ⟨by omega, by omega, (show (v_8 : Int32).toInt = (zM gki gpa gta npu.toInt.toNat nhu.toInt (if wh.toInt = 0 then 1 else 0) 2) d.toInt sec.toInt from by (have h9 : i_35.toInt.toNat = npu.toInt.toNat := (by omega); have z := hvi_35_0; rw [h9, zM_ref (by omega)] at z; exact z))⟩, ht⟩) (fun q hq => by cases hq) dX8_mostCases_111
        · exfalso; have fc_9 : i_35.toInt < npu.toInt := zf_nle c_9 rfl rfl; omega
      | succ nfu ih =>
        intro i_35 v_8 ls hl hbv_8 hvi_35_0 hvi_35_1 hloi_35 hni_35
        refine lv_iload hx hb dX8_mostCases_35 (lv_at hl 0 rfl) ?_
        refine lv_aload_n hx hb dX8_mostCases_37 rfl (lv_at hl 2 rfl) ?_
        refine va_get (D := D) (ci := 8) (v := .int npu) (C := RX8) (T := TX8) (N := 38) hx hb hts hi_X8_mostCases_8 hown hK hP 0 rfl rfl 0 (by decide) (hts (.fieldLink RX8 90 "TheLiningsInItModel" "pulls" "I") (List.mem_of_getElem? (i := 1) rfl)) (fun _ h9 => h9) rfl dX8_mostCases_38 ?_
        refine lv_icmp_ge (tgt := 109) hx hb dX8_mostCases_41 (by decide) (fun c_10 => ?_) (fun c_10 => ?_)
        · have fc_10 : npu.toInt ≤ i_35.toInt := zf_le c_10 rfl rfl
          refine lv_iload hx hb dX8_mostCases_109 (lv_at hl 1 rfl) ?_
          exact W.iret (v := v_8) hx hb hr (fun t ht hW => ⟨v_8, rfl, ⟨by omega, by omega, (show (v_8 : Int32).toInt = (zM gki gpa gta npu.toInt.toNat nhu.toInt (if wh.toInt = 0 then 1 else 0) 2) d.toInt sec.toInt from by (have h9 : i_35.toInt.toNat = npu.toInt.toNat := (by omega); have z := hvi_35_0; rw [h9, zM_ref (by omega)] at z; exact z))⟩, ht⟩) (fun q hq => by cases hq) dX8_mostCases_111
        · have fc_10 : i_35.toInt < npu.toInt := zf_nle c_10 rfl rfl
          refine lv_aload_n hx hb dX8_mostCases_44 rfl (lv_at hl 2 rfl) ?_
          refine lv_iload hx hb dX8_mostCases_45 (lv_at hl 0 rfl) ?_
          refine lv_iload_n hx hb dX8_mostCases_47 rfl (lv_at hl 4 rfl) ?_
          refine lv_iload_n hx hb dX8_mostCases_48 rfl (lv_at hl 5 rfl) ?_
          refine zc_V (As := [.int i_35, .int d, .int sec]) (rest := []) ⟨hx, hb, hml, hown, hts⟩ (c_F_M_mayBe l D cI cJ cZ cP cS po m0 mrf mki mpa mta mla msl mco mhe mso msi msh mce mca mwo mnu mte mwa mke mma mth mtr (npu) (nte) (nat_) (nde) (nto) (nse) (nhu) (nga) (nsd) (nfa) (nba) (npl) (nen) (nnu) (nwr) (nra) (nik) gta (i_35) (d) (sec) hy0 hy1 hy2 hy3 hy4 hy5 hy6 hy7 hy8 hy9 hy10 hy11 hy12 hy13 (by omega) (by omega) hp_gta) (cwV 3 hts gX8_mostCases_X8_mayBe rfl rfl rfl ⟨rfl, dh_X8_mayBe⟩ ⟨Nat.le_of_ble_eq_true rfl, Nat.le_of_ble_eq_true rfl⟩) hK hN hZ hP (hP.sub [0, 3] rfl) (va_recv (q := (RX8, TX8, 38)) hK hP (ci := 8) (q0 := 0) rfl rfl) rfl hl.1 rfl (Nat.le_of_ble_eq_true rfl) dX8_mostCases_49 ⟨Nat.le_of_ble_eq_true rfl, Nat.le_of_ble_eq_true rfl⟩ (fun r_11 hr_11 => ?_)
          obtain ⟨g_12, g_13, hsr_11_0⟩ := hr_11
          refine lv_if_eq (tgt := 103) hx hb dX8_mostCases_52 (by decide) (fun c_14 => ?_) (fun c_14 => ?_)
          · have fc_14 : r_11.toInt = 0 := zf_eq c_14 rfl (by decide)
            obtain ⟨x_15, ex_15⟩ : ∃ y : Int32, y = i_35 + 1 := ⟨_, rfl⟩
            have qx_15 : x_15.toInt = i_35.toInt + 1 := dw_inc ex_15 fc_10
            refine lv_iinc (v := x_15) (lv' := [(6, .int x_15), (5, .int v_8), (0, .ref m0), (1, .int 2), (2, .int d), (3, .int sec), (4, .int wh)]) hx hb dX8_mostCases_103 hl (k := 0) rfl ex_15.symm (by decide) rfl (fun ls hl => ?_)
            refine lv_goto (tgt := 35) hx hb dX8_mostCases_106 (by decide) ?_
            exact ih x_15 v_8 _ (lv_sub hl [0, 1, 2, 3, 4, 5, 6] rfl) hbv_8 (show (v_8 : Int32).toInt = zFo gki gta (if wh.toInt = 0 then 1 else 0) d.toInt sec.toInt (12 * (zM gki gpa gta npu.toInt.toNat nhu.toInt (if wh.toInt = 0 then 1 else 0) 1) d.toInt sec.toInt) (zBy (zM gki gpa gta npu.toInt.toNat nhu.toInt (if wh.toInt = 0 then 1 else 0) 1) gki gpa gta nhu.toInt d.toInt sec.toInt) x_15.toInt.toNat from by (have hx : x_15.toInt.toNat = i_35.toInt.toNat + 1 := (by omega); have y9 : i_35.toNatClampNeg = i_35.toInt.toNat := rfl; have hm := hsr_11_0; rw [y9] at hm; have no : ¬ zOk gki gta (if wh.toInt = 0 then 1 else 0) d.toInt sec.toInt i_35.toInt.toNat := (fun z => by first | (have z1 := hm.mpr ⟨z.1, z.2.1⟩; omega) | (have z3 := z.2.2; rw [if_neg (by omega)] at z3; omega)); rw [hx, zFo_n no]; exact hvi_35_0)) (show x_15.toInt ≤ npu.toInt from by omega) (dw_lo hloi_35 qx_15) (dw_hn hni_35 qx_15)
          · have fc_14 : r_11.toInt ≠ 0 := zf_ne c_14 rfl (by decide)
            refine lv_iload hx hb dX8_mostCases_55 (lv_at hl 6 rfl) ?_
            refine lv_if_eq (tgt := 74) hx hb dX8_mostCases_57 (by decide) (fun c_16 => ?_) (fun c_16 => ?_)
            · have fc_16 : wh.toInt = 0 := zf_eq c_16 rfl (by decide)
              have htl9 : (gta i_35.toNatClampNeg).toInt ≤ sec.toInt := (hsr_11_0.mp (by omega)).2
              refine lv_aload_n hx hb dX8_mostCases_74 rfl (lv_at hl 2 rfl) ?_
              refine lv_iload hx hb dX8_mostCases_75 (lv_at hl 0 rfl) ?_
              refine lv_iload_n hx hb dX8_mostCases_77 rfl (lv_at hl 3 rfl) ?_
              refine lv_iload_n hx hb dX8_mostCases_78 rfl (lv_at hl 4 rfl) ?_
              refine lv_iload_n hx hb dX8_mostCases_79 rfl (lv_at hl 5 rfl) ?_
              refine lv_iload hx hb dX8_mostCases_80 (lv_at hl 6 rfl) ?_
              refine zc_V (As := [.int i_35, .int 2, .int d, .int sec, .int wh]) (rest := []) ⟨hx, hb, hml, hown, hts⟩ (c_F_M_casesBy_2 l D cI cJ cZ cP cS po m0 mrf mki mpa mta mla msl mco mhe mso msi msh mce mca mwo mnu mte mwa mke mma mth mtr (npu) (nte) (nat_) (nde) (nto) (nse) (nhu) (nga) (nsd) (nfa) (nba) (npl) (nen) (nnu) (nwr) (nra) (nik) gki gpa gta (i_35) (d) (sec) (wh) hy0 hy1 hy2 hy3 hy4 hy5 hy6 hy7 hy8 hy9 hy10 hy11 hy12 hy13 (by omega) (by omega) hy14 hy15 hy16 hy17 hy18 hy19 (by first | assumption | omega) hp_gki hp_gpa hp_gta) (cwV 5 hts gX8_mostCases_X8_casesBy rfl rfl rfl ⟨rfl, dh_X8_casesBy⟩ ⟨Nat.le_of_ble_eq_true rfl, Nat.le_of_ble_eq_true rfl⟩) hK hN hZ hP (hP.sub [0, 1, 2, 3] rfl) (va_recv (q := (RX8, TX8, 38)) hK hP (ci := 8) (q0 := 0) rfl rfl) rfl hl.1 rfl (Nat.le_of_ble_eq_true rfl) dX8_mostCases_82 ⟨Nat.le_of_ble_eq_true rfl, Nat.le_of_ble_eq_true rfl⟩ (fun r_17 hr_17 => ?_)
              obtain ⟨g_18, g_19, hsr_17_0⟩ := hr_17
              refine lv_istore (lv' := [(7, .int r_17), (6, .int i_35), (5, .int v_8), (0, .ref m0), (1, .int 2), (2, .int d), (3, .int sec), (4, .int wh)]) hx hb dX8_mostCases_85 hl (by decide) rfl (fun ls hl => ?_)
              refine lv_iload hx hb dX8_mostCases_87 (lv_at hl 0 rfl) ?_
              refine lv_iload hx hb dX8_mostCases_89 (lv_at hl 2 rfl) ?_
              refine lv_icmp_le (tgt := 99) hx hb dX8_mostCases_91 (by decide) (fun c_20 => ?_) (fun c_20 => ?_)
              · have fc_20 : r_17.toInt ≤ v_8.toInt := zf_le c_20 rfl rfl
                refine lv_iload hx hb dX8_mostCases_99 (lv_at hl 2 rfl) ?_
                refine lv_istore (lv' := [(5, .int v_8), (7, .int r_17), (6, .int i_35), (0, .ref m0), (1, .int 2), (2, .int d), (3, .int sec), (4, .int wh)]) hx hb dX8_mostCases_101 hl (by decide) rfl (fun ls hl => ?_)
                obtain ⟨x_21, ex_21⟩ : ∃ y : Int32, y = i_35 + 1 := ⟨_, rfl⟩
                have qx_21 : x_21.toInt = i_35.toInt + 1 := dw_inc ex_21 fc_10
                refine lv_iinc (v := x_21) (lv' := [(6, .int x_21), (5, .int v_8), (7, .int r_17), (0, .ref m0), (1, .int 2), (2, .int d), (3, .int sec), (4, .int wh)]) hx hb dX8_mostCases_103 hl (k := 2) rfl ex_21.symm (by decide) rfl (fun ls hl => ?_)
                refine lv_goto (tgt := 35) hx hb dX8_mostCases_106 (by decide) ?_
                exact ih x_21 v_8 _ (lv_sub hl [0, 1, 3, 4, 5, 6, 7] rfl) hbv_8 (show (v_8 : Int32).toInt = zFo gki gta (if wh.toInt = 0 then 1 else 0) d.toInt sec.toInt (12 * (zM gki gpa gta npu.toInt.toNat nhu.toInt (if wh.toInt = 0 then 1 else 0) 1) d.toInt sec.toInt) (zBy (zM gki gpa gta npu.toInt.toNat nhu.toInt (if wh.toInt = 0 then 1 else 0) 1) gki gpa gta nhu.toInt d.toInt sec.toInt) x_21.toInt.toNat from by (have hx : x_21.toInt.toNat = i_35.toInt.toNat + 1 := (by omega); have y9 : i_35.toNatClampNeg = i_35.toInt.toNat := rfl; have hm := hsr_11_0; rw [y9] at hm; have ok : zOk gki gta (if wh.toInt = 0 then 1 else 0) d.toInt sec.toInt i_35.toInt.toNat := ⟨(hm.mp (by omega)).1, (hm.mp (by omega)).2, (by first | exact Or.inl (by rw [if_pos (by omega)]; decide) | exact Or.inr (by omega))⟩; rw [hx, zFo_y ok, ← hvi_35_0]; have zr := hsr_17_0; rw [y9] at zr; have zr2 : r_17.toInt = (zBy (zM gki gpa gta npu.toInt.toNat nhu.toInt (if wh.toInt = 0 then 1 else 0) 1) gki gpa gta nhu.toInt d.toInt sec.toInt) i_35.toInt.toNat := zr; omega)) (show x_21.toInt ≤ npu.toInt from by omega) (dw_lo hloi_35 qx_21) (dw_hn hni_35 qx_21)
              · have fc_20 : v_8.toInt < r_17.toInt := zf_nle c_20 rfl rfl
                refine lv_iload hx hb dX8_mostCases_94 (lv_at hl 0 rfl) ?_
                refine lv_goto (tgt := 101) hx hb dX8_mostCases_96 (by decide) ?_
                refine lv_istore (lv' := [(5, .int r_17), (7, .int r_17), (6, .int i_35), (0, .ref m0), (1, .int 2), (2, .int d), (3, .int sec), (4, .int wh)]) hx hb dX8_mostCases_101 hl (by decide) rfl (fun ls hl => ?_)
                obtain ⟨x_22, ex_22⟩ : ∃ y : Int32, y = i_35 + 1 := ⟨_, rfl⟩
                have qx_22 : x_22.toInt = i_35.toInt + 1 := dw_inc ex_22 fc_10
                refine lv_iinc (v := x_22) (lv' := [(6, .int x_22), (5, .int r_17), (7, .int r_17), (0, .ref m0), (1, .int 2), (2, .int d), (3, .int sec), (4, .int wh)]) hx hb dX8_mostCases_103 hl (k := 2) rfl ex_22.symm (by decide) rfl (fun ls hl => ?_)
                refine lv_goto (tgt := 35) hx hb dX8_mostCases_106 (by decide) ?_
                exact ih x_22 r_17 _ (lv_sub hl [0, 1, 3, 4, 5, 6, 7] rfl) ⟨by omega, by omega⟩ (show (r_17 : Int32).toInt = zFo gki gta (if wh.toInt = 0 then 1 else 0) d.toInt sec.toInt (12 * (zM gki gpa gta npu.toInt.toNat nhu.toInt (if wh.toInt = 0 then 1 else 0) 1) d.toInt sec.toInt) (zBy (zM gki gpa gta npu.toInt.toNat nhu.toInt (if wh.toInt = 0 then 1 else 0) 1) gki gpa gta nhu.toInt d.toInt sec.toInt) x_22.toInt.toNat from by (have hx : x_22.toInt.toNat = i_35.toInt.toNat + 1 := (by omega); have y9 : i_35.toNatClampNeg = i_35.toInt.toNat := rfl; have hm := hsr_11_0; rw [y9] at hm; have ok : zOk gki gta (if wh.toInt = 0 then 1 else 0) d.toInt sec.toInt i_35.toInt.toNat := ⟨(hm.mp (by omega)).1, (hm.mp (by omega)).2, (by first | exact Or.inl (by rw [if_pos (by omega)]; decide) | exact Or.inr (by omega))⟩; rw [hx, zFo_y ok, ← hvi_35_0]; have zr := hsr_17_0; rw [y9] at zr; have zr2 : r_17.toInt = (zBy (zM gki gpa gta npu.toInt.toNat nhu.toInt (if wh.toInt = 0 then 1 else 0) 1) gki gpa gta nhu.toInt d.toInt sec.toInt) i_35.toInt.toNat := zr; omega)) (show x_22.toInt ≤ npu.toInt from by omega) (dw_lo hloi_35 qx_22) (dw_hn hni_35 qx_22)
            · have fc_16 : wh.toInt ≠ 0 := zf_ne c_16 rfl (by decide)
              refine lv_aload_n hx hb dX8_mostCases_60 rfl (lv_at hl 2 rfl) ?_
              refine va_get (D := D) (ci := 8) (v := .ref mki) (C := RX8) (T := TX8) (N := 38) hx hb hts hi_X8_mostCases_8 hown hK hP 0 rfl rfl 11 (by decide) (hts (.fieldLink RX8 29 "TheLiningsInItModel" "kind" "[I") (List.mem_of_getElem? (i := 2) rfl)) (fun _ h9 => h9) rfl dX8_mostCases_61 ?_
              refine lv_iload hx hb dX8_mostCases_64 (lv_at hl 0 rfl) ?_
              refine va_iald hx hb hK hP 1 0 rfl rfl (zf_in (by omega) (by omega)) dX8_mostCases_66 ?_
              refine lv_topi (fun x_23 ex_23 => ?_)
              have bx_23 : 0 ≤ x_23.toInt ∧ x_23.toInt ≤ 6 := by rw [ex_23]; exact hp_gki _
              refine lv_iconst (v := 5) hx hb dX8_mostCases_67 (by decide) ?_
              refine lv_icmp_ne (tgt := 74) hx hb dX8_mostCases_68 (by decide) (fun c_24 => ?_) (fun c_24 => ?_)
              · have fc_24 : x_23.toInt ≠ 5 := zf_ne c_24 rfl (by decide)
                have htl9 : (gta i_35.toNatClampNeg).toInt ≤ sec.toInt := (hsr_11_0.mp (by omega)).2
                refine lv_aload_n hx hb dX8_mostCases_74 rfl (lv_at hl 2 rfl) ?_
                refine lv_iload hx hb dX8_mostCases_75 (lv_at hl 0 rfl) ?_
                refine lv_iload_n hx hb dX8_mostCases_77 rfl (lv_at hl 3 rfl) ?_
                refine lv_iload_n hx hb dX8_mostCases_78 rfl (lv_at hl 4 rfl) ?_
                refine lv_iload_n hx hb dX8_mostCases_79 rfl (lv_at hl 5 rfl) ?_
                refine lv_iload hx hb dX8_mostCases_80 (lv_at hl 6 rfl) ?_
                refine zc_V (As := [.int i_35, .int 2, .int d, .int sec, .int wh]) (rest := []) ⟨hx, hb, hml, hown, hts⟩ (c_F_M_casesBy_2 l D cI cJ cZ cP cS po m0 mrf mki mpa mta mla msl mco mhe mso msi msh mce mca mwo mnu mte mwa mke mma mth mtr (npu) (nte) (nat_) (nde) (nto) (nse) (nhu) (nga) (nsd) (nfa) (nba) (npl) (nen) (nnu) (nwr) (nra) (nik) gki gpa gta (i_35) (d) (sec) (wh) hy0 hy1 hy2 hy3 hy4 hy5 hy6 hy7 hy8 hy9 hy10 hy11 hy12 hy13 (by omega) (by omega) hy14 hy15 hy16 hy17 hy18 hy19 (by first | assumption | omega) hp_gki hp_gpa hp_gta) (cwV 5 hts gX8_mostCases_X8_casesBy rfl rfl rfl ⟨rfl, dh_X8_casesBy⟩ ⟨Nat.le_of_ble_eq_true rfl, Nat.le_of_ble_eq_true rfl⟩) hK hN hZ hP (hP.sub [0, 1, 2, 3] rfl) (va_recv (q := (RX8, TX8, 38)) hK hP (ci := 8) (q0 := 0) rfl rfl) rfl hl.1 rfl (Nat.le_of_ble_eq_true rfl) dX8_mostCases_82 ⟨Nat.le_of_ble_eq_true rfl, Nat.le_of_ble_eq_true rfl⟩ (fun r_25 hr_25 => ?_)
                obtain ⟨g_26, g_27, hsr_25_0⟩ := hr_25
                refine lv_istore (lv' := [(7, .int r_25), (6, .int i_35), (5, .int v_8), (0, .ref m0), (1, .int 2), (2, .int d), (3, .int sec), (4, .int wh)]) hx hb dX8_mostCases_85 hl (by decide) rfl (fun ls hl => ?_)
                refine lv_iload hx hb dX8_mostCases_87 (lv_at hl 0 rfl) ?_
                refine lv_iload hx hb dX8_mostCases_89 (lv_at hl 2 rfl) ?_
                refine lv_icmp_le (tgt := 99) hx hb dX8_mostCases_91 (by decide) (fun c_28 => ?_) (fun c_28 => ?_)
                · have fc_28 : r_25.toInt ≤ v_8.toInt := zf_le c_28 rfl rfl
                  refine lv_iload hx hb dX8_mostCases_99 (lv_at hl 2 rfl) ?_
                  refine lv_istore (lv' := [(5, .int v_8), (7, .int r_25), (6, .int i_35), (0, .ref m0), (1, .int 2), (2, .int d), (3, .int sec), (4, .int wh)]) hx hb dX8_mostCases_101 hl (by decide) rfl (fun ls hl => ?_)
                  obtain ⟨x_29, ex_29⟩ : ∃ y : Int32, y = i_35 + 1 := ⟨_, rfl⟩
                  have qx_29 : x_29.toInt = i_35.toInt + 1 := dw_inc ex_29 fc_10
                  refine lv_iinc (v := x_29) (lv' := [(6, .int x_29), (5, .int v_8), (7, .int r_25), (0, .ref m0), (1, .int 2), (2, .int d), (3, .int sec), (4, .int wh)]) hx hb dX8_mostCases_103 hl (k := 2) rfl ex_29.symm (by decide) rfl (fun ls hl => ?_)
                  refine lv_goto (tgt := 35) hx hb dX8_mostCases_106 (by decide) ?_
                  exact ih x_29 v_8 _ (lv_sub hl [0, 1, 3, 4, 5, 6, 7] rfl) hbv_8 (show (v_8 : Int32).toInt = zFo gki gta (if wh.toInt = 0 then 1 else 0) d.toInt sec.toInt (12 * (zM gki gpa gta npu.toInt.toNat nhu.toInt (if wh.toInt = 0 then 1 else 0) 1) d.toInt sec.toInt) (zBy (zM gki gpa gta npu.toInt.toNat nhu.toInt (if wh.toInt = 0 then 1 else 0) 1) gki gpa gta nhu.toInt d.toInt sec.toInt) x_29.toInt.toNat from by (have hx : x_29.toInt.toNat = i_35.toInt.toNat + 1 := (by omega); have y9 : i_35.toNatClampNeg = i_35.toInt.toNat := rfl; have hm := hsr_11_0; rw [y9] at hm; have nk : (gki i_35.toInt.toNat).toInt = x_23.toInt := (by rw [ex_23]; rfl); have ok : zOk gki gta (if wh.toInt = 0 then 1 else 0) d.toInt sec.toInt i_35.toInt.toNat := ⟨(hm.mp (by omega)).1, (hm.mp (by omega)).2, (by first | exact Or.inl (by rw [if_pos (by omega)]; decide) | exact Or.inr (by omega))⟩; rw [hx, zFo_y ok, ← hvi_35_0]; have zr := hsr_25_0; rw [y9] at zr; have zr2 : r_25.toInt = (zBy (zM gki gpa gta npu.toInt.toNat nhu.toInt (if wh.toInt = 0 then 1 else 0) 1) gki gpa gta nhu.toInt d.toInt sec.toInt) i_35.toInt.toNat := zr; omega)) (show x_29.toInt ≤ npu.toInt from by omega) (dw_lo hloi_35 qx_29) (dw_hn hni_35 qx_29)
                · have fc_28 : v_8.toInt < r_25.toInt := zf_nle c_28 rfl rfl
                  refine lv_iload hx hb dX8_mostCases_94 (lv_at hl 0 rfl) ?_
                  refine lv_goto (tgt := 101) hx hb dX8_mostCases_96 (by decide) ?_
                  refine lv_istore (lv' := [(5, .int r_25), (7, .int r_25), (6, .int i_35), (0, .ref m0), (1, .int 2), (2, .int d), (3, .int sec), (4, .int wh)]) hx hb dX8_mostCases_101 hl (by decide) rfl (fun ls hl => ?_)
                  obtain ⟨x_30, ex_30⟩ : ∃ y : Int32, y = i_35 + 1 := ⟨_, rfl⟩
                  have qx_30 : x_30.toInt = i_35.toInt + 1 := dw_inc ex_30 fc_10
                  refine lv_iinc (v := x_30) (lv' := [(6, .int x_30), (5, .int r_25), (7, .int r_25), (0, .ref m0), (1, .int 2), (2, .int d), (3, .int sec), (4, .int wh)]) hx hb dX8_mostCases_103 hl (k := 2) rfl ex_30.symm (by decide) rfl (fun ls hl => ?_)
                  refine lv_goto (tgt := 35) hx hb dX8_mostCases_106 (by decide) ?_
                  exact ih x_30 r_25 _ (lv_sub hl [0, 1, 3, 4, 5, 6, 7] rfl) ⟨by omega, by omega⟩ (show (r_25 : Int32).toInt = zFo gki gta (if wh.toInt = 0 then 1 else 0) d.toInt sec.toInt (12 * (zM gki gpa gta npu.toInt.toNat nhu.toInt (if wh.toInt = 0 then 1 else 0) 1) d.toInt sec.toInt) (zBy (zM gki gpa gta npu.toInt.toNat nhu.toInt (if wh.toInt = 0 then 1 else 0) 1) gki gpa gta nhu.toInt d.toInt sec.toInt) x_30.toInt.toNat from by (have hx : x_30.toInt.toNat = i_35.toInt.toNat + 1 := (by omega); have y9 : i_35.toNatClampNeg = i_35.toInt.toNat := rfl; have hm := hsr_11_0; rw [y9] at hm; have nk : (gki i_35.toInt.toNat).toInt = x_23.toInt := (by rw [ex_23]; rfl); have ok : zOk gki gta (if wh.toInt = 0 then 1 else 0) d.toInt sec.toInt i_35.toInt.toNat := ⟨(hm.mp (by omega)).1, (hm.mp (by omega)).2, (by first | exact Or.inl (by rw [if_pos (by omega)]; decide) | exact Or.inr (by omega))⟩; rw [hx, zFo_y ok, ← hvi_35_0]; have zr := hsr_25_0; rw [y9] at zr; have zr2 : r_25.toInt = (zBy (zM gki gpa gta npu.toInt.toNat nhu.toInt (if wh.toInt = 0 then 1 else 0) 1) gki gpa gta nhu.toInt d.toInt sec.toInt) i_35.toInt.toNat := zr; omega)) (show x_30.toInt ≤ npu.toInt from by omega) (dw_lo hloi_35 qx_30) (dw_hn hni_35 qx_30)
              · have fc_24 : x_23.toInt = 5 := zf_eq c_24 rfl (by decide)
                refine lv_goto (tgt := 103) hx hb dX8_mostCases_71 (by decide) ?_
                obtain ⟨x_31, ex_31⟩ : ∃ y : Int32, y = i_35 + 1 := ⟨_, rfl⟩
                have qx_31 : x_31.toInt = i_35.toInt + 1 := dw_inc ex_31 fc_10
                refine lv_iinc (v := x_31) (lv' := [(6, .int x_31), (5, .int v_8), (0, .ref m0), (1, .int 2), (2, .int d), (3, .int sec), (4, .int wh)]) hx hb dX8_mostCases_103 hl (k := 0) rfl ex_31.symm (by decide) rfl (fun ls hl => ?_)
                refine lv_goto (tgt := 35) hx hb dX8_mostCases_106 (by decide) ?_
                exact ih x_31 v_8 _ (lv_sub hl [0, 1, 2, 3, 4, 5, 6] rfl) hbv_8 (show (v_8 : Int32).toInt = zFo gki gta (if wh.toInt = 0 then 1 else 0) d.toInt sec.toInt (12 * (zM gki gpa gta npu.toInt.toNat nhu.toInt (if wh.toInt = 0 then 1 else 0) 1) d.toInt sec.toInt) (zBy (zM gki gpa gta npu.toInt.toNat nhu.toInt (if wh.toInt = 0 then 1 else 0) 1) gki gpa gta nhu.toInt d.toInt sec.toInt) x_31.toInt.toNat from by (have hx : x_31.toInt.toNat = i_35.toInt.toNat + 1 := (by omega); have y9 : i_35.toNatClampNeg = i_35.toInt.toNat := rfl; have hm := hsr_11_0; rw [y9] at hm; have nk : (gki i_35.toInt.toNat).toInt = x_23.toInt := (by rw [ex_23]; rfl); have no : ¬ zOk gki gta (if wh.toInt = 0 then 1 else 0) d.toInt sec.toInt i_35.toInt.toNat := (fun z => by first | (have z1 := hm.mpr ⟨z.1, z.2.1⟩; omega) | (have z3 := z.2.2; rw [if_neg (by omega)] at z3; omega)); rw [hx, zFo_n no]; exact hvi_35_0)) (show x_31.toInt ≤ npu.toInt from by omega) (dw_lo hloi_35 qx_31) (dw_hn hni_35 qx_31)
    · exact absurd c_2 (by decide)
  · have fc_1 : d.toInt = 0 := zf_eq c_1 rfl (by decide)
    refine lv_aload_n hx hb dX8_mostCases_4 rfl (lv_at hl 0 rfl) ?_
    refine lv_iload_n hx hb dX8_mostCases_5 rfl (lv_at hl 1 rfl) ?_
    refine zc_V (As := [.int 2]) (rest := []) ⟨hx, hb, hml, hown, hts⟩ (c_M_power_2 l D cI cJ cZ cP cS po m0 mrf mki mpa mta mla msl mco mhe mso msi msh mce mca mwo mnu mte mwa mke mma mth mtr (npu) (nte) (nat_) (nde) (nto) (nse) (nhu) (nga) (nsd) (nfa) (nba) (npl) (nen) (nnu) (nwr) (nra) (nik) hy0 hy1 hy2 hy3 hy4 hy5 hy6 hy7 hy8 hy9 hy10 hy11 hy12 hy13) (cwV 1 hts gX8_mostCases_X8_power rfl rfl rfl ⟨rfl, dh_X8_power⟩ ⟨Nat.le_of_ble_eq_true rfl, Nat.le_of_ble_eq_true rfl⟩) hK hN hZ hP (hP.sub [0] rfl) (va_recv (q := (RX8, TX8, 38)) hK hP (ci := 8) (q0 := 0) rfl rfl) rfl hl.1 rfl (Nat.le_of_ble_eq_true rfl) dX8_mostCases_6 ⟨Nat.le_of_ble_eq_true rfl, Nat.le_of_ble_eq_true rfl⟩ (fun r_32 hr_32 => ?_)
    obtain rfl := hr_32
    exact W.iret (v := 144) hx hb hr (fun t ht hW => ⟨144, rfl, ⟨by decide, by decide, (show (144 : Int32).toInt = (zM gki gpa gta npu.toInt.toNat nhu.toInt (if wh.toInt = 0 then 1 else 0) 2) d.toInt sec.toInt from by (have k9 : (144 : Int32).toInt = 144 := (by decide); rw [zM_s, if_pos (by omega)]; rw [show zPw 2 = 144 from by decide]; omega))⟩, ht⟩) (fun q hq => by cases hq) dX8_mostCases_9
set_option maxHeartbeats 4000000 in
set_option maxRecDepth 100000 in
theorem c_F_M_casesBy_3 (l : Launch) (D : va_G) (cI cJ cZ cP cS : ClassId) (po : zPool) (m0 mrf mki mpa mta mla msl mco mhe mso msi msh mce mca mwo mnu mte mwa mke mma mth mtr : Nat) (npu nte nat_ nde nto nse nhu nga nsd nfa nba npl nen nnu nwr nra nik : Int32) (gki gpa gta : Nat → Int32) (p_ d sec wh : Int32) (hy0 : 0 ≤ npu.toInt) (hy1 : npu.toInt ≤ 8) (hy2 : 4 ≤ nte.toInt) (hy3 : nte.toInt ≤ 40) (hy4 : 0 ≤ nat_.toInt) (hy5 : nat_.toInt ≤ 40) (hy6 : 0 ≤ nde.toInt) (hy7 : nde.toInt ≤ 24) (hy8 : 0 ≤ nhu.toInt) (hy9 : nhu.toInt ≤ 9) (hy10 : 0 ≤ nra.toInt) (hy11 : nra.toInt ≤ 2000) (hy12 : 0 ≤ nik.toInt) (hy13 : nik.toInt ≤ 1) (hy14 : 0 ≤ p_.toInt) (hy15 : p_.toInt ≤ 7) (hy16 : 0 ≤ d.toInt) (hy17 : d.toInt ≤ 24) (hy18 : 0 ≤ sec.toInt) (hy19 : sec.toInt ≤ 300) (hy20 : 0 ≤ wh.toInt) (hy21 : wh.toInt ≤ 1) (htl : (gta p_.toNatClampNeg).toInt ≤ sec.toInt) (hp_gki : zRg gki (0) 6) (hp_gpa : zRg gpa (0) 9) (hp_gta : zRg gta (0) 60) : Met l yX8_casesBy wsX8_casesBy ({ frames := 6, cells := 0, slots := 0, locals := 156 }) (va_Pc [.ref m0, .int p_, .int 3, .int d, .int sec, .int wh] (zR D (zKT cI cJ cZ cP cS) po [(zMO m0 npu nte nat_ nde nto nse nhu nga nsd nfa mrf mki mpa mta mla msl mco mhe mso msi msh mce mca mwo mnu mte nba npl nen nnu nwr mwa mke mma mth mtr nra nik), (mki, .inl (cI, 8, .inl gki)), (mpa, .inl (cI, 8, .inl gpa)), (mta, .inl (cI, 8, .inl gta))])) (vp_Si (fun r => 0 ≤ r.toInt ∧ r.toInt ≤ 1728 ∧ (r.toInt = zBy1 (zM gki gpa gta npu.toInt.toNat nhu.toInt (if wh.toInt = 0 then 1 else 0) 2) (gki p_.toNatClampNeg).toInt (gpa p_.toNatClampNeg).toInt (gta p_.toNatClampNeg).toInt nhu.toInt d.toInt sec.toInt))) 0 0 (fun _ => False) := by
  refine Met.ofW (cc := cX8_casesBy) (maxL := 8) (ret := (some .int)) (by decide) rfl ?_
  intro p e s m args below meth c s₁ B hml hv
  obtain ⟨rfl, hP, hK, hN, hZ⟩ := hv
  have hx := B.exec
  have hb := B.bytes
  have hr := B.returns
  have hts := atoms_spec (ws := wsX8_casesBy) B.pre
  have hown : s.vm.findClass RX8 = some m.cls := findClass_of_methodNamed B.named
  have hlocks := B.notSynchronized
  have hl := lv_entry ([.ref m0, .int p_, .int 3, .int d, .int sec, .int wh]) (n := 8) (Nat.le_of_ble_eq_true rfl)
  rw [lg_entry_eq]
  generalize (lg_sl ([.ref m0, .int p_, .int 3, .int d, .int sec, .int wh]) ++ List.replicate (8 - (lg_sl ([.ref m0, .int p_, .int 3, .int d, .int sec, .int wh])).length) Slot.unset).toArray = ls at hl ⊢
  replace hl : lv_has ls 8 [(0, .ref m0), (1, .int p_), (2, .int 3), (3, .int d), (4, .int sec), (5, .int wh)] := hl
  refine lv_aload_n hx hb dX8_casesBy_0 rfl (lv_at hl 0 rfl) ?_
  refine lv_iload_n hx hb dX8_casesBy_1 rfl (lv_at hl 1 rfl) ?_
  refine lv_iload_n hx hb dX8_casesBy_2 rfl (lv_at hl 3 rfl) ?_
  refine zc_V (As := [.int p_, .int d]) (rest := []) ⟨hx, hb, hml, hown, hts⟩ (c_F_M_ways l D cI cJ cZ cP cS po m0 mrf mki mpa mta mla msl mco mhe mso msi msh mce mca mwo mnu mte mwa mke mma mth mtr (npu) (nte) (nat_) (nde) (nto) (nse) (nhu) (nga) (nsd) (nfa) (nba) (npl) (nen) (nnu) (nwr) (nra) (nik) gki gpa (p_) (d) hy0 hy1 hy2 hy3 hy4 hy5 hy6 hy7 hy8 hy9 hy10 hy11 hy12 hy13 hy14 hy15 hy16 hy17 hp_gki hp_gpa) (cwV 2 hts gX8_casesBy_X8_ways rfl rfl rfl ⟨rfl, dh_X8_ways⟩ ⟨Nat.le_of_ble_eq_true rfl, Nat.le_of_ble_eq_true rfl⟩) hK hN hZ hP (hP.sub [0, 1, 2] rfl) (va_recv (q := (RX8, TX8, 38)) hK hP (ci := 8) (q0 := 0) rfl rfl) rfl hl.1 rfl (Nat.le_of_ble_eq_true rfl) dX8_casesBy_3 ⟨Nat.le_of_ble_eq_true rfl, Nat.le_of_ble_eq_true rfl⟩ (fun r_1 hr_1 => ?_)
  obtain ⟨g_2, g_3, hsr_1_0⟩ := hr_1
  refine lv_istore (lv' := [(6, .int r_1), (0, .ref m0), (1, .int p_), (2, .int 3), (3, .int d), (4, .int sec), (5, .int wh)]) hx hb dX8_casesBy_6 hl (by decide) rfl (fun ls hl => ?_)
  refine lv_iload hx hb dX8_casesBy_8 (lv_at hl 0 rfl) ?_
  refine lv_if_ne (tgt := 17) hx hb dX8_casesBy_10 (by decide) (fun c_4 => ?_) (fun c_4 => ?_)
  · have fc_4 : r_1.toInt ≠ 0 := zf_ne c_4 rfl (by decide)
    refine lv_iload hx hb dX8_casesBy_17 (lv_at hl 0 rfl) ?_
    refine lv_aload_n hx hb dX8_casesBy_19 rfl (lv_at hl 1 rfl) ?_
    refine lv_iload_n hx hb dX8_casesBy_20 rfl (lv_at hl 3 rfl) ?_
    refine lv_iconst (v := 1) hx hb dX8_casesBy_21 (by decide) ?_
    refine lv_isub hx hb dX8_casesBy_22 ?_
    refine lv_topi (fun y_5 ey_5 => ?_)
    obtain rfl : y_5 = 2 := ey_5.trans (by decide)
    refine lv_aload_n hx hb dX8_casesBy_23 rfl (lv_at hl 1 rfl) ?_
    refine lv_iload_n hx hb dX8_casesBy_24 rfl (lv_at hl 2 rfl) ?_
    refine lv_iload_n hx hb dX8_casesBy_25 rfl (lv_at hl 4 rfl) ?_
    refine lv_iconst (v := 1) hx hb dX8_casesBy_26 (by decide) ?_
    have kc1 : (1 : Int32).toInt = 1 := by decide
    refine zc_V (As := [.int p_, .int d, .int 1]) (rest := [.int 2, .ref m0, .int r_1]) ⟨hx, hb, hml, hown, hts⟩ (c_F_M_deep l D cI cJ cZ cP cS po m0 mrf mki mpa mta mla msl mco mhe mso msi msh mce mca mwo mnu mte mwa mke mma mth mtr (npu) (nte) (nat_) (nde) (nto) (nse) (nhu) (nga) (nsd) (nfa) (nba) (npl) (nen) (nnu) (nwr) (nra) (nik) gki gpa (p_) (d) (1) hy0 hy1 hy2 hy3 hy4 hy5 hy6 hy7 hy8 hy9 hy10 hy11 hy12 hy13 hy14 hy15 hy16 hy17 (by omega) (by omega) hp_gki hp_gpa) (cwV 3 hts gX8_casesBy_X8_deep rfl rfl rfl ⟨rfl, dh_X8_deep⟩ ⟨Nat.le_of_ble_eq_true rfl, Nat.le_of_ble_eq_true rfl⟩) hK hN hZ hP (hP.sub [0, 1, 2] rfl) (va_recv (q := (RX8, TX8, 38)) hK hP (ci := 8) (q0 := 0) rfl rfl) rfl hl.1 rfl (Nat.le_of_ble_eq_true rfl) dX8_casesBy_27 ⟨Nat.le_of_ble_eq_true rfl, Nat.le_of_ble_eq_true rfl⟩ (fun r_6 hr_6 => ?_)
    obtain ⟨g_7, g_8, hsr_6_0⟩ := hr_6
    refine lv_iload hx hb dX8_casesBy_30 (lv_at hl 5 rfl) ?_
    refine lv_aload_n hx hb dX8_casesBy_32 rfl (lv_at hl 1 rfl) ?_
    refine va_get (D := D) (ci := 8) (v := .ref mta) (C := RX8) (T := TX8) (N := 38) hx hb hts hi_X8_casesBy_8 hown hK hP 0 rfl rfl 13 (by decide) (hts (.fieldLink RX8 35 "TheLiningsInItModel" "takes" "[I") (List.mem_of_getElem? (i := 1) rfl)) (fun _ h9 => h9) rfl dX8_casesBy_33 ?_
    refine lv_iload_n hx hb dX8_casesBy_36 rfl (lv_at hl 2 rfl) ?_
    refine va_iald hx hb hK hP 3 0 rfl rfl (zf_in (by omega) (by omega)) dX8_casesBy_37 ?_
    refine lv_topi (fun x_9 ex_9 => ?_)
    have bx_9 : 0 ≤ x_9.toInt ∧ x_9.toInt ≤ 60 := by rw [ex_9]; exact hp_gta _
    have htx_9 : x_9.toInt ≤ sec.toInt := by (rw [ex_9]; exact htl)
    refine lv_isub hx hb dX8_casesBy_38 ?_
    refine lv_topi (fun x_10 ex_10 => ?_)
    have qx_10 : x_10.toInt = sec.toInt - x_9.toInt := by rw [ex_10]; exact zf_sub rfl rfl (by omega) (by omega)
    refine lv_iload hx hb dX8_casesBy_39 (lv_at hl 6 rfl) ?_
    refine zc_V (As := [.int 2, .int r_6, .int x_10, .int wh]) (rest := [.int r_1]) ⟨hx, hb, hml, hown, hts⟩ (c_F_M_mostCases_2 l D cI cJ cZ cP cS po m0 mrf mki mpa mta mla msl mco mhe mso msi msh mce mca mwo mnu mte mwa mke mma mth mtr (npu) (nte) (nat_) (nde) (nto) (nse) (nhu) (nga) (nsd) (nfa) (nba) (npl) (nen) (nnu) (nwr) (nra) (nik) gki gpa gta (r_6) (x_10) (wh) hy0 hy1 hy2 hy3 hy4 hy5 hy6 hy7 hy8 hy9 hy10 hy11 hy12 hy13 (by omega) (by omega) (by omega) (by omega) hy20 hy21 hp_gki hp_gpa hp_gta) (cwV 4 hts gX8_casesBy_X8_mostCases rfl rfl rfl ⟨rfl, dh_X8_mostCases⟩ ⟨Nat.le_of_ble_eq_true rfl, Nat.le_of_ble_eq_true rfl⟩) hK hN hZ hP (hP.sub [0, 1, 2, 3] rfl) (va_recv (q := (RX8, TX8, 38)) hK hP (ci := 8) (q0 := 0) rfl rfl) rfl hl.1 rfl (Nat.le_of_ble_eq_true rfl) dX8_casesBy_41 ⟨Nat.le_of_ble_eq_true rfl, Nat.le_of_ble_eq_true rfl⟩ (fun r_11 hr_11 => ?_)
    obtain ⟨g_12, g_13, hsr_11_0⟩ := hr_11
    refine lv_imul hx hb dX8_casesBy_44 ?_
    refine lv_topi (fun x_14 ex_14 => ?_)
    obtain ⟨mx_14, nx_14, ox_14⟩ := zf_mulc (a := r_1) (b := r_11) (x := r_1.toInt) (y := r_11.toInt) (P := 144) rfl rfl ⟨by omega, by omega⟩ ⟨by omega, by omega⟩ (by decide)
    rw [← ex_14] at mx_14
    refine lv_istore (lv' := [(7, .int x_14), (6, .int r_1), (0, .ref m0), (1, .int p_), (2, .int 3), (3, .int d), (4, .int sec), (5, .int wh)]) hx hb dX8_casesBy_45 hl (by decide) rfl (fun ls hl => ?_)
    refine lv_iload hx hb dX8_casesBy_47 (lv_at hl 1 rfl) ?_
    refine lv_bipush (v := 12) hx hb dX8_casesBy_49 (by decide) ?_
    refine lv_icmp_ne (tgt := 59) hx hb dX8_casesBy_51 (by decide) (fun c_15 => ?_) (fun c_15 => ?_)
    · have fc_15 : r_1.toInt ≠ 12 := zf_ne c_15 rfl (by decide)
      refine lv_iload hx hb dX8_casesBy_59 (lv_at hl 0 rfl) ?_
      refine lv_bipush (v := 12) hx hb dX8_casesBy_61 (by decide) ?_
      refine lv_iload hx hb dX8_casesBy_63 (lv_at hl 1 rfl) ?_
      refine lv_isub hx hb dX8_casesBy_65 ?_
      refine lv_topi (fun x_16 ex_16 => ?_)
      have qx_16 : x_16.toInt = 12 - r_1.toInt := by rw [ex_16]; exact zf_sub (by decide) rfl (by omega) (by omega)
      refine lv_aload_n hx hb dX8_casesBy_66 rfl (lv_at hl 2 rfl) ?_
      refine lv_iload_n hx hb dX8_casesBy_67 rfl (lv_at hl 4 rfl) ?_
      refine lv_iconst (v := 1) hx hb dX8_casesBy_68 (by decide) ?_
      refine lv_isub hx hb dX8_casesBy_69 ?_
      refine lv_topi (fun y_17 ey_17 => ?_)
      obtain rfl : y_17 = 2 := ey_17.trans (by decide)
      refine lv_aload_n hx hb dX8_casesBy_70 rfl (lv_at hl 2 rfl) ?_
      refine lv_iload_n hx hb dX8_casesBy_71 rfl (lv_at hl 3 rfl) ?_
      refine lv_iload_n hx hb dX8_casesBy_72 rfl (lv_at hl 5 rfl) ?_
      refine lv_iconst (v := 0) hx hb dX8_casesBy_73 (by decide) ?_
      have kc0 : (0 : Int32).toInt = 0 := by decide
      refine zc_V (As := [.int p_, .int d, .int 0]) (rest := [.int 2, .ref m0, .int x_16, .int x_14]) ⟨hx, hb, hml, hown, hts⟩ (c_F_M_deep l D cI cJ cZ cP cS po m0 mrf mki mpa mta mla msl mco mhe mso msi msh mce mca mwo mnu mte mwa mke mma mth mtr (npu) (nte) (nat_) (nde) (nto) (nse) (nhu) (nga) (nsd) (nfa) (nba) (npl) (nen) (nnu) (nwr) (nra) (nik) gki gpa (p_) (d) (0) hy0 hy1 hy2 hy3 hy4 hy5 hy6 hy7 hy8 hy9 hy10 hy11 hy12 hy13 hy14 hy15 hy16 hy17 (by omega) (by omega) hp_gki hp_gpa) (cwV 3 hts gX8_casesBy_X8_deep rfl rfl rfl ⟨rfl, dh_X8_deep⟩ ⟨Nat.le_of_ble_eq_true rfl, Nat.le_of_ble_eq_true rfl⟩) hK hN hZ hP (hP.sub [0, 1, 2] rfl) (va_recv (q := (RX8, TX8, 38)) hK hP (ci := 8) (q0 := 0) rfl rfl) rfl hl.1 rfl (Nat.le_of_ble_eq_true rfl) dX8_casesBy_74 ⟨Nat.le_of_ble_eq_true rfl, Nat.le_of_ble_eq_true rfl⟩ (fun r_18 hr_18 => ?_)
      obtain ⟨g_19, g_20, hsr_18_0⟩ := hr_18
      refine lv_iload hx hb dX8_casesBy_77 (lv_at hl 6 rfl) ?_
      refine lv_aload_n hx hb dX8_casesBy_79 rfl (lv_at hl 2 rfl) ?_
      refine va_get (D := D) (ci := 8) (v := .ref mta) (C := RX8) (T := TX8) (N := 38) hx hb hts hi_X8_casesBy_8 hown hK hP 0 rfl rfl 13 (by decide) (hts (.fieldLink RX8 35 "TheLiningsInItModel" "takes" "[I") (List.mem_of_getElem? (i := 1) rfl)) (fun _ h9 => h9) rfl dX8_casesBy_80 ?_
      refine lv_iload_n hx hb dX8_casesBy_83 rfl (lv_at hl 3 rfl) ?_
      refine va_iald hx hb hK hP 3 0 rfl rfl (zf_in (by omega) (by omega)) dX8_casesBy_84 ?_
      refine lv_topi (fun y_21 ey_21 => ?_)
      obtain rfl : x_9 = y_21 := ex_9.trans ey_21.symm
      refine lv_isub hx hb dX8_casesBy_85 ?_
      refine lv_topi (fun y_22 ey_22 => ?_)
      obtain rfl : x_10 = y_22 := ex_10.trans ey_22.symm
      refine lv_iload hx hb dX8_casesBy_86 (lv_at hl 7 rfl) ?_
      refine zc_V (As := [.int 2, .int r_18, .int x_10, .int wh]) (rest := [.int x_16, .int x_14]) ⟨hx, hb, hml, hown, hts⟩ (c_F_M_mostCases_2 l D cI cJ cZ cP cS po m0 mrf mki mpa mta mla msl mco mhe mso msi msh mce mca mwo mnu mte mwa mke mma mth mtr (npu) (nte) (nat_) (nde) (nto) (nse) (nhu) (nga) (nsd) (nfa) (nba) (npl) (nen) (nnu) (nwr) (nra) (nik) gki gpa gta (r_18) (x_10) (wh) hy0 hy1 hy2 hy3 hy4 hy5 hy6 hy7 hy8 hy9 hy10 hy11 hy12 hy13 (by omega) (by omega) (by omega) (by omega) hy20 hy21 hp_gki hp_gpa hp_gta) (cwV 4 hts gX8_casesBy_X8_mostCases rfl rfl rfl ⟨rfl, dh_X8_mostCases⟩ ⟨Nat.le_of_ble_eq_true rfl, Nat.le_of_ble_eq_true rfl⟩) hK hN hZ hP (hP.sub [0, 1, 2, 3] rfl) (va_recv (q := (RX8, TX8, 38)) hK hP (ci := 8) (q0 := 0) rfl rfl) rfl hl.1 rfl (Nat.le_of_ble_eq_true rfl) dX8_casesBy_88 ⟨Nat.le_of_ble_eq_true rfl, Nat.le_of_ble_eq_true rfl⟩ (fun r_23 hr_23 => ?_)
      obtain ⟨g_24, g_25, hsr_23_0⟩ := hr_23
      refine lv_imul hx hb dX8_casesBy_91 ?_
      refine lv_topi (fun x_26 ex_26 => ?_)
      obtain ⟨mx_26, nx_26, ox_26⟩ := zf_mulc (a := x_16) (b := r_23) (x := x_16.toInt) (y := r_23.toInt) (P := 144) rfl rfl ⟨by omega, by omega⟩ ⟨by omega, by omega⟩ (by decide)
      rw [← ex_26] at mx_26
      refine lv_iadd hx hb dX8_casesBy_92 ?_
      refine lv_topi (fun x_27 ex_27 => ?_)
      have qx_27 : x_27.toInt = x_14.toInt + x_26.toInt := by rw [ex_27]; exact zf_add rfl rfl (by omega) (by omega)
      have hmx9 := zMix (w := r_1.toInt) (x := r_11.toInt) (y := r_23.toInt) (P := 144) ⟨by omega, by omega⟩ ⟨by omega, by omega⟩ ⟨by omega, by omega⟩
      rw [show 12 - r_1.toInt = x_16.toInt from by omega] at hmx9
      exact W.iret (v := x_27) hx hb hr (fun t ht hW => ⟨x_27, rfl, ⟨by omega, by omega, (show (x_27 : Int32).toInt = zBy1 (zM gki gpa gta npu.toInt.toNat nhu.toInt (if wh.toInt = 0 then 1 else 0) 2) (gki p_.toNatClampNeg).toInt (gpa p_.toNatClampNeg).toInt (gta p_.toNatClampNeg).toInt nhu.toInt d.toInt sec.toInt from by (have zw := hsr_1_0; have E1 : r_1.toInt * (zM gki gpa gta npu.toInt.toNat nhu.toInt (if wh.toInt = 0 then 1 else 0) 2) (zShl (gki p_.toNatClampNeg).toInt (gpa p_.toNatClampNeg).toInt d.toInt) (sec.toInt - (gta p_.toNatClampNeg).toInt) = x_14.toInt := (by rw [← hsr_6_0.1 (by decide), show sec.toInt - (gta p_.toNatClampNeg).toInt = (x_10 : Int32).toInt from by (have z : (gta p_.toNatClampNeg).toInt = x_9.toInt := (by rw [ex_9]); omega), ← hsr_11_0]; omega); have E2 : (12 - r_1.toInt) * (zM gki gpa gta npu.toInt.toNat nhu.toInt (if wh.toInt = 0 then 1 else 0) 2) (zDpr (gki p_.toNatClampNeg).toInt (gpa p_.toNatClampNeg).toInt nhu.toInt d.toInt) (sec.toInt - (gta p_.toNatClampNeg).toInt) = x_26.toInt := (by rw [← hsr_18_0.2 (by decide), show sec.toInt - (gta p_.toNatClampNeg).toInt = (x_10 : Int32).toInt from by (have z : (gta p_.toNatClampNeg).toInt = x_9.toInt := (by rw [ex_9]); omega), ← hsr_23_0, show 12 - r_1.toInt = x_16.toInt from by omega]; omega); unfold zBy1; rw [← zw, E1, E2]; omega))⟩, ht⟩) (fun q hq => by cases hq) dX8_casesBy_93
    · have fc_15 : r_1.toInt = 12 := zf_eq c_15 rfl (by decide)
      refine lv_iload hx hb dX8_casesBy_54 (lv_at hl 0 rfl) ?_
      refine lv_goto (tgt := 93) hx hb dX8_casesBy_56 (by decide) ?_
      exact W.iret (v := x_14) hx hb hr (fun t ht hW => ⟨x_14, rfl, ⟨by omega, by omega, (show (x_14 : Int32).toInt = zBy1 (zM gki gpa gta npu.toInt.toNat nhu.toInt (if wh.toInt = 0 then 1 else 0) 2) (gki p_.toNatClampNeg).toInt (gpa p_.toNatClampNeg).toInt (gta p_.toNatClampNeg).toInt nhu.toInt d.toInt sec.toInt from by (have zw := hsr_1_0; have E1 : r_1.toInt * (zM gki gpa gta npu.toInt.toNat nhu.toInt (if wh.toInt = 0 then 1 else 0) 2) (zShl (gki p_.toNatClampNeg).toInt (gpa p_.toNatClampNeg).toInt d.toInt) (sec.toInt - (gta p_.toNatClampNeg).toInt) = x_14.toInt := (by rw [← hsr_6_0.1 (by decide), show sec.toInt - (gta p_.toNatClampNeg).toInt = (x_10 : Int32).toInt from by (have z : (gta p_.toNatClampNeg).toInt = x_9.toInt := (by rw [ex_9]); omega), ← hsr_11_0]; omega); have E2 : (12 - r_1.toInt) * (zM gki gpa gta npu.toInt.toNat nhu.toInt (if wh.toInt = 0 then 1 else 0) 2) (zDpr (gki p_.toNatClampNeg).toInt (gpa p_.toNatClampNeg).toInt nhu.toInt d.toInt) (sec.toInt - (gta p_.toNatClampNeg).toInt) = 0 := (by rw [show 12 - r_1.toInt = 0 from by omega, Int.zero_mul]); unfold zBy1; rw [← zw, E1, E2]; omega))⟩, ht⟩) (fun q hq => by cases hq) dX8_casesBy_93
  · have fc_4 : r_1.toInt = 0 := zf_eq c_4 rfl (by decide)
    refine lv_iconst (v := 0) hx hb dX8_casesBy_13 (by decide) ?_
    refine lv_goto (tgt := 45) hx hb dX8_casesBy_14 (by decide) ?_
    refine lv_istore (lv' := [(7, .int 0), (6, .int r_1), (0, .ref m0), (1, .int p_), (2, .int 3), (3, .int d), (4, .int sec), (5, .int wh)]) hx hb dX8_casesBy_45 hl (by decide) rfl (fun ls hl => ?_)
    refine lv_iload hx hb dX8_casesBy_47 (lv_at hl 1 rfl) ?_
    refine lv_bipush (v := 12) hx hb dX8_casesBy_49 (by decide) ?_
    refine lv_icmp_ne (tgt := 59) hx hb dX8_casesBy_51 (by decide) (fun c_28 => ?_) (fun c_28 => ?_)
    · have fc_28 : r_1.toInt ≠ 12 := zf_ne c_28 rfl (by decide)
      refine lv_iload hx hb dX8_casesBy_59 (lv_at hl 0 rfl) ?_
      refine lv_bipush (v := 12) hx hb dX8_casesBy_61 (by decide) ?_
      refine lv_iload hx hb dX8_casesBy_63 (lv_at hl 1 rfl) ?_
      refine lv_isub hx hb dX8_casesBy_65 ?_
      refine lv_topi (fun x_29 ex_29 => ?_)
      have qx_29 : x_29.toInt = 12 - r_1.toInt := by rw [ex_29]; exact zf_sub (by decide) rfl (by omega) (by omega)
      refine lv_aload_n hx hb dX8_casesBy_66 rfl (lv_at hl 2 rfl) ?_
      refine lv_iload_n hx hb dX8_casesBy_67 rfl (lv_at hl 4 rfl) ?_
      refine lv_iconst (v := 1) hx hb dX8_casesBy_68 (by decide) ?_
      refine lv_isub hx hb dX8_casesBy_69 ?_
      refine lv_topi (fun y_30 ey_30 => ?_)
      obtain rfl : y_30 = 2 := ey_30.trans (by decide)
      refine lv_aload_n hx hb dX8_casesBy_70 rfl (lv_at hl 2 rfl) ?_
      refine lv_iload_n hx hb dX8_casesBy_71 rfl (lv_at hl 3 rfl) ?_
      refine lv_iload_n hx hb dX8_casesBy_72 rfl (lv_at hl 5 rfl) ?_
      refine lv_iconst (v := 0) hx hb dX8_casesBy_73 (by decide) ?_
      have kc0 : (0 : Int32).toInt = 0 := by decide
      refine zc_V (As := [.int p_, .int d, .int 0]) (rest := [.int 2, .ref m0, .int x_29, .int 0]) ⟨hx, hb, hml, hown, hts⟩ (c_F_M_deep l D cI cJ cZ cP cS po m0 mrf mki mpa mta mla msl mco mhe mso msi msh mce mca mwo mnu mte mwa mke mma mth mtr (npu) (nte) (nat_) (nde) (nto) (nse) (nhu) (nga) (nsd) (nfa) (nba) (npl) (nen) (nnu) (nwr) (nra) (nik) gki gpa (p_) (d) (0) hy0 hy1 hy2 hy3 hy4 hy5 hy6 hy7 hy8 hy9 hy10 hy11 hy12 hy13 hy14 hy15 hy16 hy17 (by omega) (by omega) hp_gki hp_gpa) (cwV 3 hts gX8_casesBy_X8_deep rfl rfl rfl ⟨rfl, dh_X8_deep⟩ ⟨Nat.le_of_ble_eq_true rfl, Nat.le_of_ble_eq_true rfl⟩) hK hN hZ hP (hP.sub [0, 1, 2] rfl) (va_recv (q := (RX8, TX8, 38)) hK hP (ci := 8) (q0 := 0) rfl rfl) rfl hl.1 rfl (Nat.le_of_ble_eq_true rfl) dX8_casesBy_74 ⟨Nat.le_of_ble_eq_true rfl, Nat.le_of_ble_eq_true rfl⟩ (fun r_31 hr_31 => ?_)
      obtain ⟨g_32, g_33, hsr_31_0⟩ := hr_31
      refine lv_iload hx hb dX8_casesBy_77 (lv_at hl 6 rfl) ?_
      refine lv_aload_n hx hb dX8_casesBy_79 rfl (lv_at hl 2 rfl) ?_
      refine va_get (D := D) (ci := 8) (v := .ref mta) (C := RX8) (T := TX8) (N := 38) hx hb hts hi_X8_casesBy_8 hown hK hP 0 rfl rfl 13 (by decide) (hts (.fieldLink RX8 35 "TheLiningsInItModel" "takes" "[I") (List.mem_of_getElem? (i := 1) rfl)) (fun _ h9 => h9) rfl dX8_casesBy_80 ?_
      refine lv_iload_n hx hb dX8_casesBy_83 rfl (lv_at hl 3 rfl) ?_
      refine va_iald hx hb hK hP 3 0 rfl rfl (zf_in (by omega) (by omega)) dX8_casesBy_84 ?_
      refine lv_topi (fun x_34 ex_34 => ?_)
      have bx_34 : 0 ≤ x_34.toInt ∧ x_34.toInt ≤ 60 := by rw [ex_34]; exact hp_gta _
      have htx_34 : x_34.toInt ≤ sec.toInt := by (rw [ex_34]; exact htl)
      refine lv_isub hx hb dX8_casesBy_85 ?_
      refine lv_topi (fun x_35 ex_35 => ?_)
      have qx_35 : x_35.toInt = sec.toInt - x_34.toInt := by rw [ex_35]; exact zf_sub rfl rfl (by omega) (by omega)
      refine lv_iload hx hb dX8_casesBy_86 (lv_at hl 7 rfl) ?_
      refine zc_V (As := [.int 2, .int r_31, .int x_35, .int wh]) (rest := [.int x_29, .int 0]) ⟨hx, hb, hml, hown, hts⟩ (c_F_M_mostCases_2 l D cI cJ cZ cP cS po m0 mrf mki mpa mta mla msl mco mhe mso msi msh mce mca mwo mnu mte mwa mke mma mth mtr (npu) (nte) (nat_) (nde) (nto) (nse) (nhu) (nga) (nsd) (nfa) (nba) (npl) (nen) (nnu) (nwr) (nra) (nik) gki gpa gta (r_31) (x_35) (wh) hy0 hy1 hy2 hy3 hy4 hy5 hy6 hy7 hy8 hy9 hy10 hy11 hy12 hy13 (by omega) (by omega) (by omega) (by omega) hy20 hy21 hp_gki hp_gpa hp_gta) (cwV 4 hts gX8_casesBy_X8_mostCases rfl rfl rfl ⟨rfl, dh_X8_mostCases⟩ ⟨Nat.le_of_ble_eq_true rfl, Nat.le_of_ble_eq_true rfl⟩) hK hN hZ hP (hP.sub [0, 1, 2, 3] rfl) (va_recv (q := (RX8, TX8, 38)) hK hP (ci := 8) (q0 := 0) rfl rfl) rfl hl.1 rfl (Nat.le_of_ble_eq_true rfl) dX8_casesBy_88 ⟨Nat.le_of_ble_eq_true rfl, Nat.le_of_ble_eq_true rfl⟩ (fun r_36 hr_36 => ?_)
      obtain ⟨g_37, g_38, hsr_36_0⟩ := hr_36
      refine lv_imul hx hb dX8_casesBy_91 ?_
      refine lv_topi (fun x_39 ex_39 => ?_)
      obtain ⟨mx_39, nx_39, ox_39⟩ := zf_mulc (a := x_29) (b := r_36) (x := x_29.toInt) (y := r_36.toInt) (P := 144) rfl rfl ⟨by omega, by omega⟩ ⟨by omega, by omega⟩ (by decide)
      rw [← ex_39] at mx_39
      refine lv_iadd hx hb dX8_casesBy_92 ?_
      refine lv_topi (fun x_40 ex_40 => ?_)
      have qx_40 : x_40.toInt = 0 + x_39.toInt := by rw [ex_40]; exact zf_add (by decide) rfl (by omega) (by omega)
      exact W.iret (v := x_40) hx hb hr (fun t ht hW => ⟨x_40, rfl, ⟨by omega, by omega, (show (x_40 : Int32).toInt = zBy1 (zM gki gpa gta npu.toInt.toNat nhu.toInt (if wh.toInt = 0 then 1 else 0) 2) (gki p_.toNatClampNeg).toInt (gpa p_.toNatClampNeg).toInt (gta p_.toNatClampNeg).toInt nhu.toInt d.toInt sec.toInt from by (have zw := hsr_1_0; have E1 : r_1.toInt * (zM gki gpa gta npu.toInt.toNat nhu.toInt (if wh.toInt = 0 then 1 else 0) 2) (zShl (gki p_.toNatClampNeg).toInt (gpa p_.toNatClampNeg).toInt d.toInt) (sec.toInt - (gta p_.toNatClampNeg).toInt) = 0 := (by rw [show r_1.toInt = 0 from by omega, Int.zero_mul]); have E2 : (12 - r_1.toInt) * (zM gki gpa gta npu.toInt.toNat nhu.toInt (if wh.toInt = 0 then 1 else 0) 2) (zDpr (gki p_.toNatClampNeg).toInt (gpa p_.toNatClampNeg).toInt nhu.toInt d.toInt) (sec.toInt - (gta p_.toNatClampNeg).toInt) = x_39.toInt := (by rw [← hsr_31_0.2 (by decide), show sec.toInt - (gta p_.toNatClampNeg).toInt = (x_35 : Int32).toInt from by (have z : (gta p_.toNatClampNeg).toInt = x_34.toInt := (by rw [ex_34]); omega), ← hsr_36_0, show 12 - r_1.toInt = x_29.toInt from by omega]; omega); unfold zBy1; rw [← zw, E1, E2]; omega))⟩, ht⟩) (fun q hq => by cases hq) dX8_casesBy_93
    · exfalso; have fc_28 : r_1.toInt = 12 := zf_eq c_28 rfl (by decide); omega
set_option maxHeartbeats 4000000 in
set_option maxRecDepth 100000 in
theorem c_F_M_mostCases_3 (l : Launch) (D : va_G) (cI cJ cZ cP cS : ClassId) (po : zPool) (m0 mrf mki mpa mta mla msl mco mhe mso msi msh mce mca mwo mnu mte mwa mke mma mth mtr : Nat) (npu nte nat_ nde nto nse nhu nga nsd nfa nba npl nen nnu nwr nra nik : Int32) (gki gpa gta : Nat → Int32) (d sec wh : Int32) (hy0 : 0 ≤ npu.toInt) (hy1 : npu.toInt ≤ 8) (hy2 : 4 ≤ nte.toInt) (hy3 : nte.toInt ≤ 40) (hy4 : 0 ≤ nat_.toInt) (hy5 : nat_.toInt ≤ 40) (hy6 : 0 ≤ nde.toInt) (hy7 : nde.toInt ≤ 24) (hy8 : 0 ≤ nhu.toInt) (hy9 : nhu.toInt ≤ 9) (hy10 : 0 ≤ nra.toInt) (hy11 : nra.toInt ≤ 2000) (hy12 : 0 ≤ nik.toInt) (hy13 : nik.toInt ≤ 1) (hy14 : 0 ≤ d.toInt) (hy15 : d.toInt ≤ 24) (hy16 : 0 ≤ sec.toInt) (hy17 : sec.toInt ≤ 300) (hy18 : 0 ≤ wh.toInt) (hy19 : wh.toInt ≤ 1) (hp_gki : zRg gki (0) 6) (hp_gpa : zRg gpa (0) 9) (hp_gta : zRg gta (0) 60) : Met l yX8_mostCases wsX8_mostCases ({ frames := 7, cells := 0, slots := 0, locals := 183 }) (va_Pc [.ref m0, .int 3, .int d, .int sec, .int wh] (zR D (zKT cI cJ cZ cP cS) po [(zMO m0 npu nte nat_ nde nto nse nhu nga nsd nfa mrf mki mpa mta mla msl mco mhe mso msi msh mce mca mwo mnu mte nba npl nen nnu nwr mwa mke mma mth mtr nra nik), (mki, .inl (cI, 8, .inl gki)), (mpa, .inl (cI, 8, .inl gpa)), (mta, .inl (cI, 8, .inl gta))])) (vp_Si (fun r => 0 ≤ r.toInt ∧ r.toInt ≤ 1728 ∧ (r.toInt = (zM gki gpa gta npu.toInt.toNat nhu.toInt (if wh.toInt = 0 then 1 else 0) 3) d.toInt sec.toInt))) 0 0 (fun _ => False) := by
  refine Met.ofW (cc := cX8_mostCases) (maxL := 8) (ret := (some .int)) (by decide) rfl ?_
  intro p e s m args below meth c s₁ B hml hv
  obtain ⟨rfl, hP, hK, hN, hZ⟩ := hv
  have hx := B.exec
  have hb := B.bytes
  have hr := B.returns
  have hts := atoms_spec (ws := wsX8_mostCases) B.pre
  have hown : s.vm.findClass RX8 = some m.cls := findClass_of_methodNamed B.named
  have hlocks := B.notSynchronized
  have hl := lv_entry ([.ref m0, .int 3, .int d, .int sec, .int wh]) (n := 8) (Nat.le_of_ble_eq_true rfl)
  rw [lg_entry_eq]
  generalize (lg_sl ([.ref m0, .int 3, .int d, .int sec, .int wh]) ++ List.replicate (8 - (lg_sl ([.ref m0, .int 3, .int d, .int sec, .int wh])).length) Slot.unset).toArray = ls at hl ⊢
  replace hl : lv_has ls 8 [(0, .ref m0), (1, .int 3), (2, .int d), (3, .int sec), (4, .int wh)] := hl
  refine lv_iload_n hx hb dX8_mostCases_0 rfl (lv_at hl 2 rfl) ?_
  refine lv_if_ne (tgt := 10) hx hb dX8_mostCases_1 (by decide) (fun c_1 => ?_) (fun c_1 => ?_)
  · have fc_1 : d.toInt ≠ 0 := zf_ne c_1 rfl (by decide)
    refine lv_iload_n hx hb dX8_mostCases_10 rfl (lv_at hl 1 rfl) ?_
    refine lv_if_ne (tgt := 16) hx hb dX8_mostCases_11 (by decide) (fun c_2 => ?_) (fun c_2 => ?_)
    · refine lv_bipush (v := 12) hx hb dX8_mostCases_16 (by decide) ?_
      refine lv_aload_n hx hb dX8_mostCases_18 rfl (lv_at hl 0 rfl) ?_
      refine lv_iload_n hx hb dX8_mostCases_19 rfl (lv_at hl 1 rfl) ?_
      refine lv_iconst (v := 1) hx hb dX8_mostCases_20 (by decide) ?_
      refine lv_isub hx hb dX8_mostCases_21 ?_
      refine lv_topi (fun y_3 ey_3 => ?_)
      obtain rfl : y_3 = 2 := ey_3.trans (by decide)
      refine lv_iload_n hx hb dX8_mostCases_22 rfl (lv_at hl 2 rfl) ?_
      refine lv_iload_n hx hb dX8_mostCases_23 rfl (lv_at hl 3 rfl) ?_
      refine lv_iload hx hb dX8_mostCases_24 (lv_at hl 4 rfl) ?_
      refine zc_V (As := [.int 2, .int d, .int sec, .int wh]) (rest := [.int 12]) ⟨hx, hb, hml, hown, hts⟩ (c_F_M_mostCases_2 l D cI cJ cZ cP cS po m0 mrf mki mpa mta mla msl mco mhe mso msi msh mce mca mwo mnu mte mwa mke mma mth mtr (npu) (nte) (nat_) (nde) (nto) (nse) (nhu) (nga) (nsd) (nfa) (nba) (npl) (nen) (nnu) (nwr) (nra) (nik) gki gpa gta (d) (sec) (wh) hy0 hy1 hy2 hy3 hy4 hy5 hy6 hy7 hy8 hy9 hy10 hy11 hy12 hy13 hy14 hy15 hy16 hy17 hy18 hy19 hp_gki hp_gpa hp_gta) (cwV 4 hts gX8_mostCases_X8_mostCases rfl rfl rfl ⟨rfl, dh_X8_mostCases⟩ ⟨Nat.le_of_ble_eq_true rfl, Nat.le_of_ble_eq_true rfl⟩) hK hN hZ hP (hP.sub [0, 1, 2, 3] rfl) (va_recv (q := (RX8, TX8, 38)) hK hP (ci := 8) (q0 := 0) rfl rfl) rfl hl.1 rfl (Nat.le_of_ble_eq_true rfl) dX8_mostCases_26 ⟨Nat.le_of_ble_eq_true rfl, Nat.le_of_ble_eq_true rfl⟩ (fun r_4 hr_4 => ?_)
      obtain ⟨g_5, g_6, hsr_4_0⟩ := hr_4
      refine lv_imul hx hb dX8_mostCases_29 ?_
      refine lv_topi (fun x_7 ex_7 => ?_)
      have qx_7 : x_7.toInt = 12 * r_4.toInt := by rw [ex_7]; exact zf_mul (by decide) rfl (by omega) (by omega)
      refine lv_istore (lv' := [(5, .int x_7), (0, .ref m0), (1, .int 3), (2, .int d), (3, .int sec), (4, .int wh)]) hx hb dX8_mostCases_30 hl (by decide) rfl (fun ls hl => ?_)
      refine lv_iconst (v := 0) hx hb dX8_mostCases_32 (by decide) ?_
      refine lv_istore (lv' := [(6, .int 0), (5, .int x_7), (0, .ref m0), (1, .int 3), (2, .int d), (3, .int sec), (4, .int wh)]) hx hb dX8_mostCases_33 hl (by decide) rfl (fun ls hl => ?_)
      obtain ⟨i_35, hi_35⟩ : ∃ i : Int32, i = 0 := ⟨_, rfl⟩
      replace hl : lv_has ls 8 [(6, .int i_35), (5, .int x_7), (0, .ref m0), (1, .int 3), (2, .int d), (3, .int sec), (4, .int wh)] := by rw [hi_35]; exact lv_sub hl [0, 1, 2, 3, 4, 5, 6] rfl
      have h1i_35 : i_35.toInt = 0 := by rw [hi_35]; decide
      obtain ⟨nfu, hni_35⟩ : ∃ nq9 : Nat, npu.toInt ≤ i_35.toInt + (nq9 : Int) := ⟨((npu.toInt : Int) - 0).toNat, by omega⟩
      have hloi_35 : 0 ≤ i_35.toInt := by omega
      obtain ⟨v_8, hv_8⟩ : ∃ g : Int32, g = x_7 := ⟨_, rfl⟩
      replace hl : lv_has ls 8 [(6, .int i_35), (5, .int v_8), (0, .ref m0), (1, .int 3), (2, .int d), (3, .int sec), (4, .int wh)] := by rw [hv_8]; exact hl
      have hbv_8 : 0 ≤ v_8.toInt ∧ v_8.toInt ≤ 1728 := by rw [hv_8]; exact ⟨by omega, by omega⟩
      have hvi_35_0 : (v_8 : Int32).toInt = zFo gki gta (if wh.toInt = 0 then 1 else 0) d.toInt sec.toInt (12 * (zM gki gpa gta npu.toInt.toNat nhu.toInt (if wh.toInt = 0 then 1 else 0) 2) d.toInt sec.toInt) (zBy (zM gki gpa gta npu.toInt.toNat nhu.toInt (if wh.toInt = 0 then 1 else 0) 2) gki gpa gta nhu.toInt d.toInt sec.toInt) i_35.toInt.toNat := by
        (try rw [hi_35]); (try rw [hv_8]); (rw [(show ((0 : Int32).toInt.toNat) = 0 from by decide)]; have z := hsr_4_0; show _ = 12 * (zM gki gpa gta npu.toInt.toNat nhu.toInt (if wh.toInt = 0 then 1 else 0) 2) d.toInt sec.toInt; rw [← z]; omega)
      have hvi_35_1 : i_35.toInt ≤ npu.toInt := by
        (try rw [hi_35]); (try rw [hv_8]); (have k0 : (0 : Int32).toInt = 0 := (by decide); omega)
      clear h1i_35 hi_35 hv_8
      revert hni_35
      revert hloi_35
      revert hvi_35_1
      revert hvi_35_0
      revert hbv_8
      revert hl
      revert ls
      revert v_8
      revert i_35
      induction nfu with
      | zero =>
        intro i_35 v_8 ls hl hbv_8 hvi_35_0 hvi_35_1 hloi_35 hni_35
        have hzi_35 : npu.toInt ≤ i_35.toInt := by omega
        refine lv_iload hx hb dX8_mostCases_35 (lv_at hl 0 rfl) ?_
        refine lv_aload_n hx hb dX8_mostCases_37 rfl (lv_at hl 2 rfl) ?_
        refine va_get (D := D) (ci := 8) (v := .int npu) (C := RX8) (T := TX8) (N := 38) hx hb hts hi_X8_mostCases_8 hown hK hP 0 rfl rfl 0 (by decide) (hts (.fieldLink RX8 90 "TheLiningsInItModel" "pulls" "I") (List.mem_of_getElem? (i := 1) rfl)) (fun _ h9 => h9) rfl dX8_mostCases_38 ?_
        refine lv_icmp_ge (tgt := 109) hx hb dX8_mostCases_41 (by decide) (fun c_9 => ?_) (fun c_9 => ?_)
        · have fc_9 : npu.toInt ≤ i_35.toInt := zf_le c_9 rfl rfl
          refine lv_iload hx hb dX8_mostCases_109 (lv_at hl 1 rfl) ?_
          exact W.iret (v := v_8) hx hb hr (fun t ht hW => ⟨v_8, rfl, ⟨by omega, by omega, (show (v_8 : Int32).toInt = (zM gki gpa gta npu.toInt.toNat nhu.toInt (if wh.toInt = 0 then 1 else 0) 3) d.toInt sec.toInt from by (have h9 : i_35.toInt.toNat = npu.toInt.toNat := (by omega); have z := hvi_35_0; rw [h9, zM_ref (by omega)] at z; exact z))⟩, ht⟩) (fun q hq => by cases hq) dX8_mostCases_111
        · exfalso; have fc_9 : i_35.toInt < npu.toInt := zf_nle c_9 rfl rfl; omega
      | succ nfu ih =>
        intro i_35 v_8 ls hl hbv_8 hvi_35_0 hvi_35_1 hloi_35 hni_35
        refine lv_iload hx hb dX8_mostCases_35 (lv_at hl 0 rfl) ?_
        refine lv_aload_n hx hb dX8_mostCases_37 rfl (lv_at hl 2 rfl) ?_
        refine va_get (D := D) (ci := 8) (v := .int npu) (C := RX8) (T := TX8) (N := 38) hx hb hts hi_X8_mostCases_8 hown hK hP 0 rfl rfl 0 (by decide) (hts (.fieldLink RX8 90 "TheLiningsInItModel" "pulls" "I") (List.mem_of_getElem? (i := 1) rfl)) (fun _ h9 => h9) rfl dX8_mostCases_38 ?_
        refine lv_icmp_ge (tgt := 109) hx hb dX8_mostCases_41 (by decide) (fun c_10 => ?_) (fun c_10 => ?_)
        · have fc_10 : npu.toInt ≤ i_35.toInt := zf_le c_10 rfl rfl
          refine lv_iload hx hb dX8_mostCases_109 (lv_at hl 1 rfl) ?_
          exact W.iret (v := v_8) hx hb hr (fun t ht hW => ⟨v_8, rfl, ⟨by omega, by omega, (show (v_8 : Int32).toInt = (zM gki gpa gta npu.toInt.toNat nhu.toInt (if wh.toInt = 0 then 1 else 0) 3) d.toInt sec.toInt from by (have h9 : i_35.toInt.toNat = npu.toInt.toNat := (by omega); have z := hvi_35_0; rw [h9, zM_ref (by omega)] at z; exact z))⟩, ht⟩) (fun q hq => by cases hq) dX8_mostCases_111
        · have fc_10 : i_35.toInt < npu.toInt := zf_nle c_10 rfl rfl
          refine lv_aload_n hx hb dX8_mostCases_44 rfl (lv_at hl 2 rfl) ?_
          refine lv_iload hx hb dX8_mostCases_45 (lv_at hl 0 rfl) ?_
          refine lv_iload_n hx hb dX8_mostCases_47 rfl (lv_at hl 4 rfl) ?_
          refine lv_iload_n hx hb dX8_mostCases_48 rfl (lv_at hl 5 rfl) ?_
          refine zc_V (As := [.int i_35, .int d, .int sec]) (rest := []) ⟨hx, hb, hml, hown, hts⟩ (c_F_M_mayBe l D cI cJ cZ cP cS po m0 mrf mki mpa mta mla msl mco mhe mso msi msh mce mca mwo mnu mte mwa mke mma mth mtr (npu) (nte) (nat_) (nde) (nto) (nse) (nhu) (nga) (nsd) (nfa) (nba) (npl) (nen) (nnu) (nwr) (nra) (nik) gta (i_35) (d) (sec) hy0 hy1 hy2 hy3 hy4 hy5 hy6 hy7 hy8 hy9 hy10 hy11 hy12 hy13 (by omega) (by omega) hp_gta) (cwV 3 hts gX8_mostCases_X8_mayBe rfl rfl rfl ⟨rfl, dh_X8_mayBe⟩ ⟨Nat.le_of_ble_eq_true rfl, Nat.le_of_ble_eq_true rfl⟩) hK hN hZ hP (hP.sub [0, 3] rfl) (va_recv (q := (RX8, TX8, 38)) hK hP (ci := 8) (q0 := 0) rfl rfl) rfl hl.1 rfl (Nat.le_of_ble_eq_true rfl) dX8_mostCases_49 ⟨Nat.le_of_ble_eq_true rfl, Nat.le_of_ble_eq_true rfl⟩ (fun r_11 hr_11 => ?_)
          obtain ⟨g_12, g_13, hsr_11_0⟩ := hr_11
          refine lv_if_eq (tgt := 103) hx hb dX8_mostCases_52 (by decide) (fun c_14 => ?_) (fun c_14 => ?_)
          · have fc_14 : r_11.toInt = 0 := zf_eq c_14 rfl (by decide)
            obtain ⟨x_15, ex_15⟩ : ∃ y : Int32, y = i_35 + 1 := ⟨_, rfl⟩
            have qx_15 : x_15.toInt = i_35.toInt + 1 := dw_inc ex_15 fc_10
            refine lv_iinc (v := x_15) (lv' := [(6, .int x_15), (5, .int v_8), (0, .ref m0), (1, .int 3), (2, .int d), (3, .int sec), (4, .int wh)]) hx hb dX8_mostCases_103 hl (k := 0) rfl ex_15.symm (by decide) rfl (fun ls hl => ?_)
            refine lv_goto (tgt := 35) hx hb dX8_mostCases_106 (by decide) ?_
            exact ih x_15 v_8 _ (lv_sub hl [0, 1, 2, 3, 4, 5, 6] rfl) hbv_8 (show (v_8 : Int32).toInt = zFo gki gta (if wh.toInt = 0 then 1 else 0) d.toInt sec.toInt (12 * (zM gki gpa gta npu.toInt.toNat nhu.toInt (if wh.toInt = 0 then 1 else 0) 2) d.toInt sec.toInt) (zBy (zM gki gpa gta npu.toInt.toNat nhu.toInt (if wh.toInt = 0 then 1 else 0) 2) gki gpa gta nhu.toInt d.toInt sec.toInt) x_15.toInt.toNat from by (have hx : x_15.toInt.toNat = i_35.toInt.toNat + 1 := (by omega); have y9 : i_35.toNatClampNeg = i_35.toInt.toNat := rfl; have hm := hsr_11_0; rw [y9] at hm; have no : ¬ zOk gki gta (if wh.toInt = 0 then 1 else 0) d.toInt sec.toInt i_35.toInt.toNat := (fun z => by first | (have z1 := hm.mpr ⟨z.1, z.2.1⟩; omega) | (have z3 := z.2.2; rw [if_neg (by omega)] at z3; omega)); rw [hx, zFo_n no]; exact hvi_35_0)) (show x_15.toInt ≤ npu.toInt from by omega) (dw_lo hloi_35 qx_15) (dw_hn hni_35 qx_15)
          · have fc_14 : r_11.toInt ≠ 0 := zf_ne c_14 rfl (by decide)
            refine lv_iload hx hb dX8_mostCases_55 (lv_at hl 6 rfl) ?_
            refine lv_if_eq (tgt := 74) hx hb dX8_mostCases_57 (by decide) (fun c_16 => ?_) (fun c_16 => ?_)
            · have fc_16 : wh.toInt = 0 := zf_eq c_16 rfl (by decide)
              have htl9 : (gta i_35.toNatClampNeg).toInt ≤ sec.toInt := (hsr_11_0.mp (by omega)).2
              refine lv_aload_n hx hb dX8_mostCases_74 rfl (lv_at hl 2 rfl) ?_
              refine lv_iload hx hb dX8_mostCases_75 (lv_at hl 0 rfl) ?_
              refine lv_iload_n hx hb dX8_mostCases_77 rfl (lv_at hl 3 rfl) ?_
              refine lv_iload_n hx hb dX8_mostCases_78 rfl (lv_at hl 4 rfl) ?_
              refine lv_iload_n hx hb dX8_mostCases_79 rfl (lv_at hl 5 rfl) ?_
              refine lv_iload hx hb dX8_mostCases_80 (lv_at hl 6 rfl) ?_
              refine zc_V (As := [.int i_35, .int 3, .int d, .int sec, .int wh]) (rest := []) ⟨hx, hb, hml, hown, hts⟩ (c_F_M_casesBy_3 l D cI cJ cZ cP cS po m0 mrf mki mpa mta mla msl mco mhe mso msi msh mce mca mwo mnu mte mwa mke mma mth mtr (npu) (nte) (nat_) (nde) (nto) (nse) (nhu) (nga) (nsd) (nfa) (nba) (npl) (nen) (nnu) (nwr) (nra) (nik) gki gpa gta (i_35) (d) (sec) (wh) hy0 hy1 hy2 hy3 hy4 hy5 hy6 hy7 hy8 hy9 hy10 hy11 hy12 hy13 (by omega) (by omega) hy14 hy15 hy16 hy17 hy18 hy19 (by first | assumption | omega) hp_gki hp_gpa hp_gta) (cwV 5 hts gX8_mostCases_X8_casesBy rfl rfl rfl ⟨rfl, dh_X8_casesBy⟩ ⟨Nat.le_of_ble_eq_true rfl, Nat.le_of_ble_eq_true rfl⟩) hK hN hZ hP (hP.sub [0, 1, 2, 3] rfl) (va_recv (q := (RX8, TX8, 38)) hK hP (ci := 8) (q0 := 0) rfl rfl) rfl hl.1 rfl (Nat.le_of_ble_eq_true rfl) dX8_mostCases_82 ⟨Nat.le_of_ble_eq_true rfl, Nat.le_of_ble_eq_true rfl⟩ (fun r_17 hr_17 => ?_)
              obtain ⟨g_18, g_19, hsr_17_0⟩ := hr_17
              refine lv_istore (lv' := [(7, .int r_17), (6, .int i_35), (5, .int v_8), (0, .ref m0), (1, .int 3), (2, .int d), (3, .int sec), (4, .int wh)]) hx hb dX8_mostCases_85 hl (by decide) rfl (fun ls hl => ?_)
              refine lv_iload hx hb dX8_mostCases_87 (lv_at hl 0 rfl) ?_
              refine lv_iload hx hb dX8_mostCases_89 (lv_at hl 2 rfl) ?_
              refine lv_icmp_le (tgt := 99) hx hb dX8_mostCases_91 (by decide) (fun c_20 => ?_) (fun c_20 => ?_)
              · have fc_20 : r_17.toInt ≤ v_8.toInt := zf_le c_20 rfl rfl
                refine lv_iload hx hb dX8_mostCases_99 (lv_at hl 2 rfl) ?_
                refine lv_istore (lv' := [(5, .int v_8), (7, .int r_17), (6, .int i_35), (0, .ref m0), (1, .int 3), (2, .int d), (3, .int sec), (4, .int wh)]) hx hb dX8_mostCases_101 hl (by decide) rfl (fun ls hl => ?_)
                obtain ⟨x_21, ex_21⟩ : ∃ y : Int32, y = i_35 + 1 := ⟨_, rfl⟩
                have qx_21 : x_21.toInt = i_35.toInt + 1 := dw_inc ex_21 fc_10
                refine lv_iinc (v := x_21) (lv' := [(6, .int x_21), (5, .int v_8), (7, .int r_17), (0, .ref m0), (1, .int 3), (2, .int d), (3, .int sec), (4, .int wh)]) hx hb dX8_mostCases_103 hl (k := 2) rfl ex_21.symm (by decide) rfl (fun ls hl => ?_)
                refine lv_goto (tgt := 35) hx hb dX8_mostCases_106 (by decide) ?_
                exact ih x_21 v_8 _ (lv_sub hl [0, 1, 3, 4, 5, 6, 7] rfl) hbv_8 (show (v_8 : Int32).toInt = zFo gki gta (if wh.toInt = 0 then 1 else 0) d.toInt sec.toInt (12 * (zM gki gpa gta npu.toInt.toNat nhu.toInt (if wh.toInt = 0 then 1 else 0) 2) d.toInt sec.toInt) (zBy (zM gki gpa gta npu.toInt.toNat nhu.toInt (if wh.toInt = 0 then 1 else 0) 2) gki gpa gta nhu.toInt d.toInt sec.toInt) x_21.toInt.toNat from by (have hx : x_21.toInt.toNat = i_35.toInt.toNat + 1 := (by omega); have y9 : i_35.toNatClampNeg = i_35.toInt.toNat := rfl; have hm := hsr_11_0; rw [y9] at hm; have ok : zOk gki gta (if wh.toInt = 0 then 1 else 0) d.toInt sec.toInt i_35.toInt.toNat := ⟨(hm.mp (by omega)).1, (hm.mp (by omega)).2, (by first | exact Or.inl (by rw [if_pos (by omega)]; decide) | exact Or.inr (by omega))⟩; rw [hx, zFo_y ok, ← hvi_35_0]; have zr := hsr_17_0; rw [y9] at zr; have zr2 : r_17.toInt = (zBy (zM gki gpa gta npu.toInt.toNat nhu.toInt (if wh.toInt = 0 then 1 else 0) 2) gki gpa gta nhu.toInt d.toInt sec.toInt) i_35.toInt.toNat := zr; omega)) (show x_21.toInt ≤ npu.toInt from by omega) (dw_lo hloi_35 qx_21) (dw_hn hni_35 qx_21)
              · have fc_20 : v_8.toInt < r_17.toInt := zf_nle c_20 rfl rfl
                refine lv_iload hx hb dX8_mostCases_94 (lv_at hl 0 rfl) ?_
                refine lv_goto (tgt := 101) hx hb dX8_mostCases_96 (by decide) ?_
                refine lv_istore (lv' := [(5, .int r_17), (7, .int r_17), (6, .int i_35), (0, .ref m0), (1, .int 3), (2, .int d), (3, .int sec), (4, .int wh)]) hx hb dX8_mostCases_101 hl (by decide) rfl (fun ls hl => ?_)
                obtain ⟨x_22, ex_22⟩ : ∃ y : Int32, y = i_35 + 1 := ⟨_, rfl⟩
                have qx_22 : x_22.toInt = i_35.toInt + 1 := dw_inc ex_22 fc_10
                refine lv_iinc (v := x_22) (lv' := [(6, .int x_22), (5, .int r_17), (7, .int r_17), (0, .ref m0), (1, .int 3), (2, .int d), (3, .int sec), (4, .int wh)]) hx hb dX8_mostCases_103 hl (k := 2) rfl ex_22.symm (by decide) rfl (fun ls hl => ?_)
                refine lv_goto (tgt := 35) hx hb dX8_mostCases_106 (by decide) ?_
                exact ih x_22 r_17 _ (lv_sub hl [0, 1, 3, 4, 5, 6, 7] rfl) ⟨by omega, by omega⟩ (show (r_17 : Int32).toInt = zFo gki gta (if wh.toInt = 0 then 1 else 0) d.toInt sec.toInt (12 * (zM gki gpa gta npu.toInt.toNat nhu.toInt (if wh.toInt = 0 then 1 else 0) 2) d.toInt sec.toInt) (zBy (zM gki gpa gta npu.toInt.toNat nhu.toInt (if wh.toInt = 0 then 1 else 0) 2) gki gpa gta nhu.toInt d.toInt sec.toInt) x_22.toInt.toNat from by (have hx : x_22.toInt.toNat = i_35.toInt.toNat + 1 := (by omega); have y9 : i_35.toNatClampNeg = i_35.toInt.toNat := rfl; have hm := hsr_11_0; rw [y9] at hm; have ok : zOk gki gta (if wh.toInt = 0 then 1 else 0) d.toInt sec.toInt i_35.toInt.toNat := ⟨(hm.mp (by omega)).1, (hm.mp (by omega)).2, (by first | exact Or.inl (by rw [if_pos (by omega)]; decide) | exact Or.inr (by omega))⟩; rw [hx, zFo_y ok, ← hvi_35_0]; have zr := hsr_17_0; rw [y9] at zr; have zr2 : r_17.toInt = (zBy (zM gki gpa gta npu.toInt.toNat nhu.toInt (if wh.toInt = 0 then 1 else 0) 2) gki gpa gta nhu.toInt d.toInt sec.toInt) i_35.toInt.toNat := zr; omega)) (show x_22.toInt ≤ npu.toInt from by omega) (dw_lo hloi_35 qx_22) (dw_hn hni_35 qx_22)
            · have fc_16 : wh.toInt ≠ 0 := zf_ne c_16 rfl (by decide)
              refine lv_aload_n hx hb dX8_mostCases_60 rfl (lv_at hl 2 rfl) ?_
              refine va_get (D := D) (ci := 8) (v := .ref mki) (C := RX8) (T := TX8) (N := 38) hx hb hts hi_X8_mostCases_8 hown hK hP 0 rfl rfl 11 (by decide) (hts (.fieldLink RX8 29 "TheLiningsInItModel" "kind" "[I") (List.mem_of_getElem? (i := 2) rfl)) (fun _ h9 => h9) rfl dX8_mostCases_61 ?_
              refine lv_iload hx hb dX8_mostCases_64 (lv_at hl 0 rfl) ?_
              refine va_iald hx hb hK hP 1 0 rfl rfl (zf_in (by omega) (by omega)) dX8_mostCases_66 ?_
              refine lv_topi (fun x_23 ex_23 => ?_)
              have bx_23 : 0 ≤ x_23.toInt ∧ x_23.toInt ≤ 6 := by rw [ex_23]; exact hp_gki _
              refine lv_iconst (v := 5) hx hb dX8_mostCases_67 (by decide) ?_
              refine lv_icmp_ne (tgt := 74) hx hb dX8_mostCases_68 (by decide) (fun c_24 => ?_) (fun c_24 => ?_)
              · have fc_24 : x_23.toInt ≠ 5 := zf_ne c_24 rfl (by decide)
                have htl9 : (gta i_35.toNatClampNeg).toInt ≤ sec.toInt := (hsr_11_0.mp (by omega)).2
                refine lv_aload_n hx hb dX8_mostCases_74 rfl (lv_at hl 2 rfl) ?_
                refine lv_iload hx hb dX8_mostCases_75 (lv_at hl 0 rfl) ?_
                refine lv_iload_n hx hb dX8_mostCases_77 rfl (lv_at hl 3 rfl) ?_
                refine lv_iload_n hx hb dX8_mostCases_78 rfl (lv_at hl 4 rfl) ?_
                refine lv_iload_n hx hb dX8_mostCases_79 rfl (lv_at hl 5 rfl) ?_
                refine lv_iload hx hb dX8_mostCases_80 (lv_at hl 6 rfl) ?_
                refine zc_V (As := [.int i_35, .int 3, .int d, .int sec, .int wh]) (rest := []) ⟨hx, hb, hml, hown, hts⟩ (c_F_M_casesBy_3 l D cI cJ cZ cP cS po m0 mrf mki mpa mta mla msl mco mhe mso msi msh mce mca mwo mnu mte mwa mke mma mth mtr (npu) (nte) (nat_) (nde) (nto) (nse) (nhu) (nga) (nsd) (nfa) (nba) (npl) (nen) (nnu) (nwr) (nra) (nik) gki gpa gta (i_35) (d) (sec) (wh) hy0 hy1 hy2 hy3 hy4 hy5 hy6 hy7 hy8 hy9 hy10 hy11 hy12 hy13 (by omega) (by omega) hy14 hy15 hy16 hy17 hy18 hy19 (by first | assumption | omega) hp_gki hp_gpa hp_gta) (cwV 5 hts gX8_mostCases_X8_casesBy rfl rfl rfl ⟨rfl, dh_X8_casesBy⟩ ⟨Nat.le_of_ble_eq_true rfl, Nat.le_of_ble_eq_true rfl⟩) hK hN hZ hP (hP.sub [0, 1, 2, 3] rfl) (va_recv (q := (RX8, TX8, 38)) hK hP (ci := 8) (q0 := 0) rfl rfl) rfl hl.1 rfl (Nat.le_of_ble_eq_true rfl) dX8_mostCases_82 ⟨Nat.le_of_ble_eq_true rfl, Nat.le_of_ble_eq_true rfl⟩ (fun r_25 hr_25 => ?_)
                obtain ⟨g_26, g_27, hsr_25_0⟩ := hr_25
                refine lv_istore (lv' := [(7, .int r_25), (6, .int i_35), (5, .int v_8), (0, .ref m0), (1, .int 3), (2, .int d), (3, .int sec), (4, .int wh)]) hx hb dX8_mostCases_85 hl (by decide) rfl (fun ls hl => ?_)
                refine lv_iload hx hb dX8_mostCases_87 (lv_at hl 0 rfl) ?_
                refine lv_iload hx hb dX8_mostCases_89 (lv_at hl 2 rfl) ?_
                refine lv_icmp_le (tgt := 99) hx hb dX8_mostCases_91 (by decide) (fun c_28 => ?_) (fun c_28 => ?_)
                · have fc_28 : r_25.toInt ≤ v_8.toInt := zf_le c_28 rfl rfl
                  refine lv_iload hx hb dX8_mostCases_99 (lv_at hl 2 rfl) ?_
                  refine lv_istore (lv' := [(5, .int v_8), (7, .int r_25), (6, .int i_35), (0, .ref m0), (1, .int 3), (2, .int d), (3, .int sec), (4, .int wh)]) hx hb dX8_mostCases_101 hl (by decide) rfl (fun ls hl => ?_)
                  obtain ⟨x_29, ex_29⟩ : ∃ y : Int32, y = i_35 + 1 := ⟨_, rfl⟩
                  have qx_29 : x_29.toInt = i_35.toInt + 1 := dw_inc ex_29 fc_10
                  refine lv_iinc (v := x_29) (lv' := [(6, .int x_29), (5, .int v_8), (7, .int r_25), (0, .ref m0), (1, .int 3), (2, .int d), (3, .int sec), (4, .int wh)]) hx hb dX8_mostCases_103 hl (k := 2) rfl ex_29.symm (by decide) rfl (fun ls hl => ?_)
                  refine lv_goto (tgt := 35) hx hb dX8_mostCases_106 (by decide) ?_
                  exact ih x_29 v_8 _ (lv_sub hl [0, 1, 3, 4, 5, 6, 7] rfl) hbv_8 (show (v_8 : Int32).toInt = zFo gki gta (if wh.toInt = 0 then 1 else 0) d.toInt sec.toInt (12 * (zM gki gpa gta npu.toInt.toNat nhu.toInt (if wh.toInt = 0 then 1 else 0) 2) d.toInt sec.toInt) (zBy (zM gki gpa gta npu.toInt.toNat nhu.toInt (if wh.toInt = 0 then 1 else 0) 2) gki gpa gta nhu.toInt d.toInt sec.toInt) x_29.toInt.toNat from by (have hx : x_29.toInt.toNat = i_35.toInt.toNat + 1 := (by omega); have y9 : i_35.toNatClampNeg = i_35.toInt.toNat := rfl; have hm := hsr_11_0; rw [y9] at hm; have nk : (gki i_35.toInt.toNat).toInt = x_23.toInt := (by rw [ex_23]; rfl); have ok : zOk gki gta (if wh.toInt = 0 then 1 else 0) d.toInt sec.toInt i_35.toInt.toNat := ⟨(hm.mp (by omega)).1, (hm.mp (by omega)).2, (by first | exact Or.inl (by rw [if_pos (by omega)]; decide) | exact Or.inr (by omega))⟩; rw [hx, zFo_y ok, ← hvi_35_0]; have zr := hsr_25_0; rw [y9] at zr; have zr2 : r_25.toInt = (zBy (zM gki gpa gta npu.toInt.toNat nhu.toInt (if wh.toInt = 0 then 1 else 0) 2) gki gpa gta nhu.toInt d.toInt sec.toInt) i_35.toInt.toNat := zr; omega)) (show x_29.toInt ≤ npu.toInt from by omega) (dw_lo hloi_35 qx_29) (dw_hn hni_35 qx_29)
                · have fc_28 : v_8.toInt < r_25.toInt := zf_nle c_28 rfl rfl
                  refine lv_iload hx hb dX8_mostCases_94 (lv_at hl 0 rfl) ?_
                  refine lv_goto (tgt := 101) hx hb dX8_mostCases_96 (by decide) ?_
                  refine lv_istore (lv' := [(5, .int r_25), (7, .int r_25), (6, .int i_35), (0, .ref m0), (1, .int 3), (2, .int d), (3, .int sec), (4, .int wh)]) hx hb dX8_mostCases_101 hl (by decide) rfl (fun ls hl => ?_)
                  obtain ⟨x_30, ex_30⟩ : ∃ y : Int32, y = i_35 + 1 := ⟨_, rfl⟩
                  have qx_30 : x_30.toInt = i_35.toInt + 1 := dw_inc ex_30 fc_10
                  refine lv_iinc (v := x_30) (lv' := [(6, .int x_30), (5, .int r_25), (7, .int r_25), (0, .ref m0), (1, .int 3), (2, .int d), (3, .int sec), (4, .int wh)]) hx hb dX8_mostCases_103 hl (k := 2) rfl ex_30.symm (by decide) rfl (fun ls hl => ?_)
                  refine lv_goto (tgt := 35) hx hb dX8_mostCases_106 (by decide) ?_
                  exact ih x_30 r_25 _ (lv_sub hl [0, 1, 3, 4, 5, 6, 7] rfl) ⟨by omega, by omega⟩ (show (r_25 : Int32).toInt = zFo gki gta (if wh.toInt = 0 then 1 else 0) d.toInt sec.toInt (12 * (zM gki gpa gta npu.toInt.toNat nhu.toInt (if wh.toInt = 0 then 1 else 0) 2) d.toInt sec.toInt) (zBy (zM gki gpa gta npu.toInt.toNat nhu.toInt (if wh.toInt = 0 then 1 else 0) 2) gki gpa gta nhu.toInt d.toInt sec.toInt) x_30.toInt.toNat from by (have hx : x_30.toInt.toNat = i_35.toInt.toNat + 1 := (by omega); have y9 : i_35.toNatClampNeg = i_35.toInt.toNat := rfl; have hm := hsr_11_0; rw [y9] at hm; have nk : (gki i_35.toInt.toNat).toInt = x_23.toInt := (by rw [ex_23]; rfl); have ok : zOk gki gta (if wh.toInt = 0 then 1 else 0) d.toInt sec.toInt i_35.toInt.toNat := ⟨(hm.mp (by omega)).1, (hm.mp (by omega)).2, (by first | exact Or.inl (by rw [if_pos (by omega)]; decide) | exact Or.inr (by omega))⟩; rw [hx, zFo_y ok, ← hvi_35_0]; have zr := hsr_25_0; rw [y9] at zr; have zr2 : r_25.toInt = (zBy (zM gki gpa gta npu.toInt.toNat nhu.toInt (if wh.toInt = 0 then 1 else 0) 2) gki gpa gta nhu.toInt d.toInt sec.toInt) i_35.toInt.toNat := zr; omega)) (show x_30.toInt ≤ npu.toInt from by omega) (dw_lo hloi_35 qx_30) (dw_hn hni_35 qx_30)
              · have fc_24 : x_23.toInt = 5 := zf_eq c_24 rfl (by decide)
                refine lv_goto (tgt := 103) hx hb dX8_mostCases_71 (by decide) ?_
                obtain ⟨x_31, ex_31⟩ : ∃ y : Int32, y = i_35 + 1 := ⟨_, rfl⟩
                have qx_31 : x_31.toInt = i_35.toInt + 1 := dw_inc ex_31 fc_10
                refine lv_iinc (v := x_31) (lv' := [(6, .int x_31), (5, .int v_8), (0, .ref m0), (1, .int 3), (2, .int d), (3, .int sec), (4, .int wh)]) hx hb dX8_mostCases_103 hl (k := 0) rfl ex_31.symm (by decide) rfl (fun ls hl => ?_)
                refine lv_goto (tgt := 35) hx hb dX8_mostCases_106 (by decide) ?_
                exact ih x_31 v_8 _ (lv_sub hl [0, 1, 2, 3, 4, 5, 6] rfl) hbv_8 (show (v_8 : Int32).toInt = zFo gki gta (if wh.toInt = 0 then 1 else 0) d.toInt sec.toInt (12 * (zM gki gpa gta npu.toInt.toNat nhu.toInt (if wh.toInt = 0 then 1 else 0) 2) d.toInt sec.toInt) (zBy (zM gki gpa gta npu.toInt.toNat nhu.toInt (if wh.toInt = 0 then 1 else 0) 2) gki gpa gta nhu.toInt d.toInt sec.toInt) x_31.toInt.toNat from by (have hx : x_31.toInt.toNat = i_35.toInt.toNat + 1 := (by omega); have y9 : i_35.toNatClampNeg = i_35.toInt.toNat := rfl; have hm := hsr_11_0; rw [y9] at hm; have nk : (gki i_35.toInt.toNat).toInt = x_23.toInt := (by rw [ex_23]; rfl); have no : ¬ zOk gki gta (if wh.toInt = 0 then 1 else 0) d.toInt sec.toInt i_35.toInt.toNat := (fun z => by first | (have z1 := hm.mpr ⟨z.1, z.2.1⟩; omega) | (have z3 := z.2.2; rw [if_neg (by omega)] at z3; omega)); rw [hx, zFo_n no]; exact hvi_35_0)) (show x_31.toInt ≤ npu.toInt from by omega) (dw_lo hloi_35 qx_31) (dw_hn hni_35 qx_31)
    · exact absurd c_2 (by decide)
  · have fc_1 : d.toInt = 0 := zf_eq c_1 rfl (by decide)
    refine lv_aload_n hx hb dX8_mostCases_4 rfl (lv_at hl 0 rfl) ?_
    refine lv_iload_n hx hb dX8_mostCases_5 rfl (lv_at hl 1 rfl) ?_
    refine zc_V (As := [.int 3]) (rest := []) ⟨hx, hb, hml, hown, hts⟩ (c_M_power_3 l D cI cJ cZ cP cS po m0 mrf mki mpa mta mla msl mco mhe mso msi msh mce mca mwo mnu mte mwa mke mma mth mtr (npu) (nte) (nat_) (nde) (nto) (nse) (nhu) (nga) (nsd) (nfa) (nba) (npl) (nen) (nnu) (nwr) (nra) (nik) hy0 hy1 hy2 hy3 hy4 hy5 hy6 hy7 hy8 hy9 hy10 hy11 hy12 hy13) (cwV 1 hts gX8_mostCases_X8_power rfl rfl rfl ⟨rfl, dh_X8_power⟩ ⟨Nat.le_of_ble_eq_true rfl, Nat.le_of_ble_eq_true rfl⟩) hK hN hZ hP (hP.sub [0] rfl) (va_recv (q := (RX8, TX8, 38)) hK hP (ci := 8) (q0 := 0) rfl rfl) rfl hl.1 rfl (Nat.le_of_ble_eq_true rfl) dX8_mostCases_6 ⟨Nat.le_of_ble_eq_true rfl, Nat.le_of_ble_eq_true rfl⟩ (fun r_32 hr_32 => ?_)
    obtain rfl := hr_32
    exact W.iret (v := 1728) hx hb hr (fun t ht hW => ⟨1728, rfl, ⟨by decide, by decide, (show (1728 : Int32).toInt = (zM gki gpa gta npu.toInt.toNat nhu.toInt (if wh.toInt = 0 then 1 else 0) 3) d.toInt sec.toInt from by (have k9 : (1728 : Int32).toInt = 1728 := (by decide); rw [zM_s, if_pos (by omega)]; rw [show zPw 3 = 1728 from by decide]; omega))⟩, ht⟩) (fun q hq => by cases hq) dX8_mostCases_9
set_option maxHeartbeats 4000000 in
set_option maxRecDepth 100000 in
theorem c_F_M_casesBy_4 (l : Launch) (D : va_G) (cI cJ cZ cP cS : ClassId) (po : zPool) (m0 mrf mki mpa mta mla msl mco mhe mso msi msh mce mca mwo mnu mte mwa mke mma mth mtr : Nat) (npu nte nat_ nde nto nse nhu nga nsd nfa nba npl nen nnu nwr nra nik : Int32) (gki gpa gta : Nat → Int32) (p_ d sec wh : Int32) (hy0 : 0 ≤ npu.toInt) (hy1 : npu.toInt ≤ 8) (hy2 : 4 ≤ nte.toInt) (hy3 : nte.toInt ≤ 40) (hy4 : 0 ≤ nat_.toInt) (hy5 : nat_.toInt ≤ 40) (hy6 : 0 ≤ nde.toInt) (hy7 : nde.toInt ≤ 24) (hy8 : 0 ≤ nhu.toInt) (hy9 : nhu.toInt ≤ 9) (hy10 : 0 ≤ nra.toInt) (hy11 : nra.toInt ≤ 2000) (hy12 : 0 ≤ nik.toInt) (hy13 : nik.toInt ≤ 1) (hy14 : 0 ≤ p_.toInt) (hy15 : p_.toInt ≤ 7) (hy16 : 0 ≤ d.toInt) (hy17 : d.toInt ≤ 24) (hy18 : 0 ≤ sec.toInt) (hy19 : sec.toInt ≤ 300) (hy20 : 0 ≤ wh.toInt) (hy21 : wh.toInt ≤ 1) (htl : (gta p_.toNatClampNeg).toInt ≤ sec.toInt) (hp_gki : zRg gki (0) 6) (hp_gpa : zRg gpa (0) 9) (hp_gta : zRg gta (0) 60) : Met l yX8_casesBy wsX8_casesBy ({ frames := 8, cells := 0, slots := 0, locals := 210 }) (va_Pc [.ref m0, .int p_, .int 4, .int d, .int sec, .int wh] (zR D (zKT cI cJ cZ cP cS) po [(zMO m0 npu nte nat_ nde nto nse nhu nga nsd nfa mrf mki mpa mta mla msl mco mhe mso msi msh mce mca mwo mnu mte nba npl nen nnu nwr mwa mke mma mth mtr nra nik), (mki, .inl (cI, 8, .inl gki)), (mpa, .inl (cI, 8, .inl gpa)), (mta, .inl (cI, 8, .inl gta))])) (vp_Si (fun r => 0 ≤ r.toInt ∧ r.toInt ≤ 20736 ∧ (r.toInt = zBy1 (zM gki gpa gta npu.toInt.toNat nhu.toInt (if wh.toInt = 0 then 1 else 0) 3) (gki p_.toNatClampNeg).toInt (gpa p_.toNatClampNeg).toInt (gta p_.toNatClampNeg).toInt nhu.toInt d.toInt sec.toInt))) 0 0 (fun _ => False) := by
  refine Met.ofW (cc := cX8_casesBy) (maxL := 8) (ret := (some .int)) (by decide) rfl ?_
  intro p e s m args below meth c s₁ B hml hv
  obtain ⟨rfl, hP, hK, hN, hZ⟩ := hv
  have hx := B.exec
  have hb := B.bytes
  have hr := B.returns
  have hts := atoms_spec (ws := wsX8_casesBy) B.pre
  have hown : s.vm.findClass RX8 = some m.cls := findClass_of_methodNamed B.named
  have hlocks := B.notSynchronized
  have hl := lv_entry ([.ref m0, .int p_, .int 4, .int d, .int sec, .int wh]) (n := 8) (Nat.le_of_ble_eq_true rfl)
  rw [lg_entry_eq]
  generalize (lg_sl ([.ref m0, .int p_, .int 4, .int d, .int sec, .int wh]) ++ List.replicate (8 - (lg_sl ([.ref m0, .int p_, .int 4, .int d, .int sec, .int wh])).length) Slot.unset).toArray = ls at hl ⊢
  replace hl : lv_has ls 8 [(0, .ref m0), (1, .int p_), (2, .int 4), (3, .int d), (4, .int sec), (5, .int wh)] := hl
  refine lv_aload_n hx hb dX8_casesBy_0 rfl (lv_at hl 0 rfl) ?_
  refine lv_iload_n hx hb dX8_casesBy_1 rfl (lv_at hl 1 rfl) ?_
  refine lv_iload_n hx hb dX8_casesBy_2 rfl (lv_at hl 3 rfl) ?_
  refine zc_V (As := [.int p_, .int d]) (rest := []) ⟨hx, hb, hml, hown, hts⟩ (c_F_M_ways l D cI cJ cZ cP cS po m0 mrf mki mpa mta mla msl mco mhe mso msi msh mce mca mwo mnu mte mwa mke mma mth mtr (npu) (nte) (nat_) (nde) (nto) (nse) (nhu) (nga) (nsd) (nfa) (nba) (npl) (nen) (nnu) (nwr) (nra) (nik) gki gpa (p_) (d) hy0 hy1 hy2 hy3 hy4 hy5 hy6 hy7 hy8 hy9 hy10 hy11 hy12 hy13 hy14 hy15 hy16 hy17 hp_gki hp_gpa) (cwV 2 hts gX8_casesBy_X8_ways rfl rfl rfl ⟨rfl, dh_X8_ways⟩ ⟨Nat.le_of_ble_eq_true rfl, Nat.le_of_ble_eq_true rfl⟩) hK hN hZ hP (hP.sub [0, 1, 2] rfl) (va_recv (q := (RX8, TX8, 38)) hK hP (ci := 8) (q0 := 0) rfl rfl) rfl hl.1 rfl (Nat.le_of_ble_eq_true rfl) dX8_casesBy_3 ⟨Nat.le_of_ble_eq_true rfl, Nat.le_of_ble_eq_true rfl⟩ (fun r_1 hr_1 => ?_)
  obtain ⟨g_2, g_3, hsr_1_0⟩ := hr_1
  refine lv_istore (lv' := [(6, .int r_1), (0, .ref m0), (1, .int p_), (2, .int 4), (3, .int d), (4, .int sec), (5, .int wh)]) hx hb dX8_casesBy_6 hl (by decide) rfl (fun ls hl => ?_)
  refine lv_iload hx hb dX8_casesBy_8 (lv_at hl 0 rfl) ?_
  refine lv_if_ne (tgt := 17) hx hb dX8_casesBy_10 (by decide) (fun c_4 => ?_) (fun c_4 => ?_)
  · have fc_4 : r_1.toInt ≠ 0 := zf_ne c_4 rfl (by decide)
    refine lv_iload hx hb dX8_casesBy_17 (lv_at hl 0 rfl) ?_
    refine lv_aload_n hx hb dX8_casesBy_19 rfl (lv_at hl 1 rfl) ?_
    refine lv_iload_n hx hb dX8_casesBy_20 rfl (lv_at hl 3 rfl) ?_
    refine lv_iconst (v := 1) hx hb dX8_casesBy_21 (by decide) ?_
    refine lv_isub hx hb dX8_casesBy_22 ?_
    refine lv_topi (fun y_5 ey_5 => ?_)
    obtain rfl : y_5 = 3 := ey_5.trans (by decide)
    refine lv_aload_n hx hb dX8_casesBy_23 rfl (lv_at hl 1 rfl) ?_
    refine lv_iload_n hx hb dX8_casesBy_24 rfl (lv_at hl 2 rfl) ?_
    refine lv_iload_n hx hb dX8_casesBy_25 rfl (lv_at hl 4 rfl) ?_
    refine lv_iconst (v := 1) hx hb dX8_casesBy_26 (by decide) ?_
    have kc1 : (1 : Int32).toInt = 1 := by decide
    refine zc_V (As := [.int p_, .int d, .int 1]) (rest := [.int 3, .ref m0, .int r_1]) ⟨hx, hb, hml, hown, hts⟩ (c_F_M_deep l D cI cJ cZ cP cS po m0 mrf mki mpa mta mla msl mco mhe mso msi msh mce mca mwo mnu mte mwa mke mma mth mtr (npu) (nte) (nat_) (nde) (nto) (nse) (nhu) (nga) (nsd) (nfa) (nba) (npl) (nen) (nnu) (nwr) (nra) (nik) gki gpa (p_) (d) (1) hy0 hy1 hy2 hy3 hy4 hy5 hy6 hy7 hy8 hy9 hy10 hy11 hy12 hy13 hy14 hy15 hy16 hy17 (by omega) (by omega) hp_gki hp_gpa) (cwV 3 hts gX8_casesBy_X8_deep rfl rfl rfl ⟨rfl, dh_X8_deep⟩ ⟨Nat.le_of_ble_eq_true rfl, Nat.le_of_ble_eq_true rfl⟩) hK hN hZ hP (hP.sub [0, 1, 2] rfl) (va_recv (q := (RX8, TX8, 38)) hK hP (ci := 8) (q0 := 0) rfl rfl) rfl hl.1 rfl (Nat.le_of_ble_eq_true rfl) dX8_casesBy_27 ⟨Nat.le_of_ble_eq_true rfl, Nat.le_of_ble_eq_true rfl⟩ (fun r_6 hr_6 => ?_)
    obtain ⟨g_7, g_8, hsr_6_0⟩ := hr_6
    refine lv_iload hx hb dX8_casesBy_30 (lv_at hl 5 rfl) ?_
    refine lv_aload_n hx hb dX8_casesBy_32 rfl (lv_at hl 1 rfl) ?_
    refine va_get (D := D) (ci := 8) (v := .ref mta) (C := RX8) (T := TX8) (N := 38) hx hb hts hi_X8_casesBy_8 hown hK hP 0 rfl rfl 13 (by decide) (hts (.fieldLink RX8 35 "TheLiningsInItModel" "takes" "[I") (List.mem_of_getElem? (i := 1) rfl)) (fun _ h9 => h9) rfl dX8_casesBy_33 ?_
    refine lv_iload_n hx hb dX8_casesBy_36 rfl (lv_at hl 2 rfl) ?_
    refine va_iald hx hb hK hP 3 0 rfl rfl (zf_in (by omega) (by omega)) dX8_casesBy_37 ?_
    refine lv_topi (fun x_9 ex_9 => ?_)
    have bx_9 : 0 ≤ x_9.toInt ∧ x_9.toInt ≤ 60 := by rw [ex_9]; exact hp_gta _
    have htx_9 : x_9.toInt ≤ sec.toInt := by (rw [ex_9]; exact htl)
    refine lv_isub hx hb dX8_casesBy_38 ?_
    refine lv_topi (fun x_10 ex_10 => ?_)
    have qx_10 : x_10.toInt = sec.toInt - x_9.toInt := by rw [ex_10]; exact zf_sub rfl rfl (by omega) (by omega)
    refine lv_iload hx hb dX8_casesBy_39 (lv_at hl 6 rfl) ?_
    refine zc_V (As := [.int 3, .int r_6, .int x_10, .int wh]) (rest := [.int r_1]) ⟨hx, hb, hml, hown, hts⟩ (c_F_M_mostCases_3 l D cI cJ cZ cP cS po m0 mrf mki mpa mta mla msl mco mhe mso msi msh mce mca mwo mnu mte mwa mke mma mth mtr (npu) (nte) (nat_) (nde) (nto) (nse) (nhu) (nga) (nsd) (nfa) (nba) (npl) (nen) (nnu) (nwr) (nra) (nik) gki gpa gta (r_6) (x_10) (wh) hy0 hy1 hy2 hy3 hy4 hy5 hy6 hy7 hy8 hy9 hy10 hy11 hy12 hy13 (by omega) (by omega) (by omega) (by omega) hy20 hy21 hp_gki hp_gpa hp_gta) (cwV 4 hts gX8_casesBy_X8_mostCases rfl rfl rfl ⟨rfl, dh_X8_mostCases⟩ ⟨Nat.le_of_ble_eq_true rfl, Nat.le_of_ble_eq_true rfl⟩) hK hN hZ hP (hP.sub [0, 1, 2, 3] rfl) (va_recv (q := (RX8, TX8, 38)) hK hP (ci := 8) (q0 := 0) rfl rfl) rfl hl.1 rfl (Nat.le_of_ble_eq_true rfl) dX8_casesBy_41 ⟨Nat.le_of_ble_eq_true rfl, Nat.le_of_ble_eq_true rfl⟩ (fun r_11 hr_11 => ?_)
    obtain ⟨g_12, g_13, hsr_11_0⟩ := hr_11
    refine lv_imul hx hb dX8_casesBy_44 ?_
    refine lv_topi (fun x_14 ex_14 => ?_)
    obtain ⟨mx_14, nx_14, ox_14⟩ := zf_mulc (a := r_1) (b := r_11) (x := r_1.toInt) (y := r_11.toInt) (P := 1728) rfl rfl ⟨by omega, by omega⟩ ⟨by omega, by omega⟩ (by decide)
    rw [← ex_14] at mx_14
    refine lv_istore (lv' := [(7, .int x_14), (6, .int r_1), (0, .ref m0), (1, .int p_), (2, .int 4), (3, .int d), (4, .int sec), (5, .int wh)]) hx hb dX8_casesBy_45 hl (by decide) rfl (fun ls hl => ?_)
    refine lv_iload hx hb dX8_casesBy_47 (lv_at hl 1 rfl) ?_
    refine lv_bipush (v := 12) hx hb dX8_casesBy_49 (by decide) ?_
    refine lv_icmp_ne (tgt := 59) hx hb dX8_casesBy_51 (by decide) (fun c_15 => ?_) (fun c_15 => ?_)
    · have fc_15 : r_1.toInt ≠ 12 := zf_ne c_15 rfl (by decide)
      refine lv_iload hx hb dX8_casesBy_59 (lv_at hl 0 rfl) ?_
      refine lv_bipush (v := 12) hx hb dX8_casesBy_61 (by decide) ?_
      refine lv_iload hx hb dX8_casesBy_63 (lv_at hl 1 rfl) ?_
      refine lv_isub hx hb dX8_casesBy_65 ?_
      refine lv_topi (fun x_16 ex_16 => ?_)
      have qx_16 : x_16.toInt = 12 - r_1.toInt := by rw [ex_16]; exact zf_sub (by decide) rfl (by omega) (by omega)
      refine lv_aload_n hx hb dX8_casesBy_66 rfl (lv_at hl 2 rfl) ?_
      refine lv_iload_n hx hb dX8_casesBy_67 rfl (lv_at hl 4 rfl) ?_
      refine lv_iconst (v := 1) hx hb dX8_casesBy_68 (by decide) ?_
      refine lv_isub hx hb dX8_casesBy_69 ?_
      refine lv_topi (fun y_17 ey_17 => ?_)
      obtain rfl : y_17 = 3 := ey_17.trans (by decide)
      refine lv_aload_n hx hb dX8_casesBy_70 rfl (lv_at hl 2 rfl) ?_
      refine lv_iload_n hx hb dX8_casesBy_71 rfl (lv_at hl 3 rfl) ?_
      refine lv_iload_n hx hb dX8_casesBy_72 rfl (lv_at hl 5 rfl) ?_
      refine lv_iconst (v := 0) hx hb dX8_casesBy_73 (by decide) ?_
      have kc0 : (0 : Int32).toInt = 0 := by decide
      refine zc_V (As := [.int p_, .int d, .int 0]) (rest := [.int 3, .ref m0, .int x_16, .int x_14]) ⟨hx, hb, hml, hown, hts⟩ (c_F_M_deep l D cI cJ cZ cP cS po m0 mrf mki mpa mta mla msl mco mhe mso msi msh mce mca mwo mnu mte mwa mke mma mth mtr (npu) (nte) (nat_) (nde) (nto) (nse) (nhu) (nga) (nsd) (nfa) (nba) (npl) (nen) (nnu) (nwr) (nra) (nik) gki gpa (p_) (d) (0) hy0 hy1 hy2 hy3 hy4 hy5 hy6 hy7 hy8 hy9 hy10 hy11 hy12 hy13 hy14 hy15 hy16 hy17 (by omega) (by omega) hp_gki hp_gpa) (cwV 3 hts gX8_casesBy_X8_deep rfl rfl rfl ⟨rfl, dh_X8_deep⟩ ⟨Nat.le_of_ble_eq_true rfl, Nat.le_of_ble_eq_true rfl⟩) hK hN hZ hP (hP.sub [0, 1, 2] rfl) (va_recv (q := (RX8, TX8, 38)) hK hP (ci := 8) (q0 := 0) rfl rfl) rfl hl.1 rfl (Nat.le_of_ble_eq_true rfl) dX8_casesBy_74 ⟨Nat.le_of_ble_eq_true rfl, Nat.le_of_ble_eq_true rfl⟩ (fun r_18 hr_18 => ?_)
      obtain ⟨g_19, g_20, hsr_18_0⟩ := hr_18
      refine lv_iload hx hb dX8_casesBy_77 (lv_at hl 6 rfl) ?_
      refine lv_aload_n hx hb dX8_casesBy_79 rfl (lv_at hl 2 rfl) ?_
      refine va_get (D := D) (ci := 8) (v := .ref mta) (C := RX8) (T := TX8) (N := 38) hx hb hts hi_X8_casesBy_8 hown hK hP 0 rfl rfl 13 (by decide) (hts (.fieldLink RX8 35 "TheLiningsInItModel" "takes" "[I") (List.mem_of_getElem? (i := 1) rfl)) (fun _ h9 => h9) rfl dX8_casesBy_80 ?_
      refine lv_iload_n hx hb dX8_casesBy_83 rfl (lv_at hl 3 rfl) ?_
      refine va_iald hx hb hK hP 3 0 rfl rfl (zf_in (by omega) (by omega)) dX8_casesBy_84 ?_
      refine lv_topi (fun y_21 ey_21 => ?_)
      obtain rfl : x_9 = y_21 := ex_9.trans ey_21.symm
      refine lv_isub hx hb dX8_casesBy_85 ?_
      refine lv_topi (fun y_22 ey_22 => ?_)
      obtain rfl : x_10 = y_22 := ex_10.trans ey_22.symm
      refine lv_iload hx hb dX8_casesBy_86 (lv_at hl 7 rfl) ?_
      refine zc_V (As := [.int 3, .int r_18, .int x_10, .int wh]) (rest := [.int x_16, .int x_14]) ⟨hx, hb, hml, hown, hts⟩ (c_F_M_mostCases_3 l D cI cJ cZ cP cS po m0 mrf mki mpa mta mla msl mco mhe mso msi msh mce mca mwo mnu mte mwa mke mma mth mtr (npu) (nte) (nat_) (nde) (nto) (nse) (nhu) (nga) (nsd) (nfa) (nba) (npl) (nen) (nnu) (nwr) (nra) (nik) gki gpa gta (r_18) (x_10) (wh) hy0 hy1 hy2 hy3 hy4 hy5 hy6 hy7 hy8 hy9 hy10 hy11 hy12 hy13 (by omega) (by omega) (by omega) (by omega) hy20 hy21 hp_gki hp_gpa hp_gta) (cwV 4 hts gX8_casesBy_X8_mostCases rfl rfl rfl ⟨rfl, dh_X8_mostCases⟩ ⟨Nat.le_of_ble_eq_true rfl, Nat.le_of_ble_eq_true rfl⟩) hK hN hZ hP (hP.sub [0, 1, 2, 3] rfl) (va_recv (q := (RX8, TX8, 38)) hK hP (ci := 8) (q0 := 0) rfl rfl) rfl hl.1 rfl (Nat.le_of_ble_eq_true rfl) dX8_casesBy_88 ⟨Nat.le_of_ble_eq_true rfl, Nat.le_of_ble_eq_true rfl⟩ (fun r_23 hr_23 => ?_)
      obtain ⟨g_24, g_25, hsr_23_0⟩ := hr_23
      refine lv_imul hx hb dX8_casesBy_91 ?_
      refine lv_topi (fun x_26 ex_26 => ?_)
      obtain ⟨mx_26, nx_26, ox_26⟩ := zf_mulc (a := x_16) (b := r_23) (x := x_16.toInt) (y := r_23.toInt) (P := 1728) rfl rfl ⟨by omega, by omega⟩ ⟨by omega, by omega⟩ (by decide)
      rw [← ex_26] at mx_26
      refine lv_iadd hx hb dX8_casesBy_92 ?_
      refine lv_topi (fun x_27 ex_27 => ?_)
      have qx_27 : x_27.toInt = x_14.toInt + x_26.toInt := by rw [ex_27]; exact zf_add rfl rfl (by omega) (by omega)
      have hmx9 := zMix (w := r_1.toInt) (x := r_11.toInt) (y := r_23.toInt) (P := 1728) ⟨by omega, by omega⟩ ⟨by omega, by omega⟩ ⟨by omega, by omega⟩
      rw [show 12 - r_1.toInt = x_16.toInt from by omega] at hmx9
      exact W.iret (v := x_27) hx hb hr (fun t ht hW => ⟨x_27, rfl, ⟨by omega, by omega, (show (x_27 : Int32).toInt = zBy1 (zM gki gpa gta npu.toInt.toNat nhu.toInt (if wh.toInt = 0 then 1 else 0) 3) (gki p_.toNatClampNeg).toInt (gpa p_.toNatClampNeg).toInt (gta p_.toNatClampNeg).toInt nhu.toInt d.toInt sec.toInt from by (have zw := hsr_1_0; have E1 : r_1.toInt * (zM gki gpa gta npu.toInt.toNat nhu.toInt (if wh.toInt = 0 then 1 else 0) 3) (zShl (gki p_.toNatClampNeg).toInt (gpa p_.toNatClampNeg).toInt d.toInt) (sec.toInt - (gta p_.toNatClampNeg).toInt) = x_14.toInt := (by rw [← hsr_6_0.1 (by decide), show sec.toInt - (gta p_.toNatClampNeg).toInt = (x_10 : Int32).toInt from by (have z : (gta p_.toNatClampNeg).toInt = x_9.toInt := (by rw [ex_9]); omega), ← hsr_11_0]; omega); have E2 : (12 - r_1.toInt) * (zM gki gpa gta npu.toInt.toNat nhu.toInt (if wh.toInt = 0 then 1 else 0) 3) (zDpr (gki p_.toNatClampNeg).toInt (gpa p_.toNatClampNeg).toInt nhu.toInt d.toInt) (sec.toInt - (gta p_.toNatClampNeg).toInt) = x_26.toInt := (by rw [← hsr_18_0.2 (by decide), show sec.toInt - (gta p_.toNatClampNeg).toInt = (x_10 : Int32).toInt from by (have z : (gta p_.toNatClampNeg).toInt = x_9.toInt := (by rw [ex_9]); omega), ← hsr_23_0, show 12 - r_1.toInt = x_16.toInt from by omega]; omega); unfold zBy1; rw [← zw, E1, E2]; omega))⟩, ht⟩) (fun q hq => by cases hq) dX8_casesBy_93
    · have fc_15 : r_1.toInt = 12 := zf_eq c_15 rfl (by decide)
      refine lv_iload hx hb dX8_casesBy_54 (lv_at hl 0 rfl) ?_
      refine lv_goto (tgt := 93) hx hb dX8_casesBy_56 (by decide) ?_
      exact W.iret (v := x_14) hx hb hr (fun t ht hW => ⟨x_14, rfl, ⟨by omega, by omega, (show (x_14 : Int32).toInt = zBy1 (zM gki gpa gta npu.toInt.toNat nhu.toInt (if wh.toInt = 0 then 1 else 0) 3) (gki p_.toNatClampNeg).toInt (gpa p_.toNatClampNeg).toInt (gta p_.toNatClampNeg).toInt nhu.toInt d.toInt sec.toInt from by (have zw := hsr_1_0; have E1 : r_1.toInt * (zM gki gpa gta npu.toInt.toNat nhu.toInt (if wh.toInt = 0 then 1 else 0) 3) (zShl (gki p_.toNatClampNeg).toInt (gpa p_.toNatClampNeg).toInt d.toInt) (sec.toInt - (gta p_.toNatClampNeg).toInt) = x_14.toInt := (by rw [← hsr_6_0.1 (by decide), show sec.toInt - (gta p_.toNatClampNeg).toInt = (x_10 : Int32).toInt from by (have z : (gta p_.toNatClampNeg).toInt = x_9.toInt := (by rw [ex_9]); omega), ← hsr_11_0]; omega); have E2 : (12 - r_1.toInt) * (zM gki gpa gta npu.toInt.toNat nhu.toInt (if wh.toInt = 0 then 1 else 0) 3) (zDpr (gki p_.toNatClampNeg).toInt (gpa p_.toNatClampNeg).toInt nhu.toInt d.toInt) (sec.toInt - (gta p_.toNatClampNeg).toInt) = 0 := (by rw [show 12 - r_1.toInt = 0 from by omega, Int.zero_mul]); unfold zBy1; rw [← zw, E1, E2]; omega))⟩, ht⟩) (fun q hq => by cases hq) dX8_casesBy_93
  · have fc_4 : r_1.toInt = 0 := zf_eq c_4 rfl (by decide)
    refine lv_iconst (v := 0) hx hb dX8_casesBy_13 (by decide) ?_
    refine lv_goto (tgt := 45) hx hb dX8_casesBy_14 (by decide) ?_
    refine lv_istore (lv' := [(7, .int 0), (6, .int r_1), (0, .ref m0), (1, .int p_), (2, .int 4), (3, .int d), (4, .int sec), (5, .int wh)]) hx hb dX8_casesBy_45 hl (by decide) rfl (fun ls hl => ?_)
    refine lv_iload hx hb dX8_casesBy_47 (lv_at hl 1 rfl) ?_
    refine lv_bipush (v := 12) hx hb dX8_casesBy_49 (by decide) ?_
    refine lv_icmp_ne (tgt := 59) hx hb dX8_casesBy_51 (by decide) (fun c_28 => ?_) (fun c_28 => ?_)
    · have fc_28 : r_1.toInt ≠ 12 := zf_ne c_28 rfl (by decide)
      refine lv_iload hx hb dX8_casesBy_59 (lv_at hl 0 rfl) ?_
      refine lv_bipush (v := 12) hx hb dX8_casesBy_61 (by decide) ?_
      refine lv_iload hx hb dX8_casesBy_63 (lv_at hl 1 rfl) ?_
      refine lv_isub hx hb dX8_casesBy_65 ?_
      refine lv_topi (fun x_29 ex_29 => ?_)
      have qx_29 : x_29.toInt = 12 - r_1.toInt := by rw [ex_29]; exact zf_sub (by decide) rfl (by omega) (by omega)
      refine lv_aload_n hx hb dX8_casesBy_66 rfl (lv_at hl 2 rfl) ?_
      refine lv_iload_n hx hb dX8_casesBy_67 rfl (lv_at hl 4 rfl) ?_
      refine lv_iconst (v := 1) hx hb dX8_casesBy_68 (by decide) ?_
      refine lv_isub hx hb dX8_casesBy_69 ?_
      refine lv_topi (fun y_30 ey_30 => ?_)
      obtain rfl : y_30 = 3 := ey_30.trans (by decide)
      refine lv_aload_n hx hb dX8_casesBy_70 rfl (lv_at hl 2 rfl) ?_
      refine lv_iload_n hx hb dX8_casesBy_71 rfl (lv_at hl 3 rfl) ?_
      refine lv_iload_n hx hb dX8_casesBy_72 rfl (lv_at hl 5 rfl) ?_
      refine lv_iconst (v := 0) hx hb dX8_casesBy_73 (by decide) ?_
      have kc0 : (0 : Int32).toInt = 0 := by decide
      refine zc_V (As := [.int p_, .int d, .int 0]) (rest := [.int 3, .ref m0, .int x_29, .int 0]) ⟨hx, hb, hml, hown, hts⟩ (c_F_M_deep l D cI cJ cZ cP cS po m0 mrf mki mpa mta mla msl mco mhe mso msi msh mce mca mwo mnu mte mwa mke mma mth mtr (npu) (nte) (nat_) (nde) (nto) (nse) (nhu) (nga) (nsd) (nfa) (nba) (npl) (nen) (nnu) (nwr) (nra) (nik) gki gpa (p_) (d) (0) hy0 hy1 hy2 hy3 hy4 hy5 hy6 hy7 hy8 hy9 hy10 hy11 hy12 hy13 hy14 hy15 hy16 hy17 (by omega) (by omega) hp_gki hp_gpa) (cwV 3 hts gX8_casesBy_X8_deep rfl rfl rfl ⟨rfl, dh_X8_deep⟩ ⟨Nat.le_of_ble_eq_true rfl, Nat.le_of_ble_eq_true rfl⟩) hK hN hZ hP (hP.sub [0, 1, 2] rfl) (va_recv (q := (RX8, TX8, 38)) hK hP (ci := 8) (q0 := 0) rfl rfl) rfl hl.1 rfl (Nat.le_of_ble_eq_true rfl) dX8_casesBy_74 ⟨Nat.le_of_ble_eq_true rfl, Nat.le_of_ble_eq_true rfl⟩ (fun r_31 hr_31 => ?_)
      obtain ⟨g_32, g_33, hsr_31_0⟩ := hr_31
      refine lv_iload hx hb dX8_casesBy_77 (lv_at hl 6 rfl) ?_
      refine lv_aload_n hx hb dX8_casesBy_79 rfl (lv_at hl 2 rfl) ?_
      refine va_get (D := D) (ci := 8) (v := .ref mta) (C := RX8) (T := TX8) (N := 38) hx hb hts hi_X8_casesBy_8 hown hK hP 0 rfl rfl 13 (by decide) (hts (.fieldLink RX8 35 "TheLiningsInItModel" "takes" "[I") (List.mem_of_getElem? (i := 1) rfl)) (fun _ h9 => h9) rfl dX8_casesBy_80 ?_
      refine lv_iload_n hx hb dX8_casesBy_83 rfl (lv_at hl 3 rfl) ?_
      refine va_iald hx hb hK hP 3 0 rfl rfl (zf_in (by omega) (by omega)) dX8_casesBy_84 ?_
      refine lv_topi (fun x_34 ex_34 => ?_)
      have bx_34 : 0 ≤ x_34.toInt ∧ x_34.toInt ≤ 60 := by rw [ex_34]; exact hp_gta _
      have htx_34 : x_34.toInt ≤ sec.toInt := by (rw [ex_34]; exact htl)
      refine lv_isub hx hb dX8_casesBy_85 ?_
      refine lv_topi (fun x_35 ex_35 => ?_)
      have qx_35 : x_35.toInt = sec.toInt - x_34.toInt := by rw [ex_35]; exact zf_sub rfl rfl (by omega) (by omega)
      refine lv_iload hx hb dX8_casesBy_86 (lv_at hl 7 rfl) ?_
      refine zc_V (As := [.int 3, .int r_31, .int x_35, .int wh]) (rest := [.int x_29, .int 0]) ⟨hx, hb, hml, hown, hts⟩ (c_F_M_mostCases_3 l D cI cJ cZ cP cS po m0 mrf mki mpa mta mla msl mco mhe mso msi msh mce mca mwo mnu mte mwa mke mma mth mtr (npu) (nte) (nat_) (nde) (nto) (nse) (nhu) (nga) (nsd) (nfa) (nba) (npl) (nen) (nnu) (nwr) (nra) (nik) gki gpa gta (r_31) (x_35) (wh) hy0 hy1 hy2 hy3 hy4 hy5 hy6 hy7 hy8 hy9 hy10 hy11 hy12 hy13 (by omega) (by omega) (by omega) (by omega) hy20 hy21 hp_gki hp_gpa hp_gta) (cwV 4 hts gX8_casesBy_X8_mostCases rfl rfl rfl ⟨rfl, dh_X8_mostCases⟩ ⟨Nat.le_of_ble_eq_true rfl, Nat.le_of_ble_eq_true rfl⟩) hK hN hZ hP (hP.sub [0, 1, 2, 3] rfl) (va_recv (q := (RX8, TX8, 38)) hK hP (ci := 8) (q0 := 0) rfl rfl) rfl hl.1 rfl (Nat.le_of_ble_eq_true rfl) dX8_casesBy_88 ⟨Nat.le_of_ble_eq_true rfl, Nat.le_of_ble_eq_true rfl⟩ (fun r_36 hr_36 => ?_)
      obtain ⟨g_37, g_38, hsr_36_0⟩ := hr_36
      refine lv_imul hx hb dX8_casesBy_91 ?_
      refine lv_topi (fun x_39 ex_39 => ?_)
      obtain ⟨mx_39, nx_39, ox_39⟩ := zf_mulc (a := x_29) (b := r_36) (x := x_29.toInt) (y := r_36.toInt) (P := 1728) rfl rfl ⟨by omega, by omega⟩ ⟨by omega, by omega⟩ (by decide)
      rw [← ex_39] at mx_39
      refine lv_iadd hx hb dX8_casesBy_92 ?_
      refine lv_topi (fun x_40 ex_40 => ?_)
      have qx_40 : x_40.toInt = 0 + x_39.toInt := by rw [ex_40]; exact zf_add (by decide) rfl (by omega) (by omega)
      exact W.iret (v := x_40) hx hb hr (fun t ht hW => ⟨x_40, rfl, ⟨by omega, by omega, (show (x_40 : Int32).toInt = zBy1 (zM gki gpa gta npu.toInt.toNat nhu.toInt (if wh.toInt = 0 then 1 else 0) 3) (gki p_.toNatClampNeg).toInt (gpa p_.toNatClampNeg).toInt (gta p_.toNatClampNeg).toInt nhu.toInt d.toInt sec.toInt from by (have zw := hsr_1_0; have E1 : r_1.toInt * (zM gki gpa gta npu.toInt.toNat nhu.toInt (if wh.toInt = 0 then 1 else 0) 3) (zShl (gki p_.toNatClampNeg).toInt (gpa p_.toNatClampNeg).toInt d.toInt) (sec.toInt - (gta p_.toNatClampNeg).toInt) = 0 := (by rw [show r_1.toInt = 0 from by omega, Int.zero_mul]); have E2 : (12 - r_1.toInt) * (zM gki gpa gta npu.toInt.toNat nhu.toInt (if wh.toInt = 0 then 1 else 0) 3) (zDpr (gki p_.toNatClampNeg).toInt (gpa p_.toNatClampNeg).toInt nhu.toInt d.toInt) (sec.toInt - (gta p_.toNatClampNeg).toInt) = x_39.toInt := (by rw [← hsr_31_0.2 (by decide), show sec.toInt - (gta p_.toNatClampNeg).toInt = (x_35 : Int32).toInt from by (have z : (gta p_.toNatClampNeg).toInt = x_34.toInt := (by rw [ex_34]); omega), ← hsr_36_0, show 12 - r_1.toInt = x_29.toInt from by omega]; omega); unfold zBy1; rw [← zw, E1, E2]; omega))⟩, ht⟩) (fun q hq => by cases hq) dX8_casesBy_93
    · exfalso; have fc_28 : r_1.toInt = 12 := zf_eq c_28 rfl (by decide); omega
set_option maxHeartbeats 4000000 in
set_option maxRecDepth 100000 in
theorem c_F_M_mostCases_4 (l : Launch) (D : va_G) (cI cJ cZ cP cS : ClassId) (po : zPool) (m0 mrf mki mpa mta mla msl mco mhe mso msi msh mce mca mwo mnu mte mwa mke mma mth mtr : Nat) (npu nte nat_ nde nto nse nhu nga nsd nfa nba npl nen nnu nwr nra nik : Int32) (gki gpa gta : Nat → Int32) (d sec wh : Int32) (hy0 : 0 ≤ npu.toInt) (hy1 : npu.toInt ≤ 8) (hy2 : 4 ≤ nte.toInt) (hy3 : nte.toInt ≤ 40) (hy4 : 0 ≤ nat_.toInt) (hy5 : nat_.toInt ≤ 40) (hy6 : 0 ≤ nde.toInt) (hy7 : nde.toInt ≤ 24) (hy8 : 0 ≤ nhu.toInt) (hy9 : nhu.toInt ≤ 9) (hy10 : 0 ≤ nra.toInt) (hy11 : nra.toInt ≤ 2000) (hy12 : 0 ≤ nik.toInt) (hy13 : nik.toInt ≤ 1) (hy14 : 0 ≤ d.toInt) (hy15 : d.toInt ≤ 24) (hy16 : 0 ≤ sec.toInt) (hy17 : sec.toInt ≤ 300) (hy18 : 0 ≤ wh.toInt) (hy19 : wh.toInt ≤ 1) (hp_gki : zRg gki (0) 6) (hp_gpa : zRg gpa (0) 9) (hp_gta : zRg gta (0) 60) : Met l yX8_mostCases wsX8_mostCases ({ frames := 9, cells := 0, slots := 0, locals := 237 }) (va_Pc [.ref m0, .int 4, .int d, .int sec, .int wh] (zR D (zKT cI cJ cZ cP cS) po [(zMO m0 npu nte nat_ nde nto nse nhu nga nsd nfa mrf mki mpa mta mla msl mco mhe mso msi msh mce mca mwo mnu mte nba npl nen nnu nwr mwa mke mma mth mtr nra nik), (mki, .inl (cI, 8, .inl gki)), (mpa, .inl (cI, 8, .inl gpa)), (mta, .inl (cI, 8, .inl gta))])) (vp_Si (fun r => 0 ≤ r.toInt ∧ r.toInt ≤ 20736 ∧ (r.toInt = (zM gki gpa gta npu.toInt.toNat nhu.toInt (if wh.toInt = 0 then 1 else 0) 4) d.toInt sec.toInt))) 0 0 (fun _ => False) := by
  refine Met.ofW (cc := cX8_mostCases) (maxL := 8) (ret := (some .int)) (by decide) rfl ?_
  intro p e s m args below meth c s₁ B hml hv
  obtain ⟨rfl, hP, hK, hN, hZ⟩ := hv
  have hx := B.exec
  have hb := B.bytes
  have hr := B.returns
  have hts := atoms_spec (ws := wsX8_mostCases) B.pre
  have hown : s.vm.findClass RX8 = some m.cls := findClass_of_methodNamed B.named
  have hlocks := B.notSynchronized
  have hl := lv_entry ([.ref m0, .int 4, .int d, .int sec, .int wh]) (n := 8) (Nat.le_of_ble_eq_true rfl)
  rw [lg_entry_eq]
  generalize (lg_sl ([.ref m0, .int 4, .int d, .int sec, .int wh]) ++ List.replicate (8 - (lg_sl ([.ref m0, .int 4, .int d, .int sec, .int wh])).length) Slot.unset).toArray = ls at hl ⊢
  replace hl : lv_has ls 8 [(0, .ref m0), (1, .int 4), (2, .int d), (3, .int sec), (4, .int wh)] := hl
  refine lv_iload_n hx hb dX8_mostCases_0 rfl (lv_at hl 2 rfl) ?_
  refine lv_if_ne (tgt := 10) hx hb dX8_mostCases_1 (by decide) (fun c_1 => ?_) (fun c_1 => ?_)
  · have fc_1 : d.toInt ≠ 0 := zf_ne c_1 rfl (by decide)
    refine lv_iload_n hx hb dX8_mostCases_10 rfl (lv_at hl 1 rfl) ?_
    refine lv_if_ne (tgt := 16) hx hb dX8_mostCases_11 (by decide) (fun c_2 => ?_) (fun c_2 => ?_)
    · refine lv_bipush (v := 12) hx hb dX8_mostCases_16 (by decide) ?_
      refine lv_aload_n hx hb dX8_mostCases_18 rfl (lv_at hl 0 rfl) ?_
      refine lv_iload_n hx hb dX8_mostCases_19 rfl (lv_at hl 1 rfl) ?_
      refine lv_iconst (v := 1) hx hb dX8_mostCases_20 (by decide) ?_
      refine lv_isub hx hb dX8_mostCases_21 ?_
      refine lv_topi (fun y_3 ey_3 => ?_)
      obtain rfl : y_3 = 3 := ey_3.trans (by decide)
      refine lv_iload_n hx hb dX8_mostCases_22 rfl (lv_at hl 2 rfl) ?_
      refine lv_iload_n hx hb dX8_mostCases_23 rfl (lv_at hl 3 rfl) ?_
      refine lv_iload hx hb dX8_mostCases_24 (lv_at hl 4 rfl) ?_
      refine zc_V (As := [.int 3, .int d, .int sec, .int wh]) (rest := [.int 12]) ⟨hx, hb, hml, hown, hts⟩ (c_F_M_mostCases_3 l D cI cJ cZ cP cS po m0 mrf mki mpa mta mla msl mco mhe mso msi msh mce mca mwo mnu mte mwa mke mma mth mtr (npu) (nte) (nat_) (nde) (nto) (nse) (nhu) (nga) (nsd) (nfa) (nba) (npl) (nen) (nnu) (nwr) (nra) (nik) gki gpa gta (d) (sec) (wh) hy0 hy1 hy2 hy3 hy4 hy5 hy6 hy7 hy8 hy9 hy10 hy11 hy12 hy13 hy14 hy15 hy16 hy17 hy18 hy19 hp_gki hp_gpa hp_gta) (cwV 4 hts gX8_mostCases_X8_mostCases rfl rfl rfl ⟨rfl, dh_X8_mostCases⟩ ⟨Nat.le_of_ble_eq_true rfl, Nat.le_of_ble_eq_true rfl⟩) hK hN hZ hP (hP.sub [0, 1, 2, 3] rfl) (va_recv (q := (RX8, TX8, 38)) hK hP (ci := 8) (q0 := 0) rfl rfl) rfl hl.1 rfl (Nat.le_of_ble_eq_true rfl) dX8_mostCases_26 ⟨Nat.le_of_ble_eq_true rfl, Nat.le_of_ble_eq_true rfl⟩ (fun r_4 hr_4 => ?_)
      obtain ⟨g_5, g_6, hsr_4_0⟩ := hr_4
      refine lv_imul hx hb dX8_mostCases_29 ?_
      refine lv_topi (fun x_7 ex_7 => ?_)
      have qx_7 : x_7.toInt = 12 * r_4.toInt := by rw [ex_7]; exact zf_mul (by decide) rfl (by omega) (by omega)
      refine lv_istore (lv' := [(5, .int x_7), (0, .ref m0), (1, .int 4), (2, .int d), (3, .int sec), (4, .int wh)]) hx hb dX8_mostCases_30 hl (by decide) rfl (fun ls hl => ?_)
      refine lv_iconst (v := 0) hx hb dX8_mostCases_32 (by decide) ?_
      refine lv_istore (lv' := [(6, .int 0), (5, .int x_7), (0, .ref m0), (1, .int 4), (2, .int d), (3, .int sec), (4, .int wh)]) hx hb dX8_mostCases_33 hl (by decide) rfl (fun ls hl => ?_)
      obtain ⟨i_35, hi_35⟩ : ∃ i : Int32, i = 0 := ⟨_, rfl⟩
      replace hl : lv_has ls 8 [(6, .int i_35), (5, .int x_7), (0, .ref m0), (1, .int 4), (2, .int d), (3, .int sec), (4, .int wh)] := by rw [hi_35]; exact lv_sub hl [0, 1, 2, 3, 4, 5, 6] rfl
      have h1i_35 : i_35.toInt = 0 := by rw [hi_35]; decide
      obtain ⟨nfu, hni_35⟩ : ∃ nq9 : Nat, npu.toInt ≤ i_35.toInt + (nq9 : Int) := ⟨((npu.toInt : Int) - 0).toNat, by omega⟩
      have hloi_35 : 0 ≤ i_35.toInt := by omega
      obtain ⟨v_8, hv_8⟩ : ∃ g : Int32, g = x_7 := ⟨_, rfl⟩
      replace hl : lv_has ls 8 [(6, .int i_35), (5, .int v_8), (0, .ref m0), (1, .int 4), (2, .int d), (3, .int sec), (4, .int wh)] := by rw [hv_8]; exact hl
      have hbv_8 : 0 ≤ v_8.toInt ∧ v_8.toInt ≤ 20736 := by rw [hv_8]; exact ⟨by omega, by omega⟩
      have hvi_35_0 : (v_8 : Int32).toInt = zFo gki gta (if wh.toInt = 0 then 1 else 0) d.toInt sec.toInt (12 * (zM gki gpa gta npu.toInt.toNat nhu.toInt (if wh.toInt = 0 then 1 else 0) 3) d.toInt sec.toInt) (zBy (zM gki gpa gta npu.toInt.toNat nhu.toInt (if wh.toInt = 0 then 1 else 0) 3) gki gpa gta nhu.toInt d.toInt sec.toInt) i_35.toInt.toNat := by
        (try rw [hi_35]); (try rw [hv_8]); (rw [(show ((0 : Int32).toInt.toNat) = 0 from by decide)]; have z := hsr_4_0; show _ = 12 * (zM gki gpa gta npu.toInt.toNat nhu.toInt (if wh.toInt = 0 then 1 else 0) 3) d.toInt sec.toInt; rw [← z]; omega)
      have hvi_35_1 : i_35.toInt ≤ npu.toInt := by
        (try rw [hi_35]); (try rw [hv_8]); (have k0 : (0 : Int32).toInt = 0 := (by decide); omega)
      clear h1i_35 hi_35 hv_8
      revert hni_35
      revert hloi_35
      revert hvi_35_1
      revert hvi_35_0
      revert hbv_8
      revert hl
      revert ls
      revert v_8
      revert i_35
      induction nfu with
      | zero =>
        intro i_35 v_8 ls hl hbv_8 hvi_35_0 hvi_35_1 hloi_35 hni_35
        have hzi_35 : npu.toInt ≤ i_35.toInt := by omega
        refine lv_iload hx hb dX8_mostCases_35 (lv_at hl 0 rfl) ?_
        refine lv_aload_n hx hb dX8_mostCases_37 rfl (lv_at hl 2 rfl) ?_
        refine va_get (D := D) (ci := 8) (v := .int npu) (C := RX8) (T := TX8) (N := 38) hx hb hts hi_X8_mostCases_8 hown hK hP 0 rfl rfl 0 (by decide) (hts (.fieldLink RX8 90 "TheLiningsInItModel" "pulls" "I") (List.mem_of_getElem? (i := 1) rfl)) (fun _ h9 => h9) rfl dX8_mostCases_38 ?_
        refine lv_icmp_ge (tgt := 109) hx hb dX8_mostCases_41 (by decide) (fun c_9 => ?_) (fun c_9 => ?_)
        · have fc_9 : npu.toInt ≤ i_35.toInt := zf_le c_9 rfl rfl
          refine lv_iload hx hb dX8_mostCases_109 (lv_at hl 1 rfl) ?_
          exact W.iret (v := v_8) hx hb hr (fun t ht hW => ⟨v_8, rfl, ⟨by omega, by omega, (show (v_8 : Int32).toInt = (zM gki gpa gta npu.toInt.toNat nhu.toInt (if wh.toInt = 0 then 1 else 0) 4) d.toInt sec.toInt from by (have h9 : i_35.toInt.toNat = npu.toInt.toNat := (by omega); have z := hvi_35_0; rw [h9, zM_ref (by omega)] at z; exact z))⟩, ht⟩) (fun q hq => by cases hq) dX8_mostCases_111
        · exfalso; have fc_9 : i_35.toInt < npu.toInt := zf_nle c_9 rfl rfl; omega
      | succ nfu ih =>
        intro i_35 v_8 ls hl hbv_8 hvi_35_0 hvi_35_1 hloi_35 hni_35
        refine lv_iload hx hb dX8_mostCases_35 (lv_at hl 0 rfl) ?_
        refine lv_aload_n hx hb dX8_mostCases_37 rfl (lv_at hl 2 rfl) ?_
        refine va_get (D := D) (ci := 8) (v := .int npu) (C := RX8) (T := TX8) (N := 38) hx hb hts hi_X8_mostCases_8 hown hK hP 0 rfl rfl 0 (by decide) (hts (.fieldLink RX8 90 "TheLiningsInItModel" "pulls" "I") (List.mem_of_getElem? (i := 1) rfl)) (fun _ h9 => h9) rfl dX8_mostCases_38 ?_
        refine lv_icmp_ge (tgt := 109) hx hb dX8_mostCases_41 (by decide) (fun c_10 => ?_) (fun c_10 => ?_)
        · have fc_10 : npu.toInt ≤ i_35.toInt := zf_le c_10 rfl rfl
          refine lv_iload hx hb dX8_mostCases_109 (lv_at hl 1 rfl) ?_
          exact W.iret (v := v_8) hx hb hr (fun t ht hW => ⟨v_8, rfl, ⟨by omega, by omega, (show (v_8 : Int32).toInt = (zM gki gpa gta npu.toInt.toNat nhu.toInt (if wh.toInt = 0 then 1 else 0) 4) d.toInt sec.toInt from by (have h9 : i_35.toInt.toNat = npu.toInt.toNat := (by omega); have z := hvi_35_0; rw [h9, zM_ref (by omega)] at z; exact z))⟩, ht⟩) (fun q hq => by cases hq) dX8_mostCases_111
        · have fc_10 : i_35.toInt < npu.toInt := zf_nle c_10 rfl rfl
          refine lv_aload_n hx hb dX8_mostCases_44 rfl (lv_at hl 2 rfl) ?_
          refine lv_iload hx hb dX8_mostCases_45 (lv_at hl 0 rfl) ?_
          refine lv_iload_n hx hb dX8_mostCases_47 rfl (lv_at hl 4 rfl) ?_
          refine lv_iload_n hx hb dX8_mostCases_48 rfl (lv_at hl 5 rfl) ?_
          refine zc_V (As := [.int i_35, .int d, .int sec]) (rest := []) ⟨hx, hb, hml, hown, hts⟩ (c_F_M_mayBe l D cI cJ cZ cP cS po m0 mrf mki mpa mta mla msl mco mhe mso msi msh mce mca mwo mnu mte mwa mke mma mth mtr (npu) (nte) (nat_) (nde) (nto) (nse) (nhu) (nga) (nsd) (nfa) (nba) (npl) (nen) (nnu) (nwr) (nra) (nik) gta (i_35) (d) (sec) hy0 hy1 hy2 hy3 hy4 hy5 hy6 hy7 hy8 hy9 hy10 hy11 hy12 hy13 (by omega) (by omega) hp_gta) (cwV 3 hts gX8_mostCases_X8_mayBe rfl rfl rfl ⟨rfl, dh_X8_mayBe⟩ ⟨Nat.le_of_ble_eq_true rfl, Nat.le_of_ble_eq_true rfl⟩) hK hN hZ hP (hP.sub [0, 3] rfl) (va_recv (q := (RX8, TX8, 38)) hK hP (ci := 8) (q0 := 0) rfl rfl) rfl hl.1 rfl (Nat.le_of_ble_eq_true rfl) dX8_mostCases_49 ⟨Nat.le_of_ble_eq_true rfl, Nat.le_of_ble_eq_true rfl⟩ (fun r_11 hr_11 => ?_)
          obtain ⟨g_12, g_13, hsr_11_0⟩ := hr_11
          refine lv_if_eq (tgt := 103) hx hb dX8_mostCases_52 (by decide) (fun c_14 => ?_) (fun c_14 => ?_)
          · have fc_14 : r_11.toInt = 0 := zf_eq c_14 rfl (by decide)
            obtain ⟨x_15, ex_15⟩ : ∃ y : Int32, y = i_35 + 1 := ⟨_, rfl⟩
            have qx_15 : x_15.toInt = i_35.toInt + 1 := dw_inc ex_15 fc_10
            refine lv_iinc (v := x_15) (lv' := [(6, .int x_15), (5, .int v_8), (0, .ref m0), (1, .int 4), (2, .int d), (3, .int sec), (4, .int wh)]) hx hb dX8_mostCases_103 hl (k := 0) rfl ex_15.symm (by decide) rfl (fun ls hl => ?_)
            refine lv_goto (tgt := 35) hx hb dX8_mostCases_106 (by decide) ?_
            exact ih x_15 v_8 _ (lv_sub hl [0, 1, 2, 3, 4, 5, 6] rfl) hbv_8 (show (v_8 : Int32).toInt = zFo gki gta (if wh.toInt = 0 then 1 else 0) d.toInt sec.toInt (12 * (zM gki gpa gta npu.toInt.toNat nhu.toInt (if wh.toInt = 0 then 1 else 0) 3) d.toInt sec.toInt) (zBy (zM gki gpa gta npu.toInt.toNat nhu.toInt (if wh.toInt = 0 then 1 else 0) 3) gki gpa gta nhu.toInt d.toInt sec.toInt) x_15.toInt.toNat from by (have hx : x_15.toInt.toNat = i_35.toInt.toNat + 1 := (by omega); have y9 : i_35.toNatClampNeg = i_35.toInt.toNat := rfl; have hm := hsr_11_0; rw [y9] at hm; have no : ¬ zOk gki gta (if wh.toInt = 0 then 1 else 0) d.toInt sec.toInt i_35.toInt.toNat := (fun z => by first | (have z1 := hm.mpr ⟨z.1, z.2.1⟩; omega) | (have z3 := z.2.2; rw [if_neg (by omega)] at z3; omega)); rw [hx, zFo_n no]; exact hvi_35_0)) (show x_15.toInt ≤ npu.toInt from by omega) (dw_lo hloi_35 qx_15) (dw_hn hni_35 qx_15)
          · have fc_14 : r_11.toInt ≠ 0 := zf_ne c_14 rfl (by decide)
            refine lv_iload hx hb dX8_mostCases_55 (lv_at hl 6 rfl) ?_
            refine lv_if_eq (tgt := 74) hx hb dX8_mostCases_57 (by decide) (fun c_16 => ?_) (fun c_16 => ?_)
            · have fc_16 : wh.toInt = 0 := zf_eq c_16 rfl (by decide)
              have htl9 : (gta i_35.toNatClampNeg).toInt ≤ sec.toInt := (hsr_11_0.mp (by omega)).2
              refine lv_aload_n hx hb dX8_mostCases_74 rfl (lv_at hl 2 rfl) ?_
              refine lv_iload hx hb dX8_mostCases_75 (lv_at hl 0 rfl) ?_
              refine lv_iload_n hx hb dX8_mostCases_77 rfl (lv_at hl 3 rfl) ?_
              refine lv_iload_n hx hb dX8_mostCases_78 rfl (lv_at hl 4 rfl) ?_
              refine lv_iload_n hx hb dX8_mostCases_79 rfl (lv_at hl 5 rfl) ?_
              refine lv_iload hx hb dX8_mostCases_80 (lv_at hl 6 rfl) ?_
              refine zc_V (As := [.int i_35, .int 4, .int d, .int sec, .int wh]) (rest := []) ⟨hx, hb, hml, hown, hts⟩ (c_F_M_casesBy_4 l D cI cJ cZ cP cS po m0 mrf mki mpa mta mla msl mco mhe mso msi msh mce mca mwo mnu mte mwa mke mma mth mtr (npu) (nte) (nat_) (nde) (nto) (nse) (nhu) (nga) (nsd) (nfa) (nba) (npl) (nen) (nnu) (nwr) (nra) (nik) gki gpa gta (i_35) (d) (sec) (wh) hy0 hy1 hy2 hy3 hy4 hy5 hy6 hy7 hy8 hy9 hy10 hy11 hy12 hy13 (by omega) (by omega) hy14 hy15 hy16 hy17 hy18 hy19 (by first | assumption | omega) hp_gki hp_gpa hp_gta) (cwV 5 hts gX8_mostCases_X8_casesBy rfl rfl rfl ⟨rfl, dh_X8_casesBy⟩ ⟨Nat.le_of_ble_eq_true rfl, Nat.le_of_ble_eq_true rfl⟩) hK hN hZ hP (hP.sub [0, 1, 2, 3] rfl) (va_recv (q := (RX8, TX8, 38)) hK hP (ci := 8) (q0 := 0) rfl rfl) rfl hl.1 rfl (Nat.le_of_ble_eq_true rfl) dX8_mostCases_82 ⟨Nat.le_of_ble_eq_true rfl, Nat.le_of_ble_eq_true rfl⟩ (fun r_17 hr_17 => ?_)
              obtain ⟨g_18, g_19, hsr_17_0⟩ := hr_17
              refine lv_istore (lv' := [(7, .int r_17), (6, .int i_35), (5, .int v_8), (0, .ref m0), (1, .int 4), (2, .int d), (3, .int sec), (4, .int wh)]) hx hb dX8_mostCases_85 hl (by decide) rfl (fun ls hl => ?_)
              refine lv_iload hx hb dX8_mostCases_87 (lv_at hl 0 rfl) ?_
              refine lv_iload hx hb dX8_mostCases_89 (lv_at hl 2 rfl) ?_
              refine lv_icmp_le (tgt := 99) hx hb dX8_mostCases_91 (by decide) (fun c_20 => ?_) (fun c_20 => ?_)
              · have fc_20 : r_17.toInt ≤ v_8.toInt := zf_le c_20 rfl rfl
                refine lv_iload hx hb dX8_mostCases_99 (lv_at hl 2 rfl) ?_
                refine lv_istore (lv' := [(5, .int v_8), (7, .int r_17), (6, .int i_35), (0, .ref m0), (1, .int 4), (2, .int d), (3, .int sec), (4, .int wh)]) hx hb dX8_mostCases_101 hl (by decide) rfl (fun ls hl => ?_)
                obtain ⟨x_21, ex_21⟩ : ∃ y : Int32, y = i_35 + 1 := ⟨_, rfl⟩
                have qx_21 : x_21.toInt = i_35.toInt + 1 := dw_inc ex_21 fc_10
                refine lv_iinc (v := x_21) (lv' := [(6, .int x_21), (5, .int v_8), (7, .int r_17), (0, .ref m0), (1, .int 4), (2, .int d), (3, .int sec), (4, .int wh)]) hx hb dX8_mostCases_103 hl (k := 2) rfl ex_21.symm (by decide) rfl (fun ls hl => ?_)
                refine lv_goto (tgt := 35) hx hb dX8_mostCases_106 (by decide) ?_
                exact ih x_21 v_8 _ (lv_sub hl [0, 1, 3, 4, 5, 6, 7] rfl) hbv_8 (show (v_8 : Int32).toInt = zFo gki gta (if wh.toInt = 0 then 1 else 0) d.toInt sec.toInt (12 * (zM gki gpa gta npu.toInt.toNat nhu.toInt (if wh.toInt = 0 then 1 else 0) 3) d.toInt sec.toInt) (zBy (zM gki gpa gta npu.toInt.toNat nhu.toInt (if wh.toInt = 0 then 1 else 0) 3) gki gpa gta nhu.toInt d.toInt sec.toInt) x_21.toInt.toNat from by (have hx : x_21.toInt.toNat = i_35.toInt.toNat + 1 := (by omega); have y9 : i_35.toNatClampNeg = i_35.toInt.toNat := rfl; have hm := hsr_11_0; rw [y9] at hm; have ok : zOk gki gta (if wh.toInt = 0 then 1 else 0) d.toInt sec.toInt i_35.toInt.toNat := ⟨(hm.mp (by omega)).1, (hm.mp (by omega)).2, (by first | exact Or.inl (by rw [if_pos (by omega)]; decide) | exact Or.inr (by omega))⟩; rw [hx, zFo_y ok, ← hvi_35_0]; have zr := hsr_17_0; rw [y9] at zr; have zr2 : r_17.toInt = (zBy (zM gki gpa gta npu.toInt.toNat nhu.toInt (if wh.toInt = 0 then 1 else 0) 3) gki gpa gta nhu.toInt d.toInt sec.toInt) i_35.toInt.toNat := zr; omega)) (show x_21.toInt ≤ npu.toInt from by omega) (dw_lo hloi_35 qx_21) (dw_hn hni_35 qx_21)
              · have fc_20 : v_8.toInt < r_17.toInt := zf_nle c_20 rfl rfl
                refine lv_iload hx hb dX8_mostCases_94 (lv_at hl 0 rfl) ?_
                refine lv_goto (tgt := 101) hx hb dX8_mostCases_96 (by decide) ?_
                refine lv_istore (lv' := [(5, .int r_17), (7, .int r_17), (6, .int i_35), (0, .ref m0), (1, .int 4), (2, .int d), (3, .int sec), (4, .int wh)]) hx hb dX8_mostCases_101 hl (by decide) rfl (fun ls hl => ?_)
                obtain ⟨x_22, ex_22⟩ : ∃ y : Int32, y = i_35 + 1 := ⟨_, rfl⟩
                have qx_22 : x_22.toInt = i_35.toInt + 1 := dw_inc ex_22 fc_10
                refine lv_iinc (v := x_22) (lv' := [(6, .int x_22), (5, .int r_17), (7, .int r_17), (0, .ref m0), (1, .int 4), (2, .int d), (3, .int sec), (4, .int wh)]) hx hb dX8_mostCases_103 hl (k := 2) rfl ex_22.symm (by decide) rfl (fun ls hl => ?_)
                refine lv_goto (tgt := 35) hx hb dX8_mostCases_106 (by decide) ?_
                exact ih x_22 r_17 _ (lv_sub hl [0, 1, 3, 4, 5, 6, 7] rfl) ⟨by omega, by omega⟩ (show (r_17 : Int32).toInt = zFo gki gta (if wh.toInt = 0 then 1 else 0) d.toInt sec.toInt (12 * (zM gki gpa gta npu.toInt.toNat nhu.toInt (if wh.toInt = 0 then 1 else 0) 3) d.toInt sec.toInt) (zBy (zM gki gpa gta npu.toInt.toNat nhu.toInt (if wh.toInt = 0 then 1 else 0) 3) gki gpa gta nhu.toInt d.toInt sec.toInt) x_22.toInt.toNat from by (have hx : x_22.toInt.toNat = i_35.toInt.toNat + 1 := (by omega); have y9 : i_35.toNatClampNeg = i_35.toInt.toNat := rfl; have hm := hsr_11_0; rw [y9] at hm; have ok : zOk gki gta (if wh.toInt = 0 then 1 else 0) d.toInt sec.toInt i_35.toInt.toNat := ⟨(hm.mp (by omega)).1, (hm.mp (by omega)).2, (by first | exact Or.inl (by rw [if_pos (by omega)]; decide) | exact Or.inr (by omega))⟩; rw [hx, zFo_y ok, ← hvi_35_0]; have zr := hsr_17_0; rw [y9] at zr; have zr2 : r_17.toInt = (zBy (zM gki gpa gta npu.toInt.toNat nhu.toInt (if wh.toInt = 0 then 1 else 0) 3) gki gpa gta nhu.toInt d.toInt sec.toInt) i_35.toInt.toNat := zr; omega)) (show x_22.toInt ≤ npu.toInt from by omega) (dw_lo hloi_35 qx_22) (dw_hn hni_35 qx_22)
            · have fc_16 : wh.toInt ≠ 0 := zf_ne c_16 rfl (by decide)
              refine lv_aload_n hx hb dX8_mostCases_60 rfl (lv_at hl 2 rfl) ?_
              refine va_get (D := D) (ci := 8) (v := .ref mki) (C := RX8) (T := TX8) (N := 38) hx hb hts hi_X8_mostCases_8 hown hK hP 0 rfl rfl 11 (by decide) (hts (.fieldLink RX8 29 "TheLiningsInItModel" "kind" "[I") (List.mem_of_getElem? (i := 2) rfl)) (fun _ h9 => h9) rfl dX8_mostCases_61 ?_
              refine lv_iload hx hb dX8_mostCases_64 (lv_at hl 0 rfl) ?_
              refine va_iald hx hb hK hP 1 0 rfl rfl (zf_in (by omega) (by omega)) dX8_mostCases_66 ?_
              refine lv_topi (fun x_23 ex_23 => ?_)
              have bx_23 : 0 ≤ x_23.toInt ∧ x_23.toInt ≤ 6 := by rw [ex_23]; exact hp_gki _
              refine lv_iconst (v := 5) hx hb dX8_mostCases_67 (by decide) ?_
              refine lv_icmp_ne (tgt := 74) hx hb dX8_mostCases_68 (by decide) (fun c_24 => ?_) (fun c_24 => ?_)
              · have fc_24 : x_23.toInt ≠ 5 := zf_ne c_24 rfl (by decide)
                have htl9 : (gta i_35.toNatClampNeg).toInt ≤ sec.toInt := (hsr_11_0.mp (by omega)).2
                refine lv_aload_n hx hb dX8_mostCases_74 rfl (lv_at hl 2 rfl) ?_
                refine lv_iload hx hb dX8_mostCases_75 (lv_at hl 0 rfl) ?_
                refine lv_iload_n hx hb dX8_mostCases_77 rfl (lv_at hl 3 rfl) ?_
                refine lv_iload_n hx hb dX8_mostCases_78 rfl (lv_at hl 4 rfl) ?_
                refine lv_iload_n hx hb dX8_mostCases_79 rfl (lv_at hl 5 rfl) ?_
                refine lv_iload hx hb dX8_mostCases_80 (lv_at hl 6 rfl) ?_
                refine zc_V (As := [.int i_35, .int 4, .int d, .int sec, .int wh]) (rest := []) ⟨hx, hb, hml, hown, hts⟩ (c_F_M_casesBy_4 l D cI cJ cZ cP cS po m0 mrf mki mpa mta mla msl mco mhe mso msi msh mce mca mwo mnu mte mwa mke mma mth mtr (npu) (nte) (nat_) (nde) (nto) (nse) (nhu) (nga) (nsd) (nfa) (nba) (npl) (nen) (nnu) (nwr) (nra) (nik) gki gpa gta (i_35) (d) (sec) (wh) hy0 hy1 hy2 hy3 hy4 hy5 hy6 hy7 hy8 hy9 hy10 hy11 hy12 hy13 (by omega) (by omega) hy14 hy15 hy16 hy17 hy18 hy19 (by first | assumption | omega) hp_gki hp_gpa hp_gta) (cwV 5 hts gX8_mostCases_X8_casesBy rfl rfl rfl ⟨rfl, dh_X8_casesBy⟩ ⟨Nat.le_of_ble_eq_true rfl, Nat.le_of_ble_eq_true rfl⟩) hK hN hZ hP (hP.sub [0, 1, 2, 3] rfl) (va_recv (q := (RX8, TX8, 38)) hK hP (ci := 8) (q0 := 0) rfl rfl) rfl hl.1 rfl (Nat.le_of_ble_eq_true rfl) dX8_mostCases_82 ⟨Nat.le_of_ble_eq_true rfl, Nat.le_of_ble_eq_true rfl⟩ (fun r_25 hr_25 => ?_)
                obtain ⟨g_26, g_27, hsr_25_0⟩ := hr_25
                refine lv_istore (lv' := [(7, .int r_25), (6, .int i_35), (5, .int v_8), (0, .ref m0), (1, .int 4), (2, .int d), (3, .int sec), (4, .int wh)]) hx hb dX8_mostCases_85 hl (by decide) rfl (fun ls hl => ?_)
                refine lv_iload hx hb dX8_mostCases_87 (lv_at hl 0 rfl) ?_
                refine lv_iload hx hb dX8_mostCases_89 (lv_at hl 2 rfl) ?_
                refine lv_icmp_le (tgt := 99) hx hb dX8_mostCases_91 (by decide) (fun c_28 => ?_) (fun c_28 => ?_)
                · have fc_28 : r_25.toInt ≤ v_8.toInt := zf_le c_28 rfl rfl
                  refine lv_iload hx hb dX8_mostCases_99 (lv_at hl 2 rfl) ?_
                  refine lv_istore (lv' := [(5, .int v_8), (7, .int r_25), (6, .int i_35), (0, .ref m0), (1, .int 4), (2, .int d), (3, .int sec), (4, .int wh)]) hx hb dX8_mostCases_101 hl (by decide) rfl (fun ls hl => ?_)
                  obtain ⟨x_29, ex_29⟩ : ∃ y : Int32, y = i_35 + 1 := ⟨_, rfl⟩
                  have qx_29 : x_29.toInt = i_35.toInt + 1 := dw_inc ex_29 fc_10
                  refine lv_iinc (v := x_29) (lv' := [(6, .int x_29), (5, .int v_8), (7, .int r_25), (0, .ref m0), (1, .int 4), (2, .int d), (3, .int sec), (4, .int wh)]) hx hb dX8_mostCases_103 hl (k := 2) rfl ex_29.symm (by decide) rfl (fun ls hl => ?_)
                  refine lv_goto (tgt := 35) hx hb dX8_mostCases_106 (by decide) ?_
                  exact ih x_29 v_8 _ (lv_sub hl [0, 1, 3, 4, 5, 6, 7] rfl) hbv_8 (show (v_8 : Int32).toInt = zFo gki gta (if wh.toInt = 0 then 1 else 0) d.toInt sec.toInt (12 * (zM gki gpa gta npu.toInt.toNat nhu.toInt (if wh.toInt = 0 then 1 else 0) 3) d.toInt sec.toInt) (zBy (zM gki gpa gta npu.toInt.toNat nhu.toInt (if wh.toInt = 0 then 1 else 0) 3) gki gpa gta nhu.toInt d.toInt sec.toInt) x_29.toInt.toNat from by (have hx : x_29.toInt.toNat = i_35.toInt.toNat + 1 := (by omega); have y9 : i_35.toNatClampNeg = i_35.toInt.toNat := rfl; have hm := hsr_11_0; rw [y9] at hm; have nk : (gki i_35.toInt.toNat).toInt = x_23.toInt := (by rw [ex_23]; rfl); have ok : zOk gki gta (if wh.toInt = 0 then 1 else 0) d.toInt sec.toInt i_35.toInt.toNat := ⟨(hm.mp (by omega)).1, (hm.mp (by omega)).2, (by first | exact Or.inl (by rw [if_pos (by omega)]; decide) | exact Or.inr (by omega))⟩; rw [hx, zFo_y ok, ← hvi_35_0]; have zr := hsr_25_0; rw [y9] at zr; have zr2 : r_25.toInt = (zBy (zM gki gpa gta npu.toInt.toNat nhu.toInt (if wh.toInt = 0 then 1 else 0) 3) gki gpa gta nhu.toInt d.toInt sec.toInt) i_35.toInt.toNat := zr; omega)) (show x_29.toInt ≤ npu.toInt from by omega) (dw_lo hloi_35 qx_29) (dw_hn hni_35 qx_29)
                · have fc_28 : v_8.toInt < r_25.toInt := zf_nle c_28 rfl rfl
                  refine lv_iload hx hb dX8_mostCases_94 (lv_at hl 0 rfl) ?_
                  refine lv_goto (tgt := 101) hx hb dX8_mostCases_96 (by decide) ?_
                  refine lv_istore (lv' := [(5, .int r_25), (7, .int r_25), (6, .int i_35), (0, .ref m0), (1, .int 4), (2, .int d), (3, .int sec), (4, .int wh)]) hx hb dX8_mostCases_101 hl (by decide) rfl (fun ls hl => ?_)
                  obtain ⟨x_30, ex_30⟩ : ∃ y : Int32, y = i_35 + 1 := ⟨_, rfl⟩
                  have qx_30 : x_30.toInt = i_35.toInt + 1 := dw_inc ex_30 fc_10
                  refine lv_iinc (v := x_30) (lv' := [(6, .int x_30), (5, .int r_25), (7, .int r_25), (0, .ref m0), (1, .int 4), (2, .int d), (3, .int sec), (4, .int wh)]) hx hb dX8_mostCases_103 hl (k := 2) rfl ex_30.symm (by decide) rfl (fun ls hl => ?_)
                  refine lv_goto (tgt := 35) hx hb dX8_mostCases_106 (by decide) ?_
                  exact ih x_30 r_25 _ (lv_sub hl [0, 1, 3, 4, 5, 6, 7] rfl) ⟨by omega, by omega⟩ (show (r_25 : Int32).toInt = zFo gki gta (if wh.toInt = 0 then 1 else 0) d.toInt sec.toInt (12 * (zM gki gpa gta npu.toInt.toNat nhu.toInt (if wh.toInt = 0 then 1 else 0) 3) d.toInt sec.toInt) (zBy (zM gki gpa gta npu.toInt.toNat nhu.toInt (if wh.toInt = 0 then 1 else 0) 3) gki gpa gta nhu.toInt d.toInt sec.toInt) x_30.toInt.toNat from by (have hx : x_30.toInt.toNat = i_35.toInt.toNat + 1 := (by omega); have y9 : i_35.toNatClampNeg = i_35.toInt.toNat := rfl; have hm := hsr_11_0; rw [y9] at hm; have nk : (gki i_35.toInt.toNat).toInt = x_23.toInt := (by rw [ex_23]; rfl); have ok : zOk gki gta (if wh.toInt = 0 then 1 else 0) d.toInt sec.toInt i_35.toInt.toNat := ⟨(hm.mp (by omega)).1, (hm.mp (by omega)).2, (by first | exact Or.inl (by rw [if_pos (by omega)]; decide) | exact Or.inr (by omega))⟩; rw [hx, zFo_y ok, ← hvi_35_0]; have zr := hsr_25_0; rw [y9] at zr; have zr2 : r_25.toInt = (zBy (zM gki gpa gta npu.toInt.toNat nhu.toInt (if wh.toInt = 0 then 1 else 0) 3) gki gpa gta nhu.toInt d.toInt sec.toInt) i_35.toInt.toNat := zr; omega)) (show x_30.toInt ≤ npu.toInt from by omega) (dw_lo hloi_35 qx_30) (dw_hn hni_35 qx_30)
              · have fc_24 : x_23.toInt = 5 := zf_eq c_24 rfl (by decide)
                refine lv_goto (tgt := 103) hx hb dX8_mostCases_71 (by decide) ?_
                obtain ⟨x_31, ex_31⟩ : ∃ y : Int32, y = i_35 + 1 := ⟨_, rfl⟩
                have qx_31 : x_31.toInt = i_35.toInt + 1 := dw_inc ex_31 fc_10
                refine lv_iinc (v := x_31) (lv' := [(6, .int x_31), (5, .int v_8), (0, .ref m0), (1, .int 4), (2, .int d), (3, .int sec), (4, .int wh)]) hx hb dX8_mostCases_103 hl (k := 0) rfl ex_31.symm (by decide) rfl (fun ls hl => ?_)
                refine lv_goto (tgt := 35) hx hb dX8_mostCases_106 (by decide) ?_
                exact ih x_31 v_8 _ (lv_sub hl [0, 1, 2, 3, 4, 5, 6] rfl) hbv_8 (show (v_8 : Int32).toInt = zFo gki gta (if wh.toInt = 0 then 1 else 0) d.toInt sec.toInt (12 * (zM gki gpa gta npu.toInt.toNat nhu.toInt (if wh.toInt = 0 then 1 else 0) 3) d.toInt sec.toInt) (zBy (zM gki gpa gta npu.toInt.toNat nhu.toInt (if wh.toInt = 0 then 1 else 0) 3) gki gpa gta nhu.toInt d.toInt sec.toInt) x_31.toInt.toNat from by (have hx : x_31.toInt.toNat = i_35.toInt.toNat + 1 := (by omega); have y9 : i_35.toNatClampNeg = i_35.toInt.toNat := rfl; have hm := hsr_11_0; rw [y9] at hm; have nk : (gki i_35.toInt.toNat).toInt = x_23.toInt := (by rw [ex_23]; rfl); have no : ¬ zOk gki gta (if wh.toInt = 0 then 1 else 0) d.toInt sec.toInt i_35.toInt.toNat := (fun z => by first | (have z1 := hm.mpr ⟨z.1, z.2.1⟩; omega) | (have z3 := z.2.2; rw [if_neg (by omega)] at z3; omega)); rw [hx, zFo_n no]; exact hvi_35_0)) (show x_31.toInt ≤ npu.toInt from by omega) (dw_lo hloi_35 qx_31) (dw_hn hni_35 qx_31)
    · exact absurd c_2 (by decide)
  · have fc_1 : d.toInt = 0 := zf_eq c_1 rfl (by decide)
    refine lv_aload_n hx hb dX8_mostCases_4 rfl (lv_at hl 0 rfl) ?_
    refine lv_iload_n hx hb dX8_mostCases_5 rfl (lv_at hl 1 rfl) ?_
    refine zc_V (As := [.int 4]) (rest := []) ⟨hx, hb, hml, hown, hts⟩ (c_M_power_4 l D cI cJ cZ cP cS po m0 mrf mki mpa mta mla msl mco mhe mso msi msh mce mca mwo mnu mte mwa mke mma mth mtr (npu) (nte) (nat_) (nde) (nto) (nse) (nhu) (nga) (nsd) (nfa) (nba) (npl) (nen) (nnu) (nwr) (nra) (nik) hy0 hy1 hy2 hy3 hy4 hy5 hy6 hy7 hy8 hy9 hy10 hy11 hy12 hy13) (cwV 1 hts gX8_mostCases_X8_power rfl rfl rfl ⟨rfl, dh_X8_power⟩ ⟨Nat.le_of_ble_eq_true rfl, Nat.le_of_ble_eq_true rfl⟩) hK hN hZ hP (hP.sub [0] rfl) (va_recv (q := (RX8, TX8, 38)) hK hP (ci := 8) (q0 := 0) rfl rfl) rfl hl.1 rfl (Nat.le_of_ble_eq_true rfl) dX8_mostCases_6 ⟨Nat.le_of_ble_eq_true rfl, Nat.le_of_ble_eq_true rfl⟩ (fun r_32 hr_32 => ?_)
    obtain rfl := hr_32
    exact W.iret (v := 20736) hx hb hr (fun t ht hW => ⟨20736, rfl, ⟨by decide, by decide, (show (20736 : Int32).toInt = (zM gki gpa gta npu.toInt.toNat nhu.toInt (if wh.toInt = 0 then 1 else 0) 4) d.toInt sec.toInt from by (have k9 : (20736 : Int32).toInt = 20736 := (by decide); rw [zM_s, if_pos (by omega)]; rw [show zPw 4 = 20736 from by decide]; omega))⟩, ht⟩) (fun q hq => by cases hq) dX8_mostCases_9

