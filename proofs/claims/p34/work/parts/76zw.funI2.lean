section
set_option maxHeartbeats 4000000 in
set_option maxRecDepth 100000 in
theorem c_F_M_haste (l : Launch) (D : va_G) (cI cJ cZ cP cS : ClassId) (po : zPool) (m0 mrf mki mpa mta mla msl mco mhe mso msi msh mce mca mwo mnu mte mwa mke mma mth mtr : Nat) (npu nte nat_ nde nto nse nhu nga nsd nfa nba npl nen nnu nwr nra nik : Int32) (grf gki gpa gta : Nat → Int32) (n w : Int32) (hy0 : 0 ≤ npu.toInt) (hy1 : npu.toInt ≤ 8) (hy2 : 4 ≤ nte.toInt) (hy3 : nte.toInt ≤ 40) (hy4 : 0 ≤ nat_.toInt) (hy5 : nat_.toInt ≤ 40) (hy6 : 0 ≤ nde.toInt) (hy7 : nde.toInt ≤ 24) (hy8 : 0 ≤ nhu.toInt) (hy9 : nhu.toInt ≤ 9) (hy10 : 0 ≤ nra.toInt) (hy11 : nra.toInt ≤ 2000) (hy12 : 0 ≤ nik.toInt) (hy13 : nik.toInt ≤ 1) (hy14 : 0 ≤ nse.toInt) (hy15 : nse.toInt ≤ 300) (hp_gki : zRg gki (0) 6) (hp_gpa : zRg gpa (0) 9) (hp_gta : zRg gta (0) 60) (hpz : Nat) : Met l yX8_haste wsX8_haste ({ frames := 11, cells := 0, slots := 0, locals := 288 }) (va_Pc [.ref m0, .int n, .int w] (zW D (zKT cI cJ cZ cP cS) po [(zMO m0 npu nte nat_ nde nto nse nhu nga nsd nfa mrf mki mpa mta mla msl mco mhe mso msi msh mce mca mwo mnu mte nba npl nen nnu nwr mwa mke mma mth mtr nra nik), (mrf, .inl (cI, 8, .inl grf)), (mki, .inl (cI, 8, .inl gki)), (mpa, .inl (cI, 8, .inl gpa)), (mta, .inl (cI, 8, .inl gta))] hpz)) (va_Qi (fun (r : Int32) (grf2 : (Nat → Int32)) => (((w.toInt < 0 ∨ 1 < w.toInt) ∧ r.toInt = -5) ∨ ((0 ≤ w.toInt ∧ w.toInt ≤ 1) ∧ (((n.toInt < 0 ∨ 4 < n.toInt) ∧ r.toInt = -6) ∨ ((0 ≤ n.toInt ∧ n.toInt ≤ 4) ∧ ((w.toInt = 1 ∧ r.toInt = (if (zHv gki gpa gta npu.toInt.toNat n.toInt.toNat nde.toInt nse.toInt) 9 < (zHv gki gpa gta npu.toInt.toNat n.toInt.toNat nde.toInt nse.toInt) 0 then 1 else 0)) ∨ (w.toInt = 0 ∧ r.toInt = (zHs (zHv gki gpa gta npu.toInt.toNat n.toInt.toNat nde.toInt nse.toInt) 9 : Nat))))))) ∧ (True)) (zB D [(zMO m0 npu nte nat_ nde nto nse nhu nga nsd nfa mrf mki mpa mta mla msl mco mhe mso msi msh mce mca mwo mnu mte nba npl nen nnu nwr mwa mke mma mth mtr nra nik), (mrf, .inl (cI, 8, .inl grf)), (mki, .inl (cI, 8, .inl gki)), (mpa, .inl (cI, 8, .inl gpa)), (mta, .inl (cI, 8, .inl gta))] hpz (fun (grf2 : Nat → Int32) => [(zMO m0 npu nte nat_ nde nto nse nhu nga nsd nfa mrf mki mpa mta mla msl mco mhe mso msi msh mce mca mwo mnu mte nba npl nen nnu nwr mwa mke mma mth mtr nra nik), (mrf, .inl (cI, 8, .inl grf2)), (mki, .inl (cI, 8, .inl gki)), (mpa, .inl (cI, 8, .inl gpa)), (mta, .inl (cI, 8, .inl gta))])) (va_A [(zMO m0 npu nte nat_ nde nto nse nhu nga nsd nfa mrf mki mpa mta mla msl mco mhe mso msi msh mce mca mwo mnu mte nba npl nen nnu nwr mwa mke mma mth mtr nra nik), (mrf, .inl (cI, 8, .inl grf)), (mki, .inl (cI, 8, .inl gki)), (mpa, .inl (cI, 8, .inl gpa)), (mta, .inl (cI, 8, .inl gta))] hpz)) 0 0 (va_A [(zMO m0 npu nte nat_ nde nto nse nhu nga nsd nfa mrf mki mpa mta mla msl mco mhe mso msi msh mce mca mwo mnu mte nba npl nen nnu nwr mwa mke mma mth mtr nra nik), (mrf, .inl (cI, 8, .inl grf)), (mki, .inl (cI, 8, .inl gki)), (mpa, .inl (cI, 8, .inl gpa)), (mta, .inl (cI, 8, .inl gta))] hpz) := by
  refine Met.ofW (cc := cX8_haste) (maxL := 7) (ret := (some .int)) (by decide) rfl ?_
  intro p e s m args below meth c s₁ B hml hv
  obtain ⟨rfl, hsz, hP, hK, hD0, hN, hZ⟩ := hv
  have hx := B.exec
  have hb := B.bytes
  have hr := B.returns
  have hts := atoms_spec (ws := wsX8_haste) B.pre
  have hown : s.vm.findClass RX8 = some m.cls := findClass_of_methodNamed B.named
  have hlocks := B.notSynchronized
  subst hsz
  have hD := hD0.self (sz := s.heap.size)
  have hA := zA_of hD
  have hl := lv_entry ([.ref m0, .int n, .int w]) (n := 7) (Nat.le_of_ble_eq_true rfl)
  rw [lg_entry_eq]
  generalize (lg_sl ([.ref m0, .int n, .int w]) ++ List.replicate (7 - (lg_sl ([.ref m0, .int n, .int w])).length) Slot.unset).toArray = ls at hl ⊢
  replace hl : lv_has ls 7 [(0, .ref m0), (1, .int n), (2, .int w)] := hl
  refine zw_begin hP hD (fun H locs hP1 hS => ?_)
  clear hP
  have hP := hP1
  clear hP1
  refine lv_iload_n hx hb dX8_haste_0 rfl (lv_at hl 2 rfl) ?_
  refine lv_if_lt (tgt := 9) hx hb dX8_haste_1 (by decide) (fun c_1 => ?_) (fun c_1 => ?_)
  · have fc_1 : w.toInt < 0 := zf_lt c_1 rfl (by decide)
    refine lv_aload_n hx hb dX8_haste_9 rfl (lv_at hl 0 rfl) ?_
    refine lv_bipush (v := (-5)) hx hb dX8_haste_10 (by decide) ?_
    skip
    refine zw_V (As := [.int (-5)]) (rest := []) (wr := [(mki, .inl (cI, 8, .inl gki)), (mpa, .inl (cI, 8, .inl gpa)), (mta, .inl (cI, 8, .inl gta))]) ⟨hx, hb, hml, hown, hts⟩ (c_M_no_5 l D cI cJ cZ cP cS po m0 mrf mki mpa mta mla msl mco mhe mso msi msh mce mca mwo mnu mte mwa mke mma mth mtr (npu) (nte) (nat_) (nde) (nto) (nse) (nhu) (nga) (nsd) (nfa) (nba) (npl) (nen) (nnu) (nwr) (nra) (nik) grf hy0 hy1 hy2 hy3 hy4 hy5 hy6 hy7 hy8 hy9 hy10 hy11 hy12 hy13 H.size) (cwV 1 hts gX8_haste_X8_no rfl rfl rfl ⟨rfl, dh_X8_no⟩ ⟨Nat.le_of_ble_eq_true rfl, Nat.le_of_ble_eq_true rfl⟩) hK hN (hZ.kept hS) hP hD hS hA [0, 1] [2, 3, 4] rfl rfl (by decide) (by decide) (by decide) (va_recv (q := (RX8, TX8, 38)) hK hP (ci := 8) (q0 := 0) rfl rfl) rfl hl.1 rfl (Nat.le_of_ble_eq_true rfl) dX8_haste_12 ⟨Nat.le_of_ble_eq_true rfl, Nat.le_of_ble_eq_true rfl⟩ (fun r_2 u_3 H locs hr_2 hP hD hS => ?_)
    obtain ⟨q_4, rfl⟩ : ∃ z, z = u_3 := ⟨_, rfl⟩
    have h9R := zRe (ws' := [(mki, .inl (cI, 8, .inl gki)), (mpa, .inl (cI, 8, .inl gpa)), (mta, .inl (cI, 8, .inl gta)), (zMO m0 npu nte nat_ nde nto nse nhu nga nsd nfa mrf mki mpa mta mla msl mco mhe mso msi msh mce mca mwo mnu mte nba npl nen nnu nwr mwa mke mma mth mtr nra nik), (mrf, .inl (cI, 8, .inl q_4))]) hP hD rfl
    clear hP hD
    obtain ⟨hP, hD⟩ := h9R
    obtain rfl := hr_2
    exact W.iret (v := (-5)) hx hb hr (fun t ht hW => ⟨⟨(-5), q_4, rfl, ⟨(show ((w.toInt < 0 ∨ 1 < w.toInt) ∧ ((-5) : Int32).toInt = -5) ∨ ((0 ≤ w.toInt ∧ w.toInt ≤ 1) ∧ (((n.toInt < 0 ∨ 4 < n.toInt) ∧ ((-5) : Int32).toInt = -6) ∨ ((0 ≤ n.toInt ∧ n.toInt ≤ 4) ∧ ((w.toInt = 1 ∧ ((-5) : Int32).toInt = (if (zHv gki gpa gta npu.toInt.toNat n.toInt.toNat nde.toInt nse.toInt) 9 < (zHv gki gpa gta npu.toInt.toNat n.toInt.toNat nde.toInt nse.toInt) 0 then 1 else 0)) ∨ (w.toInt = 0 ∧ ((-5) : Int32).toInt = (zHs (zHv gki gpa gta npu.toInt.toNat n.toInt.toNat nde.toInt nse.toInt) 9 : Nat)))))) from by (have k5m : ((-5) : Int32).toInt = -5 := (by decide); have k9 : ((-5) : Int32).toInt = -5 := (by decide); omega)), trivial⟩, zRet ht hP hD [3, 4, 0, 1, 2] (by decide) rfl⟩, hS.F ht⟩) hS.2.2 dX8_haste_15
  · have fc_1 : 0 ≤ w.toInt := zf_nlt c_1 rfl (by decide)
    refine lv_iload_n hx hb dX8_haste_4 rfl (lv_at hl 2 rfl) ?_
    refine lv_iconst (v := 1) hx hb dX8_haste_5 (by decide) ?_
    refine lv_icmp_le (tgt := 16) hx hb dX8_haste_6 (by decide) (fun c_5 => ?_) (fun c_5 => ?_)
    · have fc_5 : w.toInt ≤ 1 := zf_le c_5 rfl (by decide)
      refine lv_aload_n hx hb dX8_haste_16 rfl (lv_at hl 0 rfl) ?_
      refine lv_iload_n hx hb dX8_haste_17 rfl (lv_at hl 1 rfl) ?_
      refine zc_V (As := [.int n]) (rest := []) ⟨hx, hb, hml, hown, hts⟩ (c_M_isFew l D cI cJ cZ cP cS po m0 mrf mki mpa mta mla msl mco mhe mso msi msh mce mca mwo mnu mte mwa mke mma mth mtr (npu) (nte) (nat_) (nde) (nto) (nse) (nhu) (nga) (nsd) (nfa) (nba) (npl) (nen) (nnu) (nwr) (nra) (nik) (n) hy0 hy1 hy2 hy3 hy4 hy5 hy6 hy7 hy8 hy9 hy10 hy11 hy12 hy13) (cwV 1 hts gX8_haste_X8_isFew rfl rfl rfl ⟨rfl, dh_X8_isFew⟩ ⟨Nat.le_of_ble_eq_true rfl, Nat.le_of_ble_eq_true rfl⟩) hK hN (hZ.kept hS) hP (hP.sub [0] rfl) (va_recv (q := (RX8, TX8, 38)) hK hP (ci := 8) (q0 := 0) rfl rfl) rfl hl.1 rfl (Nat.le_of_ble_eq_true rfl) dX8_haste_18 ⟨Nat.le_of_ble_eq_true rfl, Nat.le_of_ble_eq_true rfl⟩ (fun r_6 hr_6 => ?_)
      rcases hr_6 with ⟨rfl, g_7⟩ | ⟨rfl, g_8, g_9⟩ | ⟨rfl, g_10, g_11⟩
      · refine lv_if_ne (tgt := 31) hx hb dX8_haste_21 (by decide) (fun c_12 => ?_) (fun c_12 => ?_)
        · exact absurd c_12 (by decide)
        · refine lv_aload_n hx hb dX8_haste_24 rfl (lv_at hl 0 rfl) ?_
          refine lv_bipush (v := (-6)) hx hb dX8_haste_25 (by decide) ?_
          skip
          refine zw_V (As := [.int (-6)]) (rest := []) (wr := [(mki, .inl (cI, 8, .inl gki)), (mpa, .inl (cI, 8, .inl gpa)), (mta, .inl (cI, 8, .inl gta))]) ⟨hx, hb, hml, hown, hts⟩ (c_M_no_6 l D cI cJ cZ cP cS po m0 mrf mki mpa mta mla msl mco mhe mso msi msh mce mca mwo mnu mte mwa mke mma mth mtr (npu) (nte) (nat_) (nde) (nto) (nse) (nhu) (nga) (nsd) (nfa) (nba) (npl) (nen) (nnu) (nwr) (nra) (nik) grf hy0 hy1 hy2 hy3 hy4 hy5 hy6 hy7 hy8 hy9 hy10 hy11 hy12 hy13 H.size) (cwV 1 hts gX8_haste_X8_no rfl rfl rfl ⟨rfl, dh_X8_no⟩ ⟨Nat.le_of_ble_eq_true rfl, Nat.le_of_ble_eq_true rfl⟩) hK hN (hZ.kept hS) hP hD hS hA [0, 1] [2, 3, 4] rfl rfl (by decide) (by decide) (by decide) (va_recv (q := (RX8, TX8, 38)) hK hP (ci := 8) (q0 := 0) rfl rfl) rfl hl.1 rfl (Nat.le_of_ble_eq_true rfl) dX8_haste_27 ⟨Nat.le_of_ble_eq_true rfl, Nat.le_of_ble_eq_true rfl⟩ (fun r_13 u_14 H locs hr_13 hP hD hS => ?_)
          obtain ⟨q_15, rfl⟩ : ∃ z, z = u_14 := ⟨_, rfl⟩
          have h9R := zRe (ws' := [(mki, .inl (cI, 8, .inl gki)), (mpa, .inl (cI, 8, .inl gpa)), (mta, .inl (cI, 8, .inl gta)), (zMO m0 npu nte nat_ nde nto nse nhu nga nsd nfa mrf mki mpa mta mla msl mco mhe mso msi msh mce mca mwo mnu mte nba npl nen nnu nwr mwa mke mma mth mtr nra nik), (mrf, .inl (cI, 8, .inl q_15))]) hP hD rfl
          clear hP hD
          obtain ⟨hP, hD⟩ := h9R
          obtain rfl := hr_13
          exact W.iret (v := (-6)) hx hb hr (fun t ht hW => ⟨⟨(-6), q_15, rfl, ⟨(show ((w.toInt < 0 ∨ 1 < w.toInt) ∧ ((-6) : Int32).toInt = -5) ∨ ((0 ≤ w.toInt ∧ w.toInt ≤ 1) ∧ (((n.toInt < 0 ∨ 4 < n.toInt) ∧ ((-6) : Int32).toInt = -6) ∨ ((0 ≤ n.toInt ∧ n.toInt ≤ 4) ∧ ((w.toInt = 1 ∧ ((-6) : Int32).toInt = (if (zHv gki gpa gta npu.toInt.toNat n.toInt.toNat nde.toInt nse.toInt) 9 < (zHv gki gpa gta npu.toInt.toNat n.toInt.toNat nde.toInt nse.toInt) 0 then 1 else 0)) ∨ (w.toInt = 0 ∧ ((-6) : Int32).toInt = (zHs (zHv gki gpa gta npu.toInt.toNat n.toInt.toNat nde.toInt nse.toInt) 9 : Nat)))))) from by (have k6m : ((-6) : Int32).toInt = -6 := (by decide); have k9 : ((-6) : Int32).toInt = -6 := (by decide); omega)), trivial⟩, zRet ht hP hD [3, 4, 0, 1, 2] (by decide) rfl⟩, hS.F ht⟩) hS.2.2 dX8_haste_30
      · refine lv_if_ne (tgt := 31) hx hb dX8_haste_21 (by decide) (fun c_16 => ?_) (fun c_16 => ?_)
        · exact absurd c_16 (by decide)
        · refine lv_aload_n hx hb dX8_haste_24 rfl (lv_at hl 0 rfl) ?_
          refine lv_bipush (v := (-6)) hx hb dX8_haste_25 (by decide) ?_
          skip
          refine zw_V (As := [.int (-6)]) (rest := []) (wr := [(mki, .inl (cI, 8, .inl gki)), (mpa, .inl (cI, 8, .inl gpa)), (mta, .inl (cI, 8, .inl gta))]) ⟨hx, hb, hml, hown, hts⟩ (c_M_no_6 l D cI cJ cZ cP cS po m0 mrf mki mpa mta mla msl mco mhe mso msi msh mce mca mwo mnu mte mwa mke mma mth mtr (npu) (nte) (nat_) (nde) (nto) (nse) (nhu) (nga) (nsd) (nfa) (nba) (npl) (nen) (nnu) (nwr) (nra) (nik) grf hy0 hy1 hy2 hy3 hy4 hy5 hy6 hy7 hy8 hy9 hy10 hy11 hy12 hy13 H.size) (cwV 1 hts gX8_haste_X8_no rfl rfl rfl ⟨rfl, dh_X8_no⟩ ⟨Nat.le_of_ble_eq_true rfl, Nat.le_of_ble_eq_true rfl⟩) hK hN (hZ.kept hS) hP hD hS hA [0, 1] [2, 3, 4] rfl rfl (by decide) (by decide) (by decide) (va_recv (q := (RX8, TX8, 38)) hK hP (ci := 8) (q0 := 0) rfl rfl) rfl hl.1 rfl (Nat.le_of_ble_eq_true rfl) dX8_haste_27 ⟨Nat.le_of_ble_eq_true rfl, Nat.le_of_ble_eq_true rfl⟩ (fun r_17 u_18 H locs hr_17 hP hD hS => ?_)
          obtain ⟨q_19, rfl⟩ : ∃ z, z = u_18 := ⟨_, rfl⟩
          have h9R := zRe (ws' := [(mki, .inl (cI, 8, .inl gki)), (mpa, .inl (cI, 8, .inl gpa)), (mta, .inl (cI, 8, .inl gta)), (zMO m0 npu nte nat_ nde nto nse nhu nga nsd nfa mrf mki mpa mta mla msl mco mhe mso msi msh mce mca mwo mnu mte nba npl nen nnu nwr mwa mke mma mth mtr nra nik), (mrf, .inl (cI, 8, .inl q_19))]) hP hD rfl
          clear hP hD
          obtain ⟨hP, hD⟩ := h9R
          obtain rfl := hr_17
          exact W.iret (v := (-6)) hx hb hr (fun t ht hW => ⟨⟨(-6), q_19, rfl, ⟨(show ((w.toInt < 0 ∨ 1 < w.toInt) ∧ ((-6) : Int32).toInt = -5) ∨ ((0 ≤ w.toInt ∧ w.toInt ≤ 1) ∧ (((n.toInt < 0 ∨ 4 < n.toInt) ∧ ((-6) : Int32).toInt = -6) ∨ ((0 ≤ n.toInt ∧ n.toInt ≤ 4) ∧ ((w.toInt = 1 ∧ ((-6) : Int32).toInt = (if (zHv gki gpa gta npu.toInt.toNat n.toInt.toNat nde.toInt nse.toInt) 9 < (zHv gki gpa gta npu.toInt.toNat n.toInt.toNat nde.toInt nse.toInt) 0 then 1 else 0)) ∨ (w.toInt = 0 ∧ ((-6) : Int32).toInt = (zHs (zHv gki gpa gta npu.toInt.toNat n.toInt.toNat nde.toInt nse.toInt) 9 : Nat)))))) from by (have k6m : ((-6) : Int32).toInt = -6 := (by decide); have k9 : ((-6) : Int32).toInt = -6 := (by decide); omega)), trivial⟩, zRet ht hP hD [3, 4, 0, 1, 2] (by decide) rfl⟩, hS.F ht⟩) hS.2.2 dX8_haste_30
      · refine lv_if_ne (tgt := 31) hx hb dX8_haste_21 (by decide) (fun c_20 => ?_) (fun c_20 => ?_)
        · have hsp : n = 0 ∨ n = 1 ∨ n = 2 ∨ n = 3 ∨ n = 4 := by
            rcases (show n.toInt = 0 ∨ n.toInt = 1 ∨ n.toInt = 2 ∨ n.toInt = 3 ∨ n.toInt = 4 by omega) with h9 | h9 | h9 | h9 | h9
            · refine Or.inl ?_; exact zf_val h9 (by decide)
            · refine Or.inr (Or.inl ?_); exact zf_val h9 (by decide)
            · refine Or.inr (Or.inr (Or.inl ?_)); exact zf_val h9 (by decide)
            · refine Or.inr (Or.inr (Or.inr (Or.inl ?_))); exact zf_val h9 (by decide)
            · refine Or.inr (Or.inr (Or.inr (Or.inr (?_)))); exact zf_val h9 (by decide)
          rcases hsp with rfl | rfl | rfl | rfl | rfl
          · have kc0 : (0 : Int32).toInt = 0 := by decide
            refine lv_iload_n hx hb dX8_haste_31 rfl (lv_at hl 2 rfl) ?_
            refine lv_iconst (v := 1) hx hb dX8_haste_32 (by decide) ?_
            refine lv_icmp_ne (tgt := 58) hx hb dX8_haste_33 (by decide) (fun c_21 => ?_) (fun c_21 => ?_)
            · have fc_21 : w.toInt ≠ 1 := zf_ne c_21 rfl (by decide)
              refine lv_iconst (v := 0) hx hb dX8_haste_58 (by decide) ?_
              refine lv_istore_n (lv' := [(3, .int 0), (0, .ref m0), (1, .int 0), (2, .int w)]) hx hb dX8_haste_59 rfl hl (by decide) rfl (fun ls hl => ?_)
              refine lv_iconst (v := (-1)) hx hb dX8_haste_60 (by decide) ?_
              refine lv_istore (lv' := [(4, .int (-1)), (3, .int 0), (0, .ref m0), (1, .int 0), (2, .int w)]) hx hb dX8_haste_61 hl (by decide) rfl (fun ls hl => ?_)
              refine lv_iconst (v := 0) hx hb dX8_haste_63 (by decide) ?_
              refine lv_istore (lv' := [(5, .int 0), (4, .int (-1)), (3, .int 0), (0, .ref m0), (1, .int 0), (2, .int w)]) hx hb dX8_haste_64 hl (by decide) rfl (fun ls hl => ?_)
              obtain ⟨i_66, hi_66⟩ : ∃ i : Int32, i = 0 := ⟨_, rfl⟩
              replace hl : lv_has ls 7 [(5, .int i_66), (4, .int (-1)), (3, .int 0), (0, .ref m0), (1, .int 0), (2, .int w)] := by rw [hi_66]; exact lv_sub hl [0, 1, 2, 3, 4, 5] rfl
              have h1i_66 : i_66.toInt = 0 := by rw [hi_66]; decide
              obtain ⟨nfu, hni_66⟩ : ∃ nq9 : Nat, 10 ≤ i_66.toInt + (nq9 : Int) := ⟨((10 : Int) - 0).toNat, by omega⟩
              have hloi_66 : 0 ≤ i_66.toInt := by omega
              obtain ⟨v_22, hv_22⟩ : ∃ g : Int32, g = 0 := ⟨_, rfl⟩
              obtain ⟨v_23, hv_23⟩ : ∃ g : Int32, g = (-1) := ⟨_, rfl⟩
              replace hl : lv_has ls 7 [(5, .int i_66), (4, .int v_23), (3, .int v_22), (0, .ref m0), (1, .int 0), (2, .int w)] := by rw [hv_22, hv_23]; exact hl
              have hbv_22 : 0 ≤ v_22.toInt ∧ v_22.toInt ≤ 9 := by rw [hv_22]; exact ⟨by decide, by decide⟩
              have hbv_23 : -1 ≤ v_23.toInt ∧ v_23.toInt ≤ 20736 := by rw [hv_23]; exact ⟨by decide, by decide⟩
              have hvi_66_0 : ((i_66.toInt = 0 ∧ (v_22 : Int32).toInt = 0 ∧ (v_23 : Int32).toInt = -1) ∨ (1 ≤ i_66.toInt ∧ (v_22 : Int32).toInt = (zHs (zHv gki gpa gta npu.toInt.toNat 0 nde.toInt nse.toInt) (i_66.toInt - 1).toNat : Nat) ∧ (v_23 : Int32).toInt = (zHv gki gpa gta npu.toInt.toNat 0 nde.toInt nse.toInt) (zHs (zHv gki gpa gta npu.toInt.toNat 0 nde.toInt nse.toInt) (i_66.toInt - 1).toNat))) := by
                (try rw [hi_66]); (try rw [hv_22]); (try rw [hv_23]); (exact Or.inl ⟨by decide, by decide, by decide⟩)
              have hvi_66_1 : i_66.toInt ≤ 10 := by
                (try rw [hi_66]); (try rw [hv_22]); (try rw [hv_23]); (have k0 : (0 : Int32).toInt = 0 := (by decide); omega)
              clear h1i_66 hi_66 hv_22 hv_23
              skip
              revert hni_66
              revert hloi_66
              revert hvi_66_1
              revert hvi_66_0
              revert hbv_23
              revert hbv_22
              revert hl
              revert hS
              revert hD
              revert hP
              revert ls
              revert locs
              revert H
              revert v_23
              revert v_22
              revert i_66
              induction nfu with
              | zero =>
                intro i_66 v_22 v_23 H locs ls hP hD hS hl hbv_22 hbv_23 hvi_66_0 hvi_66_1 hloi_66 hni_66
                have hzi_66 : 10 ≤ i_66.toInt := by omega
                refine lv_iload hx hb dX8_haste_66 (lv_at hl 0 rfl) ?_
                refine lv_bipush (v := 10) hx hb dX8_haste_68 (by decide) ?_
                refine lv_icmp_ge (tgt := 105) hx hb dX8_haste_70 (by decide) (fun c_24 => ?_) (fun c_24 => ?_)
                · have fc_24 : 10 ≤ i_66.toInt := zf_le c_24 (by decide) rfl
                  refine lv_iload_n hx hb dX8_haste_105 rfl (lv_at hl 2 rfl) ?_
                  exact W.iret (v := v_22) hx hb hr (fun t ht hW => ⟨⟨v_22, grf, rfl, ⟨(show ((w.toInt < 0 ∨ 1 < w.toInt) ∧ (v_22 : Int32).toInt = -5) ∨ ((0 ≤ w.toInt ∧ w.toInt ≤ 1) ∧ ((((0 : Int32).toInt < 0 ∨ 4 < (0 : Int32).toInt) ∧ (v_22 : Int32).toInt = -6) ∨ ((0 ≤ (0 : Int32).toInt ∧ (0 : Int32).toInt ≤ 4) ∧ ((w.toInt = 1 ∧ (v_22 : Int32).toInt = (if (zHv gki gpa gta npu.toInt.toNat (0 : Int32).toInt.toNat nde.toInt nse.toInt) 9 < (zHv gki gpa gta npu.toInt.toNat (0 : Int32).toInt.toNat nde.toInt nse.toInt) 0 then 1 else 0)) ∨ (w.toInt = 0 ∧ (v_22 : Int32).toInt = (zHs (zHv gki gpa gta npu.toInt.toNat (0 : Int32).toInt.toNat nde.toInt nse.toInt) 9 : Nat)))))) from by (have k0 : (0 : Int32).toInt = 0 := (by decide); have k9_ : (9 : Int32).toInt = 9 := (by decide); have k0_ : (0 : Int32).toInt = 0 := (by decide); refine Or.inr ⟨by omega, Or.inr ⟨by omega, Or.inr ⟨by omega, (by rw [show (0 : Int32).toInt.toNat = 0 from by decide]; rcases hvi_66_0 with z | ⟨z1, z2, -⟩; (exfalso; omega); (have h9 : (i_66.toInt - 1).toNat = 9 := (by omega); rw [h9] at z2; exact z2))⟩⟩⟩)), trivial⟩, zRet ht hP hD [0, 1, 2, 3, 4] (by decide) rfl⟩, hS.F ht⟩) hS.2.2 dX8_haste_106
                · exfalso; have fc_24 : i_66.toInt < 10 := zf_nle c_24 (by decide) rfl; omega
              | succ nfu ih =>
                intro i_66 v_22 v_23 H locs ls hP hD hS hl hbv_22 hbv_23 hvi_66_0 hvi_66_1 hloi_66 hni_66
                refine lv_iload hx hb dX8_haste_66 (lv_at hl 0 rfl) ?_
                refine lv_bipush (v := 10) hx hb dX8_haste_68 (by decide) ?_
                refine lv_icmp_ge (tgt := 105) hx hb dX8_haste_70 (by decide) (fun c_25 => ?_) (fun c_25 => ?_)
                · have fc_25 : 10 ≤ i_66.toInt := zf_le c_25 (by decide) rfl
                  refine lv_iload_n hx hb dX8_haste_105 rfl (lv_at hl 2 rfl) ?_
                  exact W.iret (v := v_22) hx hb hr (fun t ht hW => ⟨⟨v_22, grf, rfl, ⟨(show ((w.toInt < 0 ∨ 1 < w.toInt) ∧ (v_22 : Int32).toInt = -5) ∨ ((0 ≤ w.toInt ∧ w.toInt ≤ 1) ∧ ((((0 : Int32).toInt < 0 ∨ 4 < (0 : Int32).toInt) ∧ (v_22 : Int32).toInt = -6) ∨ ((0 ≤ (0 : Int32).toInt ∧ (0 : Int32).toInt ≤ 4) ∧ ((w.toInt = 1 ∧ (v_22 : Int32).toInt = (if (zHv gki gpa gta npu.toInt.toNat (0 : Int32).toInt.toNat nde.toInt nse.toInt) 9 < (zHv gki gpa gta npu.toInt.toNat (0 : Int32).toInt.toNat nde.toInt nse.toInt) 0 then 1 else 0)) ∨ (w.toInt = 0 ∧ (v_22 : Int32).toInt = (zHs (zHv gki gpa gta npu.toInt.toNat (0 : Int32).toInt.toNat nde.toInt nse.toInt) 9 : Nat)))))) from by (have k0 : (0 : Int32).toInt = 0 := (by decide); have k9_ : (9 : Int32).toInt = 9 := (by decide); have k0_ : (0 : Int32).toInt = 0 := (by decide); refine Or.inr ⟨by omega, Or.inr ⟨by omega, Or.inr ⟨by omega, (by rw [show (0 : Int32).toInt.toNat = 0 from by decide]; rcases hvi_66_0 with z | ⟨z1, z2, -⟩; (exfalso; omega); (have h9 : (i_66.toInt - 1).toNat = 9 := (by omega); rw [h9] at z2; exact z2))⟩⟩⟩)), trivial⟩, zRet ht hP hD [0, 1, 2, 3, 4] (by decide) rfl⟩, hS.F ht⟩) hS.2.2 dX8_haste_106
                · have fc_25 : i_66.toInt < 10 := zf_nle c_25 (by decide) rfl
                  refine lv_aload_n hx hb dX8_haste_73 rfl (lv_at hl 3 rfl) ?_
                  refine lv_iload_n hx hb dX8_haste_74 rfl (lv_at hl 4 rfl) ?_
                  refine lv_iload hx hb dX8_haste_75 (lv_at hl 0 rfl) ?_
                  skip
                  refine zw_V (As := [.int 0, .int i_66]) (rest := []) (wr := [(mrf, .inl (cI, 8, .inl grf))]) ⟨hx, hb, hml, hown, hts⟩ (c_F_M_casesIn_0 l D cI cJ cZ cP cS po m0 mrf mki mpa mta mla msl mco mhe mso msi msh mce mca mwo mnu mte mwa mke mma mth mtr (npu) (nte) (nat_) (nde) (nto) (nse) (nhu) (nga) (nsd) (nfa) (nba) (npl) (nen) (nnu) (nwr) (nra) (nik) gki gpa gta (i_66) hy0 hy1 hy2 hy3 hy4 hy5 hy6 hy7 hy8 hy9 hy10 hy11 hy12 hy13 (by omega) (by omega) hy14 hy15 hp_gki hp_gpa hp_gta H.size) (cwV 2 hts gX8_haste_X8_casesIn rfl rfl rfl ⟨rfl, dh_X8_casesIn⟩ ⟨Nat.le_of_ble_eq_true rfl, Nat.le_of_ble_eq_true rfl⟩) hK hN (hZ.kept hS) hP hD hS hA [0, 2, 3, 4] [1] rfl rfl (by decide) (by decide) (by decide) (va_recv (q := (RX8, TX8, 38)) hK hP (ci := 8) (q0 := 0) rfl rfl) rfl hl.1 rfl (Nat.le_of_ble_eq_true rfl) dX8_haste_77 ⟨Nat.le_of_ble_eq_true rfl, Nat.le_of_ble_eq_true rfl⟩ (fun r_26 u_27 H locs hr_26 hP hD hS => ?_)
                  obtain ⟨hsr_26_0, hr_26⟩ := hr_26
                  have h9R := zRe (ws' := [(mrf, .inl (cI, 8, .inl grf)), (zMO m0 npu nte nat_ nde nto nse nhu nga nsd nfa mrf mki mpa mta mla msl mco mhe mso msi msh mce mca mwo mnu mte nba npl nen nnu nwr mwa mke mma mth mtr nra nik), (mki, .inl (cI, 8, .inl gki)), (mpa, .inl (cI, 8, .inl gpa)), (mta, .inl (cI, 8, .inl gta))]) hP hD rfl
                  clear hP hD
                  obtain ⟨hP, hD⟩ := h9R
                  obtain ⟨g_28, g_29⟩ := hr_26
                  refine lv_istore (lv' := [(6, .int r_26), (5, .int i_66), (4, .int v_23), (3, .int v_22), (0, .ref m0), (1, .int 0), (2, .int w)]) hx hb dX8_haste_80 hl (by decide) rfl (fun ls hl => ?_)
                  refine lv_iload hx hb dX8_haste_82 (lv_at hl 0 rfl) ?_
                  refine lv_iload hx hb dX8_haste_84 (lv_at hl 2 rfl) ?_
                  refine lv_icmp_gt (tgt := 92) hx hb dX8_haste_86 (by decide) (fun c_30 => ?_) (fun c_30 => ?_)
                  · have fc_30 : v_23.toInt < r_26.toInt := zf_lt c_30 rfl rfl
                    refine lv_iload hx hb dX8_haste_92 (lv_at hl 1 rfl) ?_
                    refine lv_istore_n (lv' := [(3, .int i_66), (6, .int r_26), (5, .int i_66), (4, .int v_23), (0, .ref m0), (1, .int 0), (2, .int w)]) hx hb dX8_haste_94 rfl hl (by decide) rfl (fun ls hl => ?_)
                    refine lv_iload hx hb dX8_haste_95 (lv_at hl 1 rfl) ?_
                    refine lv_istore (lv' := [(4, .int r_26), (3, .int i_66), (6, .int r_26), (5, .int i_66), (0, .ref m0), (1, .int 0), (2, .int w)]) hx hb dX8_haste_97 hl (by decide) rfl (fun ls hl => ?_)
                    obtain ⟨x_31, ex_31⟩ : ∃ y : Int32, y = i_66 + 1 := ⟨_, rfl⟩
                    have qx_31 : x_31.toInt = i_66.toInt + 1 := dw_incK ex_31 fc_25 (by decide)
                    refine lv_iinc (v := x_31) (lv' := [(5, .int x_31), (4, .int r_26), (3, .int i_66), (6, .int r_26), (0, .ref m0), (1, .int 0), (2, .int w)]) hx hb dX8_haste_99 hl (k := 3) rfl ex_31.symm (by decide) rfl (fun ls hl => ?_)
                    refine lv_goto (tgt := 66) hx hb dX8_haste_102 (by decide) ?_
                    exact ih x_31 i_66 r_26 _ _ _ (hP.sub [1, 0, 2, 3, 4] rfl) (hD.sub [1, 0, 2, 3, 4] (by decide) rfl) hS (lv_sub hl [0, 1, 2, 4, 5, 6] rfl) ⟨by omega, by omega⟩ ⟨by omega, by omega⟩ (show ((x_31.toInt = 0 ∧ (i_66 : Int32).toInt = 0 ∧ (r_26 : Int32).toInt = -1) ∨ (1 ≤ x_31.toInt ∧ (i_66 : Int32).toInt = (zHs (zHv gki gpa gta npu.toInt.toNat 0 nde.toInt nse.toInt) (x_31.toInt - 1).toNat : Nat) ∧ (r_26 : Int32).toInt = (zHv gki gpa gta npu.toInt.toNat 0 nde.toInt nse.toInt) (zHs (zHv gki gpa gta npu.toInt.toNat 0 nde.toInt nse.toInt) (x_31.toInt - 1).toNat))) from by (have y1 : (zHv gki gpa gta npu.toInt.toNat 0 nde.toInt nse.toInt) i_66.toInt.toNat = r_26.toInt := (by have z := hsr_26_0; unfold zHv; rw [show ((i_66.toInt.toNat : Nat) : Int) = i_66.toInt from by omega]; exact z.symm); have hx : (x_31.toInt - 1).toNat = i_66.toInt.toNat := (by omega); refine Or.inr ⟨by omega, ?_⟩; rw [hx]; rcases hvi_66_0 with ⟨w1, w2, w3⟩ | ⟨w1, w2, w3⟩; (have h0 : i_66.toInt.toNat = 0 := (by omega); rw [h0] at y1 ⊢; first | (exact ⟨by (show _ = ((0 : Nat) : Int); omega), y1.symm⟩) | (exfalso; omega)); (have h1 : i_66.toInt.toNat = (i_66.toInt - 1).toNat + 1 := (by omega); rw [h1] at y1 ⊢; rw [zHs_s, y1, ← w3]; first | (rw [if_pos (by omega)]; exact ⟨by omega, y1.symm⟩) | (rw [if_neg (by omega)]; exact ⟨w2, w3⟩)))) (show x_31.toInt ≤ 10 from by omega) (dw_lo hloi_66 qx_31) (dw_hn hni_66 qx_31)
                  · have fc_30 : r_26.toInt ≤ v_23.toInt := zf_nlt c_30 rfl rfl
                    refine lv_goto (tgt := 99) hx hb dX8_haste_89 (by decide) ?_
                    obtain ⟨x_32, ex_32⟩ : ∃ y : Int32, y = i_66 + 1 := ⟨_, rfl⟩
                    have qx_32 : x_32.toInt = i_66.toInt + 1 := dw_incK ex_32 fc_25 (by decide)
                    refine lv_iinc (v := x_32) (lv' := [(5, .int x_32), (6, .int r_26), (4, .int v_23), (3, .int v_22), (0, .ref m0), (1, .int 0), (2, .int w)]) hx hb dX8_haste_99 hl (k := 1) rfl ex_32.symm (by decide) rfl (fun ls hl => ?_)
                    refine lv_goto (tgt := 66) hx hb dX8_haste_102 (by decide) ?_
                    exact ih x_32 v_22 v_23 _ _ _ (hP.sub [1, 0, 2, 3, 4] rfl) (hD.sub [1, 0, 2, 3, 4] (by decide) rfl) hS (lv_sub hl [0, 2, 3, 4, 5, 6] rfl) hbv_22 hbv_23 (show ((x_32.toInt = 0 ∧ (v_22 : Int32).toInt = 0 ∧ (v_23 : Int32).toInt = -1) ∨ (1 ≤ x_32.toInt ∧ (v_22 : Int32).toInt = (zHs (zHv gki gpa gta npu.toInt.toNat 0 nde.toInt nse.toInt) (x_32.toInt - 1).toNat : Nat) ∧ (v_23 : Int32).toInt = (zHv gki gpa gta npu.toInt.toNat 0 nde.toInt nse.toInt) (zHs (zHv gki gpa gta npu.toInt.toNat 0 nde.toInt nse.toInt) (x_32.toInt - 1).toNat))) from by (have y1 : (zHv gki gpa gta npu.toInt.toNat 0 nde.toInt nse.toInt) i_66.toInt.toNat = r_26.toInt := (by have z := hsr_26_0; unfold zHv; rw [show ((i_66.toInt.toNat : Nat) : Int) = i_66.toInt from by omega]; exact z.symm); have hx : (x_32.toInt - 1).toNat = i_66.toInt.toNat := (by omega); refine Or.inr ⟨by omega, ?_⟩; rw [hx]; rcases hvi_66_0 with ⟨w1, w2, w3⟩ | ⟨w1, w2, w3⟩; (have h0 : i_66.toInt.toNat = 0 := (by omega); rw [h0] at y1 ⊢; first | (exact ⟨by (show _ = ((0 : Nat) : Int); omega), y1.symm⟩) | (exfalso; omega)); (have h1 : i_66.toInt.toNat = (i_66.toInt - 1).toNat + 1 := (by omega); rw [h1] at y1 ⊢; rw [zHs_s, y1, ← w3]; first | (rw [if_pos (by omega)]; exact ⟨by omega, y1.symm⟩) | (rw [if_neg (by omega)]; exact ⟨w2, w3⟩)))) (show x_32.toInt ≤ 10 from by omega) (dw_lo hloi_66 qx_32) (dw_hn hni_66 qx_32)
            · have fc_21 : w.toInt = 1 := zf_eq c_21 rfl (by decide)
              refine lv_aload_n hx hb dX8_haste_36 rfl (lv_at hl 0 rfl) ?_
              refine lv_iload_n hx hb dX8_haste_37 rfl (lv_at hl 1 rfl) ?_
              refine lv_bipush (v := 9) hx hb dX8_haste_38 (by decide) ?_
              have kc9 : (9 : Int32).toInt = 9 := by decide
              skip
              refine zw_V (As := [.int 0, .int 9]) (rest := []) (wr := [(mrf, .inl (cI, 8, .inl grf))]) ⟨hx, hb, hml, hown, hts⟩ (c_F_M_casesIn_0 l D cI cJ cZ cP cS po m0 mrf mki mpa mta mla msl mco mhe mso msi msh mce mca mwo mnu mte mwa mke mma mth mtr (npu) (nte) (nat_) (nde) (nto) (nse) (nhu) (nga) (nsd) (nfa) (nba) (npl) (nen) (nnu) (nwr) (nra) (nik) gki gpa gta (9) hy0 hy1 hy2 hy3 hy4 hy5 hy6 hy7 hy8 hy9 hy10 hy11 hy12 hy13 (by omega) (by omega) hy14 hy15 hp_gki hp_gpa hp_gta H.size) (cwV 2 hts gX8_haste_X8_casesIn rfl rfl rfl ⟨rfl, dh_X8_casesIn⟩ ⟨Nat.le_of_ble_eq_true rfl, Nat.le_of_ble_eq_true rfl⟩) hK hN (hZ.kept hS) hP hD hS hA [0, 2, 3, 4] [1] rfl rfl (by decide) (by decide) (by decide) (va_recv (q := (RX8, TX8, 38)) hK hP (ci := 8) (q0 := 0) rfl rfl) rfl hl.1 rfl (Nat.le_of_ble_eq_true rfl) dX8_haste_40 ⟨Nat.le_of_ble_eq_true rfl, Nat.le_of_ble_eq_true rfl⟩ (fun r_33 u_34 H locs hr_33 hP hD hS => ?_)
              obtain ⟨hsr_33_0, hr_33⟩ := hr_33
              have h9R := zRe (ws' := [(mrf, .inl (cI, 8, .inl grf)), (zMO m0 npu nte nat_ nde nto nse nhu nga nsd nfa mrf mki mpa mta mla msl mco mhe mso msi msh mce mca mwo mnu mte nba npl nen nnu nwr mwa mke mma mth mtr nra nik), (mki, .inl (cI, 8, .inl gki)), (mpa, .inl (cI, 8, .inl gpa)), (mta, .inl (cI, 8, .inl gta))]) hP hD rfl
              clear hP hD
              obtain ⟨hP, hD⟩ := h9R
              obtain ⟨g_35, g_36⟩ := hr_33
              refine lv_aload_n hx hb dX8_haste_43 rfl (lv_at hl 0 rfl) ?_
              refine lv_iload_n hx hb dX8_haste_44 rfl (lv_at hl 1 rfl) ?_
              refine lv_iconst (v := 0) hx hb dX8_haste_45 (by decide) ?_
              skip
              refine zw_V (As := [.int 0, .int 0]) (rest := [.int r_33]) (wr := [(mrf, .inl (cI, 8, .inl grf))]) ⟨hx, hb, hml, hown, hts⟩ (c_F_M_casesIn_0 l D cI cJ cZ cP cS po m0 mrf mki mpa mta mla msl mco mhe mso msi msh mce mca mwo mnu mte mwa mke mma mth mtr (npu) (nte) (nat_) (nde) (nto) (nse) (nhu) (nga) (nsd) (nfa) (nba) (npl) (nen) (nnu) (nwr) (nra) (nik) gki gpa gta (0) hy0 hy1 hy2 hy3 hy4 hy5 hy6 hy7 hy8 hy9 hy10 hy11 hy12 hy13 (by omega) (by omega) hy14 hy15 hp_gki hp_gpa hp_gta H.size) (cwV 2 hts gX8_haste_X8_casesIn rfl rfl rfl ⟨rfl, dh_X8_casesIn⟩ ⟨Nat.le_of_ble_eq_true rfl, Nat.le_of_ble_eq_true rfl⟩) hK hN (hZ.kept hS) hP hD hS hA [1, 2, 3, 4] [0] rfl rfl (by decide) (by decide) (by decide) (va_recv (q := (RX8, TX8, 38)) hK hP (ci := 8) (q0 := 1) rfl rfl) rfl hl.1 rfl (Nat.le_of_ble_eq_true rfl) dX8_haste_46 ⟨Nat.le_of_ble_eq_true rfl, Nat.le_of_ble_eq_true rfl⟩ (fun r_37 u_38 H locs hr_37 hP hD hS => ?_)
              obtain ⟨hsr_37_0, hr_37⟩ := hr_37
              have h9R := zRe (ws' := [(mrf, .inl (cI, 8, .inl grf)), (zMO m0 npu nte nat_ nde nto nse nhu nga nsd nfa mrf mki mpa mta mla msl mco mhe mso msi msh mce mca mwo mnu mte nba npl nen nnu nwr mwa mke mma mth mtr nra nik), (mki, .inl (cI, 8, .inl gki)), (mpa, .inl (cI, 8, .inl gpa)), (mta, .inl (cI, 8, .inl gta))]) hP hD rfl
              clear hP hD
              obtain ⟨hP, hD⟩ := h9R
              obtain ⟨g_39, g_40⟩ := hr_37
              refine lv_icmp_ge (tgt := 56) hx hb dX8_haste_49 (by decide) (fun c_41 => ?_) (fun c_41 => ?_)
              · have fc_41 : r_37.toInt ≤ r_33.toInt := zf_le c_41 rfl rfl
                refine lv_iconst (v := 0) hx hb dX8_haste_56 (by decide) ?_
                exact W.iret (v := 0) hx hb hr (fun t ht hW => ⟨⟨0, grf, rfl, ⟨(show ((w.toInt < 0 ∨ 1 < w.toInt) ∧ (0 : Int32).toInt = -5) ∨ ((0 ≤ w.toInt ∧ w.toInt ≤ 1) ∧ ((((0 : Int32).toInt < 0 ∨ 4 < (0 : Int32).toInt) ∧ (0 : Int32).toInt = -6) ∨ ((0 ≤ (0 : Int32).toInt ∧ (0 : Int32).toInt ≤ 4) ∧ ((w.toInt = 1 ∧ (0 : Int32).toInt = (if (zHv gki gpa gta npu.toInt.toNat (0 : Int32).toInt.toNat nde.toInt nse.toInt) 9 < (zHv gki gpa gta npu.toInt.toNat (0 : Int32).toInt.toNat nde.toInt nse.toInt) 0 then 1 else 0)) ∨ (w.toInt = 0 ∧ (0 : Int32).toInt = (zHs (zHv gki gpa gta npu.toInt.toNat (0 : Int32).toInt.toNat nde.toInt nse.toInt) 9 : Nat)))))) from by (have k0 : (0 : Int32).toInt = 0 := (by decide); have k9 : (0 : Int32).toInt = 0 := (by decide); have k9_ : (9 : Int32).toInt = 9 := (by decide); have k0_ : (0 : Int32).toInt = 0 := (by decide); refine Or.inr ⟨by omega, Or.inr ⟨by omega, Or.inl ⟨by omega, (by rw [show (0 : Int32).toInt.toNat = 0 from by decide]; have z1 := hsr_33_0; have z2 := hsr_37_0; rw [k9_] at z1; rw [k0_] at z2; have y1 : (zHv gki gpa gta npu.toInt.toNat 0 nde.toInt nse.toInt) 9 = r_33.toInt := z1.symm; have y2 : (zHv gki gpa gta npu.toInt.toNat 0 nde.toInt nse.toInt) 0 = r_37.toInt := z2.symm; rw [y1, y2]; first | (rw [if_neg (by omega)]; omega) | (rw [if_pos (by omega)]; omega))⟩⟩⟩)), trivial⟩, zRet ht hP hD [1, 0, 2, 3, 4] (by decide) rfl⟩, hS.F ht⟩) hS.2.2 dX8_haste_57
              · have fc_41 : r_33.toInt < r_37.toInt := zf_nle c_41 rfl rfl
                refine lv_iconst (v := 1) hx hb dX8_haste_52 (by decide) ?_
                refine lv_goto (tgt := 57) hx hb dX8_haste_53 (by decide) ?_
                exact W.iret (v := 1) hx hb hr (fun t ht hW => ⟨⟨1, grf, rfl, ⟨(show ((w.toInt < 0 ∨ 1 < w.toInt) ∧ (1 : Int32).toInt = -5) ∨ ((0 ≤ w.toInt ∧ w.toInt ≤ 1) ∧ ((((0 : Int32).toInt < 0 ∨ 4 < (0 : Int32).toInt) ∧ (1 : Int32).toInt = -6) ∨ ((0 ≤ (0 : Int32).toInt ∧ (0 : Int32).toInt ≤ 4) ∧ ((w.toInt = 1 ∧ (1 : Int32).toInt = (if (zHv gki gpa gta npu.toInt.toNat (0 : Int32).toInt.toNat nde.toInt nse.toInt) 9 < (zHv gki gpa gta npu.toInt.toNat (0 : Int32).toInt.toNat nde.toInt nse.toInt) 0 then 1 else 0)) ∨ (w.toInt = 0 ∧ (1 : Int32).toInt = (zHs (zHv gki gpa gta npu.toInt.toNat (0 : Int32).toInt.toNat nde.toInt nse.toInt) 9 : Nat)))))) from by (have k0 : (0 : Int32).toInt = 0 := (by decide); have k1 : (1 : Int32).toInt = 1 := (by decide); have k9 : (1 : Int32).toInt = 1 := (by decide); have k9_ : (9 : Int32).toInt = 9 := (by decide); have k0_ : (0 : Int32).toInt = 0 := (by decide); refine Or.inr ⟨by omega, Or.inr ⟨by omega, Or.inl ⟨by omega, (by rw [show (0 : Int32).toInt.toNat = 0 from by decide]; have z1 := hsr_33_0; have z2 := hsr_37_0; rw [k9_] at z1; rw [k0_] at z2; have y1 : (zHv gki gpa gta npu.toInt.toNat 0 nde.toInt nse.toInt) 9 = r_33.toInt := z1.symm; have y2 : (zHv gki gpa gta npu.toInt.toNat 0 nde.toInt nse.toInt) 0 = r_37.toInt := z2.symm; rw [y1, y2]; first | (rw [if_pos (by omega)]; omega) | (rw [if_neg (by omega)]; omega))⟩⟩⟩)), trivial⟩, zRet ht hP hD [1, 0, 2, 3, 4] (by decide) rfl⟩, hS.F ht⟩) hS.2.2 dX8_haste_57
          · have kc1 : (1 : Int32).toInt = 1 := by decide
            refine lv_iload_n hx hb dX8_haste_31 rfl (lv_at hl 2 rfl) ?_
            refine lv_iconst (v := 1) hx hb dX8_haste_32 (by decide) ?_
            refine lv_icmp_ne (tgt := 58) hx hb dX8_haste_33 (by decide) (fun c_42 => ?_) (fun c_42 => ?_)
            · have fc_42 : w.toInt ≠ 1 := zf_ne c_42 rfl (by decide)
              refine lv_iconst (v := 0) hx hb dX8_haste_58 (by decide) ?_
              refine lv_istore_n (lv' := [(3, .int 0), (0, .ref m0), (1, .int 1), (2, .int w)]) hx hb dX8_haste_59 rfl hl (by decide) rfl (fun ls hl => ?_)
              refine lv_iconst (v := (-1)) hx hb dX8_haste_60 (by decide) ?_
              refine lv_istore (lv' := [(4, .int (-1)), (3, .int 0), (0, .ref m0), (1, .int 1), (2, .int w)]) hx hb dX8_haste_61 hl (by decide) rfl (fun ls hl => ?_)
              refine lv_iconst (v := 0) hx hb dX8_haste_63 (by decide) ?_
              refine lv_istore (lv' := [(5, .int 0), (4, .int (-1)), (3, .int 0), (0, .ref m0), (1, .int 1), (2, .int w)]) hx hb dX8_haste_64 hl (by decide) rfl (fun ls hl => ?_)
              obtain ⟨i_66, hi_66⟩ : ∃ i : Int32, i = 0 := ⟨_, rfl⟩
              replace hl : lv_has ls 7 [(5, .int i_66), (4, .int (-1)), (3, .int 0), (0, .ref m0), (1, .int 1), (2, .int w)] := by rw [hi_66]; exact lv_sub hl [0, 1, 2, 3, 4, 5] rfl
              have h1i_66 : i_66.toInt = 0 := by rw [hi_66]; decide
              obtain ⟨nfu, hni_66⟩ : ∃ nq9 : Nat, 10 ≤ i_66.toInt + (nq9 : Int) := ⟨((10 : Int) - 0).toNat, by omega⟩
              have hloi_66 : 0 ≤ i_66.toInt := by omega
              obtain ⟨v_43, hv_43⟩ : ∃ g : Int32, g = 0 := ⟨_, rfl⟩
              obtain ⟨v_44, hv_44⟩ : ∃ g : Int32, g = (-1) := ⟨_, rfl⟩
              replace hl : lv_has ls 7 [(5, .int i_66), (4, .int v_44), (3, .int v_43), (0, .ref m0), (1, .int 1), (2, .int w)] := by rw [hv_43, hv_44]; exact hl
              have hbv_43 : 0 ≤ v_43.toInt ∧ v_43.toInt ≤ 9 := by rw [hv_43]; exact ⟨by decide, by decide⟩
              have hbv_44 : -1 ≤ v_44.toInt ∧ v_44.toInt ≤ 20736 := by rw [hv_44]; exact ⟨by decide, by decide⟩
              have hvi_66_0 : ((i_66.toInt = 0 ∧ (v_43 : Int32).toInt = 0 ∧ (v_44 : Int32).toInt = -1) ∨ (1 ≤ i_66.toInt ∧ (v_43 : Int32).toInt = (zHs (zHv gki gpa gta npu.toInt.toNat 1 nde.toInt nse.toInt) (i_66.toInt - 1).toNat : Nat) ∧ (v_44 : Int32).toInt = (zHv gki gpa gta npu.toInt.toNat 1 nde.toInt nse.toInt) (zHs (zHv gki gpa gta npu.toInt.toNat 1 nde.toInt nse.toInt) (i_66.toInt - 1).toNat))) := by
                (try rw [hi_66]); (try rw [hv_43]); (try rw [hv_44]); (exact Or.inl ⟨by decide, by decide, by decide⟩)
              have hvi_66_1 : i_66.toInt ≤ 10 := by
                (try rw [hi_66]); (try rw [hv_43]); (try rw [hv_44]); (have k0 : (0 : Int32).toInt = 0 := (by decide); omega)
              clear h1i_66 hi_66 hv_43 hv_44
              skip
              revert hni_66
              revert hloi_66
              revert hvi_66_1
              revert hvi_66_0
              revert hbv_44
              revert hbv_43
              revert hl
              revert hS
              revert hD
              revert hP
              revert ls
              revert locs
              revert H
              revert v_44
              revert v_43
              revert i_66
              induction nfu with
              | zero =>
                intro i_66 v_43 v_44 H locs ls hP hD hS hl hbv_43 hbv_44 hvi_66_0 hvi_66_1 hloi_66 hni_66
                have hzi_66 : 10 ≤ i_66.toInt := by omega
                refine lv_iload hx hb dX8_haste_66 (lv_at hl 0 rfl) ?_
                refine lv_bipush (v := 10) hx hb dX8_haste_68 (by decide) ?_
                refine lv_icmp_ge (tgt := 105) hx hb dX8_haste_70 (by decide) (fun c_45 => ?_) (fun c_45 => ?_)
                · have fc_45 : 10 ≤ i_66.toInt := zf_le c_45 (by decide) rfl
                  refine lv_iload_n hx hb dX8_haste_105 rfl (lv_at hl 2 rfl) ?_
                  exact W.iret (v := v_43) hx hb hr (fun t ht hW => ⟨⟨v_43, grf, rfl, ⟨(show ((w.toInt < 0 ∨ 1 < w.toInt) ∧ (v_43 : Int32).toInt = -5) ∨ ((0 ≤ w.toInt ∧ w.toInt ≤ 1) ∧ ((((1 : Int32).toInt < 0 ∨ 4 < (1 : Int32).toInt) ∧ (v_43 : Int32).toInt = -6) ∨ ((0 ≤ (1 : Int32).toInt ∧ (1 : Int32).toInt ≤ 4) ∧ ((w.toInt = 1 ∧ (v_43 : Int32).toInt = (if (zHv gki gpa gta npu.toInt.toNat (1 : Int32).toInt.toNat nde.toInt nse.toInt) 9 < (zHv gki gpa gta npu.toInt.toNat (1 : Int32).toInt.toNat nde.toInt nse.toInt) 0 then 1 else 0)) ∨ (w.toInt = 0 ∧ (v_43 : Int32).toInt = (zHs (zHv gki gpa gta npu.toInt.toNat (1 : Int32).toInt.toNat nde.toInt nse.toInt) 9 : Nat)))))) from by (have k1 : (1 : Int32).toInt = 1 := (by decide); have k9_ : (9 : Int32).toInt = 9 := (by decide); have k0_ : (0 : Int32).toInt = 0 := (by decide); refine Or.inr ⟨by omega, Or.inr ⟨by omega, Or.inr ⟨by omega, (by rw [show (1 : Int32).toInt.toNat = 1 from by decide]; rcases hvi_66_0 with z | ⟨z1, z2, -⟩; (exfalso; omega); (have h9 : (i_66.toInt - 1).toNat = 9 := (by omega); rw [h9] at z2; exact z2))⟩⟩⟩)), trivial⟩, zRet ht hP hD [0, 1, 2, 3, 4] (by decide) rfl⟩, hS.F ht⟩) hS.2.2 dX8_haste_106
                · exfalso; have fc_45 : i_66.toInt < 10 := zf_nle c_45 (by decide) rfl; omega
              | succ nfu ih =>
                intro i_66 v_43 v_44 H locs ls hP hD hS hl hbv_43 hbv_44 hvi_66_0 hvi_66_1 hloi_66 hni_66
                refine lv_iload hx hb dX8_haste_66 (lv_at hl 0 rfl) ?_
                refine lv_bipush (v := 10) hx hb dX8_haste_68 (by decide) ?_
                refine lv_icmp_ge (tgt := 105) hx hb dX8_haste_70 (by decide) (fun c_46 => ?_) (fun c_46 => ?_)
                · have fc_46 : 10 ≤ i_66.toInt := zf_le c_46 (by decide) rfl
                  refine lv_iload_n hx hb dX8_haste_105 rfl (lv_at hl 2 rfl) ?_
                  exact W.iret (v := v_43) hx hb hr (fun t ht hW => ⟨⟨v_43, grf, rfl, ⟨(show ((w.toInt < 0 ∨ 1 < w.toInt) ∧ (v_43 : Int32).toInt = -5) ∨ ((0 ≤ w.toInt ∧ w.toInt ≤ 1) ∧ ((((1 : Int32).toInt < 0 ∨ 4 < (1 : Int32).toInt) ∧ (v_43 : Int32).toInt = -6) ∨ ((0 ≤ (1 : Int32).toInt ∧ (1 : Int32).toInt ≤ 4) ∧ ((w.toInt = 1 ∧ (v_43 : Int32).toInt = (if (zHv gki gpa gta npu.toInt.toNat (1 : Int32).toInt.toNat nde.toInt nse.toInt) 9 < (zHv gki gpa gta npu.toInt.toNat (1 : Int32).toInt.toNat nde.toInt nse.toInt) 0 then 1 else 0)) ∨ (w.toInt = 0 ∧ (v_43 : Int32).toInt = (zHs (zHv gki gpa gta npu.toInt.toNat (1 : Int32).toInt.toNat nde.toInt nse.toInt) 9 : Nat)))))) from by (have k1 : (1 : Int32).toInt = 1 := (by decide); have k9_ : (9 : Int32).toInt = 9 := (by decide); have k0_ : (0 : Int32).toInt = 0 := (by decide); refine Or.inr ⟨by omega, Or.inr ⟨by omega, Or.inr ⟨by omega, (by rw [show (1 : Int32).toInt.toNat = 1 from by decide]; rcases hvi_66_0 with z | ⟨z1, z2, -⟩; (exfalso; omega); (have h9 : (i_66.toInt - 1).toNat = 9 := (by omega); rw [h9] at z2; exact z2))⟩⟩⟩)), trivial⟩, zRet ht hP hD [0, 1, 2, 3, 4] (by decide) rfl⟩, hS.F ht⟩) hS.2.2 dX8_haste_106
                · have fc_46 : i_66.toInt < 10 := zf_nle c_46 (by decide) rfl
                  refine lv_aload_n hx hb dX8_haste_73 rfl (lv_at hl 3 rfl) ?_
                  refine lv_iload_n hx hb dX8_haste_74 rfl (lv_at hl 4 rfl) ?_
                  refine lv_iload hx hb dX8_haste_75 (lv_at hl 0 rfl) ?_
                  skip
                  refine zw_V (As := [.int 1, .int i_66]) (rest := []) (wr := [(mrf, .inl (cI, 8, .inl grf))]) ⟨hx, hb, hml, hown, hts⟩ (c_F_M_casesIn_1 l D cI cJ cZ cP cS po m0 mrf mki mpa mta mla msl mco mhe mso msi msh mce mca mwo mnu mte mwa mke mma mth mtr (npu) (nte) (nat_) (nde) (nto) (nse) (nhu) (nga) (nsd) (nfa) (nba) (npl) (nen) (nnu) (nwr) (nra) (nik) gki gpa gta (i_66) hy0 hy1 hy2 hy3 hy4 hy5 hy6 hy7 hy8 hy9 hy10 hy11 hy12 hy13 (by omega) (by omega) hy14 hy15 hp_gki hp_gpa hp_gta H.size) (cwV 2 hts gX8_haste_X8_casesIn rfl rfl rfl ⟨rfl, dh_X8_casesIn⟩ ⟨Nat.le_of_ble_eq_true rfl, Nat.le_of_ble_eq_true rfl⟩) hK hN (hZ.kept hS) hP hD hS hA [0, 2, 3, 4] [1] rfl rfl (by decide) (by decide) (by decide) (va_recv (q := (RX8, TX8, 38)) hK hP (ci := 8) (q0 := 0) rfl rfl) rfl hl.1 rfl (Nat.le_of_ble_eq_true rfl) dX8_haste_77 ⟨Nat.le_of_ble_eq_true rfl, Nat.le_of_ble_eq_true rfl⟩ (fun r_47 u_48 H locs hr_47 hP hD hS => ?_)
                  obtain ⟨hsr_47_0, hr_47⟩ := hr_47
                  have h9R := zRe (ws' := [(mrf, .inl (cI, 8, .inl grf)), (zMO m0 npu nte nat_ nde nto nse nhu nga nsd nfa mrf mki mpa mta mla msl mco mhe mso msi msh mce mca mwo mnu mte nba npl nen nnu nwr mwa mke mma mth mtr nra nik), (mki, .inl (cI, 8, .inl gki)), (mpa, .inl (cI, 8, .inl gpa)), (mta, .inl (cI, 8, .inl gta))]) hP hD rfl
                  clear hP hD
                  obtain ⟨hP, hD⟩ := h9R
                  obtain ⟨g_49, g_50⟩ := hr_47
                  refine lv_istore (lv' := [(6, .int r_47), (5, .int i_66), (4, .int v_44), (3, .int v_43), (0, .ref m0), (1, .int 1), (2, .int w)]) hx hb dX8_haste_80 hl (by decide) rfl (fun ls hl => ?_)
                  refine lv_iload hx hb dX8_haste_82 (lv_at hl 0 rfl) ?_
                  refine lv_iload hx hb dX8_haste_84 (lv_at hl 2 rfl) ?_
                  refine lv_icmp_gt (tgt := 92) hx hb dX8_haste_86 (by decide) (fun c_51 => ?_) (fun c_51 => ?_)
                  · have fc_51 : v_44.toInt < r_47.toInt := zf_lt c_51 rfl rfl
                    refine lv_iload hx hb dX8_haste_92 (lv_at hl 1 rfl) ?_
                    refine lv_istore_n (lv' := [(3, .int i_66), (6, .int r_47), (5, .int i_66), (4, .int v_44), (0, .ref m0), (1, .int 1), (2, .int w)]) hx hb dX8_haste_94 rfl hl (by decide) rfl (fun ls hl => ?_)
                    refine lv_iload hx hb dX8_haste_95 (lv_at hl 1 rfl) ?_
                    refine lv_istore (lv' := [(4, .int r_47), (3, .int i_66), (6, .int r_47), (5, .int i_66), (0, .ref m0), (1, .int 1), (2, .int w)]) hx hb dX8_haste_97 hl (by decide) rfl (fun ls hl => ?_)
                    obtain ⟨x_52, ex_52⟩ : ∃ y : Int32, y = i_66 + 1 := ⟨_, rfl⟩
                    have qx_52 : x_52.toInt = i_66.toInt + 1 := dw_incK ex_52 fc_46 (by decide)
                    refine lv_iinc (v := x_52) (lv' := [(5, .int x_52), (4, .int r_47), (3, .int i_66), (6, .int r_47), (0, .ref m0), (1, .int 1), (2, .int w)]) hx hb dX8_haste_99 hl (k := 3) rfl ex_52.symm (by decide) rfl (fun ls hl => ?_)
                    refine lv_goto (tgt := 66) hx hb dX8_haste_102 (by decide) ?_
                    exact ih x_52 i_66 r_47 _ _ _ (hP.sub [1, 0, 2, 3, 4] rfl) (hD.sub [1, 0, 2, 3, 4] (by decide) rfl) hS (lv_sub hl [0, 1, 2, 4, 5, 6] rfl) ⟨by omega, by omega⟩ ⟨by omega, by omega⟩ (show ((x_52.toInt = 0 ∧ (i_66 : Int32).toInt = 0 ∧ (r_47 : Int32).toInt = -1) ∨ (1 ≤ x_52.toInt ∧ (i_66 : Int32).toInt = (zHs (zHv gki gpa gta npu.toInt.toNat 1 nde.toInt nse.toInt) (x_52.toInt - 1).toNat : Nat) ∧ (r_47 : Int32).toInt = (zHv gki gpa gta npu.toInt.toNat 1 nde.toInt nse.toInt) (zHs (zHv gki gpa gta npu.toInt.toNat 1 nde.toInt nse.toInt) (x_52.toInt - 1).toNat))) from by (have y1 : (zHv gki gpa gta npu.toInt.toNat 1 nde.toInt nse.toInt) i_66.toInt.toNat = r_47.toInt := (by have z := hsr_47_0; unfold zHv; rw [show ((i_66.toInt.toNat : Nat) : Int) = i_66.toInt from by omega]; exact z.symm); have hx : (x_52.toInt - 1).toNat = i_66.toInt.toNat := (by omega); refine Or.inr ⟨by omega, ?_⟩; rw [hx]; rcases hvi_66_0 with ⟨w1, w2, w3⟩ | ⟨w1, w2, w3⟩; (have h0 : i_66.toInt.toNat = 0 := (by omega); rw [h0] at y1 ⊢; first | (exact ⟨by (show _ = ((0 : Nat) : Int); omega), y1.symm⟩) | (exfalso; omega)); (have h1 : i_66.toInt.toNat = (i_66.toInt - 1).toNat + 1 := (by omega); rw [h1] at y1 ⊢; rw [zHs_s, y1, ← w3]; first | (rw [if_pos (by omega)]; exact ⟨by omega, y1.symm⟩) | (rw [if_neg (by omega)]; exact ⟨w2, w3⟩)))) (show x_52.toInt ≤ 10 from by omega) (dw_lo hloi_66 qx_52) (dw_hn hni_66 qx_52)
                  · have fc_51 : r_47.toInt ≤ v_44.toInt := zf_nlt c_51 rfl rfl
                    refine lv_goto (tgt := 99) hx hb dX8_haste_89 (by decide) ?_
                    obtain ⟨x_53, ex_53⟩ : ∃ y : Int32, y = i_66 + 1 := ⟨_, rfl⟩
                    have qx_53 : x_53.toInt = i_66.toInt + 1 := dw_incK ex_53 fc_46 (by decide)
                    refine lv_iinc (v := x_53) (lv' := [(5, .int x_53), (6, .int r_47), (4, .int v_44), (3, .int v_43), (0, .ref m0), (1, .int 1), (2, .int w)]) hx hb dX8_haste_99 hl (k := 1) rfl ex_53.symm (by decide) rfl (fun ls hl => ?_)
                    refine lv_goto (tgt := 66) hx hb dX8_haste_102 (by decide) ?_
                    exact ih x_53 v_43 v_44 _ _ _ (hP.sub [1, 0, 2, 3, 4] rfl) (hD.sub [1, 0, 2, 3, 4] (by decide) rfl) hS (lv_sub hl [0, 2, 3, 4, 5, 6] rfl) hbv_43 hbv_44 (show ((x_53.toInt = 0 ∧ (v_43 : Int32).toInt = 0 ∧ (v_44 : Int32).toInt = -1) ∨ (1 ≤ x_53.toInt ∧ (v_43 : Int32).toInt = (zHs (zHv gki gpa gta npu.toInt.toNat 1 nde.toInt nse.toInt) (x_53.toInt - 1).toNat : Nat) ∧ (v_44 : Int32).toInt = (zHv gki gpa gta npu.toInt.toNat 1 nde.toInt nse.toInt) (zHs (zHv gki gpa gta npu.toInt.toNat 1 nde.toInt nse.toInt) (x_53.toInt - 1).toNat))) from by (have y1 : (zHv gki gpa gta npu.toInt.toNat 1 nde.toInt nse.toInt) i_66.toInt.toNat = r_47.toInt := (by have z := hsr_47_0; unfold zHv; rw [show ((i_66.toInt.toNat : Nat) : Int) = i_66.toInt from by omega]; exact z.symm); have hx : (x_53.toInt - 1).toNat = i_66.toInt.toNat := (by omega); refine Or.inr ⟨by omega, ?_⟩; rw [hx]; rcases hvi_66_0 with ⟨w1, w2, w3⟩ | ⟨w1, w2, w3⟩; (have h0 : i_66.toInt.toNat = 0 := (by omega); rw [h0] at y1 ⊢; first | (exact ⟨by (show _ = ((0 : Nat) : Int); omega), y1.symm⟩) | (exfalso; omega)); (have h1 : i_66.toInt.toNat = (i_66.toInt - 1).toNat + 1 := (by omega); rw [h1] at y1 ⊢; rw [zHs_s, y1, ← w3]; first | (rw [if_pos (by omega)]; exact ⟨by omega, y1.symm⟩) | (rw [if_neg (by omega)]; exact ⟨w2, w3⟩)))) (show x_53.toInt ≤ 10 from by omega) (dw_lo hloi_66 qx_53) (dw_hn hni_66 qx_53)
            · have fc_42 : w.toInt = 1 := zf_eq c_42 rfl (by decide)
              refine lv_aload_n hx hb dX8_haste_36 rfl (lv_at hl 0 rfl) ?_
              refine lv_iload_n hx hb dX8_haste_37 rfl (lv_at hl 1 rfl) ?_
              refine lv_bipush (v := 9) hx hb dX8_haste_38 (by decide) ?_
              have kc9 : (9 : Int32).toInt = 9 := by decide
              skip
              refine zw_V (As := [.int 1, .int 9]) (rest := []) (wr := [(mrf, .inl (cI, 8, .inl grf))]) ⟨hx, hb, hml, hown, hts⟩ (c_F_M_casesIn_1 l D cI cJ cZ cP cS po m0 mrf mki mpa mta mla msl mco mhe mso msi msh mce mca mwo mnu mte mwa mke mma mth mtr (npu) (nte) (nat_) (nde) (nto) (nse) (nhu) (nga) (nsd) (nfa) (nba) (npl) (nen) (nnu) (nwr) (nra) (nik) gki gpa gta (9) hy0 hy1 hy2 hy3 hy4 hy5 hy6 hy7 hy8 hy9 hy10 hy11 hy12 hy13 (by omega) (by omega) hy14 hy15 hp_gki hp_gpa hp_gta H.size) (cwV 2 hts gX8_haste_X8_casesIn rfl rfl rfl ⟨rfl, dh_X8_casesIn⟩ ⟨Nat.le_of_ble_eq_true rfl, Nat.le_of_ble_eq_true rfl⟩) hK hN (hZ.kept hS) hP hD hS hA [0, 2, 3, 4] [1] rfl rfl (by decide) (by decide) (by decide) (va_recv (q := (RX8, TX8, 38)) hK hP (ci := 8) (q0 := 0) rfl rfl) rfl hl.1 rfl (Nat.le_of_ble_eq_true rfl) dX8_haste_40 ⟨Nat.le_of_ble_eq_true rfl, Nat.le_of_ble_eq_true rfl⟩ (fun r_54 u_55 H locs hr_54 hP hD hS => ?_)
              obtain ⟨hsr_54_0, hr_54⟩ := hr_54
              have h9R := zRe (ws' := [(mrf, .inl (cI, 8, .inl grf)), (zMO m0 npu nte nat_ nde nto nse nhu nga nsd nfa mrf mki mpa mta mla msl mco mhe mso msi msh mce mca mwo mnu mte nba npl nen nnu nwr mwa mke mma mth mtr nra nik), (mki, .inl (cI, 8, .inl gki)), (mpa, .inl (cI, 8, .inl gpa)), (mta, .inl (cI, 8, .inl gta))]) hP hD rfl
              clear hP hD
              obtain ⟨hP, hD⟩ := h9R
              obtain ⟨g_56, g_57⟩ := hr_54
              refine lv_aload_n hx hb dX8_haste_43 rfl (lv_at hl 0 rfl) ?_
              refine lv_iload_n hx hb dX8_haste_44 rfl (lv_at hl 1 rfl) ?_
              refine lv_iconst (v := 0) hx hb dX8_haste_45 (by decide) ?_
              have kc0 : (0 : Int32).toInt = 0 := by decide
              skip
              refine zw_V (As := [.int 1, .int 0]) (rest := [.int r_54]) (wr := [(mrf, .inl (cI, 8, .inl grf))]) ⟨hx, hb, hml, hown, hts⟩ (c_F_M_casesIn_1 l D cI cJ cZ cP cS po m0 mrf mki mpa mta mla msl mco mhe mso msi msh mce mca mwo mnu mte mwa mke mma mth mtr (npu) (nte) (nat_) (nde) (nto) (nse) (nhu) (nga) (nsd) (nfa) (nba) (npl) (nen) (nnu) (nwr) (nra) (nik) gki gpa gta (0) hy0 hy1 hy2 hy3 hy4 hy5 hy6 hy7 hy8 hy9 hy10 hy11 hy12 hy13 (by omega) (by omega) hy14 hy15 hp_gki hp_gpa hp_gta H.size) (cwV 2 hts gX8_haste_X8_casesIn rfl rfl rfl ⟨rfl, dh_X8_casesIn⟩ ⟨Nat.le_of_ble_eq_true rfl, Nat.le_of_ble_eq_true rfl⟩) hK hN (hZ.kept hS) hP hD hS hA [1, 2, 3, 4] [0] rfl rfl (by decide) (by decide) (by decide) (va_recv (q := (RX8, TX8, 38)) hK hP (ci := 8) (q0 := 1) rfl rfl) rfl hl.1 rfl (Nat.le_of_ble_eq_true rfl) dX8_haste_46 ⟨Nat.le_of_ble_eq_true rfl, Nat.le_of_ble_eq_true rfl⟩ (fun r_58 u_59 H locs hr_58 hP hD hS => ?_)
              obtain ⟨hsr_58_0, hr_58⟩ := hr_58
              have h9R := zRe (ws' := [(mrf, .inl (cI, 8, .inl grf)), (zMO m0 npu nte nat_ nde nto nse nhu nga nsd nfa mrf mki mpa mta mla msl mco mhe mso msi msh mce mca mwo mnu mte nba npl nen nnu nwr mwa mke mma mth mtr nra nik), (mki, .inl (cI, 8, .inl gki)), (mpa, .inl (cI, 8, .inl gpa)), (mta, .inl (cI, 8, .inl gta))]) hP hD rfl
              clear hP hD
              obtain ⟨hP, hD⟩ := h9R
              obtain ⟨g_60, g_61⟩ := hr_58
              refine lv_icmp_ge (tgt := 56) hx hb dX8_haste_49 (by decide) (fun c_62 => ?_) (fun c_62 => ?_)
              · have fc_62 : r_58.toInt ≤ r_54.toInt := zf_le c_62 rfl rfl
                refine lv_iconst (v := 0) hx hb dX8_haste_56 (by decide) ?_
                exact W.iret (v := 0) hx hb hr (fun t ht hW => ⟨⟨0, grf, rfl, ⟨(show ((w.toInt < 0 ∨ 1 < w.toInt) ∧ (0 : Int32).toInt = -5) ∨ ((0 ≤ w.toInt ∧ w.toInt ≤ 1) ∧ ((((1 : Int32).toInt < 0 ∨ 4 < (1 : Int32).toInt) ∧ (0 : Int32).toInt = -6) ∨ ((0 ≤ (1 : Int32).toInt ∧ (1 : Int32).toInt ≤ 4) ∧ ((w.toInt = 1 ∧ (0 : Int32).toInt = (if (zHv gki gpa gta npu.toInt.toNat (1 : Int32).toInt.toNat nde.toInt nse.toInt) 9 < (zHv gki gpa gta npu.toInt.toNat (1 : Int32).toInt.toNat nde.toInt nse.toInt) 0 then 1 else 0)) ∨ (w.toInt = 0 ∧ (0 : Int32).toInt = (zHs (zHv gki gpa gta npu.toInt.toNat (1 : Int32).toInt.toNat nde.toInt nse.toInt) 9 : Nat)))))) from by (have k0 : (0 : Int32).toInt = 0 := (by decide); have k1 : (1 : Int32).toInt = 1 := (by decide); have k9 : (0 : Int32).toInt = 0 := (by decide); have k9_ : (9 : Int32).toInt = 9 := (by decide); have k0_ : (0 : Int32).toInt = 0 := (by decide); refine Or.inr ⟨by omega, Or.inr ⟨by omega, Or.inl ⟨by omega, (by rw [show (1 : Int32).toInt.toNat = 1 from by decide]; have z1 := hsr_54_0; have z2 := hsr_58_0; rw [k9_] at z1; rw [k0_] at z2; have y1 : (zHv gki gpa gta npu.toInt.toNat 1 nde.toInt nse.toInt) 9 = r_54.toInt := z1.symm; have y2 : (zHv gki gpa gta npu.toInt.toNat 1 nde.toInt nse.toInt) 0 = r_58.toInt := z2.symm; rw [y1, y2]; first | (rw [if_neg (by omega)]; omega) | (rw [if_pos (by omega)]; omega))⟩⟩⟩)), trivial⟩, zRet ht hP hD [1, 0, 2, 3, 4] (by decide) rfl⟩, hS.F ht⟩) hS.2.2 dX8_haste_57
              · have fc_62 : r_54.toInt < r_58.toInt := zf_nle c_62 rfl rfl
                refine lv_iconst (v := 1) hx hb dX8_haste_52 (by decide) ?_
                refine lv_goto (tgt := 57) hx hb dX8_haste_53 (by decide) ?_
                exact W.iret (v := 1) hx hb hr (fun t ht hW => ⟨⟨1, grf, rfl, ⟨(show ((w.toInt < 0 ∨ 1 < w.toInt) ∧ (1 : Int32).toInt = -5) ∨ ((0 ≤ w.toInt ∧ w.toInt ≤ 1) ∧ ((((1 : Int32).toInt < 0 ∨ 4 < (1 : Int32).toInt) ∧ (1 : Int32).toInt = -6) ∨ ((0 ≤ (1 : Int32).toInt ∧ (1 : Int32).toInt ≤ 4) ∧ ((w.toInt = 1 ∧ (1 : Int32).toInt = (if (zHv gki gpa gta npu.toInt.toNat (1 : Int32).toInt.toNat nde.toInt nse.toInt) 9 < (zHv gki gpa gta npu.toInt.toNat (1 : Int32).toInt.toNat nde.toInt nse.toInt) 0 then 1 else 0)) ∨ (w.toInt = 0 ∧ (1 : Int32).toInt = (zHs (zHv gki gpa gta npu.toInt.toNat (1 : Int32).toInt.toNat nde.toInt nse.toInt) 9 : Nat)))))) from by (have k1 : (1 : Int32).toInt = 1 := (by decide); have k9 : (1 : Int32).toInt = 1 := (by decide); have k9_ : (9 : Int32).toInt = 9 := (by decide); have k0_ : (0 : Int32).toInt = 0 := (by decide); refine Or.inr ⟨by omega, Or.inr ⟨by omega, Or.inl ⟨by omega, (by rw [show (1 : Int32).toInt.toNat = 1 from by decide]; have z1 := hsr_54_0; have z2 := hsr_58_0; rw [k9_] at z1; rw [k0_] at z2; have y1 : (zHv gki gpa gta npu.toInt.toNat 1 nde.toInt nse.toInt) 9 = r_54.toInt := z1.symm; have y2 : (zHv gki gpa gta npu.toInt.toNat 1 nde.toInt nse.toInt) 0 = r_58.toInt := z2.symm; rw [y1, y2]; first | (rw [if_pos (by omega)]; omega) | (rw [if_neg (by omega)]; omega))⟩⟩⟩)), trivial⟩, zRet ht hP hD [1, 0, 2, 3, 4] (by decide) rfl⟩, hS.F ht⟩) hS.2.2 dX8_haste_57
          · have kc2 : (2 : Int32).toInt = 2 := by decide
            refine lv_iload_n hx hb dX8_haste_31 rfl (lv_at hl 2 rfl) ?_
            refine lv_iconst (v := 1) hx hb dX8_haste_32 (by decide) ?_
            refine lv_icmp_ne (tgt := 58) hx hb dX8_haste_33 (by decide) (fun c_63 => ?_) (fun c_63 => ?_)
            · have fc_63 : w.toInt ≠ 1 := zf_ne c_63 rfl (by decide)
              refine lv_iconst (v := 0) hx hb dX8_haste_58 (by decide) ?_
              refine lv_istore_n (lv' := [(3, .int 0), (0, .ref m0), (1, .int 2), (2, .int w)]) hx hb dX8_haste_59 rfl hl (by decide) rfl (fun ls hl => ?_)
              refine lv_iconst (v := (-1)) hx hb dX8_haste_60 (by decide) ?_
              refine lv_istore (lv' := [(4, .int (-1)), (3, .int 0), (0, .ref m0), (1, .int 2), (2, .int w)]) hx hb dX8_haste_61 hl (by decide) rfl (fun ls hl => ?_)
              refine lv_iconst (v := 0) hx hb dX8_haste_63 (by decide) ?_
              refine lv_istore (lv' := [(5, .int 0), (4, .int (-1)), (3, .int 0), (0, .ref m0), (1, .int 2), (2, .int w)]) hx hb dX8_haste_64 hl (by decide) rfl (fun ls hl => ?_)
              obtain ⟨i_66, hi_66⟩ : ∃ i : Int32, i = 0 := ⟨_, rfl⟩
              replace hl : lv_has ls 7 [(5, .int i_66), (4, .int (-1)), (3, .int 0), (0, .ref m0), (1, .int 2), (2, .int w)] := by rw [hi_66]; exact lv_sub hl [0, 1, 2, 3, 4, 5] rfl
              have h1i_66 : i_66.toInt = 0 := by rw [hi_66]; decide
              obtain ⟨nfu, hni_66⟩ : ∃ nq9 : Nat, 10 ≤ i_66.toInt + (nq9 : Int) := ⟨((10 : Int) - 0).toNat, by omega⟩
              have hloi_66 : 0 ≤ i_66.toInt := by omega
              obtain ⟨v_64, hv_64⟩ : ∃ g : Int32, g = 0 := ⟨_, rfl⟩
              obtain ⟨v_65, hv_65⟩ : ∃ g : Int32, g = (-1) := ⟨_, rfl⟩
              replace hl : lv_has ls 7 [(5, .int i_66), (4, .int v_65), (3, .int v_64), (0, .ref m0), (1, .int 2), (2, .int w)] := by rw [hv_64, hv_65]; exact hl
              have hbv_64 : 0 ≤ v_64.toInt ∧ v_64.toInt ≤ 9 := by rw [hv_64]; exact ⟨by decide, by decide⟩
              have hbv_65 : -1 ≤ v_65.toInt ∧ v_65.toInt ≤ 20736 := by rw [hv_65]; exact ⟨by decide, by decide⟩
              have hvi_66_0 : ((i_66.toInt = 0 ∧ (v_64 : Int32).toInt = 0 ∧ (v_65 : Int32).toInt = -1) ∨ (1 ≤ i_66.toInt ∧ (v_64 : Int32).toInt = (zHs (zHv gki gpa gta npu.toInt.toNat 2 nde.toInt nse.toInt) (i_66.toInt - 1).toNat : Nat) ∧ (v_65 : Int32).toInt = (zHv gki gpa gta npu.toInt.toNat 2 nde.toInt nse.toInt) (zHs (zHv gki gpa gta npu.toInt.toNat 2 nde.toInt nse.toInt) (i_66.toInt - 1).toNat))) := by
                (try rw [hi_66]); (try rw [hv_64]); (try rw [hv_65]); (exact Or.inl ⟨by decide, by decide, by decide⟩)
              have hvi_66_1 : i_66.toInt ≤ 10 := by
                (try rw [hi_66]); (try rw [hv_64]); (try rw [hv_65]); (have k0 : (0 : Int32).toInt = 0 := (by decide); omega)
              clear h1i_66 hi_66 hv_64 hv_65
              skip
              revert hni_66
              revert hloi_66
              revert hvi_66_1
              revert hvi_66_0
              revert hbv_65
              revert hbv_64
              revert hl
              revert hS
              revert hD
              revert hP
              revert ls
              revert locs
              revert H
              revert v_65
              revert v_64
              revert i_66
              induction nfu with
              | zero =>
                intro i_66 v_64 v_65 H locs ls hP hD hS hl hbv_64 hbv_65 hvi_66_0 hvi_66_1 hloi_66 hni_66
                have hzi_66 : 10 ≤ i_66.toInt := by omega
                refine lv_iload hx hb dX8_haste_66 (lv_at hl 0 rfl) ?_
                refine lv_bipush (v := 10) hx hb dX8_haste_68 (by decide) ?_
                refine lv_icmp_ge (tgt := 105) hx hb dX8_haste_70 (by decide) (fun c_66 => ?_) (fun c_66 => ?_)
                · have fc_66 : 10 ≤ i_66.toInt := zf_le c_66 (by decide) rfl
                  refine lv_iload_n hx hb dX8_haste_105 rfl (lv_at hl 2 rfl) ?_
                  exact W.iret (v := v_64) hx hb hr (fun t ht hW => ⟨⟨v_64, grf, rfl, ⟨(show ((w.toInt < 0 ∨ 1 < w.toInt) ∧ (v_64 : Int32).toInt = -5) ∨ ((0 ≤ w.toInt ∧ w.toInt ≤ 1) ∧ ((((2 : Int32).toInt < 0 ∨ 4 < (2 : Int32).toInt) ∧ (v_64 : Int32).toInt = -6) ∨ ((0 ≤ (2 : Int32).toInt ∧ (2 : Int32).toInt ≤ 4) ∧ ((w.toInt = 1 ∧ (v_64 : Int32).toInt = (if (zHv gki gpa gta npu.toInt.toNat (2 : Int32).toInt.toNat nde.toInt nse.toInt) 9 < (zHv gki gpa gta npu.toInt.toNat (2 : Int32).toInt.toNat nde.toInt nse.toInt) 0 then 1 else 0)) ∨ (w.toInt = 0 ∧ (v_64 : Int32).toInt = (zHs (zHv gki gpa gta npu.toInt.toNat (2 : Int32).toInt.toNat nde.toInt nse.toInt) 9 : Nat)))))) from by (have k2 : (2 : Int32).toInt = 2 := (by decide); have k9_ : (9 : Int32).toInt = 9 := (by decide); have k0_ : (0 : Int32).toInt = 0 := (by decide); refine Or.inr ⟨by omega, Or.inr ⟨by omega, Or.inr ⟨by omega, (by rw [show (2 : Int32).toInt.toNat = 2 from by decide]; rcases hvi_66_0 with z | ⟨z1, z2, -⟩; (exfalso; omega); (have h9 : (i_66.toInt - 1).toNat = 9 := (by omega); rw [h9] at z2; exact z2))⟩⟩⟩)), trivial⟩, zRet ht hP hD [0, 1, 2, 3, 4] (by decide) rfl⟩, hS.F ht⟩) hS.2.2 dX8_haste_106
                · exfalso; have fc_66 : i_66.toInt < 10 := zf_nle c_66 (by decide) rfl; omega
              | succ nfu ih =>
                intro i_66 v_64 v_65 H locs ls hP hD hS hl hbv_64 hbv_65 hvi_66_0 hvi_66_1 hloi_66 hni_66
                refine lv_iload hx hb dX8_haste_66 (lv_at hl 0 rfl) ?_
                refine lv_bipush (v := 10) hx hb dX8_haste_68 (by decide) ?_
                refine lv_icmp_ge (tgt := 105) hx hb dX8_haste_70 (by decide) (fun c_67 => ?_) (fun c_67 => ?_)
                · have fc_67 : 10 ≤ i_66.toInt := zf_le c_67 (by decide) rfl
                  refine lv_iload_n hx hb dX8_haste_105 rfl (lv_at hl 2 rfl) ?_
                  exact W.iret (v := v_64) hx hb hr (fun t ht hW => ⟨⟨v_64, grf, rfl, ⟨(show ((w.toInt < 0 ∨ 1 < w.toInt) ∧ (v_64 : Int32).toInt = -5) ∨ ((0 ≤ w.toInt ∧ w.toInt ≤ 1) ∧ ((((2 : Int32).toInt < 0 ∨ 4 < (2 : Int32).toInt) ∧ (v_64 : Int32).toInt = -6) ∨ ((0 ≤ (2 : Int32).toInt ∧ (2 : Int32).toInt ≤ 4) ∧ ((w.toInt = 1 ∧ (v_64 : Int32).toInt = (if (zHv gki gpa gta npu.toInt.toNat (2 : Int32).toInt.toNat nde.toInt nse.toInt) 9 < (zHv gki gpa gta npu.toInt.toNat (2 : Int32).toInt.toNat nde.toInt nse.toInt) 0 then 1 else 0)) ∨ (w.toInt = 0 ∧ (v_64 : Int32).toInt = (zHs (zHv gki gpa gta npu.toInt.toNat (2 : Int32).toInt.toNat nde.toInt nse.toInt) 9 : Nat)))))) from by (have k2 : (2 : Int32).toInt = 2 := (by decide); have k9_ : (9 : Int32).toInt = 9 := (by decide); have k0_ : (0 : Int32).toInt = 0 := (by decide); refine Or.inr ⟨by omega, Or.inr ⟨by omega, Or.inr ⟨by omega, (by rw [show (2 : Int32).toInt.toNat = 2 from by decide]; rcases hvi_66_0 with z | ⟨z1, z2, -⟩; (exfalso; omega); (have h9 : (i_66.toInt - 1).toNat = 9 := (by omega); rw [h9] at z2; exact z2))⟩⟩⟩)), trivial⟩, zRet ht hP hD [0, 1, 2, 3, 4] (by decide) rfl⟩, hS.F ht⟩) hS.2.2 dX8_haste_106
                · have fc_67 : i_66.toInt < 10 := zf_nle c_67 (by decide) rfl
                  refine lv_aload_n hx hb dX8_haste_73 rfl (lv_at hl 3 rfl) ?_
                  refine lv_iload_n hx hb dX8_haste_74 rfl (lv_at hl 4 rfl) ?_
                  refine lv_iload hx hb dX8_haste_75 (lv_at hl 0 rfl) ?_
                  skip
                  refine zw_V (As := [.int 2, .int i_66]) (rest := []) (wr := [(mrf, .inl (cI, 8, .inl grf))]) ⟨hx, hb, hml, hown, hts⟩ (c_F_M_casesIn_2 l D cI cJ cZ cP cS po m0 mrf mki mpa mta mla msl mco mhe mso msi msh mce mca mwo mnu mte mwa mke mma mth mtr (npu) (nte) (nat_) (nde) (nto) (nse) (nhu) (nga) (nsd) (nfa) (nba) (npl) (nen) (nnu) (nwr) (nra) (nik) gki gpa gta (i_66) hy0 hy1 hy2 hy3 hy4 hy5 hy6 hy7 hy8 hy9 hy10 hy11 hy12 hy13 (by omega) (by omega) hy14 hy15 hp_gki hp_gpa hp_gta H.size) (cwV 2 hts gX8_haste_X8_casesIn rfl rfl rfl ⟨rfl, dh_X8_casesIn⟩ ⟨Nat.le_of_ble_eq_true rfl, Nat.le_of_ble_eq_true rfl⟩) hK hN (hZ.kept hS) hP hD hS hA [0, 2, 3, 4] [1] rfl rfl (by decide) (by decide) (by decide) (va_recv (q := (RX8, TX8, 38)) hK hP (ci := 8) (q0 := 0) rfl rfl) rfl hl.1 rfl (Nat.le_of_ble_eq_true rfl) dX8_haste_77 ⟨Nat.le_of_ble_eq_true rfl, Nat.le_of_ble_eq_true rfl⟩ (fun r_68 u_69 H locs hr_68 hP hD hS => ?_)
                  obtain ⟨hsr_68_0, hr_68⟩ := hr_68
                  have h9R := zRe (ws' := [(mrf, .inl (cI, 8, .inl grf)), (zMO m0 npu nte nat_ nde nto nse nhu nga nsd nfa mrf mki mpa mta mla msl mco mhe mso msi msh mce mca mwo mnu mte nba npl nen nnu nwr mwa mke mma mth mtr nra nik), (mki, .inl (cI, 8, .inl gki)), (mpa, .inl (cI, 8, .inl gpa)), (mta, .inl (cI, 8, .inl gta))]) hP hD rfl
                  clear hP hD
                  obtain ⟨hP, hD⟩ := h9R
                  obtain ⟨g_70, g_71⟩ := hr_68
                  refine lv_istore (lv' := [(6, .int r_68), (5, .int i_66), (4, .int v_65), (3, .int v_64), (0, .ref m0), (1, .int 2), (2, .int w)]) hx hb dX8_haste_80 hl (by decide) rfl (fun ls hl => ?_)
                  refine lv_iload hx hb dX8_haste_82 (lv_at hl 0 rfl) ?_
                  refine lv_iload hx hb dX8_haste_84 (lv_at hl 2 rfl) ?_
                  refine lv_icmp_gt (tgt := 92) hx hb dX8_haste_86 (by decide) (fun c_72 => ?_) (fun c_72 => ?_)
                  · have fc_72 : v_65.toInt < r_68.toInt := zf_lt c_72 rfl rfl
                    refine lv_iload hx hb dX8_haste_92 (lv_at hl 1 rfl) ?_
                    refine lv_istore_n (lv' := [(3, .int i_66), (6, .int r_68), (5, .int i_66), (4, .int v_65), (0, .ref m0), (1, .int 2), (2, .int w)]) hx hb dX8_haste_94 rfl hl (by decide) rfl (fun ls hl => ?_)
                    refine lv_iload hx hb dX8_haste_95 (lv_at hl 1 rfl) ?_
                    refine lv_istore (lv' := [(4, .int r_68), (3, .int i_66), (6, .int r_68), (5, .int i_66), (0, .ref m0), (1, .int 2), (2, .int w)]) hx hb dX8_haste_97 hl (by decide) rfl (fun ls hl => ?_)
                    obtain ⟨x_73, ex_73⟩ : ∃ y : Int32, y = i_66 + 1 := ⟨_, rfl⟩
                    have qx_73 : x_73.toInt = i_66.toInt + 1 := dw_incK ex_73 fc_67 (by decide)
                    refine lv_iinc (v := x_73) (lv' := [(5, .int x_73), (4, .int r_68), (3, .int i_66), (6, .int r_68), (0, .ref m0), (1, .int 2), (2, .int w)]) hx hb dX8_haste_99 hl (k := 3) rfl ex_73.symm (by decide) rfl (fun ls hl => ?_)
                    refine lv_goto (tgt := 66) hx hb dX8_haste_102 (by decide) ?_
                    exact ih x_73 i_66 r_68 _ _ _ (hP.sub [1, 0, 2, 3, 4] rfl) (hD.sub [1, 0, 2, 3, 4] (by decide) rfl) hS (lv_sub hl [0, 1, 2, 4, 5, 6] rfl) ⟨by omega, by omega⟩ ⟨by omega, by omega⟩ (show ((x_73.toInt = 0 ∧ (i_66 : Int32).toInt = 0 ∧ (r_68 : Int32).toInt = -1) ∨ (1 ≤ x_73.toInt ∧ (i_66 : Int32).toInt = (zHs (zHv gki gpa gta npu.toInt.toNat 2 nde.toInt nse.toInt) (x_73.toInt - 1).toNat : Nat) ∧ (r_68 : Int32).toInt = (zHv gki gpa gta npu.toInt.toNat 2 nde.toInt nse.toInt) (zHs (zHv gki gpa gta npu.toInt.toNat 2 nde.toInt nse.toInt) (x_73.toInt - 1).toNat))) from by (have y1 : (zHv gki gpa gta npu.toInt.toNat 2 nde.toInt nse.toInt) i_66.toInt.toNat = r_68.toInt := (by have z := hsr_68_0; unfold zHv; rw [show ((i_66.toInt.toNat : Nat) : Int) = i_66.toInt from by omega]; exact z.symm); have hx : (x_73.toInt - 1).toNat = i_66.toInt.toNat := (by omega); refine Or.inr ⟨by omega, ?_⟩; rw [hx]; rcases hvi_66_0 with ⟨w1, w2, w3⟩ | ⟨w1, w2, w3⟩; (have h0 : i_66.toInt.toNat = 0 := (by omega); rw [h0] at y1 ⊢; first | (exact ⟨by (show _ = ((0 : Nat) : Int); omega), y1.symm⟩) | (exfalso; omega)); (have h1 : i_66.toInt.toNat = (i_66.toInt - 1).toNat + 1 := (by omega); rw [h1] at y1 ⊢; rw [zHs_s, y1, ← w3]; first | (rw [if_pos (by omega)]; exact ⟨by omega, y1.symm⟩) | (rw [if_neg (by omega)]; exact ⟨w2, w3⟩)))) (show x_73.toInt ≤ 10 from by omega) (dw_lo hloi_66 qx_73) (dw_hn hni_66 qx_73)
                  · have fc_72 : r_68.toInt ≤ v_65.toInt := zf_nlt c_72 rfl rfl
                    refine lv_goto (tgt := 99) hx hb dX8_haste_89 (by decide) ?_
                    obtain ⟨x_74, ex_74⟩ : ∃ y : Int32, y = i_66 + 1 := ⟨_, rfl⟩
                    have qx_74 : x_74.toInt = i_66.toInt + 1 := dw_incK ex_74 fc_67 (by decide)
                    refine lv_iinc (v := x_74) (lv' := [(5, .int x_74), (6, .int r_68), (4, .int v_65), (3, .int v_64), (0, .ref m0), (1, .int 2), (2, .int w)]) hx hb dX8_haste_99 hl (k := 1) rfl ex_74.symm (by decide) rfl (fun ls hl => ?_)
                    refine lv_goto (tgt := 66) hx hb dX8_haste_102 (by decide) ?_
                    exact ih x_74 v_64 v_65 _ _ _ (hP.sub [1, 0, 2, 3, 4] rfl) (hD.sub [1, 0, 2, 3, 4] (by decide) rfl) hS (lv_sub hl [0, 2, 3, 4, 5, 6] rfl) hbv_64 hbv_65 (show ((x_74.toInt = 0 ∧ (v_64 : Int32).toInt = 0 ∧ (v_65 : Int32).toInt = -1) ∨ (1 ≤ x_74.toInt ∧ (v_64 : Int32).toInt = (zHs (zHv gki gpa gta npu.toInt.toNat 2 nde.toInt nse.toInt) (x_74.toInt - 1).toNat : Nat) ∧ (v_65 : Int32).toInt = (zHv gki gpa gta npu.toInt.toNat 2 nde.toInt nse.toInt) (zHs (zHv gki gpa gta npu.toInt.toNat 2 nde.toInt nse.toInt) (x_74.toInt - 1).toNat))) from by (have y1 : (zHv gki gpa gta npu.toInt.toNat 2 nde.toInt nse.toInt) i_66.toInt.toNat = r_68.toInt := (by have z := hsr_68_0; unfold zHv; rw [show ((i_66.toInt.toNat : Nat) : Int) = i_66.toInt from by omega]; exact z.symm); have hx : (x_74.toInt - 1).toNat = i_66.toInt.toNat := (by omega); refine Or.inr ⟨by omega, ?_⟩; rw [hx]; rcases hvi_66_0 with ⟨w1, w2, w3⟩ | ⟨w1, w2, w3⟩; (have h0 : i_66.toInt.toNat = 0 := (by omega); rw [h0] at y1 ⊢; first | (exact ⟨by (show _ = ((0 : Nat) : Int); omega), y1.symm⟩) | (exfalso; omega)); (have h1 : i_66.toInt.toNat = (i_66.toInt - 1).toNat + 1 := (by omega); rw [h1] at y1 ⊢; rw [zHs_s, y1, ← w3]; first | (rw [if_pos (by omega)]; exact ⟨by omega, y1.symm⟩) | (rw [if_neg (by omega)]; exact ⟨w2, w3⟩)))) (show x_74.toInt ≤ 10 from by omega) (dw_lo hloi_66 qx_74) (dw_hn hni_66 qx_74)
            · have fc_63 : w.toInt = 1 := zf_eq c_63 rfl (by decide)
              refine lv_aload_n hx hb dX8_haste_36 rfl (lv_at hl 0 rfl) ?_
              refine lv_iload_n hx hb dX8_haste_37 rfl (lv_at hl 1 rfl) ?_
              refine lv_bipush (v := 9) hx hb dX8_haste_38 (by decide) ?_
              have kc9 : (9 : Int32).toInt = 9 := by decide
              skip
              refine zw_V (As := [.int 2, .int 9]) (rest := []) (wr := [(mrf, .inl (cI, 8, .inl grf))]) ⟨hx, hb, hml, hown, hts⟩ (c_F_M_casesIn_2 l D cI cJ cZ cP cS po m0 mrf mki mpa mta mla msl mco mhe mso msi msh mce mca mwo mnu mte mwa mke mma mth mtr (npu) (nte) (nat_) (nde) (nto) (nse) (nhu) (nga) (nsd) (nfa) (nba) (npl) (nen) (nnu) (nwr) (nra) (nik) gki gpa gta (9) hy0 hy1 hy2 hy3 hy4 hy5 hy6 hy7 hy8 hy9 hy10 hy11 hy12 hy13 (by omega) (by omega) hy14 hy15 hp_gki hp_gpa hp_gta H.size) (cwV 2 hts gX8_haste_X8_casesIn rfl rfl rfl ⟨rfl, dh_X8_casesIn⟩ ⟨Nat.le_of_ble_eq_true rfl, Nat.le_of_ble_eq_true rfl⟩) hK hN (hZ.kept hS) hP hD hS hA [0, 2, 3, 4] [1] rfl rfl (by decide) (by decide) (by decide) (va_recv (q := (RX8, TX8, 38)) hK hP (ci := 8) (q0 := 0) rfl rfl) rfl hl.1 rfl (Nat.le_of_ble_eq_true rfl) dX8_haste_40 ⟨Nat.le_of_ble_eq_true rfl, Nat.le_of_ble_eq_true rfl⟩ (fun r_75 u_76 H locs hr_75 hP hD hS => ?_)
              obtain ⟨hsr_75_0, hr_75⟩ := hr_75
              have h9R := zRe (ws' := [(mrf, .inl (cI, 8, .inl grf)), (zMO m0 npu nte nat_ nde nto nse nhu nga nsd nfa mrf mki mpa mta mla msl mco mhe mso msi msh mce mca mwo mnu mte nba npl nen nnu nwr mwa mke mma mth mtr nra nik), (mki, .inl (cI, 8, .inl gki)), (mpa, .inl (cI, 8, .inl gpa)), (mta, .inl (cI, 8, .inl gta))]) hP hD rfl
              clear hP hD
              obtain ⟨hP, hD⟩ := h9R
              obtain ⟨g_77, g_78⟩ := hr_75
              refine lv_aload_n hx hb dX8_haste_43 rfl (lv_at hl 0 rfl) ?_
              refine lv_iload_n hx hb dX8_haste_44 rfl (lv_at hl 1 rfl) ?_
              refine lv_iconst (v := 0) hx hb dX8_haste_45 (by decide) ?_
              have kc0 : (0 : Int32).toInt = 0 := by decide
              skip
              refine zw_V (As := [.int 2, .int 0]) (rest := [.int r_75]) (wr := [(mrf, .inl (cI, 8, .inl grf))]) ⟨hx, hb, hml, hown, hts⟩ (c_F_M_casesIn_2 l D cI cJ cZ cP cS po m0 mrf mki mpa mta mla msl mco mhe mso msi msh mce mca mwo mnu mte mwa mke mma mth mtr (npu) (nte) (nat_) (nde) (nto) (nse) (nhu) (nga) (nsd) (nfa) (nba) (npl) (nen) (nnu) (nwr) (nra) (nik) gki gpa gta (0) hy0 hy1 hy2 hy3 hy4 hy5 hy6 hy7 hy8 hy9 hy10 hy11 hy12 hy13 (by omega) (by omega) hy14 hy15 hp_gki hp_gpa hp_gta H.size) (cwV 2 hts gX8_haste_X8_casesIn rfl rfl rfl ⟨rfl, dh_X8_casesIn⟩ ⟨Nat.le_of_ble_eq_true rfl, Nat.le_of_ble_eq_true rfl⟩) hK hN (hZ.kept hS) hP hD hS hA [1, 2, 3, 4] [0] rfl rfl (by decide) (by decide) (by decide) (va_recv (q := (RX8, TX8, 38)) hK hP (ci := 8) (q0 := 1) rfl rfl) rfl hl.1 rfl (Nat.le_of_ble_eq_true rfl) dX8_haste_46 ⟨Nat.le_of_ble_eq_true rfl, Nat.le_of_ble_eq_true rfl⟩ (fun r_79 u_80 H locs hr_79 hP hD hS => ?_)
              obtain ⟨hsr_79_0, hr_79⟩ := hr_79
              have h9R := zRe (ws' := [(mrf, .inl (cI, 8, .inl grf)), (zMO m0 npu nte nat_ nde nto nse nhu nga nsd nfa mrf mki mpa mta mla msl mco mhe mso msi msh mce mca mwo mnu mte nba npl nen nnu nwr mwa mke mma mth mtr nra nik), (mki, .inl (cI, 8, .inl gki)), (mpa, .inl (cI, 8, .inl gpa)), (mta, .inl (cI, 8, .inl gta))]) hP hD rfl
              clear hP hD
              obtain ⟨hP, hD⟩ := h9R
              obtain ⟨g_81, g_82⟩ := hr_79
              refine lv_icmp_ge (tgt := 56) hx hb dX8_haste_49 (by decide) (fun c_83 => ?_) (fun c_83 => ?_)
              · have fc_83 : r_79.toInt ≤ r_75.toInt := zf_le c_83 rfl rfl
                refine lv_iconst (v := 0) hx hb dX8_haste_56 (by decide) ?_
                exact W.iret (v := 0) hx hb hr (fun t ht hW => ⟨⟨0, grf, rfl, ⟨(show ((w.toInt < 0 ∨ 1 < w.toInt) ∧ (0 : Int32).toInt = -5) ∨ ((0 ≤ w.toInt ∧ w.toInt ≤ 1) ∧ ((((2 : Int32).toInt < 0 ∨ 4 < (2 : Int32).toInt) ∧ (0 : Int32).toInt = -6) ∨ ((0 ≤ (2 : Int32).toInt ∧ (2 : Int32).toInt ≤ 4) ∧ ((w.toInt = 1 ∧ (0 : Int32).toInt = (if (zHv gki gpa gta npu.toInt.toNat (2 : Int32).toInt.toNat nde.toInt nse.toInt) 9 < (zHv gki gpa gta npu.toInt.toNat (2 : Int32).toInt.toNat nde.toInt nse.toInt) 0 then 1 else 0)) ∨ (w.toInt = 0 ∧ (0 : Int32).toInt = (zHs (zHv gki gpa gta npu.toInt.toNat (2 : Int32).toInt.toNat nde.toInt nse.toInt) 9 : Nat)))))) from by (have k0 : (0 : Int32).toInt = 0 := (by decide); have k2 : (2 : Int32).toInt = 2 := (by decide); have k9 : (0 : Int32).toInt = 0 := (by decide); have k9_ : (9 : Int32).toInt = 9 := (by decide); have k0_ : (0 : Int32).toInt = 0 := (by decide); refine Or.inr ⟨by omega, Or.inr ⟨by omega, Or.inl ⟨by omega, (by rw [show (2 : Int32).toInt.toNat = 2 from by decide]; have z1 := hsr_75_0; have z2 := hsr_79_0; rw [k9_] at z1; rw [k0_] at z2; have y1 : (zHv gki gpa gta npu.toInt.toNat 2 nde.toInt nse.toInt) 9 = r_75.toInt := z1.symm; have y2 : (zHv gki gpa gta npu.toInt.toNat 2 nde.toInt nse.toInt) 0 = r_79.toInt := z2.symm; rw [y1, y2]; first | (rw [if_neg (by omega)]; omega) | (rw [if_pos (by omega)]; omega))⟩⟩⟩)), trivial⟩, zRet ht hP hD [1, 0, 2, 3, 4] (by decide) rfl⟩, hS.F ht⟩) hS.2.2 dX8_haste_57
              · have fc_83 : r_75.toInt < r_79.toInt := zf_nle c_83 rfl rfl
                refine lv_iconst (v := 1) hx hb dX8_haste_52 (by decide) ?_
                refine lv_goto (tgt := 57) hx hb dX8_haste_53 (by decide) ?_
                exact W.iret (v := 1) hx hb hr (fun t ht hW => ⟨⟨1, grf, rfl, ⟨(show ((w.toInt < 0 ∨ 1 < w.toInt) ∧ (1 : Int32).toInt = -5) ∨ ((0 ≤ w.toInt ∧ w.toInt ≤ 1) ∧ ((((2 : Int32).toInt < 0 ∨ 4 < (2 : Int32).toInt) ∧ (1 : Int32).toInt = -6) ∨ ((0 ≤ (2 : Int32).toInt ∧ (2 : Int32).toInt ≤ 4) ∧ ((w.toInt = 1 ∧ (1 : Int32).toInt = (if (zHv gki gpa gta npu.toInt.toNat (2 : Int32).toInt.toNat nde.toInt nse.toInt) 9 < (zHv gki gpa gta npu.toInt.toNat (2 : Int32).toInt.toNat nde.toInt nse.toInt) 0 then 1 else 0)) ∨ (w.toInt = 0 ∧ (1 : Int32).toInt = (zHs (zHv gki gpa gta npu.toInt.toNat (2 : Int32).toInt.toNat nde.toInt nse.toInt) 9 : Nat)))))) from by (have k1 : (1 : Int32).toInt = 1 := (by decide); have k2 : (2 : Int32).toInt = 2 := (by decide); have k9 : (1 : Int32).toInt = 1 := (by decide); have k9_ : (9 : Int32).toInt = 9 := (by decide); have k0_ : (0 : Int32).toInt = 0 := (by decide); refine Or.inr ⟨by omega, Or.inr ⟨by omega, Or.inl ⟨by omega, (by rw [show (2 : Int32).toInt.toNat = 2 from by decide]; have z1 := hsr_75_0; have z2 := hsr_79_0; rw [k9_] at z1; rw [k0_] at z2; have y1 : (zHv gki gpa gta npu.toInt.toNat 2 nde.toInt nse.toInt) 9 = r_75.toInt := z1.symm; have y2 : (zHv gki gpa gta npu.toInt.toNat 2 nde.toInt nse.toInt) 0 = r_79.toInt := z2.symm; rw [y1, y2]; first | (rw [if_pos (by omega)]; omega) | (rw [if_neg (by omega)]; omega))⟩⟩⟩)), trivial⟩, zRet ht hP hD [1, 0, 2, 3, 4] (by decide) rfl⟩, hS.F ht⟩) hS.2.2 dX8_haste_57
          · have kc3 : (3 : Int32).toInt = 3 := by decide
            refine lv_iload_n hx hb dX8_haste_31 rfl (lv_at hl 2 rfl) ?_
            refine lv_iconst (v := 1) hx hb dX8_haste_32 (by decide) ?_
            refine lv_icmp_ne (tgt := 58) hx hb dX8_haste_33 (by decide) (fun c_84 => ?_) (fun c_84 => ?_)
            · have fc_84 : w.toInt ≠ 1 := zf_ne c_84 rfl (by decide)
              refine lv_iconst (v := 0) hx hb dX8_haste_58 (by decide) ?_
              refine lv_istore_n (lv' := [(3, .int 0), (0, .ref m0), (1, .int 3), (2, .int w)]) hx hb dX8_haste_59 rfl hl (by decide) rfl (fun ls hl => ?_)
              refine lv_iconst (v := (-1)) hx hb dX8_haste_60 (by decide) ?_
              refine lv_istore (lv' := [(4, .int (-1)), (3, .int 0), (0, .ref m0), (1, .int 3), (2, .int w)]) hx hb dX8_haste_61 hl (by decide) rfl (fun ls hl => ?_)
              refine lv_iconst (v := 0) hx hb dX8_haste_63 (by decide) ?_
              refine lv_istore (lv' := [(5, .int 0), (4, .int (-1)), (3, .int 0), (0, .ref m0), (1, .int 3), (2, .int w)]) hx hb dX8_haste_64 hl (by decide) rfl (fun ls hl => ?_)
              obtain ⟨i_66, hi_66⟩ : ∃ i : Int32, i = 0 := ⟨_, rfl⟩
              replace hl : lv_has ls 7 [(5, .int i_66), (4, .int (-1)), (3, .int 0), (0, .ref m0), (1, .int 3), (2, .int w)] := by rw [hi_66]; exact lv_sub hl [0, 1, 2, 3, 4, 5] rfl
              have h1i_66 : i_66.toInt = 0 := by rw [hi_66]; decide
              obtain ⟨nfu, hni_66⟩ : ∃ nq9 : Nat, 10 ≤ i_66.toInt + (nq9 : Int) := ⟨((10 : Int) - 0).toNat, by omega⟩
              have hloi_66 : 0 ≤ i_66.toInt := by omega
              obtain ⟨v_85, hv_85⟩ : ∃ g : Int32, g = 0 := ⟨_, rfl⟩
              obtain ⟨v_86, hv_86⟩ : ∃ g : Int32, g = (-1) := ⟨_, rfl⟩
              replace hl : lv_has ls 7 [(5, .int i_66), (4, .int v_86), (3, .int v_85), (0, .ref m0), (1, .int 3), (2, .int w)] := by rw [hv_85, hv_86]; exact hl
              have hbv_85 : 0 ≤ v_85.toInt ∧ v_85.toInt ≤ 9 := by rw [hv_85]; exact ⟨by decide, by decide⟩
              have hbv_86 : -1 ≤ v_86.toInt ∧ v_86.toInt ≤ 20736 := by rw [hv_86]; exact ⟨by decide, by decide⟩
              have hvi_66_0 : ((i_66.toInt = 0 ∧ (v_85 : Int32).toInt = 0 ∧ (v_86 : Int32).toInt = -1) ∨ (1 ≤ i_66.toInt ∧ (v_85 : Int32).toInt = (zHs (zHv gki gpa gta npu.toInt.toNat 3 nde.toInt nse.toInt) (i_66.toInt - 1).toNat : Nat) ∧ (v_86 : Int32).toInt = (zHv gki gpa gta npu.toInt.toNat 3 nde.toInt nse.toInt) (zHs (zHv gki gpa gta npu.toInt.toNat 3 nde.toInt nse.toInt) (i_66.toInt - 1).toNat))) := by
                (try rw [hi_66]); (try rw [hv_85]); (try rw [hv_86]); (exact Or.inl ⟨by decide, by decide, by decide⟩)
              have hvi_66_1 : i_66.toInt ≤ 10 := by
                (try rw [hi_66]); (try rw [hv_85]); (try rw [hv_86]); (have k0 : (0 : Int32).toInt = 0 := (by decide); omega)
              clear h1i_66 hi_66 hv_85 hv_86
              skip
              revert hni_66
              revert hloi_66
              revert hvi_66_1
              revert hvi_66_0
              revert hbv_86
              revert hbv_85
              revert hl
              revert hS
              revert hD
              revert hP
              revert ls
              revert locs
              revert H
              revert v_86
              revert v_85
              revert i_66
              induction nfu with
              | zero =>
                intro i_66 v_85 v_86 H locs ls hP hD hS hl hbv_85 hbv_86 hvi_66_0 hvi_66_1 hloi_66 hni_66
                have hzi_66 : 10 ≤ i_66.toInt := by omega
                refine lv_iload hx hb dX8_haste_66 (lv_at hl 0 rfl) ?_
                refine lv_bipush (v := 10) hx hb dX8_haste_68 (by decide) ?_
                refine lv_icmp_ge (tgt := 105) hx hb dX8_haste_70 (by decide) (fun c_87 => ?_) (fun c_87 => ?_)
                · have fc_87 : 10 ≤ i_66.toInt := zf_le c_87 (by decide) rfl
                  refine lv_iload_n hx hb dX8_haste_105 rfl (lv_at hl 2 rfl) ?_
                  exact W.iret (v := v_85) hx hb hr (fun t ht hW => ⟨⟨v_85, grf, rfl, ⟨(show ((w.toInt < 0 ∨ 1 < w.toInt) ∧ (v_85 : Int32).toInt = -5) ∨ ((0 ≤ w.toInt ∧ w.toInt ≤ 1) ∧ ((((3 : Int32).toInt < 0 ∨ 4 < (3 : Int32).toInt) ∧ (v_85 : Int32).toInt = -6) ∨ ((0 ≤ (3 : Int32).toInt ∧ (3 : Int32).toInt ≤ 4) ∧ ((w.toInt = 1 ∧ (v_85 : Int32).toInt = (if (zHv gki gpa gta npu.toInt.toNat (3 : Int32).toInt.toNat nde.toInt nse.toInt) 9 < (zHv gki gpa gta npu.toInt.toNat (3 : Int32).toInt.toNat nde.toInt nse.toInt) 0 then 1 else 0)) ∨ (w.toInt = 0 ∧ (v_85 : Int32).toInt = (zHs (zHv gki gpa gta npu.toInt.toNat (3 : Int32).toInt.toNat nde.toInt nse.toInt) 9 : Nat)))))) from by (have k3 : (3 : Int32).toInt = 3 := (by decide); have k9_ : (9 : Int32).toInt = 9 := (by decide); have k0_ : (0 : Int32).toInt = 0 := (by decide); refine Or.inr ⟨by omega, Or.inr ⟨by omega, Or.inr ⟨by omega, (by rw [show (3 : Int32).toInt.toNat = 3 from by decide]; rcases hvi_66_0 with z | ⟨z1, z2, -⟩; (exfalso; omega); (have h9 : (i_66.toInt - 1).toNat = 9 := (by omega); rw [h9] at z2; exact z2))⟩⟩⟩)), trivial⟩, zRet ht hP hD [0, 1, 2, 3, 4] (by decide) rfl⟩, hS.F ht⟩) hS.2.2 dX8_haste_106
                · exfalso; have fc_87 : i_66.toInt < 10 := zf_nle c_87 (by decide) rfl; omega
              | succ nfu ih =>
                intro i_66 v_85 v_86 H locs ls hP hD hS hl hbv_85 hbv_86 hvi_66_0 hvi_66_1 hloi_66 hni_66
                refine lv_iload hx hb dX8_haste_66 (lv_at hl 0 rfl) ?_
                refine lv_bipush (v := 10) hx hb dX8_haste_68 (by decide) ?_
                refine lv_icmp_ge (tgt := 105) hx hb dX8_haste_70 (by decide) (fun c_88 => ?_) (fun c_88 => ?_)
                · have fc_88 : 10 ≤ i_66.toInt := zf_le c_88 (by decide) rfl
                  refine lv_iload_n hx hb dX8_haste_105 rfl (lv_at hl 2 rfl) ?_
                  exact W.iret (v := v_85) hx hb hr (fun t ht hW => ⟨⟨v_85, grf, rfl, ⟨(show ((w.toInt < 0 ∨ 1 < w.toInt) ∧ (v_85 : Int32).toInt = -5) ∨ ((0 ≤ w.toInt ∧ w.toInt ≤ 1) ∧ ((((3 : Int32).toInt < 0 ∨ 4 < (3 : Int32).toInt) ∧ (v_85 : Int32).toInt = -6) ∨ ((0 ≤ (3 : Int32).toInt ∧ (3 : Int32).toInt ≤ 4) ∧ ((w.toInt = 1 ∧ (v_85 : Int32).toInt = (if (zHv gki gpa gta npu.toInt.toNat (3 : Int32).toInt.toNat nde.toInt nse.toInt) 9 < (zHv gki gpa gta npu.toInt.toNat (3 : Int32).toInt.toNat nde.toInt nse.toInt) 0 then 1 else 0)) ∨ (w.toInt = 0 ∧ (v_85 : Int32).toInt = (zHs (zHv gki gpa gta npu.toInt.toNat (3 : Int32).toInt.toNat nde.toInt nse.toInt) 9 : Nat)))))) from by (have k3 : (3 : Int32).toInt = 3 := (by decide); have k9_ : (9 : Int32).toInt = 9 := (by decide); have k0_ : (0 : Int32).toInt = 0 := (by decide); refine Or.inr ⟨by omega, Or.inr ⟨by omega, Or.inr ⟨by omega, (by rw [show (3 : Int32).toInt.toNat = 3 from by decide]; rcases hvi_66_0 with z | ⟨z1, z2, -⟩; (exfalso; omega); (have h9 : (i_66.toInt - 1).toNat = 9 := (by omega); rw [h9] at z2; exact z2))⟩⟩⟩)), trivial⟩, zRet ht hP hD [0, 1, 2, 3, 4] (by decide) rfl⟩, hS.F ht⟩) hS.2.2 dX8_haste_106
                · have fc_88 : i_66.toInt < 10 := zf_nle c_88 (by decide) rfl
                  refine lv_aload_n hx hb dX8_haste_73 rfl (lv_at hl 3 rfl) ?_
                  refine lv_iload_n hx hb dX8_haste_74 rfl (lv_at hl 4 rfl) ?_
                  refine lv_iload hx hb dX8_haste_75 (lv_at hl 0 rfl) ?_
                  skip
                  refine zw_V (As := [.int 3, .int i_66]) (rest := []) (wr := [(mrf, .inl (cI, 8, .inl grf))]) ⟨hx, hb, hml, hown, hts⟩ (c_F_M_casesIn_3 l D cI cJ cZ cP cS po m0 mrf mki mpa mta mla msl mco mhe mso msi msh mce mca mwo mnu mte mwa mke mma mth mtr (npu) (nte) (nat_) (nde) (nto) (nse) (nhu) (nga) (nsd) (nfa) (nba) (npl) (nen) (nnu) (nwr) (nra) (nik) gki gpa gta (i_66) hy0 hy1 hy2 hy3 hy4 hy5 hy6 hy7 hy8 hy9 hy10 hy11 hy12 hy13 (by omega) (by omega) hy14 hy15 hp_gki hp_gpa hp_gta H.size) (cwV 2 hts gX8_haste_X8_casesIn rfl rfl rfl ⟨rfl, dh_X8_casesIn⟩ ⟨Nat.le_of_ble_eq_true rfl, Nat.le_of_ble_eq_true rfl⟩) hK hN (hZ.kept hS) hP hD hS hA [0, 2, 3, 4] [1] rfl rfl (by decide) (by decide) (by decide) (va_recv (q := (RX8, TX8, 38)) hK hP (ci := 8) (q0 := 0) rfl rfl) rfl hl.1 rfl (Nat.le_of_ble_eq_true rfl) dX8_haste_77 ⟨Nat.le_of_ble_eq_true rfl, Nat.le_of_ble_eq_true rfl⟩ (fun r_89 u_90 H locs hr_89 hP hD hS => ?_)
                  obtain ⟨hsr_89_0, hr_89⟩ := hr_89
                  have h9R := zRe (ws' := [(mrf, .inl (cI, 8, .inl grf)), (zMO m0 npu nte nat_ nde nto nse nhu nga nsd nfa mrf mki mpa mta mla msl mco mhe mso msi msh mce mca mwo mnu mte nba npl nen nnu nwr mwa mke mma mth mtr nra nik), (mki, .inl (cI, 8, .inl gki)), (mpa, .inl (cI, 8, .inl gpa)), (mta, .inl (cI, 8, .inl gta))]) hP hD rfl
                  clear hP hD
                  obtain ⟨hP, hD⟩ := h9R
                  obtain ⟨g_91, g_92⟩ := hr_89
                  refine lv_istore (lv' := [(6, .int r_89), (5, .int i_66), (4, .int v_86), (3, .int v_85), (0, .ref m0), (1, .int 3), (2, .int w)]) hx hb dX8_haste_80 hl (by decide) rfl (fun ls hl => ?_)
                  refine lv_iload hx hb dX8_haste_82 (lv_at hl 0 rfl) ?_
                  refine lv_iload hx hb dX8_haste_84 (lv_at hl 2 rfl) ?_
                  refine lv_icmp_gt (tgt := 92) hx hb dX8_haste_86 (by decide) (fun c_93 => ?_) (fun c_93 => ?_)
                  · have fc_93 : v_86.toInt < r_89.toInt := zf_lt c_93 rfl rfl
                    refine lv_iload hx hb dX8_haste_92 (lv_at hl 1 rfl) ?_
                    refine lv_istore_n (lv' := [(3, .int i_66), (6, .int r_89), (5, .int i_66), (4, .int v_86), (0, .ref m0), (1, .int 3), (2, .int w)]) hx hb dX8_haste_94 rfl hl (by decide) rfl (fun ls hl => ?_)
                    refine lv_iload hx hb dX8_haste_95 (lv_at hl 1 rfl) ?_
                    refine lv_istore (lv' := [(4, .int r_89), (3, .int i_66), (6, .int r_89), (5, .int i_66), (0, .ref m0), (1, .int 3), (2, .int w)]) hx hb dX8_haste_97 hl (by decide) rfl (fun ls hl => ?_)
                    obtain ⟨x_94, ex_94⟩ : ∃ y : Int32, y = i_66 + 1 := ⟨_, rfl⟩
                    have qx_94 : x_94.toInt = i_66.toInt + 1 := dw_incK ex_94 fc_88 (by decide)
                    refine lv_iinc (v := x_94) (lv' := [(5, .int x_94), (4, .int r_89), (3, .int i_66), (6, .int r_89), (0, .ref m0), (1, .int 3), (2, .int w)]) hx hb dX8_haste_99 hl (k := 3) rfl ex_94.symm (by decide) rfl (fun ls hl => ?_)
                    refine lv_goto (tgt := 66) hx hb dX8_haste_102 (by decide) ?_
                    exact ih x_94 i_66 r_89 _ _ _ (hP.sub [1, 0, 2, 3, 4] rfl) (hD.sub [1, 0, 2, 3, 4] (by decide) rfl) hS (lv_sub hl [0, 1, 2, 4, 5, 6] rfl) ⟨by omega, by omega⟩ ⟨by omega, by omega⟩ (show ((x_94.toInt = 0 ∧ (i_66 : Int32).toInt = 0 ∧ (r_89 : Int32).toInt = -1) ∨ (1 ≤ x_94.toInt ∧ (i_66 : Int32).toInt = (zHs (zHv gki gpa gta npu.toInt.toNat 3 nde.toInt nse.toInt) (x_94.toInt - 1).toNat : Nat) ∧ (r_89 : Int32).toInt = (zHv gki gpa gta npu.toInt.toNat 3 nde.toInt nse.toInt) (zHs (zHv gki gpa gta npu.toInt.toNat 3 nde.toInt nse.toInt) (x_94.toInt - 1).toNat))) from by (have y1 : (zHv gki gpa gta npu.toInt.toNat 3 nde.toInt nse.toInt) i_66.toInt.toNat = r_89.toInt := (by have z := hsr_89_0; unfold zHv; rw [show ((i_66.toInt.toNat : Nat) : Int) = i_66.toInt from by omega]; exact z.symm); have hx : (x_94.toInt - 1).toNat = i_66.toInt.toNat := (by omega); refine Or.inr ⟨by omega, ?_⟩; rw [hx]; rcases hvi_66_0 with ⟨w1, w2, w3⟩ | ⟨w1, w2, w3⟩; (have h0 : i_66.toInt.toNat = 0 := (by omega); rw [h0] at y1 ⊢; first | (exact ⟨by (show _ = ((0 : Nat) : Int); omega), y1.symm⟩) | (exfalso; omega)); (have h1 : i_66.toInt.toNat = (i_66.toInt - 1).toNat + 1 := (by omega); rw [h1] at y1 ⊢; rw [zHs_s, y1, ← w3]; first | (rw [if_pos (by omega)]; exact ⟨by omega, y1.symm⟩) | (rw [if_neg (by omega)]; exact ⟨w2, w3⟩)))) (show x_94.toInt ≤ 10 from by omega) (dw_lo hloi_66 qx_94) (dw_hn hni_66 qx_94)
                  · have fc_93 : r_89.toInt ≤ v_86.toInt := zf_nlt c_93 rfl rfl
                    refine lv_goto (tgt := 99) hx hb dX8_haste_89 (by decide) ?_
                    obtain ⟨x_95, ex_95⟩ : ∃ y : Int32, y = i_66 + 1 := ⟨_, rfl⟩
                    have qx_95 : x_95.toInt = i_66.toInt + 1 := dw_incK ex_95 fc_88 (by decide)
                    refine lv_iinc (v := x_95) (lv' := [(5, .int x_95), (6, .int r_89), (4, .int v_86), (3, .int v_85), (0, .ref m0), (1, .int 3), (2, .int w)]) hx hb dX8_haste_99 hl (k := 1) rfl ex_95.symm (by decide) rfl (fun ls hl => ?_)
                    refine lv_goto (tgt := 66) hx hb dX8_haste_102 (by decide) ?_
                    exact ih x_95 v_85 v_86 _ _ _ (hP.sub [1, 0, 2, 3, 4] rfl) (hD.sub [1, 0, 2, 3, 4] (by decide) rfl) hS (lv_sub hl [0, 2, 3, 4, 5, 6] rfl) hbv_85 hbv_86 (show ((x_95.toInt = 0 ∧ (v_85 : Int32).toInt = 0 ∧ (v_86 : Int32).toInt = -1) ∨ (1 ≤ x_95.toInt ∧ (v_85 : Int32).toInt = (zHs (zHv gki gpa gta npu.toInt.toNat 3 nde.toInt nse.toInt) (x_95.toInt - 1).toNat : Nat) ∧ (v_86 : Int32).toInt = (zHv gki gpa gta npu.toInt.toNat 3 nde.toInt nse.toInt) (zHs (zHv gki gpa gta npu.toInt.toNat 3 nde.toInt nse.toInt) (x_95.toInt - 1).toNat))) from by (have y1 : (zHv gki gpa gta npu.toInt.toNat 3 nde.toInt nse.toInt) i_66.toInt.toNat = r_89.toInt := (by have z := hsr_89_0; unfold zHv; rw [show ((i_66.toInt.toNat : Nat) : Int) = i_66.toInt from by omega]; exact z.symm); have hx : (x_95.toInt - 1).toNat = i_66.toInt.toNat := (by omega); refine Or.inr ⟨by omega, ?_⟩; rw [hx]; rcases hvi_66_0 with ⟨w1, w2, w3⟩ | ⟨w1, w2, w3⟩; (have h0 : i_66.toInt.toNat = 0 := (by omega); rw [h0] at y1 ⊢; first | (exact ⟨by (show _ = ((0 : Nat) : Int); omega), y1.symm⟩) | (exfalso; omega)); (have h1 : i_66.toInt.toNat = (i_66.toInt - 1).toNat + 1 := (by omega); rw [h1] at y1 ⊢; rw [zHs_s, y1, ← w3]; first | (rw [if_pos (by omega)]; exact ⟨by omega, y1.symm⟩) | (rw [if_neg (by omega)]; exact ⟨w2, w3⟩)))) (show x_95.toInt ≤ 10 from by omega) (dw_lo hloi_66 qx_95) (dw_hn hni_66 qx_95)
            · have fc_84 : w.toInt = 1 := zf_eq c_84 rfl (by decide)
              refine lv_aload_n hx hb dX8_haste_36 rfl (lv_at hl 0 rfl) ?_
              refine lv_iload_n hx hb dX8_haste_37 rfl (lv_at hl 1 rfl) ?_
              refine lv_bipush (v := 9) hx hb dX8_haste_38 (by decide) ?_
              have kc9 : (9 : Int32).toInt = 9 := by decide
              skip
              refine zw_V (As := [.int 3, .int 9]) (rest := []) (wr := [(mrf, .inl (cI, 8, .inl grf))]) ⟨hx, hb, hml, hown, hts⟩ (c_F_M_casesIn_3 l D cI cJ cZ cP cS po m0 mrf mki mpa mta mla msl mco mhe mso msi msh mce mca mwo mnu mte mwa mke mma mth mtr (npu) (nte) (nat_) (nde) (nto) (nse) (nhu) (nga) (nsd) (nfa) (nba) (npl) (nen) (nnu) (nwr) (nra) (nik) gki gpa gta (9) hy0 hy1 hy2 hy3 hy4 hy5 hy6 hy7 hy8 hy9 hy10 hy11 hy12 hy13 (by omega) (by omega) hy14 hy15 hp_gki hp_gpa hp_gta H.size) (cwV 2 hts gX8_haste_X8_casesIn rfl rfl rfl ⟨rfl, dh_X8_casesIn⟩ ⟨Nat.le_of_ble_eq_true rfl, Nat.le_of_ble_eq_true rfl⟩) hK hN (hZ.kept hS) hP hD hS hA [0, 2, 3, 4] [1] rfl rfl (by decide) (by decide) (by decide) (va_recv (q := (RX8, TX8, 38)) hK hP (ci := 8) (q0 := 0) rfl rfl) rfl hl.1 rfl (Nat.le_of_ble_eq_true rfl) dX8_haste_40 ⟨Nat.le_of_ble_eq_true rfl, Nat.le_of_ble_eq_true rfl⟩ (fun r_96 u_97 H locs hr_96 hP hD hS => ?_)
              obtain ⟨hsr_96_0, hr_96⟩ := hr_96
              have h9R := zRe (ws' := [(mrf, .inl (cI, 8, .inl grf)), (zMO m0 npu nte nat_ nde nto nse nhu nga nsd nfa mrf mki mpa mta mla msl mco mhe mso msi msh mce mca mwo mnu mte nba npl nen nnu nwr mwa mke mma mth mtr nra nik), (mki, .inl (cI, 8, .inl gki)), (mpa, .inl (cI, 8, .inl gpa)), (mta, .inl (cI, 8, .inl gta))]) hP hD rfl
              clear hP hD
              obtain ⟨hP, hD⟩ := h9R
              obtain ⟨g_98, g_99⟩ := hr_96
              refine lv_aload_n hx hb dX8_haste_43 rfl (lv_at hl 0 rfl) ?_
              refine lv_iload_n hx hb dX8_haste_44 rfl (lv_at hl 1 rfl) ?_
              refine lv_iconst (v := 0) hx hb dX8_haste_45 (by decide) ?_
              have kc0 : (0 : Int32).toInt = 0 := by decide
              skip
              refine zw_V (As := [.int 3, .int 0]) (rest := [.int r_96]) (wr := [(mrf, .inl (cI, 8, .inl grf))]) ⟨hx, hb, hml, hown, hts⟩ (c_F_M_casesIn_3 l D cI cJ cZ cP cS po m0 mrf mki mpa mta mla msl mco mhe mso msi msh mce mca mwo mnu mte mwa mke mma mth mtr (npu) (nte) (nat_) (nde) (nto) (nse) (nhu) (nga) (nsd) (nfa) (nba) (npl) (nen) (nnu) (nwr) (nra) (nik) gki gpa gta (0) hy0 hy1 hy2 hy3 hy4 hy5 hy6 hy7 hy8 hy9 hy10 hy11 hy12 hy13 (by omega) (by omega) hy14 hy15 hp_gki hp_gpa hp_gta H.size) (cwV 2 hts gX8_haste_X8_casesIn rfl rfl rfl ⟨rfl, dh_X8_casesIn⟩ ⟨Nat.le_of_ble_eq_true rfl, Nat.le_of_ble_eq_true rfl⟩) hK hN (hZ.kept hS) hP hD hS hA [1, 2, 3, 4] [0] rfl rfl (by decide) (by decide) (by decide) (va_recv (q := (RX8, TX8, 38)) hK hP (ci := 8) (q0 := 1) rfl rfl) rfl hl.1 rfl (Nat.le_of_ble_eq_true rfl) dX8_haste_46 ⟨Nat.le_of_ble_eq_true rfl, Nat.le_of_ble_eq_true rfl⟩ (fun r_100 u_101 H locs hr_100 hP hD hS => ?_)
              obtain ⟨hsr_100_0, hr_100⟩ := hr_100
              have h9R := zRe (ws' := [(mrf, .inl (cI, 8, .inl grf)), (zMO m0 npu nte nat_ nde nto nse nhu nga nsd nfa mrf mki mpa mta mla msl mco mhe mso msi msh mce mca mwo mnu mte nba npl nen nnu nwr mwa mke mma mth mtr nra nik), (mki, .inl (cI, 8, .inl gki)), (mpa, .inl (cI, 8, .inl gpa)), (mta, .inl (cI, 8, .inl gta))]) hP hD rfl
              clear hP hD
              obtain ⟨hP, hD⟩ := h9R
              obtain ⟨g_102, g_103⟩ := hr_100
              refine lv_icmp_ge (tgt := 56) hx hb dX8_haste_49 (by decide) (fun c_104 => ?_) (fun c_104 => ?_)
              · have fc_104 : r_100.toInt ≤ r_96.toInt := zf_le c_104 rfl rfl
                refine lv_iconst (v := 0) hx hb dX8_haste_56 (by decide) ?_
                exact W.iret (v := 0) hx hb hr (fun t ht hW => ⟨⟨0, grf, rfl, ⟨(show ((w.toInt < 0 ∨ 1 < w.toInt) ∧ (0 : Int32).toInt = -5) ∨ ((0 ≤ w.toInt ∧ w.toInt ≤ 1) ∧ ((((3 : Int32).toInt < 0 ∨ 4 < (3 : Int32).toInt) ∧ (0 : Int32).toInt = -6) ∨ ((0 ≤ (3 : Int32).toInt ∧ (3 : Int32).toInt ≤ 4) ∧ ((w.toInt = 1 ∧ (0 : Int32).toInt = (if (zHv gki gpa gta npu.toInt.toNat (3 : Int32).toInt.toNat nde.toInt nse.toInt) 9 < (zHv gki gpa gta npu.toInt.toNat (3 : Int32).toInt.toNat nde.toInt nse.toInt) 0 then 1 else 0)) ∨ (w.toInt = 0 ∧ (0 : Int32).toInt = (zHs (zHv gki gpa gta npu.toInt.toNat (3 : Int32).toInt.toNat nde.toInt nse.toInt) 9 : Nat)))))) from by (have k0 : (0 : Int32).toInt = 0 := (by decide); have k3 : (3 : Int32).toInt = 3 := (by decide); have k9 : (0 : Int32).toInt = 0 := (by decide); have k9_ : (9 : Int32).toInt = 9 := (by decide); have k0_ : (0 : Int32).toInt = 0 := (by decide); refine Or.inr ⟨by omega, Or.inr ⟨by omega, Or.inl ⟨by omega, (by rw [show (3 : Int32).toInt.toNat = 3 from by decide]; have z1 := hsr_96_0; have z2 := hsr_100_0; rw [k9_] at z1; rw [k0_] at z2; have y1 : (zHv gki gpa gta npu.toInt.toNat 3 nde.toInt nse.toInt) 9 = r_96.toInt := z1.symm; have y2 : (zHv gki gpa gta npu.toInt.toNat 3 nde.toInt nse.toInt) 0 = r_100.toInt := z2.symm; rw [y1, y2]; first | (rw [if_neg (by omega)]; omega) | (rw [if_pos (by omega)]; omega))⟩⟩⟩)), trivial⟩, zRet ht hP hD [1, 0, 2, 3, 4] (by decide) rfl⟩, hS.F ht⟩) hS.2.2 dX8_haste_57
              · have fc_104 : r_96.toInt < r_100.toInt := zf_nle c_104 rfl rfl
                refine lv_iconst (v := 1) hx hb dX8_haste_52 (by decide) ?_
                refine lv_goto (tgt := 57) hx hb dX8_haste_53 (by decide) ?_
                exact W.iret (v := 1) hx hb hr (fun t ht hW => ⟨⟨1, grf, rfl, ⟨(show ((w.toInt < 0 ∨ 1 < w.toInt) ∧ (1 : Int32).toInt = -5) ∨ ((0 ≤ w.toInt ∧ w.toInt ≤ 1) ∧ ((((3 : Int32).toInt < 0 ∨ 4 < (3 : Int32).toInt) ∧ (1 : Int32).toInt = -6) ∨ ((0 ≤ (3 : Int32).toInt ∧ (3 : Int32).toInt ≤ 4) ∧ ((w.toInt = 1 ∧ (1 : Int32).toInt = (if (zHv gki gpa gta npu.toInt.toNat (3 : Int32).toInt.toNat nde.toInt nse.toInt) 9 < (zHv gki gpa gta npu.toInt.toNat (3 : Int32).toInt.toNat nde.toInt nse.toInt) 0 then 1 else 0)) ∨ (w.toInt = 0 ∧ (1 : Int32).toInt = (zHs (zHv gki gpa gta npu.toInt.toNat (3 : Int32).toInt.toNat nde.toInt nse.toInt) 9 : Nat)))))) from by (have k1 : (1 : Int32).toInt = 1 := (by decide); have k3 : (3 : Int32).toInt = 3 := (by decide); have k9 : (1 : Int32).toInt = 1 := (by decide); have k9_ : (9 : Int32).toInt = 9 := (by decide); have k0_ : (0 : Int32).toInt = 0 := (by decide); refine Or.inr ⟨by omega, Or.inr ⟨by omega, Or.inl ⟨by omega, (by rw [show (3 : Int32).toInt.toNat = 3 from by decide]; have z1 := hsr_96_0; have z2 := hsr_100_0; rw [k9_] at z1; rw [k0_] at z2; have y1 : (zHv gki gpa gta npu.toInt.toNat 3 nde.toInt nse.toInt) 9 = r_96.toInt := z1.symm; have y2 : (zHv gki gpa gta npu.toInt.toNat 3 nde.toInt nse.toInt) 0 = r_100.toInt := z2.symm; rw [y1, y2]; first | (rw [if_pos (by omega)]; omega) | (rw [if_neg (by omega)]; omega))⟩⟩⟩)), trivial⟩, zRet ht hP hD [1, 0, 2, 3, 4] (by decide) rfl⟩, hS.F ht⟩) hS.2.2 dX8_haste_57
          · have kc4 : (4 : Int32).toInt = 4 := by decide
            refine lv_iload_n hx hb dX8_haste_31 rfl (lv_at hl 2 rfl) ?_
            refine lv_iconst (v := 1) hx hb dX8_haste_32 (by decide) ?_
            refine lv_icmp_ne (tgt := 58) hx hb dX8_haste_33 (by decide) (fun c_105 => ?_) (fun c_105 => ?_)
            · have fc_105 : w.toInt ≠ 1 := zf_ne c_105 rfl (by decide)
              refine lv_iconst (v := 0) hx hb dX8_haste_58 (by decide) ?_
              refine lv_istore_n (lv' := [(3, .int 0), (0, .ref m0), (1, .int 4), (2, .int w)]) hx hb dX8_haste_59 rfl hl (by decide) rfl (fun ls hl => ?_)
              refine lv_iconst (v := (-1)) hx hb dX8_haste_60 (by decide) ?_
              refine lv_istore (lv' := [(4, .int (-1)), (3, .int 0), (0, .ref m0), (1, .int 4), (2, .int w)]) hx hb dX8_haste_61 hl (by decide) rfl (fun ls hl => ?_)
              refine lv_iconst (v := 0) hx hb dX8_haste_63 (by decide) ?_
              refine lv_istore (lv' := [(5, .int 0), (4, .int (-1)), (3, .int 0), (0, .ref m0), (1, .int 4), (2, .int w)]) hx hb dX8_haste_64 hl (by decide) rfl (fun ls hl => ?_)
              obtain ⟨i_66, hi_66⟩ : ∃ i : Int32, i = 0 := ⟨_, rfl⟩
              replace hl : lv_has ls 7 [(5, .int i_66), (4, .int (-1)), (3, .int 0), (0, .ref m0), (1, .int 4), (2, .int w)] := by rw [hi_66]; exact lv_sub hl [0, 1, 2, 3, 4, 5] rfl
              have h1i_66 : i_66.toInt = 0 := by rw [hi_66]; decide
              obtain ⟨nfu, hni_66⟩ : ∃ nq9 : Nat, 10 ≤ i_66.toInt + (nq9 : Int) := ⟨((10 : Int) - 0).toNat, by omega⟩
              have hloi_66 : 0 ≤ i_66.toInt := by omega
              obtain ⟨v_106, hv_106⟩ : ∃ g : Int32, g = 0 := ⟨_, rfl⟩
              obtain ⟨v_107, hv_107⟩ : ∃ g : Int32, g = (-1) := ⟨_, rfl⟩
              replace hl : lv_has ls 7 [(5, .int i_66), (4, .int v_107), (3, .int v_106), (0, .ref m0), (1, .int 4), (2, .int w)] := by rw [hv_106, hv_107]; exact hl
              have hbv_106 : 0 ≤ v_106.toInt ∧ v_106.toInt ≤ 9 := by rw [hv_106]; exact ⟨by decide, by decide⟩
              have hbv_107 : -1 ≤ v_107.toInt ∧ v_107.toInt ≤ 20736 := by rw [hv_107]; exact ⟨by decide, by decide⟩
              have hvi_66_0 : ((i_66.toInt = 0 ∧ (v_106 : Int32).toInt = 0 ∧ (v_107 : Int32).toInt = -1) ∨ (1 ≤ i_66.toInt ∧ (v_106 : Int32).toInt = (zHs (zHv gki gpa gta npu.toInt.toNat 4 nde.toInt nse.toInt) (i_66.toInt - 1).toNat : Nat) ∧ (v_107 : Int32).toInt = (zHv gki gpa gta npu.toInt.toNat 4 nde.toInt nse.toInt) (zHs (zHv gki gpa gta npu.toInt.toNat 4 nde.toInt nse.toInt) (i_66.toInt - 1).toNat))) := by
                (try rw [hi_66]); (try rw [hv_106]); (try rw [hv_107]); (exact Or.inl ⟨by decide, by decide, by decide⟩)
              have hvi_66_1 : i_66.toInt ≤ 10 := by
                (try rw [hi_66]); (try rw [hv_106]); (try rw [hv_107]); (have k0 : (0 : Int32).toInt = 0 := (by decide); omega)
              clear h1i_66 hi_66 hv_106 hv_107
              skip
              revert hni_66
              revert hloi_66
              revert hvi_66_1
              revert hvi_66_0
              revert hbv_107
              revert hbv_106
              revert hl
              revert hS
              revert hD
              revert hP
              revert ls
              revert locs
              revert H
              revert v_107
              revert v_106
              revert i_66
              induction nfu with
              | zero =>
                intro i_66 v_106 v_107 H locs ls hP hD hS hl hbv_106 hbv_107 hvi_66_0 hvi_66_1 hloi_66 hni_66
                have hzi_66 : 10 ≤ i_66.toInt := by omega
                refine lv_iload hx hb dX8_haste_66 (lv_at hl 0 rfl) ?_
                refine lv_bipush (v := 10) hx hb dX8_haste_68 (by decide) ?_
                refine lv_icmp_ge (tgt := 105) hx hb dX8_haste_70 (by decide) (fun c_108 => ?_) (fun c_108 => ?_)
                · have fc_108 : 10 ≤ i_66.toInt := zf_le c_108 (by decide) rfl
                  refine lv_iload_n hx hb dX8_haste_105 rfl (lv_at hl 2 rfl) ?_
                  exact W.iret (v := v_106) hx hb hr (fun t ht hW => ⟨⟨v_106, grf, rfl, ⟨(show ((w.toInt < 0 ∨ 1 < w.toInt) ∧ (v_106 : Int32).toInt = -5) ∨ ((0 ≤ w.toInt ∧ w.toInt ≤ 1) ∧ ((((4 : Int32).toInt < 0 ∨ 4 < (4 : Int32).toInt) ∧ (v_106 : Int32).toInt = -6) ∨ ((0 ≤ (4 : Int32).toInt ∧ (4 : Int32).toInt ≤ 4) ∧ ((w.toInt = 1 ∧ (v_106 : Int32).toInt = (if (zHv gki gpa gta npu.toInt.toNat (4 : Int32).toInt.toNat nde.toInt nse.toInt) 9 < (zHv gki gpa gta npu.toInt.toNat (4 : Int32).toInt.toNat nde.toInt nse.toInt) 0 then 1 else 0)) ∨ (w.toInt = 0 ∧ (v_106 : Int32).toInt = (zHs (zHv gki gpa gta npu.toInt.toNat (4 : Int32).toInt.toNat nde.toInt nse.toInt) 9 : Nat)))))) from by (have k4 : (4 : Int32).toInt = 4 := (by decide); have k9_ : (9 : Int32).toInt = 9 := (by decide); have k0_ : (0 : Int32).toInt = 0 := (by decide); refine Or.inr ⟨by omega, Or.inr ⟨by omega, Or.inr ⟨by omega, (by rw [show (4 : Int32).toInt.toNat = 4 from by decide]; rcases hvi_66_0 with z | ⟨z1, z2, -⟩; (exfalso; omega); (have h9 : (i_66.toInt - 1).toNat = 9 := (by omega); rw [h9] at z2; exact z2))⟩⟩⟩)), trivial⟩, zRet ht hP hD [0, 1, 2, 3, 4] (by decide) rfl⟩, hS.F ht⟩) hS.2.2 dX8_haste_106
                · exfalso; have fc_108 : i_66.toInt < 10 := zf_nle c_108 (by decide) rfl; omega
              | succ nfu ih =>
                intro i_66 v_106 v_107 H locs ls hP hD hS hl hbv_106 hbv_107 hvi_66_0 hvi_66_1 hloi_66 hni_66
                refine lv_iload hx hb dX8_haste_66 (lv_at hl 0 rfl) ?_
                refine lv_bipush (v := 10) hx hb dX8_haste_68 (by decide) ?_
                refine lv_icmp_ge (tgt := 105) hx hb dX8_haste_70 (by decide) (fun c_109 => ?_) (fun c_109 => ?_)
                · have fc_109 : 10 ≤ i_66.toInt := zf_le c_109 (by decide) rfl
                  refine lv_iload_n hx hb dX8_haste_105 rfl (lv_at hl 2 rfl) ?_
                  exact W.iret (v := v_106) hx hb hr (fun t ht hW => ⟨⟨v_106, grf, rfl, ⟨(show ((w.toInt < 0 ∨ 1 < w.toInt) ∧ (v_106 : Int32).toInt = -5) ∨ ((0 ≤ w.toInt ∧ w.toInt ≤ 1) ∧ ((((4 : Int32).toInt < 0 ∨ 4 < (4 : Int32).toInt) ∧ (v_106 : Int32).toInt = -6) ∨ ((0 ≤ (4 : Int32).toInt ∧ (4 : Int32).toInt ≤ 4) ∧ ((w.toInt = 1 ∧ (v_106 : Int32).toInt = (if (zHv gki gpa gta npu.toInt.toNat (4 : Int32).toInt.toNat nde.toInt nse.toInt) 9 < (zHv gki gpa gta npu.toInt.toNat (4 : Int32).toInt.toNat nde.toInt nse.toInt) 0 then 1 else 0)) ∨ (w.toInt = 0 ∧ (v_106 : Int32).toInt = (zHs (zHv gki gpa gta npu.toInt.toNat (4 : Int32).toInt.toNat nde.toInt nse.toInt) 9 : Nat)))))) from by (have k4 : (4 : Int32).toInt = 4 := (by decide); have k9_ : (9 : Int32).toInt = 9 := (by decide); have k0_ : (0 : Int32).toInt = 0 := (by decide); refine Or.inr ⟨by omega, Or.inr ⟨by omega, Or.inr ⟨by omega, (by rw [show (4 : Int32).toInt.toNat = 4 from by decide]; rcases hvi_66_0 with z | ⟨z1, z2, -⟩; (exfalso; omega); (have h9 : (i_66.toInt - 1).toNat = 9 := (by omega); rw [h9] at z2; exact z2))⟩⟩⟩)), trivial⟩, zRet ht hP hD [0, 1, 2, 3, 4] (by decide) rfl⟩, hS.F ht⟩) hS.2.2 dX8_haste_106
                · have fc_109 : i_66.toInt < 10 := zf_nle c_109 (by decide) rfl
                  refine lv_aload_n hx hb dX8_haste_73 rfl (lv_at hl 3 rfl) ?_
                  refine lv_iload_n hx hb dX8_haste_74 rfl (lv_at hl 4 rfl) ?_
                  refine lv_iload hx hb dX8_haste_75 (lv_at hl 0 rfl) ?_
                  skip
                  refine zw_V (As := [.int 4, .int i_66]) (rest := []) (wr := [(mrf, .inl (cI, 8, .inl grf))]) ⟨hx, hb, hml, hown, hts⟩ (c_F_M_casesIn_4 l D cI cJ cZ cP cS po m0 mrf mki mpa mta mla msl mco mhe mso msi msh mce mca mwo mnu mte mwa mke mma mth mtr (npu) (nte) (nat_) (nde) (nto) (nse) (nhu) (nga) (nsd) (nfa) (nba) (npl) (nen) (nnu) (nwr) (nra) (nik) gki gpa gta (i_66) hy0 hy1 hy2 hy3 hy4 hy5 hy6 hy7 hy8 hy9 hy10 hy11 hy12 hy13 (by omega) (by omega) hy14 hy15 hp_gki hp_gpa hp_gta H.size) (cwV 2 hts gX8_haste_X8_casesIn rfl rfl rfl ⟨rfl, dh_X8_casesIn⟩ ⟨Nat.le_of_ble_eq_true rfl, Nat.le_of_ble_eq_true rfl⟩) hK hN (hZ.kept hS) hP hD hS hA [0, 2, 3, 4] [1] rfl rfl (by decide) (by decide) (by decide) (va_recv (q := (RX8, TX8, 38)) hK hP (ci := 8) (q0 := 0) rfl rfl) rfl hl.1 rfl (Nat.le_of_ble_eq_true rfl) dX8_haste_77 ⟨Nat.le_of_ble_eq_true rfl, Nat.le_of_ble_eq_true rfl⟩ (fun r_110 u_111 H locs hr_110 hP hD hS => ?_)
                  obtain ⟨hsr_110_0, hr_110⟩ := hr_110
                  have h9R := zRe (ws' := [(mrf, .inl (cI, 8, .inl grf)), (zMO m0 npu nte nat_ nde nto nse nhu nga nsd nfa mrf mki mpa mta mla msl mco mhe mso msi msh mce mca mwo mnu mte nba npl nen nnu nwr mwa mke mma mth mtr nra nik), (mki, .inl (cI, 8, .inl gki)), (mpa, .inl (cI, 8, .inl gpa)), (mta, .inl (cI, 8, .inl gta))]) hP hD rfl
                  clear hP hD
                  obtain ⟨hP, hD⟩ := h9R
                  obtain ⟨g_112, g_113⟩ := hr_110
                  refine lv_istore (lv' := [(6, .int r_110), (5, .int i_66), (4, .int v_107), (3, .int v_106), (0, .ref m0), (1, .int 4), (2, .int w)]) hx hb dX8_haste_80 hl (by decide) rfl (fun ls hl => ?_)
                  refine lv_iload hx hb dX8_haste_82 (lv_at hl 0 rfl) ?_
                  refine lv_iload hx hb dX8_haste_84 (lv_at hl 2 rfl) ?_
                  refine lv_icmp_gt (tgt := 92) hx hb dX8_haste_86 (by decide) (fun c_114 => ?_) (fun c_114 => ?_)
                  · have fc_114 : v_107.toInt < r_110.toInt := zf_lt c_114 rfl rfl
                    refine lv_iload hx hb dX8_haste_92 (lv_at hl 1 rfl) ?_
                    refine lv_istore_n (lv' := [(3, .int i_66), (6, .int r_110), (5, .int i_66), (4, .int v_107), (0, .ref m0), (1, .int 4), (2, .int w)]) hx hb dX8_haste_94 rfl hl (by decide) rfl (fun ls hl => ?_)
                    refine lv_iload hx hb dX8_haste_95 (lv_at hl 1 rfl) ?_
                    refine lv_istore (lv' := [(4, .int r_110), (3, .int i_66), (6, .int r_110), (5, .int i_66), (0, .ref m0), (1, .int 4), (2, .int w)]) hx hb dX8_haste_97 hl (by decide) rfl (fun ls hl => ?_)
                    obtain ⟨x_115, ex_115⟩ : ∃ y : Int32, y = i_66 + 1 := ⟨_, rfl⟩
                    have qx_115 : x_115.toInt = i_66.toInt + 1 := dw_incK ex_115 fc_109 (by decide)
                    refine lv_iinc (v := x_115) (lv' := [(5, .int x_115), (4, .int r_110), (3, .int i_66), (6, .int r_110), (0, .ref m0), (1, .int 4), (2, .int w)]) hx hb dX8_haste_99 hl (k := 3) rfl ex_115.symm (by decide) rfl (fun ls hl => ?_)
                    refine lv_goto (tgt := 66) hx hb dX8_haste_102 (by decide) ?_
                    exact ih x_115 i_66 r_110 _ _ _ (hP.sub [1, 0, 2, 3, 4] rfl) (hD.sub [1, 0, 2, 3, 4] (by decide) rfl) hS (lv_sub hl [0, 1, 2, 4, 5, 6] rfl) ⟨by omega, by omega⟩ ⟨by omega, by omega⟩ (show ((x_115.toInt = 0 ∧ (i_66 : Int32).toInt = 0 ∧ (r_110 : Int32).toInt = -1) ∨ (1 ≤ x_115.toInt ∧ (i_66 : Int32).toInt = (zHs (zHv gki gpa gta npu.toInt.toNat 4 nde.toInt nse.toInt) (x_115.toInt - 1).toNat : Nat) ∧ (r_110 : Int32).toInt = (zHv gki gpa gta npu.toInt.toNat 4 nde.toInt nse.toInt) (zHs (zHv gki gpa gta npu.toInt.toNat 4 nde.toInt nse.toInt) (x_115.toInt - 1).toNat))) from by (have y1 : (zHv gki gpa gta npu.toInt.toNat 4 nde.toInt nse.toInt) i_66.toInt.toNat = r_110.toInt := (by have z := hsr_110_0; unfold zHv; rw [show ((i_66.toInt.toNat : Nat) : Int) = i_66.toInt from by omega]; exact z.symm); have hx : (x_115.toInt - 1).toNat = i_66.toInt.toNat := (by omega); refine Or.inr ⟨by omega, ?_⟩; rw [hx]; rcases hvi_66_0 with ⟨w1, w2, w3⟩ | ⟨w1, w2, w3⟩; (have h0 : i_66.toInt.toNat = 0 := (by omega); rw [h0] at y1 ⊢; first | (exact ⟨by (show _ = ((0 : Nat) : Int); omega), y1.symm⟩) | (exfalso; omega)); (have h1 : i_66.toInt.toNat = (i_66.toInt - 1).toNat + 1 := (by omega); rw [h1] at y1 ⊢; rw [zHs_s, y1, ← w3]; first | (rw [if_pos (by omega)]; exact ⟨by omega, y1.symm⟩) | (rw [if_neg (by omega)]; exact ⟨w2, w3⟩)))) (show x_115.toInt ≤ 10 from by omega) (dw_lo hloi_66 qx_115) (dw_hn hni_66 qx_115)
                  · have fc_114 : r_110.toInt ≤ v_107.toInt := zf_nlt c_114 rfl rfl
                    refine lv_goto (tgt := 99) hx hb dX8_haste_89 (by decide) ?_
                    obtain ⟨x_116, ex_116⟩ : ∃ y : Int32, y = i_66 + 1 := ⟨_, rfl⟩
                    have qx_116 : x_116.toInt = i_66.toInt + 1 := dw_incK ex_116 fc_109 (by decide)
                    refine lv_iinc (v := x_116) (lv' := [(5, .int x_116), (6, .int r_110), (4, .int v_107), (3, .int v_106), (0, .ref m0), (1, .int 4), (2, .int w)]) hx hb dX8_haste_99 hl (k := 1) rfl ex_116.symm (by decide) rfl (fun ls hl => ?_)
                    refine lv_goto (tgt := 66) hx hb dX8_haste_102 (by decide) ?_
                    exact ih x_116 v_106 v_107 _ _ _ (hP.sub [1, 0, 2, 3, 4] rfl) (hD.sub [1, 0, 2, 3, 4] (by decide) rfl) hS (lv_sub hl [0, 2, 3, 4, 5, 6] rfl) hbv_106 hbv_107 (show ((x_116.toInt = 0 ∧ (v_106 : Int32).toInt = 0 ∧ (v_107 : Int32).toInt = -1) ∨ (1 ≤ x_116.toInt ∧ (v_106 : Int32).toInt = (zHs (zHv gki gpa gta npu.toInt.toNat 4 nde.toInt nse.toInt) (x_116.toInt - 1).toNat : Nat) ∧ (v_107 : Int32).toInt = (zHv gki gpa gta npu.toInt.toNat 4 nde.toInt nse.toInt) (zHs (zHv gki gpa gta npu.toInt.toNat 4 nde.toInt nse.toInt) (x_116.toInt - 1).toNat))) from by (have y1 : (zHv gki gpa gta npu.toInt.toNat 4 nde.toInt nse.toInt) i_66.toInt.toNat = r_110.toInt := (by have z := hsr_110_0; unfold zHv; rw [show ((i_66.toInt.toNat : Nat) : Int) = i_66.toInt from by omega]; exact z.symm); have hx : (x_116.toInt - 1).toNat = i_66.toInt.toNat := (by omega); refine Or.inr ⟨by omega, ?_⟩; rw [hx]; rcases hvi_66_0 with ⟨w1, w2, w3⟩ | ⟨w1, w2, w3⟩; (have h0 : i_66.toInt.toNat = 0 := (by omega); rw [h0] at y1 ⊢; first | (exact ⟨by (show _ = ((0 : Nat) : Int); omega), y1.symm⟩) | (exfalso; omega)); (have h1 : i_66.toInt.toNat = (i_66.toInt - 1).toNat + 1 := (by omega); rw [h1] at y1 ⊢; rw [zHs_s, y1, ← w3]; first | (rw [if_pos (by omega)]; exact ⟨by omega, y1.symm⟩) | (rw [if_neg (by omega)]; exact ⟨w2, w3⟩)))) (show x_116.toInt ≤ 10 from by omega) (dw_lo hloi_66 qx_116) (dw_hn hni_66 qx_116)
            · have fc_105 : w.toInt = 1 := zf_eq c_105 rfl (by decide)
              refine lv_aload_n hx hb dX8_haste_36 rfl (lv_at hl 0 rfl) ?_
              refine lv_iload_n hx hb dX8_haste_37 rfl (lv_at hl 1 rfl) ?_
              refine lv_bipush (v := 9) hx hb dX8_haste_38 (by decide) ?_
              have kc9 : (9 : Int32).toInt = 9 := by decide
              skip
              refine zw_V (As := [.int 4, .int 9]) (rest := []) (wr := [(mrf, .inl (cI, 8, .inl grf))]) ⟨hx, hb, hml, hown, hts⟩ (c_F_M_casesIn_4 l D cI cJ cZ cP cS po m0 mrf mki mpa mta mla msl mco mhe mso msi msh mce mca mwo mnu mte mwa mke mma mth mtr (npu) (nte) (nat_) (nde) (nto) (nse) (nhu) (nga) (nsd) (nfa) (nba) (npl) (nen) (nnu) (nwr) (nra) (nik) gki gpa gta (9) hy0 hy1 hy2 hy3 hy4 hy5 hy6 hy7 hy8 hy9 hy10 hy11 hy12 hy13 (by omega) (by omega) hy14 hy15 hp_gki hp_gpa hp_gta H.size) (cwV 2 hts gX8_haste_X8_casesIn rfl rfl rfl ⟨rfl, dh_X8_casesIn⟩ ⟨Nat.le_of_ble_eq_true rfl, Nat.le_of_ble_eq_true rfl⟩) hK hN (hZ.kept hS) hP hD hS hA [0, 2, 3, 4] [1] rfl rfl (by decide) (by decide) (by decide) (va_recv (q := (RX8, TX8, 38)) hK hP (ci := 8) (q0 := 0) rfl rfl) rfl hl.1 rfl (Nat.le_of_ble_eq_true rfl) dX8_haste_40 ⟨Nat.le_of_ble_eq_true rfl, Nat.le_of_ble_eq_true rfl⟩ (fun r_117 u_118 H locs hr_117 hP hD hS => ?_)
              obtain ⟨hsr_117_0, hr_117⟩ := hr_117
              have h9R := zRe (ws' := [(mrf, .inl (cI, 8, .inl grf)), (zMO m0 npu nte nat_ nde nto nse nhu nga nsd nfa mrf mki mpa mta mla msl mco mhe mso msi msh mce mca mwo mnu mte nba npl nen nnu nwr mwa mke mma mth mtr nra nik), (mki, .inl (cI, 8, .inl gki)), (mpa, .inl (cI, 8, .inl gpa)), (mta, .inl (cI, 8, .inl gta))]) hP hD rfl
              clear hP hD
              obtain ⟨hP, hD⟩ := h9R
              obtain ⟨g_119, g_120⟩ := hr_117
              refine lv_aload_n hx hb dX8_haste_43 rfl (lv_at hl 0 rfl) ?_
              refine lv_iload_n hx hb dX8_haste_44 rfl (lv_at hl 1 rfl) ?_
              refine lv_iconst (v := 0) hx hb dX8_haste_45 (by decide) ?_
              have kc0 : (0 : Int32).toInt = 0 := by decide
              skip
              refine zw_V (As := [.int 4, .int 0]) (rest := [.int r_117]) (wr := [(mrf, .inl (cI, 8, .inl grf))]) ⟨hx, hb, hml, hown, hts⟩ (c_F_M_casesIn_4 l D cI cJ cZ cP cS po m0 mrf mki mpa mta mla msl mco mhe mso msi msh mce mca mwo mnu mte mwa mke mma mth mtr (npu) (nte) (nat_) (nde) (nto) (nse) (nhu) (nga) (nsd) (nfa) (nba) (npl) (nen) (nnu) (nwr) (nra) (nik) gki gpa gta (0) hy0 hy1 hy2 hy3 hy4 hy5 hy6 hy7 hy8 hy9 hy10 hy11 hy12 hy13 (by omega) (by omega) hy14 hy15 hp_gki hp_gpa hp_gta H.size) (cwV 2 hts gX8_haste_X8_casesIn rfl rfl rfl ⟨rfl, dh_X8_casesIn⟩ ⟨Nat.le_of_ble_eq_true rfl, Nat.le_of_ble_eq_true rfl⟩) hK hN (hZ.kept hS) hP hD hS hA [1, 2, 3, 4] [0] rfl rfl (by decide) (by decide) (by decide) (va_recv (q := (RX8, TX8, 38)) hK hP (ci := 8) (q0 := 1) rfl rfl) rfl hl.1 rfl (Nat.le_of_ble_eq_true rfl) dX8_haste_46 ⟨Nat.le_of_ble_eq_true rfl, Nat.le_of_ble_eq_true rfl⟩ (fun r_121 u_122 H locs hr_121 hP hD hS => ?_)
              obtain ⟨hsr_121_0, hr_121⟩ := hr_121
              have h9R := zRe (ws' := [(mrf, .inl (cI, 8, .inl grf)), (zMO m0 npu nte nat_ nde nto nse nhu nga nsd nfa mrf mki mpa mta mla msl mco mhe mso msi msh mce mca mwo mnu mte nba npl nen nnu nwr mwa mke mma mth mtr nra nik), (mki, .inl (cI, 8, .inl gki)), (mpa, .inl (cI, 8, .inl gpa)), (mta, .inl (cI, 8, .inl gta))]) hP hD rfl
              clear hP hD
              obtain ⟨hP, hD⟩ := h9R
              obtain ⟨g_123, g_124⟩ := hr_121
              refine lv_icmp_ge (tgt := 56) hx hb dX8_haste_49 (by decide) (fun c_125 => ?_) (fun c_125 => ?_)
              · have fc_125 : r_121.toInt ≤ r_117.toInt := zf_le c_125 rfl rfl
                refine lv_iconst (v := 0) hx hb dX8_haste_56 (by decide) ?_
                exact W.iret (v := 0) hx hb hr (fun t ht hW => ⟨⟨0, grf, rfl, ⟨(show ((w.toInt < 0 ∨ 1 < w.toInt) ∧ (0 : Int32).toInt = -5) ∨ ((0 ≤ w.toInt ∧ w.toInt ≤ 1) ∧ ((((4 : Int32).toInt < 0 ∨ 4 < (4 : Int32).toInt) ∧ (0 : Int32).toInt = -6) ∨ ((0 ≤ (4 : Int32).toInt ∧ (4 : Int32).toInt ≤ 4) ∧ ((w.toInt = 1 ∧ (0 : Int32).toInt = (if (zHv gki gpa gta npu.toInt.toNat (4 : Int32).toInt.toNat nde.toInt nse.toInt) 9 < (zHv gki gpa gta npu.toInt.toNat (4 : Int32).toInt.toNat nde.toInt nse.toInt) 0 then 1 else 0)) ∨ (w.toInt = 0 ∧ (0 : Int32).toInt = (zHs (zHv gki gpa gta npu.toInt.toNat (4 : Int32).toInt.toNat nde.toInt nse.toInt) 9 : Nat)))))) from by (have k0 : (0 : Int32).toInt = 0 := (by decide); have k4 : (4 : Int32).toInt = 4 := (by decide); have k9 : (0 : Int32).toInt = 0 := (by decide); have k9_ : (9 : Int32).toInt = 9 := (by decide); have k0_ : (0 : Int32).toInt = 0 := (by decide); refine Or.inr ⟨by omega, Or.inr ⟨by omega, Or.inl ⟨by omega, (by rw [show (4 : Int32).toInt.toNat = 4 from by decide]; have z1 := hsr_117_0; have z2 := hsr_121_0; rw [k9_] at z1; rw [k0_] at z2; have y1 : (zHv gki gpa gta npu.toInt.toNat 4 nde.toInt nse.toInt) 9 = r_117.toInt := z1.symm; have y2 : (zHv gki gpa gta npu.toInt.toNat 4 nde.toInt nse.toInt) 0 = r_121.toInt := z2.symm; rw [y1, y2]; first | (rw [if_neg (by omega)]; omega) | (rw [if_pos (by omega)]; omega))⟩⟩⟩)), trivial⟩, zRet ht hP hD [1, 0, 2, 3, 4] (by decide) rfl⟩, hS.F ht⟩) hS.2.2 dX8_haste_57
              · have fc_125 : r_117.toInt < r_121.toInt := zf_nle c_125 rfl rfl
                refine lv_iconst (v := 1) hx hb dX8_haste_52 (by decide) ?_
                refine lv_goto (tgt := 57) hx hb dX8_haste_53 (by decide) ?_
                exact W.iret (v := 1) hx hb hr (fun t ht hW => ⟨⟨1, grf, rfl, ⟨(show ((w.toInt < 0 ∨ 1 < w.toInt) ∧ (1 : Int32).toInt = -5) ∨ ((0 ≤ w.toInt ∧ w.toInt ≤ 1) ∧ ((((4 : Int32).toInt < 0 ∨ 4 < (4 : Int32).toInt) ∧ (1 : Int32).toInt = -6) ∨ ((0 ≤ (4 : Int32).toInt ∧ (4 : Int32).toInt ≤ 4) ∧ ((w.toInt = 1 ∧ (1 : Int32).toInt = (if (zHv gki gpa gta npu.toInt.toNat (4 : Int32).toInt.toNat nde.toInt nse.toInt) 9 < (zHv gki gpa gta npu.toInt.toNat (4 : Int32).toInt.toNat nde.toInt nse.toInt) 0 then 1 else 0)) ∨ (w.toInt = 0 ∧ (1 : Int32).toInt = (zHs (zHv gki gpa gta npu.toInt.toNat (4 : Int32).toInt.toNat nde.toInt nse.toInt) 9 : Nat)))))) from by (have k1 : (1 : Int32).toInt = 1 := (by decide); have k4 : (4 : Int32).toInt = 4 := (by decide); have k9 : (1 : Int32).toInt = 1 := (by decide); have k9_ : (9 : Int32).toInt = 9 := (by decide); have k0_ : (0 : Int32).toInt = 0 := (by decide); refine Or.inr ⟨by omega, Or.inr ⟨by omega, Or.inl ⟨by omega, (by rw [show (4 : Int32).toInt.toNat = 4 from by decide]; have z1 := hsr_117_0; have z2 := hsr_121_0; rw [k9_] at z1; rw [k0_] at z2; have y1 : (zHv gki gpa gta npu.toInt.toNat 4 nde.toInt nse.toInt) 9 = r_117.toInt := z1.symm; have y2 : (zHv gki gpa gta npu.toInt.toNat 4 nde.toInt nse.toInt) 0 = r_121.toInt := z2.symm; rw [y1, y2]; first | (rw [if_pos (by omega)]; omega) | (rw [if_neg (by omega)]; omega))⟩⟩⟩)), trivial⟩, zRet ht hP hD [1, 0, 2, 3, 4] (by decide) rfl⟩, hS.F ht⟩) hS.2.2 dX8_haste_57
        · exact absurd c_20 (by decide)
    · have fc_5 : 1 < w.toInt := zf_nle c_5 rfl (by decide)
      refine lv_aload_n hx hb dX8_haste_9 rfl (lv_at hl 0 rfl) ?_
      refine lv_bipush (v := (-5)) hx hb dX8_haste_10 (by decide) ?_
      skip
      refine zw_V (As := [.int (-5)]) (rest := []) (wr := [(mki, .inl (cI, 8, .inl gki)), (mpa, .inl (cI, 8, .inl gpa)), (mta, .inl (cI, 8, .inl gta))]) ⟨hx, hb, hml, hown, hts⟩ (c_M_no_5 l D cI cJ cZ cP cS po m0 mrf mki mpa mta mla msl mco mhe mso msi msh mce mca mwo mnu mte mwa mke mma mth mtr (npu) (nte) (nat_) (nde) (nto) (nse) (nhu) (nga) (nsd) (nfa) (nba) (npl) (nen) (nnu) (nwr) (nra) (nik) grf hy0 hy1 hy2 hy3 hy4 hy5 hy6 hy7 hy8 hy9 hy10 hy11 hy12 hy13 H.size) (cwV 1 hts gX8_haste_X8_no rfl rfl rfl ⟨rfl, dh_X8_no⟩ ⟨Nat.le_of_ble_eq_true rfl, Nat.le_of_ble_eq_true rfl⟩) hK hN (hZ.kept hS) hP hD hS hA [0, 1] [2, 3, 4] rfl rfl (by decide) (by decide) (by decide) (va_recv (q := (RX8, TX8, 38)) hK hP (ci := 8) (q0 := 0) rfl rfl) rfl hl.1 rfl (Nat.le_of_ble_eq_true rfl) dX8_haste_12 ⟨Nat.le_of_ble_eq_true rfl, Nat.le_of_ble_eq_true rfl⟩ (fun r_126 u_127 H locs hr_126 hP hD hS => ?_)
      obtain ⟨q_128, rfl⟩ : ∃ z, z = u_127 := ⟨_, rfl⟩
      have h9R := zRe (ws' := [(mki, .inl (cI, 8, .inl gki)), (mpa, .inl (cI, 8, .inl gpa)), (mta, .inl (cI, 8, .inl gta)), (zMO m0 npu nte nat_ nde nto nse nhu nga nsd nfa mrf mki mpa mta mla msl mco mhe mso msi msh mce mca mwo mnu mte nba npl nen nnu nwr mwa mke mma mth mtr nra nik), (mrf, .inl (cI, 8, .inl q_128))]) hP hD rfl
      clear hP hD
      obtain ⟨hP, hD⟩ := h9R
      obtain rfl := hr_126
      exact W.iret (v := (-5)) hx hb hr (fun t ht hW => ⟨⟨(-5), q_128, rfl, ⟨(show ((w.toInt < 0 ∨ 1 < w.toInt) ∧ ((-5) : Int32).toInt = -5) ∨ ((0 ≤ w.toInt ∧ w.toInt ≤ 1) ∧ (((n.toInt < 0 ∨ 4 < n.toInt) ∧ ((-5) : Int32).toInt = -6) ∨ ((0 ≤ n.toInt ∧ n.toInt ≤ 4) ∧ ((w.toInt = 1 ∧ ((-5) : Int32).toInt = (if (zHv gki gpa gta npu.toInt.toNat n.toInt.toNat nde.toInt nse.toInt) 9 < (zHv gki gpa gta npu.toInt.toNat n.toInt.toNat nde.toInt nse.toInt) 0 then 1 else 0)) ∨ (w.toInt = 0 ∧ ((-5) : Int32).toInt = (zHs (zHv gki gpa gta npu.toInt.toNat n.toInt.toNat nde.toInt nse.toInt) 9 : Nat)))))) from by (have k5m : ((-5) : Int32).toInt = -5 := (by decide); have k9 : ((-5) : Int32).toInt = -5 := (by decide); omega)), trivial⟩, zRet ht hP hD [3, 4, 0, 1, 2] (by decide) rfl⟩, hS.F ht⟩) hS.2.2 dX8_haste_15
end
section
set_option maxHeartbeats 4000000 in
set_option maxRecDepth 100000 in
theorem c_F_M_draw_6 (l : Launch) (D : va_G) (cI cJ cZ cP cS : ClassId) (po : zPool) (m0 mrf mki mpa mta mla msl mco mhe mso msi msh mce mca mwo mnu mte mwa mke mma mth mtr : Nat) (npu nte nat_ nde nto nse nhu nga nsd nfa nba npl nen nnu nwr nra nik : Int32) (hy0 : 0 ≤ npu.toInt) (hy1 : npu.toInt ≤ 8) (hy2 : 4 ≤ nte.toInt) (hy3 : nte.toInt ≤ 40) (hy4 : 0 ≤ nat_.toInt) (hy5 : nat_.toInt ≤ 40) (hy6 : 0 ≤ nde.toInt) (hy7 : nde.toInt ≤ 24) (hy8 : 0 ≤ nhu.toInt) (hy9 : nhu.toInt ≤ 9) (hy10 : 0 ≤ nra.toInt) (hy11 : nra.toInt ≤ 2000) (hy12 : 0 ≤ nik.toInt) (hy13 : nik.toInt ≤ 1) (hpz : Nat) : Met l yX8_draw wsX8_draw ({ frames := 0, cells := 0, slots := 0, locals := 0 }) (va_Pc [.ref m0, .int 6] (zW D (zKT cI cJ cZ cP cS) po [(zMO m0 npu nte nat_ nde nto nse nhu nga nsd nfa mrf mki mpa mta mla msl mco mhe mso msi msh mce mca mwo mnu mte nba npl nen nnu nwr mwa mke mma mth mtr nra nik)] hpz)) (va_Qi (fun (r : Int32) (nsd2 : (Int32)) => (nsd2 = zSd nsd) ∧ (r.toInt = zDr nsd 6) ∧ (0 ≤ r.toInt ∧ r.toInt ≤ 5)) (zB D [(zMO m0 npu nte nat_ nde nto nse nhu nga nsd nfa mrf mki mpa mta mla msl mco mhe mso msi msh mce mca mwo mnu mte nba npl nen nnu nwr mwa mke mma mth mtr nra nik)] hpz (fun (nsd2 : Int32) => [(zMO m0 npu nte nat_ nde nto nse nhu nga nsd2 nfa mrf mki mpa mta mla msl mco mhe mso msi msh mce mca mwo mnu mte nba npl nen nnu nwr mwa mke mma mth mtr nra nik)])) (va_A [(zMO m0 npu nte nat_ nde nto nse nhu nga nsd nfa mrf mki mpa mta mla msl mco mhe mso msi msh mce mca mwo mnu mte nba npl nen nnu nwr mwa mke mma mth mtr nra nik)] hpz)) 0 0 (va_A [(zMO m0 npu nte nat_ nde nto nse nhu nga nsd nfa mrf mki mpa mta mla msl mco mhe mso msi msh mce mca mwo mnu mte nba npl nen nnu nwr mwa mke mma mth mtr nra nik)] hpz) := by
  refine Met.ofW (cc := cX8_draw) (maxL := 2) (ret := (some .int)) (by decide) rfl ?_
  intro p e s m args below meth c s₁ B hml hv
  obtain ⟨rfl, hsz, hP, hK, hD0, hN, hZ⟩ := hv
  have hx := B.exec
  have hb := B.bytes
  have hr := B.returns
  have hts := atoms_spec (ws := wsX8_draw) B.pre
  have hown : s.vm.findClass RX8 = some m.cls := findClass_of_methodNamed B.named
  have hlocks := B.notSynchronized
  subst hsz
  have hD := hD0.self (sz := s.heap.size)
  have hA := zA_of hD
  have hl := lv_entry ([.ref m0, .int 6]) (n := 2) (Nat.le_of_ble_eq_true rfl)
  rw [lg_entry_eq]
  generalize (lg_sl ([.ref m0, .int 6]) ++ List.replicate (2 - (lg_sl ([.ref m0, .int 6])).length) Slot.unset).toArray = ls at hl ⊢
  replace hl : lv_has ls 2 [(0, .ref m0), (1, .int 6)] := hl
  refine zw_begin hP hD (fun H locs hP1 hS => ?_)
  clear hP
  have hP := hP1
  clear hP1
  refine lv_aload_n hx hb dX8_draw_0 rfl (lv_at hl 0 rfl) ?_
  refine lv_aload_n hx hb dX8_draw_1 rfl (lv_at hl 0 rfl) ?_
  refine va_get (D := D) (ci := 8) (v := .int nsd) (C := RX8) (T := TX8) (N := 38) hx hb hts hi_X8_draw_8 hown hK hP 0 rfl rfl 8 (by decide) (hts (.fieldLink RX8 19 "TheLiningsInItModel" "seed" "I") (List.mem_of_getElem? (i := 1) rfl)) (fun _ h9 => h9) rfl dX8_draw_2 ?_
  refine lv_ldcw (own := RX8) (v := 1103515245) hx hb hown (hts _ (List.mem_of_getElem? (i := 2) rfl)) dX8_draw_5 ?_
  refine lv_imul hx hb dX8_draw_8 ?_
  refine lv_topi (fun x_1 ex_1 => ?_)
  refine lv_sipush (v := 12345) hx hb dX8_draw_9 (by decide) ?_
  refine lv_iadd hx hb dX8_draw_12 ?_
  refine lv_topi (fun x_2 ex_2 => ?_)
  refine va_put (D := D) (ci := 8) (v := .int x_2) (ty := .int) (C := RX8) (T := TX8) (N := 38) hx hb hts hi_X8_draw_8 tyX8 tyX8_ok nmX8 hown hK hP hD hS 0 rfl rfl 8 (by decide) (hts (.fieldLink RX8 19 "TheLiningsInItModel" "seed" "I") (List.mem_of_getElem? (i := 1) rfl)) (fun _ h9 => h9) rfl (tyX8_ok 8 (Nat.le_of_ble_eq_true rfl)) rfl rfl (Nat.le_of_ble_eq_true rfl) dX8_draw_13 (fun H locs hP hD hS => ?_)
  have h9R := zRe (ws' := [(zMO m0 npu nte nat_ nde nto nse nhu nga x_2 nfa mrf mki mpa mta mla msl mco mhe mso msi msh mce mca mwo mnu mte nba npl nen nnu nwr mwa mke mma mth mtr nra nik)]) hP hD rfl
  clear hP hD
  obtain ⟨hP, hD⟩ := h9R
  refine lv_aload_n hx hb dX8_draw_16 rfl (lv_at hl 0 rfl) ?_
  refine va_get (D := D) (ci := 8) (v := .int x_2) (C := RX8) (T := TX8) (N := 38) hx hb hts hi_X8_draw_8 hown hK hP 0 rfl rfl 8 (by decide) (hts (.fieldLink RX8 19 "TheLiningsInItModel" "seed" "I") (List.mem_of_getElem? (i := 1) rfl)) (fun _ h9 => h9) rfl dX8_draw_17 ?_
  refine lv_bipush (v := 16) hx hb dX8_draw_20 (by decide) ?_
  refine lv_iushr hx hb dX8_draw_22 rfl ?_
  refine lv_topi (fun x_3 ex_3 => ?_)
  have bx_3 : 0 ≤ x_3.toInt ∧ x_3.toInt ≤ 65535 := by rw [ex_3]; exact zf_ushr
  refine lv_iload_n hx hb dX8_draw_23 rfl (lv_at hl 1 rfl) ?_
  refine lv_irem hx hb dX8_draw_24 (by decide) ?_
  refine lv_topi (fun x_4 ex_4 => ?_)
  have qx_4 : x_4.toInt = x_3.toInt - x_3.toInt / 6 * 6 := by rw [ex_4]; exact zf_rem rfl (by decide) (by omega) (by omega)
  exact W.iret (v := x_4) hx hb hr (fun t ht hW => ⟨⟨x_4, x_2, rfl, ⟨(show x_2 = zSd nsd from by (rw [zSd_eq, ex_2, ex_1])), (show (x_4 : Int32).toInt = zDr nsd 6 from by (have hsd : x_2 = zSd nsd := (by rw [zSd_eq, ex_2, ex_1]); rw [zDr_eq, qx_4, ex_3, hsd])), ⟨by omega, by omega⟩⟩, zRet ht hP hD [0] (by decide) rfl⟩, hS.F ht⟩) hS.2.2 dX8_draw_25
set_option maxHeartbeats 4000000 in
set_option maxRecDepth 100000 in
theorem c_F_M_draw_10 (l : Launch) (D : va_G) (cI cJ cZ cP cS : ClassId) (po : zPool) (m0 mrf mki mpa mta mla msl mco mhe mso msi msh mce mca mwo mnu mte mwa mke mma mth mtr : Nat) (npu nte nat_ nde nto nse nhu nga nsd nfa nba npl nen nnu nwr nra nik : Int32) (hy0 : 0 ≤ npu.toInt) (hy1 : npu.toInt ≤ 8) (hy2 : 4 ≤ nte.toInt) (hy3 : nte.toInt ≤ 40) (hy4 : 0 ≤ nat_.toInt) (hy5 : nat_.toInt ≤ 40) (hy6 : 0 ≤ nde.toInt) (hy7 : nde.toInt ≤ 24) (hy8 : 0 ≤ nhu.toInt) (hy9 : nhu.toInt ≤ 9) (hy10 : 0 ≤ nra.toInt) (hy11 : nra.toInt ≤ 2000) (hy12 : 0 ≤ nik.toInt) (hy13 : nik.toInt ≤ 1) (hpz : Nat) : Met l yX8_draw wsX8_draw ({ frames := 0, cells := 0, slots := 0, locals := 0 }) (va_Pc [.ref m0, .int 10] (zW D (zKT cI cJ cZ cP cS) po [(zMO m0 npu nte nat_ nde nto nse nhu nga nsd nfa mrf mki mpa mta mla msl mco mhe mso msi msh mce mca mwo mnu mte nba npl nen nnu nwr mwa mke mma mth mtr nra nik)] hpz)) (va_Qi (fun (r : Int32) (nsd2 : (Int32)) => (nsd2 = zSd nsd) ∧ (r.toInt = zDr nsd 10) ∧ (0 ≤ r.toInt ∧ r.toInt ≤ 9)) (zB D [(zMO m0 npu nte nat_ nde nto nse nhu nga nsd nfa mrf mki mpa mta mla msl mco mhe mso msi msh mce mca mwo mnu mte nba npl nen nnu nwr mwa mke mma mth mtr nra nik)] hpz (fun (nsd2 : Int32) => [(zMO m0 npu nte nat_ nde nto nse nhu nga nsd2 nfa mrf mki mpa mta mla msl mco mhe mso msi msh mce mca mwo mnu mte nba npl nen nnu nwr mwa mke mma mth mtr nra nik)])) (va_A [(zMO m0 npu nte nat_ nde nto nse nhu nga nsd nfa mrf mki mpa mta mla msl mco mhe mso msi msh mce mca mwo mnu mte nba npl nen nnu nwr mwa mke mma mth mtr nra nik)] hpz)) 0 0 (va_A [(zMO m0 npu nte nat_ nde nto nse nhu nga nsd nfa mrf mki mpa mta mla msl mco mhe mso msi msh mce mca mwo mnu mte nba npl nen nnu nwr mwa mke mma mth mtr nra nik)] hpz) := by
  refine Met.ofW (cc := cX8_draw) (maxL := 2) (ret := (some .int)) (by decide) rfl ?_
  intro p e s m args below meth c s₁ B hml hv
  obtain ⟨rfl, hsz, hP, hK, hD0, hN, hZ⟩ := hv
  have hx := B.exec
  have hb := B.bytes
  have hr := B.returns
  have hts := atoms_spec (ws := wsX8_draw) B.pre
  have hown : s.vm.findClass RX8 = some m.cls := findClass_of_methodNamed B.named
  have hlocks := B.notSynchronized
  subst hsz
  have hD := hD0.self (sz := s.heap.size)
  have hA := zA_of hD
  have hl := lv_entry ([.ref m0, .int 10]) (n := 2) (Nat.le_of_ble_eq_true rfl)
  rw [lg_entry_eq]
  generalize (lg_sl ([.ref m0, .int 10]) ++ List.replicate (2 - (lg_sl ([.ref m0, .int 10])).length) Slot.unset).toArray = ls at hl ⊢
  replace hl : lv_has ls 2 [(0, .ref m0), (1, .int 10)] := hl
  refine zw_begin hP hD (fun H locs hP1 hS => ?_)
  clear hP
  have hP := hP1
  clear hP1
  refine lv_aload_n hx hb dX8_draw_0 rfl (lv_at hl 0 rfl) ?_
  refine lv_aload_n hx hb dX8_draw_1 rfl (lv_at hl 0 rfl) ?_
  refine va_get (D := D) (ci := 8) (v := .int nsd) (C := RX8) (T := TX8) (N := 38) hx hb hts hi_X8_draw_8 hown hK hP 0 rfl rfl 8 (by decide) (hts (.fieldLink RX8 19 "TheLiningsInItModel" "seed" "I") (List.mem_of_getElem? (i := 1) rfl)) (fun _ h9 => h9) rfl dX8_draw_2 ?_
  refine lv_ldcw (own := RX8) (v := 1103515245) hx hb hown (hts _ (List.mem_of_getElem? (i := 2) rfl)) dX8_draw_5 ?_
  refine lv_imul hx hb dX8_draw_8 ?_
  refine lv_topi (fun x_1 ex_1 => ?_)
  refine lv_sipush (v := 12345) hx hb dX8_draw_9 (by decide) ?_
  refine lv_iadd hx hb dX8_draw_12 ?_
  refine lv_topi (fun x_2 ex_2 => ?_)
  refine va_put (D := D) (ci := 8) (v := .int x_2) (ty := .int) (C := RX8) (T := TX8) (N := 38) hx hb hts hi_X8_draw_8 tyX8 tyX8_ok nmX8 hown hK hP hD hS 0 rfl rfl 8 (by decide) (hts (.fieldLink RX8 19 "TheLiningsInItModel" "seed" "I") (List.mem_of_getElem? (i := 1) rfl)) (fun _ h9 => h9) rfl (tyX8_ok 8 (Nat.le_of_ble_eq_true rfl)) rfl rfl (Nat.le_of_ble_eq_true rfl) dX8_draw_13 (fun H locs hP hD hS => ?_)
  have h9R := zRe (ws' := [(zMO m0 npu nte nat_ nde nto nse nhu nga x_2 nfa mrf mki mpa mta mla msl mco mhe mso msi msh mce mca mwo mnu mte nba npl nen nnu nwr mwa mke mma mth mtr nra nik)]) hP hD rfl
  clear hP hD
  obtain ⟨hP, hD⟩ := h9R
  refine lv_aload_n hx hb dX8_draw_16 rfl (lv_at hl 0 rfl) ?_
  refine va_get (D := D) (ci := 8) (v := .int x_2) (C := RX8) (T := TX8) (N := 38) hx hb hts hi_X8_draw_8 hown hK hP 0 rfl rfl 8 (by decide) (hts (.fieldLink RX8 19 "TheLiningsInItModel" "seed" "I") (List.mem_of_getElem? (i := 1) rfl)) (fun _ h9 => h9) rfl dX8_draw_17 ?_
  refine lv_bipush (v := 16) hx hb dX8_draw_20 (by decide) ?_
  refine lv_iushr hx hb dX8_draw_22 rfl ?_
  refine lv_topi (fun x_3 ex_3 => ?_)
  have bx_3 : 0 ≤ x_3.toInt ∧ x_3.toInt ≤ 65535 := by rw [ex_3]; exact zf_ushr
  refine lv_iload_n hx hb dX8_draw_23 rfl (lv_at hl 1 rfl) ?_
  refine lv_irem hx hb dX8_draw_24 (by decide) ?_
  refine lv_topi (fun x_4 ex_4 => ?_)
  have qx_4 : x_4.toInt = x_3.toInt - x_3.toInt / 10 * 10 := by rw [ex_4]; exact zf_rem rfl (by decide) (by omega) (by omega)
  exact W.iret (v := x_4) hx hb hr (fun t ht hW => ⟨⟨x_4, x_2, rfl, ⟨(show x_2 = zSd nsd from by (rw [zSd_eq, ex_2, ex_1])), (show (x_4 : Int32).toInt = zDr nsd 10 from by (have hsd : x_2 = zSd nsd := (by rw [zSd_eq, ex_2, ex_1]); rw [zDr_eq, qx_4, ex_3, hsd])), ⟨by omega, by omega⟩⟩, zRet ht hP hD [0] (by decide) rfl⟩, hS.F ht⟩) hS.2.2 dX8_draw_25
set_option maxHeartbeats 4000000 in
set_option maxRecDepth 100000 in
theorem c_F_M_draw_12 (l : Launch) (D : va_G) (cI cJ cZ cP cS : ClassId) (po : zPool) (m0 mrf mki mpa mta mla msl mco mhe mso msi msh mce mca mwo mnu mte mwa mke mma mth mtr : Nat) (npu nte nat_ nde nto nse nhu nga nsd nfa nba npl nen nnu nwr nra nik : Int32) (hy0 : 0 ≤ npu.toInt) (hy1 : npu.toInt ≤ 8) (hy2 : 4 ≤ nte.toInt) (hy3 : nte.toInt ≤ 40) (hy4 : 0 ≤ nat_.toInt) (hy5 : nat_.toInt ≤ 40) (hy6 : 0 ≤ nde.toInt) (hy7 : nde.toInt ≤ 24) (hy8 : 0 ≤ nhu.toInt) (hy9 : nhu.toInt ≤ 9) (hy10 : 0 ≤ nra.toInt) (hy11 : nra.toInt ≤ 2000) (hy12 : 0 ≤ nik.toInt) (hy13 : nik.toInt ≤ 1) (hpz : Nat) : Met l yX8_draw wsX8_draw ({ frames := 0, cells := 0, slots := 0, locals := 0 }) (va_Pc [.ref m0, .int 12] (zW D (zKT cI cJ cZ cP cS) po [(zMO m0 npu nte nat_ nde nto nse nhu nga nsd nfa mrf mki mpa mta mla msl mco mhe mso msi msh mce mca mwo mnu mte nba npl nen nnu nwr mwa mke mma mth mtr nra nik)] hpz)) (va_Qi (fun (r : Int32) (nsd2 : (Int32)) => (nsd2 = zSd nsd) ∧ (r.toInt = zDr nsd 12) ∧ (0 ≤ r.toInt ∧ r.toInt ≤ 11)) (zB D [(zMO m0 npu nte nat_ nde nto nse nhu nga nsd nfa mrf mki mpa mta mla msl mco mhe mso msi msh mce mca mwo mnu mte nba npl nen nnu nwr mwa mke mma mth mtr nra nik)] hpz (fun (nsd2 : Int32) => [(zMO m0 npu nte nat_ nde nto nse nhu nga nsd2 nfa mrf mki mpa mta mla msl mco mhe mso msi msh mce mca mwo mnu mte nba npl nen nnu nwr mwa mke mma mth mtr nra nik)])) (va_A [(zMO m0 npu nte nat_ nde nto nse nhu nga nsd nfa mrf mki mpa mta mla msl mco mhe mso msi msh mce mca mwo mnu mte nba npl nen nnu nwr mwa mke mma mth mtr nra nik)] hpz)) 0 0 (va_A [(zMO m0 npu nte nat_ nde nto nse nhu nga nsd nfa mrf mki mpa mta mla msl mco mhe mso msi msh mce mca mwo mnu mte nba npl nen nnu nwr mwa mke mma mth mtr nra nik)] hpz) := by
  refine Met.ofW (cc := cX8_draw) (maxL := 2) (ret := (some .int)) (by decide) rfl ?_
  intro p e s m args below meth c s₁ B hml hv
  obtain ⟨rfl, hsz, hP, hK, hD0, hN, hZ⟩ := hv
  have hx := B.exec
  have hb := B.bytes
  have hr := B.returns
  have hts := atoms_spec (ws := wsX8_draw) B.pre
  have hown : s.vm.findClass RX8 = some m.cls := findClass_of_methodNamed B.named
  have hlocks := B.notSynchronized
  subst hsz
  have hD := hD0.self (sz := s.heap.size)
  have hA := zA_of hD
  have hl := lv_entry ([.ref m0, .int 12]) (n := 2) (Nat.le_of_ble_eq_true rfl)
  rw [lg_entry_eq]
  generalize (lg_sl ([.ref m0, .int 12]) ++ List.replicate (2 - (lg_sl ([.ref m0, .int 12])).length) Slot.unset).toArray = ls at hl ⊢
  replace hl : lv_has ls 2 [(0, .ref m0), (1, .int 12)] := hl
  refine zw_begin hP hD (fun H locs hP1 hS => ?_)
  clear hP
  have hP := hP1
  clear hP1
  refine lv_aload_n hx hb dX8_draw_0 rfl (lv_at hl 0 rfl) ?_
  refine lv_aload_n hx hb dX8_draw_1 rfl (lv_at hl 0 rfl) ?_
  refine va_get (D := D) (ci := 8) (v := .int nsd) (C := RX8) (T := TX8) (N := 38) hx hb hts hi_X8_draw_8 hown hK hP 0 rfl rfl 8 (by decide) (hts (.fieldLink RX8 19 "TheLiningsInItModel" "seed" "I") (List.mem_of_getElem? (i := 1) rfl)) (fun _ h9 => h9) rfl dX8_draw_2 ?_
  refine lv_ldcw (own := RX8) (v := 1103515245) hx hb hown (hts _ (List.mem_of_getElem? (i := 2) rfl)) dX8_draw_5 ?_
  refine lv_imul hx hb dX8_draw_8 ?_
  refine lv_topi (fun x_1 ex_1 => ?_)
  refine lv_sipush (v := 12345) hx hb dX8_draw_9 (by decide) ?_
  refine lv_iadd hx hb dX8_draw_12 ?_
  refine lv_topi (fun x_2 ex_2 => ?_)
  refine va_put (D := D) (ci := 8) (v := .int x_2) (ty := .int) (C := RX8) (T := TX8) (N := 38) hx hb hts hi_X8_draw_8 tyX8 tyX8_ok nmX8 hown hK hP hD hS 0 rfl rfl 8 (by decide) (hts (.fieldLink RX8 19 "TheLiningsInItModel" "seed" "I") (List.mem_of_getElem? (i := 1) rfl)) (fun _ h9 => h9) rfl (tyX8_ok 8 (Nat.le_of_ble_eq_true rfl)) rfl rfl (Nat.le_of_ble_eq_true rfl) dX8_draw_13 (fun H locs hP hD hS => ?_)
  have h9R := zRe (ws' := [(zMO m0 npu nte nat_ nde nto nse nhu nga x_2 nfa mrf mki mpa mta mla msl mco mhe mso msi msh mce mca mwo mnu mte nba npl nen nnu nwr mwa mke mma mth mtr nra nik)]) hP hD rfl
  clear hP hD
  obtain ⟨hP, hD⟩ := h9R
  refine lv_aload_n hx hb dX8_draw_16 rfl (lv_at hl 0 rfl) ?_
  refine va_get (D := D) (ci := 8) (v := .int x_2) (C := RX8) (T := TX8) (N := 38) hx hb hts hi_X8_draw_8 hown hK hP 0 rfl rfl 8 (by decide) (hts (.fieldLink RX8 19 "TheLiningsInItModel" "seed" "I") (List.mem_of_getElem? (i := 1) rfl)) (fun _ h9 => h9) rfl dX8_draw_17 ?_
  refine lv_bipush (v := 16) hx hb dX8_draw_20 (by decide) ?_
  refine lv_iushr hx hb dX8_draw_22 rfl ?_
  refine lv_topi (fun x_3 ex_3 => ?_)
  have bx_3 : 0 ≤ x_3.toInt ∧ x_3.toInt ≤ 65535 := by rw [ex_3]; exact zf_ushr
  refine lv_iload_n hx hb dX8_draw_23 rfl (lv_at hl 1 rfl) ?_
  refine lv_irem hx hb dX8_draw_24 (by decide) ?_
  refine lv_topi (fun x_4 ex_4 => ?_)
  have qx_4 : x_4.toInt = x_3.toInt - x_3.toInt / 12 * 12 := by rw [ex_4]; exact zf_rem rfl (by decide) (by omega) (by omega)
  exact W.iret (v := x_4) hx hb hr (fun t ht hW => ⟨⟨x_4, x_2, rfl, ⟨(show x_2 = zSd nsd from by (rw [zSd_eq, ex_2, ex_1])), (show (x_4 : Int32).toInt = zDr nsd 12 from by (have hsd : x_2 = zSd nsd := (by rw [zSd_eq, ex_2, ex_1]); rw [zDr_eq, qx_4, ex_3, hsd])), ⟨by omega, by omega⟩⟩, zRet ht hP hD [0] (by decide) rfl⟩, hS.F ht⟩) hS.2.2 dX8_draw_25
set_option maxHeartbeats 4000000 in
set_option maxRecDepth 100000 in
theorem c_F_M_makes (l : Launch) (D : va_G) (cI cJ cZ cP cS : ClassId) (po : zPool) (m0 mrf mki mpa mta mla msl mco mhe mso msi msh mce mca mwo mnu mte mwa mke mma mth mtr : Nat) (npu nte nat_ nde nto nse nhu nga nsd nfa nba npl nen nnu nwr nra nik : Int32) (gki gpa gta : Nat → Int32) (p_ : Int32) (hy0 : 0 ≤ npu.toInt) (hy1 : npu.toInt ≤ 8) (hy2 : 4 ≤ nte.toInt) (hy3 : nte.toInt ≤ 40) (hy4 : 0 ≤ nat_.toInt) (hy5 : nat_.toInt ≤ 40) (hy6 : 0 ≤ nde.toInt) (hy7 : nde.toInt ≤ 24) (hy8 : 0 ≤ nhu.toInt) (hy9 : nhu.toInt ≤ 9) (hy10 : 0 ≤ nra.toInt) (hy11 : nra.toInt ≤ 2000) (hy12 : 0 ≤ nik.toInt) (hy13 : nik.toInt ≤ 1) (hy14 : 0 ≤ p_.toInt) (hy15 : p_.toInt ≤ 7) (hy16 : 0 ≤ nse.toInt) (hy17 : nse.toInt ≤ 300) (htl : (gta p_.toNatClampNeg).toInt ≤ nse.toInt) (hp_gki : zRg gki (0) 6) (hp_gpa : zRg gpa (0) 9) (hp_gta : zRg gta (0) 60) (hpz : Nat) : Met l yX8_makes wsX8_makes ({ frames := 2, cells := 0, slots := 0, locals := 45 }) (va_Pc [.ref m0, .int p_] (zW D (zKT cI cJ cZ cP cS) po [(zMO m0 npu nte nat_ nde nto nse nhu nga nsd nfa mrf mki mpa mta mla msl mco mhe mso msi msh mce mca mwo mnu mte nba npl nen nnu nwr mwa mke mma mth mtr nra nik), (mki, .inl (cI, 8, .inl gki)), (mpa, .inl (cI, 8, .inl gpa)), (mta, .inl (cI, 8, .inl gta))] hpz)) (va_Qv (fun (u : (Int32) × (Int32) × (Int32) × (Int32)) => (0 ≤ u.1.toInt ∧ u.1.toInt ≤ 24) ∧ (zP1 (gki p_.toNatClampNeg).toInt (gpa p_.toNatClampNeg).toInt (gta p_.toNatClampNeg).toInt nhu.toInt (nde.toInt, nse.toInt, nto, nsd) = (u.1.toInt, u.2.2.1.toInt, u.2.1, u.2.2.2)) ∧ (u.2.2.1.toInt = nse.toInt - (gta p_.toNatClampNeg).toInt) ∧ (True)) (zB D [(zMO m0 npu nte nat_ nde nto nse nhu nga nsd nfa mrf mki mpa mta mla msl mco mhe mso msi msh mce mca mwo mnu mte nba npl nen nnu nwr mwa mke mma mth mtr nra nik), (mki, .inl (cI, 8, .inl gki)), (mpa, .inl (cI, 8, .inl gpa)), (mta, .inl (cI, 8, .inl gta))] hpz (fun (u : (Int32) × (Int32) × (Int32) × (Int32)) => [(zMO m0 npu nte nat_ u.1 u.2.1 u.2.2.1 nhu nga u.2.2.2 nfa mrf mki mpa mta mla msl mco mhe mso msi msh mce mca mwo mnu mte nba npl nen nnu nwr mwa mke mma mth mtr nra nik), (mki, .inl (cI, 8, .inl gki)), (mpa, .inl (cI, 8, .inl gpa)), (mta, .inl (cI, 8, .inl gta))])) (va_A [(zMO m0 npu nte nat_ nde nto nse nhu nga nsd nfa mrf mki mpa mta mla msl mco mhe mso msi msh mce mca mwo mnu mte nba npl nen nnu nwr mwa mke mma mth mtr nra nik), (mki, .inl (cI, 8, .inl gki)), (mpa, .inl (cI, 8, .inl gpa)), (mta, .inl (cI, 8, .inl gta))] hpz)) 0 0 (va_A [(zMO m0 npu nte nat_ nde nto nse nhu nga nsd nfa mrf mki mpa mta mla msl mco mhe mso msi msh mce mca mwo mnu mte nba npl nen nnu nwr mwa mke mma mth mtr nra nik), (mki, .inl (cI, 8, .inl gki)), (mpa, .inl (cI, 8, .inl gpa)), (mta, .inl (cI, 8, .inl gta))] hpz) := by
  refine Met.ofW (cc := cX8_makes) (maxL := 3) (ret := none) (by decide) rfl ?_
  intro p e s m args below meth c s₁ B hml hv
  obtain ⟨rfl, hsz, hP, hK, hD0, hN, hZ⟩ := hv
  have hx := B.exec
  have hb := B.bytes
  have hr := B.returns
  have hts := atoms_spec (ws := wsX8_makes) B.pre
  have hown : s.vm.findClass RX8 = some m.cls := findClass_of_methodNamed B.named
  have hlocks := B.notSynchronized
  subst hsz
  have hD := hD0.self (sz := s.heap.size)
  have hA := zA_of hD
  have hl := lv_entry ([.ref m0, .int p_]) (n := 3) (Nat.le_of_ble_eq_true rfl)
  rw [lg_entry_eq]
  generalize (lg_sl ([.ref m0, .int p_]) ++ List.replicate (3 - (lg_sl ([.ref m0, .int p_])).length) Slot.unset).toArray = ls at hl ⊢
  replace hl : lv_has ls 3 [(0, .ref m0), (1, .int p_)] := hl
  refine zw_begin hP hD (fun H locs hP1 hS => ?_)
  clear hP
  have hP := hP1
  clear hP1
  refine lv_aload_n hx hb dX8_makes_0 rfl (lv_at hl 0 rfl) ?_
  refine lv_bipush (v := 12) hx hb dX8_makes_1 (by decide) ?_
  skip
  refine zw_V (As := [.int 12]) (rest := []) (wr := [(mki, .inl (cI, 8, .inl gki)), (mpa, .inl (cI, 8, .inl gpa)), (mta, .inl (cI, 8, .inl gta))]) ⟨hx, hb, hml, hown, hts⟩ (c_F_M_draw_12 l D cI cJ cZ cP cS po m0 mrf mki mpa mta mla msl mco mhe mso msi msh mce mca mwo mnu mte mwa mke mma mth mtr (npu) (nte) (nat_) (nde) (nto) (nse) (nhu) (nga) (nsd) (nfa) (nba) (npl) (nen) (nnu) (nwr) (nra) (nik) hy0 hy1 hy2 hy3 hy4 hy5 hy6 hy7 hy8 hy9 hy10 hy11 hy12 hy13 H.size) (cwV 1 hts gX8_makes_X8_draw rfl rfl rfl ⟨rfl, dh_X8_draw⟩ ⟨Nat.le_of_ble_eq_true rfl, Nat.le_of_ble_eq_true rfl⟩) hK hN (hZ.kept hS) hP hD hS hA [0] [1, 2, 3] rfl rfl (by decide) (by decide) (by decide) (va_recv (q := (RX8, TX8, 38)) hK hP (ci := 8) (q0 := 0) rfl rfl) rfl hl.1 rfl (Nat.le_of_ble_eq_true rfl) dX8_makes_3 ⟨Nat.le_of_ble_eq_true rfl, Nat.le_of_ble_eq_true rfl⟩ (fun r_1 u_2 H locs hr_1 hP hD hS => ?_)
  obtain ⟨q_3, rfl⟩ : ∃ z, z = u_2 := ⟨_, rfl⟩
  obtain ⟨hsr_1_0, hsr_1_1, hr_1⟩ := hr_1
  have h9R := zRe (ws' := [(mki, .inl (cI, 8, .inl gki)), (mpa, .inl (cI, 8, .inl gpa)), (mta, .inl (cI, 8, .inl gta)), (zMO m0 npu nte nat_ nde nto nse nhu nga q_3 nfa mrf mki mpa mta mla msl mco mhe mso msi msh mce mca mwo mnu mte nba npl nen nnu nwr mwa mke mma mth mtr nra nik)]) hP hD rfl
  clear hP hD
  obtain ⟨hP, hD⟩ := h9R
  obtain ⟨g_4, g_5⟩ := hr_1
  refine lv_aload_n hx hb dX8_makes_6 rfl (lv_at hl 0 rfl) ?_
  refine lv_iload_n hx hb dX8_makes_7 rfl (lv_at hl 1 rfl) ?_
  refine lv_aload_n hx hb dX8_makes_8 rfl (lv_at hl 0 rfl) ?_
  refine va_get (D := D) (ci := 8) (v := .int nde) (C := RX8) (T := TX8) (N := 38) hx hb hts hi_X8_makes_8 hown hK hP 3 rfl rfl 3 (by decide) (hts (.fieldLink RX8 115 "TheLiningsInItModel" "depth" "I") (List.mem_of_getElem? (i := 1) rfl)) (fun _ h9 => h9) rfl dX8_makes_9 ?_
  refine zc_V (As := [.int p_, .int nde]) (rest := [.int r_1]) ⟨hx, hb, hml, hown, hts⟩ (c_F_M_ways l D cI cJ cZ cP cS po m0 mrf mki mpa mta mla msl mco mhe mso msi msh mce mca mwo mnu mte mwa mke mma mth mtr (npu) (nte) (nat_) (nde) (nto) (nse) (nhu) (nga) (q_3) (nfa) (nba) (npl) (nen) (nnu) (nwr) (nra) (nik) gki gpa (p_) (nde) hy0 hy1 hy2 hy3 hy4 hy5 hy6 hy7 hy8 hy9 hy10 hy11 hy12 hy13 hy14 hy15 hy6 hy7 hp_gki hp_gpa) (cwV 2 hts gX8_makes_X8_ways rfl rfl rfl ⟨rfl, dh_X8_ways⟩ ⟨Nat.le_of_ble_eq_true rfl, Nat.le_of_ble_eq_true rfl⟩) hK hN (hZ.kept hS) hP (hP.sub [3, 0, 1] rfl) (va_recv (q := (RX8, TX8, 38)) hK hP (ci := 8) (q0 := 3) rfl rfl) rfl hl.1 rfl (Nat.le_of_ble_eq_true rfl) dX8_makes_12 ⟨Nat.le_of_ble_eq_true rfl, Nat.le_of_ble_eq_true rfl⟩ (fun r_6 hr_6 => ?_)
  obtain ⟨g_7, g_8, hsr_6_0⟩ := hr_6
  refine lv_icmp_ge (tgt := 22) hx hb dX8_makes_15 (by decide) (fun c_9 => ?_) (fun c_9 => ?_)
  · have fc_9 : r_6.toInt ≤ r_1.toInt := zf_le c_9 rfl rfl
    refine lv_iconst (v := 0) hx hb dX8_makes_22 (by decide) ?_
    refine lv_istore_n (lv' := [(2, .int 0), (0, .ref m0), (1, .int p_)]) hx hb dX8_makes_23 rfl hl (by decide) rfl (fun ls hl => ?_)
    refine lv_aload_n hx hb dX8_makes_24 rfl (lv_at hl 1 rfl) ?_
    refine lv_aload_n hx hb dX8_makes_25 rfl (lv_at hl 1 rfl) ?_
    refine lv_iload_n hx hb dX8_makes_26 rfl (lv_at hl 2 rfl) ?_
    refine lv_aload_n hx hb dX8_makes_27 rfl (lv_at hl 1 rfl) ?_
    refine va_get (D := D) (ci := 8) (v := .int nde) (C := RX8) (T := TX8) (N := 38) hx hb hts hi_X8_makes_8 hown hK hP 3 rfl rfl 3 (by decide) (hts (.fieldLink RX8 115 "TheLiningsInItModel" "depth" "I") (List.mem_of_getElem? (i := 1) rfl)) (fun _ h9 => h9) rfl dX8_makes_28 ?_
    refine lv_iload_n hx hb dX8_makes_31 rfl (lv_at hl 0 rfl) ?_
    have kc0 : (0 : Int32).toInt = 0 := by decide
    refine zc_V (As := [.int p_, .int nde, .int 0]) (rest := [.ref m0]) ⟨hx, hb, hml, hown, hts⟩ (c_F_M_deep l D cI cJ cZ cP cS po m0 mrf mki mpa mta mla msl mco mhe mso msi msh mce mca mwo mnu mte mwa mke mma mth mtr (npu) (nte) (nat_) (nde) (nto) (nse) (nhu) (nga) (q_3) (nfa) (nba) (npl) (nen) (nnu) (nwr) (nra) (nik) gki gpa (p_) (nde) (0) hy0 hy1 hy2 hy3 hy4 hy5 hy6 hy7 hy8 hy9 hy10 hy11 hy12 hy13 hy14 hy15 hy6 hy7 (by omega) (by omega) hp_gki hp_gpa) (cwV 3 hts gX8_makes_X8_deep rfl rfl rfl ⟨rfl, dh_X8_deep⟩ ⟨Nat.le_of_ble_eq_true rfl, Nat.le_of_ble_eq_true rfl⟩) hK hN (hZ.kept hS) hP (hP.sub [3, 0, 1] rfl) (va_recv (q := (RX8, TX8, 38)) hK hP (ci := 8) (q0 := 3) rfl rfl) rfl hl.1 rfl (Nat.le_of_ble_eq_true rfl) dX8_makes_32 ⟨Nat.le_of_ble_eq_true rfl, Nat.le_of_ble_eq_true rfl⟩ (fun r_10 hr_10 => ?_)
    obtain ⟨g_11, g_12, hsr_10_0⟩ := hr_10
    refine va_put (D := D) (ci := 8) (v := .int r_10) (ty := .int) (C := RX8) (T := TX8) (N := 38) hx hb hts hi_X8_makes_8 tyX8 tyX8_ok nmX8 hown hK hP hD hS 3 rfl rfl 3 (by decide) (hts (.fieldLink RX8 115 "TheLiningsInItModel" "depth" "I") (List.mem_of_getElem? (i := 1) rfl)) (fun _ h9 => h9) rfl (tyX8_ok 3 (Nat.le_of_ble_eq_true rfl)) rfl rfl (Nat.le_of_ble_eq_true rfl) dX8_makes_35 (fun H locs hP hD hS => ?_)
    have h9R := zRe (ws' := [(mki, .inl (cI, 8, .inl gki)), (mpa, .inl (cI, 8, .inl gpa)), (mta, .inl (cI, 8, .inl gta)), (zMO m0 npu nte nat_ r_10 nto nse nhu nga q_3 nfa mrf mki mpa mta mla msl mco mhe mso msi msh mce mca mwo mnu mte nba npl nen nnu nwr mwa mke mma mth mtr nra nik)]) hP hD rfl
    clear hP hD
    obtain ⟨hP, hD⟩ := h9R
    refine lv_aload_n hx hb dX8_makes_38 rfl (lv_at hl 1 rfl) ?_
    refine lv_dup hx hb dX8_makes_39 rfl ?_
    refine va_get (D := D) (ci := 8) (v := .int nse) (C := RX8) (T := TX8) (N := 38) hx hb hts hi_X8_makes_8 hown hK hP 3 rfl rfl 5 (by decide) (hts (.fieldLink RX8 13 "TheLiningsInItModel" "seconds" "I") (List.mem_of_getElem? (i := 2) rfl)) (fun _ h9 => h9) rfl dX8_makes_40 ?_
    refine lv_aload_n hx hb dX8_makes_43 rfl (lv_at hl 1 rfl) ?_
    refine va_get (D := D) (ci := 8) (v := .ref mta) (C := RX8) (T := TX8) (N := 38) hx hb hts hi_X8_makes_8 hown hK hP 3 rfl rfl 13 (by decide) (hts (.fieldLink RX8 35 "TheLiningsInItModel" "takes" "[I") (List.mem_of_getElem? (i := 3) rfl)) (fun _ h9 => h9) rfl dX8_makes_44 ?_
    refine lv_iload_n hx hb dX8_makes_47 rfl (lv_at hl 2 rfl) ?_
    refine va_iald hx hb hK hP 2 0 rfl rfl (zf_in (by omega) (by omega)) dX8_makes_48 ?_
    refine lv_topi (fun x_13 ex_13 => ?_)
    have bx_13 : 0 ≤ x_13.toInt ∧ x_13.toInt ≤ 60 := by rw [ex_13]; exact hp_gta _
    have htx_13 : (gta p_.toNatClampNeg).toInt = x_13.toInt := by rw [ex_13]
    refine lv_isub hx hb dX8_makes_49 ?_
    refine lv_topi (fun x_14 ex_14 => ?_)
    have qx_14 : x_14.toInt = nse.toInt - x_13.toInt := by rw [ex_14]; exact zf_sub rfl rfl (by omega) (by omega)
    refine va_put (D := D) (ci := 8) (v := .int x_14) (ty := .int) (C := RX8) (T := TX8) (N := 38) hx hb hts hi_X8_makes_8 tyX8 tyX8_ok nmX8 hown hK hP hD hS 3 rfl rfl 5 (by decide) (hts (.fieldLink RX8 13 "TheLiningsInItModel" "seconds" "I") (List.mem_of_getElem? (i := 2) rfl)) (fun _ h9 => h9) rfl (tyX8_ok 5 (Nat.le_of_ble_eq_true rfl)) rfl rfl (Nat.le_of_ble_eq_true rfl) dX8_makes_50 (fun H locs hP hD hS => ?_)
    have h9R := zRe (ws' := [(mki, .inl (cI, 8, .inl gki)), (mpa, .inl (cI, 8, .inl gpa)), (mta, .inl (cI, 8, .inl gta)), (zMO m0 npu nte nat_ r_10 nto x_14 nhu nga q_3 nfa mrf mki mpa mta mla msl mco mhe mso msi msh mce mca mwo mnu mte nba npl nen nnu nwr mwa mke mma mth mtr nra nik)]) hP hD rfl
    clear hP hD
    obtain ⟨hP, hD⟩ := h9R
    refine lv_aload_n hx hb dX8_makes_53 rfl (lv_at hl 1 rfl) ?_
    refine va_get (D := D) (ci := 8) (v := .ref mki) (C := RX8) (T := TX8) (N := 38) hx hb hts hi_X8_makes_8 hown hK hP 3 rfl rfl 11 (by decide) (hts (.fieldLink RX8 29 "TheLiningsInItModel" "kind" "[I") (List.mem_of_getElem? (i := 4) rfl)) (fun _ h9 => h9) rfl dX8_makes_54 ?_
    refine lv_iload_n hx hb dX8_makes_57 rfl (lv_at hl 2 rfl) ?_
    refine va_iald hx hb hK hP 0 0 rfl rfl (zf_in (by omega) (by omega)) dX8_makes_58 ?_
    refine lv_topi (fun x_15 ex_15 => ?_)
    have bx_15 : 0 ≤ x_15.toInt ∧ x_15.toInt ≤ 6 := by rw [ex_15]; exact hp_gki _
    refine lv_iconst (v := 5) hx hb dX8_makes_59 (by decide) ?_
    refine lv_icmp_ne (tgt := 73) hx hb dX8_makes_60 (by decide) (fun c_16 => ?_) (fun c_16 => ?_)
    · have fc_16 : x_15.toInt ≠ 5 := zf_ne c_16 rfl (by decide)
      exact W.vret hx hb hr (fun t ht hW => ⟨⟨(r_10, nto, x_14, q_3), rfl, ⟨(show 0 ≤ r_10.toInt ∧ r_10.toInt ≤ 24 from ⟨by omega, by omega⟩), (show zP1 (gki p_.toNatClampNeg).toInt (gpa p_.toNatClampNeg).toInt (gta p_.toNatClampNeg).toInt nhu.toInt (nde.toInt, nse.toInt, nto, nsd) = (r_10.toInt, x_14.toInt, nto, q_3) from by (unfold zP1; refine Prod.ext ?_ (Prod.ext ?_ (Prod.ext ?_ ?_)) <;> dsimp only; (first | (rw [if_pos (by rw [← hsr_1_1, ← hsr_6_0]; omega)]; exact (hsr_10_0.1 (by decide)).symm) | (rw [if_neg (by rw [← hsr_1_1, ← hsr_6_0]; omega)]; exact (hsr_10_0.2 (by decide)).symm)); omega; (have nk : (gki p_.toNatClampNeg).toInt = x_15.toInt := (by rw [ex_15]); rw [if_neg (by omega)]); exact hsr_1_0.symm)), (show x_14.toInt = nse.toInt - (gta p_.toNatClampNeg).toInt from by omega), trivial⟩, zRet ht hP hD [3, 0, 1, 2] (by decide) rfl⟩, hS.F ht⟩) hS.2.2 dX8_makes_73
    · have fc_16 : x_15.toInt = 5 := zf_eq c_16 rfl (by decide)
      refine lv_aload_n hx hb dX8_makes_63 rfl (lv_at hl 1 rfl) ?_
      refine lv_dup hx hb dX8_makes_64 rfl ?_
      refine va_get (D := D) (ci := 8) (v := .int nto) (C := RX8) (T := TX8) (N := 38) hx hb hts hi_X8_makes_8 hown hK hP 3 rfl rfl 4 (by decide) (hts (.fieldLink RX8 188 "TheLiningsInItModel" "torn" "I") (List.mem_of_getElem? (i := 5) rfl)) (fun _ h9 => h9) rfl dX8_makes_65 ?_
      refine lv_iconst (v := 1) hx hb dX8_makes_68 (by decide) ?_
      refine lv_iadd hx hb dX8_makes_69 ?_
      refine lv_topi (fun x_17 ex_17 => ?_)
      refine va_put (D := D) (ci := 8) (v := .int x_17) (ty := .int) (C := RX8) (T := TX8) (N := 38) hx hb hts hi_X8_makes_8 tyX8 tyX8_ok nmX8 hown hK hP hD hS 3 rfl rfl 4 (by decide) (hts (.fieldLink RX8 188 "TheLiningsInItModel" "torn" "I") (List.mem_of_getElem? (i := 5) rfl)) (fun _ h9 => h9) rfl (tyX8_ok 4 (Nat.le_of_ble_eq_true rfl)) rfl rfl (Nat.le_of_ble_eq_true rfl) dX8_makes_70 (fun H locs hP hD hS => ?_)
      have h9R := zRe (ws' := [(mki, .inl (cI, 8, .inl gki)), (mpa, .inl (cI, 8, .inl gpa)), (mta, .inl (cI, 8, .inl gta)), (zMO m0 npu nte nat_ r_10 x_17 x_14 nhu nga q_3 nfa mrf mki mpa mta mla msl mco mhe mso msi msh mce mca mwo mnu mte nba npl nen nnu nwr mwa mke mma mth mtr nra nik)]) hP hD rfl
      clear hP hD
      obtain ⟨hP, hD⟩ := h9R
      exact W.vret hx hb hr (fun t ht hW => ⟨⟨(r_10, x_17, x_14, q_3), rfl, ⟨(show 0 ≤ r_10.toInt ∧ r_10.toInt ≤ 24 from ⟨by omega, by omega⟩), (show zP1 (gki p_.toNatClampNeg).toInt (gpa p_.toNatClampNeg).toInt (gta p_.toNatClampNeg).toInt nhu.toInt (nde.toInt, nse.toInt, nto, nsd) = (r_10.toInt, x_14.toInt, x_17, q_3) from by (unfold zP1; refine Prod.ext ?_ (Prod.ext ?_ (Prod.ext ?_ ?_)) <;> dsimp only; (first | (rw [if_pos (by rw [← hsr_1_1, ← hsr_6_0]; omega)]; exact (hsr_10_0.1 (by decide)).symm) | (rw [if_neg (by rw [← hsr_1_1, ← hsr_6_0]; omega)]; exact (hsr_10_0.2 (by decide)).symm)); omega; (have nk : (gki p_.toNatClampNeg).toInt = x_15.toInt := (by rw [ex_15]); rw [if_pos (by omega)]; exact ex_17.symm); exact hsr_1_0.symm)), (show x_14.toInt = nse.toInt - (gta p_.toNatClampNeg).toInt from by omega), trivial⟩, zRet ht hP hD [3, 0, 1, 2] (by decide) rfl⟩, hS.F ht⟩) hS.2.2 dX8_makes_73
  · have fc_9 : r_1.toInt < r_6.toInt := zf_nle c_9 rfl rfl
    refine lv_iconst (v := 1) hx hb dX8_makes_18 (by decide) ?_
    refine lv_goto (tgt := 23) hx hb dX8_makes_19 (by decide) ?_
    refine lv_istore_n (lv' := [(2, .int 1), (0, .ref m0), (1, .int p_)]) hx hb dX8_makes_23 rfl hl (by decide) rfl (fun ls hl => ?_)
    refine lv_aload_n hx hb dX8_makes_24 rfl (lv_at hl 1 rfl) ?_
    refine lv_aload_n hx hb dX8_makes_25 rfl (lv_at hl 1 rfl) ?_
    refine lv_iload_n hx hb dX8_makes_26 rfl (lv_at hl 2 rfl) ?_
    refine lv_aload_n hx hb dX8_makes_27 rfl (lv_at hl 1 rfl) ?_
    refine va_get (D := D) (ci := 8) (v := .int nde) (C := RX8) (T := TX8) (N := 38) hx hb hts hi_X8_makes_8 hown hK hP 3 rfl rfl 3 (by decide) (hts (.fieldLink RX8 115 "TheLiningsInItModel" "depth" "I") (List.mem_of_getElem? (i := 1) rfl)) (fun _ h9 => h9) rfl dX8_makes_28 ?_
    refine lv_iload_n hx hb dX8_makes_31 rfl (lv_at hl 0 rfl) ?_
    have kc1 : (1 : Int32).toInt = 1 := by decide
    refine zc_V (As := [.int p_, .int nde, .int 1]) (rest := [.ref m0]) ⟨hx, hb, hml, hown, hts⟩ (c_F_M_deep l D cI cJ cZ cP cS po m0 mrf mki mpa mta mla msl mco mhe mso msi msh mce mca mwo mnu mte mwa mke mma mth mtr (npu) (nte) (nat_) (nde) (nto) (nse) (nhu) (nga) (q_3) (nfa) (nba) (npl) (nen) (nnu) (nwr) (nra) (nik) gki gpa (p_) (nde) (1) hy0 hy1 hy2 hy3 hy4 hy5 hy6 hy7 hy8 hy9 hy10 hy11 hy12 hy13 hy14 hy15 hy6 hy7 (by omega) (by omega) hp_gki hp_gpa) (cwV 3 hts gX8_makes_X8_deep rfl rfl rfl ⟨rfl, dh_X8_deep⟩ ⟨Nat.le_of_ble_eq_true rfl, Nat.le_of_ble_eq_true rfl⟩) hK hN (hZ.kept hS) hP (hP.sub [3, 0, 1] rfl) (va_recv (q := (RX8, TX8, 38)) hK hP (ci := 8) (q0 := 3) rfl rfl) rfl hl.1 rfl (Nat.le_of_ble_eq_true rfl) dX8_makes_32 ⟨Nat.le_of_ble_eq_true rfl, Nat.le_of_ble_eq_true rfl⟩ (fun r_18 hr_18 => ?_)
    obtain ⟨g_19, g_20, hsr_18_0⟩ := hr_18
    refine va_put (D := D) (ci := 8) (v := .int r_18) (ty := .int) (C := RX8) (T := TX8) (N := 38) hx hb hts hi_X8_makes_8 tyX8 tyX8_ok nmX8 hown hK hP hD hS 3 rfl rfl 3 (by decide) (hts (.fieldLink RX8 115 "TheLiningsInItModel" "depth" "I") (List.mem_of_getElem? (i := 1) rfl)) (fun _ h9 => h9) rfl (tyX8_ok 3 (Nat.le_of_ble_eq_true rfl)) rfl rfl (Nat.le_of_ble_eq_true rfl) dX8_makes_35 (fun H locs hP hD hS => ?_)
    have h9R := zRe (ws' := [(mki, .inl (cI, 8, .inl gki)), (mpa, .inl (cI, 8, .inl gpa)), (mta, .inl (cI, 8, .inl gta)), (zMO m0 npu nte nat_ r_18 nto nse nhu nga q_3 nfa mrf mki mpa mta mla msl mco mhe mso msi msh mce mca mwo mnu mte nba npl nen nnu nwr mwa mke mma mth mtr nra nik)]) hP hD rfl
    clear hP hD
    obtain ⟨hP, hD⟩ := h9R
    refine lv_aload_n hx hb dX8_makes_38 rfl (lv_at hl 1 rfl) ?_
    refine lv_dup hx hb dX8_makes_39 rfl ?_
    refine va_get (D := D) (ci := 8) (v := .int nse) (C := RX8) (T := TX8) (N := 38) hx hb hts hi_X8_makes_8 hown hK hP 3 rfl rfl 5 (by decide) (hts (.fieldLink RX8 13 "TheLiningsInItModel" "seconds" "I") (List.mem_of_getElem? (i := 2) rfl)) (fun _ h9 => h9) rfl dX8_makes_40 ?_
    refine lv_aload_n hx hb dX8_makes_43 rfl (lv_at hl 1 rfl) ?_
    refine va_get (D := D) (ci := 8) (v := .ref mta) (C := RX8) (T := TX8) (N := 38) hx hb hts hi_X8_makes_8 hown hK hP 3 rfl rfl 13 (by decide) (hts (.fieldLink RX8 35 "TheLiningsInItModel" "takes" "[I") (List.mem_of_getElem? (i := 3) rfl)) (fun _ h9 => h9) rfl dX8_makes_44 ?_
    refine lv_iload_n hx hb dX8_makes_47 rfl (lv_at hl 2 rfl) ?_
    refine va_iald hx hb hK hP 2 0 rfl rfl (zf_in (by omega) (by omega)) dX8_makes_48 ?_
    refine lv_topi (fun x_21 ex_21 => ?_)
    have bx_21 : 0 ≤ x_21.toInt ∧ x_21.toInt ≤ 60 := by rw [ex_21]; exact hp_gta _
    have htx_21 : (gta p_.toNatClampNeg).toInt = x_21.toInt := by rw [ex_21]
    refine lv_isub hx hb dX8_makes_49 ?_
    refine lv_topi (fun x_22 ex_22 => ?_)
    have qx_22 : x_22.toInt = nse.toInt - x_21.toInt := by rw [ex_22]; exact zf_sub rfl rfl (by omega) (by omega)
    refine va_put (D := D) (ci := 8) (v := .int x_22) (ty := .int) (C := RX8) (T := TX8) (N := 38) hx hb hts hi_X8_makes_8 tyX8 tyX8_ok nmX8 hown hK hP hD hS 3 rfl rfl 5 (by decide) (hts (.fieldLink RX8 13 "TheLiningsInItModel" "seconds" "I") (List.mem_of_getElem? (i := 2) rfl)) (fun _ h9 => h9) rfl (tyX8_ok 5 (Nat.le_of_ble_eq_true rfl)) rfl rfl (Nat.le_of_ble_eq_true rfl) dX8_makes_50 (fun H locs hP hD hS => ?_)
    have h9R := zRe (ws' := [(mki, .inl (cI, 8, .inl gki)), (mpa, .inl (cI, 8, .inl gpa)), (mta, .inl (cI, 8, .inl gta)), (zMO m0 npu nte nat_ r_18 nto x_22 nhu nga q_3 nfa mrf mki mpa mta mla msl mco mhe mso msi msh mce mca mwo mnu mte nba npl nen nnu nwr mwa mke mma mth mtr nra nik)]) hP hD rfl
    clear hP hD
    obtain ⟨hP, hD⟩ := h9R
    refine lv_aload_n hx hb dX8_makes_53 rfl (lv_at hl 1 rfl) ?_
    refine va_get (D := D) (ci := 8) (v := .ref mki) (C := RX8) (T := TX8) (N := 38) hx hb hts hi_X8_makes_8 hown hK hP 3 rfl rfl 11 (by decide) (hts (.fieldLink RX8 29 "TheLiningsInItModel" "kind" "[I") (List.mem_of_getElem? (i := 4) rfl)) (fun _ h9 => h9) rfl dX8_makes_54 ?_
    refine lv_iload_n hx hb dX8_makes_57 rfl (lv_at hl 2 rfl) ?_
    refine va_iald hx hb hK hP 0 0 rfl rfl (zf_in (by omega) (by omega)) dX8_makes_58 ?_
    refine lv_topi (fun x_23 ex_23 => ?_)
    have bx_23 : 0 ≤ x_23.toInt ∧ x_23.toInt ≤ 6 := by rw [ex_23]; exact hp_gki _
    refine lv_iconst (v := 5) hx hb dX8_makes_59 (by decide) ?_
    refine lv_icmp_ne (tgt := 73) hx hb dX8_makes_60 (by decide) (fun c_24 => ?_) (fun c_24 => ?_)
    · have fc_24 : x_23.toInt ≠ 5 := zf_ne c_24 rfl (by decide)
      exact W.vret hx hb hr (fun t ht hW => ⟨⟨(r_18, nto, x_22, q_3), rfl, ⟨(show 0 ≤ r_18.toInt ∧ r_18.toInt ≤ 24 from ⟨by omega, by omega⟩), (show zP1 (gki p_.toNatClampNeg).toInt (gpa p_.toNatClampNeg).toInt (gta p_.toNatClampNeg).toInt nhu.toInt (nde.toInt, nse.toInt, nto, nsd) = (r_18.toInt, x_22.toInt, nto, q_3) from by (unfold zP1; refine Prod.ext ?_ (Prod.ext ?_ (Prod.ext ?_ ?_)) <;> dsimp only; (first | (rw [if_pos (by rw [← hsr_1_1, ← hsr_6_0]; omega)]; exact (hsr_18_0.1 (by decide)).symm) | (rw [if_neg (by rw [← hsr_1_1, ← hsr_6_0]; omega)]; exact (hsr_18_0.2 (by decide)).symm)); omega; (have nk : (gki p_.toNatClampNeg).toInt = x_23.toInt := (by rw [ex_23]); rw [if_neg (by omega)]); exact hsr_1_0.symm)), (show x_22.toInt = nse.toInt - (gta p_.toNatClampNeg).toInt from by omega), trivial⟩, zRet ht hP hD [3, 0, 1, 2] (by decide) rfl⟩, hS.F ht⟩) hS.2.2 dX8_makes_73
    · have fc_24 : x_23.toInt = 5 := zf_eq c_24 rfl (by decide)
      refine lv_aload_n hx hb dX8_makes_63 rfl (lv_at hl 1 rfl) ?_
      refine lv_dup hx hb dX8_makes_64 rfl ?_
      refine va_get (D := D) (ci := 8) (v := .int nto) (C := RX8) (T := TX8) (N := 38) hx hb hts hi_X8_makes_8 hown hK hP 3 rfl rfl 4 (by decide) (hts (.fieldLink RX8 188 "TheLiningsInItModel" "torn" "I") (List.mem_of_getElem? (i := 5) rfl)) (fun _ h9 => h9) rfl dX8_makes_65 ?_
      refine lv_iconst (v := 1) hx hb dX8_makes_68 (by decide) ?_
      refine lv_iadd hx hb dX8_makes_69 ?_
      refine lv_topi (fun x_25 ex_25 => ?_)
      refine va_put (D := D) (ci := 8) (v := .int x_25) (ty := .int) (C := RX8) (T := TX8) (N := 38) hx hb hts hi_X8_makes_8 tyX8 tyX8_ok nmX8 hown hK hP hD hS 3 rfl rfl 4 (by decide) (hts (.fieldLink RX8 188 "TheLiningsInItModel" "torn" "I") (List.mem_of_getElem? (i := 5) rfl)) (fun _ h9 => h9) rfl (tyX8_ok 4 (Nat.le_of_ble_eq_true rfl)) rfl rfl (Nat.le_of_ble_eq_true rfl) dX8_makes_70 (fun H locs hP hD hS => ?_)
      have h9R := zRe (ws' := [(mki, .inl (cI, 8, .inl gki)), (mpa, .inl (cI, 8, .inl gpa)), (mta, .inl (cI, 8, .inl gta)), (zMO m0 npu nte nat_ r_18 x_25 x_22 nhu nga q_3 nfa mrf mki mpa mta mla msl mco mhe mso msi msh mce mca mwo mnu mte nba npl nen nnu nwr mwa mke mma mth mtr nra nik)]) hP hD rfl
      clear hP hD
      obtain ⟨hP, hD⟩ := h9R
      exact W.vret hx hb hr (fun t ht hW => ⟨⟨(r_18, x_25, x_22, q_3), rfl, ⟨(show 0 ≤ r_18.toInt ∧ r_18.toInt ≤ 24 from ⟨by omega, by omega⟩), (show zP1 (gki p_.toNatClampNeg).toInt (gpa p_.toNatClampNeg).toInt (gta p_.toNatClampNeg).toInt nhu.toInt (nde.toInt, nse.toInt, nto, nsd) = (r_18.toInt, x_22.toInt, x_25, q_3) from by (unfold zP1; refine Prod.ext ?_ (Prod.ext ?_ (Prod.ext ?_ ?_)) <;> dsimp only; (first | (rw [if_pos (by rw [← hsr_1_1, ← hsr_6_0]; omega)]; exact (hsr_18_0.1 (by decide)).symm) | (rw [if_neg (by rw [← hsr_1_1, ← hsr_6_0]; omega)]; exact (hsr_18_0.2 (by decide)).symm)); omega; (have nk : (gki p_.toNatClampNeg).toInt = x_23.toInt := (by rw [ex_23]); rw [if_pos (by omega)]; exact ex_25.symm); exact hsr_1_0.symm)), (show x_22.toInt = nse.toInt - (gta p_.toNatClampNeg).toInt from by omega), trivial⟩, zRet ht hP hD [3, 0, 1, 2] (by decide) rfl⟩, hS.F ht⟩) hS.2.2 dX8_makes_73
set_option maxHeartbeats 4000000 in
set_option maxRecDepth 100000 in
theorem c_F_M_pulls (l : Launch) (D : va_G) (cI cJ cZ cP cS : ClassId) (po : zPool) (m0 mrf mki mpa mta mla msl mco mhe mso msi msh mce mca mwo mnu mte mwa mke mma mth mtr : Nat) (npu nte nat_ nde nto nse nhu nga nsd nfa nba npl nen nnu nwr nra nik : Int32) (grf gki gpa gta : Nat → Int32) (p_ : Int32) (hy0 : 0 ≤ npu.toInt) (hy1 : npu.toInt ≤ 8) (hy2 : 4 ≤ nte.toInt) (hy3 : nte.toInt ≤ 40) (hy4 : 0 ≤ nat_.toInt) (hy5 : nat_.toInt ≤ 40) (hy6 : 0 ≤ nde.toInt) (hy7 : nde.toInt ≤ 24) (hy8 : 0 ≤ nhu.toInt) (hy9 : nhu.toInt ≤ 9) (hy10 : 0 ≤ nra.toInt) (hy11 : nra.toInt ≤ 2000) (hy12 : 0 ≤ nik.toInt) (hy13 : nik.toInt ≤ 1) (hy14 : 0 ≤ nse.toInt) (hy15 : nse.toInt ≤ 300) (hp_gki : zRg gki (0) 6) (hp_gpa : zRg gpa (0) 9) (hp_gta : zRg gta (0) 60) (hpz : Nat) : Met l yX8_pulls wsX8_pulls ({ frames := 3, cells := 0, slots := 0, locals := 67 }) (va_Pc [.ref m0, .int p_] (zW D (zKT cI cJ cZ cP cS) po [(zMO m0 npu nte nat_ nde nto nse nhu nga nsd nfa mrf mki mpa mta mla msl mco mhe mso msi msh mce mca mwo mnu mte nba npl nen nnu nwr mwa mke mma mth mtr nra nik), (mrf, .inl (cI, 8, .inl grf)), (mki, .inl (cI, 8, .inl gki)), (mpa, .inl (cI, 8, .inl gpa)), (mta, .inl (cI, 8, .inl gta))] hpz)) (va_Qi (fun (r : Int32) (u : (Int32) × (Int32) × (Int32) × (Int32) × (Nat → Int32)) => (0 ≤ u.1.toInt ∧ u.1.toInt ≤ 24) ∧ (((p_.toInt < 0 ∨ npu.toInt ≤ p_.toInt) ∧ r.toInt = -1 ∧ u.1 = nde ∧ u.2.2.1 = nse ∧ u.2.1 = nto ∧ u.2.2.2.1 = nsd) ∨ ((0 ≤ p_.toInt ∧ p_.toInt < npu.toInt) ∧ ((¬ (1 ≤ nde.toInt ∧ (gta p_.toNatClampNeg).toInt ≤ nse.toInt) ∧ r.toInt = -6 ∧ u.1 = nde ∧ u.2.2.1 = nse ∧ u.2.1 = nto ∧ u.2.2.2.1 = nsd) ∨ ((1 ≤ nde.toInt ∧ (gta p_.toNatClampNeg).toInt ≤ nse.toInt) ∧ zP1 (gki p_.toNatClampNeg).toInt (gpa p_.toNatClampNeg).toInt (gta p_.toNatClampNeg).toInt nhu.toInt (nde.toInt, nse.toInt, nto, nsd) = (u.1.toInt, u.2.2.1.toInt, u.2.1, u.2.2.2.1) ∧ r.toInt = u.1.toInt)))) ∧ (True)) (zB D [(zMO m0 npu nte nat_ nde nto nse nhu nga nsd nfa mrf mki mpa mta mla msl mco mhe mso msi msh mce mca mwo mnu mte nba npl nen nnu nwr mwa mke mma mth mtr nra nik), (mrf, .inl (cI, 8, .inl grf)), (mki, .inl (cI, 8, .inl gki)), (mpa, .inl (cI, 8, .inl gpa)), (mta, .inl (cI, 8, .inl gta))] hpz (fun (u : (Int32) × (Int32) × (Int32) × (Int32) × (Nat → Int32)) => [(zMO m0 npu nte nat_ u.1 u.2.1 u.2.2.1 nhu nga u.2.2.2.1 nfa mrf mki mpa mta mla msl mco mhe mso msi msh mce mca mwo mnu mte nba npl nen nnu nwr mwa mke mma mth mtr nra nik), (mrf, .inl (cI, 8, .inl u.2.2.2.2)), (mki, .inl (cI, 8, .inl gki)), (mpa, .inl (cI, 8, .inl gpa)), (mta, .inl (cI, 8, .inl gta))])) (va_A [(zMO m0 npu nte nat_ nde nto nse nhu nga nsd nfa mrf mki mpa mta mla msl mco mhe mso msi msh mce mca mwo mnu mte nba npl nen nnu nwr mwa mke mma mth mtr nra nik), (mrf, .inl (cI, 8, .inl grf)), (mki, .inl (cI, 8, .inl gki)), (mpa, .inl (cI, 8, .inl gpa)), (mta, .inl (cI, 8, .inl gta))] hpz)) 0 0 (va_A [(zMO m0 npu nte nat_ nde nto nse nhu nga nsd nfa mrf mki mpa mta mla msl mco mhe mso msi msh mce mca mwo mnu mte nba npl nen nnu nwr mwa mke mma mth mtr nra nik), (mrf, .inl (cI, 8, .inl grf)), (mki, .inl (cI, 8, .inl gki)), (mpa, .inl (cI, 8, .inl gpa)), (mta, .inl (cI, 8, .inl gta))] hpz) := by
  refine Met.ofW (cc := cX8_pulls) (maxL := 2) (ret := (some .int)) (by decide) rfl ?_
  intro p e s m args below meth c s₁ B hml hv
  obtain ⟨rfl, hsz, hP, hK, hD0, hN, hZ⟩ := hv
  have hx := B.exec
  have hb := B.bytes
  have hr := B.returns
  have hts := atoms_spec (ws := wsX8_pulls) B.pre
  have hown : s.vm.findClass RX8 = some m.cls := findClass_of_methodNamed B.named
  have hlocks := B.notSynchronized
  subst hsz
  have hD := hD0.self (sz := s.heap.size)
  have hA := zA_of hD
  have hl := lv_entry ([.ref m0, .int p_]) (n := 2) (Nat.le_of_ble_eq_true rfl)
  rw [lg_entry_eq]
  generalize (lg_sl ([.ref m0, .int p_]) ++ List.replicate (2 - (lg_sl ([.ref m0, .int p_])).length) Slot.unset).toArray = ls at hl ⊢
  replace hl : lv_has ls 2 [(0, .ref m0), (1, .int p_)] := hl
  refine zw_begin hP hD (fun H locs hP1 hS => ?_)
  clear hP
  have hP := hP1
  clear hP1
  refine lv_aload_n hx hb dX8_pulls_0 rfl (lv_at hl 0 rfl) ?_
  refine lv_iload_n hx hb dX8_pulls_1 rfl (lv_at hl 1 rfl) ?_
  refine zc_V (As := [.int p_]) (rest := []) ⟨hx, hb, hml, hown, hts⟩ (c_M_isPull l D cI cJ cZ cP cS po m0 mrf mki mpa mta mla msl mco mhe mso msi msh mce mca mwo mnu mte mwa mke mma mth mtr (npu) (nte) (nat_) (nde) (nto) (nse) (nhu) (nga) (nsd) (nfa) (nba) (npl) (nen) (nnu) (nwr) (nra) (nik) (p_) hy0 hy1 hy2 hy3 hy4 hy5 hy6 hy7 hy8 hy9 hy10 hy11 hy12 hy13) (cwV 1 hts gX8_pulls_X8_isPull rfl rfl rfl ⟨rfl, dh_X8_isPull⟩ ⟨Nat.le_of_ble_eq_true rfl, Nat.le_of_ble_eq_true rfl⟩) hK hN (hZ.kept hS) hP (hP.sub [0] rfl) (va_recv (q := (RX8, TX8, 38)) hK hP (ci := 8) (q0 := 0) rfl rfl) rfl hl.1 rfl (Nat.le_of_ble_eq_true rfl) dX8_pulls_2 ⟨Nat.le_of_ble_eq_true rfl, Nat.le_of_ble_eq_true rfl⟩ (fun r_1 hr_1 => ?_)
  rcases hr_1 with ⟨rfl, g_2⟩ | ⟨rfl, g_3, g_4⟩ | ⟨rfl, g_5, g_6⟩
  · refine lv_if_ne (tgt := 14) hx hb dX8_pulls_5 (by decide) (fun c_7 => ?_) (fun c_7 => ?_)
    · exact absurd c_7 (by decide)
    · refine lv_aload_n hx hb dX8_pulls_8 rfl (lv_at hl 0 rfl) ?_
      refine lv_iconst (v := (-1)) hx hb dX8_pulls_9 (by decide) ?_
      skip
      refine zw_V (As := [.int (-1)]) (rest := []) (wr := [(mki, .inl (cI, 8, .inl gki)), (mpa, .inl (cI, 8, .inl gpa)), (mta, .inl (cI, 8, .inl gta))]) ⟨hx, hb, hml, hown, hts⟩ (c_M_no_1 l D cI cJ cZ cP cS po m0 mrf mki mpa mta mla msl mco mhe mso msi msh mce mca mwo mnu mte mwa mke mma mth mtr (npu) (nte) (nat_) (nde) (nto) (nse) (nhu) (nga) (nsd) (nfa) (nba) (npl) (nen) (nnu) (nwr) (nra) (nik) grf hy0 hy1 hy2 hy3 hy4 hy5 hy6 hy7 hy8 hy9 hy10 hy11 hy12 hy13 H.size) (cwV 1 hts gX8_pulls_X8_no rfl rfl rfl ⟨rfl, dh_X8_no⟩ ⟨Nat.le_of_ble_eq_true rfl, Nat.le_of_ble_eq_true rfl⟩) hK hN (hZ.kept hS) hP hD hS hA [0, 1] [2, 3, 4] rfl rfl (by decide) (by decide) (by decide) (va_recv (q := (RX8, TX8, 38)) hK hP (ci := 8) (q0 := 0) rfl rfl) rfl hl.1 rfl (Nat.le_of_ble_eq_true rfl) dX8_pulls_10 ⟨Nat.le_of_ble_eq_true rfl, Nat.le_of_ble_eq_true rfl⟩ (fun r_8 u_9 H locs hr_8 hP hD hS => ?_)
      obtain ⟨q_10, rfl⟩ : ∃ z, z = u_9 := ⟨_, rfl⟩
      have h9R := zRe (ws' := [(mki, .inl (cI, 8, .inl gki)), (mpa, .inl (cI, 8, .inl gpa)), (mta, .inl (cI, 8, .inl gta)), (zMO m0 npu nte nat_ nde nto nse nhu nga nsd nfa mrf mki mpa mta mla msl mco mhe mso msi msh mce mca mwo mnu mte nba npl nen nnu nwr mwa mke mma mth mtr nra nik), (mrf, .inl (cI, 8, .inl q_10))]) hP hD rfl
      clear hP hD
      obtain ⟨hP, hD⟩ := h9R
      obtain rfl := hr_8
      exact W.iret (v := (-1)) hx hb hr (fun t ht hW => ⟨⟨(-1), (nde, nto, nse, nsd, q_10), rfl, ⟨(show 0 ≤ nde.toInt ∧ nde.toInt ≤ 24 from ⟨hy6, hy7⟩), (show ((p_.toInt < 0 ∨ npu.toInt ≤ p_.toInt) ∧ ((-1) : Int32).toInt = -1 ∧ nde = nde ∧ nse = nse ∧ nto = nto ∧ nsd = nsd) ∨ ((0 ≤ p_.toInt ∧ p_.toInt < npu.toInt) ∧ ((¬ (1 ≤ nde.toInt ∧ (gta p_.toNatClampNeg).toInt ≤ nse.toInt) ∧ ((-1) : Int32).toInt = -6 ∧ nde = nde ∧ nse = nse ∧ nto = nto ∧ nsd = nsd) ∨ ((1 ≤ nde.toInt ∧ (gta p_.toNatClampNeg).toInt ≤ nse.toInt) ∧ zP1 (gki p_.toNatClampNeg).toInt (gpa p_.toNatClampNeg).toInt (gta p_.toNatClampNeg).toInt nhu.toInt (nde.toInt, nse.toInt, nto, nsd) = (nde.toInt, nse.toInt, nto, nsd) ∧ ((-1) : Int32).toInt = nde.toInt))) from by (have k9 : ((-1) : Int32).toInt = -1 := (by decide); exact Or.inl ⟨by omega, by omega, rfl, rfl, rfl, rfl⟩)), trivial⟩, zRet ht hP hD [3, 4, 0, 1, 2] (by decide) rfl⟩, hS.F ht⟩) hS.2.2 dX8_pulls_13
  · refine lv_if_ne (tgt := 14) hx hb dX8_pulls_5 (by decide) (fun c_11 => ?_) (fun c_11 => ?_)
    · exact absurd c_11 (by decide)
    · refine lv_aload_n hx hb dX8_pulls_8 rfl (lv_at hl 0 rfl) ?_
      refine lv_iconst (v := (-1)) hx hb dX8_pulls_9 (by decide) ?_
      skip
      refine zw_V (As := [.int (-1)]) (rest := []) (wr := [(mki, .inl (cI, 8, .inl gki)), (mpa, .inl (cI, 8, .inl gpa)), (mta, .inl (cI, 8, .inl gta))]) ⟨hx, hb, hml, hown, hts⟩ (c_M_no_1 l D cI cJ cZ cP cS po m0 mrf mki mpa mta mla msl mco mhe mso msi msh mce mca mwo mnu mte mwa mke mma mth mtr (npu) (nte) (nat_) (nde) (nto) (nse) (nhu) (nga) (nsd) (nfa) (nba) (npl) (nen) (nnu) (nwr) (nra) (nik) grf hy0 hy1 hy2 hy3 hy4 hy5 hy6 hy7 hy8 hy9 hy10 hy11 hy12 hy13 H.size) (cwV 1 hts gX8_pulls_X8_no rfl rfl rfl ⟨rfl, dh_X8_no⟩ ⟨Nat.le_of_ble_eq_true rfl, Nat.le_of_ble_eq_true rfl⟩) hK hN (hZ.kept hS) hP hD hS hA [0, 1] [2, 3, 4] rfl rfl (by decide) (by decide) (by decide) (va_recv (q := (RX8, TX8, 38)) hK hP (ci := 8) (q0 := 0) rfl rfl) rfl hl.1 rfl (Nat.le_of_ble_eq_true rfl) dX8_pulls_10 ⟨Nat.le_of_ble_eq_true rfl, Nat.le_of_ble_eq_true rfl⟩ (fun r_12 u_13 H locs hr_12 hP hD hS => ?_)
      obtain ⟨q_14, rfl⟩ : ∃ z, z = u_13 := ⟨_, rfl⟩
      have h9R := zRe (ws' := [(mki, .inl (cI, 8, .inl gki)), (mpa, .inl (cI, 8, .inl gpa)), (mta, .inl (cI, 8, .inl gta)), (zMO m0 npu nte nat_ nde nto nse nhu nga nsd nfa mrf mki mpa mta mla msl mco mhe mso msi msh mce mca mwo mnu mte nba npl nen nnu nwr mwa mke mma mth mtr nra nik), (mrf, .inl (cI, 8, .inl q_14))]) hP hD rfl
      clear hP hD
      obtain ⟨hP, hD⟩ := h9R
      obtain rfl := hr_12
      exact W.iret (v := (-1)) hx hb hr (fun t ht hW => ⟨⟨(-1), (nde, nto, nse, nsd, q_14), rfl, ⟨(show 0 ≤ nde.toInt ∧ nde.toInt ≤ 24 from ⟨hy6, hy7⟩), (show ((p_.toInt < 0 ∨ npu.toInt ≤ p_.toInt) ∧ ((-1) : Int32).toInt = -1 ∧ nde = nde ∧ nse = nse ∧ nto = nto ∧ nsd = nsd) ∨ ((0 ≤ p_.toInt ∧ p_.toInt < npu.toInt) ∧ ((¬ (1 ≤ nde.toInt ∧ (gta p_.toNatClampNeg).toInt ≤ nse.toInt) ∧ ((-1) : Int32).toInt = -6 ∧ nde = nde ∧ nse = nse ∧ nto = nto ∧ nsd = nsd) ∨ ((1 ≤ nde.toInt ∧ (gta p_.toNatClampNeg).toInt ≤ nse.toInt) ∧ zP1 (gki p_.toNatClampNeg).toInt (gpa p_.toNatClampNeg).toInt (gta p_.toNatClampNeg).toInt nhu.toInt (nde.toInt, nse.toInt, nto, nsd) = (nde.toInt, nse.toInt, nto, nsd) ∧ ((-1) : Int32).toInt = nde.toInt))) from by (have k9 : ((-1) : Int32).toInt = -1 := (by decide); exact Or.inl ⟨by omega, by omega, rfl, rfl, rfl, rfl⟩)), trivial⟩, zRet ht hP hD [3, 4, 0, 1, 2] (by decide) rfl⟩, hS.F ht⟩) hS.2.2 dX8_pulls_13
  · refine lv_if_ne (tgt := 14) hx hb dX8_pulls_5 (by decide) (fun c_15 => ?_) (fun c_15 => ?_)
    · refine lv_aload_n hx hb dX8_pulls_14 rfl (lv_at hl 0 rfl) ?_
      refine lv_iload_n hx hb dX8_pulls_15 rfl (lv_at hl 1 rfl) ?_
      refine lv_aload_n hx hb dX8_pulls_16 rfl (lv_at hl 0 rfl) ?_
      refine va_get (D := D) (ci := 8) (v := .int nde) (C := RX8) (T := TX8) (N := 38) hx hb hts hi_X8_pulls_8 hown hK hP 0 rfl rfl 3 (by decide) (hts (.fieldLink RX8 115 "TheLiningsInItModel" "depth" "I") (List.mem_of_getElem? (i := 1) rfl)) (fun _ h9 => h9) rfl dX8_pulls_17 ?_
      refine lv_aload_n hx hb dX8_pulls_20 rfl (lv_at hl 0 rfl) ?_
      refine va_get (D := D) (ci := 8) (v := .int nse) (C := RX8) (T := TX8) (N := 38) hx hb hts hi_X8_pulls_8 hown hK hP 0 rfl rfl 5 (by decide) (hts (.fieldLink RX8 13 "TheLiningsInItModel" "seconds" "I") (List.mem_of_getElem? (i := 2) rfl)) (fun _ h9 => h9) rfl dX8_pulls_21 ?_
      refine zc_V (As := [.int p_, .int nde, .int nse]) (rest := []) ⟨hx, hb, hml, hown, hts⟩ (c_F_M_mayBe l D cI cJ cZ cP cS po m0 mrf mki mpa mta mla msl mco mhe mso msi msh mce mca mwo mnu mte mwa mke mma mth mtr (npu) (nte) (nat_) (nde) (nto) (nse) (nhu) (nga) (nsd) (nfa) (nba) (npl) (nen) (nnu) (nwr) (nra) (nik) gta (p_) (nde) (nse) hy0 hy1 hy2 hy3 hy4 hy5 hy6 hy7 hy8 hy9 hy10 hy11 hy12 hy13 (by omega) (by omega) hp_gta) (cwV 3 hts gX8_pulls_X8_mayBe rfl rfl rfl ⟨rfl, dh_X8_mayBe⟩ ⟨Nat.le_of_ble_eq_true rfl, Nat.le_of_ble_eq_true rfl⟩) hK hN (hZ.kept hS) hP (hP.sub [0, 4] rfl) (va_recv (q := (RX8, TX8, 38)) hK hP (ci := 8) (q0 := 0) rfl rfl) rfl hl.1 rfl (Nat.le_of_ble_eq_true rfl) dX8_pulls_24 ⟨Nat.le_of_ble_eq_true rfl, Nat.le_of_ble_eq_true rfl⟩ (fun r_16 hr_16 => ?_)
      obtain ⟨g_17, g_18, hsr_16_0⟩ := hr_16
      refine lv_if_ne (tgt := 37) hx hb dX8_pulls_27 (by decide) (fun c_19 => ?_) (fun c_19 => ?_)
      · have fc_19 : r_16.toInt ≠ 0 := zf_ne c_19 rfl (by decide)
        have htl9 : (gta p_.toNatClampNeg).toInt ≤ nse.toInt := (hsr_16_0.mp (by omega)).2
        refine lv_aload_n hx hb dX8_pulls_37 rfl (lv_at hl 0 rfl) ?_
        refine lv_iload_n hx hb dX8_pulls_38 rfl (lv_at hl 1 rfl) ?_
        skip
        refine zw_Vv (As := [.int p_]) (rest := []) (wr := [(mrf, .inl (cI, 8, .inl grf))]) ⟨hx, hb, hml, hown, hts⟩ (c_F_M_makes l D cI cJ cZ cP cS po m0 mrf mki mpa mta mla msl mco mhe mso msi msh mce mca mwo mnu mte mwa mke mma mth mtr (npu) (nte) (nat_) (nde) (nto) (nse) (nhu) (nga) (nsd) (nfa) (nba) (npl) (nen) (nnu) (nwr) (nra) (nik) gki gpa gta (p_) hy0 hy1 hy2 hy3 hy4 hy5 hy6 hy7 hy8 hy9 hy10 hy11 hy12 hy13 (by omega) (by omega) hy14 hy15 (by first | assumption | omega) hp_gki hp_gpa hp_gta H.size) (cwV 1 hts gX8_pulls_X8_makes rfl rfl rfl ⟨rfl, dh_X8_makes⟩ ⟨Nat.le_of_ble_eq_true rfl, Nat.le_of_ble_eq_true rfl⟩) hK hN (hZ.kept hS) hP hD hS hA [0, 2, 3, 4] [1] rfl rfl (by decide) (by decide) (by decide) (va_recv (q := (RX8, TX8, 38)) hK hP (ci := 8) (q0 := 0) rfl rfl) rfl hl.1 rfl (Nat.le_of_ble_eq_true rfl) dX8_pulls_39 ⟨Nat.le_of_ble_eq_true rfl, Nat.le_of_ble_eq_true rfl⟩ (fun u_21 H locs hr_20 hP hD hS => ?_)
        obtain ⟨q_22, q_23, q_24, q_25⟩ := u_21
        try dsimp only at hr_20
        obtain ⟨hbq_22, hsr_20_0, hsr_20_1, hr_20⟩ := hr_20
        have h9R := zRe (ws' := [(mrf, .inl (cI, 8, .inl grf)), (zMO m0 npu nte nat_ q_22 q_23 q_24 nhu nga q_25 nfa mrf mki mpa mta mla msl mco mhe mso msi msh mce mca mwo mnu mte nba npl nen nnu nwr mwa mke mma mth mtr nra nik), (mki, .inl (cI, 8, .inl gki)), (mpa, .inl (cI, 8, .inl gpa)), (mta, .inl (cI, 8, .inl gta))]) hP hD rfl
        clear hP hD
        obtain ⟨hP, hD⟩ := h9R
        refine lv_aload_n hx hb dX8_pulls_42 rfl (lv_at hl 0 rfl) ?_
        refine va_get (D := D) (ci := 8) (v := .int q_22) (C := RX8) (T := TX8) (N := 38) hx hb hts hi_X8_pulls_8 hown hK hP 1 rfl rfl 3 (by decide) (hts (.fieldLink RX8 115 "TheLiningsInItModel" "depth" "I") (List.mem_of_getElem? (i := 1) rfl)) (fun _ h9 => h9) rfl dX8_pulls_43 ?_
        exact W.iret (v := q_22) hx hb hr (fun t ht hW => ⟨⟨q_22, (q_22, q_23, q_24, q_25, grf), rfl, ⟨(show 0 ≤ q_22.toInt ∧ q_22.toInt ≤ 24 from hbq_22), (show ((p_.toInt < 0 ∨ npu.toInt ≤ p_.toInt) ∧ (q_22 : Int32).toInt = -1 ∧ q_22 = nde ∧ q_24 = nse ∧ q_23 = nto ∧ q_25 = nsd) ∨ ((0 ≤ p_.toInt ∧ p_.toInt < npu.toInt) ∧ ((¬ (1 ≤ nde.toInt ∧ (gta p_.toNatClampNeg).toInt ≤ nse.toInt) ∧ (q_22 : Int32).toInt = -6 ∧ q_22 = nde ∧ q_24 = nse ∧ q_23 = nto ∧ q_25 = nsd) ∨ ((1 ≤ nde.toInt ∧ (gta p_.toNatClampNeg).toInt ≤ nse.toInt) ∧ zP1 (gki p_.toNatClampNeg).toInt (gpa p_.toNatClampNeg).toInt (gta p_.toNatClampNeg).toInt nhu.toInt (nde.toInt, nse.toInt, nto, nsd) = (q_22.toInt, q_24.toInt, q_23, q_25) ∧ (q_22 : Int32).toInt = q_22.toInt))) from by (exact Or.inr ⟨by omega, Or.inr ⟨hsr_16_0.mp (by omega), hsr_20_0, by first | rfl | omega⟩⟩)), trivial⟩, zRet ht hP hD [1, 0, 2, 3, 4] (by decide) rfl⟩, hS.F ht⟩) hS.2.2 dX8_pulls_46
      · have fc_19 : r_16.toInt = 0 := zf_eq c_19 rfl (by decide)
        refine lv_aload_n hx hb dX8_pulls_30 rfl (lv_at hl 0 rfl) ?_
        refine lv_bipush (v := (-6)) hx hb dX8_pulls_31 (by decide) ?_
        skip
        refine zw_V (As := [.int (-6)]) (rest := []) (wr := [(mki, .inl (cI, 8, .inl gki)), (mpa, .inl (cI, 8, .inl gpa)), (mta, .inl (cI, 8, .inl gta))]) ⟨hx, hb, hml, hown, hts⟩ (c_M_no_6 l D cI cJ cZ cP cS po m0 mrf mki mpa mta mla msl mco mhe mso msi msh mce mca mwo mnu mte mwa mke mma mth mtr (npu) (nte) (nat_) (nde) (nto) (nse) (nhu) (nga) (nsd) (nfa) (nba) (npl) (nen) (nnu) (nwr) (nra) (nik) grf hy0 hy1 hy2 hy3 hy4 hy5 hy6 hy7 hy8 hy9 hy10 hy11 hy12 hy13 H.size) (cwV 1 hts gX8_pulls_X8_no rfl rfl rfl ⟨rfl, dh_X8_no⟩ ⟨Nat.le_of_ble_eq_true rfl, Nat.le_of_ble_eq_true rfl⟩) hK hN (hZ.kept hS) hP hD hS hA [0, 1] [2, 3, 4] rfl rfl (by decide) (by decide) (by decide) (va_recv (q := (RX8, TX8, 38)) hK hP (ci := 8) (q0 := 0) rfl rfl) rfl hl.1 rfl (Nat.le_of_ble_eq_true rfl) dX8_pulls_33 ⟨Nat.le_of_ble_eq_true rfl, Nat.le_of_ble_eq_true rfl⟩ (fun r_26 u_27 H locs hr_26 hP hD hS => ?_)
        obtain ⟨q_28, rfl⟩ : ∃ z, z = u_27 := ⟨_, rfl⟩
        have h9R := zRe (ws' := [(mki, .inl (cI, 8, .inl gki)), (mpa, .inl (cI, 8, .inl gpa)), (mta, .inl (cI, 8, .inl gta)), (zMO m0 npu nte nat_ nde nto nse nhu nga nsd nfa mrf mki mpa mta mla msl mco mhe mso msi msh mce mca mwo mnu mte nba npl nen nnu nwr mwa mke mma mth mtr nra nik), (mrf, .inl (cI, 8, .inl q_28))]) hP hD rfl
        clear hP hD
        obtain ⟨hP, hD⟩ := h9R
        obtain rfl := hr_26
        exact W.iret (v := (-6)) hx hb hr (fun t ht hW => ⟨⟨(-6), (nde, nto, nse, nsd, q_28), rfl, ⟨(show 0 ≤ nde.toInt ∧ nde.toInt ≤ 24 from ⟨hy6, hy7⟩), (show ((p_.toInt < 0 ∨ npu.toInt ≤ p_.toInt) ∧ ((-6) : Int32).toInt = -1 ∧ nde = nde ∧ nse = nse ∧ nto = nto ∧ nsd = nsd) ∨ ((0 ≤ p_.toInt ∧ p_.toInt < npu.toInt) ∧ ((¬ (1 ≤ nde.toInt ∧ (gta p_.toNatClampNeg).toInt ≤ nse.toInt) ∧ ((-6) : Int32).toInt = -6 ∧ nde = nde ∧ nse = nse ∧ nto = nto ∧ nsd = nsd) ∨ ((1 ≤ nde.toInt ∧ (gta p_.toNatClampNeg).toInt ≤ nse.toInt) ∧ zP1 (gki p_.toNatClampNeg).toInt (gpa p_.toNatClampNeg).toInt (gta p_.toNatClampNeg).toInt nhu.toInt (nde.toInt, nse.toInt, nto, nsd) = (nde.toInt, nse.toInt, nto, nsd) ∧ ((-6) : Int32).toInt = nde.toInt))) from by (have k9 : ((-6) : Int32).toInt = -6 := (by decide); exact Or.inr ⟨by omega, Or.inl ⟨fun z => by (have z2 := hsr_16_0.mpr z; omega), by omega, rfl, rfl, rfl, rfl⟩⟩)), trivial⟩, zRet ht hP hD [3, 4, 0, 1, 2] (by decide) rfl⟩, hS.F ht⟩) hS.2.2 dX8_pulls_36
    · exact absurd c_15 (by decide)
set_option maxHeartbeats 4000000 in
set_option maxRecDepth 100000 in
theorem c_F_M_closes (l : Launch) (D : va_G) (cI cJ cZ cP cS : ClassId) (po : zPool) (m0 mrf mki mpa mta mla msl mco mhe mso msi msh mce mca mwo mnu mte mwa mke mma mth mtr : Nat) (npu nte nat_ nde nto nse nhu nga nsd nfa nba npl nen nnu nwr nra nik : Int32) (gla gsl : Nat → Int32) (hy0 : 0 ≤ npu.toInt) (hy1 : npu.toInt ≤ 8) (hy2 : 4 ≤ nte.toInt) (hy3 : nte.toInt ≤ 40) (hy4 : 0 ≤ nat_.toInt) (hy5 : nat_.toInt ≤ 40) (hy6 : 0 ≤ nde.toInt) (hy7 : nde.toInt ≤ 24) (hy8 : 0 ≤ nhu.toInt) (hy9 : nhu.toInt ≤ 9) (hy10 : 0 ≤ nra.toInt) (hy11 : nra.toInt ≤ 2000) (hy12 : 0 ≤ nik.toInt) (hy13 : nik.toInt ≤ 1) (hy14 : nat_.toInt ≤ nte.toInt) (hy15 : 1 ≤ nga.toInt) (hy16 : nga.toInt ≤ 9) (hp_gla : zRg gla (0) 1) (hp_gsl : zRg gsl (0) 9) (hpz : Nat) : Met l yX8_closes wsX8_closes ({ frames := 1, cells := 0, slots := 0, locals := 21 }) (va_Pc [.ref m0] (zW D (zKT cI cJ cZ cP cS) po [(zMO m0 npu nte nat_ nde nto nse nhu nga nsd nfa mrf mki mpa mta mla msl mco mhe mso msi msh mce mca mwo mnu mte nba npl nen nnu nwr mwa mke mma mth mtr nra nik), (mla, .inl (cI, 40, .inl gla)), (msl, .inl (cI, 40, .inl gsl))] hpz)) (va_Qv (fun (u : (Int32) × (Int32) × (Int32)) => (0 ≤ u.1.toInt ∧ u.1.toInt ≤ 40) ∧ (0 ≤ u.2.1.toInt ∧ u.2.1.toInt ≤ 24) ∧ (zCz gla gsl nga.toInt nte.toInt (nte.toInt - nat_.toInt).toNat nat_.toInt nde.toInt nsd = (u.1.toInt, u.2.1.toInt, u.2.2)) ∧ (u.1.toInt ≤ nte.toInt) ∧ (True)) (zB D [(zMO m0 npu nte nat_ nde nto nse nhu nga nsd nfa mrf mki mpa mta mla msl mco mhe mso msi msh mce mca mwo mnu mte nba npl nen nnu nwr mwa mke mma mth mtr nra nik), (mla, .inl (cI, 40, .inl gla)), (msl, .inl (cI, 40, .inl gsl))] hpz (fun (u : (Int32) × (Int32) × (Int32)) => [(zMO m0 npu nte u.1 u.2.1 nto nse nhu nga u.2.2 nfa mrf mki mpa mta mla msl mco mhe mso msi msh mce mca mwo mnu mte nba npl nen nnu nwr mwa mke mma mth mtr nra nik), (mla, .inl (cI, 40, .inl gla)), (msl, .inl (cI, 40, .inl gsl))])) (va_A [(zMO m0 npu nte nat_ nde nto nse nhu nga nsd nfa mrf mki mpa mta mla msl mco mhe mso msi msh mce mca mwo mnu mte nba npl nen nnu nwr mwa mke mma mth mtr nra nik), (mla, .inl (cI, 40, .inl gla)), (msl, .inl (cI, 40, .inl gsl))] hpz)) 0 0 (va_A [(zMO m0 npu nte nat_ nde nto nse nhu nga nsd nfa mrf mki mpa mta mla msl mco mhe mso msi msh mce mca mwo mnu mte nba npl nen nnu nwr mwa mke mma mth mtr nra nik), (mla, .inl (cI, 40, .inl gla)), (msl, .inl (cI, 40, .inl gsl))] hpz) := by
  refine Met.ofW (cc := cX8_closes) (maxL := 1) (ret := none) (by decide) rfl ?_
  intro p e s m args below meth c s₁ B hml hv
  obtain ⟨rfl, hsz, hP, hK, hD0, hN, hZ⟩ := hv
  have hx := B.exec
  have hb := B.bytes
  have hr := B.returns
  have hts := atoms_spec (ws := wsX8_closes) B.pre
  have hown : s.vm.findClass RX8 = some m.cls := findClass_of_methodNamed B.named
  have hlocks := B.notSynchronized
  subst hsz
  have hD := hD0.self (sz := s.heap.size)
  have hA := zA_of hD
  have hl := lv_entry ([.ref m0]) (n := 1) (Nat.le_of_ble_eq_true rfl)
  rw [lg_entry_eq]
  generalize (lg_sl ([.ref m0]) ++ List.replicate (1 - (lg_sl ([.ref m0])).length) Slot.unset).toArray = ls at hl ⊢
  replace hl : lv_has ls 1 [(0, .ref m0)] := hl
  refine zw_begin hP hD (fun H locs hP1 hS => ?_)
  clear hP
  have hP := hP1
  clear hP1
  obtain ⟨i_0, hi_0⟩ : ∃ i : Int32, i = nat_ := ⟨_, rfl⟩
  replace hl : lv_has ls 1 [(0, .ref m0)] := lv_sub hl [0] rfl
  replace hP : va_P D vwCl [(zMO m0 npu nte i_0 nde nto nse nhu nga nsd nfa mrf mki mpa mta mla msl mco mhe mso msi msh mce mca mwo mnu mte nba npl nen nnu nwr mwa mke mma mth mtr nra nik), (mla, .inl (cI, 40, .inl gla)), (msl, .inl (cI, 40, .inl gsl))] H := by rw [hi_0]; exact hP
  replace hD : va_D (va_A [(zMO m0 npu nte nat_ nde nto nse nhu nga nsd nfa mrf mki mpa mta mla msl mco mhe mso msi msh mce mca mwo mnu mte nba npl nen nnu nwr mwa mke mma mth mtr nra nik), (mla, .inl (cI, 40, .inl gla)), (msl, .inl (cI, 40, .inl gsl))] s.heap.size) [(zMO m0 npu nte i_0 nde nto nse nhu nga nsd nfa mrf mki mpa mta mla msl mco mhe mso msi msh mce mca mwo mnu mte nba npl nen nnu nwr mwa mke mma mth mtr nra nik), (mla, .inl (cI, 40, .inl gla)), (msl, .inl (cI, 40, .inl gsl))] := by rw [hi_0]; exact hD
  have h1i_0 : i_0.toInt = nat_.toInt := by rw [hi_0]
  obtain ⟨nfu, hni_0⟩ : ∃ nq9 : Nat, nte.toInt ≤ i_0.toInt + (nq9 : Int) := ⟨((nte.toInt : Int) - nat_.toInt).toNat, by omega⟩
  have hloi_0 : 0 ≤ i_0.toInt := by omega
  obtain ⟨v_1, hv_1⟩ : ∃ g : Int32, g = nsd := ⟨_, rfl⟩
  replace hP : va_P D vwCl [(zMO m0 npu nte i_0 nde nto nse nhu nga v_1 nfa mrf mki mpa mta mla msl mco mhe mso msi msh mce mca mwo mnu mte nba npl nen nnu nwr mwa mke mma mth mtr nra nik), (mla, .inl (cI, 40, .inl gla)), (msl, .inl (cI, 40, .inl gsl))] H := by rw [hv_1]; exact hP
  replace hD : va_D (va_A [(zMO m0 npu nte nat_ nde nto nse nhu nga nsd nfa mrf mki mpa mta mla msl mco mhe mso msi msh mce mca mwo mnu mte nba npl nen nnu nwr mwa mke mma mth mtr nra nik), (mla, .inl (cI, 40, .inl gla)), (msl, .inl (cI, 40, .inl gsl))] s.heap.size) [(zMO m0 npu nte i_0 nde nto nse nhu nga v_1 nfa mrf mki mpa mta mla msl mco mhe mso msi msh mce mca mwo mnu mte nba npl nen nnu nwr mwa mke mma mth mtr nra nik), (mla, .inl (cI, 40, .inl gla)), (msl, .inl (cI, 40, .inl gsl))] := by rw [hv_1]; exact hD
  have hvi_0_0 : zCz gla gsl nga.toInt nte.toInt (nte.toInt - nat_.toInt).toNat nat_.toInt nde.toInt nsd = zCz gla gsl nga.toInt nte.toInt (nte.toInt - i_0.toInt).toNat i_0.toInt nde.toInt (v_1 : Int32) := by
    (try rw [hi_0]); (try rw [hv_1]); first | done | rfl
  have hvi_0_1 : i_0.toInt ≤ nte.toInt := by
    (try rw [hi_0]); (try rw [hv_1]); omega
  clear h1i_0 hi_0 hv_1
  skip
  revert hni_0
  revert hloi_0
  revert hvi_0_1
  revert hvi_0_0
  revert hl
  revert hS
  revert hD
  revert hP
  revert ls
  revert locs
  revert H
  revert v_1
  revert i_0
  induction nfu with
  | zero =>
    intro i_0 v_1 H locs ls hP hD hS hl hvi_0_0 hvi_0_1 hloi_0 hni_0
    have hzi_0 : nte.toInt ≤ i_0.toInt := by omega
    refine lv_aload_n hx hb dX8_closes_0 rfl (lv_at hl 0 rfl) ?_
    refine va_get (D := D) (ci := 8) (v := .int i_0) (C := RX8) (T := TX8) (N := 38) hx hb hts hi_X8_closes_8 hown hK hP 0 rfl rfl 2 (by decide) (hts (.fieldLink RX8 122 "TheLiningsInItModel" "at" "I") (List.mem_of_getElem? (i := 1) rfl)) (fun _ h9 => h9) rfl dX8_closes_1 ?_
    refine lv_aload_n hx hb dX8_closes_4 rfl (lv_at hl 0 rfl) ?_
    refine va_get (D := D) (ci := 8) (v := .int nte) (C := RX8) (T := TX8) (N := 38) hx hb hts hi_X8_closes_8 hown hK hP 0 rfl rfl 1 (by decide) (hts (.fieldLink RX8 7 "TheLiningsInItModel" "teeth" "I") (List.mem_of_getElem? (i := 2) rfl)) (fun _ h9 => h9) rfl dX8_closes_5 ?_
    refine lv_icmp_ge (tgt := 84) hx hb dX8_closes_8 (by decide) (fun c_2 => ?_) (fun c_2 => ?_)
    · have fc_2 : nte.toInt ≤ i_0.toInt := zf_le c_2 rfl rfl
      exact W.vret hx hb hr (fun t ht hW => ⟨⟨(i_0, nde, v_1), rfl, ⟨(show 0 ≤ i_0.toInt ∧ i_0.toInt ≤ 40 from ⟨by omega, by omega⟩), (show 0 ≤ nde.toInt ∧ nde.toInt ≤ 24 from ⟨hy6, hy7⟩), (show zCz gla gsl nga.toInt nte.toInt (nte.toInt - nat_.toInt).toNat nat_.toInt nde.toInt nsd = (i_0.toInt, nde.toInt, v_1) from by (rw [hvi_0_0, show (nte.toInt - i_0.toInt).toNat = 0 from by omega]; rfl)), (show i_0.toInt ≤ nte.toInt from by omega), trivial⟩, zRet ht hP hD [0, 1, 2] (by decide) rfl⟩, hS.F ht⟩) hS.2.2 dX8_closes_84
    · exfalso; have fc_2 : i_0.toInt < nte.toInt := zf_nle c_2 rfl rfl; omega
  | succ nfu ih =>
    intro i_0 v_1 H locs ls hP hD hS hl hvi_0_0 hvi_0_1 hloi_0 hni_0
    refine lv_aload_n hx hb dX8_closes_0 rfl (lv_at hl 0 rfl) ?_
    refine va_get (D := D) (ci := 8) (v := .int i_0) (C := RX8) (T := TX8) (N := 38) hx hb hts hi_X8_closes_8 hown hK hP 0 rfl rfl 2 (by decide) (hts (.fieldLink RX8 122 "TheLiningsInItModel" "at" "I") (List.mem_of_getElem? (i := 1) rfl)) (fun _ h9 => h9) rfl dX8_closes_1 ?_
    refine lv_aload_n hx hb dX8_closes_4 rfl (lv_at hl 0 rfl) ?_
    refine va_get (D := D) (ci := 8) (v := .int nte) (C := RX8) (T := TX8) (N := 38) hx hb hts hi_X8_closes_8 hown hK hP 0 rfl rfl 1 (by decide) (hts (.fieldLink RX8 7 "TheLiningsInItModel" "teeth" "I") (List.mem_of_getElem? (i := 2) rfl)) (fun _ h9 => h9) rfl dX8_closes_5 ?_
    refine lv_icmp_ge (tgt := 84) hx hb dX8_closes_8 (by decide) (fun c_3 => ?_) (fun c_3 => ?_)
    · have fc_3 : nte.toInt ≤ i_0.toInt := zf_le c_3 rfl rfl
      exact W.vret hx hb hr (fun t ht hW => ⟨⟨(i_0, nde, v_1), rfl, ⟨(show 0 ≤ i_0.toInt ∧ i_0.toInt ≤ 40 from ⟨by omega, by omega⟩), (show 0 ≤ nde.toInt ∧ nde.toInt ≤ 24 from ⟨hy6, hy7⟩), (show zCz gla gsl nga.toInt nte.toInt (nte.toInt - nat_.toInt).toNat nat_.toInt nde.toInt nsd = (i_0.toInt, nde.toInt, v_1) from by (rw [hvi_0_0, show (nte.toInt - i_0.toInt).toNat = 0 from by omega]; rfl)), (show i_0.toInt ≤ nte.toInt from by omega), trivial⟩, zRet ht hP hD [0, 1, 2] (by decide) rfl⟩, hS.F ht⟩) hS.2.2 dX8_closes_84
    · have fc_3 : i_0.toInt < nte.toInt := zf_nle c_3 rfl rfl
      refine lv_aload_n hx hb dX8_closes_11 rfl (lv_at hl 0 rfl) ?_
      refine lv_aload_n hx hb dX8_closes_12 rfl (lv_at hl 0 rfl) ?_
      refine va_get (D := D) (ci := 8) (v := .int i_0) (C := RX8) (T := TX8) (N := 38) hx hb hts hi_X8_closes_8 hown hK hP 0 rfl rfl 2 (by decide) (hts (.fieldLink RX8 122 "TheLiningsInItModel" "at" "I") (List.mem_of_getElem? (i := 1) rfl)) (fun _ h9 => h9) rfl dX8_closes_13 ?_
      refine zc_V (As := [.int i_0]) (rest := []) ⟨hx, hb, hml, hown, hts⟩ (c_F_M_isOpen l D cI cJ cZ cP cS po m0 mrf mki mpa mta mla msl mco mhe mso msi msh mce mca mwo mnu mte mwa mke mma mth mtr (npu) (nte) (i_0) (nde) (nto) (nse) (nhu) (nga) (v_1) (nfa) (nba) (npl) (nen) (nnu) (nwr) (nra) (nik) gla (i_0) hy0 hy1 hy2 hy3 (by omega) (by omega) hy6 hy7 hy8 hy9 hy10 hy11 hy12 hy13 (by omega) (by omega) hp_gla) (cwV 1 hts gX8_closes_X8_isOpen rfl rfl rfl ⟨rfl, dh_X8_isOpen⟩ ⟨Nat.le_of_ble_eq_true rfl, Nat.le_of_ble_eq_true rfl⟩) hK hN (hZ.kept hS) hP (hP.sub [0, 1] rfl) (va_recv (q := (RX8, TX8, 38)) hK hP (ci := 8) (q0 := 0) rfl rfl) rfl hl.1 rfl (Nat.le_of_ble_eq_true rfl) dX8_closes_16 ⟨Nat.le_of_ble_eq_true rfl, Nat.le_of_ble_eq_true rfl⟩ (fun r_4 hr_4 => ?_)
      obtain ⟨g_5, g_6, hsr_4_0⟩ := hr_4
      replace hsr_4_0 := zHid_i hsr_4_0
      refine lv_if_ne (tgt := 84) hx hb dX8_closes_19 (by decide) (fun c_7 => ?_) (fun c_7 => ?_)
      · have fc_7 : r_4.toInt ≠ 0 := zf_ne c_7 rfl (by decide)
        exact W.vret hx hb hr (fun t ht hW => ⟨⟨(i_0, nde, v_1), rfl, ⟨(show 0 ≤ i_0.toInt ∧ i_0.toInt ≤ 40 from ⟨by omega, by omega⟩), (show 0 ≤ nde.toInt ∧ nde.toInt ≤ 24 from ⟨hy6, hy7⟩), (show zCz gla gsl nga.toInt nte.toInt (nte.toInt - nat_.toInt).toNat nat_.toInt nde.toInt nsd = (i_0.toInt, nde.toInt, v_1) from by (rw [hvi_0_0, show (nte.toInt - i_0.toInt).toNat = (nte.toInt - (i_0.toInt + 1)).toNat + 1 from by omega, zCz_s, if_pos (Or.inr (hsr_4_0.1 (by omega)))])), (show i_0.toInt ≤ nte.toInt from by omega), trivial⟩, zRet ht hP hD [0, 1, 2] (by decide) rfl⟩, hS.F ht⟩) hS.2.2 dX8_closes_84
      · have fc_7 : r_4.toInt = 0 := zf_eq c_7 rfl (by decide)
        refine lv_aload_n hx hb dX8_closes_22 rfl (lv_at hl 0 rfl) ?_
        refine lv_aload_n hx hb dX8_closes_23 rfl (lv_at hl 0 rfl) ?_
        refine va_get (D := D) (ci := 8) (v := .int i_0) (C := RX8) (T := TX8) (N := 38) hx hb hts hi_X8_closes_8 hown hK hP 0 rfl rfl 2 (by decide) (hts (.fieldLink RX8 122 "TheLiningsInItModel" "at" "I") (List.mem_of_getElem? (i := 1) rfl)) (fun _ h9 => h9) rfl dX8_closes_24 ?_
        refine zc_V (As := [.int i_0]) (rest := []) ⟨hx, hb, hml, hown, hts⟩ (c_F_M_doesCatch l D cI cJ cZ cP cS po m0 mrf mki mpa mta mla msl mco mhe mso msi msh mce mca mwo mnu mte mwa mke mma mth mtr (npu) (nte) (i_0) (nde) (nto) (nse) (nhu) (nga) (v_1) (nfa) (nba) (npl) (nen) (nnu) (nwr) (nra) (nik) gla gsl (i_0) hy0 hy1 hy2 hy3 (by omega) (by omega) hy6 hy7 hy8 hy9 hy10 hy11 hy12 hy13 (by omega) (by omega) hp_gla hp_gsl) (cwV 1 hts gX8_closes_X8_doesCatch rfl rfl rfl ⟨rfl, dh_X8_doesCatch⟩ ⟨Nat.le_of_ble_eq_true rfl, Nat.le_of_ble_eq_true rfl⟩) hK hN (hZ.kept hS) hP (hP.sub [0, 1, 2] rfl) (va_recv (q := (RX8, TX8, 38)) hK hP (ci := 8) (q0 := 0) rfl rfl) rfl hl.1 rfl (Nat.le_of_ble_eq_true rfl) dX8_closes_27 ⟨Nat.le_of_ble_eq_true rfl, Nat.le_of_ble_eq_true rfl⟩ (fun r_8 hr_8 => ?_)
        obtain ⟨g_9, g_10, hsr_8_0⟩ := hr_8
        replace hsr_8_0 := zHid_i hsr_8_0
        refine lv_if_eq (tgt := 71) hx hb dX8_closes_30 (by decide) (fun c_11 => ?_) (fun c_11 => ?_)
        · have fc_11 : r_8.toInt = 0 := zf_eq c_11 rfl (by decide)
          refine lv_aload_n hx hb dX8_closes_71 rfl (lv_at hl 0 rfl) ?_
          refine lv_dup hx hb dX8_closes_72 rfl ?_
          refine va_get (D := D) (ci := 8) (v := .int i_0) (C := RX8) (T := TX8) (N := 38) hx hb hts hi_X8_closes_8 hown hK hP 0 rfl rfl 2 (by decide) (hts (.fieldLink RX8 122 "TheLiningsInItModel" "at" "I") (List.mem_of_getElem? (i := 1) rfl)) (fun _ h9 => h9) rfl dX8_closes_73 ?_
          refine lv_iconst (v := 1) hx hb dX8_closes_76 (by decide) ?_
          refine lv_iadd hx hb dX8_closes_77 ?_
          refine lv_topi (fun x_12 ex_12 => ?_)
          have qx_12 : x_12.toInt = i_0.toInt + 1 := dw_inc ex_12 fc_3
          refine va_put (D := D) (ci := 8) (v := .int x_12) (ty := .int) (C := RX8) (T := TX8) (N := 38) hx hb hts hi_X8_closes_8 tyX8 tyX8_ok nmX8 hown hK hP hD hS 0 rfl rfl 2 (by decide) (hts (.fieldLink RX8 122 "TheLiningsInItModel" "at" "I") (List.mem_of_getElem? (i := 1) rfl)) (fun _ h9 => h9) rfl (tyX8_ok 2 (Nat.le_of_ble_eq_true rfl)) rfl rfl (Nat.le_of_ble_eq_true rfl) dX8_closes_78 (fun H locs hP hD hS => ?_)
          have h9R := zRe (ws' := [(zMO m0 npu nte x_12 nde nto nse nhu nga v_1 nfa mrf mki mpa mta mla msl mco mhe mso msi msh mce mca mwo mnu mte nba npl nen nnu nwr mwa mke mma mth mtr nra nik), (mla, .inl (cI, 40, .inl gla)), (msl, .inl (cI, 40, .inl gsl))]) hP hD rfl
          clear hP hD
          obtain ⟨hP, hD⟩ := h9R
          refine lv_goto (tgt := 0) hx hb dX8_closes_81 (by decide) ?_
          exact ih x_12 (v_1) _ _ _ (hP.sub [0, 1, 2] rfl) (hD.sub [0, 1, 2] (by decide) rfl) hS (lv_sub hl [0] rfl) (show zCz gla gsl nga.toInt nte.toInt (nte.toInt - nat_.toInt).toNat nat_.toInt nde.toInt nsd = zCz gla gsl nga.toInt nte.toInt (nte.toInt - x_12.toInt).toNat x_12.toInt nde.toInt (v_1 : Int32) from by (have hk : (nte.toInt - i_0.toInt).toNat = (nte.toInt - (i_0.toInt + 1)).toNat + 1 := (by omega); have hno := hsr_4_0.2 (by omega); have hcc := hsr_8_0.2 (by omega); rw [hvi_0_0, hk, zCz_s]; rw [if_neg (fun z => z.elim (fun a => by omega) hno), if_neg hcc]; rw [show x_12.toInt = i_0.toInt + 1 from by omega])) (show x_12.toInt ≤ nte.toInt from by omega) (dw_lo hloi_0 qx_12) (dw_hn hni_0 qx_12)
        · have fc_11 : r_8.toInt ≠ 0 := zf_ne c_11 rfl (by decide)
          refine lv_aload_n hx hb dX8_closes_33 rfl (lv_at hl 0 rfl) ?_
          refine lv_bipush (v := 10) hx hb dX8_closes_34 (by decide) ?_
          skip
          refine zw_V (As := [.int 10]) (rest := []) (wr := [(mla, .inl (cI, 40, .inl gla)), (msl, .inl (cI, 40, .inl gsl))]) ⟨hx, hb, hml, hown, hts⟩ (c_F_M_draw_10 l D cI cJ cZ cP cS po m0 mrf mki mpa mta mla msl mco mhe mso msi msh mce mca mwo mnu mte mwa mke mma mth mtr (npu) (nte) (i_0) (nde) (nto) (nse) (nhu) (nga) (v_1) (nfa) (nba) (npl) (nen) (nnu) (nwr) (nra) (nik) hy0 hy1 hy2 hy3 (by omega) (by omega) hy6 hy7 hy8 hy9 hy10 hy11 hy12 hy13 H.size) (cwV 1 hts gX8_closes_X8_draw rfl rfl rfl ⟨rfl, dh_X8_draw⟩ ⟨Nat.le_of_ble_eq_true rfl, Nat.le_of_ble_eq_true rfl⟩) hK hN (hZ.kept hS) hP hD hS hA [0] [1, 2] rfl rfl (by decide) (by decide) (by decide) (va_recv (q := (RX8, TX8, 38)) hK hP (ci := 8) (q0 := 0) rfl rfl) rfl hl.1 rfl (Nat.le_of_ble_eq_true rfl) dX8_closes_36 ⟨Nat.le_of_ble_eq_true rfl, Nat.le_of_ble_eq_true rfl⟩ (fun r_13 u_14 H locs hr_13 hP hD hS => ?_)
          obtain ⟨q_15, rfl⟩ : ∃ z, z = u_14 := ⟨_, rfl⟩
          obtain ⟨hsr_13_0, hsr_13_1, hr_13⟩ := hr_13
          have h9R := zRe (ws' := [(mla, .inl (cI, 40, .inl gla)), (msl, .inl (cI, 40, .inl gsl)), (zMO m0 npu nte i_0 nde nto nse nhu nga q_15 nfa mrf mki mpa mta mla msl mco mhe mso msi msh mce mca mwo mnu mte nba npl nen nnu nwr mwa mke mma mth mtr nra nik)]) hP hD rfl
          clear hP hD
          obtain ⟨hP, hD⟩ := h9R
          obtain ⟨g_16, g_17⟩ := hr_13
          refine lv_aload_n hx hb dX8_closes_39 rfl (lv_at hl 0 rfl) ?_
          refine va_get (D := D) (ci := 8) (v := .ref msl) (C := RX8) (T := TX8) (N := 38) hx hb hts hi_X8_closes_8 hown hK hP 2 rfl rfl 15 (by decide) (hts (.fieldLink RX8 41 "TheLiningsInItModel" "slack" "[I") (List.mem_of_getElem? (i := 3) rfl)) (fun _ h9 => h9) rfl dX8_closes_40 ?_
          refine lv_aload_n hx hb dX8_closes_43 rfl (lv_at hl 0 rfl) ?_
          refine va_get (D := D) (ci := 8) (v := .int i_0) (C := RX8) (T := TX8) (N := 38) hx hb hts hi_X8_closes_8 hown hK hP 2 rfl rfl 2 (by decide) (hts (.fieldLink RX8 122 "TheLiningsInItModel" "at" "I") (List.mem_of_getElem? (i := 1) rfl)) (fun _ h9 => h9) rfl dX8_closes_44 ?_
          refine va_iald hx hb hK hP 1 0 rfl rfl (zf_in (by omega) (by omega)) dX8_closes_47 ?_
          refine lv_topi (fun x_18 ex_18 => ?_)
          have bx_18 : 0 ≤ x_18.toInt ∧ x_18.toInt ≤ 9 := by rw [ex_18]; exact hp_gsl _
          refine lv_aload_n hx hb dX8_closes_48 rfl (lv_at hl 0 rfl) ?_
          refine va_get (D := D) (ci := 8) (v := .int nga) (C := RX8) (T := TX8) (N := 38) hx hb hts hi_X8_closes_8 hown hK hP 2 rfl rfl 7 (by decide) (hts (.fieldLink RX8 16 "TheLiningsInItModel" "gap" "I") (List.mem_of_getElem? (i := 4) rfl)) (fun _ h9 => h9) rfl dX8_closes_49 ?_
          refine lv_isub hx hb dX8_closes_52 ?_
          refine lv_topi (fun x_19 ex_19 => ?_)
          have qx_19 : x_19.toInt = x_18.toInt - nga.toInt := by rw [ex_19]; exact zf_sub rfl rfl (by omega) (by omega)
          refine lv_iconst (v := 1) hx hb dX8_closes_53 (by decide) ?_
          refine lv_iadd hx hb dX8_closes_54 ?_
          refine lv_topi (fun x_20 ex_20 => ?_)
          have qx_20 : x_20.toInt = x_19.toInt + 1 := by rw [ex_20]; exact zf_add rfl (by decide) (by omega) (by omega)
          refine lv_icmp_ge (tgt := 71) hx hb dX8_closes_55 (by decide) (fun c_21 => ?_) (fun c_21 => ?_)
          · have fc_21 : x_20.toInt ≤ r_13.toInt := zf_le c_21 rfl rfl
            refine lv_aload_n hx hb dX8_closes_71 rfl (lv_at hl 0 rfl) ?_
            refine lv_dup hx hb dX8_closes_72 rfl ?_
            refine va_get (D := D) (ci := 8) (v := .int i_0) (C := RX8) (T := TX8) (N := 38) hx hb hts hi_X8_closes_8 hown hK hP 2 rfl rfl 2 (by decide) (hts (.fieldLink RX8 122 "TheLiningsInItModel" "at" "I") (List.mem_of_getElem? (i := 1) rfl)) (fun _ h9 => h9) rfl dX8_closes_73 ?_
            refine lv_iconst (v := 1) hx hb dX8_closes_76 (by decide) ?_
            refine lv_iadd hx hb dX8_closes_77 ?_
            refine lv_topi (fun x_22 ex_22 => ?_)
            have qx_22 : x_22.toInt = i_0.toInt + 1 := dw_inc ex_22 fc_3
            refine va_put (D := D) (ci := 8) (v := .int x_22) (ty := .int) (C := RX8) (T := TX8) (N := 38) hx hb hts hi_X8_closes_8 tyX8 tyX8_ok nmX8 hown hK hP hD hS 2 rfl rfl 2 (by decide) (hts (.fieldLink RX8 122 "TheLiningsInItModel" "at" "I") (List.mem_of_getElem? (i := 1) rfl)) (fun _ h9 => h9) rfl (tyX8_ok 2 (Nat.le_of_ble_eq_true rfl)) rfl rfl (Nat.le_of_ble_eq_true rfl) dX8_closes_78 (fun H locs hP hD hS => ?_)
            have h9R := zRe (ws' := [(mla, .inl (cI, 40, .inl gla)), (msl, .inl (cI, 40, .inl gsl)), (zMO m0 npu nte x_22 nde nto nse nhu nga q_15 nfa mrf mki mpa mta mla msl mco mhe mso msi msh mce mca mwo mnu mte nba npl nen nnu nwr mwa mke mma mth mtr nra nik)]) hP hD rfl
            clear hP hD
            obtain ⟨hP, hD⟩ := h9R
            refine lv_goto (tgt := 0) hx hb dX8_closes_81 (by decide) ?_
            exact ih x_22 (q_15) _ _ _ (hP.sub [2, 0, 1] rfl) (hD.sub [2, 0, 1] (by decide) rfl) hS (lv_sub hl [0] rfl) (show zCz gla gsl nga.toInt nte.toInt (nte.toInt - nat_.toInt).toNat nat_.toInt nde.toInt nsd = zCz gla gsl nga.toInt nte.toInt (nte.toInt - x_22.toInt).toNat x_22.toInt nde.toInt (q_15 : Int32) from by (have hk : (nte.toInt - i_0.toInt).toNat = (nte.toInt - (i_0.toInt + 1)).toNat + 1 := (by omega); have hno := hsr_4_0.2 (by omega); have hcc := hsr_8_0.1 (by omega); have hsl : (gsl i_0.toInt.toNat).toInt = x_18.toInt := (by rw [ex_18]; rfl); rw [hvi_0_0, hk, zCz_s]; rw [if_neg (fun z => z.elim (fun a => by omega) hno), if_pos hcc, if_neg (by rw [← hsr_13_1, hsl]; omega), ← hsr_13_0]; rw [show x_22.toInt = i_0.toInt + 1 from by omega])) (show x_22.toInt ≤ nte.toInt from by omega) (dw_lo hloi_0 qx_22) (dw_hn hni_0 qx_22)
          · have fc_21 : r_13.toInt < x_20.toInt := zf_nle c_21 rfl rfl
            refine lv_aload_n hx hb dX8_closes_58 rfl (lv_at hl 0 rfl) ?_
            refine lv_iconst (v := 1) hx hb dX8_closes_59 (by decide) ?_
            refine lv_aload_n hx hb dX8_closes_60 rfl (lv_at hl 0 rfl) ?_
            refine lv_bipush (v := 6) hx hb dX8_closes_61 (by decide) ?_
            skip
            refine zw_V (As := [.int 6]) (rest := [.int 1, .ref m0]) (wr := [(mla, .inl (cI, 40, .inl gla)), (msl, .inl (cI, 40, .inl gsl))]) ⟨hx, hb, hml, hown, hts⟩ (c_F_M_draw_6 l D cI cJ cZ cP cS po m0 mrf mki mpa mta mla msl mco mhe mso msi msh mce mca mwo mnu mte mwa mke mma mth mtr (npu) (nte) (i_0) (nde) (nto) (nse) (nhu) (nga) (q_15) (nfa) (nba) (npl) (nen) (nnu) (nwr) (nra) (nik) hy0 hy1 hy2 hy3 (by omega) (by omega) hy6 hy7 hy8 hy9 hy10 hy11 hy12 hy13 H.size) (cwV 1 hts gX8_closes_X8_draw rfl rfl rfl ⟨rfl, dh_X8_draw⟩ ⟨Nat.le_of_ble_eq_true rfl, Nat.le_of_ble_eq_true rfl⟩) hK hN (hZ.kept hS) hP hD hS hA [2] [0, 1] rfl rfl (by decide) (by decide) (by decide) (va_recv (q := (RX8, TX8, 38)) hK hP (ci := 8) (q0 := 2) rfl rfl) rfl hl.1 rfl (Nat.le_of_ble_eq_true rfl) dX8_closes_63 ⟨Nat.le_of_ble_eq_true rfl, Nat.le_of_ble_eq_true rfl⟩ (fun r_23 u_24 H locs hr_23 hP hD hS => ?_)
            obtain ⟨q_25, rfl⟩ : ∃ z, z = u_24 := ⟨_, rfl⟩
            obtain ⟨hsr_23_0, hsr_23_1, hr_23⟩ := hr_23
            have h9R := zRe (ws' := [(mla, .inl (cI, 40, .inl gla)), (msl, .inl (cI, 40, .inl gsl)), (zMO m0 npu nte i_0 nde nto nse nhu nga q_25 nfa mrf mki mpa mta mla msl mco mhe mso msi msh mce mca mwo mnu mte nba npl nen nnu nwr mwa mke mma mth mtr nra nik)]) hP hD rfl
            clear hP hD
            obtain ⟨hP, hD⟩ := h9R
            obtain ⟨g_26, g_27⟩ := hr_23
            refine lv_iadd hx hb dX8_closes_66 ?_
            refine lv_topi (fun x_28 ex_28 => ?_)
            have qx_28 : x_28.toInt = 1 + r_23.toInt := by rw [ex_28]; exact zf_add (by decide) rfl (by omega) (by omega)
            refine va_put (D := D) (ci := 8) (v := .int x_28) (ty := .int) (C := RX8) (T := TX8) (N := 38) hx hb hts hi_X8_closes_8 tyX8 tyX8_ok nmX8 hown hK hP hD hS 2 rfl rfl 3 (by decide) (hts (.fieldLink RX8 115 "TheLiningsInItModel" "depth" "I") (List.mem_of_getElem? (i := 5) rfl)) (fun _ h9 => h9) rfl (tyX8_ok 3 (Nat.le_of_ble_eq_true rfl)) rfl rfl (Nat.le_of_ble_eq_true rfl) dX8_closes_67 (fun H locs hP hD hS => ?_)
            have h9R := zRe (ws' := [(mla, .inl (cI, 40, .inl gla)), (msl, .inl (cI, 40, .inl gsl)), (zMO m0 npu nte i_0 x_28 nto nse nhu nga q_25 nfa mrf mki mpa mta mla msl mco mhe mso msi msh mce mca mwo mnu mte nba npl nen nnu nwr mwa mke mma mth mtr nra nik)]) hP hD rfl
            clear hP hD
            obtain ⟨hP, hD⟩ := h9R
            exact W.vret hx hb hr (fun t ht hW => ⟨⟨(i_0, x_28, q_25), rfl, ⟨(show 0 ≤ i_0.toInt ∧ i_0.toInt ≤ 40 from ⟨by omega, by omega⟩), (show 0 ≤ x_28.toInt ∧ x_28.toInt ≤ 24 from ⟨by omega, by omega⟩), (show zCz gla gsl nga.toInt nte.toInt (nte.toInt - nat_.toInt).toNat nat_.toInt nde.toInt nsd = (i_0.toInt, x_28.toInt, q_25) from by (have hk : (nte.toInt - i_0.toInt).toNat = (nte.toInt - (i_0.toInt + 1)).toNat + 1 := (by omega); have hno := hsr_4_0.2 (by omega); have hcc := hsr_8_0.1 (by omega); have hsl : (gsl i_0.toInt.toNat).toInt = x_18.toInt := (by rw [ex_18]; rfl); rw [hvi_0_0, hk, zCz_s, if_neg (fun z => z.elim (fun a => by omega) hno), if_pos hcc, if_pos (by rw [← hsr_13_1, hsl]; omega)]; refine Prod.ext rfl (Prod.ext ?_ ?_) <;> dsimp only; (rw [← hsr_13_0, ← hsr_23_1]; omega); (rw [← hsr_13_0, ← hsr_23_0]))), (show i_0.toInt ≤ nte.toInt from by omega), trivial⟩, zRet ht hP hD [2, 0, 1] (by decide) rfl⟩, hS.F ht⟩) hS.2.2 dX8_closes_70
set_option maxHeartbeats 4000000 in
set_option maxRecDepth 100000 in
theorem c_F_M_close (l : Launch) (D : va_G) (cI cJ cZ cP cS : ClassId) (po : zPool) (m0 mrf mki mpa mta mla msl mco mhe mso msi msh mce mca mwo mnu mte mwa mke mma mth mtr : Nat) (npu nte nat_ nde nto nse nhu nga nsd nfa nba npl nen nnu nwr nra nik : Int32) (grf gla gsl : Nat → Int32) (hy0 : 0 ≤ npu.toInt) (hy1 : npu.toInt ≤ 8) (hy2 : 4 ≤ nte.toInt) (hy3 : nte.toInt ≤ 40) (hy4 : 0 ≤ nat_.toInt) (hy5 : nat_.toInt ≤ 40) (hy6 : 0 ≤ nde.toInt) (hy7 : nde.toInt ≤ 24) (hy8 : 0 ≤ nhu.toInt) (hy9 : nhu.toInt ≤ 9) (hy10 : 0 ≤ nra.toInt) (hy11 : nra.toInt ≤ 2000) (hy12 : 0 ≤ nik.toInt) (hy13 : nik.toInt ≤ 1) (hy14 : nat_.toInt ≤ nte.toInt) (hy15 : 1 ≤ nga.toInt) (hy16 : nga.toInt ≤ 9) (hp_gla : zRg gla (0) 1) (hp_gsl : zRg gsl (0) 9) (hpz : Nat) : Met l yX8_close wsX8_close ({ frames := 2, cells := 0, slots := 0, locals := 41 }) (va_Pc [.ref m0] (zW D (zKT cI cJ cZ cP cS) po [(zMO m0 npu nte nat_ nde nto nse nhu nga nsd nfa mrf mki mpa mta mla msl mco mhe mso msi msh mce mca mwo mnu mte nba npl nen nnu nwr mwa mke mma mth mtr nra nik), (mrf, .inl (cI, 8, .inl grf)), (mla, .inl (cI, 40, .inl gla)), (msl, .inl (cI, 40, .inl gsl))] hpz)) (va_Qi (fun (r : Int32) (u : (Int32) × (Int32) × (Int32) × (Nat → Int32)) => (0 ≤ u.1.toInt ∧ u.1.toInt ≤ 40) ∧ (0 ≤ u.2.1.toInt ∧ u.2.1.toInt ≤ 24) ∧ ((nde.toInt ≠ 0 ∧ r.toInt = -6 ∧ u.1 = nat_ ∧ u.2.1 = nde ∧ u.2.2.1 = nsd) ∨ (nde.toInt = 0 ∧ zCz gla gsl nga.toInt nte.toInt (nte.toInt - nat_.toInt).toNat nat_.toInt nde.toInt nsd = (u.1.toInt, u.2.1.toInt, u.2.2.1) ∧ r.toInt = u.1.toInt)) ∧ (True)) (zB D [(zMO m0 npu nte nat_ nde nto nse nhu nga nsd nfa mrf mki mpa mta mla msl mco mhe mso msi msh mce mca mwo mnu mte nba npl nen nnu nwr mwa mke mma mth mtr nra nik), (mrf, .inl (cI, 8, .inl grf)), (mla, .inl (cI, 40, .inl gla)), (msl, .inl (cI, 40, .inl gsl))] hpz (fun (u : (Int32) × (Int32) × (Int32) × (Nat → Int32)) => [(zMO m0 npu nte u.1 u.2.1 nto nse nhu nga u.2.2.1 nfa mrf mki mpa mta mla msl mco mhe mso msi msh mce mca mwo mnu mte nba npl nen nnu nwr mwa mke mma mth mtr nra nik), (mrf, .inl (cI, 8, .inl u.2.2.2)), (mla, .inl (cI, 40, .inl gla)), (msl, .inl (cI, 40, .inl gsl))])) (va_A [(zMO m0 npu nte nat_ nde nto nse nhu nga nsd nfa mrf mki mpa mta mla msl mco mhe mso msi msh mce mca mwo mnu mte nba npl nen nnu nwr mwa mke mma mth mtr nra nik), (mrf, .inl (cI, 8, .inl grf)), (mla, .inl (cI, 40, .inl gla)), (msl, .inl (cI, 40, .inl gsl))] hpz)) 0 0 (va_A [(zMO m0 npu nte nat_ nde nto nse nhu nga nsd nfa mrf mki mpa mta mla msl mco mhe mso msi msh mce mca mwo mnu mte nba npl nen nnu nwr mwa mke mma mth mtr nra nik), (mrf, .inl (cI, 8, .inl grf)), (mla, .inl (cI, 40, .inl gla)), (msl, .inl (cI, 40, .inl gsl))] hpz) := by
  refine Met.ofW (cc := cX8_close) (maxL := 1) (ret := (some .int)) (by decide) rfl ?_
  intro p e s m args below meth c s₁ B hml hv
  obtain ⟨rfl, hsz, hP, hK, hD0, hN, hZ⟩ := hv
  have hx := B.exec
  have hb := B.bytes
  have hr := B.returns
  have hts := atoms_spec (ws := wsX8_close) B.pre
  have hown : s.vm.findClass RX8 = some m.cls := findClass_of_methodNamed B.named
  have hlocks := B.notSynchronized
  subst hsz
  have hD := hD0.self (sz := s.heap.size)
  have hA := zA_of hD
  have hl := lv_entry ([.ref m0]) (n := 1) (Nat.le_of_ble_eq_true rfl)
  rw [lg_entry_eq]
  generalize (lg_sl ([.ref m0]) ++ List.replicate (1 - (lg_sl ([.ref m0])).length) Slot.unset).toArray = ls at hl ⊢
  replace hl : lv_has ls 1 [(0, .ref m0)] := hl
  refine zw_begin hP hD (fun H locs hP1 hS => ?_)
  clear hP
  have hP := hP1
  clear hP1
  refine lv_aload_n hx hb dX8_close_0 rfl (lv_at hl 0 rfl) ?_
  refine va_get (D := D) (ci := 8) (v := .int nde) (C := RX8) (T := TX8) (N := 38) hx hb hts hi_X8_close_8 hown hK hP 0 rfl rfl 3 (by decide) (hts (.fieldLink RX8 115 "TheLiningsInItModel" "depth" "I") (List.mem_of_getElem? (i := 1) rfl)) (fun _ h9 => h9) rfl dX8_close_1 ?_
  refine lv_if_eq (tgt := 14) hx hb dX8_close_4 (by decide) (fun c_1 => ?_) (fun c_1 => ?_)
  · have fc_1 : nde.toInt = 0 := zf_eq c_1 rfl (by decide)
    refine lv_aload_n hx hb dX8_close_14 rfl (lv_at hl 0 rfl) ?_
    skip
    refine zw_Vv (As := []) (rest := []) (wr := [(mrf, .inl (cI, 8, .inl grf))]) ⟨hx, hb, hml, hown, hts⟩ (c_F_M_closes l D cI cJ cZ cP cS po m0 mrf mki mpa mta mla msl mco mhe mso msi msh mce mca mwo mnu mte mwa mke mma mth mtr (npu) (nte) (nat_) (nde) (nto) (nse) (nhu) (nga) (nsd) (nfa) (nba) (npl) (nen) (nnu) (nwr) (nra) (nik) gla gsl hy0 hy1 hy2 hy3 hy4 hy5 hy6 hy7 hy8 hy9 hy10 hy11 hy12 hy13 (by omega) hy15 hy16 hp_gla hp_gsl H.size) (cwV 0 hts gX8_close_X8_closes rfl rfl rfl ⟨rfl, dh_X8_closes⟩ ⟨Nat.le_of_ble_eq_true rfl, Nat.le_of_ble_eq_true rfl⟩) hK hN (hZ.kept hS) hP hD hS hA [0, 2, 3] [1] rfl rfl (by decide) (by decide) (by decide) (va_recv (q := (RX8, TX8, 38)) hK hP (ci := 8) (q0 := 0) rfl rfl) rfl hl.1 rfl (Nat.le_of_ble_eq_true rfl) dX8_close_15 ⟨Nat.le_of_ble_eq_true rfl, Nat.le_of_ble_eq_true rfl⟩ (fun u_3 H locs hr_2 hP hD hS => ?_)
    obtain ⟨q_4, q_5, q_6⟩ := u_3
    try dsimp only at hr_2
    obtain ⟨hbq_4, hbq_5, hsr_2_0, hsr_2_1, hr_2⟩ := hr_2
    have h9R := zRe (ws' := [(mrf, .inl (cI, 8, .inl grf)), (zMO m0 npu nte q_4 q_5 nto nse nhu nga q_6 nfa mrf mki mpa mta mla msl mco mhe mso msi msh mce mca mwo mnu mte nba npl nen nnu nwr mwa mke mma mth mtr nra nik), (mla, .inl (cI, 40, .inl gla)), (msl, .inl (cI, 40, .inl gsl))]) hP hD rfl
    clear hP hD
    obtain ⟨hP, hD⟩ := h9R
    refine lv_aload_n hx hb dX8_close_18 rfl (lv_at hl 0 rfl) ?_
    refine va_get (D := D) (ci := 8) (v := .int q_4) (C := RX8) (T := TX8) (N := 38) hx hb hts hi_X8_close_8 hown hK hP 1 rfl rfl 2 (by decide) (hts (.fieldLink RX8 122 "TheLiningsInItModel" "at" "I") (List.mem_of_getElem? (i := 2) rfl)) (fun _ h9 => h9) rfl dX8_close_19 ?_
    exact W.iret (v := q_4) hx hb hr (fun t ht hW => ⟨⟨q_4, (q_4, q_5, q_6, grf), rfl, ⟨(show 0 ≤ q_4.toInt ∧ q_4.toInt ≤ 40 from hbq_4), (show 0 ≤ q_5.toInt ∧ q_5.toInt ≤ 24 from hbq_5), (show (nde.toInt ≠ 0 ∧ (q_4 : Int32).toInt = -6 ∧ q_4 = nat_ ∧ q_5 = nde ∧ q_6 = nsd) ∨ (nde.toInt = 0 ∧ zCz gla gsl nga.toInt nte.toInt (nte.toInt - nat_.toInt).toNat nat_.toInt nde.toInt nsd = (q_4.toInt, q_5.toInt, q_6) ∧ (q_4 : Int32).toInt = q_4.toInt) from by (exact Or.inr ⟨by omega, hsr_2_0, by first | rfl | omega⟩)), trivial⟩, zRet ht hP hD [1, 0, 2, 3] (by decide) rfl⟩, hS.F ht⟩) hS.2.2 dX8_close_22
  · have fc_1 : nde.toInt ≠ 0 := zf_ne c_1 rfl (by decide)
    refine lv_aload_n hx hb dX8_close_7 rfl (lv_at hl 0 rfl) ?_
    refine lv_bipush (v := (-6)) hx hb dX8_close_8 (by decide) ?_
    skip
    refine zw_V (As := [.int (-6)]) (rest := []) (wr := [(mla, .inl (cI, 40, .inl gla)), (msl, .inl (cI, 40, .inl gsl))]) ⟨hx, hb, hml, hown, hts⟩ (c_M_no_6 l D cI cJ cZ cP cS po m0 mrf mki mpa mta mla msl mco mhe mso msi msh mce mca mwo mnu mte mwa mke mma mth mtr (npu) (nte) (nat_) (nde) (nto) (nse) (nhu) (nga) (nsd) (nfa) (nba) (npl) (nen) (nnu) (nwr) (nra) (nik) grf hy0 hy1 hy2 hy3 hy4 hy5 hy6 hy7 hy8 hy9 hy10 hy11 hy12 hy13 H.size) (cwV 1 hts gX8_close_X8_no rfl rfl rfl ⟨rfl, dh_X8_no⟩ ⟨Nat.le_of_ble_eq_true rfl, Nat.le_of_ble_eq_true rfl⟩) hK hN (hZ.kept hS) hP hD hS hA [0, 1] [2, 3] rfl rfl (by decide) (by decide) (by decide) (va_recv (q := (RX8, TX8, 38)) hK hP (ci := 8) (q0 := 0) rfl rfl) rfl hl.1 rfl (Nat.le_of_ble_eq_true rfl) dX8_close_10 ⟨Nat.le_of_ble_eq_true rfl, Nat.le_of_ble_eq_true rfl⟩ (fun r_7 u_8 H locs hr_7 hP hD hS => ?_)
    obtain ⟨q_9, rfl⟩ : ∃ z, z = u_8 := ⟨_, rfl⟩
    have h9R := zRe (ws' := [(mla, .inl (cI, 40, .inl gla)), (msl, .inl (cI, 40, .inl gsl)), (zMO m0 npu nte nat_ nde nto nse nhu nga nsd nfa mrf mki mpa mta mla msl mco mhe mso msi msh mce mca mwo mnu mte nba npl nen nnu nwr mwa mke mma mth mtr nra nik), (mrf, .inl (cI, 8, .inl q_9))]) hP hD rfl
    clear hP hD
    obtain ⟨hP, hD⟩ := h9R
    obtain rfl := hr_7
    exact W.iret (v := (-6)) hx hb hr (fun t ht hW => ⟨⟨(-6), (nat_, nde, nsd, q_9), rfl, ⟨(show 0 ≤ nat_.toInt ∧ nat_.toInt ≤ 40 from ⟨hy4, hy5⟩), (show 0 ≤ nde.toInt ∧ nde.toInt ≤ 24 from ⟨hy6, hy7⟩), (show (nde.toInt ≠ 0 ∧ ((-6) : Int32).toInt = -6 ∧ nat_ = nat_ ∧ nde = nde ∧ nsd = nsd) ∨ (nde.toInt = 0 ∧ zCz gla gsl nga.toInt nte.toInt (nte.toInt - nat_.toInt).toNat nat_.toInt nde.toInt nsd = (nat_.toInt, nde.toInt, nsd) ∧ ((-6) : Int32).toInt = nat_.toInt) from by (have k9 : ((-6) : Int32).toInt = -6 := (by decide); exact Or.inl ⟨by omega, by omega, rfl, rfl, rfl⟩)), trivial⟩, zRet ht hP hD [2, 3, 0, 1] (by decide) rfl⟩, hS.F ht⟩) hS.2.2 dX8_close_13
set_option maxHeartbeats 4000000 in
set_option maxRecDepth 100000 in
theorem c_F_M_closed (l : Launch) (D : va_G) (cI cJ cZ cP cS : ClassId) (po : zPool) (m0 mrf mki mpa mta mla msl mco mhe mso msi msh mce mca mwo mnu mte mwa mke mma mth mtr : Nat) (npu nte nat_ nde nto nse nhu nga nsd nfa nba npl nen nnu nwr nra nik : Int32) (gla gsl : Nat → Int32) (hy0 : 0 ≤ npu.toInt) (hy1 : npu.toInt ≤ 8) (hy2 : 4 ≤ nte.toInt) (hy3 : nte.toInt ≤ 40) (hy4 : 0 ≤ nat_.toInt) (hy5 : nat_.toInt ≤ 40) (hy6 : 0 ≤ nde.toInt) (hy7 : nde.toInt ≤ 24) (hy8 : 0 ≤ nhu.toInt) (hy9 : nhu.toInt ≤ 9) (hy10 : 0 ≤ nra.toInt) (hy11 : nra.toInt ≤ 2000) (hy12 : 0 ≤ nik.toInt) (hy13 : nik.toInt ≤ 1) (hy14 : nat_.toInt ≤ nte.toInt) (hp_gla : zRg gla (0) 1) (hp_gsl : zRg gsl (0) 9) : Met l yX8_closed wsX8_closed ({ frames := 1, cells := 0, slots := 0, locals := 21 }) (va_Pc [.ref m0] (zR D (zKT cI cJ cZ cP cS) po [(zMO m0 npu nte nat_ nde nto nse nhu nga nsd nfa mrf mki mpa mta mla msl mco mhe mso msi msh mce mca mwo mnu mte nba npl nen nnu nwr mwa mke mma mth mtr nra nik), (mla, .inl (cI, 40, .inl gla)), (msl, .inl (cI, 40, .inl gsl))])) (vp_Si (fun r => (r.toInt = zRu gla gsl nga.toInt nte.toInt (nte.toInt - nat_.toInt).toNat nat_.toInt))) 0 0 (fun _ => False) := by
  refine Met.ofW (cc := cX8_closed) (maxL := 2) (ret := (some .int)) (by decide) rfl ?_
  intro p e s m args below meth c s₁ B hml hv
  obtain ⟨rfl, hP, hK, hN, hZ⟩ := hv
  have hx := B.exec
  have hb := B.bytes
  have hr := B.returns
  have hts := atoms_spec (ws := wsX8_closed) B.pre
  have hown : s.vm.findClass RX8 = some m.cls := findClass_of_methodNamed B.named
  have hlocks := B.notSynchronized
  have hl := lv_entry ([.ref m0]) (n := 2) (Nat.le_of_ble_eq_true rfl)
  rw [lg_entry_eq]
  generalize (lg_sl ([.ref m0]) ++ List.replicate (2 - (lg_sl ([.ref m0])).length) Slot.unset).toArray = ls at hl ⊢
  replace hl : lv_has ls 2 [(0, .ref m0)] := hl
  refine lv_aload_n hx hb dX8_closed_0 rfl (lv_at hl 0 rfl) ?_
  refine va_get (D := D) (ci := 8) (v := .int nat_) (C := RX8) (T := TX8) (N := 38) hx hb hts hi_X8_closed_8 hown hK hP 0 rfl rfl 2 (by decide) (hts (.fieldLink RX8 122 "TheLiningsInItModel" "at" "I") (List.mem_of_getElem? (i := 1) rfl)) (fun _ h9 => h9) rfl dX8_closed_1 ?_
  refine lv_istore_n (lv' := [(1, .int nat_), (0, .ref m0)]) hx hb dX8_closed_4 rfl hl (by decide) rfl (fun ls hl => ?_)
  obtain ⟨i_5, hi_5⟩ : ∃ i : Int32, i = nat_ := ⟨_, rfl⟩
  replace hl : lv_has ls 2 [(1, .int i_5), (0, .ref m0)] := by rw [hi_5]; exact lv_sub hl [0, 1] rfl
  have h1i_5 : i_5.toInt = nat_.toInt := by rw [hi_5]
  obtain ⟨nfu, hni_5⟩ : ∃ nq9 : Nat, nte.toInt ≤ i_5.toInt + (nq9 : Int) := ⟨((nte.toInt : Int) - nat_.toInt).toNat, by omega⟩
  have hloi_5 : 0 ≤ i_5.toInt := by omega
  have hvi_5_0 : zRu gla gsl nga.toInt nte.toInt (nte.toInt - nat_.toInt).toNat nat_.toInt = zRu gla gsl nga.toInt nte.toInt (nte.toInt - i_5.toInt).toNat i_5.toInt := by
    (try rw [hi_5]); first | done | rfl
  have hvi_5_1 : i_5.toInt ≤ nte.toInt := by
    (try rw [hi_5]); omega
  clear h1i_5 hi_5
  revert hni_5
  revert hloi_5
  revert hvi_5_1
  revert hvi_5_0
  revert hl
  revert ls
  revert i_5
  induction nfu with
  | zero =>
    intro i_5 ls hl hvi_5_0 hvi_5_1 hloi_5 hni_5
    have hzi_5 : nte.toInt ≤ i_5.toInt := by omega
    refine lv_iload_n hx hb dX8_closed_5 rfl (lv_at hl 0 rfl) ?_
    refine lv_aload_n hx hb dX8_closed_6 rfl (lv_at hl 1 rfl) ?_
    refine va_get (D := D) (ci := 8) (v := .int nte) (C := RX8) (T := TX8) (N := 38) hx hb hts hi_X8_closed_8 hown hK hP 0 rfl rfl 1 (by decide) (hts (.fieldLink RX8 7 "TheLiningsInItModel" "teeth" "I") (List.mem_of_getElem? (i := 2) rfl)) (fun _ h9 => h9) rfl dX8_closed_7 ?_
    refine lv_icmp_ge (tgt := 35) hx hb dX8_closed_10 (by decide) (fun c_1 => ?_) (fun c_1 => ?_)
    · have fc_1 : nte.toInt ≤ i_5.toInt := zf_le c_1 rfl rfl
      refine lv_iload_n hx hb dX8_closed_35 rfl (lv_at hl 0 rfl) ?_
      exact W.iret (v := i_5) hx hb hr (fun t ht hW => ⟨i_5, rfl, (show (i_5 : Int32).toInt = zRu gla gsl nga.toInt nte.toInt (nte.toInt - nat_.toInt).toNat nat_.toInt from by (rw [hvi_5_0, show (nte.toInt - i_5.toInt).toNat = 0 from by omega]; rfl)), ht⟩) (fun q hq => by cases hq) dX8_closed_36
    · exfalso; have fc_1 : i_5.toInt < nte.toInt := zf_nle c_1 rfl rfl; omega
  | succ nfu ih =>
    intro i_5 ls hl hvi_5_0 hvi_5_1 hloi_5 hni_5
    refine lv_iload_n hx hb dX8_closed_5 rfl (lv_at hl 0 rfl) ?_
    refine lv_aload_n hx hb dX8_closed_6 rfl (lv_at hl 1 rfl) ?_
    refine va_get (D := D) (ci := 8) (v := .int nte) (C := RX8) (T := TX8) (N := 38) hx hb hts hi_X8_closed_8 hown hK hP 0 rfl rfl 1 (by decide) (hts (.fieldLink RX8 7 "TheLiningsInItModel" "teeth" "I") (List.mem_of_getElem? (i := 2) rfl)) (fun _ h9 => h9) rfl dX8_closed_7 ?_
    refine lv_icmp_ge (tgt := 35) hx hb dX8_closed_10 (by decide) (fun c_2 => ?_) (fun c_2 => ?_)
    · have fc_2 : nte.toInt ≤ i_5.toInt := zf_le c_2 rfl rfl
      refine lv_iload_n hx hb dX8_closed_35 rfl (lv_at hl 0 rfl) ?_
      exact W.iret (v := i_5) hx hb hr (fun t ht hW => ⟨i_5, rfl, (show (i_5 : Int32).toInt = zRu gla gsl nga.toInt nte.toInt (nte.toInt - nat_.toInt).toNat nat_.toInt from by (rw [hvi_5_0, show (nte.toInt - i_5.toInt).toNat = 0 from by omega]; rfl)), ht⟩) (fun q hq => by cases hq) dX8_closed_36
    · have fc_2 : i_5.toInt < nte.toInt := zf_nle c_2 rfl rfl
      refine lv_aload_n hx hb dX8_closed_13 rfl (lv_at hl 1 rfl) ?_
      refine lv_iload_n hx hb dX8_closed_14 rfl (lv_at hl 0 rfl) ?_
      refine zc_V (As := [.int i_5]) (rest := []) ⟨hx, hb, hml, hown, hts⟩ (c_F_M_doesCatch l D cI cJ cZ cP cS po m0 mrf mki mpa mta mla msl mco mhe mso msi msh mce mca mwo mnu mte mwa mke mma mth mtr (npu) (nte) (nat_) (nde) (nto) (nse) (nhu) (nga) (nsd) (nfa) (nba) (npl) (nen) (nnu) (nwr) (nra) (nik) gla gsl (i_5) hy0 hy1 hy2 hy3 hy4 hy5 hy6 hy7 hy8 hy9 hy10 hy11 hy12 hy13 (by omega) (by omega) hp_gla hp_gsl) (cwV 1 hts gX8_closed_X8_doesCatch rfl rfl rfl ⟨rfl, dh_X8_doesCatch⟩ ⟨Nat.le_of_ble_eq_true rfl, Nat.le_of_ble_eq_true rfl⟩) hK hN hZ hP (hP.sub [0, 1, 2] rfl) (va_recv (q := (RX8, TX8, 38)) hK hP (ci := 8) (q0 := 0) rfl rfl) rfl hl.1 rfl (Nat.le_of_ble_eq_true rfl) dX8_closed_15 ⟨Nat.le_of_ble_eq_true rfl, Nat.le_of_ble_eq_true rfl⟩ (fun r_3 hr_3 => ?_)
      obtain ⟨g_4, g_5, hsr_3_0⟩ := hr_3
      replace hsr_3_0 := zHid_i hsr_3_0
      refine lv_if_ne (tgt := 35) hx hb dX8_closed_18 (by decide) (fun c_6 => ?_) (fun c_6 => ?_)
      · have fc_6 : r_3.toInt ≠ 0 := zf_ne c_6 rfl (by decide)
        refine lv_iload_n hx hb dX8_closed_35 rfl (lv_at hl 0 rfl) ?_
        exact W.iret (v := i_5) hx hb hr (fun t ht hW => ⟨i_5, rfl, (show (i_5 : Int32).toInt = zRu gla gsl nga.toInt nte.toInt (nte.toInt - nat_.toInt).toNat nat_.toInt from by (rw [hvi_5_0, show (nte.toInt - i_5.toInt).toNat = (nte.toInt - (i_5.toInt + 1)).toNat + 1 from by omega, zRu_s, if_pos (by first | exact Or.inr (Or.inl (hsr_3_0.1 (by omega))))])), ht⟩) (fun q hq => by cases hq) dX8_closed_36
      · have fc_6 : r_3.toInt = 0 := zf_eq c_6 rfl (by decide)
        refine lv_aload_n hx hb dX8_closed_21 rfl (lv_at hl 1 rfl) ?_
        refine lv_iload_n hx hb dX8_closed_22 rfl (lv_at hl 0 rfl) ?_
        refine zc_V (As := [.int i_5]) (rest := []) ⟨hx, hb, hml, hown, hts⟩ (c_F_M_isOpen l D cI cJ cZ cP cS po m0 mrf mki mpa mta mla msl mco mhe mso msi msh mce mca mwo mnu mte mwa mke mma mth mtr (npu) (nte) (nat_) (nde) (nto) (nse) (nhu) (nga) (nsd) (nfa) (nba) (npl) (nen) (nnu) (nwr) (nra) (nik) gla (i_5) hy0 hy1 hy2 hy3 hy4 hy5 hy6 hy7 hy8 hy9 hy10 hy11 hy12 hy13 (by omega) (by omega) hp_gla) (cwV 1 hts gX8_closed_X8_isOpen rfl rfl rfl ⟨rfl, dh_X8_isOpen⟩ ⟨Nat.le_of_ble_eq_true rfl, Nat.le_of_ble_eq_true rfl⟩) hK hN hZ hP (hP.sub [0, 1] rfl) (va_recv (q := (RX8, TX8, 38)) hK hP (ci := 8) (q0 := 0) rfl rfl) rfl hl.1 rfl (Nat.le_of_ble_eq_true rfl) dX8_closed_23 ⟨Nat.le_of_ble_eq_true rfl, Nat.le_of_ble_eq_true rfl⟩ (fun r_7 hr_7 => ?_)
        obtain ⟨g_8, g_9, hsr_7_0⟩ := hr_7
        replace hsr_7_0 := zHid_i hsr_7_0
        refine lv_if_ne (tgt := 35) hx hb dX8_closed_26 (by decide) (fun c_10 => ?_) (fun c_10 => ?_)
        · have fc_10 : r_7.toInt ≠ 0 := zf_ne c_10 rfl (by decide)
          refine lv_iload_n hx hb dX8_closed_35 rfl (lv_at hl 0 rfl) ?_
          exact W.iret (v := i_5) hx hb hr (fun t ht hW => ⟨i_5, rfl, (show (i_5 : Int32).toInt = zRu gla gsl nga.toInt nte.toInt (nte.toInt - nat_.toInt).toNat nat_.toInt from by (rw [hvi_5_0, show (nte.toInt - i_5.toInt).toNat = (nte.toInt - (i_5.toInt + 1)).toNat + 1 from by omega, zRu_s, if_pos (by first | exact Or.inr (Or.inl (hsr_3_0.1 (by omega))) | exact Or.inr (Or.inr (hsr_7_0.1 (by omega))))])), ht⟩) (fun q hq => by cases hq) dX8_closed_36
        · have fc_10 : r_7.toInt = 0 := zf_eq c_10 rfl (by decide)
          obtain ⟨x_11, ex_11⟩ : ∃ y : Int32, y = i_5 + 1 := ⟨_, rfl⟩
          have qx_11 : x_11.toInt = i_5.toInt + 1 := dw_inc ex_11 fc_2
          refine lv_iinc (v := x_11) (lv' := [(1, .int x_11), (0, .ref m0)]) hx hb dX8_closed_29 hl (k := 0) rfl ex_11.symm (by decide) rfl (fun ls hl => ?_)
          refine lv_goto (tgt := 5) hx hb dX8_closed_32 (by decide) ?_
          exact ih x_11 _ (lv_sub hl [0, 1] rfl) (show zRu gla gsl nga.toInt nte.toInt (nte.toInt - nat_.toInt).toNat nat_.toInt = zRu gla gsl nga.toInt nte.toInt (nte.toInt - x_11.toInt).toNat x_11.toInt from by (rw [hvi_5_0, show (nte.toInt - i_5.toInt).toNat = (nte.toInt - x_11.toInt).toNat + 1 from by omega, zRu_s, if_neg (fun z => by (rcases z with z | z | z; (omega); (exact hsr_3_0.2 (by omega) z); (exact hsr_7_0.2 (by omega) z))), show x_11.toInt = i_5.toInt + 1 from by omega])) (show x_11.toInt ≤ nte.toInt from by omega) (dw_lo hloi_5 qx_11) (dw_hn hni_5 qx_11)
end
section
set_option maxHeartbeats 4000000 in
set_option maxRecDepth 100000 in
theorem c_F_M_dayIn (l : Launch) (D : va_G) (cI cJ cZ cP cS : ClassId) (po : zPool) (m0 mrf mki mpa mta mla msl mco mhe mso msi msh mce mca mwo mnu mte mwa mke mma mth mtr : Nat) (npu nte nat_ nde nto nse nhu nga nsd nfa nba npl nen nnu nwr nra nik : Int32) (gki gpa gta gla gsl : Nat → Int32) (hy0 : 0 ≤ npu.toInt) (hy1 : npu.toInt ≤ 8) (hy2 : 4 ≤ nte.toInt) (hy3 : nte.toInt ≤ 40) (hy4 : 0 ≤ nat_.toInt) (hy5 : nat_.toInt ≤ 40) (hy6 : 0 ≤ nde.toInt) (hy7 : nde.toInt ≤ 24) (hy8 : 0 ≤ nhu.toInt) (hy9 : nhu.toInt ≤ 9) (hy10 : 0 ≤ nra.toInt) (hy11 : nra.toInt ≤ 2000) (hy12 : 0 ≤ nik.toInt) (hy13 : nik.toInt ≤ 1) (hy14 : 1 ≤ nga.toInt) (hy15 : nga.toInt ≤ 9) (hp_gki : zRg gki (0) 6) (hp_gpa : zRg gpa (0) 9) (hp_gta : zRg gta (0) 60) (hp_gla : zRg gla (0) 1) (hp_gsl : zRg gsl (0) 9) (hpz : Nat) : Met l yX8_dayIn wsX8_dayIn ({ frames := 6, cells := 0, slots := 0, locals := 154 }) (va_Pc [.ref m0] (zW D (zKT cI cJ cZ cP cS) po [(zMO m0 npu nte nat_ nde nto nse nhu nga nsd nfa mrf mki mpa mta mla msl mco mhe mso msi msh mce mca mwo mnu mte nba npl nen nnu nwr mwa mke mma mth mtr nra nik), (mki, .inl (cI, 8, .inl gki)), (mpa, .inl (cI, 8, .inl gpa)), (mta, .inl (cI, 8, .inl gta)), (mla, .inl (cI, 40, .inl gla)), (msl, .inl (cI, 40, .inl gsl))] hpz)) (va_Qi (fun (r : Int32) (u : (Int32) × (Int32) × (Int32) × (Int32) × (Int32)) => (0 ≤ u.1.toInt ∧ u.1.toInt ≤ 40) ∧ (0 ≤ u.2.1.toInt ∧ u.2.1.toInt ≤ 24) ∧ (zDy gla gsl nga.toInt nte.toInt gki gpa gta npu.toInt.toNat nhu.toInt 3 0 0 60 nto nsd = (r.toInt, u.1.toInt, u.2.1.toInt, u.2.2.2.1.toInt, u.2.2.1, u.2.2.2.2)) ∧ (u.1.toInt ≤ nte.toInt ∧ 0 ≤ u.2.2.2.1.toInt ∧ u.2.2.2.1.toInt ≤ 300) ∧ (0 ≤ r.toInt ∧ r.toInt ≤ 1)) (zB D [(zMO m0 npu nte nat_ nde nto nse nhu nga nsd nfa mrf mki mpa mta mla msl mco mhe mso msi msh mce mca mwo mnu mte nba npl nen nnu nwr mwa mke mma mth mtr nra nik), (mki, .inl (cI, 8, .inl gki)), (mpa, .inl (cI, 8, .inl gpa)), (mta, .inl (cI, 8, .inl gta)), (mla, .inl (cI, 40, .inl gla)), (msl, .inl (cI, 40, .inl gsl))] hpz (fun (u : (Int32) × (Int32) × (Int32) × (Int32) × (Int32)) => [(zMO m0 npu nte u.1 u.2.1 u.2.2.1 u.2.2.2.1 nhu nga u.2.2.2.2 nfa mrf mki mpa mta mla msl mco mhe mso msi msh mce mca mwo mnu mte nba npl nen nnu nwr mwa mke mma mth mtr nra nik), (mki, .inl (cI, 8, .inl gki)), (mpa, .inl (cI, 8, .inl gpa)), (mta, .inl (cI, 8, .inl gta)), (mla, .inl (cI, 40, .inl gla)), (msl, .inl (cI, 40, .inl gsl))])) (va_A [(zMO m0 npu nte nat_ nde nto nse nhu nga nsd nfa mrf mki mpa mta mla msl mco mhe mso msi msh mce mca mwo mnu mte nba npl nen nnu nwr mwa mke mma mth mtr nra nik), (mki, .inl (cI, 8, .inl gki)), (mpa, .inl (cI, 8, .inl gpa)), (mta, .inl (cI, 8, .inl gta)), (mla, .inl (cI, 40, .inl gla)), (msl, .inl (cI, 40, .inl gsl))] hpz)) 0 0 (va_A [(zMO m0 npu nte nat_ nde nto nse nhu nga nsd nfa mrf mki mpa mta mla msl mco mhe mso msi msh mce mca mwo mnu mte nba npl nen nnu nwr mwa mke mma mth mtr nra nik), (mki, .inl (cI, 8, .inl gki)), (mpa, .inl (cI, 8, .inl gpa)), (mta, .inl (cI, 8, .inl gta)), (mla, .inl (cI, 40, .inl gla)), (msl, .inl (cI, 40, .inl gsl))] hpz) := by
  refine Met.ofW (cc := cX8_dayIn) (maxL := 3) (ret := (some .boolean)) (by decide) rfl ?_
  intro p e s m args below meth c s₁ B hml hv
  obtain ⟨rfl, hsz, hP, hK, hD0, hN, hZ⟩ := hv
  have hx := B.exec
  have hb := B.bytes
  have hr := B.returns
  have hts := atoms_spec (ws := wsX8_dayIn) B.pre
  have hown : s.vm.findClass RX8 = some m.cls := findClass_of_methodNamed B.named
  have hlocks := B.notSynchronized
  subst hsz
  have hD := hD0.self (sz := s.heap.size)
  have hA := zA_of hD
  have hl := lv_entry ([.ref m0]) (n := 3) (Nat.le_of_ble_eq_true rfl)
  rw [lg_entry_eq]
  generalize (lg_sl ([.ref m0]) ++ List.replicate (3 - (lg_sl ([.ref m0])).length) Slot.unset).toArray = ls at hl ⊢
  replace hl : lv_has ls 3 [(0, .ref m0)] := hl
  refine zw_begin hP hD (fun H locs hP1 hS => ?_)
  clear hP
  have hP := hP1
  clear hP1
  refine lv_aload_n hx hb dX8_dayIn_0 rfl (lv_at hl 0 rfl) ?_
  refine lv_iconst (v := 0) hx hb dX8_dayIn_1 (by decide) ?_
  refine va_put (D := D) (ci := 8) (v := .int 0) (ty := .int) (C := RX8) (T := TX8) (N := 38) hx hb hts hi_X8_dayIn_8 tyX8 tyX8_ok nmX8 hown hK hP hD hS 0 rfl rfl 2 (by decide) (hts (.fieldLink RX8 122 "TheLiningsInItModel" "at" "I") (List.mem_of_getElem? (i := 1) rfl)) (fun _ h9 => h9) rfl (tyX8_ok 2 (Nat.le_of_ble_eq_true rfl)) rfl rfl (Nat.le_of_ble_eq_true rfl) dX8_dayIn_2 (fun H locs hP hD hS => ?_)
  have h9R := zRe (ws' := [(zMO m0 npu nte 0 nde nto nse nhu nga nsd nfa mrf mki mpa mta mla msl mco mhe mso msi msh mce mca mwo mnu mte nba npl nen nnu nwr mwa mke mma mth mtr nra nik), (mki, .inl (cI, 8, .inl gki)), (mpa, .inl (cI, 8, .inl gpa)), (mta, .inl (cI, 8, .inl gta)), (mla, .inl (cI, 40, .inl gla)), (msl, .inl (cI, 40, .inl gsl))]) hP hD rfl
  clear hP hD
  obtain ⟨hP, hD⟩ := h9R
  refine lv_aload_n hx hb dX8_dayIn_5 rfl (lv_at hl 0 rfl) ?_
  refine lv_iconst (v := 0) hx hb dX8_dayIn_6 (by decide) ?_
  refine va_put (D := D) (ci := 8) (v := .int 0) (ty := .int) (C := RX8) (T := TX8) (N := 38) hx hb hts hi_X8_dayIn_8 tyX8 tyX8_ok nmX8 hown hK hP hD hS 0 rfl rfl 3 (by decide) (hts (.fieldLink RX8 115 "TheLiningsInItModel" "depth" "I") (List.mem_of_getElem? (i := 2) rfl)) (fun _ h9 => h9) rfl (tyX8_ok 3 (Nat.le_of_ble_eq_true rfl)) rfl rfl (Nat.le_of_ble_eq_true rfl) dX8_dayIn_7 (fun H locs hP hD hS => ?_)
  have h9R := zRe (ws' := [(zMO m0 npu nte 0 0 nto nse nhu nga nsd nfa mrf mki mpa mta mla msl mco mhe mso msi msh mce mca mwo mnu mte nba npl nen nnu nwr mwa mke mma mth mtr nra nik), (mki, .inl (cI, 8, .inl gki)), (mpa, .inl (cI, 8, .inl gpa)), (mta, .inl (cI, 8, .inl gta)), (mla, .inl (cI, 40, .inl gla)), (msl, .inl (cI, 40, .inl gsl))]) hP hD rfl
  clear hP hD
  obtain ⟨hP, hD⟩ := h9R
  refine lv_aload_n hx hb dX8_dayIn_10 rfl (lv_at hl 0 rfl) ?_
  refine lv_bipush (v := 60) hx hb dX8_dayIn_11 (by decide) ?_
  refine va_put (D := D) (ci := 8) (v := .int 60) (ty := .int) (C := RX8) (T := TX8) (N := 38) hx hb hts hi_X8_dayIn_8 tyX8 tyX8_ok nmX8 hown hK hP hD hS 0 rfl rfl 5 (by decide) (hts (.fieldLink RX8 13 "TheLiningsInItModel" "seconds" "I") (List.mem_of_getElem? (i := 3) rfl)) (fun _ h9 => h9) rfl (tyX8_ok 5 (Nat.le_of_ble_eq_true rfl)) rfl rfl (Nat.le_of_ble_eq_true rfl) dX8_dayIn_13 (fun H locs hP hD hS => ?_)
  have h9R := zRe (ws' := [(zMO m0 npu nte 0 0 nto 60 nhu nga nsd nfa mrf mki mpa mta mla msl mco mhe mso msi msh mce mca mwo mnu mte nba npl nen nnu nwr mwa mke mma mth mtr nra nik), (mki, .inl (cI, 8, .inl gki)), (mpa, .inl (cI, 8, .inl gpa)), (mta, .inl (cI, 8, .inl gta)), (mla, .inl (cI, 40, .inl gla)), (msl, .inl (cI, 40, .inl gsl))]) hP hD rfl
  clear hP hD
  obtain ⟨hP, hD⟩ := h9R
  refine lv_iconst (v := 0) hx hb dX8_dayIn_16 (by decide) ?_
  refine lv_istore_n (lv' := [(1, .int 0), (0, .ref m0)]) hx hb dX8_dayIn_17 rfl hl (by decide) rfl (fun ls hl => ?_)
  obtain ⟨i_18, hi_18⟩ : ∃ i : Int32, i = 0 := ⟨_, rfl⟩
  replace hl : lv_has ls 3 [(1, .int i_18), (0, .ref m0)] := by rw [hi_18]; exact lv_sub hl [0, 1] rfl
  have h1i_18 : i_18.toInt = 0 := by rw [hi_18]; decide
  obtain ⟨nfu, hni_18⟩ : ∃ nq9 : Nat, 3 ≤ i_18.toInt + (nq9 : Int) := ⟨((3 : Int) - 0).toNat, by omega⟩
  have hloi_18 : 0 ≤ i_18.toInt := by omega
  obtain ⟨v_1, hv_1⟩ : ∃ g : Int32, g = 0 := ⟨_, rfl⟩
  have hbv_1 : 0 ≤ v_1.toInt ∧ v_1.toInt ≤ 40 := by rw [hv_1]; exact ⟨by decide, by decide⟩
  obtain ⟨v_2, hv_2⟩ : ∃ g : Int32, g = 0 := ⟨_, rfl⟩
  have hbv_2 : 0 ≤ v_2.toInt ∧ v_2.toInt ≤ 24 := by rw [hv_2]; exact ⟨by decide, by decide⟩
  obtain ⟨v_3, hv_3⟩ : ∃ g : Int32, g = nto := ⟨_, rfl⟩
  obtain ⟨v_4, hv_4⟩ : ∃ g : Int32, g = 60 := ⟨_, rfl⟩
  have hbv_4 : 0 ≤ v_4.toInt ∧ v_4.toInt ≤ 300 := by rw [hv_4]; exact ⟨by decide, by decide⟩
  obtain ⟨v_5, hv_5⟩ : ∃ g : Int32, g = nsd := ⟨_, rfl⟩
  replace hP : va_P D vwCl [(zMO m0 npu nte v_1 v_2 v_3 v_4 nhu nga v_5 nfa mrf mki mpa mta mla msl mco mhe mso msi msh mce mca mwo mnu mte nba npl nen nnu nwr mwa mke mma mth mtr nra nik), (mki, .inl (cI, 8, .inl gki)), (mpa, .inl (cI, 8, .inl gpa)), (mta, .inl (cI, 8, .inl gta)), (mla, .inl (cI, 40, .inl gla)), (msl, .inl (cI, 40, .inl gsl))] H := by rw [hv_1, hv_2, hv_3, hv_4, hv_5]; exact hP
  replace hD : va_D (va_A [(zMO m0 npu nte nat_ nde nto nse nhu nga nsd nfa mrf mki mpa mta mla msl mco mhe mso msi msh mce mca mwo mnu mte nba npl nen nnu nwr mwa mke mma mth mtr nra nik), (mki, .inl (cI, 8, .inl gki)), (mpa, .inl (cI, 8, .inl gpa)), (mta, .inl (cI, 8, .inl gta)), (mla, .inl (cI, 40, .inl gla)), (msl, .inl (cI, 40, .inl gsl))] s.heap.size) [(zMO m0 npu nte v_1 v_2 v_3 v_4 nhu nga v_5 nfa mrf mki mpa mta mla msl mco mhe mso msi msh mce mca mwo mnu mte nba npl nen nnu nwr mwa mke mma mth mtr nra nik), (mki, .inl (cI, 8, .inl gki)), (mpa, .inl (cI, 8, .inl gpa)), (mta, .inl (cI, 8, .inl gta)), (mla, .inl (cI, 40, .inl gla)), (msl, .inl (cI, 40, .inl gsl))] := by rw [hv_1, hv_2, hv_3, hv_4, hv_5]; exact hD
  have hvi_18_0 : zDy gla gsl nga.toInt nte.toInt gki gpa gta npu.toInt.toNat nhu.toInt 3 0 0 60 nto nsd = zDy gla gsl nga.toInt nte.toInt gki gpa gta npu.toInt.toNat nhu.toInt (3 - i_18.toInt).toNat (v_1 : Int32).toInt (v_2 : Int32).toInt (v_4 : Int32).toInt (v_3 : Int32) (v_5 : Int32) := by
    (try rw [hi_18]); (try rw [hv_1]); (try rw [hv_2]); (try rw [hv_3]); (try rw [hv_4]); (try rw [hv_5]); (rw [show (3 - (0 : Int32).toInt).toNat = 3 from by decide, show (0 : Int32).toInt = 0 from by decide, show (60 : Int32).toInt = 60 from by decide])
  have hvi_18_1 : i_18.toInt ≤ 3 ∧ (v_1 : Int32).toInt ≤ nte.toInt := by
    (try rw [hi_18]); (try rw [hv_1]); (try rw [hv_2]); (try rw [hv_3]); (try rw [hv_4]); (try rw [hv_5]); (have k0 : (0 : Int32).toInt = 0 := (by decide); omega)
  clear h1i_18 hi_18 hv_1 hv_2 hv_3 hv_4 hv_5
  skip
  revert hni_18
  revert hloi_18
  revert hvi_18_1
  revert hvi_18_0
  revert hbv_4
  revert hbv_2
  revert hbv_1
  revert hl
  revert hS
  revert hD
  revert hP
  revert ls
  revert locs
  revert H
  revert v_1
  revert v_2
  revert v_3
  revert v_4
  revert v_5
  revert i_18
  induction nfu with
  | zero =>
    intro i_18 v_5 v_4 v_3 v_2 v_1 H locs ls hP hD hS hl hbv_1 hbv_2 hbv_4 hvi_18_0 hvi_18_1 hloi_18 hni_18
    have hzi_18 : 3 ≤ i_18.toInt := by omega
    refine lv_iload_n hx hb dX8_dayIn_18 rfl (lv_at hl 0 rfl) ?_
    refine lv_iconst (v := 3) hx hb dX8_dayIn_19 (by decide) ?_
    refine lv_icmp_ge (tgt := 92) hx hb dX8_dayIn_20 (by decide) (fun c_6 => ?_) (fun c_6 => ?_)
    · have fc_6 : 3 ≤ i_18.toInt := zf_le c_6 (by decide) rfl
      refine lv_iconst (v := 0) hx hb dX8_dayIn_92 (by decide) ?_
      exact W.zret (v := 0) hx hb hr (by decide) (fun t ht hW => ⟨⟨0, (v_1, v_2, v_3, v_4, v_5), rfl, ⟨(show 0 ≤ v_1.toInt ∧ v_1.toInt ≤ 40 from hbv_1), (show 0 ≤ v_2.toInt ∧ v_2.toInt ≤ 24 from hbv_2), (show zDy gla gsl nga.toInt nte.toInt gki gpa gta npu.toInt.toNat nhu.toInt 3 0 0 60 nto nsd = ((0 : Int32).toInt, v_1.toInt, v_2.toInt, v_4.toInt, v_3, v_5) from by (rw [hvi_18_0]; first | (exact zDy_out (by omega)) | (rw [show (3 - i_18.toInt).toNat = 0 from by omega]; rfl))), (show v_1.toInt ≤ nte.toInt ∧ 0 ≤ v_4.toInt ∧ v_4.toInt ≤ 300 from by exact ⟨by omega, by omega, by omega⟩), ⟨by decide, by decide⟩⟩, zRet ht hP hD [0, 1, 2, 3, 4, 5] (by decide) rfl⟩, hS.F ht⟩) hS.2.2 dX8_dayIn_93
    · exfalso; have fc_6 : i_18.toInt < 3 := zf_nle c_6 (by decide) rfl; omega
  | succ nfu ih =>
    intro i_18 v_5 v_4 v_3 v_2 v_1 H locs ls hP hD hS hl hbv_1 hbv_2 hbv_4 hvi_18_0 hvi_18_1 hloi_18 hni_18
    refine lv_iload_n hx hb dX8_dayIn_18 rfl (lv_at hl 0 rfl) ?_
    refine lv_iconst (v := 3) hx hb dX8_dayIn_19 (by decide) ?_
    refine lv_icmp_ge (tgt := 92) hx hb dX8_dayIn_20 (by decide) (fun c_7 => ?_) (fun c_7 => ?_)
    · have fc_7 : 3 ≤ i_18.toInt := zf_le c_7 (by decide) rfl
      refine lv_iconst (v := 0) hx hb dX8_dayIn_92 (by decide) ?_
      exact W.zret (v := 0) hx hb hr (by decide) (fun t ht hW => ⟨⟨0, (v_1, v_2, v_3, v_4, v_5), rfl, ⟨(show 0 ≤ v_1.toInt ∧ v_1.toInt ≤ 40 from hbv_1), (show 0 ≤ v_2.toInt ∧ v_2.toInt ≤ 24 from hbv_2), (show zDy gla gsl nga.toInt nte.toInt gki gpa gta npu.toInt.toNat nhu.toInt 3 0 0 60 nto nsd = ((0 : Int32).toInt, v_1.toInt, v_2.toInt, v_4.toInt, v_3, v_5) from by (rw [hvi_18_0]; first | (exact zDy_out (by omega)) | (rw [show (3 - i_18.toInt).toNat = 0 from by omega]; rfl))), (show v_1.toInt ≤ nte.toInt ∧ 0 ≤ v_4.toInt ∧ v_4.toInt ≤ 300 from by exact ⟨by omega, by omega, by omega⟩), ⟨by decide, by decide⟩⟩, zRet ht hP hD [0, 1, 2, 3, 4, 5] (by decide) rfl⟩, hS.F ht⟩) hS.2.2 dX8_dayIn_93
    · have fc_7 : i_18.toInt < 3 := zf_nle c_7 (by decide) rfl
      refine lv_aload_n hx hb dX8_dayIn_23 rfl (lv_at hl 1 rfl) ?_
      refine va_get (D := D) (ci := 8) (v := .int v_2) (C := RX8) (T := TX8) (N := 38) hx hb hts hi_X8_dayIn_8 hown hK hP 0 rfl rfl 3 (by decide) (hts (.fieldLink RX8 115 "TheLiningsInItModel" "depth" "I") (List.mem_of_getElem? (i := 2) rfl)) (fun _ h9 => h9) rfl dX8_dayIn_24 ?_
      refine lv_if_ne (tgt := 92) hx hb dX8_dayIn_27 (by decide) (fun c_8 => ?_) (fun c_8 => ?_)
      · have fc_8 : v_2.toInt ≠ 0 := zf_ne c_8 rfl (by decide)
        refine lv_iconst (v := 0) hx hb dX8_dayIn_92 (by decide) ?_
        exact W.zret (v := 0) hx hb hr (by decide) (fun t ht hW => ⟨⟨0, (v_1, v_2, v_3, v_4, v_5), rfl, ⟨(show 0 ≤ v_1.toInt ∧ v_1.toInt ≤ 40 from hbv_1), (show 0 ≤ v_2.toInt ∧ v_2.toInt ≤ 24 from hbv_2), (show zDy gla gsl nga.toInt nte.toInt gki gpa gta npu.toInt.toNat nhu.toInt 3 0 0 60 nto nsd = ((0 : Int32).toInt, v_1.toInt, v_2.toInt, v_4.toInt, v_3, v_5) from by (rw [hvi_18_0]; first | (exact zDy_out (by omega)) | (rw [show (3 - i_18.toInt).toNat = 0 from by omega]; rfl))), (show v_1.toInt ≤ nte.toInt ∧ 0 ≤ v_4.toInt ∧ v_4.toInt ≤ 300 from by exact ⟨by omega, by omega, by omega⟩), ⟨by decide, by decide⟩⟩, zRet ht hP hD [0, 1, 2, 3, 4, 5] (by decide) rfl⟩, hS.F ht⟩) hS.2.2 dX8_dayIn_93
      · have fc_8 : v_2.toInt = 0 := zf_eq c_8 rfl (by decide)
        refine lv_aload_n hx hb dX8_dayIn_30 rfl (lv_at hl 1 rfl) ?_
        skip
        refine zw_Vv (As := []) (rest := []) (wr := [(mki, .inl (cI, 8, .inl gki)), (mpa, .inl (cI, 8, .inl gpa)), (mta, .inl (cI, 8, .inl gta))]) ⟨hx, hb, hml, hown, hts⟩ (c_F_M_closes l D cI cJ cZ cP cS po m0 mrf mki mpa mta mla msl mco mhe mso msi msh mce mca mwo mnu mte mwa mke mma mth mtr (npu) (nte) (v_1) (v_2) (v_3) (v_4) (nhu) (nga) (v_5) (nfa) (nba) (npl) (nen) (nnu) (nwr) (nra) (nik) gla gsl hy0 hy1 hy2 hy3 hbv_1.1 hbv_1.2 hbv_2.1 hbv_2.2 hy8 hy9 hy10 hy11 hy12 hy13 (by omega) hy14 hy15 hp_gla hp_gsl H.size) (cwV 0 hts gX8_dayIn_X8_closes rfl rfl rfl ⟨rfl, dh_X8_closes⟩ ⟨Nat.le_of_ble_eq_true rfl, Nat.le_of_ble_eq_true rfl⟩) hK hN (hZ.kept hS) hP hD hS hA [0, 4, 5] [1, 2, 3] rfl rfl (by decide) (by decide) (by decide) (va_recv (q := (RX8, TX8, 38)) hK hP (ci := 8) (q0 := 0) rfl rfl) rfl hl.1 rfl (Nat.le_of_ble_eq_true rfl) dX8_dayIn_31 ⟨Nat.le_of_ble_eq_true rfl, Nat.le_of_ble_eq_true rfl⟩ (fun u_10 H locs hr_9 hP hD hS => ?_)
        obtain ⟨q_11, q_12, q_13⟩ := u_10
        try dsimp only at hr_9
        obtain ⟨hbq_11, hbq_12, hsr_9_0, hsr_9_1, hr_9⟩ := hr_9
        have h9R := zRe (ws' := [(mki, .inl (cI, 8, .inl gki)), (mpa, .inl (cI, 8, .inl gpa)), (mta, .inl (cI, 8, .inl gta)), (zMO m0 npu nte q_11 q_12 v_3 v_4 nhu nga q_13 nfa mrf mki mpa mta mla msl mco mhe mso msi msh mce mca mwo mnu mte nba npl nen nnu nwr mwa mke mma mth mtr nra nik), (mla, .inl (cI, 40, .inl gla)), (msl, .inl (cI, 40, .inl gsl))]) hP hD rfl
        clear hP hD
        obtain ⟨hP, hD⟩ := h9R
        refine lv_aload_n hx hb dX8_dayIn_34 rfl (lv_at hl 1 rfl) ?_
        refine va_get (D := D) (ci := 8) (v := .int q_11) (C := RX8) (T := TX8) (N := 38) hx hb hts hi_X8_dayIn_8 hown hK hP 3 rfl rfl 2 (by decide) (hts (.fieldLink RX8 122 "TheLiningsInItModel" "at" "I") (List.mem_of_getElem? (i := 1) rfl)) (fun _ h9 => h9) rfl dX8_dayIn_35 ?_
        refine lv_aload_n hx hb dX8_dayIn_38 rfl (lv_at hl 1 rfl) ?_
        refine va_get (D := D) (ci := 8) (v := .int nte) (C := RX8) (T := TX8) (N := 38) hx hb hts hi_X8_dayIn_8 hown hK hP 3 rfl rfl 1 (by decide) (hts (.fieldLink RX8 7 "TheLiningsInItModel" "teeth" "I") (List.mem_of_getElem? (i := 4) rfl)) (fun _ h9 => h9) rfl dX8_dayIn_39 ?_
        refine lv_icmp_ne (tgt := 47) hx hb dX8_dayIn_42 (by decide) (fun c_14 => ?_) (fun c_14 => ?_)
        · have fc_14 : q_11.toInt ≠ nte.toInt := zf_ne c_14 rfl rfl
          refine lv_iconst (v := 0) hx hb dX8_dayIn_47 (by decide) ?_
          refine lv_istore_n (lv' := [(2, .int 0), (1, .int i_18), (0, .ref m0)]) hx hb dX8_dayIn_48 rfl hl (by decide) rfl (fun ls hl => ?_)
          obtain ⟨i_49, hi_49⟩ : ∃ i : Int32, i = 0 := ⟨_, rfl⟩
          replace hl : lv_has ls 3 [(2, .int i_49), (1, .int i_18), (0, .ref m0)] := by rw [hi_49]; exact lv_sub hl [0, 1, 2] rfl
          have h1i_49 : i_49.toInt = 0 := by rw [hi_49]; decide
          obtain ⟨nfu_49, hni_49⟩ : ∃ nq9 : Nat, 12 ≤ i_49.toInt + (nq9 : Int) := ⟨((12 : Int) - 0).toNat, by omega⟩
          have hloi_49 : 0 ≤ i_49.toInt := by omega
          obtain ⟨v_15, hv_15⟩ : ∃ g : Int32, g = q_12 := ⟨_, rfl⟩
          have hbv_15 : 0 ≤ v_15.toInt ∧ v_15.toInt ≤ 24 := by rw [hv_15]; exact ⟨by omega, by omega⟩
          obtain ⟨v_16, hv_16⟩ : ∃ g : Int32, g = v_3 := ⟨_, rfl⟩
          obtain ⟨v_17, hv_17⟩ : ∃ g : Int32, g = v_4 := ⟨_, rfl⟩
          have hbv_17 : 0 ≤ v_17.toInt ∧ v_17.toInt ≤ 300 := by rw [hv_17]; exact ⟨by omega, by omega⟩
          obtain ⟨v_18, hv_18⟩ : ∃ g : Int32, g = q_13 := ⟨_, rfl⟩
          replace hP : va_P D vwCl [(mki, .inl (cI, 8, .inl gki)), (mpa, .inl (cI, 8, .inl gpa)), (mta, .inl (cI, 8, .inl gta)), (zMO m0 npu nte q_11 v_15 v_16 v_17 nhu nga v_18 nfa mrf mki mpa mta mla msl mco mhe mso msi msh mce mca mwo mnu mte nba npl nen nnu nwr mwa mke mma mth mtr nra nik), (mla, .inl (cI, 40, .inl gla)), (msl, .inl (cI, 40, .inl gsl))] H := by rw [hv_15, hv_16, hv_17, hv_18]; exact hP
          replace hD : va_D (va_A [(zMO m0 npu nte nat_ nde nto nse nhu nga nsd nfa mrf mki mpa mta mla msl mco mhe mso msi msh mce mca mwo mnu mte nba npl nen nnu nwr mwa mke mma mth mtr nra nik), (mki, .inl (cI, 8, .inl gki)), (mpa, .inl (cI, 8, .inl gpa)), (mta, .inl (cI, 8, .inl gta)), (mla, .inl (cI, 40, .inl gla)), (msl, .inl (cI, 40, .inl gsl))] s.heap.size) [(mki, .inl (cI, 8, .inl gki)), (mpa, .inl (cI, 8, .inl gpa)), (mta, .inl (cI, 8, .inl gta)), (zMO m0 npu nte q_11 v_15 v_16 v_17 nhu nga v_18 nfa mrf mki mpa mta mla msl mco mhe mso msi msh mce mca mwo mnu mte nba npl nen nnu nwr mwa mke mma mth mtr nra nik), (mla, .inl (cI, 40, .inl gla)), (msl, .inl (cI, 40, .inl gsl))] := by rw [hv_15, hv_16, hv_17, hv_18]; exact hD
          have hvi_49_0 : zPf gki gpa gta npu.toInt.toNat nhu.toInt 12 (q_12.toInt, v_4.toInt, v_3, q_13) = zPf gki gpa gta npu.toInt.toNat nhu.toInt (12 - i_49.toInt).toNat ((v_15 : Int32).toInt, (v_17 : Int32).toInt, (v_16 : Int32), (v_18 : Int32)) := by
            (try rw [hi_49]); (try rw [hv_15]); (try rw [hv_16]); (try rw [hv_17]); (try rw [hv_18]); (rw [show (12 - (0 : Int32).toInt).toNat = 12 from by decide])
          have hvi_49_1 : i_49.toInt ≤ 12 := by
            (try rw [hi_49]); (try rw [hv_15]); (try rw [hv_16]); (try rw [hv_17]); (try rw [hv_18]); (have k0 : (0 : Int32).toInt = 0 := (by decide); omega)
          clear h1i_49 hi_49 hv_15 hv_16 hv_17 hv_18
          skip
          revert hni_49
          revert hloi_49
          revert hvi_49_1
          revert hvi_49_0
          revert hbv_17
          revert hbv_15
          revert hl
          revert hS
          revert hD
          revert hP
          revert ls
          revert locs
          revert H
          revert v_15
          revert v_16
          revert v_17
          revert v_18
          revert i_49
          induction nfu_49 with
          | zero =>
            intro i_49 v_18 v_17 v_16 v_15 H locs ls hP hD hS hl hbv_15 hbv_17 hvi_49_0 hvi_49_1 hloi_49 hni_49
            have hzi_49 : 12 ≤ i_49.toInt := by omega
            refine lv_iload_n hx hb dX8_dayIn_49 rfl (lv_at hl 0 rfl) ?_
            refine lv_bipush (v := 12) hx hb dX8_dayIn_50 (by decide) ?_
            refine lv_icmp_ge (tgt := 86) hx hb dX8_dayIn_52 (by decide) (fun c_19 => ?_) (fun c_19 => ?_)
            · have fc_19 : 12 ≤ i_49.toInt := zf_le c_19 (by decide) rfl
              obtain ⟨x_20, ex_20⟩ : ∃ y : Int32, y = i_18 + 1 := ⟨_, rfl⟩
              have qx_20 : x_20.toInt = i_18.toInt + 1 := dw_incK ex_20 fc_7 (by decide)
              refine lv_iinc (v := x_20) (lv' := [(1, .int x_20), (2, .int i_49), (0, .ref m0)]) hx hb dX8_dayIn_86 hl (k := 1) rfl ex_20.symm (by decide) rfl (fun ls hl => ?_)
              refine lv_goto (tgt := 18) hx hb dX8_dayIn_89 (by decide) ?_
              exact ih x_20 (v_18) (v_17) (v_16) (v_15) (q_11) _ _ _ (hP.sub [3, 0, 1, 2, 4, 5] rfl) (hD.sub [3, 0, 1, 2, 4, 5] (by decide) rfl) hS (lv_sub hl [0, 2] rfl) hbq_11 hbv_15 hbv_17 (show zDy gla gsl nga.toInt nte.toInt gki gpa gta npu.toInt.toNat nhu.toInt 3 0 0 60 nto nsd = zDy gla gsl nga.toInt nte.toInt gki gpa gta npu.toInt.toNat nhu.toInt (3 - x_20.toInt).toNat (q_11 : Int32).toInt (v_15 : Int32).toInt (v_17 : Int32).toInt (v_16 : Int32) (v_18 : Int32) from by (have hp := hvi_49_0; rw [show zPf gki gpa gta npu.toInt.toNat nhu.toInt (12 - i_49.toInt).toNat ((v_15 : Int32).toInt, (v_17 : Int32).toInt, (v_16 : Int32), (v_18 : Int32)) = ((v_15 : Int32).toInt, (v_17 : Int32).toInt, (v_16 : Int32), (v_18 : Int32)) from by first | (exact zPf_stop (Or.inl (by dsimp only; omega)) _) | (rw [show (12 - i_49.toInt).toNat = 0 from by omega]; rfl)] at hp; rw [hvi_18_0, show (3 - i_18.toInt).toNat = (3 - x_20.toInt).toNat + 1 from by omega]; exact zDy_on (by omega) hsr_9_0 (by omega) hp)) (show x_20.toInt ≤ 3 ∧ (q_11 : Int32).toInt ≤ nte.toInt from by exact ⟨by omega, by omega⟩) (dw_lo hloi_18 qx_20) (dw_hn hni_18 qx_20)
            · exfalso; have fc_19 : i_49.toInt < 12 := zf_nle c_19 (by decide) rfl; omega
          | succ nfu_49 ih_49 =>
            intro i_49 v_18 v_17 v_16 v_15 H locs ls hP hD hS hl hbv_15 hbv_17 hvi_49_0 hvi_49_1 hloi_49 hni_49
            refine lv_iload_n hx hb dX8_dayIn_49 rfl (lv_at hl 0 rfl) ?_
            refine lv_bipush (v := 12) hx hb dX8_dayIn_50 (by decide) ?_
            refine lv_icmp_ge (tgt := 86) hx hb dX8_dayIn_52 (by decide) (fun c_21 => ?_) (fun c_21 => ?_)
            · have fc_21 : 12 ≤ i_49.toInt := zf_le c_21 (by decide) rfl
              obtain ⟨x_22, ex_22⟩ : ∃ y : Int32, y = i_18 + 1 := ⟨_, rfl⟩
              have qx_22 : x_22.toInt = i_18.toInt + 1 := dw_incK ex_22 fc_7 (by decide)
              refine lv_iinc (v := x_22) (lv' := [(1, .int x_22), (2, .int i_49), (0, .ref m0)]) hx hb dX8_dayIn_86 hl (k := 1) rfl ex_22.symm (by decide) rfl (fun ls hl => ?_)
              refine lv_goto (tgt := 18) hx hb dX8_dayIn_89 (by decide) ?_
              exact ih x_22 (v_18) (v_17) (v_16) (v_15) (q_11) _ _ _ (hP.sub [3, 0, 1, 2, 4, 5] rfl) (hD.sub [3, 0, 1, 2, 4, 5] (by decide) rfl) hS (lv_sub hl [0, 2] rfl) hbq_11 hbv_15 hbv_17 (show zDy gla gsl nga.toInt nte.toInt gki gpa gta npu.toInt.toNat nhu.toInt 3 0 0 60 nto nsd = zDy gla gsl nga.toInt nte.toInt gki gpa gta npu.toInt.toNat nhu.toInt (3 - x_22.toInt).toNat (q_11 : Int32).toInt (v_15 : Int32).toInt (v_17 : Int32).toInt (v_16 : Int32) (v_18 : Int32) from by (have hp := hvi_49_0; rw [show zPf gki gpa gta npu.toInt.toNat nhu.toInt (12 - i_49.toInt).toNat ((v_15 : Int32).toInt, (v_17 : Int32).toInt, (v_16 : Int32), (v_18 : Int32)) = ((v_15 : Int32).toInt, (v_17 : Int32).toInt, (v_16 : Int32), (v_18 : Int32)) from by first | (exact zPf_stop (Or.inl (by dsimp only; omega)) _) | (rw [show (12 - i_49.toInt).toNat = 0 from by omega]; rfl)] at hp; rw [hvi_18_0, show (3 - i_18.toInt).toNat = (3 - x_22.toInt).toNat + 1 from by omega]; exact zDy_on (by omega) hsr_9_0 (by omega) hp)) (show x_22.toInt ≤ 3 ∧ (q_11 : Int32).toInt ≤ nte.toInt from by exact ⟨by omega, by omega⟩) (dw_lo hloi_18 qx_22) (dw_hn hni_18 qx_22)
            · have fc_21 : i_49.toInt < 12 := zf_nle c_21 (by decide) rfl
              refine lv_aload_n hx hb dX8_dayIn_55 rfl (lv_at hl 2 rfl) ?_
              refine va_get (D := D) (ci := 8) (v := .int v_15) (C := RX8) (T := TX8) (N := 38) hx hb hts hi_X8_dayIn_8 hown hK hP 3 rfl rfl 3 (by decide) (hts (.fieldLink RX8 115 "TheLiningsInItModel" "depth" "I") (List.mem_of_getElem? (i := 2) rfl)) (fun _ h9 => h9) rfl dX8_dayIn_56 ?_
              refine lv_if_le (tgt := 86) hx hb dX8_dayIn_59 (by decide) (fun c_23 => ?_) (fun c_23 => ?_)
              · have fc_23 : v_15.toInt ≤ 0 := zf_le c_23 rfl (by decide)
                obtain ⟨x_24, ex_24⟩ : ∃ y : Int32, y = i_18 + 1 := ⟨_, rfl⟩
                have qx_24 : x_24.toInt = i_18.toInt + 1 := dw_incK ex_24 fc_7 (by decide)
                refine lv_iinc (v := x_24) (lv' := [(1, .int x_24), (2, .int i_49), (0, .ref m0)]) hx hb dX8_dayIn_86 hl (k := 1) rfl ex_24.symm (by decide) rfl (fun ls hl => ?_)
                refine lv_goto (tgt := 18) hx hb dX8_dayIn_89 (by decide) ?_
                exact ih x_24 (v_18) (v_17) (v_16) (v_15) (q_11) _ _ _ (hP.sub [3, 0, 1, 2, 4, 5] rfl) (hD.sub [3, 0, 1, 2, 4, 5] (by decide) rfl) hS (lv_sub hl [0, 2] rfl) hbq_11 hbv_15 hbv_17 (show zDy gla gsl nga.toInt nte.toInt gki gpa gta npu.toInt.toNat nhu.toInt 3 0 0 60 nto nsd = zDy gla gsl nga.toInt nte.toInt gki gpa gta npu.toInt.toNat nhu.toInt (3 - x_24.toInt).toNat (q_11 : Int32).toInt (v_15 : Int32).toInt (v_17 : Int32).toInt (v_16 : Int32) (v_18 : Int32) from by (have hp := hvi_49_0; rw [show zPf gki gpa gta npu.toInt.toNat nhu.toInt (12 - i_49.toInt).toNat ((v_15 : Int32).toInt, (v_17 : Int32).toInt, (v_16 : Int32), (v_18 : Int32)) = ((v_15 : Int32).toInt, (v_17 : Int32).toInt, (v_16 : Int32), (v_18 : Int32)) from by first | (exact zPf_stop (Or.inl (by dsimp only; omega)) _) | (rw [show (12 - i_49.toInt).toNat = 0 from by omega]; rfl)] at hp; rw [hvi_18_0, show (3 - i_18.toInt).toNat = (3 - x_24.toInt).toNat + 1 from by omega]; exact zDy_on (by omega) hsr_9_0 (by omega) hp)) (show x_24.toInt ≤ 3 ∧ (q_11 : Int32).toInt ≤ nte.toInt from by exact ⟨by omega, by omega⟩) (dw_lo hloi_18 qx_24) (dw_hn hni_18 qx_24)
              · have fc_23 : 0 < v_15.toInt := zf_nle c_23 rfl (by decide)
                refine lv_aload_n hx hb dX8_dayIn_62 rfl (lv_at hl 2 rfl) ?_
                refine lv_iconst (v := 2) hx hb dX8_dayIn_63 (by decide) ?_
                refine zc_V (As := [.int 2]) (rest := []) ⟨hx, hb, hml, hown, hts⟩ (c_F_M_nextOf_2 l D cI cJ cZ cP cS po m0 mrf mki mpa mta mla msl mco mhe mso msi msh mce mca mwo mnu mte mwa mke mma mth mtr (npu) (nte) (q_11) (v_15) (v_16) (v_17) (nhu) (nga) (v_18) (nfa) (nba) (npl) (nen) (nnu) (nwr) (nra) (nik) gki gpa gta hy0 hy1 hy2 hy3 hbq_11.1 hbq_11.2 hbv_15.1 hbv_15.2 hy8 hy9 hy10 hy11 hy12 hy13 hbv_17.1 hbv_17.2 hp_gki hp_gpa hp_gta) (cwV 1 hts gX8_dayIn_X8_nextOf rfl rfl rfl ⟨rfl, dh_X8_nextOf⟩ ⟨Nat.le_of_ble_eq_true rfl, Nat.le_of_ble_eq_true rfl⟩) hK hN (hZ.kept hS) hP (hP.sub [3, 0, 1, 2] rfl) (va_recv (q := (RX8, TX8, 38)) hK hP (ci := 8) (q0 := 3) rfl rfl) rfl hl.1 rfl (Nat.le_of_ble_eq_true rfl) dX8_dayIn_64 ⟨Nat.le_of_ble_eq_true rfl, Nat.le_of_ble_eq_true rfl⟩ (fun r_25 hr_25 => ?_)
                obtain ⟨g_26, g_27, hsr_25_0⟩ := hr_25
                have zgr_25 := zNq_rg (K := gki) (A := gpa) (T := gta) (N := npu.toInt.toNat) (h := nhu.toInt) (n := 2) (d := v_15.toInt) (s := v_17.toInt)
                rw [← hsr_25_0] at zgr_25
                refine lv_iconst (v := (-1)) hx hb dX8_dayIn_67 (by decide) ?_
                refine lv_icmp_eq (tgt := 86) hx hb dX8_dayIn_68 (by decide) (fun c_28 => ?_) (fun c_28 => ?_)
                · have fc_28 : r_25.toInt = (-1) := zf_eq c_28 rfl (by decide)
                  obtain ⟨x_29, ex_29⟩ : ∃ y : Int32, y = i_18 + 1 := ⟨_, rfl⟩
                  have qx_29 : x_29.toInt = i_18.toInt + 1 := dw_incK ex_29 fc_7 (by decide)
                  refine lv_iinc (v := x_29) (lv' := [(1, .int x_29), (2, .int i_49), (0, .ref m0)]) hx hb dX8_dayIn_86 hl (k := 1) rfl ex_29.symm (by decide) rfl (fun ls hl => ?_)
                  refine lv_goto (tgt := 18) hx hb dX8_dayIn_89 (by decide) ?_
                  exact ih x_29 (v_18) (v_17) (v_16) (v_15) (q_11) _ _ _ (hP.sub [3, 0, 1, 2, 4, 5] rfl) (hD.sub [3, 0, 1, 2, 4, 5] (by decide) rfl) hS (lv_sub hl [0, 2] rfl) hbq_11 hbv_15 hbv_17 (show zDy gla gsl nga.toInt nte.toInt gki gpa gta npu.toInt.toNat nhu.toInt 3 0 0 60 nto nsd = zDy gla gsl nga.toInt nte.toInt gki gpa gta npu.toInt.toNat nhu.toInt (3 - x_29.toInt).toNat (q_11 : Int32).toInt (v_15 : Int32).toInt (v_17 : Int32).toInt (v_16 : Int32) (v_18 : Int32) from by (have hp := hvi_49_0; rw [show zPf gki gpa gta npu.toInt.toNat nhu.toInt (12 - i_49.toInt).toNat ((v_15 : Int32).toInt, (v_17 : Int32).toInt, (v_16 : Int32), (v_18 : Int32)) = ((v_15 : Int32).toInt, (v_17 : Int32).toInt, (v_16 : Int32), (v_18 : Int32)) from by first | (exact zPf_stop (Or.inl (by dsimp only; omega)) _) | (rw [show (12 - i_49.toInt).toNat = 0 from by omega]; rfl) | (exact zPf_stop (Or.inr (by dsimp only; rw [← hsr_25_0]; omega)) _)] at hp; rw [hvi_18_0, show (3 - i_18.toInt).toNat = (3 - x_29.toInt).toNat + 1 from by omega]; exact zDy_on (by omega) hsr_9_0 (by omega) hp)) (show x_29.toInt ≤ 3 ∧ (q_11 : Int32).toInt ≤ nte.toInt from by exact ⟨by omega, by omega⟩) (dw_lo hloi_18 qx_29) (dw_hn hni_18 qx_29)
                · have fc_28 : r_25.toInt ≠ (-1) := zf_ne c_28 rfl (by decide)
                  refine lv_aload_n hx hb dX8_dayIn_71 rfl (lv_at hl 2 rfl) ?_
                  refine lv_aload_n hx hb dX8_dayIn_72 rfl (lv_at hl 2 rfl) ?_
                  refine lv_iconst (v := 2) hx hb dX8_dayIn_73 (by decide) ?_
                  refine zc_V (As := [.int 2]) (rest := [.ref m0]) ⟨hx, hb, hml, hown, hts⟩ (c_F_M_nextOf_2 l D cI cJ cZ cP cS po m0 mrf mki mpa mta mla msl mco mhe mso msi msh mce mca mwo mnu mte mwa mke mma mth mtr (npu) (nte) (q_11) (v_15) (v_16) (v_17) (nhu) (nga) (v_18) (nfa) (nba) (npl) (nen) (nnu) (nwr) (nra) (nik) gki gpa gta hy0 hy1 hy2 hy3 hbq_11.1 hbq_11.2 hbv_15.1 hbv_15.2 hy8 hy9 hy10 hy11 hy12 hy13 hbv_17.1 hbv_17.2 hp_gki hp_gpa hp_gta) (cwV 1 hts gX8_dayIn_X8_nextOf rfl rfl rfl ⟨rfl, dh_X8_nextOf⟩ ⟨Nat.le_of_ble_eq_true rfl, Nat.le_of_ble_eq_true rfl⟩) hK hN (hZ.kept hS) hP (hP.sub [3, 0, 1, 2] rfl) (va_recv (q := (RX8, TX8, 38)) hK hP (ci := 8) (q0 := 3) rfl rfl) rfl hl.1 rfl (Nat.le_of_ble_eq_true rfl) dX8_dayIn_74 ⟨Nat.le_of_ble_eq_true rfl, Nat.le_of_ble_eq_true rfl⟩ (fun r_30 hr_30 => ?_)
                  obtain ⟨g_31, g_32, hsr_30_0⟩ := hr_30
                  have zxr : r_25.toInt = r_30.toInt := hsr_25_0.trans hsr_30_0.symm
                  rw [zxr] at zgr_25
                  have hne : 0 ≤ r_30.toInt := by omega
                  have htl9 : (gta r_30.toNatClampNeg).toInt ≤ v_17.toInt := by (rcases zgr_25 with z | z; (omega); (exact z.2.2.2))
                  have hgt9 : 0 ≤ (gta r_30.toNatClampNeg).toInt := (hp_gta _).1
                  skip
                  refine zw_Vv (As := [.int r_30]) (rest := []) (wr := [(mla, .inl (cI, 40, .inl gla)), (msl, .inl (cI, 40, .inl gsl))]) ⟨hx, hb, hml, hown, hts⟩ (c_F_M_makes l D cI cJ cZ cP cS po m0 mrf mki mpa mta mla msl mco mhe mso msi msh mce mca mwo mnu mte mwa mke mma mth mtr (npu) (nte) (q_11) (v_15) (v_16) (v_17) (nhu) (nga) (v_18) (nfa) (nba) (npl) (nen) (nnu) (nwr) (nra) (nik) gki gpa gta (r_30) hy0 hy1 hy2 hy3 hbq_11.1 hbq_11.2 hbv_15.1 hbv_15.2 hy8 hy9 hy10 hy11 hy12 hy13 (by omega) (by omega) hbv_17.1 hbv_17.2 (by first | assumption | omega) hp_gki hp_gpa hp_gta H.size) (cwV 1 hts gX8_dayIn_X8_makes rfl rfl rfl ⟨rfl, dh_X8_makes⟩ ⟨Nat.le_of_ble_eq_true rfl, Nat.le_of_ble_eq_true rfl⟩) hK hN (hZ.kept hS) hP hD hS hA [3, 0, 1, 2] [4, 5] rfl rfl (by decide) (by decide) (by decide) (va_recv (q := (RX8, TX8, 38)) hK hP (ci := 8) (q0 := 3) rfl rfl) rfl hl.1 rfl (Nat.le_of_ble_eq_true rfl) dX8_dayIn_77 ⟨Nat.le_of_ble_eq_true rfl, Nat.le_of_ble_eq_true rfl⟩ (fun u_34 H locs hr_33 hP hD hS => ?_)
                  obtain ⟨q_35, q_36, q_37, q_38⟩ := u_34
                  try dsimp only at hr_33
                  obtain ⟨hbq_35, hsr_33_0, hsr_33_1, hr_33⟩ := hr_33
                  have h9R := zRe (ws' := [(mla, .inl (cI, 40, .inl gla)), (msl, .inl (cI, 40, .inl gsl)), (zMO m0 npu nte q_11 q_35 q_36 q_37 nhu nga q_38 nfa mrf mki mpa mta mla msl mco mhe mso msi msh mce mca mwo mnu mte nba npl nen nnu nwr mwa mke mma mth mtr nra nik), (mki, .inl (cI, 8, .inl gki)), (mpa, .inl (cI, 8, .inl gpa)), (mta, .inl (cI, 8, .inl gta))]) hP hD rfl
                  clear hP hD
                  obtain ⟨hP, hD⟩ := h9R
                  obtain ⟨x_39, ex_39⟩ : ∃ y : Int32, y = i_49 + 1 := ⟨_, rfl⟩
                  have qx_39 : x_39.toInt = i_49.toInt + 1 := dw_incK ex_39 fc_21 (by decide)
                  refine lv_iinc (v := x_39) (lv' := [(2, .int x_39), (1, .int i_18), (0, .ref m0)]) hx hb dX8_dayIn_80 hl (k := 0) rfl ex_39.symm (by decide) rfl (fun ls hl => ?_)
                  refine lv_goto (tgt := 49) hx hb dX8_dayIn_83 (by decide) ?_
                  exact ih_49 x_39 (q_38) (q_37) (q_36) (q_35) _ _ _ (hP.sub [3, 4, 5, 2, 0, 1] rfl) (hD.sub [3, 4, 5, 2, 0, 1] (by decide) rfl) hS (lv_sub hl [0, 1, 2] rfl) hbq_35 ⟨by omega, by omega⟩ (show zPf gki gpa gta npu.toInt.toNat nhu.toInt 12 (q_12.toInt, v_4.toInt, v_3, q_13) = zPf gki gpa gta npu.toInt.toNat nhu.toInt (12 - x_39.toInt).toNat ((q_35 : Int32).toInt, (q_37 : Int32).toInt, (q_36 : Int32), (q_38 : Int32)) from by (rw [hvi_49_0, show (12 - i_49.toInt).toNat = (12 - x_39.toInt).toNat + 1 from by omega, zPf_s, if_neg (by dsimp only; rw [← hsr_30_0]; omega)]; dsimp only; rw [← hsr_30_0]; congr 1; first | done | exact hsr_33_0)) (show x_39.toInt ≤ 12 from by omega) (dw_lo hloi_49 qx_39) (dw_hn hni_49 qx_39)
        · have fc_14 : q_11.toInt = nte.toInt := zf_eq c_14 rfl rfl
          refine lv_iconst (v := 1) hx hb dX8_dayIn_45 (by decide) ?_
          exact W.zret (v := 1) hx hb hr (by decide) (fun t ht hW => ⟨⟨1, (q_11, q_12, v_3, v_4, q_13), rfl, ⟨(show 0 ≤ q_11.toInt ∧ q_11.toInt ≤ 40 from hbq_11), (show 0 ≤ q_12.toInt ∧ q_12.toInt ≤ 24 from hbq_12), (show zDy gla gsl nga.toInt nte.toInt gki gpa gta npu.toInt.toNat nhu.toInt 3 0 0 60 nto nsd = ((1 : Int32).toInt, q_11.toInt, q_12.toInt, v_4.toInt, v_3, q_13) from by (rw [hvi_18_0, show (3 - i_18.toInt).toNat = (2 - i_18.toInt).toNat + 1 from by omega]; exact zDy_top (by omega) hsr_9_0 (by omega))), (show q_11.toInt ≤ nte.toInt ∧ 0 ≤ v_4.toInt ∧ v_4.toInt ≤ 300 from by exact ⟨by omega, by omega, by omega⟩), ⟨by decide, by decide⟩⟩, zRet ht hP hD [3, 0, 1, 2, 4, 5] (by decide) rfl⟩, hS.F ht⟩) hS.2.2 dX8_dayIn_46
set_option maxHeartbeats 4000000 in
set_option maxRecDepth 100000 in
theorem c_F_M_winter (l : Launch) (D : va_G) (cI cJ cZ cP cS : ClassId) (po : zPool) (m0 mrf mki mpa mta mla msl mco mhe mso msi msh mce mca mwo mnu mte mwa mke mma mth mtr : Nat) (npu nte nat_ nde nto nse nhu nga nsd nfa nba npl nen nnu nwr nra nik : Int32) (grf gki gpa gta gla gsl : Nat → Int32) (n : Int32) (hy0 : 0 ≤ npu.toInt) (hy1 : npu.toInt ≤ 8) (hy2 : 4 ≤ nte.toInt) (hy3 : nte.toInt ≤ 40) (hy4 : 0 ≤ nat_.toInt) (hy5 : nat_.toInt ≤ 40) (hy6 : 0 ≤ nde.toInt) (hy7 : nde.toInt ≤ 24) (hy8 : 0 ≤ nhu.toInt) (hy9 : nhu.toInt ≤ 9) (hy10 : 0 ≤ nra.toInt) (hy11 : nra.toInt ≤ 2000) (hy12 : 0 ≤ nik.toInt) (hy13 : nik.toInt ≤ 1) (hy14 : 0 ≤ nse.toInt) (hy15 : nse.toInt ≤ 300) (hy16 : nat_.toInt ≤ nte.toInt) (hy17 : 1 ≤ nga.toInt) (hy18 : nga.toInt ≤ 9) (hp_gki : zRg gki (0) 6) (hp_gpa : zRg gpa (0) 9) (hp_gta : zRg gta (0) 60) (hp_gla : zRg gla (0) 1) (hp_gsl : zRg gsl (0) 9) (hpz : Nat) : Met l yX8_winter wsX8_winter ({ frames := 7, cells := 0, slots := 0, locals := 176 }) (va_Pc [.ref m0, .int n] (zW D (zKT cI cJ cZ cP cS) po [(zMO m0 npu nte nat_ nde nto nse nhu nga nsd nfa mrf mki mpa mta mla msl mco mhe mso msi msh mce mca mwo mnu mte nba npl nen nnu nwr mwa mke mma mth mtr nra nik), (mrf, .inl (cI, 8, .inl grf)), (mki, .inl (cI, 8, .inl gki)), (mpa, .inl (cI, 8, .inl gpa)), (mta, .inl (cI, 8, .inl gta)), (mla, .inl (cI, 40, .inl gla)), (msl, .inl (cI, 40, .inl gsl))] hpz)) (va_Qi (fun (r : Int32) (u : (Int32) × (Int32) × (Int32) × (Int32) × (Int32) × (Nat → Int32)) => (0 ≤ u.1.toInt ∧ u.1.toInt ≤ 40) ∧ (0 ≤ u.2.1.toInt ∧ u.2.1.toInt ≤ 24) ∧ (((n.toInt < 1 ∨ 60 < n.toInt) ∧ r.toInt = -6 ∧ u.1 = nat_ ∧ u.2.1 = nde ∧ u.2.2.2.1 = nse ∧ u.2.2.1 = nto ∧ u.2.2.2.2.1 = nsd) ∨ ((1 ≤ n.toInt ∧ n.toInt ≤ 60) ∧ zWi gla gsl nga.toInt nte.toInt gki gpa gta npu.toInt.toNat nhu.toInt n.toInt.toNat 0 nat_.toInt nde.toInt nse.toInt nto nsd = (r.toInt, u.1.toInt, u.2.1.toInt, u.2.2.2.1.toInt, u.2.2.1, u.2.2.2.2.1))) ∧ (True)) (zB D [(zMO m0 npu nte nat_ nde nto nse nhu nga nsd nfa mrf mki mpa mta mla msl mco mhe mso msi msh mce mca mwo mnu mte nba npl nen nnu nwr mwa mke mma mth mtr nra nik), (mrf, .inl (cI, 8, .inl grf)), (mki, .inl (cI, 8, .inl gki)), (mpa, .inl (cI, 8, .inl gpa)), (mta, .inl (cI, 8, .inl gta)), (mla, .inl (cI, 40, .inl gla)), (msl, .inl (cI, 40, .inl gsl))] hpz (fun (u : (Int32) × (Int32) × (Int32) × (Int32) × (Int32) × (Nat → Int32)) => [(zMO m0 npu nte u.1 u.2.1 u.2.2.1 u.2.2.2.1 nhu nga u.2.2.2.2.1 nfa mrf mki mpa mta mla msl mco mhe mso msi msh mce mca mwo mnu mte nba npl nen nnu nwr mwa mke mma mth mtr nra nik), (mrf, .inl (cI, 8, .inl u.2.2.2.2.2)), (mki, .inl (cI, 8, .inl gki)), (mpa, .inl (cI, 8, .inl gpa)), (mta, .inl (cI, 8, .inl gta)), (mla, .inl (cI, 40, .inl gla)), (msl, .inl (cI, 40, .inl gsl))])) (va_A [(zMO m0 npu nte nat_ nde nto nse nhu nga nsd nfa mrf mki mpa mta mla msl mco mhe mso msi msh mce mca mwo mnu mte nba npl nen nnu nwr mwa mke mma mth mtr nra nik), (mrf, .inl (cI, 8, .inl grf)), (mki, .inl (cI, 8, .inl gki)), (mpa, .inl (cI, 8, .inl gpa)), (mta, .inl (cI, 8, .inl gta)), (mla, .inl (cI, 40, .inl gla)), (msl, .inl (cI, 40, .inl gsl))] hpz)) 0 0 (va_A [(zMO m0 npu nte nat_ nde nto nse nhu nga nsd nfa mrf mki mpa mta mla msl mco mhe mso msi msh mce mca mwo mnu mte nba npl nen nnu nwr mwa mke mma mth mtr nra nik), (mrf, .inl (cI, 8, .inl grf)), (mki, .inl (cI, 8, .inl gki)), (mpa, .inl (cI, 8, .inl gpa)), (mta, .inl (cI, 8, .inl gta)), (mla, .inl (cI, 40, .inl gla)), (msl, .inl (cI, 40, .inl gsl))] hpz) := by
  refine Met.ofW (cc := cX8_winter) (maxL := 4) (ret := (some .int)) (by decide) rfl ?_
  intro p e s m args below meth c s₁ B hml hv
  obtain ⟨rfl, hsz, hP, hK, hD0, hN, hZ⟩ := hv
  have hx := B.exec
  have hb := B.bytes
  have hr := B.returns
  have hts := atoms_spec (ws := wsX8_winter) B.pre
  have hown : s.vm.findClass RX8 = some m.cls := findClass_of_methodNamed B.named
  have hlocks := B.notSynchronized
  subst hsz
  have hD := hD0.self (sz := s.heap.size)
  have hA := zA_of hD
  have hl := lv_entry ([.ref m0, .int n]) (n := 4) (Nat.le_of_ble_eq_true rfl)
  rw [lg_entry_eq]
  generalize (lg_sl ([.ref m0, .int n]) ++ List.replicate (4 - (lg_sl ([.ref m0, .int n])).length) Slot.unset).toArray = ls at hl ⊢
  replace hl : lv_has ls 4 [(0, .ref m0), (1, .int n)] := hl
  refine zw_begin hP hD (fun H locs hP1 hS => ?_)
  clear hP
  have hP := hP1
  clear hP1
  refine lv_iload_n hx hb dX8_winter_0 rfl (lv_at hl 1 rfl) ?_
  refine lv_iconst (v := 1) hx hb dX8_winter_1 (by decide) ?_
  refine lv_icmp_lt (tgt := 11) hx hb dX8_winter_2 (by decide) (fun c_1 => ?_) (fun c_1 => ?_)
  · have fc_1 : n.toInt < 1 := zf_lt c_1 rfl (by decide)
    refine lv_aload_n hx hb dX8_winter_11 rfl (lv_at hl 0 rfl) ?_
    refine lv_bipush (v := (-6)) hx hb dX8_winter_12 (by decide) ?_
    skip
    refine zw_V (As := [.int (-6)]) (rest := []) (wr := [(mki, .inl (cI, 8, .inl gki)), (mpa, .inl (cI, 8, .inl gpa)), (mta, .inl (cI, 8, .inl gta)), (mla, .inl (cI, 40, .inl gla)), (msl, .inl (cI, 40, .inl gsl))]) ⟨hx, hb, hml, hown, hts⟩ (c_M_no_6 l D cI cJ cZ cP cS po m0 mrf mki mpa mta mla msl mco mhe mso msi msh mce mca mwo mnu mte mwa mke mma mth mtr (npu) (nte) (nat_) (nde) (nto) (nse) (nhu) (nga) (nsd) (nfa) (nba) (npl) (nen) (nnu) (nwr) (nra) (nik) grf hy0 hy1 hy2 hy3 hy4 hy5 hy6 hy7 hy8 hy9 hy10 hy11 hy12 hy13 H.size) (cwV 1 hts gX8_winter_X8_no rfl rfl rfl ⟨rfl, dh_X8_no⟩ ⟨Nat.le_of_ble_eq_true rfl, Nat.le_of_ble_eq_true rfl⟩) hK hN (hZ.kept hS) hP hD hS hA [0, 1] [2, 3, 4, 5, 6] rfl rfl (by decide) (by decide) (by decide) (va_recv (q := (RX8, TX8, 38)) hK hP (ci := 8) (q0 := 0) rfl rfl) rfl hl.1 rfl (Nat.le_of_ble_eq_true rfl) dX8_winter_14 ⟨Nat.le_of_ble_eq_true rfl, Nat.le_of_ble_eq_true rfl⟩ (fun r_2 u_3 H locs hr_2 hP hD hS => ?_)
    obtain ⟨q_4, rfl⟩ : ∃ z, z = u_3 := ⟨_, rfl⟩
    have h9R := zRe (ws' := [(mki, .inl (cI, 8, .inl gki)), (mpa, .inl (cI, 8, .inl gpa)), (mta, .inl (cI, 8, .inl gta)), (mla, .inl (cI, 40, .inl gla)), (msl, .inl (cI, 40, .inl gsl)), (zMO m0 npu nte nat_ nde nto nse nhu nga nsd nfa mrf mki mpa mta mla msl mco mhe mso msi msh mce mca mwo mnu mte nba npl nen nnu nwr mwa mke mma mth mtr nra nik), (mrf, .inl (cI, 8, .inl q_4))]) hP hD rfl
    clear hP hD
    obtain ⟨hP, hD⟩ := h9R
    obtain rfl := hr_2
    exact W.iret (v := (-6)) hx hb hr (fun t ht hW => ⟨⟨(-6), (nat_, nde, nto, nse, nsd, q_4), rfl, ⟨(show 0 ≤ nat_.toInt ∧ nat_.toInt ≤ 40 from ⟨hy4, hy5⟩), (show 0 ≤ nde.toInt ∧ nde.toInt ≤ 24 from ⟨hy6, hy7⟩), (show ((n.toInt < 1 ∨ 60 < n.toInt) ∧ ((-6) : Int32).toInt = -6 ∧ nat_ = nat_ ∧ nde = nde ∧ nse = nse ∧ nto = nto ∧ nsd = nsd) ∨ ((1 ≤ n.toInt ∧ n.toInt ≤ 60) ∧ zWi gla gsl nga.toInt nte.toInt gki gpa gta npu.toInt.toNat nhu.toInt n.toInt.toNat 0 nat_.toInt nde.toInt nse.toInt nto nsd = (((-6) : Int32).toInt, nat_.toInt, nde.toInt, nse.toInt, nto, nsd)) from by (have k9 : ((-6) : Int32).toInt = -6 := (by decide); exact Or.inl ⟨by omega, by omega, rfl, rfl, rfl, rfl, rfl⟩)), trivial⟩, zRet ht hP hD [5, 6, 0, 1, 2, 3, 4] (by decide) rfl⟩, hS.F ht⟩) hS.2.2 dX8_winter_17
  · have fc_1 : 1 ≤ n.toInt := zf_nlt c_1 rfl (by decide)
    refine lv_iload_n hx hb dX8_winter_5 rfl (lv_at hl 1 rfl) ?_
    refine lv_bipush (v := 60) hx hb dX8_winter_6 (by decide) ?_
    refine lv_icmp_le (tgt := 18) hx hb dX8_winter_8 (by decide) (fun c_5 => ?_) (fun c_5 => ?_)
    · have fc_5 : n.toInt ≤ 60 := zf_le c_5 rfl (by decide)
      refine lv_iconst (v := 0) hx hb dX8_winter_18 (by decide) ?_
      refine lv_istore_n (lv' := [(2, .int 0), (0, .ref m0), (1, .int n)]) hx hb dX8_winter_19 rfl hl (by decide) rfl (fun ls hl => ?_)
      refine lv_iconst (v := 0) hx hb dX8_winter_20 (by decide) ?_
      refine lv_istore_n (lv' := [(3, .int 0), (2, .int 0), (0, .ref m0), (1, .int n)]) hx hb dX8_winter_21 rfl hl (by decide) rfl (fun ls hl => ?_)
      obtain ⟨i_22, hi_22⟩ : ∃ i : Int32, i = 0 := ⟨_, rfl⟩
      replace hl : lv_has ls 4 [(3, .int i_22), (2, .int 0), (0, .ref m0), (1, .int n)] := by rw [hi_22]; exact lv_sub hl [0, 1, 2, 3] rfl
      have h1i_22 : i_22.toInt = 0 := by rw [hi_22]; decide
      obtain ⟨nfu, hni_22⟩ : ∃ nq9 : Nat, n.toInt ≤ i_22.toInt + (nq9 : Int) := ⟨((n.toInt : Int) - 0).toNat, by omega⟩
      have hloi_22 : 0 ≤ i_22.toInt := by omega
      obtain ⟨v_6, hv_6⟩ : ∃ g : Int32, g = nat_ := ⟨_, rfl⟩
      have hbv_6 : 0 ≤ v_6.toInt ∧ v_6.toInt ≤ 40 := by rw [hv_6]; exact ⟨by omega, by omega⟩
      obtain ⟨v_7, hv_7⟩ : ∃ g : Int32, g = nde := ⟨_, rfl⟩
      have hbv_7 : 0 ≤ v_7.toInt ∧ v_7.toInt ≤ 24 := by rw [hv_7]; exact ⟨by omega, by omega⟩
      obtain ⟨v_8, hv_8⟩ : ∃ g : Int32, g = nto := ⟨_, rfl⟩
      obtain ⟨v_9, hv_9⟩ : ∃ g : Int32, g = nse := ⟨_, rfl⟩
      have hbv_9 : 0 ≤ v_9.toInt ∧ v_9.toInt ≤ 300 := by rw [hv_9]; exact ⟨by omega, by omega⟩
      obtain ⟨v_10, hv_10⟩ : ∃ g : Int32, g = nsd := ⟨_, rfl⟩
      replace hP : va_P D vwCl [(zMO m0 npu nte v_6 v_7 v_8 v_9 nhu nga v_10 nfa mrf mki mpa mta mla msl mco mhe mso msi msh mce mca mwo mnu mte nba npl nen nnu nwr mwa mke mma mth mtr nra nik), (mrf, .inl (cI, 8, .inl grf)), (mki, .inl (cI, 8, .inl gki)), (mpa, .inl (cI, 8, .inl gpa)), (mta, .inl (cI, 8, .inl gta)), (mla, .inl (cI, 40, .inl gla)), (msl, .inl (cI, 40, .inl gsl))] H := by rw [hv_6, hv_7, hv_8, hv_9, hv_10]; exact hP
      replace hD : va_D (va_A [(zMO m0 npu nte nat_ nde nto nse nhu nga nsd nfa mrf mki mpa mta mla msl mco mhe mso msi msh mce mca mwo mnu mte nba npl nen nnu nwr mwa mke mma mth mtr nra nik), (mrf, .inl (cI, 8, .inl grf)), (mki, .inl (cI, 8, .inl gki)), (mpa, .inl (cI, 8, .inl gpa)), (mta, .inl (cI, 8, .inl gta)), (mla, .inl (cI, 40, .inl gla)), (msl, .inl (cI, 40, .inl gsl))] s.heap.size) [(zMO m0 npu nte v_6 v_7 v_8 v_9 nhu nga v_10 nfa mrf mki mpa mta mla msl mco mhe mso msi msh mce mca mwo mnu mte nba npl nen nnu nwr mwa mke mma mth mtr nra nik), (mrf, .inl (cI, 8, .inl grf)), (mki, .inl (cI, 8, .inl gki)), (mpa, .inl (cI, 8, .inl gpa)), (mta, .inl (cI, 8, .inl gta)), (mla, .inl (cI, 40, .inl gla)), (msl, .inl (cI, 40, .inl gsl))] := by rw [hv_6, hv_7, hv_8, hv_9, hv_10]; exact hD
      obtain ⟨v_11, hv_11⟩ : ∃ g : Int32, g = 0 := ⟨_, rfl⟩
      replace hl : lv_has ls 4 [(3, .int i_22), (2, .int v_11), (0, .ref m0), (1, .int n)] := by rw [hv_11]; exact hl
      have hbv_11 : 0 ≤ v_11.toInt ∧ v_11.toInt ≤ 60 := by rw [hv_11]; exact ⟨by decide, by decide⟩
      have hvi_22_0 : zWi gla gsl nga.toInt nte.toInt gki gpa gta npu.toInt.toNat nhu.toInt n.toInt.toNat 0 nat_.toInt nde.toInt nse.toInt nto nsd = zWi gla gsl nga.toInt nte.toInt gki gpa gta npu.toInt.toNat nhu.toInt (n.toInt - i_22.toInt).toNat (v_11 : Int32).toInt (v_6 : Int32).toInt (v_7 : Int32).toInt (v_9 : Int32).toInt (v_8 : Int32) (v_10 : Int32) := by
        (try rw [hi_22]); (try rw [hv_6]); (try rw [hv_7]); (try rw [hv_8]); (try rw [hv_9]); (try rw [hv_10]); (try rw [hv_11]); (rw [show (0 : Int32).toInt = 0 from by decide, Int.sub_zero])
      have hvi_22_1 : i_22.toInt ≤ n.toInt ∧ (v_11 : Int32).toInt ≤ i_22.toInt ∧ (v_6 : Int32).toInt ≤ nte.toInt := by
        (try rw [hi_22]); (try rw [hv_6]); (try rw [hv_7]); (try rw [hv_8]); (try rw [hv_9]); (try rw [hv_10]); (try rw [hv_11]); (have k0 : (0 : Int32).toInt = 0 := (by decide); omega)
      clear h1i_22 hi_22 hv_6 hv_7 hv_8 hv_9 hv_10 hv_11
      skip
      revert hni_22
      revert hloi_22
      revert hvi_22_1
      revert hvi_22_0
      revert hbv_11
      revert hbv_9
      revert hbv_7
      revert hbv_6
      revert hl
      revert hS
      revert hD
      revert hP
      revert ls
      revert locs
      revert H
      revert v_6
      revert v_7
      revert v_8
      revert v_9
      revert v_10
      revert v_11
      revert i_22
      induction nfu with
      | zero =>
        intro i_22 v_11 v_10 v_9 v_8 v_7 v_6 H locs ls hP hD hS hl hbv_6 hbv_7 hbv_9 hbv_11 hvi_22_0 hvi_22_1 hloi_22 hni_22
        have hzi_22 : n.toInt ≤ i_22.toInt := by omega
        refine lv_iload_n hx hb dX8_winter_22 rfl (lv_at hl 0 rfl) ?_
        refine lv_iload_n hx hb dX8_winter_23 rfl (lv_at hl 3 rfl) ?_
        refine lv_icmp_ge (tgt := 43) hx hb dX8_winter_24 (by decide) (fun c_12 => ?_) (fun c_12 => ?_)
        · have fc_12 : n.toInt ≤ i_22.toInt := zf_le c_12 rfl rfl
          refine lv_iload_n hx hb dX8_winter_43 rfl (lv_at hl 1 rfl) ?_
          exact W.iret (v := v_11) hx hb hr (fun t ht hW => ⟨⟨v_11, (v_6, v_7, v_8, v_9, v_10, grf), rfl, ⟨(show 0 ≤ v_6.toInt ∧ v_6.toInt ≤ 40 from hbv_6), (show 0 ≤ v_7.toInt ∧ v_7.toInt ≤ 24 from hbv_7), (show ((n.toInt < 1 ∨ 60 < n.toInt) ∧ (v_11 : Int32).toInt = -6 ∧ v_6 = nat_ ∧ v_7 = nde ∧ v_9 = nse ∧ v_8 = nto ∧ v_10 = nsd) ∨ ((1 ≤ n.toInt ∧ n.toInt ≤ 60) ∧ zWi gla gsl nga.toInt nte.toInt gki gpa gta npu.toInt.toNat nhu.toInt n.toInt.toNat 0 nat_.toInt nde.toInt nse.toInt nto nsd = ((v_11 : Int32).toInt, v_6.toInt, v_7.toInt, v_9.toInt, v_8, v_10)) from by (refine Or.inr ⟨by omega, ?_⟩; rw [hvi_22_0, show (n.toInt - i_22.toInt).toNat = 0 from by omega]; rfl)), trivial⟩, zRet ht hP hD [0, 1, 2, 3, 4, 5, 6] (by decide) rfl⟩, hS.F ht⟩) hS.2.2 dX8_winter_44
        · exfalso; have fc_12 : i_22.toInt < n.toInt := zf_nle c_12 rfl rfl; omega
      | succ nfu ih =>
        intro i_22 v_11 v_10 v_9 v_8 v_7 v_6 H locs ls hP hD hS hl hbv_6 hbv_7 hbv_9 hbv_11 hvi_22_0 hvi_22_1 hloi_22 hni_22
        refine lv_iload_n hx hb dX8_winter_22 rfl (lv_at hl 0 rfl) ?_
        refine lv_iload_n hx hb dX8_winter_23 rfl (lv_at hl 3 rfl) ?_
        refine lv_icmp_ge (tgt := 43) hx hb dX8_winter_24 (by decide) (fun c_13 => ?_) (fun c_13 => ?_)
        · have fc_13 : n.toInt ≤ i_22.toInt := zf_le c_13 rfl rfl
          refine lv_iload_n hx hb dX8_winter_43 rfl (lv_at hl 1 rfl) ?_
          exact W.iret (v := v_11) hx hb hr (fun t ht hW => ⟨⟨v_11, (v_6, v_7, v_8, v_9, v_10, grf), rfl, ⟨(show 0 ≤ v_6.toInt ∧ v_6.toInt ≤ 40 from hbv_6), (show 0 ≤ v_7.toInt ∧ v_7.toInt ≤ 24 from hbv_7), (show ((n.toInt < 1 ∨ 60 < n.toInt) ∧ (v_11 : Int32).toInt = -6 ∧ v_6 = nat_ ∧ v_7 = nde ∧ v_9 = nse ∧ v_8 = nto ∧ v_10 = nsd) ∨ ((1 ≤ n.toInt ∧ n.toInt ≤ 60) ∧ zWi gla gsl nga.toInt nte.toInt gki gpa gta npu.toInt.toNat nhu.toInt n.toInt.toNat 0 nat_.toInt nde.toInt nse.toInt nto nsd = ((v_11 : Int32).toInt, v_6.toInt, v_7.toInt, v_9.toInt, v_8, v_10)) from by (refine Or.inr ⟨by omega, ?_⟩; rw [hvi_22_0, show (n.toInt - i_22.toInt).toNat = 0 from by omega]; rfl)), trivial⟩, zRet ht hP hD [0, 1, 2, 3, 4, 5, 6] (by decide) rfl⟩, hS.F ht⟩) hS.2.2 dX8_winter_44
        · have fc_13 : i_22.toInt < n.toInt := zf_nle c_13 rfl rfl
          refine lv_aload_n hx hb dX8_winter_27 rfl (lv_at hl 2 rfl) ?_
          skip
          refine zw_V (As := []) (rest := []) (wr := [(mrf, .inl (cI, 8, .inl grf))]) ⟨hx, hb, hml, hown, hts⟩ (c_F_M_dayIn l D cI cJ cZ cP cS po m0 mrf mki mpa mta mla msl mco mhe mso msi msh mce mca mwo mnu mte mwa mke mma mth mtr (npu) (nte) (v_6) (v_7) (v_8) (v_9) (nhu) (nga) (v_10) (nfa) (nba) (npl) (nen) (nnu) (nwr) (nra) (nik) gki gpa gta gla gsl hy0 hy1 hy2 hy3 hbv_6.1 hbv_6.2 hbv_7.1 hbv_7.2 hy8 hy9 hy10 hy11 hy12 hy13 hy17 hy18 hp_gki hp_gpa hp_gta hp_gla hp_gsl H.size) (cwV 0 hts gX8_winter_X8_dayIn rfl rfl rfl ⟨rfl, dh_X8_dayIn⟩ ⟨Nat.le_of_ble_eq_true rfl, Nat.le_of_ble_eq_true rfl⟩) hK hN (hZ.kept hS) hP hD hS hA [0, 2, 3, 4, 5, 6] [1] rfl rfl (by decide) (by decide) (by decide) (va_recv (q := (RX8, TX8, 38)) hK hP (ci := 8) (q0 := 0) rfl rfl) rfl hl.1 rfl (Nat.le_of_ble_eq_true rfl) dX8_winter_28 ⟨Nat.le_of_ble_eq_true rfl, Nat.le_of_ble_eq_true rfl⟩ (fun r_14 u_15 H locs hr_14 hP hD hS => ?_)
          obtain ⟨q_16, q_17, q_18, q_19, q_20⟩ := u_15
          try dsimp only at hr_14
          obtain ⟨hbq_16, hbq_17, hsr_14_0, hsr_14_1, hr_14⟩ := hr_14
          have h9R := zRe (ws' := [(mrf, .inl (cI, 8, .inl grf)), (zMO m0 npu nte q_16 q_17 q_18 q_19 nhu nga q_20 nfa mrf mki mpa mta mla msl mco mhe mso msi msh mce mca mwo mnu mte nba npl nen nnu nwr mwa mke mma mth mtr nra nik), (mki, .inl (cI, 8, .inl gki)), (mpa, .inl (cI, 8, .inl gpa)), (mta, .inl (cI, 8, .inl gta)), (mla, .inl (cI, 40, .inl gla)), (msl, .inl (cI, 40, .inl gsl))]) hP hD rfl
          clear hP hD
          obtain ⟨hP, hD⟩ := h9R
          obtain ⟨g_21, g_22⟩ := hr_14
          refine lv_if_eq (tgt := 37) hx hb dX8_winter_31 (by decide) (fun c_23 => ?_) (fun c_23 => ?_)
          · have fc_23 : r_14.toInt = 0 := zf_eq c_23 rfl (by decide)
            obtain ⟨x_24, ex_24⟩ : ∃ y : Int32, y = i_22 + 1 := ⟨_, rfl⟩
            have qx_24 : x_24.toInt = i_22.toInt + 1 := dw_inc ex_24 fc_13
            refine lv_iinc (v := x_24) (lv' := [(3, .int x_24), (2, .int v_11), (0, .ref m0), (1, .int n)]) hx hb dX8_winter_37 hl (k := 0) rfl ex_24.symm (by decide) rfl (fun ls hl => ?_)
            refine lv_goto (tgt := 22) hx hb dX8_winter_40 (by decide) ?_
            exact ih x_24 v_11 (q_20) (q_19) (q_18) (q_17) (q_16) _ _ _ (hP.sub [1, 0, 2, 3, 4, 5, 6] rfl) (hD.sub [1, 0, 2, 3, 4, 5, 6] (by decide) rfl) hS (lv_sub hl [0, 1, 2, 3] rfl) hbq_16 hbq_17 ⟨by omega, by omega⟩ hbv_11 (show zWi gla gsl nga.toInt nte.toInt gki gpa gta npu.toInt.toNat nhu.toInt n.toInt.toNat 0 nat_.toInt nde.toInt nse.toInt nto nsd = zWi gla gsl nga.toInt nte.toInt gki gpa gta npu.toInt.toNat nhu.toInt (n.toInt - x_24.toInt).toNat (v_11 : Int32).toInt (q_16 : Int32).toInt (q_17 : Int32).toInt (q_19 : Int32).toInt (q_18 : Int32) (q_20 : Int32) from by (rw [hvi_22_0, show (n.toInt - i_22.toInt).toNat = (n.toInt - x_24.toInt).toNat + 1 from by omega, zWi_s hsr_14_0]; congr 1; omega)) (show x_24.toInt ≤ n.toInt ∧ (v_11 : Int32).toInt ≤ x_24.toInt ∧ (q_16 : Int32).toInt ≤ nte.toInt from by exact ⟨by omega, by omega, by omega⟩) (dw_lo hloi_22 qx_24) (dw_hn hni_22 qx_24)
          · have fc_23 : r_14.toInt ≠ 0 := zf_ne c_23 rfl (by decide)
            obtain ⟨x_25, ex_25⟩ : ∃ y : Int32, y = v_11 + 1 := ⟨_, rfl⟩
            have qx_25 : x_25.toInt = v_11.toInt + 1 := by rw [ex_25]; exact zf_add rfl (by decide) (by omega) (by omega)
            refine lv_iinc (v := x_25) (lv' := [(2, .int x_25), (3, .int i_22), (0, .ref m0), (1, .int n)]) hx hb dX8_winter_34 hl (k := 1) rfl ex_25.symm (by decide) rfl (fun ls hl => ?_)
            obtain ⟨x_26, ex_26⟩ : ∃ y : Int32, y = i_22 + 1 := ⟨_, rfl⟩
            have qx_26 : x_26.toInt = i_22.toInt + 1 := dw_inc ex_26 fc_13
            refine lv_iinc (v := x_26) (lv' := [(3, .int x_26), (2, .int x_25), (0, .ref m0), (1, .int n)]) hx hb dX8_winter_37 hl (k := 1) rfl ex_26.symm (by decide) rfl (fun ls hl => ?_)
            refine lv_goto (tgt := 22) hx hb dX8_winter_40 (by decide) ?_
            exact ih x_26 x_25 (q_20) (q_19) (q_18) (q_17) (q_16) _ _ _ (hP.sub [1, 0, 2, 3, 4, 5, 6] rfl) (hD.sub [1, 0, 2, 3, 4, 5, 6] (by decide) rfl) hS (lv_sub hl [0, 1, 2, 3] rfl) hbq_16 hbq_17 ⟨by omega, by omega⟩ ⟨by omega, by omega⟩ (show zWi gla gsl nga.toInt nte.toInt gki gpa gta npu.toInt.toNat nhu.toInt n.toInt.toNat 0 nat_.toInt nde.toInt nse.toInt nto nsd = zWi gla gsl nga.toInt nte.toInt gki gpa gta npu.toInt.toNat nhu.toInt (n.toInt - x_26.toInt).toNat (x_25 : Int32).toInt (q_16 : Int32).toInt (q_17 : Int32).toInt (q_19 : Int32).toInt (q_18 : Int32) (q_20 : Int32) from by (rw [hvi_22_0, show (n.toInt - i_22.toInt).toNat = (n.toInt - x_26.toInt).toNat + 1 from by omega, zWi_s hsr_14_0]; congr 1; omega)) (show x_26.toInt ≤ n.toInt ∧ (x_25 : Int32).toInt ≤ x_26.toInt ∧ (q_16 : Int32).toInt ≤ nte.toInt from by exact ⟨by omega, by omega, by omega⟩) (dw_lo hloi_22 qx_26) (dw_hn hni_22 qx_26)
    · have fc_5 : 60 < n.toInt := zf_nle c_5 rfl (by decide)
      refine lv_aload_n hx hb dX8_winter_11 rfl (lv_at hl 0 rfl) ?_
      refine lv_bipush (v := (-6)) hx hb dX8_winter_12 (by decide) ?_
      skip
      refine zw_V (As := [.int (-6)]) (rest := []) (wr := [(mki, .inl (cI, 8, .inl gki)), (mpa, .inl (cI, 8, .inl gpa)), (mta, .inl (cI, 8, .inl gta)), (mla, .inl (cI, 40, .inl gla)), (msl, .inl (cI, 40, .inl gsl))]) ⟨hx, hb, hml, hown, hts⟩ (c_M_no_6 l D cI cJ cZ cP cS po m0 mrf mki mpa mta mla msl mco mhe mso msi msh mce mca mwo mnu mte mwa mke mma mth mtr (npu) (nte) (nat_) (nde) (nto) (nse) (nhu) (nga) (nsd) (nfa) (nba) (npl) (nen) (nnu) (nwr) (nra) (nik) grf hy0 hy1 hy2 hy3 hy4 hy5 hy6 hy7 hy8 hy9 hy10 hy11 hy12 hy13 H.size) (cwV 1 hts gX8_winter_X8_no rfl rfl rfl ⟨rfl, dh_X8_no⟩ ⟨Nat.le_of_ble_eq_true rfl, Nat.le_of_ble_eq_true rfl⟩) hK hN (hZ.kept hS) hP hD hS hA [0, 1] [2, 3, 4, 5, 6] rfl rfl (by decide) (by decide) (by decide) (va_recv (q := (RX8, TX8, 38)) hK hP (ci := 8) (q0 := 0) rfl rfl) rfl hl.1 rfl (Nat.le_of_ble_eq_true rfl) dX8_winter_14 ⟨Nat.le_of_ble_eq_true rfl, Nat.le_of_ble_eq_true rfl⟩ (fun r_27 u_28 H locs hr_27 hP hD hS => ?_)
      obtain ⟨q_29, rfl⟩ : ∃ z, z = u_28 := ⟨_, rfl⟩
      have h9R := zRe (ws' := [(mki, .inl (cI, 8, .inl gki)), (mpa, .inl (cI, 8, .inl gpa)), (mta, .inl (cI, 8, .inl gta)), (mla, .inl (cI, 40, .inl gla)), (msl, .inl (cI, 40, .inl gsl)), (zMO m0 npu nte nat_ nde nto nse nhu nga nsd nfa mrf mki mpa mta mla msl mco mhe mso msi msh mce mca mwo mnu mte nba npl nen nnu nwr mwa mke mma mth mtr nra nik), (mrf, .inl (cI, 8, .inl q_29))]) hP hD rfl
      clear hP hD
      obtain ⟨hP, hD⟩ := h9R
      obtain rfl := hr_27
      exact W.iret (v := (-6)) hx hb hr (fun t ht hW => ⟨⟨(-6), (nat_, nde, nto, nse, nsd, q_29), rfl, ⟨(show 0 ≤ nat_.toInt ∧ nat_.toInt ≤ 40 from ⟨hy4, hy5⟩), (show 0 ≤ nde.toInt ∧ nde.toInt ≤ 24 from ⟨hy6, hy7⟩), (show ((n.toInt < 1 ∨ 60 < n.toInt) ∧ ((-6) : Int32).toInt = -6 ∧ nat_ = nat_ ∧ nde = nde ∧ nse = nse ∧ nto = nto ∧ nsd = nsd) ∨ ((1 ≤ n.toInt ∧ n.toInt ≤ 60) ∧ zWi gla gsl nga.toInt nte.toInt gki gpa gta npu.toInt.toNat nhu.toInt n.toInt.toNat 0 nat_.toInt nde.toInt nse.toInt nto nsd = (((-6) : Int32).toInt, nat_.toInt, nde.toInt, nse.toInt, nto, nsd)) from by (have k9 : ((-6) : Int32).toInt = -6 := (by decide); exact Or.inl ⟨by omega, by omega, rfl, rfl, rfl, rfl, rfl⟩)), trivial⟩, zRet ht hP hD [5, 6, 0, 1, 2, 3, 4] (by decide) rfl⟩, hS.F ht⟩) hS.2.2 dX8_winter_17
set_option maxHeartbeats 4000000 in
set_option maxRecDepth 100000 in
theorem c_F_M_seed (l : Launch) (D : va_G) (cI cJ cZ cP cS : ClassId) (po : zPool) (m0 mrf mki mpa mta mla msl mco mhe mso msi msh mce mca mwo mnu mte mwa mke mma mth mtr : Nat) (npu nte nat_ nde nto nse nhu nga nsd nfa nba npl nen nnu nwr nra nik : Int32) (v : Int32) (hy0 : 0 ≤ npu.toInt) (hy1 : npu.toInt ≤ 8) (hy2 : 4 ≤ nte.toInt) (hy3 : nte.toInt ≤ 40) (hy4 : 0 ≤ nat_.toInt) (hy5 : nat_.toInt ≤ 40) (hy6 : 0 ≤ nde.toInt) (hy7 : nde.toInt ≤ 24) (hy8 : 0 ≤ nhu.toInt) (hy9 : nhu.toInt ≤ 9) (hy10 : 0 ≤ nra.toInt) (hy11 : nra.toInt ≤ 2000) (hy12 : 0 ≤ nik.toInt) (hy13 : nik.toInt ≤ 1) (hpz : Nat) : Met l yX8_seed wsX8_seed ({ frames := 0, cells := 0, slots := 0, locals := 0 }) (va_Pc [.ref m0, .int v] (zW D (zKT cI cJ cZ cP cS) po [(zMO m0 npu nte nat_ nde nto nse nhu nga nsd nfa mrf mki mpa mta mla msl mco mhe mso msi msh mce mca mwo mnu mte nba npl nen nnu nwr mwa mke mma mth mtr nra nik)] hpz)) (va_Qi (fun (r : Int32) (nsd2 : (Int32)) => (r = nsd ∧ nsd2 = v) ∧ (True)) (zB D [(zMO m0 npu nte nat_ nde nto nse nhu nga nsd nfa mrf mki mpa mta mla msl mco mhe mso msi msh mce mca mwo mnu mte nba npl nen nnu nwr mwa mke mma mth mtr nra nik)] hpz (fun (nsd2 : Int32) => [(zMO m0 npu nte nat_ nde nto nse nhu nga nsd2 nfa mrf mki mpa mta mla msl mco mhe mso msi msh mce mca mwo mnu mte nba npl nen nnu nwr mwa mke mma mth mtr nra nik)])) (va_A [(zMO m0 npu nte nat_ nde nto nse nhu nga nsd nfa mrf mki mpa mta mla msl mco mhe mso msi msh mce mca mwo mnu mte nba npl nen nnu nwr mwa mke mma mth mtr nra nik)] hpz)) 0 0 (va_A [(zMO m0 npu nte nat_ nde nto nse nhu nga nsd nfa mrf mki mpa mta mla msl mco mhe mso msi msh mce mca mwo mnu mte nba npl nen nnu nwr mwa mke mma mth mtr nra nik)] hpz) := by
  refine Met.ofW (cc := cX8_seed) (maxL := 3) (ret := (some .int)) (by decide) rfl ?_
  intro p e s m args below meth c s₁ B hml hv
  obtain ⟨rfl, hsz, hP, hK, hD0, hN, hZ⟩ := hv
  have hx := B.exec
  have hb := B.bytes
  have hr := B.returns
  have hts := atoms_spec (ws := wsX8_seed) B.pre
  have hown : s.vm.findClass RX8 = some m.cls := findClass_of_methodNamed B.named
  have hlocks := B.notSynchronized
  subst hsz
  have hD := hD0.self (sz := s.heap.size)
  have hA := zA_of hD
  have hl := lv_entry ([.ref m0, .int v]) (n := 3) (Nat.le_of_ble_eq_true rfl)
  rw [lg_entry_eq]
  generalize (lg_sl ([.ref m0, .int v]) ++ List.replicate (3 - (lg_sl ([.ref m0, .int v])).length) Slot.unset).toArray = ls at hl ⊢
  replace hl : lv_has ls 3 [(0, .ref m0), (1, .int v)] := hl
  refine zw_begin hP hD (fun H locs hP1 hS => ?_)
  clear hP
  have hP := hP1
  clear hP1
  refine lv_aload_n hx hb dX8_seed_0 rfl (lv_at hl 0 rfl) ?_
  refine va_get (D := D) (ci := 8) (v := .int nsd) (C := RX8) (T := TX8) (N := 38) hx hb hts hi_X8_seed_8 hown hK hP 0 rfl rfl 8 (by decide) (hts (.fieldLink RX8 19 "TheLiningsInItModel" "seed" "I") (List.mem_of_getElem? (i := 1) rfl)) (fun _ h9 => h9) rfl dX8_seed_1 ?_
  refine lv_istore_n (lv' := [(2, .int nsd), (0, .ref m0), (1, .int v)]) hx hb dX8_seed_4 rfl hl (by decide) rfl (fun ls hl => ?_)
  refine lv_aload_n hx hb dX8_seed_5 rfl (lv_at hl 1 rfl) ?_
  refine lv_iload_n hx hb dX8_seed_6 rfl (lv_at hl 2 rfl) ?_
  refine va_put (D := D) (ci := 8) (v := .int v) (ty := .int) (C := RX8) (T := TX8) (N := 38) hx hb hts hi_X8_seed_8 tyX8 tyX8_ok nmX8 hown hK hP hD hS 0 rfl rfl 8 (by decide) (hts (.fieldLink RX8 19 "TheLiningsInItModel" "seed" "I") (List.mem_of_getElem? (i := 1) rfl)) (fun _ h9 => h9) rfl (tyX8_ok 8 (Nat.le_of_ble_eq_true rfl)) rfl rfl (Nat.le_of_ble_eq_true rfl) dX8_seed_7 (fun H locs hP hD hS => ?_)
  have h9R := zRe (ws' := [(zMO m0 npu nte nat_ nde nto nse nhu nga v nfa mrf mki mpa mta mla msl mco mhe mso msi msh mce mca mwo mnu mte nba npl nen nnu nwr mwa mke mma mth mtr nra nik)]) hP hD rfl
  clear hP hD
  obtain ⟨hP, hD⟩ := h9R
  refine lv_iload_n hx hb dX8_seed_10 rfl (lv_at hl 0 rfl) ?_
  exact W.iret (v := nsd) hx hb hr (fun t ht hW => ⟨⟨nsd, v, rfl, ⟨(show (nsd : Int32) = nsd ∧ v = v from by exact ⟨rfl, rfl⟩), trivial⟩, zRet ht hP hD [0] (by decide) rfl⟩, hS.F ht⟩) hS.2.2 dX8_seed_11
end
section
set_option maxHeartbeats 4000000 in
set_option maxRecDepth 100000 in
theorem c_F_M_pullOf (l : Launch) (D : va_G) (cI cJ cZ cP cS : ClassId) (po : zPool) (m0 mrf mki mpa mta mla msl mco mhe mso msi msh mce mca mwo mnu mte mwa mke mma mth mtr : Nat) (npu nte nat_ nde nto nse nhu nga nsd nfa nba npl nen nnu nwr nra nik : Int32) (grf gki gpa gta : Nat → Int32) (p_ w : Int32) (hy0 : 0 ≤ npu.toInt) (hy1 : npu.toInt ≤ 8) (hy2 : 4 ≤ nte.toInt) (hy3 : nte.toInt ≤ 40) (hy4 : 0 ≤ nat_.toInt) (hy5 : nat_.toInt ≤ 40) (hy6 : 0 ≤ nde.toInt) (hy7 : nde.toInt ≤ 24) (hy8 : 0 ≤ nhu.toInt) (hy9 : nhu.toInt ≤ 9) (hy10 : 0 ≤ nra.toInt) (hy11 : nra.toInt ≤ 2000) (hy12 : 0 ≤ nik.toInt) (hy13 : nik.toInt ≤ 1) (hp_gki : zRg gki (0) 6) (hp_gpa : zRg gpa (0) 9) (hp_gta : zRg gta (0) 60) (hpz : Nat) : Met l yX8_pullOf wsX8_pullOf ({ frames := 1, cells := 0, slots := 0, locals := 23 }) (va_Pc [.ref m0, .int p_, .int w] (zW D (zKT cI cJ cZ cP cS) po [(zMO m0 npu nte nat_ nde nto nse nhu nga nsd nfa mrf mki mpa mta mla msl mco mhe mso msi msh mce mca mwo mnu mte nba npl nen nnu nwr mwa mke mma mth mtr nra nik), (mrf, .inl (cI, 8, .inl grf)), (mki, .inl (cI, 8, .inl gki)), (mpa, .inl (cI, 8, .inl gpa)), (mta, .inl (cI, 8, .inl gta))] hpz)) (va_Qi (fun (r : Int32) (grf2 : (Nat → Int32)) => (((p_.toInt < 0 ∨ npu.toInt ≤ p_.toInt) ∧ r.toInt = -5) ∨ ((0 ≤ p_.toInt ∧ p_.toInt < npu.toInt) ∧ (((w.toInt < 0 ∨ 4 < w.toInt) ∧ r.toInt = -5) ∨ ((0 ≤ w.toInt ∧ w.toInt ≤ 4) ∧ r.toInt = (if w.toInt = 0 then (gki p_.toNatClampNeg).toInt else if w.toInt = 1 then (gpa p_.toNatClampNeg).toInt else if w.toInt = 2 then (gta p_.toNatClampNeg).toInt else if w.toInt = 3 then zStp (gki p_.toNatClampNeg).toInt (gpa p_.toNatClampNeg).toInt else if 1 ≤ nde.toInt ∧ (gta p_.toNatClampNeg).toInt ≤ nse.toInt then 1 else 0))))) ∧ (True)) (zB D [(zMO m0 npu nte nat_ nde nto nse nhu nga nsd nfa mrf mki mpa mta mla msl mco mhe mso msi msh mce mca mwo mnu mte nba npl nen nnu nwr mwa mke mma mth mtr nra nik), (mrf, .inl (cI, 8, .inl grf)), (mki, .inl (cI, 8, .inl gki)), (mpa, .inl (cI, 8, .inl gpa)), (mta, .inl (cI, 8, .inl gta))] hpz (fun (grf2 : Nat → Int32) => [(zMO m0 npu nte nat_ nde nto nse nhu nga nsd nfa mrf mki mpa mta mla msl mco mhe mso msi msh mce mca mwo mnu mte nba npl nen nnu nwr mwa mke mma mth mtr nra nik), (mrf, .inl (cI, 8, .inl grf2)), (mki, .inl (cI, 8, .inl gki)), (mpa, .inl (cI, 8, .inl gpa)), (mta, .inl (cI, 8, .inl gta))])) (va_A [(zMO m0 npu nte nat_ nde nto nse nhu nga nsd nfa mrf mki mpa mta mla msl mco mhe mso msi msh mce mca mwo mnu mte nba npl nen nnu nwr mwa mke mma mth mtr nra nik), (mrf, .inl (cI, 8, .inl grf)), (mki, .inl (cI, 8, .inl gki)), (mpa, .inl (cI, 8, .inl gpa)), (mta, .inl (cI, 8, .inl gta))] hpz)) 0 0 (va_A [(zMO m0 npu nte nat_ nde nto nse nhu nga nsd nfa mrf mki mpa mta mla msl mco mhe mso msi msh mce mca mwo mnu mte nba npl nen nnu nwr mwa mke mma mth mtr nra nik), (mrf, .inl (cI, 8, .inl grf)), (mki, .inl (cI, 8, .inl gki)), (mpa, .inl (cI, 8, .inl gpa)), (mta, .inl (cI, 8, .inl gta))] hpz) := by
  refine Met.ofW (cc := cX8_pullOf) (maxL := 3) (ret := (some .int)) (by decide) rfl ?_
  intro p e s m args below meth c s₁ B hml hv
  obtain ⟨rfl, hsz, hP, hK, hD0, hN, hZ⟩ := hv
  have hx := B.exec
  have hb := B.bytes
  have hr := B.returns
  have hts := atoms_spec (ws := wsX8_pullOf) B.pre
  have hown : s.vm.findClass RX8 = some m.cls := findClass_of_methodNamed B.named
  have hlocks := B.notSynchronized
  subst hsz
  have hD := hD0.self (sz := s.heap.size)
  have hA := zA_of hD
  have hl := lv_entry ([.ref m0, .int p_, .int w]) (n := 3) (Nat.le_of_ble_eq_true rfl)
  rw [lg_entry_eq]
  generalize (lg_sl ([.ref m0, .int p_, .int w]) ++ List.replicate (3 - (lg_sl ([.ref m0, .int p_, .int w])).length) Slot.unset).toArray = ls at hl ⊢
  replace hl : lv_has ls 3 [(0, .ref m0), (1, .int p_), (2, .int w)] := hl
  refine zw_begin hP hD (fun H locs hP1 hS => ?_)
  clear hP
  have hP := hP1
  clear hP1
  refine lv_aload_n hx hb dX8_pullOf_0 rfl (lv_at hl 0 rfl) ?_
  refine lv_iload_n hx hb dX8_pullOf_1 rfl (lv_at hl 1 rfl) ?_
  refine zc_V (As := [.int p_]) (rest := []) ⟨hx, hb, hml, hown, hts⟩ (c_M_isPull l D cI cJ cZ cP cS po m0 mrf mki mpa mta mla msl mco mhe mso msi msh mce mca mwo mnu mte mwa mke mma mth mtr (npu) (nte) (nat_) (nde) (nto) (nse) (nhu) (nga) (nsd) (nfa) (nba) (npl) (nen) (nnu) (nwr) (nra) (nik) (p_) hy0 hy1 hy2 hy3 hy4 hy5 hy6 hy7 hy8 hy9 hy10 hy11 hy12 hy13) (cwV 1 hts gX8_pullOf_X8_isPull rfl rfl rfl ⟨rfl, dh_X8_isPull⟩ ⟨Nat.le_of_ble_eq_true rfl, Nat.le_of_ble_eq_true rfl⟩) hK hN (hZ.kept hS) hP (hP.sub [0] rfl) (va_recv (q := (RX8, TX8, 38)) hK hP (ci := 8) (q0 := 0) rfl rfl) rfl hl.1 rfl (Nat.le_of_ble_eq_true rfl) dX8_pullOf_2 ⟨Nat.le_of_ble_eq_true rfl, Nat.le_of_ble_eq_true rfl⟩ (fun r_1 hr_1 => ?_)
  rcases hr_1 with ⟨rfl, g_2⟩ | ⟨rfl, g_3, g_4⟩ | ⟨rfl, g_5, g_6⟩
  · refine lv_if_ne (tgt := 15) hx hb dX8_pullOf_5 (by decide) (fun c_7 => ?_) (fun c_7 => ?_)
    · exact absurd c_7 (by decide)
    · refine lv_aload_n hx hb dX8_pullOf_8 rfl (lv_at hl 0 rfl) ?_
      refine lv_bipush (v := (-5)) hx hb dX8_pullOf_9 (by decide) ?_
      skip
      refine zw_V (As := [.int (-5)]) (rest := []) (wr := [(mki, .inl (cI, 8, .inl gki)), (mpa, .inl (cI, 8, .inl gpa)), (mta, .inl (cI, 8, .inl gta))]) ⟨hx, hb, hml, hown, hts⟩ (c_M_no_5 l D cI cJ cZ cP cS po m0 mrf mki mpa mta mla msl mco mhe mso msi msh mce mca mwo mnu mte mwa mke mma mth mtr (npu) (nte) (nat_) (nde) (nto) (nse) (nhu) (nga) (nsd) (nfa) (nba) (npl) (nen) (nnu) (nwr) (nra) (nik) grf hy0 hy1 hy2 hy3 hy4 hy5 hy6 hy7 hy8 hy9 hy10 hy11 hy12 hy13 H.size) (cwV 1 hts gX8_pullOf_X8_no rfl rfl rfl ⟨rfl, dh_X8_no⟩ ⟨Nat.le_of_ble_eq_true rfl, Nat.le_of_ble_eq_true rfl⟩) hK hN (hZ.kept hS) hP hD hS hA [0, 1] [2, 3, 4] rfl rfl (by decide) (by decide) (by decide) (va_recv (q := (RX8, TX8, 38)) hK hP (ci := 8) (q0 := 0) rfl rfl) rfl hl.1 rfl (Nat.le_of_ble_eq_true rfl) dX8_pullOf_11 ⟨Nat.le_of_ble_eq_true rfl, Nat.le_of_ble_eq_true rfl⟩ (fun r_8 u_9 H locs hr_8 hP hD hS => ?_)
      obtain ⟨q_10, rfl⟩ : ∃ z, z = u_9 := ⟨_, rfl⟩
      have h9R := zRe (ws' := [(mki, .inl (cI, 8, .inl gki)), (mpa, .inl (cI, 8, .inl gpa)), (mta, .inl (cI, 8, .inl gta)), (zMO m0 npu nte nat_ nde nto nse nhu nga nsd nfa mrf mki mpa mta mla msl mco mhe mso msi msh mce mca mwo mnu mte nba npl nen nnu nwr mwa mke mma mth mtr nra nik), (mrf, .inl (cI, 8, .inl q_10))]) hP hD rfl
      clear hP hD
      obtain ⟨hP, hD⟩ := h9R
      obtain rfl := hr_8
      exact W.iret (v := (-5)) hx hb hr (fun t ht hW => ⟨⟨(-5), q_10, rfl, ⟨(show ((p_.toInt < 0 ∨ npu.toInt ≤ p_.toInt) ∧ ((-5) : Int32).toInt = -5) ∨ ((0 ≤ p_.toInt ∧ p_.toInt < npu.toInt) ∧ (((w.toInt < 0 ∨ 4 < w.toInt) ∧ ((-5) : Int32).toInt = -5) ∨ ((0 ≤ w.toInt ∧ w.toInt ≤ 4) ∧ ((-5) : Int32).toInt = (if w.toInt = 0 then (gki p_.toNatClampNeg).toInt else if w.toInt = 1 then (gpa p_.toNatClampNeg).toInt else if w.toInt = 2 then (gta p_.toNatClampNeg).toInt else if w.toInt = 3 then zStp (gki p_.toNatClampNeg).toInt (gpa p_.toNatClampNeg).toInt else if 1 ≤ nde.toInt ∧ (gta p_.toNatClampNeg).toInt ≤ nse.toInt then 1 else 0)))) from by (have k9 : ((-5) : Int32).toInt = -5 := (by decide); first | omega | (refine Or.inr ⟨by omega, Or.inr ⟨by omega, ?_⟩⟩; (repeat (first | rw [if_pos (by omega)] | rw [if_neg (by omega)])); first | done | rfl | omega))), trivial⟩, zRet ht hP hD [3, 4, 0, 1, 2] (by decide) rfl⟩, hS.F ht⟩) hS.2.2 dX8_pullOf_14
  · refine lv_if_ne (tgt := 15) hx hb dX8_pullOf_5 (by decide) (fun c_11 => ?_) (fun c_11 => ?_)
    · exact absurd c_11 (by decide)
    · refine lv_aload_n hx hb dX8_pullOf_8 rfl (lv_at hl 0 rfl) ?_
      refine lv_bipush (v := (-5)) hx hb dX8_pullOf_9 (by decide) ?_
      skip
      refine zw_V (As := [.int (-5)]) (rest := []) (wr := [(mki, .inl (cI, 8, .inl gki)), (mpa, .inl (cI, 8, .inl gpa)), (mta, .inl (cI, 8, .inl gta))]) ⟨hx, hb, hml, hown, hts⟩ (c_M_no_5 l D cI cJ cZ cP cS po m0 mrf mki mpa mta mla msl mco mhe mso msi msh mce mca mwo mnu mte mwa mke mma mth mtr (npu) (nte) (nat_) (nde) (nto) (nse) (nhu) (nga) (nsd) (nfa) (nba) (npl) (nen) (nnu) (nwr) (nra) (nik) grf hy0 hy1 hy2 hy3 hy4 hy5 hy6 hy7 hy8 hy9 hy10 hy11 hy12 hy13 H.size) (cwV 1 hts gX8_pullOf_X8_no rfl rfl rfl ⟨rfl, dh_X8_no⟩ ⟨Nat.le_of_ble_eq_true rfl, Nat.le_of_ble_eq_true rfl⟩) hK hN (hZ.kept hS) hP hD hS hA [0, 1] [2, 3, 4] rfl rfl (by decide) (by decide) (by decide) (va_recv (q := (RX8, TX8, 38)) hK hP (ci := 8) (q0 := 0) rfl rfl) rfl hl.1 rfl (Nat.le_of_ble_eq_true rfl) dX8_pullOf_11 ⟨Nat.le_of_ble_eq_true rfl, Nat.le_of_ble_eq_true rfl⟩ (fun r_12 u_13 H locs hr_12 hP hD hS => ?_)
      obtain ⟨q_14, rfl⟩ : ∃ z, z = u_13 := ⟨_, rfl⟩
      have h9R := zRe (ws' := [(mki, .inl (cI, 8, .inl gki)), (mpa, .inl (cI, 8, .inl gpa)), (mta, .inl (cI, 8, .inl gta)), (zMO m0 npu nte nat_ nde nto nse nhu nga nsd nfa mrf mki mpa mta mla msl mco mhe mso msi msh mce mca mwo mnu mte nba npl nen nnu nwr mwa mke mma mth mtr nra nik), (mrf, .inl (cI, 8, .inl q_14))]) hP hD rfl
      clear hP hD
      obtain ⟨hP, hD⟩ := h9R
      obtain rfl := hr_12
      exact W.iret (v := (-5)) hx hb hr (fun t ht hW => ⟨⟨(-5), q_14, rfl, ⟨(show ((p_.toInt < 0 ∨ npu.toInt ≤ p_.toInt) ∧ ((-5) : Int32).toInt = -5) ∨ ((0 ≤ p_.toInt ∧ p_.toInt < npu.toInt) ∧ (((w.toInt < 0 ∨ 4 < w.toInt) ∧ ((-5) : Int32).toInt = -5) ∨ ((0 ≤ w.toInt ∧ w.toInt ≤ 4) ∧ ((-5) : Int32).toInt = (if w.toInt = 0 then (gki p_.toNatClampNeg).toInt else if w.toInt = 1 then (gpa p_.toNatClampNeg).toInt else if w.toInt = 2 then (gta p_.toNatClampNeg).toInt else if w.toInt = 3 then zStp (gki p_.toNatClampNeg).toInt (gpa p_.toNatClampNeg).toInt else if 1 ≤ nde.toInt ∧ (gta p_.toNatClampNeg).toInt ≤ nse.toInt then 1 else 0)))) from by (have k9 : ((-5) : Int32).toInt = -5 := (by decide); first | omega | (refine Or.inr ⟨by omega, Or.inr ⟨by omega, ?_⟩⟩; (repeat (first | rw [if_pos (by omega)] | rw [if_neg (by omega)])); first | done | rfl | omega))), trivial⟩, zRet ht hP hD [3, 4, 0, 1, 2] (by decide) rfl⟩, hS.F ht⟩) hS.2.2 dX8_pullOf_14
  · refine lv_if_ne (tgt := 15) hx hb dX8_pullOf_5 (by decide) (fun c_15 => ?_) (fun c_15 => ?_)
    · refine lv_iload_n hx hb dX8_pullOf_15 rfl (lv_at hl 2 rfl) ?_
      by_cases hsp : w.toInt < 0 ∨ 4 < w.toInt
      · refine lv_tableOut (tgt := 101) hx hb dX8_pullOf_16 hsp (by decide) ?_
        refine lv_aload_n hx hb dX8_pullOf_101 rfl (lv_at hl 0 rfl) ?_
        refine lv_bipush (v := (-5)) hx hb dX8_pullOf_102 (by decide) ?_
        skip
        refine zw_V (As := [.int (-5)]) (rest := []) (wr := [(mki, .inl (cI, 8, .inl gki)), (mpa, .inl (cI, 8, .inl gpa)), (mta, .inl (cI, 8, .inl gta))]) ⟨hx, hb, hml, hown, hts⟩ (c_M_no_5 l D cI cJ cZ cP cS po m0 mrf mki mpa mta mla msl mco mhe mso msi msh mce mca mwo mnu mte mwa mke mma mth mtr (npu) (nte) (nat_) (nde) (nto) (nse) (nhu) (nga) (nsd) (nfa) (nba) (npl) (nen) (nnu) (nwr) (nra) (nik) grf hy0 hy1 hy2 hy3 hy4 hy5 hy6 hy7 hy8 hy9 hy10 hy11 hy12 hy13 H.size) (cwV 1 hts gX8_pullOf_X8_no rfl rfl rfl ⟨rfl, dh_X8_no⟩ ⟨Nat.le_of_ble_eq_true rfl, Nat.le_of_ble_eq_true rfl⟩) hK hN (hZ.kept hS) hP hD hS hA [0, 1] [2, 3, 4] rfl rfl (by decide) (by decide) (by decide) (va_recv (q := (RX8, TX8, 38)) hK hP (ci := 8) (q0 := 0) rfl rfl) rfl hl.1 rfl (Nat.le_of_ble_eq_true rfl) dX8_pullOf_104 ⟨Nat.le_of_ble_eq_true rfl, Nat.le_of_ble_eq_true rfl⟩ (fun r_16 u_17 H locs hr_16 hP hD hS => ?_)
        obtain ⟨q_18, rfl⟩ : ∃ z, z = u_17 := ⟨_, rfl⟩
        have h9R := zRe (ws' := [(mki, .inl (cI, 8, .inl gki)), (mpa, .inl (cI, 8, .inl gpa)), (mta, .inl (cI, 8, .inl gta)), (zMO m0 npu nte nat_ nde nto nse nhu nga nsd nfa mrf mki mpa mta mla msl mco mhe mso msi msh mce mca mwo mnu mte nba npl nen nnu nwr mwa mke mma mth mtr nra nik), (mrf, .inl (cI, 8, .inl q_18))]) hP hD rfl
        clear hP hD
        obtain ⟨hP, hD⟩ := h9R
        obtain rfl := hr_16
        exact W.iret (v := (-5)) hx hb hr (fun t ht hW => ⟨⟨(-5), q_18, rfl, ⟨(show ((p_.toInt < 0 ∨ npu.toInt ≤ p_.toInt) ∧ ((-5) : Int32).toInt = -5) ∨ ((0 ≤ p_.toInt ∧ p_.toInt < npu.toInt) ∧ (((w.toInt < 0 ∨ 4 < w.toInt) ∧ ((-5) : Int32).toInt = -5) ∨ ((0 ≤ w.toInt ∧ w.toInt ≤ 4) ∧ ((-5) : Int32).toInt = (if w.toInt = 0 then (gki p_.toNatClampNeg).toInt else if w.toInt = 1 then (gpa p_.toNatClampNeg).toInt else if w.toInt = 2 then (gta p_.toNatClampNeg).toInt else if w.toInt = 3 then zStp (gki p_.toNatClampNeg).toInt (gpa p_.toNatClampNeg).toInt else if 1 ≤ nde.toInt ∧ (gta p_.toNatClampNeg).toInt ≤ nse.toInt then 1 else 0)))) from by (have k9 : ((-5) : Int32).toInt = -5 := (by decide); first | omega | (refine Or.inr ⟨by omega, Or.inr ⟨by omega, ?_⟩⟩; (repeat (first | rw [if_pos (by omega)] | rw [if_neg (by omega)])); first | done | rfl | omega))), trivial⟩, zRet ht hP hD [3, 4, 0, 1, 2] (by decide) rfl⟩, hS.F ht⟩) hS.2.2 dX8_pullOf_107
      · have hsp : w = 0 ∨ w = 1 ∨ w = 2 ∨ w = 3 ∨ w = 4 := by
          rcases (show w.toInt = 0 ∨ w.toInt = 1 ∨ w.toInt = 2 ∨ w.toInt = 3 ∨ w.toInt = 4 by omega) with h9 | h9 | h9 | h9 | h9
          · refine Or.inl ?_; exact zf_val h9 (by decide)
          · refine Or.inr (Or.inl ?_); exact zf_val h9 (by decide)
          · refine Or.inr (Or.inr (Or.inl ?_)); exact zf_val h9 (by decide)
          · refine Or.inr (Or.inr (Or.inr (Or.inl ?_))); exact zf_val h9 (by decide)
          · refine Or.inr (Or.inr (Or.inr (Or.inr (?_)))); exact zf_val h9 (by decide)
        rcases hsp with rfl | rfl | rfl | rfl | rfl
        · have kc0 : (0 : Int32).toInt = 0 := by decide
          refine lv_tableIn (tgt := 52) hx hb dX8_pullOf_16 (by decide) (by decide) rfl (by decide) ?_
          refine lv_aload_n hx hb dX8_pullOf_52 rfl (lv_at hl 0 rfl) ?_
          refine va_get (D := D) (ci := 8) (v := .ref mki) (C := RX8) (T := TX8) (N := 38) hx hb hts hi_X8_pullOf_8 hown hK hP 0 rfl rfl 11 (by decide) (hts (.fieldLink RX8 29 "TheLiningsInItModel" "kind" "[I") (List.mem_of_getElem? (i := 1) rfl)) (fun _ h9 => h9) rfl dX8_pullOf_53 ?_
          refine lv_iload_n hx hb dX8_pullOf_56 rfl (lv_at hl 1 rfl) ?_
          refine va_iald hx hb hK hP 2 0 rfl rfl (zf_in (by omega) (by omega)) dX8_pullOf_57 ?_
          refine lv_topi (fun x_19 ex_19 => ?_)
          have bx_19 : 0 ≤ x_19.toInt ∧ x_19.toInt ≤ 6 := by rw [ex_19]; exact hp_gki _
          exact W.iret (v := x_19) hx hb hr (fun t ht hW => ⟨⟨x_19, grf, rfl, ⟨(show ((p_.toInt < 0 ∨ npu.toInt ≤ p_.toInt) ∧ (x_19 : Int32).toInt = -5) ∨ ((0 ≤ p_.toInt ∧ p_.toInt < npu.toInt) ∧ ((((0 : Int32).toInt < 0 ∨ 4 < (0 : Int32).toInt) ∧ (x_19 : Int32).toInt = -5) ∨ ((0 ≤ (0 : Int32).toInt ∧ (0 : Int32).toInt ≤ 4) ∧ (x_19 : Int32).toInt = (if (0 : Int32).toInt = 0 then (gki p_.toNatClampNeg).toInt else if (0 : Int32).toInt = 1 then (gpa p_.toNatClampNeg).toInt else if (0 : Int32).toInt = 2 then (gta p_.toNatClampNeg).toInt else if (0 : Int32).toInt = 3 then zStp (gki p_.toNatClampNeg).toInt (gpa p_.toNatClampNeg).toInt else if 1 ≤ nde.toInt ∧ (gta p_.toNatClampNeg).toInt ≤ nse.toInt then 1 else 0)))) from by (first | omega | (refine Or.inr ⟨by omega, Or.inr ⟨by omega, ?_⟩⟩; (repeat (first | rw [if_pos (by omega)] | rw [if_neg (by omega)])); (try rw [← ex_19]); first | done | rfl | omega))), trivial⟩, zRet ht hP hD [0, 1, 2, 3, 4] (by decide) rfl⟩, hS.F ht⟩) hS.2.2 dX8_pullOf_58
        · have kc1 : (1 : Int32).toInt = 1 := by decide
          refine lv_tableIn (tgt := 59) hx hb dX8_pullOf_16 (by decide) (by decide) rfl (by decide) ?_
          refine lv_aload_n hx hb dX8_pullOf_59 rfl (lv_at hl 0 rfl) ?_
          refine va_get (D := D) (ci := 8) (v := .ref mpa) (C := RX8) (T := TX8) (N := 38) hx hb hts hi_X8_pullOf_8 hown hK hP 0 rfl rfl 12 (by decide) (hts (.fieldLink RX8 32 "TheLiningsInItModel" "part" "[I") (List.mem_of_getElem? (i := 2) rfl)) (fun _ h9 => h9) rfl dX8_pullOf_60 ?_
          refine lv_iload_n hx hb dX8_pullOf_63 rfl (lv_at hl 1 rfl) ?_
          refine va_iald hx hb hK hP 3 0 rfl rfl (zf_in (by omega) (by omega)) dX8_pullOf_64 ?_
          refine lv_topi (fun x_20 ex_20 => ?_)
          have bx_20 : 0 ≤ x_20.toInt ∧ x_20.toInt ≤ 9 := by rw [ex_20]; exact hp_gpa _
          exact W.iret (v := x_20) hx hb hr (fun t ht hW => ⟨⟨x_20, grf, rfl, ⟨(show ((p_.toInt < 0 ∨ npu.toInt ≤ p_.toInt) ∧ (x_20 : Int32).toInt = -5) ∨ ((0 ≤ p_.toInt ∧ p_.toInt < npu.toInt) ∧ ((((1 : Int32).toInt < 0 ∨ 4 < (1 : Int32).toInt) ∧ (x_20 : Int32).toInt = -5) ∨ ((0 ≤ (1 : Int32).toInt ∧ (1 : Int32).toInt ≤ 4) ∧ (x_20 : Int32).toInt = (if (1 : Int32).toInt = 0 then (gki p_.toNatClampNeg).toInt else if (1 : Int32).toInt = 1 then (gpa p_.toNatClampNeg).toInt else if (1 : Int32).toInt = 2 then (gta p_.toNatClampNeg).toInt else if (1 : Int32).toInt = 3 then zStp (gki p_.toNatClampNeg).toInt (gpa p_.toNatClampNeg).toInt else if 1 ≤ nde.toInt ∧ (gta p_.toNatClampNeg).toInt ≤ nse.toInt then 1 else 0)))) from by (first | omega | (refine Or.inr ⟨by omega, Or.inr ⟨by omega, ?_⟩⟩; (repeat (first | rw [if_pos (by omega)] | rw [if_neg (by omega)])); (try rw [← ex_20]); first | done | rfl | omega))), trivial⟩, zRet ht hP hD [0, 1, 2, 3, 4] (by decide) rfl⟩, hS.F ht⟩) hS.2.2 dX8_pullOf_65
        · have kc2 : (2 : Int32).toInt = 2 := by decide
          refine lv_tableIn (tgt := 66) hx hb dX8_pullOf_16 (by decide) (by decide) rfl (by decide) ?_
          refine lv_aload_n hx hb dX8_pullOf_66 rfl (lv_at hl 0 rfl) ?_
          refine va_get (D := D) (ci := 8) (v := .ref mta) (C := RX8) (T := TX8) (N := 38) hx hb hts hi_X8_pullOf_8 hown hK hP 0 rfl rfl 13 (by decide) (hts (.fieldLink RX8 35 "TheLiningsInItModel" "takes" "[I") (List.mem_of_getElem? (i := 3) rfl)) (fun _ h9 => h9) rfl dX8_pullOf_67 ?_
          refine lv_iload_n hx hb dX8_pullOf_70 rfl (lv_at hl 1 rfl) ?_
          refine va_iald hx hb hK hP 4 0 rfl rfl (zf_in (by omega) (by omega)) dX8_pullOf_71 ?_
          refine lv_topi (fun x_21 ex_21 => ?_)
          have bx_21 : 0 ≤ x_21.toInt ∧ x_21.toInt ≤ 60 := by rw [ex_21]; exact hp_gta _
          exact W.iret (v := x_21) hx hb hr (fun t ht hW => ⟨⟨x_21, grf, rfl, ⟨(show ((p_.toInt < 0 ∨ npu.toInt ≤ p_.toInt) ∧ (x_21 : Int32).toInt = -5) ∨ ((0 ≤ p_.toInt ∧ p_.toInt < npu.toInt) ∧ ((((2 : Int32).toInt < 0 ∨ 4 < (2 : Int32).toInt) ∧ (x_21 : Int32).toInt = -5) ∨ ((0 ≤ (2 : Int32).toInt ∧ (2 : Int32).toInt ≤ 4) ∧ (x_21 : Int32).toInt = (if (2 : Int32).toInt = 0 then (gki p_.toNatClampNeg).toInt else if (2 : Int32).toInt = 1 then (gpa p_.toNatClampNeg).toInt else if (2 : Int32).toInt = 2 then (gta p_.toNatClampNeg).toInt else if (2 : Int32).toInt = 3 then zStp (gki p_.toNatClampNeg).toInt (gpa p_.toNatClampNeg).toInt else if 1 ≤ nde.toInt ∧ (gta p_.toNatClampNeg).toInt ≤ nse.toInt then 1 else 0)))) from by (first | omega | (refine Or.inr ⟨by omega, Or.inr ⟨by omega, ?_⟩⟩; (repeat (first | rw [if_pos (by omega)] | rw [if_neg (by omega)])); (try rw [← ex_21]); first | done | rfl | omega))), trivial⟩, zRet ht hP hD [0, 1, 2, 3, 4] (by decide) rfl⟩, hS.F ht⟩) hS.2.2 dX8_pullOf_72
        · have kc3 : (3 : Int32).toInt = 3 := by decide
          refine lv_tableIn (tgt := 73) hx hb dX8_pullOf_16 (by decide) (by decide) rfl (by decide) ?_
          refine lv_aload_n hx hb dX8_pullOf_73 rfl (lv_at hl 0 rfl) ?_
          refine lv_iload_n hx hb dX8_pullOf_74 rfl (lv_at hl 1 rfl) ?_
          refine zc_V (As := [.int p_]) (rest := []) ⟨hx, hb, hml, hown, hts⟩ (c_F_M_step l D cI cJ cZ cP cS po m0 mrf mki mpa mta mla msl mco mhe mso msi msh mce mca mwo mnu mte mwa mke mma mth mtr (npu) (nte) (nat_) (nde) (nto) (nse) (nhu) (nga) (nsd) (nfa) (nba) (npl) (nen) (nnu) (nwr) (nra) (nik) gki gpa (p_) hy0 hy1 hy2 hy3 hy4 hy5 hy6 hy7 hy8 hy9 hy10 hy11 hy12 hy13 (by omega) (by omega) hp_gki hp_gpa) (cwV 1 hts gX8_pullOf_X8_step rfl rfl rfl ⟨rfl, dh_X8_step⟩ ⟨Nat.le_of_ble_eq_true rfl, Nat.le_of_ble_eq_true rfl⟩) hK hN (hZ.kept hS) hP (hP.sub [0, 2, 3] rfl) (va_recv (q := (RX8, TX8, 38)) hK hP (ci := 8) (q0 := 0) rfl rfl) rfl hl.1 rfl (Nat.le_of_ble_eq_true rfl) dX8_pullOf_75 ⟨Nat.le_of_ble_eq_true rfl, Nat.le_of_ble_eq_true rfl⟩ (fun r_22 hr_22 => ?_)
          obtain ⟨g_23, g_24, hsr_22_0⟩ := hr_22
          exact W.iret (v := r_22) hx hb hr (fun t ht hW => ⟨⟨r_22, grf, rfl, ⟨(show ((p_.toInt < 0 ∨ npu.toInt ≤ p_.toInt) ∧ (r_22 : Int32).toInt = -5) ∨ ((0 ≤ p_.toInt ∧ p_.toInt < npu.toInt) ∧ ((((3 : Int32).toInt < 0 ∨ 4 < (3 : Int32).toInt) ∧ (r_22 : Int32).toInt = -5) ∨ ((0 ≤ (3 : Int32).toInt ∧ (3 : Int32).toInt ≤ 4) ∧ (r_22 : Int32).toInt = (if (3 : Int32).toInt = 0 then (gki p_.toNatClampNeg).toInt else if (3 : Int32).toInt = 1 then (gpa p_.toNatClampNeg).toInt else if (3 : Int32).toInt = 2 then (gta p_.toNatClampNeg).toInt else if (3 : Int32).toInt = 3 then zStp (gki p_.toNatClampNeg).toInt (gpa p_.toNatClampNeg).toInt else if 1 ≤ nde.toInt ∧ (gta p_.toNatClampNeg).toInt ≤ nse.toInt then 1 else 0)))) from by (have zs := hsr_22_0; first | omega | (refine Or.inr ⟨by omega, Or.inr ⟨by omega, ?_⟩⟩; (repeat (first | rw [if_pos (by omega)] | rw [if_neg (by omega)])); first | done | rfl | omega))), trivial⟩, zRet ht hP hD [0, 1, 2, 3, 4] (by decide) rfl⟩, hS.F ht⟩) hS.2.2 dX8_pullOf_78
        · have kc4 : (4 : Int32).toInt = 4 := by decide
          refine lv_tableIn (tgt := 79) hx hb dX8_pullOf_16 (by decide) (by decide) rfl (by decide) ?_
          refine lv_aload_n hx hb dX8_pullOf_79 rfl (lv_at hl 0 rfl) ?_
          refine lv_iload_n hx hb dX8_pullOf_80 rfl (lv_at hl 1 rfl) ?_
          refine lv_aload_n hx hb dX8_pullOf_81 rfl (lv_at hl 0 rfl) ?_
          refine va_get (D := D) (ci := 8) (v := .int nde) (C := RX8) (T := TX8) (N := 38) hx hb hts hi_X8_pullOf_8 hown hK hP 0 rfl rfl 3 (by decide) (hts (.fieldLink RX8 115 "TheLiningsInItModel" "depth" "I") (List.mem_of_getElem? (i := 4) rfl)) (fun _ h9 => h9) rfl dX8_pullOf_82 ?_
          refine lv_aload_n hx hb dX8_pullOf_85 rfl (lv_at hl 0 rfl) ?_
          refine va_get (D := D) (ci := 8) (v := .int nse) (C := RX8) (T := TX8) (N := 38) hx hb hts hi_X8_pullOf_8 hown hK hP 0 rfl rfl 5 (by decide) (hts (.fieldLink RX8 13 "TheLiningsInItModel" "seconds" "I") (List.mem_of_getElem? (i := 5) rfl)) (fun _ h9 => h9) rfl dX8_pullOf_86 ?_
          refine zc_V (As := [.int p_, .int nde, .int nse]) (rest := []) ⟨hx, hb, hml, hown, hts⟩ (c_F_M_mayBe l D cI cJ cZ cP cS po m0 mrf mki mpa mta mla msl mco mhe mso msi msh mce mca mwo mnu mte mwa mke mma mth mtr (npu) (nte) (nat_) (nde) (nto) (nse) (nhu) (nga) (nsd) (nfa) (nba) (npl) (nen) (nnu) (nwr) (nra) (nik) gta (p_) (nde) (nse) hy0 hy1 hy2 hy3 hy4 hy5 hy6 hy7 hy8 hy9 hy10 hy11 hy12 hy13 (by omega) (by omega) hp_gta) (cwV 3 hts gX8_pullOf_X8_mayBe rfl rfl rfl ⟨rfl, dh_X8_mayBe⟩ ⟨Nat.le_of_ble_eq_true rfl, Nat.le_of_ble_eq_true rfl⟩) hK hN (hZ.kept hS) hP (hP.sub [0, 4] rfl) (va_recv (q := (RX8, TX8, 38)) hK hP (ci := 8) (q0 := 0) rfl rfl) rfl hl.1 rfl (Nat.le_of_ble_eq_true rfl) dX8_pullOf_89 ⟨Nat.le_of_ble_eq_true rfl, Nat.le_of_ble_eq_true rfl⟩ (fun r_25 hr_25 => ?_)
          obtain ⟨g_26, g_27, hsr_25_0⟩ := hr_25
          refine lv_if_eq (tgt := 99) hx hb dX8_pullOf_92 (by decide) (fun c_28 => ?_) (fun c_28 => ?_)
          · have fc_28 : r_25.toInt = 0 := zf_eq c_28 rfl (by decide)
            refine lv_iconst (v := 0) hx hb dX8_pullOf_99 (by decide) ?_
            exact W.iret (v := 0) hx hb hr (fun t ht hW => ⟨⟨0, grf, rfl, ⟨(show ((p_.toInt < 0 ∨ npu.toInt ≤ p_.toInt) ∧ (0 : Int32).toInt = -5) ∨ ((0 ≤ p_.toInt ∧ p_.toInt < npu.toInt) ∧ ((((4 : Int32).toInt < 0 ∨ 4 < (4 : Int32).toInt) ∧ (0 : Int32).toInt = -5) ∨ ((0 ≤ (4 : Int32).toInt ∧ (4 : Int32).toInt ≤ 4) ∧ (0 : Int32).toInt = (if (4 : Int32).toInt = 0 then (gki p_.toNatClampNeg).toInt else if (4 : Int32).toInt = 1 then (gpa p_.toNatClampNeg).toInt else if (4 : Int32).toInt = 2 then (gta p_.toNatClampNeg).toInt else if (4 : Int32).toInt = 3 then zStp (gki p_.toNatClampNeg).toInt (gpa p_.toNatClampNeg).toInt else if 1 ≤ nde.toInt ∧ (gta p_.toNatClampNeg).toInt ≤ nse.toInt then 1 else 0)))) from by (have k9 : (0 : Int32).toInt = 0 := (by decide); refine Or.inr ⟨by omega, Or.inr ⟨by omega, ?_⟩⟩; (repeat (first | rw [if_pos (by omega)] | rw [if_neg (by omega)])); first | done | omega | (rw [if_pos (hsr_25_0.mp (by omega))]; omega) | (rw [if_neg (fun z => by (have z2 := hsr_25_0.mpr z; omega))]; omega))), trivial⟩, zRet ht hP hD [0, 1, 2, 3, 4] (by decide) rfl⟩, hS.F ht⟩) hS.2.2 dX8_pullOf_100
          · have fc_28 : r_25.toInt ≠ 0 := zf_ne c_28 rfl (by decide)
            refine lv_iconst (v := 1) hx hb dX8_pullOf_95 (by decide) ?_
            refine lv_goto (tgt := 100) hx hb dX8_pullOf_96 (by decide) ?_
            exact W.iret (v := 1) hx hb hr (fun t ht hW => ⟨⟨1, grf, rfl, ⟨(show ((p_.toInt < 0 ∨ npu.toInt ≤ p_.toInt) ∧ (1 : Int32).toInt = -5) ∨ ((0 ≤ p_.toInt ∧ p_.toInt < npu.toInt) ∧ ((((4 : Int32).toInt < 0 ∨ 4 < (4 : Int32).toInt) ∧ (1 : Int32).toInt = -5) ∨ ((0 ≤ (4 : Int32).toInt ∧ (4 : Int32).toInt ≤ 4) ∧ (1 : Int32).toInt = (if (4 : Int32).toInt = 0 then (gki p_.toNatClampNeg).toInt else if (4 : Int32).toInt = 1 then (gpa p_.toNatClampNeg).toInt else if (4 : Int32).toInt = 2 then (gta p_.toNatClampNeg).toInt else if (4 : Int32).toInt = 3 then zStp (gki p_.toNatClampNeg).toInt (gpa p_.toNatClampNeg).toInt else if 1 ≤ nde.toInt ∧ (gta p_.toNatClampNeg).toInt ≤ nse.toInt then 1 else 0)))) from by (have k9 : (1 : Int32).toInt = 1 := (by decide); refine Or.inr ⟨by omega, Or.inr ⟨by omega, ?_⟩⟩; (repeat (first | rw [if_pos (by omega)] | rw [if_neg (by omega)])); first | done | omega | (rw [if_pos (hsr_25_0.mp (by omega))]; omega) | (rw [if_neg (fun z => by (have z2 := hsr_25_0.mpr z; omega))]; omega))), trivial⟩, zRet ht hP hD [0, 1, 2, 3, 4] (by decide) rfl⟩, hS.F ht⟩) hS.2.2 dX8_pullOf_100
    · exact absurd c_15 (by decide)
set_option maxHeartbeats 4000000 in
set_option maxRecDepth 100000 in
theorem c_F_M_judge (l : Launch) (D : va_G) (cI cJ cZ cP cS : ClassId) (po : zPool) (m0 mrf mki mpa mta mla msl mco mhe mso msi msh mce mca mwo mnu mte mwa mke mma mth mtr : Nat) (npu nte nat_ nde nto nse nhu nga nsd nfa nba npl nen nnu nwr nra nik : Int32) (grf ghe gsi gki gpa gta : Nat → Int32) (gce : Nat → Int64) (s_ n : Int32) (hy0 : 0 ≤ npu.toInt) (hy1 : npu.toInt ≤ 8) (hy2 : 4 ≤ nte.toInt) (hy3 : nte.toInt ≤ 40) (hy4 : 0 ≤ nat_.toInt) (hy5 : nat_.toInt ≤ 40) (hy6 : 0 ≤ nde.toInt) (hy7 : nde.toInt ≤ 24) (hy8 : 0 ≤ nhu.toInt) (hy9 : nhu.toInt ≤ 9) (hy10 : 0 ≤ nra.toInt) (hy11 : nra.toInt ≤ 2000) (hy12 : 0 ≤ nik.toInt) (hy13 : nik.toInt ≤ 1) (hy14 : 0 ≤ nse.toInt) (hy15 : nse.toInt ≤ 300) (hp_ghe : zRg ghe (0) 2) (hp_gsi : zRg gsi (0) 160) (hp_gki : zRg gki (0) 6) (hp_gpa : zRg gpa (0) 9) (hp_gta : zRg gta (0) 60) (hpz : Nat) : Met l yX8_judge wsX8_judge ({ frames := 2, cells := 0, slots := 0, locals := 45 }) (va_Pc [.ref m0, .int s_, .int n] (zW D (zKT cI cJ cZ cP cS) po [(zMO m0 npu nte nat_ nde nto nse nhu nga nsd nfa mrf mki mpa mta mla msl mco mhe mso msi msh mce mca mwo mnu mte nba npl nen nnu nwr mwa mke mma mth mtr nra nik), (mrf, .inl (cI, 8, .inl grf)), (mhe, .inl (cI, 8, .inl ghe)), (msi, .inl (cI, 8, .inl gsi)), (mce, .inl (cJ, 1280, .inr (.inl gce))), (mki, .inl (cI, 8, .inl gki)), (mpa, .inl (cI, 8, .inl gpa)), (mta, .inl (cI, 8, .inl gta))] hpz)) (va_Qi (fun (r : Int32) (grf2 : (Nat → Int32)) => (((s_.toInt < 0 ∨ 7 < s_.toInt) ∧ r.toInt = -11) ∨ ((0 ≤ s_.toInt ∧ s_.toInt ≤ 7) ∧ (((zHc (ghe s_.toNatClampNeg).toInt) = -1 ∧ r.toInt = -13) ∨ ((zHc (ghe s_.toNatClampNeg).toInt) ≠ -1 ∧ (zHc (ghe s_.toNatClampNeg).toInt) < 100 ∧ r.toInt = -12) ∨ (100 ≤ (zHc (ghe s_.toNatClampNeg).toInt) ∧ ((n.toInt < 0 ∧ r.toInt = -14) ∨ (0 ≤ n.toInt ∧ (gsi s_.toNatClampNeg).toInt < n.toInt ∧ r.toInt = -15) ∨ (0 ≤ n.toInt ∧ n.toInt ≤ (gsi s_.toNatClampNeg).toInt ∧ 20 < n.toInt ∧ r.toInt = -16) ∨ ((0 ≤ n.toInt ∧ n.toInt ≤ (gsi s_.toNatClampNeg).toInt ∧ n.toInt ≤ 20) ∧ r.toInt = zJg gki gpa gta npu.toInt nhu.toInt (zRw gce (160 * s_.toInt)) n.toInt.toNat 0 nde.toInt nse.toInt)))))) ∧ (True)) (zB D [(zMO m0 npu nte nat_ nde nto nse nhu nga nsd nfa mrf mki mpa mta mla msl mco mhe mso msi msh mce mca mwo mnu mte nba npl nen nnu nwr mwa mke mma mth mtr nra nik), (mrf, .inl (cI, 8, .inl grf)), (mhe, .inl (cI, 8, .inl ghe)), (msi, .inl (cI, 8, .inl gsi)), (mce, .inl (cJ, 1280, .inr (.inl gce))), (mki, .inl (cI, 8, .inl gki)), (mpa, .inl (cI, 8, .inl gpa)), (mta, .inl (cI, 8, .inl gta))] hpz (fun (grf2 : Nat → Int32) => [(zMO m0 npu nte nat_ nde nto nse nhu nga nsd nfa mrf mki mpa mta mla msl mco mhe mso msi msh mce mca mwo mnu mte nba npl nen nnu nwr mwa mke mma mth mtr nra nik), (mrf, .inl (cI, 8, .inl grf2)), (mhe, .inl (cI, 8, .inl ghe)), (msi, .inl (cI, 8, .inl gsi)), (mce, .inl (cJ, 1280, .inr (.inl gce))), (mki, .inl (cI, 8, .inl gki)), (mpa, .inl (cI, 8, .inl gpa)), (mta, .inl (cI, 8, .inl gta))])) (va_A [(zMO m0 npu nte nat_ nde nto nse nhu nga nsd nfa mrf mki mpa mta mla msl mco mhe mso msi msh mce mca mwo mnu mte nba npl nen nnu nwr mwa mke mma mth mtr nra nik), (mrf, .inl (cI, 8, .inl grf)), (mhe, .inl (cI, 8, .inl ghe)), (msi, .inl (cI, 8, .inl gsi)), (mce, .inl (cJ, 1280, .inr (.inl gce))), (mki, .inl (cI, 8, .inl gki)), (mpa, .inl (cI, 8, .inl gpa)), (mta, .inl (cI, 8, .inl gta))] hpz)) 0 0 (va_A [(zMO m0 npu nte nat_ nde nto nse nhu nga nsd nfa mrf mki mpa mta mla msl mco mhe mso msi msh mce mca mwo mnu mte nba npl nen nnu nwr mwa mke mma mth mtr nra nik), (mrf, .inl (cI, 8, .inl grf)), (mhe, .inl (cI, 8, .inl ghe)), (msi, .inl (cI, 8, .inl gsi)), (mce, .inl (cJ, 1280, .inr (.inl gce))), (mki, .inl (cI, 8, .inl gki)), (mpa, .inl (cI, 8, .inl gpa)), (mta, .inl (cI, 8, .inl gta))] hpz) := by
  refine Met.ofW (cc := cX8_judge) (maxL := 8) (ret := (some .int)) (by decide) rfl ?_
  intro p e s m args below meth c s₁ B hml hv
  obtain ⟨rfl, hsz, hP, hK, hD0, hN, hZ⟩ := hv
  have hx := B.exec
  have hb := B.bytes
  have hr := B.returns
  have hts := atoms_spec (ws := wsX8_judge) B.pre
  have hown : s.vm.findClass RX8 = some m.cls := findClass_of_methodNamed B.named
  have hlocks := B.notSynchronized
  subst hsz
  have hD := hD0.self (sz := s.heap.size)
  have hA := zA_of hD
  have hl := lv_entry ([.ref m0, .int s_, .int n]) (n := 8) (Nat.le_of_ble_eq_true rfl)
  rw [lg_entry_eq]
  generalize (lg_sl ([.ref m0, .int s_, .int n]) ++ List.replicate (8 - (lg_sl ([.ref m0, .int s_, .int n])).length) Slot.unset).toArray = ls at hl ⊢
  replace hl : lv_has ls 8 [(0, .ref m0), (1, .int s_), (2, .int n)] := hl
  refine zw_begin hP hD (fun H locs hP1 hS => ?_)
  clear hP
  have hP := hP1
  clear hP1
  refine zcut (T := fun K => ∀ (H : Heap) (locs : List Loc) (ls : Array Slot) (hP : va_P D vwCl [(zMO m0 npu nte nat_ nde nto nse nhu nga nsd nfa mrf mki mpa mta mla msl mco mhe mso msi msh mce mca mwo mnu mte nba npl nen nnu nwr mwa mke mma mth mtr nra nik), (mrf, .inl (cI, 8, .inl grf)), (mhe, .inl (cI, 8, .inl ghe)), (msi, .inl (cI, 8, .inl gsi)), (mce, .inl (cJ, 1280, .inr (.inl gce))), (mki, .inl (cI, 8, .inl gki)), (mpa, .inl (cI, 8, .inl gpa)), (mta, .inl (cI, 8, .inl gta))] H) (hD : va_D (va_A [(zMO m0 npu nte nat_ nde nto nse nhu nga nsd nfa mrf mki mpa mta mla msl mco mhe mso msi msh mce mca mwo mnu mte nba npl nen nnu nwr mwa mke mma mth mtr nra nik), (mrf, .inl (cI, 8, .inl grf)), (mhe, .inl (cI, 8, .inl ghe)), (msi, .inl (cI, 8, .inl gsi)), (mce, .inl (cJ, 1280, .inr (.inl gce))), (mki, .inl (cI, 8, .inl gki)), (mpa, .inl (cI, 8, .inl gpa)), (mta, .inl (cI, 8, .inl gta))] s.heap.size) [(zMO m0 npu nte nat_ nde nto nse nhu nga nsd nfa mrf mki mpa mta mla msl mco mhe mso msi msh mce mca mwo mnu mte nba npl nen nnu nwr mwa mke mma mth mtr nra nik), (mrf, .inl (cI, 8, .inl grf)), (mhe, .inl (cI, 8, .inl ghe)), (msi, .inl (cI, 8, .inl gsi)), (mce, .inl (cJ, 1280, .inr (.inl gce))), (mki, .inl (cI, 8, .inl gki)), (mpa, .inl (cI, 8, .inl gpa)), (mta, .inl (cI, 8, .inl gta))]) (hS : va_S (va_A [(zMO m0 npu nte nat_ nde nto nse nhu nga nsd nfa mrf mki mpa mta mla msl mco mhe mso msi msh mce mca mwo mnu mte nba npl nen nnu nwr mwa mke mma mth mtr nra nik), (mrf, .inl (cI, 8, .inl grf)), (mhe, .inl (cI, 8, .inl ghe)), (msi, .inl (cI, 8, .inl gsi)), (mce, .inl (cJ, 1280, .inr (.inl gce))), (mki, .inl (cI, 8, .inl gki)), (mpa, .inl (cI, 8, .inl gpa)), (mta, .inl (cI, 8, .inl gta))] s.heap.size) s.heap H locs) (hl : lv_has ls 8 [(0, .ref m0), (1, .int s_), (2, .int n), (4, .int nde), (5, .int nse)]) (hf69_0 : (0 ≤ s_.toInt ∧ s_.toInt ≤ 7) ∧ 0 ≤ n.toInt ∧ n.toInt ≤ 20 ∧ (ghe s_.toNatClampNeg).toInt = 1 ∧ n.toInt ≤ (gsi s_.toNatClampNeg).toInt), K H locs ls) (pc := 69) ?_ (fun hcut69 => ?_)
  · intro H locs ls hP hD hS hl hf69_0
    refine lv_iconst (v := 0) hx hb dX8_judge_69 (by decide) ?_
    refine lv_istore (lv' := [(6, .int 0), (0, .ref m0), (1, .int s_), (2, .int n), (4, .int nde), (5, .int nse)]) hx hb dX8_judge_70 hl (by decide) rfl (fun ls hl => ?_)
    obtain ⟨i_72, hi_72⟩ : ∃ i : Int32, i = 0 := ⟨_, rfl⟩
    replace hl : lv_has ls 8 [(6, .int i_72), (0, .ref m0), (1, .int s_), (2, .int n), (4, .int nde), (5, .int nse)] := by rw [hi_72]; exact lv_sub hl [0, 1, 2, 3, 4, 5] rfl
    have h1i_72 : i_72.toInt = 0 := by rw [hi_72]; decide
    obtain ⟨nfu, hni_72⟩ : ∃ nq9 : Nat, n.toInt ≤ i_72.toInt + (nq9 : Int) := ⟨((n.toInt : Int) - 0).toNat, by omega⟩
    have hloi_72 : 0 ≤ i_72.toInt := by omega
    obtain ⟨v_1, hv_1⟩ : ∃ g : Int32, g = nde := ⟨_, rfl⟩
    obtain ⟨v_2, hv_2⟩ : ∃ g : Int32, g = nse := ⟨_, rfl⟩
    replace hl : lv_has ls 8 [(6, .int i_72), (0, .ref m0), (1, .int s_), (2, .int n), (4, .int v_1), (5, .int v_2)] := by rw [hv_1, hv_2]; exact hl
    have hbv_1 : 0 ≤ v_1.toInt ∧ v_1.toInt ≤ 24 := by rw [hv_1]; exact ⟨by omega, by omega⟩
    have hbv_2 : 0 ≤ v_2.toInt ∧ v_2.toInt ≤ 300 := by rw [hv_2]; exact ⟨by omega, by omega⟩
    have hvi_72_0 : zJg gki gpa gta npu.toInt nhu.toInt (zRw gce (160 * s_.toInt)) n.toInt.toNat 0 nde.toInt nse.toInt = zJg gki gpa gta npu.toInt nhu.toInt (zRw gce (160 * s_.toInt)) (n.toInt - i_72.toInt).toNat i_72.toInt (v_1 : Int32).toInt (v_2 : Int32).toInt := by
      (try rw [hi_72]); (try rw [hv_1]); (try rw [hv_2]); (rw [show (0 : Int32).toInt = 0 from by decide, Int.sub_zero])
    have hvi_72_1 : i_72.toInt ≤ n.toInt := by
      (try rw [hi_72]); (try rw [hv_1]); (try rw [hv_2]); (have k0 : (0 : Int32).toInt = 0 := (by decide); omega)
    clear h1i_72 hi_72 hv_1 hv_2
    skip
    revert hni_72
    revert hloi_72
    revert hvi_72_1
    revert hvi_72_0
    revert hbv_2
    revert hbv_1
    revert hl
    revert hS
    revert hD
    revert hP
    revert ls
    revert locs
    revert H
    revert v_2
    revert v_1
    revert i_72
    induction nfu with
    | zero =>
      intro i_72 v_1 v_2 H locs ls hP hD hS hl hbv_1 hbv_2 hvi_72_0 hvi_72_1 hloi_72 hni_72
      have hzi_72 : n.toInt ≤ i_72.toInt := by omega
      refine lv_iload hx hb dX8_judge_72 (lv_at hl 0 rfl) ?_
      refine lv_iload_n hx hb dX8_judge_74 rfl (lv_at hl 3 rfl) ?_
      refine lv_icmp_ge (tgt := 158) hx hb dX8_judge_75 (by decide) (fun c_3 => ?_) (fun c_3 => ?_)
      · have fc_3 : n.toInt ≤ i_72.toInt := zf_le c_3 rfl rfl
        refine lv_iconst (v := (-1)) hx hb dX8_judge_158 (by decide) ?_
        exact W.iret (v := (-1)) hx hb hr (fun t ht hW => ⟨⟨(-1), grf, rfl, ⟨(show ((s_.toInt < 0 ∨ 7 < s_.toInt) ∧ ((-1) : Int32).toInt = -11) ∨ ((0 ≤ s_.toInt ∧ s_.toInt ≤ 7) ∧ (((zHc (ghe s_.toNatClampNeg).toInt) = -1 ∧ ((-1) : Int32).toInt = -13) ∨ ((zHc (ghe s_.toNatClampNeg).toInt) ≠ -1 ∧ (zHc (ghe s_.toNatClampNeg).toInt) < 100 ∧ ((-1) : Int32).toInt = -12) ∨ (100 ≤ (zHc (ghe s_.toNatClampNeg).toInt) ∧ ((n.toInt < 0 ∧ ((-1) : Int32).toInt = -14) ∨ (0 ≤ n.toInt ∧ (gsi s_.toNatClampNeg).toInt < n.toInt ∧ ((-1) : Int32).toInt = -15) ∨ (0 ≤ n.toInt ∧ n.toInt ≤ (gsi s_.toNatClampNeg).toInt ∧ 20 < n.toInt ∧ ((-1) : Int32).toInt = -16) ∨ ((0 ≤ n.toInt ∧ n.toInt ≤ (gsi s_.toNatClampNeg).toInt ∧ n.toInt ≤ 20) ∧ ((-1) : Int32).toInt = zJg gki gpa gta npu.toInt nhu.toInt (zRw gce (160 * s_.toInt)) n.toInt.toNat 0 nde.toInt nse.toInt))))) from by (exact Or.inr ⟨by omega, Or.inr (Or.inr ⟨by (unfold zHc; rw [if_pos (by omega)]; decide), Or.inr (Or.inr (Or.inr ⟨by omega, by (rw [hvi_72_0, show (n.toInt - i_72.toInt).toNat = 0 from by omega]; show ((-1) : Int32).toInt = -1; decide)⟩))⟩)⟩)), trivial⟩, zRet ht hP hD [0, 1, 2, 3, 4, 5, 6, 7] (by decide) rfl⟩, hS.F ht⟩) hS.2.2 dX8_judge_159
      · exfalso; have fc_3 : i_72.toInt < n.toInt := zf_nle c_3 rfl rfl; omega
    | succ nfu ih =>
      intro i_72 v_1 v_2 H locs ls hP hD hS hl hbv_1 hbv_2 hvi_72_0 hvi_72_1 hloi_72 hni_72
      refine lv_iload hx hb dX8_judge_72 (lv_at hl 0 rfl) ?_
      refine lv_iload_n hx hb dX8_judge_74 rfl (lv_at hl 3 rfl) ?_
      refine lv_icmp_ge (tgt := 158) hx hb dX8_judge_75 (by decide) (fun c_4 => ?_) (fun c_4 => ?_)
      · have fc_4 : n.toInt ≤ i_72.toInt := zf_le c_4 rfl rfl
        refine lv_iconst (v := (-1)) hx hb dX8_judge_158 (by decide) ?_
        exact W.iret (v := (-1)) hx hb hr (fun t ht hW => ⟨⟨(-1), grf, rfl, ⟨(show ((s_.toInt < 0 ∨ 7 < s_.toInt) ∧ ((-1) : Int32).toInt = -11) ∨ ((0 ≤ s_.toInt ∧ s_.toInt ≤ 7) ∧ (((zHc (ghe s_.toNatClampNeg).toInt) = -1 ∧ ((-1) : Int32).toInt = -13) ∨ ((zHc (ghe s_.toNatClampNeg).toInt) ≠ -1 ∧ (zHc (ghe s_.toNatClampNeg).toInt) < 100 ∧ ((-1) : Int32).toInt = -12) ∨ (100 ≤ (zHc (ghe s_.toNatClampNeg).toInt) ∧ ((n.toInt < 0 ∧ ((-1) : Int32).toInt = -14) ∨ (0 ≤ n.toInt ∧ (gsi s_.toNatClampNeg).toInt < n.toInt ∧ ((-1) : Int32).toInt = -15) ∨ (0 ≤ n.toInt ∧ n.toInt ≤ (gsi s_.toNatClampNeg).toInt ∧ 20 < n.toInt ∧ ((-1) : Int32).toInt = -16) ∨ ((0 ≤ n.toInt ∧ n.toInt ≤ (gsi s_.toNatClampNeg).toInt ∧ n.toInt ≤ 20) ∧ ((-1) : Int32).toInt = zJg gki gpa gta npu.toInt nhu.toInt (zRw gce (160 * s_.toInt)) n.toInt.toNat 0 nde.toInt nse.toInt))))) from by (exact Or.inr ⟨by omega, Or.inr (Or.inr ⟨by (unfold zHc; rw [if_pos (by omega)]; decide), Or.inr (Or.inr (Or.inr ⟨by omega, by (rw [hvi_72_0, show (n.toInt - i_72.toInt).toNat = 0 from by omega]; show ((-1) : Int32).toInt = -1; decide)⟩))⟩)⟩)), trivial⟩, zRet ht hP hD [0, 1, 2, 3, 4, 5, 6, 7] (by decide) rfl⟩, hS.F ht⟩) hS.2.2 dX8_judge_159
      · have fc_4 : i_72.toInt < n.toInt := zf_nle c_4 rfl rfl
        refine lv_aload_n hx hb dX8_judge_78 rfl (lv_at hl 1 rfl) ?_
        refine lv_iload_n hx hb dX8_judge_79 rfl (lv_at hl 2 rfl) ?_
        refine lv_iload hx hb dX8_judge_80 (lv_at hl 0 rfl) ?_
        refine zc_V (As := [.int s_, .int i_72]) (rest := []) ⟨hx, hb, hml, hown, hts⟩ (c_F_M_intAt l D cI cJ cZ cP cS po m0 mrf mki mpa mta mla msl mco mhe mso msi msh mce mca mwo mnu mte mwa mke mma mth mtr (npu) (nte) (nat_) (nde) (nto) (nse) (nhu) (nga) (nsd) (nfa) (nba) (npl) (nen) (nnu) (nwr) (nra) (nik) gce (s_) (i_72) hy0 hy1 hy2 hy3 hy4 hy5 hy6 hy7 hy8 hy9 hy10 hy11 hy12 hy13 (by omega) (by omega) (by omega) (by omega)) (cwV 2 hts gX8_judge_X8_intAt rfl rfl rfl ⟨rfl, dh_X8_intAt⟩ ⟨Nat.le_of_ble_eq_true rfl, Nat.le_of_ble_eq_true rfl⟩) hK hN (hZ.kept hS) hP (hP.sub [0, 4] rfl) (va_recv (q := (RX8, TX8, 38)) hK hP (ci := 8) (q0 := 0) rfl rfl) rfl hl.1 rfl (Nat.le_of_ble_eq_true rfl) dX8_judge_82 ⟨Nat.le_of_ble_eq_true rfl, Nat.le_of_ble_eq_true rfl⟩ (fun r_5 hr_5 => ?_)
        have hsr_5_0 := hr_5
        refine lv_istore (lv' := [(7, .int r_5), (6, .int i_72), (0, .ref m0), (1, .int s_), (2, .int n), (4, .int v_1), (5, .int v_2)]) hx hb dX8_judge_85 hl (by decide) rfl (fun ls hl => ?_)
        refine lv_aload_n hx hb dX8_judge_87 rfl (lv_at hl 2 rfl) ?_
        refine lv_iload hx hb dX8_judge_88 (lv_at hl 0 rfl) ?_
        refine zc_V (As := [.int r_5]) (rest := []) ⟨hx, hb, hml, hown, hts⟩ (c_M_isPull l D cI cJ cZ cP cS po m0 mrf mki mpa mta mla msl mco mhe mso msi msh mce mca mwo mnu mte mwa mke mma mth mtr (npu) (nte) (nat_) (nde) (nto) (nse) (nhu) (nga) (nsd) (nfa) (nba) (npl) (nen) (nnu) (nwr) (nra) (nik) (r_5) hy0 hy1 hy2 hy3 hy4 hy5 hy6 hy7 hy8 hy9 hy10 hy11 hy12 hy13) (cwV 1 hts gX8_judge_X8_isPull rfl rfl rfl ⟨rfl, dh_X8_isPull⟩ ⟨Nat.le_of_ble_eq_true rfl, Nat.le_of_ble_eq_true rfl⟩) hK hN (hZ.kept hS) hP (hP.sub [0] rfl) (va_recv (q := (RX8, TX8, 38)) hK hP (ci := 8) (q0 := 0) rfl rfl) rfl hl.1 rfl (Nat.le_of_ble_eq_true rfl) dX8_judge_90 ⟨Nat.le_of_ble_eq_true rfl, Nat.le_of_ble_eq_true rfl⟩ (fun r_6 hr_6 => ?_)
        rcases hr_6 with ⟨rfl, g_7⟩ | ⟨rfl, g_8, g_9⟩ | ⟨rfl, g_10, g_11⟩
        · refine lv_if_eq (tgt := 109) hx hb dX8_judge_93 (by decide) (fun c_12 => ?_) (fun c_12 => ?_)
          · refine lv_iload hx hb dX8_judge_109 (lv_at hl 1 rfl) ?_
            exact W.iret (v := i_72) hx hb hr (fun t ht hW => ⟨⟨i_72, grf, rfl, ⟨(show ((s_.toInt < 0 ∨ 7 < s_.toInt) ∧ (i_72 : Int32).toInt = -11) ∨ ((0 ≤ s_.toInt ∧ s_.toInt ≤ 7) ∧ (((zHc (ghe s_.toNatClampNeg).toInt) = -1 ∧ (i_72 : Int32).toInt = -13) ∨ ((zHc (ghe s_.toNatClampNeg).toInt) ≠ -1 ∧ (zHc (ghe s_.toNatClampNeg).toInt) < 100 ∧ (i_72 : Int32).toInt = -12) ∨ (100 ≤ (zHc (ghe s_.toNatClampNeg).toInt) ∧ ((n.toInt < 0 ∧ (i_72 : Int32).toInt = -14) ∨ (0 ≤ n.toInt ∧ (gsi s_.toNatClampNeg).toInt < n.toInt ∧ (i_72 : Int32).toInt = -15) ∨ (0 ≤ n.toInt ∧ n.toInt ≤ (gsi s_.toNatClampNeg).toInt ∧ 20 < n.toInt ∧ (i_72 : Int32).toInt = -16) ∨ ((0 ≤ n.toInt ∧ n.toInt ≤ (gsi s_.toNatClampNeg).toInt ∧ n.toInt ≤ 20) ∧ (i_72 : Int32).toInt = zJg gki gpa gta npu.toInt nhu.toInt (zRw gce (160 * s_.toInt)) n.toInt.toNat 0 nde.toInt nse.toInt))))) from by (exact Or.inr ⟨by omega, Or.inr (Or.inr ⟨by (unfold zHc; rw [if_pos (by omega)]; decide), Or.inr (Or.inr (Or.inr ⟨by omega, by (have zt : zTl (zRw gce (160 * s_.toInt)) i_72.toInt = r_5.toInt := (by have z := hsr_5_0; rw [zRw_tl (by omega), ← z]); have y9 : r_5.toNatClampNeg = r_5.toInt.toNat := rfl; have hk : (n.toInt - i_72.toInt).toNat = (n.toInt - (i_72.toInt + 1)).toNat + 1 := (by omega); rw [hvi_72_0, hk, zJg_s, zt, if_neg (fun z => by (have z2 := z.1; omega))])⟩))⟩)⟩)), trivial⟩, zRet ht hP hD [0, 1, 2, 3, 4, 5, 6, 7] (by decide) rfl⟩, hS.F ht⟩) hS.2.2 dX8_judge_111
          · exact absurd c_12 (by decide)
        · refine lv_if_eq (tgt := 109) hx hb dX8_judge_93 (by decide) (fun c_13 => ?_) (fun c_13 => ?_)
          · refine lv_iload hx hb dX8_judge_109 (lv_at hl 1 rfl) ?_
            exact W.iret (v := i_72) hx hb hr (fun t ht hW => ⟨⟨i_72, grf, rfl, ⟨(show ((s_.toInt < 0 ∨ 7 < s_.toInt) ∧ (i_72 : Int32).toInt = -11) ∨ ((0 ≤ s_.toInt ∧ s_.toInt ≤ 7) ∧ (((zHc (ghe s_.toNatClampNeg).toInt) = -1 ∧ (i_72 : Int32).toInt = -13) ∨ ((zHc (ghe s_.toNatClampNeg).toInt) ≠ -1 ∧ (zHc (ghe s_.toNatClampNeg).toInt) < 100 ∧ (i_72 : Int32).toInt = -12) ∨ (100 ≤ (zHc (ghe s_.toNatClampNeg).toInt) ∧ ((n.toInt < 0 ∧ (i_72 : Int32).toInt = -14) ∨ (0 ≤ n.toInt ∧ (gsi s_.toNatClampNeg).toInt < n.toInt ∧ (i_72 : Int32).toInt = -15) ∨ (0 ≤ n.toInt ∧ n.toInt ≤ (gsi s_.toNatClampNeg).toInt ∧ 20 < n.toInt ∧ (i_72 : Int32).toInt = -16) ∨ ((0 ≤ n.toInt ∧ n.toInt ≤ (gsi s_.toNatClampNeg).toInt ∧ n.toInt ≤ 20) ∧ (i_72 : Int32).toInt = zJg gki gpa gta npu.toInt nhu.toInt (zRw gce (160 * s_.toInt)) n.toInt.toNat 0 nde.toInt nse.toInt))))) from by (exact Or.inr ⟨by omega, Or.inr (Or.inr ⟨by (unfold zHc; rw [if_pos (by omega)]; decide), Or.inr (Or.inr (Or.inr ⟨by omega, by (have zt : zTl (zRw gce (160 * s_.toInt)) i_72.toInt = r_5.toInt := (by have z := hsr_5_0; rw [zRw_tl (by omega), ← z]); have y9 : r_5.toNatClampNeg = r_5.toInt.toNat := rfl; have hk : (n.toInt - i_72.toInt).toNat = (n.toInt - (i_72.toInt + 1)).toNat + 1 := (by omega); rw [hvi_72_0, hk, zJg_s, zt, if_neg (fun z => by (have z2 := z.1; omega))])⟩))⟩)⟩)), trivial⟩, zRet ht hP hD [0, 1, 2, 3, 4, 5, 6, 7] (by decide) rfl⟩, hS.F ht⟩) hS.2.2 dX8_judge_111
          · exact absurd c_13 (by decide)
        · refine lv_if_eq (tgt := 109) hx hb dX8_judge_93 (by decide) (fun c_14 => ?_) (fun c_14 => ?_)
          · exact absurd c_14 (by decide)
          · refine lv_aload_n hx hb dX8_judge_96 rfl (lv_at hl 2 rfl) ?_
            refine lv_iload hx hb dX8_judge_97 (lv_at hl 0 rfl) ?_
            refine lv_iload hx hb dX8_judge_99 (lv_at hl 5 rfl) ?_
            refine lv_iload hx hb dX8_judge_101 (lv_at hl 6 rfl) ?_
            refine zc_V (As := [.int r_5, .int v_1, .int v_2]) (rest := []) ⟨hx, hb, hml, hown, hts⟩ (c_F_M_mayBe l D cI cJ cZ cP cS po m0 mrf mki mpa mta mla msl mco mhe mso msi msh mce mca mwo mnu mte mwa mke mma mth mtr (npu) (nte) (nat_) (nde) (nto) (nse) (nhu) (nga) (nsd) (nfa) (nba) (npl) (nen) (nnu) (nwr) (nra) (nik) gta (r_5) (v_1) (v_2) hy0 hy1 hy2 hy3 hy4 hy5 hy6 hy7 hy8 hy9 hy10 hy11 hy12 hy13 (by omega) (by omega) hp_gta) (cwV 3 hts gX8_judge_X8_mayBe rfl rfl rfl ⟨rfl, dh_X8_mayBe⟩ ⟨Nat.le_of_ble_eq_true rfl, Nat.le_of_ble_eq_true rfl⟩) hK hN (hZ.kept hS) hP (hP.sub [0, 7] rfl) (va_recv (q := (RX8, TX8, 38)) hK hP (ci := 8) (q0 := 0) rfl rfl) rfl hl.1 rfl (Nat.le_of_ble_eq_true rfl) dX8_judge_103 ⟨Nat.le_of_ble_eq_true rfl, Nat.le_of_ble_eq_true rfl⟩ (fun r_15 hr_15 => ?_)
            obtain ⟨g_16, g_17, hsr_15_0⟩ := hr_15
            refine lv_if_ne (tgt := 112) hx hb dX8_judge_106 (by decide) (fun c_18 => ?_) (fun c_18 => ?_)
            · have fc_18 : r_15.toInt ≠ 0 := zf_ne c_18 rfl (by decide)
              refine lv_aload_n hx hb dX8_judge_112 rfl (lv_at hl 2 rfl) ?_
              refine lv_iload hx hb dX8_judge_113 (lv_at hl 0 rfl) ?_
              refine lv_iload hx hb dX8_judge_115 (lv_at hl 5 rfl) ?_
              refine lv_aload_n hx hb dX8_judge_117 rfl (lv_at hl 2 rfl) ?_
              refine lv_iload hx hb dX8_judge_118 (lv_at hl 0 rfl) ?_
              refine lv_iload hx hb dX8_judge_120 (lv_at hl 5 rfl) ?_
              refine zc_V (As := [.int r_5, .int v_1]) (rest := [.int v_1, .int r_5, .ref m0]) ⟨hx, hb, hml, hown, hts⟩ (c_F_M_ways l D cI cJ cZ cP cS po m0 mrf mki mpa mta mla msl mco mhe mso msi msh mce mca mwo mnu mte mwa mke mma mth mtr (npu) (nte) (nat_) (nde) (nto) (nse) (nhu) (nga) (nsd) (nfa) (nba) (npl) (nen) (nnu) (nwr) (nra) (nik) gki gpa (r_5) (v_1) hy0 hy1 hy2 hy3 hy4 hy5 hy6 hy7 hy8 hy9 hy10 hy11 hy12 hy13 (by omega) (by omega) hbv_1.1 hbv_1.2 hp_gki hp_gpa) (cwV 2 hts gX8_judge_X8_ways rfl rfl rfl ⟨rfl, dh_X8_ways⟩ ⟨Nat.le_of_ble_eq_true rfl, Nat.le_of_ble_eq_true rfl⟩) hK hN (hZ.kept hS) hP (hP.sub [0, 5, 6] rfl) (va_recv (q := (RX8, TX8, 38)) hK hP (ci := 8) (q0 := 0) rfl rfl) rfl hl.1 rfl (Nat.le_of_ble_eq_true rfl) dX8_judge_122 ⟨Nat.le_of_ble_eq_true rfl, Nat.le_of_ble_eq_true rfl⟩ (fun r_19 hr_19 => ?_)
              obtain ⟨g_20, g_21, hsr_19_0⟩ := hr_19
              refine lv_bipush (v := 6) hx hb dX8_judge_125 (by decide) ?_
              refine lv_icmp_lt (tgt := 134) hx hb dX8_judge_127 (by decide) (fun c_22 => ?_) (fun c_22 => ?_)
              · have fc_22 : r_19.toInt < 6 := zf_lt c_22 rfl (by decide)
                refine lv_iconst (v := 0) hx hb dX8_judge_134 (by decide) ?_
                have kc0 : (0 : Int32).toInt = 0 := by decide
                refine zc_V (As := [.int r_5, .int v_1, .int 0]) (rest := []) ⟨hx, hb, hml, hown, hts⟩ (c_F_M_deep l D cI cJ cZ cP cS po m0 mrf mki mpa mta mla msl mco mhe mso msi msh mce mca mwo mnu mte mwa mke mma mth mtr (npu) (nte) (nat_) (nde) (nto) (nse) (nhu) (nga) (nsd) (nfa) (nba) (npl) (nen) (nnu) (nwr) (nra) (nik) gki gpa (r_5) (v_1) (0) hy0 hy1 hy2 hy3 hy4 hy5 hy6 hy7 hy8 hy9 hy10 hy11 hy12 hy13 (by omega) (by omega) hbv_1.1 hbv_1.2 (by omega) (by omega) hp_gki hp_gpa) (cwV 3 hts gX8_judge_X8_deep rfl rfl rfl ⟨rfl, dh_X8_deep⟩ ⟨Nat.le_of_ble_eq_true rfl, Nat.le_of_ble_eq_true rfl⟩) hK hN (hZ.kept hS) hP (hP.sub [0, 5, 6] rfl) (va_recv (q := (RX8, TX8, 38)) hK hP (ci := 8) (q0 := 0) rfl rfl) rfl hl.1 rfl (Nat.le_of_ble_eq_true rfl) dX8_judge_135 ⟨Nat.le_of_ble_eq_true rfl, Nat.le_of_ble_eq_true rfl⟩ (fun r_23 hr_23 => ?_)
                obtain ⟨g_24, g_25, hsr_23_0⟩ := hr_23
                refine lv_istore (lv' := [(4, .int r_23), (7, .int r_5), (6, .int i_72), (0, .ref m0), (1, .int s_), (2, .int n), (5, .int v_2)]) hx hb dX8_judge_138 hl (by decide) rfl (fun ls hl => ?_)
                refine lv_iload hx hb dX8_judge_140 (lv_at hl 6 rfl) ?_
                refine lv_aload_n hx hb dX8_judge_142 rfl (lv_at hl 3 rfl) ?_
                refine va_get (D := D) (ci := 8) (v := .ref mta) (C := RX8) (T := TX8) (N := 38) hx hb hts hi_X8_judge_8 hown hK hP 0 rfl rfl 13 (by decide) (hts (.fieldLink RX8 35 "TheLiningsInItModel" "takes" "[I") (List.mem_of_getElem? (i := 4) rfl)) (fun _ h9 => h9) rfl dX8_judge_143 ?_
                refine lv_iload hx hb dX8_judge_146 (lv_at hl 1 rfl) ?_
                refine va_iald hx hb hK hP 7 0 rfl rfl (zf_in (by omega) (by omega)) dX8_judge_148 ?_
                refine lv_topi (fun x_26 ex_26 => ?_)
                have bx_26 : 0 ≤ x_26.toInt ∧ x_26.toInt ≤ 60 := by rw [ex_26]; exact hp_gta _
                have nq9 : (gta r_5.toNatClampNeg).toInt = x_26.toInt := by rw [ex_26]
                refine lv_isub hx hb dX8_judge_149 ?_
                refine lv_topi (fun x_27 ex_27 => ?_)
                have qx_27 : x_27.toInt = v_2.toInt - x_26.toInt := by rw [ex_27]; exact zf_sub rfl rfl (by omega) (by omega)
                refine lv_istore (lv' := [(5, .int x_27), (4, .int r_23), (7, .int r_5), (6, .int i_72), (0, .ref m0), (1, .int s_), (2, .int n)]) hx hb dX8_judge_150 hl (by decide) rfl (fun ls hl => ?_)
                obtain ⟨x_28, ex_28⟩ : ∃ y : Int32, y = i_72 + 1 := ⟨_, rfl⟩
                have qx_28 : x_28.toInt = i_72.toInt + 1 := dw_inc ex_28 fc_4
                refine lv_iinc (v := x_28) (lv' := [(6, .int x_28), (5, .int x_27), (4, .int r_23), (7, .int r_5), (0, .ref m0), (1, .int s_), (2, .int n)]) hx hb dX8_judge_152 hl (k := 3) rfl ex_28.symm (by decide) rfl (fun ls hl => ?_)
                refine lv_goto (tgt := 72) hx hb dX8_judge_155 (by decide) ?_
                exact ih x_28 r_23 x_27 _ _ _ (hP.sub [0, 1, 2, 3, 4, 5, 6, 7] rfl) (hD.sub [0, 1, 2, 3, 4, 5, 6, 7] (by decide) rfl) hS (lv_sub hl [0, 4, 5, 6, 2, 1] rfl) ⟨by omega, by omega⟩ ⟨by omega, by omega⟩ (show zJg gki gpa gta npu.toInt nhu.toInt (zRw gce (160 * s_.toInt)) n.toInt.toNat 0 nde.toInt nse.toInt = zJg gki gpa gta npu.toInt nhu.toInt (zRw gce (160 * s_.toInt)) (n.toInt - x_28.toInt).toNat x_28.toInt (r_23 : Int32).toInt (x_27 : Int32).toInt from by (have zt : zTl (zRw gce (160 * s_.toInt)) i_72.toInt = r_5.toInt := (by have z := hsr_5_0; rw [zRw_tl (by omega), ← z]); have y9 : r_5.toNatClampNeg = r_5.toInt.toNat := rfl; have hk : (n.toInt - i_72.toInt).toNat = (n.toInt - (i_72.toInt + 1)).toNat + 1 := (by omega); have hm := hsr_15_0.mp (by omega); have hw := hsr_19_0; have hd9 := hsr_23_0; have nt : (gta r_5.toNatClampNeg).toInt = x_26.toInt := (by rw [ex_26]); rw [y9] at hm hw hd9 nt; rw [hvi_72_0, hk, zJg_s, zt, if_pos ⟨⟨by omega, by omega⟩, hm.1, hm.2⟩, ← hw, nt]; first | (rw [if_pos (by omega), ← hd9.1 (by decide), show v_2.toInt - x_26.toInt = (x_27 : Int32).toInt from by omega, show x_28.toInt = i_72.toInt + 1 from by omega]) | (rw [if_neg (by omega), ← hd9.2 (by decide), show v_2.toInt - x_26.toInt = (x_27 : Int32).toInt from by omega, show x_28.toInt = i_72.toInt + 1 from by omega]))) (show x_28.toInt ≤ n.toInt from by omega) (dw_lo hloi_72 qx_28) (dw_hn hni_72 qx_28)
              · have fc_22 : 6 ≤ r_19.toInt := zf_nlt c_22 rfl (by decide)
                refine lv_iconst (v := 1) hx hb dX8_judge_130 (by decide) ?_
                refine lv_goto (tgt := 135) hx hb dX8_judge_131 (by decide) ?_
                have kc1 : (1 : Int32).toInt = 1 := by decide
                refine zc_V (As := [.int r_5, .int v_1, .int 1]) (rest := []) ⟨hx, hb, hml, hown, hts⟩ (c_F_M_deep l D cI cJ cZ cP cS po m0 mrf mki mpa mta mla msl mco mhe mso msi msh mce mca mwo mnu mte mwa mke mma mth mtr (npu) (nte) (nat_) (nde) (nto) (nse) (nhu) (nga) (nsd) (nfa) (nba) (npl) (nen) (nnu) (nwr) (nra) (nik) gki gpa (r_5) (v_1) (1) hy0 hy1 hy2 hy3 hy4 hy5 hy6 hy7 hy8 hy9 hy10 hy11 hy12 hy13 (by omega) (by omega) hbv_1.1 hbv_1.2 (by omega) (by omega) hp_gki hp_gpa) (cwV 3 hts gX8_judge_X8_deep rfl rfl rfl ⟨rfl, dh_X8_deep⟩ ⟨Nat.le_of_ble_eq_true rfl, Nat.le_of_ble_eq_true rfl⟩) hK hN (hZ.kept hS) hP (hP.sub [0, 5, 6] rfl) (va_recv (q := (RX8, TX8, 38)) hK hP (ci := 8) (q0 := 0) rfl rfl) rfl hl.1 rfl (Nat.le_of_ble_eq_true rfl) dX8_judge_135 ⟨Nat.le_of_ble_eq_true rfl, Nat.le_of_ble_eq_true rfl⟩ (fun r_29 hr_29 => ?_)
                obtain ⟨g_30, g_31, hsr_29_0⟩ := hr_29
                refine lv_istore (lv' := [(4, .int r_29), (7, .int r_5), (6, .int i_72), (0, .ref m0), (1, .int s_), (2, .int n), (5, .int v_2)]) hx hb dX8_judge_138 hl (by decide) rfl (fun ls hl => ?_)
                refine lv_iload hx hb dX8_judge_140 (lv_at hl 6 rfl) ?_
                refine lv_aload_n hx hb dX8_judge_142 rfl (lv_at hl 3 rfl) ?_
                refine va_get (D := D) (ci := 8) (v := .ref mta) (C := RX8) (T := TX8) (N := 38) hx hb hts hi_X8_judge_8 hown hK hP 0 rfl rfl 13 (by decide) (hts (.fieldLink RX8 35 "TheLiningsInItModel" "takes" "[I") (List.mem_of_getElem? (i := 4) rfl)) (fun _ h9 => h9) rfl dX8_judge_143 ?_
                refine lv_iload hx hb dX8_judge_146 (lv_at hl 1 rfl) ?_
                refine va_iald hx hb hK hP 7 0 rfl rfl (zf_in (by omega) (by omega)) dX8_judge_148 ?_
                refine lv_topi (fun x_32 ex_32 => ?_)
                have bx_32 : 0 ≤ x_32.toInt ∧ x_32.toInt ≤ 60 := by rw [ex_32]; exact hp_gta _
                have nq9 : (gta r_5.toNatClampNeg).toInt = x_32.toInt := by rw [ex_32]
                refine lv_isub hx hb dX8_judge_149 ?_
                refine lv_topi (fun x_33 ex_33 => ?_)
                have qx_33 : x_33.toInt = v_2.toInt - x_32.toInt := by rw [ex_33]; exact zf_sub rfl rfl (by omega) (by omega)
                refine lv_istore (lv' := [(5, .int x_33), (4, .int r_29), (7, .int r_5), (6, .int i_72), (0, .ref m0), (1, .int s_), (2, .int n)]) hx hb dX8_judge_150 hl (by decide) rfl (fun ls hl => ?_)
                obtain ⟨x_34, ex_34⟩ : ∃ y : Int32, y = i_72 + 1 := ⟨_, rfl⟩
                have qx_34 : x_34.toInt = i_72.toInt + 1 := dw_inc ex_34 fc_4
                refine lv_iinc (v := x_34) (lv' := [(6, .int x_34), (5, .int x_33), (4, .int r_29), (7, .int r_5), (0, .ref m0), (1, .int s_), (2, .int n)]) hx hb dX8_judge_152 hl (k := 3) rfl ex_34.symm (by decide) rfl (fun ls hl => ?_)
                refine lv_goto (tgt := 72) hx hb dX8_judge_155 (by decide) ?_
                exact ih x_34 r_29 x_33 _ _ _ (hP.sub [0, 1, 2, 3, 4, 5, 6, 7] rfl) (hD.sub [0, 1, 2, 3, 4, 5, 6, 7] (by decide) rfl) hS (lv_sub hl [0, 4, 5, 6, 2, 1] rfl) ⟨by omega, by omega⟩ ⟨by omega, by omega⟩ (show zJg gki gpa gta npu.toInt nhu.toInt (zRw gce (160 * s_.toInt)) n.toInt.toNat 0 nde.toInt nse.toInt = zJg gki gpa gta npu.toInt nhu.toInt (zRw gce (160 * s_.toInt)) (n.toInt - x_34.toInt).toNat x_34.toInt (r_29 : Int32).toInt (x_33 : Int32).toInt from by (have zt : zTl (zRw gce (160 * s_.toInt)) i_72.toInt = r_5.toInt := (by have z := hsr_5_0; rw [zRw_tl (by omega), ← z]); have y9 : r_5.toNatClampNeg = r_5.toInt.toNat := rfl; have hk : (n.toInt - i_72.toInt).toNat = (n.toInt - (i_72.toInt + 1)).toNat + 1 := (by omega); have hm := hsr_15_0.mp (by omega); have hw := hsr_19_0; have hd9 := hsr_29_0; have nt : (gta r_5.toNatClampNeg).toInt = x_32.toInt := (by rw [ex_32]); rw [y9] at hm hw hd9 nt; rw [hvi_72_0, hk, zJg_s, zt, if_pos ⟨⟨by omega, by omega⟩, hm.1, hm.2⟩, ← hw, nt]; first | (rw [if_pos (by omega), ← hd9.1 (by decide), show v_2.toInt - x_32.toInt = (x_33 : Int32).toInt from by omega, show x_34.toInt = i_72.toInt + 1 from by omega]) | (rw [if_neg (by omega), ← hd9.2 (by decide), show v_2.toInt - x_32.toInt = (x_33 : Int32).toInt from by omega, show x_34.toInt = i_72.toInt + 1 from by omega]))) (show x_34.toInt ≤ n.toInt from by omega) (dw_lo hloi_72 qx_34) (dw_hn hni_72 qx_34)
            · have fc_18 : r_15.toInt = 0 := zf_eq c_18 rfl (by decide)
              refine lv_iload hx hb dX8_judge_109 (lv_at hl 1 rfl) ?_
              exact W.iret (v := i_72) hx hb hr (fun t ht hW => ⟨⟨i_72, grf, rfl, ⟨(show ((s_.toInt < 0 ∨ 7 < s_.toInt) ∧ (i_72 : Int32).toInt = -11) ∨ ((0 ≤ s_.toInt ∧ s_.toInt ≤ 7) ∧ (((zHc (ghe s_.toNatClampNeg).toInt) = -1 ∧ (i_72 : Int32).toInt = -13) ∨ ((zHc (ghe s_.toNatClampNeg).toInt) ≠ -1 ∧ (zHc (ghe s_.toNatClampNeg).toInt) < 100 ∧ (i_72 : Int32).toInt = -12) ∨ (100 ≤ (zHc (ghe s_.toNatClampNeg).toInt) ∧ ((n.toInt < 0 ∧ (i_72 : Int32).toInt = -14) ∨ (0 ≤ n.toInt ∧ (gsi s_.toNatClampNeg).toInt < n.toInt ∧ (i_72 : Int32).toInt = -15) ∨ (0 ≤ n.toInt ∧ n.toInt ≤ (gsi s_.toNatClampNeg).toInt ∧ 20 < n.toInt ∧ (i_72 : Int32).toInt = -16) ∨ ((0 ≤ n.toInt ∧ n.toInt ≤ (gsi s_.toNatClampNeg).toInt ∧ n.toInt ≤ 20) ∧ (i_72 : Int32).toInt = zJg gki gpa gta npu.toInt nhu.toInt (zRw gce (160 * s_.toInt)) n.toInt.toNat 0 nde.toInt nse.toInt))))) from by (exact Or.inr ⟨by omega, Or.inr (Or.inr ⟨by (unfold zHc; rw [if_pos (by omega)]; decide), Or.inr (Or.inr (Or.inr ⟨by omega, by (have zt : zTl (zRw gce (160 * s_.toInt)) i_72.toInt = r_5.toInt := (by have z := hsr_5_0; rw [zRw_tl (by omega), ← z]); have y9 : r_5.toNatClampNeg = r_5.toInt.toNat := rfl; have hk : (n.toInt - i_72.toInt).toNat = (n.toInt - (i_72.toInt + 1)).toNat + 1 := (by omega); have hm := hsr_15_0; rw [y9] at hm; rw [hvi_72_0, hk, zJg_s, zt, if_neg (fun z => by (have z2 := hm.mpr z.2; omega))])⟩))⟩)⟩)), trivial⟩, zRet ht hP hD [0, 1, 2, 3, 4, 5, 6, 7] (by decide) rfl⟩, hS.F ht⟩) hS.2.2 dX8_judge_111
  refine lv_aload_n hx hb dX8_judge_0 rfl (lv_at hl 0 rfl) ?_
  refine lv_iload_n hx hb dX8_judge_1 rfl (lv_at hl 1 rfl) ?_
  refine zc_V (As := [.int s_]) (rest := []) ⟨hx, hb, hml, hown, hts⟩ (c_F_M_wanted l D cI cJ cZ cP cS po m0 mrf mki mpa mta mla msl mco mhe mso msi msh mce mca mwo mnu mte mwa mke mma mth mtr (npu) (nte) (nat_) (nde) (nto) (nse) (nhu) (nga) (nsd) (nfa) (nba) (npl) (nen) (nnu) (nwr) (nra) (nik) ghe (s_) hy0 hy1 hy2 hy3 hy4 hy5 hy6 hy7 hy8 hy9 hy10 hy11 hy12 hy13 hp_ghe) (cwV 1 hts gX8_judge_X8_wanted rfl rfl rfl ⟨rfl, dh_X8_wanted⟩ ⟨Nat.le_of_ble_eq_true rfl, Nat.le_of_ble_eq_true rfl⟩) hK hN (hZ.kept hS) hP (hP.sub [0, 2] rfl) (va_recv (q := (RX8, TX8, 38)) hK hP (ci := 8) (q0 := 0) rfl rfl) rfl hl.1 rfl (Nat.le_of_ble_eq_true rfl) dX8_judge_2 ⟨Nat.le_of_ble_eq_true rfl, Nat.le_of_ble_eq_true rfl⟩ (fun r_35 hr_35 => ?_)
  obtain ⟨g_36, g_37, hsr_35_0⟩ := hr_35
  refine lv_istore_n (lv' := [(3, .int r_35), (0, .ref m0), (1, .int s_), (2, .int n)]) hx hb dX8_judge_5 rfl hl (by decide) rfl (fun ls hl => ?_)
  refine lv_iload_n hx hb dX8_judge_6 rfl (lv_at hl 0 rfl) ?_
  refine lv_if_ne (tgt := 47) hx hb dX8_judge_7 (by decide) (fun c_38 => ?_) (fun c_38 => ?_)
  · have fc_38 : r_35.toInt ≠ 0 := zf_ne c_38 rfl (by decide)
    refine lv_iload_n hx hb dX8_judge_47 rfl (lv_at hl 0 rfl) ?_
    refine lv_if_eq (tgt := 57) hx hb dX8_judge_48 (by decide) (fun c_39 => ?_) (fun c_39 => ?_)
    · exfalso; have fc_39 : r_35.toInt = 0 := zf_eq c_39 rfl (by decide); omega
    · have fc_39 : r_35.toInt ≠ 0 := zf_ne c_39 rfl (by decide)
      refine lv_aload_n hx hb dX8_judge_51 rfl (lv_at hl 1 rfl) ?_
      refine lv_iload_n hx hb dX8_judge_52 rfl (lv_at hl 0 rfl) ?_
      skip
      refine zw_V (As := [.int r_35]) (rest := []) (wr := [(mhe, .inl (cI, 8, .inl ghe)), (msi, .inl (cI, 8, .inl gsi)), (mce, .inl (cJ, 1280, .inr (.inl gce))), (mki, .inl (cI, 8, .inl gki)), (mpa, .inl (cI, 8, .inl gpa)), (mta, .inl (cI, 8, .inl gta))]) ⟨hx, hb, hml, hown, hts⟩ (c_F_M_noTen l D cI cJ cZ cP cS po m0 mrf mki mpa mta mla msl mco mhe mso msi msh mce mca mwo mnu mte mwa mke mma mth mtr (npu) (nte) (nat_) (nde) (nto) (nse) (nhu) (nga) (nsd) (nfa) (nba) (npl) (nen) (nnu) (nwr) (nra) (nik) grf (r_35) hy0 hy1 hy2 hy3 hy4 hy5 hy6 hy7 hy8 hy9 hy10 hy11 hy12 hy13 (by omega) (by omega) H.size) (cwV 1 hts gX8_judge_X8_noTen rfl rfl rfl ⟨rfl, dh_X8_noTen⟩ ⟨Nat.le_of_ble_eq_true rfl, Nat.le_of_ble_eq_true rfl⟩) hK hN (hZ.kept hS) hP hD hS hA [0, 1] [2, 3, 4, 5, 6, 7] rfl rfl (by decide) (by decide) (by decide) (va_recv (q := (RX8, TX8, 38)) hK hP (ci := 8) (q0 := 0) rfl rfl) rfl hl.1 rfl (Nat.le_of_ble_eq_true rfl) dX8_judge_53 ⟨Nat.le_of_ble_eq_true rfl, Nat.le_of_ble_eq_true rfl⟩ (fun r_40 u_41 H locs hr_40 hP hD hS => ?_)
      obtain ⟨q_42, rfl⟩ : ∃ z, z = u_41 := ⟨_, rfl⟩
      obtain ⟨hsr_40_0, hr_40⟩ := hr_40
      have h9R := zRe (ws' := [(mhe, .inl (cI, 8, .inl ghe)), (msi, .inl (cI, 8, .inl gsi)), (mce, .inl (cJ, 1280, .inr (.inl gce))), (mki, .inl (cI, 8, .inl gki)), (mpa, .inl (cI, 8, .inl gpa)), (mta, .inl (cI, 8, .inl gta)), (zMO m0 npu nte nat_ nde nto nse nhu nga nsd nfa mrf mki mpa mta mla msl mco mhe mso msi msh mce mca mwo mnu mte nba npl nen nnu nwr mwa mke mma mth mtr nra nik), (mrf, .inl (cI, 8, .inl q_42))]) hP hD rfl
      clear hP hD
      obtain ⟨hP, hD⟩ := h9R
      obtain ⟨g_43, g_44⟩ := hr_40
      exact W.iret (v := r_40) hx hb hr (fun t ht hW => ⟨⟨r_40, q_42, rfl, ⟨(show ((s_.toInt < 0 ∨ 7 < s_.toInt) ∧ (r_40 : Int32).toInt = -11) ∨ ((0 ≤ s_.toInt ∧ s_.toInt ≤ 7) ∧ (((zHc (ghe s_.toNatClampNeg).toInt) = -1 ∧ (r_40 : Int32).toInt = -13) ∨ ((zHc (ghe s_.toNatClampNeg).toInt) ≠ -1 ∧ (zHc (ghe s_.toNatClampNeg).toInt) < 100 ∧ (r_40 : Int32).toInt = -12) ∨ (100 ≤ (zHc (ghe s_.toNatClampNeg).toInt) ∧ ((n.toInt < 0 ∧ (r_40 : Int32).toInt = -14) ∨ (0 ≤ n.toInt ∧ (gsi s_.toNatClampNeg).toInt < n.toInt ∧ (r_40 : Int32).toInt = -15) ∨ (0 ≤ n.toInt ∧ n.toInt ≤ (gsi s_.toNatClampNeg).toInt ∧ 20 < n.toInt ∧ (r_40 : Int32).toInt = -16) ∨ ((0 ≤ n.toInt ∧ n.toInt ≤ (gsi s_.toNatClampNeg).toInt ∧ n.toInt ≤ 20) ∧ (r_40 : Int32).toInt = zJg gki gpa gta npu.toInt nhu.toInt (zRw gce (160 * s_.toInt)) n.toInt.toNat 0 nde.toInt nse.toInt))))) from by (have zw := hsr_35_0; have zn := hsr_40_0; have k4 : ((-4) : Int32).toInt = -4 := (by decide); have k5 : ((-5) : Int32).toInt = -5 := (by decide); have k6 : ((-6) : Int32).toInt = -6 := (by decide); unfold zHc; rcases zw with ⟨z1, z2⟩ | ⟨z1, ⟨z2, z3⟩ | ⟨z2, z3⟩ | ⟨z2, z3⟩⟩ <;> first | omega | ((repeat (first | rw [if_pos (by omega)] | rw [if_neg (by omega)])); omega))), trivial⟩, zRet ht hP hD [6, 7, 0, 1, 2, 3, 4, 5] (by decide) rfl⟩, hS.F ht⟩) hS.2.2 dX8_judge_56
  · have fc_38 : r_35.toInt = 0 := zf_eq c_38 rfl (by decide)
    refine lv_iload_n hx hb dX8_judge_10 rfl (lv_at hl 3 rfl) ?_
    refine lv_if_ge (tgt := 19) hx hb dX8_judge_11 (by decide) (fun c_45 => ?_) (fun c_45 => ?_)
    · have fc_45 : 0 ≤ n.toInt := zf_le c_45 (by decide) rfl
      refine lv_iload_n hx hb dX8_judge_19 rfl (lv_at hl 3 rfl) ?_
      refine lv_aload_n hx hb dX8_judge_20 rfl (lv_at hl 1 rfl) ?_
      refine va_get (D := D) (ci := 8) (v := .ref msi) (C := RX8) (T := TX8) (N := 38) hx hb hts hi_X8_judge_8 hown hK hP 0 rfl rfl 19 (by decide) (hts (.fieldLink RX8 53 "TheLiningsInItModel" "size" "[I") (List.mem_of_getElem? (i := 1) rfl)) (fun _ h9 => h9) rfl dX8_judge_21 ?_
      refine lv_iload_n hx hb dX8_judge_24 rfl (lv_at hl 2 rfl) ?_
      refine va_iald hx hb hK hP 3 0 rfl rfl (zf_in (by omega) (by omega)) dX8_judge_25 ?_
      refine lv_topi (fun x_46 ex_46 => ?_)
      have bx_46 : 0 ≤ x_46.toInt ∧ x_46.toInt ≤ 160 := by rw [ex_46]; exact hp_gsi _
      refine lv_icmp_le (tgt := 34) hx hb dX8_judge_26 (by decide) (fun c_47 => ?_) (fun c_47 => ?_)
      · have fc_47 : n.toInt ≤ x_46.toInt := zf_le c_47 rfl rfl
        refine lv_iload_n hx hb dX8_judge_34 rfl (lv_at hl 3 rfl) ?_
        refine lv_bipush (v := 20) hx hb dX8_judge_35 (by decide) ?_
        refine lv_icmp_le (tgt := 45) hx hb dX8_judge_37 (by decide) (fun c_48 => ?_) (fun c_48 => ?_)
        · have fc_48 : n.toInt ≤ 20 := zf_le c_48 rfl (by decide)
          refine lv_iconst (v := 0) hx hb dX8_judge_45 (by decide) ?_
          refine lv_istore_n (lv' := [(3, .int 0), (0, .ref m0), (1, .int s_), (2, .int n)]) hx hb dX8_judge_46 rfl hl (by decide) rfl (fun ls hl => ?_)
          refine lv_iload_n hx hb dX8_judge_47 rfl (lv_at hl 0 rfl) ?_
          refine lv_if_eq (tgt := 57) hx hb dX8_judge_48 (by decide) (fun c_49 => ?_) (fun c_49 => ?_)
          · refine lv_aload_n hx hb dX8_judge_57 rfl (lv_at hl 1 rfl) ?_
            refine va_get (D := D) (ci := 8) (v := .int nde) (C := RX8) (T := TX8) (N := 38) hx hb hts hi_X8_judge_8 hown hK hP 0 rfl rfl 3 (by decide) (hts (.fieldLink RX8 115 "TheLiningsInItModel" "depth" "I") (List.mem_of_getElem? (i := 2) rfl)) (fun _ h9 => h9) rfl dX8_judge_58 ?_
            refine lv_istore (lv' := [(4, .int nde), (3, .int 0), (0, .ref m0), (1, .int s_), (2, .int n)]) hx hb dX8_judge_61 hl (by decide) rfl (fun ls hl => ?_)
            refine lv_aload_n hx hb dX8_judge_63 rfl (lv_at hl 2 rfl) ?_
            refine va_get (D := D) (ci := 8) (v := .int nse) (C := RX8) (T := TX8) (N := 38) hx hb hts hi_X8_judge_8 hown hK hP 0 rfl rfl 5 (by decide) (hts (.fieldLink RX8 13 "TheLiningsInItModel" "seconds" "I") (List.mem_of_getElem? (i := 3) rfl)) (fun _ h9 => h9) rfl dX8_judge_64 ?_
            refine lv_istore (lv' := [(5, .int nse), (4, .int nde), (3, .int 0), (0, .ref m0), (1, .int s_), (2, .int n)]) hx hb dX8_judge_67 hl (by decide) rfl (fun ls hl => ?_)
            exact hcut69 H locs ls  hP hD hS (lv_sub hl [3, 4, 5, 1, 0] rfl) (by have zw := hsr_35_0; (try rw [← ex_46]); omega)
          · exact absurd c_49 (by decide)
        · have fc_48 : 20 < n.toInt := zf_nle c_48 rfl (by decide)
          refine lv_bipush (v := (-6)) hx hb dX8_judge_40 (by decide) ?_
          refine lv_goto (tgt := 46) hx hb dX8_judge_42 (by decide) ?_
          refine lv_istore_n (lv' := [(3, .int (-6)), (0, .ref m0), (1, .int s_), (2, .int n)]) hx hb dX8_judge_46 rfl hl (by decide) rfl (fun ls hl => ?_)
          refine lv_iload_n hx hb dX8_judge_47 rfl (lv_at hl 0 rfl) ?_
          refine lv_if_eq (tgt := 57) hx hb dX8_judge_48 (by decide) (fun c_50 => ?_) (fun c_50 => ?_)
          · exact absurd c_50 (by decide)
          · refine lv_aload_n hx hb dX8_judge_51 rfl (lv_at hl 1 rfl) ?_
            refine lv_iload_n hx hb dX8_judge_52 rfl (lv_at hl 0 rfl) ?_
            have kcm6 : ((-6) : Int32).toInt = (-6) := by decide
            skip
            refine zw_V (As := [.int (-6)]) (rest := []) (wr := [(mhe, .inl (cI, 8, .inl ghe)), (msi, .inl (cI, 8, .inl gsi)), (mce, .inl (cJ, 1280, .inr (.inl gce))), (mki, .inl (cI, 8, .inl gki)), (mpa, .inl (cI, 8, .inl gpa)), (mta, .inl (cI, 8, .inl gta))]) ⟨hx, hb, hml, hown, hts⟩ (c_F_M_noTen l D cI cJ cZ cP cS po m0 mrf mki mpa mta mla msl mco mhe mso msi msh mce mca mwo mnu mte mwa mke mma mth mtr (npu) (nte) (nat_) (nde) (nto) (nse) (nhu) (nga) (nsd) (nfa) (nba) (npl) (nen) (nnu) (nwr) (nra) (nik) grf ((-6)) hy0 hy1 hy2 hy3 hy4 hy5 hy6 hy7 hy8 hy9 hy10 hy11 hy12 hy13 (by omega) (by omega) H.size) (cwV 1 hts gX8_judge_X8_noTen rfl rfl rfl ⟨rfl, dh_X8_noTen⟩ ⟨Nat.le_of_ble_eq_true rfl, Nat.le_of_ble_eq_true rfl⟩) hK hN (hZ.kept hS) hP hD hS hA [0, 1] [2, 3, 4, 5, 6, 7] rfl rfl (by decide) (by decide) (by decide) (va_recv (q := (RX8, TX8, 38)) hK hP (ci := 8) (q0 := 0) rfl rfl) rfl hl.1 rfl (Nat.le_of_ble_eq_true rfl) dX8_judge_53 ⟨Nat.le_of_ble_eq_true rfl, Nat.le_of_ble_eq_true rfl⟩ (fun r_51 u_52 H locs hr_51 hP hD hS => ?_)
            obtain ⟨q_53, rfl⟩ : ∃ z, z = u_52 := ⟨_, rfl⟩
            obtain ⟨hsr_51_0, hr_51⟩ := hr_51
            have h9R := zRe (ws' := [(mhe, .inl (cI, 8, .inl ghe)), (msi, .inl (cI, 8, .inl gsi)), (mce, .inl (cJ, 1280, .inr (.inl gce))), (mki, .inl (cI, 8, .inl gki)), (mpa, .inl (cI, 8, .inl gpa)), (mta, .inl (cI, 8, .inl gta)), (zMO m0 npu nte nat_ nde nto nse nhu nga nsd nfa mrf mki mpa mta mla msl mco mhe mso msi msh mce mca mwo mnu mte nba npl nen nnu nwr mwa mke mma mth mtr nra nik), (mrf, .inl (cI, 8, .inl q_53))]) hP hD rfl
            clear hP hD
            obtain ⟨hP, hD⟩ := h9R
            obtain ⟨g_54, g_55⟩ := hr_51
            exact W.iret (v := r_51) hx hb hr (fun t ht hW => ⟨⟨r_51, q_53, rfl, ⟨(show ((s_.toInt < 0 ∨ 7 < s_.toInt) ∧ (r_51 : Int32).toInt = -11) ∨ ((0 ≤ s_.toInt ∧ s_.toInt ≤ 7) ∧ (((zHc (ghe s_.toNatClampNeg).toInt) = -1 ∧ (r_51 : Int32).toInt = -13) ∨ ((zHc (ghe s_.toNatClampNeg).toInt) ≠ -1 ∧ (zHc (ghe s_.toNatClampNeg).toInt) < 100 ∧ (r_51 : Int32).toInt = -12) ∨ (100 ≤ (zHc (ghe s_.toNatClampNeg).toInt) ∧ ((n.toInt < 0 ∧ (r_51 : Int32).toInt = -14) ∨ (0 ≤ n.toInt ∧ (gsi s_.toNatClampNeg).toInt < n.toInt ∧ (r_51 : Int32).toInt = -15) ∨ (0 ≤ n.toInt ∧ n.toInt ≤ (gsi s_.toNatClampNeg).toInt ∧ 20 < n.toInt ∧ (r_51 : Int32).toInt = -16) ∨ ((0 ≤ n.toInt ∧ n.toInt ≤ (gsi s_.toNatClampNeg).toInt ∧ n.toInt ≤ 20) ∧ (r_51 : Int32).toInt = zJg gki gpa gta npu.toInt nhu.toInt (zRw gce (160 * s_.toInt)) n.toInt.toNat 0 nde.toInt nse.toInt))))) from by (have zw := hsr_35_0; have zn := hsr_51_0; have k4 : ((-4) : Int32).toInt = -4 := (by decide); have k5 : ((-5) : Int32).toInt = -5 := (by decide); have k6 : ((-6) : Int32).toInt = -6 := (by decide); unfold zHc; (try rw [← ex_46]); rcases zw with ⟨z1, z2⟩ | ⟨z1, ⟨z2, z3⟩ | ⟨z2, z3⟩ | ⟨z2, z3⟩⟩ <;> first | omega | ((repeat (first | rw [if_pos (by omega)] | rw [if_neg (by omega)])); omega))), trivial⟩, zRet ht hP hD [6, 7, 0, 1, 2, 3, 4, 5] (by decide) rfl⟩, hS.F ht⟩) hS.2.2 dX8_judge_56
      · have fc_47 : x_46.toInt < n.toInt := zf_nle c_47 rfl rfl
        refine lv_bipush (v := (-5)) hx hb dX8_judge_29 (by decide) ?_
        refine lv_goto (tgt := 46) hx hb dX8_judge_31 (by decide) ?_
        refine lv_istore_n (lv' := [(3, .int (-5)), (0, .ref m0), (1, .int s_), (2, .int n)]) hx hb dX8_judge_46 rfl hl (by decide) rfl (fun ls hl => ?_)
        refine lv_iload_n hx hb dX8_judge_47 rfl (lv_at hl 0 rfl) ?_
        refine lv_if_eq (tgt := 57) hx hb dX8_judge_48 (by decide) (fun c_56 => ?_) (fun c_56 => ?_)
        · exact absurd c_56 (by decide)
        · refine lv_aload_n hx hb dX8_judge_51 rfl (lv_at hl 1 rfl) ?_
          refine lv_iload_n hx hb dX8_judge_52 rfl (lv_at hl 0 rfl) ?_
          have kcm5 : ((-5) : Int32).toInt = (-5) := by decide
          skip
          refine zw_V (As := [.int (-5)]) (rest := []) (wr := [(mhe, .inl (cI, 8, .inl ghe)), (msi, .inl (cI, 8, .inl gsi)), (mce, .inl (cJ, 1280, .inr (.inl gce))), (mki, .inl (cI, 8, .inl gki)), (mpa, .inl (cI, 8, .inl gpa)), (mta, .inl (cI, 8, .inl gta))]) ⟨hx, hb, hml, hown, hts⟩ (c_F_M_noTen l D cI cJ cZ cP cS po m0 mrf mki mpa mta mla msl mco mhe mso msi msh mce mca mwo mnu mte mwa mke mma mth mtr (npu) (nte) (nat_) (nde) (nto) (nse) (nhu) (nga) (nsd) (nfa) (nba) (npl) (nen) (nnu) (nwr) (nra) (nik) grf ((-5)) hy0 hy1 hy2 hy3 hy4 hy5 hy6 hy7 hy8 hy9 hy10 hy11 hy12 hy13 (by omega) (by omega) H.size) (cwV 1 hts gX8_judge_X8_noTen rfl rfl rfl ⟨rfl, dh_X8_noTen⟩ ⟨Nat.le_of_ble_eq_true rfl, Nat.le_of_ble_eq_true rfl⟩) hK hN (hZ.kept hS) hP hD hS hA [0, 1] [2, 3, 4, 5, 6, 7] rfl rfl (by decide) (by decide) (by decide) (va_recv (q := (RX8, TX8, 38)) hK hP (ci := 8) (q0 := 0) rfl rfl) rfl hl.1 rfl (Nat.le_of_ble_eq_true rfl) dX8_judge_53 ⟨Nat.le_of_ble_eq_true rfl, Nat.le_of_ble_eq_true rfl⟩ (fun r_57 u_58 H locs hr_57 hP hD hS => ?_)
          obtain ⟨q_59, rfl⟩ : ∃ z, z = u_58 := ⟨_, rfl⟩
          obtain ⟨hsr_57_0, hr_57⟩ := hr_57
          have h9R := zRe (ws' := [(mhe, .inl (cI, 8, .inl ghe)), (msi, .inl (cI, 8, .inl gsi)), (mce, .inl (cJ, 1280, .inr (.inl gce))), (mki, .inl (cI, 8, .inl gki)), (mpa, .inl (cI, 8, .inl gpa)), (mta, .inl (cI, 8, .inl gta)), (zMO m0 npu nte nat_ nde nto nse nhu nga nsd nfa mrf mki mpa mta mla msl mco mhe mso msi msh mce mca mwo mnu mte nba npl nen nnu nwr mwa mke mma mth mtr nra nik), (mrf, .inl (cI, 8, .inl q_59))]) hP hD rfl
          clear hP hD
          obtain ⟨hP, hD⟩ := h9R
          obtain ⟨g_60, g_61⟩ := hr_57
          exact W.iret (v := r_57) hx hb hr (fun t ht hW => ⟨⟨r_57, q_59, rfl, ⟨(show ((s_.toInt < 0 ∨ 7 < s_.toInt) ∧ (r_57 : Int32).toInt = -11) ∨ ((0 ≤ s_.toInt ∧ s_.toInt ≤ 7) ∧ (((zHc (ghe s_.toNatClampNeg).toInt) = -1 ∧ (r_57 : Int32).toInt = -13) ∨ ((zHc (ghe s_.toNatClampNeg).toInt) ≠ -1 ∧ (zHc (ghe s_.toNatClampNeg).toInt) < 100 ∧ (r_57 : Int32).toInt = -12) ∨ (100 ≤ (zHc (ghe s_.toNatClampNeg).toInt) ∧ ((n.toInt < 0 ∧ (r_57 : Int32).toInt = -14) ∨ (0 ≤ n.toInt ∧ (gsi s_.toNatClampNeg).toInt < n.toInt ∧ (r_57 : Int32).toInt = -15) ∨ (0 ≤ n.toInt ∧ n.toInt ≤ (gsi s_.toNatClampNeg).toInt ∧ 20 < n.toInt ∧ (r_57 : Int32).toInt = -16) ∨ ((0 ≤ n.toInt ∧ n.toInt ≤ (gsi s_.toNatClampNeg).toInt ∧ n.toInt ≤ 20) ∧ (r_57 : Int32).toInt = zJg gki gpa gta npu.toInt nhu.toInt (zRw gce (160 * s_.toInt)) n.toInt.toNat 0 nde.toInt nse.toInt))))) from by (have zw := hsr_35_0; have zn := hsr_57_0; have k4 : ((-4) : Int32).toInt = -4 := (by decide); have k5 : ((-5) : Int32).toInt = -5 := (by decide); have k6 : ((-6) : Int32).toInt = -6 := (by decide); unfold zHc; (try rw [← ex_46]); rcases zw with ⟨z1, z2⟩ | ⟨z1, ⟨z2, z3⟩ | ⟨z2, z3⟩ | ⟨z2, z3⟩⟩ <;> first | omega | ((repeat (first | rw [if_pos (by omega)] | rw [if_neg (by omega)])); omega))), trivial⟩, zRet ht hP hD [6, 7, 0, 1, 2, 3, 4, 5] (by decide) rfl⟩, hS.F ht⟩) hS.2.2 dX8_judge_56
    · have fc_45 : n.toInt < 0 := zf_nle c_45 (by decide) rfl
      refine lv_bipush (v := (-4)) hx hb dX8_judge_14 (by decide) ?_
      refine lv_goto (tgt := 46) hx hb dX8_judge_16 (by decide) ?_
      refine lv_istore_n (lv' := [(3, .int (-4)), (0, .ref m0), (1, .int s_), (2, .int n)]) hx hb dX8_judge_46 rfl hl (by decide) rfl (fun ls hl => ?_)
      refine lv_iload_n hx hb dX8_judge_47 rfl (lv_at hl 0 rfl) ?_
      refine lv_if_eq (tgt := 57) hx hb dX8_judge_48 (by decide) (fun c_62 => ?_) (fun c_62 => ?_)
      · exact absurd c_62 (by decide)
      · refine lv_aload_n hx hb dX8_judge_51 rfl (lv_at hl 1 rfl) ?_
        refine lv_iload_n hx hb dX8_judge_52 rfl (lv_at hl 0 rfl) ?_
        have kcm4 : ((-4) : Int32).toInt = (-4) := by decide
        skip
        refine zw_V (As := [.int (-4)]) (rest := []) (wr := [(mhe, .inl (cI, 8, .inl ghe)), (msi, .inl (cI, 8, .inl gsi)), (mce, .inl (cJ, 1280, .inr (.inl gce))), (mki, .inl (cI, 8, .inl gki)), (mpa, .inl (cI, 8, .inl gpa)), (mta, .inl (cI, 8, .inl gta))]) ⟨hx, hb, hml, hown, hts⟩ (c_F_M_noTen l D cI cJ cZ cP cS po m0 mrf mki mpa mta mla msl mco mhe mso msi msh mce mca mwo mnu mte mwa mke mma mth mtr (npu) (nte) (nat_) (nde) (nto) (nse) (nhu) (nga) (nsd) (nfa) (nba) (npl) (nen) (nnu) (nwr) (nra) (nik) grf ((-4)) hy0 hy1 hy2 hy3 hy4 hy5 hy6 hy7 hy8 hy9 hy10 hy11 hy12 hy13 (by omega) (by omega) H.size) (cwV 1 hts gX8_judge_X8_noTen rfl rfl rfl ⟨rfl, dh_X8_noTen⟩ ⟨Nat.le_of_ble_eq_true rfl, Nat.le_of_ble_eq_true rfl⟩) hK hN (hZ.kept hS) hP hD hS hA [0, 1] [2, 3, 4, 5, 6, 7] rfl rfl (by decide) (by decide) (by decide) (va_recv (q := (RX8, TX8, 38)) hK hP (ci := 8) (q0 := 0) rfl rfl) rfl hl.1 rfl (Nat.le_of_ble_eq_true rfl) dX8_judge_53 ⟨Nat.le_of_ble_eq_true rfl, Nat.le_of_ble_eq_true rfl⟩ (fun r_63 u_64 H locs hr_63 hP hD hS => ?_)
        obtain ⟨q_65, rfl⟩ : ∃ z, z = u_64 := ⟨_, rfl⟩
        obtain ⟨hsr_63_0, hr_63⟩ := hr_63
        have h9R := zRe (ws' := [(mhe, .inl (cI, 8, .inl ghe)), (msi, .inl (cI, 8, .inl gsi)), (mce, .inl (cJ, 1280, .inr (.inl gce))), (mki, .inl (cI, 8, .inl gki)), (mpa, .inl (cI, 8, .inl gpa)), (mta, .inl (cI, 8, .inl gta)), (zMO m0 npu nte nat_ nde nto nse nhu nga nsd nfa mrf mki mpa mta mla msl mco mhe mso msi msh mce mca mwo mnu mte nba npl nen nnu nwr mwa mke mma mth mtr nra nik), (mrf, .inl (cI, 8, .inl q_65))]) hP hD rfl
        clear hP hD
        obtain ⟨hP, hD⟩ := h9R
        obtain ⟨g_66, g_67⟩ := hr_63
        exact W.iret (v := r_63) hx hb hr (fun t ht hW => ⟨⟨r_63, q_65, rfl, ⟨(show ((s_.toInt < 0 ∨ 7 < s_.toInt) ∧ (r_63 : Int32).toInt = -11) ∨ ((0 ≤ s_.toInt ∧ s_.toInt ≤ 7) ∧ (((zHc (ghe s_.toNatClampNeg).toInt) = -1 ∧ (r_63 : Int32).toInt = -13) ∨ ((zHc (ghe s_.toNatClampNeg).toInt) ≠ -1 ∧ (zHc (ghe s_.toNatClampNeg).toInt) < 100 ∧ (r_63 : Int32).toInt = -12) ∨ (100 ≤ (zHc (ghe s_.toNatClampNeg).toInt) ∧ ((n.toInt < 0 ∧ (r_63 : Int32).toInt = -14) ∨ (0 ≤ n.toInt ∧ (gsi s_.toNatClampNeg).toInt < n.toInt ∧ (r_63 : Int32).toInt = -15) ∨ (0 ≤ n.toInt ∧ n.toInt ≤ (gsi s_.toNatClampNeg).toInt ∧ 20 < n.toInt ∧ (r_63 : Int32).toInt = -16) ∨ ((0 ≤ n.toInt ∧ n.toInt ≤ (gsi s_.toNatClampNeg).toInt ∧ n.toInt ≤ 20) ∧ (r_63 : Int32).toInt = zJg gki gpa gta npu.toInt nhu.toInt (zRw gce (160 * s_.toInt)) n.toInt.toNat 0 nde.toInt nse.toInt))))) from by (have zw := hsr_35_0; have zn := hsr_63_0; have k4 : ((-4) : Int32).toInt = -4 := (by decide); have k5 : ((-5) : Int32).toInt = -5 := (by decide); have k6 : ((-6) : Int32).toInt = -6 := (by decide); unfold zHc; rcases zw with ⟨z1, z2⟩ | ⟨z1, ⟨z2, z3⟩ | ⟨z2, z3⟩ | ⟨z2, z3⟩⟩ <;> first | omega | ((repeat (first | rw [if_pos (by omega)] | rw [if_neg (by omega)])); omega))), trivial⟩, zRet ht hP hD [6, 7, 0, 1, 2, 3, 4, 5] (by decide) rfl⟩, hS.F ht⟩) hS.2.2 dX8_judge_56
end
section
/-! worlds in another order; the eight shelves, one of them taken out and put back; the pool among the law's cells -/
theorem zP_perm {D : va_G} {cl : List vw_C} {ws ws' : va_W} {H : Heap} (h : va_P D cl ws H) (p : ws.Perm ws') : va_P D cl ws' H := fun k q hk => by
  have h1 : q ∈ ws := p.symm.subset (List.mem_of_getElem? hk)
  obtain ⟨i, hi⟩ := List.getElem?_of_mem h1
  exact h i q hi
theorem zD_iff {A : Nat → Prop} {ws : va_W} : va_D A ws ↔ (ws.map Prod.fst).Nodup ∧ ∀ q ∈ ws, A q.1 := by
  constructor
  · intro h
    refine ⟨?_, fun q hq => ?_⟩
    · unfold List.Nodup
      rw [List.pairwise_iff_getElem]
      intro i j hi hj hij e
      have li : i < ws.length := by simpa using hi
      have lj : j < ws.length := by simpa using hj
      simp only [List.getElem_map] at e
      have z := h.1 i j ws[i] ws[j] (List.getElem?_eq_getElem li) (List.getElem?_eq_getElem lj) e
      omega
    · obtain ⟨i, hi⟩ := List.getElem?_of_mem hq
      exact h.2 i q hi
  · intro ⟨h1, h2⟩
    have h1' := List.pairwise_iff_getElem.mp h1
    refine ⟨fun i j p q hi hj e => ?_, fun k q hk => h2 q (List.mem_of_getElem? hk)⟩
    obtain ⟨li, ei⟩ := List.getElem?_eq_some_iff.mp hi
    obtain ⟨lj, ej⟩ := List.getElem?_eq_some_iff.mp hj
    rcases Nat.lt_trichotomy i j with h | h | h
    · have z := h1' i j (by simpa using li) (by simpa using lj) h
      simp only [List.getElem_map, ei, ej] at z
      exact absurd e z
    · exact h
    · have z := h1' j i (by simpa using lj) (by simpa using li) h
      simp only [List.getElem_map, ei, ej] at z
      exact absurd e.symm z
theorem zD_perm {A : Nat → Prop} {ws ws' : va_W} (h : va_D A ws) (p : ws.Perm ws') : va_D A ws' := by
  rw [zD_iff] at h ⊢
  exact ⟨(p.map Prod.fst).nodup h.1, fun q hq => h.2 q (p.symm.subset hq)⟩
def zShO (sh el : Nat → Nat) (he si : Nat → Int32) (j : Nat) : Nat × va_E := (sh j, .inr (4, [.ref (el j), .int (he j), .int (si j)]))
def zShE (cJ : ClassId) (el : Nat → Nat) (fe : Nat → Nat → Int64) (j : Nat) : Nat × va_E := (el j, .inl (cJ, 160, .inr (.inl (fe j))))
def zSh8 : List Nat := [0, 1, 2, 3, 4, 5, 6, 7]
def zShW (cJ : ClassId) (sh el : Nat → Nat) (he si : Nat → Int32) (fe : Nat → Nat → Int64) : va_W := zSh8.map (zShO sh el he si) ++ zSh8.map (zShE cJ el fe)
def zShR (cJ : ClassId) (sh el : Nat → Nat) (he si : Nat → Int32) (fe : Nat → Nat → Int64) (j : Nat) : va_W := (zSh8.filter (· != j)).map (zShO sh el he si) ++ (zSh8.filter (· != j)).map (zShE cJ el fe)
theorem zSh_perm {cJ : ClassId} {sh el : Nat → Nat} {he si : Nat → Int32} {fe : Nat → Nat → Int64} {j : Nat} (hj : j < 8) : (zShW cJ sh el he si fe).Perm (zShO sh el he si j :: zShE cJ el fe j :: zShR cJ sh el he si fe j) := by
  have p0 : zSh8.Perm (j :: zSh8.filter (· != j)) := by
    rcases zj8 hj with rfl | rfl | rfl | rfl | rfl | rfl | rfl | rfl <;> decide
  unfold zShW zShR
  refine ((p0.map _).append (p0.map _)).trans ?_
  simp only [List.map_cons, List.cons_append]
  exact List.Perm.cons _ List.perm_middle
theorem zShR_up {cJ : ClassId} {sh el : Nat → Nat} {he si : Nat → Int32} {fe : Nat → Nat → Int64} {j : Nat} {v w : Int32} {g : Nat → Int64} : zShR cJ sh el (va_up he j v) (va_up si j w) (va_up fe j g) j = zShR cJ sh el he si fe j := by
  have hne : ∀ i ∈ zSh8.filter (· != j), i ≠ j := fun i hi => by simpa using (List.mem_filter.mp hi).2
  unfold zShR
  congr 1
  · apply List.map_congr_left
    intro i hi
    simp only [zShO, va_up]
    rw [if_neg (hne i hi), if_neg (hne i hi)]
  · apply List.map_congr_left
    intro i hi
    simp only [zShE, va_up]
    rw [if_neg (hne i hi)]
theorem zSh_pout {cJ : ClassId} {sh el : Nat → Nat} {he si : Nat → Int32} {fe : Nat → Nat → Int64} {j : Nat} (hj : j < 8) (X T : va_W) : (X ++ (zShW cJ sh el he si fe ++ T)).Perm ((X ++ [(sh j, .inr (4, [.ref (el j), .int (he j), .int (si j)])), (el j, .inl (cJ, 160, .inr (.inl (fe j))))]) ++ (zShR cJ sh el he si fe j ++ T)) := by
  rw [List.append_assoc]
  refine List.Perm.append_left X ?_
  exact (zSh_perm hj).append_right T
theorem zSh_pin {cJ : ClassId} {sh el : Nat → Nat} {he si : Nat → Int32} {fe : Nat → Nat → Int64} {j : Nat} (hj : j < 8) (X T : va_W) (v w : Int32) (g : Nat → Int64) : ((X ++ ([(sh j, .inr (4, [.ref (el j), .int v, .int w])), (el j, .inl (cJ, 160, .inr (.inl g)))] : va_W)) ++ (zShR cJ sh el he si fe j ++ T)).Perm (X ++ (zShW cJ sh el (va_up he j v) (va_up si j w) (va_up fe j g) ++ T)) := by
  have h := (zSh_pout (cJ := cJ) (sh := sh) (el := el) (he := va_up he j v) (si := va_up si j w) (fe := va_up fe j g) hj X T).symm
  rw [zShR_up] at h
  simp only [va_up, if_pos] at h ⊢
  exact h
/-- new pulls go to the pool, behind the shelves -/
theorem zNP_perm (X Y S : va_W) (np tl : List (Nat × Int32 × Int32 × Int32)) : ((X ++ (Y ++ np.map zPo)) ++ (S ++ tl.map zPo)).Perm ((X ++ Y) ++ (S ++ (np ++ tl).map zPo)) := by
  rw [List.map_append]
  have h1 : ((X ++ (Y ++ np.map zPo)) ++ (S ++ tl.map zPo)) = (X ++ Y) ++ (np.map zPo ++ (S ++ tl.map zPo)) := by simp
  rw [h1]
  refine List.Perm.append_left _ ?_
  have h2 : S ++ (np.map zPo ++ tl.map zPo) = (S ++ np.map zPo) ++ tl.map zPo := by simp
  rw [h2, ← List.append_assoc]
  exact List.perm_append_comm.append_right _
theorem zJP.mono {po : zPool} {np : List (Nat × Int32 × Int32 × Int32)} {f : Nat → Option Nat} {n : Int32} {K A T : Nat → Int32} (h : zJP po f n K A T) : zJP (np ++ po.1, po.2) f n K A T := fun j hj => by
  obtain ⟨u, h1, h2⟩ := h j hj
  exact ⟨u, h1, List.mem_append_right _ h2⟩
theorem zWP.mono {po : zPool} {np : List (Nat × Int32 × Int32 × Int32)} {f : Nat → Option Nat} (h : zWP po f) : zWP (np ++ po.1, po.2) f := fun j => by
  rcases h j with h1 | ⟨u, k, a, t, h1, h2⟩
  · exact Or.inl h1
  · exact Or.inr ⟨u, k, a, t, h1, List.mem_append_right _ h2⟩
/-- what a callee needs of the pool and the statics, in the law's walk: the pool's cells stand behind the law's -/
theorem zE_law {D : va_G} {po : zPool} {s : State} {H : Heap} {locs : List Loc} {ws S wc : va_W} {isC : List Nat} {A : Nat → Prop} (hz1 : zSt A s s.heap) (hz2 : zStr po A s s.heap) (hP : va_P D vwCl (ws ++ (S ++ po.1.map zPo)) H) (hD : va_D A (ws ++ (S ++ po.1.map zPo))) (hS : va_S A s.heap H locs) (hA : ∀ q, s.heap.size ≤ q → A q) (hC : isC.map (fun i => ws[i]?) = wc.map some) (hpr : ∀ z ∈ po.1, zPr z.2.1 z.2.2.1 z.2.2.2) : zE D po (va_A wc H.size) s H := by
  have hF := zt_free (wc := wc) hD hS hA hC
  refine ⟨(hz1.kept hS).narrow hF, fun z hz => ?_, (hz2.kept hS.2.1).narrow hF⟩
  obtain ⟨k, hk⟩ := List.getElem?_of_mem hz
  have hk2 : (ws ++ (S ++ po.1.map zPo))[ws.length + (S.length + k)]? = some (zPo z) := by
    rw [List.getElem?_append_right (by omega), show ws.length + (S.length + k) - ws.length = S.length + k from by omega, List.getElem?_append_right (by omega), show S.length + k - S.length = k from by omega, List.getElem?_map, hk]
    rfl
  have hPz : va_P D vwCl [zPo z] H := fun i q hi => by
    match i, hi with
    | 0, hi =>
      obtain rfl : zPo z = q := by simpa using hi
      exact hP _ _ hk2
    | i + 1, hi => simp at hi
  refine ⟨hPz, fun ha => ?_, hpr z hz⟩
  rcases ha with ⟨i, e, hi⟩ | ha
  · obtain ⟨i2, h1, h2⟩ := va_in_of isC hC hi
    have hl : i2 < ws.length := (List.getElem?_eq_some_iff.mp h2).1
    have h3 : (ws ++ (S ++ po.1.map zPo))[i2]? = some (z.1, e) := by rw [List.getElem?_append_left hl]; exact h2
    have h4 := hD.1 _ _ _ _ h3 hk2 rfl
    omega
  · have h5 := (hP _ _ hk2).lt
    exact absurd h5 (Nat.not_lt.mpr ha)
def zShR2 (cJ : ClassId) (sh el : Nat → Nat) (he si : Nat → Int32) (fe : Nat → Nat → Int64) (j k : Nat) : va_W := ((zSh8.filter (· != j)).filter (· != k)).map (zShO sh el he si) ++ ((zSh8.filter (· != j)).filter (· != k)).map (zShE cJ el fe)
theorem zSh_perm2 {cJ : ClassId} {sh el : Nat → Nat} {he si : Nat → Int32} {fe : Nat → Nat → Int64} {j k : Nat} (hj : j < 8) (hk : k < 8) (hjk : k ≠ j) : (zShR cJ sh el he si fe j).Perm (zShO sh el he si k :: zShE cJ el fe k :: zShR2 cJ sh el he si fe j k) := by
  have p0 : (zSh8.filter (· != j)).Perm (k :: (zSh8.filter (· != j)).filter (· != k)) := by
    rcases zj8 hj with rfl | rfl | rfl | rfl | rfl | rfl | rfl | rfl <;> rcases zj8 hk with rfl | rfl | rfl | rfl | rfl | rfl | rfl | rfl <;> first | decide | exact absurd rfl hjk
  unfold zShR zShR2
  refine ((p0.map _).append (p0.map _)).trans ?_
  simp only [List.map_cons, List.cons_append]
  exact List.Perm.cons _ List.perm_middle
theorem zSh_pout2 {cJ : ClassId} {sh el : Nat → Nat} {he si : Nat → Int32} {fe : Nat → Nat → Int64} {j k : Nat} (hj : j < 8) (hk : k < 8) (hjk : k ≠ j) (X T : va_W) : (X ++ (zShW cJ sh el he si fe ++ T)).Perm ((X ++ [(sh j, .inr (4, [.ref (el j), .int (he j), .int (si j)])), (el j, .inl (cJ, 160, .inr (.inl (fe j)))), (sh k, .inr (4, [.ref (el k), .int (he k), .int (si k)])), (el k, .inl (cJ, 160, .inr (.inl (fe k))))]) ++ (zShR2 cJ sh el he si fe j k ++ T)) := by
  rw [List.append_assoc]
  refine List.Perm.append_left X ?_
  refine ((zSh_perm hj).append_right T).trans ?_
  simp only [List.cons_append, List.nil_append]
  refine List.Perm.cons _ (List.Perm.cons _ ?_)
  exact (zSh_perm2 hj hk hjk).append_right T
theorem zShR2_up {cJ : ClassId} {sh el : Nat → Nat} {he si : Nat → Int32} {fe : Nat → Nat → Int64} {j k : Nat} {g : Nat → Int64} : zShR2 cJ sh el he si (va_up fe k g) j k = zShR2 cJ sh el he si fe j k := by
  have hne : ∀ i ∈ (zSh8.filter (· != j)).filter (· != k), i ≠ k := fun i hi => by simpa using (List.mem_filter.mp hi).2
  unfold zShR2
  congr 1
  apply List.map_congr_left
  intro i hi
  simp only [zShE, va_up]
  rw [if_neg (hne i hi)]
theorem zSh_pin2 {cJ : ClassId} {sh el : Nat → Nat} {he si : Nat → Int32} {fe : Nat → Nat → Int64} {j k : Nat} (hj : j < 8) (hk : k < 8) (hjk : k ≠ j) (X T : va_W) (g : Nat → Int64) : ((X ++ ([(sh j, .inr (4, [.ref (el j), .int (he j), .int (si j)])), (el j, .inl (cJ, 160, .inr (.inl (fe j)))), (sh k, .inr (4, [.ref (el k), .int (he k), .int (si k)])), (el k, .inl (cJ, 160, .inr (.inl g)))] : va_W)) ++ (zShR2 cJ sh el he si fe j k ++ T)).Perm (X ++ (zShW cJ sh el he si (va_up fe k g) ++ T)) := by
  have h := (zSh_pout2 (cJ := cJ) (sh := sh) (el := el) (he := he) (si := si) (fe := va_up fe k g) hj hk hjk X T).symm
  rw [zShR2_up] at h
  have e1 : va_up fe k g j = fe j := by simp only [va_up]; rw [if_neg (fun e => hjk e.symm)]
  have e2 : va_up fe k g k = g := by simp [va_up]
  rw [e1, e2] at h
  exact h
def zH8 {α : Type} (a0 a1 a2 a3 a4 a5 a6 a7 : α) : Nat → α := fun j => if j = 0 then a0 else if j = 1 then a1 else if j = 2 then a2 else if j = 3 then a3 else if j = 4 then a4 else if j = 5 then a5 else if j = 6 then a6 else a7
theorem zRg8 {a0 a1 a2 a3 a4 a5 a6 a7 : Int32} {lo hi : Int} (h0 : lo ≤ a0.toInt ∧ a0.toInt ≤ hi) (h1 : lo ≤ a1.toInt ∧ a1.toInt ≤ hi) (h2 : lo ≤ a2.toInt ∧ a2.toInt ≤ hi) (h3 : lo ≤ a3.toInt ∧ a3.toInt ≤ hi) (h4 : lo ≤ a4.toInt ∧ a4.toInt ≤ hi) (h5 : lo ≤ a5.toInt ∧ a5.toInt ≤ hi) (h6 : lo ≤ a6.toInt ∧ a6.toInt ≤ hi) (h7 : lo ≤ a7.toInt ∧ a7.toInt ≤ hi) : zRg (zH8 a0 a1 a2 a3 a4 a5 a6 a7) lo hi := by
  intro j
  unfold zH8
  repeat' split
  all_goals assumption
theorem zRg_va {f : Nat → Int32} {lo hi : Int} {k : Nat} {v : Int32} (h : zRg f lo hi) (h1 : lo ≤ v.toInt ∧ v.toInt ≤ hi) : zRg (va_up f k v) lo hi := by
  intro j; simp only [va_up]; split
  · exact h1
  · exact h j
end
section
/-! the script's places -/
theorem zLadd {i x k : Int32} {n L : Nat} {kk : Int} (ex : x = i + k) (hk : k.toInt = kk) (h0 : 0 ≤ kk) (h5 : kk ≤ 5) (hi6 : i.toInt = 6 * (n : Int)) (hn6 : 6 * (n : Int) + 6 ≤ (L : Int)) (hL : L ≤ 3072) : x.toInt = i.toInt + kk := by
  rw [ex]; exact zf_add rfl hk (by omega) (by omega)
theorem zLin {i x : Int32} {n L : Nat} {kk : Int} (qx : x.toInt = i.toInt + kk) (h0 : 0 ≤ kk) (h5 : kk ≤ 5) (hi6 : i.toInt = 6 * (n : Int)) (hn6 : 6 * (n : Int) + 6 ≤ (L : Int)) : vp_in x L := zf_in (by omega) (by omega)
/-! the two worlds' shelves, side by side -/
def zRel (he si : Nat → Int32) (fe : Nat → Nat → Int64) (gh go gs gd : Nat → Int32) (gc : Nat → Int64) : Prop := ∀ j : Nat, j < 8 → ((gh j).toInt = 0 → (he j).toInt = -1) ∧ ((gh j).toInt = 1 → (he j).toInt = 100 + (go j).toInt ∧ (si j).toInt = (gs j).toInt ∧ ∀ k : Nat, k < 160 → fe j k = gc (160 * j + k)) ∧ ((gh j).toInt = 2 → (he j).toInt = (gd j).toInt)
theorem zUpS {α : Type} {f : Nat → α} {j : Nat} : va_up f j (f j) = f := by
  funext i
  simp only [va_up]
  split
  · rename_i h; rw [h]
  · rfl
theorem zUp1 {α : Type} {f : Nat → α} {j : Nat} {v : α} : va_up f j v j = v := by simp [va_up]
theorem zUp2 {α : Type} {f : Nat → α} {i j : Nat} {v : α} (h : i ≠ j) : va_up f j v i = f i := by simp [va_up, h]
theorem zUd1 {f : Nat → Int32} {j : Nat} {v : Int32} : upd f j v j = v := by simp [upd]
theorem zUd2 {f : Nat → Int32} {i j : Nat} {v : Int32} (h : i ≠ j) : upd f j v i = f i := by simp [upd, h]
theorem zRow_1 {s o n : Int} (h : zRow s o n = 1) : (0 ≤ s ∧ s ≤ 7) ∧ (0 ≤ o ∧ o ≤ 3) ∧ 0 ≤ n ∧ n ≤ 160 := by
  unfold zRow at h
  repeat' split at h
  all_goals omega
theorem zSetR_1 {s he si i : Int} (h : zSetR s he si i = 1) : (0 ≤ s ∧ s ≤ 7) ∧ 100 ≤ he ∧ 0 ≤ i ∧ i < si := by
  unfold zSetR at h
  repeat' split at h
  all_goals omega
theorem zCopR_1 {s q hs hq ss sq i j n : Int} (h : zCopR s q hs hq ss sq i j n = 1) (h1 : -1 ≤ hs) (h2 : -1 ≤ hq) : (0 ≤ s ∧ s ≤ 7) ∧ (0 ≤ q ∧ q ≤ 7) ∧ 100 ≤ hs ∧ hs = hq ∧ 0 ≤ n ∧ 0 ≤ i ∧ 0 ≤ j ∧ i ≤ ss - n ∧ j ≤ sq - n := by
  unfold zCopR at h
  repeat' split at h
  all_goals omega
theorem zRel_row {he si gh go gs gd gh2 go2 gs2 : Nat → Int32} {fe : Nat → Nat → Int64} {gc gc2 g : Nat → Int64} {j : Nat} {s o n r r2 v u : Int32} (h : zRel he si fe gh go gs gd gc) (hq : 0 ≤ s.toInt → s.toInt ≤ 7 → j = s.toNatClampNeg) (x0 : r.toInt = zRow s.toInt o.toInt n.toInt) (x1 : r.toInt = 1 → v.toInt = 100 + o.toInt ∧ u.toInt = n.toInt ∧ ∀ k : Nat, k < 160 → g k = 0) (x2 : r.toInt ≠ 1 → v = he j ∧ u = si j ∧ g = fe j) (y0 : r2.toInt = zRow s.toInt o.toInt n.toInt) (y1 : r2.toInt = 1 → gh2 = upd gh s.toNatClampNeg 1 ∧ go2 = upd go s.toNatClampNeg o ∧ gs2 = upd gs s.toNatClampNeg n ∧ ∀ m : Nat, gc2 m = (if 160 * s.toNatClampNeg ≤ m ∧ m < 160 * s.toNatClampNeg + 160 then 0 else gc m)) (y2 : r2.toInt ≠ 1 → gh2 = gh ∧ go2 = go ∧ gs2 = gs ∧ gc2 = gc) : zRel (va_up he j v) (va_up si j u) (va_up fe j g) gh2 go2 gs2 gd gc2 := by
  by_cases hr : r.toInt = 1
  · obtain ⟨a1, a2, a3⟩ := x1 hr
    obtain ⟨rfl, rfl, rfl, b4⟩ := y1 (by omega)
    have z := zRow_1 (x0.symm.trans hr)
    obtain rfl := hq z.1.1 z.1.2
    intro i hi
    by_cases e : i = s.toNatClampNeg
    · rw [e, zUp1, zUp1, zUp1, zUd1, zUd1, zUd1]
      refine ⟨fun q => absurd q (by decide), fun _ => ⟨a1, a2, fun k hk => ?_⟩, fun q => absurd q (by decide)⟩
      rw [a3 k hk, b4, if_pos (by omega)]
    · rw [zUp2 e, zUp2 e, zUp2 e, zUd2 e, zUd2 e, zUd2 e]
      obtain ⟨c1, c2, c3⟩ := h i hi
      refine ⟨c1, fun q => ⟨(c2 q).1, (c2 q).2.1, fun k hk => ?_⟩, c3⟩
      rw [(c2 q).2.2 k hk, b4, if_neg (by omega)]
  · obtain ⟨rfl, rfl, rfl⟩ := x2 hr
    obtain ⟨rfl, rfl, rfl, rfl⟩ := y2 (by omega)
    rw [zUpS, zUpS, zUpS]
    exact h
theorem zRel_hc {he si gh go gs gd : Nat → Int32} {fe : Nat → Nat → Int64} {gc : Nat → Int64} (h : zRel he si fe gh go gs gd gc) (hd : zHS gh gd) (hg : zRg gh 0 2) {j : Nat} (hj : j < 8) : ((gh j).toInt = 0 ∧ (he j).toInt = -1 ∧ zHc (gh j).toInt = -1) ∨ ((gh j).toInt = 1 ∧ (he j).toInt = 100 + (go j).toInt ∧ zHc (gh j).toInt = 100 ∧ (si j).toInt = (gs j).toInt) ∨ ((gh j).toInt = 2 ∧ (0 ≤ (he j).toInt ∧ (he j).toInt ≤ 7) ∧ zHc (gh j).toInt = 0 ∧ (he j).toInt = (gd j).toInt) := by
  obtain ⟨a, b, c⟩ := h j hj
  have d := hg j
  unfold zHc
  rcases (show (gh j).toInt = 0 ∨ (gh j).toInt = 1 ∨ (gh j).toInt = 2 by omega) with e | e | e
  · exact Or.inl ⟨e, a e, by rw [if_neg (by omega), if_pos e]⟩
  · exact Or.inr (Or.inl ⟨e, (b e).1, by rw [if_pos e], (b e).2.1⟩)
  · have f := hd j e
    have g := c e
    exact Or.inr (Or.inr ⟨e, by omega, by rw [if_neg (by omega), if_neg (by omega)], g⟩)
/-- set answers alike -/
theorem zRel_setR {he si gh go gs gd : Nat → Int32} {fe : Nat → Nat → Int64} {gc : Nat → Int64} {j : Nat} {s i : Int32} (h : zRel he si fe gh go gs gd gc) (hd : zHS gh gd) (hg : zRg gh 0 2) (ho : zRg go 0 3) (hq : 0 ≤ s.toInt → s.toInt ≤ 7 → j = s.toNatClampNeg) (hj : j < 8) : zSetR s.toInt (he j).toInt (si j).toInt i.toInt = zSetR s.toInt (zHc (gh s.toNatClampNeg).toInt) (gs s.toNatClampNeg).toInt i.toInt := by
  by_cases hs : 0 ≤ s.toInt ∧ s.toInt ≤ 7
  · obtain rfl := hq hs.1 hs.2
    have o := ho s.toNatClampNeg
    unfold zSetR
    rcases zRel_hc h hd hg hj with ⟨a, b, c⟩ | ⟨a, b, c, d⟩ | ⟨a, b, c, d⟩
    · rw [c, b]
      repeat' split
      all_goals omega
    · rw [c, b, d]
      repeat' split
      all_goals omega
    · rw [c]
      repeat' split
      all_goals omega
  · unfold zSetR
    repeat' split
    all_goals omega
theorem zRel_set {he si gh go gs gd : Nat → Int32} {fe : Nat → Nat → Int64} {gc gc2 g : Nat → Int64} {j : Nat} {s i r r2 : Int32} {v : Int64} (h : zRel he si fe gh go gs gd gc) (hd : zHS gh gd) (hg : zRg gh 0 2) (ho : zRg go 0 3) (hsi : zRg si 0 160) (hj : j < 8) (hq : 0 ≤ s.toInt → s.toInt ≤ 7 → j = s.toNatClampNeg) (x0 : r.toInt = zSetR s.toInt (he j).toInt (si j).toInt i.toInt) (x1 : r.toInt = 1 → g = vp_updL (fe j) i.toNatClampNeg (zNar ((he j).toInt - 100) v)) (x2 : r.toInt ≠ 1 → g = fe j) (y0 : r2.toInt = zSetR s.toInt (zHc (gh s.toNatClampNeg).toInt) (gs s.toNatClampNeg).toInt i.toInt) (y1 : r2.toInt = 1 → gc2 = vp_updL gc (160 * s.toInt + i.toInt).toNat (zNar (go s.toNatClampNeg).toInt v)) (y2 : r2.toInt ≠ 1 → gc2 = gc) : r.toInt = r2.toInt ∧ zRel he si (va_up fe j g) gh go gs gd gc2 := by
  have hrr : r.toInt = r2.toInt := by rw [x0, y0]; exact zRel_setR h hd hg ho hq hj
  refine ⟨hrr, ?_⟩
  by_cases hr : r.toInt = 1
  · obtain rfl := x1 hr
    obtain rfl := y1 (by omega)
    obtain ⟨z1, z2, z3, z4⟩ := zSetR_1 (x0.symm.trans hr)
    obtain rfl := hq z1.1 z1.2
    have e1 : s.toNatClampNeg = s.toInt.toNat := rfl
    have e2 : i.toNatClampNeg = i.toInt.toNat := rfl
    have k1 := hsi s.toNatClampNeg
    intro m hm
    by_cases e : m = s.toNatClampNeg
    · obtain ⟨c1, c2, c3⟩ := h m hm
      subst e
      rw [zUp1]
      refine ⟨c1, fun q => ⟨(c2 q).1, (c2 q).2.1, fun k hk => ?_⟩, c3⟩
      have c4 := (c2 q).1
      rw [show (he s.toNatClampNeg).toInt - 100 = (go s.toNatClampNeg).toInt from by omega]
      simp only [vp_updL]
      by_cases e9 : k = i.toNatClampNeg
      · rw [if_pos e9, if_pos (by omega)]
      · rw [if_neg e9, if_neg (by omega)]
        exact (c2 q).2.2 k hk
    · obtain ⟨c1, c2, c3⟩ := h m hm
      rw [zUp2 e]
      refine ⟨c1, fun q => ⟨(c2 q).1, (c2 q).2.1, fun k hk => ?_⟩, c3⟩
      simp only [vp_updL]
      rw [if_neg (by omega)]
      exact (c2 q).2.2 k hk
  · obtain rfl := x2 hr
    obtain rfl := y2 (by omega)
    rw [zUpS]
    exact h
theorem zRel_show {he si gh go gs gd gh2 gd2 : Nat → Int32} {fe : Nat → Nat → Int64} {gc : Nat → Int64} {j : Nat} {s p r r2 v : Int32} {cn nu : Int} (h : zRel he si fe gh go gs gd gc) (hj : j < 8) (hq : 0 ≤ s.toInt → s.toInt ≤ 7 → j = s.toNatClampNeg) (hc : cn = nu)
    (x : (((s.toInt < 0 ∨ 7 < s.toInt) ∨ (p.toInt ≠ -1 ∧ (p.toInt < 0 ∨ cn ≤ p.toInt))) ∧ r.toInt = -1 ∧ v.toInt = (he j).toInt) ∨ ((0 ≤ s.toInt ∧ s.toInt ≤ 7) ∧ p.toInt = -1 ∧ r.toInt = 0 ∧ v.toInt = -1) ∨ ((0 ≤ s.toInt ∧ s.toInt ≤ 7) ∧ (0 ≤ p.toInt ∧ p.toInt < cn) ∧ r.toInt = 1 ∧ v.toInt = p.toInt))
    (y : (((s.toInt < 0 ∨ 7 < s.toInt) ∨ (p.toInt ≠ -1 ∧ (p.toInt < 0 ∨ nu ≤ p.toInt))) ∧ r2.toInt = -1 ∧ gh2 = gh ∧ gd2 = gd) ∨ ((0 ≤ s.toInt ∧ s.toInt ≤ 7) ∧ p.toInt = -1 ∧ r2.toInt = 0 ∧ gh2 = upd gh s.toNatClampNeg 0 ∧ gd2 = upd gd s.toNatClampNeg p) ∨ ((0 ≤ s.toInt ∧ s.toInt ≤ 7) ∧ (0 ≤ p.toInt ∧ p.toInt < nu) ∧ r2.toInt = 1 ∧ gh2 = upd gh s.toNatClampNeg 2 ∧ gd2 = upd gd s.toNatClampNeg p)) : r.toInt = r2.toInt ∧ zRel (va_up he j v) si fe gh2 go gs gd2 gc := by
  subst hc
  rcases x with ⟨a1, a2, a3⟩ | ⟨a1, a2, a3, a4⟩ | ⟨a1, a2, a3, a4⟩
  · rcases y with ⟨b1, b2, rfl, rfl⟩ | ⟨b1, b2, -⟩ | ⟨b1, b2, -⟩
    · obtain rfl : v = he j := Int32.toInt_inj.mp a3
      rw [zUpS]
      exact ⟨by omega, h⟩
    · omega
    · omega
  · rcases y with ⟨b1, -⟩ | ⟨b1, b2, b3, rfl, rfl⟩ | ⟨b1, b2, -⟩
    · omega
    · obtain rfl := hq a1.1 a1.2
      refine ⟨by omega, fun i hi => ?_⟩
      by_cases e : i = s.toNatClampNeg
      · rw [e, zUp1, zUd1, zUd1]
        exact ⟨fun _ => a4, fun q => absurd q (by decide), fun q => absurd q (by decide)⟩
      · rw [zUp2 e, zUd2 e, zUd2 e]
        exact h i hi
    · omega
  · rcases y with ⟨b1, -⟩ | ⟨b1, b2, -⟩ | ⟨b1, b2, b3, rfl, rfl⟩
    · omega
    · omega
    · obtain rfl := hq a1.1 a1.2
      refine ⟨by omega, fun i hi => ?_⟩
      by_cases e : i = s.toNatClampNeg
      · rw [e, zUp1, zUd1, zUd1]
        exact ⟨fun q => absurd q (by decide), fun q => absurd q (by decide), fun _ => a4⟩
      · rw [zUp2 e, zUd2 e, zUd2 e]
        exact h i hi
/-- copy: answers alike, and the cells -/
theorem zRel_copR {he si gh go gs gd : Nat → Int32} {fe : Nat → Nat → Int64} {gc : Nat → Int64} {j l : Nat} {s q : Int32} {i k n : Int} (h : zRel he si fe gh go gs gd gc) (hd : zHS gh gd) (hg : zRg gh 0 2) (ho : zRg go 0 3) (hq : 0 ≤ s.toInt → s.toInt ≤ 7 → j = s.toNatClampNeg) (hj : j < 8) (hq2 : 0 ≤ q.toInt → q.toInt ≤ 7 → l = q.toNatClampNeg) (hl : l < 8) : zCopR s.toInt q.toInt (he j).toInt (he l).toInt (si j).toInt (si l).toInt i k n = zCopR s.toInt q.toInt (zH2 (gh s.toNatClampNeg).toInt (go s.toNatClampNeg).toInt) (zH2 (gh q.toNatClampNeg).toInt (go q.toNatClampNeg).toInt) (gs s.toNatClampNeg).toInt (gs q.toNatClampNeg).toInt i k n := by
  by_cases hs : (0 ≤ s.toInt ∧ s.toInt ≤ 7) ∧ 0 ≤ q.toInt ∧ q.toInt ≤ 7
  · obtain rfl := hq hs.1.1 hs.1.2
    obtain rfl := hq2 hs.2.1 hs.2.2
    have o1 := ho s.toNatClampNeg
    have o2 := ho q.toNatClampNeg
    have e1 : ∀ j : Nat, j < 8 → ((gh j).toInt = 1 ∧ zH2 (gh j).toInt (go j).toInt = (he j).toInt ∧ 100 ≤ (he j).toInt ∧ (si j).toInt = (gs j).toInt) ∨ ((he j).toInt = -1 ∧ zH2 (gh j).toInt (go j).toInt = -1) ∨ ((0 ≤ (he j).toInt ∧ (he j).toInt < 100) ∧ zH2 (gh j).toInt (go j).toInt = 0) := fun j hj => by
      have o := ho j
      unfold zH2
      rcases zRel_hc h hd hg hj with ⟨a, b, -⟩ | ⟨a, b, -, d⟩ | ⟨a, b, -, -⟩
      · exact Or.inr (Or.inl ⟨b, by rw [if_neg (by omega), if_pos a]⟩)
      · exact Or.inl ⟨a, by rw [if_pos a]; omega, by omega, d⟩
      · exact Or.inr (Or.inr ⟨by omega, by rw [if_neg (by omega), if_neg (by omega)]⟩)
    have f1 := e1 _ hj
    have f2 := e1 _ hl
    clear hq hq2 e1 h hd hg ho o1 o2
    unfold zCopR
    rcases f1 with ⟨-, a, a2, a3⟩ | ⟨a, a2⟩ | ⟨a, a2⟩ <;> rcases f2 with ⟨-, b, b2, b3⟩ | ⟨b, b2⟩ | ⟨b, b2⟩
    · rw [a, b, a3, b3]
    all_goals (repeat (first | rw [if_pos (by omega)] | rw [if_neg (by omega)]))
  · unfold zCopR
    by_cases c1 : s.toInt < 0
    · rw [if_pos c1, if_pos c1]
    by_cases c2 : 7 < s.toInt
    · rw [if_neg c1, if_pos c2, if_neg c1, if_pos c2]
    by_cases c3 : q.toInt < 0
    · rw [if_neg c1, if_neg c2, if_pos c3, if_neg c1, if_neg c2, if_pos c3]
    by_cases c4 : 7 < q.toInt
    · rw [if_neg c1, if_neg c2, if_neg c3, if_pos c4, if_neg c1, if_neg c2, if_neg c3, if_pos c4]
    exfalso; omega
theorem zRel_copy {he si gh go gs gd : Nat → Int32} {fe : Nat → Nat → Int64} {gc gc2 g : Nat → Int64} {j l : Nat} {s q i k n r r2 : Int32} (h : zRel he si fe gh go gs gd gc) (hd : zHS gh gd) (hg : zRg gh 0 2) (ho : zRg go 0 3) (hhe : zRg he (-1) 103) (hsi : zRg si 0 160) (hq : 0 ≤ s.toInt → s.toInt ≤ 7 → j = s.toNatClampNeg) (hj : j < 8) (hq2 : 0 ≤ q.toInt → q.toInt ≤ 7 → l = q.toNatClampNeg) (hl : l < 8)
    (x0 : r.toInt = zCopR s.toInt q.toInt (he j).toInt (he l).toInt (si j).toInt (si l).toInt i.toInt k.toInt n.toInt) (x1 : r.toInt = 1 → g = va_cpy (fe j) (fe l) i.toNatClampNeg k.toNatClampNeg n.toNatClampNeg) (x2 : r.toInt ≠ 1 → g = fe l)
    (y0 : r2.toInt = zCopR s.toInt q.toInt (zH2 (gh s.toNatClampNeg).toInt (go s.toNatClampNeg).toInt) (zH2 (gh q.toNatClampNeg).toInt (go q.toNatClampNeg).toInt) (gs s.toNatClampNeg).toInt (gs q.toNatClampNeg).toInt i.toInt k.toInt n.toInt) (y1 : r2.toInt = 1 → ∀ m : Nat, gc2 m = (if 160 * q.toInt + k.toInt ≤ (m : Int) ∧ (m : Int) < 160 * q.toInt + k.toInt + n.toInt then gc (160 * s.toInt + i.toInt + ((m : Int) - (160 * q.toInt + k.toInt))).toNat else gc m)) (y2 : r2.toInt ≠ 1 → gc2 = gc) : r.toInt = r2.toInt ∧ zRel he si (va_up fe l g) gh go gs gd gc2 := by
  have hrr : r.toInt = r2.toInt := by rw [x0, y0]; exact zRel_copR h hd hg ho hq hj hq2 hl
  refine ⟨hrr, ?_⟩
  by_cases hr : r.toInt = 1
  · obtain rfl := x1 hr
    have y1 := y1 (by omega)
    have t1 := hhe j
    have t2 := hhe l
    obtain ⟨z1, z2, z3, z4, z5, z6, z7, z8, z9⟩ := zCopR_1 (x0.symm.trans hr) t1.1 t2.1
    obtain rfl := hq z1.1 z1.2
    obtain rfl := hq2 z2.1 z2.2
    have e1 : s.toNatClampNeg = s.toInt.toNat := rfl
    have e2 : i.toNatClampNeg = i.toInt.toNat := rfl
    have e3 : q.toNatClampNeg = q.toInt.toNat := rfl
    have e4 : k.toNatClampNeg = k.toInt.toNat := rfl
    have e5 : n.toNatClampNeg = n.toInt.toNat := rfl
    have k1 := hsi s.toNatClampNeg
    have k2 := hsi q.toNatClampNeg
    have o1 := ho s.toNatClampNeg
    have hs1 : (gh s.toNatClampNeg).toInt = 1 := by
      rcases zRel_hc h hd hg hj with ⟨a, b, -⟩ | ⟨a, -⟩ | ⟨a, b, -⟩
      · omega
      · exact a
      · omega
    intro m hm
    obtain ⟨c1, c2, c3⟩ := h m hm
    by_cases e : m = q.toNatClampNeg
    · subst e
      rw [zUp1]
      refine ⟨c1, fun w => ⟨(c2 w).1, (c2 w).2.1, fun t ht => ?_⟩, c3⟩
      rw [y1]
      simp only [va_cpy]
      by_cases e9 : k.toNatClampNeg ≤ t ∧ t < k.toNatClampNeg + n.toNatClampNeg
      · rw [if_pos e9, if_pos (by omega), ((h s.toNatClampNeg hj).2.1 hs1).2.2 _ (by omega)]
        congr 1
        omega
      · rw [if_neg e9, if_neg (by omega)]
        exact (c2 w).2.2 t ht
    · rw [zUp2 e]
      refine ⟨c1, fun w => ⟨(c2 w).1, (c2 w).2.1, fun t ht => ?_⟩, c3⟩
      rw [y1, if_neg (by omega)]
      exact (c2 w).2.2 t ht
  · obtain rfl := x2 hr
    obtain rfl := y2 (by omega)
    rw [zUpS]
    exact h
theorem zRel_rest {he si gh go gs gd gh2 he2 : Nat → Int32} {fe : Nat → Nat → Int64} {gc : Nat → Int64} {p : Int} (h : zRel he si fe gh go gs gd gc) (hg : zRg gh 0 2) (ho : zRg go 0 3) (hd : zHS gh gd) (x : ∀ j : Nat, j < 8 → ((p ≤ (he j).toInt ∧ (he j).toInt < 100) ∧ (he2 j).toInt = -1) ∨ (¬ (p ≤ (he j).toInt ∧ (he j).toInt < 100) ∧ (he2 j).toInt = (he j).toInt)) (h0 : 0 ≤ p) (y : ∀ j : Nat, j < 8 → gh2 j = (if (gh j).toInt = 2 ∧ p ≤ (gd j).toInt then 0 else gh j)) : zRel he2 si fe gh2 go gs gd gc := by
  intro j hj
  obtain ⟨c1, c2, c3⟩ := h j hj
  have o := ho j
  have d := hg j
  rw [y j hj]
  by_cases e : (gh j).toInt = 2 ∧ p ≤ (gd j).toInt
  · rw [if_pos e]
    have f := c3 e.1
    have f2 := hd j e.1
    rcases x j hj with ⟨a, b⟩ | ⟨a, b⟩
    · exact ⟨fun _ => b, fun q => absurd q (by decide), fun q => absurd q (by decide)⟩
    · omega
  · rw [if_neg e]
    rcases x j hj with ⟨a, b⟩ | ⟨a, b⟩
    · refine ⟨fun _ => b, fun q => ?_, fun q => ?_⟩
      · have := (c2 q).1; omega
      · have := c3 q; omega
    · exact ⟨fun q => by rw [b]; exact c1 q, fun q => ⟨by rw [b]; exact (c2 q).1, (c2 q).2⟩, fun q => by rw [b]; exact c3 q⟩
theorem zRel_let {he si gh go gs gd : Nat → Int32} {fe : Nat → Nat → Int64} {gc : Nat → Int64} {j : Nat} {s : Int32} (h : zRel he si fe gh go gs gd gc) (hd : zHS gh gd) (hg : zRg gh 0 2) (ho : zRg go 0 3) (hsi : zRg si 0 160) (hj : j < 8) (hq : 0 ≤ s.toInt → s.toInt ≤ 7 → j = s.toNatClampNeg) : (0 ≤ s.toInt ∧ s.toInt ≤ 7) → (((he j).toInt = -1 ∧ zHc (gh s.toNatClampNeg).toInt = -1) ∨ ((0 ≤ (he j).toInt ∧ (he j).toInt < 100) ∧ 0 ≤ zHc (gh s.toNatClampNeg).toInt ∧ zHc (gh s.toNatClampNeg).toInt < 100) ∨ (100 ≤ (he j).toInt ∧ 100 ≤ zHc (gh s.toNatClampNeg).toInt ∧ (si j).toInt = (gs s.toNatClampNeg).toInt ∧ 0 ≤ (si j).toInt ∧ ∀ t : Int, 0 ≤ t → t < (si j).toInt → (fe j t.toNat).toInt32 = zMF gc (160 * s.toInt) t.toNat)) := by
  intro hs
  obtain rfl := hq hs.1 hs.2
  have e1 : s.toNatClampNeg = s.toInt.toNat := rfl
  have o := ho s.toNatClampNeg
  have k1 := hsi s.toNatClampNeg
  rcases zRel_hc h hd hg hj with ⟨a, b, c⟩ | ⟨a, b, c, d⟩ | ⟨a, b, c, d⟩
  · exact Or.inl ⟨b, c⟩
  · refine Or.inr (Or.inr ⟨by omega, by omega, d, by omega, fun t h1 h2 => ?_⟩)
    rw [((h _ hj).2.1 a).2.2 t.toNat (by omega)]
    unfold zMF zChX
    congr 2
    omega
  · exact Or.inr (Or.inl ⟨by omega, by omega, by omega⟩)
theorem zjq2 (sh : Nat → Nat) (a : Int32) : ∃ j : Nat, j < 8 ∧ (0 ≤ a.toInt → a.toInt ≤ 7 → zS sh a.toNatClampNeg = some (sh j)) ∧ (0 ≤ a.toInt → a.toInt ≤ 7 → j = a.toNatClampNeg) := by
  have e : a.toNatClampNeg = a.toInt.toNat := rfl
  by_cases h : 0 ≤ a.toInt ∧ a.toInt ≤ 7
  · have h1 : a.toNatClampNeg < 8 := by omega
    exact ⟨a.toNatClampNeg, h1, fun _ _ => by simp [zS, h1], fun _ _ => rfl⟩
  · exact ⟨0, by omega, fun h1 h2 => absurd ⟨h1, h2⟩ h, fun h1 h2 => absurd ⟨h1, h2⟩ h⟩
theorem zRel_ext {he si he2 si2 gh go gs gd : Nat → Int32} {fe : Nat → Nat → Int64} {gc : Nat → Int64} (h : zRel he si fe gh go gs gd gc) (h1 : ∀ j : Nat, j < 8 → he2 j = he j) (h2 : ∀ j : Nat, j < 8 → si2 j = si j) : zRel he2 si2 fe gh go gs gd gc := by
  intro j hj
  rw [h1 j hj, h2 j hj]
  exact h j hj
theorem zRel_hoR {he si gh go gs gd : Nat → Int32} {fe : Nat → Nat → Int64} {gc : Nat → Int64} {j : Nat} {s : Int32} (h : zRel he si fe gh go gs gd gc) (hd : zHS gh gd) (hg : zRg gh 0 2) (hj : j < 8) (hq : 0 ≤ s.toInt → s.toInt ≤ 7 → j = s.toNatClampNeg) : (0 ≤ s.toInt ∧ s.toInt ≤ 7) → zHe (gh s.toNatClampNeg).toInt (go s.toNatClampNeg).toInt (gd s.toNatClampNeg).toInt = (he j).toInt := by
  intro hs
  obtain rfl := hq hs.1 hs.2
  unfold zHe
  rcases zRel_hc h hd hg hj with ⟨a, b, -⟩ | ⟨a, b, -⟩ | ⟨a, -, -, b⟩
  · rw [if_pos a]; omega
  · rw [if_neg (by omega), if_pos a]; omega
  · rw [if_neg (by omega), if_neg (by omega)]; omega
theorem zRel_elR {he si gh go gs gd : Nat → Int32} {fe : Nat → Nat → Int64} {gc : Nat → Int64} {j : Nat} {s i : Int32} (h : zRel he si fe gh go gs gd gc) (hd : zHS gh gd) (hg : zRg gh 0 2) (ho : zRg go 0 3) (hsi : zRg si 0 160) (hj : j < 8) (hq : 0 ≤ s.toInt → s.toInt ≤ 7 → j = s.toNatClampNeg) : (if (0 ≤ s.toInt ∧ s.toInt ≤ 7) ∧ 100 ≤ (he j).toInt ∧ 0 ≤ i.toInt ∧ i.toInt < (si j).toInt then fe j i.toNatClampNeg else 0) = (if (0 ≤ s.toInt ∧ s.toInt ≤ 7) ∧ (gh s.toNatClampNeg).toInt = 1 ∧ 0 ≤ i.toInt ∧ i.toInt < (gs s.toNatClampNeg).toInt then gc (160 * s.toInt + i.toInt).toNat else 0) := by
  by_cases hs : 0 ≤ s.toInt ∧ s.toInt ≤ 7
  · obtain rfl := hq hs.1 hs.2
    have o := ho s.toNatClampNeg
    have k1 := hsi s.toNatClampNeg
    have e1 : s.toNatClampNeg = s.toInt.toNat := rfl
    have e2 : i.toNatClampNeg = i.toInt.toNat := rfl
    rcases zRel_hc h hd hg hj with ⟨a, b, -⟩ | ⟨a, b, -, d⟩ | ⟨a, b, -⟩
    · rw [if_neg (by omega), if_neg (by omega)]
    · by_cases hi : 0 ≤ i.toInt ∧ i.toInt < (si s.toNatClampNeg).toInt
      · rw [if_pos ⟨hs, by omega, hi⟩, if_pos ⟨hs, a, by omega⟩, ((h _ hj).2.1 a).2.2 _ (by omega)]
        congr 1
        omega
      · rw [if_neg (by omega), if_neg (by omega)]
    · rw [if_neg (by omega), if_neg (by omega)]
  · rw [if_neg (fun z => hs z.1), if_neg (fun z => hs z.1)]
theorem zAs {N R S P : va_W} : (N ++ R) ++ (S ++ P) = N ++ ((R ++ S) ++ P) := by simp
end
section
/-! the two worlds' teeth, pulls and numbers, side by side -/
theorem zRgo_pre {f : Nat → Int32} {e te pu : Int} {k : Nat} {z : Int × Int × Int} (h : zRgo f e te pu (k + 1) = some z) : ∃ p t u : Int, zRgo f e te pu k = some (p, t, u) ∧ (zItem f e p t u).1 = -1 := by
  rw [zRgo_s] at h
  cases e1 : zRgo f e te pu k with
  | none => rw [e1] at h; cases h
  | some q =>
    obtain ⟨p, t, u⟩ := q
    rw [e1] at h
    dsimp only at h
    by_cases c : (zItem f e p t u).1 = -1 ∧ (zItem f e p t u).2.1 < e ∧ (f (zItem f e p t u).2.1.toNat).toInt = 59
    · exact ⟨p, t, u, rfl, c.1⟩
    · rw [if_neg c] at h; cases h
theorem zRgo_all {f : Nat → Int32} {e te pu : Int} : ∀ (k : Nat) (z : Int × Int × Int), zRgo f e te pu k = some z → ∀ i : Nat, i < k → ∃ p t u : Int, zRgo f e te pu i = some (p, t, u) ∧ (zItem f e p t u).1 = -1 := by
  intro k
  induction k with
  | zero => intro z _ i hi; omega
  | succ k ih =>
    intro z h i hi
    obtain ⟨p, t, u, h1, h2⟩ := zRgo_pre h
    rcases Nat.lt_or_ge i k with h3 | h3
    · exact ih _ h1 i h3
    · obtain rfl : i = k := by omega
      exact ⟨p, t, u, h1, h2⟩
/-- told alike, the items are the same -/
theorem zJac_dd {f g : Nat → Int32} {si s he lf cn sz r lf2 cn2 sz2 si' he' : Int} (h : zJac f si s he lf cn sz r lf2 cn2 sz2) (h1 : (0 ≤ s ∧ s ≤ 7) → ((he = -1 ∧ he' = -1) ∨ ((0 ≤ he ∧ he < 100) ∧ 0 ≤ he' ∧ he' < 100) ∨ (100 ≤ he ∧ 100 ≤ he' ∧ si = si' ∧ 0 ≤ si ∧ ∀ j : Int, 0 ≤ j → j < si → f j.toNat = g j.toNat))) (ht : 4 ≤ sz ∧ sz ≤ 40) (hu : 0 ≤ cn ∧ cn ≤ 8) (hr : 1 ≤ r) : ∀ k : Nat, k < r.toNat → zSm (zDI f si sz cn k) (zDI g si' sz cn k) := by
  intro k hk
  unfold zJac at h
  rcases h with h | h | h | ⟨hs, hh, n, R, T, U, hE, h⟩
  · omega
  · omega
  · omega
  · rcases h1 hs with h2 | h2 | ⟨-, -, rfl, h0, h2⟩
    · omega
    · omega
    · rcases h with h | h
      · omega
      · obtain ⟨p, t, u, e1, e2⟩ := hE
        have ok : ∃ p t u : Int, zRgo f si sz cn k = some (p, t, u) ∧ (zItem f si p t u).1 = -1 := by
          rcases Nat.lt_or_ge k n with h3 | h3
          · exact zRgo_all n _ e1 k h3
          · obtain rfl : k = n := by omega
            refine ⟨p, t, u, e1, ?_⟩
            rcases e2 with ⟨a, b⟩ | ⟨a, -⟩ | ⟨a, -⟩
            · exact absurd (b ▸ h.1 : (zItem f si p t u).1 = -1) a
            · exact a
            · exact a
        obtain ⟨p2, t2, u2, a1, a2⟩ := ok
        rw [zDI_congr h2 h0 ht hu a1 a2]
        exact zSm.rfl
theorem zAll_at {fk fp ft fl fs fc : Nat → Int32} {i0 i1 i2 i3 i4 i5 i6 i7 i8 : Int32} : (∀ j : Nat, j < 8 → zAll fk fp ft fl fs fc i0 i1 i2 i3 i4 i5 i6 i7 i8 (0 + j) = fk j) ∧ (∀ j : Nat, j < 8 → zAll fk fp ft fl fs fc i0 i1 i2 i3 i4 i5 i6 i7 i8 (8 + j) = fp j) ∧ (∀ j : Nat, j < 8 → zAll fk fp ft fl fs fc i0 i1 i2 i3 i4 i5 i6 i7 i8 (16 + j) = ft j) ∧ (∀ j : Nat, j < 40 → zAll fk fp ft fl fs fc i0 i1 i2 i3 i4 i5 i6 i7 i8 (24 + j) = fl j) ∧ (∀ j : Nat, j < 40 → zAll fk fp ft fl fs fc i0 i1 i2 i3 i4 i5 i6 i7 i8 (64 + j) = fs j) ∧ (∀ j : Nat, j < 3 → zAll fk fp ft fl fs fc i0 i1 i2 i3 i4 i5 i6 i7 i8 (104 + j) = fc j) := by
  refine ⟨fun j hj => ?_, fun j hj => ?_, fun j hj => ?_, fun j hj => ?_, fun j hj => ?_, fun j hj => ?_⟩ <;> unfold zAll <;> ((repeat (first | rw [if_pos (by omega)] | rw [if_neg (by omega)])) <;> congr 1; omega)
/-- the teeth of both -/
def zTt (fl fs gl gs : Nat → Int32) (gp ng : Int32) : Prop := (∀ j : Nat, j < 40 → fl j = gl j) ∧ (∀ j : Nat, j < 40 → fs j = gs j) ∧ gp.toInt = ng.toInt
def zTk_ (fl fs ge : Nat → Int32) (gp : Int32) : Prop := (∀ j : Nat, j < 40 → fl j = ge (24 + j)) ∧ (∀ j : Nat, j < 40 → fs j = ge (64 + j)) ∧ gp.toInt = (ge 114).toInt
theorem zTt_teeth {fl fs gl gs fl2 fs2 gl2 gs2 : Nat → Int32} {gp ng n a b a2 b2 : Int32} (h : zTt fl fs gl gs gp ng) (x : ((4 ≤ n.toInt ∧ n.toInt ≤ 40) ∧ (∀ j : Nat, j < 40 → fl2 j = 0) ∧ (∀ j : Nat, j < 40 → fs2 j = 0) ∧ a.toInt = 0) ∨ (¬ (4 ≤ n.toInt ∧ n.toInt ≤ 40) ∧ fl2 = fl ∧ fs2 = fs ∧ a = a2)) (y : ((4 ≤ n.toInt ∧ n.toInt ≤ 40) ∧ (∀ j : Nat, j < 40 → gl2 j = 0) ∧ (∀ j : Nat, j < 40 → gs2 j = 0) ∧ b.toInt = 0) ∨ (¬ (4 ≤ n.toInt ∧ n.toInt ≤ 40) ∧ gl2 = gl ∧ gs2 = gs ∧ b = b2)) : zTt fl2 fs2 gl2 gs2 gp ng := by
  obtain ⟨h1, h2, h3⟩ := h
  rcases x with ⟨a1, a2, a3, -⟩ | ⟨a1, a2, a3, -⟩ <;> rcases y with ⟨b1, b2, b3, -⟩ | ⟨b1, b2, b3, -⟩
  · exact ⟨fun j hj => (a2 j hj).trans (b2 j hj).symm, fun j hj => (a3 j hj).trans (b3 j hj).symm, h3⟩
  · exact absurd a1 b1
  · exact absurd b1 a1
  · rw [a2, a3, b2, b3]; exact ⟨h1, h2, h3⟩
theorem zTt_lack {fl fs gl gs fl2 gl2 : Nat → Int32} {gp ng t b sz nt r q : Int32} (h : zTt fl fs gl gs gp ng) (hs : sz.toInt = nt.toInt) (h4 : sz.toInt ≤ 40) (x : ((0 ≤ t.toInt ∧ t.toInt < sz.toInt) ∧ r.toInt = (fl t.toNatClampNeg).toInt ∧ fl2 = upd fl t.toNatClampNeg b) ∨ (¬ (0 ≤ t.toInt ∧ t.toInt < sz.toInt) ∧ r.toInt = -1 ∧ fl2 = fl)) (y : ((0 ≤ t.toInt ∧ t.toInt < nt.toInt) ∧ q.toInt = (gl t.toNatClampNeg).toInt ∧ gl2 = upd gl t.toNatClampNeg b) ∨ (¬ (0 ≤ t.toInt ∧ t.toInt < nt.toInt) ∧ q.toInt = -1 ∧ gl2 = gl)) : zTt fl2 fs gl2 gs gp ng ∧ r.toInt = q.toInt := by
  obtain ⟨h1, h2, h3⟩ := h
  rw [← hs] at y
  rcases x with ⟨a1, a2, a3⟩ | ⟨a1, a2, a3⟩ <;> rcases y with ⟨b1, b2, b3⟩ | ⟨b1, b2, b3⟩
  · refine ⟨⟨fun j hj => ?_, h2, h3⟩, by rw [a2, b2, h1 _ (by have : t.toNatClampNeg = t.toInt.toNat := rfl; omega)]⟩
    rw [a3, b3]; simp only [upd]; split
    · rfl
    · exact h1 j hj
  · exact absurd a1 b1
  · exact absurd b1 a1
  · rw [a3, b3]; exact ⟨⟨h1, h2, h3⟩, by omega⟩
theorem zTt_slack {fl fs gl gs fs2 gs2 : Nat → Int32} {gp ng t v sz nt r q : Int32} (h : zTt fl fs gl gs gp ng) (hs : sz.toInt = nt.toInt) (h4 : sz.toInt ≤ 40) (x : ((0 ≤ t.toInt ∧ t.toInt < sz.toInt) ∧ (0 ≤ v.toInt ∧ v.toInt ≤ 9) ∧ r.toInt = (fs t.toNatClampNeg).toInt ∧ fs2 = upd fs t.toNatClampNeg v) ∨ (¬ (0 ≤ t.toInt ∧ t.toInt < sz.toInt) ∧ r.toInt = -1 ∧ fs2 = fs) ∨ ((0 ≤ t.toInt ∧ t.toInt < sz.toInt) ∧ ¬ (0 ≤ v.toInt ∧ v.toInt ≤ 9) ∧ r.toInt = -6 ∧ fs2 = fs)) (y : ((0 ≤ t.toInt ∧ t.toInt < nt.toInt) ∧ (0 ≤ v.toInt ∧ v.toInt ≤ 9) ∧ q.toInt = (gs t.toNatClampNeg).toInt ∧ gs2 = upd gs t.toNatClampNeg v) ∨ (¬ (0 ≤ t.toInt ∧ t.toInt < nt.toInt) ∧ q.toInt = -1 ∧ gs2 = gs) ∨ ((0 ≤ t.toInt ∧ t.toInt < nt.toInt) ∧ ¬ (0 ≤ v.toInt ∧ v.toInt ≤ 9) ∧ q.toInt = -6 ∧ gs2 = gs)) : zTt fl fs2 gl gs2 gp ng ∧ r.toInt = q.toInt := by
  obtain ⟨h1, h2, h3⟩ := h
  rw [← hs] at y
  rcases x with ⟨a1, a5, a2, a3⟩ | ⟨a1, a2, a3⟩ | ⟨a1, a5, a2, a3⟩ <;> rcases y with ⟨b1, b5, b2, b3⟩ | ⟨b1, b2, b3⟩ | ⟨b1, b5, b2, b3⟩
  · refine ⟨⟨h1, fun j hj => ?_, h3⟩, by rw [a2, b2, h2 _ (by have : t.toNatClampNeg = t.toInt.toNat := rfl; omega)]⟩
    rw [a3, b3]; simp only [upd]; split
    · rfl
    · exact h2 j hj
  · exact absurd a1 b1
  · exact absurd a5 b5
  · exact absurd b1 a1
  · rw [a3, b3]; exact ⟨⟨h1, h2, h3⟩, by omega⟩
  · exact absurd b1 a1
  · exact absurd b5 a5
  · exact absurd a1 b1
  · rw [a3, b3]; exact ⟨⟨h1, h2, h3⟩, by omega⟩
theorem zTt_stitch {fl fs gl gs fs2 gs2 : Nat → Int32} {gp ng t sz nt r q : Int32} (h : zTt fl fs gl gs gp ng) (hs : sz.toInt = nt.toInt) (h4 : sz.toInt ≤ 40) (x : ((0 ≤ t.toInt ∧ t.toInt < sz.toInt) ∧ r.toInt = zTk fs sz.toInt (t.toInt - 2) 5 ∧ (∀ j : Nat, fs2 j = (if t.toInt - 2 ≤ (j : Int) ∧ (j : Int) ≤ t.toInt + 2 ∧ (j : Int) < sz.toInt then 0 else fs j))) ∨ (¬ (0 ≤ t.toInt ∧ t.toInt < sz.toInt) ∧ r.toInt = -1 ∧ fs2 = fs)) (y : ((0 ≤ t.toInt ∧ t.toInt < nt.toInt) ∧ q.toInt = zTk gs nt.toInt (t.toInt - 2) 5 ∧ (∀ j : Nat, gs2 j = (if t.toInt - 2 ≤ (j : Int) ∧ (j : Int) ≤ t.toInt + 2 ∧ (j : Int) < nt.toInt then 0 else gs j))) ∨ (¬ (0 ≤ t.toInt ∧ t.toInt < nt.toInt) ∧ q.toInt = -1 ∧ gs2 = gs)) : zTt fl fs2 gl gs2 gp ng ∧ r.toInt = q.toInt := by
  obtain ⟨h1, h2, h3⟩ := h
  rw [← hs] at y
  rcases x with ⟨a1, a2, a3⟩ | ⟨a1, a2, a3⟩ <;> rcases y with ⟨b1, b2, b3⟩ | ⟨b1, b2, b3⟩
  · refine ⟨⟨h1, fun j hj => ?_, h3⟩, by rw [a2, b2, zTk_congr h4 h2]⟩
    rw [a3, b3, h2 j hj]
  · exact absurd a1 b1
  · exact absurd b1 a1
  · rw [a3, b3]; exact ⟨⟨h1, h2, h3⟩, by omega⟩
theorem zTt_ask {fl fs gl gs : Nat → Int32} {gp ng gp2 ng2 : Int32} {P Q P2 Q2 : Prop} {w v : Int} {te te2 r r2 q q2 : Int} (h : zTt fl fs gl gs gp ng) (hte : te = te2) (x : (zAsk w v te ∧ r = r2 ∧ P ∧ (gp2.toInt = (if w = 3 then v else gp.toInt)) ∧ P2) ∨ (¬ zAsk w v te ∧ r = -6 ∧ gp2 = gp)) (y : (zAsk w v te2 ∧ q = q2 ∧ Q ∧ (ng2.toInt = (if w = 3 then v else ng.toInt)) ∧ Q2) ∨ (¬ zAsk w v te2 ∧ q = -6 ∧ ng2 = ng)) : zTt fl fs gl gs gp2 ng2 := by
  obtain ⟨h1, h2, h3⟩ := h
  subst hte
  refine ⟨h1, h2, ?_⟩
  rcases x with ⟨a1, -, -, a2, -⟩ | ⟨a1, -, a2⟩ <;> rcases y with ⟨b1, -, -, b2, -⟩ | ⟨b1, -, b2⟩
  · rw [a2, b2, h3]
  · exact absurd a1 b1
  · exact absurd b1 a1
  · rw [a2, b2, h3]
theorem zTt_jac {fl fs gl gs fl2 fs2 gl2 gs2 : Nat → Int32} {gp ng gp2 ng2 r q : Int32} {d e : Nat → zIt4} (h : zTt fl fs gl gs gp ng) (hr : r.toInt = q.toInt) (hd : 1 ≤ r.toInt → ∀ k : Nat, k < r.toInt.toNat → zSm (d k) (e k))
    (x0 : 1 ≤ r.toInt → ∀ j : Nat, j < 40 → fl2 j = zRl d fl r.toInt.toNat j) (x1 : 1 ≤ r.toInt → ∀ j : Nat, j < 40 → fs2 j = zRs d fs r.toInt.toNat j) (x2 : 1 ≤ r.toInt → gp2.toInt = zRn 7 d gp.toInt r.toInt.toNat) (x3 : r.toInt < 1 → fl2 = fl ∧ fs2 = fs ∧ gp2 = gp)
    (y0 : 1 ≤ q.toInt → ∀ j : Nat, j < 40 → gl2 j = zRl e gl q.toInt.toNat j) (y1 : 1 ≤ q.toInt → ∀ j : Nat, j < 40 → gs2 j = zRs e gs q.toInt.toNat j) (y2 : 1 ≤ q.toInt → ng2.toInt = zRn 7 e ng.toInt q.toInt.toNat) (y3 : q.toInt < 1 → (∀ j : Nat, j < 40 → gl2 j = gl j) ∧ (∀ j : Nat, j < 40 → gs2 j = gs j) ∧ ng2 = ng) : zTt fl2 fs2 gl2 gs2 gp2 ng2 := by
  obtain ⟨h1, h2, h3⟩ := h
  rw [← hr] at y0 y1 y2 y3
  by_cases c : 1 ≤ r.toInt
  · have hd := hd c
    refine ⟨fun j hj => ?_, fun j hj => ?_, ?_⟩
    · rw [x0 c j hj, y0 c j hj]; exact zRl_sm hd h1 j hj
    · rw [x1 c j hj, y1 c j hj]; exact zRs_sm hd h2 j hj
    · rw [x2 c, y2 c]; exact zRn_sm hd h3
  · obtain ⟨a1, a2, a3⟩ := x3 (by omega)
    obtain ⟨b1, b2, b3⟩ := y3 (by omega)
    rw [a1, a2, a3, b3]
    exact ⟨fun j hj => (h1 j hj).trans (b1 j hj).symm, fun j hj => (h2 j hj).trans (b2 j hj).symm, h3⟩
theorem zTt_image {fl fs gl gs kfl kfs ge : Nat → Int32} {gp ng kgp : Int32} (h : zTt fl fs gl gs gp ng) (x : kgp = gp) (x1 : ∀ j : Nat, j < 40 → kfl j = fl j) (x2 : ∀ j : Nat, j < 40 → kfs j = fs j) (y1 : ∀ j : Nat, j < 40 → ge (24 + j) = gl j) (y2 : ∀ j : Nat, j < 40 → ge (64 + j) = gs j) (y3 : ge 114 = ng) : zTk_ kfl kfs ge kgp := by
  obtain ⟨h1, h2, h3⟩ := h
  exact ⟨fun j hj => by rw [x1 j hj, y1 j hj, h1 j hj], fun j hj => by rw [x2 j hj, y2 j hj, h2 j hj], by rw [x, y3, h3]⟩
theorem zTt_rest {fl fs gl gs fl2 fs2 gl2 gs2 kfl kfs ge : Nat → Int32} {gp ng gp2 ng2 kgp im nik : Int32} (h : zTt fl fs gl gs gp ng) (hk : nik.toInt = 1 → zTk_ kfl kfs ge kgp) (hi : im.toInt = nik.toInt) (hb : 0 ≤ nik.toInt ∧ nik.toInt ≤ 1) (x : (im.toInt = 0 ∧ fl2 = fl ∧ fs2 = fs ∧ gp2 = gp) ∨ (im.toInt ≠ 0 ∧ (∀ j : Nat, j < 40 → fl2 j = kfl j) ∧ (∀ j : Nat, j < 40 → fs2 j = kfs j) ∧ gp2 = kgp)) (y : (nik.toInt = 0 ∧ gl2 = gl ∧ gs2 = gs ∧ ng2 = ng) ∨ (nik.toInt ≠ 0 ∧ (∀ j : Nat, j < 40 → gl2 j = ge (24 + j)) ∧ (∀ j : Nat, j < 40 → gs2 j = ge (64 + j)) ∧ ng2 = ge 114)) : zTt fl2 fs2 gl2 gs2 gp2 ng2 := by
  rcases x with ⟨a1, a2, a3, a4⟩ | ⟨a1, a2, a3, a4⟩ <;> rcases y with ⟨b1, b2, b3, b4⟩ | ⟨b1, b2, b3, b4⟩
  · rw [a2, a3, a4, b2, b3, b4]; exact h
  · omega
  · omega
  · obtain ⟨k1, k2, k3⟩ := hk (by omega)
    exact ⟨fun j hj => by rw [a2 j hj, b2 j hj, k1 j hj], fun j hj => by rw [a3 j hj, b3 j hj, k2 j hj], by rw [a4, b4, k3]⟩
/-- what strong answers -/
theorem zTt_strong {fl fs gl gs : Nat → Int32} {gp ng sz nt w r q : Int32} (h : zTt fl fs gl gs gp ng) (hs : sz.toInt = nt.toInt) (h4 : 4 ≤ sz.toInt ∧ sz.toInt ≤ 40) (hl : zRg fl 0 1) (hg : zRg gl 0 1)
    (x : (w.toInt = 0 ∧ ((zHd fl sz.toInt ∧ r.toInt = 1) ∨ (¬ zHd fl sz.toInt ∧ r.toInt = 0))) ∨ (w.toInt = 1 ∧ ((zHd fl sz.toInt ∧ r.toInt = zCf fl sz.toInt sz.toInt.toNat) ∨ (¬ zHd fl sz.toInt ∧ r.toInt = 0))) ∨ (w.toInt = 2 ∧ ((zHd fl sz.toInt ∧ r.toInt = zMx3 (zSp (-41) fl sz.toInt.toNat)) ∨ (¬ zHd fl sz.toInt ∧ r.toInt = 0))) ∨ (w.toInt = 3 ∧ r.toInt = zCl fl sz.toInt.toNat) ∨ ((w.toInt < 0 ∨ 3 < w.toInt) ∧ r.toInt = -5))
    (y : (w.toInt = 0 ∧ ((zHd gl nt.toInt ∧ q.toInt = 1) ∨ (¬ zHd gl nt.toInt ∧ q.toInt = 0))) ∨ (w.toInt = 1 ∧ ((zHd gl nt.toInt ∧ q.toInt = zCf gl nt.toInt nt.toInt.toNat) ∨ (¬ zHd gl nt.toInt ∧ q.toInt = 0))) ∨ (w.toInt = 2 ∧ ((zHd gl nt.toInt ∧ q.toInt = zMx3 (zSp (-100) gl nt.toInt.toNat)) ∨ (¬ zHd gl nt.toInt ∧ q.toInt = 0))) ∨ (w.toInt = 3 ∧ q.toInt = zCl gl nt.toInt.toNat) ∨ ((w.toInt < 0 ∨ 3 < w.toInt) ∧ q.toInt = -5)) : r.toInt = q.toInt := by
  obtain ⟨h1, -, -⟩ := h
  rw [← hs] at y
  have hd : zHd gl sz.toInt ↔ zHd fl sz.toInt := ⟨zHd_congr h4.2 (fun j hj => (h1 j hj).symm), zHd_congr h4.2 h1⟩
  rw [hd, ← zCf_congr h4.2 h1 sz.toInt.toNat (by omega), ← zCl_congr h1 sz.toInt.toNat (by omega), ← zSp_congr h1 sz.toInt.toNat (by omega)] at y
  by_cases c : zHd fl sz.toInt
  · have e := zSp_max (v := -41) (w := -100) (l := fl) (k := sz.toInt.toNat) hl c (by omega) (by omega) (by omega) (by omega)
    simp only [c, not_true, true_and, false_and, or_false] at x y
    omega
  · simp only [c, not_false_eq_true, true_and, false_and, false_or] at x y
    omega
theorem zTt_cat {fl fs gl gs : Nat → Int32} {gp ng sz nt i r q : Int32} (h : zTt fl fs gl gs gp ng) (hs : sz.toInt = nt.toInt) (h4 : 4 ≤ sz.toInt ∧ sz.toInt ≤ 40) (x : ∃ z : Int, zCat fl fs gp.toInt sz.toInt i.toInt z ∧ r.toInt = (if z = -1 then -5 else z)) (y : (i.toInt < -1 → q.toInt = -5) ∧ (-1 ≤ i.toInt → ∃ z : Int, zCat gl gs ng.toInt nt.toInt i.toInt z ∧ q.toInt = (if z = -1 then -5 else z))) : r.toInt = q.toInt := by
  obtain ⟨h1, h2, h3⟩ := h
  obtain ⟨z, x1, x2⟩ := x
  by_cases c : i.toInt < -1
  · rw [x2, y.1 c, zCat_low x1 c, if_pos rfl]
  · obtain ⟨z2, y1, y2⟩ := y.2 (by omega)
    rw [← h3, ← hs] at y1
    rw [x2, y2, zCat_one (zCat_congr h1 h2 ⟨by omega, h4.2⟩ x1) y1]
theorem zTt_sti {fl fs gl gs : Nat → Int32} {gp ng sz nt i r q : Int32} (h : zTt fl fs gl gs gp ng) (hs : sz.toInt = nt.toInt) (h4 : 4 ≤ sz.toInt ∧ sz.toInt ≤ 40) (x : ∃ z : Int, zSti fl fs gp.toInt sz.toInt i.toInt z ∧ r.toInt = (if z = -1 then -5 else z)) (y : (i.toInt < -1 → q.toInt = -5) ∧ (-1 ≤ i.toInt → ∃ z : Int, zSti gl gs ng.toInt nt.toInt i.toInt z ∧ q.toInt = (if z = -1 then -5 else z))) : r.toInt = q.toInt := by
  obtain ⟨h1, h2, h3⟩ := h
  obtain ⟨z, x1, x2⟩ := x
  by_cases c : i.toInt < -1
  · rw [x2, y.1 c, zSti_low x1 c, if_pos rfl]
  · obtain ⟨z2, y1, y2⟩ := y.2 (by omega)
    rw [← h3, ← hs] at y1
    rw [x2, y2, zSti_one (zSti_congr h1 h2 ⟨by omega, h4.2⟩ x1) y1]
/-- the pulls' numbers of both, and the hurry -/
def zTp (K A T gk ga gt : Nat → Int32) (hu nh : Int32) : Prop := (∀ j : Nat, j < 8 → K j = gk j ∧ A j = ga j ∧ T j = gt j) ∧ hu.toInt = nh.toInt
def zTq (K A T ge : Nat → Int32) (hu : Int32) : Prop := (∀ j : Nat, j < 8 → K j = ge (0 + j) ∧ A j = ge (8 + j) ∧ T j = ge (16 + j)) ∧ hu.toInt = (ge 113).toInt
theorem zTp_pull {K A T gk ga gt K2 A2 T2 gk2 ga2 gt2 : Nat → Int32} {hu nh cn np ki a t r q : Int32} (h : zTp K A T gk ga gt hu nh) (hc : cn.toInt = np.toInt) (hr : r.toInt = q.toInt) (x : (r.toInt < 0 ∧ K2 = K ∧ A2 = A ∧ T2 = T) ∨ (0 ≤ r.toInt ∧ K2 = upd K cn.toNatClampNeg ki ∧ A2 = upd A cn.toNatClampNeg a ∧ T2 = upd T cn.toNatClampNeg t)) (y : (q.toInt < 0 ∧ gk2 = gk ∧ ga2 = ga ∧ gt2 = gt) ∨ (0 ≤ q.toInt ∧ gk2 = upd gk np.toNatClampNeg ki ∧ ga2 = upd ga np.toNatClampNeg a ∧ gt2 = upd gt np.toNatClampNeg t)) : zTp K2 A2 T2 gk2 ga2 gt2 hu nh := by
  obtain rfl : cn = np := Int32.toInt_inj.mp hc
  obtain ⟨h1, h2⟩ := h
  refine ⟨?_, h2⟩
  rcases x with ⟨a1, rfl, rfl, rfl⟩ | ⟨a1, rfl, rfl, rfl⟩ <;> rcases y with ⟨b1, rfl, rfl, rfl⟩ | ⟨b1, rfl, rfl, rfl⟩
  · exact h1
  · omega
  · omega
  · intro j hj
    obtain ⟨z1, z2, z3⟩ := h1 j hj
    simp only [upd]
    split
    · exact ⟨rfl, rfl, rfl⟩
    · exact ⟨z1, z2, z3⟩
theorem zTp_ask {K A T gk ga gt : Nat → Int32} {hu nh hu2 nh2 : Int32} {P Q P2 Q2 : Prop} {w v : Int} {te te2 : Int} {r r2 q q2 : Int} (h : zTp K A T gk ga gt hu nh) (hte : te = te2) (x : (zAsk w v te ∧ r = r2 ∧ P ∧ (hu2.toInt = (if w = 2 then v else hu.toInt)) ∧ P2) ∨ (¬ zAsk w v te ∧ r = -6 ∧ hu2 = hu)) (y : (zAsk w v te2 ∧ q = q2 ∧ Q ∧ (nh2.toInt = (if w = 2 then v else nh.toInt)) ∧ Q2) ∨ (¬ zAsk w v te2 ∧ q = -6 ∧ nh2 = nh)) : zTp K A T gk ga gt hu2 nh2 := by
  obtain ⟨h1, h3⟩ := h
  subst hte
  refine ⟨h1, ?_⟩
  rcases x with ⟨a1, -, -, a2, -⟩ | ⟨a1, -, a2⟩ <;> rcases y with ⟨b1, -, -, b2, -⟩ | ⟨b1, -, b2⟩
  · rw [a2, b2, h3]
  · exact absurd a1 b1
  · exact absurd b1 a1
  · rw [a2, b2, h3]
theorem zTp_jac {K A T gk ga gt K2 A2 T2 gk2 ga2 gt2 : Nat → Int32} {hu nh hu2 nh2 r q : Int32} {d e : Nat → zIt4} {c : Int} (h : zTp K A T gk ga gt hu nh) (hr : r.toInt = q.toInt) (hd : 1 ≤ r.toInt → ∀ k : Nat, k < r.toInt.toNat → zSm (d k) (e k))
    (x0 : 1 ≤ r.toInt → ∀ j : Nat, j < 8 → K2 j = zRk d c K r.toInt.toNat j ∧ A2 j = zRa d c A r.toInt.toNat j ∧ T2 j = zRt d c T r.toInt.toNat j) (x2 : 1 ≤ r.toInt → hu2.toInt = zRn 6 d hu.toInt r.toInt.toNat) (x3 : r.toInt < 1 → K2 = K ∧ A2 = A ∧ T2 = T ∧ hu2 = hu)
    (y0 : 1 ≤ q.toInt → gk2 = zRk e c gk q.toInt.toNat ∧ ga2 = zRa e c ga q.toInt.toNat ∧ gt2 = zRt e c gt q.toInt.toNat) (y2 : 1 ≤ q.toInt → nh2.toInt = zRn 6 e nh.toInt q.toInt.toNat) (y3 : q.toInt < 1 → (∀ j : Nat, j < 8 → gk2 j = gk j ∧ ga2 j = ga j ∧ gt2 j = gt j) ∧ nh2 = nh) : zTp K2 A2 T2 gk2 ga2 gt2 hu2 nh2 := by
  obtain ⟨h1, h3⟩ := h
  rw [← hr] at y0 y2 y3
  by_cases c9 : 1 ≤ r.toInt
  · have hd := hd c9
    obtain ⟨rfl, rfl, rfl⟩ := y0 c9
    refine ⟨fun j hj => ?_, ?_⟩
    · obtain ⟨z1, z2, z3⟩ := x0 c9 j hj
      rw [z1, z2, z3]
      exact ⟨zRk_sm hd (fun j hj => (h1 j hj).1) j hj, zRa_sm hd (fun j hj => (h1 j hj).2.1) j hj, zRt_sm hd (fun j hj => (h1 j hj).2.2) j hj⟩
    · rw [x2 c9, y2 c9]; exact zRn_sm hd h3
  · obtain ⟨rfl, rfl, rfl, a4⟩ := x3 (by omega)
    obtain ⟨b1, b2⟩ := y3 (by omega)
    rw [a4, b2]
    exact ⟨fun j hj => by obtain ⟨z1, z2, z3⟩ := h1 j hj; obtain ⟨w1, w2, w3⟩ := b1 j hj; exact ⟨z1.trans w1.symm, z2.trans w2.symm, z3.trans w3.symm⟩, h3⟩
theorem zTp_image {K A T gk ga gt ge : Nat → Int32} {hu nh khu : Int32} (h : zTp K A T gk ga gt hu nh) (x : khu = hu) (y0 : ∀ j : Nat, j < 8 → ge (0 + j) = gk j) (y1 : ∀ j : Nat, j < 8 → ge (8 + j) = ga j) (y2 : ∀ j : Nat, j < 8 → ge (16 + j) = gt j) (y3 : ge 113 = nh) : zTq K A T ge khu := by
  obtain ⟨h1, h2⟩ := h
  exact ⟨fun j hj => by rw [y0 j hj, y1 j hj, y2 j hj]; exact h1 j hj, by rw [x, y3, h2]⟩
theorem zTp_rest {K A T gk ga gt K2 A2 T2 gk2 ga2 gt2 KK KA KT ge : Nat → Int32} {hu nh hu2 nh2 khu im nik : Int32} (h : zTp K A T gk ga gt hu nh) (hk : nik.toInt = 1 → zTq KK KA KT ge khu) (hi : im.toInt = nik.toInt) (hb : 0 ≤ nik.toInt ∧ nik.toInt ≤ 1) (g : (im.toInt = 0 ∧ K2 = K ∧ A2 = A ∧ T2 = T) ∨ (im.toInt ≠ 0 ∧ K2 = KK ∧ A2 = KA ∧ T2 = KT)) (x : (im.toInt = 0 ∧ hu2 = hu) ∨ (im.toInt ≠ 0 ∧ hu2 = khu)) (y : (nik.toInt = 0 ∧ gk2 = gk ∧ ga2 = ga ∧ gt2 = gt ∧ nh2 = nh) ∨ (nik.toInt ≠ 0 ∧ (∀ j : Nat, j < 8 → gk2 j = ge (0 + j)) ∧ (∀ j : Nat, j < 8 → ga2 j = ge (8 + j)) ∧ (∀ j : Nat, j < 8 → gt2 j = ge (16 + j)) ∧ nh2 = ge 113)) : zTp K2 A2 T2 gk2 ga2 gt2 hu2 nh2 := by
  rcases g with ⟨g0, rfl, rfl, rfl⟩ | ⟨g0, rfl, rfl, rfl⟩ <;> rcases y with ⟨b0, rfl, rfl, rfl, b4⟩ | ⟨b0, b1, b2, b3, b4⟩
  · rcases x with ⟨-, x⟩ | ⟨x1, -⟩
    · rw [x, b4]; exact h
    · omega
  · omega
  · omega
  · rcases x with ⟨x1, -⟩ | ⟨-, x⟩
    · omega
    · obtain ⟨k1, k2⟩ := hk (by omega)
      exact ⟨fun j hj => by rw [b1 j hj, b2 j hj, b3 j hj]; exact k1 j hj, by rw [x, b4, k2]⟩
end
section
/-! what the calls that hang on the pulls' kinds answer in both worlds -/
theorem zTp_frees {K A T gk ga gt : Nat → Int32} {hu nh cn np p d w r q : Int32} (h : zTp K A T gk ga gt hu nh) (hc : cn.toInt = np.toInt) (h8 : cn.toInt ≤ 8)
    (x : ((p.toInt < 0 ∨ cn.toInt ≤ p.toInt) ∧ r.toInt = -1) ∨ ((0 ≤ p.toInt ∧ p.toInt < cn.toInt) ∧ (((w.toInt < 0 ∨ 2 < w.toInt) ∧ r.toInt = -5) ∨ ((0 ≤ w.toInt ∧ w.toInt ≤ 2) ∧ (((d.toInt < 1 ∨ 24 < d.toInt) ∧ r.toInt = -6) ∨ ((1 ≤ d.toInt ∧ d.toInt ≤ 24) ∧ r.toInt = (if w.toInt = 0 then zWy (K p.toNatClampNeg).toInt (A p.toNatClampNeg).toInt hu.toInt d.toInt else if w.toInt = 1 then zShl (K p.toNatClampNeg).toInt (A p.toNatClampNeg).toInt d.toInt else zDpr (K p.toNatClampNeg).toInt (A p.toNatClampNeg).toInt hu.toInt d.toInt)))))))
    (y : ((p.toInt < 0 ∨ np.toInt ≤ p.toInt) ∧ q.toInt = -1) ∨ ((0 ≤ p.toInt ∧ p.toInt < np.toInt) ∧ (((w.toInt < 0 ∨ 2 < w.toInt) ∧ q.toInt = -5) ∨ ((0 ≤ w.toInt ∧ w.toInt ≤ 2) ∧ (((d.toInt < 1 ∨ 24 < d.toInt) ∧ q.toInt = -6) ∨ ((1 ≤ d.toInt ∧ d.toInt ≤ 24) ∧ q.toInt = (if w.toInt = 0 then zWy (gk p.toNatClampNeg).toInt (ga p.toNatClampNeg).toInt nh.toInt d.toInt else if w.toInt = 1 then zShl (gk p.toNatClampNeg).toInt (ga p.toNatClampNeg).toInt d.toInt else zDpr (gk p.toNatClampNeg).toInt (ga p.toNatClampNeg).toInt nh.toInt d.toInt))))))) : r.toInt = q.toInt := by
  obtain ⟨h1, h2⟩ := h
  by_cases c : 0 ≤ p.toInt ∧ p.toInt < cn.toInt
  · obtain ⟨z1, z2, -⟩ := h1 p.toNatClampNeg (by have : p.toNatClampNeg = p.toInt.toNat := rfl; omega)
    rw [z1, z2, h2] at x
    rcases x with x | ⟨-, x⟩
    · omega
    · rcases y with y | ⟨-, y⟩
      · omega
      · rcases x with x | ⟨x0, x⟩ <;> rcases y with y | ⟨y0, y⟩
        · omega
        · omega
        · omega
        · rcases x with x | ⟨x1, x⟩ <;> rcases y with y | ⟨y1, y⟩
          · omega
          · omega
          · omega
          · exact x.trans y.symm
  · rcases x with x | x
    · rcases y with y | y
      · omega
      · exact absurd y.1 (by omega)
    · exact absurd x.1 c
/-- a belief on the same shelf, in both worlds -/
theorem zRel_bq {he si gh go gs gd : Nat → Int32} {fe : Nat → Nat → Int64} {gc : Nat → Int64} {j : Nat} {s : Int32} (h : zRel he si fe gh go gs gd gc) (hd : zHS gh gd) (hg : zRg gh 0 2) (ho : zRg go 0 3) (hsi : zRg si 0 160) (hj : j < 8) (hq : 0 ≤ s.toInt → s.toInt ≤ 7 → j = s.toNatClampNeg) : (0 ≤ s.toInt ∧ s.toInt ≤ 7) → ∀ q1 q2 : Int, zBelR (he j).toInt (si j).toInt (fe j) q1 → zBelR (zHc (gh s.toNatClampNeg).toInt) (gs s.toNatClampNeg).toInt (zRw gc (160 * s.toInt)) q2 → q1 = q2 ∧ (q1 = 0 → ∀ i : Nat, i < 25 → fe j i = zRw gc (160 * s.toInt) i) := by
  intro hs q1 q2 x y
  obtain rfl := hq hs.1 hs.2
  have e1 : s.toNatClampNeg = s.toInt.toNat := rfl
  have o := ho s.toNatClampNeg
  rcases zRel_hc h hd hg hj with ⟨a, b, c⟩ | ⟨a, b, c, d⟩ | ⟨a, b, c, -⟩
  · have z1 : q1 = 3 := by unfold zBelR at x; omega
    have z2 : q2 = 3 := by unfold zBelR at y; omega
    exact ⟨by omega, fun z => by omega⟩
  · have hc : ∀ i : Nat, i < 25 → fe s.toNatClampNeg i = zRw gc (160 * s.toInt) i := fun i hi => by
      rw [((h _ hj).2.1 a).2.2 i (by omega)]
      unfold zRw
      congr 1
      omega
    refine ⟨?_, fun _ => hc⟩
    have x2 : zBelR (zHc (gh s.toNatClampNeg).toInt) (gs s.toNatClampNeg).toInt (zRw gc (160 * s.toInt)) q1 := by
      unfold zBelR at x ⊢
      rw [zBel_congr hc] at x
      rcases x with x | x | x | x | x
      · exfalso; omega
      · exfalso; omega
      · exact Or.inr (Or.inr (Or.inl ⟨by omega, by omega, x.2.2⟩))
      · exact Or.inr (Or.inr (Or.inr (Or.inl ⟨by omega, by omega, x.2.2.1, x.2.2.2⟩)))
      · exact Or.inr (Or.inr (Or.inr (Or.inr ⟨by omega, by omega, x.2.2.1, x.2.2.2⟩)))
    exact zBelR_one x2 y
  · have z1 : q1 = 2 := by unfold zBelR at x; omega
    have z2 : q2 = 2 := by unfold zBelR at y; omega
    exact ⟨by omega, fun z => by omega⟩
/-- an answer by a belief: first whether it may be -/
theorem zBq {s : Int32} {h1 s1 h2 s2 : Int} {c1 c2 : Nat → Int64} {G1 G2 : Prop} {f : Int → Int} {r r2 : Int} (hs : 0 ≤ s.toInt ∧ s.toInt ≤ 7) (hb : (0 ≤ s.toInt ∧ s.toInt ≤ 7) → ∀ q1 q2 : Int, zBelR h1 s1 c1 q1 → zBelR h2 s2 c2 q2 → q1 = q2 ∧ (q1 = 0 → ∀ i : Nat, i < 25 → c1 i = c2 i)) (x : ∃ q : Int, zBelR h1 s1 c1 q ∧ ((q ≠ 0 ∧ r = f q) ∨ (q = 0 ∧ G1))) (y : ∃ q : Int, zBelR h2 s2 c2 q ∧ ((q ≠ 0 ∧ r2 = f q) ∨ (q = 0 ∧ G2))) (hg : (∀ i : Nat, i < 25 → c1 i = c2 i) → G1 → G2 → r = r2) : r = r2 := by
  obtain ⟨q1, x1, x2⟩ := x
  obtain ⟨q2, y1, y2⟩ := y
  obtain ⟨e, hc⟩ := hb hs q1 q2 x1 y1
  subst e
  rcases x2 with ⟨x2, x3⟩ | ⟨x2, x3⟩ <;> rcases y2 with ⟨y2, y3⟩ | ⟨y2, y3⟩
  · rw [x3, y3]
  · exact absurd y2 x2
  · exact absurd x2 y2
  · exact hg (hc x2) x3 y3
theorem zTp_freed {K A T gk ga gt : Nat → Int32} {hu nh cn np s p r r2 : Int32} {h1 s1 h2 s2 : Int} {c1 c2 : Nat → Int64} (h : zTp K A T gk ga gt hu nh) (hc : cn.toInt = np.toInt) (h8 : cn.toInt ≤ 8) (hb : (0 ≤ s.toInt ∧ s.toInt ≤ 7) → ∀ q1 q2 : Int, zBelR h1 s1 c1 q1 → zBelR h2 s2 c2 q2 → q1 = q2 ∧ (q1 = 0 → ∀ i : Nat, i < 25 → c1 i = c2 i))
    (x : ((s.toInt < 0 ∨ 7 < s.toInt ∨ p.toInt < 0 ∨ cn.toInt ≤ p.toInt) ∧ r.toInt = -1) ∨ ((0 ≤ s.toInt ∧ s.toInt ≤ 7) ∧ (0 ≤ p.toInt ∧ p.toInt < cn.toInt) ∧ ∃ q : Int, zBelR h1 s1 c1 q ∧ ((q ≠ 0 ∧ r.toInt = -q) ∨ (q = 0 ∧ r.toInt = zFd c1 (K p.toNatClampNeg).toInt (A p.toNatClampNeg).toInt hu.toInt 24))))
    (y : ((s.toInt < 0 ∨ 7 < s.toInt ∨ p.toInt < 0 ∨ np.toInt ≤ p.toInt) ∧ r2.toInt = -1) ∨ ((0 ≤ s.toInt ∧ s.toInt ≤ 7) ∧ (0 ≤ p.toInt ∧ p.toInt < np.toInt) ∧ ∃ q : Int, zBelR h2 s2 c2 q ∧ ((q ≠ 0 ∧ r2.toInt = -q) ∨ (q = 0 ∧ r2.toInt = zFd c2 (gk p.toNatClampNeg).toInt (ga p.toNatClampNeg).toInt nh.toInt 24)))) : r.toInt = r2.toInt := by
  obtain ⟨k1, k2⟩ := h
  rcases x with ⟨x1, x2⟩ | ⟨x1, x2, x3⟩ <;> rcases y with ⟨y1, y2⟩ | ⟨y1, y2, y3⟩
  · omega
  · omega
  · omega
  · obtain ⟨z1, z2, -⟩ := k1 p.toNatClampNeg (by have : p.toNatClampNeg = p.toInt.toNat := rfl; omega)
    exact zBq (f := fun q => -q) x1 hb x3 y3 (fun e a b => by rw [a, b, z1, z2, k2]; exact zFd_congr e 24 (by omega))
theorem zTp_behind {K A T gk ga gt : Nat → Int32} {hu nh cn np s p d r r2 : Int32} {h1 s1 h2 s2 : Int} {c1 c2 : Nat → Int64} (h : zTp K A T gk ga gt hu nh) (hc : cn.toInt = np.toInt) (h8 : cn.toInt ≤ 8) (hb : (0 ≤ s.toInt ∧ s.toInt ≤ 7) → ∀ q1 q2 : Int, zBelR h1 s1 c1 q1 → zBelR h2 s2 c2 q2 → q1 = q2 ∧ (q1 = 0 → ∀ i : Nat, i < 25 → c1 i = c2 i))
    (x : ((s.toInt < 0 ∨ 7 < s.toInt ∨ p.toInt < 0 ∨ cn.toInt ≤ p.toInt) ∧ r.toInt = -1) ∨ ((0 ≤ s.toInt ∧ s.toInt ≤ 7) ∧ (0 ≤ p.toInt ∧ p.toInt < cn.toInt) ∧ ∃ q : Int, zBelR h1 s1 c1 q ∧ ((q ≠ 0 ∧ r.toInt = -q) ∨ (q = 0 ∧ (((d.toInt < 0 ∨ 24 < d.toInt) ∧ r.toInt = -6) ∨ ((0 ≤ d.toInt ∧ d.toInt ≤ 24) ∧ r.toInt = zBh c1 (K p.toNatClampNeg).toInt (A p.toNatClampNeg).toInt hu.toInt d.toInt 24))))))
    (y : ((s.toInt < 0 ∨ 7 < s.toInt ∨ p.toInt < 0 ∨ np.toInt ≤ p.toInt) ∧ r2.toInt = -1) ∨ ((0 ≤ s.toInt ∧ s.toInt ≤ 7) ∧ (0 ≤ p.toInt ∧ p.toInt < np.toInt) ∧ ∃ q : Int, zBelR h2 s2 c2 q ∧ ((q ≠ 0 ∧ r2.toInt = -q) ∨ (q = 0 ∧ (((d.toInt < 0 ∨ 24 < d.toInt) ∧ r2.toInt = -6) ∨ ((0 ≤ d.toInt ∧ d.toInt ≤ 24) ∧ r2.toInt = zBh c2 (gk p.toNatClampNeg).toInt (ga p.toNatClampNeg).toInt nh.toInt d.toInt 24)))))) : r.toInt = r2.toInt := by
  obtain ⟨k1, k2⟩ := h
  rcases x with ⟨x1, x2⟩ | ⟨x1, x2, x3⟩ <;> rcases y with ⟨y1, y2⟩ | ⟨y1, y2, y3⟩
  · omega
  · omega
  · omega
  · obtain ⟨z1, z2, -⟩ := k1 p.toNatClampNeg (by have : p.toNatClampNeg = p.toInt.toNat := rfl; omega)
    refine zBq (f := fun q => -q) x1 hb x3 y3 (fun e a b => ?_)
    rcases a with ⟨a1, a2⟩ | ⟨a1, a2⟩ <;> rcases b with ⟨b1, b2⟩ | ⟨b1, b2⟩
    · omega
    · omega
    · omega
    · rw [a2, b2, z1, z2, k2]; exact zBh_congr e 24 (by omega)
theorem zBst_congr {c e : Nat → Int64} {K A gk ga : Nat → Int32} {h h2 b : Int} {n : Nat} (g : ∀ j : Nat, j < n → zFd c (K j).toInt (A j).toInt h 24 = zFd e (gk j).toInt (ga j).toInt h2 24) (x : zBst c K A h n b) : zBst e gk ga h2 n b := by
  rcases x with x | ⟨p, x1, x2, x3, x4⟩
  · exact Or.inl x
  · refine Or.inr ⟨p, x1, x2, fun j hj => ?_, fun j hj => ?_⟩
    · rw [← g j hj, ← g p x1]; exact x3 j hj
    · rw [← g j (by omega), ← g p x1]; exact x4 j hj
theorem zTp_best {K A T gk ga gt : Nat → Int32} {hu nh cn np s r r2 : Int32} {h1 s1 h2 s2 : Int} {c1 c2 : Nat → Int64} (h : zTp K A T gk ga gt hu nh) (hc : cn.toInt = np.toInt) (h8 : cn.toInt ≤ 8) (hb : (0 ≤ s.toInt ∧ s.toInt ≤ 7) → ∀ q1 q2 : Int, zBelR h1 s1 c1 q1 → zBelR h2 s2 c2 q2 → q1 = q2 ∧ (q1 = 0 → ∀ i : Nat, i < 25 → c1 i = c2 i))
    (x : ((s.toInt < 0 ∨ 7 < s.toInt) ∧ r.toInt = -11) ∨ ((0 ≤ s.toInt ∧ s.toInt ≤ 7) ∧ ∃ q : Int, zBelR h1 s1 c1 q ∧ ((q ≠ 0 ∧ r.toInt = -q - 10) ∨ (q = 0 ∧ zBst c1 K A hu.toInt cn.toInt.toNat r.toInt))))
    (y : ((s.toInt < 0 ∨ 7 < s.toInt) ∧ r2.toInt = -11) ∨ ((0 ≤ s.toInt ∧ s.toInt ≤ 7) ∧ ∃ q : Int, zBelR h2 s2 c2 q ∧ ((q ≠ 0 ∧ r2.toInt = -q - 10) ∨ (q = 0 ∧ zBst c2 gk ga nh.toInt np.toInt.toNat r2.toInt)))) : r.toInt = r2.toInt := by
  obtain ⟨k1, k2⟩ := h
  rcases x with ⟨x1, x2⟩ | ⟨x1, x3⟩ <;> rcases y with ⟨y1, y2⟩ | ⟨y1, y3⟩
  · omega
  · omega
  · omega
  · refine zBq (f := fun q => -q - 10) x1 hb x3 y3 (fun e a b => ?_)
    rw [← hc] at b
    refine zBst_one (zBst_congr (fun j hj => ?_) a) b
    obtain ⟨z1, z2, -⟩ := k1 j (by omega)
    rw [z1, z2, k2]
    exact zFd_congr e 24 (by omega)
/-! a pull that a shelf shows is there -/
end
section
/-! the numbers of both worlds: depth, where, seconds, torn, seed, costs -/
theorem zIm_rg {f : Nat → Int32} {e p te pu : Int} (hp : 0 ≤ p) (he : p ≤ e) (h1 : (zItem f e p te pu).1 = -1) : zLo (zIm f e p te).1 0 ≤ (zIm f e p te).2.1 ∧ (zIm f e p te).2.1 ≤ zHi (zIm f e p te).1 0 te ∧ (zItem f e p te pu).2.2.1 = (if (zIm f e p te).1 = 0 then (zIm f e p te).2.1 else te) := by
  rcases zFst_spec (f := f) (e := e) (p := p) (ls := zWds) 10 with ⟨c1, -⟩ | ⟨w, hw, c1, -, -⟩
  · rw [zItem_none c1] at h1
    dsimp only at h1
    omega
  · have hf := zFst_in hw c1
    by_cases c2 : (w : Int) = 3 ∧ pu = 8
    · rw [zItem_room (c1.trans c2.1) c2.2] at h1
      dsimp only at h1
      omega
    · have hi := zItem_w (f := f) (e := e) (p := p) (p1 := p + ((zWds ((w : Int)).toNat).length : Nat)) (te := te) (pu := pu) (w := (w : Int)) (r := (zIn f e (p + ((zWds ((w : Int)).toNat).length : Nat)) te (w : Int)).1) (q := (zIn f e (p + ((zWds ((w : Int)).toNat).length : Nat)) te (w : Int)).2.1) (v := (zIn f e (p + ((zWds ((w : Int)).toNat).length : Nat)) te (w : Int)).2.2) c1 (by omega) c2 rfl rfl
      rw [hi] at h1 ⊢
      dsimp only at h1 ⊢
      have r := zIn_rg (f := f) (e := e) (p := p + ((zWds ((w : Int)).toNat).length : Nat)) (te := te) (w := (w : Int)) (by omega) (by rw [Int.toNat_natCast]; exact hf.2)
      have r2 := r.2.2.2 h1
      unfold zIm zIP zIW
      rw [c1]
      dsimp only
      exact ⟨r2.2.1, r2.2.2, rfl⟩
theorem zAt_step {f : Nat → Int32} {e p te pu x : Int} (hp : 0 ≤ p) (he : p ≤ e) (h1 : (zItem f e p te pu).1 = -1) (hx : 0 ≤ x ∧ x ≤ te) : 0 ≤ zEat (zIm f e p te) x ∧ zEat (zIm f e p te) x ≤ (zItem f e p te pu).2.2.1 := by
  obtain ⟨a, b, c⟩ := zIm_rg hp he h1
  rw [c]
  unfold zEat
  by_cases c9 : (zIm f e p te).1 = 9
  · rw [if_pos c9, if_neg (by omega)]
    rw [c9] at a b
    have l : zLo 9 0 = 0 := rfl
    have g : zHi 9 0 te = te := rfl
    omega
  · rw [if_neg c9]
    by_cases c0 : (zIm f e p te).1 = 0
    · rw [if_pos c0, if_pos c0]
      rw [c0] at a
      have l : zLo 0 0 = 4 := rfl
      omega
    · rw [if_neg c0, if_neg c0]; exact hx
theorem zSe_step {f : Nat → Int32} {e p te pu x : Int} (hp : 0 ≤ p) (he : p ≤ e) (h1 : (zItem f e p te pu).1 = -1) (hx : 0 ≤ x ∧ x ≤ 300) : 0 ≤ zEnu 5 (zIm f e p te) x ∧ zEnu 5 (zIm f e p te) x ≤ 300 := by
  obtain ⟨a, b, c⟩ := zIm_rg hp he h1
  unfold zEnu
  by_cases c5 : (zIm f e p te).1 = 5
  · rw [if_pos c5]
    rw [c5] at a b
    have l : zLo 5 0 = 0 := rfl
    have g : zHi 5 0 te = 300 := by unfold zHi; rw [if_neg (by decide), if_neg (by decide), if_neg (by decide), if_neg (by decide), if_neg (by decide), if_pos rfl]
    omega
  · rw [if_neg c5]; exact hx
theorem zRgo_at {f : Nat → Int32} {e te pu a b : Int} (he : 0 ≤ e) (ht : 4 ≤ te ∧ te ≤ 40) (hu : 0 ≤ pu ∧ pu ≤ 8) (ha : 0 ≤ a ∧ a ≤ te) (hb : 0 ≤ b ∧ b ≤ 300) : ∀ (k : Nat) (p t u : Int), zRgo f e te pu k = some (p, t, u) → (0 ≤ zRat (zDI f e te pu) a k ∧ zRat (zDI f e te pu) a k ≤ t) ∧ 0 ≤ zRn 5 (zDI f e te pu) b k ∧ zRn 5 (zDI f e te pu) b k ≤ 300 := by
  intro k
  induction k with
  | zero =>
    intro p t u h
    have h : some ((0 : Int), te, pu) = some (p, t, u) := h
    simp only [Option.some.injEq, Prod.mk.injEq] at h
    refine ⟨⟨ha.1, ?_⟩, hb⟩
    show a ≤ t
    omega
  | succ k ih =>
    intro p t u h
    obtain ⟨p1, t1, u1, h1, h2⟩ := zRgo_pre h
    obtain ⟨i1, i2⟩ := ih _ _ _ h1
    have r := zRgo_rg he ht hu _ _ _ _ h1
    have ed : zDI f e te pu k = zIm f e p1 t1 := zDI_at h1
    have s1 := zAt_step (pu := u1) (by omega) r.2.1 h2 i1
    have s2 := zSe_step (pu := u1) (by omega) r.2.1 h2 i2
    rw [zRgo_s, h1] at h
    dsimp only at h
    have et : (zItem f e p1 t1 u1).2.2.1 = t := by
      by_cases c : (zItem f e p1 t1 u1).1 = -1 ∧ (zItem f e p1 t1 u1).2.1 < e ∧ (f (zItem f e p1 t1 u1).2.1.toNat).toInt = 59
      · rw [if_pos c] at h
        simp only [Option.some.injEq, Prod.mk.injEq] at h
        exact h.2.1
      · rw [if_neg c] at h; cases h
    have e1 : zRat (zDI f e te pu) a (k + 1) = zEat (zDI f e te pu k) (zRat (zDI f e te pu) a k) := rfl
    have e2 : zRn 5 (zDI f e te pu) b (k + 1) = zEnu 5 (zDI f e te pu k) (zRn 5 (zDI f e te pu) b k) := rfl
    rw [e1, e2, ed, ← et]
    exact ⟨s1, s2⟩
theorem zJac_at {f : Nat → Int32} {si s he lf cn sz r lf2 cn2 sz2 a b : Int} (h : zJac f si s he lf cn sz r lf2 cn2 sz2) (h0 : 0 ≤ si) (ht : 4 ≤ sz ∧ sz ≤ 40) (hu : 0 ≤ cn ∧ cn ≤ 8) (hr : 1 ≤ r) (ha : 0 ≤ a ∧ a ≤ sz) (hb : 0 ≤ b ∧ b ≤ 300) : zRat (zDI f si sz cn) a r.toNat ≤ sz2 ∧ 0 ≤ zRn 5 (zDI f si sz cn) b r.toNat ∧ zRn 5 (zDI f si sz cn) b r.toNat ≤ 300 := by
  unfold zJac at h
  rcases h with h | h | h | ⟨-, -, k, R, T, U, hE, h⟩
  · omega
  · omega
  · omega
  · rcases h with h | ⟨h1, h2, -, -, h5⟩
    · omega
    · obtain ⟨p, t, u, e1, e2⟩ := hE
      have r1 := zRgo_rg h0 ht hu _ _ _ _ e1
      obtain ⟨i1, i2⟩ := zRgo_at h0 ht hu ha hb _ _ _ _ e1
      have ed : zDI f si sz cn k = zIm f si p t := zDI_at e1
      have q1 : zRat (zDI f si sz cn) a (k + 1) = zEat (zDI f si sz cn k) (zRat (zDI f si sz cn) a k) := rfl
      have q2 : zRn 5 (zDI f si sz cn) b (k + 1) = zEnu 5 (zDI f si sz cn k) (zRn 5 (zDI f si sz cn) b k) := rfl
      rw [h2, show ((k : Int) + 1).toNat = k + 1 from by omega, q1, q2, ed]
      rcases e2 with ⟨x, y⟩ | ⟨x, y, z, w, v⟩ | ⟨x, y, z, w⟩
      · omega
      · have s1 := zAt_step (pu := u) (by omega) r1.2.1 x i1
        have s2 := zSe_step (pu := u) (by omega) r1.2.1 x i2
        rw [h5, w]
        exact ⟨s1.2, s2⟩
      · have z4 := (zItem_rg (f := f) (e := si) (p := p) (te := t) (pu := u) (by omega) r1.2.1).2 x
        omega
def zNu (de a se tr sd : Int32) (fc : Nat → Int32) (nd na ns nt nsd : Int32) (gc : Nat → Int32) : Prop := de.toInt = nd.toInt ∧ a.toInt = na.toInt ∧ se.toInt = ns.toInt ∧ tr = nt ∧ sd = nsd ∧ ∀ j : Nat, j < 3 → fc j = gc j
def zNk (de a se tr sd : Int32) (fc : Nat → Int32) (ge : Nat → Int32) : Prop := de.toInt = (ge 110).toInt ∧ a.toInt = (ge 109).toInt ∧ se.toInt = (ge 112).toInt ∧ tr = ge 111 ∧ sd = ge 115 ∧ ∀ j : Nat, j < 3 → fc j = ge (104 + j)
theorem zNu_ask {de a se tr sd hu gp nd na ns nt nsd nh ng de2 a2 se2 hu2 gp2 nd2 na2 ns2 nh2 ng2 w v r q sz te : Int32} {fc gc fc2 gc2 : Nat → Int32} (h : zNu de a se tr sd fc nd na ns nt nsd gc) (hs : sz.toInt = te.toInt) (hg : gp.toInt = ng.toInt) (hh : hu.toInt = nh.toInt) (ha : a.toInt ≤ sz.toInt) (hse : 0 ≤ se.toInt ∧ se.toInt ≤ 300)
    (x : (zAsk w.toInt v.toInt sz.toInt ∧ r.toInt = (if w.toInt = 0 then de.toInt else if w.toInt = 1 then se.toInt else if w.toInt = 2 then hu.toInt else if w.toInt = 3 then gp.toInt else if w.toInt = 7 then a.toInt else (fc (w.toInt - 4).toNat).toInt) ∧ (de2.toInt = (if w.toInt = 0 then v.toInt else de.toInt) ∧ se2.toInt = (if w.toInt = 1 then v.toInt else se.toInt) ∧ hu2.toInt = (if w.toInt = 2 then v.toInt else hu.toInt) ∧ gp2.toInt = (if w.toInt = 3 then v.toInt else gp.toInt) ∧ a2.toInt = (if w.toInt = 7 then v.toInt else a.toInt)) ∧ (w.toInt < 4 ∨ 6 < w.toInt → fc2 = fc) ∧ (4 ≤ w.toInt → w.toInt ≤ 6 → fc2 = upd fc (w.toInt - 4).toNat v)) ∨ (¬ zAsk w.toInt v.toInt sz.toInt ∧ r.toInt = -6 ∧ de2 = de ∧ se2 = se ∧ hu2 = hu ∧ gp2 = gp ∧ a2 = a ∧ fc2 = fc))
    (y : (zAsk w.toInt v.toInt te.toInt ∧ q.toInt = (if w.toInt = 0 then nd.toInt else if w.toInt = 1 then ns.toInt else if w.toInt = 2 then nh.toInt else if w.toInt = 3 then ng.toInt else if w.toInt = 7 then na.toInt else (gc (w.toInt - 4).toNat).toInt) ∧ (nd2.toInt = (if w.toInt = 0 then v.toInt else nd.toInt) ∧ ns2.toInt = (if w.toInt = 1 then v.toInt else ns.toInt) ∧ nh2.toInt = (if w.toInt = 2 then v.toInt else nh.toInt) ∧ ng2.toInt = (if w.toInt = 3 then v.toInt else ng.toInt) ∧ na2.toInt = (if w.toInt = 7 then v.toInt else na.toInt)) ∧ (w.toInt < 4 ∨ 6 < w.toInt → gc2 = gc) ∧ (4 ≤ w.toInt → w.toInt ≤ 6 → gc2 = upd gc (w.toInt - 4).toNat v)) ∨ (¬ zAsk w.toInt v.toInt te.toInt ∧ q.toInt = -6 ∧ nd2 = nd ∧ ns2 = ns ∧ nh2 = nh ∧ ng2 = ng ∧ na2 = na ∧ gc2 = gc)) : zNu de2 a2 se2 tr sd fc2 nd2 na2 ns2 nt nsd gc2 ∧ r.toInt = q.toInt ∧ a2.toInt ≤ sz.toInt ∧ 0 ≤ se2.toInt ∧ se2.toInt ≤ 300 := by
  obtain ⟨h1, h2, h3, h4, h5, h6⟩ := h
  rw [← hs] at y
  rcases x with ⟨x0, x1, ⟨x2, x3, -, -, x4⟩, x5, x6⟩ | ⟨x0, x1, rfl, rfl, -, -, rfl, rfl⟩ <;> rcases y with ⟨y0, y1, ⟨y2, y3, -, -, y4⟩, y5, y6⟩ | ⟨y0, y1, rfl, rfl, -, -, rfl, rfl⟩
  · unfold zAsk at x0
    obtain ⟨z1, z2, z3⟩ := x0
    refine ⟨⟨by rw [x2, y2, h1], by rw [x4, y4, h2], by rw [x3, y3, h3], h4, h5, fun j hj => ?_⟩, ?_, ?_, ?_⟩
    · by_cases c : 4 ≤ w.toInt ∧ w.toInt ≤ 6
      · rw [x6 c.1 c.2, y6 c.1 c.2]
        simp only [upd]
        split
        · rfl
        · exact h6 j hj
      · rw [x5 (by omega), y5 (by omega)]
        exact h6 j hj
    · rw [x1, y1, h1, h2, h3, hg, hh]
      by_cases c : 4 ≤ w.toInt ∧ w.toInt ≤ 6
      · rw [h6 (w.toInt - 4).toNat (by omega)]
      · rcases (show w.toInt = 0 ∨ w.toInt = 1 ∨ w.toInt = 2 ∨ w.toInt = 3 ∨ w.toInt = 7 by omega) with e | e | e | e | e <;> (repeat (first | rw [if_pos (by omega)] | rw [if_neg (by omega)]))
    · rw [x4]
      by_cases c : w.toInt = 7
      · rw [if_pos c]
        rw [if_neg (show ¬ w.toInt = 0 by omega), if_neg (show ¬ w.toInt = 1 by omega), if_neg (show ¬ w.toInt = 2 by omega), if_neg (show ¬ w.toInt = 3 by omega), if_pos c] at z3
        exact z3
      · rw [if_neg c]; exact ha
    · rw [x3]
      by_cases c : w.toInt = 1
      · rw [if_pos c]
        rw [if_neg (show ¬ w.toInt = 0 by omega), if_pos c] at z3
        rw [if_neg (show ¬ w.toInt = 3 by omega)] at z2
        exact ⟨z2, z3⟩
      · rw [if_neg c]; exact hse
  · exact absurd x0 y0
  · exact absurd y0 x0
  · exact ⟨⟨h1, h2, h3, h4, h5, h6⟩, by omega, ha, hse⟩
theorem zNu_teeth {de a se tr sd nd na ns nt nsd a2 na2 n r sz sz2 : Int32} {fc gc : Nat → Int32} {P Q P2 Q2 P3 Q3 P4 Q4 : Prop} (h : zNu de a se tr sd fc nd na ns nt nsd gc) (ha : a.toInt ≤ sz.toInt) (x0 : ((4 ≤ n.toInt ∧ n.toInt ≤ 40) ∧ r.toInt = sz.toInt ∧ sz2.toInt = n.toInt) ∨ (¬ (4 ≤ n.toInt ∧ n.toInt ≤ 40) ∧ r.toInt = -6 ∧ sz2.toInt = sz.toInt)) (x : ((4 ≤ n.toInt ∧ n.toInt ≤ 40) ∧ P ∧ P2 ∧ a2.toInt = 0) ∨ (¬ (4 ≤ n.toInt ∧ n.toInt ≤ 40) ∧ Q ∧ Q2 ∧ a2 = a)) (y : ((4 ≤ n.toInt ∧ n.toInt ≤ 40) ∧ P3 ∧ P4 ∧ na2.toInt = 0) ∨ (¬ (4 ≤ n.toInt ∧ n.toInt ≤ 40) ∧ Q3 ∧ Q4 ∧ na2 = na)) : zNu de a2 se tr sd fc nd na2 ns nt nsd gc ∧ a2.toInt ≤ sz2.toInt := by
  obtain ⟨h1, h2, h3, h4, h5, h6⟩ := h
  rcases x with ⟨x0', -, -, x1⟩ | ⟨x0', -, -, rfl⟩ <;> rcases y with ⟨y0, -, -, y1⟩ | ⟨y0, -, -, rfl⟩
  · exact ⟨⟨h1, by omega, h3, h4, h5, h6⟩, by omega⟩
  · exact absurd x0' y0
  · exact absurd y0 x0'
  · exact ⟨⟨h1, h2, h3, h4, h5, h6⟩, by omega⟩
theorem zNu_jac {de a se tr sd nd na ns nt nsd de2 a2 se2 nd2 na2 ns2 r q sz sz2 : Int32} {fc gc fc2 gc2 : Nat → Int32} {d e : Nat → zIt4} (h : zNu de a se tr sd fc nd na ns nt nsd gc) (hr : r.toInt = q.toInt) (hd : 1 ≤ r.toInt → ∀ k : Nat, k < r.toInt.toNat → zSm (d k) (e k)) (ha : a.toInt ≤ sz.toInt) (hse : 0 ≤ se.toInt ∧ se.toInt ≤ 300) (hz : r.toInt < 1 → sz2.toInt = sz.toInt) (hb : 1 ≤ r.toInt → zRat d a.toInt r.toInt.toNat ≤ sz2.toInt ∧ 0 ≤ zRn 5 d se.toInt r.toInt.toNat ∧ zRn 5 d se.toInt r.toInt.toNat ≤ 300)
    (x6 : 1 ≤ r.toInt → ∀ j : Nat, j < 3 → fc2 j = zRc d fc r.toInt.toNat j) (x7 : 1 ≤ r.toInt → de2.toInt = zRn 4 d de.toInt r.toInt.toNat ∧ se2.toInt = zRn 5 d se.toInt r.toInt.toNat ∧ a2.toInt = zRat d a.toInt r.toInt.toNat) (x8 : r.toInt < 1 → fc2 = fc ∧ de2 = de ∧ se2 = se ∧ a2 = a)
    (y6 : 1 ≤ q.toInt → gc2 = zRc e gc q.toInt.toNat) (y7 : 1 ≤ q.toInt → nd2.toInt = zRn 4 e nd.toInt q.toInt.toNat ∧ ns2.toInt = zRn 5 e ns.toInt q.toInt.toNat ∧ na2.toInt = zRat e na.toInt q.toInt.toNat) (y8 : q.toInt < 1 → (∀ j : Nat, j < 3 → gc2 j = gc j) ∧ nd2 = nd ∧ ns2 = ns ∧ na2 = na) : zNu de2 a2 se2 tr sd fc2 nd2 na2 ns2 nt nsd gc2 ∧ a2.toInt ≤ sz2.toInt ∧ 0 ≤ se2.toInt ∧ se2.toInt ≤ 300 := by
  obtain ⟨h1, h2, h3, h4, h5, h6⟩ := h
  rw [← hr] at y6 y7 y8
  by_cases c : 1 ≤ r.toInt
  · have hd := hd c
    obtain ⟨b1, b2⟩ := hb c
    obtain ⟨u1, u2, u3⟩ := x7 c
    obtain ⟨v1, v2, v3⟩ := y7 c
    refine ⟨⟨?_, ?_, ?_, h4, h5, fun j hj => ?_⟩, by omega, by omega⟩
    · rw [u1, v1]; exact zRn_sm hd h1
    · rw [u3, v3]; exact zRat_sm hd h2
    · rw [u2, v2]; exact zRn_sm hd h3
    · rw [x6 c j hj, y6 c]; exact zRc_sm hd h6 j hj
  · obtain ⟨rfl, rfl, rfl, rfl⟩ := x8 (by omega)
    obtain ⟨v0, rfl, rfl, rfl⟩ := y8 (by omega)
    exact ⟨⟨h1, h2, h3, h4, h5, fun j hj => (h6 j hj).trans (v0 j hj).symm⟩, by rw [hz (by omega)]; exact ha, hse⟩
theorem zNu_image {de a se tr sd nd na ns nt nsd kd ka ks kt ksd : Int32} {fc gc kfc ge : Nat → Int32} (h : zNu de a se tr sd fc nd na ns nt nsd gc) (x : kd = de ∧ kt = tr ∧ ks = se ∧ ksd = sd ∧ ka = a) (x1 : ∀ j : Nat, j < 3 → kfc j = fc j) (y0 : ge 110 = nd ∧ ge 109 = na ∧ ge 112 = ns ∧ ge 111 = nt ∧ ge 115 = nsd) (y1 : ∀ j : Nat, j < 3 → ge (104 + j) = gc j) : zNk kd ka ks kt ksd kfc ge := by
  obtain ⟨h1, h2, h3, h4, h5, h6⟩ := h
  obtain ⟨rfl, rfl, rfl, rfl, rfl⟩ := x
  obtain ⟨w1, w2, w3, w4, w5⟩ := y0
  exact ⟨by rw [w1]; exact h1, by rw [w2]; exact h2, by rw [w3]; exact h3, by rw [w4]; exact h4, by rw [w5]; exact h5, fun j hj => by rw [x1 j hj, y1 j hj]; exact h6 j hj⟩
theorem zNu_rest {de a se tr sd nd na ns nt nsd kd ka ks kt ksd de2 a2 se2 tr2 sd2 nd2 na2 ns2 nt2 nsd2 im nik : Int32} {fc gc kfc ge fc2 gc2 : Nat → Int32} (h : zNu de a se tr sd fc nd na ns nt nsd gc) (hk : nik.toInt = 1 → zNk kd ka ks kt ksd kfc ge) (hi : im.toInt = nik.toInt) (hb : 0 ≤ nik.toInt ∧ nik.toInt ≤ 1) (x : (im.toInt = 0 ∧ de2 = de ∧ tr2 = tr ∧ se2 = se ∧ sd2 = sd ∧ a2 = a ∧ fc2 = fc) ∨ (im.toInt ≠ 0 ∧ de2 = kd ∧ tr2 = kt ∧ se2 = ks ∧ sd2 = ksd ∧ a2 = ka ∧ ∀ j : Nat, j < 3 → fc2 j = kfc j)) (y : (nik.toInt = 0 ∧ nd2 = nd ∧ nt2 = nt ∧ ns2 = ns ∧ nsd2 = nsd ∧ na2 = na ∧ gc2 = gc) ∨ (nik.toInt ≠ 0 ∧ nd2 = ge 110 ∧ nt2 = ge 111 ∧ ns2 = ge 112 ∧ nsd2 = ge 115 ∧ na2 = ge 109 ∧ ∀ j : Nat, j < 3 → gc2 j = ge (104 + j))) : zNu de2 a2 se2 tr2 sd2 fc2 nd2 na2 ns2 nt2 nsd2 gc2 := by
  rcases x with ⟨x0, rfl, rfl, rfl, rfl, rfl, rfl⟩ | ⟨x0, rfl, rfl, rfl, rfl, rfl, x1⟩ <;> rcases y with ⟨y0, rfl, rfl, rfl, rfl, rfl, rfl⟩ | ⟨y0, rfl, rfl, rfl, rfl, rfl, y1⟩
  · exact h
  · omega
  · omega
  · obtain ⟨k1, k2, k3, k4, k5, k6⟩ := hk (by omega)
    exact ⟨k1, k2, k3, k4, k5, fun j hj => by rw [x1 j hj, y1 j hj]; exact k6 j hj⟩
/-! what the calls ahead and in truth answer in both worlds -/
theorem zNu_pulls {K A T gk ga gt fc gc : Nat → Int32} {hu nh cn np p r q de a se tr sd nd na ns nt nsd de2 se2 tr2 sd2 nd2 ns2 nt2 nsd2 : Int32} (h : zTp K A T gk ga gt hu nh) (hn : zNu de a se tr sd fc nd na ns nt nsd gc) (hc : cn.toInt = np.toInt) (h8 : cn.toInt ≤ 8) (hse : 0 ≤ se.toInt ∧ se.toInt ≤ 300) (hT : ∀ j : Nat, 0 ≤ (gt j).toInt)
    (x : ((p.toInt < 0 ∨ cn.toInt ≤ p.toInt) ∧ r.toInt = -1 ∧ de2 = de ∧ se2 = se ∧ tr2 = tr ∧ sd2 = sd) ∨ ((0 ≤ p.toInt ∧ p.toInt < cn.toInt) ∧ ((¬ (1 ≤ de.toInt ∧ (T p.toNatClampNeg).toInt ≤ se.toInt) ∧ r.toInt = -6 ∧ de2 = de ∧ se2 = se ∧ tr2 = tr ∧ sd2 = sd) ∨ ((1 ≤ de.toInt ∧ (T p.toNatClampNeg).toInt ≤ se.toInt) ∧ zP1 (K p.toNatClampNeg).toInt (A p.toNatClampNeg).toInt (T p.toNatClampNeg).toInt hu.toInt (de.toInt, se.toInt, tr, sd) = (de2.toInt, se2.toInt, tr2, sd2) ∧ r.toInt = de2.toInt))))
    (y : ((p.toInt < 0 ∨ np.toInt ≤ p.toInt) ∧ q.toInt = -1 ∧ nd2 = nd ∧ ns2 = ns ∧ nt2 = nt ∧ nsd2 = nsd) ∨ ((0 ≤ p.toInt ∧ p.toInt < np.toInt) ∧ ((¬ (1 ≤ nd.toInt ∧ (gt p.toNatClampNeg).toInt ≤ ns.toInt) ∧ q.toInt = -6 ∧ nd2 = nd ∧ ns2 = ns ∧ nt2 = nt ∧ nsd2 = nsd) ∨ ((1 ≤ nd.toInt ∧ (gt p.toNatClampNeg).toInt ≤ ns.toInt) ∧ zP1 (gk p.toNatClampNeg).toInt (ga p.toNatClampNeg).toInt (gt p.toNatClampNeg).toInt nh.toInt (nd.toInt, ns.toInt, nt, nsd) = (nd2.toInt, ns2.toInt, nt2, nsd2) ∧ q.toInt = nd2.toInt)))) : zNu de2 a se2 tr2 sd2 fc nd2 na ns2 nt2 nsd2 gc ∧ r.toInt = q.toInt ∧ 0 ≤ se2.toInt ∧ se2.toInt ≤ 300 := by
  obtain ⟨k1, k2⟩ := h
  obtain ⟨h1, h2, h3, h4, h5, h6⟩ := hn
  rcases x with ⟨x0, x1, rfl, rfl, rfl, rfl⟩ | ⟨x0, x⟩ <;> rcases y with ⟨y0, y1, rfl, rfl, rfl, rfl⟩ | ⟨y0, y⟩
  · exact ⟨⟨h1, h2, h3, h4, h5, h6⟩, by omega, hse⟩
  · omega
  · omega
  · obtain ⟨z1, z2, z3⟩ := k1 p.toNatClampNeg (by have : p.toNatClampNeg = p.toInt.toNat := rfl; omega)
    have t0 := hT p.toNatClampNeg
    rw [z1, z2, z3, k2, h1, h3, h4, h5] at x
    rcases x with ⟨x1, x2, rfl, rfl, x5, x6⟩ | ⟨x1, x2, x3⟩ <;> rcases y with ⟨y1, y2, rfl, rfl, y5, y6⟩ | ⟨y1, y2, y3⟩
    · rw [x5, x6, y5, y6]
      exact ⟨⟨h1, h2, h3, rfl, rfl, h6⟩, by omega, hse⟩
    · exact absurd y1 x1
    · exact absurd x1 y1
    · have e := x2.symm.trans y2
      simp only [Prod.mk.injEq] at e
      obtain ⟨e1, e2, e3, e4⟩ := e
      have e5 := congrArg (fun z => z.2.1) x2
      have e6 : ns.toInt - (gt p.toNatClampNeg).toInt = se2.toInt := e5
      exact ⟨⟨e1, h2, e2, e3, e4, h6⟩, by omega, by omega, by omega⟩
theorem zNu_close {fl fs gl gs fc gc : Nat → Int32} {gp ng sz te r q de a se tr sd nd na ns nt nsd de2 a2 sd2 nd2 na2 nsd2 : Int32} (h : zTt fl fs gl gs gp ng) (hn : zNu de a se tr sd fc nd na ns nt nsd gc) (hs : sz.toInt = te.toInt) (h4 : 4 ≤ sz.toInt ∧ sz.toInt ≤ 40) (ha : 0 ≤ a.toInt ∧ a.toInt ≤ sz.toInt) (hd : 0 ≤ de.toInt ∧ de.toInt ≤ 24)
    (x : (de.toInt ≠ 0 ∧ r.toInt = -6 ∧ a2 = a ∧ de2 = de ∧ sd2 = sd) ∨ (de.toInt = 0 ∧ zCz fl fs gp.toInt sz.toInt (sz.toInt - a.toInt).toNat a.toInt de.toInt sd = (a2.toInt, de2.toInt, sd2) ∧ r.toInt = a2.toInt)) (y : (nd.toInt ≠ 0 ∧ q.toInt = -6 ∧ na2 = na ∧ nd2 = nd ∧ nsd2 = nsd) ∨ (nd.toInt = 0 ∧ zCz gl gs ng.toInt te.toInt (te.toInt - na.toInt).toNat na.toInt nd.toInt nsd = (na2.toInt, nd2.toInt, nsd2) ∧ q.toInt = na2.toInt)) : zNu de2 a2 se tr sd2 fc nd2 na2 ns nt nsd2 gc ∧ r.toInt = q.toInt ∧ a2.toInt ≤ sz.toInt := by
  obtain ⟨t1, t2, t3⟩ := h
  obtain ⟨h1, h2, h3, h4', h5, h6⟩ := hn
  rcases x with ⟨x0, x1, rfl, rfl, x2⟩ | ⟨x0, x1, x2⟩ <;> rcases y with ⟨y0, y1, rfl, rfl, y2⟩ | ⟨y0, y1, y2⟩
  · exact ⟨⟨h1, h2, h3, h4', by rw [x2, y2]; exact h5, h6⟩, by omega, ha.2⟩
  · omega
  · omega
  · rw [← t3, ← hs, ← h1, ← h2, ← h5, ← zCz_congr t1 t2 h4.2 _ _ _ _ ha.1] at y1
    have e := x1.symm.trans y1
    simp only [Prod.mk.injEq] at e
    obtain ⟨e1, e2, e3⟩ := e
    have rg := (zCz_rg (l := fl) (s := fs) (g := gp.toInt) (n := sz.toInt) (sz.toInt - a.toInt).toNat a.toInt de.toInt sd ha.1 (by omega) hd).1.2
    rw [x1] at rg
    exact ⟨⟨e2, e1, h3, h4', e3, h6⟩, by omega, rg⟩
theorem zNu_closed {fl fs gl gs fc gc : Nat → Int32} {gp ng sz te r q de a se tr sd nd na ns nt nsd : Int32} (h : zTt fl fs gl gs gp ng) (hn : zNu de a se tr sd fc nd na ns nt nsd gc) (hs : sz.toInt = te.toInt) (h4 : 4 ≤ sz.toInt ∧ sz.toInt ≤ 40) (ha : 0 ≤ a.toInt) (x : r.toInt = zRu fl fs gp.toInt sz.toInt (sz.toInt - a.toInt).toNat a.toInt) (y : q.toInt = zRu gl gs ng.toInt te.toInt (te.toInt - na.toInt).toNat na.toInt) : r.toInt = q.toInt := by
  obtain ⟨t1, t2, t3⟩ := h
  rw [x, y, ← t3, ← hs, ← hn.2.1]
  exact zRu_congr t1 t2 h4.2 _ _ ha
theorem zNu_winter {K A T gk ga gt fl fs gl gs fc gc : Nat → Int32} {hu nh cn np gp ng sz te n r q de a se tr sd nd na ns nt nsd de2 a2 se2 tr2 sd2 nd2 na2 ns2 nt2 nsd2 : Int32} (hk : zTp K A T gk ga gt hu nh) (h : zTt fl fs gl gs gp ng) (hn : zNu de a se tr sd fc nd na ns nt nsd gc) (hc : cn.toInt = np.toInt) (h8 : cn.toInt ≤ 8) (hs : sz.toInt = te.toInt) (h4 : 4 ≤ sz.toInt ∧ sz.toInt ≤ 40)
    (x : ((n.toInt < 1 ∨ 60 < n.toInt) ∧ r.toInt = -6 ∧ a2 = a ∧ de2 = de ∧ se2 = se ∧ tr2 = tr ∧ sd2 = sd) ∨ ((1 ≤ n.toInt ∧ n.toInt ≤ 60) ∧ zWi fl fs gp.toInt sz.toInt K A T cn.toInt.toNat hu.toInt n.toInt.toNat 0 a.toInt de.toInt se.toInt tr sd = (r.toInt, a2.toInt, de2.toInt, se2.toInt, tr2, sd2)))
    (y : ((n.toInt < 1 ∨ 60 < n.toInt) ∧ q.toInt = -6 ∧ na2 = na ∧ nd2 = nd ∧ ns2 = ns ∧ nt2 = nt ∧ nsd2 = nsd) ∨ ((1 ≤ n.toInt ∧ n.toInt ≤ 60) ∧ zWi gl gs ng.toInt te.toInt gk ga gt np.toInt.toNat nh.toInt n.toInt.toNat 0 na.toInt nd.toInt ns.toInt nt nsd = (q.toInt, na2.toInt, nd2.toInt, ns2.toInt, nt2, nsd2))) : zNu de2 a2 se2 tr2 sd2 fc nd2 na2 ns2 nt2 nsd2 gc ∧ r.toInt = q.toInt := by
  obtain ⟨k1, k2⟩ := hk
  obtain ⟨t1, t2, t3⟩ := h
  obtain ⟨h1, h2, h3, h4', h5, h6⟩ := hn
  rcases x with ⟨x0, x1, rfl, rfl, rfl, x2, x3⟩ | ⟨x0, x1⟩ <;> rcases y with ⟨y0, y1, rfl, rfl, rfl, y2, y3⟩ | ⟨y0, y1⟩
  · exact ⟨⟨h1, h2, h3, by rw [x2, y2]; exact h4', by rw [x3, y3]; exact h5, h6⟩, by omega⟩
  · omega
  · omega
  · rw [← t3, ← hs, ← hc, ← k2, ← h1, ← h2, ← h3, ← h4', ← h5, ← zWi_congr (h := hu.toInt) t1 t2 ⟨by omega, h4.2⟩ (fun p hp => k1 p (by omega))] at y1
    have e := x1.symm.trans y1
    simp only [Prod.mk.injEq] at e
    obtain ⟨e0, e1, e2, e3, e4, e5⟩ := e
    exact ⟨⟨e2, e1, e3, e4, e5, h6⟩, e0⟩
theorem zNu_cases {K A T gk ga gt fc gc : Nat → Int32} {hu nh cn np n w r q de a se tr sd nd na ns nt nsd : Int32} (hk : zTp K A T gk ga gt hu nh) (hn : zNu de a se tr sd fc nd na ns nt nsd gc) (hc : cn.toInt = np.toInt) (h8 : cn.toInt ≤ 8)
    (x : ((w.toInt < 0 ∨ 2 < w.toInt) ∧ r.toInt = -15) ∨ ((0 ≤ w.toInt ∧ w.toInt ≤ 2) ∧ (((n.toInt < 0 ∨ 4 < n.toInt) ∧ r.toInt = -16) ∨ ((0 ≤ n.toInt ∧ n.toInt ≤ 4) ∧ ((w.toInt = 1 ∧ r.toInt = zNq K A T cn.toInt.toNat hu.toInt n.toInt de.toInt se.toInt) ∨ (w.toInt ≠ 1 ∧ r.toInt = zM K A T cn.toInt.toNat hu.toInt (if w.toInt = 2 then 0 else 1) n.toInt.toNat de.toInt se.toInt))))))
    (y : ((w.toInt < 0 ∨ 2 < w.toInt) ∧ q.toInt = -15) ∨ ((0 ≤ w.toInt ∧ w.toInt ≤ 2) ∧ (((n.toInt < 0 ∨ 4 < n.toInt) ∧ q.toInt = -16) ∨ ((0 ≤ n.toInt ∧ n.toInt ≤ 4) ∧ ((w.toInt = 1 ∧ q.toInt = zNq gk ga gt np.toInt.toNat nh.toInt n.toInt nd.toInt ns.toInt) ∨ (w.toInt ≠ 1 ∧ q.toInt = zM gk ga gt np.toInt.toNat nh.toInt (if w.toInt = 2 then 0 else 1) n.toInt.toNat nd.toInt ns.toInt)))))) : r.toInt = q.toInt := by
  obtain ⟨k1, k2⟩ := hk
  have kk : ∀ p : Nat, p < cn.toInt.toNat → K p = gk p ∧ A p = ga p ∧ T p = gt p := fun p hp => k1 p (by omega)
  rw [← hc, ← k2, ← hn.1, ← hn.2.2.1, ← zNq_congr kk, ← zM_congr kk] at y
  rcases x with x | ⟨x0, x⟩ <;> rcases y with y | ⟨y0, y⟩
  · omega
  · omega
  · omega
  · rcases x with x | ⟨x1, x⟩ <;> rcases y with y | ⟨y1, y⟩
    · omega
    · omega
    · omega
    · rcases x with ⟨x2, x⟩ | ⟨x2, x⟩ <;> rcases y with ⟨y2, y⟩ | ⟨y2, y⟩
      · exact x.trans y.symm
      · omega
      · omega
      · exact x.trans y.symm
theorem zNu_line {K A T gk ga gt fc gc : Nat → Int32} {hu nh cn np n w r q de a se tr sd nd na ns nt nsd : Int32} (hk : zTp K A T gk ga gt hu nh) (hn : zNu de a se tr sd fc nd na ns nt nsd gc) (hc : cn.toInt = np.toInt) (h8 : cn.toInt ≤ 8)
    (x : ((w.toInt < 0 ∨ 1 < w.toInt) ∧ r.toInt = -15) ∨ ((0 ≤ w.toInt ∧ w.toInt ≤ 1) ∧ (((n.toInt < 0 ∨ 4 < n.toInt) ∧ r.toInt = -16) ∨ ((0 ≤ n.toInt ∧ n.toInt ≤ 4) ∧ ((w.toInt = 1 ∧ r.toInt = zLr K A T cn.toInt.toNat hu.toInt (fc 0).toInt (fc 1).toInt (fc 2).toInt n.toInt.toNat de.toInt se.toInt) ∨ (w.toInt = 0 ∧ r.toInt = zLn K A T cn.toInt.toNat hu.toInt (fc 0).toInt (fc 1).toInt (fc 2).toInt n.toInt.toNat de.toInt se.toInt))))))
    (y : ((w.toInt < 0 ∨ 1 < w.toInt) ∧ q.toInt = -15) ∨ ((0 ≤ w.toInt ∧ w.toInt ≤ 1) ∧ (((n.toInt < 0 ∨ 4 < n.toInt) ∧ q.toInt = -16) ∨ ((0 ≤ n.toInt ∧ n.toInt ≤ 4) ∧ ((w.toInt = 1 ∧ q.toInt = zLr gk ga gt np.toInt.toNat nh.toInt (gc 0).toInt (gc 1).toInt (gc 2).toInt n.toInt.toNat nd.toInt ns.toInt) ∨ (w.toInt = 0 ∧ q.toInt = zLn gk ga gt np.toInt.toNat nh.toInt (gc 0).toInt (gc 1).toInt (gc 2).toInt n.toInt.toNat nd.toInt ns.toInt)))))) : r.toInt = q.toInt := by
  obtain ⟨k1, k2⟩ := hk
  have kk : ∀ p : Nat, p < cn.toInt.toNat → K p = gk p ∧ A p = ga p ∧ T p = gt p := fun p hp => k1 p (by omega)
  obtain ⟨h1, h2, h3, h4, h5, h6⟩ := hn
  rw [← hc, ← k2, ← h1, ← h3, ← h6 0 (by decide), ← h6 1 (by decide), ← h6 2 (by decide), ← zLr_congr kk, ← zLn_congr kk] at y
  rcases x with x | ⟨x0, x⟩ <;> rcases y with y | ⟨y0, y⟩
  · omega
  · omega
  · omega
  · rcases x with x | ⟨x1, x⟩ <;> rcases y with y | ⟨y1, y⟩
    · omega
    · omega
    · omega
    · rcases x with ⟨x2, x⟩ | ⟨x2, x⟩ <;> rcases y with ⟨y2, y⟩ | ⟨y2, y⟩
      · exact x.trans y.symm
      · omega
      · omega
      · exact x.trans y.symm
theorem zNu_haste {K A T gk ga gt fc gc : Nat → Int32} {hu nh cn np n w r q de a se tr sd nd na ns nt nsd : Int32} (hk : zTp K A T gk ga gt hu nh) (hn : zNu de a se tr sd fc nd na ns nt nsd gc) (hc : cn.toInt = np.toInt) (h8 : cn.toInt ≤ 8)
    (x : ((w.toInt < 0 ∨ 1 < w.toInt) ∧ r.toInt = -5) ∨ ((0 ≤ w.toInt ∧ w.toInt ≤ 1) ∧ (((n.toInt < 0 ∨ 4 < n.toInt) ∧ r.toInt = -6) ∨ ((0 ≤ n.toInt ∧ n.toInt ≤ 4) ∧ ((w.toInt = 1 ∧ r.toInt = (if (zHv K A T cn.toInt.toNat n.toInt.toNat de.toInt se.toInt) 9 < (zHv K A T cn.toInt.toNat n.toInt.toNat de.toInt se.toInt) 0 then 1 else 0)) ∨ (w.toInt = 0 ∧ r.toInt = (zHs (zHv K A T cn.toInt.toNat n.toInt.toNat de.toInt se.toInt) 9 : Nat)))))))
    (y : ((w.toInt < 0 ∨ 1 < w.toInt) ∧ q.toInt = -5) ∨ ((0 ≤ w.toInt ∧ w.toInt ≤ 1) ∧ (((n.toInt < 0 ∨ 4 < n.toInt) ∧ q.toInt = -6) ∨ ((0 ≤ n.toInt ∧ n.toInt ≤ 4) ∧ ((w.toInt = 1 ∧ q.toInt = (if (zHv gk ga gt np.toInt.toNat n.toInt.toNat nd.toInt ns.toInt) 9 < (zHv gk ga gt np.toInt.toNat n.toInt.toNat nd.toInt ns.toInt) 0 then 1 else 0)) ∨ (w.toInt = 0 ∧ q.toInt = (zHs (zHv gk ga gt np.toInt.toNat n.toInt.toNat nd.toInt ns.toInt) 9 : Nat))))))) : r.toInt = q.toInt := by
  obtain ⟨k1, k2⟩ := hk
  have kk : ∀ p : Nat, p < cn.toInt.toNat → K p = gk p ∧ A p = ga p ∧ T p = gt p := fun p hp => k1 p (by omega)
  have e : zHv gk ga gt np.toInt.toNat n.toInt.toNat nd.toInt ns.toInt = zHv K A T cn.toInt.toNat n.toInt.toNat de.toInt se.toInt := by
    funext h
    unfold zHv
    rw [← hc, ← hn.1, ← hn.2.2.1, ← zM_congr kk]
  rw [e] at y
  rcases x with x | ⟨x0, x⟩ <;> rcases y with y | ⟨y0, y⟩
  · omega
  · omega
  · omega
  · rcases x with x | ⟨x1, x⟩ <;> rcases y with y | ⟨y1, y⟩
    · omega
    · omega
    · omega
    · rcases x with ⟨x2, x⟩ | ⟨x2, x⟩ <;> rcases y with ⟨y2, y⟩ | ⟨y2, y⟩
      · exact x.trans y.symm
      · omega
      · omega
      · exact x.trans y.symm
theorem zNu_pullOf {K A T gk ga gt fc gc : Nat → Int32} {hu nh cn np p w r q de a se tr sd nd na ns nt nsd : Int32} (hk : zTp K A T gk ga gt hu nh) (hn : zNu de a se tr sd fc nd na ns nt nsd gc) (hc : cn.toInt = np.toInt) (h8 : cn.toInt ≤ 8)
    (x : ((p.toInt < 0 ∨ cn.toInt ≤ p.toInt) ∧ r.toInt = -5) ∨ ((0 ≤ p.toInt ∧ p.toInt < cn.toInt) ∧ (((w.toInt < 0 ∨ 4 < w.toInt) ∧ r.toInt = -5) ∨ ((0 ≤ w.toInt ∧ w.toInt ≤ 4) ∧ r.toInt = (if w.toInt = 0 then (K p.toNatClampNeg).toInt else if w.toInt = 1 then (A p.toNatClampNeg).toInt else if w.toInt = 2 then (T p.toNatClampNeg).toInt else if w.toInt = 3 then zStp (K p.toNatClampNeg).toInt (A p.toNatClampNeg).toInt else if 1 ≤ de.toInt ∧ (T p.toNatClampNeg).toInt ≤ se.toInt then 1 else 0)))))
    (y : ((p.toInt < 0 ∨ np.toInt ≤ p.toInt) ∧ q.toInt = -5) ∨ ((0 ≤ p.toInt ∧ p.toInt < np.toInt) ∧ (((w.toInt < 0 ∨ 4 < w.toInt) ∧ q.toInt = -5) ∨ ((0 ≤ w.toInt ∧ w.toInt ≤ 4) ∧ q.toInt = (if w.toInt = 0 then (gk p.toNatClampNeg).toInt else if w.toInt = 1 then (ga p.toNatClampNeg).toInt else if w.toInt = 2 then (gt p.toNatClampNeg).toInt else if w.toInt = 3 then zStp (gk p.toNatClampNeg).toInt (ga p.toNatClampNeg).toInt else if 1 ≤ nd.toInt ∧ (gt p.toNatClampNeg).toInt ≤ ns.toInt then 1 else 0))))) : r.toInt = q.toInt := by
  obtain ⟨k1, k2⟩ := hk
  rcases x with x | ⟨x0, x⟩ <;> rcases y with y | ⟨y0, y⟩
  · omega
  · omega
  · omega
  · obtain ⟨z1, z2, z3⟩ := k1 p.toNatClampNeg (by have : p.toNatClampNeg = p.toInt.toNat := rfl; omega)
    rw [z1, z2, z3, hn.1, hn.2.2.1] at x
    rcases x with x | ⟨x1, x⟩ <;> rcases y with y | ⟨y1, y⟩
    · omega
    · omega
    · omega
    · exact x.trans y.symm
theorem zNu_judge {K A T gk ga gt fc gc : Nat → Int32} {c e : Nat → Int64} {hu nh cn np n s r q de a se tr sd nd na ns nt nsd : Int32} {h1 s1 h2 s2 : Int} (hk : zTp K A T gk ga gt hu nh) (hn : zNu de a se tr sd fc nd na ns nt nsd gc) (hc : cn.toInt = np.toInt) (h8 : cn.toInt ≤ 8) (hb : (0 ≤ s.toInt ∧ s.toInt ≤ 7) → (h1 = -1 ∧ h2 = -1) ∨ ((h1 ≠ -1 ∧ h1 < 100) ∧ h2 ≠ -1 ∧ h2 < 100) ∨ (100 ≤ h1 ∧ 100 ≤ h2 ∧ s1 = s2 ∧ ∀ i : Int, 0 ≤ i → i < s1 → zTl c i = zTl e i))
    (x : ((s.toInt < 0 ∨ 7 < s.toInt) ∧ r.toInt = -11) ∨ ((0 ≤ s.toInt ∧ s.toInt ≤ 7) ∧ ((h1 = -1 ∧ r.toInt = -13) ∨ (h1 ≠ -1 ∧ h1 < 100 ∧ r.toInt = -12) ∨ (100 ≤ h1 ∧ ((n.toInt < 0 ∧ r.toInt = -14) ∨ (0 ≤ n.toInt ∧ s1 < n.toInt ∧ r.toInt = -15) ∨ (0 ≤ n.toInt ∧ n.toInt ≤ s1 ∧ 20 < n.toInt ∧ r.toInt = -16) ∨ ((0 ≤ n.toInt ∧ n.toInt ≤ s1 ∧ n.toInt ≤ 20) ∧ r.toInt = zJg K A T cn.toInt hu.toInt c n.toInt.toNat 0 de.toInt se.toInt))))))
    (y : ((s.toInt < 0 ∨ 7 < s.toInt) ∧ q.toInt = -11) ∨ ((0 ≤ s.toInt ∧ s.toInt ≤ 7) ∧ ((h2 = -1 ∧ q.toInt = -13) ∨ (h2 ≠ -1 ∧ h2 < 100 ∧ q.toInt = -12) ∨ (100 ≤ h2 ∧ ((n.toInt < 0 ∧ q.toInt = -14) ∨ (0 ≤ n.toInt ∧ s2 < n.toInt ∧ q.toInt = -15) ∨ (0 ≤ n.toInt ∧ n.toInt ≤ s2 ∧ 20 < n.toInt ∧ q.toInt = -16) ∨ ((0 ≤ n.toInt ∧ n.toInt ≤ s2 ∧ n.toInt ≤ 20) ∧ q.toInt = zJg gk ga gt np.toInt nh.toInt e n.toInt.toNat 0 nd.toInt ns.toInt)))))) : r.toInt = q.toInt := by
  obtain ⟨k1, k2⟩ := hk
  rcases x with x | ⟨x0, x⟩
  · rcases y with y | ⟨y0, y⟩
    · omega
    · omega
  · rcases y with y | ⟨y0, y⟩
    · omega
    · rcases hb x0 with b | b | ⟨b1, b2, b3, b4⟩
      · omega
      · omega
      · have x : (n.toInt < 0 ∧ r.toInt = -14) ∨ (0 ≤ n.toInt ∧ s1 < n.toInt ∧ r.toInt = -15) ∨ (0 ≤ n.toInt ∧ n.toInt ≤ s1 ∧ 20 < n.toInt ∧ r.toInt = -16) ∨ ((0 ≤ n.toInt ∧ n.toInt ≤ s1 ∧ n.toInt ≤ 20) ∧ r.toInt = zJg K A T cn.toInt hu.toInt c n.toInt.toNat 0 de.toInt se.toInt) := by
          rcases x with x | x | x
          · omega
          · omega
          · exact x.2
        have y : (n.toInt < 0 ∧ q.toInt = -14) ∨ (0 ≤ n.toInt ∧ s2 < n.toInt ∧ q.toInt = -15) ∨ (0 ≤ n.toInt ∧ n.toInt ≤ s2 ∧ 20 < n.toInt ∧ q.toInt = -16) ∨ ((0 ≤ n.toInt ∧ n.toInt ≤ s2 ∧ n.toInt ≤ 20) ∧ q.toInt = zJg gk ga gt np.toInt nh.toInt e n.toInt.toNat 0 nd.toInt ns.toInt) := by
          rcases y with y | y | y
          · omega
          · omega
          · exact y.2
        by_cases g : 0 ≤ n.toInt ∧ n.toInt ≤ s1 ∧ n.toInt ≤ 20
        · have ej := zJg_congr (K := K) (A := A) (T := T) (K2 := gk) (A2 := ga) (T2 := gt) (N := cn.toInt) (h := hu.toInt) (c := c) (e := e) h8 k1 n.toInt.toNat 0 de.toInt se.toInt (fun j p1 p2 => b4 j p1 (by omega))
          rw [← hc, ← k2, ← hn.1, ← hn.2.2.1, ← ej] at y
          omega
        · omega
theorem zRel_jq {he si gh go gs gd : Nat → Int32} {fe : Nat → Nat → Int64} {gc : Nat → Int64} {j : Nat} {s : Int32} (h : zRel he si fe gh go gs gd gc) (hd : zHS gh gd) (hg : zRg gh 0 2) (ho : zRg go 0 3) (hsi : zRg si 0 160) (hj : j < 8) (hq : 0 ≤ s.toInt → s.toInt ≤ 7 → j = s.toNatClampNeg) : (0 ≤ s.toInt ∧ s.toInt ≤ 7) → ((he j).toInt = -1 ∧ zHc (gh s.toNatClampNeg).toInt = -1) ∨ (((he j).toInt ≠ -1 ∧ (he j).toInt < 100) ∧ zHc (gh s.toNatClampNeg).toInt ≠ -1 ∧ zHc (gh s.toNatClampNeg).toInt < 100) ∨ (100 ≤ (he j).toInt ∧ 100 ≤ zHc (gh s.toNatClampNeg).toInt ∧ (si j).toInt = (gs s.toNatClampNeg).toInt ∧ ∀ i : Int, 0 ≤ i → i < (si j).toInt → zTl (fe j) i = zTl (zRw gc (160 * s.toInt)) i) := by
  intro hs
  obtain rfl := hq hs.1 hs.2
  have e1 : s.toNatClampNeg = s.toInt.toNat := rfl
  have o := ho s.toNatClampNeg
  have k1 := hsi s.toNatClampNeg
  rcases zRel_hc h hd hg hj with ⟨a, b, c⟩ | ⟨a, b, c, d⟩ | ⟨a, b, c, -⟩
  · exact Or.inl ⟨b, c⟩
  · refine Or.inr (Or.inr ⟨by omega, by omega, d, fun i h1 h2 => ?_⟩)
    unfold zTl zRw
    rw [((h _ hj).2.1 a).2.2 i.toNat (by omega)]
    congr 3
    omega
  · exact Or.inr (Or.inl ⟨by omega, by omega⟩)
end
section

end
section
/-! the words of the tables, each once: that it is there, and a good one -/
theorem zt_0 {w : Cond} (h : w ∈ tables_1_1) : w ∈ lw_tbl := List.mem_append_right _ (show w ∈ tables_1 from List.mem_append_left _ h)
theorem zt_1 {w : Cond} (h : w ∈ tables_1_2) : w ∈ lw_tbl := List.mem_append_right _ (show w ∈ tables_1 from List.mem_append_right _ (List.mem_append_left _ h))
theorem zt_2 {w : Cond} (h : w ∈ tables_1_3) : w ∈ lw_tbl := List.mem_append_right _ (show w ∈ tables_1 from List.mem_append_right _ (List.mem_append_right _ (List.mem_append_left _ h)))
theorem zt_3 {w : Cond} (h : w ∈ tables_1_4) : w ∈ lw_tbl := List.mem_append_right _ (show w ∈ tables_1 from List.mem_append_right _ (List.mem_append_right _ (List.mem_append_right _ (List.mem_append_left _ h))))
theorem zt_4 {w : Cond} (h : w ∈ tables_1_5) : w ∈ lw_tbl := List.mem_append_right _ (show w ∈ tables_1 from List.mem_append_right _ (List.mem_append_right _ (List.mem_append_right _ (List.mem_append_right _ (List.mem_append_left _ h)))))
theorem zt_5 {w : Cond} (h : w ∈ tables_1_6) : w ∈ lw_tbl := List.mem_append_right _ (show w ∈ tables_1 from List.mem_append_right _ (List.mem_append_right _ (List.mem_append_right _ (List.mem_append_right _ (List.mem_append_right _ (h))))))
theorem zp_1 (i : Nat) {w : Cond} (e : (lw_privs_1.map (fun q => Cond.selects q.1.cls q.1 q.1))[i]? = some w) : w ∈ lw_tbl := by
  have h : w ∈ lw_privs_1.map (fun q => Cond.selects q.1.cls q.1 q.1) := List.mem_of_getElem? e
  refine List.mem_append_left _ ?_
  obtain ⟨q, hq, rfl⟩ := List.mem_map.mp h
  exact List.mem_map.mpr ⟨q, show q ∈ lw_privs from List.mem_append_left _ hq, rfl⟩
theorem zp_2 (i : Nat) {w : Cond} (e : (lw_privs_2.map (fun q => Cond.selects q.1.cls q.1 q.1))[i]? = some w) : w ∈ lw_tbl := by
  have h : w ∈ lw_privs_2.map (fun q => Cond.selects q.1.cls q.1 q.1) := List.mem_of_getElem? e
  refine List.mem_append_left _ ?_
  obtain ⟨q, hq, rfl⟩ := List.mem_map.mp h
  exact List.mem_map.mpr ⟨q, show q ∈ lw_privs from List.mem_append_right _ (List.mem_append_left _ hq), rfl⟩
theorem zp_3 (i : Nat) {w : Cond} (e : (lw_privs_3.map (fun q => Cond.selects q.1.cls q.1 q.1))[i]? = some w) : w ∈ lw_tbl := by
  have h : w ∈ lw_privs_3.map (fun q => Cond.selects q.1.cls q.1 q.1) := List.mem_of_getElem? e
  refine List.mem_append_left _ ?_
  obtain ⟨q, hq, rfl⟩ := List.mem_map.mp h
  exact List.mem_map.mpr ⟨q, show q ∈ lw_privs from List.mem_append_right _ (List.mem_append_right _ (List.mem_append_left _ hq)), rfl⟩
theorem zp_4 (i : Nat) {w : Cond} (e : (lw_privs_4.map (fun q => Cond.selects q.1.cls q.1 q.1))[i]? = some w) : w ∈ lw_tbl := by
  have h : w ∈ lw_privs_4.map (fun q => Cond.selects q.1.cls q.1 q.1) := List.mem_of_getElem? e
  refine List.mem_append_left _ ?_
  obtain ⟨q, hq, rfl⟩ := List.mem_map.mp h
  exact List.mem_map.mpr ⟨q, show q ∈ lw_privs from List.mem_append_right _ (List.mem_append_right _ (List.mem_append_right _ (List.mem_append_left _ hq))), rfl⟩
theorem zp_5 (i : Nat) {w : Cond} (e : (lw_privs_5.map (fun q => Cond.selects q.1.cls q.1 q.1))[i]? = some w) : w ∈ lw_tbl := by
  have h : w ∈ lw_privs_5.map (fun q => Cond.selects q.1.cls q.1 q.1) := List.mem_of_getElem? e
  refine List.mem_append_left _ ?_
  obtain ⟨q, hq, rfl⟩ := List.mem_map.mp h
  exact List.mem_map.mpr ⟨q, show q ∈ lw_privs from List.mem_append_right _ (List.mem_append_right _ (List.mem_append_right _ (List.mem_append_right _ (hq)))), rfl⟩
theorem zl_nil : GoodIn lw_tbl [] := fun _ h => absurd h List.not_mem_nil
theorem zl_cons {w : Cond} {ws : List Cond} (a : w ∈ lw_tbl ∧ ((w.onTables && w.keeps) = true ∨ ∃ ty, w = .arrayClass ty)) (b : GoodIn lw_tbl ws) : GoodIn lw_tbl (w :: ws) := fun q h => (List.mem_cons.mp h).elim (fun e => e ▸ a) (b q)
theorem zg_0 : (Cond.code yX7_row cX7_row 5 (some .int)) ∈ lw_tbl ∧ ((((Cond.code yX7_row cX7_row 5 (some .int) : Cond)).onTables && ((Cond.code yX7_row cX7_row 5 (some .int) : Cond)).keeps) = true ∨ ∃ ty, (Cond.code yX7_row cX7_row 5 (some .int)) = .arrayClass ty) := ⟨zt_1 (List.mem_of_getElem? (i := 4) rfl), good_of_word rfl⟩
theorem zg_1 : (Cond.static yJ7_fill_d0a16) ∈ lw_tbl ∧ ((((Cond.static yJ7_fill_d0a16 : Cond)).onTables && ((Cond.static yJ7_fill_d0a16 : Cond)).keeps) = true ∨ ∃ ty, (Cond.static yJ7_fill_d0a16) = .arrayClass ty) := ⟨zt_1 (List.mem_of_getElem? (i := 21) rfl), good_of_word rfl⟩
theorem zg_2 : (Cond.methodLink RX4 22 yJ7_fill_d0a16) ∈ lw_tbl ∧ ((((Cond.methodLink RX4 22 yJ7_fill_d0a16 : Cond)).onTables && ((Cond.methodLink RX4 22 yJ7_fill_d0a16 : Cond)).keeps) = true ∨ ∃ ty, (Cond.methodLink RX4 22 yJ7_fill_d0a16) = .arrayClass ty) := ⟨zt_1 (List.mem_of_getElem? (i := 20) rfl), good_of_word rfl⟩
theorem zg_3 : (Cond.fieldLink RX4 9 "TheLiningsInIt$Shelf" "elements" "[J") ∈ lw_tbl ∧ ((((Cond.fieldLink RX4 9 "TheLiningsInIt$Shelf" "elements" "[J" : Cond)).onTables && ((Cond.fieldLink RX4 9 "TheLiningsInIt$Shelf" "elements" "[J" : Cond)).keeps) = true ∨ ∃ ty, (Cond.fieldLink RX4 9 "TheLiningsInIt$Shelf" "elements" "[J") = .arrayClass ty) := ⟨zt_0 (List.mem_of_getElem? (i := 199) rfl), good_of_word rfl⟩
theorem zg_4 : (Cond.fieldLink RX4 19 "TheLiningsInIt$Shelf" "size" "I") ∈ lw_tbl ∧ ((((Cond.fieldLink RX4 19 "TheLiningsInIt$Shelf" "size" "I" : Cond)).onTables && ((Cond.fieldLink RX4 19 "TheLiningsInIt$Shelf" "size" "I" : Cond)).keeps) = true ∨ ∃ ty, (Cond.fieldLink RX4 19 "TheLiningsInIt$Shelf" "size" "I") = .arrayClass ty) := ⟨zt_0 (List.mem_of_getElem? (i := 203) rfl), good_of_word rfl⟩
theorem zg_5 : (Cond.fieldLink RX4 15 "TheLiningsInIt$Shelf" "held" "I") ∈ lw_tbl ∧ ((((Cond.fieldLink RX4 15 "TheLiningsInIt$Shelf" "held" "I" : Cond)).onTables && ((Cond.fieldLink RX4 15 "TheLiningsInIt$Shelf" "held" "I" : Cond)).keeps) = true ∨ ∃ ty, (Cond.fieldLink RX4 15 "TheLiningsInIt$Shelf" "held" "I") = .arrayClass ty) := ⟨zt_0 (List.mem_of_getElem? (i := 201) rfl), good_of_word rfl⟩
theorem zg_6 : (Cond.code yX4_holdRow cX4_holdRow 3 none) ∈ lw_tbl ∧ ((((Cond.code yX4_holdRow cX4_holdRow 3 none : Cond)).onTables && ((Cond.code yX4_holdRow cX4_holdRow 3 none : Cond)).keeps) = true ∨ ∃ ty, (Cond.code yX4_holdRow cX4_holdRow 3 none) = .arrayClass ty) := ⟨zt_1 (List.mem_of_getElem? (i := 19) rfl), good_of_word rfl⟩
theorem zg_7 : (Cond.initialized RX4) ∈ lw_tbl ∧ ((((Cond.initialized RX4 : Cond)).onTables && ((Cond.initialized RX4 : Cond)).keeps) = true ∨ ∃ ty, (Cond.initialized RX4) = .arrayClass ty) := ⟨zt_0 (List.mem_of_getElem? (i := 7) rfl), good_of_word rfl⟩
theorem zg_8 : (Cond.selects RX4 yX4_holdRow yX4_holdRow) ∈ lw_tbl ∧ ((((Cond.selects RX4 yX4_holdRow yX4_holdRow : Cond)).onTables && ((Cond.selects RX4 yX4_holdRow yX4_holdRow : Cond)).keeps) = true ∨ ∃ ty, (Cond.selects RX4 yX4_holdRow yX4_holdRow) = .arrayClass ty) := ⟨zt_1 (List.mem_of_getElem? (i := 18) rfl), good_of_word rfl⟩
theorem zg_9 : (Cond.instanceMethod yX4_holdRow) ∈ lw_tbl ∧ ((((Cond.instanceMethod yX4_holdRow : Cond)).onTables && ((Cond.instanceMethod yX4_holdRow : Cond)).keeps) = true ∨ ∃ ty, (Cond.instanceMethod yX4_holdRow) = .arrayClass ty) := ⟨zt_1 (List.mem_of_getElem? (i := 17) rfl), good_of_word rfl⟩
theorem zg_10 : (Cond.methodLink RX7 71 yX4_holdRow) ∈ lw_tbl ∧ ((((Cond.methodLink RX7 71 yX4_holdRow : Cond)).onTables && ((Cond.methodLink RX7 71 yX4_holdRow : Cond)).keeps) = true ∨ ∃ ty, (Cond.methodLink RX7 71 yX4_holdRow) = .arrayClass ty) := ⟨zt_1 (List.mem_of_getElem? (i := 16) rfl), good_of_word rfl⟩
theorem zg_11 : (Cond.fieldLink RX7 46 "TheLiningsInIt" "refusals" "[I") ∈ lw_tbl ∧ ((((Cond.fieldLink RX7 46 "TheLiningsInIt" "refusals" "[I" : Cond)).onTables && ((Cond.fieldLink RX7 46 "TheLiningsInIt" "refusals" "[I" : Cond)).keeps) = true ∨ ∃ ty, (Cond.fieldLink RX7 46 "TheLiningsInIt" "refusals" "[I") = .arrayClass ty) := ⟨zt_0 (List.mem_of_getElem? (i := 219) rfl), good_of_word rfl⟩
theorem zg_12 : (Cond.code yX7_refuse cX7_refuse 2 (some .int)) ∈ lw_tbl ∧ ((((Cond.code yX7_refuse cX7_refuse 2 (some .int) : Cond)).onTables && ((Cond.code yX7_refuse cX7_refuse 2 (some .int) : Cond)).keeps) = true ∨ ∃ ty, (Cond.code yX7_refuse cX7_refuse 2 (some .int)) = .arrayClass ty) := ⟨zt_1 (List.mem_of_getElem? (i := 15) rfl), good_of_word rfl⟩
theorem zg_13 : (Cond.selects RX7 yX7_refuse yX7_refuse) ∈ lw_tbl ∧ ((((Cond.selects RX7 yX7_refuse yX7_refuse : Cond)).onTables && ((Cond.selects RX7 yX7_refuse yX7_refuse : Cond)).keeps) = true ∨ ∃ ty, (Cond.selects RX7 yX7_refuse yX7_refuse) = .arrayClass ty) := ⟨zp_1 1 (by decide +kernel), good_of_word rfl⟩
theorem zg_14 : (Cond.instanceMethod yX7_refuse) ∈ lw_tbl ∧ ((((Cond.instanceMethod yX7_refuse : Cond)).onTables && ((Cond.instanceMethod yX7_refuse : Cond)).keeps) = true ∨ ∃ ty, (Cond.instanceMethod yX7_refuse) = .arrayClass ty) := ⟨zt_1 (List.mem_of_getElem? (i := 14) rfl), good_of_word rfl⟩
theorem zg_15 : (Cond.methodLink RX7 63 yX7_refuse) ∈ lw_tbl ∧ ((((Cond.methodLink RX7 63 yX7_refuse : Cond)).onTables && ((Cond.methodLink RX7 63 yX7_refuse : Cond)).keeps) = true ∨ ∃ ty, (Cond.methodLink RX7 63 yX7_refuse) = .arrayClass ty) := ⟨zt_1 (List.mem_of_getElem? (i := 12) rfl), good_of_word rfl⟩
theorem zg_16 : (Cond.code yX7_within cX7_within 3 (some .boolean)) ∈ lw_tbl ∧ ((((Cond.code yX7_within cX7_within 3 (some .boolean) : Cond)).onTables && ((Cond.code yX7_within cX7_within 3 (some .boolean) : Cond)).keeps) = true ∨ ∃ ty, (Cond.code yX7_within cX7_within 3 (some .boolean)) = .arrayClass ty) := ⟨zt_1 (List.mem_of_getElem? (i := 11) rfl), good_of_word rfl⟩
theorem zg_17 : (Cond.static yX7_within) ∈ lw_tbl ∧ ((((Cond.static yX7_within : Cond)).onTables && ((Cond.static yX7_within : Cond)).keeps) = true ∨ ∃ ty, (Cond.static yX7_within) = .arrayClass ty) := ⟨zt_1 (List.mem_of_getElem? (i := 10) rfl), good_of_word rfl⟩
theorem zg_18 : (Cond.methodLink RX7 67 yX7_within) ∈ lw_tbl ∧ ((((Cond.methodLink RX7 67 yX7_within : Cond)).onTables && ((Cond.methodLink RX7 67 yX7_within : Cond)).keeps) = true ∨ ∃ ty, (Cond.methodLink RX7 67 yX7_within) = .arrayClass ty) := ⟨zt_1 (List.mem_of_getElem? (i := 9) rfl), good_of_word rfl⟩
theorem zg_19 : (Cond.fieldLink RX7 11 "TheLiningsInIt" "shelves" "[LTheLiningsInIt$Shelf;") ∈ lw_tbl ∧ ((((Cond.fieldLink RX7 11 "TheLiningsInIt" "shelves" "[LTheLiningsInIt$Shelf;" : Cond)).onTables && ((Cond.fieldLink RX7 11 "TheLiningsInIt" "shelves" "[LTheLiningsInIt$Shelf;" : Cond)).keeps) = true ∨ ∃ ty, (Cond.fieldLink RX7 11 "TheLiningsInIt" "shelves" "[LTheLiningsInIt$Shelf;") = .arrayClass ty) := ⟨zt_0 (List.mem_of_getElem? (i := 213) rfl), good_of_word rfl⟩
theorem zg_20 : (Cond.code yX7_shelfAt cX7_shelfAt 2 (some (.object "TheLiningsInIt$Shelf"))) ∈ lw_tbl ∧ ((((Cond.code yX7_shelfAt cX7_shelfAt 2 (some (.object "TheLiningsInIt$Shelf")) : Cond)).onTables && ((Cond.code yX7_shelfAt cX7_shelfAt 2 (some (.object "TheLiningsInIt$Shelf")) : Cond)).keeps) = true ∨ ∃ ty, (Cond.code yX7_shelfAt cX7_shelfAt 2 (some (.object "TheLiningsInIt$Shelf"))) = .arrayClass ty) := ⟨zt_1 (List.mem_of_getElem? (i := 8) rfl), good_of_word rfl⟩
theorem zg_21 : (Cond.initialized RX7) ∈ lw_tbl ∧ ((((Cond.initialized RX7 : Cond)).onTables && ((Cond.initialized RX7 : Cond)).keeps) = true ∨ ∃ ty, (Cond.initialized RX7) = .arrayClass ty) := ⟨zt_0 (List.mem_of_getElem? (i := 1) rfl), good_of_word rfl⟩
theorem zg_22 : (Cond.selects RX7 yX7_shelfAt yX7_shelfAt) ∈ lw_tbl ∧ ((((Cond.selects RX7 yX7_shelfAt yX7_shelfAt : Cond)).onTables && ((Cond.selects RX7 yX7_shelfAt yX7_shelfAt : Cond)).keeps) = true ∨ ∃ ty, (Cond.selects RX7 yX7_shelfAt yX7_shelfAt) = .arrayClass ty) := ⟨zp_1 0 (by decide +kernel), good_of_word rfl⟩
theorem zg_23 : (Cond.instanceMethod yX7_shelfAt) ∈ lw_tbl ∧ ((((Cond.instanceMethod yX7_shelfAt : Cond)).onTables && ((Cond.instanceMethod yX7_shelfAt : Cond)).keeps) = true ∨ ∃ ty, (Cond.instanceMethod yX7_shelfAt) = .arrayClass ty) := ⟨zt_1 (List.mem_of_getElem? (i := 7) rfl), good_of_word rfl⟩
theorem zg_24 : (Cond.methodLink RX7 59 yX7_shelfAt) ∈ lw_tbl ∧ ((((Cond.methodLink RX7 59 yX7_shelfAt : Cond)).onTables && ((Cond.methodLink RX7 59 yX7_shelfAt : Cond)).keeps) = true ∨ ∃ ty, (Cond.methodLink RX7 59 yX7_shelfAt) = .arrayClass ty) := ⟨zt_1 (List.mem_of_getElem? (i := 5) rfl), good_of_word rfl⟩
theorem gl_wsX7_row_r1 : GoodIn lw_tbl wsX7_row_r1 := (zl_cons zg_24 (zl_cons zg_23 (zl_cons zg_22 (zl_cons zg_21 (zl_cons zg_20 (zl_cons zg_19 (zl_cons zg_18 (zl_cons zg_17 (zl_cons zg_16 (zl_cons zg_15 (zl_cons zg_14 (zl_cons zg_13 (zl_cons zg_12 (zl_cons zg_11 (zl_cons zg_10 (zl_cons zg_9 (zl_cons zg_8 (zl_cons zg_7 (zl_cons zg_6 (zl_cons zg_5 (zl_cons zg_4 (zl_cons zg_3 (zl_cons zg_2 (zl_cons zg_1 zl_nil))))))))))))))))))))))))
theorem zg_25 : (Cond.code yJ7_fill_d0a16 cJ7_fill_d0a16 5 none) ∈ lw_tbl ∧ ((((Cond.code yJ7_fill_d0a16 cJ7_fill_d0a16 5 none : Cond)).onTables && ((Cond.code yJ7_fill_d0a16 cJ7_fill_d0a16 5 none : Cond)).keeps) = true ∨ ∃ ty, (Cond.code yJ7_fill_d0a16 cJ7_fill_d0a16 5 none) = .arrayClass ty) := ⟨zt_1 (List.mem_of_getElem? (i := 22) rfl), good_of_word rfl⟩
theorem zg_26 : (Cond.initialized RJ7) ∈ lw_tbl ∧ ((((Cond.initialized RJ7 : Cond)).onTables && ((Cond.initialized RJ7 : Cond)).keeps) = true ∨ ∃ ty, (Cond.initialized RJ7) = .arrayClass ty) := ⟨zt_0 (List.mem_of_getElem? (i := 9) rfl), good_of_word rfl⟩
theorem gl_wsX7_row_r2 : GoodIn lw_tbl wsX7_row_r2 := (zl_cons zg_26 (zl_cons zg_25 zl_nil))
theorem zg_27 : (u_lay RX7 TX7 8) ∈ lw_tbl ∧ ((((u_lay RX7 TX7 8 : Cond)).onTables && ((u_lay RX7 TX7 8 : Cond)).keeps) = true ∨ ∃ ty, (u_lay RX7 TX7 8) = .arrayClass ty) := ⟨zt_0 (List.mem_of_getElem? (i := 238) rfl), good_of_word rfl⟩
theorem zg_28 : (u_lay RX7 TX7 7) ∈ lw_tbl ∧ ((((u_lay RX7 TX7 7 : Cond)).onTables && ((u_lay RX7 TX7 7 : Cond)).keeps) = true ∨ ∃ ty, (u_lay RX7 TX7 7) = .arrayClass ty) := ⟨zt_0 (List.mem_of_getElem? (i := 236) rfl), good_of_word rfl⟩
theorem zg_29 : (u_lay RX7 TX7 6) ∈ lw_tbl ∧ ((((u_lay RX7 TX7 6 : Cond)).onTables && ((u_lay RX7 TX7 6 : Cond)).keeps) = true ∨ ∃ ty, (u_lay RX7 TX7 6) = .arrayClass ty) := ⟨zt_0 (List.mem_of_getElem? (i := 234) rfl), good_of_word rfl⟩
theorem zg_30 : (u_lay RX7 TX7 5) ∈ lw_tbl ∧ ((((u_lay RX7 TX7 5 : Cond)).onTables && ((u_lay RX7 TX7 5 : Cond)).keeps) = true ∨ ∃ ty, (u_lay RX7 TX7 5) = .arrayClass ty) := ⟨zt_0 (List.mem_of_getElem? (i := 232) rfl), good_of_word rfl⟩
theorem zg_31 : (u_lay RX7 TX7 4) ∈ lw_tbl ∧ ((((u_lay RX7 TX7 4 : Cond)).onTables && ((u_lay RX7 TX7 4 : Cond)).keeps) = true ∨ ∃ ty, (u_lay RX7 TX7 4) = .arrayClass ty) := ⟨zt_0 (List.mem_of_getElem? (i := 230) rfl), good_of_word rfl⟩
theorem zg_32 : (u_lay RX7 TX7 3) ∈ lw_tbl ∧ ((((u_lay RX7 TX7 3 : Cond)).onTables && ((u_lay RX7 TX7 3 : Cond)).keeps) = true ∨ ∃ ty, (u_lay RX7 TX7 3) = .arrayClass ty) := ⟨zt_0 (List.mem_of_getElem? (i := 228) rfl), good_of_word rfl⟩
theorem zg_33 : (u_lay RX7 TX7 2) ∈ lw_tbl ∧ ((((u_lay RX7 TX7 2 : Cond)).onTables && ((u_lay RX7 TX7 2 : Cond)).keeps) = true ∨ ∃ ty, (u_lay RX7 TX7 2) = .arrayClass ty) := ⟨zt_0 (List.mem_of_getElem? (i := 226) rfl), good_of_word rfl⟩
theorem zg_34 : (u_lay RX7 TX7 1) ∈ lw_tbl ∧ ((((u_lay RX7 TX7 1 : Cond)).onTables && ((u_lay RX7 TX7 1 : Cond)).keeps) = true ∨ ∃ ty, (u_lay RX7 TX7 1) = .arrayClass ty) := ⟨zt_0 (List.mem_of_getElem? (i := 224) rfl), good_of_word rfl⟩
theorem zg_35 : (u_lay RX7 TX7 0) ∈ lw_tbl ∧ ((((u_lay RX7 TX7 0 : Cond)).onTables && ((u_lay RX7 TX7 0 : Cond)).keeps) = true ∨ ∃ ty, (u_lay RX7 TX7 0) = .arrayClass ty) := ⟨zt_0 (List.mem_of_getElem? (i := 222) rfl), good_of_word rfl⟩
theorem gl_wsX70 : GoodIn lw_tbl wsX70 := (zl_cons zg_35 (zl_cons zg_34 (zl_cons zg_33 (zl_cons zg_32 (zl_cons zg_31 (zl_cons zg_30 (zl_cons zg_29 (zl_cons zg_28 (zl_cons zg_27 zl_nil)))))))))
theorem zg_36 : (u_lay RX4 TX4 2) ∈ lw_tbl ∧ ((((u_lay RX4 TX4 2 : Cond)).onTables && ((u_lay RX4 TX4 2 : Cond)).keeps) = true ∨ ∃ ty, (u_lay RX4 TX4 2) = .arrayClass ty) := ⟨zt_0 (List.mem_of_getElem? (i := 209) rfl), good_of_word rfl⟩
theorem zg_37 : (u_lay RX4 TX4 1) ∈ lw_tbl ∧ ((((u_lay RX4 TX4 1 : Cond)).onTables && ((u_lay RX4 TX4 1 : Cond)).keeps) = true ∨ ∃ ty, (u_lay RX4 TX4 1) = .arrayClass ty) := ⟨zt_0 (List.mem_of_getElem? (i := 207) rfl), good_of_word rfl⟩
theorem zg_38 : (u_lay RX4 TX4 0) ∈ lw_tbl ∧ ((((u_lay RX4 TX4 0 : Cond)).onTables && ((u_lay RX4 TX4 0 : Cond)).keeps) = true ∨ ∃ ty, (u_lay RX4 TX4 0) = .arrayClass ty) := ⟨zt_0 (List.mem_of_getElem? (i := 205) rfl), good_of_word rfl⟩
theorem gl_wsX40 : GoodIn lw_tbl wsX40 := (zl_cons zg_38 (zl_cons zg_37 (zl_cons zg_36 zl_nil)))
theorem gl_wsX7_row : GoodIn lw_tbl wsX7_row := (zl_cons zg_0 (goodIn_app (goodIn_app (goodIn_app gl_wsX7_row_r1 gl_wsX7_row_r2) gl_wsX70) gl_wsX40))
theorem zg_39 : (Cond.selects RX7 yX7_row yX7_row) ∈ lw_tbl ∧ ((((Cond.selects RX7 yX7_row yX7_row : Cond)).onTables && ((Cond.selects RX7 yX7_row yX7_row : Cond)).keeps) = true ∨ ∃ ty, (Cond.selects RX7 yX7_row yX7_row) = .arrayClass ty) := ⟨zt_1 (List.mem_of_getElem? (i := 3) rfl), good_of_word rfl⟩
theorem zg_40 : (Cond.instanceMethod yX7_row) ∈ lw_tbl ∧ ((((Cond.instanceMethod yX7_row : Cond)).onTables && ((Cond.instanceMethod yX7_row : Cond)).keeps) = true ∨ ∃ ty, (Cond.instanceMethod yX7_row) = .arrayClass ty) := ⟨zt_1 (List.mem_of_getElem? (i := 2) rfl), good_of_word rfl⟩
theorem zg_41 : (Cond.methodLink RL 13 yX7_row) ∈ lw_tbl ∧ ((((Cond.methodLink RL 13 yX7_row : Cond)).onTables && ((Cond.methodLink RL 13 yX7_row : Cond)).keeps) = true ∨ ∃ ty, (Cond.methodLink RL 13 yX7_row) = .arrayClass ty) := ⟨zt_1 (List.mem_of_getElem? (i := 1) rfl), good_of_word rfl⟩
theorem gq_13 : GoodIn lw_tbl (wsV RL 13 RX7 yX7_row wsX7_row) := goodIn_app (zl_cons zg_41 (zl_cons zg_40 (zl_cons zg_39 (zl_cons zg_21 zl_nil)))) gl_wsX7_row
theorem zg_42 : (Cond.code yX8_row cX8_row 5 (some .int)) ∈ lw_tbl ∧ ((((Cond.code yX8_row cX8_row 5 (some .int) : Cond)).onTables && ((Cond.code yX8_row cX8_row 5 (some .int) : Cond)).keeps) = true ∨ ∃ ty, (Cond.code yX8_row cX8_row 5 (some .int)) = .arrayClass ty) := ⟨zt_4 (List.mem_of_getElem? (i := 49) rfl), good_of_word rfl⟩
theorem zg_43 : (Cond.fieldLink RX8 25 "TheLiningsInItModel" "refused" "[I") ∈ lw_tbl ∧ ((((Cond.fieldLink RX8 25 "TheLiningsInItModel" "refused" "[I" : Cond)).onTables && ((Cond.fieldLink RX8 25 "TheLiningsInItModel" "refused" "[I" : Cond)).keeps) = true ∨ ∃ ty, (Cond.fieldLink RX8 25 "TheLiningsInItModel" "refused" "[I") = .arrayClass ty) := ⟨zt_3 (List.mem_of_getElem? (i := 181) rfl), good_of_word rfl⟩
theorem zg_44 : (Cond.code yX8_no cX8_no 2 (some .int)) ∈ lw_tbl ∧ ((((Cond.code yX8_no cX8_no 2 (some .int) : Cond)).onTables && ((Cond.code yX8_no cX8_no 2 (some .int) : Cond)).keeps) = true ∨ ∃ ty, (Cond.code yX8_no cX8_no 2 (some .int)) = .arrayClass ty) := ⟨zt_4 (List.mem_of_getElem? (i := 57) rfl), good_of_word rfl⟩
theorem zg_45 : (Cond.selects RX8 yX8_no yX8_no) ∈ lw_tbl ∧ ((((Cond.selects RX8 yX8_no yX8_no : Cond)).onTables && ((Cond.selects RX8 yX8_no yX8_no : Cond)).keeps) = true ∨ ∃ ty, (Cond.selects RX8 yX8_no yX8_no) = .arrayClass ty) := ⟨zp_1 13 (by decide +kernel), good_of_word rfl⟩
theorem zg_46 : (Cond.instanceMethod yX8_no) ∈ lw_tbl ∧ ((((Cond.instanceMethod yX8_no : Cond)).onTables && ((Cond.instanceMethod yX8_no : Cond)).keeps) = true ∨ ∃ ty, (Cond.instanceMethod yX8_no) = .arrayClass ty) := ⟨zt_4 (List.mem_of_getElem? (i := 56) rfl), good_of_word rfl⟩
theorem zg_47 : (Cond.methodLink RX8 97 yX8_no) ∈ lw_tbl ∧ ((((Cond.methodLink RX8 97 yX8_no : Cond)).onTables && ((Cond.methodLink RX8 97 yX8_no : Cond)).keeps) = true ∨ ∃ ty, (Cond.methodLink RX8 97 yX8_no) = .arrayClass ty) := ⟨zt_4 (List.mem_of_getElem? (i := 54) rfl), good_of_word rfl⟩
theorem zg_48 : (Cond.code yX8_isShelf cX8_isShelf 2 (some .boolean)) ∈ lw_tbl ∧ ((((Cond.code yX8_isShelf cX8_isShelf 2 (some .boolean) : Cond)).onTables && ((Cond.code yX8_isShelf cX8_isShelf 2 (some .boolean) : Cond)).keeps) = true ∨ ∃ ty, (Cond.code yX8_isShelf cX8_isShelf 2 (some .boolean)) = .arrayClass ty) := ⟨zt_4 (List.mem_of_getElem? (i := 53) rfl), good_of_word rfl⟩
theorem zg_49 : (Cond.initialized RX8) ∈ lw_tbl ∧ ((((Cond.initialized RX8 : Cond)).onTables && ((Cond.initialized RX8 : Cond)).keeps) = true ∨ ∃ ty, (Cond.initialized RX8) = .arrayClass ty) := ⟨zt_0 (List.mem_of_getElem? (i := 8) rfl), good_of_word rfl⟩
theorem zg_50 : (Cond.selects RX8 yX8_isShelf yX8_isShelf) ∈ lw_tbl ∧ ((((Cond.selects RX8 yX8_isShelf yX8_isShelf : Cond)).onTables && ((Cond.selects RX8 yX8_isShelf yX8_isShelf : Cond)).keeps) = true ∨ ∃ ty, (Cond.selects RX8 yX8_isShelf yX8_isShelf) = .arrayClass ty) := ⟨zp_1 12 (by decide +kernel), good_of_word rfl⟩
theorem zg_51 : (Cond.instanceMethod yX8_isShelf) ∈ lw_tbl ∧ ((((Cond.instanceMethod yX8_isShelf : Cond)).onTables && ((Cond.instanceMethod yX8_isShelf : Cond)).keeps) = true ∨ ∃ ty, (Cond.instanceMethod yX8_isShelf) = .arrayClass ty) := ⟨zt_4 (List.mem_of_getElem? (i := 52) rfl), good_of_word rfl⟩
theorem zg_52 : (Cond.methodLink RX8 93 yX8_isShelf) ∈ lw_tbl ∧ ((((Cond.methodLink RX8 93 yX8_isShelf : Cond)).onTables && ((Cond.methodLink RX8 93 yX8_isShelf : Cond)).keeps) = true ∨ ∃ ty, (Cond.methodLink RX8 93 yX8_isShelf) = .arrayClass ty) := ⟨zt_4 (List.mem_of_getElem? (i := 50) rfl), good_of_word rfl⟩
theorem zg_53 : (Cond.fieldLink RX8 59 "TheLiningsInItModel" "cells" "[J") ∈ lw_tbl ∧ ((((Cond.fieldLink RX8 59 "TheLiningsInItModel" "cells" "[J" : Cond)).onTables && ((Cond.fieldLink RX8 59 "TheLiningsInItModel" "cells" "[J" : Cond)).keeps) = true ∨ ∃ ty, (Cond.fieldLink RX8 59 "TheLiningsInItModel" "cells" "[J") = .arrayClass ty) := ⟨zt_3 (List.mem_of_getElem? (i := 192) rfl), good_of_word rfl⟩
theorem zg_54 : (Cond.fieldLink RX8 53 "TheLiningsInItModel" "size" "[I") ∈ lw_tbl ∧ ((((Cond.fieldLink RX8 53 "TheLiningsInItModel" "size" "[I" : Cond)).onTables && ((Cond.fieldLink RX8 53 "TheLiningsInItModel" "size" "[I" : Cond)).keeps) = true ∨ ∃ ty, (Cond.fieldLink RX8 53 "TheLiningsInItModel" "size" "[I") = .arrayClass ty) := ⟨zt_3 (List.mem_of_getElem? (i := 190) rfl), good_of_word rfl⟩
theorem zg_55 : (Cond.fieldLink RX8 50 "TheLiningsInItModel" "sort" "[I") ∈ lw_tbl ∧ ((((Cond.fieldLink RX8 50 "TheLiningsInItModel" "sort" "[I" : Cond)).onTables && ((Cond.fieldLink RX8 50 "TheLiningsInItModel" "sort" "[I" : Cond)).keeps) = true ∨ ∃ ty, (Cond.fieldLink RX8 50 "TheLiningsInItModel" "sort" "[I") = .arrayClass ty) := ⟨zt_3 (List.mem_of_getElem? (i := 189) rfl), good_of_word rfl⟩
theorem zg_56 : (Cond.fieldLink RX8 47 "TheLiningsInItModel" "held" "[I") ∈ lw_tbl ∧ ((((Cond.fieldLink RX8 47 "TheLiningsInItModel" "held" "[I" : Cond)).onTables && ((Cond.fieldLink RX8 47 "TheLiningsInItModel" "held" "[I" : Cond)).keeps) = true ∨ ∃ ty, (Cond.fieldLink RX8 47 "TheLiningsInItModel" "held" "[I") = .arrayClass ty) := ⟨zt_3 (List.mem_of_getElem? (i := 188) rfl), good_of_word rfl⟩
theorem zg_57 : (u_lay RX8 TX8 37) ∈ lw_tbl ∧ ((((u_lay RX8 TX8 37 : Cond)).onTables && ((u_lay RX8 TX8 37 : Cond)).keeps) = true ∨ ∃ ty, (u_lay RX8 TX8 37) = .arrayClass ty) := ⟨zt_4 (List.mem_of_getElem? (i := 43) rfl), good_of_word rfl⟩
theorem zg_58 : (u_lay RX8 TX8 36) ∈ lw_tbl ∧ ((((u_lay RX8 TX8 36 : Cond)).onTables && ((u_lay RX8 TX8 36 : Cond)).keeps) = true ∨ ∃ ty, (u_lay RX8 TX8 36) = .arrayClass ty) := ⟨zt_4 (List.mem_of_getElem? (i := 41) rfl), good_of_word rfl⟩
theorem zg_59 : (u_lay RX8 TX8 35) ∈ lw_tbl ∧ ((((u_lay RX8 TX8 35 : Cond)).onTables && ((u_lay RX8 TX8 35 : Cond)).keeps) = true ∨ ∃ ty, (u_lay RX8 TX8 35) = .arrayClass ty) := ⟨zt_4 (List.mem_of_getElem? (i := 39) rfl), good_of_word rfl⟩
theorem zg_60 : (u_lay RX8 TX8 34) ∈ lw_tbl ∧ ((((u_lay RX8 TX8 34 : Cond)).onTables && ((u_lay RX8 TX8 34 : Cond)).keeps) = true ∨ ∃ ty, (u_lay RX8 TX8 34) = .arrayClass ty) := ⟨zt_4 (List.mem_of_getElem? (i := 37) rfl), good_of_word rfl⟩
theorem zg_61 : (u_lay RX8 TX8 33) ∈ lw_tbl ∧ ((((u_lay RX8 TX8 33 : Cond)).onTables && ((u_lay RX8 TX8 33 : Cond)).keeps) = true ∨ ∃ ty, (u_lay RX8 TX8 33) = .arrayClass ty) := ⟨zt_4 (List.mem_of_getElem? (i := 35) rfl), good_of_word rfl⟩
theorem zg_62 : (u_lay RX8 TX8 32) ∈ lw_tbl ∧ ((((u_lay RX8 TX8 32 : Cond)).onTables && ((u_lay RX8 TX8 32 : Cond)).keeps) = true ∨ ∃ ty, (u_lay RX8 TX8 32) = .arrayClass ty) := ⟨zt_4 (List.mem_of_getElem? (i := 33) rfl), good_of_word rfl⟩
theorem zg_63 : (u_lay RX8 TX8 31) ∈ lw_tbl ∧ ((((u_lay RX8 TX8 31 : Cond)).onTables && ((u_lay RX8 TX8 31 : Cond)).keeps) = true ∨ ∃ ty, (u_lay RX8 TX8 31) = .arrayClass ty) := ⟨zt_4 (List.mem_of_getElem? (i := 31) rfl), good_of_word rfl⟩
theorem zg_64 : (u_lay RX8 TX8 30) ∈ lw_tbl ∧ ((((u_lay RX8 TX8 30 : Cond)).onTables && ((u_lay RX8 TX8 30 : Cond)).keeps) = true ∨ ∃ ty, (u_lay RX8 TX8 30) = .arrayClass ty) := ⟨zt_4 (List.mem_of_getElem? (i := 29) rfl), good_of_word rfl⟩
theorem zg_65 : (u_lay RX8 TX8 29) ∈ lw_tbl ∧ ((((u_lay RX8 TX8 29 : Cond)).onTables && ((u_lay RX8 TX8 29 : Cond)).keeps) = true ∨ ∃ ty, (u_lay RX8 TX8 29) = .arrayClass ty) := ⟨zt_4 (List.mem_of_getElem? (i := 27) rfl), good_of_word rfl⟩
theorem zg_66 : (u_lay RX8 TX8 28) ∈ lw_tbl ∧ ((((u_lay RX8 TX8 28 : Cond)).onTables && ((u_lay RX8 TX8 28 : Cond)).keeps) = true ∨ ∃ ty, (u_lay RX8 TX8 28) = .arrayClass ty) := ⟨zt_4 (List.mem_of_getElem? (i := 25) rfl), good_of_word rfl⟩
theorem zg_67 : (u_lay RX8 TX8 27) ∈ lw_tbl ∧ ((((u_lay RX8 TX8 27 : Cond)).onTables && ((u_lay RX8 TX8 27 : Cond)).keeps) = true ∨ ∃ ty, (u_lay RX8 TX8 27) = .arrayClass ty) := ⟨zt_4 (List.mem_of_getElem? (i := 23) rfl), good_of_word rfl⟩
theorem zg_68 : (u_lay RX8 TX8 26) ∈ lw_tbl ∧ ((((u_lay RX8 TX8 26 : Cond)).onTables && ((u_lay RX8 TX8 26 : Cond)).keeps) = true ∨ ∃ ty, (u_lay RX8 TX8 26) = .arrayClass ty) := ⟨zt_4 (List.mem_of_getElem? (i := 21) rfl), good_of_word rfl⟩
theorem zg_69 : (u_lay RX8 TX8 25) ∈ lw_tbl ∧ ((((u_lay RX8 TX8 25 : Cond)).onTables && ((u_lay RX8 TX8 25 : Cond)).keeps) = true ∨ ∃ ty, (u_lay RX8 TX8 25) = .arrayClass ty) := ⟨zt_4 (List.mem_of_getElem? (i := 19) rfl), good_of_word rfl⟩
theorem zg_70 : (u_lay RX8 TX8 24) ∈ lw_tbl ∧ ((((u_lay RX8 TX8 24 : Cond)).onTables && ((u_lay RX8 TX8 24 : Cond)).keeps) = true ∨ ∃ ty, (u_lay RX8 TX8 24) = .arrayClass ty) := ⟨zt_4 (List.mem_of_getElem? (i := 17) rfl), good_of_word rfl⟩
theorem zg_71 : (u_lay RX8 TX8 23) ∈ lw_tbl ∧ ((((u_lay RX8 TX8 23 : Cond)).onTables && ((u_lay RX8 TX8 23 : Cond)).keeps) = true ∨ ∃ ty, (u_lay RX8 TX8 23) = .arrayClass ty) := ⟨zt_4 (List.mem_of_getElem? (i := 15) rfl), good_of_word rfl⟩
theorem zg_72 : (u_lay RX8 TX8 22) ∈ lw_tbl ∧ ((((u_lay RX8 TX8 22 : Cond)).onTables && ((u_lay RX8 TX8 22 : Cond)).keeps) = true ∨ ∃ ty, (u_lay RX8 TX8 22) = .arrayClass ty) := ⟨zt_4 (List.mem_of_getElem? (i := 13) rfl), good_of_word rfl⟩
theorem zg_73 : (u_lay RX8 TX8 21) ∈ lw_tbl ∧ ((((u_lay RX8 TX8 21 : Cond)).onTables && ((u_lay RX8 TX8 21 : Cond)).keeps) = true ∨ ∃ ty, (u_lay RX8 TX8 21) = .arrayClass ty) := ⟨zt_4 (List.mem_of_getElem? (i := 11) rfl), good_of_word rfl⟩
theorem zg_74 : (u_lay RX8 TX8 20) ∈ lw_tbl ∧ ((((u_lay RX8 TX8 20 : Cond)).onTables && ((u_lay RX8 TX8 20 : Cond)).keeps) = true ∨ ∃ ty, (u_lay RX8 TX8 20) = .arrayClass ty) := ⟨zt_4 (List.mem_of_getElem? (i := 9) rfl), good_of_word rfl⟩
theorem zg_75 : (u_lay RX8 TX8 19) ∈ lw_tbl ∧ ((((u_lay RX8 TX8 19 : Cond)).onTables && ((u_lay RX8 TX8 19 : Cond)).keeps) = true ∨ ∃ ty, (u_lay RX8 TX8 19) = .arrayClass ty) := ⟨zt_4 (List.mem_of_getElem? (i := 7) rfl), good_of_word rfl⟩
theorem zg_76 : (u_lay RX8 TX8 18) ∈ lw_tbl ∧ ((((u_lay RX8 TX8 18 : Cond)).onTables && ((u_lay RX8 TX8 18 : Cond)).keeps) = true ∨ ∃ ty, (u_lay RX8 TX8 18) = .arrayClass ty) := ⟨zt_4 (List.mem_of_getElem? (i := 5) rfl), good_of_word rfl⟩
theorem zg_77 : (u_lay RX8 TX8 17) ∈ lw_tbl ∧ ((((u_lay RX8 TX8 17 : Cond)).onTables && ((u_lay RX8 TX8 17 : Cond)).keeps) = true ∨ ∃ ty, (u_lay RX8 TX8 17) = .arrayClass ty) := ⟨zt_4 (List.mem_of_getElem? (i := 3) rfl), good_of_word rfl⟩
theorem zg_78 : (u_lay RX8 TX8 16) ∈ lw_tbl ∧ ((((u_lay RX8 TX8 16 : Cond)).onTables && ((u_lay RX8 TX8 16 : Cond)).keeps) = true ∨ ∃ ty, (u_lay RX8 TX8 16) = .arrayClass ty) := ⟨zt_4 (List.mem_of_getElem? (i := 1) rfl), good_of_word rfl⟩
theorem zg_79 : (u_lay RX8 TX8 15) ∈ lw_tbl ∧ ((((u_lay RX8 TX8 15 : Cond)).onTables && ((u_lay RX8 TX8 15 : Cond)).keeps) = true ∨ ∃ ty, (u_lay RX8 TX8 15) = .arrayClass ty) := ⟨zt_3 (List.mem_of_getElem? (i := 239) rfl), good_of_word rfl⟩
theorem zg_80 : (u_lay RX8 TX8 14) ∈ lw_tbl ∧ ((((u_lay RX8 TX8 14 : Cond)).onTables && ((u_lay RX8 TX8 14 : Cond)).keeps) = true ∨ ∃ ty, (u_lay RX8 TX8 14) = .arrayClass ty) := ⟨zt_3 (List.mem_of_getElem? (i := 237) rfl), good_of_word rfl⟩
theorem zg_81 : (u_lay RX8 TX8 13) ∈ lw_tbl ∧ ((((u_lay RX8 TX8 13 : Cond)).onTables && ((u_lay RX8 TX8 13 : Cond)).keeps) = true ∨ ∃ ty, (u_lay RX8 TX8 13) = .arrayClass ty) := ⟨zt_3 (List.mem_of_getElem? (i := 235) rfl), good_of_word rfl⟩
theorem zg_82 : (u_lay RX8 TX8 12) ∈ lw_tbl ∧ ((((u_lay RX8 TX8 12 : Cond)).onTables && ((u_lay RX8 TX8 12 : Cond)).keeps) = true ∨ ∃ ty, (u_lay RX8 TX8 12) = .arrayClass ty) := ⟨zt_3 (List.mem_of_getElem? (i := 233) rfl), good_of_word rfl⟩
theorem zg_83 : (u_lay RX8 TX8 11) ∈ lw_tbl ∧ ((((u_lay RX8 TX8 11 : Cond)).onTables && ((u_lay RX8 TX8 11 : Cond)).keeps) = true ∨ ∃ ty, (u_lay RX8 TX8 11) = .arrayClass ty) := ⟨zt_3 (List.mem_of_getElem? (i := 231) rfl), good_of_word rfl⟩
theorem zg_84 : (u_lay RX8 TX8 10) ∈ lw_tbl ∧ ((((u_lay RX8 TX8 10 : Cond)).onTables && ((u_lay RX8 TX8 10 : Cond)).keeps) = true ∨ ∃ ty, (u_lay RX8 TX8 10) = .arrayClass ty) := ⟨zt_3 (List.mem_of_getElem? (i := 229) rfl), good_of_word rfl⟩
theorem zg_85 : (u_lay RX8 TX8 9) ∈ lw_tbl ∧ ((((u_lay RX8 TX8 9 : Cond)).onTables && ((u_lay RX8 TX8 9 : Cond)).keeps) = true ∨ ∃ ty, (u_lay RX8 TX8 9) = .arrayClass ty) := ⟨zt_3 (List.mem_of_getElem? (i := 227) rfl), good_of_word rfl⟩
theorem zg_86 : (u_lay RX8 TX8 8) ∈ lw_tbl ∧ ((((u_lay RX8 TX8 8 : Cond)).onTables && ((u_lay RX8 TX8 8 : Cond)).keeps) = true ∨ ∃ ty, (u_lay RX8 TX8 8) = .arrayClass ty) := ⟨zt_3 (List.mem_of_getElem? (i := 225) rfl), good_of_word rfl⟩
theorem zg_87 : (u_lay RX8 TX8 7) ∈ lw_tbl ∧ ((((u_lay RX8 TX8 7 : Cond)).onTables && ((u_lay RX8 TX8 7 : Cond)).keeps) = true ∨ ∃ ty, (u_lay RX8 TX8 7) = .arrayClass ty) := ⟨zt_3 (List.mem_of_getElem? (i := 223) rfl), good_of_word rfl⟩
theorem zg_88 : (u_lay RX8 TX8 6) ∈ lw_tbl ∧ ((((u_lay RX8 TX8 6 : Cond)).onTables && ((u_lay RX8 TX8 6 : Cond)).keeps) = true ∨ ∃ ty, (u_lay RX8 TX8 6) = .arrayClass ty) := ⟨zt_3 (List.mem_of_getElem? (i := 221) rfl), good_of_word rfl⟩
theorem zg_89 : (u_lay RX8 TX8 5) ∈ lw_tbl ∧ ((((u_lay RX8 TX8 5 : Cond)).onTables && ((u_lay RX8 TX8 5 : Cond)).keeps) = true ∨ ∃ ty, (u_lay RX8 TX8 5) = .arrayClass ty) := ⟨zt_3 (List.mem_of_getElem? (i := 219) rfl), good_of_word rfl⟩
theorem zg_90 : (u_lay RX8 TX8 4) ∈ lw_tbl ∧ ((((u_lay RX8 TX8 4 : Cond)).onTables && ((u_lay RX8 TX8 4 : Cond)).keeps) = true ∨ ∃ ty, (u_lay RX8 TX8 4) = .arrayClass ty) := ⟨zt_3 (List.mem_of_getElem? (i := 217) rfl), good_of_word rfl⟩
theorem zg_91 : (u_lay RX8 TX8 3) ∈ lw_tbl ∧ ((((u_lay RX8 TX8 3 : Cond)).onTables && ((u_lay RX8 TX8 3 : Cond)).keeps) = true ∨ ∃ ty, (u_lay RX8 TX8 3) = .arrayClass ty) := ⟨zt_3 (List.mem_of_getElem? (i := 215) rfl), good_of_word rfl⟩
theorem zg_92 : (u_lay RX8 TX8 2) ∈ lw_tbl ∧ ((((u_lay RX8 TX8 2 : Cond)).onTables && ((u_lay RX8 TX8 2 : Cond)).keeps) = true ∨ ∃ ty, (u_lay RX8 TX8 2) = .arrayClass ty) := ⟨zt_3 (List.mem_of_getElem? (i := 213) rfl), good_of_word rfl⟩
theorem zg_93 : (u_lay RX8 TX8 1) ∈ lw_tbl ∧ ((((u_lay RX8 TX8 1 : Cond)).onTables && ((u_lay RX8 TX8 1 : Cond)).keeps) = true ∨ ∃ ty, (u_lay RX8 TX8 1) = .arrayClass ty) := ⟨zt_3 (List.mem_of_getElem? (i := 211) rfl), good_of_word rfl⟩
theorem zg_94 : (u_lay RX8 TX8 0) ∈ lw_tbl ∧ ((((u_lay RX8 TX8 0 : Cond)).onTables && ((u_lay RX8 TX8 0 : Cond)).keeps) = true ∨ ∃ ty, (u_lay RX8 TX8 0) = .arrayClass ty) := ⟨zt_3 (List.mem_of_getElem? (i := 209) rfl), good_of_word rfl⟩
theorem gl_wsX80 : GoodIn lw_tbl wsX80 := (zl_cons zg_94 (zl_cons zg_93 (zl_cons zg_92 (zl_cons zg_91 (zl_cons zg_90 (zl_cons zg_89 (zl_cons zg_88 (zl_cons zg_87 (zl_cons zg_86 (zl_cons zg_85 (zl_cons zg_84 (zl_cons zg_83 (zl_cons zg_82 (zl_cons zg_81 (zl_cons zg_80 (zl_cons zg_79 (zl_cons zg_78 (zl_cons zg_77 (zl_cons zg_76 (zl_cons zg_75 (zl_cons zg_74 (zl_cons zg_73 (zl_cons zg_72 (zl_cons zg_71 (zl_cons zg_70 (zl_cons zg_69 (zl_cons zg_68 (zl_cons zg_67 (zl_cons zg_66 (zl_cons zg_65 (zl_cons zg_64 (zl_cons zg_63 (zl_cons zg_62 (zl_cons zg_61 (zl_cons zg_60 (zl_cons zg_59 (zl_cons zg_58 (zl_cons zg_57 zl_nil))))))))))))))))))))))))))))))))))))))
theorem gl_wsX8_row : GoodIn lw_tbl wsX8_row := (zl_cons zg_42 (goodIn_app (zl_cons zg_56 (zl_cons zg_55 (zl_cons zg_54 (zl_cons zg_53 (zl_cons zg_52 (zl_cons zg_51 (zl_cons zg_50 (zl_cons zg_49 (zl_cons zg_48 (zl_cons zg_47 (zl_cons zg_46 (zl_cons zg_45 (zl_cons zg_44 (zl_cons zg_43 zl_nil)))))))))))))) gl_wsX80))
theorem zg_95 : (Cond.selects RX8 yX8_row yX8_row) ∈ lw_tbl ∧ ((((Cond.selects RX8 yX8_row yX8_row : Cond)).onTables && ((Cond.selects RX8 yX8_row yX8_row : Cond)).keeps) = true ∨ ∃ ty, (Cond.selects RX8 yX8_row yX8_row) = .arrayClass ty) := ⟨zt_4 (List.mem_of_getElem? (i := 48) rfl), good_of_word rfl⟩
theorem zg_96 : (Cond.instanceMethod yX8_row) ∈ lw_tbl ∧ ((((Cond.instanceMethod yX8_row : Cond)).onTables && ((Cond.instanceMethod yX8_row : Cond)).keeps) = true ∨ ∃ ty, (Cond.instanceMethod yX8_row) = .arrayClass ty) := ⟨zt_4 (List.mem_of_getElem? (i := 47) rfl), good_of_word rfl⟩
theorem zg_97 : (Cond.methodLink RL 17 yX8_row) ∈ lw_tbl ∧ ((((Cond.methodLink RL 17 yX8_row : Cond)).onTables && ((Cond.methodLink RL 17 yX8_row : Cond)).keeps) = true ∨ ∃ ty, (Cond.methodLink RL 17 yX8_row) = .arrayClass ty) := ⟨zt_4 (List.mem_of_getElem? (i := 46) rfl), good_of_word rfl⟩
theorem gq_17 : GoodIn lw_tbl (wsV RL 17 RX8 yX8_row wsX8_row) := goodIn_app (zl_cons zg_97 (zl_cons zg_96 (zl_cons zg_95 (zl_cons zg_49 zl_nil)))) gl_wsX8_row
theorem zg_98 : (Cond.constantLong RL 18 (4294967295)) ∈ lw_tbl ∧ ((((Cond.constantLong RL 18 (4294967295) : Cond)).onTables && ((Cond.constantLong RL 18 (4294967295) : Cond)).keeps) = true ∨ ∃ ty, (Cond.constantLong RL 18 (4294967295)) = .arrayClass ty) := ⟨zt_5 (List.mem_of_getElem? (i := 172) rfl), good_of_word rfl⟩
theorem zg_99 : (Cond.code yX7_set cX7_set 7 (some .int)) ∈ lw_tbl ∧ ((((Cond.code yX7_set cX7_set 7 (some .int) : Cond)).onTables && ((Cond.code yX7_set cX7_set 7 (some .int) : Cond)).keeps) = true ∨ ∃ ty, (Cond.code yX7_set cX7_set 7 (some .int)) = .arrayClass ty) := ⟨zt_1 (List.mem_of_getElem? (i := 26) rfl), good_of_word rfl⟩
theorem zg_100 : (Cond.code yX4_hasSpan cX4_hasSpan 3 (some .boolean)) ∈ lw_tbl ∧ ((((Cond.code yX4_hasSpan cX4_hasSpan 3 (some .boolean) : Cond)).onTables && ((Cond.code yX4_hasSpan cX4_hasSpan 3 (some .boolean) : Cond)).keeps) = true ∨ ∃ ty, (Cond.code yX4_hasSpan cX4_hasSpan 3 (some .boolean)) = .arrayClass ty) := ⟨zt_1 (List.mem_of_getElem? (i := 34) rfl), good_of_word rfl⟩
theorem zg_101 : (Cond.selects RX4 yX4_hasSpan yX4_hasSpan) ∈ lw_tbl ∧ ((((Cond.selects RX4 yX4_hasSpan yX4_hasSpan : Cond)).onTables && ((Cond.selects RX4 yX4_hasSpan yX4_hasSpan : Cond)).keeps) = true ∨ ∃ ty, (Cond.selects RX4 yX4_hasSpan yX4_hasSpan) = .arrayClass ty) := ⟨zt_1 (List.mem_of_getElem? (i := 33) rfl), good_of_word rfl⟩
theorem zg_102 : (Cond.instanceMethod yX4_hasSpan) ∈ lw_tbl ∧ ((((Cond.instanceMethod yX4_hasSpan : Cond)).onTables && ((Cond.instanceMethod yX4_hasSpan : Cond)).keeps) = true ∨ ∃ ty, (Cond.instanceMethod yX4_hasSpan) = .arrayClass ty) := ⟨zt_1 (List.mem_of_getElem? (i := 32) rfl), good_of_word rfl⟩
theorem zg_103 : (Cond.methodLink RX7 79 yX4_hasSpan) ∈ lw_tbl ∧ ((((Cond.methodLink RX7 79 yX4_hasSpan : Cond)).onTables && ((Cond.methodLink RX7 79 yX4_hasSpan : Cond)).keeps) = true ∨ ∃ ty, (Cond.methodLink RX7 79 yX4_hasSpan) = .arrayClass ty) := ⟨zt_1 (List.mem_of_getElem? (i := 31) rfl), good_of_word rfl⟩
theorem zg_104 : (Cond.code yX4_noRow cX4_noRow 1 (some .int)) ∈ lw_tbl ∧ ((((Cond.code yX4_noRow cX4_noRow 1 (some .int) : Cond)).onTables && ((Cond.code yX4_noRow cX4_noRow 1 (some .int) : Cond)).keeps) = true ∨ ∃ ty, (Cond.code yX4_noRow cX4_noRow 1 (some .int)) = .arrayClass ty) := ⟨zt_1 (List.mem_of_getElem? (i := 30) rfl), good_of_word rfl⟩
theorem zg_105 : (Cond.selects RX4 yX4_noRow yX4_noRow) ∈ lw_tbl ∧ ((((Cond.selects RX4 yX4_noRow yX4_noRow : Cond)).onTables && ((Cond.selects RX4 yX4_noRow yX4_noRow : Cond)).keeps) = true ∨ ∃ ty, (Cond.selects RX4 yX4_noRow yX4_noRow) = .arrayClass ty) := ⟨zt_1 (List.mem_of_getElem? (i := 29) rfl), good_of_word rfl⟩
theorem zg_106 : (Cond.instanceMethod yX4_noRow) ∈ lw_tbl ∧ ((((Cond.instanceMethod yX4_noRow : Cond)).onTables && ((Cond.instanceMethod yX4_noRow : Cond)).keeps) = true ∨ ∃ ty, (Cond.instanceMethod yX4_noRow) = .arrayClass ty) := ⟨zt_1 (List.mem_of_getElem? (i := 28) rfl), good_of_word rfl⟩
theorem zg_107 : (Cond.methodLink RX7 75 yX4_noRow) ∈ lw_tbl ∧ ((((Cond.methodLink RX7 75 yX4_noRow : Cond)).onTables && ((Cond.methodLink RX7 75 yX4_noRow : Cond)).keeps) = true ∨ ∃ ty, (Cond.methodLink RX7 75 yX4_noRow) = .arrayClass ty) := ⟨zt_1 (List.mem_of_getElem? (i := 27) rfl), good_of_word rfl⟩
theorem gl_wsX7_set_r1 : GoodIn lw_tbl wsX7_set_r1 := (zl_cons zg_24 (zl_cons zg_23 (zl_cons zg_22 (zl_cons zg_21 (zl_cons zg_20 (zl_cons zg_19 (zl_cons zg_18 (zl_cons zg_17 (zl_cons zg_16 (zl_cons zg_15 (zl_cons zg_14 (zl_cons zg_13 (zl_cons zg_12 (zl_cons zg_11 (zl_cons zg_107 (zl_cons zg_106 (zl_cons zg_105 (zl_cons zg_7 (zl_cons zg_104 (zl_cons zg_5 (zl_cons zg_103 (zl_cons zg_102 (zl_cons zg_101 (zl_cons zg_100 zl_nil))))))))))))))))))))))))
theorem zg_108 : (Cond.code yX4_put cX4_put 4 none) ∈ lw_tbl ∧ ((((Cond.code yX4_put cX4_put 4 none : Cond)).onTables && ((Cond.code yX4_put cX4_put 4 none : Cond)).keeps) = true ∨ ∃ ty, (Cond.code yX4_put cX4_put 4 none) = .arrayClass ty) := ⟨zt_1 (List.mem_of_getElem? (i := 38) rfl), good_of_word rfl⟩
theorem zg_109 : (Cond.selects RX4 yX4_put yX4_put) ∈ lw_tbl ∧ ((((Cond.selects RX4 yX4_put yX4_put : Cond)).onTables && ((Cond.selects RX4 yX4_put yX4_put : Cond)).keeps) = true ∨ ∃ ty, (Cond.selects RX4 yX4_put yX4_put) = .arrayClass ty) := ⟨zt_1 (List.mem_of_getElem? (i := 37) rfl), good_of_word rfl⟩
theorem zg_110 : (Cond.instanceMethod yX4_put) ∈ lw_tbl ∧ ((((Cond.instanceMethod yX4_put : Cond)).onTables && ((Cond.instanceMethod yX4_put : Cond)).keeps) = true ∨ ∃ ty, (Cond.instanceMethod yX4_put) = .arrayClass ty) := ⟨zt_1 (List.mem_of_getElem? (i := 36) rfl), good_of_word rfl⟩
theorem zg_111 : (Cond.methodLink RX7 83 yX4_put) ∈ lw_tbl ∧ ((((Cond.methodLink RX7 83 yX4_put : Cond)).onTables && ((Cond.methodLink RX7 83 yX4_put : Cond)).keeps) = true ∨ ∃ ty, (Cond.methodLink RX7 83 yX4_put) = .arrayClass ty) := ⟨zt_1 (List.mem_of_getElem? (i := 35) rfl), good_of_word rfl⟩
theorem gl_wsX7_set_r2 : GoodIn lw_tbl wsX7_set_r2 := (zl_cons zg_4 (zl_cons zg_111 (zl_cons zg_110 (zl_cons zg_109 (zl_cons zg_108 (zl_cons zg_3 zl_nil))))))
theorem gl_wsX7_set : GoodIn lw_tbl wsX7_set := (zl_cons zg_99 (goodIn_app (goodIn_app (goodIn_app gl_wsX7_set_r1 gl_wsX7_set_r2) gl_wsX70) gl_wsX40))
theorem zg_112 : (Cond.selects RX7 yX7_set yX7_set) ∈ lw_tbl ∧ ((((Cond.selects RX7 yX7_set yX7_set : Cond)).onTables && ((Cond.selects RX7 yX7_set yX7_set : Cond)).keeps) = true ∨ ∃ ty, (Cond.selects RX7 yX7_set yX7_set) = .arrayClass ty) := ⟨zt_1 (List.mem_of_getElem? (i := 25) rfl), good_of_word rfl⟩
theorem zg_113 : (Cond.instanceMethod yX7_set) ∈ lw_tbl ∧ ((((Cond.instanceMethod yX7_set : Cond)).onTables && ((Cond.instanceMethod yX7_set : Cond)).keeps) = true ∨ ∃ ty, (Cond.instanceMethod yX7_set) = .arrayClass ty) := ⟨zt_1 (List.mem_of_getElem? (i := 24) rfl), good_of_word rfl⟩
theorem zg_114 : (Cond.methodLink RL 20 yX7_set) ∈ lw_tbl ∧ ((((Cond.methodLink RL 20 yX7_set : Cond)).onTables && ((Cond.methodLink RL 20 yX7_set : Cond)).keeps) = true ∨ ∃ ty, (Cond.methodLink RL 20 yX7_set) = .arrayClass ty) := ⟨zt_1 (List.mem_of_getElem? (i := 23) rfl), good_of_word rfl⟩
theorem gq_20 : GoodIn lw_tbl (wsV RL 20 RX7 yX7_set wsX7_set) := goodIn_app (zl_cons zg_114 (zl_cons zg_113 (zl_cons zg_112 (zl_cons zg_21 zl_nil)))) gl_wsX7_set
theorem zg_115 : (Cond.code yX8_set cX8_set 5 (some .int)) ∈ lw_tbl ∧ ((((Cond.code yX8_set cX8_set 5 (some .int) : Cond)).onTables && ((Cond.code yX8_set cX8_set 5 (some .int) : Cond)).keeps) = true ∨ ∃ ty, (Cond.code yX8_set cX8_set 5 (some .int)) = .arrayClass ty) := ⟨zt_4 (List.mem_of_getElem? (i := 61) rfl), good_of_word rfl⟩
theorem gl_wsX8_set : GoodIn lw_tbl wsX8_set := (zl_cons zg_115 (goodIn_app (zl_cons zg_56 (zl_cons zg_54 (zl_cons zg_53 (zl_cons zg_55 (zl_cons zg_52 (zl_cons zg_51 (zl_cons zg_50 (zl_cons zg_49 (zl_cons zg_48 (zl_cons zg_47 (zl_cons zg_46 (zl_cons zg_45 (zl_cons zg_44 (zl_cons zg_43 zl_nil)))))))))))))) gl_wsX80))
theorem zg_116 : (Cond.selects RX8 yX8_set yX8_set) ∈ lw_tbl ∧ ((((Cond.selects RX8 yX8_set yX8_set : Cond)).onTables && ((Cond.selects RX8 yX8_set yX8_set : Cond)).keeps) = true ∨ ∃ ty, (Cond.selects RX8 yX8_set yX8_set) = .arrayClass ty) := ⟨zt_4 (List.mem_of_getElem? (i := 60) rfl), good_of_word rfl⟩
theorem zg_117 : (Cond.instanceMethod yX8_set) ∈ lw_tbl ∧ ((((Cond.instanceMethod yX8_set : Cond)).onTables && ((Cond.instanceMethod yX8_set : Cond)).keeps) = true ∨ ∃ ty, (Cond.instanceMethod yX8_set) = .arrayClass ty) := ⟨zt_4 (List.mem_of_getElem? (i := 59) rfl), good_of_word rfl⟩
theorem zg_118 : (Cond.methodLink RL 24 yX8_set) ∈ lw_tbl ∧ ((((Cond.methodLink RL 24 yX8_set : Cond)).onTables && ((Cond.methodLink RL 24 yX8_set : Cond)).keeps) = true ∨ ∃ ty, (Cond.methodLink RL 24 yX8_set) = .arrayClass ty) := ⟨zt_4 (List.mem_of_getElem? (i := 58) rfl), good_of_word rfl⟩
theorem gq_24 : GoodIn lw_tbl (wsV RL 24 RX8 yX8_set wsX8_set) := goodIn_app (zl_cons zg_118 (zl_cons zg_117 (zl_cons zg_116 (zl_cons zg_49 zl_nil)))) gl_wsX8_set
theorem zg_119 : (Cond.code yX7_copy cX7_copy 11 (some .int)) ∈ lw_tbl ∧ ((((Cond.code yX7_copy cX7_copy 11 (some .int) : Cond)).onTables && ((Cond.code yX7_copy cX7_copy 11 (some .int) : Cond)).keeps) = true ∨ ∃ ty, (Cond.code yX7_copy cX7_copy 11 (some .int)) = .arrayClass ty) := ⟨zt_1 (List.mem_of_getElem? (i := 42) rfl), good_of_word rfl⟩
theorem zg_120 : (Cond.initialized "java/lang/System") ∈ lw_tbl ∧ ((((Cond.initialized "java/lang/System" : Cond)).onTables && ((Cond.initialized "java/lang/System" : Cond)).keeps) = true ∨ ∃ ty, (Cond.initialized "java/lang/System") = .arrayClass ty) := ⟨zt_0 (List.mem_of_getElem? (i := 10) rfl), good_of_word rfl⟩
theorem zg_121 : (Cond.static arraycopyName) ∈ lw_tbl ∧ ((((Cond.static arraycopyName : Cond)).onTables && ((Cond.static arraycopyName : Cond)).keeps) = true ∨ ∃ ty, (Cond.static arraycopyName) = .arrayClass ty) := ⟨zt_1 (List.mem_of_getElem? (i := 44) rfl), good_of_word rfl⟩
theorem zg_122 : (Cond.native arraycopyName) ∈ lw_tbl ∧ ((((Cond.native arraycopyName : Cond)).onTables && ((Cond.native arraycopyName : Cond)).keeps) = true ∨ ∃ ty, (Cond.native arraycopyName) = .arrayClass ty) := ⟨zt_1 (List.mem_of_getElem? (i := 45) rfl), good_of_word rfl⟩
theorem zg_123 : (Cond.methodLink RX7 94 arraycopyName) ∈ lw_tbl ∧ ((((Cond.methodLink RX7 94 arraycopyName : Cond)).onTables && ((Cond.methodLink RX7 94 arraycopyName : Cond)).keeps) = true ∨ ∃ ty, (Cond.methodLink RX7 94 arraycopyName) = .arrayClass ty) := ⟨zt_1 (List.mem_of_getElem? (i := 43) rfl), good_of_word rfl⟩
theorem zg_124 : (Cond.fieldLink RX7 90 "TheLiningsInIt$Shelf" "elements" "[J") ∈ lw_tbl ∧ ((((Cond.fieldLink RX7 90 "TheLiningsInIt$Shelf" "elements" "[J" : Cond)).onTables && ((Cond.fieldLink RX7 90 "TheLiningsInIt$Shelf" "elements" "[J" : Cond)).keeps) = true ∨ ∃ ty, (Cond.fieldLink RX7 90 "TheLiningsInIt$Shelf" "elements" "[J") = .arrayClass ty) := ⟨zt_0 (List.mem_of_getElem? (i := 200) rfl), good_of_word rfl⟩
theorem zg_125 : (Cond.fieldLink RX7 87 "TheLiningsInIt$Shelf" "held" "I") ∈ lw_tbl ∧ ((((Cond.fieldLink RX7 87 "TheLiningsInIt$Shelf" "held" "I" : Cond)).onTables && ((Cond.fieldLink RX7 87 "TheLiningsInIt$Shelf" "held" "I" : Cond)).keeps) = true ∨ ∃ ty, (Cond.fieldLink RX7 87 "TheLiningsInIt$Shelf" "held" "I") = .arrayClass ty) := ⟨zt_0 (List.mem_of_getElem? (i := 202) rfl), good_of_word rfl⟩
theorem gl_wsX7_copy_r1 : GoodIn lw_tbl wsX7_copy_r1 := (zl_cons zg_125 (zl_cons zg_124 (zl_cons zg_123 (zl_cons zg_122 (zl_cons zg_121 (zl_cons zg_120 (zl_cons zg_24 (zl_cons zg_23 (zl_cons zg_22 (zl_cons zg_21 (zl_cons zg_20 (zl_cons zg_19 (zl_cons zg_18 (zl_cons zg_17 (zl_cons zg_16 (zl_cons zg_15 (zl_cons zg_14 (zl_cons zg_13 (zl_cons zg_12 (zl_cons zg_11 (zl_cons zg_107 (zl_cons zg_106 (zl_cons zg_105 (zl_cons zg_7 zl_nil))))))))))))))))))))))))
theorem gl_wsX7_copy_r2 : GoodIn lw_tbl wsX7_copy_r2 := (zl_cons zg_104 (zl_cons zg_5 (zl_cons zg_103 (zl_cons zg_102 (zl_cons zg_101 (zl_cons zg_100 (zl_cons zg_4 zl_nil)))))))
theorem gl_wsX7_copy : GoodIn lw_tbl wsX7_copy := (zl_cons zg_119 (goodIn_app (goodIn_app (goodIn_app gl_wsX7_copy_r1 gl_wsX7_copy_r2) gl_wsX40) gl_wsX70))
theorem zg_126 : (Cond.selects RX7 yX7_copy yX7_copy) ∈ lw_tbl ∧ ((((Cond.selects RX7 yX7_copy yX7_copy : Cond)).onTables && ((Cond.selects RX7 yX7_copy yX7_copy : Cond)).keeps) = true ∨ ∃ ty, (Cond.selects RX7 yX7_copy yX7_copy) = .arrayClass ty) := ⟨zt_1 (List.mem_of_getElem? (i := 41) rfl), good_of_word rfl⟩
theorem zg_127 : (Cond.instanceMethod yX7_copy) ∈ lw_tbl ∧ ((((Cond.instanceMethod yX7_copy : Cond)).onTables && ((Cond.instanceMethod yX7_copy : Cond)).keeps) = true ∨ ∃ ty, (Cond.instanceMethod yX7_copy) = .arrayClass ty) := ⟨zt_1 (List.mem_of_getElem? (i := 40) rfl), good_of_word rfl⟩
theorem zg_128 : (Cond.methodLink RL 25 yX7_copy) ∈ lw_tbl ∧ ((((Cond.methodLink RL 25 yX7_copy : Cond)).onTables && ((Cond.methodLink RL 25 yX7_copy : Cond)).keeps) = true ∨ ∃ ty, (Cond.methodLink RL 25 yX7_copy) = .arrayClass ty) := ⟨zt_1 (List.mem_of_getElem? (i := 39) rfl), good_of_word rfl⟩
theorem gq_25 : GoodIn lw_tbl (wsV RL 25 RX7 yX7_copy wsX7_copy) := goodIn_app (zl_cons zg_128 (zl_cons zg_127 (zl_cons zg_126 (zl_cons zg_21 zl_nil)))) gl_wsX7_copy
theorem zg_129 : (Cond.code yX8_copy cX8_copy 7 (some .int)) ∈ lw_tbl ∧ ((((Cond.code yX8_copy cX8_copy 7 (some .int) : Cond)).onTables && ((Cond.code yX8_copy cX8_copy 7 (some .int) : Cond)).keeps) = true ∨ ∃ ty, (Cond.code yX8_copy cX8_copy 7 (some .int)) = .arrayClass ty) := ⟨zt_4 (List.mem_of_getElem? (i := 65) rfl), good_of_word rfl⟩
theorem zg_130 : (Cond.fieldLink RX8 63 "TheLiningsInItModel" "carried" "[J") ∈ lw_tbl ∧ ((((Cond.fieldLink RX8 63 "TheLiningsInItModel" "carried" "[J" : Cond)).onTables && ((Cond.fieldLink RX8 63 "TheLiningsInItModel" "carried" "[J" : Cond)).keeps) = true ∨ ∃ ty, (Cond.fieldLink RX8 63 "TheLiningsInItModel" "carried" "[J") = .arrayClass ty) := ⟨zt_3 (List.mem_of_getElem? (i := 193) rfl), good_of_word rfl⟩
theorem gl_wsX8_copy : GoodIn lw_tbl wsX8_copy := (zl_cons zg_129 (goodIn_app (zl_cons zg_56 (zl_cons zg_55 (zl_cons zg_54 (zl_cons zg_130 (zl_cons zg_53 (zl_cons zg_52 (zl_cons zg_51 (zl_cons zg_50 (zl_cons zg_49 (zl_cons zg_48 (zl_cons zg_47 (zl_cons zg_46 (zl_cons zg_45 (zl_cons zg_44 (zl_cons zg_43 zl_nil))))))))))))))) gl_wsX80))
theorem zg_131 : (Cond.selects RX8 yX8_copy yX8_copy) ∈ lw_tbl ∧ ((((Cond.selects RX8 yX8_copy yX8_copy : Cond)).onTables && ((Cond.selects RX8 yX8_copy yX8_copy : Cond)).keeps) = true ∨ ∃ ty, (Cond.selects RX8 yX8_copy yX8_copy) = .arrayClass ty) := ⟨zt_4 (List.mem_of_getElem? (i := 64) rfl), good_of_word rfl⟩
theorem zg_132 : (Cond.instanceMethod yX8_copy) ∈ lw_tbl ∧ ((((Cond.instanceMethod yX8_copy : Cond)).onTables && ((Cond.instanceMethod yX8_copy : Cond)).keeps) = true ∨ ∃ ty, (Cond.instanceMethod yX8_copy) = .arrayClass ty) := ⟨zt_4 (List.mem_of_getElem? (i := 63) rfl), good_of_word rfl⟩
theorem zg_133 : (Cond.methodLink RL 29 yX8_copy) ∈ lw_tbl ∧ ((((Cond.methodLink RL 29 yX8_copy : Cond)).onTables && ((Cond.methodLink RL 29 yX8_copy : Cond)).keeps) = true ∨ ∃ ty, (Cond.methodLink RL 29 yX8_copy) = .arrayClass ty) := ⟨zt_4 (List.mem_of_getElem? (i := 62) rfl), good_of_word rfl⟩
theorem gq_29 : GoodIn lw_tbl (wsV RL 29 RX8 yX8_copy wsX8_copy) := goodIn_app (zl_cons zg_133 (zl_cons zg_132 (zl_cons zg_131 (zl_cons zg_49 zl_nil)))) gl_wsX8_copy
theorem zg_134 : (Cond.code yX7_element cX7_element 4 (some .long)) ∈ lw_tbl ∧ ((((Cond.code yX7_element cX7_element 4 (some .long) : Cond)).onTables && ((Cond.code yX7_element cX7_element 4 (some .long) : Cond)).keeps) = true ∨ ∃ ty, (Cond.code yX7_element cX7_element 4 (some .long)) = .arrayClass ty) := ⟨zt_1 (List.mem_of_getElem? (i := 49) rfl), good_of_word rfl⟩
theorem gl_wsX7_element : GoodIn lw_tbl wsX7_element := (zl_cons zg_134 (goodIn_app (goodIn_app (zl_cons zg_124 (zl_cons zg_24 (zl_cons zg_23 (zl_cons zg_22 (zl_cons zg_21 (zl_cons zg_20 (zl_cons zg_19 (zl_cons zg_18 (zl_cons zg_17 (zl_cons zg_16 (zl_cons zg_107 (zl_cons zg_106 (zl_cons zg_105 (zl_cons zg_7 (zl_cons zg_104 (zl_cons zg_5 (zl_cons zg_103 (zl_cons zg_102 (zl_cons zg_101 (zl_cons zg_100 (zl_cons zg_4 zl_nil))))))))))))))))))))) gl_wsX40) gl_wsX70))
theorem zg_135 : (Cond.selects RX7 yX7_element yX7_element) ∈ lw_tbl ∧ ((((Cond.selects RX7 yX7_element yX7_element : Cond)).onTables && ((Cond.selects RX7 yX7_element yX7_element : Cond)).keeps) = true ∨ ∃ ty, (Cond.selects RX7 yX7_element yX7_element) = .arrayClass ty) := ⟨zt_1 (List.mem_of_getElem? (i := 48) rfl), good_of_word rfl⟩
theorem zg_136 : (Cond.instanceMethod yX7_element) ∈ lw_tbl ∧ ((((Cond.instanceMethod yX7_element : Cond)).onTables && ((Cond.instanceMethod yX7_element : Cond)).keeps) = true ∨ ∃ ty, (Cond.instanceMethod yX7_element) = .arrayClass ty) := ⟨zt_1 (List.mem_of_getElem? (i := 47) rfl), good_of_word rfl⟩
theorem zg_137 : (Cond.methodLink RL 30 yX7_element) ∈ lw_tbl ∧ ((((Cond.methodLink RL 30 yX7_element : Cond)).onTables && ((Cond.methodLink RL 30 yX7_element : Cond)).keeps) = true ∨ ∃ ty, (Cond.methodLink RL 30 yX7_element) = .arrayClass ty) := ⟨zt_1 (List.mem_of_getElem? (i := 46) rfl), good_of_word rfl⟩
theorem gq_30 : GoodIn lw_tbl (wsV RL 30 RX7 yX7_element wsX7_element) := goodIn_app (zl_cons zg_137 (zl_cons zg_136 (zl_cons zg_135 (zl_cons zg_21 zl_nil)))) gl_wsX7_element
theorem zg_138 : (Cond.code yX8_element cX8_element 3 (some .long)) ∈ lw_tbl ∧ ((((Cond.code yX8_element cX8_element 3 (some .long) : Cond)).onTables && ((Cond.code yX8_element cX8_element 3 (some .long) : Cond)).keeps) = true ∨ ∃ ty, (Cond.code yX8_element cX8_element 3 (some .long)) = .arrayClass ty) := ⟨zt_4 (List.mem_of_getElem? (i := 69) rfl), good_of_word rfl⟩
theorem gl_wsX8_element : GoodIn lw_tbl wsX8_element := (zl_cons zg_138 (goodIn_app (zl_cons zg_56 (zl_cons zg_54 (zl_cons zg_53 (zl_cons zg_52 (zl_cons zg_51 (zl_cons zg_50 (zl_cons zg_49 (zl_cons zg_48 zl_nil)))))))) gl_wsX80))
theorem zg_139 : (Cond.selects RX8 yX8_element yX8_element) ∈ lw_tbl ∧ ((((Cond.selects RX8 yX8_element yX8_element : Cond)).onTables && ((Cond.selects RX8 yX8_element yX8_element : Cond)).keeps) = true ∨ ∃ ty, (Cond.selects RX8 yX8_element yX8_element) = .arrayClass ty) := ⟨zt_4 (List.mem_of_getElem? (i := 68) rfl), good_of_word rfl⟩
theorem zg_140 : (Cond.instanceMethod yX8_element) ∈ lw_tbl ∧ ((((Cond.instanceMethod yX8_element : Cond)).onTables && ((Cond.instanceMethod yX8_element : Cond)).keeps) = true ∨ ∃ ty, (Cond.instanceMethod yX8_element) = .arrayClass ty) := ⟨zt_4 (List.mem_of_getElem? (i := 67) rfl), good_of_word rfl⟩
theorem zg_141 : (Cond.methodLink RL 34 yX8_element) ∈ lw_tbl ∧ ((((Cond.methodLink RL 34 yX8_element : Cond)).onTables && ((Cond.methodLink RL 34 yX8_element : Cond)).keeps) = true ∨ ∃ ty, (Cond.methodLink RL 34 yX8_element) = .arrayClass ty) := ⟨zt_4 (List.mem_of_getElem? (i := 66) rfl), good_of_word rfl⟩
theorem gq_34 : GoodIn lw_tbl (wsV RL 34 RX8 yX8_element wsX8_element) := goodIn_app (zl_cons zg_141 (zl_cons zg_140 (zl_cons zg_139 (zl_cons zg_49 zl_nil)))) gl_wsX8_element
theorem zg_142 : (Cond.code yX7_show cX7_show 4 (some .int)) ∈ lw_tbl ∧ ((((Cond.code yX7_show cX7_show 4 (some .int) : Cond)).onTables && ((Cond.code yX7_show cX7_show 4 (some .int) : Cond)).keeps) = true ∨ ∃ ty, (Cond.code yX7_show cX7_show 4 (some .int)) = .arrayClass ty) := ⟨zt_1 (List.mem_of_getElem? (i := 53) rfl), good_of_word rfl⟩
theorem zg_143 : (Cond.fieldLink RX0 20 "TheLiningsInIt$Jacket" "pulls" "[LTheLiningsInIt$Pull;") ∈ lw_tbl ∧ ((((Cond.fieldLink RX0 20 "TheLiningsInIt$Jacket" "pulls" "[LTheLiningsInIt$Pull;" : Cond)).onTables && ((Cond.fieldLink RX0 20 "TheLiningsInIt$Jacket" "pulls" "[LTheLiningsInIt$Pull;" : Cond)).keeps) = true ∨ ∃ ty, (Cond.fieldLink RX0 20 "TheLiningsInIt$Jacket" "pulls" "[LTheLiningsInIt$Pull;") = .arrayClass ty) := ⟨zt_0 (List.mem_of_getElem? (i := 74) rfl), good_of_word rfl⟩
theorem zg_144 : (Cond.fieldLink RX0 28 "TheLiningsInIt$Jacket" "pullCount" "I") ∈ lw_tbl ∧ ((((Cond.fieldLink RX0 28 "TheLiningsInIt$Jacket" "pullCount" "I" : Cond)).onTables && ((Cond.fieldLink RX0 28 "TheLiningsInIt$Jacket" "pullCount" "I" : Cond)).keeps) = true ∨ ∃ ty, (Cond.fieldLink RX0 28 "TheLiningsInIt$Jacket" "pullCount" "I") = .arrayClass ty) := ⟨zt_0 (List.mem_of_getElem? (i := 78) rfl), good_of_word rfl⟩
theorem zg_145 : (Cond.code yX0_pullAt cX0_pullAt 2 (some (.object "TheLiningsInIt$Pull"))) ∈ lw_tbl ∧ ((((Cond.code yX0_pullAt cX0_pullAt 2 (some (.object "TheLiningsInIt$Pull")) : Cond)).onTables && ((Cond.code yX0_pullAt cX0_pullAt 2 (some (.object "TheLiningsInIt$Pull")) : Cond)).keeps) = true ∨ ∃ ty, (Cond.code yX0_pullAt cX0_pullAt 2 (some (.object "TheLiningsInIt$Pull"))) = .arrayClass ty) := ⟨zt_1 (List.mem_of_getElem? (i := 57) rfl), good_of_word rfl⟩
theorem zg_146 : (Cond.initialized RX0) ∈ lw_tbl ∧ ((((Cond.initialized RX0 : Cond)).onTables && ((Cond.initialized RX0 : Cond)).keeps) = true ∨ ∃ ty, (Cond.initialized RX0) = .arrayClass ty) := ⟨zt_0 (List.mem_of_getElem? (i := 2) rfl), good_of_word rfl⟩
theorem zg_147 : (Cond.selects RX0 yX0_pullAt yX0_pullAt) ∈ lw_tbl ∧ ((((Cond.selects RX0 yX0_pullAt yX0_pullAt : Cond)).onTables && ((Cond.selects RX0 yX0_pullAt yX0_pullAt : Cond)).keeps) = true ∨ ∃ ty, (Cond.selects RX0 yX0_pullAt yX0_pullAt) = .arrayClass ty) := ⟨zt_1 (List.mem_of_getElem? (i := 56) rfl), good_of_word rfl⟩
theorem zg_148 : (Cond.instanceMethod yX0_pullAt) ∈ lw_tbl ∧ ((((Cond.instanceMethod yX0_pullAt : Cond)).onTables && ((Cond.instanceMethod yX0_pullAt : Cond)).keeps) = true ∨ ∃ ty, (Cond.instanceMethod yX0_pullAt) = .arrayClass ty) := ⟨zt_1 (List.mem_of_getElem? (i := 55) rfl), good_of_word rfl⟩
theorem zg_149 : (Cond.methodLink RX7 100 yX0_pullAt) ∈ lw_tbl ∧ ((((Cond.methodLink RX7 100 yX0_pullAt : Cond)).onTables && ((Cond.methodLink RX7 100 yX0_pullAt : Cond)).keeps) = true ∨ ∃ ty, (Cond.methodLink RX7 100 yX0_pullAt) = .arrayClass ty) := ⟨zt_1 (List.mem_of_getElem? (i := 54) rfl), good_of_word rfl⟩
theorem zg_150 : (Cond.fieldLink RX7 18 "TheLiningsInIt" "now" "LTheLiningsInIt$Jacket;") ∈ lw_tbl ∧ ((((Cond.fieldLink RX7 18 "TheLiningsInIt" "now" "LTheLiningsInIt$Jacket;" : Cond)).onTables && ((Cond.fieldLink RX7 18 "TheLiningsInIt" "now" "LTheLiningsInIt$Jacket;" : Cond)).keeps) = true ∨ ∃ ty, (Cond.fieldLink RX7 18 "TheLiningsInIt" "now" "LTheLiningsInIt$Jacket;") = .arrayClass ty) := ⟨zt_0 (List.mem_of_getElem? (i := 214) rfl), good_of_word rfl⟩
theorem zg_151 : (u_lay RX0 TX0 8) ∈ lw_tbl ∧ ((((u_lay RX0 TX0 8 : Cond)).onTables && ((u_lay RX0 TX0 8 : Cond)).keeps) = true ∨ ∃ ty, (u_lay RX0 TX0 8) = .arrayClass ty) := ⟨zt_0 (List.mem_of_getElem? (i := 107) rfl), good_of_word rfl⟩
theorem zg_152 : (u_lay RX0 TX0 7) ∈ lw_tbl ∧ ((((u_lay RX0 TX0 7 : Cond)).onTables && ((u_lay RX0 TX0 7 : Cond)).keeps) = true ∨ ∃ ty, (u_lay RX0 TX0 7) = .arrayClass ty) := ⟨zt_0 (List.mem_of_getElem? (i := 105) rfl), good_of_word rfl⟩
theorem zg_153 : (u_lay RX0 TX0 6) ∈ lw_tbl ∧ ((((u_lay RX0 TX0 6 : Cond)).onTables && ((u_lay RX0 TX0 6 : Cond)).keeps) = true ∨ ∃ ty, (u_lay RX0 TX0 6) = .arrayClass ty) := ⟨zt_0 (List.mem_of_getElem? (i := 103) rfl), good_of_word rfl⟩
theorem zg_154 : (u_lay RX0 TX0 5) ∈ lw_tbl ∧ ((((u_lay RX0 TX0 5 : Cond)).onTables && ((u_lay RX0 TX0 5 : Cond)).keeps) = true ∨ ∃ ty, (u_lay RX0 TX0 5) = .arrayClass ty) := ⟨zt_0 (List.mem_of_getElem? (i := 101) rfl), good_of_word rfl⟩
theorem zg_155 : (u_lay RX0 TX0 4) ∈ lw_tbl ∧ ((((u_lay RX0 TX0 4 : Cond)).onTables && ((u_lay RX0 TX0 4 : Cond)).keeps) = true ∨ ∃ ty, (u_lay RX0 TX0 4) = .arrayClass ty) := ⟨zt_0 (List.mem_of_getElem? (i := 99) rfl), good_of_word rfl⟩
theorem zg_156 : (u_lay RX0 TX0 3) ∈ lw_tbl ∧ ((((u_lay RX0 TX0 3 : Cond)).onTables && ((u_lay RX0 TX0 3 : Cond)).keeps) = true ∨ ∃ ty, (u_lay RX0 TX0 3) = .arrayClass ty) := ⟨zt_0 (List.mem_of_getElem? (i := 97) rfl), good_of_word rfl⟩
theorem zg_157 : (u_lay RX0 TX0 2) ∈ lw_tbl ∧ ((((u_lay RX0 TX0 2 : Cond)).onTables && ((u_lay RX0 TX0 2 : Cond)).keeps) = true ∨ ∃ ty, (u_lay RX0 TX0 2) = .arrayClass ty) := ⟨zt_0 (List.mem_of_getElem? (i := 95) rfl), good_of_word rfl⟩
theorem zg_158 : (u_lay RX0 TX0 1) ∈ lw_tbl ∧ ((((u_lay RX0 TX0 1 : Cond)).onTables && ((u_lay RX0 TX0 1 : Cond)).keeps) = true ∨ ∃ ty, (u_lay RX0 TX0 1) = .arrayClass ty) := ⟨zt_0 (List.mem_of_getElem? (i := 93) rfl), good_of_word rfl⟩
theorem zg_159 : (u_lay RX0 TX0 0) ∈ lw_tbl ∧ ((((u_lay RX0 TX0 0 : Cond)).onTables && ((u_lay RX0 TX0 0 : Cond)).keeps) = true ∨ ∃ ty, (u_lay RX0 TX0 0) = .arrayClass ty) := ⟨zt_0 (List.mem_of_getElem? (i := 91) rfl), good_of_word rfl⟩
theorem gl_wsX00 : GoodIn lw_tbl wsX00 := (zl_cons zg_159 (zl_cons zg_158 (zl_cons zg_157 (zl_cons zg_156 (zl_cons zg_155 (zl_cons zg_154 (zl_cons zg_153 (zl_cons zg_152 (zl_cons zg_151 zl_nil)))))))))
theorem gl_wsX7_show : GoodIn lw_tbl wsX7_show := (zl_cons zg_142 (goodIn_app (goodIn_app (goodIn_app (zl_cons zg_150 (zl_cons zg_125 (zl_cons zg_24 (zl_cons zg_23 (zl_cons zg_22 (zl_cons zg_21 (zl_cons zg_20 (zl_cons zg_19 (zl_cons zg_18 (zl_cons zg_17 (zl_cons zg_16 (zl_cons zg_149 (zl_cons zg_148 (zl_cons zg_147 (zl_cons zg_146 (zl_cons zg_145 (zl_cons zg_144 (zl_cons zg_143 (zl_cons zg_15 (zl_cons zg_14 (zl_cons zg_13 (zl_cons zg_12 (zl_cons zg_11 zl_nil))))))))))))))))))))))) gl_wsX70) gl_wsX40) gl_wsX00))
theorem zg_160 : (Cond.selects RX7 yX7_show yX7_show) ∈ lw_tbl ∧ ((((Cond.selects RX7 yX7_show yX7_show : Cond)).onTables && ((Cond.selects RX7 yX7_show yX7_show : Cond)).keeps) = true ∨ ∃ ty, (Cond.selects RX7 yX7_show yX7_show) = .arrayClass ty) := ⟨zt_1 (List.mem_of_getElem? (i := 52) rfl), good_of_word rfl⟩
theorem zg_161 : (Cond.instanceMethod yX7_show) ∈ lw_tbl ∧ ((((Cond.instanceMethod yX7_show : Cond)).onTables && ((Cond.instanceMethod yX7_show : Cond)).keeps) = true ∨ ∃ ty, (Cond.instanceMethod yX7_show) = .arrayClass ty) := ⟨zt_1 (List.mem_of_getElem? (i := 51) rfl), good_of_word rfl⟩
theorem zg_162 : (Cond.methodLink RL 35 yX7_show) ∈ lw_tbl ∧ ((((Cond.methodLink RL 35 yX7_show : Cond)).onTables && ((Cond.methodLink RL 35 yX7_show : Cond)).keeps) = true ∨ ∃ ty, (Cond.methodLink RL 35 yX7_show) = .arrayClass ty) := ⟨zt_1 (List.mem_of_getElem? (i := 50) rfl), good_of_word rfl⟩
theorem gq_35 : GoodIn lw_tbl (wsV RL 35 RX7 yX7_show wsX7_show) := goodIn_app (zl_cons zg_162 (zl_cons zg_161 (zl_cons zg_160 (zl_cons zg_21 zl_nil)))) gl_wsX7_show
theorem zg_163 : (Cond.code yX8_show cX8_show 3 (some .int)) ∈ lw_tbl ∧ ((((Cond.code yX8_show cX8_show 3 (some .int) : Cond)).onTables && ((Cond.code yX8_show cX8_show 3 (some .int) : Cond)).keeps) = true ∨ ∃ ty, (Cond.code yX8_show cX8_show 3 (some .int)) = .arrayClass ty) := ⟨zt_4 (List.mem_of_getElem? (i := 73) rfl), good_of_word rfl⟩
theorem zg_164 : (Cond.fieldLink RX8 90 "TheLiningsInItModel" "pulls" "I") ∈ lw_tbl ∧ ((((Cond.fieldLink RX8 90 "TheLiningsInItModel" "pulls" "I" : Cond)).onTables && ((Cond.fieldLink RX8 90 "TheLiningsInItModel" "pulls" "I" : Cond)).keeps) = true ∨ ∃ ty, (Cond.fieldLink RX8 90 "TheLiningsInItModel" "pulls" "I") = .arrayClass ty) := ⟨zt_3 (List.mem_of_getElem? (i := 171) rfl), good_of_word rfl⟩
theorem zg_165 : (Cond.code yX8_isPull cX8_isPull 2 (some .boolean)) ∈ lw_tbl ∧ ((((Cond.code yX8_isPull cX8_isPull 2 (some .boolean) : Cond)).onTables && ((Cond.code yX8_isPull cX8_isPull 2 (some .boolean) : Cond)).keeps) = true ∨ ∃ ty, (Cond.code yX8_isPull cX8_isPull 2 (some .boolean)) = .arrayClass ty) := ⟨zt_4 (List.mem_of_getElem? (i := 77) rfl), good_of_word rfl⟩
theorem zg_166 : (Cond.selects RX8 yX8_isPull yX8_isPull) ∈ lw_tbl ∧ ((((Cond.selects RX8 yX8_isPull yX8_isPull : Cond)).onTables && ((Cond.selects RX8 yX8_isPull yX8_isPull : Cond)).keeps) = true ∨ ∃ ty, (Cond.selects RX8 yX8_isPull yX8_isPull) = .arrayClass ty) := ⟨zp_1 14 (by decide +kernel), good_of_word rfl⟩
theorem zg_167 : (Cond.instanceMethod yX8_isPull) ∈ lw_tbl ∧ ((((Cond.instanceMethod yX8_isPull : Cond)).onTables && ((Cond.instanceMethod yX8_isPull : Cond)).keeps) = true ∨ ∃ ty, (Cond.instanceMethod yX8_isPull) = .arrayClass ty) := ⟨zt_4 (List.mem_of_getElem? (i := 76) rfl), good_of_word rfl⟩
theorem zg_168 : (Cond.methodLink RX8 101 yX8_isPull) ∈ lw_tbl ∧ ((((Cond.methodLink RX8 101 yX8_isPull : Cond)).onTables && ((Cond.methodLink RX8 101 yX8_isPull : Cond)).keeps) = true ∨ ∃ ty, (Cond.methodLink RX8 101 yX8_isPull) = .arrayClass ty) := ⟨zt_4 (List.mem_of_getElem? (i := 74) rfl), good_of_word rfl⟩
theorem zg_169 : (Cond.fieldLink RX8 56 "TheLiningsInItModel" "shown" "[I") ∈ lw_tbl ∧ ((((Cond.fieldLink RX8 56 "TheLiningsInItModel" "shown" "[I" : Cond)).onTables && ((Cond.fieldLink RX8 56 "TheLiningsInItModel" "shown" "[I" : Cond)).keeps) = true ∨ ∃ ty, (Cond.fieldLink RX8 56 "TheLiningsInItModel" "shown" "[I") = .arrayClass ty) := ⟨zt_3 (List.mem_of_getElem? (i := 191) rfl), good_of_word rfl⟩
theorem gl_wsX8_show : GoodIn lw_tbl wsX8_show := (zl_cons zg_163 (goodIn_app (zl_cons zg_56 (zl_cons zg_169 (zl_cons zg_52 (zl_cons zg_51 (zl_cons zg_50 (zl_cons zg_49 (zl_cons zg_48 (zl_cons zg_168 (zl_cons zg_167 (zl_cons zg_166 (zl_cons zg_165 (zl_cons zg_164 (zl_cons zg_47 (zl_cons zg_46 (zl_cons zg_45 (zl_cons zg_44 (zl_cons zg_43 zl_nil))))))))))))))))) gl_wsX80))
theorem zg_170 : (Cond.selects RX8 yX8_show yX8_show) ∈ lw_tbl ∧ ((((Cond.selects RX8 yX8_show yX8_show : Cond)).onTables && ((Cond.selects RX8 yX8_show yX8_show : Cond)).keeps) = true ∨ ∃ ty, (Cond.selects RX8 yX8_show yX8_show) = .arrayClass ty) := ⟨zt_4 (List.mem_of_getElem? (i := 72) rfl), good_of_word rfl⟩
theorem zg_171 : (Cond.instanceMethod yX8_show) ∈ lw_tbl ∧ ((((Cond.instanceMethod yX8_show : Cond)).onTables && ((Cond.instanceMethod yX8_show : Cond)).keeps) = true ∨ ∃ ty, (Cond.instanceMethod yX8_show) = .arrayClass ty) := ⟨zt_4 (List.mem_of_getElem? (i := 71) rfl), good_of_word rfl⟩
theorem zg_172 : (Cond.methodLink RL 39 yX8_show) ∈ lw_tbl ∧ ((((Cond.methodLink RL 39 yX8_show : Cond)).onTables && ((Cond.methodLink RL 39 yX8_show : Cond)).keeps) = true ∨ ∃ ty, (Cond.methodLink RL 39 yX8_show) = .arrayClass ty) := ⟨zt_4 (List.mem_of_getElem? (i := 70) rfl), good_of_word rfl⟩
theorem gq_39 : GoodIn lw_tbl (wsV RL 39 RX8 yX8_show wsX8_show) := goodIn_app (zl_cons zg_172 (zl_cons zg_171 (zl_cons zg_170 (zl_cons zg_49 zl_nil)))) gl_wsX8_show
theorem zg_173 : (Cond.code yX7_holds cX7_holds 3 (some .int)) ∈ lw_tbl ∧ ((((Cond.code yX7_holds cX7_holds 3 (some .int) : Cond)).onTables && ((Cond.code yX7_holds cX7_holds 3 (some .int) : Cond)).keeps) = true ∨ ∃ ty, (Cond.code yX7_holds cX7_holds 3 (some .int)) = .arrayClass ty) := ⟨zt_1 (List.mem_of_getElem? (i := 62) rfl), good_of_word rfl⟩
theorem gl_wsX7_holds : GoodIn lw_tbl wsX7_holds := (zl_cons zg_173 (goodIn_app (goodIn_app (zl_cons zg_125 (zl_cons zg_24 (zl_cons zg_23 (zl_cons zg_22 (zl_cons zg_21 (zl_cons zg_20 (zl_cons zg_19 (zl_cons zg_18 (zl_cons zg_17 (zl_cons zg_16 zl_nil)))))))))) gl_wsX40) gl_wsX70))
theorem zg_174 : (Cond.selects RX7 yX7_holds yX7_holds) ∈ lw_tbl ∧ ((((Cond.selects RX7 yX7_holds yX7_holds : Cond)).onTables && ((Cond.selects RX7 yX7_holds yX7_holds : Cond)).keeps) = true ∨ ∃ ty, (Cond.selects RX7 yX7_holds yX7_holds) = .arrayClass ty) := ⟨zt_1 (List.mem_of_getElem? (i := 61) rfl), good_of_word rfl⟩
theorem zg_175 : (Cond.instanceMethod yX7_holds) ∈ lw_tbl ∧ ((((Cond.instanceMethod yX7_holds : Cond)).onTables && ((Cond.instanceMethod yX7_holds : Cond)).keeps) = true ∨ ∃ ty, (Cond.instanceMethod yX7_holds) = .arrayClass ty) := ⟨zt_1 (List.mem_of_getElem? (i := 60) rfl), good_of_word rfl⟩
theorem zg_176 : (Cond.methodLink RL 40 yX7_holds) ∈ lw_tbl ∧ ((((Cond.methodLink RL 40 yX7_holds : Cond)).onTables && ((Cond.methodLink RL 40 yX7_holds : Cond)).keeps) = true ∨ ∃ ty, (Cond.methodLink RL 40 yX7_holds) = .arrayClass ty) := ⟨zt_1 (List.mem_of_getElem? (i := 59) rfl), good_of_word rfl⟩
theorem gq_40 : GoodIn lw_tbl (wsV RL 40 RX7 yX7_holds wsX7_holds) := goodIn_app (zl_cons zg_176 (zl_cons zg_175 (zl_cons zg_174 (zl_cons zg_21 zl_nil)))) gl_wsX7_holds
theorem zg_177 : (Cond.code yX8_holds cX8_holds 2 (some .int)) ∈ lw_tbl ∧ ((((Cond.code yX8_holds cX8_holds 2 (some .int) : Cond)).onTables && ((Cond.code yX8_holds cX8_holds 2 (some .int) : Cond)).keeps) = true ∨ ∃ ty, (Cond.code yX8_holds cX8_holds 2 (some .int)) = .arrayClass ty) := ⟨zt_4 (List.mem_of_getElem? (i := 81) rfl), good_of_word rfl⟩
theorem gl_wsX8_holds : GoodIn lw_tbl wsX8_holds := (zl_cons zg_177 (goodIn_app (zl_cons zg_56 (zl_cons zg_55 (zl_cons zg_169 (zl_cons zg_52 (zl_cons zg_51 (zl_cons zg_50 (zl_cons zg_49 (zl_cons zg_48 zl_nil)))))))) gl_wsX80))
theorem zg_178 : (Cond.selects RX8 yX8_holds yX8_holds) ∈ lw_tbl ∧ ((((Cond.selects RX8 yX8_holds yX8_holds : Cond)).onTables && ((Cond.selects RX8 yX8_holds yX8_holds : Cond)).keeps) = true ∨ ∃ ty, (Cond.selects RX8 yX8_holds yX8_holds) = .arrayClass ty) := ⟨zt_4 (List.mem_of_getElem? (i := 80) rfl), good_of_word rfl⟩
theorem zg_179 : (Cond.instanceMethod yX8_holds) ∈ lw_tbl ∧ ((((Cond.instanceMethod yX8_holds : Cond)).onTables && ((Cond.instanceMethod yX8_holds : Cond)).keeps) = true ∨ ∃ ty, (Cond.instanceMethod yX8_holds) = .arrayClass ty) := ⟨zt_4 (List.mem_of_getElem? (i := 79) rfl), good_of_word rfl⟩
theorem zg_180 : (Cond.methodLink RL 44 yX8_holds) ∈ lw_tbl ∧ ((((Cond.methodLink RL 44 yX8_holds : Cond)).onTables && ((Cond.methodLink RL 44 yX8_holds : Cond)).keeps) = true ∨ ∃ ty, (Cond.methodLink RL 44 yX8_holds) = .arrayClass ty) := ⟨zt_4 (List.mem_of_getElem? (i := 78) rfl), good_of_word rfl⟩
theorem gq_44 : GoodIn lw_tbl (wsV RL 44 RX8 yX8_holds wsX8_holds) := goodIn_app (zl_cons zg_180 (zl_cons zg_179 (zl_cons zg_178 (zl_cons zg_49 zl_nil)))) gl_wsX8_holds
theorem zg_181 : (Cond.code yX7_says cX7_says 5 (some .int)) ∈ lw_tbl ∧ ((((Cond.code yX7_says cX7_says 5 (some .int) : Cond)).onTables && ((Cond.code yX7_says cX7_says 5 (some .int) : Cond)).keeps) = true ∨ ∃ ty, (Cond.code yX7_says cX7_says 5 (some .int)) = .arrayClass ty) := ⟨zt_1 (List.mem_of_getElem? (i := 66) rfl), good_of_word rfl⟩
theorem zg_182 : (Cond.fieldLink RX7 116 "TheLiningsInIt$Jacket" "hurry" "I") ∈ lw_tbl ∧ ((((Cond.fieldLink RX7 116 "TheLiningsInIt$Jacket" "hurry" "I" : Cond)).onTables && ((Cond.fieldLink RX7 116 "TheLiningsInIt$Jacket" "hurry" "I" : Cond)).keeps) = true ∨ ∃ ty, (Cond.fieldLink RX7 116 "TheLiningsInIt$Jacket" "hurry" "I") = .arrayClass ty) := ⟨zt_0 (List.mem_of_getElem? (i := 88) rfl), good_of_word rfl⟩
theorem zg_183 : (Cond.fieldLink RX7 110 "TheLiningsInIt$Pull" "takes" "I") ∈ lw_tbl ∧ ((((Cond.fieldLink RX7 110 "TheLiningsInIt$Pull" "takes" "I" : Cond)).onTables && ((Cond.fieldLink RX7 110 "TheLiningsInIt$Pull" "takes" "I" : Cond)).keeps) = true ∨ ∃ ty, (Cond.fieldLink RX7 110 "TheLiningsInIt$Pull" "takes" "I") = .arrayClass ty) := ⟨zt_1 (List.mem_of_getElem? (i := 115) rfl), good_of_word rfl⟩
theorem gl_wsX7_says_r1 : GoodIn lw_tbl wsX7_says_r1 := (zl_cons zg_125 (zl_cons zg_150 (zl_cons zg_183 (zl_cons zg_182 (zl_cons zg_24 (zl_cons zg_23 (zl_cons zg_22 (zl_cons zg_21 (zl_cons zg_20 (zl_cons zg_19 (zl_cons zg_18 (zl_cons zg_17 (zl_cons zg_16 (zl_cons zg_15 (zl_cons zg_14 (zl_cons zg_13 (zl_cons zg_12 (zl_cons zg_11 (zl_cons zg_149 (zl_cons zg_148 (zl_cons zg_147 (zl_cons zg_146 (zl_cons zg_145 (zl_cons zg_144 zl_nil))))))))))))))))))))))))
theorem zg_184 : (Cond.methodLink RX2 29 yX2_calmWaysAt) ∈ lw_tbl ∧ ((((Cond.methodLink RX2 29 yX2_calmWaysAt : Cond)).onTables && ((Cond.methodLink RX2 29 yX2_calmWaysAt : Cond)).keeps) = true ∨ ∃ ty, (Cond.methodLink RX2 29 yX2_calmWaysAt) = .arrayClass ty) := ⟨zt_1 (List.mem_of_getElem? (i := 82) rfl), good_of_word rfl⟩
theorem zg_185 : (Cond.code Lib.Math.max.name Lib.Math.max.code 2 (some .int)) ∈ lw_tbl ∧ ((((Cond.code Lib.Math.max.name Lib.Math.max.code 2 (some .int) : Cond)).onTables && ((Cond.code Lib.Math.max.name Lib.Math.max.code 2 (some .int) : Cond)).keeps) = true ∨ ∃ ty, (Cond.code Lib.Math.max.name Lib.Math.max.code 2 (some .int)) = .arrayClass ty) := ⟨zt_1 (List.mem_of_getElem? (i := 91) rfl), good_of_word rfl⟩
theorem zg_186 : (Cond.static Lib.Math.max.name) ∈ lw_tbl ∧ ((((Cond.static Lib.Math.max.name : Cond)).onTables && ((Cond.static Lib.Math.max.name : Cond)).keeps) = true ∨ ∃ ty, (Cond.static Lib.Math.max.name) = .arrayClass ty) := ⟨zt_1 (List.mem_of_getElem? (i := 90) rfl), good_of_word rfl⟩
theorem zg_187 : (Cond.methodLink RX2 39 Lib.Math.max.name) ∈ lw_tbl ∧ ((((Cond.methodLink RX2 39 Lib.Math.max.name : Cond)).onTables && ((Cond.methodLink RX2 39 Lib.Math.max.name : Cond)).keeps) = true ∨ ∃ ty, (Cond.methodLink RX2 39 Lib.Math.max.name) = .arrayClass ty) := ⟨zt_1 (List.mem_of_getElem? (i := 89) rfl), good_of_word rfl⟩
theorem zg_188 : (Cond.code Lib.Math.min.name Lib.Math.min.code 2 (some .int)) ∈ lw_tbl ∧ ((((Cond.code Lib.Math.min.name Lib.Math.min.code 2 (some .int) : Cond)).onTables && ((Cond.code Lib.Math.min.name Lib.Math.min.code 2 (some .int) : Cond)).keeps) = true ∨ ∃ ty, (Cond.code Lib.Math.min.name Lib.Math.min.code 2 (some .int)) = .arrayClass ty) := ⟨zt_1 (List.mem_of_getElem? (i := 88) rfl), good_of_word rfl⟩
theorem zg_189 : (Cond.initialized "java/lang/Math") ∈ lw_tbl ∧ ((((Cond.initialized "java/lang/Math" : Cond)).onTables && ((Cond.initialized "java/lang/Math" : Cond)).keeps) = true ∨ ∃ ty, (Cond.initialized "java/lang/Math") = .arrayClass ty) := ⟨zt_0 (List.mem_of_getElem? (i := 11) rfl), good_of_word rfl⟩
theorem zg_190 : (Cond.static Lib.Math.min.name) ∈ lw_tbl ∧ ((((Cond.static Lib.Math.min.name : Cond)).onTables && ((Cond.static Lib.Math.min.name : Cond)).keeps) = true ∨ ∃ ty, (Cond.static Lib.Math.min.name) = .arrayClass ty) := ⟨zt_1 (List.mem_of_getElem? (i := 87) rfl), good_of_word rfl⟩
theorem zg_191 : (Cond.methodLink RX2 33 Lib.Math.min.name) ∈ lw_tbl ∧ ((((Cond.methodLink RX2 33 Lib.Math.min.name : Cond)).onTables && ((Cond.methodLink RX2 33 Lib.Math.min.name : Cond)).keeps) = true ∨ ∃ ty, (Cond.methodLink RX2 33 Lib.Math.min.name) = .arrayClass ty) := ⟨zt_1 (List.mem_of_getElem? (i := 86) rfl), good_of_word rfl⟩
theorem zg_192 : (Cond.code yX2_waysAt cX2_waysAt 3 (some .int)) ∈ lw_tbl ∧ ((((Cond.code yX2_waysAt cX2_waysAt 3 (some .int) : Cond)).onTables && ((Cond.code yX2_waysAt cX2_waysAt 3 (some .int) : Cond)).keeps) = true ∨ ∃ ty, (Cond.code yX2_waysAt cX2_waysAt 3 (some .int)) = .arrayClass ty) := ⟨zt_1 (List.mem_of_getElem? (i := 81) rfl), good_of_word rfl⟩
theorem zg_193 : (Cond.selects RX2 yX2_waysAt yX2_waysAt) ∈ lw_tbl ∧ ((((Cond.selects RX2 yX2_waysAt yX2_waysAt : Cond)).onTables && ((Cond.selects RX2 yX2_waysAt yX2_waysAt : Cond)).keeps) = true ∨ ∃ ty, (Cond.selects RX2 yX2_waysAt yX2_waysAt) = .arrayClass ty) := ⟨zt_1 (List.mem_of_getElem? (i := 80) rfl), good_of_word rfl⟩
theorem zg_194 : (Cond.instanceMethod yX2_waysAt) ∈ lw_tbl ∧ ((((Cond.instanceMethod yX2_waysAt : Cond)).onTables && ((Cond.instanceMethod yX2_waysAt : Cond)).keeps) = true ∨ ∃ ty, (Cond.instanceMethod yX2_waysAt) = .arrayClass ty) := ⟨zt_1 (List.mem_of_getElem? (i := 79) rfl), good_of_word rfl⟩
theorem zg_195 : (Cond.methodLink RX7 119 yX2_waysAt) ∈ lw_tbl ∧ ((((Cond.methodLink RX7 119 yX2_waysAt : Cond)).onTables && ((Cond.methodLink RX7 119 yX2_waysAt : Cond)).keeps) = true ∨ ∃ ty, (Cond.methodLink RX7 119 yX2_waysAt) = .arrayClass ty) := ⟨zt_1 (List.mem_of_getElem? (i := 78) rfl), good_of_word rfl⟩
theorem zg_196 : (Cond.fieldLink RX2 15 "TheLiningsInIt$Pull" "a" "I") ∈ lw_tbl ∧ ((((Cond.fieldLink RX2 15 "TheLiningsInIt$Pull" "a" "I" : Cond)).onTables && ((Cond.fieldLink RX2 15 "TheLiningsInIt$Pull" "a" "I" : Cond)).keeps) = true ∨ ∃ ty, (Cond.fieldLink RX2 15 "TheLiningsInIt$Pull" "a" "I") = .arrayClass ty) := ⟨zt_1 (List.mem_of_getElem? (i := 110) rfl), good_of_word rfl⟩
theorem zg_197 : (Cond.code yX2_step cX2_step 1 (some .int)) ∈ lw_tbl ∧ ((((Cond.code yX2_step cX2_step 1 (some .int) : Cond)).onTables && ((Cond.code yX2_step cX2_step 1 (some .int) : Cond)).keeps) = true ∨ ∃ ty, (Cond.code yX2_step cX2_step 1 (some .int)) = .arrayClass ty) := ⟨zt_1 (List.mem_of_getElem? (i := 77) rfl), good_of_word rfl⟩
theorem zg_198 : (Cond.selects RX2 yX2_step yX2_step) ∈ lw_tbl ∧ ((((Cond.selects RX2 yX2_step yX2_step : Cond)).onTables && ((Cond.selects RX2 yX2_step yX2_step : Cond)).keeps) = true ∨ ∃ ty, (Cond.selects RX2 yX2_step yX2_step) = .arrayClass ty) := ⟨zt_1 (List.mem_of_getElem? (i := 76) rfl), good_of_word rfl⟩
theorem zg_199 : (Cond.instanceMethod yX2_step) ∈ lw_tbl ∧ ((((Cond.instanceMethod yX2_step : Cond)).onTables && ((Cond.instanceMethod yX2_step : Cond)).keeps) = true ∨ ∃ ty, (Cond.instanceMethod yX2_step) = .arrayClass ty) := ⟨zt_1 (List.mem_of_getElem? (i := 75) rfl), good_of_word rfl⟩
theorem zg_200 : (Cond.methodLink RX7 113 yX2_step) ∈ lw_tbl ∧ ((((Cond.methodLink RX7 113 yX2_step : Cond)).onTables && ((Cond.methodLink RX7 113 yX2_step : Cond)).keeps) = true ∨ ∃ ty, (Cond.methodLink RX7 113 yX2_step) = .arrayClass ty) := ⟨zt_1 (List.mem_of_getElem? (i := 74) rfl), good_of_word rfl⟩
theorem zg_201 : (Cond.fieldLink RX2 9 "TheLiningsInIt$Pull" "kind" "I") ∈ lw_tbl ∧ ((((Cond.fieldLink RX2 9 "TheLiningsInIt$Pull" "kind" "I" : Cond)).onTables && ((Cond.fieldLink RX2 9 "TheLiningsInIt$Pull" "kind" "I" : Cond)).keeps) = true ∨ ∃ ty, (Cond.fieldLink RX2 9 "TheLiningsInIt$Pull" "kind" "I") = .arrayClass ty) := ⟨zt_1 (List.mem_of_getElem? (i := 105) rfl), good_of_word rfl⟩
theorem zg_202 : (Cond.code yX2_isOf cX2_isOf 4 (some .boolean)) ∈ lw_tbl ∧ ((((Cond.code yX2_isOf cX2_isOf 4 (some .boolean) : Cond)).onTables && ((Cond.code yX2_isOf cX2_isOf 4 (some .boolean) : Cond)).keeps) = true ∨ ∃ ty, (Cond.code yX2_isOf cX2_isOf 4 (some .boolean)) = .arrayClass ty) := ⟨zt_1 (List.mem_of_getElem? (i := 70) rfl), good_of_word rfl⟩
theorem zg_203 : (Cond.initialized RX2) ∈ lw_tbl ∧ ((((Cond.initialized RX2 : Cond)).onTables && ((Cond.initialized RX2 : Cond)).keeps) = true ∨ ∃ ty, (Cond.initialized RX2) = .arrayClass ty) := ⟨zt_0 (List.mem_of_getElem? (i := 12) rfl), good_of_word rfl⟩
theorem zg_204 : (Cond.selects RX2 yX2_isOf yX2_isOf) ∈ lw_tbl ∧ ((((Cond.selects RX2 yX2_isOf yX2_isOf : Cond)).onTables && ((Cond.selects RX2 yX2_isOf yX2_isOf : Cond)).keeps) = true ∨ ∃ ty, (Cond.selects RX2 yX2_isOf yX2_isOf) = .arrayClass ty) := ⟨zt_1 (List.mem_of_getElem? (i := 69) rfl), good_of_word rfl⟩
theorem zg_205 : (Cond.instanceMethod yX2_isOf) ∈ lw_tbl ∧ ((((Cond.instanceMethod yX2_isOf : Cond)).onTables && ((Cond.instanceMethod yX2_isOf : Cond)).keeps) = true ∨ ∃ ty, (Cond.instanceMethod yX2_isOf) = .arrayClass ty) := ⟨zt_1 (List.mem_of_getElem? (i := 68) rfl), good_of_word rfl⟩
theorem zg_206 : (Cond.methodLink RX7 104 yX2_isOf) ∈ lw_tbl ∧ ((((Cond.methodLink RX7 104 yX2_isOf : Cond)).onTables && ((Cond.methodLink RX7 104 yX2_isOf : Cond)).keeps) = true ∨ ∃ ty, (Cond.methodLink RX7 104 yX2_isOf) = .arrayClass ty) := ⟨zt_1 (List.mem_of_getElem? (i := 67) rfl), good_of_word rfl⟩
theorem gl_wsX7_says_r2 : GoodIn lw_tbl wsX7_says_r2 := (zl_cons zg_143 (zl_cons zg_206 (zl_cons zg_205 (zl_cons zg_204 (zl_cons zg_203 (zl_cons zg_202 (zl_cons zg_201 (zl_cons zg_200 (zl_cons zg_199 (zl_cons zg_198 (zl_cons zg_197 (zl_cons zg_196 (zl_cons zg_195 (zl_cons zg_194 (zl_cons zg_193 (zl_cons zg_192 (zl_cons zg_191 (zl_cons zg_190 (zl_cons zg_189 (zl_cons zg_188 (zl_cons zg_187 (zl_cons zg_186 (zl_cons zg_185 (zl_cons zg_184 zl_nil))))))))))))))))))))))))
theorem zg_207 : (Cond.code yX2_calmWaysAt cX2_calmWaysAt 2 (some .int)) ∈ lw_tbl ∧ ((((Cond.code yX2_calmWaysAt cX2_calmWaysAt 2 (some .int) : Cond)).onTables && ((Cond.code yX2_calmWaysAt cX2_calmWaysAt 2 (some .int) : Cond)).keeps) = true ∨ ∃ ty, (Cond.code yX2_calmWaysAt cX2_calmWaysAt 2 (some .int)) = .arrayClass ty) := ⟨zt_1 (List.mem_of_getElem? (i := 85) rfl), good_of_word rfl⟩
theorem zg_208 : (Cond.selects RX2 yX2_calmWaysAt yX2_calmWaysAt) ∈ lw_tbl ∧ ((((Cond.selects RX2 yX2_calmWaysAt yX2_calmWaysAt : Cond)).onTables && ((Cond.selects RX2 yX2_calmWaysAt yX2_calmWaysAt : Cond)).keeps) = true ∨ ∃ ty, (Cond.selects RX2 yX2_calmWaysAt yX2_calmWaysAt) = .arrayClass ty) := ⟨zt_1 (List.mem_of_getElem? (i := 84) rfl), good_of_word rfl⟩
theorem zg_209 : (Cond.instanceMethod yX2_calmWaysAt) ∈ lw_tbl ∧ ((((Cond.instanceMethod yX2_calmWaysAt : Cond)).onTables && ((Cond.instanceMethod yX2_calmWaysAt : Cond)).keeps) = true ∨ ∃ ty, (Cond.instanceMethod yX2_calmWaysAt) = .arrayClass ty) := ⟨zt_1 (List.mem_of_getElem? (i := 83) rfl), good_of_word rfl⟩
theorem gl_wsX7_says_r3 : GoodIn lw_tbl wsX7_says_r3 := (zl_cons zg_209 (zl_cons zg_208 (zl_cons zg_207 zl_nil)))
theorem zg_210 : (u_lay RX2 TX2 2) ∈ lw_tbl ∧ ((((u_lay RX2 TX2 2 : Cond)).onTables && ((u_lay RX2 TX2 2 : Cond)).keeps) = true ∨ ∃ ty, (u_lay RX2 TX2 2) = .arrayClass ty) := ⟨zt_1 (List.mem_of_getElem? (i := 121) rfl), good_of_word rfl⟩
theorem zg_211 : (u_lay RX2 TX2 1) ∈ lw_tbl ∧ ((((u_lay RX2 TX2 1 : Cond)).onTables && ((u_lay RX2 TX2 1 : Cond)).keeps) = true ∨ ∃ ty, (u_lay RX2 TX2 1) = .arrayClass ty) := ⟨zt_1 (List.mem_of_getElem? (i := 119) rfl), good_of_word rfl⟩
theorem zg_212 : (u_lay RX2 TX2 0) ∈ lw_tbl ∧ ((((u_lay RX2 TX2 0 : Cond)).onTables && ((u_lay RX2 TX2 0 : Cond)).keeps) = true ∨ ∃ ty, (u_lay RX2 TX2 0) = .arrayClass ty) := ⟨zt_1 (List.mem_of_getElem? (i := 117) rfl), good_of_word rfl⟩
theorem gl_wsX20 : GoodIn lw_tbl wsX20 := (zl_cons zg_212 (zl_cons zg_211 (zl_cons zg_210 zl_nil)))
theorem gl_wsX7_says : GoodIn lw_tbl wsX7_says := (zl_cons zg_181 (goodIn_app (goodIn_app (goodIn_app (goodIn_app (goodIn_app gl_wsX7_says_r1 (goodIn_app gl_wsX7_says_r2 gl_wsX7_says_r3)) gl_wsX40) gl_wsX70) gl_wsX20) gl_wsX00))
theorem zg_213 : (Cond.selects RX7 yX7_says yX7_says) ∈ lw_tbl ∧ ((((Cond.selects RX7 yX7_says yX7_says : Cond)).onTables && ((Cond.selects RX7 yX7_says yX7_says : Cond)).keeps) = true ∨ ∃ ty, (Cond.selects RX7 yX7_says yX7_says) = .arrayClass ty) := ⟨zt_1 (List.mem_of_getElem? (i := 65) rfl), good_of_word rfl⟩
theorem zg_214 : (Cond.instanceMethod yX7_says) ∈ lw_tbl ∧ ((((Cond.instanceMethod yX7_says : Cond)).onTables && ((Cond.instanceMethod yX7_says : Cond)).keeps) = true ∨ ∃ ty, (Cond.instanceMethod yX7_says) = .arrayClass ty) := ⟨zt_1 (List.mem_of_getElem? (i := 64) rfl), good_of_word rfl⟩
theorem zg_215 : (Cond.methodLink RL 45 yX7_says) ∈ lw_tbl ∧ ((((Cond.methodLink RL 45 yX7_says : Cond)).onTables && ((Cond.methodLink RL 45 yX7_says : Cond)).keeps) = true ∨ ∃ ty, (Cond.methodLink RL 45 yX7_says) = .arrayClass ty) := ⟨zt_1 (List.mem_of_getElem? (i := 63) rfl), good_of_word rfl⟩
theorem gq_45 : GoodIn lw_tbl (wsV RL 45 RX7 yX7_says wsX7_says) := goodIn_app (zl_cons zg_215 (zl_cons zg_214 (zl_cons zg_213 (zl_cons zg_21 zl_nil)))) gl_wsX7_says
theorem zg_216 : (Cond.code yX8_says cX8_says 6 (some .int)) ∈ lw_tbl ∧ ((((Cond.code yX8_says cX8_says 6 (some .int) : Cond)).onTables && ((Cond.code yX8_says cX8_says 6 (some .int) : Cond)).keeps) = true ∨ ∃ ty, (Cond.code yX8_says cX8_says 6 (some .int)) = .arrayClass ty) := ⟨zt_4 (List.mem_of_getElem? (i := 85) rfl), good_of_word rfl⟩
theorem zg_217 : (Cond.fieldLink RX8 135 "TheLiningsInItModel" "hurry" "I") ∈ lw_tbl ∧ ((((Cond.fieldLink RX8 135 "TheLiningsInItModel" "hurry" "I" : Cond)).onTables && ((Cond.fieldLink RX8 135 "TheLiningsInItModel" "hurry" "I" : Cond)).keeps) = true ∨ ∃ ty, (Cond.fieldLink RX8 135 "TheLiningsInItModel" "hurry" "I") = .arrayClass ty) := ⟨zt_3 (List.mem_of_getElem? (i := 177) rfl), good_of_word rfl⟩
theorem zg_218 : (Cond.code yX8_ways cX8_ways 4 (some .int)) ∈ lw_tbl ∧ ((((Cond.code yX8_ways cX8_ways 4 (some .int) : Cond)).onTables && ((Cond.code yX8_ways cX8_ways 4 (some .int) : Cond)).keeps) = true ∨ ∃ ty, (Cond.code yX8_ways cX8_ways 4 (some .int)) = .arrayClass ty) := ⟨zt_4 (List.mem_of_getElem? (i := 93) rfl), good_of_word rfl⟩
theorem zg_219 : (Cond.selects RX8 yX8_ways yX8_ways) ∈ lw_tbl ∧ ((((Cond.selects RX8 yX8_ways yX8_ways : Cond)).onTables && ((Cond.selects RX8 yX8_ways yX8_ways : Cond)).keeps) = true ∨ ∃ ty, (Cond.selects RX8 yX8_ways yX8_ways) = .arrayClass ty) := ⟨zp_2 0 (by decide +kernel), good_of_word rfl⟩
theorem zg_220 : (Cond.instanceMethod yX8_ways) ∈ lw_tbl ∧ ((((Cond.instanceMethod yX8_ways : Cond)).onTables && ((Cond.instanceMethod yX8_ways : Cond)).keeps) = true ∨ ∃ ty, (Cond.instanceMethod yX8_ways) = .arrayClass ty) := ⟨zt_4 (List.mem_of_getElem? (i := 92) rfl), good_of_word rfl⟩
theorem zg_221 : (Cond.methodLink RX8 107 yX8_ways) ∈ lw_tbl ∧ ((((Cond.methodLink RX8 107 yX8_ways : Cond)).onTables && ((Cond.methodLink RX8 107 yX8_ways : Cond)).keeps) = true ∨ ∃ ty, (Cond.methodLink RX8 107 yX8_ways) = .arrayClass ty) := ⟨zt_4 (List.mem_of_getElem? (i := 90) rfl), good_of_word rfl⟩
theorem zg_222 : (Cond.fieldLink RX8 32 "TheLiningsInItModel" "part" "[I") ∈ lw_tbl ∧ ((((Cond.fieldLink RX8 32 "TheLiningsInItModel" "part" "[I" : Cond)).onTables && ((Cond.fieldLink RX8 32 "TheLiningsInItModel" "part" "[I" : Cond)).keeps) = true ∨ ∃ ty, (Cond.fieldLink RX8 32 "TheLiningsInItModel" "part" "[I") = .arrayClass ty) := ⟨zt_3 (List.mem_of_getElem? (i := 183) rfl), good_of_word rfl⟩
theorem zg_223 : (Cond.code yX8_step cX8_step 2 (some .int)) ∈ lw_tbl ∧ ((((Cond.code yX8_step cX8_step 2 (some .int) : Cond)).onTables && ((Cond.code yX8_step cX8_step 2 (some .int) : Cond)).keeps) = true ∨ ∃ ty, (Cond.code yX8_step cX8_step 2 (some .int)) = .arrayClass ty) := ⟨zt_4 (List.mem_of_getElem? (i := 89) rfl), good_of_word rfl⟩
theorem zg_224 : (Cond.selects RX8 yX8_step yX8_step) ∈ lw_tbl ∧ ((((Cond.selects RX8 yX8_step yX8_step : Cond)).onTables && ((Cond.selects RX8 yX8_step yX8_step : Cond)).keeps) = true ∨ ∃ ty, (Cond.selects RX8 yX8_step yX8_step) = .arrayClass ty) := ⟨zp_1 15 (by decide +kernel), good_of_word rfl⟩
theorem zg_225 : (Cond.instanceMethod yX8_step) ∈ lw_tbl ∧ ((((Cond.instanceMethod yX8_step : Cond)).onTables && ((Cond.instanceMethod yX8_step : Cond)).keeps) = true ∨ ∃ ty, (Cond.instanceMethod yX8_step) = .arrayClass ty) := ⟨zt_4 (List.mem_of_getElem? (i := 88) rfl), good_of_word rfl⟩
theorem zg_226 : (Cond.methodLink RX8 104 yX8_step) ∈ lw_tbl ∧ ((((Cond.methodLink RX8 104 yX8_step : Cond)).onTables && ((Cond.methodLink RX8 104 yX8_step : Cond)).keeps) = true ∨ ∃ ty, (Cond.methodLink RX8 104 yX8_step) = .arrayClass ty) := ⟨zt_4 (List.mem_of_getElem? (i := 86) rfl), good_of_word rfl⟩
theorem zg_227 : (Cond.fieldLink RX8 35 "TheLiningsInItModel" "takes" "[I") ∈ lw_tbl ∧ ((((Cond.fieldLink RX8 35 "TheLiningsInItModel" "takes" "[I" : Cond)).onTables && ((Cond.fieldLink RX8 35 "TheLiningsInItModel" "takes" "[I" : Cond)).keeps) = true ∨ ∃ ty, (Cond.fieldLink RX8 35 "TheLiningsInItModel" "takes" "[I") = .arrayClass ty) := ⟨zt_3 (List.mem_of_getElem? (i := 184) rfl), good_of_word rfl⟩
theorem zg_228 : (Cond.fieldLink RX8 29 "TheLiningsInItModel" "kind" "[I") ∈ lw_tbl ∧ ((((Cond.fieldLink RX8 29 "TheLiningsInItModel" "kind" "[I" : Cond)).onTables && ((Cond.fieldLink RX8 29 "TheLiningsInItModel" "kind" "[I" : Cond)).keeps) = true ∨ ∃ ty, (Cond.fieldLink RX8 29 "TheLiningsInItModel" "kind" "[I") = .arrayClass ty) := ⟨zt_3 (List.mem_of_getElem? (i := 182) rfl), good_of_word rfl⟩
theorem gl_wsX8_says : GoodIn lw_tbl wsX8_says := (zl_cons zg_216 (goodIn_app (zl_cons zg_56 (zl_cons zg_169 (zl_cons zg_228 (zl_cons zg_227 (zl_cons zg_52 (zl_cons zg_51 (zl_cons zg_50 (zl_cons zg_49 (zl_cons zg_48 (zl_cons zg_47 (zl_cons zg_46 (zl_cons zg_45 (zl_cons zg_44 (zl_cons zg_43 (zl_cons zg_226 (zl_cons zg_225 (zl_cons zg_224 (zl_cons zg_223 (zl_cons zg_222 (zl_cons zg_221 (zl_cons zg_220 (zl_cons zg_219 (zl_cons zg_218 (zl_cons zg_217 zl_nil)))))))))))))))))))))))) gl_wsX80))
theorem zg_229 : (Cond.selects RX8 yX8_says yX8_says) ∈ lw_tbl ∧ ((((Cond.selects RX8 yX8_says yX8_says : Cond)).onTables && ((Cond.selects RX8 yX8_says yX8_says : Cond)).keeps) = true ∨ ∃ ty, (Cond.selects RX8 yX8_says yX8_says) = .arrayClass ty) := ⟨zt_4 (List.mem_of_getElem? (i := 84) rfl), good_of_word rfl⟩
theorem zg_230 : (Cond.instanceMethod yX8_says) ∈ lw_tbl ∧ ((((Cond.instanceMethod yX8_says : Cond)).onTables && ((Cond.instanceMethod yX8_says : Cond)).keeps) = true ∨ ∃ ty, (Cond.instanceMethod yX8_says) = .arrayClass ty) := ⟨zt_4 (List.mem_of_getElem? (i := 83) rfl), good_of_word rfl⟩
theorem zg_231 : (Cond.methodLink RL 48 yX8_says) ∈ lw_tbl ∧ ((((Cond.methodLink RL 48 yX8_says : Cond)).onTables && ((Cond.methodLink RL 48 yX8_says : Cond)).keeps) = true ∨ ∃ ty, (Cond.methodLink RL 48 yX8_says) = .arrayClass ty) := ⟨zt_4 (List.mem_of_getElem? (i := 82) rfl), good_of_word rfl⟩
theorem gq_48 : GoodIn lw_tbl (wsV RL 48 RX8 yX8_says wsX8_says) := goodIn_app (zl_cons zg_231 (zl_cons zg_230 (zl_cons zg_229 (zl_cons zg_49 zl_nil)))) gl_wsX8_says
theorem zg_232 : (Cond.code yX7_pull cX7_pull 4 (some .int)) ∈ lw_tbl ∧ ((((Cond.code yX7_pull cX7_pull 4 (some .int) : Cond)).onTables && ((Cond.code yX7_pull cX7_pull 4 (some .int) : Cond)).keeps) = true ∨ ∃ ty, (Cond.code yX7_pull cX7_pull 4 (some .int)) = .arrayClass ty) := ⟨zt_1 (List.mem_of_getElem? (i := 95) rfl), good_of_word rfl⟩
theorem zg_233 : (Cond.code yX2_init cX2_init 4 none) ∈ lw_tbl ∧ ((((Cond.code yX2_init cX2_init 4 none : Cond)).onTables && ((Cond.code yX2_init cX2_init 4 none : Cond)).keeps) = true ∨ ∃ ty, (Cond.code yX2_init cX2_init 4 none) = .arrayClass ty) := ⟨zt_1 (List.mem_of_getElem? (i := 103) rfl), good_of_word rfl⟩
theorem zg_234 : (Cond.instanceMethod yX2_init) ∈ lw_tbl ∧ ((((Cond.instanceMethod yX2_init : Cond)).onTables && ((Cond.instanceMethod yX2_init : Cond)).keeps) = true ∨ ∃ ty, (Cond.instanceMethod yX2_init) = .arrayClass ty) := ⟨zt_1 (List.mem_of_getElem? (i := 102) rfl), good_of_word rfl⟩
theorem zg_235 : (Cond.methodLink RX0 70 yX2_init) ∈ lw_tbl ∧ ((((Cond.methodLink RX0 70 yX2_init : Cond)).onTables && ((Cond.methodLink RX0 70 yX2_init : Cond)).keeps) = true ∨ ∃ ty, (Cond.methodLink RX0 70 yX2_init) = .arrayClass ty) := ⟨zt_1 (List.mem_of_getElem? (i := 101) rfl), good_of_word rfl⟩
theorem zg_236 : (Cond.instantiable RX2 3) ∈ lw_tbl ∧ ((((Cond.instantiable RX2 3 : Cond)).onTables && ((Cond.instantiable RX2 3 : Cond)).keeps) = true ∨ ∃ ty, (Cond.instantiable RX2 3) = .arrayClass ty) := ⟨zt_1 (List.mem_of_getElem? (i := 100) rfl), good_of_word rfl⟩
theorem zg_237 : (Cond.classLink RX0 18 RX2) ∈ lw_tbl ∧ ((((Cond.classLink RX0 18 RX2 : Cond)).onTables && ((Cond.classLink RX0 18 RX2 : Cond)).keeps) = true ∨ ∃ ty, (Cond.classLink RX0 18 RX2) = .arrayClass ty) := ⟨zt_0 (List.mem_of_getElem? (i := 69) rfl), good_of_word rfl⟩
theorem zg_238 : (Cond.code yX0_addPull cX0_addPull 4 (some .int)) ∈ lw_tbl ∧ ((((Cond.code yX0_addPull cX0_addPull 4 (some .int) : Cond)).onTables && ((Cond.code yX0_addPull cX0_addPull 4 (some .int) : Cond)).keeps) = true ∨ ∃ ty, (Cond.code yX0_addPull cX0_addPull 4 (some .int)) = .arrayClass ty) := ⟨zt_1 (List.mem_of_getElem? (i := 99) rfl), good_of_word rfl⟩
theorem zg_239 : (Cond.selects RX0 yX0_addPull yX0_addPull) ∈ lw_tbl ∧ ((((Cond.selects RX0 yX0_addPull yX0_addPull : Cond)).onTables && ((Cond.selects RX0 yX0_addPull yX0_addPull : Cond)).keeps) = true ∨ ∃ ty, (Cond.selects RX0 yX0_addPull yX0_addPull) = .arrayClass ty) := ⟨zt_1 (List.mem_of_getElem? (i := 98) rfl), good_of_word rfl⟩
theorem zg_240 : (Cond.instanceMethod yX0_addPull) ∈ lw_tbl ∧ ((((Cond.instanceMethod yX0_addPull : Cond)).onTables && ((Cond.instanceMethod yX0_addPull : Cond)).keeps) = true ∨ ∃ ty, (Cond.instanceMethod yX0_addPull) = .arrayClass ty) := ⟨zt_1 (List.mem_of_getElem? (i := 97) rfl), good_of_word rfl⟩
theorem zg_241 : (Cond.methodLink RX7 126 yX0_addPull) ∈ lw_tbl ∧ ((((Cond.methodLink RX7 126 yX0_addPull : Cond)).onTables && ((Cond.methodLink RX7 126 yX0_addPull : Cond)).keeps) = true ∨ ∃ ty, (Cond.methodLink RX7 126 yX0_addPull) = .arrayClass ty) := ⟨zt_1 (List.mem_of_getElem? (i := 96) rfl), good_of_word rfl⟩
theorem zg_242 : (Cond.fieldLink RX7 123 "TheLiningsInIt$Jacket" "pullCount" "I") ∈ lw_tbl ∧ ((((Cond.fieldLink RX7 123 "TheLiningsInIt$Jacket" "pullCount" "I" : Cond)).onTables && ((Cond.fieldLink RX7 123 "TheLiningsInIt$Jacket" "pullCount" "I" : Cond)).keeps) = true ∨ ∃ ty, (Cond.fieldLink RX7 123 "TheLiningsInIt$Jacket" "pullCount" "I") = .arrayClass ty) := ⟨zt_0 (List.mem_of_getElem? (i := 80) rfl), good_of_word rfl⟩
theorem gl_wsX7_pull_r1 : GoodIn lw_tbl wsX7_pull_r1 := (zl_cons zg_150 (zl_cons zg_242 (zl_cons zg_18 (zl_cons zg_17 (zl_cons zg_21 (zl_cons zg_16 (zl_cons zg_15 (zl_cons zg_14 (zl_cons zg_13 (zl_cons zg_12 (zl_cons zg_11 (zl_cons zg_241 (zl_cons zg_240 (zl_cons zg_239 (zl_cons zg_146 (zl_cons zg_238 (zl_cons zg_144 (zl_cons zg_143 (zl_cons zg_237 (zl_cons zg_236 (zl_cons zg_203 (zl_cons zg_235 (zl_cons zg_234 (zl_cons zg_233 zl_nil))))))))))))))))))))))))
theorem zg_243 : (Cond.fieldLink RX2 18 "TheLiningsInIt$Pull" "takes" "I") ∈ lw_tbl ∧ ((((Cond.fieldLink RX2 18 "TheLiningsInIt$Pull" "takes" "I" : Cond)).onTables && ((Cond.fieldLink RX2 18 "TheLiningsInIt$Pull" "takes" "I" : Cond)).keeps) = true ∨ ∃ ty, (Cond.fieldLink RX2 18 "TheLiningsInIt$Pull" "takes" "I") = .arrayClass ty) := ⟨zt_1 (List.mem_of_getElem? (i := 113) rfl), good_of_word rfl⟩
theorem zg_244 : (Cond.code objectInit ⟨#[0xb1]⟩ 1 none) ∈ lw_tbl ∧ ((((Cond.code objectInit ⟨#[0xb1]⟩ 1 none : Cond)).onTables && ((Cond.code objectInit ⟨#[0xb1]⟩ 1 none : Cond)).keeps) = true ∨ ∃ ty, (Cond.code objectInit ⟨#[0xb1]⟩ 1 none) = .arrayClass ty) := ⟨zt_0 (List.mem_of_getElem? (i := 24) rfl), good_of_word rfl⟩
theorem zg_245 : (Cond.instanceMethod objectInit) ∈ lw_tbl ∧ ((((Cond.instanceMethod objectInit : Cond)).onTables && ((Cond.instanceMethod objectInit : Cond)).keeps) = true ∨ ∃ ty, (Cond.instanceMethod objectInit) = .arrayClass ty) := ⟨zt_0 (List.mem_of_getElem? (i := 23) rfl), good_of_word rfl⟩
theorem zg_246 : (Cond.methodLink RX2 3 objectInit) ∈ lw_tbl ∧ ((((Cond.methodLink RX2 3 objectInit : Cond)).onTables && ((Cond.methodLink RX2 3 objectInit : Cond)).keeps) = true ∨ ∃ ty, (Cond.methodLink RX2 3 objectInit) = .arrayClass ty) := ⟨zt_1 (List.mem_of_getElem? (i := 104) rfl), good_of_word rfl⟩
theorem gl_wsX7_pull_r2 : GoodIn lw_tbl wsX7_pull_r2 := (zl_cons zg_246 (zl_cons zg_245 (zl_cons zg_244 (zl_cons zg_201 (zl_cons zg_196 (zl_cons zg_243 zl_nil))))))
theorem gl_wsX7_pull : GoodIn lw_tbl wsX7_pull := (zl_cons zg_232 (goodIn_app (goodIn_app (goodIn_app (goodIn_app gl_wsX7_pull_r1 gl_wsX7_pull_r2) gl_wsX70) gl_wsX00) gl_wsX20))
theorem zg_247 : (Cond.selects RX7 yX7_pull yX7_pull) ∈ lw_tbl ∧ ((((Cond.selects RX7 yX7_pull yX7_pull : Cond)).onTables && ((Cond.selects RX7 yX7_pull yX7_pull : Cond)).keeps) = true ∨ ∃ ty, (Cond.selects RX7 yX7_pull yX7_pull) = .arrayClass ty) := ⟨zt_1 (List.mem_of_getElem? (i := 94) rfl), good_of_word rfl⟩
theorem zg_248 : (Cond.instanceMethod yX7_pull) ∈ lw_tbl ∧ ((((Cond.instanceMethod yX7_pull : Cond)).onTables && ((Cond.instanceMethod yX7_pull : Cond)).keeps) = true ∨ ∃ ty, (Cond.instanceMethod yX7_pull) = .arrayClass ty) := ⟨zt_1 (List.mem_of_getElem? (i := 93) rfl), good_of_word rfl⟩
theorem zg_249 : (Cond.methodLink RL 49 yX7_pull) ∈ lw_tbl ∧ ((((Cond.methodLink RL 49 yX7_pull : Cond)).onTables && ((Cond.methodLink RL 49 yX7_pull : Cond)).keeps) = true ∨ ∃ ty, (Cond.methodLink RL 49 yX7_pull) = .arrayClass ty) := ⟨zt_1 (List.mem_of_getElem? (i := 92) rfl), good_of_word rfl⟩
theorem gq_49 : GoodIn lw_tbl (wsV RL 49 RX7 yX7_pull wsX7_pull) := goodIn_app (zl_cons zg_249 (zl_cons zg_248 (zl_cons zg_247 (zl_cons zg_21 zl_nil)))) gl_wsX7_pull
theorem zg_250 : (Cond.code yX8_pull cX8_pull 4 (some .int)) ∈ lw_tbl ∧ ((((Cond.code yX8_pull cX8_pull 4 (some .int) : Cond)).onTables && ((Cond.code yX8_pull cX8_pull 4 (some .int) : Cond)).keeps) = true ∨ ∃ ty, (Cond.code yX8_pull cX8_pull 4 (some .int)) = .arrayClass ty) := ⟨zt_4 (List.mem_of_getElem? (i := 97) rfl), good_of_word rfl⟩
theorem zg_251 : (Cond.code yX8_addsPull cX8_addsPull 4 (some .int)) ∈ lw_tbl ∧ ((((Cond.code yX8_addsPull cX8_addsPull 4 (some .int) : Cond)).onTables && ((Cond.code yX8_addsPull cX8_addsPull 4 (some .int) : Cond)).keeps) = true ∨ ∃ ty, (Cond.code yX8_addsPull cX8_addsPull 4 (some .int)) = .arrayClass ty) := ⟨zt_4 (List.mem_of_getElem? (i := 101) rfl), good_of_word rfl⟩
theorem zg_252 : (Cond.selects RX8 yX8_addsPull yX8_addsPull) ∈ lw_tbl ∧ ((((Cond.selects RX8 yX8_addsPull yX8_addsPull : Cond)).onTables && ((Cond.selects RX8 yX8_addsPull yX8_addsPull : Cond)).keeps) = true ∨ ∃ ty, (Cond.selects RX8 yX8_addsPull yX8_addsPull) = .arrayClass ty) := ⟨zp_2 1 (by decide +kernel), good_of_word rfl⟩
theorem zg_253 : (Cond.instanceMethod yX8_addsPull) ∈ lw_tbl ∧ ((((Cond.instanceMethod yX8_addsPull : Cond)).onTables && ((Cond.instanceMethod yX8_addsPull : Cond)).keeps) = true ∨ ∃ ty, (Cond.instanceMethod yX8_addsPull) = .arrayClass ty) := ⟨zt_4 (List.mem_of_getElem? (i := 100) rfl), good_of_word rfl⟩
theorem zg_254 : (Cond.methodLink RX8 111 yX8_addsPull) ∈ lw_tbl ∧ ((((Cond.methodLink RX8 111 yX8_addsPull : Cond)).onTables && ((Cond.methodLink RX8 111 yX8_addsPull : Cond)).keeps) = true ∨ ∃ ty, (Cond.methodLink RX8 111 yX8_addsPull) = .arrayClass ty) := ⟨zt_4 (List.mem_of_getElem? (i := 98) rfl), good_of_word rfl⟩
theorem gl_wsX8_pull : GoodIn lw_tbl wsX8_pull := (zl_cons zg_250 (goodIn_app (zl_cons zg_164 (zl_cons zg_47 (zl_cons zg_46 (zl_cons zg_45 (zl_cons zg_49 (zl_cons zg_44 (zl_cons zg_43 (zl_cons zg_254 (zl_cons zg_253 (zl_cons zg_252 (zl_cons zg_251 (zl_cons zg_228 (zl_cons zg_222 (zl_cons zg_227 zl_nil)))))))))))))) gl_wsX80))
theorem zg_255 : (Cond.selects RX8 yX8_pull yX8_pull) ∈ lw_tbl ∧ ((((Cond.selects RX8 yX8_pull yX8_pull : Cond)).onTables && ((Cond.selects RX8 yX8_pull yX8_pull : Cond)).keeps) = true ∨ ∃ ty, (Cond.selects RX8 yX8_pull yX8_pull) = .arrayClass ty) := ⟨zt_4 (List.mem_of_getElem? (i := 96) rfl), good_of_word rfl⟩
theorem zg_256 : (Cond.instanceMethod yX8_pull) ∈ lw_tbl ∧ ((((Cond.instanceMethod yX8_pull : Cond)).onTables && ((Cond.instanceMethod yX8_pull : Cond)).keeps) = true ∨ ∃ ty, (Cond.instanceMethod yX8_pull) = .arrayClass ty) := ⟨zt_4 (List.mem_of_getElem? (i := 95) rfl), good_of_word rfl⟩
theorem zg_257 : (Cond.methodLink RL 52 yX8_pull) ∈ lw_tbl ∧ ((((Cond.methodLink RL 52 yX8_pull : Cond)).onTables && ((Cond.methodLink RL 52 yX8_pull : Cond)).keeps) = true ∨ ∃ ty, (Cond.methodLink RL 52 yX8_pull) = .arrayClass ty) := ⟨zt_4 (List.mem_of_getElem? (i := 94) rfl), good_of_word rfl⟩
theorem gq_52 : GoodIn lw_tbl (wsV RL 52 RX8 yX8_pull wsX8_pull) := goodIn_app (zl_cons zg_257 (zl_cons zg_256 (zl_cons zg_255 (zl_cons zg_49 zl_nil)))) gl_wsX8_pull
theorem zg_258 : (Cond.code yX7_pullOf cX7_pullOf 4 (some .int)) ∈ lw_tbl ∧ ((((Cond.code yX7_pullOf cX7_pullOf 4 (some .int) : Cond)).onTables && ((Cond.code yX7_pullOf cX7_pullOf 4 (some .int) : Cond)).keeps) = true ∨ ∃ ty, (Cond.code yX7_pullOf cX7_pullOf 4 (some .int)) = .arrayClass ty) := ⟨zt_1 (List.mem_of_getElem? (i := 127) rfl), good_of_word rfl⟩
theorem zg_259 : (Cond.fieldLink RX7 133 "TheLiningsInIt$Pull" "a" "I") ∈ lw_tbl ∧ ((((Cond.fieldLink RX7 133 "TheLiningsInIt$Pull" "a" "I" : Cond)).onTables && ((Cond.fieldLink RX7 133 "TheLiningsInIt$Pull" "a" "I" : Cond)).keeps) = true ∨ ∃ ty, (Cond.fieldLink RX7 133 "TheLiningsInIt$Pull" "a" "I") = .arrayClass ty) := ⟨zt_1 (List.mem_of_getElem? (i := 112) rfl), good_of_word rfl⟩
theorem zg_260 : (Cond.fieldLink RX7 130 "TheLiningsInIt$Pull" "kind" "I") ∈ lw_tbl ∧ ((((Cond.fieldLink RX7 130 "TheLiningsInIt$Pull" "kind" "I" : Cond)).onTables && ((Cond.fieldLink RX7 130 "TheLiningsInIt$Pull" "kind" "I" : Cond)).keeps) = true ∨ ∃ ty, (Cond.fieldLink RX7 130 "TheLiningsInIt$Pull" "kind" "I") = .arrayClass ty) := ⟨zt_1 (List.mem_of_getElem? (i := 108) rfl), good_of_word rfl⟩
theorem gl_wsX7_pullOf_r1 : GoodIn lw_tbl wsX7_pullOf_r1 := (zl_cons zg_150 (zl_cons zg_260 (zl_cons zg_259 (zl_cons zg_183 (zl_cons zg_149 (zl_cons zg_148 (zl_cons zg_147 (zl_cons zg_146 (zl_cons zg_145 (zl_cons zg_144 (zl_cons zg_143 (zl_cons zg_17 (zl_cons zg_21 (zl_cons zg_16 (zl_cons zg_15 (zl_cons zg_14 (zl_cons zg_13 (zl_cons zg_12 (zl_cons zg_11 (zl_cons zg_18 (zl_cons zg_200 (zl_cons zg_199 (zl_cons zg_198 (zl_cons zg_203 zl_nil))))))))))))))))))))))))
theorem zg_261 : (Cond.code yX2_mayBe cX2_mayBe 3 (some .boolean)) ∈ lw_tbl ∧ ((((Cond.code yX2_mayBe cX2_mayBe 3 (some .boolean) : Cond)).onTables && ((Cond.code yX2_mayBe cX2_mayBe 3 (some .boolean) : Cond)).keeps) = true ∨ ∃ ty, (Cond.code yX2_mayBe cX2_mayBe 3 (some .boolean)) = .arrayClass ty) := ⟨zt_1 (List.mem_of_getElem? (i := 135) rfl), good_of_word rfl⟩
theorem zg_262 : (Cond.selects RX2 yX2_mayBe yX2_mayBe) ∈ lw_tbl ∧ ((((Cond.selects RX2 yX2_mayBe yX2_mayBe : Cond)).onTables && ((Cond.selects RX2 yX2_mayBe yX2_mayBe : Cond)).keeps) = true ∨ ∃ ty, (Cond.selects RX2 yX2_mayBe yX2_mayBe) = .arrayClass ty) := ⟨zt_1 (List.mem_of_getElem? (i := 134) rfl), good_of_word rfl⟩
theorem zg_263 : (Cond.instanceMethod yX2_mayBe) ∈ lw_tbl ∧ ((((Cond.instanceMethod yX2_mayBe : Cond)).onTables && ((Cond.instanceMethod yX2_mayBe : Cond)).keeps) = true ∨ ∃ ty, (Cond.instanceMethod yX2_mayBe) = .arrayClass ty) := ⟨zt_1 (List.mem_of_getElem? (i := 133) rfl), good_of_word rfl⟩
theorem zg_264 : (Cond.methodLink RX0 73 yX2_mayBe) ∈ lw_tbl ∧ ((((Cond.methodLink RX0 73 yX2_mayBe : Cond)).onTables && ((Cond.methodLink RX0 73 yX2_mayBe : Cond)).keeps) = true ∨ ∃ ty, (Cond.methodLink RX0 73 yX2_mayBe) = .arrayClass ty) := ⟨zt_1 (List.mem_of_getElem? (i := 132) rfl), good_of_word rfl⟩
theorem zg_265 : (Cond.fieldLink RX0 38 "TheLiningsInIt$Jacket" "seconds" "I") ∈ lw_tbl ∧ ((((Cond.fieldLink RX0 38 "TheLiningsInIt$Jacket" "seconds" "I" : Cond)).onTables && ((Cond.fieldLink RX0 38 "TheLiningsInIt$Jacket" "seconds" "I" : Cond)).keeps) = true ∨ ∃ ty, (Cond.fieldLink RX0 38 "TheLiningsInIt$Jacket" "seconds" "I") = .arrayClass ty) := ⟨zt_0 (List.mem_of_getElem? (i := 85) rfl), good_of_word rfl⟩
theorem zg_266 : (Cond.fieldLink RX0 32 "TheLiningsInIt$Jacket" "depth" "I") ∈ lw_tbl ∧ ((((Cond.fieldLink RX0 32 "TheLiningsInIt$Jacket" "depth" "I" : Cond)).onTables && ((Cond.fieldLink RX0 32 "TheLiningsInIt$Jacket" "depth" "I" : Cond)).keeps) = true ∨ ∃ ty, (Cond.fieldLink RX0 32 "TheLiningsInIt$Jacket" "depth" "I") = .arrayClass ty) := ⟨zt_0 (List.mem_of_getElem? (i := 81) rfl), good_of_word rfl⟩
theorem zg_267 : (Cond.code yX0_mayBe cX0_mayBe 2 (some .boolean)) ∈ lw_tbl ∧ ((((Cond.code yX0_mayBe cX0_mayBe 2 (some .boolean) : Cond)).onTables && ((Cond.code yX0_mayBe cX0_mayBe 2 (some .boolean) : Cond)).keeps) = true ∨ ∃ ty, (Cond.code yX0_mayBe cX0_mayBe 2 (some .boolean)) = .arrayClass ty) := ⟨zt_1 (List.mem_of_getElem? (i := 131) rfl), good_of_word rfl⟩
theorem zg_268 : (Cond.selects RX0 yX0_mayBe yX0_mayBe) ∈ lw_tbl ∧ ((((Cond.selects RX0 yX0_mayBe yX0_mayBe : Cond)).onTables && ((Cond.selects RX0 yX0_mayBe yX0_mayBe : Cond)).keeps) = true ∨ ∃ ty, (Cond.selects RX0 yX0_mayBe yX0_mayBe) = .arrayClass ty) := ⟨zt_1 (List.mem_of_getElem? (i := 130) rfl), good_of_word rfl⟩
theorem zg_269 : (Cond.instanceMethod yX0_mayBe) ∈ lw_tbl ∧ ((((Cond.instanceMethod yX0_mayBe : Cond)).onTables && ((Cond.instanceMethod yX0_mayBe : Cond)).keeps) = true ∨ ∃ ty, (Cond.instanceMethod yX0_mayBe) = .arrayClass ty) := ⟨zt_1 (List.mem_of_getElem? (i := 129) rfl), good_of_word rfl⟩
theorem zg_270 : (Cond.methodLink RX7 136 yX0_mayBe) ∈ lw_tbl ∧ ((((Cond.methodLink RX7 136 yX0_mayBe : Cond)).onTables && ((Cond.methodLink RX7 136 yX0_mayBe : Cond)).keeps) = true ∨ ∃ ty, (Cond.methodLink RX7 136 yX0_mayBe) = .arrayClass ty) := ⟨zt_1 (List.mem_of_getElem? (i := 128) rfl), good_of_word rfl⟩
theorem gl_wsX7_pullOf_r2 : GoodIn lw_tbl wsX7_pullOf_r2 := (zl_cons zg_197 (zl_cons zg_201 (zl_cons zg_196 (zl_cons zg_270 (zl_cons zg_269 (zl_cons zg_268 (zl_cons zg_267 (zl_cons zg_266 (zl_cons zg_265 (zl_cons zg_264 (zl_cons zg_263 (zl_cons zg_262 (zl_cons zg_261 (zl_cons zg_243 zl_nil))))))))))))))
theorem gl_wsX7_pullOf : GoodIn lw_tbl wsX7_pullOf := (zl_cons zg_258 (goodIn_app (goodIn_app (goodIn_app (goodIn_app gl_wsX7_pullOf_r1 gl_wsX7_pullOf_r2) gl_wsX70) gl_wsX20) gl_wsX00))
theorem zg_271 : (Cond.selects RX7 yX7_pullOf yX7_pullOf) ∈ lw_tbl ∧ ((((Cond.selects RX7 yX7_pullOf yX7_pullOf : Cond)).onTables && ((Cond.selects RX7 yX7_pullOf yX7_pullOf : Cond)).keeps) = true ∨ ∃ ty, (Cond.selects RX7 yX7_pullOf yX7_pullOf) = .arrayClass ty) := ⟨zt_1 (List.mem_of_getElem? (i := 126) rfl), good_of_word rfl⟩
theorem zg_272 : (Cond.instanceMethod yX7_pullOf) ∈ lw_tbl ∧ ((((Cond.instanceMethod yX7_pullOf : Cond)).onTables && ((Cond.instanceMethod yX7_pullOf : Cond)).keeps) = true ∨ ∃ ty, (Cond.instanceMethod yX7_pullOf) = .arrayClass ty) := ⟨zt_1 (List.mem_of_getElem? (i := 125) rfl), good_of_word rfl⟩
theorem zg_273 : (Cond.methodLink RL 53 yX7_pullOf) ∈ lw_tbl ∧ ((((Cond.methodLink RL 53 yX7_pullOf : Cond)).onTables && ((Cond.methodLink RL 53 yX7_pullOf : Cond)).keeps) = true ∨ ∃ ty, (Cond.methodLink RL 53 yX7_pullOf) = .arrayClass ty) := ⟨zt_1 (List.mem_of_getElem? (i := 124) rfl), good_of_word rfl⟩
theorem gq_53 : GoodIn lw_tbl (wsV RL 53 RX7 yX7_pullOf wsX7_pullOf) := goodIn_app (zl_cons zg_273 (zl_cons zg_272 (zl_cons zg_271 (zl_cons zg_21 zl_nil)))) gl_wsX7_pullOf
theorem zg_274 : (Cond.code yX8_pullOf cX8_pullOf 3 (some .int)) ∈ lw_tbl ∧ ((((Cond.code yX8_pullOf cX8_pullOf 3 (some .int) : Cond)).onTables && ((Cond.code yX8_pullOf cX8_pullOf 3 (some .int) : Cond)).keeps) = true ∨ ∃ ty, (Cond.code yX8_pullOf cX8_pullOf 3 (some .int)) = .arrayClass ty) := ⟨zt_4 (List.mem_of_getElem? (i := 105) rfl), good_of_word rfl⟩
theorem zg_275 : (Cond.code yX8_mayBe cX8_mayBe 4 (some .boolean)) ∈ lw_tbl ∧ ((((Cond.code yX8_mayBe cX8_mayBe 4 (some .boolean) : Cond)).onTables && ((Cond.code yX8_mayBe cX8_mayBe 4 (some .boolean) : Cond)).keeps) = true ∨ ∃ ty, (Cond.code yX8_mayBe cX8_mayBe 4 (some .boolean)) = .arrayClass ty) := ⟨zt_4 (List.mem_of_getElem? (i := 109) rfl), good_of_word rfl⟩
theorem zg_276 : (Cond.selects RX8 yX8_mayBe yX8_mayBe) ∈ lw_tbl ∧ ((((Cond.selects RX8 yX8_mayBe yX8_mayBe : Cond)).onTables && ((Cond.selects RX8 yX8_mayBe yX8_mayBe : Cond)).keeps) = true ∨ ∃ ty, (Cond.selects RX8 yX8_mayBe yX8_mayBe) = .arrayClass ty) := ⟨zp_2 2 (by decide +kernel), good_of_word rfl⟩
theorem zg_277 : (Cond.instanceMethod yX8_mayBe) ∈ lw_tbl ∧ ((((Cond.instanceMethod yX8_mayBe : Cond)).onTables && ((Cond.instanceMethod yX8_mayBe : Cond)).keeps) = true ∨ ∃ ty, (Cond.instanceMethod yX8_mayBe) = .arrayClass ty) := ⟨zt_4 (List.mem_of_getElem? (i := 108) rfl), good_of_word rfl⟩
theorem zg_278 : (Cond.methodLink RX8 118 yX8_mayBe) ∈ lw_tbl ∧ ((((Cond.methodLink RX8 118 yX8_mayBe : Cond)).onTables && ((Cond.methodLink RX8 118 yX8_mayBe : Cond)).keeps) = true ∨ ∃ ty, (Cond.methodLink RX8 118 yX8_mayBe) = .arrayClass ty) := ⟨zt_4 (List.mem_of_getElem? (i := 106) rfl), good_of_word rfl⟩
theorem zg_279 : (Cond.fieldLink RX8 13 "TheLiningsInItModel" "seconds" "I") ∈ lw_tbl ∧ ((((Cond.fieldLink RX8 13 "TheLiningsInItModel" "seconds" "I" : Cond)).onTables && ((Cond.fieldLink RX8 13 "TheLiningsInItModel" "seconds" "I" : Cond)).keeps) = true ∨ ∃ ty, (Cond.fieldLink RX8 13 "TheLiningsInItModel" "seconds" "I") = .arrayClass ty) := ⟨zt_3 (List.mem_of_getElem? (i := 176) rfl), good_of_word rfl⟩
theorem zg_280 : (Cond.fieldLink RX8 115 "TheLiningsInItModel" "depth" "I") ∈ lw_tbl ∧ ((((Cond.fieldLink RX8 115 "TheLiningsInItModel" "depth" "I" : Cond)).onTables && ((Cond.fieldLink RX8 115 "TheLiningsInItModel" "depth" "I" : Cond)).keeps) = true ∨ ∃ ty, (Cond.fieldLink RX8 115 "TheLiningsInItModel" "depth" "I") = .arrayClass ty) := ⟨zt_3 (List.mem_of_getElem? (i := 174) rfl), good_of_word rfl⟩
theorem gl_wsX8_pullOf : GoodIn lw_tbl wsX8_pullOf := (zl_cons zg_274 (goodIn_app (zl_cons zg_228 (zl_cons zg_222 (zl_cons zg_227 (zl_cons zg_280 (zl_cons zg_279 (zl_cons zg_168 (zl_cons zg_167 (zl_cons zg_166 (zl_cons zg_49 (zl_cons zg_165 (zl_cons zg_164 (zl_cons zg_47 (zl_cons zg_46 (zl_cons zg_45 (zl_cons zg_44 (zl_cons zg_43 (zl_cons zg_226 (zl_cons zg_225 (zl_cons zg_224 (zl_cons zg_223 (zl_cons zg_278 (zl_cons zg_277 (zl_cons zg_276 (zl_cons zg_275 zl_nil)))))))))))))))))))))))) gl_wsX80))
theorem zg_281 : (Cond.selects RX8 yX8_pullOf yX8_pullOf) ∈ lw_tbl ∧ ((((Cond.selects RX8 yX8_pullOf yX8_pullOf : Cond)).onTables && ((Cond.selects RX8 yX8_pullOf yX8_pullOf : Cond)).keeps) = true ∨ ∃ ty, (Cond.selects RX8 yX8_pullOf yX8_pullOf) = .arrayClass ty) := ⟨zt_4 (List.mem_of_getElem? (i := 104) rfl), good_of_word rfl⟩
theorem zg_282 : (Cond.instanceMethod yX8_pullOf) ∈ lw_tbl ∧ ((((Cond.instanceMethod yX8_pullOf : Cond)).onTables && ((Cond.instanceMethod yX8_pullOf : Cond)).keeps) = true ∨ ∃ ty, (Cond.instanceMethod yX8_pullOf) = .arrayClass ty) := ⟨zt_4 (List.mem_of_getElem? (i := 103) rfl), good_of_word rfl⟩
theorem zg_283 : (Cond.methodLink RL 56 yX8_pullOf) ∈ lw_tbl ∧ ((((Cond.methodLink RL 56 yX8_pullOf : Cond)).onTables && ((Cond.methodLink RL 56 yX8_pullOf : Cond)).keeps) = true ∨ ∃ ty, (Cond.methodLink RL 56 yX8_pullOf) = .arrayClass ty) := ⟨zt_4 (List.mem_of_getElem? (i := 102) rfl), good_of_word rfl⟩
theorem gq_56 : GoodIn lw_tbl (wsV RL 56 RX8 yX8_pullOf wsX8_pullOf) := goodIn_app (zl_cons zg_283 (zl_cons zg_282 (zl_cons zg_281 (zl_cons zg_49 zl_nil)))) gl_wsX8_pullOf
theorem zg_284 : (Cond.code yX7_teeth cX7_teeth 3 (some .int)) ∈ lw_tbl ∧ ((((Cond.code yX7_teeth cX7_teeth 3 (some .int) : Cond)).onTables && ((Cond.code yX7_teeth cX7_teeth 3 (some .int) : Cond)).keeps) = true ∨ ∃ ty, (Cond.code yX7_teeth cX7_teeth 3 (some .int)) = .arrayClass ty) := ⟨zt_1 (List.mem_of_getElem? (i := 139) rfl), good_of_word rfl⟩
theorem zg_285 : (Cond.fieldLink RX6 15 "TheLiningsInIt$Zip" "slacks" "[I") ∈ lw_tbl ∧ ((((Cond.fieldLink RX6 15 "TheLiningsInIt$Zip" "slacks" "[I" : Cond)).onTables && ((Cond.fieldLink RX6 15 "TheLiningsInIt$Zip" "slacks" "[I" : Cond)).keeps) = true ∨ ∃ ty, (Cond.fieldLink RX6 15 "TheLiningsInIt$Zip" "slacks" "[I") = .arrayClass ty) := ⟨zt_0 (List.mem_of_getElem? (i := 42) rfl), good_of_word rfl⟩
theorem zg_286 : (Cond.fieldLink RX6 9 "TheLiningsInIt$Zip" "lacking" "[Z") ∈ lw_tbl ∧ ((((Cond.fieldLink RX6 9 "TheLiningsInIt$Zip" "lacking" "[Z" : Cond)).onTables && ((Cond.fieldLink RX6 9 "TheLiningsInIt$Zip" "lacking" "[Z" : Cond)).keeps) = true ∨ ∃ ty, (Cond.fieldLink RX6 9 "TheLiningsInIt$Zip" "lacking" "[Z") = .arrayClass ty) := ⟨zt_0 (List.mem_of_getElem? (i := 39) rfl), good_of_word rfl⟩
theorem zg_287 : (Cond.fieldLink RX6 23 "TheLiningsInIt$Zip" "at" "I") ∈ lw_tbl ∧ ((((Cond.fieldLink RX6 23 "TheLiningsInIt$Zip" "at" "I" : Cond)).onTables && ((Cond.fieldLink RX6 23 "TheLiningsInIt$Zip" "at" "I" : Cond)).keeps) = true ∨ ∃ ty, (Cond.fieldLink RX6 23 "TheLiningsInIt$Zip" "at" "I") = .arrayClass ty) := ⟨zt_0 (List.mem_of_getElem? (i := 49) rfl), good_of_word rfl⟩
theorem zg_288 : (Cond.fieldLink RX6 19 "TheLiningsInIt$Zip" "size" "I") ∈ lw_tbl ∧ ((((Cond.fieldLink RX6 19 "TheLiningsInIt$Zip" "size" "I" : Cond)).onTables && ((Cond.fieldLink RX6 19 "TheLiningsInIt$Zip" "size" "I" : Cond)).keeps) = true ∨ ∃ ty, (Cond.fieldLink RX6 19 "TheLiningsInIt$Zip" "size" "I") = .arrayClass ty) := ⟨zt_0 (List.mem_of_getElem? (i := 46) rfl), good_of_word rfl⟩
theorem zg_289 : (Cond.code yX6_renew cX6_renew 3 none) ∈ lw_tbl ∧ ((((Cond.code yX6_renew cX6_renew 3 none : Cond)).onTables && ((Cond.code yX6_renew cX6_renew 3 none : Cond)).keeps) = true ∨ ∃ ty, (Cond.code yX6_renew cX6_renew 3 none) = .arrayClass ty) := ⟨zt_1 (List.mem_of_getElem? (i := 143) rfl), good_of_word rfl⟩
theorem zg_290 : (Cond.initialized RX6) ∈ lw_tbl ∧ ((((Cond.initialized RX6 : Cond)).onTables && ((Cond.initialized RX6 : Cond)).keeps) = true ∨ ∃ ty, (Cond.initialized RX6) = .arrayClass ty) := ⟨zt_0 (List.mem_of_getElem? (i := 3) rfl), good_of_word rfl⟩
theorem zg_291 : (Cond.selects RX6 yX6_renew yX6_renew) ∈ lw_tbl ∧ ((((Cond.selects RX6 yX6_renew yX6_renew : Cond)).onTables && ((Cond.selects RX6 yX6_renew yX6_renew : Cond)).keeps) = true ∨ ∃ ty, (Cond.selects RX6 yX6_renew yX6_renew) = .arrayClass ty) := ⟨zt_1 (List.mem_of_getElem? (i := 142) rfl), good_of_word rfl⟩
theorem zg_292 : (Cond.instanceMethod yX6_renew) ∈ lw_tbl ∧ ((((Cond.instanceMethod yX6_renew : Cond)).onTables && ((Cond.instanceMethod yX6_renew : Cond)).keeps) = true ∨ ∃ ty, (Cond.instanceMethod yX6_renew) = .arrayClass ty) := ⟨zt_1 (List.mem_of_getElem? (i := 141) rfl), good_of_word rfl⟩
theorem zg_293 : (Cond.methodLink RX7 149 yX6_renew) ∈ lw_tbl ∧ ((((Cond.methodLink RX7 149 yX6_renew : Cond)).onTables && ((Cond.methodLink RX7 149 yX6_renew : Cond)).keeps) = true ∨ ∃ ty, (Cond.methodLink RX7 149 yX6_renew) = .arrayClass ty) := ⟨zt_1 (List.mem_of_getElem? (i := 140) rfl), good_of_word rfl⟩
theorem zg_294 : (Cond.fieldLink RX7 144 "TheLiningsInIt$Zip" "size" "I") ∈ lw_tbl ∧ ((((Cond.fieldLink RX7 144 "TheLiningsInIt$Zip" "size" "I" : Cond)).onTables && ((Cond.fieldLink RX7 144 "TheLiningsInIt$Zip" "size" "I" : Cond)).keeps) = true ∨ ∃ ty, (Cond.fieldLink RX7 144 "TheLiningsInIt$Zip" "size" "I") = .arrayClass ty) := ⟨zt_0 (List.mem_of_getElem? (i := 48) rfl), good_of_word rfl⟩
theorem zg_295 : (Cond.fieldLink RX7 140 "TheLiningsInIt$Jacket" "zip" "LTheLiningsInIt$Zip;") ∈ lw_tbl ∧ ((((Cond.fieldLink RX7 140 "TheLiningsInIt$Jacket" "zip" "LTheLiningsInIt$Zip;" : Cond)).onTables && ((Cond.fieldLink RX7 140 "TheLiningsInIt$Jacket" "zip" "LTheLiningsInIt$Zip;" : Cond)).keeps) = true ∨ ∃ ty, (Cond.fieldLink RX7 140 "TheLiningsInIt$Jacket" "zip" "LTheLiningsInIt$Zip;") = .arrayClass ty) := ⟨zt_0 (List.mem_of_getElem? (i := 72) rfl), good_of_word rfl⟩
theorem zg_296 : (u_lay RX6 TX6 4) ∈ lw_tbl ∧ ((((u_lay RX6 TX6 4 : Cond)).onTables && ((u_lay RX6 TX6 4 : Cond)).keeps) = true ∨ ∃ ty, (u_lay RX6 TX6 4) = .arrayClass ty) := ⟨zt_0 (List.mem_of_getElem? (i := 64) rfl), good_of_word rfl⟩
theorem zg_297 : (u_lay RX6 TX6 3) ∈ lw_tbl ∧ ((((u_lay RX6 TX6 3 : Cond)).onTables && ((u_lay RX6 TX6 3 : Cond)).keeps) = true ∨ ∃ ty, (u_lay RX6 TX6 3) = .arrayClass ty) := ⟨zt_0 (List.mem_of_getElem? (i := 62) rfl), good_of_word rfl⟩
theorem zg_298 : (u_lay RX6 TX6 2) ∈ lw_tbl ∧ ((((u_lay RX6 TX6 2 : Cond)).onTables && ((u_lay RX6 TX6 2 : Cond)).keeps) = true ∨ ∃ ty, (u_lay RX6 TX6 2) = .arrayClass ty) := ⟨zt_0 (List.mem_of_getElem? (i := 60) rfl), good_of_word rfl⟩
theorem zg_299 : (u_lay RX6 TX6 1) ∈ lw_tbl ∧ ((((u_lay RX6 TX6 1 : Cond)).onTables && ((u_lay RX6 TX6 1 : Cond)).keeps) = true ∨ ∃ ty, (u_lay RX6 TX6 1) = .arrayClass ty) := ⟨zt_0 (List.mem_of_getElem? (i := 58) rfl), good_of_word rfl⟩
theorem zg_300 : (u_lay RX6 TX6 0) ∈ lw_tbl ∧ ((((u_lay RX6 TX6 0 : Cond)).onTables && ((u_lay RX6 TX6 0 : Cond)).keeps) = true ∨ ∃ ty, (u_lay RX6 TX6 0) = .arrayClass ty) := ⟨zt_0 (List.mem_of_getElem? (i := 56) rfl), good_of_word rfl⟩
theorem gl_wsX60 : GoodIn lw_tbl wsX60 := (zl_cons zg_300 (zl_cons zg_299 (zl_cons zg_298 (zl_cons zg_297 (zl_cons zg_296 zl_nil)))))
theorem gl_wsX7_teeth : GoodIn lw_tbl wsX7_teeth := (zl_cons zg_284 (goodIn_app (goodIn_app (goodIn_app (zl_cons zg_150 (zl_cons zg_295 (zl_cons zg_294 (zl_cons zg_18 (zl_cons zg_17 (zl_cons zg_21 (zl_cons zg_16 (zl_cons zg_15 (zl_cons zg_14 (zl_cons zg_13 (zl_cons zg_12 (zl_cons zg_11 (zl_cons zg_293 (zl_cons zg_292 (zl_cons zg_291 (zl_cons zg_290 (zl_cons zg_289 (zl_cons zg_288 (zl_cons zg_287 (zl_cons zg_286 (zl_cons zg_285 zl_nil))))))))))))))))))))) gl_wsX70) gl_wsX00) gl_wsX60))
theorem zg_301 : (Cond.selects RX7 yX7_teeth yX7_teeth) ∈ lw_tbl ∧ ((((Cond.selects RX7 yX7_teeth yX7_teeth : Cond)).onTables && ((Cond.selects RX7 yX7_teeth yX7_teeth : Cond)).keeps) = true ∨ ∃ ty, (Cond.selects RX7 yX7_teeth yX7_teeth) = .arrayClass ty) := ⟨zt_1 (List.mem_of_getElem? (i := 138) rfl), good_of_word rfl⟩
theorem zg_302 : (Cond.instanceMethod yX7_teeth) ∈ lw_tbl ∧ ((((Cond.instanceMethod yX7_teeth : Cond)).onTables && ((Cond.instanceMethod yX7_teeth : Cond)).keeps) = true ∨ ∃ ty, (Cond.instanceMethod yX7_teeth) = .arrayClass ty) := ⟨zt_1 (List.mem_of_getElem? (i := 137) rfl), good_of_word rfl⟩
theorem zg_303 : (Cond.methodLink RL 57 yX7_teeth) ∈ lw_tbl ∧ ((((Cond.methodLink RL 57 yX7_teeth : Cond)).onTables && ((Cond.methodLink RL 57 yX7_teeth : Cond)).keeps) = true ∨ ∃ ty, (Cond.methodLink RL 57 yX7_teeth) = .arrayClass ty) := ⟨zt_1 (List.mem_of_getElem? (i := 136) rfl), good_of_word rfl⟩
theorem gq_57 : GoodIn lw_tbl (wsV RL 57 RX7 yX7_teeth wsX7_teeth) := goodIn_app (zl_cons zg_303 (zl_cons zg_302 (zl_cons zg_301 (zl_cons zg_21 zl_nil)))) gl_wsX7_teeth
theorem zg_304 : (Cond.code yX8_teeth cX8_teeth 3 (some .int)) ∈ lw_tbl ∧ ((((Cond.code yX8_teeth cX8_teeth 3 (some .int) : Cond)).onTables && ((Cond.code yX8_teeth cX8_teeth 3 (some .int) : Cond)).keeps) = true ∨ ∃ ty, (Cond.code yX8_teeth cX8_teeth 3 (some .int)) = .arrayClass ty) := ⟨zt_4 (List.mem_of_getElem? (i := 113) rfl), good_of_word rfl⟩
theorem zg_305 : (Cond.fieldLink RX8 41 "TheLiningsInItModel" "slack" "[I") ∈ lw_tbl ∧ ((((Cond.fieldLink RX8 41 "TheLiningsInItModel" "slack" "[I" : Cond)).onTables && ((Cond.fieldLink RX8 41 "TheLiningsInItModel" "slack" "[I" : Cond)).keeps) = true ∨ ∃ ty, (Cond.fieldLink RX8 41 "TheLiningsInItModel" "slack" "[I") = .arrayClass ty) := ⟨zt_3 (List.mem_of_getElem? (i := 186) rfl), good_of_word rfl⟩
theorem zg_306 : (Cond.fieldLink RX8 38 "TheLiningsInItModel" "lacks" "[I") ∈ lw_tbl ∧ ((((Cond.fieldLink RX8 38 "TheLiningsInItModel" "lacks" "[I" : Cond)).onTables && ((Cond.fieldLink RX8 38 "TheLiningsInItModel" "lacks" "[I" : Cond)).keeps) = true ∨ ∃ ty, (Cond.fieldLink RX8 38 "TheLiningsInItModel" "lacks" "[I") = .arrayClass ty) := ⟨zt_3 (List.mem_of_getElem? (i := 185) rfl), good_of_word rfl⟩
theorem zg_307 : (Cond.fieldLink RX8 122 "TheLiningsInItModel" "at" "I") ∈ lw_tbl ∧ ((((Cond.fieldLink RX8 122 "TheLiningsInItModel" "at" "I" : Cond)).onTables && ((Cond.fieldLink RX8 122 "TheLiningsInItModel" "at" "I" : Cond)).keeps) = true ∨ ∃ ty, (Cond.fieldLink RX8 122 "TheLiningsInItModel" "at" "I") = .arrayClass ty) := ⟨zt_3 (List.mem_of_getElem? (i := 173) rfl), good_of_word rfl⟩
theorem zg_308 : (Cond.code yX8_sews cX8_sews 3 none) ∈ lw_tbl ∧ ((((Cond.code yX8_sews cX8_sews 3 none : Cond)).onTables && ((Cond.code yX8_sews cX8_sews 3 none : Cond)).keeps) = true ∨ ∃ ty, (Cond.code yX8_sews cX8_sews 3 none) = .arrayClass ty) := ⟨zt_4 (List.mem_of_getElem? (i := 117) rfl), good_of_word rfl⟩
theorem zg_309 : (Cond.selects RX8 yX8_sews yX8_sews) ∈ lw_tbl ∧ ((((Cond.selects RX8 yX8_sews yX8_sews : Cond)).onTables && ((Cond.selects RX8 yX8_sews yX8_sews : Cond)).keeps) = true ∨ ∃ ty, (Cond.selects RX8 yX8_sews yX8_sews) = .arrayClass ty) := ⟨zp_2 3 (by decide +kernel), good_of_word rfl⟩
theorem zg_310 : (Cond.instanceMethod yX8_sews) ∈ lw_tbl ∧ ((((Cond.instanceMethod yX8_sews : Cond)).onTables && ((Cond.instanceMethod yX8_sews : Cond)).keeps) = true ∨ ∃ ty, (Cond.instanceMethod yX8_sews) = .arrayClass ty) := ⟨zt_4 (List.mem_of_getElem? (i := 116) rfl), good_of_word rfl⟩
theorem zg_311 : (Cond.methodLink RX8 125 yX8_sews) ∈ lw_tbl ∧ ((((Cond.methodLink RX8 125 yX8_sews : Cond)).onTables && ((Cond.methodLink RX8 125 yX8_sews : Cond)).keeps) = true ∨ ∃ ty, (Cond.methodLink RX8 125 yX8_sews) = .arrayClass ty) := ⟨zt_4 (List.mem_of_getElem? (i := 114) rfl), good_of_word rfl⟩
theorem zg_312 : (Cond.fieldLink RX8 7 "TheLiningsInItModel" "teeth" "I") ∈ lw_tbl ∧ ((((Cond.fieldLink RX8 7 "TheLiningsInItModel" "teeth" "I" : Cond)).onTables && ((Cond.fieldLink RX8 7 "TheLiningsInItModel" "teeth" "I" : Cond)).keeps) = true ∨ ∃ ty, (Cond.fieldLink RX8 7 "TheLiningsInItModel" "teeth" "I") = .arrayClass ty) := ⟨zt_3 (List.mem_of_getElem? (i := 172) rfl), good_of_word rfl⟩
theorem gl_wsX8_teeth : GoodIn lw_tbl wsX8_teeth := (zl_cons zg_304 (goodIn_app (zl_cons zg_312 (zl_cons zg_47 (zl_cons zg_46 (zl_cons zg_45 (zl_cons zg_49 (zl_cons zg_44 (zl_cons zg_43 (zl_cons zg_311 (zl_cons zg_310 (zl_cons zg_309 (zl_cons zg_308 (zl_cons zg_307 (zl_cons zg_306 (zl_cons zg_305 zl_nil)))))))))))))) gl_wsX80))
theorem zg_313 : (Cond.selects RX8 yX8_teeth yX8_teeth) ∈ lw_tbl ∧ ((((Cond.selects RX8 yX8_teeth yX8_teeth : Cond)).onTables && ((Cond.selects RX8 yX8_teeth yX8_teeth : Cond)).keeps) = true ∨ ∃ ty, (Cond.selects RX8 yX8_teeth yX8_teeth) = .arrayClass ty) := ⟨zt_4 (List.mem_of_getElem? (i := 112) rfl), good_of_word rfl⟩
theorem zg_314 : (Cond.instanceMethod yX8_teeth) ∈ lw_tbl ∧ ((((Cond.instanceMethod yX8_teeth : Cond)).onTables && ((Cond.instanceMethod yX8_teeth : Cond)).keeps) = true ∨ ∃ ty, (Cond.instanceMethod yX8_teeth) = .arrayClass ty) := ⟨zt_4 (List.mem_of_getElem? (i := 111) rfl), good_of_word rfl⟩
theorem zg_315 : (Cond.methodLink RL 60 yX8_teeth) ∈ lw_tbl ∧ ((((Cond.methodLink RL 60 yX8_teeth : Cond)).onTables && ((Cond.methodLink RL 60 yX8_teeth : Cond)).keeps) = true ∨ ∃ ty, (Cond.methodLink RL 60 yX8_teeth) = .arrayClass ty) := ⟨zt_4 (List.mem_of_getElem? (i := 110) rfl), good_of_word rfl⟩
theorem gq_60 : GoodIn lw_tbl (wsV RL 60 RX8 yX8_teeth wsX8_teeth) := goodIn_app (zl_cons zg_315 (zl_cons zg_314 (zl_cons zg_313 (zl_cons zg_49 zl_nil)))) gl_wsX8_teeth
theorem zg_316 : (Cond.code yX7_lack cX7_lack 4 (some .int)) ∈ lw_tbl ∧ ((((Cond.code yX7_lack cX7_lack 4 (some .int) : Cond)).onTables && ((Cond.code yX7_lack cX7_lack 4 (some .int) : Cond)).keeps) = true ∨ ∃ ty, (Cond.code yX7_lack cX7_lack 4 (some .int)) = .arrayClass ty) := ⟨zt_1 (List.mem_of_getElem? (i := 147) rfl), good_of_word rfl⟩
theorem zg_317 : (Cond.code yX6_has cX6_has 2 (some .boolean)) ∈ lw_tbl ∧ ((((Cond.code yX6_has cX6_has 2 (some .boolean) : Cond)).onTables && ((Cond.code yX6_has cX6_has 2 (some .boolean) : Cond)).keeps) = true ∨ ∃ ty, (Cond.code yX6_has cX6_has 2 (some .boolean)) = .arrayClass ty) := ⟨zt_1 (List.mem_of_getElem? (i := 151) rfl), good_of_word rfl⟩
theorem zg_318 : (Cond.selects RX6 yX6_has yX6_has) ∈ lw_tbl ∧ ((((Cond.selects RX6 yX6_has yX6_has : Cond)).onTables && ((Cond.selects RX6 yX6_has yX6_has : Cond)).keeps) = true ∨ ∃ ty, (Cond.selects RX6 yX6_has yX6_has) = .arrayClass ty) := ⟨zt_1 (List.mem_of_getElem? (i := 150) rfl), good_of_word rfl⟩
theorem zg_319 : (Cond.instanceMethod yX6_has) ∈ lw_tbl ∧ ((((Cond.instanceMethod yX6_has : Cond)).onTables && ((Cond.instanceMethod yX6_has : Cond)).keeps) = true ∨ ∃ ty, (Cond.instanceMethod yX6_has) = .arrayClass ty) := ⟨zt_1 (List.mem_of_getElem? (i := 149) rfl), good_of_word rfl⟩
theorem zg_320 : (Cond.methodLink RX7 153 yX6_has) ∈ lw_tbl ∧ ((((Cond.methodLink RX7 153 yX6_has : Cond)).onTables && ((Cond.methodLink RX7 153 yX6_has : Cond)).keeps) = true ∨ ∃ ty, (Cond.methodLink RX7 153 yX6_has) = .arrayClass ty) := ⟨zt_1 (List.mem_of_getElem? (i := 148) rfl), good_of_word rfl⟩
theorem zg_321 : (Cond.fieldLink RX7 156 "TheLiningsInIt$Zip" "lacking" "[Z") ∈ lw_tbl ∧ ((((Cond.fieldLink RX7 156 "TheLiningsInIt$Zip" "lacking" "[Z" : Cond)).onTables && ((Cond.fieldLink RX7 156 "TheLiningsInIt$Zip" "lacking" "[Z" : Cond)).keeps) = true ∨ ∃ ty, (Cond.fieldLink RX7 156 "TheLiningsInIt$Zip" "lacking" "[Z") = .arrayClass ty) := ⟨zt_0 (List.mem_of_getElem? (i := 40) rfl), good_of_word rfl⟩
theorem gl_wsX7_lack : GoodIn lw_tbl wsX7_lack := (zl_cons zg_316 (goodIn_app (goodIn_app (goodIn_app (zl_cons zg_150 (zl_cons zg_295 (zl_cons zg_321 (zl_cons zg_320 (zl_cons zg_319 (zl_cons zg_318 (zl_cons zg_290 (zl_cons zg_317 (zl_cons zg_288 (zl_cons zg_15 (zl_cons zg_14 (zl_cons zg_13 (zl_cons zg_21 (zl_cons zg_12 (zl_cons zg_11 (zl_cons zg_18 (zl_cons zg_17 (zl_cons zg_16 zl_nil)))))))))))))))))) gl_wsX70) gl_wsX00) gl_wsX60))
theorem zg_322 : (Cond.selects RX7 yX7_lack yX7_lack) ∈ lw_tbl ∧ ((((Cond.selects RX7 yX7_lack yX7_lack : Cond)).onTables && ((Cond.selects RX7 yX7_lack yX7_lack : Cond)).keeps) = true ∨ ∃ ty, (Cond.selects RX7 yX7_lack yX7_lack) = .arrayClass ty) := ⟨zt_1 (List.mem_of_getElem? (i := 146) rfl), good_of_word rfl⟩
theorem zg_323 : (Cond.instanceMethod yX7_lack) ∈ lw_tbl ∧ ((((Cond.instanceMethod yX7_lack : Cond)).onTables && ((Cond.instanceMethod yX7_lack : Cond)).keeps) = true ∨ ∃ ty, (Cond.instanceMethod yX7_lack) = .arrayClass ty) := ⟨zt_1 (List.mem_of_getElem? (i := 145) rfl), good_of_word rfl⟩
theorem zg_324 : (Cond.methodLink RL 61 yX7_lack) ∈ lw_tbl ∧ ((((Cond.methodLink RL 61 yX7_lack : Cond)).onTables && ((Cond.methodLink RL 61 yX7_lack : Cond)).keeps) = true ∨ ∃ ty, (Cond.methodLink RL 61 yX7_lack) = .arrayClass ty) := ⟨zt_1 (List.mem_of_getElem? (i := 144) rfl), good_of_word rfl⟩
theorem gq_61 : GoodIn lw_tbl (wsV RL 61 RX7 yX7_lack wsX7_lack) := goodIn_app (zl_cons zg_324 (zl_cons zg_323 (zl_cons zg_322 (zl_cons zg_21 zl_nil)))) gl_wsX7_lack
theorem zg_325 : (Cond.code yX8_lack cX8_lack 4 (some .int)) ∈ lw_tbl ∧ ((((Cond.code yX8_lack cX8_lack 4 (some .int) : Cond)).onTables && ((Cond.code yX8_lack cX8_lack 4 (some .int) : Cond)).keeps) = true ∨ ∃ ty, (Cond.code yX8_lack cX8_lack 4 (some .int)) = .arrayClass ty) := ⟨zt_4 (List.mem_of_getElem? (i := 121) rfl), good_of_word rfl⟩
theorem zg_326 : (Cond.code yX8_isTooth cX8_isTooth 2 (some .boolean)) ∈ lw_tbl ∧ ((((Cond.code yX8_isTooth cX8_isTooth 2 (some .boolean) : Cond)).onTables && ((Cond.code yX8_isTooth cX8_isTooth 2 (some .boolean) : Cond)).keeps) = true ∨ ∃ ty, (Cond.code yX8_isTooth cX8_isTooth 2 (some .boolean)) = .arrayClass ty) := ⟨zt_4 (List.mem_of_getElem? (i := 125) rfl), good_of_word rfl⟩
theorem zg_327 : (Cond.selects RX8 yX8_isTooth yX8_isTooth) ∈ lw_tbl ∧ ((((Cond.selects RX8 yX8_isTooth yX8_isTooth : Cond)).onTables && ((Cond.selects RX8 yX8_isTooth yX8_isTooth : Cond)).keeps) = true ∨ ∃ ty, (Cond.selects RX8 yX8_isTooth yX8_isTooth) = .arrayClass ty) := ⟨zp_2 4 (by decide +kernel), good_of_word rfl⟩
theorem zg_328 : (Cond.instanceMethod yX8_isTooth) ∈ lw_tbl ∧ ((((Cond.instanceMethod yX8_isTooth : Cond)).onTables && ((Cond.instanceMethod yX8_isTooth : Cond)).keeps) = true ∨ ∃ ty, (Cond.instanceMethod yX8_isTooth) = .arrayClass ty) := ⟨zt_4 (List.mem_of_getElem? (i := 124) rfl), good_of_word rfl⟩
theorem zg_329 : (Cond.methodLink RX8 129 yX8_isTooth) ∈ lw_tbl ∧ ((((Cond.methodLink RX8 129 yX8_isTooth : Cond)).onTables && ((Cond.methodLink RX8 129 yX8_isTooth : Cond)).keeps) = true ∨ ∃ ty, (Cond.methodLink RX8 129 yX8_isTooth) = .arrayClass ty) := ⟨zt_4 (List.mem_of_getElem? (i := 122) rfl), good_of_word rfl⟩
theorem gl_wsX8_lack : GoodIn lw_tbl wsX8_lack := (zl_cons zg_325 (goodIn_app (zl_cons zg_306 (zl_cons zg_329 (zl_cons zg_328 (zl_cons zg_327 (zl_cons zg_49 (zl_cons zg_326 (zl_cons zg_312 (zl_cons zg_47 (zl_cons zg_46 (zl_cons zg_45 (zl_cons zg_44 (zl_cons zg_43 zl_nil)))))))))))) gl_wsX80))
theorem zg_330 : (Cond.selects RX8 yX8_lack yX8_lack) ∈ lw_tbl ∧ ((((Cond.selects RX8 yX8_lack yX8_lack : Cond)).onTables && ((Cond.selects RX8 yX8_lack yX8_lack : Cond)).keeps) = true ∨ ∃ ty, (Cond.selects RX8 yX8_lack yX8_lack) = .arrayClass ty) := ⟨zt_4 (List.mem_of_getElem? (i := 120) rfl), good_of_word rfl⟩
theorem zg_331 : (Cond.instanceMethod yX8_lack) ∈ lw_tbl ∧ ((((Cond.instanceMethod yX8_lack : Cond)).onTables && ((Cond.instanceMethod yX8_lack : Cond)).keeps) = true ∨ ∃ ty, (Cond.instanceMethod yX8_lack) = .arrayClass ty) := ⟨zt_4 (List.mem_of_getElem? (i := 119) rfl), good_of_word rfl⟩
theorem zg_332 : (Cond.methodLink RL 65 yX8_lack) ∈ lw_tbl ∧ ((((Cond.methodLink RL 65 yX8_lack : Cond)).onTables && ((Cond.methodLink RL 65 yX8_lack : Cond)).keeps) = true ∨ ∃ ty, (Cond.methodLink RL 65 yX8_lack) = .arrayClass ty) := ⟨zt_4 (List.mem_of_getElem? (i := 118) rfl), good_of_word rfl⟩
theorem gq_65 : GoodIn lw_tbl (wsV RL 65 RX8 yX8_lack wsX8_lack) := goodIn_app (zl_cons zg_332 (zl_cons zg_331 (zl_cons zg_330 (zl_cons zg_49 zl_nil)))) gl_wsX8_lack
theorem zg_333 : (Cond.code yX7_slack cX7_slack 4 (some .int)) ∈ lw_tbl ∧ ((((Cond.code yX7_slack cX7_slack 4 (some .int) : Cond)).onTables && ((Cond.code yX7_slack cX7_slack 4 (some .int) : Cond)).keeps) = true ∨ ∃ ty, (Cond.code yX7_slack cX7_slack 4 (some .int)) = .arrayClass ty) := ⟨zt_1 (List.mem_of_getElem? (i := 155) rfl), good_of_word rfl⟩
theorem zg_334 : (Cond.fieldLink RX7 160 "TheLiningsInIt$Zip" "slacks" "[I") ∈ lw_tbl ∧ ((((Cond.fieldLink RX7 160 "TheLiningsInIt$Zip" "slacks" "[I" : Cond)).onTables && ((Cond.fieldLink RX7 160 "TheLiningsInIt$Zip" "slacks" "[I" : Cond)).keeps) = true ∨ ∃ ty, (Cond.fieldLink RX7 160 "TheLiningsInIt$Zip" "slacks" "[I") = .arrayClass ty) := ⟨zt_0 (List.mem_of_getElem? (i := 43) rfl), good_of_word rfl⟩
theorem gl_wsX7_slack : GoodIn lw_tbl wsX7_slack := (zl_cons zg_333 (goodIn_app (goodIn_app (goodIn_app (zl_cons zg_150 (zl_cons zg_295 (zl_cons zg_334 (zl_cons zg_320 (zl_cons zg_319 (zl_cons zg_318 (zl_cons zg_290 (zl_cons zg_317 (zl_cons zg_288 (zl_cons zg_15 (zl_cons zg_14 (zl_cons zg_13 (zl_cons zg_21 (zl_cons zg_12 (zl_cons zg_11 (zl_cons zg_18 (zl_cons zg_17 (zl_cons zg_16 zl_nil)))))))))))))))))) gl_wsX70) gl_wsX00) gl_wsX60))
theorem zg_335 : (Cond.selects RX7 yX7_slack yX7_slack) ∈ lw_tbl ∧ ((((Cond.selects RX7 yX7_slack yX7_slack : Cond)).onTables && ((Cond.selects RX7 yX7_slack yX7_slack : Cond)).keeps) = true ∨ ∃ ty, (Cond.selects RX7 yX7_slack yX7_slack) = .arrayClass ty) := ⟨zt_1 (List.mem_of_getElem? (i := 154) rfl), good_of_word rfl⟩
theorem zg_336 : (Cond.instanceMethod yX7_slack) ∈ lw_tbl ∧ ((((Cond.instanceMethod yX7_slack : Cond)).onTables && ((Cond.instanceMethod yX7_slack : Cond)).keeps) = true ∨ ∃ ty, (Cond.instanceMethod yX7_slack) = .arrayClass ty) := ⟨zt_1 (List.mem_of_getElem? (i := 153) rfl), good_of_word rfl⟩
theorem zg_337 : (Cond.methodLink RL 66 yX7_slack) ∈ lw_tbl ∧ ((((Cond.methodLink RL 66 yX7_slack : Cond)).onTables && ((Cond.methodLink RL 66 yX7_slack : Cond)).keeps) = true ∨ ∃ ty, (Cond.methodLink RL 66 yX7_slack) = .arrayClass ty) := ⟨zt_1 (List.mem_of_getElem? (i := 152) rfl), good_of_word rfl⟩
theorem gq_66 : GoodIn lw_tbl (wsV RL 66 RX7 yX7_slack wsX7_slack) := goodIn_app (zl_cons zg_337 (zl_cons zg_336 (zl_cons zg_335 (zl_cons zg_21 zl_nil)))) gl_wsX7_slack
theorem zg_338 : (Cond.code yX8_slack cX8_slack 4 (some .int)) ∈ lw_tbl ∧ ((((Cond.code yX8_slack cX8_slack 4 (some .int) : Cond)).onTables && ((Cond.code yX8_slack cX8_slack 4 (some .int) : Cond)).keeps) = true ∨ ∃ ty, (Cond.code yX8_slack cX8_slack 4 (some .int)) = .arrayClass ty) := ⟨zt_4 (List.mem_of_getElem? (i := 129) rfl), good_of_word rfl⟩
theorem gl_wsX8_slack : GoodIn lw_tbl wsX8_slack := (zl_cons zg_338 (goodIn_app (zl_cons zg_305 (zl_cons zg_329 (zl_cons zg_328 (zl_cons zg_327 (zl_cons zg_49 (zl_cons zg_326 (zl_cons zg_312 (zl_cons zg_47 (zl_cons zg_46 (zl_cons zg_45 (zl_cons zg_44 (zl_cons zg_43 zl_nil)))))))))))) gl_wsX80))
theorem zg_339 : (Cond.selects RX8 yX8_slack yX8_slack) ∈ lw_tbl ∧ ((((Cond.selects RX8 yX8_slack yX8_slack : Cond)).onTables && ((Cond.selects RX8 yX8_slack yX8_slack : Cond)).keeps) = true ∨ ∃ ty, (Cond.selects RX8 yX8_slack yX8_slack) = .arrayClass ty) := ⟨zt_4 (List.mem_of_getElem? (i := 128) rfl), good_of_word rfl⟩
theorem zg_340 : (Cond.instanceMethod yX8_slack) ∈ lw_tbl ∧ ((((Cond.instanceMethod yX8_slack : Cond)).onTables && ((Cond.instanceMethod yX8_slack : Cond)).keeps) = true ∨ ∃ ty, (Cond.instanceMethod yX8_slack) = .arrayClass ty) := ⟨zt_4 (List.mem_of_getElem? (i := 127) rfl), good_of_word rfl⟩
theorem zg_341 : (Cond.methodLink RL 69 yX8_slack) ∈ lw_tbl ∧ ((((Cond.methodLink RL 69 yX8_slack : Cond)).onTables && ((Cond.methodLink RL 69 yX8_slack : Cond)).keeps) = true ∨ ∃ ty, (Cond.methodLink RL 69 yX8_slack) = .arrayClass ty) := ⟨zt_4 (List.mem_of_getElem? (i := 126) rfl), good_of_word rfl⟩
theorem gq_69 : GoodIn lw_tbl (wsV RL 69 RX8 yX8_slack wsX8_slack) := goodIn_app (zl_cons zg_341 (zl_cons zg_340 (zl_cons zg_339 (zl_cons zg_49 zl_nil)))) gl_wsX8_slack
theorem zg_342 : (Cond.code yX7_ask cX7_ask 4 (some .int)) ∈ lw_tbl ∧ ((((Cond.code yX7_ask cX7_ask 4 (some .int) : Cond)).onTables && ((Cond.code yX7_ask cX7_ask 4 (some .int) : Cond)).keeps) = true ∨ ∃ ty, (Cond.code yX7_ask cX7_ask 4 (some .int)) = .arrayClass ty) := ⟨zt_1 (List.mem_of_getElem? (i := 159) rfl), good_of_word rfl⟩
theorem zg_343 : (Cond.code yX0_number cX0_number 2 (some .int)) ∈ lw_tbl ∧ ((((Cond.code yX0_number cX0_number 2 (some .int) : Cond)).onTables && ((Cond.code yX0_number cX0_number 2 (some .int) : Cond)).keeps) = true ∨ ∃ ty, (Cond.code yX0_number cX0_number 2 (some .int)) = .arrayClass ty) := ⟨zt_1 (List.mem_of_getElem? (i := 170) rfl), good_of_word rfl⟩
theorem zg_344 : (Cond.selects RX0 yX0_number yX0_number) ∈ lw_tbl ∧ ((((Cond.selects RX0 yX0_number yX0_number : Cond)).onTables && ((Cond.selects RX0 yX0_number yX0_number : Cond)).keeps) = true ∨ ∃ ty, (Cond.selects RX0 yX0_number yX0_number) = .arrayClass ty) := ⟨zt_1 (List.mem_of_getElem? (i := 169) rfl), good_of_word rfl⟩
theorem zg_345 : (Cond.instanceMethod yX0_number) ∈ lw_tbl ∧ ((((Cond.instanceMethod yX0_number : Cond)).onTables && ((Cond.instanceMethod yX0_number : Cond)).keeps) = true ∨ ∃ ty, (Cond.instanceMethod yX0_number) = .arrayClass ty) := ⟨zt_1 (List.mem_of_getElem? (i := 168) rfl), good_of_word rfl⟩
theorem zg_346 : (Cond.methodLink RX7 169 yX0_number) ∈ lw_tbl ∧ ((((Cond.methodLink RX7 169 yX0_number : Cond)).onTables && ((Cond.methodLink RX7 169 yX0_number : Cond)).keeps) = true ∨ ∃ ty, (Cond.methodLink RX7 169 yX0_number) = .arrayClass ty) := ⟨zt_1 (List.mem_of_getElem? (i := 167) rfl), good_of_word rfl⟩
theorem zg_347 : (Cond.fieldLink RX0 57 "TheLiningsInIt$Zip" "size" "I") ∈ lw_tbl ∧ ((((Cond.fieldLink RX0 57 "TheLiningsInIt$Zip" "size" "I" : Cond)).onTables && ((Cond.fieldLink RX0 57 "TheLiningsInIt$Zip" "size" "I" : Cond)).keeps) = true ∨ ∃ ty, (Cond.fieldLink RX0 57 "TheLiningsInIt$Zip" "size" "I") = .arrayClass ty) := ⟨zt_0 (List.mem_of_getElem? (i := 47) rfl), good_of_word rfl⟩
theorem zg_348 : (Cond.fieldLink RX0 12 "TheLiningsInIt$Jacket" "zip" "LTheLiningsInIt$Zip;") ∈ lw_tbl ∧ ((((Cond.fieldLink RX0 12 "TheLiningsInIt$Jacket" "zip" "LTheLiningsInIt$Zip;" : Cond)).onTables && ((Cond.fieldLink RX0 12 "TheLiningsInIt$Jacket" "zip" "LTheLiningsInIt$Zip;" : Cond)).keeps) = true ∨ ∃ ty, (Cond.fieldLink RX0 12 "TheLiningsInIt$Jacket" "zip" "LTheLiningsInIt$Zip;") = .arrayClass ty) := ⟨zt_0 (List.mem_of_getElem? (i := 71) rfl), good_of_word rfl⟩
theorem zg_349 : (Cond.code yX0_mostOf cX0_mostOf 2 (some .int)) ∈ lw_tbl ∧ ((((Cond.code yX0_mostOf cX0_mostOf 2 (some .int) : Cond)).onTables && ((Cond.code yX0_mostOf cX0_mostOf 2 (some .int) : Cond)).keeps) = true ∨ ∃ ty, (Cond.code yX0_mostOf cX0_mostOf 2 (some .int)) = .arrayClass ty) := ⟨zt_1 (List.mem_of_getElem? (i := 166) rfl), good_of_word rfl⟩
theorem zg_350 : (Cond.selects RX0 yX0_mostOf yX0_mostOf) ∈ lw_tbl ∧ ((((Cond.selects RX0 yX0_mostOf yX0_mostOf : Cond)).onTables && ((Cond.selects RX0 yX0_mostOf yX0_mostOf : Cond)).keeps) = true ∨ ∃ ty, (Cond.selects RX0 yX0_mostOf yX0_mostOf) = .arrayClass ty) := ⟨zt_1 (List.mem_of_getElem? (i := 165) rfl), good_of_word rfl⟩
theorem zg_351 : (Cond.instanceMethod yX0_mostOf) ∈ lw_tbl ∧ ((((Cond.instanceMethod yX0_mostOf : Cond)).onTables && ((Cond.instanceMethod yX0_mostOf : Cond)).keeps) = true ∨ ∃ ty, (Cond.instanceMethod yX0_mostOf) = .arrayClass ty) := ⟨zt_1 (List.mem_of_getElem? (i := 164) rfl), good_of_word rfl⟩
theorem zg_352 : (Cond.methodLink RX7 166 yX0_mostOf) ∈ lw_tbl ∧ ((((Cond.methodLink RX7 166 yX0_mostOf : Cond)).onTables && ((Cond.methodLink RX7 166 yX0_mostOf : Cond)).keeps) = true ∨ ∃ ty, (Cond.methodLink RX7 166 yX0_mostOf) = .arrayClass ty) := ⟨zt_1 (List.mem_of_getElem? (i := 163) rfl), good_of_word rfl⟩
theorem zg_353 : (Cond.code yX0_leastOf cX0_leastOf 1 (some .int)) ∈ lw_tbl ∧ ((((Cond.code yX0_leastOf cX0_leastOf 1 (some .int) : Cond)).onTables && ((Cond.code yX0_leastOf cX0_leastOf 1 (some .int) : Cond)).keeps) = true ∨ ∃ ty, (Cond.code yX0_leastOf cX0_leastOf 1 (some .int)) = .arrayClass ty) := ⟨zt_1 (List.mem_of_getElem? (i := 162) rfl), good_of_word rfl⟩
theorem zg_354 : (Cond.static yX0_leastOf) ∈ lw_tbl ∧ ((((Cond.static yX0_leastOf : Cond)).onTables && ((Cond.static yX0_leastOf : Cond)).keeps) = true ∨ ∃ ty, (Cond.static yX0_leastOf) = .arrayClass ty) := ⟨zt_1 (List.mem_of_getElem? (i := 161) rfl), good_of_word rfl⟩
theorem zg_355 : (Cond.methodLink RX7 163 yX0_leastOf) ∈ lw_tbl ∧ ((((Cond.methodLink RX7 163 yX0_leastOf : Cond)).onTables && ((Cond.methodLink RX7 163 yX0_leastOf : Cond)).keeps) = true ∨ ∃ ty, (Cond.methodLink RX7 163 yX0_leastOf) = .arrayClass ty) := ⟨zt_1 (List.mem_of_getElem? (i := 160) rfl), good_of_word rfl⟩
theorem gl_wsX7_ask_r1 : GoodIn lw_tbl wsX7_ask_r1 := (zl_cons zg_150 (zl_cons zg_18 (zl_cons zg_17 (zl_cons zg_21 (zl_cons zg_16 (zl_cons zg_355 (zl_cons zg_354 (zl_cons zg_146 (zl_cons zg_353 (zl_cons zg_352 (zl_cons zg_351 (zl_cons zg_350 (zl_cons zg_349 (zl_cons zg_348 (zl_cons zg_347 (zl_cons zg_15 (zl_cons zg_14 (zl_cons zg_13 (zl_cons zg_12 (zl_cons zg_11 (zl_cons zg_346 (zl_cons zg_345 (zl_cons zg_344 (zl_cons zg_343 zl_nil))))))))))))))))))))))))
theorem zg_356 : (Cond.code yX0_setNumber cX0_setNumber 3 none) ∈ lw_tbl ∧ ((((Cond.code yX0_setNumber cX0_setNumber 3 none : Cond)).onTables && ((Cond.code yX0_setNumber cX0_setNumber 3 none : Cond)).keeps) = true ∨ ∃ ty, (Cond.code yX0_setNumber cX0_setNumber 3 none) = .arrayClass ty) := ⟨zt_1 (List.mem_of_getElem? (i := 174) rfl), good_of_word rfl⟩
theorem zg_357 : (Cond.selects RX0 yX0_setNumber yX0_setNumber) ∈ lw_tbl ∧ ((((Cond.selects RX0 yX0_setNumber yX0_setNumber : Cond)).onTables && ((Cond.selects RX0 yX0_setNumber yX0_setNumber : Cond)).keeps) = true ∨ ∃ ty, (Cond.selects RX0 yX0_setNumber yX0_setNumber) = .arrayClass ty) := ⟨zt_1 (List.mem_of_getElem? (i := 173) rfl), good_of_word rfl⟩
theorem zg_358 : (Cond.instanceMethod yX0_setNumber) ∈ lw_tbl ∧ ((((Cond.instanceMethod yX0_setNumber : Cond)).onTables && ((Cond.instanceMethod yX0_setNumber : Cond)).keeps) = true ∨ ∃ ty, (Cond.instanceMethod yX0_setNumber) = .arrayClass ty) := ⟨zt_1 (List.mem_of_getElem? (i := 172) rfl), good_of_word rfl⟩
theorem zg_359 : (Cond.methodLink RX7 172 yX0_setNumber) ∈ lw_tbl ∧ ((((Cond.methodLink RX7 172 yX0_setNumber : Cond)).onTables && ((Cond.methodLink RX7 172 yX0_setNumber : Cond)).keeps) = true ∨ ∃ ty, (Cond.methodLink RX7 172 yX0_setNumber) = .arrayClass ty) := ⟨zt_1 (List.mem_of_getElem? (i := 171) rfl), good_of_word rfl⟩
theorem zg_360 : (Cond.fieldLink RX0 24 "TheLiningsInIt$Jacket" "costs" "[I") ∈ lw_tbl ∧ ((((Cond.fieldLink RX0 24 "TheLiningsInIt$Jacket" "costs" "[I" : Cond)).onTables && ((Cond.fieldLink RX0 24 "TheLiningsInIt$Jacket" "costs" "[I" : Cond)).keeps) = true ∨ ∃ ty, (Cond.fieldLink RX0 24 "TheLiningsInIt$Jacket" "costs" "[I") = .arrayClass ty) := ⟨zt_0 (List.mem_of_getElem? (i := 75) rfl), good_of_word rfl⟩
theorem zg_361 : (Cond.fieldLink RX0 63 "TheLiningsInIt$Zip" "at" "I") ∈ lw_tbl ∧ ((((Cond.fieldLink RX0 63 "TheLiningsInIt$Zip" "at" "I" : Cond)).onTables && ((Cond.fieldLink RX0 63 "TheLiningsInIt$Zip" "at" "I" : Cond)).keeps) = true ∨ ∃ ty, (Cond.fieldLink RX0 63 "TheLiningsInIt$Zip" "at" "I") = .arrayClass ty) := ⟨zt_0 (List.mem_of_getElem? (i := 50) rfl), good_of_word rfl⟩
theorem zg_362 : (Cond.fieldLink RX0 60 "TheLiningsInIt$Zip" "gap" "I") ∈ lw_tbl ∧ ((((Cond.fieldLink RX0 60 "TheLiningsInIt$Zip" "gap" "I" : Cond)).onTables && ((Cond.fieldLink RX0 60 "TheLiningsInIt$Zip" "gap" "I" : Cond)).keeps) = true ∨ ∃ ty, (Cond.fieldLink RX0 60 "TheLiningsInIt$Zip" "gap" "I") = .arrayClass ty) := ⟨zt_0 (List.mem_of_getElem? (i := 54) rfl), good_of_word rfl⟩
theorem zg_363 : (Cond.fieldLink RX0 41 "TheLiningsInIt$Jacket" "hurry" "I") ∈ lw_tbl ∧ ((((Cond.fieldLink RX0 41 "TheLiningsInIt$Jacket" "hurry" "I" : Cond)).onTables && ((Cond.fieldLink RX0 41 "TheLiningsInIt$Jacket" "hurry" "I" : Cond)).keeps) = true ∨ ∃ ty, (Cond.fieldLink RX0 41 "TheLiningsInIt$Jacket" "hurry" "I") = .arrayClass ty) := ⟨zt_0 (List.mem_of_getElem? (i := 87) rfl), good_of_word rfl⟩
theorem gl_wsX7_ask_r2 : GoodIn lw_tbl wsX7_ask_r2 := (zl_cons zg_266 (zl_cons zg_265 (zl_cons zg_363 (zl_cons zg_362 (zl_cons zg_361 (zl_cons zg_360 (zl_cons zg_359 (zl_cons zg_358 (zl_cons zg_357 (zl_cons zg_356 zl_nil))))))))))
theorem gl_wsX7_ask : GoodIn lw_tbl wsX7_ask := (zl_cons zg_342 (goodIn_app (goodIn_app (goodIn_app (goodIn_app gl_wsX7_ask_r1 gl_wsX7_ask_r2) gl_wsX70) gl_wsX00) gl_wsX60))
theorem zg_364 : (Cond.selects RX7 yX7_ask yX7_ask) ∈ lw_tbl ∧ ((((Cond.selects RX7 yX7_ask yX7_ask : Cond)).onTables && ((Cond.selects RX7 yX7_ask yX7_ask : Cond)).keeps) = true ∨ ∃ ty, (Cond.selects RX7 yX7_ask yX7_ask) = .arrayClass ty) := ⟨zt_1 (List.mem_of_getElem? (i := 158) rfl), good_of_word rfl⟩
theorem zg_365 : (Cond.instanceMethod yX7_ask) ∈ lw_tbl ∧ ((((Cond.instanceMethod yX7_ask : Cond)).onTables && ((Cond.instanceMethod yX7_ask : Cond)).keeps) = true ∨ ∃ ty, (Cond.instanceMethod yX7_ask) = .arrayClass ty) := ⟨zt_1 (List.mem_of_getElem? (i := 157) rfl), good_of_word rfl⟩
theorem zg_366 : (Cond.methodLink RL 70 yX7_ask) ∈ lw_tbl ∧ ((((Cond.methodLink RL 70 yX7_ask : Cond)).onTables && ((Cond.methodLink RL 70 yX7_ask : Cond)).keeps) = true ∨ ∃ ty, (Cond.methodLink RL 70 yX7_ask) = .arrayClass ty) := ⟨zt_1 (List.mem_of_getElem? (i := 156) rfl), good_of_word rfl⟩
theorem gq_70 : GoodIn lw_tbl (wsV RL 70 RX7 yX7_ask wsX7_ask) := goodIn_app (zl_cons zg_366 (zl_cons zg_365 (zl_cons zg_364 (zl_cons zg_21 zl_nil)))) gl_wsX7_ask
theorem zg_367 : (Cond.code yX8_ask cX8_ask 4 (some .int)) ∈ lw_tbl ∧ ((((Cond.code yX8_ask cX8_ask 4 (some .int) : Cond)).onTables && ((Cond.code yX8_ask cX8_ask 4 (some .int) : Cond)).keeps) = true ∨ ∃ ty, (Cond.code yX8_ask cX8_ask 4 (some .int)) = .arrayClass ty) := ⟨zt_4 (List.mem_of_getElem? (i := 133) rfl), good_of_word rfl⟩
theorem zg_368 : (Cond.fieldLink RX8 16 "TheLiningsInItModel" "gap" "I") ∈ lw_tbl ∧ ((((Cond.fieldLink RX8 16 "TheLiningsInItModel" "gap" "I" : Cond)).onTables && ((Cond.fieldLink RX8 16 "TheLiningsInItModel" "gap" "I" : Cond)).keeps) = true ∨ ∃ ty, (Cond.fieldLink RX8 16 "TheLiningsInItModel" "gap" "I") = .arrayClass ty) := ⟨zt_3 (List.mem_of_getElem? (i := 178) rfl), good_of_word rfl⟩
theorem zg_369 : (Cond.code yX8_told cX8_told 2 (some .int)) ∈ lw_tbl ∧ ((((Cond.code yX8_told cX8_told 2 (some .int) : Cond)).onTables && ((Cond.code yX8_told cX8_told 2 (some .int) : Cond)).keeps) = true ∨ ∃ ty, (Cond.code yX8_told cX8_told 2 (some .int)) = .arrayClass ty) := ⟨zt_4 (List.mem_of_getElem? (i := 145) rfl), good_of_word rfl⟩
theorem zg_370 : (Cond.selects RX8 yX8_told yX8_told) ∈ lw_tbl ∧ ((((Cond.selects RX8 yX8_told yX8_told : Cond)).onTables && ((Cond.selects RX8 yX8_told yX8_told : Cond)).keeps) = true ∨ ∃ ty, (Cond.selects RX8 yX8_told yX8_told) = .arrayClass ty) := ⟨zp_2 7 (by decide +kernel), good_of_word rfl⟩
theorem zg_371 : (Cond.instanceMethod yX8_told) ∈ lw_tbl ∧ ((((Cond.instanceMethod yX8_told : Cond)).onTables && ((Cond.instanceMethod yX8_told : Cond)).keeps) = true ∨ ∃ ty, (Cond.instanceMethod yX8_told) = .arrayClass ty) := ⟨zt_4 (List.mem_of_getElem? (i := 144) rfl), good_of_word rfl⟩
theorem zg_372 : (Cond.methodLink RX8 142 yX8_told) ∈ lw_tbl ∧ ((((Cond.methodLink RX8 142 yX8_told : Cond)).onTables && ((Cond.methodLink RX8 142 yX8_told : Cond)).keeps) = true ∨ ∃ ty, (Cond.methodLink RX8 142 yX8_told) = .arrayClass ty) := ⟨zt_4 (List.mem_of_getElem? (i := 142) rfl), good_of_word rfl⟩
theorem zg_373 : (Cond.code yX8_most cX8_most 2 (some .int)) ∈ lw_tbl ∧ ((((Cond.code yX8_most cX8_most 2 (some .int) : Cond)).onTables && ((Cond.code yX8_most cX8_most 2 (some .int) : Cond)).keeps) = true ∨ ∃ ty, (Cond.code yX8_most cX8_most 2 (some .int)) = .arrayClass ty) := ⟨zt_4 (List.mem_of_getElem? (i := 141) rfl), good_of_word rfl⟩
theorem zg_374 : (Cond.selects RX8 yX8_most yX8_most) ∈ lw_tbl ∧ ((((Cond.selects RX8 yX8_most yX8_most : Cond)).onTables && ((Cond.selects RX8 yX8_most yX8_most : Cond)).keeps) = true ∨ ∃ ty, (Cond.selects RX8 yX8_most yX8_most) = .arrayClass ty) := ⟨zp_2 6 (by decide +kernel), good_of_word rfl⟩
theorem zg_375 : (Cond.instanceMethod yX8_most) ∈ lw_tbl ∧ ((((Cond.instanceMethod yX8_most : Cond)).onTables && ((Cond.instanceMethod yX8_most : Cond)).keeps) = true ∨ ∃ ty, (Cond.instanceMethod yX8_most) = .arrayClass ty) := ⟨zt_4 (List.mem_of_getElem? (i := 140) rfl), good_of_word rfl⟩
theorem zg_376 : (Cond.methodLink RX8 132 yX8_most) ∈ lw_tbl ∧ ((((Cond.methodLink RX8 132 yX8_most : Cond)).onTables && ((Cond.methodLink RX8 132 yX8_most : Cond)).keeps) = true ∨ ∃ ty, (Cond.methodLink RX8 132 yX8_most) = .arrayClass ty) := ⟨zt_4 (List.mem_of_getElem? (i := 138) rfl), good_of_word rfl⟩
theorem zg_377 : (Cond.code yX8_isAsked cX8_isAsked 3 (some .boolean)) ∈ lw_tbl ∧ ((((Cond.code yX8_isAsked cX8_isAsked 3 (some .boolean) : Cond)).onTables && ((Cond.code yX8_isAsked cX8_isAsked 3 (some .boolean) : Cond)).keeps) = true ∨ ∃ ty, (Cond.code yX8_isAsked cX8_isAsked 3 (some .boolean)) = .arrayClass ty) := ⟨zt_4 (List.mem_of_getElem? (i := 137) rfl), good_of_word rfl⟩
theorem zg_378 : (Cond.selects RX8 yX8_isAsked yX8_isAsked) ∈ lw_tbl ∧ ((((Cond.selects RX8 yX8_isAsked yX8_isAsked : Cond)).onTables && ((Cond.selects RX8 yX8_isAsked yX8_isAsked : Cond)).keeps) = true ∨ ∃ ty, (Cond.selects RX8 yX8_isAsked yX8_isAsked) = .arrayClass ty) := ⟨zp_2 5 (by decide +kernel), good_of_word rfl⟩
theorem zg_379 : (Cond.instanceMethod yX8_isAsked) ∈ lw_tbl ∧ ((((Cond.instanceMethod yX8_isAsked : Cond)).onTables && ((Cond.instanceMethod yX8_isAsked : Cond)).keeps) = true ∨ ∃ ty, (Cond.instanceMethod yX8_isAsked) = .arrayClass ty) := ⟨zt_4 (List.mem_of_getElem? (i := 136) rfl), good_of_word rfl⟩
theorem zg_380 : (Cond.methodLink RX8 138 yX8_isAsked) ∈ lw_tbl ∧ ((((Cond.methodLink RX8 138 yX8_isAsked : Cond)).onTables && ((Cond.methodLink RX8 138 yX8_isAsked : Cond)).keeps) = true ∨ ∃ ty, (Cond.methodLink RX8 138 yX8_isAsked) = .arrayClass ty) := ⟨zt_4 (List.mem_of_getElem? (i := 134) rfl), good_of_word rfl⟩
theorem gl_wsX8_ask_r1 : GoodIn lw_tbl wsX8_ask_r1 := (zl_cons zg_380 (zl_cons zg_379 (zl_cons zg_378 (zl_cons zg_49 (zl_cons zg_377 (zl_cons zg_376 (zl_cons zg_375 (zl_cons zg_374 (zl_cons zg_373 (zl_cons zg_312 (zl_cons zg_47 (zl_cons zg_46 (zl_cons zg_45 (zl_cons zg_44 (zl_cons zg_43 (zl_cons zg_372 (zl_cons zg_371 (zl_cons zg_370 (zl_cons zg_369 (zl_cons zg_280 (zl_cons zg_279 (zl_cons zg_217 (zl_cons zg_368 (zl_cons zg_307 zl_nil))))))))))))))))))))))))
theorem zg_381 : (Cond.code yX8_tells cX8_tells 3 none) ∈ lw_tbl ∧ ((((Cond.code yX8_tells cX8_tells 3 none : Cond)).onTables && ((Cond.code yX8_tells cX8_tells 3 none : Cond)).keeps) = true ∨ ∃ ty, (Cond.code yX8_tells cX8_tells 3 none) = .arrayClass ty) := ⟨zt_4 (List.mem_of_getElem? (i := 149) rfl), good_of_word rfl⟩
theorem zg_382 : (Cond.selects RX8 yX8_tells yX8_tells) ∈ lw_tbl ∧ ((((Cond.selects RX8 yX8_tells yX8_tells : Cond)).onTables && ((Cond.selects RX8 yX8_tells yX8_tells : Cond)).keeps) = true ∨ ∃ ty, (Cond.selects RX8 yX8_tells yX8_tells) = .arrayClass ty) := ⟨zp_2 8 (by decide +kernel), good_of_word rfl⟩
theorem zg_383 : (Cond.instanceMethod yX8_tells) ∈ lw_tbl ∧ ((((Cond.instanceMethod yX8_tells : Cond)).onTables && ((Cond.instanceMethod yX8_tells : Cond)).keeps) = true ∨ ∃ ty, (Cond.instanceMethod yX8_tells) = .arrayClass ty) := ⟨zt_4 (List.mem_of_getElem? (i := 148) rfl), good_of_word rfl⟩
theorem zg_384 : (Cond.methodLink RX8 145 yX8_tells) ∈ lw_tbl ∧ ((((Cond.methodLink RX8 145 yX8_tells : Cond)).onTables && ((Cond.methodLink RX8 145 yX8_tells : Cond)).keeps) = true ∨ ∃ ty, (Cond.methodLink RX8 145 yX8_tells) = .arrayClass ty) := ⟨zt_4 (List.mem_of_getElem? (i := 146) rfl), good_of_word rfl⟩
theorem zg_385 : (Cond.fieldLink RX8 44 "TheLiningsInItModel" "cost" "[I") ∈ lw_tbl ∧ ((((Cond.fieldLink RX8 44 "TheLiningsInItModel" "cost" "[I" : Cond)).onTables && ((Cond.fieldLink RX8 44 "TheLiningsInItModel" "cost" "[I" : Cond)).keeps) = true ∨ ∃ ty, (Cond.fieldLink RX8 44 "TheLiningsInItModel" "cost" "[I") = .arrayClass ty) := ⟨zt_3 (List.mem_of_getElem? (i := 187) rfl), good_of_word rfl⟩
theorem gl_wsX8_ask_r2 : GoodIn lw_tbl wsX8_ask_r2 := (zl_cons zg_385 (zl_cons zg_384 (zl_cons zg_383 (zl_cons zg_382 (zl_cons zg_381 zl_nil)))))
theorem gl_wsX8_ask : GoodIn lw_tbl wsX8_ask := (zl_cons zg_367 (goodIn_app (goodIn_app gl_wsX8_ask_r1 gl_wsX8_ask_r2) gl_wsX80))
theorem zg_386 : (Cond.selects RX8 yX8_ask yX8_ask) ∈ lw_tbl ∧ ((((Cond.selects RX8 yX8_ask yX8_ask : Cond)).onTables && ((Cond.selects RX8 yX8_ask yX8_ask : Cond)).keeps) = true ∨ ∃ ty, (Cond.selects RX8 yX8_ask yX8_ask) = .arrayClass ty) := ⟨zt_4 (List.mem_of_getElem? (i := 132) rfl), good_of_word rfl⟩
theorem zg_387 : (Cond.instanceMethod yX8_ask) ∈ lw_tbl ∧ ((((Cond.instanceMethod yX8_ask : Cond)).onTables && ((Cond.instanceMethod yX8_ask : Cond)).keeps) = true ∨ ∃ ty, (Cond.instanceMethod yX8_ask) = .arrayClass ty) := ⟨zt_4 (List.mem_of_getElem? (i := 131) rfl), good_of_word rfl⟩
theorem zg_388 : (Cond.methodLink RL 73 yX8_ask) ∈ lw_tbl ∧ ((((Cond.methodLink RL 73 yX8_ask : Cond)).onTables && ((Cond.methodLink RL 73 yX8_ask : Cond)).keeps) = true ∨ ∃ ty, (Cond.methodLink RL 73 yX8_ask) = .arrayClass ty) := ⟨zt_4 (List.mem_of_getElem? (i := 130) rfl), good_of_word rfl⟩
theorem gq_73 : GoodIn lw_tbl (wsV RL 73 RX8 yX8_ask wsX8_ask) := goodIn_app (zl_cons zg_388 (zl_cons zg_387 (zl_cons zg_386 (zl_cons zg_49 zl_nil)))) gl_wsX8_ask
theorem zg_389 : (Cond.code yX7_jacket cX7_jacket 4 (some .int)) ∈ lw_tbl ∧ ((((Cond.code yX7_jacket cX7_jacket 4 (some .int) : Cond)).onTables && ((Cond.code yX7_jacket cX7_jacket 4 (some .int) : Cond)).keeps) = true ∨ ∃ ty, (Cond.code yX7_jacket cX7_jacket 4 (some .int)) = .arrayClass ty) := ⟨zt_1 (List.mem_of_getElem? (i := 178) rfl), good_of_word rfl⟩
theorem zg_390 : (Cond.fieldLink RX7 183 "TheLiningsInIt$Reader" "count" "I") ∈ lw_tbl ∧ ((((Cond.fieldLink RX7 183 "TheLiningsInIt$Reader" "count" "I" : Cond)).onTables && ((Cond.fieldLink RX7 183 "TheLiningsInIt$Reader" "count" "I" : Cond)).keeps) = true ∨ ∃ ty, (Cond.fieldLink RX7 183 "TheLiningsInIt$Reader" "count" "I") = .arrayClass ty) := ⟨zt_0 (List.mem_of_getElem? (i := 149) rfl), good_of_word rfl⟩
theorem zg_391 : (Cond.fieldLink RX7 54 "TheLiningsInIt" "latestFault" "I") ∈ lw_tbl ∧ ((((Cond.fieldLink RX7 54 "TheLiningsInIt" "latestFault" "I" : Cond)).onTables && ((Cond.fieldLink RX7 54 "TheLiningsInIt" "latestFault" "I" : Cond)).keeps) = true ∨ ∃ ty, (Cond.fieldLink RX7 54 "TheLiningsInIt" "latestFault" "I") = .arrayClass ty) := ⟨zt_0 (List.mem_of_getElem? (i := 221) rfl), good_of_word rfl⟩
theorem zg_392 : (Cond.fieldLink RX7 35 "TheLiningsInIt" "reader" "LTheLiningsInIt$Reader;") ∈ lw_tbl ∧ ((((Cond.fieldLink RX7 35 "TheLiningsInIt" "reader" "LTheLiningsInIt$Reader;" : Cond)).onTables && ((Cond.fieldLink RX7 35 "TheLiningsInIt" "reader" "LTheLiningsInIt$Reader;" : Cond)).keeps) = true ∨ ∃ ty, (Cond.fieldLink RX7 35 "TheLiningsInIt" "reader" "LTheLiningsInIt$Reader;") = .arrayClass ty) := ⟨zt_0 (List.mem_of_getElem? (i := 217) rfl), good_of_word rfl⟩
theorem gl_wsX7_jacket_r1 : GoodIn lw_tbl wsX7_jacket_r1 := (zl_cons zg_392 (zl_cons zg_150 (zl_cons zg_295 (zl_cons zg_294 (zl_cons zg_242 (zl_cons zg_391 (zl_cons zg_390 (zl_cons zg_24 (zl_cons zg_23 (zl_cons zg_22 (zl_cons zg_21 (zl_cons zg_20 (zl_cons zg_19 (zl_cons zg_18 (zl_cons zg_17 (zl_cons zg_16 (zl_cons zg_15 (zl_cons zg_14 (zl_cons zg_13 (zl_cons zg_12 (zl_cons zg_11 (zl_cons zg_107 (zl_cons zg_106 (zl_cons zg_105 zl_nil))))))))))))))))))))))))
theorem zg_393 : (Cond.fieldLink RX3 15 "TheLiningsInIt$Reader" "letters" "[I") ∈ lw_tbl ∧ ((((Cond.fieldLink RX3 15 "TheLiningsInIt$Reader" "letters" "[I" : Cond)).onTables && ((Cond.fieldLink RX3 15 "TheLiningsInIt$Reader" "letters" "[I" : Cond)).keeps) = true ∨ ∃ ty, (Cond.fieldLink RX3 15 "TheLiningsInIt$Reader" "letters" "[I") = .arrayClass ty) := ⟨zt_0 (List.mem_of_getElem? (i := 146) rfl), good_of_word rfl⟩
theorem zg_394 : (Cond.methodLink RX3 52 Lib.Math.min.name) ∈ lw_tbl ∧ ((((Cond.methodLink RX3 52 Lib.Math.min.name : Cond)).onTables && ((Cond.methodLink RX3 52 Lib.Math.min.name : Cond)).keeps) = true ∨ ∃ ty, (Cond.methodLink RX3 52 Lib.Math.min.name) = .arrayClass ty) := ⟨zt_1 (List.mem_of_getElem? (i := 187) rfl), good_of_word rfl⟩
theorem zg_395 : (Cond.fieldLink RX3 49 "TheLiningsInIt$Shelf" "size" "I") ∈ lw_tbl ∧ ((((Cond.fieldLink RX3 49 "TheLiningsInIt$Shelf" "size" "I" : Cond)).onTables && ((Cond.fieldLink RX3 49 "TheLiningsInIt$Shelf" "size" "I" : Cond)).keeps) = true ∨ ∃ ty, (Cond.fieldLink RX3 49 "TheLiningsInIt$Shelf" "size" "I") = .arrayClass ty) := ⟨zt_0 (List.mem_of_getElem? (i := 204) rfl), good_of_word rfl⟩
theorem zg_396 : (Cond.code yX3_takeLetters cX3_takeLetters 3 none) ∈ lw_tbl ∧ ((((Cond.code yX3_takeLetters cX3_takeLetters 3 none : Cond)).onTables && ((Cond.code yX3_takeLetters cX3_takeLetters 3 none : Cond)).keeps) = true ∨ ∃ ty, (Cond.code yX3_takeLetters cX3_takeLetters 3 none) = .arrayClass ty) := ⟨zt_1 (List.mem_of_getElem? (i := 186) rfl), good_of_word rfl⟩
theorem zg_397 : (Cond.selects RX3 yX3_takeLetters yX3_takeLetters) ∈ lw_tbl ∧ ((((Cond.selects RX3 yX3_takeLetters yX3_takeLetters : Cond)).onTables && ((Cond.selects RX3 yX3_takeLetters yX3_takeLetters : Cond)).keeps) = true ∨ ∃ ty, (Cond.selects RX3 yX3_takeLetters yX3_takeLetters) = .arrayClass ty) := ⟨zt_1 (List.mem_of_getElem? (i := 185) rfl), good_of_word rfl⟩
theorem zg_398 : (Cond.instanceMethod yX3_takeLetters) ∈ lw_tbl ∧ ((((Cond.instanceMethod yX3_takeLetters : Cond)).onTables && ((Cond.instanceMethod yX3_takeLetters : Cond)).keeps) = true ∨ ∃ ty, (Cond.instanceMethod yX3_takeLetters) = .arrayClass ty) := ⟨zt_1 (List.mem_of_getElem? (i := 184) rfl), good_of_word rfl⟩
theorem zg_399 : (Cond.methodLink RX3 37 yX3_takeLetters) ∈ lw_tbl ∧ ((((Cond.methodLink RX3 37 yX3_takeLetters : Cond)).onTables && ((Cond.methodLink RX3 37 yX3_takeLetters : Cond)).keeps) = true ∨ ∃ ty, (Cond.methodLink RX3 37 yX3_takeLetters) = .arrayClass ty) := ⟨zt_1 (List.mem_of_getElem? (i := 183) rfl), good_of_word rfl⟩
theorem zg_400 : (Cond.fieldLink RX3 18 "TheLiningsInIt$Reader" "size" "I") ∈ lw_tbl ∧ ((((Cond.fieldLink RX3 18 "TheLiningsInIt$Reader" "size" "I" : Cond)).onTables && ((Cond.fieldLink RX3 18 "TheLiningsInIt$Reader" "size" "I" : Cond)).keeps) = true ∨ ∃ ty, (Cond.fieldLink RX3 18 "TheLiningsInIt$Reader" "size" "I") = .arrayClass ty) := ⟨zt_0 (List.mem_of_getElem? (i := 147) rfl), good_of_word rfl⟩
theorem zg_401 : (Cond.fieldLink RX3 22 "TheLiningsInIt$Reader" "count" "I") ∈ lw_tbl ∧ ((((Cond.fieldLink RX3 22 "TheLiningsInIt$Reader" "count" "I" : Cond)).onTables && ((Cond.fieldLink RX3 22 "TheLiningsInIt$Reader" "count" "I" : Cond)).keeps) = true ∨ ∃ ty, (Cond.fieldLink RX3 22 "TheLiningsInIt$Reader" "count" "I") = .arrayClass ty) := ⟨zt_0 (List.mem_of_getElem? (i := 148) rfl), good_of_word rfl⟩
theorem zg_402 : (Cond.fieldLink RX3 28 "TheLiningsInIt$Reader" "fault" "I") ∈ lw_tbl ∧ ((((Cond.fieldLink RX3 28 "TheLiningsInIt$Reader" "fault" "I" : Cond)).onTables && ((Cond.fieldLink RX3 28 "TheLiningsInIt$Reader" "fault" "I" : Cond)).keeps) = true ∨ ∃ ty, (Cond.fieldLink RX3 28 "TheLiningsInIt$Reader" "fault" "I") = .arrayClass ty) := ⟨zt_0 (List.mem_of_getElem? (i := 151) rfl), good_of_word rfl⟩
theorem zg_403 : (Cond.fieldLink RX3 25 "TheLiningsInIt$Reader" "place" "I") ∈ lw_tbl ∧ ((((Cond.fieldLink RX3 25 "TheLiningsInIt$Reader" "place" "I" : Cond)).onTables && ((Cond.fieldLink RX3 25 "TheLiningsInIt$Reader" "place" "I" : Cond)).keeps) = true ∨ ∃ ty, (Cond.fieldLink RX3 25 "TheLiningsInIt$Reader" "place" "I") = .arrayClass ty) := ⟨zt_0 (List.mem_of_getElem? (i := 150) rfl), good_of_word rfl⟩
theorem zg_404 : (Cond.fieldLink RX3 34 "TheLiningsInIt$Reader" "pulls" "I") ∈ lw_tbl ∧ ((((Cond.fieldLink RX3 34 "TheLiningsInIt$Reader" "pulls" "I" : Cond)).onTables && ((Cond.fieldLink RX3 34 "TheLiningsInIt$Reader" "pulls" "I" : Cond)).keeps) = true ∨ ∃ ty, (Cond.fieldLink RX3 34 "TheLiningsInIt$Reader" "pulls" "I") = .arrayClass ty) := ⟨zt_0 (List.mem_of_getElem? (i := 153) rfl), good_of_word rfl⟩
theorem zg_405 : (Cond.fieldLink RX3 31 "TheLiningsInIt$Reader" "teeth" "I") ∈ lw_tbl ∧ ((((Cond.fieldLink RX3 31 "TheLiningsInIt$Reader" "teeth" "I" : Cond)).onTables && ((Cond.fieldLink RX3 31 "TheLiningsInIt$Reader" "teeth" "I" : Cond)).keeps) = true ∨ ∃ ty, (Cond.fieldLink RX3 31 "TheLiningsInIt$Reader" "teeth" "I") = .arrayClass ty) := ⟨zt_0 (List.mem_of_getElem? (i := 152) rfl), good_of_word rfl⟩
theorem zg_406 : (Cond.code yX3_read cX3_read 5 (some .int)) ∈ lw_tbl ∧ ((((Cond.code yX3_read cX3_read 5 (some .int) : Cond)).onTables && ((Cond.code yX3_read cX3_read 5 (some .int) : Cond)).keeps) = true ∨ ∃ ty, (Cond.code yX3_read cX3_read 5 (some .int)) = .arrayClass ty) := ⟨zt_1 (List.mem_of_getElem? (i := 182) rfl), good_of_word rfl⟩
theorem zg_407 : (Cond.initialized RX3) ∈ lw_tbl ∧ ((((Cond.initialized RX3 : Cond)).onTables && ((Cond.initialized RX3 : Cond)).keeps) = true ∨ ∃ ty, (Cond.initialized RX3) = .arrayClass ty) := ⟨zt_0 (List.mem_of_getElem? (i := 5) rfl), good_of_word rfl⟩
theorem zg_408 : (Cond.selects RX3 yX3_read yX3_read) ∈ lw_tbl ∧ ((((Cond.selects RX3 yX3_read yX3_read : Cond)).onTables && ((Cond.selects RX3 yX3_read yX3_read : Cond)).keeps) = true ∨ ∃ ty, (Cond.selects RX3 yX3_read yX3_read) = .arrayClass ty) := ⟨zt_1 (List.mem_of_getElem? (i := 181) rfl), good_of_word rfl⟩
theorem zg_409 : (Cond.instanceMethod yX3_read) ∈ lw_tbl ∧ ((((Cond.instanceMethod yX3_read : Cond)).onTables && ((Cond.instanceMethod yX3_read : Cond)).keeps) = true ∨ ∃ ty, (Cond.instanceMethod yX3_read) = .arrayClass ty) := ⟨zt_1 (List.mem_of_getElem? (i := 180) rfl), good_of_word rfl⟩
theorem zg_410 : (Cond.methodLink RX7 175 yX3_read) ∈ lw_tbl ∧ ((((Cond.methodLink RX7 175 yX3_read : Cond)).onTables && ((Cond.methodLink RX7 175 yX3_read : Cond)).keeps) = true ∨ ∃ ty, (Cond.methodLink RX7 175 yX3_read) = .arrayClass ty) := ⟨zt_1 (List.mem_of_getElem? (i := 179) rfl), good_of_word rfl⟩
theorem gl_wsX7_jacket_r2 : GoodIn lw_tbl wsX7_jacket_r2 := (zl_cons zg_7 (zl_cons zg_104 (zl_cons zg_5 (zl_cons zg_410 (zl_cons zg_409 (zl_cons zg_408 (zl_cons zg_407 (zl_cons zg_406 (zl_cons zg_405 (zl_cons zg_404 (zl_cons zg_403 (zl_cons zg_402 (zl_cons zg_401 (zl_cons zg_400 (zl_cons zg_399 (zl_cons zg_398 (zl_cons zg_397 (zl_cons zg_396 (zl_cons zg_395 (zl_cons zg_394 (zl_cons zg_190 (zl_cons zg_189 (zl_cons zg_188 (zl_cons zg_393 zl_nil))))))))))))))))))))))))
theorem zg_411 : (Cond.static yX3_wordAt) ∈ lw_tbl ∧ ((((Cond.static yX3_wordAt : Cond)).onTables && ((Cond.static yX3_wordAt : Cond)).keeps) = true ∨ ∃ ty, (Cond.static yX3_wordAt) = .arrayClass ty) := ⟨zt_1 (List.mem_of_getElem? (i := 202) rfl), good_of_word rfl⟩
theorem zg_412 : (Cond.methodLink RX3 82 yX3_wordAt) ∈ lw_tbl ∧ ((((Cond.methodLink RX3 82 yX3_wordAt : Cond)).onTables && ((Cond.methodLink RX3 82 yX3_wordAt : Cond)).keeps) = true ∨ ∃ ty, (Cond.methodLink RX3 82 yX3_wordAt) = .arrayClass ty) := ⟨zt_1 (List.mem_of_getElem? (i := 201) rfl), good_of_word rfl⟩
theorem zg_413 : (Cond.methodLink RX3 98 Lib.Math.max.name) ∈ lw_tbl ∧ ((((Cond.methodLink RX3 98 Lib.Math.max.name : Cond)).onTables && ((Cond.methodLink RX3 98 Lib.Math.max.name : Cond)).keeps) = true ∨ ∃ ty, (Cond.methodLink RX3 98 Lib.Math.max.name) = .arrayClass ty) := ⟨zt_2 (List.mem_of_getElem? (i := 34) rfl), good_of_word rfl⟩
theorem zg_414 : (Cond.code yX3_readWord cX3_readWord 5 (some .int)) ∈ lw_tbl ∧ ((((Cond.code yX3_readWord cX3_readWord 5 (some .int) : Cond)).onTables && ((Cond.code yX3_readWord cX3_readWord 5 (some .int) : Cond)).keeps) = true ∨ ∃ ty, (Cond.code yX3_readWord cX3_readWord 5 (some .int)) = .arrayClass ty) := ⟨zt_1 (List.mem_of_getElem? (i := 200) rfl), good_of_word rfl⟩
theorem zg_415 : (Cond.selects RX3 yX3_readWord yX3_readWord) ∈ lw_tbl ∧ ((((Cond.selects RX3 yX3_readWord yX3_readWord : Cond)).onTables && ((Cond.selects RX3 yX3_readWord yX3_readWord : Cond)).keeps) = true ∨ ∃ ty, (Cond.selects RX3 yX3_readWord yX3_readWord) = .arrayClass ty) := ⟨zt_1 (List.mem_of_getElem? (i := 199) rfl), good_of_word rfl⟩
theorem zg_416 : (Cond.instanceMethod yX3_readWord) ∈ lw_tbl ∧ ((((Cond.instanceMethod yX3_readWord : Cond)).onTables && ((Cond.instanceMethod yX3_readWord : Cond)).keeps) = true ∨ ∃ ty, (Cond.instanceMethod yX3_readWord) = .arrayClass ty) := ⟨zt_1 (List.mem_of_getElem? (i := 198) rfl), good_of_word rfl⟩
theorem zg_417 : (Cond.methodLink RX3 62 yX3_readWord) ∈ lw_tbl ∧ ((((Cond.methodLink RX3 62 yX3_readWord : Cond)).onTables && ((Cond.methodLink RX3 62 yX3_readWord : Cond)).keeps) = true ∨ ∃ ty, (Cond.methodLink RX3 62 yX3_readWord) = .arrayClass ty) := ⟨zt_1 (List.mem_of_getElem? (i := 197) rfl), good_of_word rfl⟩
theorem zg_418 : (Cond.fieldLink RX3 11 "TheLiningsInIt$Reader" "items" "[I") ∈ lw_tbl ∧ ((((Cond.fieldLink RX3 11 "TheLiningsInIt$Reader" "items" "[I" : Cond)).onTables && ((Cond.fieldLink RX3 11 "TheLiningsInIt$Reader" "items" "[I" : Cond)).keeps) = true ∨ ∃ ty, (Cond.fieldLink RX3 11 "TheLiningsInIt$Reader" "items" "[I") = .arrayClass ty) := ⟨zt_0 (List.mem_of_getElem? (i := 145) rfl), good_of_word rfl⟩
theorem zg_419 : (Cond.code yX3_readItem cX3_readItem 4 none) ∈ lw_tbl ∧ ((((Cond.code yX3_readItem cX3_readItem 4 none : Cond)).onTables && ((Cond.code yX3_readItem cX3_readItem 4 none : Cond)).keeps) = true ∨ ∃ ty, (Cond.code yX3_readItem cX3_readItem 4 none) = .arrayClass ty) := ⟨zt_1 (List.mem_of_getElem? (i := 196) rfl), good_of_word rfl⟩
theorem zg_420 : (Cond.selects RX3 yX3_readItem yX3_readItem) ∈ lw_tbl ∧ ((((Cond.selects RX3 yX3_readItem yX3_readItem : Cond)).onTables && ((Cond.selects RX3 yX3_readItem yX3_readItem : Cond)).keeps) = true ∨ ∃ ty, (Cond.selects RX3 yX3_readItem yX3_readItem) = .arrayClass ty) := ⟨zt_1 (List.mem_of_getElem? (i := 195) rfl), good_of_word rfl⟩
theorem zg_421 : (Cond.instanceMethod yX3_readItem) ∈ lw_tbl ∧ ((((Cond.instanceMethod yX3_readItem : Cond)).onTables && ((Cond.instanceMethod yX3_readItem : Cond)).keeps) = true ∨ ∃ ty, (Cond.instanceMethod yX3_readItem) = .arrayClass ty) := ⟨zt_1 (List.mem_of_getElem? (i := 194) rfl), good_of_word rfl⟩
theorem zg_422 : (Cond.methodLink RX3 41 yX3_readItem) ∈ lw_tbl ∧ ((((Cond.methodLink RX3 41 yX3_readItem : Cond)).onTables && ((Cond.methodLink RX3 41 yX3_readItem : Cond)).keeps) = true ∨ ∃ ty, (Cond.methodLink RX3 41 yX3_readItem) = .arrayClass ty) := ⟨zt_1 (List.mem_of_getElem? (i := 193) rfl), good_of_word rfl⟩
theorem zg_423 : (Cond.methodLink RX4 36 yX4_hasSpan) ∈ lw_tbl ∧ ((((Cond.methodLink RX4 36 yX4_hasSpan : Cond)).onTables && ((Cond.methodLink RX4 36 yX4_hasSpan : Cond)).keeps) = true ∨ ∃ ty, (Cond.methodLink RX4 36 yX4_hasSpan) = .arrayClass ty) := ⟨zt_1 (List.mem_of_getElem? (i := 192) rfl), good_of_word rfl⟩
theorem zg_424 : (Cond.code yX4_tells cX4_tells 2 (some .int)) ∈ lw_tbl ∧ ((((Cond.code yX4_tells cX4_tells 2 (some .int) : Cond)).onTables && ((Cond.code yX4_tells cX4_tells 2 (some .int) : Cond)).keeps) = true ∨ ∃ ty, (Cond.code yX4_tells cX4_tells 2 (some .int)) = .arrayClass ty) := ⟨zt_1 (List.mem_of_getElem? (i := 191) rfl), good_of_word rfl⟩
theorem zg_425 : (Cond.selects RX4 yX4_tells yX4_tells) ∈ lw_tbl ∧ ((((Cond.selects RX4 yX4_tells yX4_tells : Cond)).onTables && ((Cond.selects RX4 yX4_tells yX4_tells : Cond)).keeps) = true ∨ ∃ ty, (Cond.selects RX4 yX4_tells yX4_tells) = .arrayClass ty) := ⟨zt_1 (List.mem_of_getElem? (i := 190) rfl), good_of_word rfl⟩
theorem zg_426 : (Cond.instanceMethod yX4_tells) ∈ lw_tbl ∧ ((((Cond.instanceMethod yX4_tells : Cond)).onTables && ((Cond.instanceMethod yX4_tells : Cond)).keeps) = true ∨ ∃ ty, (Cond.instanceMethod yX4_tells) = .arrayClass ty) := ⟨zt_1 (List.mem_of_getElem? (i := 189) rfl), good_of_word rfl⟩
theorem zg_427 : (Cond.methodLink RX3 58 yX4_tells) ∈ lw_tbl ∧ ((((Cond.methodLink RX3 58 yX4_tells : Cond)).onTables && ((Cond.methodLink RX3 58 yX4_tells : Cond)).keeps) = true ∨ ∃ ty, (Cond.methodLink RX3 58 yX4_tells) = .arrayClass ty) := ⟨zt_1 (List.mem_of_getElem? (i := 188) rfl), good_of_word rfl⟩
theorem gl_wsX7_jacket_r3 : GoodIn lw_tbl wsX7_jacket_r3 := (zl_cons zg_427 (zl_cons zg_426 (zl_cons zg_425 (zl_cons zg_424 (zl_cons zg_3 (zl_cons zg_423 (zl_cons zg_102 (zl_cons zg_101 (zl_cons zg_100 (zl_cons zg_4 (zl_cons zg_422 (zl_cons zg_421 (zl_cons zg_420 (zl_cons zg_419 (zl_cons zg_418 (zl_cons zg_417 (zl_cons zg_416 (zl_cons zg_415 (zl_cons zg_414 (zl_cons zg_413 (zl_cons zg_186 (zl_cons zg_185 (zl_cons zg_412 (zl_cons zg_411 zl_nil))))))))))))))))))))))))
theorem zg_428 : (Cond.selects RJ0 yJ0_isLatin1_aae02 yJ0_isLatin1_aae02) ∈ lw_tbl ∧ ((((Cond.selects RJ0 yJ0_isLatin1_aae02 yJ0_isLatin1_aae02 : Cond)).onTables && ((Cond.selects RJ0 yJ0_isLatin1_aae02 yJ0_isLatin1_aae02 : Cond)).keeps) = true ∨ ∃ ty, (Cond.selects RJ0 yJ0_isLatin1_aae02 yJ0_isLatin1_aae02) = .arrayClass ty) := ⟨zt_1 (List.mem_of_getElem? (i := 234) rfl), good_of_word rfl⟩
theorem zg_429 : (Cond.instanceMethod yJ0_isLatin1_aae02) ∈ lw_tbl ∧ ((((Cond.instanceMethod yJ0_isLatin1_aae02 : Cond)).onTables && ((Cond.instanceMethod yJ0_isLatin1_aae02 : Cond)).keeps) = true ∨ ∃ ty, (Cond.instanceMethod yJ0_isLatin1_aae02) = .arrayClass ty) := ⟨zt_1 (List.mem_of_getElem? (i := 233) rfl), good_of_word rfl⟩
theorem zg_430 : (Cond.methodLink RJ0 492 yJ0_isLatin1_aae02) ∈ lw_tbl ∧ ((((Cond.methodLink RJ0 492 yJ0_isLatin1_aae02 : Cond)).onTables && ((Cond.methodLink RJ0 492 yJ0_isLatin1_aae02 : Cond)).keeps) = true ∨ ∃ ty, (Cond.methodLink RJ0 492 yJ0_isLatin1_aae02) = .arrayClass ty) := ⟨zt_1 (List.mem_of_getElem? (i := 232) rfl), good_of_word rfl⟩
theorem zg_431 : (Cond.code yJ0_charAt_5068e cJ0_charAt_5068e 2 (some .char)) ∈ lw_tbl ∧ ((((Cond.code yJ0_charAt_5068e cJ0_charAt_5068e 2 (some .char) : Cond)).onTables && ((Cond.code yJ0_charAt_5068e cJ0_charAt_5068e 2 (some .char) : Cond)).keeps) = true ∨ ∃ ty, (Cond.code yJ0_charAt_5068e cJ0_charAt_5068e 2 (some .char)) = .arrayClass ty) := ⟨zt_1 (List.mem_of_getElem? (i := 231) rfl), good_of_word rfl⟩
theorem zg_432 : (Cond.selects RJ0 yJ0_charAt_5068e yJ0_charAt_5068e) ∈ lw_tbl ∧ ((((Cond.selects RJ0 yJ0_charAt_5068e yJ0_charAt_5068e : Cond)).onTables && ((Cond.selects RJ0 yJ0_charAt_5068e yJ0_charAt_5068e : Cond)).keeps) = true ∨ ∃ ty, (Cond.selects RJ0 yJ0_charAt_5068e yJ0_charAt_5068e) = .arrayClass ty) := ⟨zt_1 (List.mem_of_getElem? (i := 230) rfl), good_of_word rfl⟩
theorem zg_433 : (Cond.instanceMethod yJ0_charAt_5068e) ∈ lw_tbl ∧ ((((Cond.instanceMethod yJ0_charAt_5068e : Cond)).onTables && ((Cond.instanceMethod yJ0_charAt_5068e : Cond)).keeps) = true ∨ ∃ ty, (Cond.instanceMethod yJ0_charAt_5068e) = .arrayClass ty) := ⟨zt_1 (List.mem_of_getElem? (i := 229) rfl), good_of_word rfl⟩
theorem zg_434 : (Cond.methodLink RX3 101 yJ0_charAt_5068e) ∈ lw_tbl ∧ ((((Cond.methodLink RX3 101 yJ0_charAt_5068e : Cond)).onTables && ((Cond.methodLink RX3 101 yJ0_charAt_5068e : Cond)).keeps) = true ∨ ∃ ty, (Cond.methodLink RX3 101 yJ0_charAt_5068e) = .arrayClass ty) := ⟨zt_1 (List.mem_of_getElem? (i := 228) rfl), good_of_word rfl⟩
theorem zg_435 : (Cond.fieldLink RJ0 15 "java/lang/String" "coder" "B") ∈ lw_tbl ∧ ((((Cond.fieldLink RJ0 15 "java/lang/String" "coder" "B" : Cond)).onTables && ((Cond.fieldLink RJ0 15 "java/lang/String" "coder" "B" : Cond)).keeps) = true ∨ ∃ ty, (Cond.fieldLink RJ0 15 "java/lang/String" "coder" "B") = .arrayClass ty) := ⟨zt_5 (List.mem_of_getElem? (i := 174) rfl), good_of_word rfl⟩
theorem zg_436 : (Cond.fieldLink RJ0 38 "java/lang/String" "COMPACT_STRINGS" "Z") ∈ lw_tbl ∧ ((((Cond.fieldLink RJ0 38 "java/lang/String" "COMPACT_STRINGS" "Z" : Cond)).onTables && ((Cond.fieldLink RJ0 38 "java/lang/String" "COMPACT_STRINGS" "Z" : Cond)).keeps) = true ∨ ∃ ty, (Cond.fieldLink RJ0 38 "java/lang/String" "COMPACT_STRINGS" "Z") = .arrayClass ty) := ⟨zt_1 (List.mem_of_getElem? (i := 226) rfl), good_of_word rfl⟩
theorem zg_437 : (Cond.code yJ0_coder_7d493 cJ0_coder_7d493 1 (some .byte)) ∈ lw_tbl ∧ ((((Cond.code yJ0_coder_7d493 cJ0_coder_7d493 1 (some .byte) : Cond)).onTables && ((Cond.code yJ0_coder_7d493 cJ0_coder_7d493 1 (some .byte) : Cond)).keeps) = true ∨ ∃ ty, (Cond.code yJ0_coder_7d493 cJ0_coder_7d493 1 (some .byte)) = .arrayClass ty) := ⟨zt_1 (List.mem_of_getElem? (i := 225) rfl), good_of_word rfl⟩
theorem zg_438 : (Cond.selects RJ0 yJ0_coder_7d493 yJ0_coder_7d493) ∈ lw_tbl ∧ ((((Cond.selects RJ0 yJ0_coder_7d493 yJ0_coder_7d493 : Cond)).onTables && ((Cond.selects RJ0 yJ0_coder_7d493 yJ0_coder_7d493 : Cond)).keeps) = true ∨ ∃ ty, (Cond.selects RJ0 yJ0_coder_7d493 yJ0_coder_7d493) = .arrayClass ty) := ⟨zt_1 (List.mem_of_getElem? (i := 224) rfl), good_of_word rfl⟩
theorem zg_439 : (Cond.instanceMethod yJ0_coder_7d493) ∈ lw_tbl ∧ ((((Cond.instanceMethod yJ0_coder_7d493 : Cond)).onTables && ((Cond.instanceMethod yJ0_coder_7d493 : Cond)).keeps) = true ∨ ∃ ty, (Cond.instanceMethod yJ0_coder_7d493) = .arrayClass ty) := ⟨zt_1 (List.mem_of_getElem? (i := 223) rfl), good_of_word rfl⟩
theorem zg_440 : (Cond.methodLink RJ0 335 yJ0_coder_7d493) ∈ lw_tbl ∧ ((((Cond.methodLink RJ0 335 yJ0_coder_7d493 : Cond)).onTables && ((Cond.methodLink RJ0 335 yJ0_coder_7d493 : Cond)).keeps) = true ∨ ∃ ty, (Cond.methodLink RJ0 335 yJ0_coder_7d493) = .arrayClass ty) := ⟨zt_1 (List.mem_of_getElem? (i := 222) rfl), good_of_word rfl⟩
theorem zg_441 : (Cond.fieldLink RJ0 9 "java/lang/String" "value" "[B") ∈ lw_tbl ∧ ((((Cond.fieldLink RJ0 9 "java/lang/String" "value" "[B" : Cond)).onTables && ((Cond.fieldLink RJ0 9 "java/lang/String" "value" "[B" : Cond)).keeps) = true ∨ ∃ ty, (Cond.fieldLink RJ0 9 "java/lang/String" "value" "[B") = .arrayClass ty) := ⟨zt_5 (List.mem_of_getElem? (i := 173) rfl), good_of_word rfl⟩
theorem zg_442 : (Cond.code yJ0_length_8abf5 cJ0_length_8abf5 1 (some .int)) ∈ lw_tbl ∧ ((((Cond.code yJ0_length_8abf5 cJ0_length_8abf5 1 (some .int) : Cond)).onTables && ((Cond.code yJ0_length_8abf5 cJ0_length_8abf5 1 (some .int) : Cond)).keeps) = true ∨ ∃ ty, (Cond.code yJ0_length_8abf5 cJ0_length_8abf5 1 (some .int)) = .arrayClass ty) := ⟨zt_1 (List.mem_of_getElem? (i := 221) rfl), good_of_word rfl⟩
theorem zg_443 : (Cond.initialized RJ0) ∈ lw_tbl ∧ ((((Cond.initialized RJ0 : Cond)).onTables && ((Cond.initialized RJ0 : Cond)).keeps) = true ∨ ∃ ty, (Cond.initialized RJ0) = .arrayClass ty) := ⟨zt_0 (List.mem_of_getElem? (i := 13) rfl), good_of_word rfl⟩
theorem zg_444 : (Cond.selects RJ0 yJ0_length_8abf5 yJ0_length_8abf5) ∈ lw_tbl ∧ ((((Cond.selects RJ0 yJ0_length_8abf5 yJ0_length_8abf5 : Cond)).onTables && ((Cond.selects RJ0 yJ0_length_8abf5 yJ0_length_8abf5 : Cond)).keeps) = true ∨ ∃ ty, (Cond.selects RJ0 yJ0_length_8abf5 yJ0_length_8abf5) = .arrayClass ty) := ⟨zt_1 (List.mem_of_getElem? (i := 220) rfl), good_of_word rfl⟩
theorem zg_445 : (Cond.instanceMethod yJ0_length_8abf5) ∈ lw_tbl ∧ ((((Cond.instanceMethod yJ0_length_8abf5 : Cond)).onTables && ((Cond.instanceMethod yJ0_length_8abf5 : Cond)).keeps) = true ∨ ∃ ty, (Cond.instanceMethod yJ0_length_8abf5) = .arrayClass ty) := ⟨zt_1 (List.mem_of_getElem? (i := 219) rfl), good_of_word rfl⟩
theorem zg_446 : (Cond.methodLink RX3 90 yJ0_length_8abf5) ∈ lw_tbl ∧ ((((Cond.methodLink RX3 90 yJ0_length_8abf5 : Cond)).onTables && ((Cond.methodLink RX3 90 yJ0_length_8abf5 : Cond)).keeps) = true ∨ ∃ ty, (Cond.methodLink RX3 90 yJ0_length_8abf5) = .arrayClass ty) := ⟨zt_1 (List.mem_of_getElem? (i := 218) rfl), good_of_word rfl⟩
theorem zg_447 : (Cond.code yX3_lettersStanding cX3_lettersStanding 3 (some .int)) ∈ lw_tbl ∧ ((((Cond.code yX3_lettersStanding cX3_lettersStanding 3 (some .int) : Cond)).onTables && ((Cond.code yX3_lettersStanding cX3_lettersStanding 3 (some .int) : Cond)).keeps) = true ∨ ∃ ty, (Cond.code yX3_lettersStanding cX3_lettersStanding 3 (some .int)) = .arrayClass ty) := ⟨zt_1 (List.mem_of_getElem? (i := 217) rfl), good_of_word rfl⟩
theorem zg_448 : (Cond.selects RX3 yX3_lettersStanding yX3_lettersStanding) ∈ lw_tbl ∧ ((((Cond.selects RX3 yX3_lettersStanding yX3_lettersStanding : Cond)).onTables && ((Cond.selects RX3 yX3_lettersStanding yX3_lettersStanding : Cond)).keeps) = true ∨ ∃ ty, (Cond.selects RX3 yX3_lettersStanding yX3_lettersStanding) = .arrayClass ty) := ⟨zt_1 (List.mem_of_getElem? (i := 216) rfl), good_of_word rfl⟩
end
