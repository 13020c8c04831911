set_option maxHeartbeats 4000000 in
set_option maxRecDepth 100000 in
theorem c_F_M_haste (l : Launch) (D : va_G) (cI cJ cZ cP cS : ClassId) (po : zPool) (m0 mrf mki mpa mta mla msl mco mhe mso msi msh mce mca mwo mnu mte mwa mke mma mth mtr : Nat) (npu nte nat_ nde nto nse nhu nga nsd nfa nba npl nen nnu nwr nra nik : Int32) (grf gki gpa gta : Nat → Int32) (n w : Int32) (hy0 : 0 ≤ npu.toInt) (hy1 : npu.toInt ≤ 8) (hy2 : 4 ≤ nte.toInt) (hy3 : nte.toInt ≤ 40) (hy4 : 0 ≤ nat_.toInt) (hy5 : nat_.toInt ≤ 40) (hy6 : 0 ≤ nde.toInt) (hy7 : nde.toInt ≤ 24) (hy8 : 0 ≤ nhu.toInt) (hy9 : nhu.toInt ≤ 9) (hy10 : 0 ≤ nra.toInt) (hy11 : nra.toInt ≤ 2000) (hy12 : 0 ≤ nik.toInt) (hy13 : nik.toInt ≤ 1) (hy14 : 0 ≤ nse.toInt) (hy15 : nse.toInt ≤ 300) (hp_gki : zRg gki (0) 6) (hp_gpa : zRg gpa (0) 9) (hp_gta : zRg gta (0) 60) (hpz : Nat) : Met l yX8_haste wsX8_haste ({ frames := 11, cells := 0, slots := 0, locals := 288 }) (va_Pc [.ref m0, .int n, .int w] (zW D (zKT cI cJ cZ cP cS) po [(zMO m0 npu nte nat_ nde nto nse nhu nga nsd nfa mrf mki mpa mta mla msl mco mhe mso msi msh mce mca mwo mnu mte nba npl nen nnu nwr mwa mke mma mth mtr nra nik), (mrf, .inl (cI, 8, .inl grf)), (mki, .inl (cI, 8, .inl gki)), (mpa, .inl (cI, 8, .inl gpa)), (mta, .inl (cI, 8, .inl gta))] hpz)) (va_Qi (fun (r : Int32) (grf2 : (Nat → Int32)) => (((w.toInt < 0 ∨ 1 < w.toInt) ∧ r.toInt = -5) ∨ ((0 ≤ w.toInt ∧ w.toInt ≤ 1) ∧ (((n.toInt < 0 ∨ 4 < n.toInt) ∧ r.toInt = -6) ∨ ((0 ≤ n.toInt ∧ n.toInt ≤ 4) ∧ ((w.toInt = 1 ∧ r.toInt = (if (zHv gki gpa gta npu.toInt.toNat n.toInt.toNat nde.toInt nse.toInt) 9 < (zHv gki gpa gta npu.toInt.toNat n.toInt.toNat nde.toInt nse.toInt) 0 then 1 else 0)) ∨ (w.toInt = 0 ∧ r.toInt = (zHs (zHv gki gpa gta npu.toInt.toNat n.toInt.toNat nde.toInt nse.toInt) 9 : Nat))))))) ∧ (True)) (zB D [(zMO m0 npu nte nat_ nde nto nse nhu nga nsd nfa mrf mki mpa mta mla msl mco mhe mso msi msh mce mca mwo mnu mte nba npl nen nnu nwr mwa mke mma mth mtr nra nik), (mrf, .inl (cI, 8, .inl grf)), (mki, .inl (cI, 8, .inl gki)), (mpa, .inl (cI, 8, .inl gpa)), (mta, .inl (cI, 8, .inl gta))] hpz (fun (grf2 : Nat → Int32) => [(zMO m0 npu nte nat_ nde nto nse nhu nga nsd nfa mrf mki mpa mta mla msl mco mhe mso msi msh mce mca mwo mnu mte nba npl nen nnu nwr mwa mke mma mth mtr nra nik), (mrf, .inl (cI, 8, .inl grf2)), (mki, .inl (cI, 8, .inl gki)), (mpa, .inl (cI, 8, .inl gpa)), (mta, .inl (cI, 8, .inl gta))])) (va_A [(zMO m0 npu nte nat_ nde nto nse nhu nga nsd nfa mrf mki mpa mta mla msl mco mhe mso msi msh mce mca mwo mnu mte nba npl nen nnu nwr mwa mke mma mth mtr nra nik), (mrf, .inl (cI, 8, .inl grf)), (mki, .inl (cI, 8, .inl gki)), (mpa, .inl (cI, 8, .inl gpa)), (mta, .inl (cI, 8, .inl gta))] hpz)) 0 0 (va_A [(zMO m0 npu nte nat_ nde nto nse nhu nga nsd nfa mrf mki mpa mta mla msl mco mhe mso msi msh mce mca mwo mnu mte nba npl nen nnu nwr mwa mke mma mth mtr nra nik), (mrf, .inl (cI, 8, .inl grf)), (mki, .inl (cI, 8, .inl gki)), (mpa, .inl (cI, 8, .inl gpa)), (mta, .inl (cI, 8, .inl gta))] hpz) := by
  refine Met.ofW (cc := cX8_haste) (maxL := 7) (ret := (some .int)) (by decide) rfl ?_
  intro p e s m args below meth c s₁ B hml hv
  obtain ⟨rfl, hsz, hP, hK, hD0, hN, hZ⟩ := hv
  have hx := B.exec
  have hb := B.bytes
  have hr := B.returns
  have hts := atoms_spec (ws := wsX8_haste) B.pre
  have hown : s.vm.findClass RX8 = some m.cls := findClass_of_methodNamed B.named
  have hlocks := B.notSynchronized
  subst hsz
  have hD := hD0.self (sz := s.heap.size)
  have hA := zA_of hD
  have hl := lv_entry ([.ref m0, .int n, .int w]) (n := 7) (Nat.le_of_ble_eq_true rfl)
  rw [lg_entry_eq]
  generalize (lg_sl ([.ref m0, .int n, .int w]) ++ List.replicate (7 - (lg_sl ([.ref m0, .int n, .int w])).length) Slot.unset).toArray = ls at hl ⊢
  replace hl : lv_has ls 7 [(0, .ref m0), (1, .int n), (2, .int w)] := hl
  refine zw_begin hP hD (fun H locs hP1 hS => ?_)
  clear hP
  have hP := hP1
  clear hP1
  refine lv_iload_n hx hb dX8_haste_0 rfl (lv_at hl 2 rfl) ?_
  refine lv_if_lt (tgt := 9) hx hb dX8_haste_1 (by decide) (fun c_1 => ?_) (fun c_1 => ?_)
  · have fc_1 : w.toInt < 0 := zf_lt c_1 rfl (by decide)
    refine lv_aload_n hx hb dX8_haste_9 rfl (lv_at hl 0 rfl) ?_
    refine lv_bipush (v := (-5)) hx hb dX8_haste_10 (by decide) ?_
    skip
    refine zw_V (As := [.int (-5)]) (rest := []) (wr := [(mki, .inl (cI, 8, .inl gki)), (mpa, .inl (cI, 8, .inl gpa)), (mta, .inl (cI, 8, .inl gta))]) ⟨hx, hb, hml, hown, hts⟩ (c_M_no_5 l D cI cJ cZ cP cS po m0 mrf mki mpa mta mla msl mco mhe mso msi msh mce mca mwo mnu mte mwa mke mma mth mtr (npu) (nte) (nat_) (nde) (nto) (nse) (nhu) (nga) (nsd) (nfa) (nba) (npl) (nen) (nnu) (nwr) (nra) (nik) grf hy0 hy1 hy2 hy3 hy4 hy5 hy6 hy7 hy8 hy9 hy10 hy11 hy12 hy13 H.size) (cwV 1 hts gX8_haste_X8_no rfl rfl rfl ⟨rfl, dh_X8_no⟩ ⟨Nat.le_of_ble_eq_true rfl, Nat.le_of_ble_eq_true rfl⟩) hK hN (hZ.kept hS) hP hD hS hA [0, 1] [2, 3, 4] rfl rfl (by decide) (by decide) (by decide) (va_recv (q := (RX8, TX8, 38)) hK hP (ci := 8) (q0 := 0) rfl rfl) rfl hl.1 rfl (Nat.le_of_ble_eq_true rfl) dX8_haste_12 ⟨Nat.le_of_ble_eq_true rfl, Nat.le_of_ble_eq_true rfl⟩ (fun r_2 u_3 H locs hr_2 hP hD hS => ?_)
    obtain ⟨q_4, rfl⟩ : ∃ z, z = u_3 := ⟨_, rfl⟩
    have h9R := zRe (ws' := [(mki, .inl (cI, 8, .inl gki)), (mpa, .inl (cI, 8, .inl gpa)), (mta, .inl (cI, 8, .inl gta)), (zMO m0 npu nte nat_ nde nto nse nhu nga nsd nfa mrf mki mpa mta mla msl mco mhe mso msi msh mce mca mwo mnu mte nba npl nen nnu nwr mwa mke mma mth mtr nra nik), (mrf, .inl (cI, 8, .inl q_4))]) hP hD rfl
    clear hP hD
    obtain ⟨hP, hD⟩ := h9R
    obtain rfl := hr_2
    exact W.iret (v := (-5)) hx hb hr (fun t ht hW => ⟨⟨(-5), q_4, rfl, ⟨(show ((w.toInt < 0 ∨ 1 < w.toInt) ∧ ((-5) : Int32).toInt = -5) ∨ ((0 ≤ w.toInt ∧ w.toInt ≤ 1) ∧ (((n.toInt < 0 ∨ 4 < n.toInt) ∧ ((-5) : Int32).toInt = -6) ∨ ((0 ≤ n.toInt ∧ n.toInt ≤ 4) ∧ ((w.toInt = 1 ∧ ((-5) : Int32).toInt = (if (zHv gki gpa gta npu.toInt.toNat n.toInt.toNat nde.toInt nse.toInt) 9 < (zHv gki gpa gta npu.toInt.toNat n.toInt.toNat nde.toInt nse.toInt) 0 then 1 else 0)) ∨ (w.toInt = 0 ∧ ((-5) : Int32).toInt = (zHs (zHv gki gpa gta npu.toInt.toNat n.toInt.toNat nde.toInt nse.toInt) 9 : Nat)))))) from by (have k5m : ((-5) : Int32).toInt = -5 := (by decide); have k9 : ((-5) : Int32).toInt = -5 := (by decide); omega)), trivial⟩, zRet ht hP hD [3, 4, 0, 1, 2] (by decide) rfl⟩, hS.F ht⟩) hS.2.2 dX8_haste_15
  · have fc_1 : 0 ≤ w.toInt := zf_nlt c_1 rfl (by decide)
    refine lv_iload_n hx hb dX8_haste_4 rfl (lv_at hl 2 rfl) ?_
    refine lv_iconst (v := 1) hx hb dX8_haste_5 (by decide) ?_
    refine lv_icmp_le (tgt := 16) hx hb dX8_haste_6 (by decide) (fun c_5 => ?_) (fun c_5 => ?_)
    · have fc_5 : w.toInt ≤ 1 := zf_le c_5 rfl (by decide)
      refine lv_aload_n hx hb dX8_haste_16 rfl (lv_at hl 0 rfl) ?_
      refine lv_iload_n hx hb dX8_haste_17 rfl (lv_at hl 1 rfl) ?_
      refine zc_V (As := [.int n]) (rest := []) ⟨hx, hb, hml, hown, hts⟩ (c_M_isFew l D cI cJ cZ cP cS po m0 mrf mki mpa mta mla msl mco mhe mso msi msh mce mca mwo mnu mte mwa mke mma mth mtr (npu) (nte) (nat_) (nde) (nto) (nse) (nhu) (nga) (nsd) (nfa) (nba) (npl) (nen) (nnu) (nwr) (nra) (nik) (n) hy0 hy1 hy2 hy3 hy4 hy5 hy6 hy7 hy8 hy9 hy10 hy11 hy12 hy13) (cwV 1 hts gX8_haste_X8_isFew rfl rfl rfl ⟨rfl, dh_X8_isFew⟩ ⟨Nat.le_of_ble_eq_true rfl, Nat.le_of_ble_eq_true rfl⟩) hK hN (hZ.kept hS) hP (hP.sub [0] rfl) (va_recv (q := (RX8, TX8, 38)) hK hP (ci := 8) (q0 := 0) rfl rfl) rfl hl.1 rfl (Nat.le_of_ble_eq_true rfl) dX8_haste_18 ⟨Nat.le_of_ble_eq_true rfl, Nat.le_of_ble_eq_true rfl⟩ (fun r_6 hr_6 => ?_)
      rcases hr_6 with ⟨rfl, g_7⟩ | ⟨rfl, g_8, g_9⟩ | ⟨rfl, g_10, g_11⟩
      · refine lv_if_ne (tgt := 31) hx hb dX8_haste_21 (by decide) (fun c_12 => ?_) (fun c_12 => ?_)
        · exact absurd c_12 (by decide)
        · refine lv_aload_n hx hb dX8_haste_24 rfl (lv_at hl 0 rfl) ?_
          refine lv_bipush (v := (-6)) hx hb dX8_haste_25 (by decide) ?_
          skip
          refine zw_V (As := [.int (-6)]) (rest := []) (wr := [(mki, .inl (cI, 8, .inl gki)), (mpa, .inl (cI, 8, .inl gpa)), (mta, .inl (cI, 8, .inl gta))]) ⟨hx, hb, hml, hown, hts⟩ (c_M_no_6 l D cI cJ cZ cP cS po m0 mrf mki mpa mta mla msl mco mhe mso msi msh mce mca mwo mnu mte mwa mke mma mth mtr (npu) (nte) (nat_) (nde) (nto) (nse) (nhu) (nga) (nsd) (nfa) (nba) (npl) (nen) (nnu) (nwr) (nra) (nik) grf hy0 hy1 hy2 hy3 hy4 hy5 hy6 hy7 hy8 hy9 hy10 hy11 hy12 hy13 H.size) (cwV 1 hts gX8_haste_X8_no rfl rfl rfl ⟨rfl, dh_X8_no⟩ ⟨Nat.le_of_ble_eq_true rfl, Nat.le_of_ble_eq_true rfl⟩) hK hN (hZ.kept hS) hP hD hS hA [0, 1] [2, 3, 4] rfl rfl (by decide) (by decide) (by decide) (va_recv (q := (RX8, TX8, 38)) hK hP (ci := 8) (q0 := 0) rfl rfl) rfl hl.1 rfl (Nat.le_of_ble_eq_true rfl) dX8_haste_27 ⟨Nat.le_of_ble_eq_true rfl, Nat.le_of_ble_eq_true rfl⟩ (fun r_13 u_14 H locs hr_13 hP hD hS => ?_)
          obtain ⟨q_15, rfl⟩ : ∃ z, z = u_14 := ⟨_, rfl⟩
          have h9R := zRe (ws' := [(mki, .inl (cI, 8, .inl gki)), (mpa, .inl (cI, 8, .inl gpa)), (mta, .inl (cI, 8, .inl gta)), (zMO m0 npu nte nat_ nde nto nse nhu nga nsd nfa mrf mki mpa mta mla msl mco mhe mso msi msh mce mca mwo mnu mte nba npl nen nnu nwr mwa mke mma mth mtr nra nik), (mrf, .inl (cI, 8, .inl q_15))]) hP hD rfl
          clear hP hD
          obtain ⟨hP, hD⟩ := h9R
          obtain rfl := hr_13
          exact W.iret (v := (-6)) hx hb hr (fun t ht hW => ⟨⟨(-6), q_15, rfl, ⟨(show ((w.toInt < 0 ∨ 1 < w.toInt) ∧ ((-6) : Int32).toInt = -5) ∨ ((0 ≤ w.toInt ∧ w.toInt ≤ 1) ∧ (((n.toInt < 0 ∨ 4 < n.toInt) ∧ ((-6) : Int32).toInt = -6) ∨ ((0 ≤ n.toInt ∧ n.toInt ≤ 4) ∧ ((w.toInt = 1 ∧ ((-6) : Int32).toInt = (if (zHv gki gpa gta npu.toInt.toNat n.toInt.toNat nde.toInt nse.toInt) 9 < (zHv gki gpa gta npu.toInt.toNat n.toInt.toNat nde.toInt nse.toInt) 0 then 1 else 0)) ∨ (w.toInt = 0 ∧ ((-6) : Int32).toInt = (zHs (zHv gki gpa gta npu.toInt.toNat n.toInt.toNat nde.toInt nse.toInt) 9 : Nat)))))) from by (have k6m : ((-6) : Int32).toInt = -6 := (by decide); have k9 : ((-6) : Int32).toInt = -6 := (by decide); omega)), trivial⟩, zRet ht hP hD [3, 4, 0, 1, 2] (by decide) rfl⟩, hS.F ht⟩) hS.2.2 dX8_haste_30
      · refine lv_if_ne (tgt := 31) hx hb dX8_haste_21 (by decide) (fun c_16 => ?_) (fun c_16 => ?_)
        · exact absurd c_16 (by decide)
        · refine lv_aload_n hx hb dX8_haste_24 rfl (lv_at hl 0 rfl) ?_
          refine lv_bipush (v := (-6)) hx hb dX8_haste_25 (by decide) ?_
          skip
          refine zw_V (As := [.int (-6)]) (rest := []) (wr := [(mki, .inl (cI, 8, .inl gki)), (mpa, .inl (cI, 8, .inl gpa)), (mta, .inl (cI, 8, .inl gta))]) ⟨hx, hb, hml, hown, hts⟩ (c_M_no_6 l D cI cJ cZ cP cS po m0 mrf mki mpa mta mla msl mco mhe mso msi msh mce mca mwo mnu mte mwa mke mma mth mtr (npu) (nte) (nat_) (nde) (nto) (nse) (nhu) (nga) (nsd) (nfa) (nba) (npl) (nen) (nnu) (nwr) (nra) (nik) grf hy0 hy1 hy2 hy3 hy4 hy5 hy6 hy7 hy8 hy9 hy10 hy11 hy12 hy13 H.size) (cwV 1 hts gX8_haste_X8_no rfl rfl rfl ⟨rfl, dh_X8_no⟩ ⟨Nat.le_of_ble_eq_true rfl, Nat.le_of_ble_eq_true rfl⟩) hK hN (hZ.kept hS) hP hD hS hA [0, 1] [2, 3, 4] rfl rfl (by decide) (by decide) (by decide) (va_recv (q := (RX8, TX8, 38)) hK hP (ci := 8) (q0 := 0) rfl rfl) rfl hl.1 rfl (Nat.le_of_ble_eq_true rfl) dX8_haste_27 ⟨Nat.le_of_ble_eq_true rfl, Nat.le_of_ble_eq_true rfl⟩ (fun r_17 u_18 H locs hr_17 hP hD hS => ?_)
          obtain ⟨q_19, rfl⟩ : ∃ z, z = u_18 := ⟨_, rfl⟩
          have h9R := zRe (ws' := [(mki, .inl (cI, 8, .inl gki)), (mpa, .inl (cI, 8, .inl gpa)), (mta, .inl (cI, 8, .inl gta)), (zMO m0 npu nte nat_ nde nto nse nhu nga nsd nfa mrf mki mpa mta mla msl mco mhe mso msi msh mce mca mwo mnu mte nba npl nen nnu nwr mwa mke mma mth mtr nra nik), (mrf, .inl (cI, 8, .inl q_19))]) hP hD rfl
          clear hP hD
          obtain ⟨hP, hD⟩ := h9R
          obtain rfl := hr_17
          exact W.iret (v := (-6)) hx hb hr (fun t ht hW => ⟨⟨(-6), q_19, rfl, ⟨(show ((w.toInt < 0 ∨ 1 < w.toInt) ∧ ((-6) : Int32).toInt = -5) ∨ ((0 ≤ w.toInt ∧ w.toInt ≤ 1) ∧ (((n.toInt < 0 ∨ 4 < n.toInt) ∧ ((-6) : Int32).toInt = -6) ∨ ((0 ≤ n.toInt ∧ n.toInt ≤ 4) ∧ ((w.toInt = 1 ∧ ((-6) : Int32).toInt = (if (zHv gki gpa gta npu.toInt.toNat n.toInt.toNat nde.toInt nse.toInt) 9 < (zHv gki gpa gta npu.toInt.toNat n.toInt.toNat nde.toInt nse.toInt) 0 then 1 else 0)) ∨ (w.toInt = 0 ∧ ((-6) : Int32).toInt = (zHs (zHv gki gpa gta npu.toInt.toNat n.toInt.toNat nde.toInt nse.toInt) 9 : Nat)))))) from by (have k6m : ((-6) : Int32).toInt = -6 := (by decide); have k9 : ((-6) : Int32).toInt = -6 := (by decide); omega)), trivial⟩, zRet ht hP hD [3, 4, 0, 1, 2] (by decide) rfl⟩, hS.F ht⟩) hS.2.2 dX8_haste_30
      · refine lv_if_ne (tgt := 31) hx hb dX8_haste_21 (by decide) (fun c_20 => ?_) (fun c_20 => ?_)
        · have hsp : n = 0 ∨ n = 1 ∨ n = 2 ∨ n = 3 ∨ n = 4 := by
            rcases (show n.toInt = 0 ∨ n.toInt = 1 ∨ n.toInt = 2 ∨ n.toInt = 3 ∨ n.toInt = 4 by omega) with h9 | h9 | h9 | h9 | h9
            · refine Or.inl ?_; exact zf_val h9 (by decide)
            · refine Or.inr (Or.inl ?_); exact zf_val h9 (by decide)
            · refine Or.inr (Or.inr (Or.inl ?_)); exact zf_val h9 (by decide)
            · refine Or.inr (Or.inr (Or.inr (Or.inl ?_))); exact zf_val h9 (by decide)
            · refine Or.inr (Or.inr (Or.inr (Or.inr (?_)))); exact zf_val h9 (by decide)
          rcases hsp with rfl | rfl | rfl | rfl | rfl
          · have kc0 : (0 : Int32).toInt = 0 := by decide
            refine lv_iload_n hx hb dX8_haste_31 rfl (lv_at hl 2 rfl) ?_
            refine lv_iconst (v := 1) hx hb dX8_haste_32 (by decide) ?_
            refine lv_icmp_ne (tgt := 58) hx hb dX8_haste_33 (by decide) (fun c_21 => ?_) (fun c_21 => ?_)
            · have fc_21 : w.toInt ≠ 1 := zf_ne c_21 rfl (by decide)
              refine lv_iconst (v := 0) hx hb dX8_haste_58 (by decide) ?_
              refine lv_istore_n (lv' := [(3, .int 0), (0, .ref m0), (1, .int 0), (2, .int w)]) hx hb dX8_haste_59 rfl hl (by decide) rfl (fun ls hl => ?_)
              refine lv_iconst (v := (-1)) hx hb dX8_haste_60 (by decide) ?_
              refine lv_istore (lv' := [(4, .int (-1)), (3, .int 0), (0, .ref m0), (1, .int 0), (2, .int w)]) hx hb dX8_haste_61 hl (by decide) rfl (fun ls hl => ?_)
              refine lv_iconst (v := 0) hx hb dX8_haste_63 (by decide) ?_
              refine lv_istore (lv' := [(5, .int 0), (4, .int (-1)), (3, .int 0), (0, .ref m0), (1, .int 0), (2, .int w)]) hx hb dX8_haste_64 hl (by decide) rfl (fun ls hl => ?_)
              obtain ⟨i_66, hi_66⟩ : ∃ i : Int32, i = 0 := ⟨_, rfl⟩
              replace hl : lv_has ls 7 [(5, .int i_66), (4, .int (-1)), (3, .int 0), (0, .ref m0), (1, .int 0), (2, .int w)] := by rw [hi_66]; exact lv_sub hl [0, 1, 2, 3, 4, 5] rfl
              have h1i_66 : i_66.toInt = 0 := by rw [hi_66]; decide
              obtain ⟨nfu, hni_66⟩ : ∃ nq9 : Nat, 10 ≤ i_66.toInt + (nq9 : Int) := ⟨((10 : Int) - 0).toNat, by omega⟩
              have hloi_66 : 0 ≤ i_66.toInt := by omega
              obtain ⟨v_22, hv_22⟩ : ∃ g : Int32, g = 0 := ⟨_, rfl⟩
              obtain ⟨v_23, hv_23⟩ : ∃ g : Int32, g = (-1) := ⟨_, rfl⟩
              replace hl : lv_has ls 7 [(5, .int i_66), (4, .int v_23), (3, .int v_22), (0, .ref m0), (1, .int 0), (2, .int w)] := by rw [hv_22, hv_23]; exact hl
              have hbv_22 : 0 ≤ v_22.toInt ∧ v_22.toInt ≤ 9 := by rw [hv_22]; exact ⟨by decide, by decide⟩
              have hbv_23 : -1 ≤ v_23.toInt ∧ v_23.toInt ≤ 20736 := by rw [hv_23]; exact ⟨by decide, by decide⟩
              have hvi_66_0 : ((i_66.toInt = 0 ∧ (v_22 : Int32).toInt = 0 ∧ (v_23 : Int32).toInt = -1) ∨ (1 ≤ i_66.toInt ∧ (v_22 : Int32).toInt = (zHs (zHv gki gpa gta npu.toInt.toNat 0 nde.toInt nse.toInt) (i_66.toInt - 1).toNat : Nat) ∧ (v_23 : Int32).toInt = (zHv gki gpa gta npu.toInt.toNat 0 nde.toInt nse.toInt) (zHs (zHv gki gpa gta npu.toInt.toNat 0 nde.toInt nse.toInt) (i_66.toInt - 1).toNat))) := by
                (try rw [hi_66]); (try rw [hv_22]); (try rw [hv_23]); (exact Or.inl ⟨by decide, by decide, by decide⟩)
              have hvi_66_1 : i_66.toInt ≤ 10 := by
                (try rw [hi_66]); (try rw [hv_22]); (try rw [hv_23]); (have k0 : (0 : Int32).toInt = 0 := (by decide); omega)
              clear h1i_66 hi_66 hv_22 hv_23
              skip
              revert hni_66
              revert hloi_66
              revert hvi_66_1
              revert hvi_66_0
              revert hbv_23
              revert hbv_22
              revert hl
              revert hS
              revert hD
              revert hP
              revert ls
              revert locs
              revert H
              revert v_23
              revert v_22
              revert i_66
              induction nfu with
              | zero =>
                intro i_66 v_22 v_23 H locs ls hP hD hS hl hbv_22 hbv_23 hvi_66_0 hvi_66_1 hloi_66 hni_66
                have hzi_66 : 10 ≤ i_66.toInt := by omega
                refine lv_iload hx hb dX8_haste_66 (lv_at hl 0 rfl) ?_
                refine lv_bipush (v := 10) hx hb dX8_haste_68 (by decide) ?_
                refine lv_icmp_ge (tgt := 105) hx hb dX8_haste_70 (by decide) (fun c_24 => ?_) (fun c_24 => ?_)
                · have fc_24 : 10 ≤ i_66.toInt := zf_le c_24 (by decide) rfl
                  refine lv_iload_n hx hb dX8_haste_105 rfl (lv_at hl 2 rfl) ?_
                  exact W.iret (v := v_22) hx hb hr (fun t ht hW => ⟨⟨v_22, grf, rfl, ⟨(show ((w.toInt < 0 ∨ 1 < w.toInt) ∧ (v_22 : Int32).toInt = -5) ∨ ((0 ≤ w.toInt ∧ w.toInt ≤ 1) ∧ ((((0 : Int32).toInt < 0 ∨ 4 < (0 : Int32).toInt) ∧ (v_22 : Int32).toInt = -6) ∨ ((0 ≤ (0 : Int32).toInt ∧ (0 : Int32).toInt ≤ 4) ∧ ((w.toInt = 1 ∧ (v_22 : Int32).toInt = (if (zHv gki gpa gta npu.toInt.toNat (0 : Int32).toInt.toNat nde.toInt nse.toInt) 9 < (zHv gki gpa gta npu.toInt.toNat (0 : Int32).toInt.toNat nde.toInt nse.toInt) 0 then 1 else 0)) ∨ (w.toInt = 0 ∧ (v_22 : Int32).toInt = (zHs (zHv gki gpa gta npu.toInt.toNat (0 : Int32).toInt.toNat nde.toInt nse.toInt) 9 : Nat)))))) from by (have k0 : (0 : Int32).toInt = 0 := (by decide); have k9_ : (9 : Int32).toInt = 9 := (by decide); have k0_ : (0 : Int32).toInt = 0 := (by decide); refine Or.inr ⟨by omega, Or.inr ⟨by omega, Or.inr ⟨by omega, (by rw [show (0 : Int32).toInt.toNat = 0 from by decide]; rcases hvi_66_0 with z | ⟨z1, z2, -⟩; (exfalso; omega); (have h9 : (i_66.toInt - 1).toNat = 9 := (by omega); rw [h9] at z2; exact z2))⟩⟩⟩)), trivial⟩, zRet ht hP hD [0, 1, 2, 3, 4] (by decide) rfl⟩, hS.F ht⟩) hS.2.2 dX8_haste_106
                · exfalso; have fc_24 : i_66.toInt < 10 := zf_nle c_24 (by decide) rfl; omega
              | succ nfu ih =>
                intro i_66 v_22 v_23 H locs ls hP hD hS hl hbv_22 hbv_23 hvi_66_0 hvi_66_1 hloi_66 hni_66
                refine lv_iload hx hb dX8_haste_66 (lv_at hl 0 rfl) ?_
                refine lv_bipush (v := 10) hx hb dX8_haste_68 (by decide) ?_
                refine lv_icmp_ge (tgt := 105) hx hb dX8_haste_70 (by decide) (fun c_25 => ?_) (fun c_25 => ?_)
                · have fc_25 : 10 ≤ i_66.toInt := zf_le c_25 (by decide) rfl
                  refine lv_iload_n hx hb dX8_haste_105 rfl (lv_at hl 2 rfl) ?_
                  exact W.iret (v := v_22) hx hb hr (fun t ht hW => ⟨⟨v_22, grf, rfl, ⟨(show ((w.toInt < 0 ∨ 1 < w.toInt) ∧ (v_22 : Int32).toInt = -5) ∨ ((0 ≤ w.toInt ∧ w.toInt ≤ 1) ∧ ((((0 : Int32).toInt < 0 ∨ 4 < (0 : Int32).toInt) ∧ (v_22 : Int32).toInt = -6) ∨ ((0 ≤ (0 : Int32).toInt ∧ (0 : Int32).toInt ≤ 4) ∧ ((w.toInt = 1 ∧ (v_22 : Int32).toInt = (if (zHv gki gpa gta npu.toInt.toNat (0 : Int32).toInt.toNat nde.toInt nse.toInt) 9 < (zHv gki gpa gta npu.toInt.toNat (0 : Int32).toInt.toNat nde.toInt nse.toInt) 0 then 1 else 0)) ∨ (w.toInt = 0 ∧ (v_22 : Int32).toInt = (zHs (zHv gki gpa gta npu.toInt.toNat (0 : Int32).toInt.toNat nde.toInt nse.toInt) 9 : Nat)))))) from by (have k0 : (0 : Int32).toInt = 0 := (by decide); have k9_ : (9 : Int32).toInt = 9 := (by decide); have k0_ : (0 : Int32).toInt = 0 := (by decide); refine Or.inr ⟨by omega, Or.inr ⟨by omega, Or.inr ⟨by omega, (by rw [show (0 : Int32).toInt.toNat = 0 from by decide]; rcases hvi_66_0 with z | ⟨z1, z2, -⟩; (exfalso; omega); (have h9 : (i_66.toInt - 1).toNat = 9 := (by omega); rw [h9] at z2; exact z2))⟩⟩⟩)), trivial⟩, zRet ht hP hD [0, 1, 2, 3, 4] (by decide) rfl⟩, hS.F ht⟩) hS.2.2 dX8_haste_106
                · have fc_25 : i_66.toInt < 10 := zf_nle c_25 (by decide) rfl
                  refine lv_aload_n hx hb dX8_haste_73 rfl (lv_at hl 3 rfl) ?_
                  refine lv_iload_n hx hb dX8_haste_74 rfl (lv_at hl 4 rfl) ?_
                  refine lv_iload hx hb dX8_haste_75 (lv_at hl 0 rfl) ?_
                  skip
                  refine zw_V (As := [.int 0, .int i_66]) (rest := []) (wr := [(mrf, .inl (cI, 8, .inl grf))]) ⟨hx, hb, hml, hown, hts⟩ (c_F_M_casesIn_0 l D cI cJ cZ cP cS po m0 mrf mki mpa mta mla msl mco mhe mso msi msh mce mca mwo mnu mte mwa mke mma mth mtr (npu) (nte) (nat_) (nde) (nto) (nse) (nhu) (nga) (nsd) (nfa) (nba) (npl) (nen) (nnu) (nwr) (nra) (nik) gki gpa gta (i_66) hy0 hy1 hy2 hy3 hy4 hy5 hy6 hy7 hy8 hy9 hy10 hy11 hy12 hy13 (by omega) (by omega) hy14 hy15 hp_gki hp_gpa hp_gta H.size) (cwV 2 hts gX8_haste_X8_casesIn rfl rfl rfl ⟨rfl, dh_X8_casesIn⟩ ⟨Nat.le_of_ble_eq_true rfl, Nat.le_of_ble_eq_true rfl⟩) hK hN (hZ.kept hS) hP hD hS hA [0, 2, 3, 4] [1] rfl rfl (by decide) (by decide) (by decide) (va_recv (q := (RX8, TX8, 38)) hK hP (ci := 8) (q0 := 0) rfl rfl) rfl hl.1 rfl (Nat.le_of_ble_eq_true rfl) dX8_haste_77 ⟨Nat.le_of_ble_eq_true rfl, Nat.le_of_ble_eq_true rfl⟩ (fun r_26 u_27 H locs hr_26 hP hD hS => ?_)
                  obtain ⟨hsr_26_0, hr_26⟩ := hr_26
                  have h9R := zRe (ws' := [(mrf, .inl (cI, 8, .inl grf)), (zMO m0 npu nte nat_ nde nto nse nhu nga nsd nfa mrf mki mpa mta mla msl mco mhe mso msi msh mce mca mwo mnu mte nba npl nen nnu nwr mwa mke mma mth mtr nra nik), (mki, .inl (cI, 8, .inl gki)), (mpa, .inl (cI, 8, .inl gpa)), (mta, .inl (cI, 8, .inl gta))]) hP hD rfl
                  clear hP hD
                  obtain ⟨hP, hD⟩ := h9R
                  obtain ⟨g_28, g_29⟩ := hr_26
                  refine lv_istore (lv' := [(6, .int r_26), (5, .int i_66), (4, .int v_23), (3, .int v_22), (0, .ref m0), (1, .int 0), (2, .int w)]) hx hb dX8_haste_80 hl (by decide) rfl (fun ls hl => ?_)
                  refine lv_iload hx hb dX8_haste_82 (lv_at hl 0 rfl) ?_
                  refine lv_iload hx hb dX8_haste_84 (lv_at hl 2 rfl) ?_
                  refine lv_icmp_gt (tgt := 92) hx hb dX8_haste_86 (by decide) (fun c_30 => ?_) (fun c_30 => ?_)
                  · have fc_30 : v_23.toInt < r_26.toInt := zf_lt c_30 rfl rfl
                    refine lv_iload hx hb dX8_haste_92 (lv_at hl 1 rfl) ?_
                    refine lv_istore_n (lv' := [(3, .int i_66), (6, .int r_26), (5, .int i_66), (4, .int v_23), (0, .ref m0), (1, .int 0), (2, .int w)]) hx hb dX8_haste_94 rfl hl (by decide) rfl (fun ls hl => ?_)
                    refine lv_iload hx hb dX8_haste_95 (lv_at hl 1 rfl) ?_
                    refine lv_istore (lv' := [(4, .int r_26), (3, .int i_66), (6, .int r_26), (5, .int i_66), (0, .ref m0), (1, .int 0), (2, .int w)]) hx hb dX8_haste_97 hl (by decide) rfl (fun ls hl => ?_)
                    obtain ⟨x_31, ex_31⟩ : ∃ y : Int32, y = i_66 + 1 := ⟨_, rfl⟩
                    have qx_31 : x_31.toInt = i_66.toInt + 1 := dw_incK ex_31 fc_25 (by decide)
                    refine lv_iinc (v := x_31) (lv' := [(5, .int x_31), (4, .int r_26), (3, .int i_66), (6, .int r_26), (0, .ref m0), (1, .int 0), (2, .int w)]) hx hb dX8_haste_99 hl (k := 3) rfl ex_31.symm (by decide) rfl (fun ls hl => ?_)
                    refine lv_goto (tgt := 66) hx hb dX8_haste_102 (by decide) ?_
                    exact ih x_31 i_66 r_26 _ _ _ (hP.sub [1, 0, 2, 3, 4] rfl) (hD.sub [1, 0, 2, 3, 4] (by decide) rfl) hS (lv_sub hl [0, 1, 2, 4, 5, 6] rfl) ⟨by omega, by omega⟩ ⟨by omega, by omega⟩ (show ((x_31.toInt = 0 ∧ (i_66 : Int32).toInt = 0 ∧ (r_26 : Int32).toInt = -1) ∨ (1 ≤ x_31.toInt ∧ (i_66 : Int32).toInt = (zHs (zHv gki gpa gta npu.toInt.toNat 0 nde.toInt nse.toInt) (x_31.toInt - 1).toNat : Nat) ∧ (r_26 : Int32).toInt = (zHv gki gpa gta npu.toInt.toNat 0 nde.toInt nse.toInt) (zHs (zHv gki gpa gta npu.toInt.toNat 0 nde.toInt nse.toInt) (x_31.toInt - 1).toNat))) from by (have y1 : (zHv gki gpa gta npu.toInt.toNat 0 nde.toInt nse.toInt) i_66.toInt.toNat = r_26.toInt := (by have z := hsr_26_0; unfold zHv; rw [show ((i_66.toInt.toNat : Nat) : Int) = i_66.toInt from by omega]; exact z.symm); have hx : (x_31.toInt - 1).toNat = i_66.toInt.toNat := (by omega); refine Or.inr ⟨by omega, ?_⟩; rw [hx]; rcases hvi_66_0 with ⟨w1, w2, w3⟩ | ⟨w1, w2, w3⟩; (have h0 : i_66.toInt.toNat = 0 := (by omega); rw [h0] at y1 ⊢; first | (exact ⟨by (show _ = ((0 : Nat) : Int); omega), y1.symm⟩) | (exfalso; omega)); (have h1 : i_66.toInt.toNat = (i_66.toInt - 1).toNat + 1 := (by omega); rw [h1] at y1 ⊢; rw [zHs_s, y1, ← w3]; first | (rw [if_pos (by omega)]; exact ⟨by omega, y1.symm⟩) | (rw [if_neg (by omega)]; exact ⟨w2, w3⟩)))) (show x_31.toInt ≤ 10 from by omega) (dw_lo hloi_66 qx_31) (dw_hn hni_66 qx_31)
                  · have fc_30 : r_26.toInt ≤ v_23.toInt := zf_nlt c_30 rfl rfl
                    refine lv_goto (tgt := 99) hx hb dX8_haste_89 (by decide) ?_
                    obtain ⟨x_32, ex_32⟩ : ∃ y : Int32, y = i_66 + 1 := ⟨_, rfl⟩
                    have qx_32 : x_32.toInt = i_66.toInt + 1 := dw_incK ex_32 fc_25 (by decide)
                    refine lv_iinc (v := x_32) (lv' := [(5, .int x_32), (6, .int r_26), (4, .int v_23), (3, .int v_22), (0, .ref m0), (1, .int 0), (2, .int w)]) hx hb dX8_haste_99 hl (k := 1) rfl ex_32.symm (by decide) rfl (fun ls hl => ?_)
                    refine lv_goto (tgt := 66) hx hb dX8_haste_102 (by decide) ?_
                    exact ih x_32 v_22 v_23 _ _ _ (hP.sub [1, 0, 2, 3, 4] rfl) (hD.sub [1, 0, 2, 3, 4] (by decide) rfl) hS (lv_sub hl [0, 2, 3, 4, 5, 6] rfl) hbv_22 hbv_23 (show ((x_32.toInt = 0 ∧ (v_22 : Int32).toInt = 0 ∧ (v_23 : Int32).toInt = -1) ∨ (1 ≤ x_32.toInt ∧ (v_22 : Int32).toInt = (zHs (zHv gki gpa gta npu.toInt.toNat 0 nde.toInt nse.toInt) (x_32.toInt - 1).toNat : Nat) ∧ (v_23 : Int32).toInt = (zHv gki gpa gta npu.toInt.toNat 0 nde.toInt nse.toInt) (zHs (zHv gki gpa gta npu.toInt.toNat 0 nde.toInt nse.toInt) (x_32.toInt - 1).toNat))) from by (have y1 : (zHv gki gpa gta npu.toInt.toNat 0 nde.toInt nse.toInt) i_66.toInt.toNat = r_26.toInt := (by have z := hsr_26_0; unfold zHv; rw [show ((i_66.toInt.toNat : Nat) : Int) = i_66.toInt from by omega]; exact z.symm); have hx : (x_32.toInt - 1).toNat = i_66.toInt.toNat := (by omega); refine Or.inr ⟨by omega, ?_⟩; rw [hx]; rcases hvi_66_0 with ⟨w1, w2, w3⟩ | ⟨w1, w2, w3⟩; (have h0 : i_66.toInt.toNat = 0 := (by omega); rw [h0] at y1 ⊢; first | (exact ⟨by (show _ = ((0 : Nat) : Int); omega), y1.symm⟩) | (exfalso; omega)); (have h1 : i_66.toInt.toNat = (i_66.toInt - 1).toNat + 1 := (by omega); rw [h1] at y1 ⊢; rw [zHs_s, y1, ← w3]; first | (rw [if_pos (by omega)]; exact ⟨by omega, y1.symm⟩) | (rw [if_neg (by omega)]; exact ⟨w2, w3⟩)))) (show x_32.toInt ≤ 10 from by omega) (dw_lo hloi_66 qx_32) (dw_hn hni_66 qx_32)
            · have fc_21 : w.toInt = 1 := zf_eq c_21 rfl (by decide)
              refine lv_aload_n hx hb dX8_haste_36 rfl (lv_at hl 0 rfl) ?_
              refine lv_iload_n hx hb dX8_haste_37 rfl (lv_at hl 1 rfl) ?_
              refine lv_bipush (v := 9) hx hb dX8_haste_38 (by decide) ?_
              have kc9 : (9 : Int32).toInt = 9 := by decide
              skip
              refine zw_V (As := [.int 0, .int 9]) (rest := []) (wr := [(mrf, .inl (cI, 8, .inl grf))]) ⟨hx, hb, hml, hown, hts⟩ (c_F_M_casesIn_0 l D cI cJ cZ cP cS po m0 mrf mki mpa mta mla msl mco mhe mso msi msh mce mca mwo mnu mte mwa mke mma mth mtr (npu) (nte) (nat_) (nde) (nto) (nse) (nhu) (nga) (nsd) (nfa) (nba) (npl) (nen) (nnu) (nwr) (nra) (nik) gki gpa gta (9) hy0 hy1 hy2 hy3 hy4 hy5 hy6 hy7 hy8 hy9 hy10 hy11 hy12 hy13 (by omega) (by omega) hy14 hy15 hp_gki hp_gpa hp_gta H.size) (cwV 2 hts gX8_haste_X8_casesIn rfl rfl rfl ⟨rfl, dh_X8_casesIn⟩ ⟨Nat.le_of_ble_eq_true rfl, Nat.le_of_ble_eq_true rfl⟩) hK hN (hZ.kept hS) hP hD hS hA [0, 2, 3, 4] [1] rfl rfl (by decide) (by decide) (by decide) (va_recv (q := (RX8, TX8, 38)) hK hP (ci := 8) (q0 := 0) rfl rfl) rfl hl.1 rfl (Nat.le_of_ble_eq_true rfl) dX8_haste_40 ⟨Nat.le_of_ble_eq_true rfl, Nat.le_of_ble_eq_true rfl⟩ (fun r_33 u_34 H locs hr_33 hP hD hS => ?_)
              obtain ⟨hsr_33_0, hr_33⟩ := hr_33
              have h9R := zRe (ws' := [(mrf, .inl (cI, 8, .inl grf)), (zMO m0 npu nte nat_ nde nto nse nhu nga nsd nfa mrf mki mpa mta mla msl mco mhe mso msi msh mce mca mwo mnu mte nba npl nen nnu nwr mwa mke mma mth mtr nra nik), (mki, .inl (cI, 8, .inl gki)), (mpa, .inl (cI, 8, .inl gpa)), (mta, .inl (cI, 8, .inl gta))]) hP hD rfl
              clear hP hD
              obtain ⟨hP, hD⟩ := h9R
              obtain ⟨g_35, g_36⟩ := hr_33
              refine lv_aload_n hx hb dX8_haste_43 rfl (lv_at hl 0 rfl) ?_
              refine lv_iload_n hx hb dX8_haste_44 rfl (lv_at hl 1 rfl) ?_
              refine lv_iconst (v := 0) hx hb dX8_haste_45 (by decide) ?_
              skip
              refine zw_V (As := [.int 0, .int 0]) (rest := [.int r_33]) (wr := [(mrf, .inl (cI, 8, .inl grf))]) ⟨hx, hb, hml, hown, hts⟩ (c_F_M_casesIn_0 l D cI cJ cZ cP cS po m0 mrf mki mpa mta mla msl mco mhe mso msi msh mce mca mwo mnu mte mwa mke mma mth mtr (npu) (nte) (nat_) (nde) (nto) (nse) (nhu) (nga) (nsd) (nfa) (nba) (npl) (nen) (nnu) (nwr) (nra) (nik) gki gpa gta (0) hy0 hy1 hy2 hy3 hy4 hy5 hy6 hy7 hy8 hy9 hy10 hy11 hy12 hy13 (by omega) (by omega) hy14 hy15 hp_gki hp_gpa hp_gta H.size) (cwV 2 hts gX8_haste_X8_casesIn rfl rfl rfl ⟨rfl, dh_X8_casesIn⟩ ⟨Nat.le_of_ble_eq_true rfl, Nat.le_of_ble_eq_true rfl⟩) hK hN (hZ.kept hS) hP hD hS hA [1, 2, 3, 4] [0] rfl rfl (by decide) (by decide) (by decide) (va_recv (q := (RX8, TX8, 38)) hK hP (ci := 8) (q0 := 1) rfl rfl) rfl hl.1 rfl (Nat.le_of_ble_eq_true rfl) dX8_haste_46 ⟨Nat.le_of_ble_eq_true rfl, Nat.le_of_ble_eq_true rfl⟩ (fun r_37 u_38 H locs hr_37 hP hD hS => ?_)
              obtain ⟨hsr_37_0, hr_37⟩ := hr_37
              have h9R := zRe (ws' := [(mrf, .inl (cI, 8, .inl grf)), (zMO m0 npu nte nat_ nde nto nse nhu nga nsd nfa mrf mki mpa mta mla msl mco mhe mso msi msh mce mca mwo mnu mte nba npl nen nnu nwr mwa mke mma mth mtr nra nik), (mki, .inl (cI, 8, .inl gki)), (mpa, .inl (cI, 8, .inl gpa)), (mta, .inl (cI, 8, .inl gta))]) hP hD rfl
              clear hP hD
              obtain ⟨hP, hD⟩ := h9R
              obtain ⟨g_39, g_40⟩ := hr_37
              refine lv_icmp_ge (tgt := 56) hx hb dX8_haste_49 (by decide) (fun c_41 => ?_) (fun c_41 => ?_)
              · have fc_41 : r_37.toInt ≤ r_33.toInt := zf_le c_41 rfl rfl
                refine lv_iconst (v := 0) hx hb dX8_haste_56 (by decide) ?_
                exact W.iret (v := 0) hx hb hr (fun t ht hW => ⟨⟨0, grf, rfl, ⟨(show ((w.toInt < 0 ∨ 1 < w.toInt) ∧ (0 : Int32).toInt = -5) ∨ ((0 ≤ w.toInt ∧ w.toInt ≤ 1) ∧ ((((0 : Int32).toInt < 0 ∨ 4 < (0 : Int32).toInt) ∧ (0 : Int32).toInt = -6) ∨ ((0 ≤ (0 : Int32).toInt ∧ (0 : Int32).toInt ≤ 4) ∧ ((w.toInt = 1 ∧ (0 : Int32).toInt = (if (zHv gki gpa gta npu.toInt.toNat (0 : Int32).toInt.toNat nde.toInt nse.toInt) 9 < (zHv gki gpa gta npu.toInt.toNat (0 : Int32).toInt.toNat nde.toInt nse.toInt) 0 then 1 else 0)) ∨ (w.toInt = 0 ∧ (0 : Int32).toInt = (zHs (zHv gki gpa gta npu.toInt.toNat (0 : Int32).toInt.toNat nde.toInt nse.toInt) 9 : Nat)))))) from by (have k0 : (0 : Int32).toInt = 0 := (by decide); have k9 : (0 : Int32).toInt = 0 := (by decide); have k9_ : (9 : Int32).toInt = 9 := (by decide); have k0_ : (0 : Int32).toInt = 0 := (by decide); refine Or.inr ⟨by omega, Or.inr ⟨by omega, Or.inl ⟨by omega, (by rw [show (0 : Int32).toInt.toNat = 0 from by decide]; have z1 := hsr_33_0; have z2 := hsr_37_0; rw [k9_] at z1; rw [k0_] at z2; have y1 : (zHv gki gpa gta npu.toInt.toNat 0 nde.toInt nse.toInt) 9 = r_33.toInt := z1.symm; have y2 : (zHv gki gpa gta npu.toInt.toNat 0 nde.toInt nse.toInt) 0 = r_37.toInt := z2.symm; rw [y1, y2]; first | (rw [if_neg (by omega)]; omega) | (rw [if_pos (by omega)]; omega))⟩⟩⟩)), trivial⟩, zRet ht hP hD [1, 0, 2, 3, 4] (by decide) rfl⟩, hS.F ht⟩) hS.2.2 dX8_haste_57
              · have fc_41 : r_33.toInt < r_37.toInt := zf_nle c_41 rfl rfl
                refine lv_iconst (v := 1) hx hb dX8_haste_52 (by decide) ?_
                refine lv_goto (tgt := 57) hx hb dX8_haste_53 (by decide) ?_
                exact W.iret (v := 1) hx hb hr (fun t ht hW => ⟨⟨1, grf, rfl, ⟨(show ((w.toInt < 0 ∨ 1 < w.toInt) ∧ (1 : Int32).toInt = -5) ∨ ((0 ≤ w.toInt ∧ w.toInt ≤ 1) ∧ ((((0 : Int32).toInt < 0 ∨ 4 < (0 : Int32).toInt) ∧ (1 : Int32).toInt = -6) ∨ ((0 ≤ (0 : Int32).toInt ∧ (0 : Int32).toInt ≤ 4) ∧ ((w.toInt = 1 ∧ (1 : Int32).toInt = (if (zHv gki gpa gta npu.toInt.toNat (0 : Int32).toInt.toNat nde.toInt nse.toInt) 9 < (zHv gki gpa gta npu.toInt.toNat (0 : Int32).toInt.toNat nde.toInt nse.toInt) 0 then 1 else 0)) ∨ (w.toInt = 0 ∧ (1 : Int32).toInt = (zHs (zHv gki gpa gta npu.toInt.toNat (0 : Int32).toInt.toNat nde.toInt nse.toInt) 9 : Nat)))))) from by (have k0 : (0 : Int32).toInt = 0 := (by decide); have k1 : (1 : Int32).toInt = 1 := (by decide); have k9 : (1 : Int32).toInt = 1 := (by decide); have k9_ : (9 : Int32).toInt = 9 := (by decide); have k0_ : (0 : Int32).toInt = 0 := (by decide); refine Or.inr ⟨by omega, Or.inr ⟨by omega, Or.inl ⟨by omega, (by rw [show (0 : Int32).toInt.toNat = 0 from by decide]; have z1 := hsr_33_0; have z2 := hsr_37_0; rw [k9_] at z1; rw [k0_] at z2; have y1 : (zHv gki gpa gta npu.toInt.toNat 0 nde.toInt nse.toInt) 9 = r_33.toInt := z1.symm; have y2 : (zHv gki gpa gta npu.toInt.toNat 0 nde.toInt nse.toInt) 0 = r_37.toInt := z2.symm; rw [y1, y2]; first | (rw [if_pos (by omega)]; omega) | (rw [if_neg (by omega)]; omega))⟩⟩⟩)), trivial⟩, zRet ht hP hD [1, 0, 2, 3, 4] (by decide) rfl⟩, hS.F ht⟩) hS.2.2 dX8_haste_57
          · have kc1 : (1 : Int32).toInt = 1 := by decide
            refine lv_iload_n hx hb dX8_haste_31 rfl (lv_at hl 2 rfl) ?_
            refine lv_iconst (v := 1) hx hb dX8_haste_32 (by decide) ?_
            refine lv_icmp_ne (tgt := 58) hx hb dX8_haste_33 (by decide) (fun c_42 => ?_) (fun c_42 => ?_)
            · have fc_42 : w.toInt ≠ 1 := zf_ne c_42 rfl (by decide)
              refine lv_iconst (v := 0) hx hb dX8_haste_58 (by decide) ?_
              refine lv_istore_n (lv' := [(3, .int 0), (0, .ref m0), (1, .int 1), (2, .int w)]) hx hb dX8_haste_59 rfl hl (by decide) rfl (fun ls hl => ?_)
              refine lv_iconst (v := (-1)) hx hb dX8_haste_60 (by decide) ?_
              refine lv_istore (lv' := [(4, .int (-1)), (3, .int 0), (0, .ref m0), (1, .int 1), (2, .int w)]) hx hb dX8_haste_61 hl (by decide) rfl (fun ls hl => ?_)
              refine lv_iconst (v := 0) hx hb dX8_haste_63 (by decide) ?_
              refine lv_istore (lv' := [(5, .int 0), (4, .int (-1)), (3, .int 0), (0, .ref m0), (1, .int 1), (2, .int w)]) hx hb dX8_haste_64 hl (by decide) rfl (fun ls hl => ?_)
              obtain ⟨i_66, hi_66⟩ : ∃ i : Int32, i = 0 := ⟨_, rfl⟩
              replace hl : lv_has ls 7 [(5, .int i_66), (4, .int (-1)), (3, .int 0), (0, .ref m0), (1, .int 1), (2, .int w)] := by rw [hi_66]; exact lv_sub hl [0, 1, 2, 3, 4, 5] rfl
              have h1i_66 : i_66.toInt = 0 := by rw [hi_66]; decide
              obtain ⟨nfu, hni_66⟩ : ∃ nq9 : Nat, 10 ≤ i_66.toInt + (nq9 : Int) := ⟨((10 : Int) - 0).toNat, by omega⟩
              have hloi_66 : 0 ≤ i_66.toInt := by omega
              obtain ⟨v_43, hv_43⟩ : ∃ g : Int32, g = 0 := ⟨_, rfl⟩
              obtain ⟨v_44, hv_44⟩ : ∃ g : Int32, g = (-1) := ⟨_, rfl⟩
              replace hl : lv_has ls 7 [(5, .int i_66), (4, .int v_44), (3, .int v_43), (0, .ref m0), (1, .int 1), (2, .int w)] := by rw [hv_43, hv_44]; exact hl
              have hbv_43 : 0 ≤ v_43.toInt ∧ v_43.toInt ≤ 9 := by rw [hv_43]; exact ⟨by decide, by decide⟩
              have hbv_44 : -1 ≤ v_44.toInt ∧ v_44.toInt ≤ 20736 := by rw [hv_44]; exact ⟨by decide, by decide⟩
              have hvi_66_0 : ((i_66.toInt = 0 ∧ (v_43 : Int32).toInt = 0 ∧ (v_44 : Int32).toInt = -1) ∨ (1 ≤ i_66.toInt ∧ (v_43 : Int32).toInt = (zHs (zHv gki gpa gta npu.toInt.toNat 1 nde.toInt nse.toInt) (i_66.toInt - 1).toNat : Nat) ∧ (v_44 : Int32).toInt = (zHv gki gpa gta npu.toInt.toNat 1 nde.toInt nse.toInt) (zHs (zHv gki gpa gta npu.toInt.toNat 1 nde.toInt nse.toInt) (i_66.toInt - 1).toNat))) := by
                (try rw [hi_66]); (try rw [hv_43]); (try rw [hv_44]); (exact Or.inl ⟨by decide, by decide, by decide⟩)
              have hvi_66_1 : i_66.toInt ≤ 10 := by
                (try rw [hi_66]); (try rw [hv_43]); (try rw [hv_44]); (have k0 : (0 : Int32).toInt = 0 := (by decide); omega)
              clear h1i_66 hi_66 hv_43 hv_44
              skip
              revert hni_66
              revert hloi_66
              revert hvi_66_1
              revert hvi_66_0
              revert hbv_44
              revert hbv_43
              revert hl
              revert hS
              revert hD
              revert hP
              revert ls
              revert locs
              revert H
              revert v_44
              revert v_43
              revert i_66
              induction nfu with
              | zero =>
                intro i_66 v_43 v_44 H locs ls hP hD hS hl hbv_43 hbv_44 hvi_66_0 hvi_66_1 hloi_66 hni_66
                have hzi_66 : 10 ≤ i_66.toInt := by omega
                refine lv_iload hx hb dX8_haste_66 (lv_at hl 0 rfl) ?_
                refine lv_bipush (v := 10) hx hb dX8_haste_68 (by decide) ?_
                refine lv_icmp_ge (tgt := 105) hx hb dX8_haste_70 (by decide) (fun c_45 => ?_) (fun c_45 => ?_)
                · have fc_45 : 10 ≤ i_66.toInt := zf_le c_45 (by decide) rfl
                  refine lv_iload_n hx hb dX8_haste_105 rfl (lv_at hl 2 rfl) ?_
                  exact W.iret (v := v_43) hx hb hr (fun t ht hW => ⟨⟨v_43, grf, rfl, ⟨(show ((w.toInt < 0 ∨ 1 < w.toInt) ∧ (v_43 : Int32).toInt = -5) ∨ ((0 ≤ w.toInt ∧ w.toInt ≤ 1) ∧ ((((1 : Int32).toInt < 0 ∨ 4 < (1 : Int32).toInt) ∧ (v_43 : Int32).toInt = -6) ∨ ((0 ≤ (1 : Int32).toInt ∧ (1 : Int32).toInt ≤ 4) ∧ ((w.toInt = 1 ∧ (v_43 : Int32).toInt = (if (zHv gki gpa gta npu.toInt.toNat (1 : Int32).toInt.toNat nde.toInt nse.toInt) 9 < (zHv gki gpa gta npu.toInt.toNat (1 : Int32).toInt.toNat nde.toInt nse.toInt) 0 then 1 else 0)) ∨ (w.toInt = 0 ∧ (v_43 : Int32).toInt = (zHs (zHv gki gpa gta npu.toInt.toNat (1 : Int32).toInt.toNat nde.toInt nse.toInt) 9 : Nat)))))) from by (have k1 : (1 : Int32).toInt = 1 := (by decide); have k9_ : (9 : Int32).toInt = 9 := (by decide); have k0_ : (0 : Int32).toInt = 0 := (by decide); refine Or.inr ⟨by omega, Or.inr ⟨by omega, Or.inr ⟨by omega, (by rw [show (1 : Int32).toInt.toNat = 1 from by decide]; rcases hvi_66_0 with z | ⟨z1, z2, -⟩; (exfalso; omega); (have h9 : (i_66.toInt - 1).toNat = 9 := (by omega); rw [h9] at z2; exact z2))⟩⟩⟩)), trivial⟩, zRet ht hP hD [0, 1, 2, 3, 4] (by decide) rfl⟩, hS.F ht⟩) hS.2.2 dX8_haste_106
                · exfalso; have fc_45 : i_66.toInt < 10 := zf_nle c_45 (by decide) rfl; omega
              | succ nfu ih =>
                intro i_66 v_43 v_44 H locs ls hP hD hS hl hbv_43 hbv_44 hvi_66_0 hvi_66_1 hloi_66 hni_66
                refine lv_iload hx hb dX8_haste_66 (lv_at hl 0 rfl) ?_
                refine lv_bipush (v := 10) hx hb dX8_haste_68 (by decide) ?_
                refine lv_icmp_ge (tgt := 105) hx hb dX8_haste_70 (by decide) (fun c_46 => ?_) (fun c_46 => ?_)
                · have fc_46 : 10 ≤ i_66.toInt := zf_le c_46 (by decide) rfl
                  refine lv_iload_n hx hb dX8_haste_105 rfl (lv_at hl 2 rfl) ?_
                  exact W.iret (v := v_43) hx hb hr (fun t ht hW => ⟨⟨v_43, grf, rfl, ⟨(show ((w.toInt < 0 ∨ 1 < w.toInt) ∧ (v_43 : Int32).toInt = -5) ∨ ((0 ≤ w.toInt ∧ w.toInt ≤ 1) ∧ ((((1 : Int32).toInt < 0 ∨ 4 < (1 : Int32).toInt) ∧ (v_43 : Int32).toInt = -6) ∨ ((0 ≤ (1 : Int32).toInt ∧ (1 : Int32).toInt ≤ 4) ∧ ((w.toInt = 1 ∧ (v_43 : Int32).toInt = (if (zHv gki gpa gta npu.toInt.toNat (1 : Int32).toInt.toNat nde.toInt nse.toInt) 9 < (zHv gki gpa gta npu.toInt.toNat (1 : Int32).toInt.toNat nde.toInt nse.toInt) 0 then 1 else 0)) ∨ (w.toInt = 0 ∧ (v_43 : Int32).toInt = (zHs (zHv gki gpa gta npu.toInt.toNat (1 : Int32).toInt.toNat nde.toInt nse.toInt) 9 : Nat)))))) from by (have k1 : (1 : Int32).toInt = 1 := (by decide); have k9_ : (9 : Int32).toInt = 9 := (by decide); have k0_ : (0 : Int32).toInt = 0 := (by decide); refine Or.inr ⟨by omega, Or.inr ⟨by omega, Or.inr ⟨by omega, (by rw [show (1 : Int32).toInt.toNat = 1 from by decide]; rcases hvi_66_0 with z | ⟨z1, z2, -⟩; (exfalso; omega); (have h9 : (i_66.toInt - 1).toNat = 9 := (by omega); rw [h9] at z2; exact z2))⟩⟩⟩)), trivial⟩, zRet ht hP hD [0, 1, 2, 3, 4] (by decide) rfl⟩, hS.F ht⟩) hS.2.2 dX8_haste_106
                · have fc_46 : i_66.toInt < 10 := zf_nle c_46 (by decide) rfl
                  refine lv_aload_n hx hb dX8_haste_73 rfl (lv_at hl 3 rfl) ?_
                  refine lv_iload_n hx hb dX8_haste_74 rfl (lv_at hl 4 rfl) ?_
                  refine lv_iload hx hb dX8_haste_75 (lv_at hl 0 rfl) ?_
                  skip
                  refine zw_V (As := [.int 1, .int i_66]) (rest := []) (wr := [(mrf, .inl (cI, 8, .inl grf))]) ⟨hx, hb, hml, hown, hts⟩ (c_F_M_casesIn_1 l D cI cJ cZ cP cS po m0 mrf mki mpa mta mla msl mco mhe mso msi msh mce mca mwo mnu mte mwa mke mma mth mtr (npu) (nte) (nat_) (nde) (nto) (nse) (nhu) (nga) (nsd) (nfa) (nba) (npl) (nen) (nnu) (nwr) (nra) (nik) gki gpa gta (i_66) hy0 hy1 hy2 hy3 hy4 hy5 hy6 hy7 hy8 hy9 hy10 hy11 hy12 hy13 (by omega) (by omega) hy14 hy15 hp_gki hp_gpa hp_gta H.size) (cwV 2 hts gX8_haste_X8_casesIn rfl rfl rfl ⟨rfl, dh_X8_casesIn⟩ ⟨Nat.le_of_ble_eq_true rfl, Nat.le_of_ble_eq_true rfl⟩) hK hN (hZ.kept hS) hP hD hS hA [0, 2, 3, 4] [1] rfl rfl (by decide) (by decide) (by decide) (va_recv (q := (RX8, TX8, 38)) hK hP (ci := 8) (q0 := 0) rfl rfl) rfl hl.1 rfl (Nat.le_of_ble_eq_true rfl) dX8_haste_77 ⟨Nat.le_of_ble_eq_true rfl, Nat.le_of_ble_eq_true rfl⟩ (fun r_47 u_48 H locs hr_47 hP hD hS => ?_)
                  obtain ⟨hsr_47_0, hr_47⟩ := hr_47
                  have h9R := zRe (ws' := [(mrf, .inl (cI, 8, .inl grf)), (zMO m0 npu nte nat_ nde nto nse nhu nga nsd nfa mrf mki mpa mta mla msl mco mhe mso msi msh mce mca mwo mnu mte nba npl nen nnu nwr mwa mke mma mth mtr nra nik), (mki, .inl (cI, 8, .inl gki)), (mpa, .inl (cI, 8, .inl gpa)), (mta, .inl (cI, 8, .inl gta))]) hP hD rfl
                  clear hP hD
                  obtain ⟨hP, hD⟩ := h9R
                  obtain ⟨g_49, g_50⟩ := hr_47
                  refine lv_istore (lv' := [(6, .int r_47), (5, .int i_66), (4, .int v_44), (3, .int v_43), (0, .ref m0), (1, .int 1), (2, .int w)]) hx hb dX8_haste_80 hl (by decide) rfl (fun ls hl => ?_)
                  refine lv_iload hx hb dX8_haste_82 (lv_at hl 0 rfl) ?_
                  refine lv_iload hx hb dX8_haste_84 (lv_at hl 2 rfl) ?_
                  refine lv_icmp_gt (tgt := 92) hx hb dX8_haste_86 (by decide) (fun c_51 => ?_) (fun c_51 => ?_)
                  · have fc_51 : v_44.toInt < r_47.toInt := zf_lt c_51 rfl rfl
                    refine lv_iload hx hb dX8_haste_92 (lv_at hl 1 rfl) ?_
                    refine lv_istore_n (lv' := [(3, .int i_66), (6, .int r_47), (5, .int i_66), (4, .int v_44), (0, .ref m0), (1, .int 1), (2, .int w)]) hx hb dX8_haste_94 rfl hl (by decide) rfl (fun ls hl => ?_)
                    refine lv_iload hx hb dX8_haste_95 (lv_at hl 1 rfl) ?_
                    refine lv_istore (lv' := [(4, .int r_47), (3, .int i_66), (6, .int r_47), (5, .int i_66), (0, .ref m0), (1, .int 1), (2, .int w)]) hx hb dX8_haste_97 hl (by decide) rfl (fun ls hl => ?_)
                    obtain ⟨x_52, ex_52⟩ : ∃ y : Int32, y = i_66 + 1 := ⟨_, rfl⟩
                    have qx_52 : x_52.toInt = i_66.toInt + 1 := dw_incK ex_52 fc_46 (by decide)
                    refine lv_iinc (v := x_52) (lv' := [(5, .int x_52), (4, .int r_47), (3, .int i_66), (6, .int r_47), (0, .ref m0), (1, .int 1), (2, .int w)]) hx hb dX8_haste_99 hl (k := 3) rfl ex_52.symm (by decide) rfl (fun ls hl => ?_)
                    refine lv_goto (tgt := 66) hx hb dX8_haste_102 (by decide) ?_
                    exact ih x_52 i_66 r_47 _ _ _ (hP.sub [1, 0, 2, 3, 4] rfl) (hD.sub [1, 0, 2, 3, 4] (by decide) rfl) hS (lv_sub hl [0, 1, 2, 4, 5, 6] rfl) ⟨by omega, by omega⟩ ⟨by omega, by omega⟩ (show ((x_52.toInt = 0 ∧ (i_66 : Int32).toInt = 0 ∧ (r_47 : Int32).toInt = -1) ∨ (1 ≤ x_52.toInt ∧ (i_66 : Int32).toInt = (zHs (zHv gki gpa gta npu.toInt.toNat 1 nde.toInt nse.toInt) (x_52.toInt - 1).toNat : Nat) ∧ (r_47 : Int32).toInt = (zHv gki gpa gta npu.toInt.toNat 1 nde.toInt nse.toInt) (zHs (zHv gki gpa gta npu.toInt.toNat 1 nde.toInt nse.toInt) (x_52.toInt - 1).toNat))) from by (have y1 : (zHv gki gpa gta npu.toInt.toNat 1 nde.toInt nse.toInt) i_66.toInt.toNat = r_47.toInt := (by have z := hsr_47_0; unfold zHv; rw [show ((i_66.toInt.toNat : Nat) : Int) = i_66.toInt from by omega]; exact z.symm); have hx : (x_52.toInt - 1).toNat = i_66.toInt.toNat := (by omega); refine Or.inr ⟨by omega, ?_⟩; rw [hx]; rcases hvi_66_0 with ⟨w1, w2, w3⟩ | ⟨w1, w2, w3⟩; (have h0 : i_66.toInt.toNat = 0 := (by omega); rw [h0] at y1 ⊢; first | (exact ⟨by (show _ = ((0 : Nat) : Int); omega), y1.symm⟩) | (exfalso; omega)); (have h1 : i_66.toInt.toNat = (i_66.toInt - 1).toNat + 1 := (by omega); rw [h1] at y1 ⊢; rw [zHs_s, y1, ← w3]; first | (rw [if_pos (by omega)]; exact ⟨by omega, y1.symm⟩) | (rw [if_neg (by omega)]; exact ⟨w2, w3⟩)))) (show x_52.toInt ≤ 10 from by omega) (dw_lo hloi_66 qx_52) (dw_hn hni_66 qx_52)
                  · have fc_51 : r_47.toInt ≤ v_44.toInt := zf_nlt c_51 rfl rfl
                    refine lv_goto (tgt := 99) hx hb dX8_haste_89 (by decide) ?_
                    obtain ⟨x_53, ex_53⟩ : ∃ y : Int32, y = i_66 + 1 := ⟨_, rfl⟩
                    have qx_53 : x_53.toInt = i_66.toInt + 1 := dw_incK ex_53 fc_46 (by decide)
                    refine lv_iinc (v := x_53) (lv' := [(5, .int x_53), (6, .int r_47), (4, .int v_44), (3, .int v_43), (0, .ref m0), (1, .int 1), (2, .int w)]) hx hb dX8_haste_99 hl (k := 1) rfl ex_53.symm (by decide) rfl (fun ls hl => ?_)
                    refine lv_goto (tgt := 66) hx hb dX8_haste_102 (by decide) ?_
                    exact ih x_53 v_43 v_44 _ _ _ (hP.sub [1, 0, 2, 3, 4] rfl) (hD.sub [1, 0, 2, 3, 4] (by decide) rfl) hS (lv_sub hl [0, 2, 3, 4, 5, 6] rfl) hbv_43 hbv_44 (show ((x_53.toInt = 0 ∧ (v_43 : Int32).toInt = 0 ∧ (v_44 : Int32).toInt = -1) ∨ (1 ≤ x_53.toInt ∧ (v_43 : Int32).toInt = (zHs (zHv gki gpa gta npu.toInt.toNat 1 nde.toInt nse.toInt) (x_53.toInt - 1).toNat : Nat) ∧ (v_44 : Int32).toInt = (zHv gki gpa gta npu.toInt.toNat 1 nde.toInt nse.toInt) (zHs (zHv gki gpa gta npu.toInt.toNat 1 nde.toInt nse.toInt) (x_53.toInt - 1).toNat))) from by (have y1 : (zHv gki gpa gta npu.toInt.toNat 1 nde.toInt nse.toInt) i_66.toInt.toNat = r_47.toInt := (by have z := hsr_47_0; unfold zHv; rw [show ((i_66.toInt.toNat : Nat) : Int) = i_66.toInt from by omega]; exact z.symm); have hx : (x_53.toInt - 1).toNat = i_66.toInt.toNat := (by omega); refine Or.inr ⟨by omega, ?_⟩; rw [hx]; rcases hvi_66_0 with ⟨w1, w2, w3⟩ | ⟨w1, w2, w3⟩; (have h0 : i_66.toInt.toNat = 0 := (by omega); rw [h0] at y1 ⊢; first | (exact ⟨by (show _ = ((0 : Nat) : Int); omega), y1.symm⟩) | (exfalso; omega)); (have h1 : i_66.toInt.toNat = (i_66.toInt - 1).toNat + 1 := (by omega); rw [h1] at y1 ⊢; rw [zHs_s, y1, ← w3]; first | (rw [if_pos (by omega)]; exact ⟨by omega, y1.symm⟩) | (rw [if_neg (by omega)]; exact ⟨w2, w3⟩)))) (show x_53.toInt ≤ 10 from by omega) (dw_lo hloi_66 qx_53) (dw_hn hni_66 qx_53)
            · have fc_42 : w.toInt = 1 := zf_eq c_42 rfl (by decide)
              refine lv_aload_n hx hb dX8_haste_36 rfl (lv_at hl 0 rfl) ?_
              refine lv_iload_n hx hb dX8_haste_37 rfl (lv_at hl 1 rfl) ?_
              refine lv_bipush (v := 9) hx hb dX8_haste_38 (by decide) ?_
              have kc9 : (9 : Int32).toInt = 9 := by decide
              skip
              refine zw_V (As := [.int 1, .int 9]) (rest := []) (wr := [(mrf, .inl (cI, 8, .inl grf))]) ⟨hx, hb, hml, hown, hts⟩ (c_F_M_casesIn_1 l D cI cJ cZ cP cS po m0 mrf mki mpa mta mla msl mco mhe mso msi msh mce mca mwo mnu mte mwa mke mma mth mtr (npu) (nte) (nat_) (nde) (nto) (nse) (nhu) (nga) (nsd) (nfa) (nba) (npl) (nen) (nnu) (nwr) (nra) (nik) gki gpa gta (9) hy0 hy1 hy2 hy3 hy4 hy5 hy6 hy7 hy8 hy9 hy10 hy11 hy12 hy13 (by omega) (by omega) hy14 hy15 hp_gki hp_gpa hp_gta H.size) (cwV 2 hts gX8_haste_X8_casesIn rfl rfl rfl ⟨rfl, dh_X8_casesIn⟩ ⟨Nat.le_of_ble_eq_true rfl, Nat.le_of_ble_eq_true rfl⟩) hK hN (hZ.kept hS) hP hD hS hA [0, 2, 3, 4] [1] rfl rfl (by decide) (by decide) (by decide) (va_recv (q := (RX8, TX8, 38)) hK hP (ci := 8) (q0 := 0) rfl rfl) rfl hl.1 rfl (Nat.le_of_ble_eq_true rfl) dX8_haste_40 ⟨Nat.le_of_ble_eq_true rfl, Nat.le_of_ble_eq_true rfl⟩ (fun r_54 u_55 H locs hr_54 hP hD hS => ?_)
              obtain ⟨hsr_54_0, hr_54⟩ := hr_54
              have h9R := zRe (ws' := [(mrf, .inl (cI, 8, .inl grf)), (zMO m0 npu nte nat_ nde nto nse nhu nga nsd nfa mrf mki mpa mta mla msl mco mhe mso msi msh mce mca mwo mnu mte nba npl nen nnu nwr mwa mke mma mth mtr nra nik), (mki, .inl (cI, 8, .inl gki)), (mpa, .inl (cI, 8, .inl gpa)), (mta, .inl (cI, 8, .inl gta))]) hP hD rfl
              clear hP hD
              obtain ⟨hP, hD⟩ := h9R
              obtain ⟨g_56, g_57⟩ := hr_54
              refine lv_aload_n hx hb dX8_haste_43 rfl (lv_at hl 0 rfl) ?_
              refine lv_iload_n hx hb dX8_haste_44 rfl (lv_at hl 1 rfl) ?_
              refine lv_iconst (v := 0) hx hb dX8_haste_45 (by decide) ?_
              have kc0 : (0 : Int32).toInt = 0 := by decide
              skip
              refine zw_V (As := [.int 1, .int 0]) (rest := [.int r_54]) (wr := [(mrf, .inl (cI, 8, .inl grf))]) ⟨hx, hb, hml, hown, hts⟩ (c_F_M_casesIn_1 l D cI cJ cZ cP cS po m0 mrf mki mpa mta mla msl mco mhe mso msi msh mce mca mwo mnu mte mwa mke mma mth mtr (npu) (nte) (nat_) (nde) (nto) (nse) (nhu) (nga) (nsd) (nfa) (nba) (npl) (nen) (nnu) (nwr) (nra) (nik) gki gpa gta (0) hy0 hy1 hy2 hy3 hy4 hy5 hy6 hy7 hy8 hy9 hy10 hy11 hy12 hy13 (by omega) (by omega) hy14 hy15 hp_gki hp_gpa hp_gta H.size) (cwV 2 hts gX8_haste_X8_casesIn rfl rfl rfl ⟨rfl, dh_X8_casesIn⟩ ⟨Nat.le_of_ble_eq_true rfl, Nat.le_of_ble_eq_true rfl⟩) hK hN (hZ.kept hS) hP hD hS hA [1, 2, 3, 4] [0] rfl rfl (by decide) (by decide) (by decide) (va_recv (q := (RX8, TX8, 38)) hK hP (ci := 8) (q0 := 1) rfl rfl) rfl hl.1 rfl (Nat.le_of_ble_eq_true rfl) dX8_haste_46 ⟨Nat.le_of_ble_eq_true rfl, Nat.le_of_ble_eq_true rfl⟩ (fun r_58 u_59 H locs hr_58 hP hD hS => ?_)
              obtain ⟨hsr_58_0, hr_58⟩ := hr_58
              have h9R := zRe (ws' := [(mrf, .inl (cI, 8, .inl grf)), (zMO m0 npu nte nat_ nde nto nse nhu nga nsd nfa mrf mki mpa mta mla msl mco mhe mso msi msh mce mca mwo mnu mte nba npl nen nnu nwr mwa mke mma mth mtr nra nik), (mki, .inl (cI, 8, .inl gki)), (mpa, .inl (cI, 8, .inl gpa)), (mta, .inl (cI, 8, .inl gta))]) hP hD rfl
              clear hP hD
              obtain ⟨hP, hD⟩ := h9R
              obtain ⟨g_60, g_61⟩ := hr_58
              refine lv_icmp_ge (tgt := 56) hx hb dX8_haste_49 (by decide) (fun c_62 => ?_) (fun c_62 => ?_)
              · have fc_62 : r_58.toInt ≤ r_54.toInt := zf_le c_62 rfl rfl
                refine lv_iconst (v := 0) hx hb dX8_haste_56 (by decide) ?_
                exact W.iret (v := 0) hx hb hr (fun t ht hW => ⟨⟨0, grf, rfl, ⟨(show ((w.toInt < 0 ∨ 1 < w.toInt) ∧ (0 : Int32).toInt = -5) ∨ ((0 ≤ w.toInt ∧ w.toInt ≤ 1) ∧ ((((1 : Int32).toInt < 0 ∨ 4 < (1 : Int32).toInt) ∧ (0 : Int32).toInt = -6) ∨ ((0 ≤ (1 : Int32).toInt ∧ (1 : Int32).toInt ≤ 4) ∧ ((w.toInt = 1 ∧ (0 : Int32).toInt = (if (zHv gki gpa gta npu.toInt.toNat (1 : Int32).toInt.toNat nde.toInt nse.toInt) 9 < (zHv gki gpa gta npu.toInt.toNat (1 : Int32).toInt.toNat nde.toInt nse.toInt) 0 then 1 else 0)) ∨ (w.toInt = 0 ∧ (0 : Int32).toInt = (zHs (zHv gki gpa gta npu.toInt.toNat (1 : Int32).toInt.toNat nde.toInt nse.toInt) 9 : Nat)))))) from by (have k0 : (0 : Int32).toInt = 0 := (by decide); have k1 : (1 : Int32).toInt = 1 := (by decide); have k9 : (0 : Int32).toInt = 0 := (by decide); have k9_ : (9 : Int32).toInt = 9 := (by decide); have k0_ : (0 : Int32).toInt = 0 := (by decide); refine Or.inr ⟨by omega, Or.inr ⟨by omega, Or.inl ⟨by omega, (by rw [show (1 : Int32).toInt.toNat = 1 from by decide]; have z1 := hsr_54_0; have z2 := hsr_58_0; rw [k9_] at z1; rw [k0_] at z2; have y1 : (zHv gki gpa gta npu.toInt.toNat 1 nde.toInt nse.toInt) 9 = r_54.toInt := z1.symm; have y2 : (zHv gki gpa gta npu.toInt.toNat 1 nde.toInt nse.toInt) 0 = r_58.toInt := z2.symm; rw [y1, y2]; first | (rw [if_neg (by omega)]; omega) | (rw [if_pos (by omega)]; omega))⟩⟩⟩)), trivial⟩, zRet ht hP hD [1, 0, 2, 3, 4] (by decide) rfl⟩, hS.F ht⟩) hS.2.2 dX8_haste_57
              · have fc_62 : r_54.toInt < r_58.toInt := zf_nle c_62 rfl rfl
                refine lv_iconst (v := 1) hx hb dX8_haste_52 (by decide) ?_
                refine lv_goto (tgt := 57) hx hb dX8_haste_53 (by decide) ?_
                exact W.iret (v := 1) hx hb hr (fun t ht hW => ⟨⟨1, grf, rfl, ⟨(show ((w.toInt < 0 ∨ 1 < w.toInt) ∧ (1 : Int32).toInt = -5) ∨ ((0 ≤ w.toInt ∧ w.toInt ≤ 1) ∧ ((((1 : Int32).toInt < 0 ∨ 4 < (1 : Int32).toInt) ∧ (1 : Int32).toInt = -6) ∨ ((0 ≤ (1 : Int32).toInt ∧ (1 : Int32).toInt ≤ 4) ∧ ((w.toInt = 1 ∧ (1 : Int32).toInt = (if (zHv gki gpa gta npu.toInt.toNat (1 : Int32).toInt.toNat nde.toInt nse.toInt) 9 < (zHv gki gpa gta npu.toInt.toNat (1 : Int32).toInt.toNat nde.toInt nse.toInt) 0 then 1 else 0)) ∨ (w.toInt = 0 ∧ (1 : Int32).toInt = (zHs (zHv gki gpa gta npu.toInt.toNat (1 : Int32).toInt.toNat nde.toInt nse.toInt) 9 : Nat)))))) from by (have k1 : (1 : Int32).toInt = 1 := (by decide); have k9 : (1 : Int32).toInt = 1 := (by decide); have k9_ : (9 : Int32).toInt = 9 := (by decide); have k0_ : (0 : Int32).toInt = 0 := (by decide); refine Or.inr ⟨by omega, Or.inr ⟨by omega, Or.inl ⟨by omega, (by rw [show (1 : Int32).toInt.toNat = 1 from by decide]; have z1 := hsr_54_0; have z2 := hsr_58_0; rw [k9_] at z1; rw [k0_] at z2; have y1 : (zHv gki gpa gta npu.toInt.toNat 1 nde.toInt nse.toInt) 9 = r_54.toInt := z1.symm; have y2 : (zHv gki gpa gta npu.toInt.toNat 1 nde.toInt nse.toInt) 0 = r_58.toInt := z2.symm; rw [y1, y2]; first | (rw [if_pos (by omega)]; omega) | (rw [if_neg (by omega)]; omega))⟩⟩⟩)), trivial⟩, zRet ht hP hD [1, 0, 2, 3, 4] (by decide) rfl⟩, hS.F ht⟩) hS.2.2 dX8_haste_57
          · have kc2 : (2 : Int32).toInt = 2 := by decide
            refine lv_iload_n hx hb dX8_haste_31 rfl (lv_at hl 2 rfl) ?_
            refine lv_iconst (v := 1) hx hb dX8_haste_32 (by decide) ?_
            refine lv_icmp_ne (tgt := 58) hx hb dX8_haste_33 (by decide) (fun c_63 => ?_) (fun c_63 => ?_)
            · have fc_63 : w.toInt ≠ 1 := zf_ne c_63 rfl (by decide)
              refine lv_iconst (v := 0) hx hb dX8_haste_58 (by decide) ?_
              refine lv_istore_n (lv' := [(3, .int 0), (0, .ref m0), (1, .int 2), (2, .int w)]) hx hb dX8_haste_59 rfl hl (by decide) rfl (fun ls hl => ?_)
              refine lv_iconst (v := (-1)) hx hb dX8_haste_60 (by decide) ?_
              refine lv_istore (lv' := [(4, .int (-1)), (3, .int 0), (0, .ref m0), (1, .int 2), (2, .int w)]) hx hb dX8_haste_61 hl (by decide) rfl (fun ls hl => ?_)
              refine lv_iconst (v := 0) hx hb dX8_haste_63 (by decide) ?_
              refine lv_istore (lv' := [(5, .int 0), (4, .int (-1)), (3, .int 0), (0, .ref m0), (1, .int 2), (2, .int w)]) hx hb dX8_haste_64 hl (by decide) rfl (fun ls hl => ?_)
              obtain ⟨i_66, hi_66⟩ : ∃ i : Int32, i = 0 := ⟨_, rfl⟩
              replace hl : lv_has ls 7 [(5, .int i_66), (4, .int (-1)), (3, .int 0), (0, .ref m0), (1, .int 2), (2, .int w)] := by rw [hi_66]; exact lv_sub hl [0, 1, 2, 3, 4, 5] rfl
              have h1i_66 : i_66.toInt = 0 := by rw [hi_66]; decide
              obtain ⟨nfu, hni_66⟩ : ∃ nq9 : Nat, 10 ≤ i_66.toInt + (nq9 : Int) := ⟨((10 : Int) - 0).toNat, by omega⟩
              have hloi_66 : 0 ≤ i_66.toInt := by omega
              obtain ⟨v_64, hv_64⟩ : ∃ g : Int32, g = 0 := ⟨_, rfl⟩
              obtain ⟨v_65, hv_65⟩ : ∃ g : Int32, g = (-1) := ⟨_, rfl⟩
              replace hl : lv_has ls 7 [(5, .int i_66), (4, .int v_65), (3, .int v_64), (0, .ref m0), (1, .int 2), (2, .int w)] := by rw [hv_64, hv_65]; exact hl
              have hbv_64 : 0 ≤ v_64.toInt ∧ v_64.toInt ≤ 9 := by rw [hv_64]; exact ⟨by decide, by decide⟩
              have hbv_65 : -1 ≤ v_65.toInt ∧ v_65.toInt ≤ 20736 := by rw [hv_65]; exact ⟨by decide, by decide⟩
              have hvi_66_0 : ((i_66.toInt = 0 ∧ (v_64 : Int32).toInt = 0 ∧ (v_65 : Int32).toInt = -1) ∨ (1 ≤ i_66.toInt ∧ (v_64 : Int32).toInt = (zHs (zHv gki gpa gta npu.toInt.toNat 2 nde.toInt nse.toInt) (i_66.toInt - 1).toNat : Nat) ∧ (v_65 : Int32).toInt = (zHv gki gpa gta npu.toInt.toNat 2 nde.toInt nse.toInt) (zHs (zHv gki gpa gta npu.toInt.toNat 2 nde.toInt nse.toInt) (i_66.toInt - 1).toNat))) := by
                (try rw [hi_66]); (try rw [hv_64]); (try rw [hv_65]); (exact Or.inl ⟨by decide, by decide, by decide⟩)
              have hvi_66_1 : i_66.toInt ≤ 10 := by
                (try rw [hi_66]); (try rw [hv_64]); (try rw [hv_65]); (have k0 : (0 : Int32).toInt = 0 := (by decide); omega)
              clear h1i_66 hi_66 hv_64 hv_65
              skip
              revert hni_66
              revert hloi_66
              revert hvi_66_1
              revert hvi_66_0
              revert hbv_65
              revert hbv_64
              revert hl
              revert hS
              revert hD
              revert hP
              revert ls
              revert locs
              revert H
              revert v_65
              revert v_64
              revert i_66
              induction nfu with
              | zero =>
                intro i_66 v_64 v_65 H locs ls hP hD hS hl hbv_64 hbv_65 hvi_66_0 hvi_66_1 hloi_66 hni_66
                have hzi_66 : 10 ≤ i_66.toInt := by omega
                refine lv_iload hx hb dX8_haste_66 (lv_at hl 0 rfl) ?_
                refine lv_bipush (v := 10) hx hb dX8_haste_68 (by decide) ?_
                refine lv_icmp_ge (tgt := 105) hx hb dX8_haste_70 (by decide) (fun c_66 => ?_) (fun c_66 => ?_)
                · have fc_66 : 10 ≤ i_66.toInt := zf_le c_66 (by decide) rfl
                  refine lv_iload_n hx hb dX8_haste_105 rfl (lv_at hl 2 rfl) ?_
                  exact W.iret (v := v_64) hx hb hr (fun t ht hW => ⟨⟨v_64, grf, rfl, ⟨(show ((w.toInt < 0 ∨ 1 < w.toInt) ∧ (v_64 : Int32).toInt = -5) ∨ ((0 ≤ w.toInt ∧ w.toInt ≤ 1) ∧ ((((2 : Int32).toInt < 0 ∨ 4 < (2 : Int32).toInt) ∧ (v_64 : Int32).toInt = -6) ∨ ((0 ≤ (2 : Int32).toInt ∧ (2 : Int32).toInt ≤ 4) ∧ ((w.toInt = 1 ∧ (v_64 : Int32).toInt = (if (zHv gki gpa gta npu.toInt.toNat (2 : Int32).toInt.toNat nde.toInt nse.toInt) 9 < (zHv gki gpa gta npu.toInt.toNat (2 : Int32).toInt.toNat nde.toInt nse.toInt) 0 then 1 else 0)) ∨ (w.toInt = 0 ∧ (v_64 : Int32).toInt = (zHs (zHv gki gpa gta npu.toInt.toNat (2 : Int32).toInt.toNat nde.toInt nse.toInt) 9 : Nat)))))) from by (have k2 : (2 : Int32).toInt = 2 := (by decide); have k9_ : (9 : Int32).toInt = 9 := (by decide); have k0_ : (0 : Int32).toInt = 0 := (by decide); refine Or.inr ⟨by omega, Or.inr ⟨by omega, Or.inr ⟨by omega, (by rw [show (2 : Int32).toInt.toNat = 2 from by decide]; rcases hvi_66_0 with z | ⟨z1, z2, -⟩; (exfalso; omega); (have h9 : (i_66.toInt - 1).toNat = 9 := (by omega); rw [h9] at z2; exact z2))⟩⟩⟩)), trivial⟩, zRet ht hP hD [0, 1, 2, 3, 4] (by decide) rfl⟩, hS.F ht⟩) hS.2.2 dX8_haste_106
                · exfalso; have fc_66 : i_66.toInt < 10 := zf_nle c_66 (by decide) rfl; omega
              | succ nfu ih =>
                intro i_66 v_64 v_65 H locs ls hP hD hS hl hbv_64 hbv_65 hvi_66_0 hvi_66_1 hloi_66 hni_66
                refine lv_iload hx hb dX8_haste_66 (lv_at hl 0 rfl) ?_
                refine lv_bipush (v := 10) hx hb dX8_haste_68 (by decide) ?_
                refine lv_icmp_ge (tgt := 105) hx hb dX8_haste_70 (by decide) (fun c_67 => ?_) (fun c_67 => ?_)
                · have fc_67 : 10 ≤ i_66.toInt := zf_le c_67 (by decide) rfl
                  refine lv_iload_n hx hb dX8_haste_105 rfl (lv_at hl 2 rfl) ?_
                  exact W.iret (v := v_64) hx hb hr (fun t ht hW => ⟨⟨v_64, grf, rfl, ⟨(show ((w.toInt < 0 ∨ 1 < w.toInt) ∧ (v_64 : Int32).toInt = -5) ∨ ((0 ≤ w.toInt ∧ w.toInt ≤ 1) ∧ ((((2 : Int32).toInt < 0 ∨ 4 < (2 : Int32).toInt) ∧ (v_64 : Int32).toInt = -6) ∨ ((0 ≤ (2 : Int32).toInt ∧ (2 : Int32).toInt ≤ 4) ∧ ((w.toInt = 1 ∧ (v_64 : Int32).toInt = (if (zHv gki gpa gta npu.toInt.toNat (2 : Int32).toInt.toNat nde.toInt nse.toInt) 9 < (zHv gki gpa gta npu.toInt.toNat (2 : Int32).toInt.toNat nde.toInt nse.toInt) 0 then 1 else 0)) ∨ (w.toInt = 0 ∧ (v_64 : Int32).toInt = (zHs (zHv gki gpa gta npu.toInt.toNat (2 : Int32).toInt.toNat nde.toInt nse.toInt) 9 : Nat)))))) from by (have k2 : (2 : Int32).toInt = 2 := (by decide); have k9_ : (9 : Int32).toInt = 9 := (by decide); have k0_ : (0 : Int32).toInt = 0 := (by decide); refine Or.inr ⟨by omega, Or.inr ⟨by omega, Or.inr ⟨by omega, (by rw [show (2 : Int32).toInt.toNat = 2 from by decide]; rcases hvi_66_0 with z | ⟨z1, z2, -⟩; (exfalso; omega); (have h9 : (i_66.toInt - 1).toNat = 9 := (by omega); rw [h9] at z2; exact z2))⟩⟩⟩)), trivial⟩, zRet ht hP hD [0, 1, 2, 3, 4] (by decide) rfl⟩, hS.F ht⟩) hS.2.2 dX8_haste_106
                · have fc_67 : i_66.toInt < 10 := zf_nle c_67 (by decide) rfl
                  refine lv_aload_n hx hb dX8_haste_73 rfl (lv_at hl 3 rfl) ?_
                  refine lv_iload_n hx hb dX8_haste_74 rfl (lv_at hl 4 rfl) ?_
                  refine lv_iload hx hb dX8_haste_75 (lv_at hl 0 rfl) ?_
                  skip
                  refine zw_V (As := [.int 2, .int i_66]) (rest := []) (wr := [(mrf, .inl (cI, 8, .inl grf))]) ⟨hx, hb, hml, hown, hts⟩ (c_F_M_casesIn_2 l D cI cJ cZ cP cS po m0 mrf mki mpa mta mla msl mco mhe mso msi msh mce mca mwo mnu mte mwa mke mma mth mtr (npu) (nte) (nat_) (nde) (nto) (nse) (nhu) (nga) (nsd) (nfa) (nba) (npl) (nen) (nnu) (nwr) (nra) (nik) gki gpa gta (i_66) hy0 hy1 hy2 hy3 hy4 hy5 hy6 hy7 hy8 hy9 hy10 hy11 hy12 hy13 (by omega) (by omega) hy14 hy15 hp_gki hp_gpa hp_gta H.size) (cwV 2 hts gX8_haste_X8_casesIn rfl rfl rfl ⟨rfl, dh_X8_casesIn⟩ ⟨Nat.le_of_ble_eq_true rfl, Nat.le_of_ble_eq_true rfl⟩) hK hN (hZ.kept hS) hP hD hS hA [0, 2, 3, 4] [1] rfl rfl (by decide) (by decide) (by decide) (va_recv (q := (RX8, TX8, 38)) hK hP (ci := 8) (q0 := 0) rfl rfl) rfl hl.1 rfl (Nat.le_of_ble_eq_true rfl) dX8_haste_77 ⟨Nat.le_of_ble_eq_true rfl, Nat.le_of_ble_eq_true rfl⟩ (fun r_68 u_69 H locs hr_68 hP hD hS => ?_)
                  obtain ⟨hsr_68_0, hr_68⟩ := hr_68
                  have h9R := zRe (ws' := [(mrf, .inl (cI, 8, .inl grf)), (zMO m0 npu nte nat_ nde nto nse nhu nga nsd nfa mrf mki mpa mta mla msl mco mhe mso msi msh mce mca mwo mnu mte nba npl nen nnu nwr mwa mke mma mth mtr nra nik), (mki, .inl (cI, 8, .inl gki)), (mpa, .inl (cI, 8, .inl gpa)), (mta, .inl (cI, 8, .inl gta))]) hP hD rfl
                  clear hP hD
                  obtain ⟨hP, hD⟩ := h9R
                  obtain ⟨g_70, g_71⟩ := hr_68
                  refine lv_istore (lv' := [(6, .int r_68), (5, .int i_66), (4, .int v_65), (3, .int v_64), (0, .ref m0), (1, .int 2), (2, .int w)]) hx hb dX8_haste_80 hl (by decide) rfl (fun ls hl => ?_)
                  refine lv_iload hx hb dX8_haste_82 (lv_at hl 0 rfl) ?_
                  refine lv_iload hx hb dX8_haste_84 (lv_at hl 2 rfl) ?_
                  refine lv_icmp_gt (tgt := 92) hx hb dX8_haste_86 (by decide) (fun c_72 => ?_) (fun c_72 => ?_)
                  · have fc_72 : v_65.toInt < r_68.toInt := zf_lt c_72 rfl rfl
                    refine lv_iload hx hb dX8_haste_92 (lv_at hl 1 rfl) ?_
                    refine lv_istore_n (lv' := [(3, .int i_66), (6, .int r_68), (5, .int i_66), (4, .int v_65), (0, .ref m0), (1, .int 2), (2, .int w)]) hx hb dX8_haste_94 rfl hl (by decide) rfl (fun ls hl => ?_)
                    refine lv_iload hx hb dX8_haste_95 (lv_at hl 1 rfl) ?_
                    refine lv_istore (lv' := [(4, .int r_68), (3, .int i_66), (6, .int r_68), (5, .int i_66), (0, .ref m0), (1, .int 2), (2, .int w)]) hx hb dX8_haste_97 hl (by decide) rfl (fun ls hl => ?_)
                    obtain ⟨x_73, ex_73⟩ : ∃ y : Int32, y = i_66 + 1 := ⟨_, rfl⟩
                    have qx_73 : x_73.toInt = i_66.toInt + 1 := dw_incK ex_73 fc_67 (by decide)
                    refine lv_iinc (v := x_73) (lv' := [(5, .int x_73), (4, .int r_68), (3, .int i_66), (6, .int r_68), (0, .ref m0), (1, .int 2), (2, .int w)]) hx hb dX8_haste_99 hl (k := 3) rfl ex_73.symm (by decide) rfl (fun ls hl => ?_)
                    refine lv_goto (tgt := 66) hx hb dX8_haste_102 (by decide) ?_
                    exact ih x_73 i_66 r_68 _ _ _ (hP.sub [1, 0, 2, 3, 4] rfl) (hD.sub [1, 0, 2, 3, 4] (by decide) rfl) hS (lv_sub hl [0, 1, 2, 4, 5, 6] rfl) ⟨by omega, by omega⟩ ⟨by omega, by omega⟩ (show ((x_73.toInt = 0 ∧ (i_66 : Int32).toInt = 0 ∧ (r_68 : Int32).toInt = -1) ∨ (1 ≤ x_73.toInt ∧ (i_66 : Int32).toInt = (zHs (zHv gki gpa gta npu.toInt.toNat 2 nde.toInt nse.toInt) (x_73.toInt - 1).toNat : Nat) ∧ (r_68 : Int32).toInt = (zHv gki gpa gta npu.toInt.toNat 2 nde.toInt nse.toInt) (zHs (zHv gki gpa gta npu.toInt.toNat 2 nde.toInt nse.toInt) (x_73.toInt - 1).toNat))) from by (have y1 : (zHv gki gpa gta npu.toInt.toNat 2 nde.toInt nse.toInt) i_66.toInt.toNat = r_68.toInt := (by have z := hsr_68_0; unfold zHv; rw [show ((i_66.toInt.toNat : Nat) : Int) = i_66.toInt from by omega]; exact z.symm); have hx : (x_73.toInt - 1).toNat = i_66.toInt.toNat := (by omega); refine Or.inr ⟨by omega, ?_⟩; rw [hx]; rcases hvi_66_0 with ⟨w1, w2, w3⟩ | ⟨w1, w2, w3⟩; (have h0 : i_66.toInt.toNat = 0 := (by omega); rw [h0] at y1 ⊢; first | (exact ⟨by (show _ = ((0 : Nat) : Int); omega), y1.symm⟩) | (exfalso; omega)); (have h1 : i_66.toInt.toNat = (i_66.toInt - 1).toNat + 1 := (by omega); rw [h1] at y1 ⊢; rw [zHs_s, y1, ← w3]; first | (rw [if_pos (by omega)]; exact ⟨by omega, y1.symm⟩) | (rw [if_neg (by omega)]; exact ⟨w2, w3⟩)))) (show x_73.toInt ≤ 10 from by omega) (dw_lo hloi_66 qx_73) (dw_hn hni_66 qx_73)
                  · have fc_72 : r_68.toInt ≤ v_65.toInt := zf_nlt c_72 rfl rfl
                    refine lv_goto (tgt := 99) hx hb dX8_haste_89 (by decide) ?_
                    obtain ⟨x_74, ex_74⟩ : ∃ y : Int32, y = i_66 + 1 := ⟨_, rfl⟩
                    have qx_74 : x_74.toInt = i_66.toInt + 1 := dw_incK ex_74 fc_67 (by decide)
                    refine lv_iinc (v := x_74) (lv' := [(5, .int x_74), (6, .int r_68), (4, .int v_65), (3, .int v_64), (0, .ref m0), (1, .int 2), (2, .int w)]) hx hb dX8_haste_99 hl (k := 1) rfl ex_74.symm (by decide) rfl (fun ls hl => ?_)
                    refine lv_goto (tgt := 66) hx hb dX8_haste_102 (by decide) ?_
                    exact ih x_74 v_64 v_65 _ _ _ (hP.sub [1, 0, 2, 3, 4] rfl) (hD.sub [1, 0, 2, 3, 4] (by decide) rfl) hS (lv_sub hl [0, 2, 3, 4, 5, 6] rfl) hbv_64 hbv_65 (show ((x_74.toInt = 0 ∧ (v_64 : Int32).toInt = 0 ∧ (v_65 : Int32).toInt = -1) ∨ (1 ≤ x_74.toInt ∧ (v_64 : Int32).toInt = (zHs (zHv gki gpa gta npu.toInt.toNat 2 nde.toInt nse.toInt) (x_74.toInt - 1).toNat : Nat) ∧ (v_65 : Int32).toInt = (zHv gki gpa gta npu.toInt.toNat 2 nde.toInt nse.toInt) (zHs (zHv gki gpa gta npu.toInt.toNat 2 nde.toInt nse.toInt) (x_74.toInt - 1).toNat))) from by (have y1 : (zHv gki gpa gta npu.toInt.toNat 2 nde.toInt nse.toInt) i_66.toInt.toNat = r_68.toInt := (by have z := hsr_68_0; unfold zHv; rw [show ((i_66.toInt.toNat : Nat) : Int) = i_66.toInt from by omega]; exact z.symm); have hx : (x_74.toInt - 1).toNat = i_66.toInt.toNat := (by omega); refine Or.inr ⟨by omega, ?_⟩; rw [hx]; rcases hvi_66_0 with ⟨w1, w2, w3⟩ | ⟨w1, w2, w3⟩; (have h0 : i_66.toInt.toNat = 0 := (by omega); rw [h0] at y1 ⊢; first | (exact ⟨by (show _ = ((0 : Nat) : Int); omega), y1.symm⟩) | (exfalso; omega)); (have h1 : i_66.toInt.toNat = (i_66.toInt - 1).toNat + 1 := (by omega); rw [h1] at y1 ⊢; rw [zHs_s, y1, ← w3]; first | (rw [if_pos (by omega)]; exact ⟨by omega, y1.symm⟩) | (rw [if_neg (by omega)]; exact ⟨w2, w3⟩)))) (show x_74.toInt ≤ 10 from by omega) (dw_lo hloi_66 qx_74) (dw_hn hni_66 qx_74)
            · have fc_63 : w.toInt = 1 := zf_eq c_63 rfl (by decide)
              refine lv_aload_n hx hb dX8_haste_36 rfl (lv_at hl 0 rfl) ?_
              refine lv_iload_n hx hb dX8_haste_37 rfl (lv_at hl 1 rfl) ?_
              refine lv_bipush (v := 9) hx hb dX8_haste_38 (by decide) ?_
              have kc9 : (9 : Int32).toInt = 9 := by decide
              skip
              refine zw_V (As := [.int 2, .int 9]) (rest := []) (wr := [(mrf, .inl (cI, 8, .inl grf))]) ⟨hx, hb, hml, hown, hts⟩ (c_F_M_casesIn_2 l D cI cJ cZ cP cS po m0 mrf mki mpa mta mla msl mco mhe mso msi msh mce mca mwo mnu mte mwa mke mma mth mtr (npu) (nte) (nat_) (nde) (nto) (nse) (nhu) (nga) (nsd) (nfa) (nba) (npl) (nen) (nnu) (nwr) (nra) (nik) gki gpa gta (9) hy0 hy1 hy2 hy3 hy4 hy5 hy6 hy7 hy8 hy9 hy10 hy11 hy12 hy13 (by omega) (by omega) hy14 hy15 hp_gki hp_gpa hp_gta H.size) (cwV 2 hts gX8_haste_X8_casesIn rfl rfl rfl ⟨rfl, dh_X8_casesIn⟩ ⟨Nat.le_of_ble_eq_true rfl, Nat.le_of_ble_eq_true rfl⟩) hK hN (hZ.kept hS) hP hD hS hA [0, 2, 3, 4] [1] rfl rfl (by decide) (by decide) (by decide) (va_recv (q := (RX8, TX8, 38)) hK hP (ci := 8) (q0 := 0) rfl rfl) rfl hl.1 rfl (Nat.le_of_ble_eq_true rfl) dX8_haste_40 ⟨Nat.le_of_ble_eq_true rfl, Nat.le_of_ble_eq_true rfl⟩ (fun r_75 u_76 H locs hr_75 hP hD hS => ?_)
              obtain ⟨hsr_75_0, hr_75⟩ := hr_75
              have h9R := zRe (ws' := [(mrf, .inl (cI, 8, .inl grf)), (zMO m0 npu nte nat_ nde nto nse nhu nga nsd nfa mrf mki mpa mta mla msl mco mhe mso msi msh mce mca mwo mnu mte nba npl nen nnu nwr mwa mke mma mth mtr nra nik), (mki, .inl (cI, 8, .inl gki)), (mpa, .inl (cI, 8, .inl gpa)), (mta, .inl (cI, 8, .inl gta))]) hP hD rfl
              clear hP hD
              obtain ⟨hP, hD⟩ := h9R
              obtain ⟨g_77, g_78⟩ := hr_75
              refine lv_aload_n hx hb dX8_haste_43 rfl (lv_at hl 0 rfl) ?_
              refine lv_iload_n hx hb dX8_haste_44 rfl (lv_at hl 1 rfl) ?_
              refine lv_iconst (v := 0) hx hb dX8_haste_45 (by decide) ?_
              have kc0 : (0 : Int32).toInt = 0 := by decide
              skip
              refine zw_V (As := [.int 2, .int 0]) (rest := [.int r_75]) (wr := [(mrf, .inl (cI, 8, .inl grf))]) ⟨hx, hb, hml, hown, hts⟩ (c_F_M_casesIn_2 l D cI cJ cZ cP cS po m0 mrf mki mpa mta mla msl mco mhe mso msi msh mce mca mwo mnu mte mwa mke mma mth mtr (npu) (nte) (nat_) (nde) (nto) (nse) (nhu) (nga) (nsd) (nfa) (nba) (npl) (nen) (nnu) (nwr) (nra) (nik) gki gpa gta (0) hy0 hy1 hy2 hy3 hy4 hy5 hy6 hy7 hy8 hy9 hy10 hy11 hy12 hy13 (by omega) (by omega) hy14 hy15 hp_gki hp_gpa hp_gta H.size) (cwV 2 hts gX8_haste_X8_casesIn rfl rfl rfl ⟨rfl, dh_X8_casesIn⟩ ⟨Nat.le_of_ble_eq_true rfl, Nat.le_of_ble_eq_true rfl⟩) hK hN (hZ.kept hS) hP hD hS hA [1, 2, 3, 4] [0] rfl rfl (by decide) (by decide) (by decide) (va_recv (q := (RX8, TX8, 38)) hK hP (ci := 8) (q0 := 1) rfl rfl) rfl hl.1 rfl (Nat.le_of_ble_eq_true rfl) dX8_haste_46 ⟨Nat.le_of_ble_eq_true rfl, Nat.le_of_ble_eq_true rfl⟩ (fun r_79 u_80 H locs hr_79 hP hD hS => ?_)
              obtain ⟨hsr_79_0, hr_79⟩ := hr_79
              have h9R := zRe (ws' := [(mrf, .inl (cI, 8, .inl grf)), (zMO m0 npu nte nat_ nde nto nse nhu nga nsd nfa mrf mki mpa mta mla msl mco mhe mso msi msh mce mca mwo mnu mte nba npl nen nnu nwr mwa mke mma mth mtr nra nik), (mki, .inl (cI, 8, .inl gki)), (mpa, .inl (cI, 8, .inl gpa)), (mta, .inl (cI, 8, .inl gta))]) hP hD rfl
              clear hP hD
              obtain ⟨hP, hD⟩ := h9R
              obtain ⟨g_81, g_82⟩ := hr_79
              refine lv_icmp_ge (tgt := 56) hx hb dX8_haste_49 (by decide) (fun c_83 => ?_) (fun c_83 => ?_)
              · have fc_83 : r_79.toInt ≤ r_75.toInt := zf_le c_83 rfl rfl
                refine lv_iconst (v := 0) hx hb dX8_haste_56 (by decide) ?_
                exact W.iret (v := 0) hx hb hr (fun t ht hW => ⟨⟨0, grf, rfl, ⟨(show ((w.toInt < 0 ∨ 1 < w.toInt) ∧ (0 : Int32).toInt = -5) ∨ ((0 ≤ w.toInt ∧ w.toInt ≤ 1) ∧ ((((2 : Int32).toInt < 0 ∨ 4 < (2 : Int32).toInt) ∧ (0 : Int32).toInt = -6) ∨ ((0 ≤ (2 : Int32).toInt ∧ (2 : Int32).toInt ≤ 4) ∧ ((w.toInt = 1 ∧ (0 : Int32).toInt = (if (zHv gki gpa gta npu.toInt.toNat (2 : Int32).toInt.toNat nde.toInt nse.toInt) 9 < (zHv gki gpa gta npu.toInt.toNat (2 : Int32).toInt.toNat nde.toInt nse.toInt) 0 then 1 else 0)) ∨ (w.toInt = 0 ∧ (0 : Int32).toInt = (zHs (zHv gki gpa gta npu.toInt.toNat (2 : Int32).toInt.toNat nde.toInt nse.toInt) 9 : Nat)))))) from by (have k0 : (0 : Int32).toInt = 0 := (by decide); have k2 : (2 : Int32).toInt = 2 := (by decide); have k9 : (0 : Int32).toInt = 0 := (by decide); have k9_ : (9 : Int32).toInt = 9 := (by decide); have k0_ : (0 : Int32).toInt = 0 := (by decide); refine Or.inr ⟨by omega, Or.inr ⟨by omega, Or.inl ⟨by omega, (by rw [show (2 : Int32).toInt.toNat = 2 from by decide]; have z1 := hsr_75_0; have z2 := hsr_79_0; rw [k9_] at z1; rw [k0_] at z2; have y1 : (zHv gki gpa gta npu.toInt.toNat 2 nde.toInt nse.toInt) 9 = r_75.toInt := z1.symm; have y2 : (zHv gki gpa gta npu.toInt.toNat 2 nde.toInt nse.toInt) 0 = r_79.toInt := z2.symm; rw [y1, y2]; first | (rw [if_neg (by omega)]; omega) | (rw [if_pos (by omega)]; omega))⟩⟩⟩)), trivial⟩, zRet ht hP hD [1, 0, 2, 3, 4] (by decide) rfl⟩, hS.F ht⟩) hS.2.2 dX8_haste_57
              · have fc_83 : r_75.toInt < r_79.toInt := zf_nle c_83 rfl rfl
                refine lv_iconst (v := 1) hx hb dX8_haste_52 (by decide) ?_
                refine lv_goto (tgt := 57) hx hb dX8_haste_53 (by decide) ?_
                exact W.iret (v := 1) hx hb hr (fun t ht hW => ⟨⟨1, grf, rfl, ⟨(show ((w.toInt < 0 ∨ 1 < w.toInt) ∧ (1 : Int32).toInt = -5) ∨ ((0 ≤ w.toInt ∧ w.toInt ≤ 1) ∧ ((((2 : Int32).toInt < 0 ∨ 4 < (2 : Int32).toInt) ∧ (1 : Int32).toInt = -6) ∨ ((0 ≤ (2 : Int32).toInt ∧ (2 : Int32).toInt ≤ 4) ∧ ((w.toInt = 1 ∧ (1 : Int32).toInt = (if (zHv gki gpa gta npu.toInt.toNat (2 : Int32).toInt.toNat nde.toInt nse.toInt) 9 < (zHv gki gpa gta npu.toInt.toNat (2 : Int32).toInt.toNat nde.toInt nse.toInt) 0 then 1 else 0)) ∨ (w.toInt = 0 ∧ (1 : Int32).toInt = (zHs (zHv gki gpa gta npu.toInt.toNat (2 : Int32).toInt.toNat nde.toInt nse.toInt) 9 : Nat)))))) from by (have k1 : (1 : Int32).toInt = 1 := (by decide); have k2 : (2 : Int32).toInt = 2 := (by decide); have k9 : (1 : Int32).toInt = 1 := (by decide); have k9_ : (9 : Int32).toInt = 9 := (by decide); have k0_ : (0 : Int32).toInt = 0 := (by decide); refine Or.inr ⟨by omega, Or.inr ⟨by omega, Or.inl ⟨by omega, (by rw [show (2 : Int32).toInt.toNat = 2 from by decide]; have z1 := hsr_75_0; have z2 := hsr_79_0; rw [k9_] at z1; rw [k0_] at z2; have y1 : (zHv gki gpa gta npu.toInt.toNat 2 nde.toInt nse.toInt) 9 = r_75.toInt := z1.symm; have y2 : (zHv gki gpa gta npu.toInt.toNat 2 nde.toInt nse.toInt) 0 = r_79.toInt := z2.symm; rw [y1, y2]; first | (rw [if_pos (by omega)]; omega) | (rw [if_neg (by omega)]; omega))⟩⟩⟩)), trivial⟩, zRet ht hP hD [1, 0, 2, 3, 4] (by decide) rfl⟩, hS.F ht⟩) hS.2.2 dX8_haste_57
          · have kc3 : (3 : Int32).toInt = 3 := by decide
            refine lv_iload_n hx hb dX8_haste_31 rfl (lv_at hl 2 rfl) ?_
            refine lv_iconst (v := 1) hx hb dX8_haste_32 (by decide) ?_
            refine lv_icmp_ne (tgt := 58) hx hb dX8_haste_33 (by decide) (fun c_84 => ?_) (fun c_84 => ?_)
            · have fc_84 : w.toInt ≠ 1 := zf_ne c_84 rfl (by decide)
              refine lv_iconst (v := 0) hx hb dX8_haste_58 (by decide) ?_
              refine lv_istore_n (lv' := [(3, .int 0), (0, .ref m0), (1, .int 3), (2, .int w)]) hx hb dX8_haste_59 rfl hl (by decide) rfl (fun ls hl => ?_)
              refine lv_iconst (v := (-1)) hx hb dX8_haste_60 (by decide) ?_
              refine lv_istore (lv' := [(4, .int (-1)), (3, .int 0), (0, .ref m0), (1, .int 3), (2, .int w)]) hx hb dX8_haste_61 hl (by decide) rfl (fun ls hl => ?_)
              refine lv_iconst (v := 0) hx hb dX8_haste_63 (by decide) ?_
              refine lv_istore (lv' := [(5, .int 0), (4, .int (-1)), (3, .int 0), (0, .ref m0), (1, .int 3), (2, .int w)]) hx hb dX8_haste_64 hl (by decide) rfl (fun ls hl => ?_)
              obtain ⟨i_66, hi_66⟩ : ∃ i : Int32, i = 0 := ⟨_, rfl⟩
              replace hl : lv_has ls 7 [(5, .int i_66), (4, .int (-1)), (3, .int 0), (0, .ref m0), (1, .int 3), (2, .int w)] := by rw [hi_66]; exact lv_sub hl [0, 1, 2, 3, 4, 5] rfl
              have h1i_66 : i_66.toInt = 0 := by rw [hi_66]; decide
              obtain ⟨nfu, hni_66⟩ : ∃ nq9 : Nat, 10 ≤ i_66.toInt + (nq9 : Int) := ⟨((10 : Int) - 0).toNat, by omega⟩
              have hloi_66 : 0 ≤ i_66.toInt := by omega
              obtain ⟨v_85, hv_85⟩ : ∃ g : Int32, g = 0 := ⟨_, rfl⟩
              obtain ⟨v_86, hv_86⟩ : ∃ g : Int32, g = (-1) := ⟨_, rfl⟩
              replace hl : lv_has ls 7 [(5, .int i_66), (4, .int v_86), (3, .int v_85), (0, .ref m0), (1, .int 3), (2, .int w)] := by rw [hv_85, hv_86]; exact hl
              have hbv_85 : 0 ≤ v_85.toInt ∧ v_85.toInt ≤ 9 := by rw [hv_85]; exact ⟨by decide, by decide⟩
              have hbv_86 : -1 ≤ v_86.toInt ∧ v_86.toInt ≤ 20736 := by rw [hv_86]; exact ⟨by decide, by decide⟩
              have hvi_66_0 : ((i_66.toInt = 0 ∧ (v_85 : Int32).toInt = 0 ∧ (v_86 : Int32).toInt = -1) ∨ (1 ≤ i_66.toInt ∧ (v_85 : Int32).toInt = (zHs (zHv gki gpa gta npu.toInt.toNat 3 nde.toInt nse.toInt) (i_66.toInt - 1).toNat : Nat) ∧ (v_86 : Int32).toInt = (zHv gki gpa gta npu.toInt.toNat 3 nde.toInt nse.toInt) (zHs (zHv gki gpa gta npu.toInt.toNat 3 nde.toInt nse.toInt) (i_66.toInt - 1).toNat))) := by
                (try rw [hi_66]); (try rw [hv_85]); (try rw [hv_86]); (exact Or.inl ⟨by decide, by decide, by decide⟩)
              have hvi_66_1 : i_66.toInt ≤ 10 := by
                (try rw [hi_66]); (try rw [hv_85]); (try rw [hv_86]); (have k0 : (0 : Int32).toInt = 0 := (by decide); omega)
              clear h1i_66 hi_66 hv_85 hv_86
              skip
              revert hni_66
              revert hloi_66
              revert hvi_66_1
              revert hvi_66_0
              revert hbv_86
              revert hbv_85
              revert hl
              revert hS
              revert hD
              revert hP
              revert ls
              revert locs
              revert H
              revert v_86
              revert v_85
              revert i_66
              induction nfu with
              | zero =>
                intro i_66 v_85 v_86 H locs ls hP hD hS hl hbv_85 hbv_86 hvi_66_0 hvi_66_1 hloi_66 hni_66
                have hzi_66 : 10 ≤ i_66.toInt := by omega
                refine lv_iload hx hb dX8_haste_66 (lv_at hl 0 rfl) ?_
                refine lv_bipush (v := 10) hx hb dX8_haste_68 (by decide) ?_
                refine lv_icmp_ge (tgt := 105) hx hb dX8_haste_70 (by decide) (fun c_87 => ?_) (fun c_87 => ?_)
                · have fc_87 : 10 ≤ i_66.toInt := zf_le c_87 (by decide) rfl
                  refine lv_iload_n hx hb dX8_haste_105 rfl (lv_at hl 2 rfl) ?_
                  exact W.iret (v := v_85) hx hb hr (fun t ht hW => ⟨⟨v_85, grf, rfl, ⟨(show ((w.toInt < 0 ∨ 1 < w.toInt) ∧ (v_85 : Int32).toInt = -5) ∨ ((0 ≤ w.toInt ∧ w.toInt ≤ 1) ∧ ((((3 : Int32).toInt < 0 ∨ 4 < (3 : Int32).toInt) ∧ (v_85 : Int32).toInt = -6) ∨ ((0 ≤ (3 : Int32).toInt ∧ (3 : Int32).toInt ≤ 4) ∧ ((w.toInt = 1 ∧ (v_85 : Int32).toInt = (if (zHv gki gpa gta npu.toInt.toNat (3 : Int32).toInt.toNat nde.toInt nse.toInt) 9 < (zHv gki gpa gta npu.toInt.toNat (3 : Int32).toInt.toNat nde.toInt nse.toInt) 0 then 1 else 0)) ∨ (w.toInt = 0 ∧ (v_85 : Int32).toInt = (zHs (zHv gki gpa gta npu.toInt.toNat (3 : Int32).toInt.toNat nde.toInt nse.toInt) 9 : Nat)))))) from by (have k3 : (3 : Int32).toInt = 3 := (by decide); have k9_ : (9 : Int32).toInt = 9 := (by decide); have k0_ : (0 : Int32).toInt = 0 := (by decide); refine Or.inr ⟨by omega, Or.inr ⟨by omega, Or.inr ⟨by omega, (by rw [show (3 : Int32).toInt.toNat = 3 from by decide]; rcases hvi_66_0 with z | ⟨z1, z2, -⟩; (exfalso; omega); (have h9 : (i_66.toInt - 1).toNat = 9 := (by omega); rw [h9] at z2; exact z2))⟩⟩⟩)), trivial⟩, zRet ht hP hD [0, 1, 2, 3, 4] (by decide) rfl⟩, hS.F ht⟩) hS.2.2 dX8_haste_106
                · exfalso; have fc_87 : i_66.toInt < 10 := zf_nle c_87 (by decide) rfl; omega
              | succ nfu ih =>
                intro i_66 v_85 v_86 H locs ls hP hD hS hl hbv_85 hbv_86 hvi_66_0 hvi_66_1 hloi_66 hni_66
                refine lv_iload hx hb dX8_haste_66 (lv_at hl 0 rfl) ?_
                refine lv_bipush (v := 10) hx hb dX8_haste_68 (by decide) ?_
                refine lv_icmp_ge (tgt := 105) hx hb dX8_haste_70 (by decide) (fun c_88 => ?_) (fun c_88 => ?_)
                · have fc_88 : 10 ≤ i_66.toInt := zf_le c_88 (by decide) rfl
                  refine lv_iload_n hx hb dX8_haste_105 rfl (lv_at hl 2 rfl) ?_
                  exact W.iret (v := v_85) hx hb hr (fun t ht hW => ⟨⟨v_85, grf, rfl, ⟨(show ((w.toInt < 0 ∨ 1 < w.toInt) ∧ (v_85 : Int32).toInt = -5) ∨ ((0 ≤ w.toInt ∧ w.toInt ≤ 1) ∧ ((((3 : Int32).toInt < 0 ∨ 4 < (3 : Int32).toInt) ∧ (v_85 : Int32).toInt = -6) ∨ ((0 ≤ (3 : Int32).toInt ∧ (3 : Int32).toInt ≤ 4) ∧ ((w.toInt = 1 ∧ (v_85 : Int32).toInt = (if (zHv gki gpa gta npu.toInt.toNat (3 : Int32).toInt.toNat nde.toInt nse.toInt) 9 < (zHv gki gpa gta npu.toInt.toNat (3 : Int32).toInt.toNat nde.toInt nse.toInt) 0 then 1 else 0)) ∨ (w.toInt = 0 ∧ (v_85 : Int32).toInt = (zHs (zHv gki gpa gta npu.toInt.toNat (3 : Int32).toInt.toNat nde.toInt nse.toInt) 9 : Nat)))))) from by (have k3 : (3 : Int32).toInt = 3 := (by decide); have k9_ : (9 : Int32).toInt = 9 := (by decide); have k0_ : (0 : Int32).toInt = 0 := (by decide); refine Or.inr ⟨by omega, Or.inr ⟨by omega, Or.inr ⟨by omega, (by rw [show (3 : Int32).toInt.toNat = 3 from by decide]; rcases hvi_66_0 with z | ⟨z1, z2, -⟩; (exfalso; omega); (have h9 : (i_66.toInt - 1).toNat = 9 := (by omega); rw [h9] at z2; exact z2))⟩⟩⟩)), trivial⟩, zRet ht hP hD [0, 1, 2, 3, 4] (by decide) rfl⟩, hS.F ht⟩) hS.2.2 dX8_haste_106
                · have fc_88 : i_66.toInt < 10 := zf_nle c_88 (by decide) rfl
                  refine lv_aload_n hx hb dX8_haste_73 rfl (lv_at hl 3 rfl) ?_
                  refine lv_iload_n hx hb dX8_haste_74 rfl (lv_at hl 4 rfl) ?_
                  refine lv_iload hx hb dX8_haste_75 (lv_at hl 0 rfl) ?_
                  skip
                  refine zw_V (As := [.int 3, .int i_66]) (rest := []) (wr := [(mrf, .inl (cI, 8, .inl grf))]) ⟨hx, hb, hml, hown, hts⟩ (c_F_M_casesIn_3 l D cI cJ cZ cP cS po m0 mrf mki mpa mta mla msl mco mhe mso msi msh mce mca mwo mnu mte mwa mke mma mth mtr (npu) (nte) (nat_) (nde) (nto) (nse) (nhu) (nga) (nsd) (nfa) (nba) (npl) (nen) (nnu) (nwr) (nra) (nik) gki gpa gta (i_66) hy0 hy1 hy2 hy3 hy4 hy5 hy6 hy7 hy8 hy9 hy10 hy11 hy12 hy13 (by omega) (by omega) hy14 hy15 hp_gki hp_gpa hp_gta H.size) (cwV 2 hts gX8_haste_X8_casesIn rfl rfl rfl ⟨rfl, dh_X8_casesIn⟩ ⟨Nat.le_of_ble_eq_true rfl, Nat.le_of_ble_eq_true rfl⟩) hK hN (hZ.kept hS) hP hD hS hA [0, 2, 3, 4] [1] rfl rfl (by decide) (by decide) (by decide) (va_recv (q := (RX8, TX8, 38)) hK hP (ci := 8) (q0 := 0) rfl rfl) rfl hl.1 rfl (Nat.le_of_ble_eq_true rfl) dX8_haste_77 ⟨Nat.le_of_ble_eq_true rfl, Nat.le_of_ble_eq_true rfl⟩ (fun r_89 u_90 H locs hr_89 hP hD hS => ?_)
                  obtain ⟨hsr_89_0, hr_89⟩ := hr_89
                  have h9R := zRe (ws' := [(mrf, .inl (cI, 8, .inl grf)), (zMO m0 npu nte nat_ nde nto nse nhu nga nsd nfa mrf mki mpa mta mla msl mco mhe mso msi msh mce mca mwo mnu mte nba npl nen nnu nwr mwa mke mma mth mtr nra nik), (mki, .inl (cI, 8, .inl gki)), (mpa, .inl (cI, 8, .inl gpa)), (mta, .inl (cI, 8, .inl gta))]) hP hD rfl
                  clear hP hD
                  obtain ⟨hP, hD⟩ := h9R
                  obtain ⟨g_91, g_92⟩ := hr_89
                  refine lv_istore (lv' := [(6, .int r_89), (5, .int i_66), (4, .int v_86), (3, .int v_85), (0, .ref m0), (1, .int 3), (2, .int w)]) hx hb dX8_haste_80 hl (by decide) rfl (fun ls hl => ?_)
                  refine lv_iload hx hb dX8_haste_82 (lv_at hl 0 rfl) ?_
                  refine lv_iload hx hb dX8_haste_84 (lv_at hl 2 rfl) ?_
                  refine lv_icmp_gt (tgt := 92) hx hb dX8_haste_86 (by decide) (fun c_93 => ?_) (fun c_93 => ?_)
                  · have fc_93 : v_86.toInt < r_89.toInt := zf_lt c_93 rfl rfl
                    refine lv_iload hx hb dX8_haste_92 (lv_at hl 1 rfl) ?_
                    refine lv_istore_n (lv' := [(3, .int i_66), (6, .int r_89), (5, .int i_66), (4, .int v_86), (0, .ref m0), (1, .int 3), (2, .int w)]) hx hb dX8_haste_94 rfl hl (by decide) rfl (fun ls hl => ?_)
                    refine lv_iload hx hb dX8_haste_95 (lv_at hl 1 rfl) ?_
                    refine lv_istore (lv' := [(4, .int r_89), (3, .int i_66), (6, .int r_89), (5, .int i_66), (0, .ref m0), (1, .int 3), (2, .int w)]) hx hb dX8_haste_97 hl (by decide) rfl (fun ls hl => ?_)
                    obtain ⟨x_94, ex_94⟩ : ∃ y : Int32, y = i_66 + 1 := ⟨_, rfl⟩
                    have qx_94 : x_94.toInt = i_66.toInt + 1 := dw_incK ex_94 fc_88 (by decide)
                    refine lv_iinc (v := x_94) (lv' := [(5, .int x_94), (4, .int r_89), (3, .int i_66), (6, .int r_89), (0, .ref m0), (1, .int 3), (2, .int w)]) hx hb dX8_haste_99 hl (k := 3) rfl ex_94.symm (by decide) rfl (fun ls hl => ?_)
                    refine lv_goto (tgt := 66) hx hb dX8_haste_102 (by decide) ?_
                    exact ih x_94 i_66 r_89 _ _ _ (hP.sub [1, 0, 2, 3, 4] rfl) (hD.sub [1, 0, 2, 3, 4] (by decide) rfl) hS (lv_sub hl [0, 1, 2, 4, 5, 6] rfl) ⟨by omega, by omega⟩ ⟨by omega, by omega⟩ (show ((x_94.toInt = 0 ∧ (i_66 : Int32).toInt = 0 ∧ (r_89 : Int32).toInt = -1) ∨ (1 ≤ x_94.toInt ∧ (i_66 : Int32).toInt = (zHs (zHv gki gpa gta npu.toInt.toNat 3 nde.toInt nse.toInt) (x_94.toInt - 1).toNat : Nat) ∧ (r_89 : Int32).toInt = (zHv gki gpa gta npu.toInt.toNat 3 nde.toInt nse.toInt) (zHs (zHv gki gpa gta npu.toInt.toNat 3 nde.toInt nse.toInt) (x_94.toInt - 1).toNat))) from by (have y1 : (zHv gki gpa gta npu.toInt.toNat 3 nde.toInt nse.toInt) i_66.toInt.toNat = r_89.toInt := (by have z := hsr_89_0; unfold zHv; rw [show ((i_66.toInt.toNat : Nat) : Int) = i_66.toInt from by omega]; exact z.symm); have hx : (x_94.toInt - 1).toNat = i_66.toInt.toNat := (by omega); refine Or.inr ⟨by omega, ?_⟩; rw [hx]; rcases hvi_66_0 with ⟨w1, w2, w3⟩ | ⟨w1, w2, w3⟩; (have h0 : i_66.toInt.toNat = 0 := (by omega); rw [h0] at y1 ⊢; first | (exact ⟨by (show _ = ((0 : Nat) : Int); omega), y1.symm⟩) | (exfalso; omega)); (have h1 : i_66.toInt.toNat = (i_66.toInt - 1).toNat + 1 := (by omega); rw [h1] at y1 ⊢; rw [zHs_s, y1, ← w3]; first | (rw [if_pos (by omega)]; exact ⟨by omega, y1.symm⟩) | (rw [if_neg (by omega)]; exact ⟨w2, w3⟩)))) (show x_94.toInt ≤ 10 from by omega) (dw_lo hloi_66 qx_94) (dw_hn hni_66 qx_94)
                  · have fc_93 : r_89.toInt ≤ v_86.toInt := zf_nlt c_93 rfl rfl
                    refine lv_goto (tgt := 99) hx hb dX8_haste_89 (by decide) ?_
                    obtain ⟨x_95, ex_95⟩ : ∃ y : Int32, y = i_66 + 1 := ⟨_, rfl⟩
                    have qx_95 : x_95.toInt = i_66.toInt + 1 := dw_incK ex_95 fc_88 (by decide)
                    refine lv_iinc (v := x_95) (lv' := [(5, .int x_95), (6, .int r_89), (4, .int v_86), (3, .int v_85), (0, .ref m0), (1, .int 3), (2, .int w)]) hx hb dX8_haste_99 hl (k := 1) rfl ex_95.symm (by decide) rfl (fun ls hl => ?_)
                    refine lv_goto (tgt := 66) hx hb dX8_haste_102 (by decide) ?_
                    exact ih x_95 v_85 v_86 _ _ _ (hP.sub [1, 0, 2, 3, 4] rfl) (hD.sub [1, 0, 2, 3, 4] (by decide) rfl) hS (lv_sub hl [0, 2, 3, 4, 5, 6] rfl) hbv_85 hbv_86 (show ((x_95.toInt = 0 ∧ (v_85 : Int32).toInt = 0 ∧ (v_86 : Int32).toInt = -1) ∨ (1 ≤ x_95.toInt ∧ (v_85 : Int32).toInt = (zHs (zHv gki gpa gta npu.toInt.toNat 3 nde.toInt nse.toInt) (x_95.toInt - 1).toNat : Nat) ∧ (v_86 : Int32).toInt = (zHv gki gpa gta npu.toInt.toNat 3 nde.toInt nse.toInt) (zHs (zHv gki gpa gta npu.toInt.toNat 3 nde.toInt nse.toInt) (x_95.toInt - 1).toNat))) from by (have y1 : (zHv gki gpa gta npu.toInt.toNat 3 nde.toInt nse.toInt) i_66.toInt.toNat = r_89.toInt := (by have z := hsr_89_0; unfold zHv; rw [show ((i_66.toInt.toNat : Nat) : Int) = i_66.toInt from by omega]; exact z.symm); have hx : (x_95.toInt - 1).toNat = i_66.toInt.toNat := (by omega); refine Or.inr ⟨by omega, ?_⟩; rw [hx]; rcases hvi_66_0 with ⟨w1, w2, w3⟩ | ⟨w1, w2, w3⟩; (have h0 : i_66.toInt.toNat = 0 := (by omega); rw [h0] at y1 ⊢; first | (exact ⟨by (show _ = ((0 : Nat) : Int); omega), y1.symm⟩) | (exfalso; omega)); (have h1 : i_66.toInt.toNat = (i_66.toInt - 1).toNat + 1 := (by omega); rw [h1] at y1 ⊢; rw [zHs_s, y1, ← w3]; first | (rw [if_pos (by omega)]; exact ⟨by omega, y1.symm⟩) | (rw [if_neg (by omega)]; exact ⟨w2, w3⟩)))) (show x_95.toInt ≤ 10 from by omega) (dw_lo hloi_66 qx_95) (dw_hn hni_66 qx_95)
            · have fc_84 : w.toInt = 1 := zf_eq c_84 rfl (by decide)
              refine lv_aload_n hx hb dX8_haste_36 rfl (lv_at hl 0 rfl) ?_
              refine lv_iload_n hx hb dX8_haste_37 rfl (lv_at hl 1 rfl) ?_
              refine lv_bipush (v := 9) hx hb dX8_haste_38 (by decide) ?_
              have kc9 : (9 : Int32).toInt = 9 := by decide
              skip
              refine zw_V (As := [.int 3, .int 9]) (rest := []) (wr := [(mrf, .inl (cI, 8, .inl grf))]) ⟨hx, hb, hml, hown, hts⟩ (c_F_M_casesIn_3 l D cI cJ cZ cP cS po m0 mrf mki mpa mta mla msl mco mhe mso msi msh mce mca mwo mnu mte mwa mke mma mth mtr (npu) (nte) (nat_) (nde) (nto) (nse) (nhu) (nga) (nsd) (nfa) (nba) (npl) (nen) (nnu) (nwr) (nra) (nik) gki gpa gta (9) hy0 hy1 hy2 hy3 hy4 hy5 hy6 hy7 hy8 hy9 hy10 hy11 hy12 hy13 (by omega) (by omega) hy14 hy15 hp_gki hp_gpa hp_gta H.size) (cwV 2 hts gX8_haste_X8_casesIn rfl rfl rfl ⟨rfl, dh_X8_casesIn⟩ ⟨Nat.le_of_ble_eq_true rfl, Nat.le_of_ble_eq_true rfl⟩) hK hN (hZ.kept hS) hP hD hS hA [0, 2, 3, 4] [1] rfl rfl (by decide) (by decide) (by decide) (va_recv (q := (RX8, TX8, 38)) hK hP (ci := 8) (q0 := 0) rfl rfl) rfl hl.1 rfl (Nat.le_of_ble_eq_true rfl) dX8_haste_40 ⟨Nat.le_of_ble_eq_true rfl, Nat.le_of_ble_eq_true rfl⟩ (fun r_96 u_97 H locs hr_96 hP hD hS => ?_)
              obtain ⟨hsr_96_0, hr_96⟩ := hr_96
              have h9R := zRe (ws' := [(mrf, .inl (cI, 8, .inl grf)), (zMO m0 npu nte nat_ nde nto nse nhu nga nsd nfa mrf mki mpa mta mla msl mco mhe mso msi msh mce mca mwo mnu mte nba npl nen nnu nwr mwa mke mma mth mtr nra nik), (mki, .inl (cI, 8, .inl gki)), (mpa, .inl (cI, 8, .inl gpa)), (mta, .inl (cI, 8, .inl gta))]) hP hD rfl
              clear hP hD
              obtain ⟨hP, hD⟩ := h9R
              obtain ⟨g_98, g_99⟩ := hr_96
              refine lv_aload_n hx hb dX8_haste_43 rfl (lv_at hl 0 rfl) ?_
              refine lv_iload_n hx hb dX8_haste_44 rfl (lv_at hl 1 rfl) ?_
              refine lv_iconst (v := 0) hx hb dX8_haste_45 (by decide) ?_
              have kc0 : (0 : Int32).toInt = 0 := by decide
              skip
              refine zw_V (As := [.int 3, .int 0]) (rest := [.int r_96]) (wr := [(mrf, .inl (cI, 8, .inl grf))]) ⟨hx, hb, hml, hown, hts⟩ (c_F_M_casesIn_3 l D cI cJ cZ cP cS po m0 mrf mki mpa mta mla msl mco mhe mso msi msh mce mca mwo mnu mte mwa mke mma mth mtr (npu) (nte) (nat_) (nde) (nto) (nse) (nhu) (nga) (nsd) (nfa) (nba) (npl) (nen) (nnu) (nwr) (nra) (nik) gki gpa gta (0) hy0 hy1 hy2 hy3 hy4 hy5 hy6 hy7 hy8 hy9 hy10 hy11 hy12 hy13 (by omega) (by omega) hy14 hy15 hp_gki hp_gpa hp_gta H.size) (cwV 2 hts gX8_haste_X8_casesIn rfl rfl rfl ⟨rfl, dh_X8_casesIn⟩ ⟨Nat.le_of_ble_eq_true rfl, Nat.le_of_ble_eq_true rfl⟩) hK hN (hZ.kept hS) hP hD hS hA [1, 2, 3, 4] [0] rfl rfl (by decide) (by decide) (by decide) (va_recv (q := (RX8, TX8, 38)) hK hP (ci := 8) (q0 := 1) rfl rfl) rfl hl.1 rfl (Nat.le_of_ble_eq_true rfl) dX8_haste_46 ⟨Nat.le_of_ble_eq_true rfl, Nat.le_of_ble_eq_true rfl⟩ (fun r_100 u_101 H locs hr_100 hP hD hS => ?_)
              obtain ⟨hsr_100_0, hr_100⟩ := hr_100
              have h9R := zRe (ws' := [(mrf, .inl (cI, 8, .inl grf)), (zMO m0 npu nte nat_ nde nto nse nhu nga nsd nfa mrf mki mpa mta mla msl mco mhe mso msi msh mce mca mwo mnu mte nba npl nen nnu nwr mwa mke mma mth mtr nra nik), (mki, .inl (cI, 8, .inl gki)), (mpa, .inl (cI, 8, .inl gpa)), (mta, .inl (cI, 8, .inl gta))]) hP hD rfl
              clear hP hD
              obtain ⟨hP, hD⟩ := h9R
              obtain ⟨g_102, g_103⟩ := hr_100
              refine lv_icmp_ge (tgt := 56) hx hb dX8_haste_49 (by decide) (fun c_104 => ?_) (fun c_104 => ?_)
              · have fc_104 : r_100.toInt ≤ r_96.toInt := zf_le c_104 rfl rfl
                refine lv_iconst (v := 0) hx hb dX8_haste_56 (by decide) ?_
                exact W.iret (v := 0) hx hb hr (fun t ht hW => ⟨⟨0, grf, rfl, ⟨(show ((w.toInt < 0 ∨ 1 < w.toInt) ∧ (0 : Int32).toInt = -5) ∨ ((0 ≤ w.toInt ∧ w.toInt ≤ 1) ∧ ((((3 : Int32).toInt < 0 ∨ 4 < (3 : Int32).toInt) ∧ (0 : Int32).toInt = -6) ∨ ((0 ≤ (3 : Int32).toInt ∧ (3 : Int32).toInt ≤ 4) ∧ ((w.toInt = 1 ∧ (0 : Int32).toInt = (if (zHv gki gpa gta npu.toInt.toNat (3 : Int32).toInt.toNat nde.toInt nse.toInt) 9 < (zHv gki gpa gta npu.toInt.toNat (3 : Int32).toInt.toNat nde.toInt nse.toInt) 0 then 1 else 0)) ∨ (w.toInt = 0 ∧ (0 : Int32).toInt = (zHs (zHv gki gpa gta npu.toInt.toNat (3 : Int32).toInt.toNat nde.toInt nse.toInt) 9 : Nat)))))) from by (have k0 : (0 : Int32).toInt = 0 := (by decide); have k3 : (3 : Int32).toInt = 3 := (by decide); have k9 : (0 : Int32).toInt = 0 := (by decide); have k9_ : (9 : Int32).toInt = 9 := (by decide); have k0_ : (0 : Int32).toInt = 0 := (by decide); refine Or.inr ⟨by omega, Or.inr ⟨by omega, Or.inl ⟨by omega, (by rw [show (3 : Int32).toInt.toNat = 3 from by decide]; have z1 := hsr_96_0; have z2 := hsr_100_0; rw [k9_] at z1; rw [k0_] at z2; have y1 : (zHv gki gpa gta npu.toInt.toNat 3 nde.toInt nse.toInt) 9 = r_96.toInt := z1.symm; have y2 : (zHv gki gpa gta npu.toInt.toNat 3 nde.toInt nse.toInt) 0 = r_100.toInt := z2.symm; rw [y1, y2]; first | (rw [if_neg (by omega)]; omega) | (rw [if_pos (by omega)]; omega))⟩⟩⟩)), trivial⟩, zRet ht hP hD [1, 0, 2, 3, 4] (by decide) rfl⟩, hS.F ht⟩) hS.2.2 dX8_haste_57
              · have fc_104 : r_96.toInt < r_100.toInt := zf_nle c_104 rfl rfl
                refine lv_iconst (v := 1) hx hb dX8_haste_52 (by decide) ?_
                refine lv_goto (tgt := 57) hx hb dX8_haste_53 (by decide) ?_
                exact W.iret (v := 1) hx hb hr (fun t ht hW => ⟨⟨1, grf, rfl, ⟨(show ((w.toInt < 0 ∨ 1 < w.toInt) ∧ (1 : Int32).toInt = -5) ∨ ((0 ≤ w.toInt ∧ w.toInt ≤ 1) ∧ ((((3 : Int32).toInt < 0 ∨ 4 < (3 : Int32).toInt) ∧ (1 : Int32).toInt = -6) ∨ ((0 ≤ (3 : Int32).toInt ∧ (3 : Int32).toInt ≤ 4) ∧ ((w.toInt = 1 ∧ (1 : Int32).toInt = (if (zHv gki gpa gta npu.toInt.toNat (3 : Int32).toInt.toNat nde.toInt nse.toInt) 9 < (zHv gki gpa gta npu.toInt.toNat (3 : Int32).toInt.toNat nde.toInt nse.toInt) 0 then 1 else 0)) ∨ (w.toInt = 0 ∧ (1 : Int32).toInt = (zHs (zHv gki gpa gta npu.toInt.toNat (3 : Int32).toInt.toNat nde.toInt nse.toInt) 9 : Nat)))))) from by (have k1 : (1 : Int32).toInt = 1 := (by decide); have k3 : (3 : Int32).toInt = 3 := (by decide); have k9 : (1 : Int32).toInt = 1 := (by decide); have k9_ : (9 : Int32).toInt = 9 := (by decide); have k0_ : (0 : Int32).toInt = 0 := (by decide); refine Or.inr ⟨by omega, Or.inr ⟨by omega, Or.inl ⟨by omega, (by rw [show (3 : Int32).toInt.toNat = 3 from by decide]; have z1 := hsr_96_0; have z2 := hsr_100_0; rw [k9_] at z1; rw [k0_] at z2; have y1 : (zHv gki gpa gta npu.toInt.toNat 3 nde.toInt nse.toInt) 9 = r_96.toInt := z1.symm; have y2 : (zHv gki gpa gta npu.toInt.toNat 3 nde.toInt nse.toInt) 0 = r_100.toInt := z2.symm; rw [y1, y2]; first | (rw [if_pos (by omega)]; omega) | (rw [if_neg (by omega)]; omega))⟩⟩⟩)), trivial⟩, zRet ht hP hD [1, 0, 2, 3, 4] (by decide) rfl⟩, hS.F ht⟩) hS.2.2 dX8_haste_57
          · have kc4 : (4 : Int32).toInt = 4 := by decide
            refine lv_iload_n hx hb dX8_haste_31 rfl (lv_at hl 2 rfl) ?_
            refine lv_iconst (v := 1) hx hb dX8_haste_32 (by decide) ?_
            refine lv_icmp_ne (tgt := 58) hx hb dX8_haste_33 (by decide) (fun c_105 => ?_) (fun c_105 => ?_)
            · have fc_105 : w.toInt ≠ 1 := zf_ne c_105 rfl (by decide)
              refine lv_iconst (v := 0) hx hb dX8_haste_58 (by decide) ?_
              refine lv_istore_n (lv' := [(3, .int 0), (0, .ref m0), (1, .int 4), (2, .int w)]) hx hb dX8_haste_59 rfl hl (by decide) rfl (fun ls hl => ?_)
              refine lv_iconst (v := (-1)) hx hb dX8_haste_60 (by decide) ?_
              refine lv_istore (lv' := [(4, .int (-1)), (3, .int 0), (0, .ref m0), (1, .int 4), (2, .int w)]) hx hb dX8_haste_61 hl (by decide) rfl (fun ls hl => ?_)
              refine lv_iconst (v := 0) hx hb dX8_haste_63 (by decide) ?_
              refine lv_istore (lv' := [(5, .int 0), (4, .int (-1)), (3, .int 0), (0, .ref m0), (1, .int 4), (2, .int w)]) hx hb dX8_haste_64 hl (by decide) rfl (fun ls hl => ?_)
              obtain ⟨i_66, hi_66⟩ : ∃ i : Int32, i = 0 := ⟨_, rfl⟩
              replace hl : lv_has ls 7 [(5, .int i_66), (4, .int (-1)), (3, .int 0), (0, .ref m0), (1, .int 4), (2, .int w)] := by rw [hi_66]; exact lv_sub hl [0, 1, 2, 3, 4, 5] rfl
              have h1i_66 : i_66.toInt = 0 := by rw [hi_66]; decide
              obtain ⟨nfu, hni_66⟩ : ∃ nq9 : Nat, 10 ≤ i_66.toInt + (nq9 : Int) := ⟨((10 : Int) - 0).toNat, by omega⟩
              have hloi_66 : 0 ≤ i_66.toInt := by omega
              obtain ⟨v_106, hv_106⟩ : ∃ g : Int32, g = 0 := ⟨_, rfl⟩
              obtain ⟨v_107, hv_107⟩ : ∃ g : Int32, g = (-1) := ⟨_, rfl⟩
              replace hl : lv_has ls 7 [(5, .int i_66), (4, .int v_107), (3, .int v_106), (0, .ref m0), (1, .int 4), (2, .int w)] := by rw [hv_106, hv_107]; exact hl
              have hbv_106 : 0 ≤ v_106.toInt ∧ v_106.toInt ≤ 9 := by rw [hv_106]; exact ⟨by decide, by decide⟩
              have hbv_107 : -1 ≤ v_107.toInt ∧ v_107.toInt ≤ 20736 := by rw [hv_107]; exact ⟨by decide, by decide⟩
              have hvi_66_0 : ((i_66.toInt = 0 ∧ (v_106 : Int32).toInt = 0 ∧ (v_107 : Int32).toInt = -1) ∨ (1 ≤ i_66.toInt ∧ (v_106 : Int32).toInt = (zHs (zHv gki gpa gta npu.toInt.toNat 4 nde.toInt nse.toInt) (i_66.toInt - 1).toNat : Nat) ∧ (v_107 : Int32).toInt = (zHv gki gpa gta npu.toInt.toNat 4 nde.toInt nse.toInt) (zHs (zHv gki gpa gta npu.toInt.toNat 4 nde.toInt nse.toInt) (i_66.toInt - 1).toNat))) := by
                (try rw [hi_66]); (try rw [hv_106]); (try rw [hv_107]); (exact Or.inl ⟨by decide, by decide, by decide⟩)
              have hvi_66_1 : i_66.toInt ≤ 10 := by
                (try rw [hi_66]); (try rw [hv_106]); (try rw [hv_107]); (have k0 : (0 : Int32).toInt = 0 := (by decide); omega)
              clear h1i_66 hi_66 hv_106 hv_107
              skip
              revert hni_66
              revert hloi_66
              revert hvi_66_1
              revert hvi_66_0
              revert hbv_107
              revert hbv_106
              revert hl
              revert hS
              revert hD
              revert hP
              revert ls
              revert locs
              revert H
              revert v_107
              revert v_106
              revert i_66
              induction nfu with
              | zero =>
                intro i_66 v_106 v_107 H locs ls hP hD hS hl hbv_106 hbv_107 hvi_66_0 hvi_66_1 hloi_66 hni_66
                have hzi_66 : 10 ≤ i_66.toInt := by omega
                refine lv_iload hx hb dX8_haste_66 (lv_at hl 0 rfl) ?_
                refine lv_bipush (v := 10) hx hb dX8_haste_68 (by decide) ?_
                refine lv_icmp_ge (tgt := 105) hx hb dX8_haste_70 (by decide) (fun c_108 => ?_) (fun c_108 => ?_)
                · have fc_108 : 10 ≤ i_66.toInt := zf_le c_108 (by decide) rfl
                  refine lv_iload_n hx hb dX8_haste_105 rfl (lv_at hl 2 rfl) ?_
                  exact W.iret (v := v_106) hx hb hr (fun t ht hW => ⟨⟨v_106, grf, rfl, ⟨(show ((w.toInt < 0 ∨ 1 < w.toInt) ∧ (v_106 : Int32).toInt = -5) ∨ ((0 ≤ w.toInt ∧ w.toInt ≤ 1) ∧ ((((4 : Int32).toInt < 0 ∨ 4 < (4 : Int32).toInt) ∧ (v_106 : Int32).toInt = -6) ∨ ((0 ≤ (4 : Int32).toInt ∧ (4 : Int32).toInt ≤ 4) ∧ ((w.toInt = 1 ∧ (v_106 : Int32).toInt = (if (zHv gki gpa gta npu.toInt.toNat (4 : Int32).toInt.toNat nde.toInt nse.toInt) 9 < (zHv gki gpa gta npu.toInt.toNat (4 : Int32).toInt.toNat nde.toInt nse.toInt) 0 then 1 else 0)) ∨ (w.toInt = 0 ∧ (v_106 : Int32).toInt = (zHs (zHv gki gpa gta npu.toInt.toNat (4 : Int32).toInt.toNat nde.toInt nse.toInt) 9 : Nat)))))) from by (have k4 : (4 : Int32).toInt = 4 := (by decide); have k9_ : (9 : Int32).toInt = 9 := (by decide); have k0_ : (0 : Int32).toInt = 0 := (by decide); refine Or.inr ⟨by omega, Or.inr ⟨by omega, Or.inr ⟨by omega, (by rw [show (4 : Int32).toInt.toNat = 4 from by decide]; rcases hvi_66_0 with z | ⟨z1, z2, -⟩; (exfalso; omega); (have h9 : (i_66.toInt - 1).toNat = 9 := (by omega); rw [h9] at z2; exact z2))⟩⟩⟩)), trivial⟩, zRet ht hP hD [0, 1, 2, 3, 4] (by decide) rfl⟩, hS.F ht⟩) hS.2.2 dX8_haste_106
                · exfalso; have fc_108 : i_66.toInt < 10 := zf_nle c_108 (by decide) rfl; omega
              | succ nfu ih =>
                intro i_66 v_106 v_107 H locs ls hP hD hS hl hbv_106 hbv_107 hvi_66_0 hvi_66_1 hloi_66 hni_66
                refine lv_iload hx hb dX8_haste_66 (lv_at hl 0 rfl) ?_
                refine lv_bipush (v := 10) hx hb dX8_haste_68 (by decide) ?_
                refine lv_icmp_ge (tgt := 105) hx hb dX8_haste_70 (by decide) (fun c_109 => ?_) (fun c_109 => ?_)
                · have fc_109 : 10 ≤ i_66.toInt := zf_le c_109 (by decide) rfl
                  refine lv_iload_n hx hb dX8_haste_105 rfl (lv_at hl 2 rfl) ?_
                  exact W.iret (v := v_106) hx hb hr (fun t ht hW => ⟨⟨v_106, grf, rfl, ⟨(show ((w.toInt < 0 ∨ 1 < w.toInt) ∧ (v_106 : Int32).toInt = -5) ∨ ((0 ≤ w.toInt ∧ w.toInt ≤ 1) ∧ ((((4 : Int32).toInt < 0 ∨ 4 < (4 : Int32).toInt) ∧ (v_106 : Int32).toInt = -6) ∨ ((0 ≤ (4 : Int32).toInt ∧ (4 : Int32).toInt ≤ 4) ∧ ((w.toInt = 1 ∧ (v_106 : Int32).toInt = (if (zHv gki gpa gta npu.toInt.toNat (4 : Int32).toInt.toNat nde.toInt nse.toInt) 9 < (zHv gki gpa gta npu.toInt.toNat (4 : Int32).toInt.toNat nde.toInt nse.toInt) 0 then 1 else 0)) ∨ (w.toInt = 0 ∧ (v_106 : Int32).toInt = (zHs (zHv gki gpa gta npu.toInt.toNat (4 : Int32).toInt.toNat nde.toInt nse.toInt) 9 : Nat)))))) from by (have k4 : (4 : Int32).toInt = 4 := (by decide); have k9_ : (9 : Int32).toInt = 9 := (by decide); have k0_ : (0 : Int32).toInt = 0 := (by decide); refine Or.inr ⟨by omega, Or.inr ⟨by omega, Or.inr ⟨by omega, (by rw [show (4 : Int32).toInt.toNat = 4 from by decide]; rcases hvi_66_0 with z | ⟨z1, z2, -⟩; (exfalso; omega); (have h9 : (i_66.toInt - 1).toNat = 9 := (by omega); rw [h9] at z2; exact z2))⟩⟩⟩)), trivial⟩, zRet ht hP hD [0, 1, 2, 3, 4] (by decide) rfl⟩, hS.F ht⟩) hS.2.2 dX8_haste_106
                · have fc_109 : i_66.toInt < 10 := zf_nle c_109 (by decide) rfl
                  refine lv_aload_n hx hb dX8_haste_73 rfl (lv_at hl 3 rfl) ?_
                  refine lv_iload_n hx hb dX8_haste_74 rfl (lv_at hl 4 rfl) ?_
                  refine lv_iload hx hb dX8_haste_75 (lv_at hl 0 rfl) ?_
                  skip
                  refine zw_V (As := [.int 4, .int i_66]) (rest := []) (wr := [(mrf, .inl (cI, 8, .inl grf))]) ⟨hx, hb, hml, hown, hts⟩ (c_F_M_casesIn_4 l D cI cJ cZ cP cS po m0 mrf mki mpa mta mla msl mco mhe mso msi msh mce mca mwo mnu mte mwa mke mma mth mtr (npu) (nte) (nat_) (nde) (nto) (nse) (nhu) (nga) (nsd) (nfa) (nba) (npl) (nen) (nnu) (nwr) (nra) (nik) gki gpa gta (i_66) hy0 hy1 hy2 hy3 hy4 hy5 hy6 hy7 hy8 hy9 hy10 hy11 hy12 hy13 (by omega) (by omega) hy14 hy15 hp_gki hp_gpa hp_gta H.size) (cwV 2 hts gX8_haste_X8_casesIn rfl rfl rfl ⟨rfl, dh_X8_casesIn⟩ ⟨Nat.le_of_ble_eq_true rfl, Nat.le_of_ble_eq_true rfl⟩) hK hN (hZ.kept hS) hP hD hS hA [0, 2, 3, 4] [1] rfl rfl (by decide) (by decide) (by decide) (va_recv (q := (RX8, TX8, 38)) hK hP (ci := 8) (q0 := 0) rfl rfl) rfl hl.1 rfl (Nat.le_of_ble_eq_true rfl) dX8_haste_77 ⟨Nat.le_of_ble_eq_true rfl, Nat.le_of_ble_eq_true rfl⟩ (fun r_110 u_111 H locs hr_110 hP hD hS => ?_)
                  obtain ⟨hsr_110_0, hr_110⟩ := hr_110
                  have h9R := zRe (ws' := [(mrf, .inl (cI, 8, .inl grf)), (zMO m0 npu nte nat_ nde nto nse nhu nga nsd nfa mrf mki mpa mta mla msl mco mhe mso msi msh mce mca mwo mnu mte nba npl nen nnu nwr mwa mke mma mth mtr nra nik), (mki, .inl (cI, 8, .inl gki)), (mpa, .inl (cI, 8, .inl gpa)), (mta, .inl (cI, 8, .inl gta))]) hP hD rfl
                  clear hP hD
                  obtain ⟨hP, hD⟩ := h9R
                  obtain ⟨g_112, g_113⟩ := hr_110
                  refine lv_istore (lv' := [(6, .int r_110), (5, .int i_66), (4, .int v_107), (3, .int v_106), (0, .ref m0), (1, .int 4), (2, .int w)]) hx hb dX8_haste_80 hl (by decide) rfl (fun ls hl => ?_)
                  refine lv_iload hx hb dX8_haste_82 (lv_at hl 0 rfl) ?_
                  refine lv_iload hx hb dX8_haste_84 (lv_at hl 2 rfl) ?_
                  refine lv_icmp_gt (tgt := 92) hx hb dX8_haste_86 (by decide) (fun c_114 => ?_) (fun c_114 => ?_)
                  · have fc_114 : v_107.toInt < r_110.toInt := zf_lt c_114 rfl rfl
                    refine lv_iload hx hb dX8_haste_92 (lv_at hl 1 rfl) ?_
                    refine lv_istore_n (lv' := [(3, .int i_66), (6, .int r_110), (5, .int i_66), (4, .int v_107), (0, .ref m0), (1, .int 4), (2, .int w)]) hx hb dX8_haste_94 rfl hl (by decide) rfl (fun ls hl => ?_)
                    refine lv_iload hx hb dX8_haste_95 (lv_at hl 1 rfl) ?_
                    refine lv_istore (lv' := [(4, .int r_110), (3, .int i_66), (6, .int r_110), (5, .int i_66), (0, .ref m0), (1, .int 4), (2, .int w)]) hx hb dX8_haste_97 hl (by decide) rfl (fun ls hl => ?_)
                    obtain ⟨x_115, ex_115⟩ : ∃ y : Int32, y = i_66 + 1 := ⟨_, rfl⟩
                    have qx_115 : x_115.toInt = i_66.toInt + 1 := dw_incK ex_115 fc_109 (by decide)
                    refine lv_iinc (v := x_115) (lv' := [(5, .int x_115), (4, .int r_110), (3, .int i_66), (6, .int r_110), (0, .ref m0), (1, .int 4), (2, .int w)]) hx hb dX8_haste_99 hl (k := 3) rfl ex_115.symm (by decide) rfl (fun ls hl => ?_)
                    refine lv_goto (tgt := 66) hx hb dX8_haste_102 (by decide) ?_
                    exact ih x_115 i_66 r_110 _ _ _ (hP.sub [1, 0, 2, 3, 4] rfl) (hD.sub [1, 0, 2, 3, 4] (by decide) rfl) hS (lv_sub hl [0, 1, 2, 4, 5, 6] rfl) ⟨by omega, by omega⟩ ⟨by omega, by omega⟩ (show ((x_115.toInt = 0 ∧ (i_66 : Int32).toInt = 0 ∧ (r_110 : Int32).toInt = -1) ∨ (1 ≤ x_115.toInt ∧ (i_66 : Int32).toInt = (zHs (zHv gki gpa gta npu.toInt.toNat 4 nde.toInt nse.toInt) (x_115.toInt - 1).toNat : Nat) ∧ (r_110 : Int32).toInt = (zHv gki gpa gta npu.toInt.toNat 4 nde.toInt nse.toInt) (zHs (zHv gki gpa gta npu.toInt.toNat 4 nde.toInt nse.toInt) (x_115.toInt - 1).toNat))) from by (have y1 : (zHv gki gpa gta npu.toInt.toNat 4 nde.toInt nse.toInt) i_66.toInt.toNat = r_110.toInt := (by have z := hsr_110_0; unfold zHv; rw [show ((i_66.toInt.toNat : Nat) : Int) = i_66.toInt from by omega]; exact z.symm); have hx : (x_115.toInt - 1).toNat = i_66.toInt.toNat := (by omega); refine Or.inr ⟨by omega, ?_⟩; rw [hx]; rcases hvi_66_0 with ⟨w1, w2, w3⟩ | ⟨w1, w2, w3⟩; (have h0 : i_66.toInt.toNat = 0 := (by omega); rw [h0] at y1 ⊢; first | (exact ⟨by (show _ = ((0 : Nat) : Int); omega), y1.symm⟩) | (exfalso; omega)); (have h1 : i_66.toInt.toNat = (i_66.toInt - 1).toNat + 1 := (by omega); rw [h1] at y1 ⊢; rw [zHs_s, y1, ← w3]; first | (rw [if_pos (by omega)]; exact ⟨by omega, y1.symm⟩) | (rw [if_neg (by omega)]; exact ⟨w2, w3⟩)))) (show x_115.toInt ≤ 10 from by omega) (dw_lo hloi_66 qx_115) (dw_hn hni_66 qx_115)
                  · have fc_114 : r_110.toInt ≤ v_107.toInt := zf_nlt c_114 rfl rfl
                    refine lv_goto (tgt := 99) hx hb dX8_haste_89 (by decide) ?_
                    obtain ⟨x_116, ex_116⟩ : ∃ y : Int32, y = i_66 + 1 := ⟨_, rfl⟩
                    have qx_116 : x_116.toInt = i_66.toInt + 1 := dw_incK ex_116 fc_109 (by decide)
                    refine lv_iinc (v := x_116) (lv' := [(5, .int x_116), (6, .int r_110), (4, .int v_107), (3, .int v_106), (0, .ref m0), (1, .int 4), (2, .int w)]) hx hb dX8_haste_99 hl (k := 1) rfl ex_116.symm (by decide) rfl (fun ls hl => ?_)
                    refine lv_goto (tgt := 66) hx hb dX8_haste_102 (by decide) ?_
                    exact ih x_116 v_106 v_107 _ _ _ (hP.sub [1, 0, 2, 3, 4] rfl) (hD.sub [1, 0, 2, 3, 4] (by decide) rfl) hS (lv_sub hl [0, 2, 3, 4, 5, 6] rfl) hbv_106 hbv_107 (show ((x_116.toInt = 0 ∧ (v_106 : Int32).toInt = 0 ∧ (v_107 : Int32).toInt = -1) ∨ (1 ≤ x_116.toInt ∧ (v_106 : Int32).toInt = (zHs (zHv gki gpa gta npu.toInt.toNat 4 nde.toInt nse.toInt) (x_116.toInt - 1).toNat : Nat) ∧ (v_107 : Int32).toInt = (zHv gki gpa gta npu.toInt.toNat 4 nde.toInt nse.toInt) (zHs (zHv gki gpa gta npu.toInt.toNat 4 nde.toInt nse.toInt) (x_116.toInt - 1).toNat))) from by (have y1 : (zHv gki gpa gta npu.toInt.toNat 4 nde.toInt nse.toInt) i_66.toInt.toNat = r_110.toInt := (by have z := hsr_110_0; unfold zHv; rw [show ((i_66.toInt.toNat : Nat) : Int) = i_66.toInt from by omega]; exact z.symm); have hx : (x_116.toInt - 1).toNat = i_66.toInt.toNat := (by omega); refine Or.inr ⟨by omega, ?_⟩; rw [hx]; rcases hvi_66_0 with ⟨w1, w2, w3⟩ | ⟨w1, w2, w3⟩; (have h0 : i_66.toInt.toNat = 0 := (by omega); rw [h0] at y1 ⊢; first | (exact ⟨by (show _ = ((0 : Nat) : Int); omega), y1.symm⟩) | (exfalso; omega)); (have h1 : i_66.toInt.toNat = (i_66.toInt - 1).toNat + 1 := (by omega); rw [h1] at y1 ⊢; rw [zHs_s, y1, ← w3]; first | (rw [if_pos (by omega)]; exact ⟨by omega, y1.symm⟩) | (rw [if_neg (by omega)]; exact ⟨w2, w3⟩)))) (show x_116.toInt ≤ 10 from by omega) (dw_lo hloi_66 qx_116) (dw_hn hni_66 qx_116)
            · have fc_105 : w.toInt = 1 := zf_eq c_105 rfl (by decide)
              refine lv_aload_n hx hb dX8_haste_36 rfl (lv_at hl 0 rfl) ?_
              refine lv_iload_n hx hb dX8_haste_37 rfl (lv_at hl 1 rfl) ?_
              refine lv_bipush (v := 9) hx hb dX8_haste_38 (by decide) ?_
              have kc9 : (9 : Int32).toInt = 9 := by decide
              skip
              refine zw_V (As := [.int 4, .int 9]) (rest := []) (wr := [(mrf, .inl (cI, 8, .inl grf))]) ⟨hx, hb, hml, hown, hts⟩ (c_F_M_casesIn_4 l D cI cJ cZ cP cS po m0 mrf mki mpa mta mla msl mco mhe mso msi msh mce mca mwo mnu mte mwa mke mma mth mtr (npu) (nte) (nat_) (nde) (nto) (nse) (nhu) (nga) (nsd) (nfa) (nba) (npl) (nen) (nnu) (nwr) (nra) (nik) gki gpa gta (9) hy0 hy1 hy2 hy3 hy4 hy5 hy6 hy7 hy8 hy9 hy10 hy11 hy12 hy13 (by omega) (by omega) hy14 hy15 hp_gki hp_gpa hp_gta H.size) (cwV 2 hts gX8_haste_X8_casesIn rfl rfl rfl ⟨rfl, dh_X8_casesIn⟩ ⟨Nat.le_of_ble_eq_true rfl, Nat.le_of_ble_eq_true rfl⟩) hK hN (hZ.kept hS) hP hD hS hA [0, 2, 3, 4] [1] rfl rfl (by decide) (by decide) (by decide) (va_recv (q := (RX8, TX8, 38)) hK hP (ci := 8) (q0 := 0) rfl rfl) rfl hl.1 rfl (Nat.le_of_ble_eq_true rfl) dX8_haste_40 ⟨Nat.le_of_ble_eq_true rfl, Nat.le_of_ble_eq_true rfl⟩ (fun r_117 u_118 H locs hr_117 hP hD hS => ?_)
              obtain ⟨hsr_117_0, hr_117⟩ := hr_117
              have h9R := zRe (ws' := [(mrf, .inl (cI, 8, .inl grf)), (zMO m0 npu nte nat_ nde nto nse nhu nga nsd nfa mrf mki mpa mta mla msl mco mhe mso msi msh mce mca mwo mnu mte nba npl nen nnu nwr mwa mke mma mth mtr nra nik), (mki, .inl (cI, 8, .inl gki)), (mpa, .inl (cI, 8, .inl gpa)), (mta, .inl (cI, 8, .inl gta))]) hP hD rfl
              clear hP hD
              obtain ⟨hP, hD⟩ := h9R
              obtain ⟨g_119, g_120⟩ := hr_117
              refine lv_aload_n hx hb dX8_haste_43 rfl (lv_at hl 0 rfl) ?_
              refine lv_iload_n hx hb dX8_haste_44 rfl (lv_at hl 1 rfl) ?_
              refine lv_iconst (v := 0) hx hb dX8_haste_45 (by decide) ?_
              have kc0 : (0 : Int32).toInt = 0 := by decide
              skip
              refine zw_V (As := [.int 4, .int 0]) (rest := [.int r_117]) (wr := [(mrf, .inl (cI, 8, .inl grf))]) ⟨hx, hb, hml, hown, hts⟩ (c_F_M_casesIn_4 l D cI cJ cZ cP cS po m0 mrf mki mpa mta mla msl mco mhe mso msi msh mce mca mwo mnu mte mwa mke mma mth mtr (npu) (nte) (nat_) (nde) (nto) (nse) (nhu) (nga) (nsd) (nfa) (nba) (npl) (nen) (nnu) (nwr) (nra) (nik) gki gpa gta (0) hy0 hy1 hy2 hy3 hy4 hy5 hy6 hy7 hy8 hy9 hy10 hy11 hy12 hy13 (by omega) (by omega) hy14 hy15 hp_gki hp_gpa hp_gta H.size) (cwV 2 hts gX8_haste_X8_casesIn rfl rfl rfl ⟨rfl, dh_X8_casesIn⟩ ⟨Nat.le_of_ble_eq_true rfl, Nat.le_of_ble_eq_true rfl⟩) hK hN (hZ.kept hS) hP hD hS hA [1, 2, 3, 4] [0] rfl rfl (by decide) (by decide) (by decide) (va_recv (q := (RX8, TX8, 38)) hK hP (ci := 8) (q0 := 1) rfl rfl) rfl hl.1 rfl (Nat.le_of_ble_eq_true rfl) dX8_haste_46 ⟨Nat.le_of_ble_eq_true rfl, Nat.le_of_ble_eq_true rfl⟩ (fun r_121 u_122 H locs hr_121 hP hD hS => ?_)
              obtain ⟨hsr_121_0, hr_121⟩ := hr_121
              have h9R := zRe (ws' := [(mrf, .inl (cI, 8, .inl grf)), (zMO m0 npu nte nat_ nde nto nse nhu nga nsd nfa mrf mki mpa mta mla msl mco mhe mso msi msh mce mca mwo mnu mte nba npl nen nnu nwr mwa mke mma mth mtr nra nik), (mki, .inl (cI, 8, .inl gki)), (mpa, .inl (cI, 8, .inl gpa)), (mta, .inl (cI, 8, .inl gta))]) hP hD rfl
              clear hP hD
              obtain ⟨hP, hD⟩ := h9R
              obtain ⟨g_123, g_124⟩ := hr_121
              refine lv_icmp_ge (tgt := 56) hx hb dX8_haste_49 (by decide) (fun c_125 => ?_) (fun c_125 => ?_)
              · have fc_125 : r_121.toInt ≤ r_117.toInt := zf_le c_125 rfl rfl
                refine lv_iconst (v := 0) hx hb dX8_haste_56 (by decide) ?_
                exact W.iret (v := 0) hx hb hr (fun t ht hW => ⟨⟨0, grf, rfl, ⟨(show ((w.toInt < 0 ∨ 1 < w.toInt) ∧ (0 : Int32).toInt = -5) ∨ ((0 ≤ w.toInt ∧ w.toInt ≤ 1) ∧ ((((4 : Int32).toInt < 0 ∨ 4 < (4 : Int32).toInt) ∧ (0 : Int32).toInt = -6) ∨ ((0 ≤ (4 : Int32).toInt ∧ (4 : Int32).toInt ≤ 4) ∧ ((w.toInt = 1 ∧ (0 : Int32).toInt = (if (zHv gki gpa gta npu.toInt.toNat (4 : Int32).toInt.toNat nde.toInt nse.toInt) 9 < (zHv gki gpa gta npu.toInt.toNat (4 : Int32).toInt.toNat nde.toInt nse.toInt) 0 then 1 else 0)) ∨ (w.toInt = 0 ∧ (0 : Int32).toInt = (zHs (zHv gki gpa gta npu.toInt.toNat (4 : Int32).toInt.toNat nde.toInt nse.toInt) 9 : Nat)))))) from by (have k0 : (0 : Int32).toInt = 0 := (by decide); have k4 : (4 : Int32).toInt = 4 := (by decide); have k9 : (0 : Int32).toInt = 0 := (by decide); have k9_ : (9 : Int32).toInt = 9 := (by decide); have k0_ : (0 : Int32).toInt = 0 := (by decide); refine Or.inr ⟨by omega, Or.inr ⟨by omega, Or.inl ⟨by omega, (by rw [show (4 : Int32).toInt.toNat = 4 from by decide]; have z1 := hsr_117_0; have z2 := hsr_121_0; rw [k9_] at z1; rw [k0_] at z2; have y1 : (zHv gki gpa gta npu.toInt.toNat 4 nde.toInt nse.toInt) 9 = r_117.toInt := z1.symm; have y2 : (zHv gki gpa gta npu.toInt.toNat 4 nde.toInt nse.toInt) 0 = r_121.toInt := z2.symm; rw [y1, y2]; first | (rw [if_neg (by omega)]; omega) | (rw [if_pos (by omega)]; omega))⟩⟩⟩)), trivial⟩, zRet ht hP hD [1, 0, 2, 3, 4] (by decide) rfl⟩, hS.F ht⟩) hS.2.2 dX8_haste_57
              · have fc_125 : r_117.toInt < r_121.toInt := zf_nle c_125 rfl rfl
                refine lv_iconst (v := 1) hx hb dX8_haste_52 (by decide) ?_
                refine lv_goto (tgt := 57) hx hb dX8_haste_53 (by decide) ?_
                exact W.iret (v := 1) hx hb hr (fun t ht hW => ⟨⟨1, grf, rfl, ⟨(show ((w.toInt < 0 ∨ 1 < w.toInt) ∧ (1 : Int32).toInt = -5) ∨ ((0 ≤ w.toInt ∧ w.toInt ≤ 1) ∧ ((((4 : Int32).toInt < 0 ∨ 4 < (4 : Int32).toInt) ∧ (1 : Int32).toInt = -6) ∨ ((0 ≤ (4 : Int32).toInt ∧ (4 : Int32).toInt ≤ 4) ∧ ((w.toInt = 1 ∧ (1 : Int32).toInt = (if (zHv gki gpa gta npu.toInt.toNat (4 : Int32).toInt.toNat nde.toInt nse.toInt) 9 < (zHv gki gpa gta npu.toInt.toNat (4 : Int32).toInt.toNat nde.toInt nse.toInt) 0 then 1 else 0)) ∨ (w.toInt = 0 ∧ (1 : Int32).toInt = (zHs (zHv gki gpa gta npu.toInt.toNat (4 : Int32).toInt.toNat nde.toInt nse.toInt) 9 : Nat)))))) from by (have k1 : (1 : Int32).toInt = 1 := (by decide); have k4 : (4 : Int32).toInt = 4 := (by decide); have k9 : (1 : Int32).toInt = 1 := (by decide); have k9_ : (9 : Int32).toInt = 9 := (by decide); have k0_ : (0 : Int32).toInt = 0 := (by decide); refine Or.inr ⟨by omega, Or.inr ⟨by omega, Or.inl ⟨by omega, (by rw [show (4 : Int32).toInt.toNat = 4 from by decide]; have z1 := hsr_117_0; have z2 := hsr_121_0; rw [k9_] at z1; rw [k0_] at z2; have y1 : (zHv gki gpa gta npu.toInt.toNat 4 nde.toInt nse.toInt) 9 = r_117.toInt := z1.symm; have y2 : (zHv gki gpa gta npu.toInt.toNat 4 nde.toInt nse.toInt) 0 = r_121.toInt := z2.symm; rw [y1, y2]; first | (rw [if_pos (by omega)]; omega) | (rw [if_neg (by omega)]; omega))⟩⟩⟩)), trivial⟩, zRet ht hP hD [1, 0, 2, 3, 4] (by decide) rfl⟩, hS.F ht⟩) hS.2.2 dX8_haste_57
        · exact absurd c_20 (by decide)
    · have fc_5 : 1 < w.toInt := zf_nle c_5 rfl (by decide)
      refine lv_aload_n hx hb dX8_haste_9 rfl (lv_at hl 0 rfl) ?_
      refine lv_bipush (v := (-5)) hx hb dX8_haste_10 (by decide) ?_
      skip
      refine zw_V (As := [.int (-5)]) (rest := []) (wr := [(mki, .inl (cI, 8, .inl gki)), (mpa, .inl (cI, 8, .inl gpa)), (mta, .inl (cI, 8, .inl gta))]) ⟨hx, hb, hml, hown, hts⟩ (c_M_no_5 l D cI cJ cZ cP cS po m0 mrf mki mpa mta mla msl mco mhe mso msi msh mce mca mwo mnu mte mwa mke mma mth mtr (npu) (nte) (nat_) (nde) (nto) (nse) (nhu) (nga) (nsd) (nfa) (nba) (npl) (nen) (nnu) (nwr) (nra) (nik) grf hy0 hy1 hy2 hy3 hy4 hy5 hy6 hy7 hy8 hy9 hy10 hy11 hy12 hy13 H.size) (cwV 1 hts gX8_haste_X8_no rfl rfl rfl ⟨rfl, dh_X8_no⟩ ⟨Nat.le_of_ble_eq_true rfl, Nat.le_of_ble_eq_true rfl⟩) hK hN (hZ.kept hS) hP hD hS hA [0, 1] [2, 3, 4] rfl rfl (by decide) (by decide) (by decide) (va_recv (q := (RX8, TX8, 38)) hK hP (ci := 8) (q0 := 0) rfl rfl) rfl hl.1 rfl (Nat.le_of_ble_eq_true rfl) dX8_haste_12 ⟨Nat.le_of_ble_eq_true rfl, Nat.le_of_ble_eq_true rfl⟩ (fun r_126 u_127 H locs hr_126 hP hD hS => ?_)
      obtain ⟨q_128, rfl⟩ : ∃ z, z = u_127 := ⟨_, rfl⟩
      have h9R := zRe (ws' := [(mki, .inl (cI, 8, .inl gki)), (mpa, .inl (cI, 8, .inl gpa)), (mta, .inl (cI, 8, .inl gta)), (zMO m0 npu nte nat_ nde nto nse nhu nga nsd nfa mrf mki mpa mta mla msl mco mhe mso msi msh mce mca mwo mnu mte nba npl nen nnu nwr mwa mke mma mth mtr nra nik), (mrf, .inl (cI, 8, .inl q_128))]) hP hD rfl
      clear hP hD
      obtain ⟨hP, hD⟩ := h9R
      obtain rfl := hr_126
      exact W.iret (v := (-5)) hx hb hr (fun t ht hW => ⟨⟨(-5), q_128, rfl, ⟨(show ((w.toInt < 0 ∨ 1 < w.toInt) ∧ ((-5) : Int32).toInt = -5) ∨ ((0 ≤ w.toInt ∧ w.toInt ≤ 1) ∧ (((n.toInt < 0 ∨ 4 < n.toInt) ∧ ((-5) : Int32).toInt = -6) ∨ ((0 ≤ n.toInt ∧ n.toInt ≤ 4) ∧ ((w.toInt = 1 ∧ ((-5) : Int32).toInt = (if (zHv gki gpa gta npu.toInt.toNat n.toInt.toNat nde.toInt nse.toInt) 9 < (zHv gki gpa gta npu.toInt.toNat n.toInt.toNat nde.toInt nse.toInt) 0 then 1 else 0)) ∨ (w.toInt = 0 ∧ ((-5) : Int32).toInt = (zHs (zHv gki gpa gta npu.toInt.toNat n.toInt.toNat nde.toInt nse.toInt) 9 : Nat)))))) from by (have k5m : ((-5) : Int32).toInt = -5 := (by decide); have k9 : ((-5) : Int32).toInt = -5 := (by decide); omega)), trivial⟩, zRet ht hP hD [3, 4, 0, 1, 2] (by decide) rfl⟩, hS.F ht⟩) hS.2.2 dX8_haste_15

