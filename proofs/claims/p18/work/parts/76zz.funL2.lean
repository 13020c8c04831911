set_option maxHeartbeats 4000000 in
set_option maxRecDepth 100000 in
theorem c_F_M_pullOf (l : Launch) (D : va_G) (cI cJ cZ cP cS : ClassId) (po : zPool) (m0 mrf mki mpa mta mla msl mco mhe mso msi msh mce mca mwo mnu mte mwa mke mma mth mtr : Nat) (npu nte nat_ nde nto nse nhu nga nsd nfa nba npl nen nnu nwr nra nik : Int32) (grf gki gpa gta : Nat → Int32) (p_ w : Int32) (hy0 : 0 ≤ npu.toInt) (hy1 : npu.toInt ≤ 8) (hy2 : 4 ≤ nte.toInt) (hy3 : nte.toInt ≤ 40) (hy4 : 0 ≤ nat_.toInt) (hy5 : nat_.toInt ≤ 40) (hy6 : 0 ≤ nde.toInt) (hy7 : nde.toInt ≤ 24) (hy8 : 0 ≤ nhu.toInt) (hy9 : nhu.toInt ≤ 9) (hy10 : 0 ≤ nra.toInt) (hy11 : nra.toInt ≤ 2000) (hy12 : 0 ≤ nik.toInt) (hy13 : nik.toInt ≤ 1) (hp_gki : zRg gki (0) 6) (hp_gpa : zRg gpa (0) 9) (hp_gta : zRg gta (0) 60) (hpz : Nat) : Met l yX8_pullOf wsX8_pullOf ({ frames := 1, cells := 0, slots := 0, locals := 23 }) (va_Pc [.ref m0, .int p_, .int w] (zW D (zKT cI cJ cZ cP cS) po [(zMO m0 npu nte nat_ nde nto nse nhu nga nsd nfa mrf mki mpa mta mla msl mco mhe mso msi msh mce mca mwo mnu mte nba npl nen nnu nwr mwa mke mma mth mtr nra nik), (mrf, .inl (cI, 8, .inl grf)), (mki, .inl (cI, 8, .inl gki)), (mpa, .inl (cI, 8, .inl gpa)), (mta, .inl (cI, 8, .inl gta))] hpz)) (va_Qi (fun (r : Int32) (grf2 : (Nat → Int32)) => (((p_.toInt < 0 ∨ npu.toInt ≤ p_.toInt) ∧ r.toInt = -5) ∨ ((0 ≤ p_.toInt ∧ p_.toInt < npu.toInt) ∧ (((w.toInt < 0 ∨ 4 < w.toInt) ∧ r.toInt = -5) ∨ ((0 ≤ w.toInt ∧ w.toInt ≤ 4) ∧ r.toInt = (if w.toInt = 0 then (gki p_.toNatClampNeg).toInt else if w.toInt = 1 then (gpa p_.toNatClampNeg).toInt else if w.toInt = 2 then (gta p_.toNatClampNeg).toInt else if w.toInt = 3 then zStp (gki p_.toNatClampNeg).toInt (gpa p_.toNatClampNeg).toInt else if 1 ≤ nde.toInt ∧ (gta p_.toNatClampNeg).toInt ≤ nse.toInt then 1 else 0))))) ∧ (True)) (zB D [(zMO m0 npu nte nat_ nde nto nse nhu nga nsd nfa mrf mki mpa mta mla msl mco mhe mso msi msh mce mca mwo mnu mte nba npl nen nnu nwr mwa mke mma mth mtr nra nik), (mrf, .inl (cI, 8, .inl grf)), (mki, .inl (cI, 8, .inl gki)), (mpa, .inl (cI, 8, .inl gpa)), (mta, .inl (cI, 8, .inl gta))] hpz (fun (grf2 : Nat → Int32) => [(zMO m0 npu nte nat_ nde nto nse nhu nga nsd nfa mrf mki mpa mta mla msl mco mhe mso msi msh mce mca mwo mnu mte nba npl nen nnu nwr mwa mke mma mth mtr nra nik), (mrf, .inl (cI, 8, .inl grf2)), (mki, .inl (cI, 8, .inl gki)), (mpa, .inl (cI, 8, .inl gpa)), (mta, .inl (cI, 8, .inl gta))])) (va_A [(zMO m0 npu nte nat_ nde nto nse nhu nga nsd nfa mrf mki mpa mta mla msl mco mhe mso msi msh mce mca mwo mnu mte nba npl nen nnu nwr mwa mke mma mth mtr nra nik), (mrf, .inl (cI, 8, .inl grf)), (mki, .inl (cI, 8, .inl gki)), (mpa, .inl (cI, 8, .inl gpa)), (mta, .inl (cI, 8, .inl gta))] hpz)) 0 0 (va_A [(zMO m0 npu nte nat_ nde nto nse nhu nga nsd nfa mrf mki mpa mta mla msl mco mhe mso msi msh mce mca mwo mnu mte nba npl nen nnu nwr mwa mke mma mth mtr nra nik), (mrf, .inl (cI, 8, .inl grf)), (mki, .inl (cI, 8, .inl gki)), (mpa, .inl (cI, 8, .inl gpa)), (mta, .inl (cI, 8, .inl gta))] hpz) := by
  refine Met.ofW (cc := cX8_pullOf) (maxL := 3) (ret := (some .int)) (by decide) rfl ?_
  intro p e s m args below meth c s₁ B hml hv
  obtain ⟨rfl, hsz, hP, hK, hD0, hN, hZ⟩ := hv
  have hx := B.exec
  have hb := B.bytes
  have hr := B.returns
  have hts := atoms_spec (ws := wsX8_pullOf) B.pre
  have hown : s.vm.findClass RX8 = some m.cls := findClass_of_methodNamed B.named
  have hlocks := B.notSynchronized
  subst hsz
  have hD := hD0.self (sz := s.heap.size)
  have hA := zA_of hD
  have hl := lv_entry ([.ref m0, .int p_, .int w]) (n := 3) (Nat.le_of_ble_eq_true rfl)
  rw [lg_entry_eq]
  generalize (lg_sl ([.ref m0, .int p_, .int w]) ++ List.replicate (3 - (lg_sl ([.ref m0, .int p_, .int w])).length) Slot.unset).toArray = ls at hl ⊢
  replace hl : lv_has ls 3 [(0, .ref m0), (1, .int p_), (2, .int w)] := hl
  refine zw_begin hP hD (fun H locs hP1 hS => ?_)
  clear hP
  have hP := hP1
  clear hP1
  refine lv_aload_n hx hb dX8_pullOf_0 rfl (lv_at hl 0 rfl) ?_
  refine lv_iload_n hx hb dX8_pullOf_1 rfl (lv_at hl 1 rfl) ?_
  refine zc_V (As := [.int p_]) (rest := []) ⟨hx, hb, hml, hown, hts⟩ (c_M_isPull l D cI cJ cZ cP cS po m0 mrf mki mpa mta mla msl mco mhe mso msi msh mce mca mwo mnu mte mwa mke mma mth mtr (npu) (nte) (nat_) (nde) (nto) (nse) (nhu) (nga) (nsd) (nfa) (nba) (npl) (nen) (nnu) (nwr) (nra) (nik) (p_) hy0 hy1 hy2 hy3 hy4 hy5 hy6 hy7 hy8 hy9 hy10 hy11 hy12 hy13) (cwV 1 hts gX8_pullOf_X8_isPull rfl rfl rfl ⟨rfl, dh_X8_isPull⟩ ⟨Nat.le_of_ble_eq_true rfl, Nat.le_of_ble_eq_true rfl⟩) hK hN (hZ.kept hS) hP (hP.sub [0] rfl) (va_recv (q := (RX8, TX8, 38)) hK hP (ci := 8) (q0 := 0) rfl rfl) rfl hl.1 rfl (Nat.le_of_ble_eq_true rfl) dX8_pullOf_2 ⟨Nat.le_of_ble_eq_true rfl, Nat.le_of_ble_eq_true rfl⟩ (fun r_1 hr_1 => ?_)
  rcases hr_1 with ⟨rfl, g_2⟩ | ⟨rfl, g_3, g_4⟩ | ⟨rfl, g_5, g_6⟩
  · refine lv_if_ne (tgt := 15) hx hb dX8_pullOf_5 (by decide) (fun c_7 => ?_) (fun c_7 => ?_)
    · exact absurd c_7 (by decide)
    · refine lv_aload_n hx hb dX8_pullOf_8 rfl (lv_at hl 0 rfl) ?_
      refine lv_bipush (v := (-5)) hx hb dX8_pullOf_9 (by decide) ?_
      skip
      refine zw_V (As := [.int (-5)]) (rest := []) (wr := [(mki, .inl (cI, 8, .inl gki)), (mpa, .inl (cI, 8, .inl gpa)), (mta, .inl (cI, 8, .inl gta))]) ⟨hx, hb, hml, hown, hts⟩ (c_M_no_5 l D cI cJ cZ cP cS po m0 mrf mki mpa mta mla msl mco mhe mso msi msh mce mca mwo mnu mte mwa mke mma mth mtr (npu) (nte) (nat_) (nde) (nto) (nse) (nhu) (nga) (nsd) (nfa) (nba) (npl) (nen) (nnu) (nwr) (nra) (nik) grf hy0 hy1 hy2 hy3 hy4 hy5 hy6 hy7 hy8 hy9 hy10 hy11 hy12 hy13 H.size) (cwV 1 hts gX8_pullOf_X8_no rfl rfl rfl ⟨rfl, dh_X8_no⟩ ⟨Nat.le_of_ble_eq_true rfl, Nat.le_of_ble_eq_true rfl⟩) hK hN (hZ.kept hS) hP hD hS hA [0, 1] [2, 3, 4] rfl rfl (by decide) (by decide) (by decide) (va_recv (q := (RX8, TX8, 38)) hK hP (ci := 8) (q0 := 0) rfl rfl) rfl hl.1 rfl (Nat.le_of_ble_eq_true rfl) dX8_pullOf_11 ⟨Nat.le_of_ble_eq_true rfl, Nat.le_of_ble_eq_true rfl⟩ (fun r_8 u_9 H locs hr_8 hP hD hS => ?_)
      obtain ⟨q_10, rfl⟩ : ∃ z, z = u_9 := ⟨_, rfl⟩
      have h9R := zRe (ws' := [(mki, .inl (cI, 8, .inl gki)), (mpa, .inl (cI, 8, .inl gpa)), (mta, .inl (cI, 8, .inl gta)), (zMO m0 npu nte nat_ nde nto nse nhu nga nsd nfa mrf mki mpa mta mla msl mco mhe mso msi msh mce mca mwo mnu mte nba npl nen nnu nwr mwa mke mma mth mtr nra nik), (mrf, .inl (cI, 8, .inl q_10))]) hP hD rfl
      clear hP hD
      obtain ⟨hP, hD⟩ := h9R
      obtain rfl := hr_8
      exact W.iret (v := (-5)) hx hb hr (fun t ht hW => ⟨⟨(-5), q_10, rfl, ⟨(show ((p_.toInt < 0 ∨ npu.toInt ≤ p_.toInt) ∧ ((-5) : Int32).toInt = -5) ∨ ((0 ≤ p_.toInt ∧ p_.toInt < npu.toInt) ∧ (((w.toInt < 0 ∨ 4 < w.toInt) ∧ ((-5) : Int32).toInt = -5) ∨ ((0 ≤ w.toInt ∧ w.toInt ≤ 4) ∧ ((-5) : Int32).toInt = (if w.toInt = 0 then (gki p_.toNatClampNeg).toInt else if w.toInt = 1 then (gpa p_.toNatClampNeg).toInt else if w.toInt = 2 then (gta p_.toNatClampNeg).toInt else if w.toInt = 3 then zStp (gki p_.toNatClampNeg).toInt (gpa p_.toNatClampNeg).toInt else if 1 ≤ nde.toInt ∧ (gta p_.toNatClampNeg).toInt ≤ nse.toInt then 1 else 0)))) from by (have k9 : ((-5) : Int32).toInt = -5 := (by decide); first | omega | (refine Or.inr ⟨by omega, Or.inr ⟨by omega, ?_⟩⟩; (repeat (first | rw [if_pos (by omega)] | rw [if_neg (by omega)])); first | done | rfl | omega))), trivial⟩, zRet ht hP hD [3, 4, 0, 1, 2] (by decide) rfl⟩, hS.F ht⟩) hS.2.2 dX8_pullOf_14
  · refine lv_if_ne (tgt := 15) hx hb dX8_pullOf_5 (by decide) (fun c_11 => ?_) (fun c_11 => ?_)
    · exact absurd c_11 (by decide)
    · refine lv_aload_n hx hb dX8_pullOf_8 rfl (lv_at hl 0 rfl) ?_
      refine lv_bipush (v := (-5)) hx hb dX8_pullOf_9 (by decide) ?_
      skip
      refine zw_V (As := [.int (-5)]) (rest := []) (wr := [(mki, .inl (cI, 8, .inl gki)), (mpa, .inl (cI, 8, .inl gpa)), (mta, .inl (cI, 8, .inl gta))]) ⟨hx, hb, hml, hown, hts⟩ (c_M_no_5 l D cI cJ cZ cP cS po m0 mrf mki mpa mta mla msl mco mhe mso msi msh mce mca mwo mnu mte mwa mke mma mth mtr (npu) (nte) (nat_) (nde) (nto) (nse) (nhu) (nga) (nsd) (nfa) (nba) (npl) (nen) (nnu) (nwr) (nra) (nik) grf hy0 hy1 hy2 hy3 hy4 hy5 hy6 hy7 hy8 hy9 hy10 hy11 hy12 hy13 H.size) (cwV 1 hts gX8_pullOf_X8_no rfl rfl rfl ⟨rfl, dh_X8_no⟩ ⟨Nat.le_of_ble_eq_true rfl, Nat.le_of_ble_eq_true rfl⟩) hK hN (hZ.kept hS) hP hD hS hA [0, 1] [2, 3, 4] rfl rfl (by decide) (by decide) (by decide) (va_recv (q := (RX8, TX8, 38)) hK hP (ci := 8) (q0 := 0) rfl rfl) rfl hl.1 rfl (Nat.le_of_ble_eq_true rfl) dX8_pullOf_11 ⟨Nat.le_of_ble_eq_true rfl, Nat.le_of_ble_eq_true rfl⟩ (fun r_12 u_13 H locs hr_12 hP hD hS => ?_)
      obtain ⟨q_14, rfl⟩ : ∃ z, z = u_13 := ⟨_, rfl⟩
      have h9R := zRe (ws' := [(mki, .inl (cI, 8, .inl gki)), (mpa, .inl (cI, 8, .inl gpa)), (mta, .inl (cI, 8, .inl gta)), (zMO m0 npu nte nat_ nde nto nse nhu nga nsd nfa mrf mki mpa mta mla msl mco mhe mso msi msh mce mca mwo mnu mte nba npl nen nnu nwr mwa mke mma mth mtr nra nik), (mrf, .inl (cI, 8, .inl q_14))]) hP hD rfl
      clear hP hD
      obtain ⟨hP, hD⟩ := h9R
      obtain rfl := hr_12
      exact W.iret (v := (-5)) hx hb hr (fun t ht hW => ⟨⟨(-5), q_14, rfl, ⟨(show ((p_.toInt < 0 ∨ npu.toInt ≤ p_.toInt) ∧ ((-5) : Int32).toInt = -5) ∨ ((0 ≤ p_.toInt ∧ p_.toInt < npu.toInt) ∧ (((w.toInt < 0 ∨ 4 < w.toInt) ∧ ((-5) : Int32).toInt = -5) ∨ ((0 ≤ w.toInt ∧ w.toInt ≤ 4) ∧ ((-5) : Int32).toInt = (if w.toInt = 0 then (gki p_.toNatClampNeg).toInt else if w.toInt = 1 then (gpa p_.toNatClampNeg).toInt else if w.toInt = 2 then (gta p_.toNatClampNeg).toInt else if w.toInt = 3 then zStp (gki p_.toNatClampNeg).toInt (gpa p_.toNatClampNeg).toInt else if 1 ≤ nde.toInt ∧ (gta p_.toNatClampNeg).toInt ≤ nse.toInt then 1 else 0)))) from by (have k9 : ((-5) : Int32).toInt = -5 := (by decide); first | omega | (refine Or.inr ⟨by omega, Or.inr ⟨by omega, ?_⟩⟩; (repeat (first | rw [if_pos (by omega)] | rw [if_neg (by omega)])); first | done | rfl | omega))), trivial⟩, zRet ht hP hD [3, 4, 0, 1, 2] (by decide) rfl⟩, hS.F ht⟩) hS.2.2 dX8_pullOf_14
  · refine lv_if_ne (tgt := 15) hx hb dX8_pullOf_5 (by decide) (fun c_15 => ?_) (fun c_15 => ?_)
    · refine lv_iload_n hx hb dX8_pullOf_15 rfl (lv_at hl 2 rfl) ?_
      by_cases hsp : w.toInt < 0 ∨ 4 < w.toInt
      · refine lv_tableOut (tgt := 101) hx hb dX8_pullOf_16 hsp (by decide) ?_
        refine lv_aload_n hx hb dX8_pullOf_101 rfl (lv_at hl 0 rfl) ?_
        refine lv_bipush (v := (-5)) hx hb dX8_pullOf_102 (by decide) ?_
        skip
        refine zw_V (As := [.int (-5)]) (rest := []) (wr := [(mki, .inl (cI, 8, .inl gki)), (mpa, .inl (cI, 8, .inl gpa)), (mta, .inl (cI, 8, .inl gta))]) ⟨hx, hb, hml, hown, hts⟩ (c_M_no_5 l D cI cJ cZ cP cS po m0 mrf mki mpa mta mla msl mco mhe mso msi msh mce mca mwo mnu mte mwa mke mma mth mtr (npu) (nte) (nat_) (nde) (nto) (nse) (nhu) (nga) (nsd) (nfa) (nba) (npl) (nen) (nnu) (nwr) (nra) (nik) grf hy0 hy1 hy2 hy3 hy4 hy5 hy6 hy7 hy8 hy9 hy10 hy11 hy12 hy13 H.size) (cwV 1 hts gX8_pullOf_X8_no rfl rfl rfl ⟨rfl, dh_X8_no⟩ ⟨Nat.le_of_ble_eq_true rfl, Nat.le_of_ble_eq_true rfl⟩) hK hN (hZ.kept hS) hP hD hS hA [0, 1] [2, 3, 4] rfl rfl (by decide) (by decide) (by decide) (va_recv (q := (RX8, TX8, 38)) hK hP (ci := 8) (q0 := 0) rfl rfl) rfl hl.1 rfl (Nat.le_of_ble_eq_true rfl) dX8_pullOf_104 ⟨Nat.le_of_ble_eq_true rfl, Nat.le_of_ble_eq_true rfl⟩ (fun r_16 u_17 H locs hr_16 hP hD hS => ?_)
        obtain ⟨q_18, rfl⟩ : ∃ z, z = u_17 := ⟨_, rfl⟩
        have h9R := zRe (ws' := [(mki, .inl (cI, 8, .inl gki)), (mpa, .inl (cI, 8, .inl gpa)), (mta, .inl (cI, 8, .inl gta)), (zMO m0 npu nte nat_ nde nto nse nhu nga nsd nfa mrf mki mpa mta mla msl mco mhe mso msi msh mce mca mwo mnu mte nba npl nen nnu nwr mwa mke mma mth mtr nra nik), (mrf, .inl (cI, 8, .inl q_18))]) hP hD rfl
        clear hP hD
        obtain ⟨hP, hD⟩ := h9R
        obtain rfl := hr_16
        exact W.iret (v := (-5)) hx hb hr (fun t ht hW => ⟨⟨(-5), q_18, rfl, ⟨(show ((p_.toInt < 0 ∨ npu.toInt ≤ p_.toInt) ∧ ((-5) : Int32).toInt = -5) ∨ ((0 ≤ p_.toInt ∧ p_.toInt < npu.toInt) ∧ (((w.toInt < 0 ∨ 4 < w.toInt) ∧ ((-5) : Int32).toInt = -5) ∨ ((0 ≤ w.toInt ∧ w.toInt ≤ 4) ∧ ((-5) : Int32).toInt = (if w.toInt = 0 then (gki p_.toNatClampNeg).toInt else if w.toInt = 1 then (gpa p_.toNatClampNeg).toInt else if w.toInt = 2 then (gta p_.toNatClampNeg).toInt else if w.toInt = 3 then zStp (gki p_.toNatClampNeg).toInt (gpa p_.toNatClampNeg).toInt else if 1 ≤ nde.toInt ∧ (gta p_.toNatClampNeg).toInt ≤ nse.toInt then 1 else 0)))) from by (have k9 : ((-5) : Int32).toInt = -5 := (by decide); first | omega | (refine Or.inr ⟨by omega, Or.inr ⟨by omega, ?_⟩⟩; (repeat (first | rw [if_pos (by omega)] | rw [if_neg (by omega)])); first | done | rfl | omega))), trivial⟩, zRet ht hP hD [3, 4, 0, 1, 2] (by decide) rfl⟩, hS.F ht⟩) hS.2.2 dX8_pullOf_107
      · have hsp : w = 0 ∨ w = 1 ∨ w = 2 ∨ w = 3 ∨ w = 4 := by
          rcases (show w.toInt = 0 ∨ w.toInt = 1 ∨ w.toInt = 2 ∨ w.toInt = 3 ∨ w.toInt = 4 by omega) with h9 | h9 | h9 | h9 | h9
          · refine Or.inl ?_; exact zf_val h9 (by decide)
          · refine Or.inr (Or.inl ?_); exact zf_val h9 (by decide)
          · refine Or.inr (Or.inr (Or.inl ?_)); exact zf_val h9 (by decide)
          · refine Or.inr (Or.inr (Or.inr (Or.inl ?_))); exact zf_val h9 (by decide)
          · refine Or.inr (Or.inr (Or.inr (Or.inr (?_)))); exact zf_val h9 (by decide)
        rcases hsp with rfl | rfl | rfl | rfl | rfl
        · have kc0 : (0 : Int32).toInt = 0 := by decide
          refine lv_tableIn (tgt := 52) hx hb dX8_pullOf_16 (by decide) (by decide) rfl (by decide) ?_
          refine lv_aload_n hx hb dX8_pullOf_52 rfl (lv_at hl 0 rfl) ?_
          refine va_get (D := D) (ci := 8) (v := .ref mki) (C := RX8) (T := TX8) (N := 38) hx hb hts hi_X8_pullOf_8 hown hK hP 0 rfl rfl 11 (by decide) (hts (.fieldLink RX8 29 "TheLiningsInItModel" "kind" "[I") (List.mem_of_getElem? (i := 1) rfl)) (fun _ h9 => h9) rfl dX8_pullOf_53 ?_
          refine lv_iload_n hx hb dX8_pullOf_56 rfl (lv_at hl 1 rfl) ?_
          refine va_iald hx hb hK hP 2 0 rfl rfl (zf_in (by omega) (by omega)) dX8_pullOf_57 ?_
          refine lv_topi (fun x_19 ex_19 => ?_)
          have bx_19 : 0 ≤ x_19.toInt ∧ x_19.toInt ≤ 6 := by rw [ex_19]; exact hp_gki _
          exact W.iret (v := x_19) hx hb hr (fun t ht hW => ⟨⟨x_19, grf, rfl, ⟨(show ((p_.toInt < 0 ∨ npu.toInt ≤ p_.toInt) ∧ (x_19 : Int32).toInt = -5) ∨ ((0 ≤ p_.toInt ∧ p_.toInt < npu.toInt) ∧ ((((0 : Int32).toInt < 0 ∨ 4 < (0 : Int32).toInt) ∧ (x_19 : Int32).toInt = -5) ∨ ((0 ≤ (0 : Int32).toInt ∧ (0 : Int32).toInt ≤ 4) ∧ (x_19 : Int32).toInt = (if (0 : Int32).toInt = 0 then (gki p_.toNatClampNeg).toInt else if (0 : Int32).toInt = 1 then (gpa p_.toNatClampNeg).toInt else if (0 : Int32).toInt = 2 then (gta p_.toNatClampNeg).toInt else if (0 : Int32).toInt = 3 then zStp (gki p_.toNatClampNeg).toInt (gpa p_.toNatClampNeg).toInt else if 1 ≤ nde.toInt ∧ (gta p_.toNatClampNeg).toInt ≤ nse.toInt then 1 else 0)))) from by (first | omega | (refine Or.inr ⟨by omega, Or.inr ⟨by omega, ?_⟩⟩; (repeat (first | rw [if_pos (by omega)] | rw [if_neg (by omega)])); (try rw [← ex_19]); first | done | rfl | omega))), trivial⟩, zRet ht hP hD [0, 1, 2, 3, 4] (by decide) rfl⟩, hS.F ht⟩) hS.2.2 dX8_pullOf_58
        · have kc1 : (1 : Int32).toInt = 1 := by decide
          refine lv_tableIn (tgt := 59) hx hb dX8_pullOf_16 (by decide) (by decide) rfl (by decide) ?_
          refine lv_aload_n hx hb dX8_pullOf_59 rfl (lv_at hl 0 rfl) ?_
          refine va_get (D := D) (ci := 8) (v := .ref mpa) (C := RX8) (T := TX8) (N := 38) hx hb hts hi_X8_pullOf_8 hown hK hP 0 rfl rfl 12 (by decide) (hts (.fieldLink RX8 32 "TheLiningsInItModel" "part" "[I") (List.mem_of_getElem? (i := 2) rfl)) (fun _ h9 => h9) rfl dX8_pullOf_60 ?_
          refine lv_iload_n hx hb dX8_pullOf_63 rfl (lv_at hl 1 rfl) ?_
          refine va_iald hx hb hK hP 3 0 rfl rfl (zf_in (by omega) (by omega)) dX8_pullOf_64 ?_
          refine lv_topi (fun x_20 ex_20 => ?_)
          have bx_20 : 0 ≤ x_20.toInt ∧ x_20.toInt ≤ 9 := by rw [ex_20]; exact hp_gpa _
          exact W.iret (v := x_20) hx hb hr (fun t ht hW => ⟨⟨x_20, grf, rfl, ⟨(show ((p_.toInt < 0 ∨ npu.toInt ≤ p_.toInt) ∧ (x_20 : Int32).toInt = -5) ∨ ((0 ≤ p_.toInt ∧ p_.toInt < npu.toInt) ∧ ((((1 : Int32).toInt < 0 ∨ 4 < (1 : Int32).toInt) ∧ (x_20 : Int32).toInt = -5) ∨ ((0 ≤ (1 : Int32).toInt ∧ (1 : Int32).toInt ≤ 4) ∧ (x_20 : Int32).toInt = (if (1 : Int32).toInt = 0 then (gki p_.toNatClampNeg).toInt else if (1 : Int32).toInt = 1 then (gpa p_.toNatClampNeg).toInt else if (1 : Int32).toInt = 2 then (gta p_.toNatClampNeg).toInt else if (1 : Int32).toInt = 3 then zStp (gki p_.toNatClampNeg).toInt (gpa p_.toNatClampNeg).toInt else if 1 ≤ nde.toInt ∧ (gta p_.toNatClampNeg).toInt ≤ nse.toInt then 1 else 0)))) from by (first | omega | (refine Or.inr ⟨by omega, Or.inr ⟨by omega, ?_⟩⟩; (repeat (first | rw [if_pos (by omega)] | rw [if_neg (by omega)])); (try rw [← ex_20]); first | done | rfl | omega))), trivial⟩, zRet ht hP hD [0, 1, 2, 3, 4] (by decide) rfl⟩, hS.F ht⟩) hS.2.2 dX8_pullOf_65
        · have kc2 : (2 : Int32).toInt = 2 := by decide
          refine lv_tableIn (tgt := 66) hx hb dX8_pullOf_16 (by decide) (by decide) rfl (by decide) ?_
          refine lv_aload_n hx hb dX8_pullOf_66 rfl (lv_at hl 0 rfl) ?_
          refine va_get (D := D) (ci := 8) (v := .ref mta) (C := RX8) (T := TX8) (N := 38) hx hb hts hi_X8_pullOf_8 hown hK hP 0 rfl rfl 13 (by decide) (hts (.fieldLink RX8 35 "TheLiningsInItModel" "takes" "[I") (List.mem_of_getElem? (i := 3) rfl)) (fun _ h9 => h9) rfl dX8_pullOf_67 ?_
          refine lv_iload_n hx hb dX8_pullOf_70 rfl (lv_at hl 1 rfl) ?_
          refine va_iald hx hb hK hP 4 0 rfl rfl (zf_in (by omega) (by omega)) dX8_pullOf_71 ?_
          refine lv_topi (fun x_21 ex_21 => ?_)
          have bx_21 : 0 ≤ x_21.toInt ∧ x_21.toInt ≤ 60 := by rw [ex_21]; exact hp_gta _
          exact W.iret (v := x_21) hx hb hr (fun t ht hW => ⟨⟨x_21, grf, rfl, ⟨(show ((p_.toInt < 0 ∨ npu.toInt ≤ p_.toInt) ∧ (x_21 : Int32).toInt = -5) ∨ ((0 ≤ p_.toInt ∧ p_.toInt < npu.toInt) ∧ ((((2 : Int32).toInt < 0 ∨ 4 < (2 : Int32).toInt) ∧ (x_21 : Int32).toInt = -5) ∨ ((0 ≤ (2 : Int32).toInt ∧ (2 : Int32).toInt ≤ 4) ∧ (x_21 : Int32).toInt = (if (2 : Int32).toInt = 0 then (gki p_.toNatClampNeg).toInt else if (2 : Int32).toInt = 1 then (gpa p_.toNatClampNeg).toInt else if (2 : Int32).toInt = 2 then (gta p_.toNatClampNeg).toInt else if (2 : Int32).toInt = 3 then zStp (gki p_.toNatClampNeg).toInt (gpa p_.toNatClampNeg).toInt else if 1 ≤ nde.toInt ∧ (gta p_.toNatClampNeg).toInt ≤ nse.toInt then 1 else 0)))) from by (first | omega | (refine Or.inr ⟨by omega, Or.inr ⟨by omega, ?_⟩⟩; (repeat (first | rw [if_pos (by omega)] | rw [if_neg (by omega)])); (try rw [← ex_21]); first | done | rfl | omega))), trivial⟩, zRet ht hP hD [0, 1, 2, 3, 4] (by decide) rfl⟩, hS.F ht⟩) hS.2.2 dX8_pullOf_72
        · have kc3 : (3 : Int32).toInt = 3 := by decide
          refine lv_tableIn (tgt := 73) hx hb dX8_pullOf_16 (by decide) (by decide) rfl (by decide) ?_
          refine lv_aload_n hx hb dX8_pullOf_73 rfl (lv_at hl 0 rfl) ?_
          refine lv_iload_n hx hb dX8_pullOf_74 rfl (lv_at hl 1 rfl) ?_
          refine zc_V (As := [.int p_]) (rest := []) ⟨hx, hb, hml, hown, hts⟩ (c_F_M_step l D cI cJ cZ cP cS po m0 mrf mki mpa mta mla msl mco mhe mso msi msh mce mca mwo mnu mte mwa mke mma mth mtr (npu) (nte) (nat_) (nde) (nto) (nse) (nhu) (nga) (nsd) (nfa) (nba) (npl) (nen) (nnu) (nwr) (nra) (nik) gki gpa (p_) hy0 hy1 hy2 hy3 hy4 hy5 hy6 hy7 hy8 hy9 hy10 hy11 hy12 hy13 (by omega) (by omega) hp_gki hp_gpa) (cwV 1 hts gX8_pullOf_X8_step rfl rfl rfl ⟨rfl, dh_X8_step⟩ ⟨Nat.le_of_ble_eq_true rfl, Nat.le_of_ble_eq_true rfl⟩) hK hN (hZ.kept hS) hP (hP.sub [0, 2, 3] rfl) (va_recv (q := (RX8, TX8, 38)) hK hP (ci := 8) (q0 := 0) rfl rfl) rfl hl.1 rfl (Nat.le_of_ble_eq_true rfl) dX8_pullOf_75 ⟨Nat.le_of_ble_eq_true rfl, Nat.le_of_ble_eq_true rfl⟩ (fun r_22 hr_22 => ?_)
          obtain ⟨g_23, g_24, hsr_22_0⟩ := hr_22
          exact W.iret (v := r_22) hx hb hr (fun t ht hW => ⟨⟨r_22, grf, rfl, ⟨(show ((p_.toInt < 0 ∨ npu.toInt ≤ p_.toInt) ∧ (r_22 : Int32).toInt = -5) ∨ ((0 ≤ p_.toInt ∧ p_.toInt < npu.toInt) ∧ ((((3 : Int32).toInt < 0 ∨ 4 < (3 : Int32).toInt) ∧ (r_22 : Int32).toInt = -5) ∨ ((0 ≤ (3 : Int32).toInt ∧ (3 : Int32).toInt ≤ 4) ∧ (r_22 : Int32).toInt = (if (3 : Int32).toInt = 0 then (gki p_.toNatClampNeg).toInt else if (3 : Int32).toInt = 1 then (gpa p_.toNatClampNeg).toInt else if (3 : Int32).toInt = 2 then (gta p_.toNatClampNeg).toInt else if (3 : Int32).toInt = 3 then zStp (gki p_.toNatClampNeg).toInt (gpa p_.toNatClampNeg).toInt else if 1 ≤ nde.toInt ∧ (gta p_.toNatClampNeg).toInt ≤ nse.toInt then 1 else 0)))) from by (have zs := hsr_22_0; first | omega | (refine Or.inr ⟨by omega, Or.inr ⟨by omega, ?_⟩⟩; (repeat (first | rw [if_pos (by omega)] | rw [if_neg (by omega)])); first | done | rfl | omega))), trivial⟩, zRet ht hP hD [0, 1, 2, 3, 4] (by decide) rfl⟩, hS.F ht⟩) hS.2.2 dX8_pullOf_78
        · have kc4 : (4 : Int32).toInt = 4 := by decide
          refine lv_tableIn (tgt := 79) hx hb dX8_pullOf_16 (by decide) (by decide) rfl (by decide) ?_
          refine lv_aload_n hx hb dX8_pullOf_79 rfl (lv_at hl 0 rfl) ?_
          refine lv_iload_n hx hb dX8_pullOf_80 rfl (lv_at hl 1 rfl) ?_
          refine lv_aload_n hx hb dX8_pullOf_81 rfl (lv_at hl 0 rfl) ?_
          refine va_get (D := D) (ci := 8) (v := .int nde) (C := RX8) (T := TX8) (N := 38) hx hb hts hi_X8_pullOf_8 hown hK hP 0 rfl rfl 3 (by decide) (hts (.fieldLink RX8 115 "TheLiningsInItModel" "depth" "I") (List.mem_of_getElem? (i := 4) rfl)) (fun _ h9 => h9) rfl dX8_pullOf_82 ?_
          refine lv_aload_n hx hb dX8_pullOf_85 rfl (lv_at hl 0 rfl) ?_
          refine va_get (D := D) (ci := 8) (v := .int nse) (C := RX8) (T := TX8) (N := 38) hx hb hts hi_X8_pullOf_8 hown hK hP 0 rfl rfl 5 (by decide) (hts (.fieldLink RX8 13 "TheLiningsInItModel" "seconds" "I") (List.mem_of_getElem? (i := 5) rfl)) (fun _ h9 => h9) rfl dX8_pullOf_86 ?_
          refine zc_V (As := [.int p_, .int nde, .int nse]) (rest := []) ⟨hx, hb, hml, hown, hts⟩ (c_F_M_mayBe l D cI cJ cZ cP cS po m0 mrf mki mpa mta mla msl mco mhe mso msi msh mce mca mwo mnu mte mwa mke mma mth mtr (npu) (nte) (nat_) (nde) (nto) (nse) (nhu) (nga) (nsd) (nfa) (nba) (npl) (nen) (nnu) (nwr) (nra) (nik) gta (p_) (nde) (nse) hy0 hy1 hy2 hy3 hy4 hy5 hy6 hy7 hy8 hy9 hy10 hy11 hy12 hy13 (by omega) (by omega) hp_gta) (cwV 3 hts gX8_pullOf_X8_mayBe rfl rfl rfl ⟨rfl, dh_X8_mayBe⟩ ⟨Nat.le_of_ble_eq_true rfl, Nat.le_of_ble_eq_true rfl⟩) hK hN (hZ.kept hS) hP (hP.sub [0, 4] rfl) (va_recv (q := (RX8, TX8, 38)) hK hP (ci := 8) (q0 := 0) rfl rfl) rfl hl.1 rfl (Nat.le_of_ble_eq_true rfl) dX8_pullOf_89 ⟨Nat.le_of_ble_eq_true rfl, Nat.le_of_ble_eq_true rfl⟩ (fun r_25 hr_25 => ?_)
          obtain ⟨g_26, g_27, hsr_25_0⟩ := hr_25
          refine lv_if_eq (tgt := 99) hx hb dX8_pullOf_92 (by decide) (fun c_28 => ?_) (fun c_28 => ?_)
          · have fc_28 : r_25.toInt = 0 := zf_eq c_28 rfl (by decide)
            refine lv_iconst (v := 0) hx hb dX8_pullOf_99 (by decide) ?_
            exact W.iret (v := 0) hx hb hr (fun t ht hW => ⟨⟨0, grf, rfl, ⟨(show ((p_.toInt < 0 ∨ npu.toInt ≤ p_.toInt) ∧ (0 : Int32).toInt = -5) ∨ ((0 ≤ p_.toInt ∧ p_.toInt < npu.toInt) ∧ ((((4 : Int32).toInt < 0 ∨ 4 < (4 : Int32).toInt) ∧ (0 : Int32).toInt = -5) ∨ ((0 ≤ (4 : Int32).toInt ∧ (4 : Int32).toInt ≤ 4) ∧ (0 : Int32).toInt = (if (4 : Int32).toInt = 0 then (gki p_.toNatClampNeg).toInt else if (4 : Int32).toInt = 1 then (gpa p_.toNatClampNeg).toInt else if (4 : Int32).toInt = 2 then (gta p_.toNatClampNeg).toInt else if (4 : Int32).toInt = 3 then zStp (gki p_.toNatClampNeg).toInt (gpa p_.toNatClampNeg).toInt else if 1 ≤ nde.toInt ∧ (gta p_.toNatClampNeg).toInt ≤ nse.toInt then 1 else 0)))) from by (have k9 : (0 : Int32).toInt = 0 := (by decide); refine Or.inr ⟨by omega, Or.inr ⟨by omega, ?_⟩⟩; (repeat (first | rw [if_pos (by omega)] | rw [if_neg (by omega)])); first | done | omega | (rw [if_pos (hsr_25_0.mp (by omega))]; omega) | (rw [if_neg (fun z => by (have z2 := hsr_25_0.mpr z; omega))]; omega))), trivial⟩, zRet ht hP hD [0, 1, 2, 3, 4] (by decide) rfl⟩, hS.F ht⟩) hS.2.2 dX8_pullOf_100
          · have fc_28 : r_25.toInt ≠ 0 := zf_ne c_28 rfl (by decide)
            refine lv_iconst (v := 1) hx hb dX8_pullOf_95 (by decide) ?_
            refine lv_goto (tgt := 100) hx hb dX8_pullOf_96 (by decide) ?_
            exact W.iret (v := 1) hx hb hr (fun t ht hW => ⟨⟨1, grf, rfl, ⟨(show ((p_.toInt < 0 ∨ npu.toInt ≤ p_.toInt) ∧ (1 : Int32).toInt = -5) ∨ ((0 ≤ p_.toInt ∧ p_.toInt < npu.toInt) ∧ ((((4 : Int32).toInt < 0 ∨ 4 < (4 : Int32).toInt) ∧ (1 : Int32).toInt = -5) ∨ ((0 ≤ (4 : Int32).toInt ∧ (4 : Int32).toInt ≤ 4) ∧ (1 : Int32).toInt = (if (4 : Int32).toInt = 0 then (gki p_.toNatClampNeg).toInt else if (4 : Int32).toInt = 1 then (gpa p_.toNatClampNeg).toInt else if (4 : Int32).toInt = 2 then (gta p_.toNatClampNeg).toInt else if (4 : Int32).toInt = 3 then zStp (gki p_.toNatClampNeg).toInt (gpa p_.toNatClampNeg).toInt else if 1 ≤ nde.toInt ∧ (gta p_.toNatClampNeg).toInt ≤ nse.toInt then 1 else 0)))) from by (have k9 : (1 : Int32).toInt = 1 := (by decide); refine Or.inr ⟨by omega, Or.inr ⟨by omega, ?_⟩⟩; (repeat (first | rw [if_pos (by omega)] | rw [if_neg (by omega)])); first | done | omega | (rw [if_pos (hsr_25_0.mp (by omega))]; omega) | (rw [if_neg (fun z => by (have z2 := hsr_25_0.mpr z; omega))]; omega))), trivial⟩, zRet ht hP hD [0, 1, 2, 3, 4] (by decide) rfl⟩, hS.F ht⟩) hS.2.2 dX8_pullOf_100
    · exact absurd c_15 (by decide)
set_option maxHeartbeats 4000000 in
set_option maxRecDepth 100000 in
theorem c_F_M_judge (l : Launch) (D : va_G) (cI cJ cZ cP cS : ClassId) (po : zPool) (m0 mrf mki mpa mta mla msl mco mhe mso msi msh mce mca mwo mnu mte mwa mke mma mth mtr : Nat) (npu nte nat_ nde nto nse nhu nga nsd nfa nba npl nen nnu nwr nra nik : Int32) (grf ghe gsi gki gpa gta : Nat → Int32) (gce : Nat → Int64) (s_ n : Int32) (hy0 : 0 ≤ npu.toInt) (hy1 : npu.toInt ≤ 8) (hy2 : 4 ≤ nte.toInt) (hy3 : nte.toInt ≤ 40) (hy4 : 0 ≤ nat_.toInt) (hy5 : nat_.toInt ≤ 40) (hy6 : 0 ≤ nde.toInt) (hy7 : nde.toInt ≤ 24) (hy8 : 0 ≤ nhu.toInt) (hy9 : nhu.toInt ≤ 9) (hy10 : 0 ≤ nra.toInt) (hy11 : nra.toInt ≤ 2000) (hy12 : 0 ≤ nik.toInt) (hy13 : nik.toInt ≤ 1) (hy14 : 0 ≤ nse.toInt) (hy15 : nse.toInt ≤ 300) (hp_ghe : zRg ghe (0) 2) (hp_gsi : zRg gsi (0) 160) (hp_gki : zRg gki (0) 6) (hp_gpa : zRg gpa (0) 9) (hp_gta : zRg gta (0) 60) (hpz : Nat) : Met l yX8_judge wsX8_judge ({ frames := 2, cells := 0, slots := 0, locals := 45 }) (va_Pc [.ref m0, .int s_, .int n] (zW D (zKT cI cJ cZ cP cS) po [(zMO m0 npu nte nat_ nde nto nse nhu nga nsd nfa mrf mki mpa mta mla msl mco mhe mso msi msh mce mca mwo mnu mte nba npl nen nnu nwr mwa mke mma mth mtr nra nik), (mrf, .inl (cI, 8, .inl grf)), (mhe, .inl (cI, 8, .inl ghe)), (msi, .inl (cI, 8, .inl gsi)), (mce, .inl (cJ, 1280, .inr (.inl gce))), (mki, .inl (cI, 8, .inl gki)), (mpa, .inl (cI, 8, .inl gpa)), (mta, .inl (cI, 8, .inl gta))] hpz)) (va_Qi (fun (r : Int32) (grf2 : (Nat → Int32)) => (((s_.toInt < 0 ∨ 7 < s_.toInt) ∧ r.toInt = -11) ∨ ((0 ≤ s_.toInt ∧ s_.toInt ≤ 7) ∧ (((zHc (ghe s_.toNatClampNeg).toInt) = -1 ∧ r.toInt = -13) ∨ ((zHc (ghe s_.toNatClampNeg).toInt) ≠ -1 ∧ (zHc (ghe s_.toNatClampNeg).toInt) < 100 ∧ r.toInt = -12) ∨ (100 ≤ (zHc (ghe s_.toNatClampNeg).toInt) ∧ ((n.toInt < 0 ∧ r.toInt = -14) ∨ (0 ≤ n.toInt ∧ (gsi s_.toNatClampNeg).toInt < n.toInt ∧ r.toInt = -15) ∨ (0 ≤ n.toInt ∧ n.toInt ≤ (gsi s_.toNatClampNeg).toInt ∧ 20 < n.toInt ∧ r.toInt = -16) ∨ ((0 ≤ n.toInt ∧ n.toInt ≤ (gsi s_.toNatClampNeg).toInt ∧ n.toInt ≤ 20) ∧ r.toInt = zJg gki gpa gta npu.toInt nhu.toInt (zRw gce (160 * s_.toInt)) n.toInt.toNat 0 nde.toInt nse.toInt)))))) ∧ (True)) (zB D [(zMO m0 npu nte nat_ nde nto nse nhu nga nsd nfa mrf mki mpa mta mla msl mco mhe mso msi msh mce mca mwo mnu mte nba npl nen nnu nwr mwa mke mma mth mtr nra nik), (mrf, .inl (cI, 8, .inl grf)), (mhe, .inl (cI, 8, .inl ghe)), (msi, .inl (cI, 8, .inl gsi)), (mce, .inl (cJ, 1280, .inr (.inl gce))), (mki, .inl (cI, 8, .inl gki)), (mpa, .inl (cI, 8, .inl gpa)), (mta, .inl (cI, 8, .inl gta))] hpz (fun (grf2 : Nat → Int32) => [(zMO m0 npu nte nat_ nde nto nse nhu nga nsd nfa mrf mki mpa mta mla msl mco mhe mso msi msh mce mca mwo mnu mte nba npl nen nnu nwr mwa mke mma mth mtr nra nik), (mrf, .inl (cI, 8, .inl grf2)), (mhe, .inl (cI, 8, .inl ghe)), (msi, .inl (cI, 8, .inl gsi)), (mce, .inl (cJ, 1280, .inr (.inl gce))), (mki, .inl (cI, 8, .inl gki)), (mpa, .inl (cI, 8, .inl gpa)), (mta, .inl (cI, 8, .inl gta))])) (va_A [(zMO m0 npu nte nat_ nde nto nse nhu nga nsd nfa mrf mki mpa mta mla msl mco mhe mso msi msh mce mca mwo mnu mte nba npl nen nnu nwr mwa mke mma mth mtr nra nik), (mrf, .inl (cI, 8, .inl grf)), (mhe, .inl (cI, 8, .inl ghe)), (msi, .inl (cI, 8, .inl gsi)), (mce, .inl (cJ, 1280, .inr (.inl gce))), (mki, .inl (cI, 8, .inl gki)), (mpa, .inl (cI, 8, .inl gpa)), (mta, .inl (cI, 8, .inl gta))] hpz)) 0 0 (va_A [(zMO m0 npu nte nat_ nde nto nse nhu nga nsd nfa mrf mki mpa mta mla msl mco mhe mso msi msh mce mca mwo mnu mte nba npl nen nnu nwr mwa mke mma mth mtr nra nik), (mrf, .inl (cI, 8, .inl grf)), (mhe, .inl (cI, 8, .inl ghe)), (msi, .inl (cI, 8, .inl gsi)), (mce, .inl (cJ, 1280, .inr (.inl gce))), (mki, .inl (cI, 8, .inl gki)), (mpa, .inl (cI, 8, .inl gpa)), (mta, .inl (cI, 8, .inl gta))] hpz) := by
  refine Met.ofW (cc := cX8_judge) (maxL := 8) (ret := (some .int)) (by decide) rfl ?_
  intro p e s m args below meth c s₁ B hml hv
  obtain ⟨rfl, hsz, hP, hK, hD0, hN, hZ⟩ := hv
  have hx := B.exec
  have hb := B.bytes
  have hr := B.returns
  have hts := atoms_spec (ws := wsX8_judge) B.pre
  have hown : s.vm.findClass RX8 = some m.cls := findClass_of_methodNamed B.named
  have hlocks := B.notSynchronized
  subst hsz
  have hD := hD0.self (sz := s.heap.size)
  have hA := zA_of hD
  have hl := lv_entry ([.ref m0, .int s_, .int n]) (n := 8) (Nat.le_of_ble_eq_true rfl)
  rw [lg_entry_eq]
  generalize (lg_sl ([.ref m0, .int s_, .int n]) ++ List.replicate (8 - (lg_sl ([.ref m0, .int s_, .int n])).length) Slot.unset).toArray = ls at hl ⊢
  replace hl : lv_has ls 8 [(0, .ref m0), (1, .int s_), (2, .int n)] := hl
  refine zw_begin hP hD (fun H locs hP1 hS => ?_)
  clear hP
  have hP := hP1
  clear hP1
  refine zcut (T := fun K => ∀ (H : Heap) (locs : List Loc) (ls : Array Slot) (hP : va_P D vwCl [(zMO m0 npu nte nat_ nde nto nse nhu nga nsd nfa mrf mki mpa mta mla msl mco mhe mso msi msh mce mca mwo mnu mte nba npl nen nnu nwr mwa mke mma mth mtr nra nik), (mrf, .inl (cI, 8, .inl grf)), (mhe, .inl (cI, 8, .inl ghe)), (msi, .inl (cI, 8, .inl gsi)), (mce, .inl (cJ, 1280, .inr (.inl gce))), (mki, .inl (cI, 8, .inl gki)), (mpa, .inl (cI, 8, .inl gpa)), (mta, .inl (cI, 8, .inl gta))] H) (hD : va_D (va_A [(zMO m0 npu nte nat_ nde nto nse nhu nga nsd nfa mrf mki mpa mta mla msl mco mhe mso msi msh mce mca mwo mnu mte nba npl nen nnu nwr mwa mke mma mth mtr nra nik), (mrf, .inl (cI, 8, .inl grf)), (mhe, .inl (cI, 8, .inl ghe)), (msi, .inl (cI, 8, .inl gsi)), (mce, .inl (cJ, 1280, .inr (.inl gce))), (mki, .inl (cI, 8, .inl gki)), (mpa, .inl (cI, 8, .inl gpa)), (mta, .inl (cI, 8, .inl gta))] s.heap.size) [(zMO m0 npu nte nat_ nde nto nse nhu nga nsd nfa mrf mki mpa mta mla msl mco mhe mso msi msh mce mca mwo mnu mte nba npl nen nnu nwr mwa mke mma mth mtr nra nik), (mrf, .inl (cI, 8, .inl grf)), (mhe, .inl (cI, 8, .inl ghe)), (msi, .inl (cI, 8, .inl gsi)), (mce, .inl (cJ, 1280, .inr (.inl gce))), (mki, .inl (cI, 8, .inl gki)), (mpa, .inl (cI, 8, .inl gpa)), (mta, .inl (cI, 8, .inl gta))]) (hS : va_S (va_A [(zMO m0 npu nte nat_ nde nto nse nhu nga nsd nfa mrf mki mpa mta mla msl mco mhe mso msi msh mce mca mwo mnu mte nba npl nen nnu nwr mwa mke mma mth mtr nra nik), (mrf, .inl (cI, 8, .inl grf)), (mhe, .inl (cI, 8, .inl ghe)), (msi, .inl (cI, 8, .inl gsi)), (mce, .inl (cJ, 1280, .inr (.inl gce))), (mki, .inl (cI, 8, .inl gki)), (mpa, .inl (cI, 8, .inl gpa)), (mta, .inl (cI, 8, .inl gta))] s.heap.size) s.heap H locs) (hl : lv_has ls 8 [(0, .ref m0), (1, .int s_), (2, .int n), (4, .int nde), (5, .int nse)]) (hf69_0 : (0 ≤ s_.toInt ∧ s_.toInt ≤ 7) ∧ 0 ≤ n.toInt ∧ n.toInt ≤ 20 ∧ (ghe s_.toNatClampNeg).toInt = 1 ∧ n.toInt ≤ (gsi s_.toNatClampNeg).toInt), K H locs ls) (pc := 69) ?_ (fun hcut69 => ?_)
  · intro H locs ls hP hD hS hl hf69_0
    refine lv_iconst (v := 0) hx hb dX8_judge_69 (by decide) ?_
    refine lv_istore (lv' := [(6, .int 0), (0, .ref m0), (1, .int s_), (2, .int n), (4, .int nde), (5, .int nse)]) hx hb dX8_judge_70 hl (by decide) rfl (fun ls hl => ?_)
    obtain ⟨i_72, hi_72⟩ : ∃ i : Int32, i = 0 := ⟨_, rfl⟩
    replace hl : lv_has ls 8 [(6, .int i_72), (0, .ref m0), (1, .int s_), (2, .int n), (4, .int nde), (5, .int nse)] := by rw [hi_72]; exact lv_sub hl [0, 1, 2, 3, 4, 5] rfl
    have h1i_72 : i_72.toInt = 0 := by rw [hi_72]; decide
    obtain ⟨nfu, hni_72⟩ : ∃ nq9 : Nat, n.toInt ≤ i_72.toInt + (nq9 : Int) := ⟨((n.toInt : Int) - 0).toNat, by omega⟩
    have hloi_72 : 0 ≤ i_72.toInt := by omega
    obtain ⟨v_1, hv_1⟩ : ∃ g : Int32, g = nde := ⟨_, rfl⟩
    obtain ⟨v_2, hv_2⟩ : ∃ g : Int32, g = nse := ⟨_, rfl⟩
    replace hl : lv_has ls 8 [(6, .int i_72), (0, .ref m0), (1, .int s_), (2, .int n), (4, .int v_1), (5, .int v_2)] := by rw [hv_1, hv_2]; exact hl
    have hbv_1 : 0 ≤ v_1.toInt ∧ v_1.toInt ≤ 24 := by rw [hv_1]; exact ⟨by omega, by omega⟩
    have hbv_2 : 0 ≤ v_2.toInt ∧ v_2.toInt ≤ 300 := by rw [hv_2]; exact ⟨by omega, by omega⟩
    have hvi_72_0 : zJg gki gpa gta npu.toInt nhu.toInt (zRw gce (160 * s_.toInt)) n.toInt.toNat 0 nde.toInt nse.toInt = zJg gki gpa gta npu.toInt nhu.toInt (zRw gce (160 * s_.toInt)) (n.toInt - i_72.toInt).toNat i_72.toInt (v_1 : Int32).toInt (v_2 : Int32).toInt := by
      (try rw [hi_72]); (try rw [hv_1]); (try rw [hv_2]); (rw [show (0 : Int32).toInt = 0 from by decide, Int.sub_zero])
    have hvi_72_1 : i_72.toInt ≤ n.toInt := by
      (try rw [hi_72]); (try rw [hv_1]); (try rw [hv_2]); (have k0 : (0 : Int32).toInt = 0 := (by decide); omega)
    clear h1i_72 hi_72 hv_1 hv_2
    skip
    revert hni_72
    revert hloi_72
    revert hvi_72_1
    revert hvi_72_0
    revert hbv_2
    revert hbv_1
    revert hl
    revert hS
    revert hD
    revert hP
    revert ls
    revert locs
    revert H
    revert v_2
    revert v_1
    revert i_72
    induction nfu with
    | zero =>
      intro i_72 v_1 v_2 H locs ls hP hD hS hl hbv_1 hbv_2 hvi_72_0 hvi_72_1 hloi_72 hni_72
      have hzi_72 : n.toInt ≤ i_72.toInt := by omega
      refine lv_iload hx hb dX8_judge_72 (lv_at hl 0 rfl) ?_
      refine lv_iload_n hx hb dX8_judge_74 rfl (lv_at hl 3 rfl) ?_
      refine lv_icmp_ge (tgt := 158) hx hb dX8_judge_75 (by decide) (fun c_3 => ?_) (fun c_3 => ?_)
      · have fc_3 : n.toInt ≤ i_72.toInt := zf_le c_3 rfl rfl
        refine lv_iconst (v := (-1)) hx hb dX8_judge_158 (by decide) ?_
        exact W.iret (v := (-1)) hx hb hr (fun t ht hW => ⟨⟨(-1), grf, rfl, ⟨(show ((s_.toInt < 0 ∨ 7 < s_.toInt) ∧ ((-1) : Int32).toInt = -11) ∨ ((0 ≤ s_.toInt ∧ s_.toInt ≤ 7) ∧ (((zHc (ghe s_.toNatClampNeg).toInt) = -1 ∧ ((-1) : Int32).toInt = -13) ∨ ((zHc (ghe s_.toNatClampNeg).toInt) ≠ -1 ∧ (zHc (ghe s_.toNatClampNeg).toInt) < 100 ∧ ((-1) : Int32).toInt = -12) ∨ (100 ≤ (zHc (ghe s_.toNatClampNeg).toInt) ∧ ((n.toInt < 0 ∧ ((-1) : Int32).toInt = -14) ∨ (0 ≤ n.toInt ∧ (gsi s_.toNatClampNeg).toInt < n.toInt ∧ ((-1) : Int32).toInt = -15) ∨ (0 ≤ n.toInt ∧ n.toInt ≤ (gsi s_.toNatClampNeg).toInt ∧ 20 < n.toInt ∧ ((-1) : Int32).toInt = -16) ∨ ((0 ≤ n.toInt ∧ n.toInt ≤ (gsi s_.toNatClampNeg).toInt ∧ n.toInt ≤ 20) ∧ ((-1) : Int32).toInt = zJg gki gpa gta npu.toInt nhu.toInt (zRw gce (160 * s_.toInt)) n.toInt.toNat 0 nde.toInt nse.toInt))))) from by (exact Or.inr ⟨by omega, Or.inr (Or.inr ⟨by (unfold zHc; rw [if_pos (by omega)]; decide), Or.inr (Or.inr (Or.inr ⟨by omega, by (rw [hvi_72_0, show (n.toInt - i_72.toInt).toNat = 0 from by omega]; show ((-1) : Int32).toInt = -1; decide)⟩))⟩)⟩)), trivial⟩, zRet ht hP hD [0, 1, 2, 3, 4, 5, 6, 7] (by decide) rfl⟩, hS.F ht⟩) hS.2.2 dX8_judge_159
      · exfalso; have fc_3 : i_72.toInt < n.toInt := zf_nle c_3 rfl rfl; omega
    | succ nfu ih =>
      intro i_72 v_1 v_2 H locs ls hP hD hS hl hbv_1 hbv_2 hvi_72_0 hvi_72_1 hloi_72 hni_72
      refine lv_iload hx hb dX8_judge_72 (lv_at hl 0 rfl) ?_
      refine lv_iload_n hx hb dX8_judge_74 rfl (lv_at hl 3 rfl) ?_
      refine lv_icmp_ge (tgt := 158) hx hb dX8_judge_75 (by decide) (fun c_4 => ?_) (fun c_4 => ?_)
      · have fc_4 : n.toInt ≤ i_72.toInt := zf_le c_4 rfl rfl
        refine lv_iconst (v := (-1)) hx hb dX8_judge_158 (by decide) ?_
        exact W.iret (v := (-1)) hx hb hr (fun t ht hW => ⟨⟨(-1), grf, rfl, ⟨(show ((s_.toInt < 0 ∨ 7 < s_.toInt) ∧ ((-1) : Int32).toInt = -11) ∨ ((0 ≤ s_.toInt ∧ s_.toInt ≤ 7) ∧ (((zHc (ghe s_.toNatClampNeg).toInt) = -1 ∧ ((-1) : Int32).toInt = -13) ∨ ((zHc (ghe s_.toNatClampNeg).toInt) ≠ -1 ∧ (zHc (ghe s_.toNatClampNeg).toInt) < 100 ∧ ((-1) : Int32).toInt = -12) ∨ (100 ≤ (zHc (ghe s_.toNatClampNeg).toInt) ∧ ((n.toInt < 0 ∧ ((-1) : Int32).toInt = -14) ∨ (0 ≤ n.toInt ∧ (gsi s_.toNatClampNeg).toInt < n.toInt ∧ ((-1) : Int32).toInt = -15) ∨ (0 ≤ n.toInt ∧ n.toInt ≤ (gsi s_.toNatClampNeg).toInt ∧ 20 < n.toInt ∧ ((-1) : Int32).toInt = -16) ∨ ((0 ≤ n.toInt ∧ n.toInt ≤ (gsi s_.toNatClampNeg).toInt ∧ n.toInt ≤ 20) ∧ ((-1) : Int32).toInt = zJg gki gpa gta npu.toInt nhu.toInt (zRw gce (160 * s_.toInt)) n.toInt.toNat 0 nde.toInt nse.toInt))))) from by (exact Or.inr ⟨by omega, Or.inr (Or.inr ⟨by (unfold zHc; rw [if_pos (by omega)]; decide), Or.inr (Or.inr (Or.inr ⟨by omega, by (rw [hvi_72_0, show (n.toInt - i_72.toInt).toNat = 0 from by omega]; show ((-1) : Int32).toInt = -1; decide)⟩))⟩)⟩)), trivial⟩, zRet ht hP hD [0, 1, 2, 3, 4, 5, 6, 7] (by decide) rfl⟩, hS.F ht⟩) hS.2.2 dX8_judge_159
      · have fc_4 : i_72.toInt < n.toInt := zf_nle c_4 rfl rfl
        refine lv_aload_n hx hb dX8_judge_78 rfl (lv_at hl 1 rfl) ?_
        refine lv_iload_n hx hb dX8_judge_79 rfl (lv_at hl 2 rfl) ?_
        refine lv_iload hx hb dX8_judge_80 (lv_at hl 0 rfl) ?_
        refine zc_V (As := [.int s_, .int i_72]) (rest := []) ⟨hx, hb, hml, hown, hts⟩ (c_F_M_intAt l D cI cJ cZ cP cS po m0 mrf mki mpa mta mla msl mco mhe mso msi msh mce mca mwo mnu mte mwa mke mma mth mtr (npu) (nte) (nat_) (nde) (nto) (nse) (nhu) (nga) (nsd) (nfa) (nba) (npl) (nen) (nnu) (nwr) (nra) (nik) gce (s_) (i_72) hy0 hy1 hy2 hy3 hy4 hy5 hy6 hy7 hy8 hy9 hy10 hy11 hy12 hy13 (by omega) (by omega) (by omega) (by omega)) (cwV 2 hts gX8_judge_X8_intAt rfl rfl rfl ⟨rfl, dh_X8_intAt⟩ ⟨Nat.le_of_ble_eq_true rfl, Nat.le_of_ble_eq_true rfl⟩) hK hN (hZ.kept hS) hP (hP.sub [0, 4] rfl) (va_recv (q := (RX8, TX8, 38)) hK hP (ci := 8) (q0 := 0) rfl rfl) rfl hl.1 rfl (Nat.le_of_ble_eq_true rfl) dX8_judge_82 ⟨Nat.le_of_ble_eq_true rfl, Nat.le_of_ble_eq_true rfl⟩ (fun r_5 hr_5 => ?_)
        have hsr_5_0 := hr_5
        refine lv_istore (lv' := [(7, .int r_5), (6, .int i_72), (0, .ref m0), (1, .int s_), (2, .int n), (4, .int v_1), (5, .int v_2)]) hx hb dX8_judge_85 hl (by decide) rfl (fun ls hl => ?_)
        refine lv_aload_n hx hb dX8_judge_87 rfl (lv_at hl 2 rfl) ?_
        refine lv_iload hx hb dX8_judge_88 (lv_at hl 0 rfl) ?_
        refine zc_V (As := [.int r_5]) (rest := []) ⟨hx, hb, hml, hown, hts⟩ (c_M_isPull l D cI cJ cZ cP cS po m0 mrf mki mpa mta mla msl mco mhe mso msi msh mce mca mwo mnu mte mwa mke mma mth mtr (npu) (nte) (nat_) (nde) (nto) (nse) (nhu) (nga) (nsd) (nfa) (nba) (npl) (nen) (nnu) (nwr) (nra) (nik) (r_5) hy0 hy1 hy2 hy3 hy4 hy5 hy6 hy7 hy8 hy9 hy10 hy11 hy12 hy13) (cwV 1 hts gX8_judge_X8_isPull rfl rfl rfl ⟨rfl, dh_X8_isPull⟩ ⟨Nat.le_of_ble_eq_true rfl, Nat.le_of_ble_eq_true rfl⟩) hK hN (hZ.kept hS) hP (hP.sub [0] rfl) (va_recv (q := (RX8, TX8, 38)) hK hP (ci := 8) (q0 := 0) rfl rfl) rfl hl.1 rfl (Nat.le_of_ble_eq_true rfl) dX8_judge_90 ⟨Nat.le_of_ble_eq_true rfl, Nat.le_of_ble_eq_true rfl⟩ (fun r_6 hr_6 => ?_)
        rcases hr_6 with ⟨rfl, g_7⟩ | ⟨rfl, g_8, g_9⟩ | ⟨rfl, g_10, g_11⟩
        · refine lv_if_eq (tgt := 109) hx hb dX8_judge_93 (by decide) (fun c_12 => ?_) (fun c_12 => ?_)
          · refine lv_iload hx hb dX8_judge_109 (lv_at hl 1 rfl) ?_
            exact W.iret (v := i_72) hx hb hr (fun t ht hW => ⟨⟨i_72, grf, rfl, ⟨(show ((s_.toInt < 0 ∨ 7 < s_.toInt) ∧ (i_72 : Int32).toInt = -11) ∨ ((0 ≤ s_.toInt ∧ s_.toInt ≤ 7) ∧ (((zHc (ghe s_.toNatClampNeg).toInt) = -1 ∧ (i_72 : Int32).toInt = -13) ∨ ((zHc (ghe s_.toNatClampNeg).toInt) ≠ -1 ∧ (zHc (ghe s_.toNatClampNeg).toInt) < 100 ∧ (i_72 : Int32).toInt = -12) ∨ (100 ≤ (zHc (ghe s_.toNatClampNeg).toInt) ∧ ((n.toInt < 0 ∧ (i_72 : Int32).toInt = -14) ∨ (0 ≤ n.toInt ∧ (gsi s_.toNatClampNeg).toInt < n.toInt ∧ (i_72 : Int32).toInt = -15) ∨ (0 ≤ n.toInt ∧ n.toInt ≤ (gsi s_.toNatClampNeg).toInt ∧ 20 < n.toInt ∧ (i_72 : Int32).toInt = -16) ∨ ((0 ≤ n.toInt ∧ n.toInt ≤ (gsi s_.toNatClampNeg).toInt ∧ n.toInt ≤ 20) ∧ (i_72 : Int32).toInt = zJg gki gpa gta npu.toInt nhu.toInt (zRw gce (160 * s_.toInt)) n.toInt.toNat 0 nde.toInt nse.toInt))))) from by (exact Or.inr ⟨by omega, Or.inr (Or.inr ⟨by (unfold zHc; rw [if_pos (by omega)]; decide), Or.inr (Or.inr (Or.inr ⟨by omega, by (have zt : zTl (zRw gce (160 * s_.toInt)) i_72.toInt = r_5.toInt := (by have z := hsr_5_0; rw [zRw_tl (by omega), ← z]); have y9 : r_5.toNatClampNeg = r_5.toInt.toNat := rfl; have hk : (n.toInt - i_72.toInt).toNat = (n.toInt - (i_72.toInt + 1)).toNat + 1 := (by omega); rw [hvi_72_0, hk, zJg_s, zt, if_neg (fun z => by (have z2 := z.1; omega))])⟩))⟩)⟩)), trivial⟩, zRet ht hP hD [0, 1, 2, 3, 4, 5, 6, 7] (by decide) rfl⟩, hS.F ht⟩) hS.2.2 dX8_judge_111
          · exact absurd c_12 (by decide)
        · refine lv_if_eq (tgt := 109) hx hb dX8_judge_93 (by decide) (fun c_13 => ?_) (fun c_13 => ?_)
          · refine lv_iload hx hb dX8_judge_109 (lv_at hl 1 rfl) ?_
            exact W.iret (v := i_72) hx hb hr (fun t ht hW => ⟨⟨i_72, grf, rfl, ⟨(show ((s_.toInt < 0 ∨ 7 < s_.toInt) ∧ (i_72 : Int32).toInt = -11) ∨ ((0 ≤ s_.toInt ∧ s_.toInt ≤ 7) ∧ (((zHc (ghe s_.toNatClampNeg).toInt) = -1 ∧ (i_72 : Int32).toInt = -13) ∨ ((zHc (ghe s_.toNatClampNeg).toInt) ≠ -1 ∧ (zHc (ghe s_.toNatClampNeg).toInt) < 100 ∧ (i_72 : Int32).toInt = -12) ∨ (100 ≤ (zHc (ghe s_.toNatClampNeg).toInt) ∧ ((n.toInt < 0 ∧ (i_72 : Int32).toInt = -14) ∨ (0 ≤ n.toInt ∧ (gsi s_.toNatClampNeg).toInt < n.toInt ∧ (i_72 : Int32).toInt = -15) ∨ (0 ≤ n.toInt ∧ n.toInt ≤ (gsi s_.toNatClampNeg).toInt ∧ 20 < n.toInt ∧ (i_72 : Int32).toInt = -16) ∨ ((0 ≤ n.toInt ∧ n.toInt ≤ (gsi s_.toNatClampNeg).toInt ∧ n.toInt ≤ 20) ∧ (i_72 : Int32).toInt = zJg gki gpa gta npu.toInt nhu.toInt (zRw gce (160 * s_.toInt)) n.toInt.toNat 0 nde.toInt nse.toInt))))) from by (exact Or.inr ⟨by omega, Or.inr (Or.inr ⟨by (unfold zHc; rw [if_pos (by omega)]; decide), Or.inr (Or.inr (Or.inr ⟨by omega, by (have zt : zTl (zRw gce (160 * s_.toInt)) i_72.toInt = r_5.toInt := (by have z := hsr_5_0; rw [zRw_tl (by omega), ← z]); have y9 : r_5.toNatClampNeg = r_5.toInt.toNat := rfl; have hk : (n.toInt - i_72.toInt).toNat = (n.toInt - (i_72.toInt + 1)).toNat + 1 := (by omega); rw [hvi_72_0, hk, zJg_s, zt, if_neg (fun z => by (have z2 := z.1; omega))])⟩))⟩)⟩)), trivial⟩, zRet ht hP hD [0, 1, 2, 3, 4, 5, 6, 7] (by decide) rfl⟩, hS.F ht⟩) hS.2.2 dX8_judge_111
          · exact absurd c_13 (by decide)
        · refine lv_if_eq (tgt := 109) hx hb dX8_judge_93 (by decide) (fun c_14 => ?_) (fun c_14 => ?_)
          · exact absurd c_14 (by decide)
          · refine lv_aload_n hx hb dX8_judge_96 rfl (lv_at hl 2 rfl) ?_
            refine lv_iload hx hb dX8_judge_97 (lv_at hl 0 rfl) ?_
            refine lv_iload hx hb dX8_judge_99 (lv_at hl 5 rfl) ?_
            refine lv_iload hx hb dX8_judge_101 (lv_at hl 6 rfl) ?_
            refine zc_V (As := [.int r_5, .int v_1, .int v_2]) (rest := []) ⟨hx, hb, hml, hown, hts⟩ (c_F_M_mayBe l D cI cJ cZ cP cS po m0 mrf mki mpa mta mla msl mco mhe mso msi msh mce mca mwo mnu mte mwa mke mma mth mtr (npu) (nte) (nat_) (nde) (nto) (nse) (nhu) (nga) (nsd) (nfa) (nba) (npl) (nen) (nnu) (nwr) (nra) (nik) gta (r_5) (v_1) (v_2) hy0 hy1 hy2 hy3 hy4 hy5 hy6 hy7 hy8 hy9 hy10 hy11 hy12 hy13 (by omega) (by omega) hp_gta) (cwV 3 hts gX8_judge_X8_mayBe rfl rfl rfl ⟨rfl, dh_X8_mayBe⟩ ⟨Nat.le_of_ble_eq_true rfl, Nat.le_of_ble_eq_true rfl⟩) hK hN (hZ.kept hS) hP (hP.sub [0, 7] rfl) (va_recv (q := (RX8, TX8, 38)) hK hP (ci := 8) (q0 := 0) rfl rfl) rfl hl.1 rfl (Nat.le_of_ble_eq_true rfl) dX8_judge_103 ⟨Nat.le_of_ble_eq_true rfl, Nat.le_of_ble_eq_true rfl⟩ (fun r_15 hr_15 => ?_)
            obtain ⟨g_16, g_17, hsr_15_0⟩ := hr_15
            refine lv_if_ne (tgt := 112) hx hb dX8_judge_106 (by decide) (fun c_18 => ?_) (fun c_18 => ?_)
            · have fc_18 : r_15.toInt ≠ 0 := zf_ne c_18 rfl (by decide)
              refine lv_aload_n hx hb dX8_judge_112 rfl (lv_at hl 2 rfl) ?_
              refine lv_iload hx hb dX8_judge_113 (lv_at hl 0 rfl) ?_
              refine lv_iload hx hb dX8_judge_115 (lv_at hl 5 rfl) ?_
              refine lv_aload_n hx hb dX8_judge_117 rfl (lv_at hl 2 rfl) ?_
              refine lv_iload hx hb dX8_judge_118 (lv_at hl 0 rfl) ?_
              refine lv_iload hx hb dX8_judge_120 (lv_at hl 5 rfl) ?_
              refine zc_V (As := [.int r_5, .int v_1]) (rest := [.int v_1, .int r_5, .ref m0]) ⟨hx, hb, hml, hown, hts⟩ (c_F_M_ways l D cI cJ cZ cP cS po m0 mrf mki mpa mta mla msl mco mhe mso msi msh mce mca mwo mnu mte mwa mke mma mth mtr (npu) (nte) (nat_) (nde) (nto) (nse) (nhu) (nga) (nsd) (nfa) (nba) (npl) (nen) (nnu) (nwr) (nra) (nik) gki gpa (r_5) (v_1) hy0 hy1 hy2 hy3 hy4 hy5 hy6 hy7 hy8 hy9 hy10 hy11 hy12 hy13 (by omega) (by omega) hbv_1.1 hbv_1.2 hp_gki hp_gpa) (cwV 2 hts gX8_judge_X8_ways rfl rfl rfl ⟨rfl, dh_X8_ways⟩ ⟨Nat.le_of_ble_eq_true rfl, Nat.le_of_ble_eq_true rfl⟩) hK hN (hZ.kept hS) hP (hP.sub [0, 5, 6] rfl) (va_recv (q := (RX8, TX8, 38)) hK hP (ci := 8) (q0 := 0) rfl rfl) rfl hl.1 rfl (Nat.le_of_ble_eq_true rfl) dX8_judge_122 ⟨Nat.le_of_ble_eq_true rfl, Nat.le_of_ble_eq_true rfl⟩ (fun r_19 hr_19 => ?_)
              obtain ⟨g_20, g_21, hsr_19_0⟩ := hr_19
              refine lv_bipush (v := 6) hx hb dX8_judge_125 (by decide) ?_
              refine lv_icmp_lt (tgt := 134) hx hb dX8_judge_127 (by decide) (fun c_22 => ?_) (fun c_22 => ?_)
              · have fc_22 : r_19.toInt < 6 := zf_lt c_22 rfl (by decide)
                refine lv_iconst (v := 0) hx hb dX8_judge_134 (by decide) ?_
                have kc0 : (0 : Int32).toInt = 0 := by decide
                refine zc_V (As := [.int r_5, .int v_1, .int 0]) (rest := []) ⟨hx, hb, hml, hown, hts⟩ (c_F_M_deep l D cI cJ cZ cP cS po m0 mrf mki mpa mta mla msl mco mhe mso msi msh mce mca mwo mnu mte mwa mke mma mth mtr (npu) (nte) (nat_) (nde) (nto) (nse) (nhu) (nga) (nsd) (nfa) (nba) (npl) (nen) (nnu) (nwr) (nra) (nik) gki gpa (r_5) (v_1) (0) hy0 hy1 hy2 hy3 hy4 hy5 hy6 hy7 hy8 hy9 hy10 hy11 hy12 hy13 (by omega) (by omega) hbv_1.1 hbv_1.2 (by omega) (by omega) hp_gki hp_gpa) (cwV 3 hts gX8_judge_X8_deep rfl rfl rfl ⟨rfl, dh_X8_deep⟩ ⟨Nat.le_of_ble_eq_true rfl, Nat.le_of_ble_eq_true rfl⟩) hK hN (hZ.kept hS) hP (hP.sub [0, 5, 6] rfl) (va_recv (q := (RX8, TX8, 38)) hK hP (ci := 8) (q0 := 0) rfl rfl) rfl hl.1 rfl (Nat.le_of_ble_eq_true rfl) dX8_judge_135 ⟨Nat.le_of_ble_eq_true rfl, Nat.le_of_ble_eq_true rfl⟩ (fun r_23 hr_23 => ?_)
                obtain ⟨g_24, g_25, hsr_23_0⟩ := hr_23
                refine lv_istore (lv' := [(4, .int r_23), (7, .int r_5), (6, .int i_72), (0, .ref m0), (1, .int s_), (2, .int n), (5, .int v_2)]) hx hb dX8_judge_138 hl (by decide) rfl (fun ls hl => ?_)
                refine lv_iload hx hb dX8_judge_140 (lv_at hl 6 rfl) ?_
                refine lv_aload_n hx hb dX8_judge_142 rfl (lv_at hl 3 rfl) ?_
                refine va_get (D := D) (ci := 8) (v := .ref mta) (C := RX8) (T := TX8) (N := 38) hx hb hts hi_X8_judge_8 hown hK hP 0 rfl rfl 13 (by decide) (hts (.fieldLink RX8 35 "TheLiningsInItModel" "takes" "[I") (List.mem_of_getElem? (i := 4) rfl)) (fun _ h9 => h9) rfl dX8_judge_143 ?_
                refine lv_iload hx hb dX8_judge_146 (lv_at hl 1 rfl) ?_
                refine va_iald hx hb hK hP 7 0 rfl rfl (zf_in (by omega) (by omega)) dX8_judge_148 ?_
                refine lv_topi (fun x_26 ex_26 => ?_)
                have bx_26 : 0 ≤ x_26.toInt ∧ x_26.toInt ≤ 60 := by rw [ex_26]; exact hp_gta _
                have nq9 : (gta r_5.toNatClampNeg).toInt = x_26.toInt := by rw [ex_26]
                refine lv_isub hx hb dX8_judge_149 ?_
                refine lv_topi (fun x_27 ex_27 => ?_)
                have qx_27 : x_27.toInt = v_2.toInt - x_26.toInt := by rw [ex_27]; exact zf_sub rfl rfl (by omega) (by omega)
                refine lv_istore (lv' := [(5, .int x_27), (4, .int r_23), (7, .int r_5), (6, .int i_72), (0, .ref m0), (1, .int s_), (2, .int n)]) hx hb dX8_judge_150 hl (by decide) rfl (fun ls hl => ?_)
                obtain ⟨x_28, ex_28⟩ : ∃ y : Int32, y = i_72 + 1 := ⟨_, rfl⟩
                have qx_28 : x_28.toInt = i_72.toInt + 1 := dw_inc ex_28 fc_4
                refine lv_iinc (v := x_28) (lv' := [(6, .int x_28), (5, .int x_27), (4, .int r_23), (7, .int r_5), (0, .ref m0), (1, .int s_), (2, .int n)]) hx hb dX8_judge_152 hl (k := 3) rfl ex_28.symm (by decide) rfl (fun ls hl => ?_)
                refine lv_goto (tgt := 72) hx hb dX8_judge_155 (by decide) ?_
                exact ih x_28 r_23 x_27 _ _ _ (hP.sub [0, 1, 2, 3, 4, 5, 6, 7] rfl) (hD.sub [0, 1, 2, 3, 4, 5, 6, 7] (by decide) rfl) hS (lv_sub hl [0, 4, 5, 6, 2, 1] rfl) ⟨by omega, by omega⟩ ⟨by omega, by omega⟩ (show zJg gki gpa gta npu.toInt nhu.toInt (zRw gce (160 * s_.toInt)) n.toInt.toNat 0 nde.toInt nse.toInt = zJg gki gpa gta npu.toInt nhu.toInt (zRw gce (160 * s_.toInt)) (n.toInt - x_28.toInt).toNat x_28.toInt (r_23 : Int32).toInt (x_27 : Int32).toInt from by (have zt : zTl (zRw gce (160 * s_.toInt)) i_72.toInt = r_5.toInt := (by have z := hsr_5_0; rw [zRw_tl (by omega), ← z]); have y9 : r_5.toNatClampNeg = r_5.toInt.toNat := rfl; have hk : (n.toInt - i_72.toInt).toNat = (n.toInt - (i_72.toInt + 1)).toNat + 1 := (by omega); have hm := hsr_15_0.mp (by omega); have hw := hsr_19_0; have hd9 := hsr_23_0; have nt : (gta r_5.toNatClampNeg).toInt = x_26.toInt := (by rw [ex_26]); rw [y9] at hm hw hd9 nt; rw [hvi_72_0, hk, zJg_s, zt, if_pos ⟨⟨by omega, by omega⟩, hm.1, hm.2⟩, ← hw, nt]; first | (rw [if_pos (by omega), ← hd9.1 (by decide), show v_2.toInt - x_26.toInt = (x_27 : Int32).toInt from by omega, show x_28.toInt = i_72.toInt + 1 from by omega]) | (rw [if_neg (by omega), ← hd9.2 (by decide), show v_2.toInt - x_26.toInt = (x_27 : Int32).toInt from by omega, show x_28.toInt = i_72.toInt + 1 from by omega]))) (show x_28.toInt ≤ n.toInt from by omega) (dw_lo hloi_72 qx_28) (dw_hn hni_72 qx_28)
              · have fc_22 : 6 ≤ r_19.toInt := zf_nlt c_22 rfl (by decide)
                refine lv_iconst (v := 1) hx hb dX8_judge_130 (by decide) ?_
                refine lv_goto (tgt := 135) hx hb dX8_judge_131 (by decide) ?_
                have kc1 : (1 : Int32).toInt = 1 := by decide
                refine zc_V (As := [.int r_5, .int v_1, .int 1]) (rest := []) ⟨hx, hb, hml, hown, hts⟩ (c_F_M_deep l D cI cJ cZ cP cS po m0 mrf mki mpa mta mla msl mco mhe mso msi msh mce mca mwo mnu mte mwa mke mma mth mtr (npu) (nte) (nat_) (nde) (nto) (nse) (nhu) (nga) (nsd) (nfa) (nba) (npl) (nen) (nnu) (nwr) (nra) (nik) gki gpa (r_5) (v_1) (1) hy0 hy1 hy2 hy3 hy4 hy5 hy6 hy7 hy8 hy9 hy10 hy11 hy12 hy13 (by omega) (by omega) hbv_1.1 hbv_1.2 (by omega) (by omega) hp_gki hp_gpa) (cwV 3 hts gX8_judge_X8_deep rfl rfl rfl ⟨rfl, dh_X8_deep⟩ ⟨Nat.le_of_ble_eq_true rfl, Nat.le_of_ble_eq_true rfl⟩) hK hN (hZ.kept hS) hP (hP.sub [0, 5, 6] rfl) (va_recv (q := (RX8, TX8, 38)) hK hP (ci := 8) (q0 := 0) rfl rfl) rfl hl.1 rfl (Nat.le_of_ble_eq_true rfl) dX8_judge_135 ⟨Nat.le_of_ble_eq_true rfl, Nat.le_of_ble_eq_true rfl⟩ (fun r_29 hr_29 => ?_)
                obtain ⟨g_30, g_31, hsr_29_0⟩ := hr_29
                refine lv_istore (lv' := [(4, .int r_29), (7, .int r_5), (6, .int i_72), (0, .ref m0), (1, .int s_), (2, .int n), (5, .int v_2)]) hx hb dX8_judge_138 hl (by decide) rfl (fun ls hl => ?_)
                refine lv_iload hx hb dX8_judge_140 (lv_at hl 6 rfl) ?_
                refine lv_aload_n hx hb dX8_judge_142 rfl (lv_at hl 3 rfl) ?_
                refine va_get (D := D) (ci := 8) (v := .ref mta) (C := RX8) (T := TX8) (N := 38) hx hb hts hi_X8_judge_8 hown hK hP 0 rfl rfl 13 (by decide) (hts (.fieldLink RX8 35 "TheLiningsInItModel" "takes" "[I") (List.mem_of_getElem? (i := 4) rfl)) (fun _ h9 => h9) rfl dX8_judge_143 ?_
                refine lv_iload hx hb dX8_judge_146 (lv_at hl 1 rfl) ?_
                refine va_iald hx hb hK hP 7 0 rfl rfl (zf_in (by omega) (by omega)) dX8_judge_148 ?_
                refine lv_topi (fun x_32 ex_32 => ?_)
                have bx_32 : 0 ≤ x_32.toInt ∧ x_32.toInt ≤ 60 := by rw [ex_32]; exact hp_gta _
                have nq9 : (gta r_5.toNatClampNeg).toInt = x_32.toInt := by rw [ex_32]
                refine lv_isub hx hb dX8_judge_149 ?_
                refine lv_topi (fun x_33 ex_33 => ?_)
                have qx_33 : x_33.toInt = v_2.toInt - x_32.toInt := by rw [ex_33]; exact zf_sub rfl rfl (by omega) (by omega)
                refine lv_istore (lv' := [(5, .int x_33), (4, .int r_29), (7, .int r_5), (6, .int i_72), (0, .ref m0), (1, .int s_), (2, .int n)]) hx hb dX8_judge_150 hl (by decide) rfl (fun ls hl => ?_)
                obtain ⟨x_34, ex_34⟩ : ∃ y : Int32, y = i_72 + 1 := ⟨_, rfl⟩
                have qx_34 : x_34.toInt = i_72.toInt + 1 := dw_inc ex_34 fc_4
                refine lv_iinc (v := x_34) (lv' := [(6, .int x_34), (5, .int x_33), (4, .int r_29), (7, .int r_5), (0, .ref m0), (1, .int s_), (2, .int n)]) hx hb dX8_judge_152 hl (k := 3) rfl ex_34.symm (by decide) rfl (fun ls hl => ?_)
                refine lv_goto (tgt := 72) hx hb dX8_judge_155 (by decide) ?_
                exact ih x_34 r_29 x_33 _ _ _ (hP.sub [0, 1, 2, 3, 4, 5, 6, 7] rfl) (hD.sub [0, 1, 2, 3, 4, 5, 6, 7] (by decide) rfl) hS (lv_sub hl [0, 4, 5, 6, 2, 1] rfl) ⟨by omega, by omega⟩ ⟨by omega, by omega⟩ (show zJg gki gpa gta npu.toInt nhu.toInt (zRw gce (160 * s_.toInt)) n.toInt.toNat 0 nde.toInt nse.toInt = zJg gki gpa gta npu.toInt nhu.toInt (zRw gce (160 * s_.toInt)) (n.toInt - x_34.toInt).toNat x_34.toInt (r_29 : Int32).toInt (x_33 : Int32).toInt from by (have zt : zTl (zRw gce (160 * s_.toInt)) i_72.toInt = r_5.toInt := (by have z := hsr_5_0; rw [zRw_tl (by omega), ← z]); have y9 : r_5.toNatClampNeg = r_5.toInt.toNat := rfl; have hk : (n.toInt - i_72.toInt).toNat = (n.toInt - (i_72.toInt + 1)).toNat + 1 := (by omega); have hm := hsr_15_0.mp (by omega); have hw := hsr_19_0; have hd9 := hsr_29_0; have nt : (gta r_5.toNatClampNeg).toInt = x_32.toInt := (by rw [ex_32]); rw [y9] at hm hw hd9 nt; rw [hvi_72_0, hk, zJg_s, zt, if_pos ⟨⟨by omega, by omega⟩, hm.1, hm.2⟩, ← hw, nt]; first | (rw [if_pos (by omega), ← hd9.1 (by decide), show v_2.toInt - x_32.toInt = (x_33 : Int32).toInt from by omega, show x_34.toInt = i_72.toInt + 1 from by omega]) | (rw [if_neg (by omega), ← hd9.2 (by decide), show v_2.toInt - x_32.toInt = (x_33 : Int32).toInt from by omega, show x_34.toInt = i_72.toInt + 1 from by omega]))) (show x_34.toInt ≤ n.toInt from by omega) (dw_lo hloi_72 qx_34) (dw_hn hni_72 qx_34)
            · have fc_18 : r_15.toInt = 0 := zf_eq c_18 rfl (by decide)
              refine lv_iload hx hb dX8_judge_109 (lv_at hl 1 rfl) ?_
              exact W.iret (v := i_72) hx hb hr (fun t ht hW => ⟨⟨i_72, grf, rfl, ⟨(show ((s_.toInt < 0 ∨ 7 < s_.toInt) ∧ (i_72 : Int32).toInt = -11) ∨ ((0 ≤ s_.toInt ∧ s_.toInt ≤ 7) ∧ (((zHc (ghe s_.toNatClampNeg).toInt) = -1 ∧ (i_72 : Int32).toInt = -13) ∨ ((zHc (ghe s_.toNatClampNeg).toInt) ≠ -1 ∧ (zHc (ghe s_.toNatClampNeg).toInt) < 100 ∧ (i_72 : Int32).toInt = -12) ∨ (100 ≤ (zHc (ghe s_.toNatClampNeg).toInt) ∧ ((n.toInt < 0 ∧ (i_72 : Int32).toInt = -14) ∨ (0 ≤ n.toInt ∧ (gsi s_.toNatClampNeg).toInt < n.toInt ∧ (i_72 : Int32).toInt = -15) ∨ (0 ≤ n.toInt ∧ n.toInt ≤ (gsi s_.toNatClampNeg).toInt ∧ 20 < n.toInt ∧ (i_72 : Int32).toInt = -16) ∨ ((0 ≤ n.toInt ∧ n.toInt ≤ (gsi s_.toNatClampNeg).toInt ∧ n.toInt ≤ 20) ∧ (i_72 : Int32).toInt = zJg gki gpa gta npu.toInt nhu.toInt (zRw gce (160 * s_.toInt)) n.toInt.toNat 0 nde.toInt nse.toInt))))) from by (exact Or.inr ⟨by omega, Or.inr (Or.inr ⟨by (unfold zHc; rw [if_pos (by omega)]; decide), Or.inr (Or.inr (Or.inr ⟨by omega, by (have zt : zTl (zRw gce (160 * s_.toInt)) i_72.toInt = r_5.toInt := (by have z := hsr_5_0; rw [zRw_tl (by omega), ← z]); have y9 : r_5.toNatClampNeg = r_5.toInt.toNat := rfl; have hk : (n.toInt - i_72.toInt).toNat = (n.toInt - (i_72.toInt + 1)).toNat + 1 := (by omega); have hm := hsr_15_0; rw [y9] at hm; rw [hvi_72_0, hk, zJg_s, zt, if_neg (fun z => by (have z2 := hm.mpr z.2; omega))])⟩))⟩)⟩)), trivial⟩, zRet ht hP hD [0, 1, 2, 3, 4, 5, 6, 7] (by decide) rfl⟩, hS.F ht⟩) hS.2.2 dX8_judge_111
  refine lv_aload_n hx hb dX8_judge_0 rfl (lv_at hl 0 rfl) ?_
  refine lv_iload_n hx hb dX8_judge_1 rfl (lv_at hl 1 rfl) ?_
  refine zc_V (As := [.int s_]) (rest := []) ⟨hx, hb, hml, hown, hts⟩ (c_F_M_wanted l D cI cJ cZ cP cS po m0 mrf mki mpa mta mla msl mco mhe mso msi msh mce mca mwo mnu mte mwa mke mma mth mtr (npu) (nte) (nat_) (nde) (nto) (nse) (nhu) (nga) (nsd) (nfa) (nba) (npl) (nen) (nnu) (nwr) (nra) (nik) ghe (s_) hy0 hy1 hy2 hy3 hy4 hy5 hy6 hy7 hy8 hy9 hy10 hy11 hy12 hy13 hp_ghe) (cwV 1 hts gX8_judge_X8_wanted rfl rfl rfl ⟨rfl, dh_X8_wanted⟩ ⟨Nat.le_of_ble_eq_true rfl, Nat.le_of_ble_eq_true rfl⟩) hK hN (hZ.kept hS) hP (hP.sub [0, 2] rfl) (va_recv (q := (RX8, TX8, 38)) hK hP (ci := 8) (q0 := 0) rfl rfl) rfl hl.1 rfl (Nat.le_of_ble_eq_true rfl) dX8_judge_2 ⟨Nat.le_of_ble_eq_true rfl, Nat.le_of_ble_eq_true rfl⟩ (fun r_35 hr_35 => ?_)
  obtain ⟨g_36, g_37, hsr_35_0⟩ := hr_35
  refine lv_istore_n (lv' := [(3, .int r_35), (0, .ref m0), (1, .int s_), (2, .int n)]) hx hb dX8_judge_5 rfl hl (by decide) rfl (fun ls hl => ?_)
  refine lv_iload_n hx hb dX8_judge_6 rfl (lv_at hl 0 rfl) ?_
  refine lv_if_ne (tgt := 47) hx hb dX8_judge_7 (by decide) (fun c_38 => ?_) (fun c_38 => ?_)
  · have fc_38 : r_35.toInt ≠ 0 := zf_ne c_38 rfl (by decide)
    refine lv_iload_n hx hb dX8_judge_47 rfl (lv_at hl 0 rfl) ?_
    refine lv_if_eq (tgt := 57) hx hb dX8_judge_48 (by decide) (fun c_39 => ?_) (fun c_39 => ?_)
    · exfalso; have fc_39 : r_35.toInt = 0 := zf_eq c_39 rfl (by decide); omega
    · have fc_39 : r_35.toInt ≠ 0 := zf_ne c_39 rfl (by decide)
      refine lv_aload_n hx hb dX8_judge_51 rfl (lv_at hl 1 rfl) ?_
      refine lv_iload_n hx hb dX8_judge_52 rfl (lv_at hl 0 rfl) ?_
      skip
      refine zw_V (As := [.int r_35]) (rest := []) (wr := [(mhe, .inl (cI, 8, .inl ghe)), (msi, .inl (cI, 8, .inl gsi)), (mce, .inl (cJ, 1280, .inr (.inl gce))), (mki, .inl (cI, 8, .inl gki)), (mpa, .inl (cI, 8, .inl gpa)), (mta, .inl (cI, 8, .inl gta))]) ⟨hx, hb, hml, hown, hts⟩ (c_F_M_noTen l D cI cJ cZ cP cS po m0 mrf mki mpa mta mla msl mco mhe mso msi msh mce mca mwo mnu mte mwa mke mma mth mtr (npu) (nte) (nat_) (nde) (nto) (nse) (nhu) (nga) (nsd) (nfa) (nba) (npl) (nen) (nnu) (nwr) (nra) (nik) grf (r_35) hy0 hy1 hy2 hy3 hy4 hy5 hy6 hy7 hy8 hy9 hy10 hy11 hy12 hy13 (by omega) (by omega) H.size) (cwV 1 hts gX8_judge_X8_noTen rfl rfl rfl ⟨rfl, dh_X8_noTen⟩ ⟨Nat.le_of_ble_eq_true rfl, Nat.le_of_ble_eq_true rfl⟩) hK hN (hZ.kept hS) hP hD hS hA [0, 1] [2, 3, 4, 5, 6, 7] rfl rfl (by decide) (by decide) (by decide) (va_recv (q := (RX8, TX8, 38)) hK hP (ci := 8) (q0 := 0) rfl rfl) rfl hl.1 rfl (Nat.le_of_ble_eq_true rfl) dX8_judge_53 ⟨Nat.le_of_ble_eq_true rfl, Nat.le_of_ble_eq_true rfl⟩ (fun r_40 u_41 H locs hr_40 hP hD hS => ?_)
      obtain ⟨q_42, rfl⟩ : ∃ z, z = u_41 := ⟨_, rfl⟩
      obtain ⟨hsr_40_0, hr_40⟩ := hr_40
      have h9R := zRe (ws' := [(mhe, .inl (cI, 8, .inl ghe)), (msi, .inl (cI, 8, .inl gsi)), (mce, .inl (cJ, 1280, .inr (.inl gce))), (mki, .inl (cI, 8, .inl gki)), (mpa, .inl (cI, 8, .inl gpa)), (mta, .inl (cI, 8, .inl gta)), (zMO m0 npu nte nat_ nde nto nse nhu nga nsd nfa mrf mki mpa mta mla msl mco mhe mso msi msh mce mca mwo mnu mte nba npl nen nnu nwr mwa mke mma mth mtr nra nik), (mrf, .inl (cI, 8, .inl q_42))]) hP hD rfl
      clear hP hD
      obtain ⟨hP, hD⟩ := h9R
      obtain ⟨g_43, g_44⟩ := hr_40
      exact W.iret (v := r_40) hx hb hr (fun t ht hW => ⟨⟨r_40, q_42, rfl, ⟨(show ((s_.toInt < 0 ∨ 7 < s_.toInt) ∧ (r_40 : Int32).toInt = -11) ∨ ((0 ≤ s_.toInt ∧ s_.toInt ≤ 7) ∧ (((zHc (ghe s_.toNatClampNeg).toInt) = -1 ∧ (r_40 : Int32).toInt = -13) ∨ ((zHc (ghe s_.toNatClampNeg).toInt) ≠ -1 ∧ (zHc (ghe s_.toNatClampNeg).toInt) < 100 ∧ (r_40 : Int32).toInt = -12) ∨ (100 ≤ (zHc (ghe s_.toNatClampNeg).toInt) ∧ ((n.toInt < 0 ∧ (r_40 : Int32).toInt = -14) ∨ (0 ≤ n.toInt ∧ (gsi s_.toNatClampNeg).toInt < n.toInt ∧ (r_40 : Int32).toInt = -15) ∨ (0 ≤ n.toInt ∧ n.toInt ≤ (gsi s_.toNatClampNeg).toInt ∧ 20 < n.toInt ∧ (r_40 : Int32).toInt = -16) ∨ ((0 ≤ n.toInt ∧ n.toInt ≤ (gsi s_.toNatClampNeg).toInt ∧ n.toInt ≤ 20) ∧ (r_40 : Int32).toInt = zJg gki gpa gta npu.toInt nhu.toInt (zRw gce (160 * s_.toInt)) n.toInt.toNat 0 nde.toInt nse.toInt))))) from by (have zw := hsr_35_0; have zn := hsr_40_0; have k4 : ((-4) : Int32).toInt = -4 := (by decide); have k5 : ((-5) : Int32).toInt = -5 := (by decide); have k6 : ((-6) : Int32).toInt = -6 := (by decide); unfold zHc; rcases zw with ⟨z1, z2⟩ | ⟨z1, ⟨z2, z3⟩ | ⟨z2, z3⟩ | ⟨z2, z3⟩⟩ <;> first | omega | ((repeat (first | rw [if_pos (by omega)] | rw [if_neg (by omega)])); omega))), trivial⟩, zRet ht hP hD [6, 7, 0, 1, 2, 3, 4, 5] (by decide) rfl⟩, hS.F ht⟩) hS.2.2 dX8_judge_56
  · have fc_38 : r_35.toInt = 0 := zf_eq c_38 rfl (by decide)
    refine lv_iload_n hx hb dX8_judge_10 rfl (lv_at hl 3 rfl) ?_
    refine lv_if_ge (tgt := 19) hx hb dX8_judge_11 (by decide) (fun c_45 => ?_) (fun c_45 => ?_)
    · have fc_45 : 0 ≤ n.toInt := zf_le c_45 (by decide) rfl
      refine lv_iload_n hx hb dX8_judge_19 rfl (lv_at hl 3 rfl) ?_
      refine lv_aload_n hx hb dX8_judge_20 rfl (lv_at hl 1 rfl) ?_
      refine va_get (D := D) (ci := 8) (v := .ref msi) (C := RX8) (T := TX8) (N := 38) hx hb hts hi_X8_judge_8 hown hK hP 0 rfl rfl 19 (by decide) (hts (.fieldLink RX8 53 "TheLiningsInItModel" "size" "[I") (List.mem_of_getElem? (i := 1) rfl)) (fun _ h9 => h9) rfl dX8_judge_21 ?_
      refine lv_iload_n hx hb dX8_judge_24 rfl (lv_at hl 2 rfl) ?_
      refine va_iald hx hb hK hP 3 0 rfl rfl (zf_in (by omega) (by omega)) dX8_judge_25 ?_
      refine lv_topi (fun x_46 ex_46 => ?_)
      have bx_46 : 0 ≤ x_46.toInt ∧ x_46.toInt ≤ 160 := by rw [ex_46]; exact hp_gsi _
      refine lv_icmp_le (tgt := 34) hx hb dX8_judge_26 (by decide) (fun c_47 => ?_) (fun c_47 => ?_)
      · have fc_47 : n.toInt ≤ x_46.toInt := zf_le c_47 rfl rfl
        refine lv_iload_n hx hb dX8_judge_34 rfl (lv_at hl 3 rfl) ?_
        refine lv_bipush (v := 20) hx hb dX8_judge_35 (by decide) ?_
        refine lv_icmp_le (tgt := 45) hx hb dX8_judge_37 (by decide) (fun c_48 => ?_) (fun c_48 => ?_)
        · have fc_48 : n.toInt ≤ 20 := zf_le c_48 rfl (by decide)
          refine lv_iconst (v := 0) hx hb dX8_judge_45 (by decide) ?_
          refine lv_istore_n (lv' := [(3, .int 0), (0, .ref m0), (1, .int s_), (2, .int n)]) hx hb dX8_judge_46 rfl hl (by decide) rfl (fun ls hl => ?_)
          refine lv_iload_n hx hb dX8_judge_47 rfl (lv_at hl 0 rfl) ?_
          refine lv_if_eq (tgt := 57) hx hb dX8_judge_48 (by decide) (fun c_49 => ?_) (fun c_49 => ?_)
          · refine lv_aload_n hx hb dX8_judge_57 rfl (lv_at hl 1 rfl) ?_
            refine va_get (D := D) (ci := 8) (v := .int nde) (C := RX8) (T := TX8) (N := 38) hx hb hts hi_X8_judge_8 hown hK hP 0 rfl rfl 3 (by decide) (hts (.fieldLink RX8 115 "TheLiningsInItModel" "depth" "I") (List.mem_of_getElem? (i := 2) rfl)) (fun _ h9 => h9) rfl dX8_judge_58 ?_
            refine lv_istore (lv' := [(4, .int nde), (3, .int 0), (0, .ref m0), (1, .int s_), (2, .int n)]) hx hb dX8_judge_61 hl (by decide) rfl (fun ls hl => ?_)
            refine lv_aload_n hx hb dX8_judge_63 rfl (lv_at hl 2 rfl) ?_
            refine va_get (D := D) (ci := 8) (v := .int nse) (C := RX8) (T := TX8) (N := 38) hx hb hts hi_X8_judge_8 hown hK hP 0 rfl rfl 5 (by decide) (hts (.fieldLink RX8 13 "TheLiningsInItModel" "seconds" "I") (List.mem_of_getElem? (i := 3) rfl)) (fun _ h9 => h9) rfl dX8_judge_64 ?_
            refine lv_istore (lv' := [(5, .int nse), (4, .int nde), (3, .int 0), (0, .ref m0), (1, .int s_), (2, .int n)]) hx hb dX8_judge_67 hl (by decide) rfl (fun ls hl => ?_)
            exact hcut69 H locs ls  hP hD hS (lv_sub hl [3, 4, 5, 1, 0] rfl) (by have zw := hsr_35_0; (try rw [← ex_46]); omega)
          · exact absurd c_49 (by decide)
        · have fc_48 : 20 < n.toInt := zf_nle c_48 rfl (by decide)
          refine lv_bipush (v := (-6)) hx hb dX8_judge_40 (by decide) ?_
          refine lv_goto (tgt := 46) hx hb dX8_judge_42 (by decide) ?_
          refine lv_istore_n (lv' := [(3, .int (-6)), (0, .ref m0), (1, .int s_), (2, .int n)]) hx hb dX8_judge_46 rfl hl (by decide) rfl (fun ls hl => ?_)
          refine lv_iload_n hx hb dX8_judge_47 rfl (lv_at hl 0 rfl) ?_
          refine lv_if_eq (tgt := 57) hx hb dX8_judge_48 (by decide) (fun c_50 => ?_) (fun c_50 => ?_)
          · exact absurd c_50 (by decide)
          · refine lv_aload_n hx hb dX8_judge_51 rfl (lv_at hl 1 rfl) ?_
            refine lv_iload_n hx hb dX8_judge_52 rfl (lv_at hl 0 rfl) ?_
            have kcm6 : ((-6) : Int32).toInt = (-6) := by decide
            skip
            refine zw_V (As := [.int (-6)]) (rest := []) (wr := [(mhe, .inl (cI, 8, .inl ghe)), (msi, .inl (cI, 8, .inl gsi)), (mce, .inl (cJ, 1280, .inr (.inl gce))), (mki, .inl (cI, 8, .inl gki)), (mpa, .inl (cI, 8, .inl gpa)), (mta, .inl (cI, 8, .inl gta))]) ⟨hx, hb, hml, hown, hts⟩ (c_F_M_noTen l D cI cJ cZ cP cS po m0 mrf mki mpa mta mla msl mco mhe mso msi msh mce mca mwo mnu mte mwa mke mma mth mtr (npu) (nte) (nat_) (nde) (nto) (nse) (nhu) (nga) (nsd) (nfa) (nba) (npl) (nen) (nnu) (nwr) (nra) (nik) grf ((-6)) hy0 hy1 hy2 hy3 hy4 hy5 hy6 hy7 hy8 hy9 hy10 hy11 hy12 hy13 (by omega) (by omega) H.size) (cwV 1 hts gX8_judge_X8_noTen rfl rfl rfl ⟨rfl, dh_X8_noTen⟩ ⟨Nat.le_of_ble_eq_true rfl, Nat.le_of_ble_eq_true rfl⟩) hK hN (hZ.kept hS) hP hD hS hA [0, 1] [2, 3, 4, 5, 6, 7] rfl rfl (by decide) (by decide) (by decide) (va_recv (q := (RX8, TX8, 38)) hK hP (ci := 8) (q0 := 0) rfl rfl) rfl hl.1 rfl (Nat.le_of_ble_eq_true rfl) dX8_judge_53 ⟨Nat.le_of_ble_eq_true rfl, Nat.le_of_ble_eq_true rfl⟩ (fun r_51 u_52 H locs hr_51 hP hD hS => ?_)
            obtain ⟨q_53, rfl⟩ : ∃ z, z = u_52 := ⟨_, rfl⟩
            obtain ⟨hsr_51_0, hr_51⟩ := hr_51
            have h9R := zRe (ws' := [(mhe, .inl (cI, 8, .inl ghe)), (msi, .inl (cI, 8, .inl gsi)), (mce, .inl (cJ, 1280, .inr (.inl gce))), (mki, .inl (cI, 8, .inl gki)), (mpa, .inl (cI, 8, .inl gpa)), (mta, .inl (cI, 8, .inl gta)), (zMO m0 npu nte nat_ nde nto nse nhu nga nsd nfa mrf mki mpa mta mla msl mco mhe mso msi msh mce mca mwo mnu mte nba npl nen nnu nwr mwa mke mma mth mtr nra nik), (mrf, .inl (cI, 8, .inl q_53))]) hP hD rfl
            clear hP hD
            obtain ⟨hP, hD⟩ := h9R
            obtain ⟨g_54, g_55⟩ := hr_51
            exact W.iret (v := r_51) hx hb hr (fun t ht hW => ⟨⟨r_51, q_53, rfl, ⟨(show ((s_.toInt < 0 ∨ 7 < s_.toInt) ∧ (r_51 : Int32).toInt = -11) ∨ ((0 ≤ s_.toInt ∧ s_.toInt ≤ 7) ∧ (((zHc (ghe s_.toNatClampNeg).toInt) = -1 ∧ (r_51 : Int32).toInt = -13) ∨ ((zHc (ghe s_.toNatClampNeg).toInt) ≠ -1 ∧ (zHc (ghe s_.toNatClampNeg).toInt) < 100 ∧ (r_51 : Int32).toInt = -12) ∨ (100 ≤ (zHc (ghe s_.toNatClampNeg).toInt) ∧ ((n.toInt < 0 ∧ (r_51 : Int32).toInt = -14) ∨ (0 ≤ n.toInt ∧ (gsi s_.toNatClampNeg).toInt < n.toInt ∧ (r_51 : Int32).toInt = -15) ∨ (0 ≤ n.toInt ∧ n.toInt ≤ (gsi s_.toNatClampNeg).toInt ∧ 20 < n.toInt ∧ (r_51 : Int32).toInt = -16) ∨ ((0 ≤ n.toInt ∧ n.toInt ≤ (gsi s_.toNatClampNeg).toInt ∧ n.toInt ≤ 20) ∧ (r_51 : Int32).toInt = zJg gki gpa gta npu.toInt nhu.toInt (zRw gce (160 * s_.toInt)) n.toInt.toNat 0 nde.toInt nse.toInt))))) from by (have zw := hsr_35_0; have zn := hsr_51_0; have k4 : ((-4) : Int32).toInt = -4 := (by decide); have k5 : ((-5) : Int32).toInt = -5 := (by decide); have k6 : ((-6) : Int32).toInt = -6 := (by decide); unfold zHc; (try rw [← ex_46]); rcases zw with ⟨z1, z2⟩ | ⟨z1, ⟨z2, z3⟩ | ⟨z2, z3⟩ | ⟨z2, z3⟩⟩ <;> first | omega | ((repeat (first | rw [if_pos (by omega)] | rw [if_neg (by omega)])); omega))), trivial⟩, zRet ht hP hD [6, 7, 0, 1, 2, 3, 4, 5] (by decide) rfl⟩, hS.F ht⟩) hS.2.2 dX8_judge_56
      · have fc_47 : x_46.toInt < n.toInt := zf_nle c_47 rfl rfl
        refine lv_bipush (v := (-5)) hx hb dX8_judge_29 (by decide) ?_
        refine lv_goto (tgt := 46) hx hb dX8_judge_31 (by decide) ?_
        refine lv_istore_n (lv' := [(3, .int (-5)), (0, .ref m0), (1, .int s_), (2, .int n)]) hx hb dX8_judge_46 rfl hl (by decide) rfl (fun ls hl => ?_)
        refine lv_iload_n hx hb dX8_judge_47 rfl (lv_at hl 0 rfl) ?_
        refine lv_if_eq (tgt := 57) hx hb dX8_judge_48 (by decide) (fun c_56 => ?_) (fun c_56 => ?_)
        · exact absurd c_56 (by decide)
        · refine lv_aload_n hx hb dX8_judge_51 rfl (lv_at hl 1 rfl) ?_
          refine lv_iload_n hx hb dX8_judge_52 rfl (lv_at hl 0 rfl) ?_
          have kcm5 : ((-5) : Int32).toInt = (-5) := by decide
          skip
          refine zw_V (As := [.int (-5)]) (rest := []) (wr := [(mhe, .inl (cI, 8, .inl ghe)), (msi, .inl (cI, 8, .inl gsi)), (mce, .inl (cJ, 1280, .inr (.inl gce))), (mki, .inl (cI, 8, .inl gki)), (mpa, .inl (cI, 8, .inl gpa)), (mta, .inl (cI, 8, .inl gta))]) ⟨hx, hb, hml, hown, hts⟩ (c_F_M_noTen l D cI cJ cZ cP cS po m0 mrf mki mpa mta mla msl mco mhe mso msi msh mce mca mwo mnu mte mwa mke mma mth mtr (npu) (nte) (nat_) (nde) (nto) (nse) (nhu) (nga) (nsd) (nfa) (nba) (npl) (nen) (nnu) (nwr) (nra) (nik) grf ((-5)) hy0 hy1 hy2 hy3 hy4 hy5 hy6 hy7 hy8 hy9 hy10 hy11 hy12 hy13 (by omega) (by omega) H.size) (cwV 1 hts gX8_judge_X8_noTen rfl rfl rfl ⟨rfl, dh_X8_noTen⟩ ⟨Nat.le_of_ble_eq_true rfl, Nat.le_of_ble_eq_true rfl⟩) hK hN (hZ.kept hS) hP hD hS hA [0, 1] [2, 3, 4, 5, 6, 7] rfl rfl (by decide) (by decide) (by decide) (va_recv (q := (RX8, TX8, 38)) hK hP (ci := 8) (q0 := 0) rfl rfl) rfl hl.1 rfl (Nat.le_of_ble_eq_true rfl) dX8_judge_53 ⟨Nat.le_of_ble_eq_true rfl, Nat.le_of_ble_eq_true rfl⟩ (fun r_57 u_58 H locs hr_57 hP hD hS => ?_)
          obtain ⟨q_59, rfl⟩ : ∃ z, z = u_58 := ⟨_, rfl⟩
          obtain ⟨hsr_57_0, hr_57⟩ := hr_57
          have h9R := zRe (ws' := [(mhe, .inl (cI, 8, .inl ghe)), (msi, .inl (cI, 8, .inl gsi)), (mce, .inl (cJ, 1280, .inr (.inl gce))), (mki, .inl (cI, 8, .inl gki)), (mpa, .inl (cI, 8, .inl gpa)), (mta, .inl (cI, 8, .inl gta)), (zMO m0 npu nte nat_ nde nto nse nhu nga nsd nfa mrf mki mpa mta mla msl mco mhe mso msi msh mce mca mwo mnu mte nba npl nen nnu nwr mwa mke mma mth mtr nra nik), (mrf, .inl (cI, 8, .inl q_59))]) hP hD rfl
          clear hP hD
          obtain ⟨hP, hD⟩ := h9R
          obtain ⟨g_60, g_61⟩ := hr_57
          exact W.iret (v := r_57) hx hb hr (fun t ht hW => ⟨⟨r_57, q_59, rfl, ⟨(show ((s_.toInt < 0 ∨ 7 < s_.toInt) ∧ (r_57 : Int32).toInt = -11) ∨ ((0 ≤ s_.toInt ∧ s_.toInt ≤ 7) ∧ (((zHc (ghe s_.toNatClampNeg).toInt) = -1 ∧ (r_57 : Int32).toInt = -13) ∨ ((zHc (ghe s_.toNatClampNeg).toInt) ≠ -1 ∧ (zHc (ghe s_.toNatClampNeg).toInt) < 100 ∧ (r_57 : Int32).toInt = -12) ∨ (100 ≤ (zHc (ghe s_.toNatClampNeg).toInt) ∧ ((n.toInt < 0 ∧ (r_57 : Int32).toInt = -14) ∨ (0 ≤ n.toInt ∧ (gsi s_.toNatClampNeg).toInt < n.toInt ∧ (r_57 : Int32).toInt = -15) ∨ (0 ≤ n.toInt ∧ n.toInt ≤ (gsi s_.toNatClampNeg).toInt ∧ 20 < n.toInt ∧ (r_57 : Int32).toInt = -16) ∨ ((0 ≤ n.toInt ∧ n.toInt ≤ (gsi s_.toNatClampNeg).toInt ∧ n.toInt ≤ 20) ∧ (r_57 : Int32).toInt = zJg gki gpa gta npu.toInt nhu.toInt (zRw gce (160 * s_.toInt)) n.toInt.toNat 0 nde.toInt nse.toInt))))) from by (have zw := hsr_35_0; have zn := hsr_57_0; have k4 : ((-4) : Int32).toInt = -4 := (by decide); have k5 : ((-5) : Int32).toInt = -5 := (by decide); have k6 : ((-6) : Int32).toInt = -6 := (by decide); unfold zHc; (try rw [← ex_46]); rcases zw with ⟨z1, z2⟩ | ⟨z1, ⟨z2, z3⟩ | ⟨z2, z3⟩ | ⟨z2, z3⟩⟩ <;> first | omega | ((repeat (first | rw [if_pos (by omega)] | rw [if_neg (by omega)])); omega))), trivial⟩, zRet ht hP hD [6, 7, 0, 1, 2, 3, 4, 5] (by decide) rfl⟩, hS.F ht⟩) hS.2.2 dX8_judge_56
    · have fc_45 : n.toInt < 0 := zf_nle c_45 (by decide) rfl
      refine lv_bipush (v := (-4)) hx hb dX8_judge_14 (by decide) ?_
      refine lv_goto (tgt := 46) hx hb dX8_judge_16 (by decide) ?_
      refine lv_istore_n (lv' := [(3, .int (-4)), (0, .ref m0), (1, .int s_), (2, .int n)]) hx hb dX8_judge_46 rfl hl (by decide) rfl (fun ls hl => ?_)
      refine lv_iload_n hx hb dX8_judge_47 rfl (lv_at hl 0 rfl) ?_
      refine lv_if_eq (tgt := 57) hx hb dX8_judge_48 (by decide) (fun c_62 => ?_) (fun c_62 => ?_)
      · exact absurd c_62 (by decide)
      · refine lv_aload_n hx hb dX8_judge_51 rfl (lv_at hl 1 rfl) ?_
        refine lv_iload_n hx hb dX8_judge_52 rfl (lv_at hl 0 rfl) ?_
        have kcm4 : ((-4) : Int32).toInt = (-4) := by decide
        skip
        refine zw_V (As := [.int (-4)]) (rest := []) (wr := [(mhe, .inl (cI, 8, .inl ghe)), (msi, .inl (cI, 8, .inl gsi)), (mce, .inl (cJ, 1280, .inr (.inl gce))), (mki, .inl (cI, 8, .inl gki)), (mpa, .inl (cI, 8, .inl gpa)), (mta, .inl (cI, 8, .inl gta))]) ⟨hx, hb, hml, hown, hts⟩ (c_F_M_noTen l D cI cJ cZ cP cS po m0 mrf mki mpa mta mla msl mco mhe mso msi msh mce mca mwo mnu mte mwa mke mma mth mtr (npu) (nte) (nat_) (nde) (nto) (nse) (nhu) (nga) (nsd) (nfa) (nba) (npl) (nen) (nnu) (nwr) (nra) (nik) grf ((-4)) hy0 hy1 hy2 hy3 hy4 hy5 hy6 hy7 hy8 hy9 hy10 hy11 hy12 hy13 (by omega) (by omega) H.size) (cwV 1 hts gX8_judge_X8_noTen rfl rfl rfl ⟨rfl, dh_X8_noTen⟩ ⟨Nat.le_of_ble_eq_true rfl, Nat.le_of_ble_eq_true rfl⟩) hK hN (hZ.kept hS) hP hD hS hA [0, 1] [2, 3, 4, 5, 6, 7] rfl rfl (by decide) (by decide) (by decide) (va_recv (q := (RX8, TX8, 38)) hK hP (ci := 8) (q0 := 0) rfl rfl) rfl hl.1 rfl (Nat.le_of_ble_eq_true rfl) dX8_judge_53 ⟨Nat.le_of_ble_eq_true rfl, Nat.le_of_ble_eq_true rfl⟩ (fun r_63 u_64 H locs hr_63 hP hD hS => ?_)
        obtain ⟨q_65, rfl⟩ : ∃ z, z = u_64 := ⟨_, rfl⟩
        obtain ⟨hsr_63_0, hr_63⟩ := hr_63
        have h9R := zRe (ws' := [(mhe, .inl (cI, 8, .inl ghe)), (msi, .inl (cI, 8, .inl gsi)), (mce, .inl (cJ, 1280, .inr (.inl gce))), (mki, .inl (cI, 8, .inl gki)), (mpa, .inl (cI, 8, .inl gpa)), (mta, .inl (cI, 8, .inl gta)), (zMO m0 npu nte nat_ nde nto nse nhu nga nsd nfa mrf mki mpa mta mla msl mco mhe mso msi msh mce mca mwo mnu mte nba npl nen nnu nwr mwa mke mma mth mtr nra nik), (mrf, .inl (cI, 8, .inl q_65))]) hP hD rfl
        clear hP hD
        obtain ⟨hP, hD⟩ := h9R
        obtain ⟨g_66, g_67⟩ := hr_63
        exact W.iret (v := r_63) hx hb hr (fun t ht hW => ⟨⟨r_63, q_65, rfl, ⟨(show ((s_.toInt < 0 ∨ 7 < s_.toInt) ∧ (r_63 : Int32).toInt = -11) ∨ ((0 ≤ s_.toInt ∧ s_.toInt ≤ 7) ∧ (((zHc (ghe s_.toNatClampNeg).toInt) = -1 ∧ (r_63 : Int32).toInt = -13) ∨ ((zHc (ghe s_.toNatClampNeg).toInt) ≠ -1 ∧ (zHc (ghe s_.toNatClampNeg).toInt) < 100 ∧ (r_63 : Int32).toInt = -12) ∨ (100 ≤ (zHc (ghe s_.toNatClampNeg).toInt) ∧ ((n.toInt < 0 ∧ (r_63 : Int32).toInt = -14) ∨ (0 ≤ n.toInt ∧ (gsi s_.toNatClampNeg).toInt < n.toInt ∧ (r_63 : Int32).toInt = -15) ∨ (0 ≤ n.toInt ∧ n.toInt ≤ (gsi s_.toNatClampNeg).toInt ∧ 20 < n.toInt ∧ (r_63 : Int32).toInt = -16) ∨ ((0 ≤ n.toInt ∧ n.toInt ≤ (gsi s_.toNatClampNeg).toInt ∧ n.toInt ≤ 20) ∧ (r_63 : Int32).toInt = zJg gki gpa gta npu.toInt nhu.toInt (zRw gce (160 * s_.toInt)) n.toInt.toNat 0 nde.toInt nse.toInt))))) from by (have zw := hsr_35_0; have zn := hsr_63_0; have k4 : ((-4) : Int32).toInt = -4 := (by decide); have k5 : ((-5) : Int32).toInt = -5 := (by decide); have k6 : ((-6) : Int32).toInt = -6 := (by decide); unfold zHc; rcases zw with ⟨z1, z2⟩ | ⟨z1, ⟨z2, z3⟩ | ⟨z2, z3⟩ | ⟨z2, z3⟩⟩ <;> first | omega | ((repeat (first | rw [if_pos (by omega)] | rw [if_neg (by omega)])); omega))), trivial⟩, zRet ht hP hD [6, 7, 0, 1, 2, 3, 4, 5] (by decide) rfl⟩, hS.F ht⟩) hS.2.2 dX8_judge_56

