set_option maxHeartbeats 4000000 in
set_option maxRecDepth 100000 in
theorem c_F_M_greatest (l : Launch) (D : va_G) (cI cJ cZ cP cS : ClassId) (po : zPool) (m0 mrf mki mpa mta mla msl mco mhe mso msi msh mce mca mwo mnu mte mwa mke mma mth mtr : Nat) (npu nte nat_ nde nto nse nhu nga nsd nfa nba npl nen nnu nwr nra nik : Int32) (gma : Nat → Int32) (hy0 : 0 ≤ npu.toInt) (hy1 : npu.toInt ≤ 8) (hy2 : 4 ≤ nte.toInt) (hy3 : nte.toInt ≤ 40) (hy4 : 0 ≤ nat_.toInt) (hy5 : nat_.toInt ≤ 40) (hy6 : 0 ≤ nde.toInt) (hy7 : nde.toInt ≤ 24) (hy8 : 0 ≤ nhu.toInt) (hy9 : nhu.toInt ≤ 9) (hy10 : 0 ≤ nra.toInt) (hy11 : nra.toInt ≤ 2000) (hy12 : 0 ≤ nik.toInt) (hy13 : nik.toInt ≤ 1) : Met l yX8_greatest wsX8_greatest ({ frames := 0, cells := 0, slots := 0, locals := 0 }) (va_Pc [.ref m0] (zR D (zKT cI cJ cZ cP cS) po [(zMO m0 npu nte nat_ nde nto nse nhu nga nsd nfa mrf mki mpa mta mla msl mco mhe mso msi msh mce mca mwo mnu mte nba npl nen nnu nwr mwa mke mma mth mtr nra nik), (mma, .inl (cI, 3, .inl gma))])) (vp_Si (fun r => (r.toInt = max (gma 0).toInt (max (gma 1).toInt (gma 2).toInt)))) 0 0 (fun _ => False) := by
  refine Met.ofW (cc := cX8_greatest) (maxL := 2) (ret := (some .int)) (by decide) rfl ?_
  intro p e s m args below meth c s₁ B hml hv
  obtain ⟨rfl, hP, hK, hN, hZ⟩ := hv
  have hx := B.exec
  have hb := B.bytes
  have hr := B.returns
  have hts := atoms_spec (ws := wsX8_greatest) B.pre
  have hown : s.vm.findClass RX8 = some m.cls := findClass_of_methodNamed B.named
  have hlocks := B.notSynchronized
  have hl := lv_entry ([.ref m0]) (n := 2) (Nat.le_of_ble_eq_true rfl)
  rw [lg_entry_eq]
  generalize (lg_sl ([.ref m0]) ++ List.replicate (2 - (lg_sl ([.ref m0])).length) Slot.unset).toArray = ls at hl ⊢
  replace hl : lv_has ls 2 [(0, .ref m0)] := hl
  refine lv_aload_n hx hb dX8_greatest_0 rfl (lv_at hl 0 rfl) ?_
  refine va_get (D := D) (ci := 8) (v := .ref mma) (C := RX8) (T := TX8) (N := 38) hx hb hts hi_X8_greatest_8 hown hK hP 0 rfl rfl 33 (by decide) (hts (.fieldLink RX8 81 "TheLiningsInItModel" "may" "[I") (List.mem_of_getElem? (i := 1) rfl)) (fun _ h9 => h9) rfl dX8_greatest_1 ?_
  refine lv_iconst (v := 0) hx hb dX8_greatest_4 (by decide) ?_
  refine va_iald hx hb hK hP 1 0 rfl rfl (zf_in (by decide) (by decide)) dX8_greatest_5 ?_
  refine lv_topi (fun x_1 ex_1 => ?_)
  refine lv_aload_n hx hb dX8_greatest_6 rfl (lv_at hl 0 rfl) ?_
  refine va_get (D := D) (ci := 8) (v := .ref mma) (C := RX8) (T := TX8) (N := 38) hx hb hts hi_X8_greatest_8 hown hK hP 0 rfl rfl 33 (by decide) (hts (.fieldLink RX8 81 "TheLiningsInItModel" "may" "[I") (List.mem_of_getElem? (i := 1) rfl)) (fun _ h9 => h9) rfl dX8_greatest_7 ?_
  refine lv_iconst (v := 1) hx hb dX8_greatest_10 (by decide) ?_
  refine va_iald hx hb hK hP 1 0 rfl rfl (zf_in (by decide) (by decide)) dX8_greatest_11 ?_
  refine lv_topi (fun x_2 ex_2 => ?_)
  refine lv_icmp_le (tgt := 24) hx hb dX8_greatest_12 (by decide) (fun c_3 => ?_) (fun c_3 => ?_)
  · have fc_3 : x_1.toInt ≤ x_2.toInt := zf_le c_3 rfl rfl
    refine lv_aload_n hx hb dX8_greatest_24 rfl (lv_at hl 0 rfl) ?_
    refine va_get (D := D) (ci := 8) (v := .ref mma) (C := RX8) (T := TX8) (N := 38) hx hb hts hi_X8_greatest_8 hown hK hP 0 rfl rfl 33 (by decide) (hts (.fieldLink RX8 81 "TheLiningsInItModel" "may" "[I") (List.mem_of_getElem? (i := 1) rfl)) (fun _ h9 => h9) rfl dX8_greatest_25 ?_
    refine lv_iconst (v := 1) hx hb dX8_greatest_28 (by decide) ?_
    refine va_iald hx hb hK hP 1 0 rfl rfl (zf_in (by decide) (by decide)) dX8_greatest_29 ?_
    refine lv_topi (fun y_4 ey_4 => ?_)
    obtain rfl : x_2 = y_4 := ex_2.trans ey_4.symm
    refine lv_istore_n (lv' := [(1, .int x_2), (0, .ref m0)]) hx hb dX8_greatest_30 rfl hl (by decide) rfl (fun ls hl => ?_)
    refine lv_iload_n hx hb dX8_greatest_31 rfl (lv_at hl 0 rfl) ?_
    refine lv_aload_n hx hb dX8_greatest_32 rfl (lv_at hl 1 rfl) ?_
    refine va_get (D := D) (ci := 8) (v := .ref mma) (C := RX8) (T := TX8) (N := 38) hx hb hts hi_X8_greatest_8 hown hK hP 0 rfl rfl 33 (by decide) (hts (.fieldLink RX8 81 "TheLiningsInItModel" "may" "[I") (List.mem_of_getElem? (i := 1) rfl)) (fun _ h9 => h9) rfl dX8_greatest_33 ?_
    refine lv_iconst (v := 2) hx hb dX8_greatest_36 (by decide) ?_
    refine va_iald hx hb hK hP 1 0 rfl rfl (zf_in (by decide) (by decide)) dX8_greatest_37 ?_
    refine lv_topi (fun x_5 ex_5 => ?_)
    refine lv_icmp_le (tgt := 45) hx hb dX8_greatest_38 (by decide) (fun c_6 => ?_) (fun c_6 => ?_)
    · have fc_6 : x_2.toInt ≤ x_5.toInt := zf_le c_6 rfl rfl
      refine lv_aload_n hx hb dX8_greatest_45 rfl (lv_at hl 1 rfl) ?_
      refine va_get (D := D) (ci := 8) (v := .ref mma) (C := RX8) (T := TX8) (N := 38) hx hb hts hi_X8_greatest_8 hown hK hP 0 rfl rfl 33 (by decide) (hts (.fieldLink RX8 81 "TheLiningsInItModel" "may" "[I") (List.mem_of_getElem? (i := 1) rfl)) (fun _ h9 => h9) rfl dX8_greatest_46 ?_
      refine lv_iconst (v := 2) hx hb dX8_greatest_49 (by decide) ?_
      refine va_iald hx hb hK hP 1 0 rfl rfl (zf_in (by decide) (by decide)) dX8_greatest_50 ?_
      refine lv_topi (fun y_7 ey_7 => ?_)
      obtain rfl : x_5 = y_7 := ex_5.trans ey_7.symm
      exact W.iret (v := x_5) hx hb hr (fun t ht hW => ⟨x_5, rfl, (show (x_5 : Int32).toInt = max (gma 0).toInt (max (gma 1).toInt (gma 2).toInt) from by (have g0 : (gma 0).toInt = x_1.toInt := (by rw [ex_1, show (0 : Int32).toNatClampNeg = 0 from by decide]); have g1 : (gma 1).toInt = x_2.toInt := (by rw [ex_2, show (1 : Int32).toNatClampNeg = 1 from by decide]); have g2 : (gma 2).toInt = x_5.toInt := (by rw [ex_5, show (2 : Int32).toNatClampNeg = 2 from by decide]); omega)), ht⟩) (fun q hq => by cases hq) dX8_greatest_51
    · have fc_6 : x_5.toInt < x_2.toInt := zf_nle c_6 rfl rfl
      refine lv_iload_n hx hb dX8_greatest_41 rfl (lv_at hl 0 rfl) ?_
      refine lv_goto (tgt := 51) hx hb dX8_greatest_42 (by decide) ?_
      exact W.iret (v := x_2) hx hb hr (fun t ht hW => ⟨x_2, rfl, (show (x_2 : Int32).toInt = max (gma 0).toInt (max (gma 1).toInt (gma 2).toInt) from by (have g0 : (gma 0).toInt = x_1.toInt := (by rw [ex_1, show (0 : Int32).toNatClampNeg = 0 from by decide]); have g1 : (gma 1).toInt = x_2.toInt := (by rw [ex_2, show (1 : Int32).toNatClampNeg = 1 from by decide]); have g2 : (gma 2).toInt = x_5.toInt := (by rw [ex_5, show (2 : Int32).toNatClampNeg = 2 from by decide]); omega)), ht⟩) (fun q hq => by cases hq) dX8_greatest_51
  · have fc_3 : x_2.toInt < x_1.toInt := zf_nle c_3 rfl rfl
    refine lv_aload_n hx hb dX8_greatest_15 rfl (lv_at hl 0 rfl) ?_
    refine va_get (D := D) (ci := 8) (v := .ref mma) (C := RX8) (T := TX8) (N := 38) hx hb hts hi_X8_greatest_8 hown hK hP 0 rfl rfl 33 (by decide) (hts (.fieldLink RX8 81 "TheLiningsInItModel" "may" "[I") (List.mem_of_getElem? (i := 1) rfl)) (fun _ h9 => h9) rfl dX8_greatest_16 ?_
    refine lv_iconst (v := 0) hx hb dX8_greatest_19 (by decide) ?_
    refine va_iald hx hb hK hP 1 0 rfl rfl (zf_in (by decide) (by decide)) dX8_greatest_20 ?_
    refine lv_topi (fun y_8 ey_8 => ?_)
    obtain rfl : x_1 = y_8 := ex_1.trans ey_8.symm
    refine lv_goto (tgt := 30) hx hb dX8_greatest_21 (by decide) ?_
    refine lv_istore_n (lv' := [(1, .int x_1), (0, .ref m0)]) hx hb dX8_greatest_30 rfl hl (by decide) rfl (fun ls hl => ?_)
    refine lv_iload_n hx hb dX8_greatest_31 rfl (lv_at hl 0 rfl) ?_
    refine lv_aload_n hx hb dX8_greatest_32 rfl (lv_at hl 1 rfl) ?_
    refine va_get (D := D) (ci := 8) (v := .ref mma) (C := RX8) (T := TX8) (N := 38) hx hb hts hi_X8_greatest_8 hown hK hP 0 rfl rfl 33 (by decide) (hts (.fieldLink RX8 81 "TheLiningsInItModel" "may" "[I") (List.mem_of_getElem? (i := 1) rfl)) (fun _ h9 => h9) rfl dX8_greatest_33 ?_
    refine lv_iconst (v := 2) hx hb dX8_greatest_36 (by decide) ?_
    refine va_iald hx hb hK hP 1 0 rfl rfl (zf_in (by decide) (by decide)) dX8_greatest_37 ?_
    refine lv_topi (fun x_9 ex_9 => ?_)
    refine lv_icmp_le (tgt := 45) hx hb dX8_greatest_38 (by decide) (fun c_10 => ?_) (fun c_10 => ?_)
    · have fc_10 : x_1.toInt ≤ x_9.toInt := zf_le c_10 rfl rfl
      refine lv_aload_n hx hb dX8_greatest_45 rfl (lv_at hl 1 rfl) ?_
      refine va_get (D := D) (ci := 8) (v := .ref mma) (C := RX8) (T := TX8) (N := 38) hx hb hts hi_X8_greatest_8 hown hK hP 0 rfl rfl 33 (by decide) (hts (.fieldLink RX8 81 "TheLiningsInItModel" "may" "[I") (List.mem_of_getElem? (i := 1) rfl)) (fun _ h9 => h9) rfl dX8_greatest_46 ?_
      refine lv_iconst (v := 2) hx hb dX8_greatest_49 (by decide) ?_
      refine va_iald hx hb hK hP 1 0 rfl rfl (zf_in (by decide) (by decide)) dX8_greatest_50 ?_
      refine lv_topi (fun y_11 ey_11 => ?_)
      obtain rfl : x_9 = y_11 := ex_9.trans ey_11.symm
      exact W.iret (v := x_9) hx hb hr (fun t ht hW => ⟨x_9, rfl, (show (x_9 : Int32).toInt = max (gma 0).toInt (max (gma 1).toInt (gma 2).toInt) from by (have g0 : (gma 0).toInt = x_1.toInt := (by rw [ex_1, show (0 : Int32).toNatClampNeg = 0 from by decide]); have g1 : (gma 1).toInt = x_2.toInt := (by rw [ex_2, show (1 : Int32).toNatClampNeg = 1 from by decide]); have g2 : (gma 2).toInt = x_9.toInt := (by rw [ex_9, show (2 : Int32).toNatClampNeg = 2 from by decide]); omega)), ht⟩) (fun q hq => by cases hq) dX8_greatest_51
    · have fc_10 : x_9.toInt < x_1.toInt := zf_nle c_10 rfl rfl
      refine lv_iload_n hx hb dX8_greatest_41 rfl (lv_at hl 0 rfl) ?_
      refine lv_goto (tgt := 51) hx hb dX8_greatest_42 (by decide) ?_
      exact W.iret (v := x_1) hx hb hr (fun t ht hW => ⟨x_1, rfl, (show (x_1 : Int32).toInt = max (gma 0).toInt (max (gma 1).toInt (gma 2).toInt) from by (have g0 : (gma 0).toInt = x_1.toInt := (by rw [ex_1, show (0 : Int32).toNatClampNeg = 0 from by decide]); have g1 : (gma 1).toInt = x_2.toInt := (by rw [ex_2, show (1 : Int32).toNatClampNeg = 1 from by decide]); have g2 : (gma 2).toInt = x_9.toInt := (by rw [ex_9, show (2 : Int32).toNatClampNeg = 2 from by decide]); omega)), ht⟩) (fun q hq => by cases hq) dX8_greatest_51
set_option maxHeartbeats 4000000 in
set_option maxRecDepth 100000 in
theorem c_F_M_spare (l : Launch) (D : va_G) (cI cJ cZ cP cS : ClassId) (po : zPool) (m0 mrf mki mpa mta mla msl mco mhe mso msi msh mce mca mwo mnu mte mwa mke mma mth mtr : Nat) (npu nte nat_ nde nto nse nhu nga nsd nfa nba npl nen nnu nwr nra nik : Int32) (gla gma gth : Nat → Int32) (hy0 : 0 ≤ npu.toInt) (hy1 : npu.toInt ≤ 8) (hy2 : 4 ≤ nte.toInt) (hy3 : nte.toInt ≤ 40) (hy4 : 0 ≤ nat_.toInt) (hy5 : nat_.toInt ≤ 40) (hy6 : 0 ≤ nde.toInt) (hy7 : nde.toInt ≤ 24) (hy8 : 0 ≤ nhu.toInt) (hy9 : nhu.toInt ≤ 9) (hy10 : 0 ≤ nra.toInt) (hy11 : nra.toInt ≤ 2000) (hy12 : 0 ≤ nik.toInt) (hy13 : nik.toInt ≤ 1) (hp_gla : zRg gla (0) 1) (hpz : Nat) : Met l yX8_spare wsX8_spare ({ frames := 2, cells := 0, slots := 0, locals := 42 }) (va_Pc [.ref m0] (zW D (zKT cI cJ cZ cP cS) po [(zMO m0 npu nte nat_ nde nto nse nhu nga nsd nfa mrf mki mpa mta mla msl mco mhe mso msi msh mce mca mwo mnu mte nba npl nen nnu nwr mwa mke mma mth mtr nra nik), (mla, .inl (cI, 40, .inl gla)), (mma, .inl (cI, 3, .inl gma)), (mth, .inl (cI, 3, .inl gth))] hpz)) (va_Qi (fun (r : Int32) (u : (Nat → Int32) × (Nat → Int32)) => ((zHd gla nte.toInt → r.toInt = zMx3 (zSp (-100) gla nte.toInt.toNat)) ∧ (¬ zHd gla nte.toInt → r.toInt = 0)) ∧ (True)) (zB D [(zMO m0 npu nte nat_ nde nto nse nhu nga nsd nfa mrf mki mpa mta mla msl mco mhe mso msi msh mce mca mwo mnu mte nba npl nen nnu nwr mwa mke mma mth mtr nra nik), (mla, .inl (cI, 40, .inl gla)), (mma, .inl (cI, 3, .inl gma)), (mth, .inl (cI, 3, .inl gth))] hpz (fun (u : (Nat → Int32) × (Nat → Int32)) => [(zMO m0 npu nte nat_ nde nto nse nhu nga nsd nfa mrf mki mpa mta mla msl mco mhe mso msi msh mce mca mwo mnu mte nba npl nen nnu nwr mwa mke mma mth mtr nra nik), (mla, .inl (cI, 40, .inl gla)), (mma, .inl (cI, 3, .inl u.1)), (mth, .inl (cI, 3, .inl u.2))])) (va_A [(zMO m0 npu nte nat_ nde nto nse nhu nga nsd nfa mrf mki mpa mta mla msl mco mhe mso msi msh mce mca mwo mnu mte nba npl nen nnu nwr mwa mke mma mth mtr nra nik), (mla, .inl (cI, 40, .inl gla)), (mma, .inl (cI, 3, .inl gma)), (mth, .inl (cI, 3, .inl gth))] hpz)) 0 0 (va_A [(zMO m0 npu nte nat_ nde nto nse nhu nga nsd nfa mrf mki mpa mta mla msl mco mhe mso msi msh mce mca mwo mnu mte nba npl nen nnu nwr mwa mke mma mth mtr nra nik), (mla, .inl (cI, 40, .inl gla)), (mma, .inl (cI, 3, .inl gma)), (mth, .inl (cI, 3, .inl gth))] hpz) := by
  refine Met.ofW (cc := cX8_spare) (maxL := 4) (ret := (some .int)) (by decide) rfl ?_
  intro p e s m args below meth c s₁ B hml hv
  obtain ⟨rfl, hsz, hP, hK, hD0, hN, hZ⟩ := hv
  have hx := B.exec
  have hb := B.bytes
  have hr := B.returns
  have hts := atoms_spec (ws := wsX8_spare) B.pre
  have hown : s.vm.findClass RX8 = some m.cls := findClass_of_methodNamed B.named
  have hlocks := B.notSynchronized
  subst hsz
  have hD := hD0.self (sz := s.heap.size)
  have hA := zA_of hD
  have hl := lv_entry ([.ref m0]) (n := 4) (Nat.le_of_ble_eq_true rfl)
  rw [lg_entry_eq]
  generalize (lg_sl ([.ref m0]) ++ List.replicate (4 - (lg_sl ([.ref m0])).length) Slot.unset).toArray = ls at hl ⊢
  replace hl : lv_has ls 4 [(0, .ref m0)] := hl
  refine zw_begin hP hD (fun H locs hP1 hS => ?_)
  clear hP
  have hP := hP1
  clear hP1
  refine lv_aload_n hx hb dX8_spare_0 rfl (lv_at hl 0 rfl) ?_
  refine zc_V (As := []) (rest := []) ⟨hx, hb, hml, hown, hts⟩ (c_F_M_doesHold l D cI cJ cZ cP cS po m0 mrf mki mpa mta mla msl mco mhe mso msi msh mce mca mwo mnu mte mwa mke mma mth mtr (npu) (nte) (nat_) (nde) (nto) (nse) (nhu) (nga) (nsd) (nfa) (nba) (npl) (nen) (nnu) (nwr) (nra) (nik) gla hy0 hy1 hy2 hy3 hy4 hy5 hy6 hy7 hy8 hy9 hy10 hy11 hy12 hy13 hp_gla) (cwV 0 hts gX8_spare_X8_doesHold rfl rfl rfl ⟨rfl, dh_X8_doesHold⟩ ⟨Nat.le_of_ble_eq_true rfl, Nat.le_of_ble_eq_true rfl⟩) hK hN (hZ.kept hS) hP (hP.sub [0, 1] rfl) (va_recv (q := (RX8, TX8, 38)) hK hP (ci := 8) (q0 := 0) rfl rfl) rfl hl.1 rfl (Nat.le_of_ble_eq_true rfl) dX8_spare_1 ⟨Nat.le_of_ble_eq_true rfl, Nat.le_of_ble_eq_true rfl⟩ (fun r_1 hr_1 => ?_)
  obtain ⟨g_2, g_3, hsr_1_0⟩ := hr_1
  refine lv_if_ne (tgt := 9) hx hb dX8_spare_4 (by decide) (fun c_4 => ?_) (fun c_4 => ?_)
  · have fc_4 : r_1.toInt ≠ 0 := zf_ne c_4 rfl (by decide)
    refine lv_aload_n hx hb dX8_spare_9 rfl (lv_at hl 0 rfl) ?_
    refine va_get (D := D) (ci := 8) (v := .ref mma) (C := RX8) (T := TX8) (N := 38) hx hb hts hi_X8_spare_8 hown hK hP 0 rfl rfl 33 (by decide) (hts (.fieldLink RX8 81 "TheLiningsInItModel" "may" "[I") (List.mem_of_getElem? (i := 1) rfl)) (fun _ h9 => h9) rfl dX8_spare_10 ?_
    refine lv_iconst (v := 0) hx hb dX8_spare_13 (by decide) ?_
    refine lv_iconst (v := 0) hx hb dX8_spare_14 (by decide) ?_
    refine va_iast hx hb hK hP hD hS 2 0 rfl rfl (zf_in (by decide) (by decide)) dX8_spare_15 (fun H locs hP hD hS => ?_)
    obtain ⟨g_5, hg_5⟩ : ∃ g : Nat → Int32, g = upd gma (0 : Int32).toNatClampNeg 0 := ⟨_, rfl⟩
    rw [← hg_5] at hP hD
    have h9R := zRe (ws' := [(zMO m0 npu nte nat_ nde nto nse nhu nga nsd nfa mrf mki mpa mta mla msl mco mhe mso msi msh mce mca mwo mnu mte nba npl nen nnu nwr mwa mke mma mth mtr nra nik), (mla, .inl (cI, 40, .inl gla)), (mma, .inl (cI, 3, .inl g_5)), (mth, .inl (cI, 3, .inl gth))]) hP hD rfl
    clear hP hD
    obtain ⟨hP, hD⟩ := h9R
    refine lv_aload_n hx hb dX8_spare_16 rfl (lv_at hl 0 rfl) ?_
    refine va_get (D := D) (ci := 8) (v := .ref mma) (C := RX8) (T := TX8) (N := 38) hx hb hts hi_X8_spare_8 hown hK hP 0 rfl rfl 33 (by decide) (hts (.fieldLink RX8 81 "TheLiningsInItModel" "may" "[I") (List.mem_of_getElem? (i := 1) rfl)) (fun _ h9 => h9) rfl dX8_spare_17 ?_
    refine lv_iconst (v := 1) hx hb dX8_spare_20 (by decide) ?_
    refine lv_bipush (v := (-100)) hx hb dX8_spare_21 (by decide) ?_
    refine va_iast hx hb hK hP hD hS 2 0 rfl rfl (zf_in (by decide) (by decide)) dX8_spare_23 (fun H locs hP hD hS => ?_)
    obtain ⟨g_6, hg_6⟩ : ∃ g : Nat → Int32, g = upd g_5 (1 : Int32).toNatClampNeg (-100) := ⟨_, rfl⟩
    rw [← hg_6] at hP hD
    have h9R := zRe (ws' := [(zMO m0 npu nte nat_ nde nto nse nhu nga nsd nfa mrf mki mpa mta mla msl mco mhe mso msi msh mce mca mwo mnu mte nba npl nen nnu nwr mwa mke mma mth mtr nra nik), (mla, .inl (cI, 40, .inl gla)), (mma, .inl (cI, 3, .inl g_6)), (mth, .inl (cI, 3, .inl gth))]) hP hD rfl
    clear hP hD
    obtain ⟨hP, hD⟩ := h9R
    refine lv_aload_n hx hb dX8_spare_24 rfl (lv_at hl 0 rfl) ?_
    refine va_get (D := D) (ci := 8) (v := .ref mma) (C := RX8) (T := TX8) (N := 38) hx hb hts hi_X8_spare_8 hown hK hP 0 rfl rfl 33 (by decide) (hts (.fieldLink RX8 81 "TheLiningsInItModel" "may" "[I") (List.mem_of_getElem? (i := 1) rfl)) (fun _ h9 => h9) rfl dX8_spare_25 ?_
    refine lv_iconst (v := 2) hx hb dX8_spare_28 (by decide) ?_
    refine lv_bipush (v := (-100)) hx hb dX8_spare_29 (by decide) ?_
    refine va_iast hx hb hK hP hD hS 2 0 rfl rfl (zf_in (by decide) (by decide)) dX8_spare_31 (fun H locs hP hD hS => ?_)
    obtain ⟨g_7, hg_7⟩ : ∃ g : Nat → Int32, g = upd g_6 (2 : Int32).toNatClampNeg (-100) := ⟨_, rfl⟩
    rw [← hg_7] at hP hD
    have h9R := zRe (ws' := [(zMO m0 npu nte nat_ nde nto nse nhu nga nsd nfa mrf mki mpa mta mla msl mco mhe mso msi msh mce mca mwo mnu mte nba npl nen nnu nwr mwa mke mma mth mtr nra nik), (mla, .inl (cI, 40, .inl gla)), (mma, .inl (cI, 3, .inl g_7)), (mth, .inl (cI, 3, .inl gth))]) hP hD rfl
    clear hP hD
    obtain ⟨hP, hD⟩ := h9R
    refine lv_iconst (v := 0) hx hb dX8_spare_32 (by decide) ?_
    refine lv_istore_n (lv' := [(1, .int 0), (0, .ref m0)]) hx hb dX8_spare_33 rfl hl (by decide) rfl (fun ls hl => ?_)
    obtain ⟨i_34, hi_34⟩ : ∃ i : Int32, i = 0 := ⟨_, rfl⟩
    replace hl : lv_has ls 4 [(1, .int i_34), (0, .ref m0)] := by rw [hi_34]; exact lv_sub hl [0, 1] rfl
    have h1i_34 : i_34.toInt = 0 := by rw [hi_34]; decide
    obtain ⟨nfu, hni_34⟩ : ∃ nq9 : Nat, nte.toInt ≤ i_34.toInt + (nq9 : Int) := ⟨((nte.toInt : Int) - 0).toNat, by omega⟩
    have hloi_34 : 0 ≤ i_34.toInt := by omega
    obtain ⟨g_8, hg_8⟩ : ∃ g : Nat → Int32, g = g_7 := ⟨_, rfl⟩
    obtain ⟨g_9, hg_9⟩ : ∃ g : Nat → Int32, g = gth := ⟨_, rfl⟩
    replace hP : va_P D vwCl [(zMO m0 npu nte nat_ nde nto nse nhu nga nsd nfa mrf mki mpa mta mla msl mco mhe mso msi msh mce mca mwo mnu mte nba npl nen nnu nwr mwa mke mma mth mtr nra nik), (mla, .inl (cI, 40, .inl gla)), (mma, .inl (cI, 3, .inl g_8)), (mth, .inl (cI, 3, .inl g_9))] H := by rw [hg_8, hg_9]; exact hP
    replace hD : va_D (va_A [(zMO m0 npu nte nat_ nde nto nse nhu nga nsd nfa mrf mki mpa mta mla msl mco mhe mso msi msh mce mca mwo mnu mte nba npl nen nnu nwr mwa mke mma mth mtr nra nik), (mla, .inl (cI, 40, .inl gla)), (mma, .inl (cI, 3, .inl gma)), (mth, .inl (cI, 3, .inl gth))] s.heap.size) [(zMO m0 npu nte nat_ nde nto nse nhu nga nsd nfa mrf mki mpa mta mla msl mco mhe mso msi msh mce mca mwo mnu mte nba npl nen nnu nwr mwa mke mma mth mtr nra nik), (mla, .inl (cI, 40, .inl gla)), (mma, .inl (cI, 3, .inl g_8)), (mth, .inl (cI, 3, .inl g_9))] := by rw [hg_8, hg_9]; exact hD
    have hvi_34_0 : ((g_8 0).toInt, (g_8 1).toInt, (g_8 2).toInt) = zSp (-100) gla i_34.toInt.toNat := by
      (try rw [hi_34]); (try rw [hg_8]); (try rw [hg_9]); (rw [(show ((0 : Int32).toInt.toNat) = 0 from by decide)]; have km : ((-100) : Int32).toInt = -100 := (by decide); have n0 : (0 : Int32).toNatClampNeg = 0 := (by decide); have n1 : (1 : Int32).toNatClampNeg = 1 := (by decide); have n2 : (2 : Int32).toNatClampNeg = 2 := (by decide); show _ = ((0 : Int), (-100 : Int), (-100 : Int)); simp [hg_5, hg_6, hg_7, upd, n0, n1, n2]; first | done | decide | (refine ⟨?_, ?_, ?_⟩ <;> decide))
    have hvi_34_1 : i_34.toInt ≤ nte.toInt := by
      (try rw [hi_34]); (try rw [hg_8]); (try rw [hg_9]); (have k0 : (0 : Int32).toInt = 0 := (by decide); omega)
    clear h1i_34 hi_34 hg_8 hg_9
    skip
    revert hni_34
    revert hloi_34
    revert hvi_34_1
    revert hvi_34_0
    revert hl
    revert hS
    revert hD
    revert hP
    revert ls
    revert locs
    revert H
    revert g_8
    revert g_9
    revert i_34
    induction nfu with
    | zero =>
      intro i_34 g_9 g_8 H locs ls hP hD hS hl hvi_34_0 hvi_34_1 hloi_34 hni_34
      have hzi_34 : nte.toInt ≤ i_34.toInt := by omega
      have hbd := zSp_bd (l := gla) (v := -100) (fun j => hp_gla j) (by omega) i_34.toInt.toNat
      rw [← hvi_34_0] at hbd
      dsimp only at hbd
      refine lv_iload_n hx hb dX8_spare_34 rfl (lv_at hl 0 rfl) ?_
      refine lv_aload_n hx hb dX8_spare_35 rfl (lv_at hl 1 rfl) ?_
      refine va_get (D := D) (ci := 8) (v := .int nte) (C := RX8) (T := TX8) (N := 38) hx hb hts hi_X8_spare_8 hown hK hP 0 rfl rfl 1 (by decide) (hts (.fieldLink RX8 7 "TheLiningsInItModel" "teeth" "I") (List.mem_of_getElem? (i := 2) rfl)) (fun _ h9 => h9) rfl dX8_spare_36 ?_
      refine lv_icmp_ge (tgt := 135) hx hb dX8_spare_39 (by decide) (fun c_10 => ?_) (fun c_10 => ?_)
      · have fc_10 : nte.toInt ≤ i_34.toInt := zf_le c_10 rfl rfl
        refine lv_aload_n hx hb dX8_spare_135 rfl (lv_at hl 1 rfl) ?_
        refine zc_V (As := []) (rest := []) ⟨hx, hb, hml, hown, hts⟩ (c_F_M_greatest l D cI cJ cZ cP cS po m0 mrf mki mpa mta mla msl mco mhe mso msi msh mce mca mwo mnu mte mwa mke mma mth mtr (npu) (nte) (nat_) (nde) (nto) (nse) (nhu) (nga) (nsd) (nfa) (nba) (npl) (nen) (nnu) (nwr) (nra) (nik) g_8 hy0 hy1 hy2 hy3 hy4 hy5 hy6 hy7 hy8 hy9 hy10 hy11 hy12 hy13) (cwV 0 hts gX8_spare_X8_greatest rfl rfl rfl ⟨rfl, dh_X8_greatest⟩ ⟨Nat.le_of_ble_eq_true rfl, Nat.le_of_ble_eq_true rfl⟩) hK hN (hZ.kept hS) hP (hP.sub [0, 2] rfl) (va_recv (q := (RX8, TX8, 38)) hK hP (ci := 8) (q0 := 0) rfl rfl) rfl hl.1 rfl (Nat.le_of_ble_eq_true rfl) dX8_spare_136 ⟨Nat.le_of_ble_eq_true rfl, Nat.le_of_ble_eq_true rfl⟩ (fun r_11 hr_11 => ?_)
        have hsr_11_0 := hr_11
        exact W.iret (v := r_11) hx hb hr (fun t ht hW => ⟨⟨r_11, (g_8, g_9), rfl, ⟨(show (zHd gla nte.toInt → (r_11 : Int32).toInt = zMx3 (zSp (-100) gla nte.toInt.toNat)) ∧ (¬ zHd gla nte.toInt → (r_11 : Int32).toInt = 0) from by (have h9 : i_34.toInt.toNat = nte.toInt.toNat := (by omega); have z := hvi_34_0; rw [h9] at z; have gr := hsr_11_0; refine ⟨fun _ => ?_, fun h => absurd (hsr_1_0.1 (by omega)) h⟩; unfold zMx3; rw [← z]; exact gr)), trivial⟩, zRet ht hP hD [0, 1, 2, 3] (by decide) rfl⟩, hS.F ht⟩) hS.2.2 dX8_spare_139
      · exfalso; have fc_10 : i_34.toInt < nte.toInt := zf_nle c_10 rfl rfl; omega
    | succ nfu ih =>
      intro i_34 g_9 g_8 H locs ls hP hD hS hl hvi_34_0 hvi_34_1 hloi_34 hni_34
      have hbd := zSp_bd (l := gla) (v := -100) (fun j => hp_gla j) (by omega) i_34.toInt.toNat
      rw [← hvi_34_0] at hbd
      dsimp only at hbd
      refine lv_iload_n hx hb dX8_spare_34 rfl (lv_at hl 0 rfl) ?_
      refine lv_aload_n hx hb dX8_spare_35 rfl (lv_at hl 1 rfl) ?_
      refine va_get (D := D) (ci := 8) (v := .int nte) (C := RX8) (T := TX8) (N := 38) hx hb hts hi_X8_spare_8 hown hK hP 0 rfl rfl 1 (by decide) (hts (.fieldLink RX8 7 "TheLiningsInItModel" "teeth" "I") (List.mem_of_getElem? (i := 2) rfl)) (fun _ h9 => h9) rfl dX8_spare_36 ?_
      refine lv_icmp_ge (tgt := 135) hx hb dX8_spare_39 (by decide) (fun c_12 => ?_) (fun c_12 => ?_)
      · have fc_12 : nte.toInt ≤ i_34.toInt := zf_le c_12 rfl rfl
        refine lv_aload_n hx hb dX8_spare_135 rfl (lv_at hl 1 rfl) ?_
        refine zc_V (As := []) (rest := []) ⟨hx, hb, hml, hown, hts⟩ (c_F_M_greatest l D cI cJ cZ cP cS po m0 mrf mki mpa mta mla msl mco mhe mso msi msh mce mca mwo mnu mte mwa mke mma mth mtr (npu) (nte) (nat_) (nde) (nto) (nse) (nhu) (nga) (nsd) (nfa) (nba) (npl) (nen) (nnu) (nwr) (nra) (nik) g_8 hy0 hy1 hy2 hy3 hy4 hy5 hy6 hy7 hy8 hy9 hy10 hy11 hy12 hy13) (cwV 0 hts gX8_spare_X8_greatest rfl rfl rfl ⟨rfl, dh_X8_greatest⟩ ⟨Nat.le_of_ble_eq_true rfl, Nat.le_of_ble_eq_true rfl⟩) hK hN (hZ.kept hS) hP (hP.sub [0, 2] rfl) (va_recv (q := (RX8, TX8, 38)) hK hP (ci := 8) (q0 := 0) rfl rfl) rfl hl.1 rfl (Nat.le_of_ble_eq_true rfl) dX8_spare_136 ⟨Nat.le_of_ble_eq_true rfl, Nat.le_of_ble_eq_true rfl⟩ (fun r_13 hr_13 => ?_)
        have hsr_13_0 := hr_13
        exact W.iret (v := r_13) hx hb hr (fun t ht hW => ⟨⟨r_13, (g_8, g_9), rfl, ⟨(show (zHd gla nte.toInt → (r_13 : Int32).toInt = zMx3 (zSp (-100) gla nte.toInt.toNat)) ∧ (¬ zHd gla nte.toInt → (r_13 : Int32).toInt = 0) from by (have h9 : i_34.toInt.toNat = nte.toInt.toNat := (by omega); have z := hvi_34_0; rw [h9] at z; have gr := hsr_13_0; refine ⟨fun _ => ?_, fun h => absurd (hsr_1_0.1 (by omega)) h⟩; unfold zMx3; rw [← z]; exact gr)), trivial⟩, zRet ht hP hD [0, 1, 2, 3] (by decide) rfl⟩, hS.F ht⟩) hS.2.2 dX8_spare_139
      · have fc_12 : i_34.toInt < nte.toInt := zf_nle c_12 rfl rfl
        refine lv_iconst (v := 1) hx hb dX8_spare_42 (by decide) ?_
        refine lv_aload_n hx hb dX8_spare_43 rfl (lv_at hl 1 rfl) ?_
        refine va_get (D := D) (ci := 8) (v := .ref mla) (C := RX8) (T := TX8) (N := 38) hx hb hts hi_X8_spare_8 hown hK hP 0 rfl rfl 14 (by decide) (hts (.fieldLink RX8 38 "TheLiningsInItModel" "lacks" "[I") (List.mem_of_getElem? (i := 3) rfl)) (fun _ h9 => h9) rfl dX8_spare_44 ?_
        refine lv_iload_n hx hb dX8_spare_47 rfl (lv_at hl 0 rfl) ?_
        refine va_iald hx hb hK hP 1 0 rfl rfl (zf_in (by omega) (by omega)) dX8_spare_48 ?_
        refine lv_topi (fun x_14 ex_14 => ?_)
        have bx_14 : 0 ≤ x_14.toInt ∧ x_14.toInt ≤ 1 := by rw [ex_14]; exact hp_gla _
        refine lv_isub hx hb dX8_spare_49 ?_
        refine lv_topi (fun x_15 ex_15 => ?_)
        have qx_15 : x_15.toInt = 1 - x_14.toInt := by rw [ex_15]; exact zf_sub (by decide) rfl (by omega) (by omega)
        refine lv_istore_n (lv' := [(2, .int x_15), (1, .int i_34), (0, .ref m0)]) hx hb dX8_spare_50 rfl hl (by decide) rfl (fun ls hl => ?_)
        refine lv_aload_n hx hb dX8_spare_51 rfl (lv_at hl 2 rfl) ?_
        refine va_get (D := D) (ci := 8) (v := .ref mth) (C := RX8) (T := TX8) (N := 38) hx hb hts hi_X8_spare_8 hown hK hP 0 rfl rfl 34 (by decide) (hts (.fieldLink RX8 84 "TheLiningsInItModel" "then" "[I") (List.mem_of_getElem? (i := 4) rfl)) (fun _ h9 => h9) rfl dX8_spare_52 ?_
        refine lv_iconst (v := 0) hx hb dX8_spare_55 (by decide) ?_
        refine lv_aload_n hx hb dX8_spare_56 rfl (lv_at hl 2 rfl) ?_
        refine va_get (D := D) (ci := 8) (v := .ref mla) (C := RX8) (T := TX8) (N := 38) hx hb hts hi_X8_spare_8 hown hK hP 0 rfl rfl 14 (by decide) (hts (.fieldLink RX8 38 "TheLiningsInItModel" "lacks" "[I") (List.mem_of_getElem? (i := 3) rfl)) (fun _ h9 => h9) rfl dX8_spare_57 ?_
        refine lv_iload_n hx hb dX8_spare_60 rfl (lv_at hl 1 rfl) ?_
        refine va_iald hx hb hK hP 1 0 rfl rfl (zf_in (by omega) (by omega)) dX8_spare_61 ?_
        refine lv_topi (fun y_16 ey_16 => ?_)
        obtain rfl : x_14 = y_16 := ex_14.trans ey_16.symm
        refine lv_iconst (v := 1) hx hb dX8_spare_62 (by decide) ?_
        refine lv_icmp_ne (tgt := 71) hx hb dX8_spare_63 (by decide) (fun c_17 => ?_) (fun c_17 => ?_)
        · have fc_17 : x_14.toInt ≠ 1 := zf_ne c_17 rfl (by decide)
          refine lv_aload_n hx hb dX8_spare_71 rfl (lv_at hl 2 rfl) ?_
          refine zc_V (As := []) (rest := [.int 0, .ref mth]) ⟨hx, hb, hml, hown, hts⟩ (c_F_M_greatest l D cI cJ cZ cP cS po m0 mrf mki mpa mta mla msl mco mhe mso msi msh mce mca mwo mnu mte mwa mke mma mth mtr (npu) (nte) (nat_) (nde) (nto) (nse) (nhu) (nga) (nsd) (nfa) (nba) (npl) (nen) (nnu) (nwr) (nra) (nik) g_8 hy0 hy1 hy2 hy3 hy4 hy5 hy6 hy7 hy8 hy9 hy10 hy11 hy12 hy13) (cwV 0 hts gX8_spare_X8_greatest rfl rfl rfl ⟨rfl, dh_X8_greatest⟩ ⟨Nat.le_of_ble_eq_true rfl, Nat.le_of_ble_eq_true rfl⟩) hK hN (hZ.kept hS) hP (hP.sub [0, 2] rfl) (va_recv (q := (RX8, TX8, 38)) hK hP (ci := 8) (q0 := 0) rfl rfl) rfl hl.1 rfl (Nat.le_of_ble_eq_true rfl) dX8_spare_72 ⟨Nat.le_of_ble_eq_true rfl, Nat.le_of_ble_eq_true rfl⟩ (fun r_18 hr_18 => ?_)
          have hsr_18_0 := hr_18
          refine va_iast hx hb hK hP hD hS 3 0 rfl rfl (zf_in (by decide) (by decide)) dX8_spare_75 (fun H locs hP hD hS => ?_)
          obtain ⟨g_19, hg_19⟩ : ∃ g : Nat → Int32, g = upd g_9 (0 : Int32).toNatClampNeg r_18 := ⟨_, rfl⟩
          rw [← hg_19] at hP hD
          have h9R := zRe (ws' := [(zMO m0 npu nte nat_ nde nto nse nhu nga nsd nfa mrf mki mpa mta mla msl mco mhe mso msi msh mce mca mwo mnu mte nba npl nen nnu nwr mwa mke mma mth mtr nra nik), (mla, .inl (cI, 40, .inl gla)), (mma, .inl (cI, 3, .inl g_8)), (mth, .inl (cI, 3, .inl g_19))]) hP hD rfl
          clear hP hD
          obtain ⟨hP, hD⟩ := h9R
          refine lv_aload_n hx hb dX8_spare_76 rfl (lv_at hl 2 rfl) ?_
          refine va_get (D := D) (ci := 8) (v := .ref mth) (C := RX8) (T := TX8) (N := 38) hx hb hts hi_X8_spare_8 hown hK hP 0 rfl rfl 34 (by decide) (hts (.fieldLink RX8 84 "TheLiningsInItModel" "then" "[I") (List.mem_of_getElem? (i := 4) rfl)) (fun _ h9 => h9) rfl dX8_spare_77 ?_
          refine lv_iconst (v := 1) hx hb dX8_spare_80 (by decide) ?_
          refine lv_aload_n hx hb dX8_spare_81 rfl (lv_at hl 2 rfl) ?_
          refine va_get (D := D) (ci := 8) (v := .ref mma) (C := RX8) (T := TX8) (N := 38) hx hb hts hi_X8_spare_8 hown hK hP 0 rfl rfl 33 (by decide) (hts (.fieldLink RX8 81 "TheLiningsInItModel" "may" "[I") (List.mem_of_getElem? (i := 1) rfl)) (fun _ h9 => h9) rfl dX8_spare_82 ?_
          refine lv_iconst (v := 0) hx hb dX8_spare_85 (by decide) ?_
          refine va_iald hx hb hK hP 2 0 rfl rfl (zf_in (by decide) (by decide)) dX8_spare_86 ?_
          refine lv_topi (fun x_20 ex_20 => ?_)
          have bx_20 : -100 ≤ x_20.toInt ∧ x_20.toInt ≤ 40 := by (rw [ex_20, show (0 : Int32).toNatClampNeg = 0 from by decide]; first | omega | skip)
          refine lv_iload_n hx hb dX8_spare_87 rfl (lv_at hl 0 rfl) ?_
          refine lv_iadd hx hb dX8_spare_88 ?_
          refine lv_topi (fun x_21 ex_21 => ?_)
          have qx_21 : x_21.toInt = x_20.toInt + x_15.toInt := by rw [ex_21]; exact zf_add rfl rfl (by omega) (by omega)
          refine va_iast hx hb hK hP hD hS 3 0 rfl rfl (zf_in (by decide) (by decide)) dX8_spare_89 (fun H locs hP hD hS => ?_)
          obtain ⟨g_22, hg_22⟩ : ∃ g : Nat → Int32, g = upd g_19 (1 : Int32).toNatClampNeg x_21 := ⟨_, rfl⟩
          rw [← hg_22] at hP hD
          have h9R := zRe (ws' := [(zMO m0 npu nte nat_ nde nto nse nhu nga nsd nfa mrf mki mpa mta mla msl mco mhe mso msi msh mce mca mwo mnu mte nba npl nen nnu nwr mwa mke mma mth mtr nra nik), (mla, .inl (cI, 40, .inl gla)), (mma, .inl (cI, 3, .inl g_8)), (mth, .inl (cI, 3, .inl g_22))]) hP hD rfl
          clear hP hD
          obtain ⟨hP, hD⟩ := h9R
          refine lv_aload_n hx hb dX8_spare_90 rfl (lv_at hl 2 rfl) ?_
          refine va_get (D := D) (ci := 8) (v := .ref mth) (C := RX8) (T := TX8) (N := 38) hx hb hts hi_X8_spare_8 hown hK hP 0 rfl rfl 34 (by decide) (hts (.fieldLink RX8 84 "TheLiningsInItModel" "then" "[I") (List.mem_of_getElem? (i := 4) rfl)) (fun _ h9 => h9) rfl dX8_spare_91 ?_
          refine lv_iconst (v := 2) hx hb dX8_spare_94 (by decide) ?_
          refine lv_aload_n hx hb dX8_spare_95 rfl (lv_at hl 2 rfl) ?_
          refine va_get (D := D) (ci := 8) (v := .ref mma) (C := RX8) (T := TX8) (N := 38) hx hb hts hi_X8_spare_8 hown hK hP 0 rfl rfl 33 (by decide) (hts (.fieldLink RX8 81 "TheLiningsInItModel" "may" "[I") (List.mem_of_getElem? (i := 1) rfl)) (fun _ h9 => h9) rfl dX8_spare_96 ?_
          refine lv_iconst (v := 1) hx hb dX8_spare_99 (by decide) ?_
          refine va_iald hx hb hK hP 2 0 rfl rfl (zf_in (by decide) (by decide)) dX8_spare_100 ?_
          refine lv_topi (fun x_23 ex_23 => ?_)
          have bx_23 : -100 ≤ x_23.toInt ∧ x_23.toInt ≤ 40 := by (rw [ex_23, show (1 : Int32).toNatClampNeg = 1 from by decide]; first | omega | skip)
          refine lv_iload_n hx hb dX8_spare_101 rfl (lv_at hl 0 rfl) ?_
          refine lv_iadd hx hb dX8_spare_102 ?_
          refine lv_topi (fun x_24 ex_24 => ?_)
          have qx_24 : x_24.toInt = x_23.toInt + x_15.toInt := by rw [ex_24]; exact zf_add rfl rfl (by omega) (by omega)
          refine va_iast hx hb hK hP hD hS 3 0 rfl rfl (zf_in (by decide) (by decide)) dX8_spare_103 (fun H locs hP hD hS => ?_)
          obtain ⟨g_25, hg_25⟩ : ∃ g : Nat → Int32, g = upd g_22 (2 : Int32).toNatClampNeg x_24 := ⟨_, rfl⟩
          rw [← hg_25] at hP hD
          have h9R := zRe (ws' := [(zMO m0 npu nte nat_ nde nto nse nhu nga nsd nfa mrf mki mpa mta mla msl mco mhe mso msi msh mce mca mwo mnu mte nba npl nen nnu nwr mwa mke mma mth mtr nra nik), (mla, .inl (cI, 40, .inl gla)), (mma, .inl (cI, 3, .inl g_8)), (mth, .inl (cI, 3, .inl g_25))]) hP hD rfl
          clear hP hD
          obtain ⟨hP, hD⟩ := h9R
          refine lv_iconst (v := 0) hx hb dX8_spare_104 (by decide) ?_
          refine lv_istore_n (lv' := [(3, .int 0), (2, .int x_15), (1, .int i_34), (0, .ref m0)]) hx hb dX8_spare_105 rfl hl (by decide) rfl (fun ls hl => ?_)
          refine lv_iload_n hx hb dX8_spare_106 rfl (lv_at hl 0 rfl) ?_
          refine lv_iconst (v := 3) hx hb dX8_spare_107 (by decide) ?_
          refine lv_icmp_ge (tgt := 129) hx hb dX8_spare_108 (by decide) (fun c_26 => ?_) (fun c_26 => ?_)
          · exact absurd c_26 (by decide)
          · refine lv_aload_n hx hb dX8_spare_111 rfl (lv_at hl 3 rfl) ?_
            refine va_get (D := D) (ci := 8) (v := .ref mma) (C := RX8) (T := TX8) (N := 38) hx hb hts hi_X8_spare_8 hown hK hP 0 rfl rfl 33 (by decide) (hts (.fieldLink RX8 81 "TheLiningsInItModel" "may" "[I") (List.mem_of_getElem? (i := 1) rfl)) (fun _ h9 => h9) rfl dX8_spare_112 ?_
            refine lv_iload_n hx hb dX8_spare_115 rfl (lv_at hl 0 rfl) ?_
            refine lv_aload_n hx hb dX8_spare_116 rfl (lv_at hl 3 rfl) ?_
            refine va_get (D := D) (ci := 8) (v := .ref mth) (C := RX8) (T := TX8) (N := 38) hx hb hts hi_X8_spare_8 hown hK hP 0 rfl rfl 34 (by decide) (hts (.fieldLink RX8 84 "TheLiningsInItModel" "then" "[I") (List.mem_of_getElem? (i := 4) rfl)) (fun _ h9 => h9) rfl dX8_spare_117 ?_
            refine lv_iload_n hx hb dX8_spare_120 rfl (lv_at hl 0 rfl) ?_
            refine va_iald hx hb hK hP 3 0 rfl rfl (zf_in (by decide) (by decide)) dX8_spare_121 ?_
            refine lv_topi (fun x_27 ex_27 => ?_)
            refine va_iast hx hb hK hP hD hS 2 0 rfl rfl (zf_in (by decide) (by decide)) dX8_spare_122 (fun H locs hP hD hS => ?_)
            obtain ⟨g_28, hg_28⟩ : ∃ g : Nat → Int32, g = upd g_8 (0 : Int32).toNatClampNeg x_27 := ⟨_, rfl⟩
            rw [← hg_28] at hP hD
            have h9R := zRe (ws' := [(zMO m0 npu nte nat_ nde nto nse nhu nga nsd nfa mrf mki mpa mta mla msl mco mhe mso msi msh mce mca mwo mnu mte nba npl nen nnu nwr mwa mke mma mth mtr nra nik), (mla, .inl (cI, 40, .inl gla)), (mma, .inl (cI, 3, .inl g_28)), (mth, .inl (cI, 3, .inl g_25))]) hP hD rfl
            clear hP hD
            obtain ⟨hP, hD⟩ := h9R
            refine lv_iinc (v := 1) (lv' := [(3, .int 1), (2, .int x_15), (1, .int i_34), (0, .ref m0)]) hx hb dX8_spare_123 hl (k := 0) rfl (by decide) (by decide) rfl (fun ls hl => ?_)
            refine lv_goto (tgt := 106) hx hb dX8_spare_126 (by decide) ?_
            refine lv_iload_n hx hb dX8_spare_106 rfl (lv_at hl 0 rfl) ?_
            refine lv_iconst (v := 3) hx hb dX8_spare_107 (by decide) ?_
            refine lv_icmp_ge (tgt := 129) hx hb dX8_spare_108 (by decide) (fun c_29 => ?_) (fun c_29 => ?_)
            · exact absurd c_29 (by decide)
            · refine lv_aload_n hx hb dX8_spare_111 rfl (lv_at hl 3 rfl) ?_
              refine va_get (D := D) (ci := 8) (v := .ref mma) (C := RX8) (T := TX8) (N := 38) hx hb hts hi_X8_spare_8 hown hK hP 0 rfl rfl 33 (by decide) (hts (.fieldLink RX8 81 "TheLiningsInItModel" "may" "[I") (List.mem_of_getElem? (i := 1) rfl)) (fun _ h9 => h9) rfl dX8_spare_112 ?_
              refine lv_iload_n hx hb dX8_spare_115 rfl (lv_at hl 0 rfl) ?_
              refine lv_aload_n hx hb dX8_spare_116 rfl (lv_at hl 3 rfl) ?_
              refine va_get (D := D) (ci := 8) (v := .ref mth) (C := RX8) (T := TX8) (N := 38) hx hb hts hi_X8_spare_8 hown hK hP 0 rfl rfl 34 (by decide) (hts (.fieldLink RX8 84 "TheLiningsInItModel" "then" "[I") (List.mem_of_getElem? (i := 4) rfl)) (fun _ h9 => h9) rfl dX8_spare_117 ?_
              refine lv_iload_n hx hb dX8_spare_120 rfl (lv_at hl 0 rfl) ?_
              refine va_iald hx hb hK hP 3 0 rfl rfl (zf_in (by decide) (by decide)) dX8_spare_121 ?_
              refine lv_topi (fun x_30 ex_30 => ?_)
              refine va_iast hx hb hK hP hD hS 2 0 rfl rfl (zf_in (by decide) (by decide)) dX8_spare_122 (fun H locs hP hD hS => ?_)
              obtain ⟨g_31, hg_31⟩ : ∃ g : Nat → Int32, g = upd g_28 (1 : Int32).toNatClampNeg x_30 := ⟨_, rfl⟩
              rw [← hg_31] at hP hD
              have h9R := zRe (ws' := [(zMO m0 npu nte nat_ nde nto nse nhu nga nsd nfa mrf mki mpa mta mla msl mco mhe mso msi msh mce mca mwo mnu mte nba npl nen nnu nwr mwa mke mma mth mtr nra nik), (mla, .inl (cI, 40, .inl gla)), (mma, .inl (cI, 3, .inl g_31)), (mth, .inl (cI, 3, .inl g_25))]) hP hD rfl
              clear hP hD
              obtain ⟨hP, hD⟩ := h9R
              refine lv_iinc (v := 2) (lv' := [(3, .int 2), (2, .int x_15), (1, .int i_34), (0, .ref m0)]) hx hb dX8_spare_123 hl (k := 0) rfl (by decide) (by decide) rfl (fun ls hl => ?_)
              refine lv_goto (tgt := 106) hx hb dX8_spare_126 (by decide) ?_
              refine lv_iload_n hx hb dX8_spare_106 rfl (lv_at hl 0 rfl) ?_
              refine lv_iconst (v := 3) hx hb dX8_spare_107 (by decide) ?_
              refine lv_icmp_ge (tgt := 129) hx hb dX8_spare_108 (by decide) (fun c_32 => ?_) (fun c_32 => ?_)
              · exact absurd c_32 (by decide)
              · refine lv_aload_n hx hb dX8_spare_111 rfl (lv_at hl 3 rfl) ?_
                refine va_get (D := D) (ci := 8) (v := .ref mma) (C := RX8) (T := TX8) (N := 38) hx hb hts hi_X8_spare_8 hown hK hP 0 rfl rfl 33 (by decide) (hts (.fieldLink RX8 81 "TheLiningsInItModel" "may" "[I") (List.mem_of_getElem? (i := 1) rfl)) (fun _ h9 => h9) rfl dX8_spare_112 ?_
                refine lv_iload_n hx hb dX8_spare_115 rfl (lv_at hl 0 rfl) ?_
                refine lv_aload_n hx hb dX8_spare_116 rfl (lv_at hl 3 rfl) ?_
                refine va_get (D := D) (ci := 8) (v := .ref mth) (C := RX8) (T := TX8) (N := 38) hx hb hts hi_X8_spare_8 hown hK hP 0 rfl rfl 34 (by decide) (hts (.fieldLink RX8 84 "TheLiningsInItModel" "then" "[I") (List.mem_of_getElem? (i := 4) rfl)) (fun _ h9 => h9) rfl dX8_spare_117 ?_
                refine lv_iload_n hx hb dX8_spare_120 rfl (lv_at hl 0 rfl) ?_
                refine va_iald hx hb hK hP 3 0 rfl rfl (zf_in (by decide) (by decide)) dX8_spare_121 ?_
                refine lv_topi (fun x_33 ex_33 => ?_)
                refine va_iast hx hb hK hP hD hS 2 0 rfl rfl (zf_in (by decide) (by decide)) dX8_spare_122 (fun H locs hP hD hS => ?_)
                obtain ⟨g_34, hg_34⟩ : ∃ g : Nat → Int32, g = upd g_31 (2 : Int32).toNatClampNeg x_33 := ⟨_, rfl⟩
                rw [← hg_34] at hP hD
                have h9R := zRe (ws' := [(zMO m0 npu nte nat_ nde nto nse nhu nga nsd nfa mrf mki mpa mta mla msl mco mhe mso msi msh mce mca mwo mnu mte nba npl nen nnu nwr mwa mke mma mth mtr nra nik), (mla, .inl (cI, 40, .inl gla)), (mma, .inl (cI, 3, .inl g_34)), (mth, .inl (cI, 3, .inl g_25))]) hP hD rfl
                clear hP hD
                obtain ⟨hP, hD⟩ := h9R
                refine lv_iinc (v := 3) (lv' := [(3, .int 3), (2, .int x_15), (1, .int i_34), (0, .ref m0)]) hx hb dX8_spare_123 hl (k := 0) rfl (by decide) (by decide) rfl (fun ls hl => ?_)
                refine lv_goto (tgt := 106) hx hb dX8_spare_126 (by decide) ?_
                refine lv_iload_n hx hb dX8_spare_106 rfl (lv_at hl 0 rfl) ?_
                refine lv_iconst (v := 3) hx hb dX8_spare_107 (by decide) ?_
                refine lv_icmp_ge (tgt := 129) hx hb dX8_spare_108 (by decide) (fun c_35 => ?_) (fun c_35 => ?_)
                · obtain ⟨x_36, ex_36⟩ : ∃ y : Int32, y = i_34 + 1 := ⟨_, rfl⟩
                  have qx_36 : x_36.toInt = i_34.toInt + 1 := dw_inc ex_36 fc_12
                  refine lv_iinc (v := x_36) (lv' := [(1, .int x_36), (3, .int 3), (2, .int x_15), (0, .ref m0)]) hx hb dX8_spare_129 hl (k := 2) rfl ex_36.symm (by decide) rfl (fun ls hl => ?_)
                  refine lv_goto (tgt := 34) hx hb dX8_spare_132 (by decide) ?_
                  exact ih x_36 (g_25) (g_34) _ _ _ (hP.sub [0, 1, 2, 3] rfl) (hD.sub [0, 1, 2, 3] (by decide) rfl) hS (lv_sub hl [0, 3] rfl) (show ((g_34 0).toInt, (g_34 1).toInt, (g_34 2).toInt) = zSp (-100) gla x_36.toInt.toNat from by (have n0 : (0 : Int32).toNatClampNeg = 0 := (by decide); have n1 : (1 : Int32).toNatClampNeg = 1 := (by decide); have n2 : (2 : Int32).toNatClampNeg = 2 := (by decide); have h8 : (gla i_34.toInt.toNat).toInt = x_14.toInt := (by rw [ex_14]; rfl); have mx_20 : (g_8 0).toInt = x_20.toInt := (by rw [ex_20, n0]); have mx_23 : (g_8 1).toInt = x_23.toInt := (by rw [ex_23, n1]); have A0 : g_34 0 = (r_18 : Int32) := (by simp [hg_19, hg_22, hg_25, hg_28, hg_31, hg_34, ex_20, ex_23, ex_27, ex_30, ex_33, upd, n0, n1, n2]); have A1 : g_34 1 = (x_21 : Int32) := (by simp [hg_19, hg_22, hg_25, hg_28, hg_31, hg_34, ex_20, ex_23, ex_27, ex_30, ex_33, upd, n0, n1, n2]); have A2 : g_34 2 = (x_24 : Int32) := (by simp [hg_19, hg_22, hg_25, hg_28, hg_31, hg_34, ex_20, ex_23, ex_27, ex_30, ex_33, upd, n0, n1, n2]); have gr := hsr_18_0; obtain ⟨q0, q1, q2⟩ : (zSp (-100) gla i_34.toInt.toNat).1 = _ ∧ (zSp (-100) gla i_34.toInt.toNat).2.1 = _ ∧ (zSp (-100) gla i_34.toInt.toNat).2.2 = _ := ⟨congrArg Prod.fst hvi_34_0.symm, congrArg (fun z => z.2.1) hvi_34_0.symm, congrArg (fun z => z.2.2) hvi_34_0.symm⟩; rw [show x_36.toInt.toNat = i_34.toInt.toNat + 1 from by omega, zSp_s, A0, A1, A2, q0, q1, q2]; have km : ((-100) : Int32).toInt = -100 := (by decide); refine Prod.ext ?_ (Prod.ext ?_ ?_) <;> dsimp only <;> first | (rw [if_pos (by omega)]; omega) | (rw [if_neg (by omega)]; omega) | omega)) (show x_36.toInt ≤ nte.toInt from by omega) (dw_lo hloi_34 qx_36) (dw_hn hni_34 qx_36)
                · exact absurd c_35 (by decide)
        · have fc_17 : x_14.toInt = 1 := zf_eq c_17 rfl (by decide)
          refine lv_bipush (v := (-100)) hx hb dX8_spare_66 (by decide) ?_
          refine lv_goto (tgt := 75) hx hb dX8_spare_68 (by decide) ?_
          refine va_iast hx hb hK hP hD hS 3 0 rfl rfl (zf_in (by decide) (by decide)) dX8_spare_75 (fun H locs hP hD hS => ?_)
          obtain ⟨g_37, hg_37⟩ : ∃ g : Nat → Int32, g = upd g_9 (0 : Int32).toNatClampNeg (-100) := ⟨_, rfl⟩
          rw [← hg_37] at hP hD
          have h9R := zRe (ws' := [(zMO m0 npu nte nat_ nde nto nse nhu nga nsd nfa mrf mki mpa mta mla msl mco mhe mso msi msh mce mca mwo mnu mte nba npl nen nnu nwr mwa mke mma mth mtr nra nik), (mla, .inl (cI, 40, .inl gla)), (mma, .inl (cI, 3, .inl g_8)), (mth, .inl (cI, 3, .inl g_37))]) hP hD rfl
          clear hP hD
          obtain ⟨hP, hD⟩ := h9R
          refine lv_aload_n hx hb dX8_spare_76 rfl (lv_at hl 2 rfl) ?_
          refine va_get (D := D) (ci := 8) (v := .ref mth) (C := RX8) (T := TX8) (N := 38) hx hb hts hi_X8_spare_8 hown hK hP 0 rfl rfl 34 (by decide) (hts (.fieldLink RX8 84 "TheLiningsInItModel" "then" "[I") (List.mem_of_getElem? (i := 4) rfl)) (fun _ h9 => h9) rfl dX8_spare_77 ?_
          refine lv_iconst (v := 1) hx hb dX8_spare_80 (by decide) ?_
          refine lv_aload_n hx hb dX8_spare_81 rfl (lv_at hl 2 rfl) ?_
          refine va_get (D := D) (ci := 8) (v := .ref mma) (C := RX8) (T := TX8) (N := 38) hx hb hts hi_X8_spare_8 hown hK hP 0 rfl rfl 33 (by decide) (hts (.fieldLink RX8 81 "TheLiningsInItModel" "may" "[I") (List.mem_of_getElem? (i := 1) rfl)) (fun _ h9 => h9) rfl dX8_spare_82 ?_
          refine lv_iconst (v := 0) hx hb dX8_spare_85 (by decide) ?_
          refine va_iald hx hb hK hP 2 0 rfl rfl (zf_in (by decide) (by decide)) dX8_spare_86 ?_
          refine lv_topi (fun x_38 ex_38 => ?_)
          have bx_38 : -100 ≤ x_38.toInt ∧ x_38.toInt ≤ 40 := by (rw [ex_38, show (0 : Int32).toNatClampNeg = 0 from by decide]; first | omega | skip)
          refine lv_iload_n hx hb dX8_spare_87 rfl (lv_at hl 0 rfl) ?_
          refine lv_iadd hx hb dX8_spare_88 ?_
          refine lv_topi (fun x_39 ex_39 => ?_)
          have qx_39 : x_39.toInt = x_38.toInt + x_15.toInt := by rw [ex_39]; exact zf_add rfl rfl (by omega) (by omega)
          refine va_iast hx hb hK hP hD hS 3 0 rfl rfl (zf_in (by decide) (by decide)) dX8_spare_89 (fun H locs hP hD hS => ?_)
          obtain ⟨g_40, hg_40⟩ : ∃ g : Nat → Int32, g = upd g_37 (1 : Int32).toNatClampNeg x_39 := ⟨_, rfl⟩
          rw [← hg_40] at hP hD
          have h9R := zRe (ws' := [(zMO m0 npu nte nat_ nde nto nse nhu nga nsd nfa mrf mki mpa mta mla msl mco mhe mso msi msh mce mca mwo mnu mte nba npl nen nnu nwr mwa mke mma mth mtr nra nik), (mla, .inl (cI, 40, .inl gla)), (mma, .inl (cI, 3, .inl g_8)), (mth, .inl (cI, 3, .inl g_40))]) hP hD rfl
          clear hP hD
          obtain ⟨hP, hD⟩ := h9R
          refine lv_aload_n hx hb dX8_spare_90 rfl (lv_at hl 2 rfl) ?_
          refine va_get (D := D) (ci := 8) (v := .ref mth) (C := RX8) (T := TX8) (N := 38) hx hb hts hi_X8_spare_8 hown hK hP 0 rfl rfl 34 (by decide) (hts (.fieldLink RX8 84 "TheLiningsInItModel" "then" "[I") (List.mem_of_getElem? (i := 4) rfl)) (fun _ h9 => h9) rfl dX8_spare_91 ?_
          refine lv_iconst (v := 2) hx hb dX8_spare_94 (by decide) ?_
          refine lv_aload_n hx hb dX8_spare_95 rfl (lv_at hl 2 rfl) ?_
          refine va_get (D := D) (ci := 8) (v := .ref mma) (C := RX8) (T := TX8) (N := 38) hx hb hts hi_X8_spare_8 hown hK hP 0 rfl rfl 33 (by decide) (hts (.fieldLink RX8 81 "TheLiningsInItModel" "may" "[I") (List.mem_of_getElem? (i := 1) rfl)) (fun _ h9 => h9) rfl dX8_spare_96 ?_
          refine lv_iconst (v := 1) hx hb dX8_spare_99 (by decide) ?_
          refine va_iald hx hb hK hP 2 0 rfl rfl (zf_in (by decide) (by decide)) dX8_spare_100 ?_
          refine lv_topi (fun x_41 ex_41 => ?_)
          have bx_41 : -100 ≤ x_41.toInt ∧ x_41.toInt ≤ 40 := by (rw [ex_41, show (1 : Int32).toNatClampNeg = 1 from by decide]; first | omega | skip)
          refine lv_iload_n hx hb dX8_spare_101 rfl (lv_at hl 0 rfl) ?_
          refine lv_iadd hx hb dX8_spare_102 ?_
          refine lv_topi (fun x_42 ex_42 => ?_)
          have qx_42 : x_42.toInt = x_41.toInt + x_15.toInt := by rw [ex_42]; exact zf_add rfl rfl (by omega) (by omega)
          refine va_iast hx hb hK hP hD hS 3 0 rfl rfl (zf_in (by decide) (by decide)) dX8_spare_103 (fun H locs hP hD hS => ?_)
          obtain ⟨g_43, hg_43⟩ : ∃ g : Nat → Int32, g = upd g_40 (2 : Int32).toNatClampNeg x_42 := ⟨_, rfl⟩
          rw [← hg_43] at hP hD
          have h9R := zRe (ws' := [(zMO m0 npu nte nat_ nde nto nse nhu nga nsd nfa mrf mki mpa mta mla msl mco mhe mso msi msh mce mca mwo mnu mte nba npl nen nnu nwr mwa mke mma mth mtr nra nik), (mla, .inl (cI, 40, .inl gla)), (mma, .inl (cI, 3, .inl g_8)), (mth, .inl (cI, 3, .inl g_43))]) hP hD rfl
          clear hP hD
          obtain ⟨hP, hD⟩ := h9R
          refine lv_iconst (v := 0) hx hb dX8_spare_104 (by decide) ?_
          refine lv_istore_n (lv' := [(3, .int 0), (2, .int x_15), (1, .int i_34), (0, .ref m0)]) hx hb dX8_spare_105 rfl hl (by decide) rfl (fun ls hl => ?_)
          refine lv_iload_n hx hb dX8_spare_106 rfl (lv_at hl 0 rfl) ?_
          refine lv_iconst (v := 3) hx hb dX8_spare_107 (by decide) ?_
          refine lv_icmp_ge (tgt := 129) hx hb dX8_spare_108 (by decide) (fun c_44 => ?_) (fun c_44 => ?_)
          · exact absurd c_44 (by decide)
          · refine lv_aload_n hx hb dX8_spare_111 rfl (lv_at hl 3 rfl) ?_
            refine va_get (D := D) (ci := 8) (v := .ref mma) (C := RX8) (T := TX8) (N := 38) hx hb hts hi_X8_spare_8 hown hK hP 0 rfl rfl 33 (by decide) (hts (.fieldLink RX8 81 "TheLiningsInItModel" "may" "[I") (List.mem_of_getElem? (i := 1) rfl)) (fun _ h9 => h9) rfl dX8_spare_112 ?_
            refine lv_iload_n hx hb dX8_spare_115 rfl (lv_at hl 0 rfl) ?_
            refine lv_aload_n hx hb dX8_spare_116 rfl (lv_at hl 3 rfl) ?_
            refine va_get (D := D) (ci := 8) (v := .ref mth) (C := RX8) (T := TX8) (N := 38) hx hb hts hi_X8_spare_8 hown hK hP 0 rfl rfl 34 (by decide) (hts (.fieldLink RX8 84 "TheLiningsInItModel" "then" "[I") (List.mem_of_getElem? (i := 4) rfl)) (fun _ h9 => h9) rfl dX8_spare_117 ?_
            refine lv_iload_n hx hb dX8_spare_120 rfl (lv_at hl 0 rfl) ?_
            refine va_iald hx hb hK hP 3 0 rfl rfl (zf_in (by decide) (by decide)) dX8_spare_121 ?_
            refine lv_topi (fun x_45 ex_45 => ?_)
            refine va_iast hx hb hK hP hD hS 2 0 rfl rfl (zf_in (by decide) (by decide)) dX8_spare_122 (fun H locs hP hD hS => ?_)
            obtain ⟨g_46, hg_46⟩ : ∃ g : Nat → Int32, g = upd g_8 (0 : Int32).toNatClampNeg x_45 := ⟨_, rfl⟩
            rw [← hg_46] at hP hD
            have h9R := zRe (ws' := [(zMO m0 npu nte nat_ nde nto nse nhu nga nsd nfa mrf mki mpa mta mla msl mco mhe mso msi msh mce mca mwo mnu mte nba npl nen nnu nwr mwa mke mma mth mtr nra nik), (mla, .inl (cI, 40, .inl gla)), (mma, .inl (cI, 3, .inl g_46)), (mth, .inl (cI, 3, .inl g_43))]) hP hD rfl
            clear hP hD
            obtain ⟨hP, hD⟩ := h9R
            refine lv_iinc (v := 1) (lv' := [(3, .int 1), (2, .int x_15), (1, .int i_34), (0, .ref m0)]) hx hb dX8_spare_123 hl (k := 0) rfl (by decide) (by decide) rfl (fun ls hl => ?_)
            refine lv_goto (tgt := 106) hx hb dX8_spare_126 (by decide) ?_
            refine lv_iload_n hx hb dX8_spare_106 rfl (lv_at hl 0 rfl) ?_
            refine lv_iconst (v := 3) hx hb dX8_spare_107 (by decide) ?_
            refine lv_icmp_ge (tgt := 129) hx hb dX8_spare_108 (by decide) (fun c_47 => ?_) (fun c_47 => ?_)
            · exact absurd c_47 (by decide)
            · refine lv_aload_n hx hb dX8_spare_111 rfl (lv_at hl 3 rfl) ?_
              refine va_get (D := D) (ci := 8) (v := .ref mma) (C := RX8) (T := TX8) (N := 38) hx hb hts hi_X8_spare_8 hown hK hP 0 rfl rfl 33 (by decide) (hts (.fieldLink RX8 81 "TheLiningsInItModel" "may" "[I") (List.mem_of_getElem? (i := 1) rfl)) (fun _ h9 => h9) rfl dX8_spare_112 ?_
              refine lv_iload_n hx hb dX8_spare_115 rfl (lv_at hl 0 rfl) ?_
              refine lv_aload_n hx hb dX8_spare_116 rfl (lv_at hl 3 rfl) ?_
              refine va_get (D := D) (ci := 8) (v := .ref mth) (C := RX8) (T := TX8) (N := 38) hx hb hts hi_X8_spare_8 hown hK hP 0 rfl rfl 34 (by decide) (hts (.fieldLink RX8 84 "TheLiningsInItModel" "then" "[I") (List.mem_of_getElem? (i := 4) rfl)) (fun _ h9 => h9) rfl dX8_spare_117 ?_
              refine lv_iload_n hx hb dX8_spare_120 rfl (lv_at hl 0 rfl) ?_
              refine va_iald hx hb hK hP 3 0 rfl rfl (zf_in (by decide) (by decide)) dX8_spare_121 ?_
              refine lv_topi (fun x_48 ex_48 => ?_)
              refine va_iast hx hb hK hP hD hS 2 0 rfl rfl (zf_in (by decide) (by decide)) dX8_spare_122 (fun H locs hP hD hS => ?_)
              obtain ⟨g_49, hg_49⟩ : ∃ g : Nat → Int32, g = upd g_46 (1 : Int32).toNatClampNeg x_48 := ⟨_, rfl⟩
              rw [← hg_49] at hP hD
              have h9R := zRe (ws' := [(zMO m0 npu nte nat_ nde nto nse nhu nga nsd nfa mrf mki mpa mta mla msl mco mhe mso msi msh mce mca mwo mnu mte nba npl nen nnu nwr mwa mke mma mth mtr nra nik), (mla, .inl (cI, 40, .inl gla)), (mma, .inl (cI, 3, .inl g_49)), (mth, .inl (cI, 3, .inl g_43))]) hP hD rfl
              clear hP hD
              obtain ⟨hP, hD⟩ := h9R
              refine lv_iinc (v := 2) (lv' := [(3, .int 2), (2, .int x_15), (1, .int i_34), (0, .ref m0)]) hx hb dX8_spare_123 hl (k := 0) rfl (by decide) (by decide) rfl (fun ls hl => ?_)
              refine lv_goto (tgt := 106) hx hb dX8_spare_126 (by decide) ?_
              refine lv_iload_n hx hb dX8_spare_106 rfl (lv_at hl 0 rfl) ?_
              refine lv_iconst (v := 3) hx hb dX8_spare_107 (by decide) ?_
              refine lv_icmp_ge (tgt := 129) hx hb dX8_spare_108 (by decide) (fun c_50 => ?_) (fun c_50 => ?_)
              · exact absurd c_50 (by decide)
              · refine lv_aload_n hx hb dX8_spare_111 rfl (lv_at hl 3 rfl) ?_
                refine va_get (D := D) (ci := 8) (v := .ref mma) (C := RX8) (T := TX8) (N := 38) hx hb hts hi_X8_spare_8 hown hK hP 0 rfl rfl 33 (by decide) (hts (.fieldLink RX8 81 "TheLiningsInItModel" "may" "[I") (List.mem_of_getElem? (i := 1) rfl)) (fun _ h9 => h9) rfl dX8_spare_112 ?_
                refine lv_iload_n hx hb dX8_spare_115 rfl (lv_at hl 0 rfl) ?_
                refine lv_aload_n hx hb dX8_spare_116 rfl (lv_at hl 3 rfl) ?_
                refine va_get (D := D) (ci := 8) (v := .ref mth) (C := RX8) (T := TX8) (N := 38) hx hb hts hi_X8_spare_8 hown hK hP 0 rfl rfl 34 (by decide) (hts (.fieldLink RX8 84 "TheLiningsInItModel" "then" "[I") (List.mem_of_getElem? (i := 4) rfl)) (fun _ h9 => h9) rfl dX8_spare_117 ?_
                refine lv_iload_n hx hb dX8_spare_120 rfl (lv_at hl 0 rfl) ?_
                refine va_iald hx hb hK hP 3 0 rfl rfl (zf_in (by decide) (by decide)) dX8_spare_121 ?_
                refine lv_topi (fun x_51 ex_51 => ?_)
                refine va_iast hx hb hK hP hD hS 2 0 rfl rfl (zf_in (by decide) (by decide)) dX8_spare_122 (fun H locs hP hD hS => ?_)
                obtain ⟨g_52, hg_52⟩ : ∃ g : Nat → Int32, g = upd g_49 (2 : Int32).toNatClampNeg x_51 := ⟨_, rfl⟩
                rw [← hg_52] at hP hD
                have h9R := zRe (ws' := [(zMO m0 npu nte nat_ nde nto nse nhu nga nsd nfa mrf mki mpa mta mla msl mco mhe mso msi msh mce mca mwo mnu mte nba npl nen nnu nwr mwa mke mma mth mtr nra nik), (mla, .inl (cI, 40, .inl gla)), (mma, .inl (cI, 3, .inl g_52)), (mth, .inl (cI, 3, .inl g_43))]) hP hD rfl
                clear hP hD
                obtain ⟨hP, hD⟩ := h9R
                refine lv_iinc (v := 3) (lv' := [(3, .int 3), (2, .int x_15), (1, .int i_34), (0, .ref m0)]) hx hb dX8_spare_123 hl (k := 0) rfl (by decide) (by decide) rfl (fun ls hl => ?_)
                refine lv_goto (tgt := 106) hx hb dX8_spare_126 (by decide) ?_
                refine lv_iload_n hx hb dX8_spare_106 rfl (lv_at hl 0 rfl) ?_
                refine lv_iconst (v := 3) hx hb dX8_spare_107 (by decide) ?_
                refine lv_icmp_ge (tgt := 129) hx hb dX8_spare_108 (by decide) (fun c_53 => ?_) (fun c_53 => ?_)
                · obtain ⟨x_54, ex_54⟩ : ∃ y : Int32, y = i_34 + 1 := ⟨_, rfl⟩
                  have qx_54 : x_54.toInt = i_34.toInt + 1 := dw_inc ex_54 fc_12
                  refine lv_iinc (v := x_54) (lv' := [(1, .int x_54), (3, .int 3), (2, .int x_15), (0, .ref m0)]) hx hb dX8_spare_129 hl (k := 2) rfl ex_54.symm (by decide) rfl (fun ls hl => ?_)
                  refine lv_goto (tgt := 34) hx hb dX8_spare_132 (by decide) ?_
                  exact ih x_54 (g_43) (g_52) _ _ _ (hP.sub [0, 1, 2, 3] rfl) (hD.sub [0, 1, 2, 3] (by decide) rfl) hS (lv_sub hl [0, 3] rfl) (show ((g_52 0).toInt, (g_52 1).toInt, (g_52 2).toInt) = zSp (-100) gla x_54.toInt.toNat from by (have n0 : (0 : Int32).toNatClampNeg = 0 := (by decide); have n1 : (1 : Int32).toNatClampNeg = 1 := (by decide); have n2 : (2 : Int32).toNatClampNeg = 2 := (by decide); have h8 : (gla i_34.toInt.toNat).toInt = x_14.toInt := (by rw [ex_14]; rfl); have mx_38 : (g_8 0).toInt = x_38.toInt := (by rw [ex_38, n0]); have mx_41 : (g_8 1).toInt = x_41.toInt := (by rw [ex_41, n1]); have A0 : g_52 0 = ((-100) : Int32) := (by simp [hg_37, hg_40, hg_43, hg_46, hg_49, hg_52, ex_38, ex_41, ex_45, ex_48, ex_51, upd, n0, n1, n2]); have A1 : g_52 1 = (x_39 : Int32) := (by simp [hg_37, hg_40, hg_43, hg_46, hg_49, hg_52, ex_38, ex_41, ex_45, ex_48, ex_51, upd, n0, n1, n2]); have A2 : g_52 2 = (x_42 : Int32) := (by simp [hg_37, hg_40, hg_43, hg_46, hg_49, hg_52, ex_38, ex_41, ex_45, ex_48, ex_51, upd, n0, n1, n2]); obtain ⟨q0, q1, q2⟩ : (zSp (-100) gla i_34.toInt.toNat).1 = _ ∧ (zSp (-100) gla i_34.toInt.toNat).2.1 = _ ∧ (zSp (-100) gla i_34.toInt.toNat).2.2 = _ := ⟨congrArg Prod.fst hvi_34_0.symm, congrArg (fun z => z.2.1) hvi_34_0.symm, congrArg (fun z => z.2.2) hvi_34_0.symm⟩; rw [show x_54.toInt.toNat = i_34.toInt.toNat + 1 from by omega, zSp_s, A0, A1, A2, q0, q1, q2]; have km : ((-100) : Int32).toInt = -100 := (by decide); refine Prod.ext ?_ (Prod.ext ?_ ?_) <;> dsimp only <;> first | (rw [if_pos (by omega)]; omega) | (rw [if_neg (by omega)]; omega) | omega)) (show x_54.toInt ≤ nte.toInt from by omega) (dw_lo hloi_34 qx_54) (dw_hn hni_34 qx_54)
                · exact absurd c_53 (by decide)
  · have fc_4 : r_1.toInt = 0 := zf_eq c_4 rfl (by decide)
    refine lv_iconst (v := 0) hx hb dX8_spare_7 (by decide) ?_
    exact W.iret (v := 0) hx hb hr (fun t ht hW => ⟨⟨0, (gma, gth), rfl, ⟨(show (zHd gla nte.toInt → (0 : Int32).toInt = zMx3 (zSp (-100) gla nte.toInt.toNat)) ∧ (¬ zHd gla nte.toInt → (0 : Int32).toInt = 0) from by (have k9 : (0 : Int32).toInt = 0 := (by decide); exact ⟨fun h => absurd h (hsr_1_0.2 (by omega)), fun _ => by omega⟩)), trivial⟩, zRet ht hP hD [0, 1, 2, 3] (by decide) rfl⟩, hS.F ht⟩) hS.2.2 dX8_spare_8
set_option maxHeartbeats 4000000 in
set_option maxRecDepth 100000 in
theorem c_F_M_stitches (l : Launch) (D : va_G) (cI cJ cZ cP cS : ClassId) (po : zPool) (m0 mrf mki mpa mta mla msl mco mhe mso msi msh mce mca mwo mnu mte mwa mke mma mth mtr : Nat) (npu nte nat_ nde nto nse nhu nga nsd nfa nba npl nen nnu nwr nra nik : Int32) (grf gla gsl : Nat → Int32) (i : Int32) (hy0 : 0 ≤ npu.toInt) (hy1 : npu.toInt ≤ 8) (hy2 : 4 ≤ nte.toInt) (hy3 : nte.toInt ≤ 40) (hy4 : 0 ≤ nat_.toInt) (hy5 : nat_.toInt ≤ 40) (hy6 : 0 ≤ nde.toInt) (hy7 : nde.toInt ≤ 24) (hy8 : 0 ≤ nhu.toInt) (hy9 : nhu.toInt ≤ 9) (hy10 : 0 ≤ nra.toInt) (hy11 : nra.toInt ≤ 2000) (hy12 : 0 ≤ nik.toInt) (hy13 : nik.toInt ≤ 1) (hp_gla : zRg gla (0) 1) (hp_gsl : zRg gsl (0) 9) (hpz : Nat) : Met l yX8_stitches wsX8_stitches ({ frames := 1, cells := 0, slots := 0, locals := 21 }) (va_Pc [.ref m0, .int i] (zW D (zKT cI cJ cZ cP cS) po [(zMO m0 npu nte nat_ nde nto nse nhu nga nsd nfa mrf mki mpa mta mla msl mco mhe mso msi msh mce mca mwo mnu mte nba npl nen nnu nwr mwa mke mma mth mtr nra nik), (mrf, .inl (cI, 8, .inl grf)), (mla, .inl (cI, 40, .inl gla)), (msl, .inl (cI, 40, .inl gsl))] hpz)) (va_Qi (fun (r : Int32) (grf2 : (Nat → Int32)) => ((i.toInt < -1 → r.toInt = -5) ∧ (-1 ≤ i.toInt → ∃ q : Int, zSti gla gsl nga.toInt nte.toInt i.toInt q ∧ r.toInt = (if q = -1 then -5 else q))) ∧ (True)) (zB D [(zMO m0 npu nte nat_ nde nto nse nhu nga nsd nfa mrf mki mpa mta mla msl mco mhe mso msi msh mce mca mwo mnu mte nba npl nen nnu nwr mwa mke mma mth mtr nra nik), (mrf, .inl (cI, 8, .inl grf)), (mla, .inl (cI, 40, .inl gla)), (msl, .inl (cI, 40, .inl gsl))] hpz (fun (grf2 : Nat → Int32) => [(zMO m0 npu nte nat_ nde nto nse nhu nga nsd nfa mrf mki mpa mta mla msl mco mhe mso msi msh mce mca mwo mnu mte nba npl nen nnu nwr mwa mke mma mth mtr nra nik), (mrf, .inl (cI, 8, .inl grf2)), (mla, .inl (cI, 40, .inl gla)), (msl, .inl (cI, 40, .inl gsl))])) (va_A [(zMO m0 npu nte nat_ nde nto nse nhu nga nsd nfa mrf mki mpa mta mla msl mco mhe mso msi msh mce mca mwo mnu mte nba npl nen nnu nwr mwa mke mma mth mtr nra nik), (mrf, .inl (cI, 8, .inl grf)), (mla, .inl (cI, 40, .inl gla)), (msl, .inl (cI, 40, .inl gsl))] hpz)) 0 0 (va_A [(zMO m0 npu nte nat_ nde nto nse nhu nga nsd nfa mrf mki mpa mta mla msl mco mhe mso msi msh mce mca mwo mnu mte nba npl nen nnu nwr mwa mke mma mth mtr nra nik), (mrf, .inl (cI, 8, .inl grf)), (mla, .inl (cI, 40, .inl gla)), (msl, .inl (cI, 40, .inl gsl))] hpz) := by
  refine Met.ofW (cc := cX8_stitches) (maxL := 4) (ret := (some .int)) (by decide) rfl ?_
  intro p e s m args below meth c s₁ B hml hv
  obtain ⟨rfl, hsz, hP, hK, hD0, hN, hZ⟩ := hv
  have hx := B.exec
  have hb := B.bytes
  have hr := B.returns
  have hts := atoms_spec (ws := wsX8_stitches) B.pre
  have hown : s.vm.findClass RX8 = some m.cls := findClass_of_methodNamed B.named
  have hlocks := B.notSynchronized
  subst hsz
  have hD := hD0.self (sz := s.heap.size)
  have hA := zA_of hD
  have hl := lv_entry ([.ref m0, .int i]) (n := 4) (Nat.le_of_ble_eq_true rfl)
  rw [lg_entry_eq]
  generalize (lg_sl ([.ref m0, .int i]) ++ List.replicate (4 - (lg_sl ([.ref m0, .int i])).length) Slot.unset).toArray = ls at hl ⊢
  replace hl : lv_has ls 4 [(0, .ref m0), (1, .int i)] := hl
  refine zw_begin hP hD (fun H locs hP1 hS => ?_)
  clear hP
  have hP := hP1
  clear hP1
  refine lv_iload_n hx hb dX8_stitches_0 rfl (lv_at hl 1 rfl) ?_
  refine lv_iconst (v := (-1)) hx hb dX8_stitches_1 (by decide) ?_
  refine lv_icmp_ge (tgt := 12) hx hb dX8_stitches_2 (by decide) (fun c_1 => ?_) (fun c_1 => ?_)
  · have fc_1 : (-1) ≤ i.toInt := zf_le c_1 (by decide) rfl
    refine lv_iconst (v := 0) hx hb dX8_stitches_12 (by decide) ?_
    refine lv_istore_n (lv' := [(2, .int 0), (0, .ref m0), (1, .int i)]) hx hb dX8_stitches_13 rfl hl (by decide) rfl (fun ls hl => ?_)
    refine lv_iconst (v := 0) hx hb dX8_stitches_14 (by decide) ?_
    refine lv_istore_n (lv' := [(3, .int 0), (2, .int 0), (0, .ref m0), (1, .int i)]) hx hb dX8_stitches_15 rfl hl (by decide) rfl (fun ls hl => ?_)
    obtain ⟨i_16, hi_16⟩ : ∃ i : Int32, i = 0 := ⟨_, rfl⟩
    replace hl : lv_has ls 4 [(3, .int i_16), (2, .int 0), (0, .ref m0), (1, .int i)] := by rw [hi_16]; exact lv_sub hl [0, 1, 2, 3] rfl
    have h1i_16 : i_16.toInt = 0 := by rw [hi_16]; decide
    obtain ⟨nfu, hni_16⟩ : ∃ nq9 : Nat, nte.toInt ≤ i_16.toInt + (nq9 : Int) := ⟨((nte.toInt : Int) - 0).toNat, by omega⟩
    have hloi_16 : 0 ≤ i_16.toInt := by omega
    obtain ⟨v_2, hv_2⟩ : ∃ g : Int32, g = 0 := ⟨_, rfl⟩
    replace hl : lv_has ls 4 [(3, .int i_16), (2, .int v_2), (0, .ref m0), (1, .int i)] := by rw [hv_2]; exact hl
    have hbv_2 : 0 ≤ v_2.toInt ∧ v_2.toInt ≤ 40 := by rw [hv_2]; exact ⟨by decide, by decide⟩
    have hvi_16_0 : (zSg gla gsl nga.toInt nte.toInt (min i_16.toInt nte.toInt).toNat).1 = (v_2 : Int32).toInt ∧ (i_16.toInt < nte.toInt → (zSg gla gsl nga.toInt nte.toInt (min i_16.toInt nte.toInt).toNat).2 ≤ i_16.toInt) := by
      (try rw [hi_16]); (try rw [hv_2]); (have u9 : (min (0 : Int32).toInt nte.toInt).toNat = 0 := (by have k0 : (0 : Int32).toInt = 0 := (by decide); omega); rw [u9]; exact ⟨(show (0 : Int) = (0 : Int32).toInt from by decide), fun _ => (show (0 : Int) ≤ (0 : Int32).toInt from by decide)⟩)
    have hvi_16_1 : (∀ u : Nat, (u : Int) < min i_16.toInt nte.toInt → zSgA gla gsl nga.toInt nte.toInt u → (zSg gla gsl nga.toInt nte.toInt u).1 ≠ i.toInt) := by
      (try rw [hi_16]); (try rw [hv_2]); (intro u h1 h2; exfalso; have k0 : (0 : Int32).toInt = 0 := (by decide); omega)
    have hvi_16_2 : (v_2 : Int32).toInt ≤ i_16.toInt ∧ 5 * (v_2 : Int32).toInt ≤ i_16.toInt + 4 := by
      (try rw [hi_16]); (try rw [hv_2]); first | omega | decide
    have hvi_16_3 : i_16.toInt ≤ nte.toInt + 4 := by
      (try rw [hi_16]); (try rw [hv_2]); (have k0 : (0 : Int32).toInt = 0 := (by decide); omega)
    clear h1i_16 hi_16 hv_2
    skip
    revert hni_16
    revert hloi_16
    revert hvi_16_3
    revert hvi_16_2
    revert hvi_16_1
    revert hvi_16_0
    revert hbv_2
    revert hl
    revert hS
    revert hD
    revert hP
    revert ls
    revert locs
    revert H
    revert v_2
    revert i_16
    induction nfu with
    | zero =>
      intro i_16 v_2 H locs ls hP hD hS hl hbv_2 hvi_16_0 hvi_16_1 hvi_16_2 hvi_16_3 hloi_16 hni_16
      have hzi_16 : nte.toInt ≤ i_16.toInt := by omega
      refine lv_iload_n hx hb dX8_stitches_16 rfl (lv_at hl 0 rfl) ?_
      refine lv_aload_n hx hb dX8_stitches_17 rfl (lv_at hl 2 rfl) ?_
      refine va_get (D := D) (ci := 8) (v := .int nte) (C := RX8) (T := TX8) (N := 38) hx hb hts hi_X8_stitches_8 hown hK hP 0 rfl rfl 1 (by decide) (hts (.fieldLink RX8 7 "TheLiningsInItModel" "teeth" "I") (List.mem_of_getElem? (i := 1) rfl)) (fun _ h9 => h9) rfl dX8_stitches_18 ?_
      refine lv_icmp_ge (tgt := 75) hx hb dX8_stitches_21 (by decide) (fun c_3 => ?_) (fun c_3 => ?_)
      · have fc_3 : nte.toInt ≤ i_16.toInt := zf_le c_3 rfl rfl
        refine lv_iload_n hx hb dX8_stitches_75 rfl (lv_at hl 3 rfl) ?_
        refine lv_iconst (v := (-1)) hx hb dX8_stitches_76 (by decide) ?_
        refine lv_icmp_ne (tgt := 84) hx hb dX8_stitches_77 (by decide) (fun c_4 => ?_) (fun c_4 => ?_)
        · have fc_4 : i.toInt ≠ (-1) := zf_ne c_4 rfl (by decide)
          refine lv_aload_n hx hb dX8_stitches_84 rfl (lv_at hl 2 rfl) ?_
          refine lv_bipush (v := (-5)) hx hb dX8_stitches_85 (by decide) ?_
          skip
          refine zw_V (As := [.int (-5)]) (rest := []) (wr := [(mla, .inl (cI, 40, .inl gla)), (msl, .inl (cI, 40, .inl gsl))]) ⟨hx, hb, hml, hown, hts⟩ (c_M_no_5 l D cI cJ cZ cP cS po m0 mrf mki mpa mta mla msl mco mhe mso msi msh mce mca mwo mnu mte mwa mke mma mth mtr (npu) (nte) (nat_) (nde) (nto) (nse) (nhu) (nga) (nsd) (nfa) (nba) (npl) (nen) (nnu) (nwr) (nra) (nik) grf hy0 hy1 hy2 hy3 hy4 hy5 hy6 hy7 hy8 hy9 hy10 hy11 hy12 hy13 H.size) (cwV 1 hts gX8_stitches_X8_no rfl rfl rfl ⟨rfl, dh_X8_no⟩ ⟨Nat.le_of_ble_eq_true rfl, Nat.le_of_ble_eq_true rfl⟩) hK hN (hZ.kept hS) hP hD hS hA [0, 1] [2, 3] rfl rfl (by decide) (by decide) (by decide) (va_recv (q := (RX8, TX8, 38)) hK hP (ci := 8) (q0 := 0) rfl rfl) rfl hl.1 rfl (Nat.le_of_ble_eq_true rfl) dX8_stitches_87 ⟨Nat.le_of_ble_eq_true rfl, Nat.le_of_ble_eq_true rfl⟩ (fun r_5 u_6 H locs hr_5 hP hD hS => ?_)
          obtain ⟨q_7, rfl⟩ : ∃ z, z = u_6 := ⟨_, rfl⟩
          have h9R := zRe (ws' := [(mla, .inl (cI, 40, .inl gla)), (msl, .inl (cI, 40, .inl gsl)), (zMO m0 npu nte nat_ nde nto nse nhu nga nsd nfa mrf mki mpa mta mla msl mco mhe mso msi msh mce mca mwo mnu mte nba npl nen nnu nwr mwa mke mma mth mtr nra nik), (mrf, .inl (cI, 8, .inl q_7))]) hP hD rfl
          clear hP hD
          obtain ⟨hP, hD⟩ := h9R
          obtain rfl := hr_5
          exact W.iret (v := (-5)) hx hb hr (fun t ht hW => ⟨⟨(-5), q_7, rfl, ⟨(show (i.toInt < -1 → ((-5) : Int32).toInt = -5) ∧ (-1 ≤ i.toInt → ∃ q : Int, zSti gla gsl nga.toInt nte.toInt i.toInt q ∧ ((-5) : Int32).toInt = (if q = -1 then -5 else q)) from by (have km : ((-5) : Int32).toInt = -5 := (by decide); refine ⟨fun h => by (exfalso; omega), fun _ => ?_⟩; obtain ⟨w0, w1⟩ := hvi_16_0; have h9 : (min i_16.toInt nte.toInt).toNat = nte.toInt.toNat := (by omega); rw [h9] at w0; first | (refine ⟨(-5).toInt, Or.inr ⟨fun t h1 h2 => hvi_16_1 t (by omega) h2, ?_⟩, ?_⟩; (rw [if_pos (by omega)]; omega); (rw [if_neg (by omega)])) | (refine ⟨-1, Or.inr ⟨fun t h1 h2 => hvi_16_1 t (by omega) h2, ?_⟩, ?_⟩; (rw [if_neg (by omega)]); (rw [if_pos rfl]; first | exact km | omega)))), trivial⟩, zRet ht hP hD [2, 3, 0, 1] (by decide) rfl⟩, hS.F ht⟩) hS.2.2 dX8_stitches_90
        · have fc_4 : i.toInt = (-1) := zf_eq c_4 rfl (by decide)
          refine lv_iload_n hx hb dX8_stitches_80 rfl (lv_at hl 1 rfl) ?_
          refine lv_goto (tgt := 90) hx hb dX8_stitches_81 (by decide) ?_
          exact W.iret (v := v_2) hx hb hr (fun t ht hW => ⟨⟨v_2, grf, rfl, ⟨(show (i.toInt < -1 → (v_2 : Int32).toInt = -5) ∧ (-1 ≤ i.toInt → ∃ q : Int, zSti gla gsl nga.toInt nte.toInt i.toInt q ∧ (v_2 : Int32).toInt = (if q = -1 then -5 else q)) from by (have km : ((-5) : Int32).toInt = -5 := (by decide); refine ⟨fun h => by (exfalso; omega), fun _ => ?_⟩; obtain ⟨w0, w1⟩ := hvi_16_0; have h9 : (min i_16.toInt nte.toInt).toNat = nte.toInt.toNat := (by omega); rw [h9] at w0; first | (refine ⟨v_2.toInt, Or.inr ⟨fun t h1 h2 => hvi_16_1 t (by omega) h2, ?_⟩, ?_⟩; (rw [if_pos (by omega)]; omega); (rw [if_neg (by omega)])) | (refine ⟨-1, Or.inr ⟨fun t h1 h2 => hvi_16_1 t (by omega) h2, ?_⟩, ?_⟩; (rw [if_neg (by omega)]); (rw [if_pos rfl]; first | exact km | omega)))), trivial⟩, zRet ht hP hD [0, 1, 2, 3] (by decide) rfl⟩, hS.F ht⟩) hS.2.2 dX8_stitches_90
      · exfalso; have fc_3 : i_16.toInt < nte.toInt := zf_nle c_3 rfl rfl; omega
    | succ nfu ih =>
      intro i_16 v_2 H locs ls hP hD hS hl hbv_2 hvi_16_0 hvi_16_1 hvi_16_2 hvi_16_3 hloi_16 hni_16
      refine lv_iload_n hx hb dX8_stitches_16 rfl (lv_at hl 0 rfl) ?_
      refine lv_aload_n hx hb dX8_stitches_17 rfl (lv_at hl 2 rfl) ?_
      refine va_get (D := D) (ci := 8) (v := .int nte) (C := RX8) (T := TX8) (N := 38) hx hb hts hi_X8_stitches_8 hown hK hP 0 rfl rfl 1 (by decide) (hts (.fieldLink RX8 7 "TheLiningsInItModel" "teeth" "I") (List.mem_of_getElem? (i := 1) rfl)) (fun _ h9 => h9) rfl dX8_stitches_18 ?_
      refine lv_icmp_ge (tgt := 75) hx hb dX8_stitches_21 (by decide) (fun c_8 => ?_) (fun c_8 => ?_)
      · have fc_8 : nte.toInt ≤ i_16.toInt := zf_le c_8 rfl rfl
        refine lv_iload_n hx hb dX8_stitches_75 rfl (lv_at hl 3 rfl) ?_
        refine lv_iconst (v := (-1)) hx hb dX8_stitches_76 (by decide) ?_
        refine lv_icmp_ne (tgt := 84) hx hb dX8_stitches_77 (by decide) (fun c_9 => ?_) (fun c_9 => ?_)
        · have fc_9 : i.toInt ≠ (-1) := zf_ne c_9 rfl (by decide)
          refine lv_aload_n hx hb dX8_stitches_84 rfl (lv_at hl 2 rfl) ?_
          refine lv_bipush (v := (-5)) hx hb dX8_stitches_85 (by decide) ?_
          skip
          refine zw_V (As := [.int (-5)]) (rest := []) (wr := [(mla, .inl (cI, 40, .inl gla)), (msl, .inl (cI, 40, .inl gsl))]) ⟨hx, hb, hml, hown, hts⟩ (c_M_no_5 l D cI cJ cZ cP cS po m0 mrf mki mpa mta mla msl mco mhe mso msi msh mce mca mwo mnu mte mwa mke mma mth mtr (npu) (nte) (nat_) (nde) (nto) (nse) (nhu) (nga) (nsd) (nfa) (nba) (npl) (nen) (nnu) (nwr) (nra) (nik) grf hy0 hy1 hy2 hy3 hy4 hy5 hy6 hy7 hy8 hy9 hy10 hy11 hy12 hy13 H.size) (cwV 1 hts gX8_stitches_X8_no rfl rfl rfl ⟨rfl, dh_X8_no⟩ ⟨Nat.le_of_ble_eq_true rfl, Nat.le_of_ble_eq_true rfl⟩) hK hN (hZ.kept hS) hP hD hS hA [0, 1] [2, 3] rfl rfl (by decide) (by decide) (by decide) (va_recv (q := (RX8, TX8, 38)) hK hP (ci := 8) (q0 := 0) rfl rfl) rfl hl.1 rfl (Nat.le_of_ble_eq_true rfl) dX8_stitches_87 ⟨Nat.le_of_ble_eq_true rfl, Nat.le_of_ble_eq_true rfl⟩ (fun r_10 u_11 H locs hr_10 hP hD hS => ?_)
          obtain ⟨q_12, rfl⟩ : ∃ z, z = u_11 := ⟨_, rfl⟩
          have h9R := zRe (ws' := [(mla, .inl (cI, 40, .inl gla)), (msl, .inl (cI, 40, .inl gsl)), (zMO m0 npu nte nat_ nde nto nse nhu nga nsd nfa mrf mki mpa mta mla msl mco mhe mso msi msh mce mca mwo mnu mte nba npl nen nnu nwr mwa mke mma mth mtr nra nik), (mrf, .inl (cI, 8, .inl q_12))]) hP hD rfl
          clear hP hD
          obtain ⟨hP, hD⟩ := h9R
          obtain rfl := hr_10
          exact W.iret (v := (-5)) hx hb hr (fun t ht hW => ⟨⟨(-5), q_12, rfl, ⟨(show (i.toInt < -1 → ((-5) : Int32).toInt = -5) ∧ (-1 ≤ i.toInt → ∃ q : Int, zSti gla gsl nga.toInt nte.toInt i.toInt q ∧ ((-5) : Int32).toInt = (if q = -1 then -5 else q)) from by (have km : ((-5) : Int32).toInt = -5 := (by decide); refine ⟨fun h => by (exfalso; omega), fun _ => ?_⟩; obtain ⟨w0, w1⟩ := hvi_16_0; have h9 : (min i_16.toInt nte.toInt).toNat = nte.toInt.toNat := (by omega); rw [h9] at w0; first | (refine ⟨(-5).toInt, Or.inr ⟨fun t h1 h2 => hvi_16_1 t (by omega) h2, ?_⟩, ?_⟩; (rw [if_pos (by omega)]; omega); (rw [if_neg (by omega)])) | (refine ⟨-1, Or.inr ⟨fun t h1 h2 => hvi_16_1 t (by omega) h2, ?_⟩, ?_⟩; (rw [if_neg (by omega)]); (rw [if_pos rfl]; first | exact km | omega)))), trivial⟩, zRet ht hP hD [2, 3, 0, 1] (by decide) rfl⟩, hS.F ht⟩) hS.2.2 dX8_stitches_90
        · have fc_9 : i.toInt = (-1) := zf_eq c_9 rfl (by decide)
          refine lv_iload_n hx hb dX8_stitches_80 rfl (lv_at hl 1 rfl) ?_
          refine lv_goto (tgt := 90) hx hb dX8_stitches_81 (by decide) ?_
          exact W.iret (v := v_2) hx hb hr (fun t ht hW => ⟨⟨v_2, grf, rfl, ⟨(show (i.toInt < -1 → (v_2 : Int32).toInt = -5) ∧ (-1 ≤ i.toInt → ∃ q : Int, zSti gla gsl nga.toInt nte.toInt i.toInt q ∧ (v_2 : Int32).toInt = (if q = -1 then -5 else q)) from by (have km : ((-5) : Int32).toInt = -5 := (by decide); refine ⟨fun h => by (exfalso; omega), fun _ => ?_⟩; obtain ⟨w0, w1⟩ := hvi_16_0; have h9 : (min i_16.toInt nte.toInt).toNat = nte.toInt.toNat := (by omega); rw [h9] at w0; first | (refine ⟨v_2.toInt, Or.inr ⟨fun t h1 h2 => hvi_16_1 t (by omega) h2, ?_⟩, ?_⟩; (rw [if_pos (by omega)]; omega); (rw [if_neg (by omega)])) | (refine ⟨-1, Or.inr ⟨fun t h1 h2 => hvi_16_1 t (by omega) h2, ?_⟩, ?_⟩; (rw [if_neg (by omega)]); (rw [if_pos rfl]; first | exact km | omega)))), trivial⟩, zRet ht hP hD [0, 1, 2, 3] (by decide) rfl⟩, hS.F ht⟩) hS.2.2 dX8_stitches_90
      · have fc_8 : i_16.toInt < nte.toInt := zf_nle c_8 rfl rfl
        refine lv_aload_n hx hb dX8_stitches_24 rfl (lv_at hl 2 rfl) ?_
        refine lv_iload_n hx hb dX8_stitches_25 rfl (lv_at hl 0 rfl) ?_
        refine zc_V (As := [.int i_16]) (rest := []) ⟨hx, hb, hml, hown, hts⟩ (c_F_M_doesCatch l D cI cJ cZ cP cS po m0 mrf mki mpa mta mla msl mco mhe mso msi msh mce mca mwo mnu mte mwa mke mma mth mtr (npu) (nte) (nat_) (nde) (nto) (nse) (nhu) (nga) (nsd) (nfa) (nba) (npl) (nen) (nnu) (nwr) (nra) (nik) gla gsl (i_16) hy0 hy1 hy2 hy3 hy4 hy5 hy6 hy7 hy8 hy9 hy10 hy11 hy12 hy13 (by omega) (by omega) hp_gla hp_gsl) (cwV 1 hts gX8_stitches_X8_doesCatch rfl rfl rfl ⟨rfl, dh_X8_doesCatch⟩ ⟨Nat.le_of_ble_eq_true rfl, Nat.le_of_ble_eq_true rfl⟩) hK hN (hZ.kept hS) hP (hP.sub [0, 2, 3] rfl) (va_recv (q := (RX8, TX8, 38)) hK hP (ci := 8) (q0 := 0) rfl rfl) rfl hl.1 rfl (Nat.le_of_ble_eq_true rfl) dX8_stitches_26 ⟨Nat.le_of_ble_eq_true rfl, Nat.le_of_ble_eq_true rfl⟩ (fun r_13 hr_13 => ?_)
        obtain ⟨g_14, g_15, hsr_13_0⟩ := hr_13
        refine lv_if_ne (tgt := 35) hx hb dX8_stitches_29 (by decide) (fun c_16 => ?_) (fun c_16 => ?_)
        · have fc_16 : r_13.toInt ≠ 0 := zf_ne c_16 rfl (by decide)
          refine lv_iload_n hx hb dX8_stitches_35 rfl (lv_at hl 1 rfl) ?_
          refine lv_iload_n hx hb dX8_stitches_36 rfl (lv_at hl 3 rfl) ?_
          refine lv_icmp_ne (tgt := 63) hx hb dX8_stitches_37 (by decide) (fun c_17 => ?_) (fun c_17 => ?_)
          · have fc_17 : v_2.toInt ≠ i.toInt := zf_ne c_17 rfl rfl
            obtain ⟨x_18, ex_18⟩ : ∃ y : Int32, y = v_2 + 1 := ⟨_, rfl⟩
            have qx_18 : x_18.toInt = v_2.toInt + 1 := by rw [ex_18]; exact zf_add rfl (by decide) (by omega) (by omega)
            refine lv_iinc (v := x_18) (lv' := [(2, .int x_18), (3, .int i_16), (0, .ref m0), (1, .int i)]) hx hb dX8_stitches_63 hl (k := 1) rfl ex_18.symm (by decide) rfl (fun ls hl => ?_)
            obtain ⟨x_19, ex_19⟩ : ∃ y : Int32, y = i_16 + 4 := ⟨_, rfl⟩
            have qx_19 : x_19.toInt = i_16.toInt + 4 := by rw [ex_19]; exact zf_add rfl (by decide) (by omega) (by omega)
            refine lv_iinc (v := x_19) (lv' := [(3, .int x_19), (2, .int x_18), (0, .ref m0), (1, .int i)]) hx hb dX8_stitches_66 hl (k := 1) rfl ex_19.symm (by decide) rfl (fun ls hl => ?_)
            obtain ⟨x_20, ex_20⟩ : ∃ y : Int32, y = x_19 + 1 := ⟨_, rfl⟩
            have qx_20 : x_20.toInt = x_19.toInt + 1 := by rw [ex_20]; exact zf_add rfl (by decide) (by omega) (by omega)
            refine lv_iinc (v := x_20) (lv' := [(3, .int x_20), (2, .int x_18), (0, .ref m0), (1, .int i)]) hx hb dX8_stitches_69 hl (k := 0) rfl ex_20.symm (by decide) rfl (fun ls hl => ?_)
            refine lv_goto (tgt := 16) hx hb dX8_stitches_72 (by decide) ?_
            exact ih x_20 x_18 _ _ _ (hP.sub [0, 1, 2, 3] rfl) (hD.sub [0, 1, 2, 3] (by decide) rfl) hS (lv_sub hl [0, 1, 2, 3] rfl) ⟨by omega, by omega⟩ (show (zSg gla gsl nga.toInt nte.toInt (min x_20.toInt nte.toInt).toNat).1 = (x_18 : Int32).toInt ∧ (x_20.toInt < nte.toInt → (zSg gla gsl nga.toInt nte.toInt (min x_20.toInt nte.toInt).toNat).2 ≤ x_20.toInt) from by (have e7 : ((i_16.toInt.toNat : Nat) : Int) = i_16.toInt := (by omega); have u0 : (min i_16.toInt nte.toInt).toNat = i_16.toInt.toNat := (by omega); obtain ⟨w0, w1⟩ := hvi_16_0; rw [u0] at w0 w1; have ya : zSgA gla gsl nga.toInt nte.toInt i_16.toInt.toNat := ⟨(by have z := w1 (by omega); omega), (by (rw [e7]; exact hsr_13_0.1 (by omega)))⟩; obtain ⟨j1, j2⟩ := zSg_hop (t := i_16.toInt.toNat) ya (by omega); rw [show (min x_20.toInt nte.toInt).toNat = (min (((i_16.toInt.toNat : Nat) : Int) + 5) nte.toInt).toNat from by omega, j1]; dsimp only; exact ⟨by omega, fun h => by omega⟩)) (show (∀ u : Nat, (u : Int) < min x_20.toInt nte.toInt → zSgA gla gsl nga.toInt nte.toInt u → (zSg gla gsl nga.toInt nte.toInt u).1 ≠ i.toInt) from by (have e7 : ((i_16.toInt.toNat : Nat) : Int) = i_16.toInt := (by omega); have u0 : (min i_16.toInt nte.toInt).toNat = i_16.toInt.toNat := (by omega); obtain ⟨w0, w1⟩ := hvi_16_0; rw [u0] at w0 w1; have ya : zSgA gla gsl nga.toInt nte.toInt i_16.toInt.toNat := ⟨(by have z := w1 (by omega); omega), (by (rw [e7]; exact hsr_13_0.1 (by omega)))⟩; obtain ⟨j1, j2⟩ := zSg_hop (t := i_16.toInt.toNat) ya (by omega); intro u h1 h2; rcases (show (u : Int) < i_16.toInt ∨ u = i_16.toInt.toNat ∨ i_16.toInt.toNat < u by omega) with h3 | h3 | h3; (exact hvi_16_1 u (by omega) h2); (rw [h3, w0]; omega); (exact absurd h2 (j2 u h3 (by omega))))) (show (x_18 : Int32).toInt ≤ x_20.toInt ∧ 5 * (x_18 : Int32).toInt ≤ x_20.toInt + 4 from by exact ⟨by omega, by omega⟩) (show x_20.toInt ≤ nte.toInt + 4 from by omega) (by omega) (by omega)
          · have fc_17 : v_2.toInt = i.toInt := zf_eq c_17 rfl rfl
            refine lv_iload_n hx hb dX8_stitches_40 rfl (lv_at hl 0 rfl) ?_
            refine lv_iconst (v := 2) hx hb dX8_stitches_41 (by decide) ?_
            refine lv_iadd hx hb dX8_stitches_42 ?_
            refine lv_topi (fun x_21 ex_21 => ?_)
            have qx_21 : x_21.toInt = i_16.toInt + 2 := by rw [ex_21]; exact zf_add rfl (by decide) (by omega) (by omega)
            refine lv_aload_n hx hb dX8_stitches_43 rfl (lv_at hl 2 rfl) ?_
            refine va_get (D := D) (ci := 8) (v := .int nte) (C := RX8) (T := TX8) (N := 38) hx hb hts hi_X8_stitches_8 hown hK hP 0 rfl rfl 1 (by decide) (hts (.fieldLink RX8 7 "TheLiningsInItModel" "teeth" "I") (List.mem_of_getElem? (i := 1) rfl)) (fun _ h9 => h9) rfl dX8_stitches_44 ?_
            refine lv_icmp_ge (tgt := 56) hx hb dX8_stitches_47 (by decide) (fun c_22 => ?_) (fun c_22 => ?_)
            · have fc_22 : nte.toInt ≤ x_21.toInt := zf_le c_22 rfl rfl
              refine lv_aload_n hx hb dX8_stitches_56 rfl (lv_at hl 2 rfl) ?_
              refine va_get (D := D) (ci := 8) (v := .int nte) (C := RX8) (T := TX8) (N := 38) hx hb hts hi_X8_stitches_8 hown hK hP 0 rfl rfl 1 (by decide) (hts (.fieldLink RX8 7 "TheLiningsInItModel" "teeth" "I") (List.mem_of_getElem? (i := 1) rfl)) (fun _ h9 => h9) rfl dX8_stitches_57 ?_
              refine lv_iconst (v := 1) hx hb dX8_stitches_60 (by decide) ?_
              refine lv_isub hx hb dX8_stitches_61 ?_
              refine lv_topi (fun x_23 ex_23 => ?_)
              have qx_23 : x_23.toInt = nte.toInt - 1 := by rw [ex_23]; exact zf_sub rfl (by decide) (by omega) (by omega)
              exact W.iret (v := x_23) hx hb hr (fun t ht hW => ⟨⟨x_23, grf, rfl, ⟨(show (i.toInt < -1 → (x_23 : Int32).toInt = -5) ∧ (-1 ≤ i.toInt → ∃ q : Int, zSti gla gsl nga.toInt nte.toInt i.toInt q ∧ (x_23 : Int32).toInt = (if q = -1 then -5 else q)) from by (have km : ((-5) : Int32).toInt = -5 := (by decide); refine ⟨fun h => by (exfalso; omega), fun _ => ?_⟩; obtain ⟨w0, w1⟩ := hvi_16_0; have e7 : ((i_16.toInt.toNat : Nat) : Int) = i_16.toInt := (by omega); have u0 : (min i_16.toInt nte.toInt).toNat = i_16.toInt.toNat := (by omega); rw [u0] at w0 w1; refine ⟨x_23.toInt, Or.inl ⟨i_16.toInt.toNat, by omega, ⟨(by have z := w1 (by omega); omega), by (rw [e7]; exact hsr_13_0.1 (by omega))⟩, by omega, by omega⟩, ?_⟩; rw [if_neg (by omega)])), trivial⟩, zRet ht hP hD [0, 1, 2, 3] (by decide) rfl⟩, hS.F ht⟩) hS.2.2 dX8_stitches_62
            · have fc_22 : x_21.toInt < nte.toInt := zf_nle c_22 rfl rfl
              refine lv_iload_n hx hb dX8_stitches_50 rfl (lv_at hl 0 rfl) ?_
              refine lv_iconst (v := 2) hx hb dX8_stitches_51 (by decide) ?_
              refine lv_iadd hx hb dX8_stitches_52 ?_
              refine lv_topi (fun y_24 ey_24 => ?_)
              obtain rfl : x_21 = y_24 := ex_21.trans ey_24.symm
              refine lv_goto (tgt := 62) hx hb dX8_stitches_53 (by decide) ?_
              exact W.iret (v := x_21) hx hb hr (fun t ht hW => ⟨⟨x_21, grf, rfl, ⟨(show (i.toInt < -1 → (x_21 : Int32).toInt = -5) ∧ (-1 ≤ i.toInt → ∃ q : Int, zSti gla gsl nga.toInt nte.toInt i.toInt q ∧ (x_21 : Int32).toInt = (if q = -1 then -5 else q)) from by (have km : ((-5) : Int32).toInt = -5 := (by decide); refine ⟨fun h => by (exfalso; omega), fun _ => ?_⟩; obtain ⟨w0, w1⟩ := hvi_16_0; have e7 : ((i_16.toInt.toNat : Nat) : Int) = i_16.toInt := (by omega); have u0 : (min i_16.toInt nte.toInt).toNat = i_16.toInt.toNat := (by omega); rw [u0] at w0 w1; refine ⟨x_21.toInt, Or.inl ⟨i_16.toInt.toNat, by omega, ⟨(by have z := w1 (by omega); omega), by (rw [e7]; exact hsr_13_0.1 (by omega))⟩, by omega, by omega⟩, ?_⟩; rw [if_neg (by omega)])), trivial⟩, zRet ht hP hD [0, 1, 2, 3] (by decide) rfl⟩, hS.F ht⟩) hS.2.2 dX8_stitches_62
        · have fc_16 : r_13.toInt = 0 := zf_eq c_16 rfl (by decide)
          refine lv_goto (tgt := 69) hx hb dX8_stitches_32 (by decide) ?_
          obtain ⟨x_25, ex_25⟩ : ∃ y : Int32, y = i_16 + 1 := ⟨_, rfl⟩
          have qx_25 : x_25.toInt = i_16.toInt + 1 := dw_inc ex_25 fc_8
          refine lv_iinc (v := x_25) (lv' := [(3, .int x_25), (2, .int v_2), (0, .ref m0), (1, .int i)]) hx hb dX8_stitches_69 hl (k := 0) rfl ex_25.symm (by decide) rfl (fun ls hl => ?_)
          refine lv_goto (tgt := 16) hx hb dX8_stitches_72 (by decide) ?_
          exact ih x_25 v_2 _ _ _ (hP.sub [0, 1, 2, 3] rfl) (hD.sub [0, 1, 2, 3] (by decide) rfl) hS (lv_sub hl [0, 1, 2, 3] rfl) hbv_2 (show (zSg gla gsl nga.toInt nte.toInt (min x_25.toInt nte.toInt).toNat).1 = (v_2 : Int32).toInt ∧ (x_25.toInt < nte.toInt → (zSg gla gsl nga.toInt nte.toInt (min x_25.toInt nte.toInt).toNat).2 ≤ x_25.toInt) from by (have e7 : ((i_16.toInt.toNat : Nat) : Int) = i_16.toInt := (by omega); have u0 : (min i_16.toInt nte.toInt).toNat = i_16.toInt.toNat := (by omega); obtain ⟨w0, w1⟩ := hvi_16_0; rw [u0] at w0 w1; have na : ¬ zSgA gla gsl nga.toInt nte.toInt i_16.toInt.toNat := (fun z => hsr_13_0.2 (by omega) (by (have z2 := z.2; rw [e7] at z2; exact z2))); have u1 : (min x_25.toInt nte.toInt).toNat = i_16.toInt.toNat + 1 := (by omega); rw [u1, zSg_s, if_neg na]; exact ⟨w0, fun h => by (have z := w1 (by omega); omega)⟩)) (show (∀ u : Nat, (u : Int) < min x_25.toInt nte.toInt → zSgA gla gsl nga.toInt nte.toInt u → (zSg gla gsl nga.toInt nte.toInt u).1 ≠ i.toInt) from by (have e7 : ((i_16.toInt.toNat : Nat) : Int) = i_16.toInt := (by omega); have u0 : (min i_16.toInt nte.toInt).toNat = i_16.toInt.toNat := (by omega); obtain ⟨w0, w1⟩ := hvi_16_0; rw [u0] at w0 w1; have na : ¬ zSgA gla gsl nga.toInt nte.toInt i_16.toInt.toNat := (fun z => hsr_13_0.2 (by omega) (by (have z2 := z.2; rw [e7] at z2; exact z2))); have u1 : (min x_25.toInt nte.toInt).toNat = i_16.toInt.toNat + 1 := (by omega); intro u h1 h2; rcases (show (u : Int) < i_16.toInt ∨ u = i_16.toInt.toNat by omega) with h3 | h3; (exact hvi_16_1 u (by omega) h2); (rw [h3] at h2; exact absurd h2 na))) (show (v_2 : Int32).toInt ≤ x_25.toInt ∧ 5 * (v_2 : Int32).toInt ≤ x_25.toInt + 4 from by exact ⟨by omega, by omega⟩) (show x_25.toInt ≤ nte.toInt + 4 from by omega) (dw_lo hloi_16 qx_25) (dw_hn hni_16 qx_25)
  · have fc_1 : i.toInt < (-1) := zf_nle c_1 (by decide) rfl
    refine lv_aload_n hx hb dX8_stitches_5 rfl (lv_at hl 0 rfl) ?_
    refine lv_bipush (v := (-5)) hx hb dX8_stitches_6 (by decide) ?_
    skip
    refine zw_V (As := [.int (-5)]) (rest := []) (wr := [(mla, .inl (cI, 40, .inl gla)), (msl, .inl (cI, 40, .inl gsl))]) ⟨hx, hb, hml, hown, hts⟩ (c_M_no_5 l D cI cJ cZ cP cS po m0 mrf mki mpa mta mla msl mco mhe mso msi msh mce mca mwo mnu mte mwa mke mma mth mtr (npu) (nte) (nat_) (nde) (nto) (nse) (nhu) (nga) (nsd) (nfa) (nba) (npl) (nen) (nnu) (nwr) (nra) (nik) grf hy0 hy1 hy2 hy3 hy4 hy5 hy6 hy7 hy8 hy9 hy10 hy11 hy12 hy13 H.size) (cwV 1 hts gX8_stitches_X8_no rfl rfl rfl ⟨rfl, dh_X8_no⟩ ⟨Nat.le_of_ble_eq_true rfl, Nat.le_of_ble_eq_true rfl⟩) hK hN (hZ.kept hS) hP hD hS hA [0, 1] [2, 3] rfl rfl (by decide) (by decide) (by decide) (va_recv (q := (RX8, TX8, 38)) hK hP (ci := 8) (q0 := 0) rfl rfl) rfl hl.1 rfl (Nat.le_of_ble_eq_true rfl) dX8_stitches_8 ⟨Nat.le_of_ble_eq_true rfl, Nat.le_of_ble_eq_true rfl⟩ (fun r_26 u_27 H locs hr_26 hP hD hS => ?_)
    obtain ⟨q_28, rfl⟩ : ∃ z, z = u_27 := ⟨_, rfl⟩
    have h9R := zRe (ws' := [(mla, .inl (cI, 40, .inl gla)), (msl, .inl (cI, 40, .inl gsl)), (zMO m0 npu nte nat_ nde nto nse nhu nga nsd nfa mrf mki mpa mta mla msl mco mhe mso msi msh mce mca mwo mnu mte nba npl nen nnu nwr mwa mke mma mth mtr nra nik), (mrf, .inl (cI, 8, .inl q_28))]) hP hD rfl
    clear hP hD
    obtain ⟨hP, hD⟩ := h9R
    obtain rfl := hr_26
    exact W.iret (v := (-5)) hx hb hr (fun t ht hW => ⟨⟨(-5), q_28, rfl, ⟨(show (i.toInt < -1 → ((-5) : Int32).toInt = -5) ∧ (-1 ≤ i.toInt → ∃ q : Int, zSti gla gsl nga.toInt nte.toInt i.toInt q ∧ ((-5) : Int32).toInt = (if q = -1 then -5 else q)) from by (have km : ((-5) : Int32).toInt = -5 := (by decide); exact ⟨fun _ => km, fun h => by (exfalso; omega)⟩)), trivial⟩, zRet ht hP hD [2, 3, 0, 1] (by decide) rfl⟩, hS.F ht⟩) hS.2.2 dX8_stitches_11
set_option maxHeartbeats 4000000 in
set_option maxRecDepth 100000 in
theorem c_F_M_strong (l : Launch) (D : va_G) (cI cJ cZ cP cS : ClassId) (po : zPool) (m0 mrf mki mpa mta mla msl mco mhe mso msi msh mce mca mwo mnu mte mwa mke mma mth mtr : Nat) (npu nte nat_ nde nto nse nhu nga nsd nfa nba npl nen nnu nwr nra nik : Int32) (grf gla gma gth : Nat → Int32) (w : Int32) (hy0 : 0 ≤ npu.toInt) (hy1 : npu.toInt ≤ 8) (hy2 : 4 ≤ nte.toInt) (hy3 : nte.toInt ≤ 40) (hy4 : 0 ≤ nat_.toInt) (hy5 : nat_.toInt ≤ 40) (hy6 : 0 ≤ nde.toInt) (hy7 : nde.toInt ≤ 24) (hy8 : 0 ≤ nhu.toInt) (hy9 : nhu.toInt ≤ 9) (hy10 : 0 ≤ nra.toInt) (hy11 : nra.toInt ≤ 2000) (hy12 : 0 ≤ nik.toInt) (hy13 : nik.toInt ≤ 1) (hp_gla : zRg gla (0) 1) (hpz : Nat) : Met l yX8_strong wsX8_strong ({ frames := 3, cells := 0, slots := 0, locals := 65 }) (va_Pc [.ref m0, .int w] (zW D (zKT cI cJ cZ cP cS) po [(zMO m0 npu nte nat_ nde nto nse nhu nga nsd nfa mrf mki mpa mta mla msl mco mhe mso msi msh mce mca mwo mnu mte nba npl nen nnu nwr mwa mke mma mth mtr nra nik), (mrf, .inl (cI, 8, .inl grf)), (mla, .inl (cI, 40, .inl gla)), (mma, .inl (cI, 3, .inl gma)), (mth, .inl (cI, 3, .inl gth))] hpz)) (va_Qi (fun (r : Int32) (u : (Nat → Int32) × (Nat → Int32) × (Nat → Int32) × (Nat → Int32)) => zRg u.2.1 (0) 1 ∧ (u.2.1 = gla) ∧ ((w.toInt = 0 ∧ ((zHd gla nte.toInt ∧ r.toInt = 1) ∨ (¬ zHd gla nte.toInt ∧ r.toInt = 0))) ∨ (w.toInt = 1 ∧ ((zHd gla nte.toInt ∧ r.toInt = zCf gla nte.toInt nte.toInt.toNat) ∨ (¬ zHd gla nte.toInt ∧ r.toInt = 0))) ∨ (w.toInt = 2 ∧ ((zHd gla nte.toInt ∧ r.toInt = zMx3 (zSp (-100) gla nte.toInt.toNat)) ∨ (¬ zHd gla nte.toInt ∧ r.toInt = 0))) ∨ (w.toInt = 3 ∧ r.toInt = zCl gla nte.toInt.toNat) ∨ ((w.toInt < 0 ∨ 3 < w.toInt) ∧ r.toInt = -5)) ∧ (True)) (zB D [(zMO m0 npu nte nat_ nde nto nse nhu nga nsd nfa mrf mki mpa mta mla msl mco mhe mso msi msh mce mca mwo mnu mte nba npl nen nnu nwr mwa mke mma mth mtr nra nik), (mrf, .inl (cI, 8, .inl grf)), (mla, .inl (cI, 40, .inl gla)), (mma, .inl (cI, 3, .inl gma)), (mth, .inl (cI, 3, .inl gth))] hpz (fun (u : (Nat → Int32) × (Nat → Int32) × (Nat → Int32) × (Nat → Int32)) => [(zMO m0 npu nte nat_ nde nto nse nhu nga nsd nfa mrf mki mpa mta mla msl mco mhe mso msi msh mce mca mwo mnu mte nba npl nen nnu nwr mwa mke mma mth mtr nra nik), (mrf, .inl (cI, 8, .inl u.1)), (mla, .inl (cI, 40, .inl u.2.1)), (mma, .inl (cI, 3, .inl u.2.2.1)), (mth, .inl (cI, 3, .inl u.2.2.2))])) (va_A [(zMO m0 npu nte nat_ nde nto nse nhu nga nsd nfa mrf mki mpa mta mla msl mco mhe mso msi msh mce mca mwo mnu mte nba npl nen nnu nwr mwa mke mma mth mtr nra nik), (mrf, .inl (cI, 8, .inl grf)), (mla, .inl (cI, 40, .inl gla)), (mma, .inl (cI, 3, .inl gma)), (mth, .inl (cI, 3, .inl gth))] hpz)) 0 0 (va_A [(zMO m0 npu nte nat_ nde nto nse nhu nga nsd nfa mrf mki mpa mta mla msl mco mhe mso msi msh mce mca mwo mnu mte nba npl nen nnu nwr mwa mke mma mth mtr nra nik), (mrf, .inl (cI, 8, .inl grf)), (mla, .inl (cI, 40, .inl gla)), (mma, .inl (cI, 3, .inl gma)), (mth, .inl (cI, 3, .inl gth))] hpz) := by
  refine Met.ofW (cc := cX8_strong) (maxL := 2) (ret := (some .int)) (by decide) rfl ?_
  intro p e s m args below meth c s₁ B hml hv
  obtain ⟨rfl, hsz, hP, hK, hD0, hN, hZ⟩ := hv
  have hx := B.exec
  have hb := B.bytes
  have hr := B.returns
  have hts := atoms_spec (ws := wsX8_strong) B.pre
  have hown : s.vm.findClass RX8 = some m.cls := findClass_of_methodNamed B.named
  have hlocks := B.notSynchronized
  subst hsz
  have hD := hD0.self (sz := s.heap.size)
  have hA := zA_of hD
  have hl := lv_entry ([.ref m0, .int w]) (n := 2) (Nat.le_of_ble_eq_true rfl)
  rw [lg_entry_eq]
  generalize (lg_sl ([.ref m0, .int w]) ++ List.replicate (2 - (lg_sl ([.ref m0, .int w])).length) Slot.unset).toArray = ls at hl ⊢
  replace hl : lv_has ls 2 [(0, .ref m0), (1, .int w)] := hl
  refine zw_begin hP hD (fun H locs hP1 hS => ?_)
  clear hP
  have hP := hP1
  clear hP1
  refine lv_iload_n hx hb dX8_strong_0 rfl (lv_at hl 1 rfl) ?_
  by_cases hsp : w.toInt < 0 ∨ 3 < w.toInt
  · refine lv_tableOut (tgt := 60) hx hb dX8_strong_1 hsp (by decide) ?_
    refine lv_aload_n hx hb dX8_strong_60 rfl (lv_at hl 0 rfl) ?_
    refine lv_bipush (v := (-5)) hx hb dX8_strong_61 (by decide) ?_
    skip
    refine zw_V (As := [.int (-5)]) (rest := []) (wr := [(mla, .inl (cI, 40, .inl gla)), (mma, .inl (cI, 3, .inl gma)), (mth, .inl (cI, 3, .inl gth))]) ⟨hx, hb, hml, hown, hts⟩ (c_M_no_5 l D cI cJ cZ cP cS po m0 mrf mki mpa mta mla msl mco mhe mso msi msh mce mca mwo mnu mte mwa mke mma mth mtr (npu) (nte) (nat_) (nde) (nto) (nse) (nhu) (nga) (nsd) (nfa) (nba) (npl) (nen) (nnu) (nwr) (nra) (nik) grf hy0 hy1 hy2 hy3 hy4 hy5 hy6 hy7 hy8 hy9 hy10 hy11 hy12 hy13 H.size) (cwV 1 hts gX8_strong_X8_no rfl rfl rfl ⟨rfl, dh_X8_no⟩ ⟨Nat.le_of_ble_eq_true rfl, Nat.le_of_ble_eq_true rfl⟩) hK hN (hZ.kept hS) hP hD hS hA [0, 1] [2, 3, 4] rfl rfl (by decide) (by decide) (by decide) (va_recv (q := (RX8, TX8, 38)) hK hP (ci := 8) (q0 := 0) rfl rfl) rfl hl.1 rfl (Nat.le_of_ble_eq_true rfl) dX8_strong_63 ⟨Nat.le_of_ble_eq_true rfl, Nat.le_of_ble_eq_true rfl⟩ (fun r_1 u_2 H locs hr_1 hP hD hS => ?_)
    obtain ⟨q_3, rfl⟩ : ∃ z, z = u_2 := ⟨_, rfl⟩
    have h9R := zRe (ws' := [(mla, .inl (cI, 40, .inl gla)), (mma, .inl (cI, 3, .inl gma)), (mth, .inl (cI, 3, .inl gth)), (zMO m0 npu nte nat_ nde nto nse nhu nga nsd nfa mrf mki mpa mta mla msl mco mhe mso msi msh mce mca mwo mnu mte nba npl nen nnu nwr mwa mke mma mth mtr nra nik), (mrf, .inl (cI, 8, .inl q_3))]) hP hD rfl
    clear hP hD
    obtain ⟨hP, hD⟩ := h9R
    obtain rfl := hr_1
    exact W.iret (v := (-5)) hx hb hr (fun t ht hW => ⟨⟨(-5), (q_3, gla, gma, gth), rfl, ⟨hp_gla, (show gla = gla from by rfl), (show (w.toInt = 0 ∧ ((zHd gla nte.toInt ∧ ((-5) : Int32).toInt = 1) ∨ (¬ zHd gla nte.toInt ∧ ((-5) : Int32).toInt = 0))) ∨ (w.toInt = 1 ∧ ((zHd gla nte.toInt ∧ ((-5) : Int32).toInt = zCf gla nte.toInt nte.toInt.toNat) ∨ (¬ zHd gla nte.toInt ∧ ((-5) : Int32).toInt = 0))) ∨ (w.toInt = 2 ∧ ((zHd gla nte.toInt ∧ ((-5) : Int32).toInt = zMx3 (zSp (-100) gla nte.toInt.toNat)) ∨ (¬ zHd gla nte.toInt ∧ ((-5) : Int32).toInt = 0))) ∨ (w.toInt = 3 ∧ ((-5) : Int32).toInt = zCl gla nte.toInt.toNat) ∨ ((w.toInt < 0 ∨ 3 < w.toInt) ∧ ((-5) : Int32).toInt = -5) from by (have k9 : ((-5) : Int32).toInt = -5 := (by decide); exact Or.inr (Or.inr (Or.inr (Or.inr ⟨by omega, by omega⟩))))), trivial⟩, zRet ht hP hD [3, 4, 0, 1, 2] (by decide) rfl⟩, hS.F ht⟩) hS.2.2 dX8_strong_66
  · have hsp : w = 0 ∨ w = 1 ∨ w = 2 ∨ w = 3 := by
      rcases (show w.toInt = 0 ∨ w.toInt = 1 ∨ w.toInt = 2 ∨ w.toInt = 3 by omega) with h9 | h9 | h9 | h9
      · refine Or.inl ?_; exact zf_val h9 (by decide)
      · refine Or.inr (Or.inl ?_); exact zf_val h9 (by decide)
      · refine Or.inr (Or.inr (Or.inl ?_)); exact zf_val h9 (by decide)
      · refine Or.inr (Or.inr (Or.inr (?_))); exact zf_val h9 (by decide)
    rcases hsp with rfl | rfl | rfl | rfl
    · have kc0 : (0 : Int32).toInt = 0 := by decide
      refine lv_tableIn (tgt := 32) hx hb dX8_strong_1 (by decide) (by decide) rfl (by decide) ?_
      refine lv_aload_n hx hb dX8_strong_32 rfl (lv_at hl 0 rfl) ?_
      refine zc_V (As := []) (rest := []) ⟨hx, hb, hml, hown, hts⟩ (c_F_M_doesHold l D cI cJ cZ cP cS po m0 mrf mki mpa mta mla msl mco mhe mso msi msh mce mca mwo mnu mte mwa mke mma mth mtr (npu) (nte) (nat_) (nde) (nto) (nse) (nhu) (nga) (nsd) (nfa) (nba) (npl) (nen) (nnu) (nwr) (nra) (nik) gla hy0 hy1 hy2 hy3 hy4 hy5 hy6 hy7 hy8 hy9 hy10 hy11 hy12 hy13 hp_gla) (cwV 0 hts gX8_strong_X8_doesHold rfl rfl rfl ⟨rfl, dh_X8_doesHold⟩ ⟨Nat.le_of_ble_eq_true rfl, Nat.le_of_ble_eq_true rfl⟩) hK hN (hZ.kept hS) hP (hP.sub [0, 2] rfl) (va_recv (q := (RX8, TX8, 38)) hK hP (ci := 8) (q0 := 0) rfl rfl) rfl hl.1 rfl (Nat.le_of_ble_eq_true rfl) dX8_strong_33 ⟨Nat.le_of_ble_eq_true rfl, Nat.le_of_ble_eq_true rfl⟩ (fun r_4 hr_4 => ?_)
      obtain ⟨g_5, g_6, hsr_4_0⟩ := hr_4
      refine lv_if_eq (tgt := 43) hx hb dX8_strong_36 (by decide) (fun c_7 => ?_) (fun c_7 => ?_)
      · have fc_7 : r_4.toInt = 0 := zf_eq c_7 rfl (by decide)
        refine lv_iconst (v := 0) hx hb dX8_strong_43 (by decide) ?_
        exact W.iret (v := 0) hx hb hr (fun t ht hW => ⟨⟨0, (grf, gla, gma, gth), rfl, ⟨hp_gla, (show gla = gla from by rfl), (show ((0 : Int32).toInt = 0 ∧ ((zHd gla nte.toInt ∧ (0 : Int32).toInt = 1) ∨ (¬ zHd gla nte.toInt ∧ (0 : Int32).toInt = 0))) ∨ ((0 : Int32).toInt = 1 ∧ ((zHd gla nte.toInt ∧ (0 : Int32).toInt = zCf gla nte.toInt nte.toInt.toNat) ∨ (¬ zHd gla nte.toInt ∧ (0 : Int32).toInt = 0))) ∨ ((0 : Int32).toInt = 2 ∧ ((zHd gla nte.toInt ∧ (0 : Int32).toInt = zMx3 (zSp (-100) gla nte.toInt.toNat)) ∨ (¬ zHd gla nte.toInt ∧ (0 : Int32).toInt = 0))) ∨ ((0 : Int32).toInt = 3 ∧ (0 : Int32).toInt = zCl gla nte.toInt.toNat) ∨ (((0 : Int32).toInt < 0 ∨ 3 < (0 : Int32).toInt) ∧ (0 : Int32).toInt = -5) from by (have k9 : (0 : Int32).toInt = 0 := (by decide); refine Or.inl ⟨by first | rfl | decide | omega, ?_⟩; first | exact Or.inl ⟨hsr_4_0.1 (by omega), by omega⟩ | exact Or.inr ⟨hsr_4_0.2 (by omega), by omega⟩)), trivial⟩, zRet ht hP hD [0, 1, 2, 3, 4] (by decide) rfl⟩, hS.F ht⟩) hS.2.2 dX8_strong_44
      · have fc_7 : r_4.toInt ≠ 0 := zf_ne c_7 rfl (by decide)
        refine lv_iconst (v := 1) hx hb dX8_strong_39 (by decide) ?_
        refine lv_goto (tgt := 44) hx hb dX8_strong_40 (by decide) ?_
        exact W.iret (v := 1) hx hb hr (fun t ht hW => ⟨⟨1, (grf, gla, gma, gth), rfl, ⟨hp_gla, (show gla = gla from by rfl), (show ((0 : Int32).toInt = 0 ∧ ((zHd gla nte.toInt ∧ (1 : Int32).toInt = 1) ∨ (¬ zHd gla nte.toInt ∧ (1 : Int32).toInt = 0))) ∨ ((0 : Int32).toInt = 1 ∧ ((zHd gla nte.toInt ∧ (1 : Int32).toInt = zCf gla nte.toInt nte.toInt.toNat) ∨ (¬ zHd gla nte.toInt ∧ (1 : Int32).toInt = 0))) ∨ ((0 : Int32).toInt = 2 ∧ ((zHd gla nte.toInt ∧ (1 : Int32).toInt = zMx3 (zSp (-100) gla nte.toInt.toNat)) ∨ (¬ zHd gla nte.toInt ∧ (1 : Int32).toInt = 0))) ∨ ((0 : Int32).toInt = 3 ∧ (1 : Int32).toInt = zCl gla nte.toInt.toNat) ∨ (((0 : Int32).toInt < 0 ∨ 3 < (0 : Int32).toInt) ∧ (1 : Int32).toInt = -5) from by (have k9 : (1 : Int32).toInt = 1 := (by decide); refine Or.inl ⟨by first | rfl | decide | omega, ?_⟩; first | exact Or.inl ⟨hsr_4_0.1 (by omega), by omega⟩ | exact Or.inr ⟨hsr_4_0.2 (by omega), by omega⟩)), trivial⟩, zRet ht hP hD [0, 1, 2, 3, 4] (by decide) rfl⟩, hS.F ht⟩) hS.2.2 dX8_strong_44
    · have kc1 : (1 : Int32).toInt = 1 := by decide
      refine lv_tableIn (tgt := 45) hx hb dX8_strong_1 (by decide) (by decide) rfl (by decide) ?_
      refine lv_aload_n hx hb dX8_strong_45 rfl (lv_at hl 0 rfl) ?_
      skip
      refine zw_V (As := []) (rest := []) (wr := [(mrf, .inl (cI, 8, .inl grf)), (mma, .inl (cI, 3, .inl gma)), (mth, .inl (cI, 3, .inl gth))]) ⟨hx, hb, hml, hown, hts⟩ (c_F_M_frail l D cI cJ cZ cP cS po m0 mrf mki mpa mta mla msl mco mhe mso msi msh mce mca mwo mnu mte mwa mke mma mth mtr (npu) (nte) (nat_) (nde) (nto) (nse) (nhu) (nga) (nsd) (nfa) (nba) (npl) (nen) (nnu) (nwr) (nra) (nik) gla hy0 hy1 hy2 hy3 hy4 hy5 hy6 hy7 hy8 hy9 hy10 hy11 hy12 hy13 hp_gla H.size) (cwV 0 hts gX8_strong_X8_frail rfl rfl rfl ⟨rfl, dh_X8_frail⟩ ⟨Nat.le_of_ble_eq_true rfl, Nat.le_of_ble_eq_true rfl⟩) hK hN (hZ.kept hS) hP hD hS hA [0, 2] [1, 3, 4] rfl rfl (by decide) (by decide) (by decide) (va_recv (q := (RX8, TX8, 38)) hK hP (ci := 8) (q0 := 0) rfl rfl) rfl hl.1 rfl (Nat.le_of_ble_eq_true rfl) dX8_strong_46 ⟨Nat.le_of_ble_eq_true rfl, Nat.le_of_ble_eq_true rfl⟩ (fun r_8 u_9 H locs hr_8 hP hD hS => ?_)
      obtain ⟨q_10, rfl⟩ : ∃ z, z = u_9 := ⟨_, rfl⟩
      obtain ⟨hpq_10, hsr_8_0, hsr_8_1, hr_8⟩ := hr_8
      have h9R := zRe (ws' := [(mrf, .inl (cI, 8, .inl grf)), (mma, .inl (cI, 3, .inl gma)), (mth, .inl (cI, 3, .inl gth)), (zMO m0 npu nte nat_ nde nto nse nhu nga nsd nfa mrf mki mpa mta mla msl mco mhe mso msi msh mce mca mwo mnu mte nba npl nen nnu nwr mwa mke mma mth mtr nra nik), (mla, .inl (cI, 40, .inl q_10))]) hP hD rfl
      clear hP hD
      obtain ⟨hP, hD⟩ := h9R
      exact W.iret (v := r_8) hx hb hr (fun t ht hW => ⟨⟨r_8, (grf, q_10, gma, gth), rfl, ⟨hpq_10, (show q_10 = gla from by (exact hsr_8_0)), (show ((1 : Int32).toInt = 0 ∧ ((zHd gla nte.toInt ∧ (r_8 : Int32).toInt = 1) ∨ (¬ zHd gla nte.toInt ∧ (r_8 : Int32).toInt = 0))) ∨ ((1 : Int32).toInt = 1 ∧ ((zHd gla nte.toInt ∧ (r_8 : Int32).toInt = zCf gla nte.toInt nte.toInt.toNat) ∨ (¬ zHd gla nte.toInt ∧ (r_8 : Int32).toInt = 0))) ∨ ((1 : Int32).toInt = 2 ∧ ((zHd gla nte.toInt ∧ (r_8 : Int32).toInt = zMx3 (zSp (-100) gla nte.toInt.toNat)) ∨ (¬ zHd gla nte.toInt ∧ (r_8 : Int32).toInt = 0))) ∨ ((1 : Int32).toInt = 3 ∧ (r_8 : Int32).toInt = zCl gla nte.toInt.toNat) ∨ (((1 : Int32).toInt < 0 ∨ 3 < (1 : Int32).toInt) ∧ (r_8 : Int32).toInt = -5) from by (refine Or.inr (Or.inl ⟨by first | rfl | decide | omega, ?_⟩); rcases Classical.em (zHd gla nte.toInt) with h | h; (exact Or.inl ⟨h, hsr_8_1.1 h⟩); (exact Or.inr ⟨h, hsr_8_1.2 h⟩))), trivial⟩, zRet ht hP hD [3, 0, 4, 1, 2] (by decide) rfl⟩, hS.F ht⟩) hS.2.2 dX8_strong_49
    · have kc2 : (2 : Int32).toInt = 2 := by decide
      refine lv_tableIn (tgt := 50) hx hb dX8_strong_1 (by decide) (by decide) rfl (by decide) ?_
      refine lv_aload_n hx hb dX8_strong_50 rfl (lv_at hl 0 rfl) ?_
      skip
      refine zw_V (As := []) (rest := []) (wr := [(mrf, .inl (cI, 8, .inl grf))]) ⟨hx, hb, hml, hown, hts⟩ (c_F_M_spare l D cI cJ cZ cP cS po m0 mrf mki mpa mta mla msl mco mhe mso msi msh mce mca mwo mnu mte mwa mke mma mth mtr (npu) (nte) (nat_) (nde) (nto) (nse) (nhu) (nga) (nsd) (nfa) (nba) (npl) (nen) (nnu) (nwr) (nra) (nik) gla gma gth hy0 hy1 hy2 hy3 hy4 hy5 hy6 hy7 hy8 hy9 hy10 hy11 hy12 hy13 hp_gla H.size) (cwV 0 hts gX8_strong_X8_spare rfl rfl rfl ⟨rfl, dh_X8_spare⟩ ⟨Nat.le_of_ble_eq_true rfl, Nat.le_of_ble_eq_true rfl⟩) hK hN (hZ.kept hS) hP hD hS hA [0, 2, 3, 4] [1] rfl rfl (by decide) (by decide) (by decide) (va_recv (q := (RX8, TX8, 38)) hK hP (ci := 8) (q0 := 0) rfl rfl) rfl hl.1 rfl (Nat.le_of_ble_eq_true rfl) dX8_strong_51 ⟨Nat.le_of_ble_eq_true rfl, Nat.le_of_ble_eq_true rfl⟩ (fun r_11 u_12 H locs hr_11 hP hD hS => ?_)
      obtain ⟨q_13, q_14⟩ := u_12
      try dsimp only at hr_11
      obtain ⟨hsr_11_0, hr_11⟩ := hr_11
      have h9R := zRe (ws' := [(mrf, .inl (cI, 8, .inl grf)), (zMO m0 npu nte nat_ nde nto nse nhu nga nsd nfa mrf mki mpa mta mla msl mco mhe mso msi msh mce mca mwo mnu mte nba npl nen nnu nwr mwa mke mma mth mtr nra nik), (mla, .inl (cI, 40, .inl gla)), (mma, .inl (cI, 3, .inl q_13)), (mth, .inl (cI, 3, .inl q_14))]) hP hD rfl
      clear hP hD
      obtain ⟨hP, hD⟩ := h9R
      exact W.iret (v := r_11) hx hb hr (fun t ht hW => ⟨⟨r_11, (grf, gla, q_13, q_14), rfl, ⟨hp_gla, (show gla = gla from by rfl), (show ((2 : Int32).toInt = 0 ∧ ((zHd gla nte.toInt ∧ (r_11 : Int32).toInt = 1) ∨ (¬ zHd gla nte.toInt ∧ (r_11 : Int32).toInt = 0))) ∨ ((2 : Int32).toInt = 1 ∧ ((zHd gla nte.toInt ∧ (r_11 : Int32).toInt = zCf gla nte.toInt nte.toInt.toNat) ∨ (¬ zHd gla nte.toInt ∧ (r_11 : Int32).toInt = 0))) ∨ ((2 : Int32).toInt = 2 ∧ ((zHd gla nte.toInt ∧ (r_11 : Int32).toInt = zMx3 (zSp (-100) gla nte.toInt.toNat)) ∨ (¬ zHd gla nte.toInt ∧ (r_11 : Int32).toInt = 0))) ∨ ((2 : Int32).toInt = 3 ∧ (r_11 : Int32).toInt = zCl gla nte.toInt.toNat) ∨ (((2 : Int32).toInt < 0 ∨ 3 < (2 : Int32).toInt) ∧ (r_11 : Int32).toInt = -5) from by (refine Or.inr (Or.inr (Or.inl ⟨by first | rfl | decide | omega, ?_⟩)); rcases Classical.em (zHd gla nte.toInt) with h | h; (exact Or.inl ⟨h, hsr_11_0.1 h⟩); (exact Or.inr ⟨h, hsr_11_0.2 h⟩))), trivial⟩, zRet ht hP hD [1, 0, 2, 3, 4] (by decide) rfl⟩, hS.F ht⟩) hS.2.2 dX8_strong_54
    · have kc3 : (3 : Int32).toInt = 3 := by decide
      refine lv_tableIn (tgt := 55) hx hb dX8_strong_1 (by decide) (by decide) rfl (by decide) ?_
      refine lv_aload_n hx hb dX8_strong_55 rfl (lv_at hl 0 rfl) ?_
      refine zc_V (As := []) (rest := []) ⟨hx, hb, hml, hown, hts⟩ (c_F_M_lacking l D cI cJ cZ cP cS po m0 mrf mki mpa mta mla msl mco mhe mso msi msh mce mca mwo mnu mte mwa mke mma mth mtr (npu) (nte) (nat_) (nde) (nto) (nse) (nhu) (nga) (nsd) (nfa) (nba) (npl) (nen) (nnu) (nwr) (nra) (nik) gla hy0 hy1 hy2 hy3 hy4 hy5 hy6 hy7 hy8 hy9 hy10 hy11 hy12 hy13 hp_gla) (cwV 0 hts gX8_strong_X8_lacking rfl rfl rfl ⟨rfl, dh_X8_lacking⟩ ⟨Nat.le_of_ble_eq_true rfl, Nat.le_of_ble_eq_true rfl⟩) hK hN (hZ.kept hS) hP (hP.sub [0, 2] rfl) (va_recv (q := (RX8, TX8, 38)) hK hP (ci := 8) (q0 := 0) rfl rfl) rfl hl.1 rfl (Nat.le_of_ble_eq_true rfl) dX8_strong_56 ⟨Nat.le_of_ble_eq_true rfl, Nat.le_of_ble_eq_true rfl⟩ (fun r_15 hr_15 => ?_)
      have hsr_15_0 := hr_15
      exact W.iret (v := r_15) hx hb hr (fun t ht hW => ⟨⟨r_15, (grf, gla, gma, gth), rfl, ⟨hp_gla, (show gla = gla from by rfl), (show ((3 : Int32).toInt = 0 ∧ ((zHd gla nte.toInt ∧ (r_15 : Int32).toInt = 1) ∨ (¬ zHd gla nte.toInt ∧ (r_15 : Int32).toInt = 0))) ∨ ((3 : Int32).toInt = 1 ∧ ((zHd gla nte.toInt ∧ (r_15 : Int32).toInt = zCf gla nte.toInt nte.toInt.toNat) ∨ (¬ zHd gla nte.toInt ∧ (r_15 : Int32).toInt = 0))) ∨ ((3 : Int32).toInt = 2 ∧ ((zHd gla nte.toInt ∧ (r_15 : Int32).toInt = zMx3 (zSp (-100) gla nte.toInt.toNat)) ∨ (¬ zHd gla nte.toInt ∧ (r_15 : Int32).toInt = 0))) ∨ ((3 : Int32).toInt = 3 ∧ (r_15 : Int32).toInt = zCl gla nte.toInt.toNat) ∨ (((3 : Int32).toInt < 0 ∨ 3 < (3 : Int32).toInt) ∧ (r_15 : Int32).toInt = -5) from by (exact Or.inr (Or.inr (Or.inr (Or.inl ⟨by first | rfl | decide | omega, hsr_15_0⟩))))), trivial⟩, zRet ht hP hD [0, 1, 2, 3, 4] (by decide) rfl⟩, hS.F ht⟩) hS.2.2 dX8_strong_59

