set_option maxHeartbeats 4000000 in
set_option maxRecDepth 100000 in
theorem c_F_M_firstOf_0 (l : Launch) (D : va_G) (cI cJ cZ cP cS : ClassId) (po : zPool) (m0 mrf mki mpa mta mla msl mco mhe mso msi msh mce mca mwo mnu mte mwa mke mma mth mtr : Nat) (npu nte nat_ nde nto nse nhu nga nsd nfa nba npl nen nnu nwr nra nik : Int32) (gki gpa gta gco : Nat → Int32) (hy0 : 0 ≤ npu.toInt) (hy1 : npu.toInt ≤ 8) (hy2 : 4 ≤ nte.toInt) (hy3 : nte.toInt ≤ 40) (hy4 : 0 ≤ nat_.toInt) (hy5 : nat_.toInt ≤ 40) (hy6 : 0 ≤ nde.toInt) (hy7 : nde.toInt ≤ 24) (hy8 : 0 ≤ nhu.toInt) (hy9 : nhu.toInt ≤ 9) (hy10 : 0 ≤ nra.toInt) (hy11 : nra.toInt ≤ 2000) (hy12 : 0 ≤ nik.toInt) (hy13 : nik.toInt ≤ 1) (hy14 : 0 ≤ nse.toInt) (hy15 : nse.toInt ≤ 300) (hp_gki : zRg gki (0) 6) (hp_gpa : zRg gpa (0) 9) (hp_gta : zRg gta (0) 60) (hp_gco : zRg gco (0) 99) : Met l yX8_firstOf wsX8_firstOf ({ frames := 2, cells := 0, slots := 0, locals := 47 }) (va_Pc [.ref m0, .int 0] (zR D (zKT cI cJ cZ cP cS) po [(zMO m0 npu nte nat_ nde nto nse nhu nga nsd nfa mrf mki mpa mta mla msl mco mhe mso msi msh mce mca mwo mnu mte nba npl nen nnu nwr mwa mke mma mth mtr nra nik), (mki, .inl (cI, 8, .inl gki)), (mpa, .inl (cI, 8, .inl gpa)), (mta, .inl (cI, 8, .inl gta)), (mco, .inl (cI, 3, .inl gco))])) (vp_Si (fun r => -1 ≤ r.toInt ∧ r.toInt ≤ 101 ∧ (r.toInt = zLr gki gpa gta npu.toInt.toNat nhu.toInt (gco 0).toInt (gco 1).toInt (gco 2).toInt 0 nde.toInt nse.toInt))) 0 0 (fun _ => False) := by
  refine Met.ofW (cc := cX8_firstOf) (maxL := 4) (ret := (some .int)) (by decide) rfl ?_
  intro p e s m args below meth c s₁ B hml hv
  obtain ⟨rfl, hP, hK, hN, hZ⟩ := hv
  have hx := B.exec
  have hb := B.bytes
  have hr := B.returns
  have hts := atoms_spec (ws := wsX8_firstOf) B.pre
  have hown : s.vm.findClass RX8 = some m.cls := findClass_of_methodNamed B.named
  have hlocks := B.notSynchronized
  have hl := lv_entry ([.ref m0, .int 0]) (n := 4) (Nat.le_of_ble_eq_true rfl)
  rw [lg_entry_eq]
  generalize (lg_sl ([.ref m0, .int 0]) ++ List.replicate (4 - (lg_sl ([.ref m0, .int 0])).length) Slot.unset).toArray = ls at hl ⊢
  replace hl : lv_has ls 4 [(0, .ref m0), (1, .int 0)] := hl
  refine lv_aload_n hx hb dX8_firstOf_0 rfl (lv_at hl 0 rfl) ?_
  refine va_get (D := D) (ci := 8) (v := .int nde) (C := RX8) (T := TX8) (N := 38) hx hb hts hi_X8_firstOf_8 hown hK hP 0 rfl rfl 3 (by decide) (hts (.fieldLink RX8 115 "TheLiningsInItModel" "depth" "I") (List.mem_of_getElem? (i := 1) rfl)) (fun _ h9 => h9) rfl dX8_firstOf_1 ?_
  refine lv_if_ne (tgt := 9) hx hb dX8_firstOf_4 (by decide) (fun c_1 => ?_) (fun c_1 => ?_)
  · have fc_1 : nde.toInt ≠ 0 := zf_ne c_1 rfl (by decide)
    refine lv_aload_n hx hb dX8_firstOf_9 rfl (lv_at hl 0 rfl) ?_
    refine lv_iload_n hx hb dX8_firstOf_10 rfl (lv_at hl 1 rfl) ?_
    refine lv_aload_n hx hb dX8_firstOf_11 rfl (lv_at hl 0 rfl) ?_
    refine va_get (D := D) (ci := 8) (v := .int nde) (C := RX8) (T := TX8) (N := 38) hx hb hts hi_X8_firstOf_8 hown hK hP 0 rfl rfl 3 (by decide) (hts (.fieldLink RX8 115 "TheLiningsInItModel" "depth" "I") (List.mem_of_getElem? (i := 1) rfl)) (fun _ h9 => h9) rfl dX8_firstOf_12 ?_
    refine lv_aload_n hx hb dX8_firstOf_15 rfl (lv_at hl 0 rfl) ?_
    refine va_get (D := D) (ci := 8) (v := .int nse) (C := RX8) (T := TX8) (N := 38) hx hb hts hi_X8_firstOf_8 hown hK hP 0 rfl rfl 5 (by decide) (hts (.fieldLink RX8 13 "TheLiningsInItModel" "seconds" "I") (List.mem_of_getElem? (i := 2) rfl)) (fun _ h9 => h9) rfl dX8_firstOf_16 ?_
    refine zc_V (As := [.int 0, .int nde, .int nse]) (rest := []) ⟨hx, hb, hml, hown, hts⟩ (c_F_M_leastCost_0 l D cI cJ cZ cP cS po m0 mrf mki mpa mta mla msl mco mhe mso msi msh mce mca mwo mnu mte mwa mke mma mth mtr (npu) (nte) (nat_) (nde) (nto) (nse) (nhu) (nga) (nsd) (nfa) (nba) (npl) (nen) (nnu) (nwr) (nra) (nik) gki gpa gta gco (nde) (nse) hy0 hy1 hy2 hy3 hy4 hy5 hy6 hy7 hy8 hy9 hy10 hy11 hy12 hy13 hy6 hy7 hy14 hy15 hp_gki hp_gpa hp_gta hp_gco) (cwV 3 hts gX8_firstOf_X8_leastCost rfl rfl rfl ⟨rfl, dh_X8_leastCost⟩ ⟨Nat.le_of_ble_eq_true rfl, Nat.le_of_ble_eq_true rfl⟩) hK hN hZ hP (hP.sub [0, 1, 2, 3, 4] rfl) (va_recv (q := (RX8, TX8, 38)) hK hP (ci := 8) (q0 := 0) rfl rfl) rfl hl.1 rfl (Nat.le_of_ble_eq_true rfl) dX8_firstOf_19 ⟨Nat.le_of_ble_eq_true rfl, Nat.le_of_ble_eq_true rfl⟩ (fun r_2 hr_2 => ?_)
    obtain ⟨g_3, g_4, hsr_2_0⟩ := hr_2
    refine lv_istore_n (lv' := [(2, .int r_2), (0, .ref m0), (1, .int 0)]) hx hb dX8_firstOf_22 rfl hl (by decide) rfl (fun ls hl => ?_)
    refine lv_iconst (v := 0) hx hb dX8_firstOf_23 (by decide) ?_
    refine lv_istore_n (lv' := [(3, .int 0), (2, .int r_2), (0, .ref m0), (1, .int 0)]) hx hb dX8_firstOf_24 rfl hl (by decide) rfl (fun ls hl => ?_)
    refine lv_iload_n hx hb dX8_firstOf_25 rfl (lv_at hl 0 rfl) ?_
    refine lv_aload_n hx hb dX8_firstOf_26 rfl (lv_at hl 2 rfl) ?_
    refine va_get (D := D) (ci := 8) (v := .int npu) (C := RX8) (T := TX8) (N := 38) hx hb hts hi_X8_firstOf_8 hown hK hP 0 rfl rfl 0 (by decide) (hts (.fieldLink RX8 90 "TheLiningsInItModel" "pulls" "I") (List.mem_of_getElem? (i := 3) rfl)) (fun _ h9 => h9) rfl dX8_firstOf_27 ?_
    refine lv_icmp_ge (tgt := 79) hx hb dX8_firstOf_30 (by decide) (fun c_5 => ?_) (fun c_5 => ?_)
    · have fc_5 : npu.toInt ≤ 0 := zf_le c_5 rfl (by decide)
      refine lv_aload_n hx hb dX8_firstOf_79 rfl (lv_at hl 2 rfl) ?_
      refine va_get (D := D) (ci := 8) (v := .int nse) (C := RX8) (T := TX8) (N := 38) hx hb hts hi_X8_firstOf_8 hown hK hP 0 rfl rfl 5 (by decide) (hts (.fieldLink RX8 13 "TheLiningsInItModel" "seconds" "I") (List.mem_of_getElem? (i := 2) rfl)) (fun _ h9 => h9) rfl dX8_firstOf_80 ?_
      refine lv_bipush (v := 30) hx hb dX8_firstOf_83 (by decide) ?_
      refine lv_icmp_lt (tgt := 109) hx hb dX8_firstOf_85 (by decide) (fun c_6 => ?_) (fun c_6 => ?_)
      · have fc_6 : nse.toInt < 30 := zf_lt c_6 rfl (by decide)
        refine lv_bipush (v := 100) hx hb dX8_firstOf_109 (by decide) ?_
        exact W.iret (v := 100) hx hb hr (fun t ht hW => ⟨100, rfl, ⟨by decide, by decide, (show (100 : Int32).toInt = zLr gki gpa gta npu.toInt.toNat nhu.toInt (gco 0).toInt (gco 1).toInt (gco 2).toInt 0 nde.toInt nse.toInt from by (have k1 : (101 : Int32).toInt = 101 := (by decide); have k2 : (100 : Int32).toInt = 100 := (by decide); have zl := hsr_2_0; have hL : zLn gki gpa gta npu.toInt.toNat nhu.toInt (gco 0).toInt (gco 1).toInt (gco 2).toInt 0 nde.toInt nse.toInt = zPw 0 * zAt (gco 1).toInt (gco 2).toInt nse.toInt := (by rw [zLn_0, if_neg (by omega)]); have hh := zHead (P := zPw 0) (c1 := (gco 1).toInt) (c2 := (gco 2).toInt) (s := nse.toInt) (zPw_pos 0); rw [← hL, ← zl, show zPw 0 = 1 from by decide] at hh; unfold zLr; rw [if_neg (by omega), if_pos (Or.inl rfl : (0 : Nat) = 0 ∨ _)]; first | (rw [if_neg (fun z => by (have z2 := hh.mpr z; have z3 := z2.2; have z4 := z2.1; omega))]; omega) | (rw [if_pos (hh.mp ⟨by omega, by omega⟩)]; omega)))⟩, ht⟩) (fun q hq => by cases hq) dX8_firstOf_111
      · have fc_6 : 30 ≤ nse.toInt := zf_nlt c_6 rfl (by decide)
        refine lv_aload_n hx hb dX8_firstOf_88 rfl (lv_at hl 2 rfl) ?_
        refine va_get (D := D) (ci := 8) (v := .ref mco) (C := RX8) (T := TX8) (N := 38) hx hb hts hi_X8_firstOf_8 hown hK hP 0 rfl rfl 16 (by decide) (hts (.fieldLink RX8 44 "TheLiningsInItModel" "cost" "[I") (List.mem_of_getElem? (i := 4) rfl)) (fun _ h9 => h9) rfl dX8_firstOf_89 ?_
        refine lv_iconst (v := 1) hx hb dX8_firstOf_92 (by decide) ?_
        refine va_iald hx hb hK hP 4 0 rfl rfl (zf_in (by decide) (by decide)) dX8_firstOf_93 ?_
        refine lv_topi (fun x_7 ex_7 => ?_)
        have bx_7 : 0 ≤ x_7.toInt ∧ x_7.toInt ≤ 99 := by rw [ex_7]; exact hp_gco _
        refine lv_aload_n hx hb dX8_firstOf_94 rfl (lv_at hl 2 rfl) ?_
        refine lv_iload_n hx hb dX8_firstOf_95 rfl (lv_at hl 3 rfl) ?_
        refine zc_V (As := [.int 0]) (rest := [.int x_7]) ⟨hx, hb, hml, hown, hts⟩ (c_M_power_0 l D cI cJ cZ cP cS po m0 mrf mki mpa mta mla msl mco mhe mso msi msh mce mca mwo mnu mte mwa mke mma mth mtr (npu) (nte) (nat_) (nde) (nto) (nse) (nhu) (nga) (nsd) (nfa) (nba) (npl) (nen) (nnu) (nwr) (nra) (nik) hy0 hy1 hy2 hy3 hy4 hy5 hy6 hy7 hy8 hy9 hy10 hy11 hy12 hy13) (cwV 1 hts gX8_firstOf_X8_power rfl rfl rfl ⟨rfl, dh_X8_power⟩ ⟨Nat.le_of_ble_eq_true rfl, Nat.le_of_ble_eq_true rfl⟩) hK hN hZ hP (hP.sub [0] rfl) (va_recv (q := (RX8, TX8, 38)) hK hP (ci := 8) (q0 := 0) rfl rfl) rfl hl.1 rfl (Nat.le_of_ble_eq_true rfl) dX8_firstOf_96 ⟨Nat.le_of_ble_eq_true rfl, Nat.le_of_ble_eq_true rfl⟩ (fun r_8 hr_8 => ?_)
        obtain rfl := hr_8
        refine lv_imul hx hb dX8_firstOf_99 ?_
        refine lv_topi (fun x_9 ex_9 => ?_)
        have qx_9 : x_9.toInt = x_7.toInt * 1 := by rw [ex_9]; exact zf_mul rfl (by decide) (by omega) (by omega)
        refine lv_iload_n hx hb dX8_firstOf_100 rfl (lv_at hl 1 rfl) ?_
        refine lv_icmp_ne (tgt := 109) hx hb dX8_firstOf_101 (by decide) (fun c_10 => ?_) (fun c_10 => ?_)
        · have fc_10 : x_9.toInt ≠ r_2.toInt := zf_ne c_10 rfl rfl
          refine lv_bipush (v := 100) hx hb dX8_firstOf_109 (by decide) ?_
          exact W.iret (v := 100) hx hb hr (fun t ht hW => ⟨100, rfl, ⟨by decide, by decide, (show (100 : Int32).toInt = zLr gki gpa gta npu.toInt.toNat nhu.toInt (gco 0).toInt (gco 1).toInt (gco 2).toInt 0 nde.toInt nse.toInt from by (have k1 : (101 : Int32).toInt = 101 := (by decide); have k2 : (100 : Int32).toInt = 100 := (by decide); have nx_7 : (gco 1).toInt = x_7.toInt := (by rw [ex_7, show (1 : Int32).toNatClampNeg = 1 from by decide]); have zl := hsr_2_0; have hL : zLn gki gpa gta npu.toInt.toNat nhu.toInt (gco 0).toInt (gco 1).toInt (gco 2).toInt 0 nde.toInt nse.toInt = zPw 0 * zAt (gco 1).toInt (gco 2).toInt nse.toInt := (by rw [zLn_0, if_neg (by omega)]); have hh := zHead (P := zPw 0) (c1 := (gco 1).toInt) (c2 := (gco 2).toInt) (s := nse.toInt) (zPw_pos 0); rw [← hL, ← zl, show zPw 0 = 1 from by decide] at hh; unfold zLr; rw [if_neg (by omega), if_pos (Or.inl rfl : (0 : Nat) = 0 ∨ _)]; first | (rw [if_neg (fun z => by (have z2 := hh.mpr z; have z3 := z2.2; have z4 := z2.1; omega))]; omega) | (rw [if_pos (hh.mp ⟨by omega, by omega⟩)]; omega)))⟩, ht⟩) (fun q hq => by cases hq) dX8_firstOf_111
        · have fc_10 : x_9.toInt = r_2.toInt := zf_eq c_10 rfl rfl
          refine lv_bipush (v := 101) hx hb dX8_firstOf_104 (by decide) ?_
          refine lv_goto (tgt := 111) hx hb dX8_firstOf_106 (by decide) ?_
          exact W.iret (v := 101) hx hb hr (fun t ht hW => ⟨101, rfl, ⟨by decide, by decide, (show (101 : Int32).toInt = zLr gki gpa gta npu.toInt.toNat nhu.toInt (gco 0).toInt (gco 1).toInt (gco 2).toInt 0 nde.toInt nse.toInt from by (have k1 : (101 : Int32).toInt = 101 := (by decide); have k2 : (100 : Int32).toInt = 100 := (by decide); have nx_7 : (gco 1).toInt = x_7.toInt := (by rw [ex_7, show (1 : Int32).toNatClampNeg = 1 from by decide]); have zl := hsr_2_0; have hL : zLn gki gpa gta npu.toInt.toNat nhu.toInt (gco 0).toInt (gco 1).toInt (gco 2).toInt 0 nde.toInt nse.toInt = zPw 0 * zAt (gco 1).toInt (gco 2).toInt nse.toInt := (by rw [zLn_0, if_neg (by omega)]); have hh := zHead (P := zPw 0) (c1 := (gco 1).toInt) (c2 := (gco 2).toInt) (s := nse.toInt) (zPw_pos 0); rw [← hL, ← zl, show zPw 0 = 1 from by decide] at hh; unfold zLr; rw [if_neg (by omega), if_pos (Or.inl rfl : (0 : Nat) = 0 ∨ _)]; first | (rw [if_pos (hh.mp ⟨by omega, by omega⟩)]; omega) | (rw [if_neg (fun z => by (have z2 := hh.mpr z; have z3 := z2.2; have z4 := z2.1; omega))]; omega)))⟩, ht⟩) (fun q hq => by cases hq) dX8_firstOf_111
    · have fc_5 : 0 < npu.toInt := zf_nle c_5 rfl (by decide)
      refine lv_iload_n hx hb dX8_firstOf_33 rfl (lv_at hl 3 rfl) ?_
      refine lv_if_le (tgt := 79) hx hb dX8_firstOf_34 (by decide) (fun c_11 => ?_) (fun c_11 => ?_)
      · refine lv_aload_n hx hb dX8_firstOf_79 rfl (lv_at hl 2 rfl) ?_
        refine va_get (D := D) (ci := 8) (v := .int nse) (C := RX8) (T := TX8) (N := 38) hx hb hts hi_X8_firstOf_8 hown hK hP 0 rfl rfl 5 (by decide) (hts (.fieldLink RX8 13 "TheLiningsInItModel" "seconds" "I") (List.mem_of_getElem? (i := 2) rfl)) (fun _ h9 => h9) rfl dX8_firstOf_80 ?_
        refine lv_bipush (v := 30) hx hb dX8_firstOf_83 (by decide) ?_
        refine lv_icmp_lt (tgt := 109) hx hb dX8_firstOf_85 (by decide) (fun c_12 => ?_) (fun c_12 => ?_)
        · have fc_12 : nse.toInt < 30 := zf_lt c_12 rfl (by decide)
          refine lv_bipush (v := 100) hx hb dX8_firstOf_109 (by decide) ?_
          exact W.iret (v := 100) hx hb hr (fun t ht hW => ⟨100, rfl, ⟨by decide, by decide, (show (100 : Int32).toInt = zLr gki gpa gta npu.toInt.toNat nhu.toInt (gco 0).toInt (gco 1).toInt (gco 2).toInt 0 nde.toInt nse.toInt from by (have k1 : (101 : Int32).toInt = 101 := (by decide); have k2 : (100 : Int32).toInt = 100 := (by decide); have zl := hsr_2_0; have hL : zLn gki gpa gta npu.toInt.toNat nhu.toInt (gco 0).toInt (gco 1).toInt (gco 2).toInt 0 nde.toInt nse.toInt = zPw 0 * zAt (gco 1).toInt (gco 2).toInt nse.toInt := (by rw [zLn_0, if_neg (by omega)]); have hh := zHead (P := zPw 0) (c1 := (gco 1).toInt) (c2 := (gco 2).toInt) (s := nse.toInt) (zPw_pos 0); rw [← hL, ← zl, show zPw 0 = 1 from by decide] at hh; unfold zLr; rw [if_neg (by omega), if_pos (Or.inl rfl : (0 : Nat) = 0 ∨ _)]; first | (rw [if_neg (fun z => by (have z2 := hh.mpr z; have z3 := z2.2; have z4 := z2.1; omega))]; omega) | (rw [if_pos (hh.mp ⟨by omega, by omega⟩)]; omega)))⟩, ht⟩) (fun q hq => by cases hq) dX8_firstOf_111
        · have fc_12 : 30 ≤ nse.toInt := zf_nlt c_12 rfl (by decide)
          refine lv_aload_n hx hb dX8_firstOf_88 rfl (lv_at hl 2 rfl) ?_
          refine va_get (D := D) (ci := 8) (v := .ref mco) (C := RX8) (T := TX8) (N := 38) hx hb hts hi_X8_firstOf_8 hown hK hP 0 rfl rfl 16 (by decide) (hts (.fieldLink RX8 44 "TheLiningsInItModel" "cost" "[I") (List.mem_of_getElem? (i := 4) rfl)) (fun _ h9 => h9) rfl dX8_firstOf_89 ?_
          refine lv_iconst (v := 1) hx hb dX8_firstOf_92 (by decide) ?_
          refine va_iald hx hb hK hP 4 0 rfl rfl (zf_in (by decide) (by decide)) dX8_firstOf_93 ?_
          refine lv_topi (fun x_13 ex_13 => ?_)
          have bx_13 : 0 ≤ x_13.toInt ∧ x_13.toInt ≤ 99 := by rw [ex_13]; exact hp_gco _
          refine lv_aload_n hx hb dX8_firstOf_94 rfl (lv_at hl 2 rfl) ?_
          refine lv_iload_n hx hb dX8_firstOf_95 rfl (lv_at hl 3 rfl) ?_
          refine zc_V (As := [.int 0]) (rest := [.int x_13]) ⟨hx, hb, hml, hown, hts⟩ (c_M_power_0 l D cI cJ cZ cP cS po m0 mrf mki mpa mta mla msl mco mhe mso msi msh mce mca mwo mnu mte mwa mke mma mth mtr (npu) (nte) (nat_) (nde) (nto) (nse) (nhu) (nga) (nsd) (nfa) (nba) (npl) (nen) (nnu) (nwr) (nra) (nik) hy0 hy1 hy2 hy3 hy4 hy5 hy6 hy7 hy8 hy9 hy10 hy11 hy12 hy13) (cwV 1 hts gX8_firstOf_X8_power rfl rfl rfl ⟨rfl, dh_X8_power⟩ ⟨Nat.le_of_ble_eq_true rfl, Nat.le_of_ble_eq_true rfl⟩) hK hN hZ hP (hP.sub [0] rfl) (va_recv (q := (RX8, TX8, 38)) hK hP (ci := 8) (q0 := 0) rfl rfl) rfl hl.1 rfl (Nat.le_of_ble_eq_true rfl) dX8_firstOf_96 ⟨Nat.le_of_ble_eq_true rfl, Nat.le_of_ble_eq_true rfl⟩ (fun r_14 hr_14 => ?_)
          obtain rfl := hr_14
          refine lv_imul hx hb dX8_firstOf_99 ?_
          refine lv_topi (fun x_15 ex_15 => ?_)
          have qx_15 : x_15.toInt = x_13.toInt * 1 := by rw [ex_15]; exact zf_mul rfl (by decide) (by omega) (by omega)
          refine lv_iload_n hx hb dX8_firstOf_100 rfl (lv_at hl 1 rfl) ?_
          refine lv_icmp_ne (tgt := 109) hx hb dX8_firstOf_101 (by decide) (fun c_16 => ?_) (fun c_16 => ?_)
          · have fc_16 : x_15.toInt ≠ r_2.toInt := zf_ne c_16 rfl rfl
            refine lv_bipush (v := 100) hx hb dX8_firstOf_109 (by decide) ?_
            exact W.iret (v := 100) hx hb hr (fun t ht hW => ⟨100, rfl, ⟨by decide, by decide, (show (100 : Int32).toInt = zLr gki gpa gta npu.toInt.toNat nhu.toInt (gco 0).toInt (gco 1).toInt (gco 2).toInt 0 nde.toInt nse.toInt from by (have k1 : (101 : Int32).toInt = 101 := (by decide); have k2 : (100 : Int32).toInt = 100 := (by decide); have nx_13 : (gco 1).toInt = x_13.toInt := (by rw [ex_13, show (1 : Int32).toNatClampNeg = 1 from by decide]); have zl := hsr_2_0; have hL : zLn gki gpa gta npu.toInt.toNat nhu.toInt (gco 0).toInt (gco 1).toInt (gco 2).toInt 0 nde.toInt nse.toInt = zPw 0 * zAt (gco 1).toInt (gco 2).toInt nse.toInt := (by rw [zLn_0, if_neg (by omega)]); have hh := zHead (P := zPw 0) (c1 := (gco 1).toInt) (c2 := (gco 2).toInt) (s := nse.toInt) (zPw_pos 0); rw [← hL, ← zl, show zPw 0 = 1 from by decide] at hh; unfold zLr; rw [if_neg (by omega), if_pos (Or.inl rfl : (0 : Nat) = 0 ∨ _)]; first | (rw [if_neg (fun z => by (have z2 := hh.mpr z; have z3 := z2.2; have z4 := z2.1; omega))]; omega) | (rw [if_pos (hh.mp ⟨by omega, by omega⟩)]; omega)))⟩, ht⟩) (fun q hq => by cases hq) dX8_firstOf_111
          · have fc_16 : x_15.toInt = r_2.toInt := zf_eq c_16 rfl rfl
            refine lv_bipush (v := 101) hx hb dX8_firstOf_104 (by decide) ?_
            refine lv_goto (tgt := 111) hx hb dX8_firstOf_106 (by decide) ?_
            exact W.iret (v := 101) hx hb hr (fun t ht hW => ⟨101, rfl, ⟨by decide, by decide, (show (101 : Int32).toInt = zLr gki gpa gta npu.toInt.toNat nhu.toInt (gco 0).toInt (gco 1).toInt (gco 2).toInt 0 nde.toInt nse.toInt from by (have k1 : (101 : Int32).toInt = 101 := (by decide); have k2 : (100 : Int32).toInt = 100 := (by decide); have nx_13 : (gco 1).toInt = x_13.toInt := (by rw [ex_13, show (1 : Int32).toNatClampNeg = 1 from by decide]); have zl := hsr_2_0; have hL : zLn gki gpa gta npu.toInt.toNat nhu.toInt (gco 0).toInt (gco 1).toInt (gco 2).toInt 0 nde.toInt nse.toInt = zPw 0 * zAt (gco 1).toInt (gco 2).toInt nse.toInt := (by rw [zLn_0, if_neg (by omega)]); have hh := zHead (P := zPw 0) (c1 := (gco 1).toInt) (c2 := (gco 2).toInt) (s := nse.toInt) (zPw_pos 0); rw [← hL, ← zl, show zPw 0 = 1 from by decide] at hh; unfold zLr; rw [if_neg (by omega), if_pos (Or.inl rfl : (0 : Nat) = 0 ∨ _)]; first | (rw [if_pos (hh.mp ⟨by omega, by omega⟩)]; omega) | (rw [if_neg (fun z => by (have z2 := hh.mpr z; have z3 := z2.2; have z4 := z2.1; omega))]; omega)))⟩, ht⟩) (fun q hq => by cases hq) dX8_firstOf_111
      · exact absurd c_11 (by decide)
  · have fc_1 : nde.toInt = 0 := zf_eq c_1 rfl (by decide)
    refine lv_iconst (v := (-1)) hx hb dX8_firstOf_7 (by decide) ?_
    exact W.iret (v := (-1)) hx hb hr (fun t ht hW => ⟨(-1), rfl, ⟨by decide, by decide, (show ((-1) : Int32).toInt = zLr gki gpa gta npu.toInt.toNat nhu.toInt (gco 0).toInt (gco 1).toInt (gco 2).toInt 0 nde.toInt nse.toInt from by (have k9 : ((-1) : Int32).toInt = -1 := (by decide); unfold zLr; rw [if_pos (by omega)]; exact k9))⟩, ht⟩) (fun q hq => by cases hq) dX8_firstOf_8
set_option maxHeartbeats 4000000 in
set_option maxRecDepth 100000 in
theorem c_F_M_firstOf_1 (l : Launch) (D : va_G) (cI cJ cZ cP cS : ClassId) (po : zPool) (m0 mrf mki mpa mta mla msl mco mhe mso msi msh mce mca mwo mnu mte mwa mke mma mth mtr : Nat) (npu nte nat_ nde nto nse nhu nga nsd nfa nba npl nen nnu nwr nra nik : Int32) (gki gpa gta gco : Nat → Int32) (hy0 : 0 ≤ npu.toInt) (hy1 : npu.toInt ≤ 8) (hy2 : 4 ≤ nte.toInt) (hy3 : nte.toInt ≤ 40) (hy4 : 0 ≤ nat_.toInt) (hy5 : nat_.toInt ≤ 40) (hy6 : 0 ≤ nde.toInt) (hy7 : nde.toInt ≤ 24) (hy8 : 0 ≤ nhu.toInt) (hy9 : nhu.toInt ≤ 9) (hy10 : 0 ≤ nra.toInt) (hy11 : nra.toInt ≤ 2000) (hy12 : 0 ≤ nik.toInt) (hy13 : nik.toInt ≤ 1) (hy14 : 0 ≤ nse.toInt) (hy15 : nse.toInt ≤ 300) (hp_gki : zRg gki (0) 6) (hp_gpa : zRg gpa (0) 9) (hp_gta : zRg gta (0) 60) (hp_gco : zRg gco (0) 99) : Met l yX8_firstOf wsX8_firstOf ({ frames := 4, cells := 0, slots := 0, locals := 99 }) (va_Pc [.ref m0, .int 1] (zR D (zKT cI cJ cZ cP cS) po [(zMO m0 npu nte nat_ nde nto nse nhu nga nsd nfa mrf mki mpa mta mla msl mco mhe mso msi msh mce mca mwo mnu mte nba npl nen nnu nwr mwa mke mma mth mtr nra nik), (mki, .inl (cI, 8, .inl gki)), (mpa, .inl (cI, 8, .inl gpa)), (mta, .inl (cI, 8, .inl gta)), (mco, .inl (cI, 3, .inl gco))])) (vp_Si (fun r => -1 ≤ r.toInt ∧ r.toInt ≤ 101 ∧ (r.toInt = zLr gki gpa gta npu.toInt.toNat nhu.toInt (gco 0).toInt (gco 1).toInt (gco 2).toInt 1 nde.toInt nse.toInt))) 0 0 (fun _ => False) := by
  refine Met.ofW (cc := cX8_firstOf) (maxL := 4) (ret := (some .int)) (by decide) rfl ?_
  intro p e s m args below meth c s₁ B hml hv
  obtain ⟨rfl, hP, hK, hN, hZ⟩ := hv
  have hx := B.exec
  have hb := B.bytes
  have hr := B.returns
  have hts := atoms_spec (ws := wsX8_firstOf) B.pre
  have hown : s.vm.findClass RX8 = some m.cls := findClass_of_methodNamed B.named
  have hlocks := B.notSynchronized
  have hl := lv_entry ([.ref m0, .int 1]) (n := 4) (Nat.le_of_ble_eq_true rfl)
  rw [lg_entry_eq]
  generalize (lg_sl ([.ref m0, .int 1]) ++ List.replicate (4 - (lg_sl ([.ref m0, .int 1])).length) Slot.unset).toArray = ls at hl ⊢
  replace hl : lv_has ls 4 [(0, .ref m0), (1, .int 1)] := hl
  refine lv_aload_n hx hb dX8_firstOf_0 rfl (lv_at hl 0 rfl) ?_
  refine va_get (D := D) (ci := 8) (v := .int nde) (C := RX8) (T := TX8) (N := 38) hx hb hts hi_X8_firstOf_8 hown hK hP 0 rfl rfl 3 (by decide) (hts (.fieldLink RX8 115 "TheLiningsInItModel" "depth" "I") (List.mem_of_getElem? (i := 1) rfl)) (fun _ h9 => h9) rfl dX8_firstOf_1 ?_
  refine lv_if_ne (tgt := 9) hx hb dX8_firstOf_4 (by decide) (fun c_1 => ?_) (fun c_1 => ?_)
  · have fc_1 : nde.toInt ≠ 0 := zf_ne c_1 rfl (by decide)
    refine lv_aload_n hx hb dX8_firstOf_9 rfl (lv_at hl 0 rfl) ?_
    refine lv_iload_n hx hb dX8_firstOf_10 rfl (lv_at hl 1 rfl) ?_
    refine lv_aload_n hx hb dX8_firstOf_11 rfl (lv_at hl 0 rfl) ?_
    refine va_get (D := D) (ci := 8) (v := .int nde) (C := RX8) (T := TX8) (N := 38) hx hb hts hi_X8_firstOf_8 hown hK hP 0 rfl rfl 3 (by decide) (hts (.fieldLink RX8 115 "TheLiningsInItModel" "depth" "I") (List.mem_of_getElem? (i := 1) rfl)) (fun _ h9 => h9) rfl dX8_firstOf_12 ?_
    refine lv_aload_n hx hb dX8_firstOf_15 rfl (lv_at hl 0 rfl) ?_
    refine va_get (D := D) (ci := 8) (v := .int nse) (C := RX8) (T := TX8) (N := 38) hx hb hts hi_X8_firstOf_8 hown hK hP 0 rfl rfl 5 (by decide) (hts (.fieldLink RX8 13 "TheLiningsInItModel" "seconds" "I") (List.mem_of_getElem? (i := 2) rfl)) (fun _ h9 => h9) rfl dX8_firstOf_16 ?_
    refine zc_V (As := [.int 1, .int nde, .int nse]) (rest := []) ⟨hx, hb, hml, hown, hts⟩ (c_F_M_leastCost_1 l D cI cJ cZ cP cS po m0 mrf mki mpa mta mla msl mco mhe mso msi msh mce mca mwo mnu mte mwa mke mma mth mtr (npu) (nte) (nat_) (nde) (nto) (nse) (nhu) (nga) (nsd) (nfa) (nba) (npl) (nen) (nnu) (nwr) (nra) (nik) gki gpa gta gco (nde) (nse) hy0 hy1 hy2 hy3 hy4 hy5 hy6 hy7 hy8 hy9 hy10 hy11 hy12 hy13 hy6 hy7 hy14 hy15 hp_gki hp_gpa hp_gta hp_gco) (cwV 3 hts gX8_firstOf_X8_leastCost rfl rfl rfl ⟨rfl, dh_X8_leastCost⟩ ⟨Nat.le_of_ble_eq_true rfl, Nat.le_of_ble_eq_true rfl⟩) hK hN hZ hP (hP.sub [0, 1, 2, 3, 4] rfl) (va_recv (q := (RX8, TX8, 38)) hK hP (ci := 8) (q0 := 0) rfl rfl) rfl hl.1 rfl (Nat.le_of_ble_eq_true rfl) dX8_firstOf_19 ⟨Nat.le_of_ble_eq_true rfl, Nat.le_of_ble_eq_true rfl⟩ (fun r_2 hr_2 => ?_)
    obtain ⟨g_3, g_4, hsr_2_0⟩ := hr_2
    refine lv_istore_n (lv' := [(2, .int r_2), (0, .ref m0), (1, .int 1)]) hx hb dX8_firstOf_22 rfl hl (by decide) rfl (fun ls hl => ?_)
    refine lv_iconst (v := 0) hx hb dX8_firstOf_23 (by decide) ?_
    refine lv_istore_n (lv' := [(3, .int 0), (2, .int r_2), (0, .ref m0), (1, .int 1)]) hx hb dX8_firstOf_24 rfl hl (by decide) rfl (fun ls hl => ?_)
    obtain ⟨i_25, hi_25⟩ : ∃ i : Int32, i = 0 := ⟨_, rfl⟩
    replace hl : lv_has ls 4 [(3, .int i_25), (2, .int r_2), (0, .ref m0), (1, .int 1)] := by rw [hi_25]; exact lv_sub hl [0, 1, 2, 3] rfl
    have h1i_25 : i_25.toInt = 0 := by rw [hi_25]; decide
    obtain ⟨nfu, hni_25⟩ : ∃ nq9 : Nat, npu.toInt ≤ i_25.toInt + (nq9 : Int) := ⟨((npu.toInt : Int) - 0).toNat, by omega⟩
    have hloi_25 : 0 ≤ i_25.toInt := by omega
    have hvi_25_0 : zFf gta nde.toInt nse.toInt ((zLn gki gpa gta npu.toInt.toNat nhu.toInt (gco 0).toInt (gco 1).toInt (gco 2).toInt 1) nde.toInt nse.toInt) (zLv (zLn gki gpa gta npu.toInt.toNat nhu.toInt (gco 0).toInt (gco 1).toInt (gco 2).toInt 0) gki gpa gta (gco 0).toInt (zPw 1) nhu.toInt nde.toInt nse.toInt) i_25.toInt.toNat = -1 := by
      (try rw [hi_25]); (rw [(show ((0 : Int32).toInt.toNat) = 0 from by decide)]; rfl)
    have hvi_25_1 : i_25.toInt ≤ npu.toInt := by
      (try rw [hi_25]); (have k0 : (0 : Int32).toInt = 0 := (by decide); omega)
    clear h1i_25 hi_25
    revert hni_25
    revert hloi_25
    revert hvi_25_1
    revert hvi_25_0
    revert hl
    revert ls
    revert i_25
    induction nfu with
    | zero =>
      intro i_25 ls hl hvi_25_0 hvi_25_1 hloi_25 hni_25
      have hzi_25 : npu.toInt ≤ i_25.toInt := by omega
      refine lv_iload_n hx hb dX8_firstOf_25 rfl (lv_at hl 0 rfl) ?_
      refine lv_aload_n hx hb dX8_firstOf_26 rfl (lv_at hl 2 rfl) ?_
      refine va_get (D := D) (ci := 8) (v := .int npu) (C := RX8) (T := TX8) (N := 38) hx hb hts hi_X8_firstOf_8 hown hK hP 0 rfl rfl 0 (by decide) (hts (.fieldLink RX8 90 "TheLiningsInItModel" "pulls" "I") (List.mem_of_getElem? (i := 3) rfl)) (fun _ h9 => h9) rfl dX8_firstOf_27 ?_
      refine lv_icmp_ge (tgt := 79) hx hb dX8_firstOf_30 (by decide) (fun c_5 => ?_) (fun c_5 => ?_)
      · have fc_5 : npu.toInt ≤ i_25.toInt := zf_le c_5 rfl rfl
        refine lv_aload_n hx hb dX8_firstOf_79 rfl (lv_at hl 2 rfl) ?_
        refine va_get (D := D) (ci := 8) (v := .int nse) (C := RX8) (T := TX8) (N := 38) hx hb hts hi_X8_firstOf_8 hown hK hP 0 rfl rfl 5 (by decide) (hts (.fieldLink RX8 13 "TheLiningsInItModel" "seconds" "I") (List.mem_of_getElem? (i := 2) rfl)) (fun _ h9 => h9) rfl dX8_firstOf_80 ?_
        refine lv_bipush (v := 30) hx hb dX8_firstOf_83 (by decide) ?_
        refine lv_icmp_lt (tgt := 109) hx hb dX8_firstOf_85 (by decide) (fun c_6 => ?_) (fun c_6 => ?_)
        · have fc_6 : nse.toInt < 30 := zf_lt c_6 rfl (by decide)
          refine lv_bipush (v := 100) hx hb dX8_firstOf_109 (by decide) ?_
          exact W.iret (v := 100) hx hb hr (fun t ht hW => ⟨100, rfl, ⟨by decide, by decide, (show (100 : Int32).toInt = zLr gki gpa gta npu.toInt.toNat nhu.toInt (gco 0).toInt (gco 1).toInt (gco 2).toInt 1 nde.toInt nse.toInt from by (have k1 : (101 : Int32).toInt = 101 := (by decide); have k2 : (100 : Int32).toInt = 100 := (by decide); have zl := hsr_2_0; have h9 : i_25.toInt.toNat = npu.toInt.toNat := (by omega); have z := hvi_25_0; rw [h9] at z; have hS := zLn_s (K := gki) (A := gpa) (T := gta) (N := npu.toInt.toNat) (n := 0) (h := nhu.toInt) (c0 := (gco 0).toInt) (c1 := (gco 1).toInt) (c2 := (gco 2).toInt) (d := nde.toInt) (s := nse.toInt); rw [if_neg (by omega)] at hS; have hL : zLn gki gpa gta npu.toInt.toNat nhu.toInt (gco 0).toInt (gco 1).toInt (gco 2).toInt 1 nde.toInt nse.toInt = zPw 1 * zAt (gco 1).toInt (gco 2).toInt nse.toInt := zFf_no npu.toInt.toNat (Or.inl hS) z hS; have hh := zHead (P := zPw 1) (c1 := (gco 1).toInt) (c2 := (gco 2).toInt) (s := nse.toInt) (zPw_pos 1); rw [← hL, ← zl, show zPw 1 = 12 from by decide] at hh; unfold zLr; rw [if_neg (by omega), show (1 : Nat) - 1 = 0 from by decide, if_pos (Or.inr z)]; first | (rw [if_neg (fun z => by (have z2 := hh.mpr z; have z3 := z2.2; have z4 := z2.1; omega))]; omega) | (rw [if_pos (hh.mp ⟨by omega, by omega⟩)]; omega)))⟩, ht⟩) (fun q hq => by cases hq) dX8_firstOf_111
        · have fc_6 : 30 ≤ nse.toInt := zf_nlt c_6 rfl (by decide)
          refine lv_aload_n hx hb dX8_firstOf_88 rfl (lv_at hl 2 rfl) ?_
          refine va_get (D := D) (ci := 8) (v := .ref mco) (C := RX8) (T := TX8) (N := 38) hx hb hts hi_X8_firstOf_8 hown hK hP 0 rfl rfl 16 (by decide) (hts (.fieldLink RX8 44 "TheLiningsInItModel" "cost" "[I") (List.mem_of_getElem? (i := 4) rfl)) (fun _ h9 => h9) rfl dX8_firstOf_89 ?_
          refine lv_iconst (v := 1) hx hb dX8_firstOf_92 (by decide) ?_
          refine va_iald hx hb hK hP 4 0 rfl rfl (zf_in (by decide) (by decide)) dX8_firstOf_93 ?_
          refine lv_topi (fun x_7 ex_7 => ?_)
          have bx_7 : 0 ≤ x_7.toInt ∧ x_7.toInt ≤ 99 := by rw [ex_7]; exact hp_gco _
          refine lv_aload_n hx hb dX8_firstOf_94 rfl (lv_at hl 2 rfl) ?_
          refine lv_iload_n hx hb dX8_firstOf_95 rfl (lv_at hl 3 rfl) ?_
          refine zc_V (As := [.int 1]) (rest := [.int x_7]) ⟨hx, hb, hml, hown, hts⟩ (c_M_power_1 l D cI cJ cZ cP cS po m0 mrf mki mpa mta mla msl mco mhe mso msi msh mce mca mwo mnu mte mwa mke mma mth mtr (npu) (nte) (nat_) (nde) (nto) (nse) (nhu) (nga) (nsd) (nfa) (nba) (npl) (nen) (nnu) (nwr) (nra) (nik) hy0 hy1 hy2 hy3 hy4 hy5 hy6 hy7 hy8 hy9 hy10 hy11 hy12 hy13) (cwV 1 hts gX8_firstOf_X8_power rfl rfl rfl ⟨rfl, dh_X8_power⟩ ⟨Nat.le_of_ble_eq_true rfl, Nat.le_of_ble_eq_true rfl⟩) hK hN hZ hP (hP.sub [0] rfl) (va_recv (q := (RX8, TX8, 38)) hK hP (ci := 8) (q0 := 0) rfl rfl) rfl hl.1 rfl (Nat.le_of_ble_eq_true rfl) dX8_firstOf_96 ⟨Nat.le_of_ble_eq_true rfl, Nat.le_of_ble_eq_true rfl⟩ (fun r_8 hr_8 => ?_)
          obtain rfl := hr_8
          refine lv_imul hx hb dX8_firstOf_99 ?_
          refine lv_topi (fun x_9 ex_9 => ?_)
          have qx_9 : x_9.toInt = x_7.toInt * 12 := by rw [ex_9]; exact zf_mul rfl (by decide) (by omega) (by omega)
          refine lv_iload_n hx hb dX8_firstOf_100 rfl (lv_at hl 1 rfl) ?_
          refine lv_icmp_ne (tgt := 109) hx hb dX8_firstOf_101 (by decide) (fun c_10 => ?_) (fun c_10 => ?_)
          · have fc_10 : x_9.toInt ≠ r_2.toInt := zf_ne c_10 rfl rfl
            refine lv_bipush (v := 100) hx hb dX8_firstOf_109 (by decide) ?_
            exact W.iret (v := 100) hx hb hr (fun t ht hW => ⟨100, rfl, ⟨by decide, by decide, (show (100 : Int32).toInt = zLr gki gpa gta npu.toInt.toNat nhu.toInt (gco 0).toInt (gco 1).toInt (gco 2).toInt 1 nde.toInt nse.toInt from by (have k1 : (101 : Int32).toInt = 101 := (by decide); have k2 : (100 : Int32).toInt = 100 := (by decide); have nx_7 : (gco 1).toInt = x_7.toInt := (by rw [ex_7, show (1 : Int32).toNatClampNeg = 1 from by decide]); have zl := hsr_2_0; have h9 : i_25.toInt.toNat = npu.toInt.toNat := (by omega); have z := hvi_25_0; rw [h9] at z; have hS := zLn_s (K := gki) (A := gpa) (T := gta) (N := npu.toInt.toNat) (n := 0) (h := nhu.toInt) (c0 := (gco 0).toInt) (c1 := (gco 1).toInt) (c2 := (gco 2).toInt) (d := nde.toInt) (s := nse.toInt); rw [if_neg (by omega)] at hS; have hL : zLn gki gpa gta npu.toInt.toNat nhu.toInt (gco 0).toInt (gco 1).toInt (gco 2).toInt 1 nde.toInt nse.toInt = zPw 1 * zAt (gco 1).toInt (gco 2).toInt nse.toInt := zFf_no npu.toInt.toNat (Or.inl hS) z hS; have hh := zHead (P := zPw 1) (c1 := (gco 1).toInt) (c2 := (gco 2).toInt) (s := nse.toInt) (zPw_pos 1); rw [← hL, ← zl, show zPw 1 = 12 from by decide] at hh; unfold zLr; rw [if_neg (by omega), show (1 : Nat) - 1 = 0 from by decide, if_pos (Or.inr z)]; first | (rw [if_neg (fun z => by (have z2 := hh.mpr z; have z3 := z2.2; have z4 := z2.1; omega))]; omega) | (rw [if_pos (hh.mp ⟨by omega, by omega⟩)]; omega)))⟩, ht⟩) (fun q hq => by cases hq) dX8_firstOf_111
          · have fc_10 : x_9.toInt = r_2.toInt := zf_eq c_10 rfl rfl
            refine lv_bipush (v := 101) hx hb dX8_firstOf_104 (by decide) ?_
            refine lv_goto (tgt := 111) hx hb dX8_firstOf_106 (by decide) ?_
            exact W.iret (v := 101) hx hb hr (fun t ht hW => ⟨101, rfl, ⟨by decide, by decide, (show (101 : Int32).toInt = zLr gki gpa gta npu.toInt.toNat nhu.toInt (gco 0).toInt (gco 1).toInt (gco 2).toInt 1 nde.toInt nse.toInt from by (have k1 : (101 : Int32).toInt = 101 := (by decide); have k2 : (100 : Int32).toInt = 100 := (by decide); have nx_7 : (gco 1).toInt = x_7.toInt := (by rw [ex_7, show (1 : Int32).toNatClampNeg = 1 from by decide]); have zl := hsr_2_0; have h9 : i_25.toInt.toNat = npu.toInt.toNat := (by omega); have z := hvi_25_0; rw [h9] at z; have hS := zLn_s (K := gki) (A := gpa) (T := gta) (N := npu.toInt.toNat) (n := 0) (h := nhu.toInt) (c0 := (gco 0).toInt) (c1 := (gco 1).toInt) (c2 := (gco 2).toInt) (d := nde.toInt) (s := nse.toInt); rw [if_neg (by omega)] at hS; have hL : zLn gki gpa gta npu.toInt.toNat nhu.toInt (gco 0).toInt (gco 1).toInt (gco 2).toInt 1 nde.toInt nse.toInt = zPw 1 * zAt (gco 1).toInt (gco 2).toInt nse.toInt := zFf_no npu.toInt.toNat (Or.inl hS) z hS; have hh := zHead (P := zPw 1) (c1 := (gco 1).toInt) (c2 := (gco 2).toInt) (s := nse.toInt) (zPw_pos 1); rw [← hL, ← zl, show zPw 1 = 12 from by decide] at hh; unfold zLr; rw [if_neg (by omega), show (1 : Nat) - 1 = 0 from by decide, if_pos (Or.inr z)]; first | (rw [if_pos (hh.mp ⟨by omega, by omega⟩)]; omega) | (rw [if_neg (fun z => by (have z2 := hh.mpr z; have z3 := z2.2; have z4 := z2.1; omega))]; omega)))⟩, ht⟩) (fun q hq => by cases hq) dX8_firstOf_111
      · exfalso; have fc_5 : i_25.toInt < npu.toInt := zf_nle c_5 rfl rfl; omega
    | succ nfu ih =>
      intro i_25 ls hl hvi_25_0 hvi_25_1 hloi_25 hni_25
      refine lv_iload_n hx hb dX8_firstOf_25 rfl (lv_at hl 0 rfl) ?_
      refine lv_aload_n hx hb dX8_firstOf_26 rfl (lv_at hl 2 rfl) ?_
      refine va_get (D := D) (ci := 8) (v := .int npu) (C := RX8) (T := TX8) (N := 38) hx hb hts hi_X8_firstOf_8 hown hK hP 0 rfl rfl 0 (by decide) (hts (.fieldLink RX8 90 "TheLiningsInItModel" "pulls" "I") (List.mem_of_getElem? (i := 3) rfl)) (fun _ h9 => h9) rfl dX8_firstOf_27 ?_
      refine lv_icmp_ge (tgt := 79) hx hb dX8_firstOf_30 (by decide) (fun c_11 => ?_) (fun c_11 => ?_)
      · have fc_11 : npu.toInt ≤ i_25.toInt := zf_le c_11 rfl rfl
        refine lv_aload_n hx hb dX8_firstOf_79 rfl (lv_at hl 2 rfl) ?_
        refine va_get (D := D) (ci := 8) (v := .int nse) (C := RX8) (T := TX8) (N := 38) hx hb hts hi_X8_firstOf_8 hown hK hP 0 rfl rfl 5 (by decide) (hts (.fieldLink RX8 13 "TheLiningsInItModel" "seconds" "I") (List.mem_of_getElem? (i := 2) rfl)) (fun _ h9 => h9) rfl dX8_firstOf_80 ?_
        refine lv_bipush (v := 30) hx hb dX8_firstOf_83 (by decide) ?_
        refine lv_icmp_lt (tgt := 109) hx hb dX8_firstOf_85 (by decide) (fun c_12 => ?_) (fun c_12 => ?_)
        · have fc_12 : nse.toInt < 30 := zf_lt c_12 rfl (by decide)
          refine lv_bipush (v := 100) hx hb dX8_firstOf_109 (by decide) ?_
          exact W.iret (v := 100) hx hb hr (fun t ht hW => ⟨100, rfl, ⟨by decide, by decide, (show (100 : Int32).toInt = zLr gki gpa gta npu.toInt.toNat nhu.toInt (gco 0).toInt (gco 1).toInt (gco 2).toInt 1 nde.toInt nse.toInt from by (have k1 : (101 : Int32).toInt = 101 := (by decide); have k2 : (100 : Int32).toInt = 100 := (by decide); have zl := hsr_2_0; have h9 : i_25.toInt.toNat = npu.toInt.toNat := (by omega); have z := hvi_25_0; rw [h9] at z; have hS := zLn_s (K := gki) (A := gpa) (T := gta) (N := npu.toInt.toNat) (n := 0) (h := nhu.toInt) (c0 := (gco 0).toInt) (c1 := (gco 1).toInt) (c2 := (gco 2).toInt) (d := nde.toInt) (s := nse.toInt); rw [if_neg (by omega)] at hS; have hL : zLn gki gpa gta npu.toInt.toNat nhu.toInt (gco 0).toInt (gco 1).toInt (gco 2).toInt 1 nde.toInt nse.toInt = zPw 1 * zAt (gco 1).toInt (gco 2).toInt nse.toInt := zFf_no npu.toInt.toNat (Or.inl hS) z hS; have hh := zHead (P := zPw 1) (c1 := (gco 1).toInt) (c2 := (gco 2).toInt) (s := nse.toInt) (zPw_pos 1); rw [← hL, ← zl, show zPw 1 = 12 from by decide] at hh; unfold zLr; rw [if_neg (by omega), show (1 : Nat) - 1 = 0 from by decide, if_pos (Or.inr z)]; first | (rw [if_neg (fun z => by (have z2 := hh.mpr z; have z3 := z2.2; have z4 := z2.1; omega))]; omega) | (rw [if_pos (hh.mp ⟨by omega, by omega⟩)]; omega)))⟩, ht⟩) (fun q hq => by cases hq) dX8_firstOf_111
        · have fc_12 : 30 ≤ nse.toInt := zf_nlt c_12 rfl (by decide)
          refine lv_aload_n hx hb dX8_firstOf_88 rfl (lv_at hl 2 rfl) ?_
          refine va_get (D := D) (ci := 8) (v := .ref mco) (C := RX8) (T := TX8) (N := 38) hx hb hts hi_X8_firstOf_8 hown hK hP 0 rfl rfl 16 (by decide) (hts (.fieldLink RX8 44 "TheLiningsInItModel" "cost" "[I") (List.mem_of_getElem? (i := 4) rfl)) (fun _ h9 => h9) rfl dX8_firstOf_89 ?_
          refine lv_iconst (v := 1) hx hb dX8_firstOf_92 (by decide) ?_
          refine va_iald hx hb hK hP 4 0 rfl rfl (zf_in (by decide) (by decide)) dX8_firstOf_93 ?_
          refine lv_topi (fun x_13 ex_13 => ?_)
          have bx_13 : 0 ≤ x_13.toInt ∧ x_13.toInt ≤ 99 := by rw [ex_13]; exact hp_gco _
          refine lv_aload_n hx hb dX8_firstOf_94 rfl (lv_at hl 2 rfl) ?_
          refine lv_iload_n hx hb dX8_firstOf_95 rfl (lv_at hl 3 rfl) ?_
          refine zc_V (As := [.int 1]) (rest := [.int x_13]) ⟨hx, hb, hml, hown, hts⟩ (c_M_power_1 l D cI cJ cZ cP cS po m0 mrf mki mpa mta mla msl mco mhe mso msi msh mce mca mwo mnu mte mwa mke mma mth mtr (npu) (nte) (nat_) (nde) (nto) (nse) (nhu) (nga) (nsd) (nfa) (nba) (npl) (nen) (nnu) (nwr) (nra) (nik) hy0 hy1 hy2 hy3 hy4 hy5 hy6 hy7 hy8 hy9 hy10 hy11 hy12 hy13) (cwV 1 hts gX8_firstOf_X8_power rfl rfl rfl ⟨rfl, dh_X8_power⟩ ⟨Nat.le_of_ble_eq_true rfl, Nat.le_of_ble_eq_true rfl⟩) hK hN hZ hP (hP.sub [0] rfl) (va_recv (q := (RX8, TX8, 38)) hK hP (ci := 8) (q0 := 0) rfl rfl) rfl hl.1 rfl (Nat.le_of_ble_eq_true rfl) dX8_firstOf_96 ⟨Nat.le_of_ble_eq_true rfl, Nat.le_of_ble_eq_true rfl⟩ (fun r_14 hr_14 => ?_)
          obtain rfl := hr_14
          refine lv_imul hx hb dX8_firstOf_99 ?_
          refine lv_topi (fun x_15 ex_15 => ?_)
          have qx_15 : x_15.toInt = x_13.toInt * 12 := by rw [ex_15]; exact zf_mul rfl (by decide) (by omega) (by omega)
          refine lv_iload_n hx hb dX8_firstOf_100 rfl (lv_at hl 1 rfl) ?_
          refine lv_icmp_ne (tgt := 109) hx hb dX8_firstOf_101 (by decide) (fun c_16 => ?_) (fun c_16 => ?_)
          · have fc_16 : x_15.toInt ≠ r_2.toInt := zf_ne c_16 rfl rfl
            refine lv_bipush (v := 100) hx hb dX8_firstOf_109 (by decide) ?_
            exact W.iret (v := 100) hx hb hr (fun t ht hW => ⟨100, rfl, ⟨by decide, by decide, (show (100 : Int32).toInt = zLr gki gpa gta npu.toInt.toNat nhu.toInt (gco 0).toInt (gco 1).toInt (gco 2).toInt 1 nde.toInt nse.toInt from by (have k1 : (101 : Int32).toInt = 101 := (by decide); have k2 : (100 : Int32).toInt = 100 := (by decide); have nx_13 : (gco 1).toInt = x_13.toInt := (by rw [ex_13, show (1 : Int32).toNatClampNeg = 1 from by decide]); have zl := hsr_2_0; have h9 : i_25.toInt.toNat = npu.toInt.toNat := (by omega); have z := hvi_25_0; rw [h9] at z; have hS := zLn_s (K := gki) (A := gpa) (T := gta) (N := npu.toInt.toNat) (n := 0) (h := nhu.toInt) (c0 := (gco 0).toInt) (c1 := (gco 1).toInt) (c2 := (gco 2).toInt) (d := nde.toInt) (s := nse.toInt); rw [if_neg (by omega)] at hS; have hL : zLn gki gpa gta npu.toInt.toNat nhu.toInt (gco 0).toInt (gco 1).toInt (gco 2).toInt 1 nde.toInt nse.toInt = zPw 1 * zAt (gco 1).toInt (gco 2).toInt nse.toInt := zFf_no npu.toInt.toNat (Or.inl hS) z hS; have hh := zHead (P := zPw 1) (c1 := (gco 1).toInt) (c2 := (gco 2).toInt) (s := nse.toInt) (zPw_pos 1); rw [← hL, ← zl, show zPw 1 = 12 from by decide] at hh; unfold zLr; rw [if_neg (by omega), show (1 : Nat) - 1 = 0 from by decide, if_pos (Or.inr z)]; first | (rw [if_neg (fun z => by (have z2 := hh.mpr z; have z3 := z2.2; have z4 := z2.1; omega))]; omega) | (rw [if_pos (hh.mp ⟨by omega, by omega⟩)]; omega)))⟩, ht⟩) (fun q hq => by cases hq) dX8_firstOf_111
          · have fc_16 : x_15.toInt = r_2.toInt := zf_eq c_16 rfl rfl
            refine lv_bipush (v := 101) hx hb dX8_firstOf_104 (by decide) ?_
            refine lv_goto (tgt := 111) hx hb dX8_firstOf_106 (by decide) ?_
            exact W.iret (v := 101) hx hb hr (fun t ht hW => ⟨101, rfl, ⟨by decide, by decide, (show (101 : Int32).toInt = zLr gki gpa gta npu.toInt.toNat nhu.toInt (gco 0).toInt (gco 1).toInt (gco 2).toInt 1 nde.toInt nse.toInt from by (have k1 : (101 : Int32).toInt = 101 := (by decide); have k2 : (100 : Int32).toInt = 100 := (by decide); have nx_13 : (gco 1).toInt = x_13.toInt := (by rw [ex_13, show (1 : Int32).toNatClampNeg = 1 from by decide]); have zl := hsr_2_0; have h9 : i_25.toInt.toNat = npu.toInt.toNat := (by omega); have z := hvi_25_0; rw [h9] at z; have hS := zLn_s (K := gki) (A := gpa) (T := gta) (N := npu.toInt.toNat) (n := 0) (h := nhu.toInt) (c0 := (gco 0).toInt) (c1 := (gco 1).toInt) (c2 := (gco 2).toInt) (d := nde.toInt) (s := nse.toInt); rw [if_neg (by omega)] at hS; have hL : zLn gki gpa gta npu.toInt.toNat nhu.toInt (gco 0).toInt (gco 1).toInt (gco 2).toInt 1 nde.toInt nse.toInt = zPw 1 * zAt (gco 1).toInt (gco 2).toInt nse.toInt := zFf_no npu.toInt.toNat (Or.inl hS) z hS; have hh := zHead (P := zPw 1) (c1 := (gco 1).toInt) (c2 := (gco 2).toInt) (s := nse.toInt) (zPw_pos 1); rw [← hL, ← zl, show zPw 1 = 12 from by decide] at hh; unfold zLr; rw [if_neg (by omega), show (1 : Nat) - 1 = 0 from by decide, if_pos (Or.inr z)]; first | (rw [if_pos (hh.mp ⟨by omega, by omega⟩)]; omega) | (rw [if_neg (fun z => by (have z2 := hh.mpr z; have z3 := z2.2; have z4 := z2.1; omega))]; omega)))⟩, ht⟩) (fun q hq => by cases hq) dX8_firstOf_111
      · have fc_11 : i_25.toInt < npu.toInt := zf_nle c_11 rfl rfl
        refine lv_iload_n hx hb dX8_firstOf_33 rfl (lv_at hl 3 rfl) ?_
        refine lv_if_le (tgt := 79) hx hb dX8_firstOf_34 (by decide) (fun c_17 => ?_) (fun c_17 => ?_)
        · exact absurd c_17 (by decide)
        · refine lv_aload_n hx hb dX8_firstOf_37 rfl (lv_at hl 2 rfl) ?_
          refine lv_iload_n hx hb dX8_firstOf_38 rfl (lv_at hl 0 rfl) ?_
          refine lv_aload_n hx hb dX8_firstOf_39 rfl (lv_at hl 2 rfl) ?_
          refine va_get (D := D) (ci := 8) (v := .int nde) (C := RX8) (T := TX8) (N := 38) hx hb hts hi_X8_firstOf_8 hown hK hP 0 rfl rfl 3 (by decide) (hts (.fieldLink RX8 115 "TheLiningsInItModel" "depth" "I") (List.mem_of_getElem? (i := 1) rfl)) (fun _ h9 => h9) rfl dX8_firstOf_40 ?_
          refine lv_aload_n hx hb dX8_firstOf_43 rfl (lv_at hl 2 rfl) ?_
          refine va_get (D := D) (ci := 8) (v := .int nse) (C := RX8) (T := TX8) (N := 38) hx hb hts hi_X8_firstOf_8 hown hK hP 0 rfl rfl 5 (by decide) (hts (.fieldLink RX8 13 "TheLiningsInItModel" "seconds" "I") (List.mem_of_getElem? (i := 2) rfl)) (fun _ h9 => h9) rfl dX8_firstOf_44 ?_
          refine zc_V (As := [.int i_25, .int nde, .int nse]) (rest := []) ⟨hx, hb, hml, hown, hts⟩ (c_F_M_mayBe l D cI cJ cZ cP cS po m0 mrf mki mpa mta mla msl mco mhe mso msi msh mce mca mwo mnu mte mwa mke mma mth mtr (npu) (nte) (nat_) (nde) (nto) (nse) (nhu) (nga) (nsd) (nfa) (nba) (npl) (nen) (nnu) (nwr) (nra) (nik) gta (i_25) (nde) (nse) hy0 hy1 hy2 hy3 hy4 hy5 hy6 hy7 hy8 hy9 hy10 hy11 hy12 hy13 (by omega) (by omega) hp_gta) (cwV 3 hts gX8_firstOf_X8_mayBe rfl rfl rfl ⟨rfl, dh_X8_mayBe⟩ ⟨Nat.le_of_ble_eq_true rfl, Nat.le_of_ble_eq_true rfl⟩) hK hN hZ hP (hP.sub [0, 3] rfl) (va_recv (q := (RX8, TX8, 38)) hK hP (ci := 8) (q0 := 0) rfl rfl) rfl hl.1 rfl (Nat.le_of_ble_eq_true rfl) dX8_firstOf_47 ⟨Nat.le_of_ble_eq_true rfl, Nat.le_of_ble_eq_true rfl⟩ (fun r_18 hr_18 => ?_)
          obtain ⟨g_19, g_20, hsr_18_0⟩ := hr_18
          refine lv_if_eq (tgt := 73) hx hb dX8_firstOf_50 (by decide) (fun c_21 => ?_) (fun c_21 => ?_)
          · have fc_21 : r_18.toInt = 0 := zf_eq c_21 rfl (by decide)
            obtain ⟨x_22, ex_22⟩ : ∃ y : Int32, y = i_25 + 1 := ⟨_, rfl⟩
            have qx_22 : x_22.toInt = i_25.toInt + 1 := dw_inc ex_22 fc_11
            refine lv_iinc (v := x_22) (lv' := [(3, .int x_22), (2, .int r_2), (0, .ref m0), (1, .int 1)]) hx hb dX8_firstOf_73 hl (k := 0) rfl ex_22.symm (by decide) rfl (fun ls hl => ?_)
            refine lv_goto (tgt := 25) hx hb dX8_firstOf_76 (by decide) ?_
            exact ih x_22 _ (lv_sub hl [0, 1, 2, 3] rfl) (show zFf gta nde.toInt nse.toInt ((zLn gki gpa gta npu.toInt.toNat nhu.toInt (gco 0).toInt (gco 1).toInt (gco 2).toInt 1) nde.toInt nse.toInt) (zLv (zLn gki gpa gta npu.toInt.toNat nhu.toInt (gco 0).toInt (gco 1).toInt (gco 2).toInt 0) gki gpa gta (gco 0).toInt (zPw 1) nhu.toInt nde.toInt nse.toInt) x_22.toInt.toNat = -1 from by (have hx : x_22.toInt.toNat = i_25.toInt.toNat + 1 := (by omega); have y9 : i_25.toNatClampNeg = i_25.toInt.toNat := rfl; have hm := hsr_18_0; rw [y9] at hm; rw [hx]; exact zFf_nx hvi_25_0 (fun z => by (have z1 := hm.mpr z.1; omega)))) (show x_22.toInt ≤ npu.toInt from by omega) (dw_lo hloi_25 qx_22) (dw_hn hni_25 qx_22)
          · have fc_21 : r_18.toInt ≠ 0 := zf_ne c_21 rfl (by decide)
            have htl9 : (gta i_25.toNatClampNeg).toInt ≤ nse.toInt := (hsr_18_0.mp (by omega)).2
            refine lv_aload_n hx hb dX8_firstOf_53 rfl (lv_at hl 2 rfl) ?_
            refine lv_iload_n hx hb dX8_firstOf_54 rfl (lv_at hl 0 rfl) ?_
            refine lv_iload_n hx hb dX8_firstOf_55 rfl (lv_at hl 3 rfl) ?_
            refine lv_aload_n hx hb dX8_firstOf_56 rfl (lv_at hl 2 rfl) ?_
            refine va_get (D := D) (ci := 8) (v := .int nde) (C := RX8) (T := TX8) (N := 38) hx hb hts hi_X8_firstOf_8 hown hK hP 0 rfl rfl 3 (by decide) (hts (.fieldLink RX8 115 "TheLiningsInItModel" "depth" "I") (List.mem_of_getElem? (i := 1) rfl)) (fun _ h9 => h9) rfl dX8_firstOf_57 ?_
            refine lv_aload_n hx hb dX8_firstOf_60 rfl (lv_at hl 2 rfl) ?_
            refine va_get (D := D) (ci := 8) (v := .int nse) (C := RX8) (T := TX8) (N := 38) hx hb hts hi_X8_firstOf_8 hown hK hP 0 rfl rfl 5 (by decide) (hts (.fieldLink RX8 13 "TheLiningsInItModel" "seconds" "I") (List.mem_of_getElem? (i := 2) rfl)) (fun _ h9 => h9) rfl dX8_firstOf_61 ?_
            refine zc_V (As := [.int i_25, .int 1, .int nde, .int nse]) (rest := []) ⟨hx, hb, hml, hown, hts⟩ (c_F_M_costBy_1 l D cI cJ cZ cP cS po m0 mrf mki mpa mta mla msl mco mhe mso msi msh mce mca mwo mnu mte mwa mke mma mth mtr (npu) (nte) (nat_) (nde) (nto) (nse) (nhu) (nga) (nsd) (nfa) (nba) (npl) (nen) (nnu) (nwr) (nra) (nik) gki gpa gta gco (i_25) (nde) (nse) hy0 hy1 hy2 hy3 hy4 hy5 hy6 hy7 hy8 hy9 hy10 hy11 hy12 hy13 (by omega) (by omega) hy6 hy7 hy14 hy15 (by first | assumption | omega) hp_gki hp_gpa hp_gta hp_gco) (cwV 4 hts gX8_firstOf_X8_costBy rfl rfl rfl ⟨rfl, dh_X8_costBy⟩ ⟨Nat.le_of_ble_eq_true rfl, Nat.le_of_ble_eq_true rfl⟩) hK hN hZ hP (hP.sub [0, 1, 2, 3, 4] rfl) (va_recv (q := (RX8, TX8, 38)) hK hP (ci := 8) (q0 := 0) rfl rfl) rfl hl.1 rfl (Nat.le_of_ble_eq_true rfl) dX8_firstOf_64 ⟨Nat.le_of_ble_eq_true rfl, Nat.le_of_ble_eq_true rfl⟩ (fun r_23 hr_23 => ?_)
            obtain ⟨g_24, g_25, hsr_23_0⟩ := hr_23
            refine lv_iload_n hx hb dX8_firstOf_67 rfl (lv_at hl 1 rfl) ?_
            refine lv_icmp_ne (tgt := 73) hx hb dX8_firstOf_68 (by decide) (fun c_26 => ?_) (fun c_26 => ?_)
            · have fc_26 : r_23.toInt ≠ r_2.toInt := zf_ne c_26 rfl rfl
              obtain ⟨x_27, ex_27⟩ : ∃ y : Int32, y = i_25 + 1 := ⟨_, rfl⟩
              have qx_27 : x_27.toInt = i_25.toInt + 1 := dw_inc ex_27 fc_11
              refine lv_iinc (v := x_27) (lv' := [(3, .int x_27), (2, .int r_2), (0, .ref m0), (1, .int 1)]) hx hb dX8_firstOf_73 hl (k := 0) rfl ex_27.symm (by decide) rfl (fun ls hl => ?_)
              refine lv_goto (tgt := 25) hx hb dX8_firstOf_76 (by decide) ?_
              exact ih x_27 _ (lv_sub hl [0, 1, 2, 3] rfl) (show zFf gta nde.toInt nse.toInt ((zLn gki gpa gta npu.toInt.toNat nhu.toInt (gco 0).toInt (gco 1).toInt (gco 2).toInt 1) nde.toInt nse.toInt) (zLv (zLn gki gpa gta npu.toInt.toNat nhu.toInt (gco 0).toInt (gco 1).toInt (gco 2).toInt 0) gki gpa gta (gco 0).toInt (zPw 1) nhu.toInt nde.toInt nse.toInt) x_27.toInt.toNat = -1 from by (have hx : x_27.toInt.toNat = i_25.toInt.toNat + 1 := (by omega); have y9 : i_25.toNatClampNeg = i_25.toInt.toNat := rfl; have hm := hsr_18_0; rw [y9] at hm; have zr := hsr_23_0; rw [y9] at zr; have zr2 : r_23.toInt = (zLv (zLn gki gpa gta npu.toInt.toNat nhu.toInt (gco 0).toInt (gco 1).toInt (gco 2).toInt 0) gki gpa gta (gco 0).toInt (zPw 1) nhu.toInt nde.toInt nse.toInt) i_25.toInt.toNat := zr; have zl := hsr_2_0; rw [hx]; exact zFf_nx hvi_25_0 (fun z => by (have z2 := z.2; rw [← zr2, ← zl] at z2; omega)))) (show x_27.toInt ≤ npu.toInt from by omega) (dw_lo hloi_25 qx_27) (dw_hn hni_25 qx_27)
            · have fc_26 : r_23.toInt = r_2.toInt := zf_eq c_26 rfl rfl
              refine lv_iload_n hx hb dX8_firstOf_71 rfl (lv_at hl 0 rfl) ?_
              exact W.iret (v := i_25) hx hb hr (fun t ht hW => ⟨i_25, rfl, ⟨by omega, by omega, (show (i_25 : Int32).toInt = zLr gki gpa gta npu.toInt.toNat nhu.toInt (gco 0).toInt (gco 1).toInt (gco 2).toInt 1 nde.toInt nse.toInt from by (have y9 : i_25.toNatClampNeg = i_25.toInt.toNat := rfl; have hm := hsr_18_0; rw [y9] at hm; have zr := hsr_23_0; rw [y9] at zr; have zr2 : r_23.toInt = (zLv (zLn gki gpa gta npu.toInt.toNat nhu.toInt (gco 0).toInt (gco 1).toInt (gco 2).toInt 0) gki gpa gta (gco 0).toInt (zPw 1) nhu.toInt nde.toInt nse.toInt) i_25.toInt.toNat := zr; have zl := hsr_2_0; have zf : zFf gta nde.toInt nse.toInt ((zLn gki gpa gta npu.toInt.toNat nhu.toInt (gco 0).toInt (gco 1).toInt (gco 2).toInt 1) nde.toInt nse.toInt) (zLv (zLn gki gpa gta npu.toInt.toNat nhu.toInt (gco 0).toInt (gco 1).toInt (gco 2).toInt 0) gki gpa gta (gco 0).toInt (zPw 1) nhu.toInt nde.toInt nse.toInt) npu.toInt.toNat = (i_25.toInt.toNat : Int) := zFf_at hvi_25_0 (hm.mp (by omega)) (by rw [← zr2, ← zl]; omega) (by omega); unfold zLr; rw [if_neg (by omega), show (1 : Nat) - 1 = 0 from by decide, if_neg (fun z => by (rcases z with z | z; (exact absurd z (by decide)); (rw [zf] at z; omega))), zf]; omega))⟩, ht⟩) (fun q hq => by cases hq) dX8_firstOf_72
  · have fc_1 : nde.toInt = 0 := zf_eq c_1 rfl (by decide)
    refine lv_iconst (v := (-1)) hx hb dX8_firstOf_7 (by decide) ?_
    exact W.iret (v := (-1)) hx hb hr (fun t ht hW => ⟨(-1), rfl, ⟨by decide, by decide, (show ((-1) : Int32).toInt = zLr gki gpa gta npu.toInt.toNat nhu.toInt (gco 0).toInt (gco 1).toInt (gco 2).toInt 1 nde.toInt nse.toInt from by (have k9 : ((-1) : Int32).toInt = -1 := (by decide); unfold zLr; rw [if_pos (by omega)]; exact k9))⟩, ht⟩) (fun q hq => by cases hq) dX8_firstOf_8
set_option maxHeartbeats 4000000 in
set_option maxRecDepth 100000 in
theorem c_F_M_firstOf_2 (l : Launch) (D : va_G) (cI cJ cZ cP cS : ClassId) (po : zPool) (m0 mrf mki mpa mta mla msl mco mhe mso msi msh mce mca mwo mnu mte mwa mke mma mth mtr : Nat) (npu nte nat_ nde nto nse nhu nga nsd nfa nba npl nen nnu nwr nra nik : Int32) (gki gpa gta gco : Nat → Int32) (hy0 : 0 ≤ npu.toInt) (hy1 : npu.toInt ≤ 8) (hy2 : 4 ≤ nte.toInt) (hy3 : nte.toInt ≤ 40) (hy4 : 0 ≤ nat_.toInt) (hy5 : nat_.toInt ≤ 40) (hy6 : 0 ≤ nde.toInt) (hy7 : nde.toInt ≤ 24) (hy8 : 0 ≤ nhu.toInt) (hy9 : nhu.toInt ≤ 9) (hy10 : 0 ≤ nra.toInt) (hy11 : nra.toInt ≤ 2000) (hy12 : 0 ≤ nik.toInt) (hy13 : nik.toInt ≤ 1) (hy14 : 0 ≤ nse.toInt) (hy15 : nse.toInt ≤ 300) (hp_gki : zRg gki (0) 6) (hp_gpa : zRg gpa (0) 9) (hp_gta : zRg gta (0) 60) (hp_gco : zRg gco (0) 99) : Met l yX8_firstOf wsX8_firstOf ({ frames := 6, cells := 0, slots := 0, locals := 151 }) (va_Pc [.ref m0, .int 2] (zR D (zKT cI cJ cZ cP cS) po [(zMO m0 npu nte nat_ nde nto nse nhu nga nsd nfa mrf mki mpa mta mla msl mco mhe mso msi msh mce mca mwo mnu mte nba npl nen nnu nwr mwa mke mma mth mtr nra nik), (mki, .inl (cI, 8, .inl gki)), (mpa, .inl (cI, 8, .inl gpa)), (mta, .inl (cI, 8, .inl gta)), (mco, .inl (cI, 3, .inl gco))])) (vp_Si (fun r => -1 ≤ r.toInt ∧ r.toInt ≤ 101 ∧ (r.toInt = zLr gki gpa gta npu.toInt.toNat nhu.toInt (gco 0).toInt (gco 1).toInt (gco 2).toInt 2 nde.toInt nse.toInt))) 0 0 (fun _ => False) := by
  refine Met.ofW (cc := cX8_firstOf) (maxL := 4) (ret := (some .int)) (by decide) rfl ?_
  intro p e s m args below meth c s₁ B hml hv
  obtain ⟨rfl, hP, hK, hN, hZ⟩ := hv
  have hx := B.exec
  have hb := B.bytes
  have hr := B.returns
  have hts := atoms_spec (ws := wsX8_firstOf) B.pre
  have hown : s.vm.findClass RX8 = some m.cls := findClass_of_methodNamed B.named
  have hlocks := B.notSynchronized
  have hl := lv_entry ([.ref m0, .int 2]) (n := 4) (Nat.le_of_ble_eq_true rfl)
  rw [lg_entry_eq]
  generalize (lg_sl ([.ref m0, .int 2]) ++ List.replicate (4 - (lg_sl ([.ref m0, .int 2])).length) Slot.unset).toArray = ls at hl ⊢
  replace hl : lv_has ls 4 [(0, .ref m0), (1, .int 2)] := hl
  refine lv_aload_n hx hb dX8_firstOf_0 rfl (lv_at hl 0 rfl) ?_
  refine va_get (D := D) (ci := 8) (v := .int nde) (C := RX8) (T := TX8) (N := 38) hx hb hts hi_X8_firstOf_8 hown hK hP 0 rfl rfl 3 (by decide) (hts (.fieldLink RX8 115 "TheLiningsInItModel" "depth" "I") (List.mem_of_getElem? (i := 1) rfl)) (fun _ h9 => h9) rfl dX8_firstOf_1 ?_
  refine lv_if_ne (tgt := 9) hx hb dX8_firstOf_4 (by decide) (fun c_1 => ?_) (fun c_1 => ?_)
  · have fc_1 : nde.toInt ≠ 0 := zf_ne c_1 rfl (by decide)
    refine lv_aload_n hx hb dX8_firstOf_9 rfl (lv_at hl 0 rfl) ?_
    refine lv_iload_n hx hb dX8_firstOf_10 rfl (lv_at hl 1 rfl) ?_
    refine lv_aload_n hx hb dX8_firstOf_11 rfl (lv_at hl 0 rfl) ?_
    refine va_get (D := D) (ci := 8) (v := .int nde) (C := RX8) (T := TX8) (N := 38) hx hb hts hi_X8_firstOf_8 hown hK hP 0 rfl rfl 3 (by decide) (hts (.fieldLink RX8 115 "TheLiningsInItModel" "depth" "I") (List.mem_of_getElem? (i := 1) rfl)) (fun _ h9 => h9) rfl dX8_firstOf_12 ?_
    refine lv_aload_n hx hb dX8_firstOf_15 rfl (lv_at hl 0 rfl) ?_
    refine va_get (D := D) (ci := 8) (v := .int nse) (C := RX8) (T := TX8) (N := 38) hx hb hts hi_X8_firstOf_8 hown hK hP 0 rfl rfl 5 (by decide) (hts (.fieldLink RX8 13 "TheLiningsInItModel" "seconds" "I") (List.mem_of_getElem? (i := 2) rfl)) (fun _ h9 => h9) rfl dX8_firstOf_16 ?_
    refine zc_V (As := [.int 2, .int nde, .int nse]) (rest := []) ⟨hx, hb, hml, hown, hts⟩ (c_F_M_leastCost_2 l D cI cJ cZ cP cS po m0 mrf mki mpa mta mla msl mco mhe mso msi msh mce mca mwo mnu mte mwa mke mma mth mtr (npu) (nte) (nat_) (nde) (nto) (nse) (nhu) (nga) (nsd) (nfa) (nba) (npl) (nen) (nnu) (nwr) (nra) (nik) gki gpa gta gco (nde) (nse) hy0 hy1 hy2 hy3 hy4 hy5 hy6 hy7 hy8 hy9 hy10 hy11 hy12 hy13 hy6 hy7 hy14 hy15 hp_gki hp_gpa hp_gta hp_gco) (cwV 3 hts gX8_firstOf_X8_leastCost rfl rfl rfl ⟨rfl, dh_X8_leastCost⟩ ⟨Nat.le_of_ble_eq_true rfl, Nat.le_of_ble_eq_true rfl⟩) hK hN hZ hP (hP.sub [0, 1, 2, 3, 4] rfl) (va_recv (q := (RX8, TX8, 38)) hK hP (ci := 8) (q0 := 0) rfl rfl) rfl hl.1 rfl (Nat.le_of_ble_eq_true rfl) dX8_firstOf_19 ⟨Nat.le_of_ble_eq_true rfl, Nat.le_of_ble_eq_true rfl⟩ (fun r_2 hr_2 => ?_)
    obtain ⟨g_3, g_4, hsr_2_0⟩ := hr_2
    refine lv_istore_n (lv' := [(2, .int r_2), (0, .ref m0), (1, .int 2)]) hx hb dX8_firstOf_22 rfl hl (by decide) rfl (fun ls hl => ?_)
    refine lv_iconst (v := 0) hx hb dX8_firstOf_23 (by decide) ?_
    refine lv_istore_n (lv' := [(3, .int 0), (2, .int r_2), (0, .ref m0), (1, .int 2)]) hx hb dX8_firstOf_24 rfl hl (by decide) rfl (fun ls hl => ?_)
    obtain ⟨i_25, hi_25⟩ : ∃ i : Int32, i = 0 := ⟨_, rfl⟩
    replace hl : lv_has ls 4 [(3, .int i_25), (2, .int r_2), (0, .ref m0), (1, .int 2)] := by rw [hi_25]; exact lv_sub hl [0, 1, 2, 3] rfl
    have h1i_25 : i_25.toInt = 0 := by rw [hi_25]; decide
    obtain ⟨nfu, hni_25⟩ : ∃ nq9 : Nat, npu.toInt ≤ i_25.toInt + (nq9 : Int) := ⟨((npu.toInt : Int) - 0).toNat, by omega⟩
    have hloi_25 : 0 ≤ i_25.toInt := by omega
    have hvi_25_0 : zFf gta nde.toInt nse.toInt ((zLn gki gpa gta npu.toInt.toNat nhu.toInt (gco 0).toInt (gco 1).toInt (gco 2).toInt 2) nde.toInt nse.toInt) (zLv (zLn gki gpa gta npu.toInt.toNat nhu.toInt (gco 0).toInt (gco 1).toInt (gco 2).toInt 1) gki gpa gta (gco 0).toInt (zPw 2) nhu.toInt nde.toInt nse.toInt) i_25.toInt.toNat = -1 := by
      (try rw [hi_25]); (rw [(show ((0 : Int32).toInt.toNat) = 0 from by decide)]; rfl)
    have hvi_25_1 : i_25.toInt ≤ npu.toInt := by
      (try rw [hi_25]); (have k0 : (0 : Int32).toInt = 0 := (by decide); omega)
    clear h1i_25 hi_25
    revert hni_25
    revert hloi_25
    revert hvi_25_1
    revert hvi_25_0
    revert hl
    revert ls
    revert i_25
    induction nfu with
    | zero =>
      intro i_25 ls hl hvi_25_0 hvi_25_1 hloi_25 hni_25
      have hzi_25 : npu.toInt ≤ i_25.toInt := by omega
      refine lv_iload_n hx hb dX8_firstOf_25 rfl (lv_at hl 0 rfl) ?_
      refine lv_aload_n hx hb dX8_firstOf_26 rfl (lv_at hl 2 rfl) ?_
      refine va_get (D := D) (ci := 8) (v := .int npu) (C := RX8) (T := TX8) (N := 38) hx hb hts hi_X8_firstOf_8 hown hK hP 0 rfl rfl 0 (by decide) (hts (.fieldLink RX8 90 "TheLiningsInItModel" "pulls" "I") (List.mem_of_getElem? (i := 3) rfl)) (fun _ h9 => h9) rfl dX8_firstOf_27 ?_
      refine lv_icmp_ge (tgt := 79) hx hb dX8_firstOf_30 (by decide) (fun c_5 => ?_) (fun c_5 => ?_)
      · have fc_5 : npu.toInt ≤ i_25.toInt := zf_le c_5 rfl rfl
        refine lv_aload_n hx hb dX8_firstOf_79 rfl (lv_at hl 2 rfl) ?_
        refine va_get (D := D) (ci := 8) (v := .int nse) (C := RX8) (T := TX8) (N := 38) hx hb hts hi_X8_firstOf_8 hown hK hP 0 rfl rfl 5 (by decide) (hts (.fieldLink RX8 13 "TheLiningsInItModel" "seconds" "I") (List.mem_of_getElem? (i := 2) rfl)) (fun _ h9 => h9) rfl dX8_firstOf_80 ?_
        refine lv_bipush (v := 30) hx hb dX8_firstOf_83 (by decide) ?_
        refine lv_icmp_lt (tgt := 109) hx hb dX8_firstOf_85 (by decide) (fun c_6 => ?_) (fun c_6 => ?_)
        · have fc_6 : nse.toInt < 30 := zf_lt c_6 rfl (by decide)
          refine lv_bipush (v := 100) hx hb dX8_firstOf_109 (by decide) ?_
          exact W.iret (v := 100) hx hb hr (fun t ht hW => ⟨100, rfl, ⟨by decide, by decide, (show (100 : Int32).toInt = zLr gki gpa gta npu.toInt.toNat nhu.toInt (gco 0).toInt (gco 1).toInt (gco 2).toInt 2 nde.toInt nse.toInt from by (have k1 : (101 : Int32).toInt = 101 := (by decide); have k2 : (100 : Int32).toInt = 100 := (by decide); have zl := hsr_2_0; have h9 : i_25.toInt.toNat = npu.toInt.toNat := (by omega); have z := hvi_25_0; rw [h9] at z; have hS := zLn_s (K := gki) (A := gpa) (T := gta) (N := npu.toInt.toNat) (n := 1) (h := nhu.toInt) (c0 := (gco 0).toInt) (c1 := (gco 1).toInt) (c2 := (gco 2).toInt) (d := nde.toInt) (s := nse.toInt); rw [if_neg (by omega)] at hS; have hL : zLn gki gpa gta npu.toInt.toNat nhu.toInt (gco 0).toInt (gco 1).toInt (gco 2).toInt 2 nde.toInt nse.toInt = zPw 2 * zAt (gco 1).toInt (gco 2).toInt nse.toInt := zFf_no npu.toInt.toNat (Or.inl hS) z hS; have hh := zHead (P := zPw 2) (c1 := (gco 1).toInt) (c2 := (gco 2).toInt) (s := nse.toInt) (zPw_pos 2); rw [← hL, ← zl, show zPw 2 = 144 from by decide] at hh; unfold zLr; rw [if_neg (by omega), show (2 : Nat) - 1 = 1 from by decide, if_pos (Or.inr z)]; first | (rw [if_neg (fun z => by (have z2 := hh.mpr z; have z3 := z2.2; have z4 := z2.1; omega))]; omega) | (rw [if_pos (hh.mp ⟨by omega, by omega⟩)]; omega)))⟩, ht⟩) (fun q hq => by cases hq) dX8_firstOf_111
        · have fc_6 : 30 ≤ nse.toInt := zf_nlt c_6 rfl (by decide)
          refine lv_aload_n hx hb dX8_firstOf_88 rfl (lv_at hl 2 rfl) ?_
          refine va_get (D := D) (ci := 8) (v := .ref mco) (C := RX8) (T := TX8) (N := 38) hx hb hts hi_X8_firstOf_8 hown hK hP 0 rfl rfl 16 (by decide) (hts (.fieldLink RX8 44 "TheLiningsInItModel" "cost" "[I") (List.mem_of_getElem? (i := 4) rfl)) (fun _ h9 => h9) rfl dX8_firstOf_89 ?_
          refine lv_iconst (v := 1) hx hb dX8_firstOf_92 (by decide) ?_
          refine va_iald hx hb hK hP 4 0 rfl rfl (zf_in (by decide) (by decide)) dX8_firstOf_93 ?_
          refine lv_topi (fun x_7 ex_7 => ?_)
          have bx_7 : 0 ≤ x_7.toInt ∧ x_7.toInt ≤ 99 := by rw [ex_7]; exact hp_gco _
          refine lv_aload_n hx hb dX8_firstOf_94 rfl (lv_at hl 2 rfl) ?_
          refine lv_iload_n hx hb dX8_firstOf_95 rfl (lv_at hl 3 rfl) ?_
          refine zc_V (As := [.int 2]) (rest := [.int x_7]) ⟨hx, hb, hml, hown, hts⟩ (c_M_power_2 l D cI cJ cZ cP cS po m0 mrf mki mpa mta mla msl mco mhe mso msi msh mce mca mwo mnu mte mwa mke mma mth mtr (npu) (nte) (nat_) (nde) (nto) (nse) (nhu) (nga) (nsd) (nfa) (nba) (npl) (nen) (nnu) (nwr) (nra) (nik) hy0 hy1 hy2 hy3 hy4 hy5 hy6 hy7 hy8 hy9 hy10 hy11 hy12 hy13) (cwV 1 hts gX8_firstOf_X8_power rfl rfl rfl ⟨rfl, dh_X8_power⟩ ⟨Nat.le_of_ble_eq_true rfl, Nat.le_of_ble_eq_true rfl⟩) hK hN hZ hP (hP.sub [0] rfl) (va_recv (q := (RX8, TX8, 38)) hK hP (ci := 8) (q0 := 0) rfl rfl) rfl hl.1 rfl (Nat.le_of_ble_eq_true rfl) dX8_firstOf_96 ⟨Nat.le_of_ble_eq_true rfl, Nat.le_of_ble_eq_true rfl⟩ (fun r_8 hr_8 => ?_)
          obtain rfl := hr_8
          refine lv_imul hx hb dX8_firstOf_99 ?_
          refine lv_topi (fun x_9 ex_9 => ?_)
          have qx_9 : x_9.toInt = x_7.toInt * 144 := by rw [ex_9]; exact zf_mul rfl (by decide) (by omega) (by omega)
          refine lv_iload_n hx hb dX8_firstOf_100 rfl (lv_at hl 1 rfl) ?_
          refine lv_icmp_ne (tgt := 109) hx hb dX8_firstOf_101 (by decide) (fun c_10 => ?_) (fun c_10 => ?_)
          · have fc_10 : x_9.toInt ≠ r_2.toInt := zf_ne c_10 rfl rfl
            refine lv_bipush (v := 100) hx hb dX8_firstOf_109 (by decide) ?_
            exact W.iret (v := 100) hx hb hr (fun t ht hW => ⟨100, rfl, ⟨by decide, by decide, (show (100 : Int32).toInt = zLr gki gpa gta npu.toInt.toNat nhu.toInt (gco 0).toInt (gco 1).toInt (gco 2).toInt 2 nde.toInt nse.toInt from by (have k1 : (101 : Int32).toInt = 101 := (by decide); have k2 : (100 : Int32).toInt = 100 := (by decide); have nx_7 : (gco 1).toInt = x_7.toInt := (by rw [ex_7, show (1 : Int32).toNatClampNeg = 1 from by decide]); have zl := hsr_2_0; have h9 : i_25.toInt.toNat = npu.toInt.toNat := (by omega); have z := hvi_25_0; rw [h9] at z; have hS := zLn_s (K := gki) (A := gpa) (T := gta) (N := npu.toInt.toNat) (n := 1) (h := nhu.toInt) (c0 := (gco 0).toInt) (c1 := (gco 1).toInt) (c2 := (gco 2).toInt) (d := nde.toInt) (s := nse.toInt); rw [if_neg (by omega)] at hS; have hL : zLn gki gpa gta npu.toInt.toNat nhu.toInt (gco 0).toInt (gco 1).toInt (gco 2).toInt 2 nde.toInt nse.toInt = zPw 2 * zAt (gco 1).toInt (gco 2).toInt nse.toInt := zFf_no npu.toInt.toNat (Or.inl hS) z hS; have hh := zHead (P := zPw 2) (c1 := (gco 1).toInt) (c2 := (gco 2).toInt) (s := nse.toInt) (zPw_pos 2); rw [← hL, ← zl, show zPw 2 = 144 from by decide] at hh; unfold zLr; rw [if_neg (by omega), show (2 : Nat) - 1 = 1 from by decide, if_pos (Or.inr z)]; first | (rw [if_neg (fun z => by (have z2 := hh.mpr z; have z3 := z2.2; have z4 := z2.1; omega))]; omega) | (rw [if_pos (hh.mp ⟨by omega, by omega⟩)]; omega)))⟩, ht⟩) (fun q hq => by cases hq) dX8_firstOf_111
          · have fc_10 : x_9.toInt = r_2.toInt := zf_eq c_10 rfl rfl
            refine lv_bipush (v := 101) hx hb dX8_firstOf_104 (by decide) ?_
            refine lv_goto (tgt := 111) hx hb dX8_firstOf_106 (by decide) ?_
            exact W.iret (v := 101) hx hb hr (fun t ht hW => ⟨101, rfl, ⟨by decide, by decide, (show (101 : Int32).toInt = zLr gki gpa gta npu.toInt.toNat nhu.toInt (gco 0).toInt (gco 1).toInt (gco 2).toInt 2 nde.toInt nse.toInt from by (have k1 : (101 : Int32).toInt = 101 := (by decide); have k2 : (100 : Int32).toInt = 100 := (by decide); have nx_7 : (gco 1).toInt = x_7.toInt := (by rw [ex_7, show (1 : Int32).toNatClampNeg = 1 from by decide]); have zl := hsr_2_0; have h9 : i_25.toInt.toNat = npu.toInt.toNat := (by omega); have z := hvi_25_0; rw [h9] at z; have hS := zLn_s (K := gki) (A := gpa) (T := gta) (N := npu.toInt.toNat) (n := 1) (h := nhu.toInt) (c0 := (gco 0).toInt) (c1 := (gco 1).toInt) (c2 := (gco 2).toInt) (d := nde.toInt) (s := nse.toInt); rw [if_neg (by omega)] at hS; have hL : zLn gki gpa gta npu.toInt.toNat nhu.toInt (gco 0).toInt (gco 1).toInt (gco 2).toInt 2 nde.toInt nse.toInt = zPw 2 * zAt (gco 1).toInt (gco 2).toInt nse.toInt := zFf_no npu.toInt.toNat (Or.inl hS) z hS; have hh := zHead (P := zPw 2) (c1 := (gco 1).toInt) (c2 := (gco 2).toInt) (s := nse.toInt) (zPw_pos 2); rw [← hL, ← zl, show zPw 2 = 144 from by decide] at hh; unfold zLr; rw [if_neg (by omega), show (2 : Nat) - 1 = 1 from by decide, if_pos (Or.inr z)]; first | (rw [if_pos (hh.mp ⟨by omega, by omega⟩)]; omega) | (rw [if_neg (fun z => by (have z2 := hh.mpr z; have z3 := z2.2; have z4 := z2.1; omega))]; omega)))⟩, ht⟩) (fun q hq => by cases hq) dX8_firstOf_111
      · exfalso; have fc_5 : i_25.toInt < npu.toInt := zf_nle c_5 rfl rfl; omega
    | succ nfu ih =>
      intro i_25 ls hl hvi_25_0 hvi_25_1 hloi_25 hni_25
      refine lv_iload_n hx hb dX8_firstOf_25 rfl (lv_at hl 0 rfl) ?_
      refine lv_aload_n hx hb dX8_firstOf_26 rfl (lv_at hl 2 rfl) ?_
      refine va_get (D := D) (ci := 8) (v := .int npu) (C := RX8) (T := TX8) (N := 38) hx hb hts hi_X8_firstOf_8 hown hK hP 0 rfl rfl 0 (by decide) (hts (.fieldLink RX8 90 "TheLiningsInItModel" "pulls" "I") (List.mem_of_getElem? (i := 3) rfl)) (fun _ h9 => h9) rfl dX8_firstOf_27 ?_
      refine lv_icmp_ge (tgt := 79) hx hb dX8_firstOf_30 (by decide) (fun c_11 => ?_) (fun c_11 => ?_)
      · have fc_11 : npu.toInt ≤ i_25.toInt := zf_le c_11 rfl rfl
        refine lv_aload_n hx hb dX8_firstOf_79 rfl (lv_at hl 2 rfl) ?_
        refine va_get (D := D) (ci := 8) (v := .int nse) (C := RX8) (T := TX8) (N := 38) hx hb hts hi_X8_firstOf_8 hown hK hP 0 rfl rfl 5 (by decide) (hts (.fieldLink RX8 13 "TheLiningsInItModel" "seconds" "I") (List.mem_of_getElem? (i := 2) rfl)) (fun _ h9 => h9) rfl dX8_firstOf_80 ?_
        refine lv_bipush (v := 30) hx hb dX8_firstOf_83 (by decide) ?_
        refine lv_icmp_lt (tgt := 109) hx hb dX8_firstOf_85 (by decide) (fun c_12 => ?_) (fun c_12 => ?_)
        · have fc_12 : nse.toInt < 30 := zf_lt c_12 rfl (by decide)
          refine lv_bipush (v := 100) hx hb dX8_firstOf_109 (by decide) ?_
          exact W.iret (v := 100) hx hb hr (fun t ht hW => ⟨100, rfl, ⟨by decide, by decide, (show (100 : Int32).toInt = zLr gki gpa gta npu.toInt.toNat nhu.toInt (gco 0).toInt (gco 1).toInt (gco 2).toInt 2 nde.toInt nse.toInt from by (have k1 : (101 : Int32).toInt = 101 := (by decide); have k2 : (100 : Int32).toInt = 100 := (by decide); have zl := hsr_2_0; have h9 : i_25.toInt.toNat = npu.toInt.toNat := (by omega); have z := hvi_25_0; rw [h9] at z; have hS := zLn_s (K := gki) (A := gpa) (T := gta) (N := npu.toInt.toNat) (n := 1) (h := nhu.toInt) (c0 := (gco 0).toInt) (c1 := (gco 1).toInt) (c2 := (gco 2).toInt) (d := nde.toInt) (s := nse.toInt); rw [if_neg (by omega)] at hS; have hL : zLn gki gpa gta npu.toInt.toNat nhu.toInt (gco 0).toInt (gco 1).toInt (gco 2).toInt 2 nde.toInt nse.toInt = zPw 2 * zAt (gco 1).toInt (gco 2).toInt nse.toInt := zFf_no npu.toInt.toNat (Or.inl hS) z hS; have hh := zHead (P := zPw 2) (c1 := (gco 1).toInt) (c2 := (gco 2).toInt) (s := nse.toInt) (zPw_pos 2); rw [← hL, ← zl, show zPw 2 = 144 from by decide] at hh; unfold zLr; rw [if_neg (by omega), show (2 : Nat) - 1 = 1 from by decide, if_pos (Or.inr z)]; first | (rw [if_neg (fun z => by (have z2 := hh.mpr z; have z3 := z2.2; have z4 := z2.1; omega))]; omega) | (rw [if_pos (hh.mp ⟨by omega, by omega⟩)]; omega)))⟩, ht⟩) (fun q hq => by cases hq) dX8_firstOf_111
        · have fc_12 : 30 ≤ nse.toInt := zf_nlt c_12 rfl (by decide)
          refine lv_aload_n hx hb dX8_firstOf_88 rfl (lv_at hl 2 rfl) ?_
          refine va_get (D := D) (ci := 8) (v := .ref mco) (C := RX8) (T := TX8) (N := 38) hx hb hts hi_X8_firstOf_8 hown hK hP 0 rfl rfl 16 (by decide) (hts (.fieldLink RX8 44 "TheLiningsInItModel" "cost" "[I") (List.mem_of_getElem? (i := 4) rfl)) (fun _ h9 => h9) rfl dX8_firstOf_89 ?_
          refine lv_iconst (v := 1) hx hb dX8_firstOf_92 (by decide) ?_
          refine va_iald hx hb hK hP 4 0 rfl rfl (zf_in (by decide) (by decide)) dX8_firstOf_93 ?_
          refine lv_topi (fun x_13 ex_13 => ?_)
          have bx_13 : 0 ≤ x_13.toInt ∧ x_13.toInt ≤ 99 := by rw [ex_13]; exact hp_gco _
          refine lv_aload_n hx hb dX8_firstOf_94 rfl (lv_at hl 2 rfl) ?_
          refine lv_iload_n hx hb dX8_firstOf_95 rfl (lv_at hl 3 rfl) ?_
          refine zc_V (As := [.int 2]) (rest := [.int x_13]) ⟨hx, hb, hml, hown, hts⟩ (c_M_power_2 l D cI cJ cZ cP cS po m0 mrf mki mpa mta mla msl mco mhe mso msi msh mce mca mwo mnu mte mwa mke mma mth mtr (npu) (nte) (nat_) (nde) (nto) (nse) (nhu) (nga) (nsd) (nfa) (nba) (npl) (nen) (nnu) (nwr) (nra) (nik) hy0 hy1 hy2 hy3 hy4 hy5 hy6 hy7 hy8 hy9 hy10 hy11 hy12 hy13) (cwV 1 hts gX8_firstOf_X8_power rfl rfl rfl ⟨rfl, dh_X8_power⟩ ⟨Nat.le_of_ble_eq_true rfl, Nat.le_of_ble_eq_true rfl⟩) hK hN hZ hP (hP.sub [0] rfl) (va_recv (q := (RX8, TX8, 38)) hK hP (ci := 8) (q0 := 0) rfl rfl) rfl hl.1 rfl (Nat.le_of_ble_eq_true rfl) dX8_firstOf_96 ⟨Nat.le_of_ble_eq_true rfl, Nat.le_of_ble_eq_true rfl⟩ (fun r_14 hr_14 => ?_)
          obtain rfl := hr_14
          refine lv_imul hx hb dX8_firstOf_99 ?_
          refine lv_topi (fun x_15 ex_15 => ?_)
          have qx_15 : x_15.toInt = x_13.toInt * 144 := by rw [ex_15]; exact zf_mul rfl (by decide) (by omega) (by omega)
          refine lv_iload_n hx hb dX8_firstOf_100 rfl (lv_at hl 1 rfl) ?_
          refine lv_icmp_ne (tgt := 109) hx hb dX8_firstOf_101 (by decide) (fun c_16 => ?_) (fun c_16 => ?_)
          · have fc_16 : x_15.toInt ≠ r_2.toInt := zf_ne c_16 rfl rfl
            refine lv_bipush (v := 100) hx hb dX8_firstOf_109 (by decide) ?_
            exact W.iret (v := 100) hx hb hr (fun t ht hW => ⟨100, rfl, ⟨by decide, by decide, (show (100 : Int32).toInt = zLr gki gpa gta npu.toInt.toNat nhu.toInt (gco 0).toInt (gco 1).toInt (gco 2).toInt 2 nde.toInt nse.toInt from by (have k1 : (101 : Int32).toInt = 101 := (by decide); have k2 : (100 : Int32).toInt = 100 := (by decide); have nx_13 : (gco 1).toInt = x_13.toInt := (by rw [ex_13, show (1 : Int32).toNatClampNeg = 1 from by decide]); have zl := hsr_2_0; have h9 : i_25.toInt.toNat = npu.toInt.toNat := (by omega); have z := hvi_25_0; rw [h9] at z; have hS := zLn_s (K := gki) (A := gpa) (T := gta) (N := npu.toInt.toNat) (n := 1) (h := nhu.toInt) (c0 := (gco 0).toInt) (c1 := (gco 1).toInt) (c2 := (gco 2).toInt) (d := nde.toInt) (s := nse.toInt); rw [if_neg (by omega)] at hS; have hL : zLn gki gpa gta npu.toInt.toNat nhu.toInt (gco 0).toInt (gco 1).toInt (gco 2).toInt 2 nde.toInt nse.toInt = zPw 2 * zAt (gco 1).toInt (gco 2).toInt nse.toInt := zFf_no npu.toInt.toNat (Or.inl hS) z hS; have hh := zHead (P := zPw 2) (c1 := (gco 1).toInt) (c2 := (gco 2).toInt) (s := nse.toInt) (zPw_pos 2); rw [← hL, ← zl, show zPw 2 = 144 from by decide] at hh; unfold zLr; rw [if_neg (by omega), show (2 : Nat) - 1 = 1 from by decide, if_pos (Or.inr z)]; first | (rw [if_neg (fun z => by (have z2 := hh.mpr z; have z3 := z2.2; have z4 := z2.1; omega))]; omega) | (rw [if_pos (hh.mp ⟨by omega, by omega⟩)]; omega)))⟩, ht⟩) (fun q hq => by cases hq) dX8_firstOf_111
          · have fc_16 : x_15.toInt = r_2.toInt := zf_eq c_16 rfl rfl
            refine lv_bipush (v := 101) hx hb dX8_firstOf_104 (by decide) ?_
            refine lv_goto (tgt := 111) hx hb dX8_firstOf_106 (by decide) ?_
            exact W.iret (v := 101) hx hb hr (fun t ht hW => ⟨101, rfl, ⟨by decide, by decide, (show (101 : Int32).toInt = zLr gki gpa gta npu.toInt.toNat nhu.toInt (gco 0).toInt (gco 1).toInt (gco 2).toInt 2 nde.toInt nse.toInt from by (have k1 : (101 : Int32).toInt = 101 := (by decide); have k2 : (100 : Int32).toInt = 100 := (by decide); have nx_13 : (gco 1).toInt = x_13.toInt := (by rw [ex_13, show (1 : Int32).toNatClampNeg = 1 from by decide]); have zl := hsr_2_0; have h9 : i_25.toInt.toNat = npu.toInt.toNat := (by omega); have z := hvi_25_0; rw [h9] at z; have hS := zLn_s (K := gki) (A := gpa) (T := gta) (N := npu.toInt.toNat) (n := 1) (h := nhu.toInt) (c0 := (gco 0).toInt) (c1 := (gco 1).toInt) (c2 := (gco 2).toInt) (d := nde.toInt) (s := nse.toInt); rw [if_neg (by omega)] at hS; have hL : zLn gki gpa gta npu.toInt.toNat nhu.toInt (gco 0).toInt (gco 1).toInt (gco 2).toInt 2 nde.toInt nse.toInt = zPw 2 * zAt (gco 1).toInt (gco 2).toInt nse.toInt := zFf_no npu.toInt.toNat (Or.inl hS) z hS; have hh := zHead (P := zPw 2) (c1 := (gco 1).toInt) (c2 := (gco 2).toInt) (s := nse.toInt) (zPw_pos 2); rw [← hL, ← zl, show zPw 2 = 144 from by decide] at hh; unfold zLr; rw [if_neg (by omega), show (2 : Nat) - 1 = 1 from by decide, if_pos (Or.inr z)]; first | (rw [if_pos (hh.mp ⟨by omega, by omega⟩)]; omega) | (rw [if_neg (fun z => by (have z2 := hh.mpr z; have z3 := z2.2; have z4 := z2.1; omega))]; omega)))⟩, ht⟩) (fun q hq => by cases hq) dX8_firstOf_111
      · have fc_11 : i_25.toInt < npu.toInt := zf_nle c_11 rfl rfl
        refine lv_iload_n hx hb dX8_firstOf_33 rfl (lv_at hl 3 rfl) ?_
        refine lv_if_le (tgt := 79) hx hb dX8_firstOf_34 (by decide) (fun c_17 => ?_) (fun c_17 => ?_)
        · exact absurd c_17 (by decide)
        · refine lv_aload_n hx hb dX8_firstOf_37 rfl (lv_at hl 2 rfl) ?_
          refine lv_iload_n hx hb dX8_firstOf_38 rfl (lv_at hl 0 rfl) ?_
          refine lv_aload_n hx hb dX8_firstOf_39 rfl (lv_at hl 2 rfl) ?_
          refine va_get (D := D) (ci := 8) (v := .int nde) (C := RX8) (T := TX8) (N := 38) hx hb hts hi_X8_firstOf_8 hown hK hP 0 rfl rfl 3 (by decide) (hts (.fieldLink RX8 115 "TheLiningsInItModel" "depth" "I") (List.mem_of_getElem? (i := 1) rfl)) (fun _ h9 => h9) rfl dX8_firstOf_40 ?_
          refine lv_aload_n hx hb dX8_firstOf_43 rfl (lv_at hl 2 rfl) ?_
          refine va_get (D := D) (ci := 8) (v := .int nse) (C := RX8) (T := TX8) (N := 38) hx hb hts hi_X8_firstOf_8 hown hK hP 0 rfl rfl 5 (by decide) (hts (.fieldLink RX8 13 "TheLiningsInItModel" "seconds" "I") (List.mem_of_getElem? (i := 2) rfl)) (fun _ h9 => h9) rfl dX8_firstOf_44 ?_
          refine zc_V (As := [.int i_25, .int nde, .int nse]) (rest := []) ⟨hx, hb, hml, hown, hts⟩ (c_F_M_mayBe l D cI cJ cZ cP cS po m0 mrf mki mpa mta mla msl mco mhe mso msi msh mce mca mwo mnu mte mwa mke mma mth mtr (npu) (nte) (nat_) (nde) (nto) (nse) (nhu) (nga) (nsd) (nfa) (nba) (npl) (nen) (nnu) (nwr) (nra) (nik) gta (i_25) (nde) (nse) hy0 hy1 hy2 hy3 hy4 hy5 hy6 hy7 hy8 hy9 hy10 hy11 hy12 hy13 (by omega) (by omega) hp_gta) (cwV 3 hts gX8_firstOf_X8_mayBe rfl rfl rfl ⟨rfl, dh_X8_mayBe⟩ ⟨Nat.le_of_ble_eq_true rfl, Nat.le_of_ble_eq_true rfl⟩) hK hN hZ hP (hP.sub [0, 3] rfl) (va_recv (q := (RX8, TX8, 38)) hK hP (ci := 8) (q0 := 0) rfl rfl) rfl hl.1 rfl (Nat.le_of_ble_eq_true rfl) dX8_firstOf_47 ⟨Nat.le_of_ble_eq_true rfl, Nat.le_of_ble_eq_true rfl⟩ (fun r_18 hr_18 => ?_)
          obtain ⟨g_19, g_20, hsr_18_0⟩ := hr_18
          refine lv_if_eq (tgt := 73) hx hb dX8_firstOf_50 (by decide) (fun c_21 => ?_) (fun c_21 => ?_)
          · have fc_21 : r_18.toInt = 0 := zf_eq c_21 rfl (by decide)
            obtain ⟨x_22, ex_22⟩ : ∃ y : Int32, y = i_25 + 1 := ⟨_, rfl⟩
            have qx_22 : x_22.toInt = i_25.toInt + 1 := dw_inc ex_22 fc_11
            refine lv_iinc (v := x_22) (lv' := [(3, .int x_22), (2, .int r_2), (0, .ref m0), (1, .int 2)]) hx hb dX8_firstOf_73 hl (k := 0) rfl ex_22.symm (by decide) rfl (fun ls hl => ?_)
            refine lv_goto (tgt := 25) hx hb dX8_firstOf_76 (by decide) ?_
            exact ih x_22 _ (lv_sub hl [0, 1, 2, 3] rfl) (show zFf gta nde.toInt nse.toInt ((zLn gki gpa gta npu.toInt.toNat nhu.toInt (gco 0).toInt (gco 1).toInt (gco 2).toInt 2) nde.toInt nse.toInt) (zLv (zLn gki gpa gta npu.toInt.toNat nhu.toInt (gco 0).toInt (gco 1).toInt (gco 2).toInt 1) gki gpa gta (gco 0).toInt (zPw 2) nhu.toInt nde.toInt nse.toInt) x_22.toInt.toNat = -1 from by (have hx : x_22.toInt.toNat = i_25.toInt.toNat + 1 := (by omega); have y9 : i_25.toNatClampNeg = i_25.toInt.toNat := rfl; have hm := hsr_18_0; rw [y9] at hm; rw [hx]; exact zFf_nx hvi_25_0 (fun z => by (have z1 := hm.mpr z.1; omega)))) (show x_22.toInt ≤ npu.toInt from by omega) (dw_lo hloi_25 qx_22) (dw_hn hni_25 qx_22)
          · have fc_21 : r_18.toInt ≠ 0 := zf_ne c_21 rfl (by decide)
            have htl9 : (gta i_25.toNatClampNeg).toInt ≤ nse.toInt := (hsr_18_0.mp (by omega)).2
            refine lv_aload_n hx hb dX8_firstOf_53 rfl (lv_at hl 2 rfl) ?_
            refine lv_iload_n hx hb dX8_firstOf_54 rfl (lv_at hl 0 rfl) ?_
            refine lv_iload_n hx hb dX8_firstOf_55 rfl (lv_at hl 3 rfl) ?_
            refine lv_aload_n hx hb dX8_firstOf_56 rfl (lv_at hl 2 rfl) ?_
            refine va_get (D := D) (ci := 8) (v := .int nde) (C := RX8) (T := TX8) (N := 38) hx hb hts hi_X8_firstOf_8 hown hK hP 0 rfl rfl 3 (by decide) (hts (.fieldLink RX8 115 "TheLiningsInItModel" "depth" "I") (List.mem_of_getElem? (i := 1) rfl)) (fun _ h9 => h9) rfl dX8_firstOf_57 ?_
            refine lv_aload_n hx hb dX8_firstOf_60 rfl (lv_at hl 2 rfl) ?_
            refine va_get (D := D) (ci := 8) (v := .int nse) (C := RX8) (T := TX8) (N := 38) hx hb hts hi_X8_firstOf_8 hown hK hP 0 rfl rfl 5 (by decide) (hts (.fieldLink RX8 13 "TheLiningsInItModel" "seconds" "I") (List.mem_of_getElem? (i := 2) rfl)) (fun _ h9 => h9) rfl dX8_firstOf_61 ?_
            refine zc_V (As := [.int i_25, .int 2, .int nde, .int nse]) (rest := []) ⟨hx, hb, hml, hown, hts⟩ (c_F_M_costBy_2 l D cI cJ cZ cP cS po m0 mrf mki mpa mta mla msl mco mhe mso msi msh mce mca mwo mnu mte mwa mke mma mth mtr (npu) (nte) (nat_) (nde) (nto) (nse) (nhu) (nga) (nsd) (nfa) (nba) (npl) (nen) (nnu) (nwr) (nra) (nik) gki gpa gta gco (i_25) (nde) (nse) hy0 hy1 hy2 hy3 hy4 hy5 hy6 hy7 hy8 hy9 hy10 hy11 hy12 hy13 (by omega) (by omega) hy6 hy7 hy14 hy15 (by first | assumption | omega) hp_gki hp_gpa hp_gta hp_gco) (cwV 4 hts gX8_firstOf_X8_costBy rfl rfl rfl ⟨rfl, dh_X8_costBy⟩ ⟨Nat.le_of_ble_eq_true rfl, Nat.le_of_ble_eq_true rfl⟩) hK hN hZ hP (hP.sub [0, 1, 2, 3, 4] rfl) (va_recv (q := (RX8, TX8, 38)) hK hP (ci := 8) (q0 := 0) rfl rfl) rfl hl.1 rfl (Nat.le_of_ble_eq_true rfl) dX8_firstOf_64 ⟨Nat.le_of_ble_eq_true rfl, Nat.le_of_ble_eq_true rfl⟩ (fun r_23 hr_23 => ?_)
            obtain ⟨g_24, g_25, hsr_23_0⟩ := hr_23
            refine lv_iload_n hx hb dX8_firstOf_67 rfl (lv_at hl 1 rfl) ?_
            refine lv_icmp_ne (tgt := 73) hx hb dX8_firstOf_68 (by decide) (fun c_26 => ?_) (fun c_26 => ?_)
            · have fc_26 : r_23.toInt ≠ r_2.toInt := zf_ne c_26 rfl rfl
              obtain ⟨x_27, ex_27⟩ : ∃ y : Int32, y = i_25 + 1 := ⟨_, rfl⟩
              have qx_27 : x_27.toInt = i_25.toInt + 1 := dw_inc ex_27 fc_11
              refine lv_iinc (v := x_27) (lv' := [(3, .int x_27), (2, .int r_2), (0, .ref m0), (1, .int 2)]) hx hb dX8_firstOf_73 hl (k := 0) rfl ex_27.symm (by decide) rfl (fun ls hl => ?_)
              refine lv_goto (tgt := 25) hx hb dX8_firstOf_76 (by decide) ?_
              exact ih x_27 _ (lv_sub hl [0, 1, 2, 3] rfl) (show zFf gta nde.toInt nse.toInt ((zLn gki gpa gta npu.toInt.toNat nhu.toInt (gco 0).toInt (gco 1).toInt (gco 2).toInt 2) nde.toInt nse.toInt) (zLv (zLn gki gpa gta npu.toInt.toNat nhu.toInt (gco 0).toInt (gco 1).toInt (gco 2).toInt 1) gki gpa gta (gco 0).toInt (zPw 2) nhu.toInt nde.toInt nse.toInt) x_27.toInt.toNat = -1 from by (have hx : x_27.toInt.toNat = i_25.toInt.toNat + 1 := (by omega); have y9 : i_25.toNatClampNeg = i_25.toInt.toNat := rfl; have hm := hsr_18_0; rw [y9] at hm; have zr := hsr_23_0; rw [y9] at zr; have zr2 : r_23.toInt = (zLv (zLn gki gpa gta npu.toInt.toNat nhu.toInt (gco 0).toInt (gco 1).toInt (gco 2).toInt 1) gki gpa gta (gco 0).toInt (zPw 2) nhu.toInt nde.toInt nse.toInt) i_25.toInt.toNat := zr; have zl := hsr_2_0; rw [hx]; exact zFf_nx hvi_25_0 (fun z => by (have z2 := z.2; rw [← zr2, ← zl] at z2; omega)))) (show x_27.toInt ≤ npu.toInt from by omega) (dw_lo hloi_25 qx_27) (dw_hn hni_25 qx_27)
            · have fc_26 : r_23.toInt = r_2.toInt := zf_eq c_26 rfl rfl
              refine lv_iload_n hx hb dX8_firstOf_71 rfl (lv_at hl 0 rfl) ?_
              exact W.iret (v := i_25) hx hb hr (fun t ht hW => ⟨i_25, rfl, ⟨by omega, by omega, (show (i_25 : Int32).toInt = zLr gki gpa gta npu.toInt.toNat nhu.toInt (gco 0).toInt (gco 1).toInt (gco 2).toInt 2 nde.toInt nse.toInt from by (have y9 : i_25.toNatClampNeg = i_25.toInt.toNat := rfl; have hm := hsr_18_0; rw [y9] at hm; have zr := hsr_23_0; rw [y9] at zr; have zr2 : r_23.toInt = (zLv (zLn gki gpa gta npu.toInt.toNat nhu.toInt (gco 0).toInt (gco 1).toInt (gco 2).toInt 1) gki gpa gta (gco 0).toInt (zPw 2) nhu.toInt nde.toInt nse.toInt) i_25.toInt.toNat := zr; have zl := hsr_2_0; have zf : zFf gta nde.toInt nse.toInt ((zLn gki gpa gta npu.toInt.toNat nhu.toInt (gco 0).toInt (gco 1).toInt (gco 2).toInt 2) nde.toInt nse.toInt) (zLv (zLn gki gpa gta npu.toInt.toNat nhu.toInt (gco 0).toInt (gco 1).toInt (gco 2).toInt 1) gki gpa gta (gco 0).toInt (zPw 2) nhu.toInt nde.toInt nse.toInt) npu.toInt.toNat = (i_25.toInt.toNat : Int) := zFf_at hvi_25_0 (hm.mp (by omega)) (by rw [← zr2, ← zl]; omega) (by omega); unfold zLr; rw [if_neg (by omega), show (2 : Nat) - 1 = 1 from by decide, if_neg (fun z => by (rcases z with z | z; (exact absurd z (by decide)); (rw [zf] at z; omega))), zf]; omega))⟩, ht⟩) (fun q hq => by cases hq) dX8_firstOf_72
  · have fc_1 : nde.toInt = 0 := zf_eq c_1 rfl (by decide)
    refine lv_iconst (v := (-1)) hx hb dX8_firstOf_7 (by decide) ?_
    exact W.iret (v := (-1)) hx hb hr (fun t ht hW => ⟨(-1), rfl, ⟨by decide, by decide, (show ((-1) : Int32).toInt = zLr gki gpa gta npu.toInt.toNat nhu.toInt (gco 0).toInt (gco 1).toInt (gco 2).toInt 2 nde.toInt nse.toInt from by (have k9 : ((-1) : Int32).toInt = -1 := (by decide); unfold zLr; rw [if_pos (by omega)]; exact k9))⟩, ht⟩) (fun q hq => by cases hq) dX8_firstOf_8
set_option maxHeartbeats 4000000 in
set_option maxRecDepth 100000 in
theorem c_F_M_firstOf_3 (l : Launch) (D : va_G) (cI cJ cZ cP cS : ClassId) (po : zPool) (m0 mrf mki mpa mta mla msl mco mhe mso msi msh mce mca mwo mnu mte mwa mke mma mth mtr : Nat) (npu nte nat_ nde nto nse nhu nga nsd nfa nba npl nen nnu nwr nra nik : Int32) (gki gpa gta gco : Nat → Int32) (hy0 : 0 ≤ npu.toInt) (hy1 : npu.toInt ≤ 8) (hy2 : 4 ≤ nte.toInt) (hy3 : nte.toInt ≤ 40) (hy4 : 0 ≤ nat_.toInt) (hy5 : nat_.toInt ≤ 40) (hy6 : 0 ≤ nde.toInt) (hy7 : nde.toInt ≤ 24) (hy8 : 0 ≤ nhu.toInt) (hy9 : nhu.toInt ≤ 9) (hy10 : 0 ≤ nra.toInt) (hy11 : nra.toInt ≤ 2000) (hy12 : 0 ≤ nik.toInt) (hy13 : nik.toInt ≤ 1) (hy14 : 0 ≤ nse.toInt) (hy15 : nse.toInt ≤ 300) (hp_gki : zRg gki (0) 6) (hp_gpa : zRg gpa (0) 9) (hp_gta : zRg gta (0) 60) (hp_gco : zRg gco (0) 99) : Met l yX8_firstOf wsX8_firstOf ({ frames := 8, cells := 0, slots := 0, locals := 203 }) (va_Pc [.ref m0, .int 3] (zR D (zKT cI cJ cZ cP cS) po [(zMO m0 npu nte nat_ nde nto nse nhu nga nsd nfa mrf mki mpa mta mla msl mco mhe mso msi msh mce mca mwo mnu mte nba npl nen nnu nwr mwa mke mma mth mtr nra nik), (mki, .inl (cI, 8, .inl gki)), (mpa, .inl (cI, 8, .inl gpa)), (mta, .inl (cI, 8, .inl gta)), (mco, .inl (cI, 3, .inl gco))])) (vp_Si (fun r => -1 ≤ r.toInt ∧ r.toInt ≤ 101 ∧ (r.toInt = zLr gki gpa gta npu.toInt.toNat nhu.toInt (gco 0).toInt (gco 1).toInt (gco 2).toInt 3 nde.toInt nse.toInt))) 0 0 (fun _ => False) := by
  refine Met.ofW (cc := cX8_firstOf) (maxL := 4) (ret := (some .int)) (by decide) rfl ?_
  intro p e s m args below meth c s₁ B hml hv
  obtain ⟨rfl, hP, hK, hN, hZ⟩ := hv
  have hx := B.exec
  have hb := B.bytes
  have hr := B.returns
  have hts := atoms_spec (ws := wsX8_firstOf) B.pre
  have hown : s.vm.findClass RX8 = some m.cls := findClass_of_methodNamed B.named
  have hlocks := B.notSynchronized
  have hl := lv_entry ([.ref m0, .int 3]) (n := 4) (Nat.le_of_ble_eq_true rfl)
  rw [lg_entry_eq]
  generalize (lg_sl ([.ref m0, .int 3]) ++ List.replicate (4 - (lg_sl ([.ref m0, .int 3])).length) Slot.unset).toArray = ls at hl ⊢
  replace hl : lv_has ls 4 [(0, .ref m0), (1, .int 3)] := hl
  refine lv_aload_n hx hb dX8_firstOf_0 rfl (lv_at hl 0 rfl) ?_
  refine va_get (D := D) (ci := 8) (v := .int nde) (C := RX8) (T := TX8) (N := 38) hx hb hts hi_X8_firstOf_8 hown hK hP 0 rfl rfl 3 (by decide) (hts (.fieldLink RX8 115 "TheLiningsInItModel" "depth" "I") (List.mem_of_getElem? (i := 1) rfl)) (fun _ h9 => h9) rfl dX8_firstOf_1 ?_
  refine lv_if_ne (tgt := 9) hx hb dX8_firstOf_4 (by decide) (fun c_1 => ?_) (fun c_1 => ?_)
  · have fc_1 : nde.toInt ≠ 0 := zf_ne c_1 rfl (by decide)
    refine lv_aload_n hx hb dX8_firstOf_9 rfl (lv_at hl 0 rfl) ?_
    refine lv_iload_n hx hb dX8_firstOf_10 rfl (lv_at hl 1 rfl) ?_
    refine lv_aload_n hx hb dX8_firstOf_11 rfl (lv_at hl 0 rfl) ?_
    refine va_get (D := D) (ci := 8) (v := .int nde) (C := RX8) (T := TX8) (N := 38) hx hb hts hi_X8_firstOf_8 hown hK hP 0 rfl rfl 3 (by decide) (hts (.fieldLink RX8 115 "TheLiningsInItModel" "depth" "I") (List.mem_of_getElem? (i := 1) rfl)) (fun _ h9 => h9) rfl dX8_firstOf_12 ?_
    refine lv_aload_n hx hb dX8_firstOf_15 rfl (lv_at hl 0 rfl) ?_
    refine va_get (D := D) (ci := 8) (v := .int nse) (C := RX8) (T := TX8) (N := 38) hx hb hts hi_X8_firstOf_8 hown hK hP 0 rfl rfl 5 (by decide) (hts (.fieldLink RX8 13 "TheLiningsInItModel" "seconds" "I") (List.mem_of_getElem? (i := 2) rfl)) (fun _ h9 => h9) rfl dX8_firstOf_16 ?_
    refine zc_V (As := [.int 3, .int nde, .int nse]) (rest := []) ⟨hx, hb, hml, hown, hts⟩ (c_F_M_leastCost_3 l D cI cJ cZ cP cS po m0 mrf mki mpa mta mla msl mco mhe mso msi msh mce mca mwo mnu mte mwa mke mma mth mtr (npu) (nte) (nat_) (nde) (nto) (nse) (nhu) (nga) (nsd) (nfa) (nba) (npl) (nen) (nnu) (nwr) (nra) (nik) gki gpa gta gco (nde) (nse) hy0 hy1 hy2 hy3 hy4 hy5 hy6 hy7 hy8 hy9 hy10 hy11 hy12 hy13 hy6 hy7 hy14 hy15 hp_gki hp_gpa hp_gta hp_gco) (cwV 3 hts gX8_firstOf_X8_leastCost rfl rfl rfl ⟨rfl, dh_X8_leastCost⟩ ⟨Nat.le_of_ble_eq_true rfl, Nat.le_of_ble_eq_true rfl⟩) hK hN hZ hP (hP.sub [0, 1, 2, 3, 4] rfl) (va_recv (q := (RX8, TX8, 38)) hK hP (ci := 8) (q0 := 0) rfl rfl) rfl hl.1 rfl (Nat.le_of_ble_eq_true rfl) dX8_firstOf_19 ⟨Nat.le_of_ble_eq_true rfl, Nat.le_of_ble_eq_true rfl⟩ (fun r_2 hr_2 => ?_)
    obtain ⟨g_3, g_4, hsr_2_0⟩ := hr_2
    refine lv_istore_n (lv' := [(2, .int r_2), (0, .ref m0), (1, .int 3)]) hx hb dX8_firstOf_22 rfl hl (by decide) rfl (fun ls hl => ?_)
    refine lv_iconst (v := 0) hx hb dX8_firstOf_23 (by decide) ?_
    refine lv_istore_n (lv' := [(3, .int 0), (2, .int r_2), (0, .ref m0), (1, .int 3)]) hx hb dX8_firstOf_24 rfl hl (by decide) rfl (fun ls hl => ?_)
    obtain ⟨i_25, hi_25⟩ : ∃ i : Int32, i = 0 := ⟨_, rfl⟩
    replace hl : lv_has ls 4 [(3, .int i_25), (2, .int r_2), (0, .ref m0), (1, .int 3)] := by rw [hi_25]; exact lv_sub hl [0, 1, 2, 3] rfl
    have h1i_25 : i_25.toInt = 0 := by rw [hi_25]; decide
    obtain ⟨nfu, hni_25⟩ : ∃ nq9 : Nat, npu.toInt ≤ i_25.toInt + (nq9 : Int) := ⟨((npu.toInt : Int) - 0).toNat, by omega⟩
    have hloi_25 : 0 ≤ i_25.toInt := by omega
    have hvi_25_0 : zFf gta nde.toInt nse.toInt ((zLn gki gpa gta npu.toInt.toNat nhu.toInt (gco 0).toInt (gco 1).toInt (gco 2).toInt 3) nde.toInt nse.toInt) (zLv (zLn gki gpa gta npu.toInt.toNat nhu.toInt (gco 0).toInt (gco 1).toInt (gco 2).toInt 2) gki gpa gta (gco 0).toInt (zPw 3) nhu.toInt nde.toInt nse.toInt) i_25.toInt.toNat = -1 := by
      (try rw [hi_25]); (rw [(show ((0 : Int32).toInt.toNat) = 0 from by decide)]; rfl)
    have hvi_25_1 : i_25.toInt ≤ npu.toInt := by
      (try rw [hi_25]); (have k0 : (0 : Int32).toInt = 0 := (by decide); omega)
    clear h1i_25 hi_25
    revert hni_25
    revert hloi_25
    revert hvi_25_1
    revert hvi_25_0
    revert hl
    revert ls
    revert i_25
    induction nfu with
    | zero =>
      intro i_25 ls hl hvi_25_0 hvi_25_1 hloi_25 hni_25
      have hzi_25 : npu.toInt ≤ i_25.toInt := by omega
      refine lv_iload_n hx hb dX8_firstOf_25 rfl (lv_at hl 0 rfl) ?_
      refine lv_aload_n hx hb dX8_firstOf_26 rfl (lv_at hl 2 rfl) ?_
      refine va_get (D := D) (ci := 8) (v := .int npu) (C := RX8) (T := TX8) (N := 38) hx hb hts hi_X8_firstOf_8 hown hK hP 0 rfl rfl 0 (by decide) (hts (.fieldLink RX8 90 "TheLiningsInItModel" "pulls" "I") (List.mem_of_getElem? (i := 3) rfl)) (fun _ h9 => h9) rfl dX8_firstOf_27 ?_
      refine lv_icmp_ge (tgt := 79) hx hb dX8_firstOf_30 (by decide) (fun c_5 => ?_) (fun c_5 => ?_)
      · have fc_5 : npu.toInt ≤ i_25.toInt := zf_le c_5 rfl rfl
        refine lv_aload_n hx hb dX8_firstOf_79 rfl (lv_at hl 2 rfl) ?_
        refine va_get (D := D) (ci := 8) (v := .int nse) (C := RX8) (T := TX8) (N := 38) hx hb hts hi_X8_firstOf_8 hown hK hP 0 rfl rfl 5 (by decide) (hts (.fieldLink RX8 13 "TheLiningsInItModel" "seconds" "I") (List.mem_of_getElem? (i := 2) rfl)) (fun _ h9 => h9) rfl dX8_firstOf_80 ?_
        refine lv_bipush (v := 30) hx hb dX8_firstOf_83 (by decide) ?_
        refine lv_icmp_lt (tgt := 109) hx hb dX8_firstOf_85 (by decide) (fun c_6 => ?_) (fun c_6 => ?_)
        · have fc_6 : nse.toInt < 30 := zf_lt c_6 rfl (by decide)
          refine lv_bipush (v := 100) hx hb dX8_firstOf_109 (by decide) ?_
          exact W.iret (v := 100) hx hb hr (fun t ht hW => ⟨100, rfl, ⟨by decide, by decide, (show (100 : Int32).toInt = zLr gki gpa gta npu.toInt.toNat nhu.toInt (gco 0).toInt (gco 1).toInt (gco 2).toInt 3 nde.toInt nse.toInt from by (have k1 : (101 : Int32).toInt = 101 := (by decide); have k2 : (100 : Int32).toInt = 100 := (by decide); have zl := hsr_2_0; have h9 : i_25.toInt.toNat = npu.toInt.toNat := (by omega); have z := hvi_25_0; rw [h9] at z; have hS := zLn_s (K := gki) (A := gpa) (T := gta) (N := npu.toInt.toNat) (n := 2) (h := nhu.toInt) (c0 := (gco 0).toInt) (c1 := (gco 1).toInt) (c2 := (gco 2).toInt) (d := nde.toInt) (s := nse.toInt); rw [if_neg (by omega)] at hS; have hL : zLn gki gpa gta npu.toInt.toNat nhu.toInt (gco 0).toInt (gco 1).toInt (gco 2).toInt 3 nde.toInt nse.toInt = zPw 3 * zAt (gco 1).toInt (gco 2).toInt nse.toInt := zFf_no npu.toInt.toNat (Or.inl hS) z hS; have hh := zHead (P := zPw 3) (c1 := (gco 1).toInt) (c2 := (gco 2).toInt) (s := nse.toInt) (zPw_pos 3); rw [← hL, ← zl, show zPw 3 = 1728 from by decide] at hh; unfold zLr; rw [if_neg (by omega), show (3 : Nat) - 1 = 2 from by decide, if_pos (Or.inr z)]; first | (rw [if_neg (fun z => by (have z2 := hh.mpr z; have z3 := z2.2; have z4 := z2.1; omega))]; omega) | (rw [if_pos (hh.mp ⟨by omega, by omega⟩)]; omega)))⟩, ht⟩) (fun q hq => by cases hq) dX8_firstOf_111
        · have fc_6 : 30 ≤ nse.toInt := zf_nlt c_6 rfl (by decide)
          refine lv_aload_n hx hb dX8_firstOf_88 rfl (lv_at hl 2 rfl) ?_
          refine va_get (D := D) (ci := 8) (v := .ref mco) (C := RX8) (T := TX8) (N := 38) hx hb hts hi_X8_firstOf_8 hown hK hP 0 rfl rfl 16 (by decide) (hts (.fieldLink RX8 44 "TheLiningsInItModel" "cost" "[I") (List.mem_of_getElem? (i := 4) rfl)) (fun _ h9 => h9) rfl dX8_firstOf_89 ?_
          refine lv_iconst (v := 1) hx hb dX8_firstOf_92 (by decide) ?_
          refine va_iald hx hb hK hP 4 0 rfl rfl (zf_in (by decide) (by decide)) dX8_firstOf_93 ?_
          refine lv_topi (fun x_7 ex_7 => ?_)
          have bx_7 : 0 ≤ x_7.toInt ∧ x_7.toInt ≤ 99 := by rw [ex_7]; exact hp_gco _
          refine lv_aload_n hx hb dX8_firstOf_94 rfl (lv_at hl 2 rfl) ?_
          refine lv_iload_n hx hb dX8_firstOf_95 rfl (lv_at hl 3 rfl) ?_
          refine zc_V (As := [.int 3]) (rest := [.int x_7]) ⟨hx, hb, hml, hown, hts⟩ (c_M_power_3 l D cI cJ cZ cP cS po m0 mrf mki mpa mta mla msl mco mhe mso msi msh mce mca mwo mnu mte mwa mke mma mth mtr (npu) (nte) (nat_) (nde) (nto) (nse) (nhu) (nga) (nsd) (nfa) (nba) (npl) (nen) (nnu) (nwr) (nra) (nik) hy0 hy1 hy2 hy3 hy4 hy5 hy6 hy7 hy8 hy9 hy10 hy11 hy12 hy13) (cwV 1 hts gX8_firstOf_X8_power rfl rfl rfl ⟨rfl, dh_X8_power⟩ ⟨Nat.le_of_ble_eq_true rfl, Nat.le_of_ble_eq_true rfl⟩) hK hN hZ hP (hP.sub [0] rfl) (va_recv (q := (RX8, TX8, 38)) hK hP (ci := 8) (q0 := 0) rfl rfl) rfl hl.1 rfl (Nat.le_of_ble_eq_true rfl) dX8_firstOf_96 ⟨Nat.le_of_ble_eq_true rfl, Nat.le_of_ble_eq_true rfl⟩ (fun r_8 hr_8 => ?_)
          obtain rfl := hr_8
          refine lv_imul hx hb dX8_firstOf_99 ?_
          refine lv_topi (fun x_9 ex_9 => ?_)
          have qx_9 : x_9.toInt = x_7.toInt * 1728 := by rw [ex_9]; exact zf_mul rfl (by decide) (by omega) (by omega)
          refine lv_iload_n hx hb dX8_firstOf_100 rfl (lv_at hl 1 rfl) ?_
          refine lv_icmp_ne (tgt := 109) hx hb dX8_firstOf_101 (by decide) (fun c_10 => ?_) (fun c_10 => ?_)
          · have fc_10 : x_9.toInt ≠ r_2.toInt := zf_ne c_10 rfl rfl
            refine lv_bipush (v := 100) hx hb dX8_firstOf_109 (by decide) ?_
            exact W.iret (v := 100) hx hb hr (fun t ht hW => ⟨100, rfl, ⟨by decide, by decide, (show (100 : Int32).toInt = zLr gki gpa gta npu.toInt.toNat nhu.toInt (gco 0).toInt (gco 1).toInt (gco 2).toInt 3 nde.toInt nse.toInt from by (have k1 : (101 : Int32).toInt = 101 := (by decide); have k2 : (100 : Int32).toInt = 100 := (by decide); have nx_7 : (gco 1).toInt = x_7.toInt := (by rw [ex_7, show (1 : Int32).toNatClampNeg = 1 from by decide]); have zl := hsr_2_0; have h9 : i_25.toInt.toNat = npu.toInt.toNat := (by omega); have z := hvi_25_0; rw [h9] at z; have hS := zLn_s (K := gki) (A := gpa) (T := gta) (N := npu.toInt.toNat) (n := 2) (h := nhu.toInt) (c0 := (gco 0).toInt) (c1 := (gco 1).toInt) (c2 := (gco 2).toInt) (d := nde.toInt) (s := nse.toInt); rw [if_neg (by omega)] at hS; have hL : zLn gki gpa gta npu.toInt.toNat nhu.toInt (gco 0).toInt (gco 1).toInt (gco 2).toInt 3 nde.toInt nse.toInt = zPw 3 * zAt (gco 1).toInt (gco 2).toInt nse.toInt := zFf_no npu.toInt.toNat (Or.inl hS) z hS; have hh := zHead (P := zPw 3) (c1 := (gco 1).toInt) (c2 := (gco 2).toInt) (s := nse.toInt) (zPw_pos 3); rw [← hL, ← zl, show zPw 3 = 1728 from by decide] at hh; unfold zLr; rw [if_neg (by omega), show (3 : Nat) - 1 = 2 from by decide, if_pos (Or.inr z)]; first | (rw [if_neg (fun z => by (have z2 := hh.mpr z; have z3 := z2.2; have z4 := z2.1; omega))]; omega) | (rw [if_pos (hh.mp ⟨by omega, by omega⟩)]; omega)))⟩, ht⟩) (fun q hq => by cases hq) dX8_firstOf_111
          · have fc_10 : x_9.toInt = r_2.toInt := zf_eq c_10 rfl rfl
            refine lv_bipush (v := 101) hx hb dX8_firstOf_104 (by decide) ?_
            refine lv_goto (tgt := 111) hx hb dX8_firstOf_106 (by decide) ?_
            exact W.iret (v := 101) hx hb hr (fun t ht hW => ⟨101, rfl, ⟨by decide, by decide, (show (101 : Int32).toInt = zLr gki gpa gta npu.toInt.toNat nhu.toInt (gco 0).toInt (gco 1).toInt (gco 2).toInt 3 nde.toInt nse.toInt from by (have k1 : (101 : Int32).toInt = 101 := (by decide); have k2 : (100 : Int32).toInt = 100 := (by decide); have nx_7 : (gco 1).toInt = x_7.toInt := (by rw [ex_7, show (1 : Int32).toNatClampNeg = 1 from by decide]); have zl := hsr_2_0; have h9 : i_25.toInt.toNat = npu.toInt.toNat := (by omega); have z := hvi_25_0; rw [h9] at z; have hS := zLn_s (K := gki) (A := gpa) (T := gta) (N := npu.toInt.toNat) (n := 2) (h := nhu.toInt) (c0 := (gco 0).toInt) (c1 := (gco 1).toInt) (c2 := (gco 2).toInt) (d := nde.toInt) (s := nse.toInt); rw [if_neg (by omega)] at hS; have hL : zLn gki gpa gta npu.toInt.toNat nhu.toInt (gco 0).toInt (gco 1).toInt (gco 2).toInt 3 nde.toInt nse.toInt = zPw 3 * zAt (gco 1).toInt (gco 2).toInt nse.toInt := zFf_no npu.toInt.toNat (Or.inl hS) z hS; have hh := zHead (P := zPw 3) (c1 := (gco 1).toInt) (c2 := (gco 2).toInt) (s := nse.toInt) (zPw_pos 3); rw [← hL, ← zl, show zPw 3 = 1728 from by decide] at hh; unfold zLr; rw [if_neg (by omega), show (3 : Nat) - 1 = 2 from by decide, if_pos (Or.inr z)]; first | (rw [if_pos (hh.mp ⟨by omega, by omega⟩)]; omega) | (rw [if_neg (fun z => by (have z2 := hh.mpr z; have z3 := z2.2; have z4 := z2.1; omega))]; omega)))⟩, ht⟩) (fun q hq => by cases hq) dX8_firstOf_111
      · exfalso; have fc_5 : i_25.toInt < npu.toInt := zf_nle c_5 rfl rfl; omega
    | succ nfu ih =>
      intro i_25 ls hl hvi_25_0 hvi_25_1 hloi_25 hni_25
      refine lv_iload_n hx hb dX8_firstOf_25 rfl (lv_at hl 0 rfl) ?_
      refine lv_aload_n hx hb dX8_firstOf_26 rfl (lv_at hl 2 rfl) ?_
      refine va_get (D := D) (ci := 8) (v := .int npu) (C := RX8) (T := TX8) (N := 38) hx hb hts hi_X8_firstOf_8 hown hK hP 0 rfl rfl 0 (by decide) (hts (.fieldLink RX8 90 "TheLiningsInItModel" "pulls" "I") (List.mem_of_getElem? (i := 3) rfl)) (fun _ h9 => h9) rfl dX8_firstOf_27 ?_
      refine lv_icmp_ge (tgt := 79) hx hb dX8_firstOf_30 (by decide) (fun c_11 => ?_) (fun c_11 => ?_)
      · have fc_11 : npu.toInt ≤ i_25.toInt := zf_le c_11 rfl rfl
        refine lv_aload_n hx hb dX8_firstOf_79 rfl (lv_at hl 2 rfl) ?_
        refine va_get (D := D) (ci := 8) (v := .int nse) (C := RX8) (T := TX8) (N := 38) hx hb hts hi_X8_firstOf_8 hown hK hP 0 rfl rfl 5 (by decide) (hts (.fieldLink RX8 13 "TheLiningsInItModel" "seconds" "I") (List.mem_of_getElem? (i := 2) rfl)) (fun _ h9 => h9) rfl dX8_firstOf_80 ?_
        refine lv_bipush (v := 30) hx hb dX8_firstOf_83 (by decide) ?_
        refine lv_icmp_lt (tgt := 109) hx hb dX8_firstOf_85 (by decide) (fun c_12 => ?_) (fun c_12 => ?_)
        · have fc_12 : nse.toInt < 30 := zf_lt c_12 rfl (by decide)
          refine lv_bipush (v := 100) hx hb dX8_firstOf_109 (by decide) ?_
          exact W.iret (v := 100) hx hb hr (fun t ht hW => ⟨100, rfl, ⟨by decide, by decide, (show (100 : Int32).toInt = zLr gki gpa gta npu.toInt.toNat nhu.toInt (gco 0).toInt (gco 1).toInt (gco 2).toInt 3 nde.toInt nse.toInt from by (have k1 : (101 : Int32).toInt = 101 := (by decide); have k2 : (100 : Int32).toInt = 100 := (by decide); have zl := hsr_2_0; have h9 : i_25.toInt.toNat = npu.toInt.toNat := (by omega); have z := hvi_25_0; rw [h9] at z; have hS := zLn_s (K := gki) (A := gpa) (T := gta) (N := npu.toInt.toNat) (n := 2) (h := nhu.toInt) (c0 := (gco 0).toInt) (c1 := (gco 1).toInt) (c2 := (gco 2).toInt) (d := nde.toInt) (s := nse.toInt); rw [if_neg (by omega)] at hS; have hL : zLn gki gpa gta npu.toInt.toNat nhu.toInt (gco 0).toInt (gco 1).toInt (gco 2).toInt 3 nde.toInt nse.toInt = zPw 3 * zAt (gco 1).toInt (gco 2).toInt nse.toInt := zFf_no npu.toInt.toNat (Or.inl hS) z hS; have hh := zHead (P := zPw 3) (c1 := (gco 1).toInt) (c2 := (gco 2).toInt) (s := nse.toInt) (zPw_pos 3); rw [← hL, ← zl, show zPw 3 = 1728 from by decide] at hh; unfold zLr; rw [if_neg (by omega), show (3 : Nat) - 1 = 2 from by decide, if_pos (Or.inr z)]; first | (rw [if_neg (fun z => by (have z2 := hh.mpr z; have z3 := z2.2; have z4 := z2.1; omega))]; omega) | (rw [if_pos (hh.mp ⟨by omega, by omega⟩)]; omega)))⟩, ht⟩) (fun q hq => by cases hq) dX8_firstOf_111
        · have fc_12 : 30 ≤ nse.toInt := zf_nlt c_12 rfl (by decide)
          refine lv_aload_n hx hb dX8_firstOf_88 rfl (lv_at hl 2 rfl) ?_
          refine va_get (D := D) (ci := 8) (v := .ref mco) (C := RX8) (T := TX8) (N := 38) hx hb hts hi_X8_firstOf_8 hown hK hP 0 rfl rfl 16 (by decide) (hts (.fieldLink RX8 44 "TheLiningsInItModel" "cost" "[I") (List.mem_of_getElem? (i := 4) rfl)) (fun _ h9 => h9) rfl dX8_firstOf_89 ?_
          refine lv_iconst (v := 1) hx hb dX8_firstOf_92 (by decide) ?_
          refine va_iald hx hb hK hP 4 0 rfl rfl (zf_in (by decide) (by decide)) dX8_firstOf_93 ?_
          refine lv_topi (fun x_13 ex_13 => ?_)
          have bx_13 : 0 ≤ x_13.toInt ∧ x_13.toInt ≤ 99 := by rw [ex_13]; exact hp_gco _
          refine lv_aload_n hx hb dX8_firstOf_94 rfl (lv_at hl 2 rfl) ?_
          refine lv_iload_n hx hb dX8_firstOf_95 rfl (lv_at hl 3 rfl) ?_
          refine zc_V (As := [.int 3]) (rest := [.int x_13]) ⟨hx, hb, hml, hown, hts⟩ (c_M_power_3 l D cI cJ cZ cP cS po m0 mrf mki mpa mta mla msl mco mhe mso msi msh mce mca mwo mnu mte mwa mke mma mth mtr (npu) (nte) (nat_) (nde) (nto) (nse) (nhu) (nga) (nsd) (nfa) (nba) (npl) (nen) (nnu) (nwr) (nra) (nik) hy0 hy1 hy2 hy3 hy4 hy5 hy6 hy7 hy8 hy9 hy10 hy11 hy12 hy13) (cwV 1 hts gX8_firstOf_X8_power rfl rfl rfl ⟨rfl, dh_X8_power⟩ ⟨Nat.le_of_ble_eq_true rfl, Nat.le_of_ble_eq_true rfl⟩) hK hN hZ hP (hP.sub [0] rfl) (va_recv (q := (RX8, TX8, 38)) hK hP (ci := 8) (q0 := 0) rfl rfl) rfl hl.1 rfl (Nat.le_of_ble_eq_true rfl) dX8_firstOf_96 ⟨Nat.le_of_ble_eq_true rfl, Nat.le_of_ble_eq_true rfl⟩ (fun r_14 hr_14 => ?_)
          obtain rfl := hr_14
          refine lv_imul hx hb dX8_firstOf_99 ?_
          refine lv_topi (fun x_15 ex_15 => ?_)
          have qx_15 : x_15.toInt = x_13.toInt * 1728 := by rw [ex_15]; exact zf_mul rfl (by decide) (by omega) (by omega)
          refine lv_iload_n hx hb dX8_firstOf_100 rfl (lv_at hl 1 rfl) ?_
          refine lv_icmp_ne (tgt := 109) hx hb dX8_firstOf_101 (by decide) (fun c_16 => ?_) (fun c_16 => ?_)
          · have fc_16 : x_15.toInt ≠ r_2.toInt := zf_ne c_16 rfl rfl
            refine lv_bipush (v := 100) hx hb dX8_firstOf_109 (by decide) ?_
            exact W.iret (v := 100) hx hb hr (fun t ht hW => ⟨100, rfl, ⟨by decide, by decide, (show (100 : Int32).toInt = zLr gki gpa gta npu.toInt.toNat nhu.toInt (gco 0).toInt (gco 1).toInt (gco 2).toInt 3 nde.toInt nse.toInt from by (have k1 : (101 : Int32).toInt = 101 := (by decide); have k2 : (100 : Int32).toInt = 100 := (by decide); have nx_13 : (gco 1).toInt = x_13.toInt := (by rw [ex_13, show (1 : Int32).toNatClampNeg = 1 from by decide]); have zl := hsr_2_0; have h9 : i_25.toInt.toNat = npu.toInt.toNat := (by omega); have z := hvi_25_0; rw [h9] at z; have hS := zLn_s (K := gki) (A := gpa) (T := gta) (N := npu.toInt.toNat) (n := 2) (h := nhu.toInt) (c0 := (gco 0).toInt) (c1 := (gco 1).toInt) (c2 := (gco 2).toInt) (d := nde.toInt) (s := nse.toInt); rw [if_neg (by omega)] at hS; have hL : zLn gki gpa gta npu.toInt.toNat nhu.toInt (gco 0).toInt (gco 1).toInt (gco 2).toInt 3 nde.toInt nse.toInt = zPw 3 * zAt (gco 1).toInt (gco 2).toInt nse.toInt := zFf_no npu.toInt.toNat (Or.inl hS) z hS; have hh := zHead (P := zPw 3) (c1 := (gco 1).toInt) (c2 := (gco 2).toInt) (s := nse.toInt) (zPw_pos 3); rw [← hL, ← zl, show zPw 3 = 1728 from by decide] at hh; unfold zLr; rw [if_neg (by omega), show (3 : Nat) - 1 = 2 from by decide, if_pos (Or.inr z)]; first | (rw [if_neg (fun z => by (have z2 := hh.mpr z; have z3 := z2.2; have z4 := z2.1; omega))]; omega) | (rw [if_pos (hh.mp ⟨by omega, by omega⟩)]; omega)))⟩, ht⟩) (fun q hq => by cases hq) dX8_firstOf_111
          · have fc_16 : x_15.toInt = r_2.toInt := zf_eq c_16 rfl rfl
            refine lv_bipush (v := 101) hx hb dX8_firstOf_104 (by decide) ?_
            refine lv_goto (tgt := 111) hx hb dX8_firstOf_106 (by decide) ?_
            exact W.iret (v := 101) hx hb hr (fun t ht hW => ⟨101, rfl, ⟨by decide, by decide, (show (101 : Int32).toInt = zLr gki gpa gta npu.toInt.toNat nhu.toInt (gco 0).toInt (gco 1).toInt (gco 2).toInt 3 nde.toInt nse.toInt from by (have k1 : (101 : Int32).toInt = 101 := (by decide); have k2 : (100 : Int32).toInt = 100 := (by decide); have nx_13 : (gco 1).toInt = x_13.toInt := (by rw [ex_13, show (1 : Int32).toNatClampNeg = 1 from by decide]); have zl := hsr_2_0; have h9 : i_25.toInt.toNat = npu.toInt.toNat := (by omega); have z := hvi_25_0; rw [h9] at z; have hS := zLn_s (K := gki) (A := gpa) (T := gta) (N := npu.toInt.toNat) (n := 2) (h := nhu.toInt) (c0 := (gco 0).toInt) (c1 := (gco 1).toInt) (c2 := (gco 2).toInt) (d := nde.toInt) (s := nse.toInt); rw [if_neg (by omega)] at hS; have hL : zLn gki gpa gta npu.toInt.toNat nhu.toInt (gco 0).toInt (gco 1).toInt (gco 2).toInt 3 nde.toInt nse.toInt = zPw 3 * zAt (gco 1).toInt (gco 2).toInt nse.toInt := zFf_no npu.toInt.toNat (Or.inl hS) z hS; have hh := zHead (P := zPw 3) (c1 := (gco 1).toInt) (c2 := (gco 2).toInt) (s := nse.toInt) (zPw_pos 3); rw [← hL, ← zl, show zPw 3 = 1728 from by decide] at hh; unfold zLr; rw [if_neg (by omega), show (3 : Nat) - 1 = 2 from by decide, if_pos (Or.inr z)]; first | (rw [if_pos (hh.mp ⟨by omega, by omega⟩)]; omega) | (rw [if_neg (fun z => by (have z2 := hh.mpr z; have z3 := z2.2; have z4 := z2.1; omega))]; omega)))⟩, ht⟩) (fun q hq => by cases hq) dX8_firstOf_111
      · have fc_11 : i_25.toInt < npu.toInt := zf_nle c_11 rfl rfl
        refine lv_iload_n hx hb dX8_firstOf_33 rfl (lv_at hl 3 rfl) ?_
        refine lv_if_le (tgt := 79) hx hb dX8_firstOf_34 (by decide) (fun c_17 => ?_) (fun c_17 => ?_)
        · exact absurd c_17 (by decide)
        · refine lv_aload_n hx hb dX8_firstOf_37 rfl (lv_at hl 2 rfl) ?_
          refine lv_iload_n hx hb dX8_firstOf_38 rfl (lv_at hl 0 rfl) ?_
          refine lv_aload_n hx hb dX8_firstOf_39 rfl (lv_at hl 2 rfl) ?_
          refine va_get (D := D) (ci := 8) (v := .int nde) (C := RX8) (T := TX8) (N := 38) hx hb hts hi_X8_firstOf_8 hown hK hP 0 rfl rfl 3 (by decide) (hts (.fieldLink RX8 115 "TheLiningsInItModel" "depth" "I") (List.mem_of_getElem? (i := 1) rfl)) (fun _ h9 => h9) rfl dX8_firstOf_40 ?_
          refine lv_aload_n hx hb dX8_firstOf_43 rfl (lv_at hl 2 rfl) ?_
          refine va_get (D := D) (ci := 8) (v := .int nse) (C := RX8) (T := TX8) (N := 38) hx hb hts hi_X8_firstOf_8 hown hK hP 0 rfl rfl 5 (by decide) (hts (.fieldLink RX8 13 "TheLiningsInItModel" "seconds" "I") (List.mem_of_getElem? (i := 2) rfl)) (fun _ h9 => h9) rfl dX8_firstOf_44 ?_
          refine zc_V (As := [.int i_25, .int nde, .int nse]) (rest := []) ⟨hx, hb, hml, hown, hts⟩ (c_F_M_mayBe l D cI cJ cZ cP cS po m0 mrf mki mpa mta mla msl mco mhe mso msi msh mce mca mwo mnu mte mwa mke mma mth mtr (npu) (nte) (nat_) (nde) (nto) (nse) (nhu) (nga) (nsd) (nfa) (nba) (npl) (nen) (nnu) (nwr) (nra) (nik) gta (i_25) (nde) (nse) hy0 hy1 hy2 hy3 hy4 hy5 hy6 hy7 hy8 hy9 hy10 hy11 hy12 hy13 (by omega) (by omega) hp_gta) (cwV 3 hts gX8_firstOf_X8_mayBe rfl rfl rfl ⟨rfl, dh_X8_mayBe⟩ ⟨Nat.le_of_ble_eq_true rfl, Nat.le_of_ble_eq_true rfl⟩) hK hN hZ hP (hP.sub [0, 3] rfl) (va_recv (q := (RX8, TX8, 38)) hK hP (ci := 8) (q0 := 0) rfl rfl) rfl hl.1 rfl (Nat.le_of_ble_eq_true rfl) dX8_firstOf_47 ⟨Nat.le_of_ble_eq_true rfl, Nat.le_of_ble_eq_true rfl⟩ (fun r_18 hr_18 => ?_)
          obtain ⟨g_19, g_20, hsr_18_0⟩ := hr_18
          refine lv_if_eq (tgt := 73) hx hb dX8_firstOf_50 (by decide) (fun c_21 => ?_) (fun c_21 => ?_)
          · have fc_21 : r_18.toInt = 0 := zf_eq c_21 rfl (by decide)
            obtain ⟨x_22, ex_22⟩ : ∃ y : Int32, y = i_25 + 1 := ⟨_, rfl⟩
            have qx_22 : x_22.toInt = i_25.toInt + 1 := dw_inc ex_22 fc_11
            refine lv_iinc (v := x_22) (lv' := [(3, .int x_22), (2, .int r_2), (0, .ref m0), (1, .int 3)]) hx hb dX8_firstOf_73 hl (k := 0) rfl ex_22.symm (by decide) rfl (fun ls hl => ?_)
            refine lv_goto (tgt := 25) hx hb dX8_firstOf_76 (by decide) ?_
            exact ih x_22 _ (lv_sub hl [0, 1, 2, 3] rfl) (show zFf gta nde.toInt nse.toInt ((zLn gki gpa gta npu.toInt.toNat nhu.toInt (gco 0).toInt (gco 1).toInt (gco 2).toInt 3) nde.toInt nse.toInt) (zLv (zLn gki gpa gta npu.toInt.toNat nhu.toInt (gco 0).toInt (gco 1).toInt (gco 2).toInt 2) gki gpa gta (gco 0).toInt (zPw 3) nhu.toInt nde.toInt nse.toInt) x_22.toInt.toNat = -1 from by (have hx : x_22.toInt.toNat = i_25.toInt.toNat + 1 := (by omega); have y9 : i_25.toNatClampNeg = i_25.toInt.toNat := rfl; have hm := hsr_18_0; rw [y9] at hm; rw [hx]; exact zFf_nx hvi_25_0 (fun z => by (have z1 := hm.mpr z.1; omega)))) (show x_22.toInt ≤ npu.toInt from by omega) (dw_lo hloi_25 qx_22) (dw_hn hni_25 qx_22)
          · have fc_21 : r_18.toInt ≠ 0 := zf_ne c_21 rfl (by decide)
            have htl9 : (gta i_25.toNatClampNeg).toInt ≤ nse.toInt := (hsr_18_0.mp (by omega)).2
            refine lv_aload_n hx hb dX8_firstOf_53 rfl (lv_at hl 2 rfl) ?_
            refine lv_iload_n hx hb dX8_firstOf_54 rfl (lv_at hl 0 rfl) ?_
            refine lv_iload_n hx hb dX8_firstOf_55 rfl (lv_at hl 3 rfl) ?_
            refine lv_aload_n hx hb dX8_firstOf_56 rfl (lv_at hl 2 rfl) ?_
            refine va_get (D := D) (ci := 8) (v := .int nde) (C := RX8) (T := TX8) (N := 38) hx hb hts hi_X8_firstOf_8 hown hK hP 0 rfl rfl 3 (by decide) (hts (.fieldLink RX8 115 "TheLiningsInItModel" "depth" "I") (List.mem_of_getElem? (i := 1) rfl)) (fun _ h9 => h9) rfl dX8_firstOf_57 ?_
            refine lv_aload_n hx hb dX8_firstOf_60 rfl (lv_at hl 2 rfl) ?_
            refine va_get (D := D) (ci := 8) (v := .int nse) (C := RX8) (T := TX8) (N := 38) hx hb hts hi_X8_firstOf_8 hown hK hP 0 rfl rfl 5 (by decide) (hts (.fieldLink RX8 13 "TheLiningsInItModel" "seconds" "I") (List.mem_of_getElem? (i := 2) rfl)) (fun _ h9 => h9) rfl dX8_firstOf_61 ?_
            refine zc_V (As := [.int i_25, .int 3, .int nde, .int nse]) (rest := []) ⟨hx, hb, hml, hown, hts⟩ (c_F_M_costBy_3 l D cI cJ cZ cP cS po m0 mrf mki mpa mta mla msl mco mhe mso msi msh mce mca mwo mnu mte mwa mke mma mth mtr (npu) (nte) (nat_) (nde) (nto) (nse) (nhu) (nga) (nsd) (nfa) (nba) (npl) (nen) (nnu) (nwr) (nra) (nik) gki gpa gta gco (i_25) (nde) (nse) hy0 hy1 hy2 hy3 hy4 hy5 hy6 hy7 hy8 hy9 hy10 hy11 hy12 hy13 (by omega) (by omega) hy6 hy7 hy14 hy15 (by first | assumption | omega) hp_gki hp_gpa hp_gta hp_gco) (cwV 4 hts gX8_firstOf_X8_costBy rfl rfl rfl ⟨rfl, dh_X8_costBy⟩ ⟨Nat.le_of_ble_eq_true rfl, Nat.le_of_ble_eq_true rfl⟩) hK hN hZ hP (hP.sub [0, 1, 2, 3, 4] rfl) (va_recv (q := (RX8, TX8, 38)) hK hP (ci := 8) (q0 := 0) rfl rfl) rfl hl.1 rfl (Nat.le_of_ble_eq_true rfl) dX8_firstOf_64 ⟨Nat.le_of_ble_eq_true rfl, Nat.le_of_ble_eq_true rfl⟩ (fun r_23 hr_23 => ?_)
            obtain ⟨g_24, g_25, hsr_23_0⟩ := hr_23
            refine lv_iload_n hx hb dX8_firstOf_67 rfl (lv_at hl 1 rfl) ?_
            refine lv_icmp_ne (tgt := 73) hx hb dX8_firstOf_68 (by decide) (fun c_26 => ?_) (fun c_26 => ?_)
            · have fc_26 : r_23.toInt ≠ r_2.toInt := zf_ne c_26 rfl rfl
              obtain ⟨x_27, ex_27⟩ : ∃ y : Int32, y = i_25 + 1 := ⟨_, rfl⟩
              have qx_27 : x_27.toInt = i_25.toInt + 1 := dw_inc ex_27 fc_11
              refine lv_iinc (v := x_27) (lv' := [(3, .int x_27), (2, .int r_2), (0, .ref m0), (1, .int 3)]) hx hb dX8_firstOf_73 hl (k := 0) rfl ex_27.symm (by decide) rfl (fun ls hl => ?_)
              refine lv_goto (tgt := 25) hx hb dX8_firstOf_76 (by decide) ?_
              exact ih x_27 _ (lv_sub hl [0, 1, 2, 3] rfl) (show zFf gta nde.toInt nse.toInt ((zLn gki gpa gta npu.toInt.toNat nhu.toInt (gco 0).toInt (gco 1).toInt (gco 2).toInt 3) nde.toInt nse.toInt) (zLv (zLn gki gpa gta npu.toInt.toNat nhu.toInt (gco 0).toInt (gco 1).toInt (gco 2).toInt 2) gki gpa gta (gco 0).toInt (zPw 3) nhu.toInt nde.toInt nse.toInt) x_27.toInt.toNat = -1 from by (have hx : x_27.toInt.toNat = i_25.toInt.toNat + 1 := (by omega); have y9 : i_25.toNatClampNeg = i_25.toInt.toNat := rfl; have hm := hsr_18_0; rw [y9] at hm; have zr := hsr_23_0; rw [y9] at zr; have zr2 : r_23.toInt = (zLv (zLn gki gpa gta npu.toInt.toNat nhu.toInt (gco 0).toInt (gco 1).toInt (gco 2).toInt 2) gki gpa gta (gco 0).toInt (zPw 3) nhu.toInt nde.toInt nse.toInt) i_25.toInt.toNat := zr; have zl := hsr_2_0; rw [hx]; exact zFf_nx hvi_25_0 (fun z => by (have z2 := z.2; rw [← zr2, ← zl] at z2; omega)))) (show x_27.toInt ≤ npu.toInt from by omega) (dw_lo hloi_25 qx_27) (dw_hn hni_25 qx_27)
            · have fc_26 : r_23.toInt = r_2.toInt := zf_eq c_26 rfl rfl
              refine lv_iload_n hx hb dX8_firstOf_71 rfl (lv_at hl 0 rfl) ?_
              exact W.iret (v := i_25) hx hb hr (fun t ht hW => ⟨i_25, rfl, ⟨by omega, by omega, (show (i_25 : Int32).toInt = zLr gki gpa gta npu.toInt.toNat nhu.toInt (gco 0).toInt (gco 1).toInt (gco 2).toInt 3 nde.toInt nse.toInt from by (have y9 : i_25.toNatClampNeg = i_25.toInt.toNat := rfl; have hm := hsr_18_0; rw [y9] at hm; have zr := hsr_23_0; rw [y9] at zr; have zr2 : r_23.toInt = (zLv (zLn gki gpa gta npu.toInt.toNat nhu.toInt (gco 0).toInt (gco 1).toInt (gco 2).toInt 2) gki gpa gta (gco 0).toInt (zPw 3) nhu.toInt nde.toInt nse.toInt) i_25.toInt.toNat := zr; have zl := hsr_2_0; have zf : zFf gta nde.toInt nse.toInt ((zLn gki gpa gta npu.toInt.toNat nhu.toInt (gco 0).toInt (gco 1).toInt (gco 2).toInt 3) nde.toInt nse.toInt) (zLv (zLn gki gpa gta npu.toInt.toNat nhu.toInt (gco 0).toInt (gco 1).toInt (gco 2).toInt 2) gki gpa gta (gco 0).toInt (zPw 3) nhu.toInt nde.toInt nse.toInt) npu.toInt.toNat = (i_25.toInt.toNat : Int) := zFf_at hvi_25_0 (hm.mp (by omega)) (by rw [← zr2, ← zl]; omega) (by omega); unfold zLr; rw [if_neg (by omega), show (3 : Nat) - 1 = 2 from by decide, if_neg (fun z => by (rcases z with z | z; (exact absurd z (by decide)); (rw [zf] at z; omega))), zf]; omega))⟩, ht⟩) (fun q hq => by cases hq) dX8_firstOf_72
  · have fc_1 : nde.toInt = 0 := zf_eq c_1 rfl (by decide)
    refine lv_iconst (v := (-1)) hx hb dX8_firstOf_7 (by decide) ?_
    exact W.iret (v := (-1)) hx hb hr (fun t ht hW => ⟨(-1), rfl, ⟨by decide, by decide, (show ((-1) : Int32).toInt = zLr gki gpa gta npu.toInt.toNat nhu.toInt (gco 0).toInt (gco 1).toInt (gco 2).toInt 3 nde.toInt nse.toInt from by (have k9 : ((-1) : Int32).toInt = -1 := (by decide); unfold zLr; rw [if_pos (by omega)]; exact k9))⟩, ht⟩) (fun q hq => by cases hq) dX8_firstOf_8
set_option maxHeartbeats 4000000 in
set_option maxRecDepth 100000 in
theorem c_F_M_firstOf_4 (l : Launch) (D : va_G) (cI cJ cZ cP cS : ClassId) (po : zPool) (m0 mrf mki mpa mta mla msl mco mhe mso msi msh mce mca mwo mnu mte mwa mke mma mth mtr : Nat) (npu nte nat_ nde nto nse nhu nga nsd nfa nba npl nen nnu nwr nra nik : Int32) (gki gpa gta gco : Nat → Int32) (hy0 : 0 ≤ npu.toInt) (hy1 : npu.toInt ≤ 8) (hy2 : 4 ≤ nte.toInt) (hy3 : nte.toInt ≤ 40) (hy4 : 0 ≤ nat_.toInt) (hy5 : nat_.toInt ≤ 40) (hy6 : 0 ≤ nde.toInt) (hy7 : nde.toInt ≤ 24) (hy8 : 0 ≤ nhu.toInt) (hy9 : nhu.toInt ≤ 9) (hy10 : 0 ≤ nra.toInt) (hy11 : nra.toInt ≤ 2000) (hy12 : 0 ≤ nik.toInt) (hy13 : nik.toInt ≤ 1) (hy14 : 0 ≤ nse.toInt) (hy15 : nse.toInt ≤ 300) (hp_gki : zRg gki (0) 6) (hp_gpa : zRg gpa (0) 9) (hp_gta : zRg gta (0) 60) (hp_gco : zRg gco (0) 99) : Met l yX8_firstOf wsX8_firstOf ({ frames := 10, cells := 0, slots := 0, locals := 255 }) (va_Pc [.ref m0, .int 4] (zR D (zKT cI cJ cZ cP cS) po [(zMO m0 npu nte nat_ nde nto nse nhu nga nsd nfa mrf mki mpa mta mla msl mco mhe mso msi msh mce mca mwo mnu mte nba npl nen nnu nwr mwa mke mma mth mtr nra nik), (mki, .inl (cI, 8, .inl gki)), (mpa, .inl (cI, 8, .inl gpa)), (mta, .inl (cI, 8, .inl gta)), (mco, .inl (cI, 3, .inl gco))])) (vp_Si (fun r => -1 ≤ r.toInt ∧ r.toInt ≤ 101 ∧ (r.toInt = zLr gki gpa gta npu.toInt.toNat nhu.toInt (gco 0).toInt (gco 1).toInt (gco 2).toInt 4 nde.toInt nse.toInt))) 0 0 (fun _ => False) := by
  refine Met.ofW (cc := cX8_firstOf) (maxL := 4) (ret := (some .int)) (by decide) rfl ?_
  intro p e s m args below meth c s₁ B hml hv
  obtain ⟨rfl, hP, hK, hN, hZ⟩ := hv
  have hx := B.exec
  have hb := B.bytes
  have hr := B.returns
  have hts := atoms_spec (ws := wsX8_firstOf) B.pre
  have hown : s.vm.findClass RX8 = some m.cls := findClass_of_methodNamed B.named
  have hlocks := B.notSynchronized
  have hl := lv_entry ([.ref m0, .int 4]) (n := 4) (Nat.le_of_ble_eq_true rfl)
  rw [lg_entry_eq]
  generalize (lg_sl ([.ref m0, .int 4]) ++ List.replicate (4 - (lg_sl ([.ref m0, .int 4])).length) Slot.unset).toArray = ls at hl ⊢
  replace hl : lv_has ls 4 [(0, .ref m0), (1, .int 4)] := hl
  refine lv_aload_n hx hb dX8_firstOf_0 rfl (lv_at hl 0 rfl) ?_
  refine va_get (D := D) (ci := 8) (v := .int nde) (C := RX8) (T := TX8) (N := 38) hx hb hts hi_X8_firstOf_8 hown hK hP 0 rfl rfl 3 (by decide) (hts (.fieldLink RX8 115 "TheLiningsInItModel" "depth" "I") (List.mem_of_getElem? (i := 1) rfl)) (fun _ h9 => h9) rfl dX8_firstOf_1 ?_
  refine lv_if_ne (tgt := 9) hx hb dX8_firstOf_4 (by decide) (fun c_1 => ?_) (fun c_1 => ?_)
  · have fc_1 : nde.toInt ≠ 0 := zf_ne c_1 rfl (by decide)
    refine lv_aload_n hx hb dX8_firstOf_9 rfl (lv_at hl 0 rfl) ?_
    refine lv_iload_n hx hb dX8_firstOf_10 rfl (lv_at hl 1 rfl) ?_
    refine lv_aload_n hx hb dX8_firstOf_11 rfl (lv_at hl 0 rfl) ?_
    refine va_get (D := D) (ci := 8) (v := .int nde) (C := RX8) (T := TX8) (N := 38) hx hb hts hi_X8_firstOf_8 hown hK hP 0 rfl rfl 3 (by decide) (hts (.fieldLink RX8 115 "TheLiningsInItModel" "depth" "I") (List.mem_of_getElem? (i := 1) rfl)) (fun _ h9 => h9) rfl dX8_firstOf_12 ?_
    refine lv_aload_n hx hb dX8_firstOf_15 rfl (lv_at hl 0 rfl) ?_
    refine va_get (D := D) (ci := 8) (v := .int nse) (C := RX8) (T := TX8) (N := 38) hx hb hts hi_X8_firstOf_8 hown hK hP 0 rfl rfl 5 (by decide) (hts (.fieldLink RX8 13 "TheLiningsInItModel" "seconds" "I") (List.mem_of_getElem? (i := 2) rfl)) (fun _ h9 => h9) rfl dX8_firstOf_16 ?_
    refine zc_V (As := [.int 4, .int nde, .int nse]) (rest := []) ⟨hx, hb, hml, hown, hts⟩ (c_F_M_leastCost_4 l D cI cJ cZ cP cS po m0 mrf mki mpa mta mla msl mco mhe mso msi msh mce mca mwo mnu mte mwa mke mma mth mtr (npu) (nte) (nat_) (nde) (nto) (nse) (nhu) (nga) (nsd) (nfa) (nba) (npl) (nen) (nnu) (nwr) (nra) (nik) gki gpa gta gco (nde) (nse) hy0 hy1 hy2 hy3 hy4 hy5 hy6 hy7 hy8 hy9 hy10 hy11 hy12 hy13 hy6 hy7 hy14 hy15 hp_gki hp_gpa hp_gta hp_gco) (cwV 3 hts gX8_firstOf_X8_leastCost rfl rfl rfl ⟨rfl, dh_X8_leastCost⟩ ⟨Nat.le_of_ble_eq_true rfl, Nat.le_of_ble_eq_true rfl⟩) hK hN hZ hP (hP.sub [0, 1, 2, 3, 4] rfl) (va_recv (q := (RX8, TX8, 38)) hK hP (ci := 8) (q0 := 0) rfl rfl) rfl hl.1 rfl (Nat.le_of_ble_eq_true rfl) dX8_firstOf_19 ⟨Nat.le_of_ble_eq_true rfl, Nat.le_of_ble_eq_true rfl⟩ (fun r_2 hr_2 => ?_)
    obtain ⟨g_3, g_4, hsr_2_0⟩ := hr_2
    refine lv_istore_n (lv' := [(2, .int r_2), (0, .ref m0), (1, .int 4)]) hx hb dX8_firstOf_22 rfl hl (by decide) rfl (fun ls hl => ?_)
    refine lv_iconst (v := 0) hx hb dX8_firstOf_23 (by decide) ?_
    refine lv_istore_n (lv' := [(3, .int 0), (2, .int r_2), (0, .ref m0), (1, .int 4)]) hx hb dX8_firstOf_24 rfl hl (by decide) rfl (fun ls hl => ?_)
    obtain ⟨i_25, hi_25⟩ : ∃ i : Int32, i = 0 := ⟨_, rfl⟩
    replace hl : lv_has ls 4 [(3, .int i_25), (2, .int r_2), (0, .ref m0), (1, .int 4)] := by rw [hi_25]; exact lv_sub hl [0, 1, 2, 3] rfl
    have h1i_25 : i_25.toInt = 0 := by rw [hi_25]; decide
    obtain ⟨nfu, hni_25⟩ : ∃ nq9 : Nat, npu.toInt ≤ i_25.toInt + (nq9 : Int) := ⟨((npu.toInt : Int) - 0).toNat, by omega⟩
    have hloi_25 : 0 ≤ i_25.toInt := by omega
    have hvi_25_0 : zFf gta nde.toInt nse.toInt ((zLn gki gpa gta npu.toInt.toNat nhu.toInt (gco 0).toInt (gco 1).toInt (gco 2).toInt 4) nde.toInt nse.toInt) (zLv (zLn gki gpa gta npu.toInt.toNat nhu.toInt (gco 0).toInt (gco 1).toInt (gco 2).toInt 3) gki gpa gta (gco 0).toInt (zPw 4) nhu.toInt nde.toInt nse.toInt) i_25.toInt.toNat = -1 := by
      (try rw [hi_25]); (rw [(show ((0 : Int32).toInt.toNat) = 0 from by decide)]; rfl)
    have hvi_25_1 : i_25.toInt ≤ npu.toInt := by
      (try rw [hi_25]); (have k0 : (0 : Int32).toInt = 0 := (by decide); omega)
    clear h1i_25 hi_25
    revert hni_25
    revert hloi_25
    revert hvi_25_1
    revert hvi_25_0
    revert hl
    revert ls
    revert i_25
    induction nfu with
    | zero =>
      intro i_25 ls hl hvi_25_0 hvi_25_1 hloi_25 hni_25
      have hzi_25 : npu.toInt ≤ i_25.toInt := by omega
      refine lv_iload_n hx hb dX8_firstOf_25 rfl (lv_at hl 0 rfl) ?_
      refine lv_aload_n hx hb dX8_firstOf_26 rfl (lv_at hl 2 rfl) ?_
      refine va_get (D := D) (ci := 8) (v := .int npu) (C := RX8) (T := TX8) (N := 38) hx hb hts hi_X8_firstOf_8 hown hK hP 0 rfl rfl 0 (by decide) (hts (.fieldLink RX8 90 "TheLiningsInItModel" "pulls" "I") (List.mem_of_getElem? (i := 3) rfl)) (fun _ h9 => h9) rfl dX8_firstOf_27 ?_
      refine lv_icmp_ge (tgt := 79) hx hb dX8_firstOf_30 (by decide) (fun c_5 => ?_) (fun c_5 => ?_)
      · have fc_5 : npu.toInt ≤ i_25.toInt := zf_le c_5 rfl rfl
        refine lv_aload_n hx hb dX8_firstOf_79 rfl (lv_at hl 2 rfl) ?_
        refine va_get (D := D) (ci := 8) (v := .int nse) (C := RX8) (T := TX8) (N := 38) hx hb hts hi_X8_firstOf_8 hown hK hP 0 rfl rfl 5 (by decide) (hts (.fieldLink RX8 13 "TheLiningsInItModel" "seconds" "I") (List.mem_of_getElem? (i := 2) rfl)) (fun _ h9 => h9) rfl dX8_firstOf_80 ?_
        refine lv_bipush (v := 30) hx hb dX8_firstOf_83 (by decide) ?_
        refine lv_icmp_lt (tgt := 109) hx hb dX8_firstOf_85 (by decide) (fun c_6 => ?_) (fun c_6 => ?_)
        · have fc_6 : nse.toInt < 30 := zf_lt c_6 rfl (by decide)
          refine lv_bipush (v := 100) hx hb dX8_firstOf_109 (by decide) ?_
          exact W.iret (v := 100) hx hb hr (fun t ht hW => ⟨100, rfl, ⟨by decide, by decide, (show (100 : Int32).toInt = zLr gki gpa gta npu.toInt.toNat nhu.toInt (gco 0).toInt (gco 1).toInt (gco 2).toInt 4 nde.toInt nse.toInt from by (have k1 : (101 : Int32).toInt = 101 := (by decide); have k2 : (100 : Int32).toInt = 100 := (by decide); have zl := hsr_2_0; have h9 : i_25.toInt.toNat = npu.toInt.toNat := (by omega); have z := hvi_25_0; rw [h9] at z; have hS := zLn_s (K := gki) (A := gpa) (T := gta) (N := npu.toInt.toNat) (n := 3) (h := nhu.toInt) (c0 := (gco 0).toInt) (c1 := (gco 1).toInt) (c2 := (gco 2).toInt) (d := nde.toInt) (s := nse.toInt); rw [if_neg (by omega)] at hS; have hL : zLn gki gpa gta npu.toInt.toNat nhu.toInt (gco 0).toInt (gco 1).toInt (gco 2).toInt 4 nde.toInt nse.toInt = zPw 4 * zAt (gco 1).toInt (gco 2).toInt nse.toInt := zFf_no npu.toInt.toNat (Or.inl hS) z hS; have hh := zHead (P := zPw 4) (c1 := (gco 1).toInt) (c2 := (gco 2).toInt) (s := nse.toInt) (zPw_pos 4); rw [← hL, ← zl, show zPw 4 = 20736 from by decide] at hh; unfold zLr; rw [if_neg (by omega), show (4 : Nat) - 1 = 3 from by decide, if_pos (Or.inr z)]; first | (rw [if_neg (fun z => by (have z2 := hh.mpr z; have z3 := z2.2; have z4 := z2.1; omega))]; omega) | (rw [if_pos (hh.mp ⟨by omega, by omega⟩)]; omega)))⟩, ht⟩) (fun q hq => by cases hq) dX8_firstOf_111
        · have fc_6 : 30 ≤ nse.toInt := zf_nlt c_6 rfl (by decide)
          refine lv_aload_n hx hb dX8_firstOf_88 rfl (lv_at hl 2 rfl) ?_
          refine va_get (D := D) (ci := 8) (v := .ref mco) (C := RX8) (T := TX8) (N := 38) hx hb hts hi_X8_firstOf_8 hown hK hP 0 rfl rfl 16 (by decide) (hts (.fieldLink RX8 44 "TheLiningsInItModel" "cost" "[I") (List.mem_of_getElem? (i := 4) rfl)) (fun _ h9 => h9) rfl dX8_firstOf_89 ?_
          refine lv_iconst (v := 1) hx hb dX8_firstOf_92 (by decide) ?_
          refine va_iald hx hb hK hP 4 0 rfl rfl (zf_in (by decide) (by decide)) dX8_firstOf_93 ?_
          refine lv_topi (fun x_7 ex_7 => ?_)
          have bx_7 : 0 ≤ x_7.toInt ∧ x_7.toInt ≤ 99 := by rw [ex_7]; exact hp_gco _
          refine lv_aload_n hx hb dX8_firstOf_94 rfl (lv_at hl 2 rfl) ?_
          refine lv_iload_n hx hb dX8_firstOf_95 rfl (lv_at hl 3 rfl) ?_
          refine zc_V (As := [.int 4]) (rest := [.int x_7]) ⟨hx, hb, hml, hown, hts⟩ (c_M_power_4 l D cI cJ cZ cP cS po m0 mrf mki mpa mta mla msl mco mhe mso msi msh mce mca mwo mnu mte mwa mke mma mth mtr (npu) (nte) (nat_) (nde) (nto) (nse) (nhu) (nga) (nsd) (nfa) (nba) (npl) (nen) (nnu) (nwr) (nra) (nik) hy0 hy1 hy2 hy3 hy4 hy5 hy6 hy7 hy8 hy9 hy10 hy11 hy12 hy13) (cwV 1 hts gX8_firstOf_X8_power rfl rfl rfl ⟨rfl, dh_X8_power⟩ ⟨Nat.le_of_ble_eq_true rfl, Nat.le_of_ble_eq_true rfl⟩) hK hN hZ hP (hP.sub [0] rfl) (va_recv (q := (RX8, TX8, 38)) hK hP (ci := 8) (q0 := 0) rfl rfl) rfl hl.1 rfl (Nat.le_of_ble_eq_true rfl) dX8_firstOf_96 ⟨Nat.le_of_ble_eq_true rfl, Nat.le_of_ble_eq_true rfl⟩ (fun r_8 hr_8 => ?_)
          obtain rfl := hr_8
          refine lv_imul hx hb dX8_firstOf_99 ?_
          refine lv_topi (fun x_9 ex_9 => ?_)
          have qx_9 : x_9.toInt = x_7.toInt * 20736 := by rw [ex_9]; exact zf_mul rfl (by decide) (by omega) (by omega)
          refine lv_iload_n hx hb dX8_firstOf_100 rfl (lv_at hl 1 rfl) ?_
          refine lv_icmp_ne (tgt := 109) hx hb dX8_firstOf_101 (by decide) (fun c_10 => ?_) (fun c_10 => ?_)
          · have fc_10 : x_9.toInt ≠ r_2.toInt := zf_ne c_10 rfl rfl
            refine lv_bipush (v := 100) hx hb dX8_firstOf_109 (by decide) ?_
            exact W.iret (v := 100) hx hb hr (fun t ht hW => ⟨100, rfl, ⟨by decide, by decide, (show (100 : Int32).toInt = zLr gki gpa gta npu.toInt.toNat nhu.toInt (gco 0).toInt (gco 1).toInt (gco 2).toInt 4 nde.toInt nse.toInt from by (have k1 : (101 : Int32).toInt = 101 := (by decide); have k2 : (100 : Int32).toInt = 100 := (by decide); have nx_7 : (gco 1).toInt = x_7.toInt := (by rw [ex_7, show (1 : Int32).toNatClampNeg = 1 from by decide]); have zl := hsr_2_0; have h9 : i_25.toInt.toNat = npu.toInt.toNat := (by omega); have z := hvi_25_0; rw [h9] at z; have hS := zLn_s (K := gki) (A := gpa) (T := gta) (N := npu.toInt.toNat) (n := 3) (h := nhu.toInt) (c0 := (gco 0).toInt) (c1 := (gco 1).toInt) (c2 := (gco 2).toInt) (d := nde.toInt) (s := nse.toInt); rw [if_neg (by omega)] at hS; have hL : zLn gki gpa gta npu.toInt.toNat nhu.toInt (gco 0).toInt (gco 1).toInt (gco 2).toInt 4 nde.toInt nse.toInt = zPw 4 * zAt (gco 1).toInt (gco 2).toInt nse.toInt := zFf_no npu.toInt.toNat (Or.inl hS) z hS; have hh := zHead (P := zPw 4) (c1 := (gco 1).toInt) (c2 := (gco 2).toInt) (s := nse.toInt) (zPw_pos 4); rw [← hL, ← zl, show zPw 4 = 20736 from by decide] at hh; unfold zLr; rw [if_neg (by omega), show (4 : Nat) - 1 = 3 from by decide, if_pos (Or.inr z)]; first | (rw [if_neg (fun z => by (have z2 := hh.mpr z; have z3 := z2.2; have z4 := z2.1; omega))]; omega) | (rw [if_pos (hh.mp ⟨by omega, by omega⟩)]; omega)))⟩, ht⟩) (fun q hq => by cases hq) dX8_firstOf_111
          · have fc_10 : x_9.toInt = r_2.toInt := zf_eq c_10 rfl rfl
            refine lv_bipush (v := 101) hx hb dX8_firstOf_104 (by decide) ?_
            refine lv_goto (tgt := 111) hx hb dX8_firstOf_106 (by decide) ?_
            exact W.iret (v := 101) hx hb hr (fun t ht hW => ⟨101, rfl, ⟨by decide, by decide, (show (101 : Int32).toInt = zLr gki gpa gta npu.toInt.toNat nhu.toInt (gco 0).toInt (gco 1).toInt (gco 2).toInt 4 nde.toInt nse.toInt from by (have k1 : (101 : Int32).toInt = 101 := (by decide); have k2 : (100 : Int32).toInt = 100 := (by decide); have nx_7 : (gco 1).toInt = x_7.toInt := (by rw [ex_7, show (1 : Int32).toNatClampNeg = 1 from by decide]); have zl := hsr_2_0; have h9 : i_25.toInt.toNat = npu.toInt.toNat := (by omega); have z := hvi_25_0; rw [h9] at z; have hS := zLn_s (K := gki) (A := gpa) (T := gta) (N := npu.toInt.toNat) (n := 3) (h := nhu.toInt) (c0 := (gco 0).toInt) (c1 := (gco 1).toInt) (c2 := (gco 2).toInt) (d := nde.toInt) (s := nse.toInt); rw [if_neg (by omega)] at hS; have hL : zLn gki gpa gta npu.toInt.toNat nhu.toInt (gco 0).toInt (gco 1).toInt (gco 2).toInt 4 nde.toInt nse.toInt = zPw 4 * zAt (gco 1).toInt (gco 2).toInt nse.toInt := zFf_no npu.toInt.toNat (Or.inl hS) z hS; have hh := zHead (P := zPw 4) (c1 := (gco 1).toInt) (c2 := (gco 2).toInt) (s := nse.toInt) (zPw_pos 4); rw [← hL, ← zl, show zPw 4 = 20736 from by decide] at hh; unfold zLr; rw [if_neg (by omega), show (4 : Nat) - 1 = 3 from by decide, if_pos (Or.inr z)]; first | (rw [if_pos (hh.mp ⟨by omega, by omega⟩)]; omega) | (rw [if_neg (fun z => by (have z2 := hh.mpr z; have z3 := z2.2; have z4 := z2.1; omega))]; omega)))⟩, ht⟩) (fun q hq => by cases hq) dX8_firstOf_111
      · exfalso; have fc_5 : i_25.toInt < npu.toInt := zf_nle c_5 rfl rfl; omega
    | succ nfu ih =>
      intro i_25 ls hl hvi_25_0 hvi_25_1 hloi_25 hni_25
      refine lv_iload_n hx hb dX8_firstOf_25 rfl (lv_at hl 0 rfl) ?_
      refine lv_aload_n hx hb dX8_firstOf_26 rfl (lv_at hl 2 rfl) ?_
      refine va_get (D := D) (ci := 8) (v := .int npu) (C := RX8) (T := TX8) (N := 38) hx hb hts hi_X8_firstOf_8 hown hK hP 0 rfl rfl 0 (by decide) (hts (.fieldLink RX8 90 "TheLiningsInItModel" "pulls" "I") (List.mem_of_getElem? (i := 3) rfl)) (fun _ h9 => h9) rfl dX8_firstOf_27 ?_
      refine lv_icmp_ge (tgt := 79) hx hb dX8_firstOf_30 (by decide) (fun c_11 => ?_) (fun c_11 => ?_)
      · have fc_11 : npu.toInt ≤ i_25.toInt := zf_le c_11 rfl rfl
        refine lv_aload_n hx hb dX8_firstOf_79 rfl (lv_at hl 2 rfl) ?_
        refine va_get (D := D) (ci := 8) (v := .int nse) (C := RX8) (T := TX8) (N := 38) hx hb hts hi_X8_firstOf_8 hown hK hP 0 rfl rfl 5 (by decide) (hts (.fieldLink RX8 13 "TheLiningsInItModel" "seconds" "I") (List.mem_of_getElem? (i := 2) rfl)) (fun _ h9 => h9) rfl dX8_firstOf_80 ?_
        refine lv_bipush (v := 30) hx hb dX8_firstOf_83 (by decide) ?_
        refine lv_icmp_lt (tgt := 109) hx hb dX8_firstOf_85 (by decide) (fun c_12 => ?_) (fun c_12 => ?_)
        · have fc_12 : nse.toInt < 30 := zf_lt c_12 rfl (by decide)
          refine lv_bipush (v := 100) hx hb dX8_firstOf_109 (by decide) ?_
          exact W.iret (v := 100) hx hb hr (fun t ht hW => ⟨100, rfl, ⟨by decide, by decide, (show (100 : Int32).toInt = zLr gki gpa gta npu.toInt.toNat nhu.toInt (gco 0).toInt (gco 1).toInt (gco 2).toInt 4 nde.toInt nse.toInt from by (have k1 : (101 : Int32).toInt = 101 := (by decide); have k2 : (100 : Int32).toInt = 100 := (by decide); have zl := hsr_2_0; have h9 : i_25.toInt.toNat = npu.toInt.toNat := (by omega); have z := hvi_25_0; rw [h9] at z; have hS := zLn_s (K := gki) (A := gpa) (T := gta) (N := npu.toInt.toNat) (n := 3) (h := nhu.toInt) (c0 := (gco 0).toInt) (c1 := (gco 1).toInt) (c2 := (gco 2).toInt) (d := nde.toInt) (s := nse.toInt); rw [if_neg (by omega)] at hS; have hL : zLn gki gpa gta npu.toInt.toNat nhu.toInt (gco 0).toInt (gco 1).toInt (gco 2).toInt 4 nde.toInt nse.toInt = zPw 4 * zAt (gco 1).toInt (gco 2).toInt nse.toInt := zFf_no npu.toInt.toNat (Or.inl hS) z hS; have hh := zHead (P := zPw 4) (c1 := (gco 1).toInt) (c2 := (gco 2).toInt) (s := nse.toInt) (zPw_pos 4); rw [← hL, ← zl, show zPw 4 = 20736 from by decide] at hh; unfold zLr; rw [if_neg (by omega), show (4 : Nat) - 1 = 3 from by decide, if_pos (Or.inr z)]; first | (rw [if_neg (fun z => by (have z2 := hh.mpr z; have z3 := z2.2; have z4 := z2.1; omega))]; omega) | (rw [if_pos (hh.mp ⟨by omega, by omega⟩)]; omega)))⟩, ht⟩) (fun q hq => by cases hq) dX8_firstOf_111
        · have fc_12 : 30 ≤ nse.toInt := zf_nlt c_12 rfl (by decide)
          refine lv_aload_n hx hb dX8_firstOf_88 rfl (lv_at hl 2 rfl) ?_
          refine va_get (D := D) (ci := 8) (v := .ref mco) (C := RX8) (T := TX8) (N := 38) hx hb hts hi_X8_firstOf_8 hown hK hP 0 rfl rfl 16 (by decide) (hts (.fieldLink RX8 44 "TheLiningsInItModel" "cost" "[I") (List.mem_of_getElem? (i := 4) rfl)) (fun _ h9 => h9) rfl dX8_firstOf_89 ?_
          refine lv_iconst (v := 1) hx hb dX8_firstOf_92 (by decide) ?_
          refine va_iald hx hb hK hP 4 0 rfl rfl (zf_in (by decide) (by decide)) dX8_firstOf_93 ?_
          refine lv_topi (fun x_13 ex_13 => ?_)
          have bx_13 : 0 ≤ x_13.toInt ∧ x_13.toInt ≤ 99 := by rw [ex_13]; exact hp_gco _
          refine lv_aload_n hx hb dX8_firstOf_94 rfl (lv_at hl 2 rfl) ?_
          refine lv_iload_n hx hb dX8_firstOf_95 rfl (lv_at hl 3 rfl) ?_
          refine zc_V (As := [.int 4]) (rest := [.int x_13]) ⟨hx, hb, hml, hown, hts⟩ (c_M_power_4 l D cI cJ cZ cP cS po m0 mrf mki mpa mta mla msl mco mhe mso msi msh mce mca mwo mnu mte mwa mke mma mth mtr (npu) (nte) (nat_) (nde) (nto) (nse) (nhu) (nga) (nsd) (nfa) (nba) (npl) (nen) (nnu) (nwr) (nra) (nik) hy0 hy1 hy2 hy3 hy4 hy5 hy6 hy7 hy8 hy9 hy10 hy11 hy12 hy13) (cwV 1 hts gX8_firstOf_X8_power rfl rfl rfl ⟨rfl, dh_X8_power⟩ ⟨Nat.le_of_ble_eq_true rfl, Nat.le_of_ble_eq_true rfl⟩) hK hN hZ hP (hP.sub [0] rfl) (va_recv (q := (RX8, TX8, 38)) hK hP (ci := 8) (q0 := 0) rfl rfl) rfl hl.1 rfl (Nat.le_of_ble_eq_true rfl) dX8_firstOf_96 ⟨Nat.le_of_ble_eq_true rfl, Nat.le_of_ble_eq_true rfl⟩ (fun r_14 hr_14 => ?_)
          obtain rfl := hr_14
          refine lv_imul hx hb dX8_firstOf_99 ?_
          refine lv_topi (fun x_15 ex_15 => ?_)
          have qx_15 : x_15.toInt = x_13.toInt * 20736 := by rw [ex_15]; exact zf_mul rfl (by decide) (by omega) (by omega)
          refine lv_iload_n hx hb dX8_firstOf_100 rfl (lv_at hl 1 rfl) ?_
          refine lv_icmp_ne (tgt := 109) hx hb dX8_firstOf_101 (by decide) (fun c_16 => ?_) (fun c_16 => ?_)
          · have fc_16 : x_15.toInt ≠ r_2.toInt := zf_ne c_16 rfl rfl
            refine lv_bipush (v := 100) hx hb dX8_firstOf_109 (by decide) ?_
            exact W.iret (v := 100) hx hb hr (fun t ht hW => ⟨100, rfl, ⟨by decide, by decide, (show (100 : Int32).toInt = zLr gki gpa gta npu.toInt.toNat nhu.toInt (gco 0).toInt (gco 1).toInt (gco 2).toInt 4 nde.toInt nse.toInt from by (have k1 : (101 : Int32).toInt = 101 := (by decide); have k2 : (100 : Int32).toInt = 100 := (by decide); have nx_13 : (gco 1).toInt = x_13.toInt := (by rw [ex_13, show (1 : Int32).toNatClampNeg = 1 from by decide]); have zl := hsr_2_0; have h9 : i_25.toInt.toNat = npu.toInt.toNat := (by omega); have z := hvi_25_0; rw [h9] at z; have hS := zLn_s (K := gki) (A := gpa) (T := gta) (N := npu.toInt.toNat) (n := 3) (h := nhu.toInt) (c0 := (gco 0).toInt) (c1 := (gco 1).toInt) (c2 := (gco 2).toInt) (d := nde.toInt) (s := nse.toInt); rw [if_neg (by omega)] at hS; have hL : zLn gki gpa gta npu.toInt.toNat nhu.toInt (gco 0).toInt (gco 1).toInt (gco 2).toInt 4 nde.toInt nse.toInt = zPw 4 * zAt (gco 1).toInt (gco 2).toInt nse.toInt := zFf_no npu.toInt.toNat (Or.inl hS) z hS; have hh := zHead (P := zPw 4) (c1 := (gco 1).toInt) (c2 := (gco 2).toInt) (s := nse.toInt) (zPw_pos 4); rw [← hL, ← zl, show zPw 4 = 20736 from by decide] at hh; unfold zLr; rw [if_neg (by omega), show (4 : Nat) - 1 = 3 from by decide, if_pos (Or.inr z)]; first | (rw [if_neg (fun z => by (have z2 := hh.mpr z; have z3 := z2.2; have z4 := z2.1; omega))]; omega) | (rw [if_pos (hh.mp ⟨by omega, by omega⟩)]; omega)))⟩, ht⟩) (fun q hq => by cases hq) dX8_firstOf_111
          · have fc_16 : x_15.toInt = r_2.toInt := zf_eq c_16 rfl rfl
            refine lv_bipush (v := 101) hx hb dX8_firstOf_104 (by decide) ?_
            refine lv_goto (tgt := 111) hx hb dX8_firstOf_106 (by decide) ?_
            exact W.iret (v := 101) hx hb hr (fun t ht hW => ⟨101, rfl, ⟨by decide, by decide, (show (101 : Int32).toInt = zLr gki gpa gta npu.toInt.toNat nhu.toInt (gco 0).toInt (gco 1).toInt (gco 2).toInt 4 nde.toInt nse.toInt from by (have k1 : (101 : Int32).toInt = 101 := (by decide); have k2 : (100 : Int32).toInt = 100 := (by decide); have nx_13 : (gco 1).toInt = x_13.toInt := (by rw [ex_13, show (1 : Int32).toNatClampNeg = 1 from by decide]); have zl := hsr_2_0; have h9 : i_25.toInt.toNat = npu.toInt.toNat := (by omega); have z := hvi_25_0; rw [h9] at z; have hS := zLn_s (K := gki) (A := gpa) (T := gta) (N := npu.toInt.toNat) (n := 3) (h := nhu.toInt) (c0 := (gco 0).toInt) (c1 := (gco 1).toInt) (c2 := (gco 2).toInt) (d := nde.toInt) (s := nse.toInt); rw [if_neg (by omega)] at hS; have hL : zLn gki gpa gta npu.toInt.toNat nhu.toInt (gco 0).toInt (gco 1).toInt (gco 2).toInt 4 nde.toInt nse.toInt = zPw 4 * zAt (gco 1).toInt (gco 2).toInt nse.toInt := zFf_no npu.toInt.toNat (Or.inl hS) z hS; have hh := zHead (P := zPw 4) (c1 := (gco 1).toInt) (c2 := (gco 2).toInt) (s := nse.toInt) (zPw_pos 4); rw [← hL, ← zl, show zPw 4 = 20736 from by decide] at hh; unfold zLr; rw [if_neg (by omega), show (4 : Nat) - 1 = 3 from by decide, if_pos (Or.inr z)]; first | (rw [if_pos (hh.mp ⟨by omega, by omega⟩)]; omega) | (rw [if_neg (fun z => by (have z2 := hh.mpr z; have z3 := z2.2; have z4 := z2.1; omega))]; omega)))⟩, ht⟩) (fun q hq => by cases hq) dX8_firstOf_111
      · have fc_11 : i_25.toInt < npu.toInt := zf_nle c_11 rfl rfl
        refine lv_iload_n hx hb dX8_firstOf_33 rfl (lv_at hl 3 rfl) ?_
        refine lv_if_le (tgt := 79) hx hb dX8_firstOf_34 (by decide) (fun c_17 => ?_) (fun c_17 => ?_)
        · exact absurd c_17 (by decide)
        · refine lv_aload_n hx hb dX8_firstOf_37 rfl (lv_at hl 2 rfl) ?_
          refine lv_iload_n hx hb dX8_firstOf_38 rfl (lv_at hl 0 rfl) ?_
          refine lv_aload_n hx hb dX8_firstOf_39 rfl (lv_at hl 2 rfl) ?_
          refine va_get (D := D) (ci := 8) (v := .int nde) (C := RX8) (T := TX8) (N := 38) hx hb hts hi_X8_firstOf_8 hown hK hP 0 rfl rfl 3 (by decide) (hts (.fieldLink RX8 115 "TheLiningsInItModel" "depth" "I") (List.mem_of_getElem? (i := 1) rfl)) (fun _ h9 => h9) rfl dX8_firstOf_40 ?_
          refine lv_aload_n hx hb dX8_firstOf_43 rfl (lv_at hl 2 rfl) ?_
          refine va_get (D := D) (ci := 8) (v := .int nse) (C := RX8) (T := TX8) (N := 38) hx hb hts hi_X8_firstOf_8 hown hK hP 0 rfl rfl 5 (by decide) (hts (.fieldLink RX8 13 "TheLiningsInItModel" "seconds" "I") (List.mem_of_getElem? (i := 2) rfl)) (fun _ h9 => h9) rfl dX8_firstOf_44 ?_
          refine zc_V (As := [.int i_25, .int nde, .int nse]) (rest := []) ⟨hx, hb, hml, hown, hts⟩ (c_F_M_mayBe l D cI cJ cZ cP cS po m0 mrf mki mpa mta mla msl mco mhe mso msi msh mce mca mwo mnu mte mwa mke mma mth mtr (npu) (nte) (nat_) (nde) (nto) (nse) (nhu) (nga) (nsd) (nfa) (nba) (npl) (nen) (nnu) (nwr) (nra) (nik) gta (i_25) (nde) (nse) hy0 hy1 hy2 hy3 hy4 hy5 hy6 hy7 hy8 hy9 hy10 hy11 hy12 hy13 (by omega) (by omega) hp_gta) (cwV 3 hts gX8_firstOf_X8_mayBe rfl rfl rfl ⟨rfl, dh_X8_mayBe⟩ ⟨Nat.le_of_ble_eq_true rfl, Nat.le_of_ble_eq_true rfl⟩) hK hN hZ hP (hP.sub [0, 3] rfl) (va_recv (q := (RX8, TX8, 38)) hK hP (ci := 8) (q0 := 0) rfl rfl) rfl hl.1 rfl (Nat.le_of_ble_eq_true rfl) dX8_firstOf_47 ⟨Nat.le_of_ble_eq_true rfl, Nat.le_of_ble_eq_true rfl⟩ (fun r_18 hr_18 => ?_)
          obtain ⟨g_19, g_20, hsr_18_0⟩ := hr_18
          refine lv_if_eq (tgt := 73) hx hb dX8_firstOf_50 (by decide) (fun c_21 => ?_) (fun c_21 => ?_)
          · have fc_21 : r_18.toInt = 0 := zf_eq c_21 rfl (by decide)
            obtain ⟨x_22, ex_22⟩ : ∃ y : Int32, y = i_25 + 1 := ⟨_, rfl⟩
            have qx_22 : x_22.toInt = i_25.toInt + 1 := dw_inc ex_22 fc_11
            refine lv_iinc (v := x_22) (lv' := [(3, .int x_22), (2, .int r_2), (0, .ref m0), (1, .int 4)]) hx hb dX8_firstOf_73 hl (k := 0) rfl ex_22.symm (by decide) rfl (fun ls hl => ?_)
            refine lv_goto (tgt := 25) hx hb dX8_firstOf_76 (by decide) ?_
            exact ih x_22 _ (lv_sub hl [0, 1, 2, 3] rfl) (show zFf gta nde.toInt nse.toInt ((zLn gki gpa gta npu.toInt.toNat nhu.toInt (gco 0).toInt (gco 1).toInt (gco 2).toInt 4) nde.toInt nse.toInt) (zLv (zLn gki gpa gta npu.toInt.toNat nhu.toInt (gco 0).toInt (gco 1).toInt (gco 2).toInt 3) gki gpa gta (gco 0).toInt (zPw 4) nhu.toInt nde.toInt nse.toInt) x_22.toInt.toNat = -1 from by (have hx : x_22.toInt.toNat = i_25.toInt.toNat + 1 := (by omega); have y9 : i_25.toNatClampNeg = i_25.toInt.toNat := rfl; have hm := hsr_18_0; rw [y9] at hm; rw [hx]; exact zFf_nx hvi_25_0 (fun z => by (have z1 := hm.mpr z.1; omega)))) (show x_22.toInt ≤ npu.toInt from by omega) (dw_lo hloi_25 qx_22) (dw_hn hni_25 qx_22)
          · have fc_21 : r_18.toInt ≠ 0 := zf_ne c_21 rfl (by decide)
            have htl9 : (gta i_25.toNatClampNeg).toInt ≤ nse.toInt := (hsr_18_0.mp (by omega)).2
            refine lv_aload_n hx hb dX8_firstOf_53 rfl (lv_at hl 2 rfl) ?_
            refine lv_iload_n hx hb dX8_firstOf_54 rfl (lv_at hl 0 rfl) ?_
            refine lv_iload_n hx hb dX8_firstOf_55 rfl (lv_at hl 3 rfl) ?_
            refine lv_aload_n hx hb dX8_firstOf_56 rfl (lv_at hl 2 rfl) ?_
            refine va_get (D := D) (ci := 8) (v := .int nde) (C := RX8) (T := TX8) (N := 38) hx hb hts hi_X8_firstOf_8 hown hK hP 0 rfl rfl 3 (by decide) (hts (.fieldLink RX8 115 "TheLiningsInItModel" "depth" "I") (List.mem_of_getElem? (i := 1) rfl)) (fun _ h9 => h9) rfl dX8_firstOf_57 ?_
            refine lv_aload_n hx hb dX8_firstOf_60 rfl (lv_at hl 2 rfl) ?_
            refine va_get (D := D) (ci := 8) (v := .int nse) (C := RX8) (T := TX8) (N := 38) hx hb hts hi_X8_firstOf_8 hown hK hP 0 rfl rfl 5 (by decide) (hts (.fieldLink RX8 13 "TheLiningsInItModel" "seconds" "I") (List.mem_of_getElem? (i := 2) rfl)) (fun _ h9 => h9) rfl dX8_firstOf_61 ?_
            refine zc_V (As := [.int i_25, .int 4, .int nde, .int nse]) (rest := []) ⟨hx, hb, hml, hown, hts⟩ (c_F_M_costBy_4 l D cI cJ cZ cP cS po m0 mrf mki mpa mta mla msl mco mhe mso msi msh mce mca mwo mnu mte mwa mke mma mth mtr (npu) (nte) (nat_) (nde) (nto) (nse) (nhu) (nga) (nsd) (nfa) (nba) (npl) (nen) (nnu) (nwr) (nra) (nik) gki gpa gta gco (i_25) (nde) (nse) hy0 hy1 hy2 hy3 hy4 hy5 hy6 hy7 hy8 hy9 hy10 hy11 hy12 hy13 (by omega) (by omega) hy6 hy7 hy14 hy15 (by first | assumption | omega) hp_gki hp_gpa hp_gta hp_gco) (cwV 4 hts gX8_firstOf_X8_costBy rfl rfl rfl ⟨rfl, dh_X8_costBy⟩ ⟨Nat.le_of_ble_eq_true rfl, Nat.le_of_ble_eq_true rfl⟩) hK hN hZ hP (hP.sub [0, 1, 2, 3, 4] rfl) (va_recv (q := (RX8, TX8, 38)) hK hP (ci := 8) (q0 := 0) rfl rfl) rfl hl.1 rfl (Nat.le_of_ble_eq_true rfl) dX8_firstOf_64 ⟨Nat.le_of_ble_eq_true rfl, Nat.le_of_ble_eq_true rfl⟩ (fun r_23 hr_23 => ?_)
            obtain ⟨g_24, g_25, hsr_23_0⟩ := hr_23
            refine lv_iload_n hx hb dX8_firstOf_67 rfl (lv_at hl 1 rfl) ?_
            refine lv_icmp_ne (tgt := 73) hx hb dX8_firstOf_68 (by decide) (fun c_26 => ?_) (fun c_26 => ?_)
            · have fc_26 : r_23.toInt ≠ r_2.toInt := zf_ne c_26 rfl rfl
              obtain ⟨x_27, ex_27⟩ : ∃ y : Int32, y = i_25 + 1 := ⟨_, rfl⟩
              have qx_27 : x_27.toInt = i_25.toInt + 1 := dw_inc ex_27 fc_11
              refine lv_iinc (v := x_27) (lv' := [(3, .int x_27), (2, .int r_2), (0, .ref m0), (1, .int 4)]) hx hb dX8_firstOf_73 hl (k := 0) rfl ex_27.symm (by decide) rfl (fun ls hl => ?_)
              refine lv_goto (tgt := 25) hx hb dX8_firstOf_76 (by decide) ?_
              exact ih x_27 _ (lv_sub hl [0, 1, 2, 3] rfl) (show zFf gta nde.toInt nse.toInt ((zLn gki gpa gta npu.toInt.toNat nhu.toInt (gco 0).toInt (gco 1).toInt (gco 2).toInt 4) nde.toInt nse.toInt) (zLv (zLn gki gpa gta npu.toInt.toNat nhu.toInt (gco 0).toInt (gco 1).toInt (gco 2).toInt 3) gki gpa gta (gco 0).toInt (zPw 4) nhu.toInt nde.toInt nse.toInt) x_27.toInt.toNat = -1 from by (have hx : x_27.toInt.toNat = i_25.toInt.toNat + 1 := (by omega); have y9 : i_25.toNatClampNeg = i_25.toInt.toNat := rfl; have hm := hsr_18_0; rw [y9] at hm; have zr := hsr_23_0; rw [y9] at zr; have zr2 : r_23.toInt = (zLv (zLn gki gpa gta npu.toInt.toNat nhu.toInt (gco 0).toInt (gco 1).toInt (gco 2).toInt 3) gki gpa gta (gco 0).toInt (zPw 4) nhu.toInt nde.toInt nse.toInt) i_25.toInt.toNat := zr; have zl := hsr_2_0; rw [hx]; exact zFf_nx hvi_25_0 (fun z => by (have z2 := z.2; rw [← zr2, ← zl] at z2; omega)))) (show x_27.toInt ≤ npu.toInt from by omega) (dw_lo hloi_25 qx_27) (dw_hn hni_25 qx_27)
            · have fc_26 : r_23.toInt = r_2.toInt := zf_eq c_26 rfl rfl
              refine lv_iload_n hx hb dX8_firstOf_71 rfl (lv_at hl 0 rfl) ?_
              exact W.iret (v := i_25) hx hb hr (fun t ht hW => ⟨i_25, rfl, ⟨by omega, by omega, (show (i_25 : Int32).toInt = zLr gki gpa gta npu.toInt.toNat nhu.toInt (gco 0).toInt (gco 1).toInt (gco 2).toInt 4 nde.toInt nse.toInt from by (have y9 : i_25.toNatClampNeg = i_25.toInt.toNat := rfl; have hm := hsr_18_0; rw [y9] at hm; have zr := hsr_23_0; rw [y9] at zr; have zr2 : r_23.toInt = (zLv (zLn gki gpa gta npu.toInt.toNat nhu.toInt (gco 0).toInt (gco 1).toInt (gco 2).toInt 3) gki gpa gta (gco 0).toInt (zPw 4) nhu.toInt nde.toInt nse.toInt) i_25.toInt.toNat := zr; have zl := hsr_2_0; have zf : zFf gta nde.toInt nse.toInt ((zLn gki gpa gta npu.toInt.toNat nhu.toInt (gco 0).toInt (gco 1).toInt (gco 2).toInt 4) nde.toInt nse.toInt) (zLv (zLn gki gpa gta npu.toInt.toNat nhu.toInt (gco 0).toInt (gco 1).toInt (gco 2).toInt 3) gki gpa gta (gco 0).toInt (zPw 4) nhu.toInt nde.toInt nse.toInt) npu.toInt.toNat = (i_25.toInt.toNat : Int) := zFf_at hvi_25_0 (hm.mp (by omega)) (by rw [← zr2, ← zl]; omega) (by omega); unfold zLr; rw [if_neg (by omega), show (4 : Nat) - 1 = 3 from by decide, if_neg (fun z => by (rcases z with z | z; (exact absurd z (by decide)); (rw [zf] at z; omega))), zf]; omega))⟩, ht⟩) (fun q hq => by cases hq) dX8_firstOf_72
  · have fc_1 : nde.toInt = 0 := zf_eq c_1 rfl (by decide)
    refine lv_iconst (v := (-1)) hx hb dX8_firstOf_7 (by decide) ?_
    exact W.iret (v := (-1)) hx hb hr (fun t ht hW => ⟨(-1), rfl, ⟨by decide, by decide, (show ((-1) : Int32).toInt = zLr gki gpa gta npu.toInt.toNat nhu.toInt (gco 0).toInt (gco 1).toInt (gco 2).toInt 4 nde.toInt nse.toInt from by (have k9 : ((-1) : Int32).toInt = -1 := (by decide); unfold zLr; rw [if_pos (by omega)]; exact k9))⟩, ht⟩) (fun q hq => by cases hq) dX8_firstOf_8
set_option maxHeartbeats 4000000 in
set_option maxRecDepth 100000 in
theorem c_F_M_line (l : Launch) (D : va_G) (cI cJ cZ cP cS : ClassId) (po : zPool) (m0 mrf mki mpa mta mla msl mco mhe mso msi msh mce mca mwo mnu mte mwa mke mma mth mtr : Nat) (npu nte nat_ nde nto nse nhu nga nsd nfa nba npl nen nnu nwr nra nik : Int32) (grf gki gpa gta gco : Nat → Int32) (n w : Int32) (hy0 : 0 ≤ npu.toInt) (hy1 : npu.toInt ≤ 8) (hy2 : 4 ≤ nte.toInt) (hy3 : nte.toInt ≤ 40) (hy4 : 0 ≤ nat_.toInt) (hy5 : nat_.toInt ≤ 40) (hy6 : 0 ≤ nde.toInt) (hy7 : nde.toInt ≤ 24) (hy8 : 0 ≤ nhu.toInt) (hy9 : nhu.toInt ≤ 9) (hy10 : 0 ≤ nra.toInt) (hy11 : nra.toInt ≤ 2000) (hy12 : 0 ≤ nik.toInt) (hy13 : nik.toInt ≤ 1) (hy14 : 0 ≤ nse.toInt) (hy15 : nse.toInt ≤ 300) (hp_gki : zRg gki (0) 6) (hp_gpa : zRg gpa (0) 9) (hp_gta : zRg gta (0) 60) (hp_gco : zRg gco (0) 99) (hpz : Nat) : Met l yX8_line wsX8_line ({ frames := 11, cells := 0, slots := 0, locals := 278 }) (va_Pc [.ref m0, .int n, .int w] (zW D (zKT cI cJ cZ cP cS) po [(zMO m0 npu nte nat_ nde nto nse nhu nga nsd nfa mrf mki mpa mta mla msl mco mhe mso msi msh mce mca mwo mnu mte nba npl nen nnu nwr mwa mke mma mth mtr nra nik), (mrf, .inl (cI, 8, .inl grf)), (mki, .inl (cI, 8, .inl gki)), (mpa, .inl (cI, 8, .inl gpa)), (mta, .inl (cI, 8, .inl gta)), (mco, .inl (cI, 3, .inl gco))] hpz)) (va_Qi (fun (r : Int32) (grf2 : (Nat → Int32)) => (((w.toInt < 0 ∨ 1 < w.toInt) ∧ r.toInt = -15) ∨ ((0 ≤ w.toInt ∧ w.toInt ≤ 1) ∧ (((n.toInt < 0 ∨ 4 < n.toInt) ∧ r.toInt = -16) ∨ ((0 ≤ n.toInt ∧ n.toInt ≤ 4) ∧ ((w.toInt = 1 ∧ r.toInt = zLr gki gpa gta npu.toInt.toNat nhu.toInt (gco 0).toInt (gco 1).toInt (gco 2).toInt n.toInt.toNat nde.toInt nse.toInt) ∨ (w.toInt = 0 ∧ r.toInt = zLn gki gpa gta npu.toInt.toNat nhu.toInt (gco 0).toInt (gco 1).toInt (gco 2).toInt n.toInt.toNat nde.toInt nse.toInt)))))) ∧ (True)) (zB D [(zMO m0 npu nte nat_ nde nto nse nhu nga nsd nfa mrf mki mpa mta mla msl mco mhe mso msi msh mce mca mwo mnu mte nba npl nen nnu nwr mwa mke mma mth mtr nra nik), (mrf, .inl (cI, 8, .inl grf)), (mki, .inl (cI, 8, .inl gki)), (mpa, .inl (cI, 8, .inl gpa)), (mta, .inl (cI, 8, .inl gta)), (mco, .inl (cI, 3, .inl gco))] hpz (fun (grf2 : Nat → Int32) => [(zMO m0 npu nte nat_ nde nto nse nhu nga nsd nfa mrf mki mpa mta mla msl mco mhe mso msi msh mce mca mwo mnu mte nba npl nen nnu nwr mwa mke mma mth mtr nra nik), (mrf, .inl (cI, 8, .inl grf2)), (mki, .inl (cI, 8, .inl gki)), (mpa, .inl (cI, 8, .inl gpa)), (mta, .inl (cI, 8, .inl gta)), (mco, .inl (cI, 3, .inl gco))])) (va_A [(zMO m0 npu nte nat_ nde nto nse nhu nga nsd nfa mrf mki mpa mta mla msl mco mhe mso msi msh mce mca mwo mnu mte nba npl nen nnu nwr mwa mke mma mth mtr nra nik), (mrf, .inl (cI, 8, .inl grf)), (mki, .inl (cI, 8, .inl gki)), (mpa, .inl (cI, 8, .inl gpa)), (mta, .inl (cI, 8, .inl gta)), (mco, .inl (cI, 3, .inl gco))] hpz)) 0 0 (va_A [(zMO m0 npu nte nat_ nde nto nse nhu nga nsd nfa mrf mki mpa mta mla msl mco mhe mso msi msh mce mca mwo mnu mte nba npl nen nnu nwr mwa mke mma mth mtr nra nik), (mrf, .inl (cI, 8, .inl grf)), (mki, .inl (cI, 8, .inl gki)), (mpa, .inl (cI, 8, .inl gpa)), (mta, .inl (cI, 8, .inl gta)), (mco, .inl (cI, 3, .inl gco))] hpz) := by
  refine Met.ofW (cc := cX8_line) (maxL := 3) (ret := (some .int)) (by decide) rfl ?_
  intro p e s m args below meth c s₁ B hml hv
  obtain ⟨rfl, hsz, hP, hK, hD0, hN, hZ⟩ := hv
  have hx := B.exec
  have hb := B.bytes
  have hr := B.returns
  have hts := atoms_spec (ws := wsX8_line) B.pre
  have hown : s.vm.findClass RX8 = some m.cls := findClass_of_methodNamed B.named
  have hlocks := B.notSynchronized
  subst hsz
  have hD := hD0.self (sz := s.heap.size)
  have hA := zA_of hD
  have hl := lv_entry ([.ref m0, .int n, .int w]) (n := 3) (Nat.le_of_ble_eq_true rfl)
  rw [lg_entry_eq]
  generalize (lg_sl ([.ref m0, .int n, .int w]) ++ List.replicate (3 - (lg_sl ([.ref m0, .int n, .int w])).length) Slot.unset).toArray = ls at hl ⊢
  replace hl : lv_has ls 3 [(0, .ref m0), (1, .int n), (2, .int w)] := hl
  refine zw_begin hP hD (fun H locs hP1 hS => ?_)
  clear hP
  have hP := hP1
  clear hP1
  refine lv_iload_n hx hb dX8_line_0 rfl (lv_at hl 2 rfl) ?_
  refine lv_if_lt (tgt := 9) hx hb dX8_line_1 (by decide) (fun c_1 => ?_) (fun c_1 => ?_)
  · have fc_1 : w.toInt < 0 := zf_lt c_1 rfl (by decide)
    refine lv_aload_n hx hb dX8_line_9 rfl (lv_at hl 0 rfl) ?_
    refine lv_bipush (v := (-5)) hx hb dX8_line_10 (by decide) ?_
    skip
    refine zw_V (As := [.int (-5)]) (rest := []) (wr := [(mki, .inl (cI, 8, .inl gki)), (mpa, .inl (cI, 8, .inl gpa)), (mta, .inl (cI, 8, .inl gta)), (mco, .inl (cI, 3, .inl gco))]) ⟨hx, hb, hml, hown, hts⟩ (c_M_noTen_5 l D cI cJ cZ cP cS po m0 mrf mki mpa mta mla msl mco mhe mso msi msh mce mca mwo mnu mte mwa mke mma mth mtr (npu) (nte) (nat_) (nde) (nto) (nse) (nhu) (nga) (nsd) (nfa) (nba) (npl) (nen) (nnu) (nwr) (nra) (nik) grf hy0 hy1 hy2 hy3 hy4 hy5 hy6 hy7 hy8 hy9 hy10 hy11 hy12 hy13 H.size) (cwV 1 hts gX8_line_X8_noTen rfl rfl rfl ⟨rfl, dh_X8_noTen⟩ ⟨Nat.le_of_ble_eq_true rfl, Nat.le_of_ble_eq_true rfl⟩) hK hN (hZ.kept hS) hP hD hS hA [0, 1] [2, 3, 4, 5] rfl rfl (by decide) (by decide) (by decide) (va_recv (q := (RX8, TX8, 38)) hK hP (ci := 8) (q0 := 0) rfl rfl) rfl hl.1 rfl (Nat.le_of_ble_eq_true rfl) dX8_line_12 ⟨Nat.le_of_ble_eq_true rfl, Nat.le_of_ble_eq_true rfl⟩ (fun r_2 u_3 H locs hr_2 hP hD hS => ?_)
    obtain ⟨q_4, rfl⟩ : ∃ z, z = u_3 := ⟨_, rfl⟩
    have h9R := zRe (ws' := [(mki, .inl (cI, 8, .inl gki)), (mpa, .inl (cI, 8, .inl gpa)), (mta, .inl (cI, 8, .inl gta)), (mco, .inl (cI, 3, .inl gco)), (zMO m0 npu nte nat_ nde nto nse nhu nga nsd nfa mrf mki mpa mta mla msl mco mhe mso msi msh mce mca mwo mnu mte nba npl nen nnu nwr mwa mke mma mth mtr nra nik), (mrf, .inl (cI, 8, .inl q_4))]) hP hD rfl
    clear hP hD
    obtain ⟨hP, hD⟩ := h9R
    obtain rfl := hr_2
    exact W.iret (v := (-15)) hx hb hr (fun t ht hW => ⟨⟨(-15), q_4, rfl, ⟨(show ((w.toInt < 0 ∨ 1 < w.toInt) ∧ ((-15) : Int32).toInt = -15) ∨ ((0 ≤ w.toInt ∧ w.toInt ≤ 1) ∧ (((n.toInt < 0 ∨ 4 < n.toInt) ∧ ((-15) : Int32).toInt = -16) ∨ ((0 ≤ n.toInt ∧ n.toInt ≤ 4) ∧ ((w.toInt = 1 ∧ ((-15) : Int32).toInt = zLr gki gpa gta npu.toInt.toNat nhu.toInt (gco 0).toInt (gco 1).toInt (gco 2).toInt n.toInt.toNat nde.toInt nse.toInt) ∨ (w.toInt = 0 ∧ ((-15) : Int32).toInt = zLn gki gpa gta npu.toInt.toNat nhu.toInt (gco 0).toInt (gco 1).toInt (gco 2).toInt n.toInt.toNat nde.toInt nse.toInt))))) from by (have k15m : ((-15) : Int32).toInt = -15 := (by decide); omega)), trivial⟩, zRet ht hP hD [4, 5, 0, 1, 2, 3] (by decide) rfl⟩, hS.F ht⟩) hS.2.2 dX8_line_15
  · have fc_1 : 0 ≤ w.toInt := zf_nlt c_1 rfl (by decide)
    refine lv_iload_n hx hb dX8_line_4 rfl (lv_at hl 2 rfl) ?_
    refine lv_iconst (v := 1) hx hb dX8_line_5 (by decide) ?_
    refine lv_icmp_le (tgt := 16) hx hb dX8_line_6 (by decide) (fun c_5 => ?_) (fun c_5 => ?_)
    · have fc_5 : w.toInt ≤ 1 := zf_le c_5 rfl (by decide)
      refine lv_aload_n hx hb dX8_line_16 rfl (lv_at hl 0 rfl) ?_
      refine lv_iload_n hx hb dX8_line_17 rfl (lv_at hl 1 rfl) ?_
      refine zc_V (As := [.int n]) (rest := []) ⟨hx, hb, hml, hown, hts⟩ (c_M_isFew l D cI cJ cZ cP cS po m0 mrf mki mpa mta mla msl mco mhe mso msi msh mce mca mwo mnu mte mwa mke mma mth mtr (npu) (nte) (nat_) (nde) (nto) (nse) (nhu) (nga) (nsd) (nfa) (nba) (npl) (nen) (nnu) (nwr) (nra) (nik) (n) hy0 hy1 hy2 hy3 hy4 hy5 hy6 hy7 hy8 hy9 hy10 hy11 hy12 hy13) (cwV 1 hts gX8_line_X8_isFew rfl rfl rfl ⟨rfl, dh_X8_isFew⟩ ⟨Nat.le_of_ble_eq_true rfl, Nat.le_of_ble_eq_true rfl⟩) hK hN (hZ.kept hS) hP (hP.sub [0] rfl) (va_recv (q := (RX8, TX8, 38)) hK hP (ci := 8) (q0 := 0) rfl rfl) rfl hl.1 rfl (Nat.le_of_ble_eq_true rfl) dX8_line_18 ⟨Nat.le_of_ble_eq_true rfl, Nat.le_of_ble_eq_true rfl⟩ (fun r_6 hr_6 => ?_)
      rcases hr_6 with ⟨rfl, g_7⟩ | ⟨rfl, g_8, g_9⟩ | ⟨rfl, g_10, g_11⟩
      · refine lv_if_ne (tgt := 31) hx hb dX8_line_21 (by decide) (fun c_12 => ?_) (fun c_12 => ?_)
        · exact absurd c_12 (by decide)
        · refine lv_aload_n hx hb dX8_line_24 rfl (lv_at hl 0 rfl) ?_
          refine lv_bipush (v := (-6)) hx hb dX8_line_25 (by decide) ?_
          skip
          refine zw_V (As := [.int (-6)]) (rest := []) (wr := [(mki, .inl (cI, 8, .inl gki)), (mpa, .inl (cI, 8, .inl gpa)), (mta, .inl (cI, 8, .inl gta)), (mco, .inl (cI, 3, .inl gco))]) ⟨hx, hb, hml, hown, hts⟩ (c_M_noTen_6 l D cI cJ cZ cP cS po m0 mrf mki mpa mta mla msl mco mhe mso msi msh mce mca mwo mnu mte mwa mke mma mth mtr (npu) (nte) (nat_) (nde) (nto) (nse) (nhu) (nga) (nsd) (nfa) (nba) (npl) (nen) (nnu) (nwr) (nra) (nik) grf hy0 hy1 hy2 hy3 hy4 hy5 hy6 hy7 hy8 hy9 hy10 hy11 hy12 hy13 H.size) (cwV 1 hts gX8_line_X8_noTen rfl rfl rfl ⟨rfl, dh_X8_noTen⟩ ⟨Nat.le_of_ble_eq_true rfl, Nat.le_of_ble_eq_true rfl⟩) hK hN (hZ.kept hS) hP hD hS hA [0, 1] [2, 3, 4, 5] rfl rfl (by decide) (by decide) (by decide) (va_recv (q := (RX8, TX8, 38)) hK hP (ci := 8) (q0 := 0) rfl rfl) rfl hl.1 rfl (Nat.le_of_ble_eq_true rfl) dX8_line_27 ⟨Nat.le_of_ble_eq_true rfl, Nat.le_of_ble_eq_true rfl⟩ (fun r_13 u_14 H locs hr_13 hP hD hS => ?_)
          obtain ⟨q_15, rfl⟩ : ∃ z, z = u_14 := ⟨_, rfl⟩
          have h9R := zRe (ws' := [(mki, .inl (cI, 8, .inl gki)), (mpa, .inl (cI, 8, .inl gpa)), (mta, .inl (cI, 8, .inl gta)), (mco, .inl (cI, 3, .inl gco)), (zMO m0 npu nte nat_ nde nto nse nhu nga nsd nfa mrf mki mpa mta mla msl mco mhe mso msi msh mce mca mwo mnu mte nba npl nen nnu nwr mwa mke mma mth mtr nra nik), (mrf, .inl (cI, 8, .inl q_15))]) hP hD rfl
          clear hP hD
          obtain ⟨hP, hD⟩ := h9R
          obtain rfl := hr_13
          exact W.iret (v := (-16)) hx hb hr (fun t ht hW => ⟨⟨(-16), q_15, rfl, ⟨(show ((w.toInt < 0 ∨ 1 < w.toInt) ∧ ((-16) : Int32).toInt = -15) ∨ ((0 ≤ w.toInt ∧ w.toInt ≤ 1) ∧ (((n.toInt < 0 ∨ 4 < n.toInt) ∧ ((-16) : Int32).toInt = -16) ∨ ((0 ≤ n.toInt ∧ n.toInt ≤ 4) ∧ ((w.toInt = 1 ∧ ((-16) : Int32).toInt = zLr gki gpa gta npu.toInt.toNat nhu.toInt (gco 0).toInt (gco 1).toInt (gco 2).toInt n.toInt.toNat nde.toInt nse.toInt) ∨ (w.toInt = 0 ∧ ((-16) : Int32).toInt = zLn gki gpa gta npu.toInt.toNat nhu.toInt (gco 0).toInt (gco 1).toInt (gco 2).toInt n.toInt.toNat nde.toInt nse.toInt))))) from by (have k16m : ((-16) : Int32).toInt = -16 := (by decide); omega)), trivial⟩, zRet ht hP hD [4, 5, 0, 1, 2, 3] (by decide) rfl⟩, hS.F ht⟩) hS.2.2 dX8_line_30
      · refine lv_if_ne (tgt := 31) hx hb dX8_line_21 (by decide) (fun c_16 => ?_) (fun c_16 => ?_)
        · exact absurd c_16 (by decide)
        · refine lv_aload_n hx hb dX8_line_24 rfl (lv_at hl 0 rfl) ?_
          refine lv_bipush (v := (-6)) hx hb dX8_line_25 (by decide) ?_
          skip
          refine zw_V (As := [.int (-6)]) (rest := []) (wr := [(mki, .inl (cI, 8, .inl gki)), (mpa, .inl (cI, 8, .inl gpa)), (mta, .inl (cI, 8, .inl gta)), (mco, .inl (cI, 3, .inl gco))]) ⟨hx, hb, hml, hown, hts⟩ (c_M_noTen_6 l D cI cJ cZ cP cS po m0 mrf mki mpa mta mla msl mco mhe mso msi msh mce mca mwo mnu mte mwa mke mma mth mtr (npu) (nte) (nat_) (nde) (nto) (nse) (nhu) (nga) (nsd) (nfa) (nba) (npl) (nen) (nnu) (nwr) (nra) (nik) grf hy0 hy1 hy2 hy3 hy4 hy5 hy6 hy7 hy8 hy9 hy10 hy11 hy12 hy13 H.size) (cwV 1 hts gX8_line_X8_noTen rfl rfl rfl ⟨rfl, dh_X8_noTen⟩ ⟨Nat.le_of_ble_eq_true rfl, Nat.le_of_ble_eq_true rfl⟩) hK hN (hZ.kept hS) hP hD hS hA [0, 1] [2, 3, 4, 5] rfl rfl (by decide) (by decide) (by decide) (va_recv (q := (RX8, TX8, 38)) hK hP (ci := 8) (q0 := 0) rfl rfl) rfl hl.1 rfl (Nat.le_of_ble_eq_true rfl) dX8_line_27 ⟨Nat.le_of_ble_eq_true rfl, Nat.le_of_ble_eq_true rfl⟩ (fun r_17 u_18 H locs hr_17 hP hD hS => ?_)
          obtain ⟨q_19, rfl⟩ : ∃ z, z = u_18 := ⟨_, rfl⟩
          have h9R := zRe (ws' := [(mki, .inl (cI, 8, .inl gki)), (mpa, .inl (cI, 8, .inl gpa)), (mta, .inl (cI, 8, .inl gta)), (mco, .inl (cI, 3, .inl gco)), (zMO m0 npu nte nat_ nde nto nse nhu nga nsd nfa mrf mki mpa mta mla msl mco mhe mso msi msh mce mca mwo mnu mte nba npl nen nnu nwr mwa mke mma mth mtr nra nik), (mrf, .inl (cI, 8, .inl q_19))]) hP hD rfl
          clear hP hD
          obtain ⟨hP, hD⟩ := h9R
          obtain rfl := hr_17
          exact W.iret (v := (-16)) hx hb hr (fun t ht hW => ⟨⟨(-16), q_19, rfl, ⟨(show ((w.toInt < 0 ∨ 1 < w.toInt) ∧ ((-16) : Int32).toInt = -15) ∨ ((0 ≤ w.toInt ∧ w.toInt ≤ 1) ∧ (((n.toInt < 0 ∨ 4 < n.toInt) ∧ ((-16) : Int32).toInt = -16) ∨ ((0 ≤ n.toInt ∧ n.toInt ≤ 4) ∧ ((w.toInt = 1 ∧ ((-16) : Int32).toInt = zLr gki gpa gta npu.toInt.toNat nhu.toInt (gco 0).toInt (gco 1).toInt (gco 2).toInt n.toInt.toNat nde.toInt nse.toInt) ∨ (w.toInt = 0 ∧ ((-16) : Int32).toInt = zLn gki gpa gta npu.toInt.toNat nhu.toInt (gco 0).toInt (gco 1).toInt (gco 2).toInt n.toInt.toNat nde.toInt nse.toInt))))) from by (have k16m : ((-16) : Int32).toInt = -16 := (by decide); omega)), trivial⟩, zRet ht hP hD [4, 5, 0, 1, 2, 3] (by decide) rfl⟩, hS.F ht⟩) hS.2.2 dX8_line_30
      · refine lv_if_ne (tgt := 31) hx hb dX8_line_21 (by decide) (fun c_20 => ?_) (fun c_20 => ?_)
        · have hsp : n = 0 ∨ n = 1 ∨ n = 2 ∨ n = 3 ∨ n = 4 := by
            rcases (show n.toInt = 0 ∨ n.toInt = 1 ∨ n.toInt = 2 ∨ n.toInt = 3 ∨ n.toInt = 4 by omega) with h9 | h9 | h9 | h9 | h9
            · refine Or.inl ?_; exact zf_val h9 (by decide)
            · refine Or.inr (Or.inl ?_); exact zf_val h9 (by decide)
            · refine Or.inr (Or.inr (Or.inl ?_)); exact zf_val h9 (by decide)
            · refine Or.inr (Or.inr (Or.inr (Or.inl ?_))); exact zf_val h9 (by decide)
            · refine Or.inr (Or.inr (Or.inr (Or.inr (?_)))); exact zf_val h9 (by decide)
          rcases hsp with rfl | rfl | rfl | rfl | rfl
          · have kc0 : (0 : Int32).toInt = 0 := by decide
            refine lv_iload_n hx hb dX8_line_31 rfl (lv_at hl 2 rfl) ?_
            refine lv_if_ne (tgt := 51) hx hb dX8_line_32 (by decide) (fun c_21 => ?_) (fun c_21 => ?_)
            · have fc_21 : w.toInt ≠ 0 := zf_ne c_21 rfl (by decide)
              refine lv_aload_n hx hb dX8_line_51 rfl (lv_at hl 0 rfl) ?_
              refine lv_iload_n hx hb dX8_line_52 rfl (lv_at hl 1 rfl) ?_
              refine zc_V (As := [.int 0]) (rest := []) ⟨hx, hb, hml, hown, hts⟩ (c_F_M_firstOf_0 l D cI cJ cZ cP cS po m0 mrf mki mpa mta mla msl mco mhe mso msi msh mce mca mwo mnu mte mwa mke mma mth mtr (npu) (nte) (nat_) (nde) (nto) (nse) (nhu) (nga) (nsd) (nfa) (nba) (npl) (nen) (nnu) (nwr) (nra) (nik) gki gpa gta gco hy0 hy1 hy2 hy3 hy4 hy5 hy6 hy7 hy8 hy9 hy10 hy11 hy12 hy13 hy14 hy15 hp_gki hp_gpa hp_gta hp_gco) (cwV 1 hts gX8_line_X8_firstOf rfl rfl rfl ⟨rfl, dh_X8_firstOf⟩ ⟨Nat.le_of_ble_eq_true rfl, Nat.le_of_ble_eq_true rfl⟩) hK hN (hZ.kept hS) hP (hP.sub [0, 2, 3, 4, 5] rfl) (va_recv (q := (RX8, TX8, 38)) hK hP (ci := 8) (q0 := 0) rfl rfl) rfl hl.1 rfl (Nat.le_of_ble_eq_true rfl) dX8_line_53 ⟨Nat.le_of_ble_eq_true rfl, Nat.le_of_ble_eq_true rfl⟩ (fun r_22 hr_22 => ?_)
              obtain ⟨g_23, g_24, hsr_22_0⟩ := hr_22
              exact W.iret (v := r_22) hx hb hr (fun t ht hW => ⟨⟨r_22, grf, rfl, ⟨(show ((w.toInt < 0 ∨ 1 < w.toInt) ∧ (r_22 : Int32).toInt = -15) ∨ ((0 ≤ w.toInt ∧ w.toInt ≤ 1) ∧ ((((0 : Int32).toInt < 0 ∨ 4 < (0 : Int32).toInt) ∧ (r_22 : Int32).toInt = -16) ∨ ((0 ≤ (0 : Int32).toInt ∧ (0 : Int32).toInt ≤ 4) ∧ ((w.toInt = 1 ∧ (r_22 : Int32).toInt = zLr gki gpa gta npu.toInt.toNat nhu.toInt (gco 0).toInt (gco 1).toInt (gco 2).toInt (0 : Int32).toInt.toNat nde.toInt nse.toInt) ∨ (w.toInt = 0 ∧ (r_22 : Int32).toInt = zLn gki gpa gta npu.toInt.toNat nhu.toInt (gco 0).toInt (gco 1).toInt (gco 2).toInt (0 : Int32).toInt.toNat nde.toInt nse.toInt))))) from by (have k0 : (0 : Int32).toInt = 0 := (by decide); refine Or.inr ⟨by omega, Or.inr ⟨by omega, Or.inl ⟨by omega, (by rw [show (0 : Int32).toInt.toNat = 0 from by decide]; exact hsr_22_0)⟩⟩⟩)), trivial⟩, zRet ht hP hD [0, 1, 2, 3, 4, 5] (by decide) rfl⟩, hS.F ht⟩) hS.2.2 dX8_line_56
            · have fc_21 : w.toInt = 0 := zf_eq c_21 rfl (by decide)
              refine lv_aload_n hx hb dX8_line_35 rfl (lv_at hl 0 rfl) ?_
              refine lv_iload_n hx hb dX8_line_36 rfl (lv_at hl 1 rfl) ?_
              refine lv_aload_n hx hb dX8_line_37 rfl (lv_at hl 0 rfl) ?_
              refine va_get (D := D) (ci := 8) (v := .int nde) (C := RX8) (T := TX8) (N := 38) hx hb hts hi_X8_line_8 hown hK hP 0 rfl rfl 3 (by decide) (hts (.fieldLink RX8 115 "TheLiningsInItModel" "depth" "I") (List.mem_of_getElem? (i := 1) rfl)) (fun _ h9 => h9) rfl dX8_line_38 ?_
              refine lv_aload_n hx hb dX8_line_41 rfl (lv_at hl 0 rfl) ?_
              refine va_get (D := D) (ci := 8) (v := .int nse) (C := RX8) (T := TX8) (N := 38) hx hb hts hi_X8_line_8 hown hK hP 0 rfl rfl 5 (by decide) (hts (.fieldLink RX8 13 "TheLiningsInItModel" "seconds" "I") (List.mem_of_getElem? (i := 2) rfl)) (fun _ h9 => h9) rfl dX8_line_42 ?_
              refine zc_V (As := [.int 0, .int nde, .int nse]) (rest := []) ⟨hx, hb, hml, hown, hts⟩ (c_F_M_leastCost_0 l D cI cJ cZ cP cS po m0 mrf mki mpa mta mla msl mco mhe mso msi msh mce mca mwo mnu mte mwa mke mma mth mtr (npu) (nte) (nat_) (nde) (nto) (nse) (nhu) (nga) (nsd) (nfa) (nba) (npl) (nen) (nnu) (nwr) (nra) (nik) gki gpa gta gco (nde) (nse) hy0 hy1 hy2 hy3 hy4 hy5 hy6 hy7 hy8 hy9 hy10 hy11 hy12 hy13 hy6 hy7 hy14 hy15 hp_gki hp_gpa hp_gta hp_gco) (cwV 3 hts gX8_line_X8_leastCost rfl rfl rfl ⟨rfl, dh_X8_leastCost⟩ ⟨Nat.le_of_ble_eq_true rfl, Nat.le_of_ble_eq_true rfl⟩) hK hN (hZ.kept hS) hP (hP.sub [0, 2, 3, 4, 5] rfl) (va_recv (q := (RX8, TX8, 38)) hK hP (ci := 8) (q0 := 0) rfl rfl) rfl hl.1 rfl (Nat.le_of_ble_eq_true rfl) dX8_line_45 ⟨Nat.le_of_ble_eq_true rfl, Nat.le_of_ble_eq_true rfl⟩ (fun r_25 hr_25 => ?_)
              obtain ⟨g_26, g_27, hsr_25_0⟩ := hr_25
              refine lv_goto (tgt := 56) hx hb dX8_line_48 (by decide) ?_
              exact W.iret (v := r_25) hx hb hr (fun t ht hW => ⟨⟨r_25, grf, rfl, ⟨(show ((w.toInt < 0 ∨ 1 < w.toInt) ∧ (r_25 : Int32).toInt = -15) ∨ ((0 ≤ w.toInt ∧ w.toInt ≤ 1) ∧ ((((0 : Int32).toInt < 0 ∨ 4 < (0 : Int32).toInt) ∧ (r_25 : Int32).toInt = -16) ∨ ((0 ≤ (0 : Int32).toInt ∧ (0 : Int32).toInt ≤ 4) ∧ ((w.toInt = 1 ∧ (r_25 : Int32).toInt = zLr gki gpa gta npu.toInt.toNat nhu.toInt (gco 0).toInt (gco 1).toInt (gco 2).toInt (0 : Int32).toInt.toNat nde.toInt nse.toInt) ∨ (w.toInt = 0 ∧ (r_25 : Int32).toInt = zLn gki gpa gta npu.toInt.toNat nhu.toInt (gco 0).toInt (gco 1).toInt (gco 2).toInt (0 : Int32).toInt.toNat nde.toInt nse.toInt))))) from by (have k0 : (0 : Int32).toInt = 0 := (by decide); refine Or.inr ⟨by omega, Or.inr ⟨by omega, Or.inr ⟨by omega, (by rw [show (0 : Int32).toInt.toNat = 0 from by decide]; exact hsr_25_0)⟩⟩⟩)), trivial⟩, zRet ht hP hD [0, 1, 2, 3, 4, 5] (by decide) rfl⟩, hS.F ht⟩) hS.2.2 dX8_line_56
          · have kc1 : (1 : Int32).toInt = 1 := by decide
            refine lv_iload_n hx hb dX8_line_31 rfl (lv_at hl 2 rfl) ?_
            refine lv_if_ne (tgt := 51) hx hb dX8_line_32 (by decide) (fun c_28 => ?_) (fun c_28 => ?_)
            · have fc_28 : w.toInt ≠ 0 := zf_ne c_28 rfl (by decide)
              refine lv_aload_n hx hb dX8_line_51 rfl (lv_at hl 0 rfl) ?_
              refine lv_iload_n hx hb dX8_line_52 rfl (lv_at hl 1 rfl) ?_
              refine zc_V (As := [.int 1]) (rest := []) ⟨hx, hb, hml, hown, hts⟩ (c_F_M_firstOf_1 l D cI cJ cZ cP cS po m0 mrf mki mpa mta mla msl mco mhe mso msi msh mce mca mwo mnu mte mwa mke mma mth mtr (npu) (nte) (nat_) (nde) (nto) (nse) (nhu) (nga) (nsd) (nfa) (nba) (npl) (nen) (nnu) (nwr) (nra) (nik) gki gpa gta gco hy0 hy1 hy2 hy3 hy4 hy5 hy6 hy7 hy8 hy9 hy10 hy11 hy12 hy13 hy14 hy15 hp_gki hp_gpa hp_gta hp_gco) (cwV 1 hts gX8_line_X8_firstOf rfl rfl rfl ⟨rfl, dh_X8_firstOf⟩ ⟨Nat.le_of_ble_eq_true rfl, Nat.le_of_ble_eq_true rfl⟩) hK hN (hZ.kept hS) hP (hP.sub [0, 2, 3, 4, 5] rfl) (va_recv (q := (RX8, TX8, 38)) hK hP (ci := 8) (q0 := 0) rfl rfl) rfl hl.1 rfl (Nat.le_of_ble_eq_true rfl) dX8_line_53 ⟨Nat.le_of_ble_eq_true rfl, Nat.le_of_ble_eq_true rfl⟩ (fun r_29 hr_29 => ?_)
              obtain ⟨g_30, g_31, hsr_29_0⟩ := hr_29
              exact W.iret (v := r_29) hx hb hr (fun t ht hW => ⟨⟨r_29, grf, rfl, ⟨(show ((w.toInt < 0 ∨ 1 < w.toInt) ∧ (r_29 : Int32).toInt = -15) ∨ ((0 ≤ w.toInt ∧ w.toInt ≤ 1) ∧ ((((1 : Int32).toInt < 0 ∨ 4 < (1 : Int32).toInt) ∧ (r_29 : Int32).toInt = -16) ∨ ((0 ≤ (1 : Int32).toInt ∧ (1 : Int32).toInt ≤ 4) ∧ ((w.toInt = 1 ∧ (r_29 : Int32).toInt = zLr gki gpa gta npu.toInt.toNat nhu.toInt (gco 0).toInt (gco 1).toInt (gco 2).toInt (1 : Int32).toInt.toNat nde.toInt nse.toInt) ∨ (w.toInt = 0 ∧ (r_29 : Int32).toInt = zLn gki gpa gta npu.toInt.toNat nhu.toInt (gco 0).toInt (gco 1).toInt (gco 2).toInt (1 : Int32).toInt.toNat nde.toInt nse.toInt))))) from by (have k1 : (1 : Int32).toInt = 1 := (by decide); refine Or.inr ⟨by omega, Or.inr ⟨by omega, Or.inl ⟨by omega, (by rw [show (1 : Int32).toInt.toNat = 1 from by decide]; exact hsr_29_0)⟩⟩⟩)), trivial⟩, zRet ht hP hD [0, 1, 2, 3, 4, 5] (by decide) rfl⟩, hS.F ht⟩) hS.2.2 dX8_line_56
            · have fc_28 : w.toInt = 0 := zf_eq c_28 rfl (by decide)
              refine lv_aload_n hx hb dX8_line_35 rfl (lv_at hl 0 rfl) ?_
              refine lv_iload_n hx hb dX8_line_36 rfl (lv_at hl 1 rfl) ?_
              refine lv_aload_n hx hb dX8_line_37 rfl (lv_at hl 0 rfl) ?_
              refine va_get (D := D) (ci := 8) (v := .int nde) (C := RX8) (T := TX8) (N := 38) hx hb hts hi_X8_line_8 hown hK hP 0 rfl rfl 3 (by decide) (hts (.fieldLink RX8 115 "TheLiningsInItModel" "depth" "I") (List.mem_of_getElem? (i := 1) rfl)) (fun _ h9 => h9) rfl dX8_line_38 ?_
              refine lv_aload_n hx hb dX8_line_41 rfl (lv_at hl 0 rfl) ?_
              refine va_get (D := D) (ci := 8) (v := .int nse) (C := RX8) (T := TX8) (N := 38) hx hb hts hi_X8_line_8 hown hK hP 0 rfl rfl 5 (by decide) (hts (.fieldLink RX8 13 "TheLiningsInItModel" "seconds" "I") (List.mem_of_getElem? (i := 2) rfl)) (fun _ h9 => h9) rfl dX8_line_42 ?_
              refine zc_V (As := [.int 1, .int nde, .int nse]) (rest := []) ⟨hx, hb, hml, hown, hts⟩ (c_F_M_leastCost_1 l D cI cJ cZ cP cS po m0 mrf mki mpa mta mla msl mco mhe mso msi msh mce mca mwo mnu mte mwa mke mma mth mtr (npu) (nte) (nat_) (nde) (nto) (nse) (nhu) (nga) (nsd) (nfa) (nba) (npl) (nen) (nnu) (nwr) (nra) (nik) gki gpa gta gco (nde) (nse) hy0 hy1 hy2 hy3 hy4 hy5 hy6 hy7 hy8 hy9 hy10 hy11 hy12 hy13 hy6 hy7 hy14 hy15 hp_gki hp_gpa hp_gta hp_gco) (cwV 3 hts gX8_line_X8_leastCost rfl rfl rfl ⟨rfl, dh_X8_leastCost⟩ ⟨Nat.le_of_ble_eq_true rfl, Nat.le_of_ble_eq_true rfl⟩) hK hN (hZ.kept hS) hP (hP.sub [0, 2, 3, 4, 5] rfl) (va_recv (q := (RX8, TX8, 38)) hK hP (ci := 8) (q0 := 0) rfl rfl) rfl hl.1 rfl (Nat.le_of_ble_eq_true rfl) dX8_line_45 ⟨Nat.le_of_ble_eq_true rfl, Nat.le_of_ble_eq_true rfl⟩ (fun r_32 hr_32 => ?_)
              obtain ⟨g_33, g_34, hsr_32_0⟩ := hr_32
              refine lv_goto (tgt := 56) hx hb dX8_line_48 (by decide) ?_
              exact W.iret (v := r_32) hx hb hr (fun t ht hW => ⟨⟨r_32, grf, rfl, ⟨(show ((w.toInt < 0 ∨ 1 < w.toInt) ∧ (r_32 : Int32).toInt = -15) ∨ ((0 ≤ w.toInt ∧ w.toInt ≤ 1) ∧ ((((1 : Int32).toInt < 0 ∨ 4 < (1 : Int32).toInt) ∧ (r_32 : Int32).toInt = -16) ∨ ((0 ≤ (1 : Int32).toInt ∧ (1 : Int32).toInt ≤ 4) ∧ ((w.toInt = 1 ∧ (r_32 : Int32).toInt = zLr gki gpa gta npu.toInt.toNat nhu.toInt (gco 0).toInt (gco 1).toInt (gco 2).toInt (1 : Int32).toInt.toNat nde.toInt nse.toInt) ∨ (w.toInt = 0 ∧ (r_32 : Int32).toInt = zLn gki gpa gta npu.toInt.toNat nhu.toInt (gco 0).toInt (gco 1).toInt (gco 2).toInt (1 : Int32).toInt.toNat nde.toInt nse.toInt))))) from by (have k1 : (1 : Int32).toInt = 1 := (by decide); refine Or.inr ⟨by omega, Or.inr ⟨by omega, Or.inr ⟨by omega, (by rw [show (1 : Int32).toInt.toNat = 1 from by decide]; exact hsr_32_0)⟩⟩⟩)), trivial⟩, zRet ht hP hD [0, 1, 2, 3, 4, 5] (by decide) rfl⟩, hS.F ht⟩) hS.2.2 dX8_line_56
          · have kc2 : (2 : Int32).toInt = 2 := by decide
            refine lv_iload_n hx hb dX8_line_31 rfl (lv_at hl 2 rfl) ?_
            refine lv_if_ne (tgt := 51) hx hb dX8_line_32 (by decide) (fun c_35 => ?_) (fun c_35 => ?_)
            · have fc_35 : w.toInt ≠ 0 := zf_ne c_35 rfl (by decide)
              refine lv_aload_n hx hb dX8_line_51 rfl (lv_at hl 0 rfl) ?_
              refine lv_iload_n hx hb dX8_line_52 rfl (lv_at hl 1 rfl) ?_
              refine zc_V (As := [.int 2]) (rest := []) ⟨hx, hb, hml, hown, hts⟩ (c_F_M_firstOf_2 l D cI cJ cZ cP cS po m0 mrf mki mpa mta mla msl mco mhe mso msi msh mce mca mwo mnu mte mwa mke mma mth mtr (npu) (nte) (nat_) (nde) (nto) (nse) (nhu) (nga) (nsd) (nfa) (nba) (npl) (nen) (nnu) (nwr) (nra) (nik) gki gpa gta gco hy0 hy1 hy2 hy3 hy4 hy5 hy6 hy7 hy8 hy9 hy10 hy11 hy12 hy13 hy14 hy15 hp_gki hp_gpa hp_gta hp_gco) (cwV 1 hts gX8_line_X8_firstOf rfl rfl rfl ⟨rfl, dh_X8_firstOf⟩ ⟨Nat.le_of_ble_eq_true rfl, Nat.le_of_ble_eq_true rfl⟩) hK hN (hZ.kept hS) hP (hP.sub [0, 2, 3, 4, 5] rfl) (va_recv (q := (RX8, TX8, 38)) hK hP (ci := 8) (q0 := 0) rfl rfl) rfl hl.1 rfl (Nat.le_of_ble_eq_true rfl) dX8_line_53 ⟨Nat.le_of_ble_eq_true rfl, Nat.le_of_ble_eq_true rfl⟩ (fun r_36 hr_36 => ?_)
              obtain ⟨g_37, g_38, hsr_36_0⟩ := hr_36
              exact W.iret (v := r_36) hx hb hr (fun t ht hW => ⟨⟨r_36, grf, rfl, ⟨(show ((w.toInt < 0 ∨ 1 < w.toInt) ∧ (r_36 : Int32).toInt = -15) ∨ ((0 ≤ w.toInt ∧ w.toInt ≤ 1) ∧ ((((2 : Int32).toInt < 0 ∨ 4 < (2 : Int32).toInt) ∧ (r_36 : Int32).toInt = -16) ∨ ((0 ≤ (2 : Int32).toInt ∧ (2 : Int32).toInt ≤ 4) ∧ ((w.toInt = 1 ∧ (r_36 : Int32).toInt = zLr gki gpa gta npu.toInt.toNat nhu.toInt (gco 0).toInt (gco 1).toInt (gco 2).toInt (2 : Int32).toInt.toNat nde.toInt nse.toInt) ∨ (w.toInt = 0 ∧ (r_36 : Int32).toInt = zLn gki gpa gta npu.toInt.toNat nhu.toInt (gco 0).toInt (gco 1).toInt (gco 2).toInt (2 : Int32).toInt.toNat nde.toInt nse.toInt))))) from by (have k2 : (2 : Int32).toInt = 2 := (by decide); refine Or.inr ⟨by omega, Or.inr ⟨by omega, Or.inl ⟨by omega, (by rw [show (2 : Int32).toInt.toNat = 2 from by decide]; exact hsr_36_0)⟩⟩⟩)), trivial⟩, zRet ht hP hD [0, 1, 2, 3, 4, 5] (by decide) rfl⟩, hS.F ht⟩) hS.2.2 dX8_line_56
            · have fc_35 : w.toInt = 0 := zf_eq c_35 rfl (by decide)
              refine lv_aload_n hx hb dX8_line_35 rfl (lv_at hl 0 rfl) ?_
              refine lv_iload_n hx hb dX8_line_36 rfl (lv_at hl 1 rfl) ?_
              refine lv_aload_n hx hb dX8_line_37 rfl (lv_at hl 0 rfl) ?_
              refine va_get (D := D) (ci := 8) (v := .int nde) (C := RX8) (T := TX8) (N := 38) hx hb hts hi_X8_line_8 hown hK hP 0 rfl rfl 3 (by decide) (hts (.fieldLink RX8 115 "TheLiningsInItModel" "depth" "I") (List.mem_of_getElem? (i := 1) rfl)) (fun _ h9 => h9) rfl dX8_line_38 ?_
              refine lv_aload_n hx hb dX8_line_41 rfl (lv_at hl 0 rfl) ?_
              refine va_get (D := D) (ci := 8) (v := .int nse) (C := RX8) (T := TX8) (N := 38) hx hb hts hi_X8_line_8 hown hK hP 0 rfl rfl 5 (by decide) (hts (.fieldLink RX8 13 "TheLiningsInItModel" "seconds" "I") (List.mem_of_getElem? (i := 2) rfl)) (fun _ h9 => h9) rfl dX8_line_42 ?_
              refine zc_V (As := [.int 2, .int nde, .int nse]) (rest := []) ⟨hx, hb, hml, hown, hts⟩ (c_F_M_leastCost_2 l D cI cJ cZ cP cS po m0 mrf mki mpa mta mla msl mco mhe mso msi msh mce mca mwo mnu mte mwa mke mma mth mtr (npu) (nte) (nat_) (nde) (nto) (nse) (nhu) (nga) (nsd) (nfa) (nba) (npl) (nen) (nnu) (nwr) (nra) (nik) gki gpa gta gco (nde) (nse) hy0 hy1 hy2 hy3 hy4 hy5 hy6 hy7 hy8 hy9 hy10 hy11 hy12 hy13 hy6 hy7 hy14 hy15 hp_gki hp_gpa hp_gta hp_gco) (cwV 3 hts gX8_line_X8_leastCost rfl rfl rfl ⟨rfl, dh_X8_leastCost⟩ ⟨Nat.le_of_ble_eq_true rfl, Nat.le_of_ble_eq_true rfl⟩) hK hN (hZ.kept hS) hP (hP.sub [0, 2, 3, 4, 5] rfl) (va_recv (q := (RX8, TX8, 38)) hK hP (ci := 8) (q0 := 0) rfl rfl) rfl hl.1 rfl (Nat.le_of_ble_eq_true rfl) dX8_line_45 ⟨Nat.le_of_ble_eq_true rfl, Nat.le_of_ble_eq_true rfl⟩ (fun r_39 hr_39 => ?_)
              obtain ⟨g_40, g_41, hsr_39_0⟩ := hr_39
              refine lv_goto (tgt := 56) hx hb dX8_line_48 (by decide) ?_
              exact W.iret (v := r_39) hx hb hr (fun t ht hW => ⟨⟨r_39, grf, rfl, ⟨(show ((w.toInt < 0 ∨ 1 < w.toInt) ∧ (r_39 : Int32).toInt = -15) ∨ ((0 ≤ w.toInt ∧ w.toInt ≤ 1) ∧ ((((2 : Int32).toInt < 0 ∨ 4 < (2 : Int32).toInt) ∧ (r_39 : Int32).toInt = -16) ∨ ((0 ≤ (2 : Int32).toInt ∧ (2 : Int32).toInt ≤ 4) ∧ ((w.toInt = 1 ∧ (r_39 : Int32).toInt = zLr gki gpa gta npu.toInt.toNat nhu.toInt (gco 0).toInt (gco 1).toInt (gco 2).toInt (2 : Int32).toInt.toNat nde.toInt nse.toInt) ∨ (w.toInt = 0 ∧ (r_39 : Int32).toInt = zLn gki gpa gta npu.toInt.toNat nhu.toInt (gco 0).toInt (gco 1).toInt (gco 2).toInt (2 : Int32).toInt.toNat nde.toInt nse.toInt))))) from by (have k2 : (2 : Int32).toInt = 2 := (by decide); refine Or.inr ⟨by omega, Or.inr ⟨by omega, Or.inr ⟨by omega, (by rw [show (2 : Int32).toInt.toNat = 2 from by decide]; exact hsr_39_0)⟩⟩⟩)), trivial⟩, zRet ht hP hD [0, 1, 2, 3, 4, 5] (by decide) rfl⟩, hS.F ht⟩) hS.2.2 dX8_line_56
          · have kc3 : (3 : Int32).toInt = 3 := by decide
            refine lv_iload_n hx hb dX8_line_31 rfl (lv_at hl 2 rfl) ?_
            refine lv_if_ne (tgt := 51) hx hb dX8_line_32 (by decide) (fun c_42 => ?_) (fun c_42 => ?_)
            · have fc_42 : w.toInt ≠ 0 := zf_ne c_42 rfl (by decide)
              refine lv_aload_n hx hb dX8_line_51 rfl (lv_at hl 0 rfl) ?_
              refine lv_iload_n hx hb dX8_line_52 rfl (lv_at hl 1 rfl) ?_
              refine zc_V (As := [.int 3]) (rest := []) ⟨hx, hb, hml, hown, hts⟩ (c_F_M_firstOf_3 l D cI cJ cZ cP cS po m0 mrf mki mpa mta mla msl mco mhe mso msi msh mce mca mwo mnu mte mwa mke mma mth mtr (npu) (nte) (nat_) (nde) (nto) (nse) (nhu) (nga) (nsd) (nfa) (nba) (npl) (nen) (nnu) (nwr) (nra) (nik) gki gpa gta gco hy0 hy1 hy2 hy3 hy4 hy5 hy6 hy7 hy8 hy9 hy10 hy11 hy12 hy13 hy14 hy15 hp_gki hp_gpa hp_gta hp_gco) (cwV 1 hts gX8_line_X8_firstOf rfl rfl rfl ⟨rfl, dh_X8_firstOf⟩ ⟨Nat.le_of_ble_eq_true rfl, Nat.le_of_ble_eq_true rfl⟩) hK hN (hZ.kept hS) hP (hP.sub [0, 2, 3, 4, 5] rfl) (va_recv (q := (RX8, TX8, 38)) hK hP (ci := 8) (q0 := 0) rfl rfl) rfl hl.1 rfl (Nat.le_of_ble_eq_true rfl) dX8_line_53 ⟨Nat.le_of_ble_eq_true rfl, Nat.le_of_ble_eq_true rfl⟩ (fun r_43 hr_43 => ?_)
              obtain ⟨g_44, g_45, hsr_43_0⟩ := hr_43
              exact W.iret (v := r_43) hx hb hr (fun t ht hW => ⟨⟨r_43, grf, rfl, ⟨(show ((w.toInt < 0 ∨ 1 < w.toInt) ∧ (r_43 : Int32).toInt = -15) ∨ ((0 ≤ w.toInt ∧ w.toInt ≤ 1) ∧ ((((3 : Int32).toInt < 0 ∨ 4 < (3 : Int32).toInt) ∧ (r_43 : Int32).toInt = -16) ∨ ((0 ≤ (3 : Int32).toInt ∧ (3 : Int32).toInt ≤ 4) ∧ ((w.toInt = 1 ∧ (r_43 : Int32).toInt = zLr gki gpa gta npu.toInt.toNat nhu.toInt (gco 0).toInt (gco 1).toInt (gco 2).toInt (3 : Int32).toInt.toNat nde.toInt nse.toInt) ∨ (w.toInt = 0 ∧ (r_43 : Int32).toInt = zLn gki gpa gta npu.toInt.toNat nhu.toInt (gco 0).toInt (gco 1).toInt (gco 2).toInt (3 : Int32).toInt.toNat nde.toInt nse.toInt))))) from by (have k3 : (3 : Int32).toInt = 3 := (by decide); refine Or.inr ⟨by omega, Or.inr ⟨by omega, Or.inl ⟨by omega, (by rw [show (3 : Int32).toInt.toNat = 3 from by decide]; exact hsr_43_0)⟩⟩⟩)), trivial⟩, zRet ht hP hD [0, 1, 2, 3, 4, 5] (by decide) rfl⟩, hS.F ht⟩) hS.2.2 dX8_line_56
            · have fc_42 : w.toInt = 0 := zf_eq c_42 rfl (by decide)
              refine lv_aload_n hx hb dX8_line_35 rfl (lv_at hl 0 rfl) ?_
              refine lv_iload_n hx hb dX8_line_36 rfl (lv_at hl 1 rfl) ?_
              refine lv_aload_n hx hb dX8_line_37 rfl (lv_at hl 0 rfl) ?_
              refine va_get (D := D) (ci := 8) (v := .int nde) (C := RX8) (T := TX8) (N := 38) hx hb hts hi_X8_line_8 hown hK hP 0 rfl rfl 3 (by decide) (hts (.fieldLink RX8 115 "TheLiningsInItModel" "depth" "I") (List.mem_of_getElem? (i := 1) rfl)) (fun _ h9 => h9) rfl dX8_line_38 ?_
              refine lv_aload_n hx hb dX8_line_41 rfl (lv_at hl 0 rfl) ?_
              refine va_get (D := D) (ci := 8) (v := .int nse) (C := RX8) (T := TX8) (N := 38) hx hb hts hi_X8_line_8 hown hK hP 0 rfl rfl 5 (by decide) (hts (.fieldLink RX8 13 "TheLiningsInItModel" "seconds" "I") (List.mem_of_getElem? (i := 2) rfl)) (fun _ h9 => h9) rfl dX8_line_42 ?_
              refine zc_V (As := [.int 3, .int nde, .int nse]) (rest := []) ⟨hx, hb, hml, hown, hts⟩ (c_F_M_leastCost_3 l D cI cJ cZ cP cS po m0 mrf mki mpa mta mla msl mco mhe mso msi msh mce mca mwo mnu mte mwa mke mma mth mtr (npu) (nte) (nat_) (nde) (nto) (nse) (nhu) (nga) (nsd) (nfa) (nba) (npl) (nen) (nnu) (nwr) (nra) (nik) gki gpa gta gco (nde) (nse) hy0 hy1 hy2 hy3 hy4 hy5 hy6 hy7 hy8 hy9 hy10 hy11 hy12 hy13 hy6 hy7 hy14 hy15 hp_gki hp_gpa hp_gta hp_gco) (cwV 3 hts gX8_line_X8_leastCost rfl rfl rfl ⟨rfl, dh_X8_leastCost⟩ ⟨Nat.le_of_ble_eq_true rfl, Nat.le_of_ble_eq_true rfl⟩) hK hN (hZ.kept hS) hP (hP.sub [0, 2, 3, 4, 5] rfl) (va_recv (q := (RX8, TX8, 38)) hK hP (ci := 8) (q0 := 0) rfl rfl) rfl hl.1 rfl (Nat.le_of_ble_eq_true rfl) dX8_line_45 ⟨Nat.le_of_ble_eq_true rfl, Nat.le_of_ble_eq_true rfl⟩ (fun r_46 hr_46 => ?_)
              obtain ⟨g_47, g_48, hsr_46_0⟩ := hr_46
              refine lv_goto (tgt := 56) hx hb dX8_line_48 (by decide) ?_
              exact W.iret (v := r_46) hx hb hr (fun t ht hW => ⟨⟨r_46, grf, rfl, ⟨(show ((w.toInt < 0 ∨ 1 < w.toInt) ∧ (r_46 : Int32).toInt = -15) ∨ ((0 ≤ w.toInt ∧ w.toInt ≤ 1) ∧ ((((3 : Int32).toInt < 0 ∨ 4 < (3 : Int32).toInt) ∧ (r_46 : Int32).toInt = -16) ∨ ((0 ≤ (3 : Int32).toInt ∧ (3 : Int32).toInt ≤ 4) ∧ ((w.toInt = 1 ∧ (r_46 : Int32).toInt = zLr gki gpa gta npu.toInt.toNat nhu.toInt (gco 0).toInt (gco 1).toInt (gco 2).toInt (3 : Int32).toInt.toNat nde.toInt nse.toInt) ∨ (w.toInt = 0 ∧ (r_46 : Int32).toInt = zLn gki gpa gta npu.toInt.toNat nhu.toInt (gco 0).toInt (gco 1).toInt (gco 2).toInt (3 : Int32).toInt.toNat nde.toInt nse.toInt))))) from by (have k3 : (3 : Int32).toInt = 3 := (by decide); refine Or.inr ⟨by omega, Or.inr ⟨by omega, Or.inr ⟨by omega, (by rw [show (3 : Int32).toInt.toNat = 3 from by decide]; exact hsr_46_0)⟩⟩⟩)), trivial⟩, zRet ht hP hD [0, 1, 2, 3, 4, 5] (by decide) rfl⟩, hS.F ht⟩) hS.2.2 dX8_line_56
          · have kc4 : (4 : Int32).toInt = 4 := by decide
            refine lv_iload_n hx hb dX8_line_31 rfl (lv_at hl 2 rfl) ?_
            refine lv_if_ne (tgt := 51) hx hb dX8_line_32 (by decide) (fun c_49 => ?_) (fun c_49 => ?_)
            · have fc_49 : w.toInt ≠ 0 := zf_ne c_49 rfl (by decide)
              refine lv_aload_n hx hb dX8_line_51 rfl (lv_at hl 0 rfl) ?_
              refine lv_iload_n hx hb dX8_line_52 rfl (lv_at hl 1 rfl) ?_
              refine zc_V (As := [.int 4]) (rest := []) ⟨hx, hb, hml, hown, hts⟩ (c_F_M_firstOf_4 l D cI cJ cZ cP cS po m0 mrf mki mpa mta mla msl mco mhe mso msi msh mce mca mwo mnu mte mwa mke mma mth mtr (npu) (nte) (nat_) (nde) (nto) (nse) (nhu) (nga) (nsd) (nfa) (nba) (npl) (nen) (nnu) (nwr) (nra) (nik) gki gpa gta gco hy0 hy1 hy2 hy3 hy4 hy5 hy6 hy7 hy8 hy9 hy10 hy11 hy12 hy13 hy14 hy15 hp_gki hp_gpa hp_gta hp_gco) (cwV 1 hts gX8_line_X8_firstOf rfl rfl rfl ⟨rfl, dh_X8_firstOf⟩ ⟨Nat.le_of_ble_eq_true rfl, Nat.le_of_ble_eq_true rfl⟩) hK hN (hZ.kept hS) hP (hP.sub [0, 2, 3, 4, 5] rfl) (va_recv (q := (RX8, TX8, 38)) hK hP (ci := 8) (q0 := 0) rfl rfl) rfl hl.1 rfl (Nat.le_of_ble_eq_true rfl) dX8_line_53 ⟨Nat.le_of_ble_eq_true rfl, Nat.le_of_ble_eq_true rfl⟩ (fun r_50 hr_50 => ?_)
              obtain ⟨g_51, g_52, hsr_50_0⟩ := hr_50
              exact W.iret (v := r_50) hx hb hr (fun t ht hW => ⟨⟨r_50, grf, rfl, ⟨(show ((w.toInt < 0 ∨ 1 < w.toInt) ∧ (r_50 : Int32).toInt = -15) ∨ ((0 ≤ w.toInt ∧ w.toInt ≤ 1) ∧ ((((4 : Int32).toInt < 0 ∨ 4 < (4 : Int32).toInt) ∧ (r_50 : Int32).toInt = -16) ∨ ((0 ≤ (4 : Int32).toInt ∧ (4 : Int32).toInt ≤ 4) ∧ ((w.toInt = 1 ∧ (r_50 : Int32).toInt = zLr gki gpa gta npu.toInt.toNat nhu.toInt (gco 0).toInt (gco 1).toInt (gco 2).toInt (4 : Int32).toInt.toNat nde.toInt nse.toInt) ∨ (w.toInt = 0 ∧ (r_50 : Int32).toInt = zLn gki gpa gta npu.toInt.toNat nhu.toInt (gco 0).toInt (gco 1).toInt (gco 2).toInt (4 : Int32).toInt.toNat nde.toInt nse.toInt))))) from by (have k4 : (4 : Int32).toInt = 4 := (by decide); refine Or.inr ⟨by omega, Or.inr ⟨by omega, Or.inl ⟨by omega, (by rw [show (4 : Int32).toInt.toNat = 4 from by decide]; exact hsr_50_0)⟩⟩⟩)), trivial⟩, zRet ht hP hD [0, 1, 2, 3, 4, 5] (by decide) rfl⟩, hS.F ht⟩) hS.2.2 dX8_line_56
            · have fc_49 : w.toInt = 0 := zf_eq c_49 rfl (by decide)
              refine lv_aload_n hx hb dX8_line_35 rfl (lv_at hl 0 rfl) ?_
              refine lv_iload_n hx hb dX8_line_36 rfl (lv_at hl 1 rfl) ?_
              refine lv_aload_n hx hb dX8_line_37 rfl (lv_at hl 0 rfl) ?_
              refine va_get (D := D) (ci := 8) (v := .int nde) (C := RX8) (T := TX8) (N := 38) hx hb hts hi_X8_line_8 hown hK hP 0 rfl rfl 3 (by decide) (hts (.fieldLink RX8 115 "TheLiningsInItModel" "depth" "I") (List.mem_of_getElem? (i := 1) rfl)) (fun _ h9 => h9) rfl dX8_line_38 ?_
              refine lv_aload_n hx hb dX8_line_41 rfl (lv_at hl 0 rfl) ?_
              refine va_get (D := D) (ci := 8) (v := .int nse) (C := RX8) (T := TX8) (N := 38) hx hb hts hi_X8_line_8 hown hK hP 0 rfl rfl 5 (by decide) (hts (.fieldLink RX8 13 "TheLiningsInItModel" "seconds" "I") (List.mem_of_getElem? (i := 2) rfl)) (fun _ h9 => h9) rfl dX8_line_42 ?_
              refine zc_V (As := [.int 4, .int nde, .int nse]) (rest := []) ⟨hx, hb, hml, hown, hts⟩ (c_F_M_leastCost_4 l D cI cJ cZ cP cS po m0 mrf mki mpa mta mla msl mco mhe mso msi msh mce mca mwo mnu mte mwa mke mma mth mtr (npu) (nte) (nat_) (nde) (nto) (nse) (nhu) (nga) (nsd) (nfa) (nba) (npl) (nen) (nnu) (nwr) (nra) (nik) gki gpa gta gco (nde) (nse) hy0 hy1 hy2 hy3 hy4 hy5 hy6 hy7 hy8 hy9 hy10 hy11 hy12 hy13 hy6 hy7 hy14 hy15 hp_gki hp_gpa hp_gta hp_gco) (cwV 3 hts gX8_line_X8_leastCost rfl rfl rfl ⟨rfl, dh_X8_leastCost⟩ ⟨Nat.le_of_ble_eq_true rfl, Nat.le_of_ble_eq_true rfl⟩) hK hN (hZ.kept hS) hP (hP.sub [0, 2, 3, 4, 5] rfl) (va_recv (q := (RX8, TX8, 38)) hK hP (ci := 8) (q0 := 0) rfl rfl) rfl hl.1 rfl (Nat.le_of_ble_eq_true rfl) dX8_line_45 ⟨Nat.le_of_ble_eq_true rfl, Nat.le_of_ble_eq_true rfl⟩ (fun r_53 hr_53 => ?_)
              obtain ⟨g_54, g_55, hsr_53_0⟩ := hr_53
              refine lv_goto (tgt := 56) hx hb dX8_line_48 (by decide) ?_
              exact W.iret (v := r_53) hx hb hr (fun t ht hW => ⟨⟨r_53, grf, rfl, ⟨(show ((w.toInt < 0 ∨ 1 < w.toInt) ∧ (r_53 : Int32).toInt = -15) ∨ ((0 ≤ w.toInt ∧ w.toInt ≤ 1) ∧ ((((4 : Int32).toInt < 0 ∨ 4 < (4 : Int32).toInt) ∧ (r_53 : Int32).toInt = -16) ∨ ((0 ≤ (4 : Int32).toInt ∧ (4 : Int32).toInt ≤ 4) ∧ ((w.toInt = 1 ∧ (r_53 : Int32).toInt = zLr gki gpa gta npu.toInt.toNat nhu.toInt (gco 0).toInt (gco 1).toInt (gco 2).toInt (4 : Int32).toInt.toNat nde.toInt nse.toInt) ∨ (w.toInt = 0 ∧ (r_53 : Int32).toInt = zLn gki gpa gta npu.toInt.toNat nhu.toInt (gco 0).toInt (gco 1).toInt (gco 2).toInt (4 : Int32).toInt.toNat nde.toInt nse.toInt))))) from by (have k4 : (4 : Int32).toInt = 4 := (by decide); refine Or.inr ⟨by omega, Or.inr ⟨by omega, Or.inr ⟨by omega, (by rw [show (4 : Int32).toInt.toNat = 4 from by decide]; exact hsr_53_0)⟩⟩⟩)), trivial⟩, zRet ht hP hD [0, 1, 2, 3, 4, 5] (by decide) rfl⟩, hS.F ht⟩) hS.2.2 dX8_line_56
        · exact absurd c_20 (by decide)
    · have fc_5 : 1 < w.toInt := zf_nle c_5 rfl (by decide)
      refine lv_aload_n hx hb dX8_line_9 rfl (lv_at hl 0 rfl) ?_
      refine lv_bipush (v := (-5)) hx hb dX8_line_10 (by decide) ?_
      skip
      refine zw_V (As := [.int (-5)]) (rest := []) (wr := [(mki, .inl (cI, 8, .inl gki)), (mpa, .inl (cI, 8, .inl gpa)), (mta, .inl (cI, 8, .inl gta)), (mco, .inl (cI, 3, .inl gco))]) ⟨hx, hb, hml, hown, hts⟩ (c_M_noTen_5 l D cI cJ cZ cP cS po m0 mrf mki mpa mta mla msl mco mhe mso msi msh mce mca mwo mnu mte mwa mke mma mth mtr (npu) (nte) (nat_) (nde) (nto) (nse) (nhu) (nga) (nsd) (nfa) (nba) (npl) (nen) (nnu) (nwr) (nra) (nik) grf hy0 hy1 hy2 hy3 hy4 hy5 hy6 hy7 hy8 hy9 hy10 hy11 hy12 hy13 H.size) (cwV 1 hts gX8_line_X8_noTen rfl rfl rfl ⟨rfl, dh_X8_noTen⟩ ⟨Nat.le_of_ble_eq_true rfl, Nat.le_of_ble_eq_true rfl⟩) hK hN (hZ.kept hS) hP hD hS hA [0, 1] [2, 3, 4, 5] rfl rfl (by decide) (by decide) (by decide) (va_recv (q := (RX8, TX8, 38)) hK hP (ci := 8) (q0 := 0) rfl rfl) rfl hl.1 rfl (Nat.le_of_ble_eq_true rfl) dX8_line_12 ⟨Nat.le_of_ble_eq_true rfl, Nat.le_of_ble_eq_true rfl⟩ (fun r_56 u_57 H locs hr_56 hP hD hS => ?_)
      obtain ⟨q_58, rfl⟩ : ∃ z, z = u_57 := ⟨_, rfl⟩
      have h9R := zRe (ws' := [(mki, .inl (cI, 8, .inl gki)), (mpa, .inl (cI, 8, .inl gpa)), (mta, .inl (cI, 8, .inl gta)), (mco, .inl (cI, 3, .inl gco)), (zMO m0 npu nte nat_ nde nto nse nhu nga nsd nfa mrf mki mpa mta mla msl mco mhe mso msi msh mce mca mwo mnu mte nba npl nen nnu nwr mwa mke mma mth mtr nra nik), (mrf, .inl (cI, 8, .inl q_58))]) hP hD rfl
      clear hP hD
      obtain ⟨hP, hD⟩ := h9R
      obtain rfl := hr_56
      exact W.iret (v := (-15)) hx hb hr (fun t ht hW => ⟨⟨(-15), q_58, rfl, ⟨(show ((w.toInt < 0 ∨ 1 < w.toInt) ∧ ((-15) : Int32).toInt = -15) ∨ ((0 ≤ w.toInt ∧ w.toInt ≤ 1) ∧ (((n.toInt < 0 ∨ 4 < n.toInt) ∧ ((-15) : Int32).toInt = -16) ∨ ((0 ≤ n.toInt ∧ n.toInt ≤ 4) ∧ ((w.toInt = 1 ∧ ((-15) : Int32).toInt = zLr gki gpa gta npu.toInt.toNat nhu.toInt (gco 0).toInt (gco 1).toInt (gco 2).toInt n.toInt.toNat nde.toInt nse.toInt) ∨ (w.toInt = 0 ∧ ((-15) : Int32).toInt = zLn gki gpa gta npu.toInt.toNat nhu.toInt (gco 0).toInt (gco 1).toInt (gco 2).toInt n.toInt.toNat nde.toInt nse.toInt))))) from by (have k15m : ((-15) : Int32).toInt = -15 := (by decide); omega)), trivial⟩, zRet ht hP hD [4, 5, 0, 1, 2, 3] (by decide) rfl⟩, hS.F ht⟩) hS.2.2 dX8_line_15
set_option maxHeartbeats 4000000 in
set_option maxRecDepth 100000 in
theorem c_F_M_casesIn_0 (l : Launch) (D : va_G) (cI cJ cZ cP cS : ClassId) (po : zPool) (m0 mrf mki mpa mta mla msl mco mhe mso msi msh mce mca mwo mnu mte mwa mke mma mth mtr : Nat) (npu nte nat_ nde nto nse nhu nga nsd nfa nba npl nen nnu nwr nra nik : Int32) (gki gpa gta : Nat → Int32) (h : Int32) (hy0 : 0 ≤ npu.toInt) (hy1 : npu.toInt ≤ 8) (hy2 : 4 ≤ nte.toInt) (hy3 : nte.toInt ≤ 40) (hy4 : 0 ≤ nat_.toInt) (hy5 : nat_.toInt ≤ 40) (hy6 : 0 ≤ nde.toInt) (hy7 : nde.toInt ≤ 24) (hy8 : 0 ≤ nhu.toInt) (hy9 : nhu.toInt ≤ 9) (hy10 : 0 ≤ nra.toInt) (hy11 : nra.toInt ≤ 2000) (hy12 : 0 ≤ nik.toInt) (hy13 : nik.toInt ≤ 1) (hy14 : 0 ≤ h.toInt) (hy15 : h.toInt ≤ 9) (hy16 : 0 ≤ nse.toInt) (hy17 : nse.toInt ≤ 300) (hp_gki : zRg gki (0) 6) (hp_gpa : zRg gpa (0) 9) (hp_gta : zRg gta (0) 60) (hpz : Nat) : Met l yX8_casesIn wsX8_casesIn ({ frames := 2, cells := 0, slots := 0, locals := 48 }) (va_Pc [.ref m0, .int 0, .int h] (zW D (zKT cI cJ cZ cP cS) po [(zMO m0 npu nte nat_ nde nto nse nhu nga nsd nfa mrf mki mpa mta mla msl mco mhe mso msi msh mce mca mwo mnu mte nba npl nen nnu nwr mwa mke mma mth mtr nra nik), (mki, .inl (cI, 8, .inl gki)), (mpa, .inl (cI, 8, .inl gpa)), (mta, .inl (cI, 8, .inl gta))] hpz)) (va_Qi (fun (r : Int32) (_ : Unit) => (r.toInt = zM gki gpa gta npu.toInt.toNat h.toInt 1 0 nde.toInt nse.toInt) ∧ (0 ≤ r.toInt ∧ r.toInt ≤ 1)) (zB D [(zMO m0 npu nte nat_ nde nto nse nhu nga nsd nfa mrf mki mpa mta mla msl mco mhe mso msi msh mce mca mwo mnu mte nba npl nen nnu nwr mwa mke mma mth mtr nra nik), (mki, .inl (cI, 8, .inl gki)), (mpa, .inl (cI, 8, .inl gpa)), (mta, .inl (cI, 8, .inl gta))] hpz (fun (_ : Unit) => [(zMO m0 npu nte nat_ nde nto nse nhu nga nsd nfa mrf mki mpa mta mla msl mco mhe mso msi msh mce mca mwo mnu mte nba npl nen nnu nwr mwa mke mma mth mtr nra nik), (mki, .inl (cI, 8, .inl gki)), (mpa, .inl (cI, 8, .inl gpa)), (mta, .inl (cI, 8, .inl gta))])) (va_A [(zMO m0 npu nte nat_ nde nto nse nhu nga nsd nfa mrf mki mpa mta mla msl mco mhe mso msi msh mce mca mwo mnu mte nba npl nen nnu nwr mwa mke mma mth mtr nra nik), (mki, .inl (cI, 8, .inl gki)), (mpa, .inl (cI, 8, .inl gpa)), (mta, .inl (cI, 8, .inl gta))] hpz)) 0 0 (va_A [(zMO m0 npu nte nat_ nde nto nse nhu nga nsd nfa mrf mki mpa mta mla msl mco mhe mso msi msh mce mca mwo mnu mte nba npl nen nnu nwr mwa mke mma mth mtr nra nik), (mki, .inl (cI, 8, .inl gki)), (mpa, .inl (cI, 8, .inl gpa)), (mta, .inl (cI, 8, .inl gta))] hpz) := by
  refine Met.ofW (cc := cX8_casesIn) (maxL := 5) (ret := (some .int)) (by decide) rfl ?_
  intro p e s m args below meth c s₁ B hml hv
  obtain ⟨rfl, hsz, hP, hK, hD0, hN, hZ⟩ := hv
  have hx := B.exec
  have hb := B.bytes
  have hr := B.returns
  have hts := atoms_spec (ws := wsX8_casesIn) B.pre
  have hown : s.vm.findClass RX8 = some m.cls := findClass_of_methodNamed B.named
  have hlocks := B.notSynchronized
  subst hsz
  have hD := hD0.self (sz := s.heap.size)
  have hA := zA_of hD
  have hl := lv_entry ([.ref m0, .int 0, .int h]) (n := 5) (Nat.le_of_ble_eq_true rfl)
  rw [lg_entry_eq]
  generalize (lg_sl ([.ref m0, .int 0, .int h]) ++ List.replicate (5 - (lg_sl ([.ref m0, .int 0, .int h])).length) Slot.unset).toArray = ls at hl ⊢
  replace hl : lv_has ls 5 [(0, .ref m0), (1, .int 0), (2, .int h)] := hl
  refine zw_begin hP hD (fun H locs hP1 hS => ?_)
  clear hP
  have hP := hP1
  clear hP1
  refine lv_aload_n hx hb dX8_casesIn_0 rfl (lv_at hl 0 rfl) ?_
  refine va_get (D := D) (ci := 8) (v := .int nhu) (C := RX8) (T := TX8) (N := 38) hx hb hts hi_X8_casesIn_8 hown hK hP 0 rfl rfl 6 (by decide) (hts (.fieldLink RX8 135 "TheLiningsInItModel" "hurry" "I") (List.mem_of_getElem? (i := 1) rfl)) (fun _ h9 => h9) rfl dX8_casesIn_1 ?_
  refine lv_istore_n (lv' := [(3, .int nhu), (0, .ref m0), (1, .int 0), (2, .int h)]) hx hb dX8_casesIn_4 rfl hl (by decide) rfl (fun ls hl => ?_)
  refine lv_aload_n hx hb dX8_casesIn_5 rfl (lv_at hl 1 rfl) ?_
  refine lv_iload_n hx hb dX8_casesIn_6 rfl (lv_at hl 3 rfl) ?_
  refine va_put (D := D) (ci := 8) (v := .int h) (ty := .int) (C := RX8) (T := TX8) (N := 38) hx hb hts hi_X8_casesIn_8 tyX8 tyX8_ok nmX8 hown hK hP hD hS 0 rfl rfl 6 (by decide) (hts (.fieldLink RX8 135 "TheLiningsInItModel" "hurry" "I") (List.mem_of_getElem? (i := 1) rfl)) (fun _ h9 => h9) rfl (tyX8_ok 6 (Nat.le_of_ble_eq_true rfl)) rfl rfl (Nat.le_of_ble_eq_true rfl) dX8_casesIn_7 (fun H locs hP hD hS => ?_)
  have h9R := zRe (ws' := [(zMO m0 npu nte nat_ nde nto nse h nga nsd nfa mrf mki mpa mta mla msl mco mhe mso msi msh mce mca mwo mnu mte nba npl nen nnu nwr mwa mke mma mth mtr nra nik), (mki, .inl (cI, 8, .inl gki)), (mpa, .inl (cI, 8, .inl gpa)), (mta, .inl (cI, 8, .inl gta))]) hP hD rfl
  clear hP hD
  obtain ⟨hP, hD⟩ := h9R
  refine lv_aload_n hx hb dX8_casesIn_10 rfl (lv_at hl 1 rfl) ?_
  refine lv_iload_n hx hb dX8_casesIn_11 rfl (lv_at hl 2 rfl) ?_
  refine lv_aload_n hx hb dX8_casesIn_12 rfl (lv_at hl 1 rfl) ?_
  refine va_get (D := D) (ci := 8) (v := .int nde) (C := RX8) (T := TX8) (N := 38) hx hb hts hi_X8_casesIn_8 hown hK hP 0 rfl rfl 3 (by decide) (hts (.fieldLink RX8 115 "TheLiningsInItModel" "depth" "I") (List.mem_of_getElem? (i := 2) rfl)) (fun _ h9 => h9) rfl dX8_casesIn_13 ?_
  refine lv_aload_n hx hb dX8_casesIn_16 rfl (lv_at hl 1 rfl) ?_
  refine va_get (D := D) (ci := 8) (v := .int nse) (C := RX8) (T := TX8) (N := 38) hx hb hts hi_X8_casesIn_8 hown hK hP 0 rfl rfl 5 (by decide) (hts (.fieldLink RX8 13 "TheLiningsInItModel" "seconds" "I") (List.mem_of_getElem? (i := 3) rfl)) (fun _ h9 => h9) rfl dX8_casesIn_17 ?_
  refine lv_iconst (v := 0) hx hb dX8_casesIn_20 (by decide) ?_
  have kc0 : (0 : Int32).toInt = 0 := by decide
  refine zc_V (As := [.int 0, .int nde, .int nse, .int 0]) (rest := []) ⟨hx, hb, hml, hown, hts⟩ (c_F_M_mostCases_0 l D cI cJ cZ cP cS po m0 mrf mki mpa mta mla msl mco mhe mso msi msh mce mca mwo mnu mte mwa mke mma mth mtr (npu) (nte) (nat_) (nde) (nto) (nse) (h) (nga) (nsd) (nfa) (nba) (npl) (nen) (nnu) (nwr) (nra) (nik) gki gpa gta (nde) (nse) (0) hy0 hy1 hy2 hy3 hy4 hy5 hy6 hy7 hy14 hy15 hy10 hy11 hy12 hy13 hy6 hy7 hy16 hy17 (by omega) (by omega) hp_gki hp_gpa hp_gta) (cwV 4 hts gX8_casesIn_X8_mostCases rfl rfl rfl ⟨rfl, dh_X8_mostCases⟩ ⟨Nat.le_of_ble_eq_true rfl, Nat.le_of_ble_eq_true rfl⟩) hK hN (hZ.kept hS) hP (hP.sub [0, 1, 2, 3] rfl) (va_recv (q := (RX8, TX8, 38)) hK hP (ci := 8) (q0 := 0) rfl rfl) rfl hl.1 rfl (Nat.le_of_ble_eq_true rfl) dX8_casesIn_21 ⟨Nat.le_of_ble_eq_true rfl, Nat.le_of_ble_eq_true rfl⟩ (fun r_1 hr_1 => ?_)
  obtain ⟨g_2, g_3, hsr_1_0⟩ := hr_1
  refine lv_istore (lv' := [(4, .int r_1), (3, .int nhu), (0, .ref m0), (1, .int 0), (2, .int h)]) hx hb dX8_casesIn_24 hl (by decide) rfl (fun ls hl => ?_)
  refine lv_aload_n hx hb dX8_casesIn_26 rfl (lv_at hl 2 rfl) ?_
  refine lv_iload_n hx hb dX8_casesIn_27 rfl (lv_at hl 1 rfl) ?_
  refine va_put (D := D) (ci := 8) (v := .int nhu) (ty := .int) (C := RX8) (T := TX8) (N := 38) hx hb hts hi_X8_casesIn_8 tyX8 tyX8_ok nmX8 hown hK hP hD hS 0 rfl rfl 6 (by decide) (hts (.fieldLink RX8 135 "TheLiningsInItModel" "hurry" "I") (List.mem_of_getElem? (i := 1) rfl)) (fun _ h9 => h9) rfl (tyX8_ok 6 (Nat.le_of_ble_eq_true rfl)) rfl rfl (Nat.le_of_ble_eq_true rfl) dX8_casesIn_28 (fun H locs hP hD hS => ?_)
  have h9R := zRe (ws' := [(zMO m0 npu nte nat_ nde nto nse nhu nga nsd nfa mrf mki mpa mta mla msl mco mhe mso msi msh mce mca mwo mnu mte nba npl nen nnu nwr mwa mke mma mth mtr nra nik), (mki, .inl (cI, 8, .inl gki)), (mpa, .inl (cI, 8, .inl gpa)), (mta, .inl (cI, 8, .inl gta))]) hP hD rfl
  clear hP hD
  obtain ⟨hP, hD⟩ := h9R
  refine lv_iload hx hb dX8_casesIn_31 (lv_at hl 0 rfl) ?_
  exact W.iret (v := r_1) hx hb hr (fun t ht hW => ⟨⟨r_1, (), rfl, ⟨(show (r_1 : Int32).toInt = zM gki gpa gta npu.toInt.toNat h.toInt 1 0 nde.toInt nse.toInt from by (have z := hsr_1_0; rw [show (if (0 : Int32).toInt = 0 then (1 : Int) else 0) = 1 from by decide] at z; exact z)), ⟨by omega, by omega⟩⟩, zRet ht hP hD [0, 1, 2, 3] (by decide) rfl⟩, hS.F ht⟩) hS.2.2 dX8_casesIn_33
set_option maxHeartbeats 4000000 in
set_option maxRecDepth 100000 in
theorem c_F_M_casesIn_1 (l : Launch) (D : va_G) (cI cJ cZ cP cS : ClassId) (po : zPool) (m0 mrf mki mpa mta mla msl mco mhe mso msi msh mce mca mwo mnu mte mwa mke mma mth mtr : Nat) (npu nte nat_ nde nto nse nhu nga nsd nfa nba npl nen nnu nwr nra nik : Int32) (gki gpa gta : Nat → Int32) (h : Int32) (hy0 : 0 ≤ npu.toInt) (hy1 : npu.toInt ≤ 8) (hy2 : 4 ≤ nte.toInt) (hy3 : nte.toInt ≤ 40) (hy4 : 0 ≤ nat_.toInt) (hy5 : nat_.toInt ≤ 40) (hy6 : 0 ≤ nde.toInt) (hy7 : nde.toInt ≤ 24) (hy8 : 0 ≤ nhu.toInt) (hy9 : nhu.toInt ≤ 9) (hy10 : 0 ≤ nra.toInt) (hy11 : nra.toInt ≤ 2000) (hy12 : 0 ≤ nik.toInt) (hy13 : nik.toInt ≤ 1) (hy14 : 0 ≤ h.toInt) (hy15 : h.toInt ≤ 9) (hy16 : 0 ≤ nse.toInt) (hy17 : nse.toInt ≤ 300) (hp_gki : zRg gki (0) 6) (hp_gpa : zRg gpa (0) 9) (hp_gta : zRg gta (0) 60) (hpz : Nat) : Met l yX8_casesIn wsX8_casesIn ({ frames := 4, cells := 0, slots := 0, locals := 102 }) (va_Pc [.ref m0, .int 1, .int h] (zW D (zKT cI cJ cZ cP cS) po [(zMO m0 npu nte nat_ nde nto nse nhu nga nsd nfa mrf mki mpa mta mla msl mco mhe mso msi msh mce mca mwo mnu mte nba npl nen nnu nwr mwa mke mma mth mtr nra nik), (mki, .inl (cI, 8, .inl gki)), (mpa, .inl (cI, 8, .inl gpa)), (mta, .inl (cI, 8, .inl gta))] hpz)) (va_Qi (fun (r : Int32) (_ : Unit) => (r.toInt = zM gki gpa gta npu.toInt.toNat h.toInt 1 1 nde.toInt nse.toInt) ∧ (0 ≤ r.toInt ∧ r.toInt ≤ 12)) (zB D [(zMO m0 npu nte nat_ nde nto nse nhu nga nsd nfa mrf mki mpa mta mla msl mco mhe mso msi msh mce mca mwo mnu mte nba npl nen nnu nwr mwa mke mma mth mtr nra nik), (mki, .inl (cI, 8, .inl gki)), (mpa, .inl (cI, 8, .inl gpa)), (mta, .inl (cI, 8, .inl gta))] hpz (fun (_ : Unit) => [(zMO m0 npu nte nat_ nde nto nse nhu nga nsd nfa mrf mki mpa mta mla msl mco mhe mso msi msh mce mca mwo mnu mte nba npl nen nnu nwr mwa mke mma mth mtr nra nik), (mki, .inl (cI, 8, .inl gki)), (mpa, .inl (cI, 8, .inl gpa)), (mta, .inl (cI, 8, .inl gta))])) (va_A [(zMO m0 npu nte nat_ nde nto nse nhu nga nsd nfa mrf mki mpa mta mla msl mco mhe mso msi msh mce mca mwo mnu mte nba npl nen nnu nwr mwa mke mma mth mtr nra nik), (mki, .inl (cI, 8, .inl gki)), (mpa, .inl (cI, 8, .inl gpa)), (mta, .inl (cI, 8, .inl gta))] hpz)) 0 0 (va_A [(zMO m0 npu nte nat_ nde nto nse nhu nga nsd nfa mrf mki mpa mta mla msl mco mhe mso msi msh mce mca mwo mnu mte nba npl nen nnu nwr mwa mke mma mth mtr nra nik), (mki, .inl (cI, 8, .inl gki)), (mpa, .inl (cI, 8, .inl gpa)), (mta, .inl (cI, 8, .inl gta))] hpz) := by
  refine Met.ofW (cc := cX8_casesIn) (maxL := 5) (ret := (some .int)) (by decide) rfl ?_
  intro p e s m args below meth c s₁ B hml hv
  obtain ⟨rfl, hsz, hP, hK, hD0, hN, hZ⟩ := hv
  have hx := B.exec
  have hb := B.bytes
  have hr := B.returns
  have hts := atoms_spec (ws := wsX8_casesIn) B.pre
  have hown : s.vm.findClass RX8 = some m.cls := findClass_of_methodNamed B.named
  have hlocks := B.notSynchronized
  subst hsz
  have hD := hD0.self (sz := s.heap.size)
  have hA := zA_of hD
  have hl := lv_entry ([.ref m0, .int 1, .int h]) (n := 5) (Nat.le_of_ble_eq_true rfl)
  rw [lg_entry_eq]
  generalize (lg_sl ([.ref m0, .int 1, .int h]) ++ List.replicate (5 - (lg_sl ([.ref m0, .int 1, .int h])).length) Slot.unset).toArray = ls at hl ⊢
  replace hl : lv_has ls 5 [(0, .ref m0), (1, .int 1), (2, .int h)] := hl
  refine zw_begin hP hD (fun H locs hP1 hS => ?_)
  clear hP
  have hP := hP1
  clear hP1
  refine lv_aload_n hx hb dX8_casesIn_0 rfl (lv_at hl 0 rfl) ?_
  refine va_get (D := D) (ci := 8) (v := .int nhu) (C := RX8) (T := TX8) (N := 38) hx hb hts hi_X8_casesIn_8 hown hK hP 0 rfl rfl 6 (by decide) (hts (.fieldLink RX8 135 "TheLiningsInItModel" "hurry" "I") (List.mem_of_getElem? (i := 1) rfl)) (fun _ h9 => h9) rfl dX8_casesIn_1 ?_
  refine lv_istore_n (lv' := [(3, .int nhu), (0, .ref m0), (1, .int 1), (2, .int h)]) hx hb dX8_casesIn_4 rfl hl (by decide) rfl (fun ls hl => ?_)
  refine lv_aload_n hx hb dX8_casesIn_5 rfl (lv_at hl 1 rfl) ?_
  refine lv_iload_n hx hb dX8_casesIn_6 rfl (lv_at hl 3 rfl) ?_
  refine va_put (D := D) (ci := 8) (v := .int h) (ty := .int) (C := RX8) (T := TX8) (N := 38) hx hb hts hi_X8_casesIn_8 tyX8 tyX8_ok nmX8 hown hK hP hD hS 0 rfl rfl 6 (by decide) (hts (.fieldLink RX8 135 "TheLiningsInItModel" "hurry" "I") (List.mem_of_getElem? (i := 1) rfl)) (fun _ h9 => h9) rfl (tyX8_ok 6 (Nat.le_of_ble_eq_true rfl)) rfl rfl (Nat.le_of_ble_eq_true rfl) dX8_casesIn_7 (fun H locs hP hD hS => ?_)
  have h9R := zRe (ws' := [(zMO m0 npu nte nat_ nde nto nse h nga nsd nfa mrf mki mpa mta mla msl mco mhe mso msi msh mce mca mwo mnu mte nba npl nen nnu nwr mwa mke mma mth mtr nra nik), (mki, .inl (cI, 8, .inl gki)), (mpa, .inl (cI, 8, .inl gpa)), (mta, .inl (cI, 8, .inl gta))]) hP hD rfl
  clear hP hD
  obtain ⟨hP, hD⟩ := h9R
  refine lv_aload_n hx hb dX8_casesIn_10 rfl (lv_at hl 1 rfl) ?_
  refine lv_iload_n hx hb dX8_casesIn_11 rfl (lv_at hl 2 rfl) ?_
  refine lv_aload_n hx hb dX8_casesIn_12 rfl (lv_at hl 1 rfl) ?_
  refine va_get (D := D) (ci := 8) (v := .int nde) (C := RX8) (T := TX8) (N := 38) hx hb hts hi_X8_casesIn_8 hown hK hP 0 rfl rfl 3 (by decide) (hts (.fieldLink RX8 115 "TheLiningsInItModel" "depth" "I") (List.mem_of_getElem? (i := 2) rfl)) (fun _ h9 => h9) rfl dX8_casesIn_13 ?_
  refine lv_aload_n hx hb dX8_casesIn_16 rfl (lv_at hl 1 rfl) ?_
  refine va_get (D := D) (ci := 8) (v := .int nse) (C := RX8) (T := TX8) (N := 38) hx hb hts hi_X8_casesIn_8 hown hK hP 0 rfl rfl 5 (by decide) (hts (.fieldLink RX8 13 "TheLiningsInItModel" "seconds" "I") (List.mem_of_getElem? (i := 3) rfl)) (fun _ h9 => h9) rfl dX8_casesIn_17 ?_
  refine lv_iconst (v := 0) hx hb dX8_casesIn_20 (by decide) ?_
  have kc0 : (0 : Int32).toInt = 0 := by decide
  refine zc_V (As := [.int 1, .int nde, .int nse, .int 0]) (rest := []) ⟨hx, hb, hml, hown, hts⟩ (c_F_M_mostCases_1 l D cI cJ cZ cP cS po m0 mrf mki mpa mta mla msl mco mhe mso msi msh mce mca mwo mnu mte mwa mke mma mth mtr (npu) (nte) (nat_) (nde) (nto) (nse) (h) (nga) (nsd) (nfa) (nba) (npl) (nen) (nnu) (nwr) (nra) (nik) gki gpa gta (nde) (nse) (0) hy0 hy1 hy2 hy3 hy4 hy5 hy6 hy7 hy14 hy15 hy10 hy11 hy12 hy13 hy6 hy7 hy16 hy17 (by omega) (by omega) hp_gki hp_gpa hp_gta) (cwV 4 hts gX8_casesIn_X8_mostCases rfl rfl rfl ⟨rfl, dh_X8_mostCases⟩ ⟨Nat.le_of_ble_eq_true rfl, Nat.le_of_ble_eq_true rfl⟩) hK hN (hZ.kept hS) hP (hP.sub [0, 1, 2, 3] rfl) (va_recv (q := (RX8, TX8, 38)) hK hP (ci := 8) (q0 := 0) rfl rfl) rfl hl.1 rfl (Nat.le_of_ble_eq_true rfl) dX8_casesIn_21 ⟨Nat.le_of_ble_eq_true rfl, Nat.le_of_ble_eq_true rfl⟩ (fun r_1 hr_1 => ?_)
  obtain ⟨g_2, g_3, hsr_1_0⟩ := hr_1
  refine lv_istore (lv' := [(4, .int r_1), (3, .int nhu), (0, .ref m0), (1, .int 1), (2, .int h)]) hx hb dX8_casesIn_24 hl (by decide) rfl (fun ls hl => ?_)
  refine lv_aload_n hx hb dX8_casesIn_26 rfl (lv_at hl 2 rfl) ?_
  refine lv_iload_n hx hb dX8_casesIn_27 rfl (lv_at hl 1 rfl) ?_
  refine va_put (D := D) (ci := 8) (v := .int nhu) (ty := .int) (C := RX8) (T := TX8) (N := 38) hx hb hts hi_X8_casesIn_8 tyX8 tyX8_ok nmX8 hown hK hP hD hS 0 rfl rfl 6 (by decide) (hts (.fieldLink RX8 135 "TheLiningsInItModel" "hurry" "I") (List.mem_of_getElem? (i := 1) rfl)) (fun _ h9 => h9) rfl (tyX8_ok 6 (Nat.le_of_ble_eq_true rfl)) rfl rfl (Nat.le_of_ble_eq_true rfl) dX8_casesIn_28 (fun H locs hP hD hS => ?_)
  have h9R := zRe (ws' := [(zMO m0 npu nte nat_ nde nto nse nhu nga nsd nfa mrf mki mpa mta mla msl mco mhe mso msi msh mce mca mwo mnu mte nba npl nen nnu nwr mwa mke mma mth mtr nra nik), (mki, .inl (cI, 8, .inl gki)), (mpa, .inl (cI, 8, .inl gpa)), (mta, .inl (cI, 8, .inl gta))]) hP hD rfl
  clear hP hD
  obtain ⟨hP, hD⟩ := h9R
  refine lv_iload hx hb dX8_casesIn_31 (lv_at hl 0 rfl) ?_
  exact W.iret (v := r_1) hx hb hr (fun t ht hW => ⟨⟨r_1, (), rfl, ⟨(show (r_1 : Int32).toInt = zM gki gpa gta npu.toInt.toNat h.toInt 1 1 nde.toInt nse.toInt from by (have z := hsr_1_0; rw [show (if (0 : Int32).toInt = 0 then (1 : Int) else 0) = 1 from by decide] at z; exact z)), ⟨by omega, by omega⟩⟩, zRet ht hP hD [0, 1, 2, 3] (by decide) rfl⟩, hS.F ht⟩) hS.2.2 dX8_casesIn_33
set_option maxHeartbeats 4000000 in
set_option maxRecDepth 100000 in
theorem c_F_M_casesIn_2 (l : Launch) (D : va_G) (cI cJ cZ cP cS : ClassId) (po : zPool) (m0 mrf mki mpa mta mla msl mco mhe mso msi msh mce mca mwo mnu mte mwa mke mma mth mtr : Nat) (npu nte nat_ nde nto nse nhu nga nsd nfa nba npl nen nnu nwr nra nik : Int32) (gki gpa gta : Nat → Int32) (h : Int32) (hy0 : 0 ≤ npu.toInt) (hy1 : npu.toInt ≤ 8) (hy2 : 4 ≤ nte.toInt) (hy3 : nte.toInt ≤ 40) (hy4 : 0 ≤ nat_.toInt) (hy5 : nat_.toInt ≤ 40) (hy6 : 0 ≤ nde.toInt) (hy7 : nde.toInt ≤ 24) (hy8 : 0 ≤ nhu.toInt) (hy9 : nhu.toInt ≤ 9) (hy10 : 0 ≤ nra.toInt) (hy11 : nra.toInt ≤ 2000) (hy12 : 0 ≤ nik.toInt) (hy13 : nik.toInt ≤ 1) (hy14 : 0 ≤ h.toInt) (hy15 : h.toInt ≤ 9) (hy16 : 0 ≤ nse.toInt) (hy17 : nse.toInt ≤ 300) (hp_gki : zRg gki (0) 6) (hp_gpa : zRg gpa (0) 9) (hp_gta : zRg gta (0) 60) (hpz : Nat) : Met l yX8_casesIn wsX8_casesIn ({ frames := 6, cells := 0, slots := 0, locals := 156 }) (va_Pc [.ref m0, .int 2, .int h] (zW D (zKT cI cJ cZ cP cS) po [(zMO m0 npu nte nat_ nde nto nse nhu nga nsd nfa mrf mki mpa mta mla msl mco mhe mso msi msh mce mca mwo mnu mte nba npl nen nnu nwr mwa mke mma mth mtr nra nik), (mki, .inl (cI, 8, .inl gki)), (mpa, .inl (cI, 8, .inl gpa)), (mta, .inl (cI, 8, .inl gta))] hpz)) (va_Qi (fun (r : Int32) (_ : Unit) => (r.toInt = zM gki gpa gta npu.toInt.toNat h.toInt 1 2 nde.toInt nse.toInt) ∧ (0 ≤ r.toInt ∧ r.toInt ≤ 144)) (zB D [(zMO m0 npu nte nat_ nde nto nse nhu nga nsd nfa mrf mki mpa mta mla msl mco mhe mso msi msh mce mca mwo mnu mte nba npl nen nnu nwr mwa mke mma mth mtr nra nik), (mki, .inl (cI, 8, .inl gki)), (mpa, .inl (cI, 8, .inl gpa)), (mta, .inl (cI, 8, .inl gta))] hpz (fun (_ : Unit) => [(zMO m0 npu nte nat_ nde nto nse nhu nga nsd nfa mrf mki mpa mta mla msl mco mhe mso msi msh mce mca mwo mnu mte nba npl nen nnu nwr mwa mke mma mth mtr nra nik), (mki, .inl (cI, 8, .inl gki)), (mpa, .inl (cI, 8, .inl gpa)), (mta, .inl (cI, 8, .inl gta))])) (va_A [(zMO m0 npu nte nat_ nde nto nse nhu nga nsd nfa mrf mki mpa mta mla msl mco mhe mso msi msh mce mca mwo mnu mte nba npl nen nnu nwr mwa mke mma mth mtr nra nik), (mki, .inl (cI, 8, .inl gki)), (mpa, .inl (cI, 8, .inl gpa)), (mta, .inl (cI, 8, .inl gta))] hpz)) 0 0 (va_A [(zMO m0 npu nte nat_ nde nto nse nhu nga nsd nfa mrf mki mpa mta mla msl mco mhe mso msi msh mce mca mwo mnu mte nba npl nen nnu nwr mwa mke mma mth mtr nra nik), (mki, .inl (cI, 8, .inl gki)), (mpa, .inl (cI, 8, .inl gpa)), (mta, .inl (cI, 8, .inl gta))] hpz) := by
  refine Met.ofW (cc := cX8_casesIn) (maxL := 5) (ret := (some .int)) (by decide) rfl ?_
  intro p e s m args below meth c s₁ B hml hv
  obtain ⟨rfl, hsz, hP, hK, hD0, hN, hZ⟩ := hv
  have hx := B.exec
  have hb := B.bytes
  have hr := B.returns
  have hts := atoms_spec (ws := wsX8_casesIn) B.pre
  have hown : s.vm.findClass RX8 = some m.cls := findClass_of_methodNamed B.named
  have hlocks := B.notSynchronized
  subst hsz
  have hD := hD0.self (sz := s.heap.size)
  have hA := zA_of hD
  have hl := lv_entry ([.ref m0, .int 2, .int h]) (n := 5) (Nat.le_of_ble_eq_true rfl)
  rw [lg_entry_eq]
  generalize (lg_sl ([.ref m0, .int 2, .int h]) ++ List.replicate (5 - (lg_sl ([.ref m0, .int 2, .int h])).length) Slot.unset).toArray = ls at hl ⊢
  replace hl : lv_has ls 5 [(0, .ref m0), (1, .int 2), (2, .int h)] := hl
  refine zw_begin hP hD (fun H locs hP1 hS => ?_)
  clear hP
  have hP := hP1
  clear hP1
  refine lv_aload_n hx hb dX8_casesIn_0 rfl (lv_at hl 0 rfl) ?_
  refine va_get (D := D) (ci := 8) (v := .int nhu) (C := RX8) (T := TX8) (N := 38) hx hb hts hi_X8_casesIn_8 hown hK hP 0 rfl rfl 6 (by decide) (hts (.fieldLink RX8 135 "TheLiningsInItModel" "hurry" "I") (List.mem_of_getElem? (i := 1) rfl)) (fun _ h9 => h9) rfl dX8_casesIn_1 ?_
  refine lv_istore_n (lv' := [(3, .int nhu), (0, .ref m0), (1, .int 2), (2, .int h)]) hx hb dX8_casesIn_4 rfl hl (by decide) rfl (fun ls hl => ?_)
  refine lv_aload_n hx hb dX8_casesIn_5 rfl (lv_at hl 1 rfl) ?_
  refine lv_iload_n hx hb dX8_casesIn_6 rfl (lv_at hl 3 rfl) ?_
  refine va_put (D := D) (ci := 8) (v := .int h) (ty := .int) (C := RX8) (T := TX8) (N := 38) hx hb hts hi_X8_casesIn_8 tyX8 tyX8_ok nmX8 hown hK hP hD hS 0 rfl rfl 6 (by decide) (hts (.fieldLink RX8 135 "TheLiningsInItModel" "hurry" "I") (List.mem_of_getElem? (i := 1) rfl)) (fun _ h9 => h9) rfl (tyX8_ok 6 (Nat.le_of_ble_eq_true rfl)) rfl rfl (Nat.le_of_ble_eq_true rfl) dX8_casesIn_7 (fun H locs hP hD hS => ?_)
  have h9R := zRe (ws' := [(zMO m0 npu nte nat_ nde nto nse h nga nsd nfa mrf mki mpa mta mla msl mco mhe mso msi msh mce mca mwo mnu mte nba npl nen nnu nwr mwa mke mma mth mtr nra nik), (mki, .inl (cI, 8, .inl gki)), (mpa, .inl (cI, 8, .inl gpa)), (mta, .inl (cI, 8, .inl gta))]) hP hD rfl
  clear hP hD
  obtain ⟨hP, hD⟩ := h9R
  refine lv_aload_n hx hb dX8_casesIn_10 rfl (lv_at hl 1 rfl) ?_
  refine lv_iload_n hx hb dX8_casesIn_11 rfl (lv_at hl 2 rfl) ?_
  refine lv_aload_n hx hb dX8_casesIn_12 rfl (lv_at hl 1 rfl) ?_
  refine va_get (D := D) (ci := 8) (v := .int nde) (C := RX8) (T := TX8) (N := 38) hx hb hts hi_X8_casesIn_8 hown hK hP 0 rfl rfl 3 (by decide) (hts (.fieldLink RX8 115 "TheLiningsInItModel" "depth" "I") (List.mem_of_getElem? (i := 2) rfl)) (fun _ h9 => h9) rfl dX8_casesIn_13 ?_
  refine lv_aload_n hx hb dX8_casesIn_16 rfl (lv_at hl 1 rfl) ?_
  refine va_get (D := D) (ci := 8) (v := .int nse) (C := RX8) (T := TX8) (N := 38) hx hb hts hi_X8_casesIn_8 hown hK hP 0 rfl rfl 5 (by decide) (hts (.fieldLink RX8 13 "TheLiningsInItModel" "seconds" "I") (List.mem_of_getElem? (i := 3) rfl)) (fun _ h9 => h9) rfl dX8_casesIn_17 ?_
  refine lv_iconst (v := 0) hx hb dX8_casesIn_20 (by decide) ?_
  have kc0 : (0 : Int32).toInt = 0 := by decide
  refine zc_V (As := [.int 2, .int nde, .int nse, .int 0]) (rest := []) ⟨hx, hb, hml, hown, hts⟩ (c_F_M_mostCases_2 l D cI cJ cZ cP cS po m0 mrf mki mpa mta mla msl mco mhe mso msi msh mce mca mwo mnu mte mwa mke mma mth mtr (npu) (nte) (nat_) (nde) (nto) (nse) (h) (nga) (nsd) (nfa) (nba) (npl) (nen) (nnu) (nwr) (nra) (nik) gki gpa gta (nde) (nse) (0) hy0 hy1 hy2 hy3 hy4 hy5 hy6 hy7 hy14 hy15 hy10 hy11 hy12 hy13 hy6 hy7 hy16 hy17 (by omega) (by omega) hp_gki hp_gpa hp_gta) (cwV 4 hts gX8_casesIn_X8_mostCases rfl rfl rfl ⟨rfl, dh_X8_mostCases⟩ ⟨Nat.le_of_ble_eq_true rfl, Nat.le_of_ble_eq_true rfl⟩) hK hN (hZ.kept hS) hP (hP.sub [0, 1, 2, 3] rfl) (va_recv (q := (RX8, TX8, 38)) hK hP (ci := 8) (q0 := 0) rfl rfl) rfl hl.1 rfl (Nat.le_of_ble_eq_true rfl) dX8_casesIn_21 ⟨Nat.le_of_ble_eq_true rfl, Nat.le_of_ble_eq_true rfl⟩ (fun r_1 hr_1 => ?_)
  obtain ⟨g_2, g_3, hsr_1_0⟩ := hr_1
  refine lv_istore (lv' := [(4, .int r_1), (3, .int nhu), (0, .ref m0), (1, .int 2), (2, .int h)]) hx hb dX8_casesIn_24 hl (by decide) rfl (fun ls hl => ?_)
  refine lv_aload_n hx hb dX8_casesIn_26 rfl (lv_at hl 2 rfl) ?_
  refine lv_iload_n hx hb dX8_casesIn_27 rfl (lv_at hl 1 rfl) ?_
  refine va_put (D := D) (ci := 8) (v := .int nhu) (ty := .int) (C := RX8) (T := TX8) (N := 38) hx hb hts hi_X8_casesIn_8 tyX8 tyX8_ok nmX8 hown hK hP hD hS 0 rfl rfl 6 (by decide) (hts (.fieldLink RX8 135 "TheLiningsInItModel" "hurry" "I") (List.mem_of_getElem? (i := 1) rfl)) (fun _ h9 => h9) rfl (tyX8_ok 6 (Nat.le_of_ble_eq_true rfl)) rfl rfl (Nat.le_of_ble_eq_true rfl) dX8_casesIn_28 (fun H locs hP hD hS => ?_)
  have h9R := zRe (ws' := [(zMO m0 npu nte nat_ nde nto nse nhu nga nsd nfa mrf mki mpa mta mla msl mco mhe mso msi msh mce mca mwo mnu mte nba npl nen nnu nwr mwa mke mma mth mtr nra nik), (mki, .inl (cI, 8, .inl gki)), (mpa, .inl (cI, 8, .inl gpa)), (mta, .inl (cI, 8, .inl gta))]) hP hD rfl
  clear hP hD
  obtain ⟨hP, hD⟩ := h9R
  refine lv_iload hx hb dX8_casesIn_31 (lv_at hl 0 rfl) ?_
  exact W.iret (v := r_1) hx hb hr (fun t ht hW => ⟨⟨r_1, (), rfl, ⟨(show (r_1 : Int32).toInt = zM gki gpa gta npu.toInt.toNat h.toInt 1 2 nde.toInt nse.toInt from by (have z := hsr_1_0; rw [show (if (0 : Int32).toInt = 0 then (1 : Int) else 0) = 1 from by decide] at z; exact z)), ⟨by omega, by omega⟩⟩, zRet ht hP hD [0, 1, 2, 3] (by decide) rfl⟩, hS.F ht⟩) hS.2.2 dX8_casesIn_33
set_option maxHeartbeats 4000000 in
set_option maxRecDepth 100000 in
theorem c_F_M_casesIn_3 (l : Launch) (D : va_G) (cI cJ cZ cP cS : ClassId) (po : zPool) (m0 mrf mki mpa mta mla msl mco mhe mso msi msh mce mca mwo mnu mte mwa mke mma mth mtr : Nat) (npu nte nat_ nde nto nse nhu nga nsd nfa nba npl nen nnu nwr nra nik : Int32) (gki gpa gta : Nat → Int32) (h : Int32) (hy0 : 0 ≤ npu.toInt) (hy1 : npu.toInt ≤ 8) (hy2 : 4 ≤ nte.toInt) (hy3 : nte.toInt ≤ 40) (hy4 : 0 ≤ nat_.toInt) (hy5 : nat_.toInt ≤ 40) (hy6 : 0 ≤ nde.toInt) (hy7 : nde.toInt ≤ 24) (hy8 : 0 ≤ nhu.toInt) (hy9 : nhu.toInt ≤ 9) (hy10 : 0 ≤ nra.toInt) (hy11 : nra.toInt ≤ 2000) (hy12 : 0 ≤ nik.toInt) (hy13 : nik.toInt ≤ 1) (hy14 : 0 ≤ h.toInt) (hy15 : h.toInt ≤ 9) (hy16 : 0 ≤ nse.toInt) (hy17 : nse.toInt ≤ 300) (hp_gki : zRg gki (0) 6) (hp_gpa : zRg gpa (0) 9) (hp_gta : zRg gta (0) 60) (hpz : Nat) : Met l yX8_casesIn wsX8_casesIn ({ frames := 8, cells := 0, slots := 0, locals := 210 }) (va_Pc [.ref m0, .int 3, .int h] (zW D (zKT cI cJ cZ cP cS) po [(zMO m0 npu nte nat_ nde nto nse nhu nga nsd nfa mrf mki mpa mta mla msl mco mhe mso msi msh mce mca mwo mnu mte nba npl nen nnu nwr mwa mke mma mth mtr nra nik), (mki, .inl (cI, 8, .inl gki)), (mpa, .inl (cI, 8, .inl gpa)), (mta, .inl (cI, 8, .inl gta))] hpz)) (va_Qi (fun (r : Int32) (_ : Unit) => (r.toInt = zM gki gpa gta npu.toInt.toNat h.toInt 1 3 nde.toInt nse.toInt) ∧ (0 ≤ r.toInt ∧ r.toInt ≤ 1728)) (zB D [(zMO m0 npu nte nat_ nde nto nse nhu nga nsd nfa mrf mki mpa mta mla msl mco mhe mso msi msh mce mca mwo mnu mte nba npl nen nnu nwr mwa mke mma mth mtr nra nik), (mki, .inl (cI, 8, .inl gki)), (mpa, .inl (cI, 8, .inl gpa)), (mta, .inl (cI, 8, .inl gta))] hpz (fun (_ : Unit) => [(zMO m0 npu nte nat_ nde nto nse nhu nga nsd nfa mrf mki mpa mta mla msl mco mhe mso msi msh mce mca mwo mnu mte nba npl nen nnu nwr mwa mke mma mth mtr nra nik), (mki, .inl (cI, 8, .inl gki)), (mpa, .inl (cI, 8, .inl gpa)), (mta, .inl (cI, 8, .inl gta))])) (va_A [(zMO m0 npu nte nat_ nde nto nse nhu nga nsd nfa mrf mki mpa mta mla msl mco mhe mso msi msh mce mca mwo mnu mte nba npl nen nnu nwr mwa mke mma mth mtr nra nik), (mki, .inl (cI, 8, .inl gki)), (mpa, .inl (cI, 8, .inl gpa)), (mta, .inl (cI, 8, .inl gta))] hpz)) 0 0 (va_A [(zMO m0 npu nte nat_ nde nto nse nhu nga nsd nfa mrf mki mpa mta mla msl mco mhe mso msi msh mce mca mwo mnu mte nba npl nen nnu nwr mwa mke mma mth mtr nra nik), (mki, .inl (cI, 8, .inl gki)), (mpa, .inl (cI, 8, .inl gpa)), (mta, .inl (cI, 8, .inl gta))] hpz) := by
  refine Met.ofW (cc := cX8_casesIn) (maxL := 5) (ret := (some .int)) (by decide) rfl ?_
  intro p e s m args below meth c s₁ B hml hv
  obtain ⟨rfl, hsz, hP, hK, hD0, hN, hZ⟩ := hv
  have hx := B.exec
  have hb := B.bytes
  have hr := B.returns
  have hts := atoms_spec (ws := wsX8_casesIn) B.pre
  have hown : s.vm.findClass RX8 = some m.cls := findClass_of_methodNamed B.named
  have hlocks := B.notSynchronized
  subst hsz
  have hD := hD0.self (sz := s.heap.size)
  have hA := zA_of hD
  have hl := lv_entry ([.ref m0, .int 3, .int h]) (n := 5) (Nat.le_of_ble_eq_true rfl)
  rw [lg_entry_eq]
  generalize (lg_sl ([.ref m0, .int 3, .int h]) ++ List.replicate (5 - (lg_sl ([.ref m0, .int 3, .int h])).length) Slot.unset).toArray = ls at hl ⊢
  replace hl : lv_has ls 5 [(0, .ref m0), (1, .int 3), (2, .int h)] := hl
  refine zw_begin hP hD (fun H locs hP1 hS => ?_)
  clear hP
  have hP := hP1
  clear hP1
  refine lv_aload_n hx hb dX8_casesIn_0 rfl (lv_at hl 0 rfl) ?_
  refine va_get (D := D) (ci := 8) (v := .int nhu) (C := RX8) (T := TX8) (N := 38) hx hb hts hi_X8_casesIn_8 hown hK hP 0 rfl rfl 6 (by decide) (hts (.fieldLink RX8 135 "TheLiningsInItModel" "hurry" "I") (List.mem_of_getElem? (i := 1) rfl)) (fun _ h9 => h9) rfl dX8_casesIn_1 ?_
  refine lv_istore_n (lv' := [(3, .int nhu), (0, .ref m0), (1, .int 3), (2, .int h)]) hx hb dX8_casesIn_4 rfl hl (by decide) rfl (fun ls hl => ?_)
  refine lv_aload_n hx hb dX8_casesIn_5 rfl (lv_at hl 1 rfl) ?_
  refine lv_iload_n hx hb dX8_casesIn_6 rfl (lv_at hl 3 rfl) ?_
  refine va_put (D := D) (ci := 8) (v := .int h) (ty := .int) (C := RX8) (T := TX8) (N := 38) hx hb hts hi_X8_casesIn_8 tyX8 tyX8_ok nmX8 hown hK hP hD hS 0 rfl rfl 6 (by decide) (hts (.fieldLink RX8 135 "TheLiningsInItModel" "hurry" "I") (List.mem_of_getElem? (i := 1) rfl)) (fun _ h9 => h9) rfl (tyX8_ok 6 (Nat.le_of_ble_eq_true rfl)) rfl rfl (Nat.le_of_ble_eq_true rfl) dX8_casesIn_7 (fun H locs hP hD hS => ?_)
  have h9R := zRe (ws' := [(zMO m0 npu nte nat_ nde nto nse h nga nsd nfa mrf mki mpa mta mla msl mco mhe mso msi msh mce mca mwo mnu mte nba npl nen nnu nwr mwa mke mma mth mtr nra nik), (mki, .inl (cI, 8, .inl gki)), (mpa, .inl (cI, 8, .inl gpa)), (mta, .inl (cI, 8, .inl gta))]) hP hD rfl
  clear hP hD
  obtain ⟨hP, hD⟩ := h9R
  refine lv_aload_n hx hb dX8_casesIn_10 rfl (lv_at hl 1 rfl) ?_
  refine lv_iload_n hx hb dX8_casesIn_11 rfl (lv_at hl 2 rfl) ?_
  refine lv_aload_n hx hb dX8_casesIn_12 rfl (lv_at hl 1 rfl) ?_
  refine va_get (D := D) (ci := 8) (v := .int nde) (C := RX8) (T := TX8) (N := 38) hx hb hts hi_X8_casesIn_8 hown hK hP 0 rfl rfl 3 (by decide) (hts (.fieldLink RX8 115 "TheLiningsInItModel" "depth" "I") (List.mem_of_getElem? (i := 2) rfl)) (fun _ h9 => h9) rfl dX8_casesIn_13 ?_
  refine lv_aload_n hx hb dX8_casesIn_16 rfl (lv_at hl 1 rfl) ?_
  refine va_get (D := D) (ci := 8) (v := .int nse) (C := RX8) (T := TX8) (N := 38) hx hb hts hi_X8_casesIn_8 hown hK hP 0 rfl rfl 5 (by decide) (hts (.fieldLink RX8 13 "TheLiningsInItModel" "seconds" "I") (List.mem_of_getElem? (i := 3) rfl)) (fun _ h9 => h9) rfl dX8_casesIn_17 ?_
  refine lv_iconst (v := 0) hx hb dX8_casesIn_20 (by decide) ?_
  have kc0 : (0 : Int32).toInt = 0 := by decide
  refine zc_V (As := [.int 3, .int nde, .int nse, .int 0]) (rest := []) ⟨hx, hb, hml, hown, hts⟩ (c_F_M_mostCases_3 l D cI cJ cZ cP cS po m0 mrf mki mpa mta mla msl mco mhe mso msi msh mce mca mwo mnu mte mwa mke mma mth mtr (npu) (nte) (nat_) (nde) (nto) (nse) (h) (nga) (nsd) (nfa) (nba) (npl) (nen) (nnu) (nwr) (nra) (nik) gki gpa gta (nde) (nse) (0) hy0 hy1 hy2 hy3 hy4 hy5 hy6 hy7 hy14 hy15 hy10 hy11 hy12 hy13 hy6 hy7 hy16 hy17 (by omega) (by omega) hp_gki hp_gpa hp_gta) (cwV 4 hts gX8_casesIn_X8_mostCases rfl rfl rfl ⟨rfl, dh_X8_mostCases⟩ ⟨Nat.le_of_ble_eq_true rfl, Nat.le_of_ble_eq_true rfl⟩) hK hN (hZ.kept hS) hP (hP.sub [0, 1, 2, 3] rfl) (va_recv (q := (RX8, TX8, 38)) hK hP (ci := 8) (q0 := 0) rfl rfl) rfl hl.1 rfl (Nat.le_of_ble_eq_true rfl) dX8_casesIn_21 ⟨Nat.le_of_ble_eq_true rfl, Nat.le_of_ble_eq_true rfl⟩ (fun r_1 hr_1 => ?_)
  obtain ⟨g_2, g_3, hsr_1_0⟩ := hr_1
  refine lv_istore (lv' := [(4, .int r_1), (3, .int nhu), (0, .ref m0), (1, .int 3), (2, .int h)]) hx hb dX8_casesIn_24 hl (by decide) rfl (fun ls hl => ?_)
  refine lv_aload_n hx hb dX8_casesIn_26 rfl (lv_at hl 2 rfl) ?_
  refine lv_iload_n hx hb dX8_casesIn_27 rfl (lv_at hl 1 rfl) ?_
  refine va_put (D := D) (ci := 8) (v := .int nhu) (ty := .int) (C := RX8) (T := TX8) (N := 38) hx hb hts hi_X8_casesIn_8 tyX8 tyX8_ok nmX8 hown hK hP hD hS 0 rfl rfl 6 (by decide) (hts (.fieldLink RX8 135 "TheLiningsInItModel" "hurry" "I") (List.mem_of_getElem? (i := 1) rfl)) (fun _ h9 => h9) rfl (tyX8_ok 6 (Nat.le_of_ble_eq_true rfl)) rfl rfl (Nat.le_of_ble_eq_true rfl) dX8_casesIn_28 (fun H locs hP hD hS => ?_)
  have h9R := zRe (ws' := [(zMO m0 npu nte nat_ nde nto nse nhu nga nsd nfa mrf mki mpa mta mla msl mco mhe mso msi msh mce mca mwo mnu mte nba npl nen nnu nwr mwa mke mma mth mtr nra nik), (mki, .inl (cI, 8, .inl gki)), (mpa, .inl (cI, 8, .inl gpa)), (mta, .inl (cI, 8, .inl gta))]) hP hD rfl
  clear hP hD
  obtain ⟨hP, hD⟩ := h9R
  refine lv_iload hx hb dX8_casesIn_31 (lv_at hl 0 rfl) ?_
  exact W.iret (v := r_1) hx hb hr (fun t ht hW => ⟨⟨r_1, (), rfl, ⟨(show (r_1 : Int32).toInt = zM gki gpa gta npu.toInt.toNat h.toInt 1 3 nde.toInt nse.toInt from by (have z := hsr_1_0; rw [show (if (0 : Int32).toInt = 0 then (1 : Int) else 0) = 1 from by decide] at z; exact z)), ⟨by omega, by omega⟩⟩, zRet ht hP hD [0, 1, 2, 3] (by decide) rfl⟩, hS.F ht⟩) hS.2.2 dX8_casesIn_33
set_option maxHeartbeats 4000000 in
set_option maxRecDepth 100000 in
theorem c_F_M_casesIn_4 (l : Launch) (D : va_G) (cI cJ cZ cP cS : ClassId) (po : zPool) (m0 mrf mki mpa mta mla msl mco mhe mso msi msh mce mca mwo mnu mte mwa mke mma mth mtr : Nat) (npu nte nat_ nde nto nse nhu nga nsd nfa nba npl nen nnu nwr nra nik : Int32) (gki gpa gta : Nat → Int32) (h : Int32) (hy0 : 0 ≤ npu.toInt) (hy1 : npu.toInt ≤ 8) (hy2 : 4 ≤ nte.toInt) (hy3 : nte.toInt ≤ 40) (hy4 : 0 ≤ nat_.toInt) (hy5 : nat_.toInt ≤ 40) (hy6 : 0 ≤ nde.toInt) (hy7 : nde.toInt ≤ 24) (hy8 : 0 ≤ nhu.toInt) (hy9 : nhu.toInt ≤ 9) (hy10 : 0 ≤ nra.toInt) (hy11 : nra.toInt ≤ 2000) (hy12 : 0 ≤ nik.toInt) (hy13 : nik.toInt ≤ 1) (hy14 : 0 ≤ h.toInt) (hy15 : h.toInt ≤ 9) (hy16 : 0 ≤ nse.toInt) (hy17 : nse.toInt ≤ 300) (hp_gki : zRg gki (0) 6) (hp_gpa : zRg gpa (0) 9) (hp_gta : zRg gta (0) 60) (hpz : Nat) : Met l yX8_casesIn wsX8_casesIn ({ frames := 10, cells := 0, slots := 0, locals := 264 }) (va_Pc [.ref m0, .int 4, .int h] (zW D (zKT cI cJ cZ cP cS) po [(zMO m0 npu nte nat_ nde nto nse nhu nga nsd nfa mrf mki mpa mta mla msl mco mhe mso msi msh mce mca mwo mnu mte nba npl nen nnu nwr mwa mke mma mth mtr nra nik), (mki, .inl (cI, 8, .inl gki)), (mpa, .inl (cI, 8, .inl gpa)), (mta, .inl (cI, 8, .inl gta))] hpz)) (va_Qi (fun (r : Int32) (_ : Unit) => (r.toInt = zM gki gpa gta npu.toInt.toNat h.toInt 1 4 nde.toInt nse.toInt) ∧ (0 ≤ r.toInt ∧ r.toInt ≤ 20736)) (zB D [(zMO m0 npu nte nat_ nde nto nse nhu nga nsd nfa mrf mki mpa mta mla msl mco mhe mso msi msh mce mca mwo mnu mte nba npl nen nnu nwr mwa mke mma mth mtr nra nik), (mki, .inl (cI, 8, .inl gki)), (mpa, .inl (cI, 8, .inl gpa)), (mta, .inl (cI, 8, .inl gta))] hpz (fun (_ : Unit) => [(zMO m0 npu nte nat_ nde nto nse nhu nga nsd nfa mrf mki mpa mta mla msl mco mhe mso msi msh mce mca mwo mnu mte nba npl nen nnu nwr mwa mke mma mth mtr nra nik), (mki, .inl (cI, 8, .inl gki)), (mpa, .inl (cI, 8, .inl gpa)), (mta, .inl (cI, 8, .inl gta))])) (va_A [(zMO m0 npu nte nat_ nde nto nse nhu nga nsd nfa mrf mki mpa mta mla msl mco mhe mso msi msh mce mca mwo mnu mte nba npl nen nnu nwr mwa mke mma mth mtr nra nik), (mki, .inl (cI, 8, .inl gki)), (mpa, .inl (cI, 8, .inl gpa)), (mta, .inl (cI, 8, .inl gta))] hpz)) 0 0 (va_A [(zMO m0 npu nte nat_ nde nto nse nhu nga nsd nfa mrf mki mpa mta mla msl mco mhe mso msi msh mce mca mwo mnu mte nba npl nen nnu nwr mwa mke mma mth mtr nra nik), (mki, .inl (cI, 8, .inl gki)), (mpa, .inl (cI, 8, .inl gpa)), (mta, .inl (cI, 8, .inl gta))] hpz) := by
  refine Met.ofW (cc := cX8_casesIn) (maxL := 5) (ret := (some .int)) (by decide) rfl ?_
  intro p e s m args below meth c s₁ B hml hv
  obtain ⟨rfl, hsz, hP, hK, hD0, hN, hZ⟩ := hv
  have hx := B.exec
  have hb := B.bytes
  have hr := B.returns
  have hts := atoms_spec (ws := wsX8_casesIn) B.pre
  have hown : s.vm.findClass RX8 = some m.cls := findClass_of_methodNamed B.named
  have hlocks := B.notSynchronized
  subst hsz
  have hD := hD0.self (sz := s.heap.size)
  have hA := zA_of hD
  have hl := lv_entry ([.ref m0, .int 4, .int h]) (n := 5) (Nat.le_of_ble_eq_true rfl)
  rw [lg_entry_eq]
  generalize (lg_sl ([.ref m0, .int 4, .int h]) ++ List.replicate (5 - (lg_sl ([.ref m0, .int 4, .int h])).length) Slot.unset).toArray = ls at hl ⊢
  replace hl : lv_has ls 5 [(0, .ref m0), (1, .int 4), (2, .int h)] := hl
  refine zw_begin hP hD (fun H locs hP1 hS => ?_)
  clear hP
  have hP := hP1
  clear hP1
  refine lv_aload_n hx hb dX8_casesIn_0 rfl (lv_at hl 0 rfl) ?_
  refine va_get (D := D) (ci := 8) (v := .int nhu) (C := RX8) (T := TX8) (N := 38) hx hb hts hi_X8_casesIn_8 hown hK hP 0 rfl rfl 6 (by decide) (hts (.fieldLink RX8 135 "TheLiningsInItModel" "hurry" "I") (List.mem_of_getElem? (i := 1) rfl)) (fun _ h9 => h9) rfl dX8_casesIn_1 ?_
  refine lv_istore_n (lv' := [(3, .int nhu), (0, .ref m0), (1, .int 4), (2, .int h)]) hx hb dX8_casesIn_4 rfl hl (by decide) rfl (fun ls hl => ?_)
  refine lv_aload_n hx hb dX8_casesIn_5 rfl (lv_at hl 1 rfl) ?_
  refine lv_iload_n hx hb dX8_casesIn_6 rfl (lv_at hl 3 rfl) ?_
  refine va_put (D := D) (ci := 8) (v := .int h) (ty := .int) (C := RX8) (T := TX8) (N := 38) hx hb hts hi_X8_casesIn_8 tyX8 tyX8_ok nmX8 hown hK hP hD hS 0 rfl rfl 6 (by decide) (hts (.fieldLink RX8 135 "TheLiningsInItModel" "hurry" "I") (List.mem_of_getElem? (i := 1) rfl)) (fun _ h9 => h9) rfl (tyX8_ok 6 (Nat.le_of_ble_eq_true rfl)) rfl rfl (Nat.le_of_ble_eq_true rfl) dX8_casesIn_7 (fun H locs hP hD hS => ?_)
  have h9R := zRe (ws' := [(zMO m0 npu nte nat_ nde nto nse h nga nsd nfa mrf mki mpa mta mla msl mco mhe mso msi msh mce mca mwo mnu mte nba npl nen nnu nwr mwa mke mma mth mtr nra nik), (mki, .inl (cI, 8, .inl gki)), (mpa, .inl (cI, 8, .inl gpa)), (mta, .inl (cI, 8, .inl gta))]) hP hD rfl
  clear hP hD
  obtain ⟨hP, hD⟩ := h9R
  refine lv_aload_n hx hb dX8_casesIn_10 rfl (lv_at hl 1 rfl) ?_
  refine lv_iload_n hx hb dX8_casesIn_11 rfl (lv_at hl 2 rfl) ?_
  refine lv_aload_n hx hb dX8_casesIn_12 rfl (lv_at hl 1 rfl) ?_
  refine va_get (D := D) (ci := 8) (v := .int nde) (C := RX8) (T := TX8) (N := 38) hx hb hts hi_X8_casesIn_8 hown hK hP 0 rfl rfl 3 (by decide) (hts (.fieldLink RX8 115 "TheLiningsInItModel" "depth" "I") (List.mem_of_getElem? (i := 2) rfl)) (fun _ h9 => h9) rfl dX8_casesIn_13 ?_
  refine lv_aload_n hx hb dX8_casesIn_16 rfl (lv_at hl 1 rfl) ?_
  refine va_get (D := D) (ci := 8) (v := .int nse) (C := RX8) (T := TX8) (N := 38) hx hb hts hi_X8_casesIn_8 hown hK hP 0 rfl rfl 5 (by decide) (hts (.fieldLink RX8 13 "TheLiningsInItModel" "seconds" "I") (List.mem_of_getElem? (i := 3) rfl)) (fun _ h9 => h9) rfl dX8_casesIn_17 ?_
  refine lv_iconst (v := 0) hx hb dX8_casesIn_20 (by decide) ?_
  have kc0 : (0 : Int32).toInt = 0 := by decide
  refine zc_V (As := [.int 4, .int nde, .int nse, .int 0]) (rest := []) ⟨hx, hb, hml, hown, hts⟩ (c_F_M_mostCases_4 l D cI cJ cZ cP cS po m0 mrf mki mpa mta mla msl mco mhe mso msi msh mce mca mwo mnu mte mwa mke mma mth mtr (npu) (nte) (nat_) (nde) (nto) (nse) (h) (nga) (nsd) (nfa) (nba) (npl) (nen) (nnu) (nwr) (nra) (nik) gki gpa gta (nde) (nse) (0) hy0 hy1 hy2 hy3 hy4 hy5 hy6 hy7 hy14 hy15 hy10 hy11 hy12 hy13 hy6 hy7 hy16 hy17 (by omega) (by omega) hp_gki hp_gpa hp_gta) (cwV 4 hts gX8_casesIn_X8_mostCases rfl rfl rfl ⟨rfl, dh_X8_mostCases⟩ ⟨Nat.le_of_ble_eq_true rfl, Nat.le_of_ble_eq_true rfl⟩) hK hN (hZ.kept hS) hP (hP.sub [0, 1, 2, 3] rfl) (va_recv (q := (RX8, TX8, 38)) hK hP (ci := 8) (q0 := 0) rfl rfl) rfl hl.1 rfl (Nat.le_of_ble_eq_true rfl) dX8_casesIn_21 ⟨Nat.le_of_ble_eq_true rfl, Nat.le_of_ble_eq_true rfl⟩ (fun r_1 hr_1 => ?_)
  obtain ⟨g_2, g_3, hsr_1_0⟩ := hr_1
  refine lv_istore (lv' := [(4, .int r_1), (3, .int nhu), (0, .ref m0), (1, .int 4), (2, .int h)]) hx hb dX8_casesIn_24 hl (by decide) rfl (fun ls hl => ?_)
  refine lv_aload_n hx hb dX8_casesIn_26 rfl (lv_at hl 2 rfl) ?_
  refine lv_iload_n hx hb dX8_casesIn_27 rfl (lv_at hl 1 rfl) ?_
  refine va_put (D := D) (ci := 8) (v := .int nhu) (ty := .int) (C := RX8) (T := TX8) (N := 38) hx hb hts hi_X8_casesIn_8 tyX8 tyX8_ok nmX8 hown hK hP hD hS 0 rfl rfl 6 (by decide) (hts (.fieldLink RX8 135 "TheLiningsInItModel" "hurry" "I") (List.mem_of_getElem? (i := 1) rfl)) (fun _ h9 => h9) rfl (tyX8_ok 6 (Nat.le_of_ble_eq_true rfl)) rfl rfl (Nat.le_of_ble_eq_true rfl) dX8_casesIn_28 (fun H locs hP hD hS => ?_)
  have h9R := zRe (ws' := [(zMO m0 npu nte nat_ nde nto nse nhu nga nsd nfa mrf mki mpa mta mla msl mco mhe mso msi msh mce mca mwo mnu mte nba npl nen nnu nwr mwa mke mma mth mtr nra nik), (mki, .inl (cI, 8, .inl gki)), (mpa, .inl (cI, 8, .inl gpa)), (mta, .inl (cI, 8, .inl gta))]) hP hD rfl
  clear hP hD
  obtain ⟨hP, hD⟩ := h9R
  refine lv_iload hx hb dX8_casesIn_31 (lv_at hl 0 rfl) ?_
  exact W.iret (v := r_1) hx hb hr (fun t ht hW => ⟨⟨r_1, (), rfl, ⟨(show (r_1 : Int32).toInt = zM gki gpa gta npu.toInt.toNat h.toInt 1 4 nde.toInt nse.toInt from by (have z := hsr_1_0; rw [show (if (0 : Int32).toInt = 0 then (1 : Int) else 0) = 1 from by decide] at z; exact z)), ⟨by omega, by omega⟩⟩, zRet ht hP hD [0, 1, 2, 3] (by decide) rfl⟩, hS.F ht⟩) hS.2.2 dX8_casesIn_33

