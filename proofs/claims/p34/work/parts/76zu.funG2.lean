section
set_option maxHeartbeats 4000000 in
set_option maxRecDepth 100000 in
theorem c_F_M_leastCost_0 (l : Launch) (D : va_G) (cI cJ cZ cP cS : ClassId) (po : zPool) (m0 mrf mki mpa mta mla msl mco mhe mso msi msh mce mca mwo mnu mte mwa mke mma mth mtr : Nat) (npu nte nat_ nde nto nse nhu nga nsd nfa nba npl nen nnu nwr nra nik : Int32) (gki gpa gta gco : Nat → Int32) (d sec : Int32) (hy0 : 0 ≤ npu.toInt) (hy1 : npu.toInt ≤ 8) (hy2 : 4 ≤ nte.toInt) (hy3 : nte.toInt ≤ 40) (hy4 : 0 ≤ nat_.toInt) (hy5 : nat_.toInt ≤ 40) (hy6 : 0 ≤ nde.toInt) (hy7 : nde.toInt ≤ 24) (hy8 : 0 ≤ nhu.toInt) (hy9 : nhu.toInt ≤ 9) (hy10 : 0 ≤ nra.toInt) (hy11 : nra.toInt ≤ 2000) (hy12 : 0 ≤ nik.toInt) (hy13 : nik.toInt ≤ 1) (hy14 : 0 ≤ d.toInt) (hy15 : d.toInt ≤ 24) (hy16 : 0 ≤ sec.toInt) (hy17 : sec.toInt ≤ 300) (hp_gki : zRg gki (0) 6) (hp_gpa : zRg gpa (0) 9) (hp_gta : zRg gta (0) 60) (hp_gco : zRg gco (0) 99) : Met l yX8_leastCost wsX8_leastCost ({ frames := 1, cells := 0, slots := 0, locals := 21 }) (va_Pc [.ref m0, .int 0, .int d, .int sec] (zR D (zKT cI cJ cZ cP cS) po [(zMO m0 npu nte nat_ nde nto nse nhu nga nsd nfa mrf mki mpa mta mla msl mco mhe mso msi msh mce mca mwo mnu mte nba npl nen nnu nwr mwa mke mma mth mtr nra nik), (mki, .inl (cI, 8, .inl gki)), (mpa, .inl (cI, 8, .inl gpa)), (mta, .inl (cI, 8, .inl gta)), (mco, .inl (cI, 3, .inl gco))])) (vp_Si (fun r => 0 ≤ r.toInt ∧ r.toInt ≤ 99 ∧ (r.toInt = (zLn gki gpa gta npu.toInt.toNat nhu.toInt (gco 0).toInt (gco 1).toInt (gco 2).toInt 0) d.toInt sec.toInt))) 0 0 (fun _ => False) := by
  refine Met.ofW (cc := cX8_leastCost) (maxL := 7) (ret := (some .int)) (by decide) rfl ?_
  intro p e s m args below meth c s₁ B hml hv
  obtain ⟨rfl, hP, hK, hN, hZ⟩ := hv
  have hx := B.exec
  have hb := B.bytes
  have hr := B.returns
  have hts := atoms_spec (ws := wsX8_leastCost) B.pre
  have hown : s.vm.findClass RX8 = some m.cls := findClass_of_methodNamed B.named
  have hlocks := B.notSynchronized
  have hl := lv_entry ([.ref m0, .int 0, .int d, .int sec]) (n := 7) (Nat.le_of_ble_eq_true rfl)
  rw [lg_entry_eq]
  generalize (lg_sl ([.ref m0, .int 0, .int d, .int sec]) ++ List.replicate (7 - (lg_sl ([.ref m0, .int 0, .int d, .int sec])).length) Slot.unset).toArray = ls at hl ⊢
  replace hl : lv_has ls 7 [(0, .ref m0), (1, .int 0), (2, .int d), (3, .int sec)] := hl
  refine lv_iload_n hx hb dX8_leastCost_0 rfl (lv_at hl 2 rfl) ?_
  refine lv_if_ne (tgt := 6) hx hb dX8_leastCost_1 (by decide) (fun c_1 => ?_) (fun c_1 => ?_)
  · have fc_1 : d.toInt ≠ 0 := zf_ne c_1 rfl (by decide)
    refine lv_aload_n hx hb dX8_leastCost_6 rfl (lv_at hl 0 rfl) ?_
    refine va_get (D := D) (ci := 8) (v := .ref mco) (C := RX8) (T := TX8) (N := 38) hx hb hts hi_X8_leastCost_8 hown hK hP 0 rfl rfl 16 (by decide) (hts (.fieldLink RX8 44 "TheLiningsInItModel" "cost" "[I") (List.mem_of_getElem? (i := 1) rfl)) (fun _ h9 => h9) rfl dX8_leastCost_7 ?_
    refine lv_iconst (v := 2) hx hb dX8_leastCost_10 (by decide) ?_
    refine va_iald hx hb hK hP 4 0 rfl rfl (zf_in (by decide) (by decide)) dX8_leastCost_11 ?_
    refine lv_topi (fun x_2 ex_2 => ?_)
    have bx_2 : 0 ≤ x_2.toInt ∧ x_2.toInt ≤ 99 := by rw [ex_2]; exact hp_gco _
    refine lv_aload_n hx hb dX8_leastCost_12 rfl (lv_at hl 0 rfl) ?_
    refine lv_iload_n hx hb dX8_leastCost_13 rfl (lv_at hl 1 rfl) ?_
    refine zc_V (As := [.int 0]) (rest := [.int x_2]) ⟨hx, hb, hml, hown, hts⟩ (c_M_power_0 l D cI cJ cZ cP cS po m0 mrf mki mpa mta mla msl mco mhe mso msi msh mce mca mwo mnu mte mwa mke mma mth mtr (npu) (nte) (nat_) (nde) (nto) (nse) (nhu) (nga) (nsd) (nfa) (nba) (npl) (nen) (nnu) (nwr) (nra) (nik) hy0 hy1 hy2 hy3 hy4 hy5 hy6 hy7 hy8 hy9 hy10 hy11 hy12 hy13) (cwV 1 hts gX8_leastCost_X8_power rfl rfl rfl ⟨rfl, dh_X8_power⟩ ⟨Nat.le_of_ble_eq_true rfl, Nat.le_of_ble_eq_true rfl⟩) hK hN hZ hP (hP.sub [0] rfl) (va_recv (q := (RX8, TX8, 38)) hK hP (ci := 8) (q0 := 0) rfl rfl) rfl hl.1 rfl (Nat.le_of_ble_eq_true rfl) dX8_leastCost_14 ⟨Nat.le_of_ble_eq_true rfl, Nat.le_of_ble_eq_true rfl⟩ (fun r_3 hr_3 => ?_)
    obtain rfl := hr_3
    refine lv_imul hx hb dX8_leastCost_17 ?_
    refine lv_topi (fun x_4 ex_4 => ?_)
    have qx_4 : x_4.toInt = x_2.toInt * 1 := by rw [ex_4]; exact zf_mul rfl (by decide) (by omega) (by omega)
    refine lv_istore (lv' := [(4, .int x_4), (0, .ref m0), (1, .int 0), (2, .int d), (3, .int sec)]) hx hb dX8_leastCost_18 hl (by decide) rfl (fun ls hl => ?_)
    refine lv_iload_n hx hb dX8_leastCost_20 rfl (lv_at hl 4 rfl) ?_
    refine lv_bipush (v := 30) hx hb dX8_leastCost_21 (by decide) ?_
    refine lv_icmp_lt (tgt := 57) hx hb dX8_leastCost_23 (by decide) (fun c_5 => ?_) (fun c_5 => ?_)
    · have fc_5 : sec.toInt < 30 := zf_lt c_5 rfl (by decide)
      refine lv_iconst (v := 0) hx hb dX8_leastCost_57 (by decide) ?_
      refine lv_istore (lv' := [(5, .int 0), (4, .int x_4), (0, .ref m0), (1, .int 0), (2, .int d), (3, .int sec)]) hx hb dX8_leastCost_58 hl (by decide) rfl (fun ls hl => ?_)
      refine lv_iload hx hb dX8_leastCost_60 (lv_at hl 0 rfl) ?_
      refine lv_aload_n hx hb dX8_leastCost_62 rfl (lv_at hl 2 rfl) ?_
      refine va_get (D := D) (ci := 8) (v := .int npu) (C := RX8) (T := TX8) (N := 38) hx hb hts hi_X8_leastCost_8 hown hK hP 0 rfl rfl 0 (by decide) (hts (.fieldLink RX8 90 "TheLiningsInItModel" "pulls" "I") (List.mem_of_getElem? (i := 2) rfl)) (fun _ h9 => h9) rfl dX8_leastCost_63 ?_
      refine lv_icmp_ge (tgt := 120) hx hb dX8_leastCost_66 (by decide) (fun c_6 => ?_) (fun c_6 => ?_)
      · have fc_6 : npu.toInt ≤ 0 := zf_le c_6 rfl (by decide)
        refine lv_iload hx hb dX8_leastCost_120 (lv_at hl 1 rfl) ?_
        exact W.iret (v := x_4) hx hb hr (fun t ht hW => ⟨x_4, rfl, ⟨by omega, by omega, (show (x_4 : Int32).toInt = (zLn gki gpa gta npu.toInt.toNat nhu.toInt (gco 0).toInt (gco 1).toInt (gco 2).toInt 0) d.toInt sec.toInt from by (rw [zLn_0, if_neg (by omega)]; (have nx_2 : (gco 2).toInt = x_2.toInt := (by rw [ex_2, show (2 : Int32).toNatClampNeg = 2 from by decide]); unfold zAt; rw [show zPw 0 = 1 from by decide]; first | (rw [if_neg (by omega)]; omega) | (rw [if_pos (by omega)]; omega))))⟩, ht⟩) (fun q hq => by cases hq) dX8_leastCost_122
      · have fc_6 : 0 < npu.toInt := zf_nle c_6 rfl (by decide)
        refine lv_iload_n hx hb dX8_leastCost_69 rfl (lv_at hl 3 rfl) ?_
        refine lv_if_le (tgt := 120) hx hb dX8_leastCost_70 (by decide) (fun c_7 => ?_) (fun c_7 => ?_)
        · refine lv_iload hx hb dX8_leastCost_120 (lv_at hl 1 rfl) ?_
          exact W.iret (v := x_4) hx hb hr (fun t ht hW => ⟨x_4, rfl, ⟨by omega, by omega, (show (x_4 : Int32).toInt = (zLn gki gpa gta npu.toInt.toNat nhu.toInt (gco 0).toInt (gco 1).toInt (gco 2).toInt 0) d.toInt sec.toInt from by (rw [zLn_0, if_neg (by omega)]; (have nx_2 : (gco 2).toInt = x_2.toInt := (by rw [ex_2, show (2 : Int32).toNatClampNeg = 2 from by decide]); unfold zAt; rw [show zPw 0 = 1 from by decide]; first | (rw [if_neg (by omega)]; omega) | (rw [if_pos (by omega)]; omega))))⟩, ht⟩) (fun q hq => by cases hq) dX8_leastCost_122
        · exact absurd c_7 (by decide)
    · have fc_5 : 30 ≤ sec.toInt := zf_nlt c_5 rfl (by decide)
      refine lv_aload_n hx hb dX8_leastCost_26 rfl (lv_at hl 1 rfl) ?_
      refine va_get (D := D) (ci := 8) (v := .ref mco) (C := RX8) (T := TX8) (N := 38) hx hb hts hi_X8_leastCost_8 hown hK hP 0 rfl rfl 16 (by decide) (hts (.fieldLink RX8 44 "TheLiningsInItModel" "cost" "[I") (List.mem_of_getElem? (i := 1) rfl)) (fun _ h9 => h9) rfl dX8_leastCost_27 ?_
      refine lv_iconst (v := 1) hx hb dX8_leastCost_30 (by decide) ?_
      refine va_iald hx hb hK hP 4 0 rfl rfl (zf_in (by decide) (by decide)) dX8_leastCost_31 ?_
      refine lv_topi (fun x_8 ex_8 => ?_)
      have bx_8 : 0 ≤ x_8.toInt ∧ x_8.toInt ≤ 99 := by rw [ex_8]; exact hp_gco _
      refine lv_aload_n hx hb dX8_leastCost_32 rfl (lv_at hl 1 rfl) ?_
      refine lv_iload_n hx hb dX8_leastCost_33 rfl (lv_at hl 2 rfl) ?_
      refine zc_V (As := [.int 0]) (rest := [.int x_8]) ⟨hx, hb, hml, hown, hts⟩ (c_M_power_0 l D cI cJ cZ cP cS po m0 mrf mki mpa mta mla msl mco mhe mso msi msh mce mca mwo mnu mte mwa mke mma mth mtr (npu) (nte) (nat_) (nde) (nto) (nse) (nhu) (nga) (nsd) (nfa) (nba) (npl) (nen) (nnu) (nwr) (nra) (nik) hy0 hy1 hy2 hy3 hy4 hy5 hy6 hy7 hy8 hy9 hy10 hy11 hy12 hy13) (cwV 1 hts gX8_leastCost_X8_power rfl rfl rfl ⟨rfl, dh_X8_power⟩ ⟨Nat.le_of_ble_eq_true rfl, Nat.le_of_ble_eq_true rfl⟩) hK hN hZ hP (hP.sub [0] rfl) (va_recv (q := (RX8, TX8, 38)) hK hP (ci := 8) (q0 := 0) rfl rfl) rfl hl.1 rfl (Nat.le_of_ble_eq_true rfl) dX8_leastCost_34 ⟨Nat.le_of_ble_eq_true rfl, Nat.le_of_ble_eq_true rfl⟩ (fun r_9 hr_9 => ?_)
      obtain rfl := hr_9
      refine lv_imul hx hb dX8_leastCost_37 ?_
      refine lv_topi (fun x_10 ex_10 => ?_)
      have qx_10 : x_10.toInt = x_8.toInt * 1 := by rw [ex_10]; exact zf_mul rfl (by decide) (by omega) (by omega)
      refine lv_iload hx hb dX8_leastCost_38 (lv_at hl 0 rfl) ?_
      refine lv_icmp_ge (tgt := 57) hx hb dX8_leastCost_40 (by decide) (fun c_11 => ?_) (fun c_11 => ?_)
      · have fc_11 : x_4.toInt ≤ x_10.toInt := zf_le c_11 rfl rfl
        refine lv_iconst (v := 0) hx hb dX8_leastCost_57 (by decide) ?_
        refine lv_istore (lv' := [(5, .int 0), (4, .int x_4), (0, .ref m0), (1, .int 0), (2, .int d), (3, .int sec)]) hx hb dX8_leastCost_58 hl (by decide) rfl (fun ls hl => ?_)
        refine lv_iload hx hb dX8_leastCost_60 (lv_at hl 0 rfl) ?_
        refine lv_aload_n hx hb dX8_leastCost_62 rfl (lv_at hl 2 rfl) ?_
        refine va_get (D := D) (ci := 8) (v := .int npu) (C := RX8) (T := TX8) (N := 38) hx hb hts hi_X8_leastCost_8 hown hK hP 0 rfl rfl 0 (by decide) (hts (.fieldLink RX8 90 "TheLiningsInItModel" "pulls" "I") (List.mem_of_getElem? (i := 2) rfl)) (fun _ h9 => h9) rfl dX8_leastCost_63 ?_
        refine lv_icmp_ge (tgt := 120) hx hb dX8_leastCost_66 (by decide) (fun c_12 => ?_) (fun c_12 => ?_)
        · have fc_12 : npu.toInt ≤ 0 := zf_le c_12 rfl (by decide)
          refine lv_iload hx hb dX8_leastCost_120 (lv_at hl 1 rfl) ?_
          exact W.iret (v := x_4) hx hb hr (fun t ht hW => ⟨x_4, rfl, ⟨by omega, by omega, (show (x_4 : Int32).toInt = (zLn gki gpa gta npu.toInt.toNat nhu.toInt (gco 0).toInt (gco 1).toInt (gco 2).toInt 0) d.toInt sec.toInt from by (rw [zLn_0, if_neg (by omega)]; (have nx_2 : (gco 2).toInt = x_2.toInt := (by rw [ex_2, show (2 : Int32).toNatClampNeg = 2 from by decide]); have nx_8 : (gco 1).toInt = x_8.toInt := (by rw [ex_8, show (1 : Int32).toNatClampNeg = 1 from by decide]); unfold zAt; rw [show zPw 0 = 1 from by decide]; first | (rw [if_pos (by omega)]; omega) | (rw [if_neg (by omega)]; omega))))⟩, ht⟩) (fun q hq => by cases hq) dX8_leastCost_122
        · have fc_12 : 0 < npu.toInt := zf_nle c_12 rfl (by decide)
          refine lv_iload_n hx hb dX8_leastCost_69 rfl (lv_at hl 3 rfl) ?_
          refine lv_if_le (tgt := 120) hx hb dX8_leastCost_70 (by decide) (fun c_13 => ?_) (fun c_13 => ?_)
          · refine lv_iload hx hb dX8_leastCost_120 (lv_at hl 1 rfl) ?_
            exact W.iret (v := x_4) hx hb hr (fun t ht hW => ⟨x_4, rfl, ⟨by omega, by omega, (show (x_4 : Int32).toInt = (zLn gki gpa gta npu.toInt.toNat nhu.toInt (gco 0).toInt (gco 1).toInt (gco 2).toInt 0) d.toInt sec.toInt from by (rw [zLn_0, if_neg (by omega)]; (have nx_2 : (gco 2).toInt = x_2.toInt := (by rw [ex_2, show (2 : Int32).toNatClampNeg = 2 from by decide]); have nx_8 : (gco 1).toInt = x_8.toInt := (by rw [ex_8, show (1 : Int32).toNatClampNeg = 1 from by decide]); unfold zAt; rw [show zPw 0 = 1 from by decide]; first | (rw [if_pos (by omega)]; omega) | (rw [if_neg (by omega)]; omega))))⟩, ht⟩) (fun q hq => by cases hq) dX8_leastCost_122
          · exact absurd c_13 (by decide)
      · have fc_11 : x_10.toInt < x_4.toInt := zf_nle c_11 rfl rfl
        refine lv_aload_n hx hb dX8_leastCost_43 rfl (lv_at hl 1 rfl) ?_
        refine va_get (D := D) (ci := 8) (v := .ref mco) (C := RX8) (T := TX8) (N := 38) hx hb hts hi_X8_leastCost_8 hown hK hP 0 rfl rfl 16 (by decide) (hts (.fieldLink RX8 44 "TheLiningsInItModel" "cost" "[I") (List.mem_of_getElem? (i := 1) rfl)) (fun _ h9 => h9) rfl dX8_leastCost_44 ?_
        refine lv_iconst (v := 1) hx hb dX8_leastCost_47 (by decide) ?_
        refine va_iald hx hb hK hP 4 0 rfl rfl (zf_in (by decide) (by decide)) dX8_leastCost_48 ?_
        refine lv_topi (fun y_14 ey_14 => ?_)
        obtain rfl : x_8 = y_14 := ex_8.trans ey_14.symm
        refine lv_aload_n hx hb dX8_leastCost_49 rfl (lv_at hl 1 rfl) ?_
        refine lv_iload_n hx hb dX8_leastCost_50 rfl (lv_at hl 2 rfl) ?_
        refine zc_V (As := [.int 0]) (rest := [.int x_8]) ⟨hx, hb, hml, hown, hts⟩ (c_M_power_0 l D cI cJ cZ cP cS po m0 mrf mki mpa mta mla msl mco mhe mso msi msh mce mca mwo mnu mte mwa mke mma mth mtr (npu) (nte) (nat_) (nde) (nto) (nse) (nhu) (nga) (nsd) (nfa) (nba) (npl) (nen) (nnu) (nwr) (nra) (nik) hy0 hy1 hy2 hy3 hy4 hy5 hy6 hy7 hy8 hy9 hy10 hy11 hy12 hy13) (cwV 1 hts gX8_leastCost_X8_power rfl rfl rfl ⟨rfl, dh_X8_power⟩ ⟨Nat.le_of_ble_eq_true rfl, Nat.le_of_ble_eq_true rfl⟩) hK hN hZ hP (hP.sub [0] rfl) (va_recv (q := (RX8, TX8, 38)) hK hP (ci := 8) (q0 := 0) rfl rfl) rfl hl.1 rfl (Nat.le_of_ble_eq_true rfl) dX8_leastCost_51 ⟨Nat.le_of_ble_eq_true rfl, Nat.le_of_ble_eq_true rfl⟩ (fun r_15 hr_15 => ?_)
        obtain rfl := hr_15
        refine lv_imul hx hb dX8_leastCost_54 ?_
        refine lv_topi (fun y_16 ey_16 => ?_)
        obtain rfl : x_10 = y_16 := ex_10.trans ey_16.symm
        refine lv_istore (lv' := [(4, .int x_10), (0, .ref m0), (1, .int 0), (2, .int d), (3, .int sec)]) hx hb dX8_leastCost_55 hl (by decide) rfl (fun ls hl => ?_)
        refine lv_iconst (v := 0) hx hb dX8_leastCost_57 (by decide) ?_
        refine lv_istore (lv' := [(5, .int 0), (4, .int x_10), (0, .ref m0), (1, .int 0), (2, .int d), (3, .int sec)]) hx hb dX8_leastCost_58 hl (by decide) rfl (fun ls hl => ?_)
        refine lv_iload hx hb dX8_leastCost_60 (lv_at hl 0 rfl) ?_
        refine lv_aload_n hx hb dX8_leastCost_62 rfl (lv_at hl 2 rfl) ?_
        refine va_get (D := D) (ci := 8) (v := .int npu) (C := RX8) (T := TX8) (N := 38) hx hb hts hi_X8_leastCost_8 hown hK hP 0 rfl rfl 0 (by decide) (hts (.fieldLink RX8 90 "TheLiningsInItModel" "pulls" "I") (List.mem_of_getElem? (i := 2) rfl)) (fun _ h9 => h9) rfl dX8_leastCost_63 ?_
        refine lv_icmp_ge (tgt := 120) hx hb dX8_leastCost_66 (by decide) (fun c_17 => ?_) (fun c_17 => ?_)
        · have fc_17 : npu.toInt ≤ 0 := zf_le c_17 rfl (by decide)
          refine lv_iload hx hb dX8_leastCost_120 (lv_at hl 1 rfl) ?_
          exact W.iret (v := x_10) hx hb hr (fun t ht hW => ⟨x_10, rfl, ⟨by omega, by omega, (show (x_10 : Int32).toInt = (zLn gki gpa gta npu.toInt.toNat nhu.toInt (gco 0).toInt (gco 1).toInt (gco 2).toInt 0) d.toInt sec.toInt from by (rw [zLn_0, if_neg (by omega)]; (have nx_2 : (gco 2).toInt = x_2.toInt := (by rw [ex_2, show (2 : Int32).toNatClampNeg = 2 from by decide]); have nx_8 : (gco 1).toInt = x_8.toInt := (by rw [ex_8, show (1 : Int32).toNatClampNeg = 1 from by decide]); unfold zAt; rw [show zPw 0 = 1 from by decide]; first | (rw [if_pos (by omega)]; omega) | (rw [if_neg (by omega)]; omega))))⟩, ht⟩) (fun q hq => by cases hq) dX8_leastCost_122
        · have fc_17 : 0 < npu.toInt := zf_nle c_17 rfl (by decide)
          refine lv_iload_n hx hb dX8_leastCost_69 rfl (lv_at hl 3 rfl) ?_
          refine lv_if_le (tgt := 120) hx hb dX8_leastCost_70 (by decide) (fun c_18 => ?_) (fun c_18 => ?_)
          · refine lv_iload hx hb dX8_leastCost_120 (lv_at hl 1 rfl) ?_
            exact W.iret (v := x_10) hx hb hr (fun t ht hW => ⟨x_10, rfl, ⟨by omega, by omega, (show (x_10 : Int32).toInt = (zLn gki gpa gta npu.toInt.toNat nhu.toInt (gco 0).toInt (gco 1).toInt (gco 2).toInt 0) d.toInt sec.toInt from by (rw [zLn_0, if_neg (by omega)]; (have nx_2 : (gco 2).toInt = x_2.toInt := (by rw [ex_2, show (2 : Int32).toNatClampNeg = 2 from by decide]); have nx_8 : (gco 1).toInt = x_8.toInt := (by rw [ex_8, show (1 : Int32).toNatClampNeg = 1 from by decide]); unfold zAt; rw [show zPw 0 = 1 from by decide]; first | (rw [if_pos (by omega)]; omega) | (rw [if_neg (by omega)]; omega))))⟩, ht⟩) (fun q hq => by cases hq) dX8_leastCost_122
          · exact absurd c_18 (by decide)
  · have fc_1 : d.toInt = 0 := zf_eq c_1 rfl (by decide)
    refine lv_iconst (v := 0) hx hb dX8_leastCost_4 (by decide) ?_
    exact W.iret (v := 0) hx hb hr (fun t ht hW => ⟨0, rfl, ⟨by decide, by decide, (show (0 : Int32).toInt = (zLn gki gpa gta npu.toInt.toNat nhu.toInt (gco 0).toInt (gco 1).toInt (gco 2).toInt 0) d.toInt sec.toInt from by (have k9 : (0 : Int32).toInt = 0 := (by decide); rw [zLn_0, if_pos (by omega)]; exact k9))⟩, ht⟩) (fun q hq => by cases hq) dX8_leastCost_5
set_option maxHeartbeats 4000000 in
set_option maxRecDepth 100000 in
theorem c_F_M_costBy_1 (l : Launch) (D : va_G) (cI cJ cZ cP cS : ClassId) (po : zPool) (m0 mrf mki mpa mta mla msl mco mhe mso msi msh mce mca mwo mnu mte mwa mke mma mth mtr : Nat) (npu nte nat_ nde nto nse nhu nga nsd nfa nba npl nen nnu nwr nra nik : Int32) (gki gpa gta gco : Nat → Int32) (p_ d sec : Int32) (hy0 : 0 ≤ npu.toInt) (hy1 : npu.toInt ≤ 8) (hy2 : 4 ≤ nte.toInt) (hy3 : nte.toInt ≤ 40) (hy4 : 0 ≤ nat_.toInt) (hy5 : nat_.toInt ≤ 40) (hy6 : 0 ≤ nde.toInt) (hy7 : nde.toInt ≤ 24) (hy8 : 0 ≤ nhu.toInt) (hy9 : nhu.toInt ≤ 9) (hy10 : 0 ≤ nra.toInt) (hy11 : nra.toInt ≤ 2000) (hy12 : 0 ≤ nik.toInt) (hy13 : nik.toInt ≤ 1) (hy14 : 0 ≤ p_.toInt) (hy15 : p_.toInt ≤ 7) (hy16 : 0 ≤ d.toInt) (hy17 : d.toInt ≤ 24) (hy18 : 0 ≤ sec.toInt) (hy19 : sec.toInt ≤ 300) (htl : (gta p_.toNatClampNeg).toInt ≤ sec.toInt) (hp_gki : zRg gki (0) 6) (hp_gpa : zRg gpa (0) 9) (hp_gta : zRg gta (0) 60) (hp_gco : zRg gco (0) 99) : Met l yX8_costBy wsX8_costBy ({ frames := 2, cells := 0, slots := 0, locals := 47 }) (va_Pc [.ref m0, .int p_, .int 1, .int d, .int sec] (zR D (zKT cI cJ cZ cP cS) po [(zMO m0 npu nte nat_ nde nto nse nhu nga nsd nfa mrf mki mpa mta mla msl mco mhe mso msi msh mce mca mwo mnu mte nba npl nen nnu nwr mwa mke mma mth mtr nra nik), (mki, .inl (cI, 8, .inl gki)), (mpa, .inl (cI, 8, .inl gpa)), (mta, .inl (cI, 8, .inl gta)), (mco, .inl (cI, 3, .inl gco))])) (vp_Si (fun r => 0 ≤ r.toInt ∧ r.toInt ≤ 2376 ∧ (r.toInt = zLb (zLn gki gpa gta npu.toInt.toNat nhu.toInt (gco 0).toInt (gco 1).toInt (gco 2).toInt 0) (gco 0).toInt (zPw 1) (gki p_.toNatClampNeg).toInt (gpa p_.toNatClampNeg).toInt (gta p_.toNatClampNeg).toInt nhu.toInt d.toInt sec.toInt))) 0 0 (fun _ => False) := by
  refine Met.ofW (cc := cX8_costBy) (maxL := 7) (ret := (some .int)) (by decide) rfl ?_
  intro p e s m args below meth c s₁ B hml hv
  obtain ⟨rfl, hP, hK, hN, hZ⟩ := hv
  have hx := B.exec
  have hb := B.bytes
  have hr := B.returns
  have hts := atoms_spec (ws := wsX8_costBy) B.pre
  have hown : s.vm.findClass RX8 = some m.cls := findClass_of_methodNamed B.named
  have hlocks := B.notSynchronized
  have hl := lv_entry ([.ref m0, .int p_, .int 1, .int d, .int sec]) (n := 7) (Nat.le_of_ble_eq_true rfl)
  rw [lg_entry_eq]
  generalize (lg_sl ([.ref m0, .int p_, .int 1, .int d, .int sec]) ++ List.replicate (7 - (lg_sl ([.ref m0, .int p_, .int 1, .int d, .int sec])).length) Slot.unset).toArray = ls at hl ⊢
  replace hl : lv_has ls 7 [(0, .ref m0), (1, .int p_), (2, .int 1), (3, .int d), (4, .int sec)] := hl
  refine lv_aload_n hx hb dX8_costBy_0 rfl (lv_at hl 0 rfl) ?_
  refine lv_iload_n hx hb dX8_costBy_1 rfl (lv_at hl 1 rfl) ?_
  refine lv_iload_n hx hb dX8_costBy_2 rfl (lv_at hl 3 rfl) ?_
  refine zc_V (As := [.int p_, .int d]) (rest := []) ⟨hx, hb, hml, hown, hts⟩ (c_F_M_ways l D cI cJ cZ cP cS po m0 mrf mki mpa mta mla msl mco mhe mso msi msh mce mca mwo mnu mte mwa mke mma mth mtr (npu) (nte) (nat_) (nde) (nto) (nse) (nhu) (nga) (nsd) (nfa) (nba) (npl) (nen) (nnu) (nwr) (nra) (nik) gki gpa (p_) (d) hy0 hy1 hy2 hy3 hy4 hy5 hy6 hy7 hy8 hy9 hy10 hy11 hy12 hy13 hy14 hy15 hy16 hy17 hp_gki hp_gpa) (cwV 2 hts gX8_costBy_X8_ways rfl rfl rfl ⟨rfl, dh_X8_ways⟩ ⟨Nat.le_of_ble_eq_true rfl, Nat.le_of_ble_eq_true rfl⟩) hK hN hZ hP (hP.sub [0, 1, 2] rfl) (va_recv (q := (RX8, TX8, 38)) hK hP (ci := 8) (q0 := 0) rfl rfl) rfl hl.1 rfl (Nat.le_of_ble_eq_true rfl) dX8_costBy_3 ⟨Nat.le_of_ble_eq_true rfl, Nat.le_of_ble_eq_true rfl⟩ (fun r_1 hr_1 => ?_)
  obtain ⟨g_2, g_3, hsr_1_0⟩ := hr_1
  refine lv_istore (lv' := [(5, .int r_1), (0, .ref m0), (1, .int p_), (2, .int 1), (3, .int d), (4, .int sec)]) hx hb dX8_costBy_6 hl (by decide) rfl (fun ls hl => ?_)
  refine lv_aload_n hx hb dX8_costBy_8 rfl (lv_at hl 1 rfl) ?_
  refine va_get (D := D) (ci := 8) (v := .ref mki) (C := RX8) (T := TX8) (N := 38) hx hb hts hi_X8_costBy_8 hown hK hP 0 rfl rfl 11 (by decide) (hts (.fieldLink RX8 29 "TheLiningsInItModel" "kind" "[I") (List.mem_of_getElem? (i := 1) rfl)) (fun _ h9 => h9) rfl dX8_costBy_9 ?_
  refine lv_iload_n hx hb dX8_costBy_12 rfl (lv_at hl 2 rfl) ?_
  refine va_iald hx hb hK hP 1 0 rfl rfl (zf_in (by omega) (by omega)) dX8_costBy_13 ?_
  refine lv_topi (fun x_4 ex_4 => ?_)
  have bx_4 : 0 ≤ x_4.toInt ∧ x_4.toInt ≤ 6 := by rw [ex_4]; exact hp_gki _
  refine lv_iconst (v := 5) hx hb dX8_costBy_14 (by decide) ?_
  refine lv_icmp_ne (tgt := 33) hx hb dX8_costBy_15 (by decide) (fun c_5 => ?_) (fun c_5 => ?_)
  · have fc_5 : x_4.toInt ≠ 5 := zf_ne c_5 rfl (by decide)
    refine lv_iconst (v := 0) hx hb dX8_costBy_33 (by decide) ?_
    refine lv_istore (lv' := [(6, .int 0), (5, .int r_1), (0, .ref m0), (1, .int p_), (2, .int 1), (3, .int d), (4, .int sec)]) hx hb dX8_costBy_34 hl (by decide) rfl (fun ls hl => ?_)
    refine lv_iload hx hb dX8_costBy_36 (lv_at hl 1 rfl) ?_
    refine lv_if_le (tgt := 72) hx hb dX8_costBy_38 (by decide) (fun c_6 => ?_) (fun c_6 => ?_)
    · have fc_6 : r_1.toInt ≤ 0 := zf_le c_6 rfl (by decide)
      refine lv_iload hx hb dX8_costBy_72 (lv_at hl 1 rfl) ?_
      refine lv_bipush (v := 12) hx hb dX8_costBy_74 (by decide) ?_
      refine lv_icmp_ge (tgt := 113) hx hb dX8_costBy_76 (by decide) (fun c_7 => ?_) (fun c_7 => ?_)
      · exfalso; have fc_7 : 12 ≤ r_1.toInt := zf_le c_7 (by decide) rfl; omega
      · have fc_7 : r_1.toInt < 12 := zf_nle c_7 (by decide) rfl
        refine lv_iload hx hb dX8_costBy_79 (lv_at hl 0 rfl) ?_
        refine lv_bipush (v := 12) hx hb dX8_costBy_81 (by decide) ?_
        refine lv_iload hx hb dX8_costBy_83 (lv_at hl 1 rfl) ?_
        refine lv_isub hx hb dX8_costBy_85 ?_
        refine lv_topi (fun x_8 ex_8 => ?_)
        have qx_8 : x_8.toInt = 12 - r_1.toInt := by rw [ex_8]; exact zf_sub (by decide) rfl (by omega) (by omega)
        refine lv_aload_n hx hb dX8_costBy_86 rfl (lv_at hl 2 rfl) ?_
        refine lv_iload_n hx hb dX8_costBy_87 rfl (lv_at hl 4 rfl) ?_
        refine lv_iconst (v := 1) hx hb dX8_costBy_88 (by decide) ?_
        refine lv_isub hx hb dX8_costBy_89 ?_
        refine lv_topi (fun y_9 ey_9 => ?_)
        obtain rfl : y_9 = 0 := ey_9.trans (by decide)
        refine lv_aload_n hx hb dX8_costBy_90 rfl (lv_at hl 2 rfl) ?_
        refine lv_iload_n hx hb dX8_costBy_91 rfl (lv_at hl 3 rfl) ?_
        refine lv_iload_n hx hb dX8_costBy_92 rfl (lv_at hl 5 rfl) ?_
        refine lv_iconst (v := 0) hx hb dX8_costBy_93 (by decide) ?_
        have kc0 : (0 : Int32).toInt = 0 := by decide
        refine zc_V (As := [.int p_, .int d, .int 0]) (rest := [.int 0, .ref m0, .int x_8, .int 0]) ⟨hx, hb, hml, hown, hts⟩ (c_F_M_deep l D cI cJ cZ cP cS po m0 mrf mki mpa mta mla msl mco mhe mso msi msh mce mca mwo mnu mte mwa mke mma mth mtr (npu) (nte) (nat_) (nde) (nto) (nse) (nhu) (nga) (nsd) (nfa) (nba) (npl) (nen) (nnu) (nwr) (nra) (nik) gki gpa (p_) (d) (0) hy0 hy1 hy2 hy3 hy4 hy5 hy6 hy7 hy8 hy9 hy10 hy11 hy12 hy13 hy14 hy15 hy16 hy17 (by omega) (by omega) hp_gki hp_gpa) (cwV 3 hts gX8_costBy_X8_deep rfl rfl rfl ⟨rfl, dh_X8_deep⟩ ⟨Nat.le_of_ble_eq_true rfl, Nat.le_of_ble_eq_true rfl⟩) hK hN hZ hP (hP.sub [0, 1, 2] rfl) (va_recv (q := (RX8, TX8, 38)) hK hP (ci := 8) (q0 := 0) rfl rfl) rfl hl.1 rfl (Nat.le_of_ble_eq_true rfl) dX8_costBy_94 ⟨Nat.le_of_ble_eq_true rfl, Nat.le_of_ble_eq_true rfl⟩ (fun r_10 hr_10 => ?_)
        obtain ⟨g_11, g_12, hsr_10_0⟩ := hr_10
        refine lv_iload hx hb dX8_costBy_97 (lv_at hl 6 rfl) ?_
        refine lv_aload_n hx hb dX8_costBy_99 rfl (lv_at hl 2 rfl) ?_
        refine va_get (D := D) (ci := 8) (v := .ref mta) (C := RX8) (T := TX8) (N := 38) hx hb hts hi_X8_costBy_8 hown hK hP 0 rfl rfl 13 (by decide) (hts (.fieldLink RX8 35 "TheLiningsInItModel" "takes" "[I") (List.mem_of_getElem? (i := 3) rfl)) (fun _ h9 => h9) rfl dX8_costBy_100 ?_
        refine lv_iload_n hx hb dX8_costBy_103 rfl (lv_at hl 3 rfl) ?_
        refine va_iald hx hb hK hP 3 0 rfl rfl (zf_in (by omega) (by omega)) dX8_costBy_104 ?_
        refine lv_topi (fun x_13 ex_13 => ?_)
        have bx_13 : 0 ≤ x_13.toInt ∧ x_13.toInt ≤ 60 := by rw [ex_13]; exact hp_gta _
        have htx_13 : x_13.toInt ≤ sec.toInt := by (rw [ex_13]; exact htl)
        refine lv_isub hx hb dX8_costBy_105 ?_
        refine lv_topi (fun x_14 ex_14 => ?_)
        have qx_14 : x_14.toInt = sec.toInt - x_13.toInt := by rw [ex_14]; exact zf_sub rfl rfl (by omega) (by omega)
        refine zc_V (As := [.int 0, .int r_10, .int x_14]) (rest := [.int x_8, .int 0]) ⟨hx, hb, hml, hown, hts⟩ (c_F_M_leastCost_0 l D cI cJ cZ cP cS po m0 mrf mki mpa mta mla msl mco mhe mso msi msh mce mca mwo mnu mte mwa mke mma mth mtr (npu) (nte) (nat_) (nde) (nto) (nse) (nhu) (nga) (nsd) (nfa) (nba) (npl) (nen) (nnu) (nwr) (nra) (nik) gki gpa gta gco (r_10) (x_14) hy0 hy1 hy2 hy3 hy4 hy5 hy6 hy7 hy8 hy9 hy10 hy11 hy12 hy13 (by omega) (by omega) (by omega) (by omega) hp_gki hp_gpa hp_gta hp_gco) (cwV 3 hts gX8_costBy_X8_leastCost rfl rfl rfl ⟨rfl, dh_X8_leastCost⟩ ⟨Nat.le_of_ble_eq_true rfl, Nat.le_of_ble_eq_true rfl⟩) hK hN hZ hP (hP.sub [0, 1, 2, 3, 4] rfl) (va_recv (q := (RX8, TX8, 38)) hK hP (ci := 8) (q0 := 0) rfl rfl) rfl hl.1 rfl (Nat.le_of_ble_eq_true rfl) dX8_costBy_106 ⟨Nat.le_of_ble_eq_true rfl, Nat.le_of_ble_eq_true rfl⟩ (fun r_15 hr_15 => ?_)
        obtain ⟨g_16, g_17, hsr_15_0⟩ := hr_15
        refine lv_imul hx hb dX8_costBy_109 ?_
        refine lv_topi (fun x_18 ex_18 => ?_)
        obtain ⟨mx_18, nx_18, ox_18⟩ := zf_mulc (a := x_8) (b := r_15) (x := x_8.toInt) (y := r_15.toInt) (P := 99) rfl rfl ⟨by omega, by omega⟩ ⟨by omega, by omega⟩ (by decide)
        rw [← ex_18] at mx_18
        refine lv_iadd hx hb dX8_costBy_110 ?_
        refine lv_topi (fun x_19 ex_19 => ?_)
        have qx_19 : x_19.toInt = 0 + x_18.toInt := by rw [ex_19]; exact zf_add (by decide) rfl (by omega) (by omega)
        refine lv_istore (lv' := [(6, .int x_19), (5, .int r_1), (0, .ref m0), (1, .int p_), (2, .int 1), (3, .int d), (4, .int sec)]) hx hb dX8_costBy_111 hl (by decide) rfl (fun ls hl => ?_)
        refine lv_iload hx hb dX8_costBy_113 (lv_at hl 0 rfl) ?_
        exact W.iret (v := x_19) hx hb hr (fun t ht hW => ⟨x_19, rfl, ⟨by omega, by omega, (show (x_19 : Int32).toInt = zLb (zLn gki gpa gta npu.toInt.toNat nhu.toInt (gco 0).toInt (gco 1).toInt (gco 2).toInt 0) (gco 0).toInt (zPw 1) (gki p_.toNatClampNeg).toInt (gpa p_.toNatClampNeg).toInt (gta p_.toNatClampNeg).toInt nhu.toInt d.toInt sec.toInt from by (have zw := hsr_1_0; have E1 : r_1.toInt * (zLn gki gpa gta npu.toInt.toNat nhu.toInt (gco 0).toInt (gco 1).toInt (gco 2).toInt 0) (zShl (gki p_.toNatClampNeg).toInt (gpa p_.toNatClampNeg).toInt d.toInt) (sec.toInt - (gta p_.toNatClampNeg).toInt) = 0 := (by rw [show r_1.toInt = 0 from by omega, Int.zero_mul]); have E2 : (12 - r_1.toInt) * (zLn gki gpa gta npu.toInt.toNat nhu.toInt (gco 0).toInt (gco 1).toInt (gco 2).toInt 0) (zDpr (gki p_.toNatClampNeg).toInt (gpa p_.toNatClampNeg).toInt nhu.toInt d.toInt) (sec.toInt - (gta p_.toNatClampNeg).toInt) = x_18.toInt := (by rw [← hsr_10_0.2 (by decide), show sec.toInt - (gta p_.toNatClampNeg).toInt = (x_14 : Int32).toInt from by (have z : (gta p_.toNatClampNeg).toInt = x_13.toInt := (by rw [ex_13]); omega), ← hsr_15_0, show 12 - r_1.toInt = x_8.toInt from by omega]; omega); have nk : (gki p_.toNatClampNeg).toInt = x_4.toInt := (by rw [ex_4]); unfold zLb zBy1; rw [← zw, E1, E2, show zPw 1 = 12 from by decide]; first | (rw [if_neg (by omega)]; omega) | (rw [if_pos (by omega)]; omega)))⟩, ht⟩) (fun q hq => by cases hq) dX8_costBy_115
    · have fc_6 : 0 < r_1.toInt := zf_nle c_6 rfl (by decide)
      refine lv_iload hx hb dX8_costBy_41 (lv_at hl 0 rfl) ?_
      refine lv_iload hx hb dX8_costBy_43 (lv_at hl 1 rfl) ?_
      refine lv_aload_n hx hb dX8_costBy_45 rfl (lv_at hl 2 rfl) ?_
      refine lv_iload_n hx hb dX8_costBy_46 rfl (lv_at hl 4 rfl) ?_
      refine lv_iconst (v := 1) hx hb dX8_costBy_47 (by decide) ?_
      refine lv_isub hx hb dX8_costBy_48 ?_
      refine lv_topi (fun y_20 ey_20 => ?_)
      obtain rfl : y_20 = 0 := ey_20.trans (by decide)
      refine lv_aload_n hx hb dX8_costBy_49 rfl (lv_at hl 2 rfl) ?_
      refine lv_iload_n hx hb dX8_costBy_50 rfl (lv_at hl 3 rfl) ?_
      refine lv_iload_n hx hb dX8_costBy_51 rfl (lv_at hl 5 rfl) ?_
      refine lv_iconst (v := 1) hx hb dX8_costBy_52 (by decide) ?_
      have kc1 : (1 : Int32).toInt = 1 := by decide
      refine zc_V (As := [.int p_, .int d, .int 1]) (rest := [.int 0, .ref m0, .int r_1, .int 0]) ⟨hx, hb, hml, hown, hts⟩ (c_F_M_deep l D cI cJ cZ cP cS po m0 mrf mki mpa mta mla msl mco mhe mso msi msh mce mca mwo mnu mte mwa mke mma mth mtr (npu) (nte) (nat_) (nde) (nto) (nse) (nhu) (nga) (nsd) (nfa) (nba) (npl) (nen) (nnu) (nwr) (nra) (nik) gki gpa (p_) (d) (1) hy0 hy1 hy2 hy3 hy4 hy5 hy6 hy7 hy8 hy9 hy10 hy11 hy12 hy13 hy14 hy15 hy16 hy17 (by omega) (by omega) hp_gki hp_gpa) (cwV 3 hts gX8_costBy_X8_deep rfl rfl rfl ⟨rfl, dh_X8_deep⟩ ⟨Nat.le_of_ble_eq_true rfl, Nat.le_of_ble_eq_true rfl⟩) hK hN hZ hP (hP.sub [0, 1, 2] rfl) (va_recv (q := (RX8, TX8, 38)) hK hP (ci := 8) (q0 := 0) rfl rfl) rfl hl.1 rfl (Nat.le_of_ble_eq_true rfl) dX8_costBy_53 ⟨Nat.le_of_ble_eq_true rfl, Nat.le_of_ble_eq_true rfl⟩ (fun r_21 hr_21 => ?_)
      obtain ⟨g_22, g_23, hsr_21_0⟩ := hr_21
      refine lv_iload hx hb dX8_costBy_56 (lv_at hl 6 rfl) ?_
      refine lv_aload_n hx hb dX8_costBy_58 rfl (lv_at hl 2 rfl) ?_
      refine va_get (D := D) (ci := 8) (v := .ref mta) (C := RX8) (T := TX8) (N := 38) hx hb hts hi_X8_costBy_8 hown hK hP 0 rfl rfl 13 (by decide) (hts (.fieldLink RX8 35 "TheLiningsInItModel" "takes" "[I") (List.mem_of_getElem? (i := 3) rfl)) (fun _ h9 => h9) rfl dX8_costBy_59 ?_
      refine lv_iload_n hx hb dX8_costBy_62 rfl (lv_at hl 3 rfl) ?_
      refine va_iald hx hb hK hP 3 0 rfl rfl (zf_in (by omega) (by omega)) dX8_costBy_63 ?_
      refine lv_topi (fun x_24 ex_24 => ?_)
      have bx_24 : 0 ≤ x_24.toInt ∧ x_24.toInt ≤ 60 := by rw [ex_24]; exact hp_gta _
      have htx_24 : x_24.toInt ≤ sec.toInt := by (rw [ex_24]; exact htl)
      refine lv_isub hx hb dX8_costBy_64 ?_
      refine lv_topi (fun x_25 ex_25 => ?_)
      have qx_25 : x_25.toInt = sec.toInt - x_24.toInt := by rw [ex_25]; exact zf_sub rfl rfl (by omega) (by omega)
      refine zc_V (As := [.int 0, .int r_21, .int x_25]) (rest := [.int r_1, .int 0]) ⟨hx, hb, hml, hown, hts⟩ (c_F_M_leastCost_0 l D cI cJ cZ cP cS po m0 mrf mki mpa mta mla msl mco mhe mso msi msh mce mca mwo mnu mte mwa mke mma mth mtr (npu) (nte) (nat_) (nde) (nto) (nse) (nhu) (nga) (nsd) (nfa) (nba) (npl) (nen) (nnu) (nwr) (nra) (nik) gki gpa gta gco (r_21) (x_25) hy0 hy1 hy2 hy3 hy4 hy5 hy6 hy7 hy8 hy9 hy10 hy11 hy12 hy13 (by omega) (by omega) (by omega) (by omega) hp_gki hp_gpa hp_gta hp_gco) (cwV 3 hts gX8_costBy_X8_leastCost rfl rfl rfl ⟨rfl, dh_X8_leastCost⟩ ⟨Nat.le_of_ble_eq_true rfl, Nat.le_of_ble_eq_true rfl⟩) hK hN hZ hP (hP.sub [0, 1, 2, 3, 4] rfl) (va_recv (q := (RX8, TX8, 38)) hK hP (ci := 8) (q0 := 0) rfl rfl) rfl hl.1 rfl (Nat.le_of_ble_eq_true rfl) dX8_costBy_65 ⟨Nat.le_of_ble_eq_true rfl, Nat.le_of_ble_eq_true rfl⟩ (fun r_26 hr_26 => ?_)
      obtain ⟨g_27, g_28, hsr_26_0⟩ := hr_26
      refine lv_imul hx hb dX8_costBy_68 ?_
      refine lv_topi (fun x_29 ex_29 => ?_)
      obtain ⟨mx_29, nx_29, ox_29⟩ := zf_mulc (a := r_1) (b := r_26) (x := r_1.toInt) (y := r_26.toInt) (P := 99) rfl rfl ⟨by omega, by omega⟩ ⟨by omega, by omega⟩ (by decide)
      rw [← ex_29] at mx_29
      refine lv_iadd hx hb dX8_costBy_69 ?_
      refine lv_topi (fun x_30 ex_30 => ?_)
      have qx_30 : x_30.toInt = 0 + x_29.toInt := by rw [ex_30]; exact zf_add (by decide) rfl (by omega) (by omega)
      refine lv_istore (lv' := [(6, .int x_30), (5, .int r_1), (0, .ref m0), (1, .int p_), (2, .int 1), (3, .int d), (4, .int sec)]) hx hb dX8_costBy_70 hl (by decide) rfl (fun ls hl => ?_)
      refine lv_iload hx hb dX8_costBy_72 (lv_at hl 1 rfl) ?_
      refine lv_bipush (v := 12) hx hb dX8_costBy_74 (by decide) ?_
      refine lv_icmp_ge (tgt := 113) hx hb dX8_costBy_76 (by decide) (fun c_31 => ?_) (fun c_31 => ?_)
      · have fc_31 : 12 ≤ r_1.toInt := zf_le c_31 (by decide) rfl
        refine lv_iload hx hb dX8_costBy_113 (lv_at hl 0 rfl) ?_
        exact W.iret (v := x_30) hx hb hr (fun t ht hW => ⟨x_30, rfl, ⟨by omega, by omega, (show (x_30 : Int32).toInt = zLb (zLn gki gpa gta npu.toInt.toNat nhu.toInt (gco 0).toInt (gco 1).toInt (gco 2).toInt 0) (gco 0).toInt (zPw 1) (gki p_.toNatClampNeg).toInt (gpa p_.toNatClampNeg).toInt (gta p_.toNatClampNeg).toInt nhu.toInt d.toInt sec.toInt from by (have zw := hsr_1_0; have E1 : r_1.toInt * (zLn gki gpa gta npu.toInt.toNat nhu.toInt (gco 0).toInt (gco 1).toInt (gco 2).toInt 0) (zShl (gki p_.toNatClampNeg).toInt (gpa p_.toNatClampNeg).toInt d.toInt) (sec.toInt - (gta p_.toNatClampNeg).toInt) = x_29.toInt := (by rw [← hsr_21_0.1 (by decide), show sec.toInt - (gta p_.toNatClampNeg).toInt = (x_25 : Int32).toInt from by (have z : (gta p_.toNatClampNeg).toInt = x_24.toInt := (by rw [ex_24]); omega), ← hsr_26_0]; omega); have E2 : (12 - r_1.toInt) * (zLn gki gpa gta npu.toInt.toNat nhu.toInt (gco 0).toInt (gco 1).toInt (gco 2).toInt 0) (zDpr (gki p_.toNatClampNeg).toInt (gpa p_.toNatClampNeg).toInt nhu.toInt d.toInt) (sec.toInt - (gta p_.toNatClampNeg).toInt) = 0 := (by rw [show 12 - r_1.toInt = 0 from by omega, Int.zero_mul]); have nk : (gki p_.toNatClampNeg).toInt = x_4.toInt := (by rw [ex_4]); unfold zLb zBy1; rw [← zw, E1, E2, show zPw 1 = 12 from by decide]; first | (rw [if_neg (by omega)]; omega) | (rw [if_pos (by omega)]; omega)))⟩, ht⟩) (fun q hq => by cases hq) dX8_costBy_115
      · have fc_31 : r_1.toInt < 12 := zf_nle c_31 (by decide) rfl
        refine lv_iload hx hb dX8_costBy_79 (lv_at hl 0 rfl) ?_
        refine lv_bipush (v := 12) hx hb dX8_costBy_81 (by decide) ?_
        refine lv_iload hx hb dX8_costBy_83 (lv_at hl 1 rfl) ?_
        refine lv_isub hx hb dX8_costBy_85 ?_
        refine lv_topi (fun x_32 ex_32 => ?_)
        have qx_32 : x_32.toInt = 12 - r_1.toInt := by rw [ex_32]; exact zf_sub (by decide) rfl (by omega) (by omega)
        refine lv_aload_n hx hb dX8_costBy_86 rfl (lv_at hl 2 rfl) ?_
        refine lv_iload_n hx hb dX8_costBy_87 rfl (lv_at hl 4 rfl) ?_
        refine lv_iconst (v := 1) hx hb dX8_costBy_88 (by decide) ?_
        refine lv_isub hx hb dX8_costBy_89 ?_
        refine lv_topi (fun y_33 ey_33 => ?_)
        obtain rfl : y_33 = 0 := ey_33.trans (by decide)
        refine lv_aload_n hx hb dX8_costBy_90 rfl (lv_at hl 2 rfl) ?_
        refine lv_iload_n hx hb dX8_costBy_91 rfl (lv_at hl 3 rfl) ?_
        refine lv_iload_n hx hb dX8_costBy_92 rfl (lv_at hl 5 rfl) ?_
        refine lv_iconst (v := 0) hx hb dX8_costBy_93 (by decide) ?_
        have kc0 : (0 : Int32).toInt = 0 := by decide
        refine zc_V (As := [.int p_, .int d, .int 0]) (rest := [.int 0, .ref m0, .int x_32, .int x_30]) ⟨hx, hb, hml, hown, hts⟩ (c_F_M_deep l D cI cJ cZ cP cS po m0 mrf mki mpa mta mla msl mco mhe mso msi msh mce mca mwo mnu mte mwa mke mma mth mtr (npu) (nte) (nat_) (nde) (nto) (nse) (nhu) (nga) (nsd) (nfa) (nba) (npl) (nen) (nnu) (nwr) (nra) (nik) gki gpa (p_) (d) (0) hy0 hy1 hy2 hy3 hy4 hy5 hy6 hy7 hy8 hy9 hy10 hy11 hy12 hy13 hy14 hy15 hy16 hy17 (by omega) (by omega) hp_gki hp_gpa) (cwV 3 hts gX8_costBy_X8_deep rfl rfl rfl ⟨rfl, dh_X8_deep⟩ ⟨Nat.le_of_ble_eq_true rfl, Nat.le_of_ble_eq_true rfl⟩) hK hN hZ hP (hP.sub [0, 1, 2] rfl) (va_recv (q := (RX8, TX8, 38)) hK hP (ci := 8) (q0 := 0) rfl rfl) rfl hl.1 rfl (Nat.le_of_ble_eq_true rfl) dX8_costBy_94 ⟨Nat.le_of_ble_eq_true rfl, Nat.le_of_ble_eq_true rfl⟩ (fun r_34 hr_34 => ?_)
        obtain ⟨g_35, g_36, hsr_34_0⟩ := hr_34
        refine lv_iload hx hb dX8_costBy_97 (lv_at hl 6 rfl) ?_
        refine lv_aload_n hx hb dX8_costBy_99 rfl (lv_at hl 2 rfl) ?_
        refine va_get (D := D) (ci := 8) (v := .ref mta) (C := RX8) (T := TX8) (N := 38) hx hb hts hi_X8_costBy_8 hown hK hP 0 rfl rfl 13 (by decide) (hts (.fieldLink RX8 35 "TheLiningsInItModel" "takes" "[I") (List.mem_of_getElem? (i := 3) rfl)) (fun _ h9 => h9) rfl dX8_costBy_100 ?_
        refine lv_iload_n hx hb dX8_costBy_103 rfl (lv_at hl 3 rfl) ?_
        refine va_iald hx hb hK hP 3 0 rfl rfl (zf_in (by omega) (by omega)) dX8_costBy_104 ?_
        refine lv_topi (fun y_37 ey_37 => ?_)
        obtain rfl : x_24 = y_37 := ex_24.trans ey_37.symm
        refine lv_isub hx hb dX8_costBy_105 ?_
        refine lv_topi (fun y_38 ey_38 => ?_)
        obtain rfl : x_25 = y_38 := ex_25.trans ey_38.symm
        refine zc_V (As := [.int 0, .int r_34, .int x_25]) (rest := [.int x_32, .int x_30]) ⟨hx, hb, hml, hown, hts⟩ (c_F_M_leastCost_0 l D cI cJ cZ cP cS po m0 mrf mki mpa mta mla msl mco mhe mso msi msh mce mca mwo mnu mte mwa mke mma mth mtr (npu) (nte) (nat_) (nde) (nto) (nse) (nhu) (nga) (nsd) (nfa) (nba) (npl) (nen) (nnu) (nwr) (nra) (nik) gki gpa gta gco (r_34) (x_25) hy0 hy1 hy2 hy3 hy4 hy5 hy6 hy7 hy8 hy9 hy10 hy11 hy12 hy13 (by omega) (by omega) (by omega) (by omega) hp_gki hp_gpa hp_gta hp_gco) (cwV 3 hts gX8_costBy_X8_leastCost rfl rfl rfl ⟨rfl, dh_X8_leastCost⟩ ⟨Nat.le_of_ble_eq_true rfl, Nat.le_of_ble_eq_true rfl⟩) hK hN hZ hP (hP.sub [0, 1, 2, 3, 4] rfl) (va_recv (q := (RX8, TX8, 38)) hK hP (ci := 8) (q0 := 0) rfl rfl) rfl hl.1 rfl (Nat.le_of_ble_eq_true rfl) dX8_costBy_106 ⟨Nat.le_of_ble_eq_true rfl, Nat.le_of_ble_eq_true rfl⟩ (fun r_39 hr_39 => ?_)
        obtain ⟨g_40, g_41, hsr_39_0⟩ := hr_39
        refine lv_imul hx hb dX8_costBy_109 ?_
        refine lv_topi (fun x_42 ex_42 => ?_)
        obtain ⟨mx_42, nx_42, ox_42⟩ := zf_mulc (a := x_32) (b := r_39) (x := x_32.toInt) (y := r_39.toInt) (P := 99) rfl rfl ⟨by omega, by omega⟩ ⟨by omega, by omega⟩ (by decide)
        rw [← ex_42] at mx_42
        refine lv_iadd hx hb dX8_costBy_110 ?_
        refine lv_topi (fun x_43 ex_43 => ?_)
        have qx_43 : x_43.toInt = x_30.toInt + x_42.toInt := by rw [ex_43]; exact zf_add rfl rfl (by omega) (by omega)
        refine lv_istore (lv' := [(6, .int x_43), (5, .int r_1), (0, .ref m0), (1, .int p_), (2, .int 1), (3, .int d), (4, .int sec)]) hx hb dX8_costBy_111 hl (by decide) rfl (fun ls hl => ?_)
        refine lv_iload hx hb dX8_costBy_113 (lv_at hl 0 rfl) ?_
        have hmx9 := zMix (w := r_1.toInt) (x := r_26.toInt) (y := r_39.toInt) (P := 99) ⟨by omega, by omega⟩ ⟨by omega, by omega⟩ ⟨by omega, by omega⟩
        rw [show 12 - r_1.toInt = x_32.toInt from by omega] at hmx9
        exact W.iret (v := x_43) hx hb hr (fun t ht hW => ⟨x_43, rfl, ⟨by omega, by omega, (show (x_43 : Int32).toInt = zLb (zLn gki gpa gta npu.toInt.toNat nhu.toInt (gco 0).toInt (gco 1).toInt (gco 2).toInt 0) (gco 0).toInt (zPw 1) (gki p_.toNatClampNeg).toInt (gpa p_.toNatClampNeg).toInt (gta p_.toNatClampNeg).toInt nhu.toInt d.toInt sec.toInt from by (have zw := hsr_1_0; have E1 : r_1.toInt * (zLn gki gpa gta npu.toInt.toNat nhu.toInt (gco 0).toInt (gco 1).toInt (gco 2).toInt 0) (zShl (gki p_.toNatClampNeg).toInt (gpa p_.toNatClampNeg).toInt d.toInt) (sec.toInt - (gta p_.toNatClampNeg).toInt) = x_29.toInt := (by rw [← hsr_21_0.1 (by decide), show sec.toInt - (gta p_.toNatClampNeg).toInt = (x_25 : Int32).toInt from by (have z : (gta p_.toNatClampNeg).toInt = x_24.toInt := (by rw [ex_24]); omega), ← hsr_26_0]; omega); have E2 : (12 - r_1.toInt) * (zLn gki gpa gta npu.toInt.toNat nhu.toInt (gco 0).toInt (gco 1).toInt (gco 2).toInt 0) (zDpr (gki p_.toNatClampNeg).toInt (gpa p_.toNatClampNeg).toInt nhu.toInt d.toInt) (sec.toInt - (gta p_.toNatClampNeg).toInt) = x_42.toInt := (by rw [← hsr_34_0.2 (by decide), show sec.toInt - (gta p_.toNatClampNeg).toInt = (x_25 : Int32).toInt from by (have z : (gta p_.toNatClampNeg).toInt = x_24.toInt := (by rw [ex_24]); omega), ← hsr_39_0, show 12 - r_1.toInt = x_32.toInt from by omega]; omega); have nk : (gki p_.toNatClampNeg).toInt = x_4.toInt := (by rw [ex_4]); unfold zLb zBy1; rw [← zw, E1, E2, show zPw 1 = 12 from by decide]; first | (rw [if_neg (by omega)]; omega) | (rw [if_pos (by omega)]; omega)))⟩, ht⟩) (fun q hq => by cases hq) dX8_costBy_115
  · have fc_5 : x_4.toInt = 5 := zf_eq c_5 rfl (by decide)
    refine lv_aload_n hx hb dX8_costBy_18 rfl (lv_at hl 1 rfl) ?_
    refine va_get (D := D) (ci := 8) (v := .ref mco) (C := RX8) (T := TX8) (N := 38) hx hb hts hi_X8_costBy_8 hown hK hP 0 rfl rfl 16 (by decide) (hts (.fieldLink RX8 44 "TheLiningsInItModel" "cost" "[I") (List.mem_of_getElem? (i := 2) rfl)) (fun _ h9 => h9) rfl dX8_costBy_19 ?_
    refine lv_iconst (v := 0) hx hb dX8_costBy_22 (by decide) ?_
    refine va_iald hx hb hK hP 4 0 rfl rfl (zf_in (by decide) (by decide)) dX8_costBy_23 ?_
    refine lv_topi (fun x_44 ex_44 => ?_)
    have bx_44 : 0 ≤ x_44.toInt ∧ x_44.toInt ≤ 99 := by rw [ex_44]; exact hp_gco _
    refine lv_aload_n hx hb dX8_costBy_24 rfl (lv_at hl 1 rfl) ?_
    refine lv_iload_n hx hb dX8_costBy_25 rfl (lv_at hl 3 rfl) ?_
    refine zc_V (As := [.int 1]) (rest := [.int x_44]) ⟨hx, hb, hml, hown, hts⟩ (c_M_power_1 l D cI cJ cZ cP cS po m0 mrf mki mpa mta mla msl mco mhe mso msi msh mce mca mwo mnu mte mwa mke mma mth mtr (npu) (nte) (nat_) (nde) (nto) (nse) (nhu) (nga) (nsd) (nfa) (nba) (npl) (nen) (nnu) (nwr) (nra) (nik) hy0 hy1 hy2 hy3 hy4 hy5 hy6 hy7 hy8 hy9 hy10 hy11 hy12 hy13) (cwV 1 hts gX8_costBy_X8_power rfl rfl rfl ⟨rfl, dh_X8_power⟩ ⟨Nat.le_of_ble_eq_true rfl, Nat.le_of_ble_eq_true rfl⟩) hK hN hZ hP (hP.sub [0] rfl) (va_recv (q := (RX8, TX8, 38)) hK hP (ci := 8) (q0 := 0) rfl rfl) rfl hl.1 rfl (Nat.le_of_ble_eq_true rfl) dX8_costBy_26 ⟨Nat.le_of_ble_eq_true rfl, Nat.le_of_ble_eq_true rfl⟩ (fun r_45 hr_45 => ?_)
    obtain rfl := hr_45
    refine lv_imul hx hb dX8_costBy_29 ?_
    refine lv_topi (fun x_46 ex_46 => ?_)
    have qx_46 : x_46.toInt = x_44.toInt * 12 := by rw [ex_46]; exact zf_mul rfl (by decide) (by omega) (by omega)
    refine lv_goto (tgt := 34) hx hb dX8_costBy_30 (by decide) ?_
    refine lv_istore (lv' := [(6, .int x_46), (5, .int r_1), (0, .ref m0), (1, .int p_), (2, .int 1), (3, .int d), (4, .int sec)]) hx hb dX8_costBy_34 hl (by decide) rfl (fun ls hl => ?_)
    refine lv_iload hx hb dX8_costBy_36 (lv_at hl 1 rfl) ?_
    refine lv_if_le (tgt := 72) hx hb dX8_costBy_38 (by decide) (fun c_47 => ?_) (fun c_47 => ?_)
    · have fc_47 : r_1.toInt ≤ 0 := zf_le c_47 rfl (by decide)
      refine lv_iload hx hb dX8_costBy_72 (lv_at hl 1 rfl) ?_
      refine lv_bipush (v := 12) hx hb dX8_costBy_74 (by decide) ?_
      refine lv_icmp_ge (tgt := 113) hx hb dX8_costBy_76 (by decide) (fun c_48 => ?_) (fun c_48 => ?_)
      · exfalso; have fc_48 : 12 ≤ r_1.toInt := zf_le c_48 (by decide) rfl; omega
      · have fc_48 : r_1.toInt < 12 := zf_nle c_48 (by decide) rfl
        refine lv_iload hx hb dX8_costBy_79 (lv_at hl 0 rfl) ?_
        refine lv_bipush (v := 12) hx hb dX8_costBy_81 (by decide) ?_
        refine lv_iload hx hb dX8_costBy_83 (lv_at hl 1 rfl) ?_
        refine lv_isub hx hb dX8_costBy_85 ?_
        refine lv_topi (fun x_49 ex_49 => ?_)
        have qx_49 : x_49.toInt = 12 - r_1.toInt := by rw [ex_49]; exact zf_sub (by decide) rfl (by omega) (by omega)
        refine lv_aload_n hx hb dX8_costBy_86 rfl (lv_at hl 2 rfl) ?_
        refine lv_iload_n hx hb dX8_costBy_87 rfl (lv_at hl 4 rfl) ?_
        refine lv_iconst (v := 1) hx hb dX8_costBy_88 (by decide) ?_
        refine lv_isub hx hb dX8_costBy_89 ?_
        refine lv_topi (fun y_50 ey_50 => ?_)
        obtain rfl : y_50 = 0 := ey_50.trans (by decide)
        refine lv_aload_n hx hb dX8_costBy_90 rfl (lv_at hl 2 rfl) ?_
        refine lv_iload_n hx hb dX8_costBy_91 rfl (lv_at hl 3 rfl) ?_
        refine lv_iload_n hx hb dX8_costBy_92 rfl (lv_at hl 5 rfl) ?_
        refine lv_iconst (v := 0) hx hb dX8_costBy_93 (by decide) ?_
        have kc0 : (0 : Int32).toInt = 0 := by decide
        refine zc_V (As := [.int p_, .int d, .int 0]) (rest := [.int 0, .ref m0, .int x_49, .int x_46]) ⟨hx, hb, hml, hown, hts⟩ (c_F_M_deep l D cI cJ cZ cP cS po m0 mrf mki mpa mta mla msl mco mhe mso msi msh mce mca mwo mnu mte mwa mke mma mth mtr (npu) (nte) (nat_) (nde) (nto) (nse) (nhu) (nga) (nsd) (nfa) (nba) (npl) (nen) (nnu) (nwr) (nra) (nik) gki gpa (p_) (d) (0) hy0 hy1 hy2 hy3 hy4 hy5 hy6 hy7 hy8 hy9 hy10 hy11 hy12 hy13 hy14 hy15 hy16 hy17 (by omega) (by omega) hp_gki hp_gpa) (cwV 3 hts gX8_costBy_X8_deep rfl rfl rfl ⟨rfl, dh_X8_deep⟩ ⟨Nat.le_of_ble_eq_true rfl, Nat.le_of_ble_eq_true rfl⟩) hK hN hZ hP (hP.sub [0, 1, 2] rfl) (va_recv (q := (RX8, TX8, 38)) hK hP (ci := 8) (q0 := 0) rfl rfl) rfl hl.1 rfl (Nat.le_of_ble_eq_true rfl) dX8_costBy_94 ⟨Nat.le_of_ble_eq_true rfl, Nat.le_of_ble_eq_true rfl⟩ (fun r_51 hr_51 => ?_)
        obtain ⟨g_52, g_53, hsr_51_0⟩ := hr_51
        refine lv_iload hx hb dX8_costBy_97 (lv_at hl 6 rfl) ?_
        refine lv_aload_n hx hb dX8_costBy_99 rfl (lv_at hl 2 rfl) ?_
        refine va_get (D := D) (ci := 8) (v := .ref mta) (C := RX8) (T := TX8) (N := 38) hx hb hts hi_X8_costBy_8 hown hK hP 0 rfl rfl 13 (by decide) (hts (.fieldLink RX8 35 "TheLiningsInItModel" "takes" "[I") (List.mem_of_getElem? (i := 3) rfl)) (fun _ h9 => h9) rfl dX8_costBy_100 ?_
        refine lv_iload_n hx hb dX8_costBy_103 rfl (lv_at hl 3 rfl) ?_
        refine va_iald hx hb hK hP 3 0 rfl rfl (zf_in (by omega) (by omega)) dX8_costBy_104 ?_
        refine lv_topi (fun x_54 ex_54 => ?_)
        have bx_54 : 0 ≤ x_54.toInt ∧ x_54.toInt ≤ 60 := by rw [ex_54]; exact hp_gta _
        have htx_54 : x_54.toInt ≤ sec.toInt := by (rw [ex_54]; exact htl)
        refine lv_isub hx hb dX8_costBy_105 ?_
        refine lv_topi (fun x_55 ex_55 => ?_)
        have qx_55 : x_55.toInt = sec.toInt - x_54.toInt := by rw [ex_55]; exact zf_sub rfl rfl (by omega) (by omega)
        refine zc_V (As := [.int 0, .int r_51, .int x_55]) (rest := [.int x_49, .int x_46]) ⟨hx, hb, hml, hown, hts⟩ (c_F_M_leastCost_0 l D cI cJ cZ cP cS po m0 mrf mki mpa mta mla msl mco mhe mso msi msh mce mca mwo mnu mte mwa mke mma mth mtr (npu) (nte) (nat_) (nde) (nto) (nse) (nhu) (nga) (nsd) (nfa) (nba) (npl) (nen) (nnu) (nwr) (nra) (nik) gki gpa gta gco (r_51) (x_55) hy0 hy1 hy2 hy3 hy4 hy5 hy6 hy7 hy8 hy9 hy10 hy11 hy12 hy13 (by omega) (by omega) (by omega) (by omega) hp_gki hp_gpa hp_gta hp_gco) (cwV 3 hts gX8_costBy_X8_leastCost rfl rfl rfl ⟨rfl, dh_X8_leastCost⟩ ⟨Nat.le_of_ble_eq_true rfl, Nat.le_of_ble_eq_true rfl⟩) hK hN hZ hP (hP.sub [0, 1, 2, 3, 4] rfl) (va_recv (q := (RX8, TX8, 38)) hK hP (ci := 8) (q0 := 0) rfl rfl) rfl hl.1 rfl (Nat.le_of_ble_eq_true rfl) dX8_costBy_106 ⟨Nat.le_of_ble_eq_true rfl, Nat.le_of_ble_eq_true rfl⟩ (fun r_56 hr_56 => ?_)
        obtain ⟨g_57, g_58, hsr_56_0⟩ := hr_56
        refine lv_imul hx hb dX8_costBy_109 ?_
        refine lv_topi (fun x_59 ex_59 => ?_)
        obtain ⟨mx_59, nx_59, ox_59⟩ := zf_mulc (a := x_49) (b := r_56) (x := x_49.toInt) (y := r_56.toInt) (P := 99) rfl rfl ⟨by omega, by omega⟩ ⟨by omega, by omega⟩ (by decide)
        rw [← ex_59] at mx_59
        refine lv_iadd hx hb dX8_costBy_110 ?_
        refine lv_topi (fun x_60 ex_60 => ?_)
        have qx_60 : x_60.toInt = x_46.toInt + x_59.toInt := by rw [ex_60]; exact zf_add rfl rfl (by omega) (by omega)
        refine lv_istore (lv' := [(6, .int x_60), (5, .int r_1), (0, .ref m0), (1, .int p_), (2, .int 1), (3, .int d), (4, .int sec)]) hx hb dX8_costBy_111 hl (by decide) rfl (fun ls hl => ?_)
        refine lv_iload hx hb dX8_costBy_113 (lv_at hl 0 rfl) ?_
        exact W.iret (v := x_60) hx hb hr (fun t ht hW => ⟨x_60, rfl, ⟨by omega, by omega, (show (x_60 : Int32).toInt = zLb (zLn gki gpa gta npu.toInt.toNat nhu.toInt (gco 0).toInt (gco 1).toInt (gco 2).toInt 0) (gco 0).toInt (zPw 1) (gki p_.toNatClampNeg).toInt (gpa p_.toNatClampNeg).toInt (gta p_.toNatClampNeg).toInt nhu.toInt d.toInt sec.toInt from by (have nx_44 : (gco 0).toInt = x_44.toInt := (by rw [ex_44, show (0 : Int32).toNatClampNeg = 0 from by decide]); have zw := hsr_1_0; have E1 : r_1.toInt * (zLn gki gpa gta npu.toInt.toNat nhu.toInt (gco 0).toInt (gco 1).toInt (gco 2).toInt 0) (zShl (gki p_.toNatClampNeg).toInt (gpa p_.toNatClampNeg).toInt d.toInt) (sec.toInt - (gta p_.toNatClampNeg).toInt) = 0 := (by rw [show r_1.toInt = 0 from by omega, Int.zero_mul]); have E2 : (12 - r_1.toInt) * (zLn gki gpa gta npu.toInt.toNat nhu.toInt (gco 0).toInt (gco 1).toInt (gco 2).toInt 0) (zDpr (gki p_.toNatClampNeg).toInt (gpa p_.toNatClampNeg).toInt nhu.toInt d.toInt) (sec.toInt - (gta p_.toNatClampNeg).toInt) = x_59.toInt := (by rw [← hsr_51_0.2 (by decide), show sec.toInt - (gta p_.toNatClampNeg).toInt = (x_55 : Int32).toInt from by (have z : (gta p_.toNatClampNeg).toInt = x_54.toInt := (by rw [ex_54]); omega), ← hsr_56_0, show 12 - r_1.toInt = x_49.toInt from by omega]; omega); have nk : (gki p_.toNatClampNeg).toInt = x_4.toInt := (by rw [ex_4]); unfold zLb zBy1; rw [← zw, E1, E2, show zPw 1 = 12 from by decide]; first | (rw [if_pos (by omega)]; omega) | (rw [if_neg (by omega)]; omega)))⟩, ht⟩) (fun q hq => by cases hq) dX8_costBy_115
    · have fc_47 : 0 < r_1.toInt := zf_nle c_47 rfl (by decide)
      refine lv_iload hx hb dX8_costBy_41 (lv_at hl 0 rfl) ?_
      refine lv_iload hx hb dX8_costBy_43 (lv_at hl 1 rfl) ?_
      refine lv_aload_n hx hb dX8_costBy_45 rfl (lv_at hl 2 rfl) ?_
      refine lv_iload_n hx hb dX8_costBy_46 rfl (lv_at hl 4 rfl) ?_
      refine lv_iconst (v := 1) hx hb dX8_costBy_47 (by decide) ?_
      refine lv_isub hx hb dX8_costBy_48 ?_
      refine lv_topi (fun y_61 ey_61 => ?_)
      obtain rfl : y_61 = 0 := ey_61.trans (by decide)
      refine lv_aload_n hx hb dX8_costBy_49 rfl (lv_at hl 2 rfl) ?_
      refine lv_iload_n hx hb dX8_costBy_50 rfl (lv_at hl 3 rfl) ?_
      refine lv_iload_n hx hb dX8_costBy_51 rfl (lv_at hl 5 rfl) ?_
      refine lv_iconst (v := 1) hx hb dX8_costBy_52 (by decide) ?_
      have kc1 : (1 : Int32).toInt = 1 := by decide
      refine zc_V (As := [.int p_, .int d, .int 1]) (rest := [.int 0, .ref m0, .int r_1, .int x_46]) ⟨hx, hb, hml, hown, hts⟩ (c_F_M_deep l D cI cJ cZ cP cS po m0 mrf mki mpa mta mla msl mco mhe mso msi msh mce mca mwo mnu mte mwa mke mma mth mtr (npu) (nte) (nat_) (nde) (nto) (nse) (nhu) (nga) (nsd) (nfa) (nba) (npl) (nen) (nnu) (nwr) (nra) (nik) gki gpa (p_) (d) (1) hy0 hy1 hy2 hy3 hy4 hy5 hy6 hy7 hy8 hy9 hy10 hy11 hy12 hy13 hy14 hy15 hy16 hy17 (by omega) (by omega) hp_gki hp_gpa) (cwV 3 hts gX8_costBy_X8_deep rfl rfl rfl ⟨rfl, dh_X8_deep⟩ ⟨Nat.le_of_ble_eq_true rfl, Nat.le_of_ble_eq_true rfl⟩) hK hN hZ hP (hP.sub [0, 1, 2] rfl) (va_recv (q := (RX8, TX8, 38)) hK hP (ci := 8) (q0 := 0) rfl rfl) rfl hl.1 rfl (Nat.le_of_ble_eq_true rfl) dX8_costBy_53 ⟨Nat.le_of_ble_eq_true rfl, Nat.le_of_ble_eq_true rfl⟩ (fun r_62 hr_62 => ?_)
      obtain ⟨g_63, g_64, hsr_62_0⟩ := hr_62
      refine lv_iload hx hb dX8_costBy_56 (lv_at hl 6 rfl) ?_
      refine lv_aload_n hx hb dX8_costBy_58 rfl (lv_at hl 2 rfl) ?_
      refine va_get (D := D) (ci := 8) (v := .ref mta) (C := RX8) (T := TX8) (N := 38) hx hb hts hi_X8_costBy_8 hown hK hP 0 rfl rfl 13 (by decide) (hts (.fieldLink RX8 35 "TheLiningsInItModel" "takes" "[I") (List.mem_of_getElem? (i := 3) rfl)) (fun _ h9 => h9) rfl dX8_costBy_59 ?_
      refine lv_iload_n hx hb dX8_costBy_62 rfl (lv_at hl 3 rfl) ?_
      refine va_iald hx hb hK hP 3 0 rfl rfl (zf_in (by omega) (by omega)) dX8_costBy_63 ?_
      refine lv_topi (fun x_65 ex_65 => ?_)
      have bx_65 : 0 ≤ x_65.toInt ∧ x_65.toInt ≤ 60 := by rw [ex_65]; exact hp_gta _
      have htx_65 : x_65.toInt ≤ sec.toInt := by (rw [ex_65]; exact htl)
      refine lv_isub hx hb dX8_costBy_64 ?_
      refine lv_topi (fun x_66 ex_66 => ?_)
      have qx_66 : x_66.toInt = sec.toInt - x_65.toInt := by rw [ex_66]; exact zf_sub rfl rfl (by omega) (by omega)
      refine zc_V (As := [.int 0, .int r_62, .int x_66]) (rest := [.int r_1, .int x_46]) ⟨hx, hb, hml, hown, hts⟩ (c_F_M_leastCost_0 l D cI cJ cZ cP cS po m0 mrf mki mpa mta mla msl mco mhe mso msi msh mce mca mwo mnu mte mwa mke mma mth mtr (npu) (nte) (nat_) (nde) (nto) (nse) (nhu) (nga) (nsd) (nfa) (nba) (npl) (nen) (nnu) (nwr) (nra) (nik) gki gpa gta gco (r_62) (x_66) hy0 hy1 hy2 hy3 hy4 hy5 hy6 hy7 hy8 hy9 hy10 hy11 hy12 hy13 (by omega) (by omega) (by omega) (by omega) hp_gki hp_gpa hp_gta hp_gco) (cwV 3 hts gX8_costBy_X8_leastCost rfl rfl rfl ⟨rfl, dh_X8_leastCost⟩ ⟨Nat.le_of_ble_eq_true rfl, Nat.le_of_ble_eq_true rfl⟩) hK hN hZ hP (hP.sub [0, 1, 2, 3, 4] rfl) (va_recv (q := (RX8, TX8, 38)) hK hP (ci := 8) (q0 := 0) rfl rfl) rfl hl.1 rfl (Nat.le_of_ble_eq_true rfl) dX8_costBy_65 ⟨Nat.le_of_ble_eq_true rfl, Nat.le_of_ble_eq_true rfl⟩ (fun r_67 hr_67 => ?_)
      obtain ⟨g_68, g_69, hsr_67_0⟩ := hr_67
      refine lv_imul hx hb dX8_costBy_68 ?_
      refine lv_topi (fun x_70 ex_70 => ?_)
      obtain ⟨mx_70, nx_70, ox_70⟩ := zf_mulc (a := r_1) (b := r_67) (x := r_1.toInt) (y := r_67.toInt) (P := 99) rfl rfl ⟨by omega, by omega⟩ ⟨by omega, by omega⟩ (by decide)
      rw [← ex_70] at mx_70
      refine lv_iadd hx hb dX8_costBy_69 ?_
      refine lv_topi (fun x_71 ex_71 => ?_)
      have qx_71 : x_71.toInt = x_46.toInt + x_70.toInt := by rw [ex_71]; exact zf_add rfl rfl (by omega) (by omega)
      refine lv_istore (lv' := [(6, .int x_71), (5, .int r_1), (0, .ref m0), (1, .int p_), (2, .int 1), (3, .int d), (4, .int sec)]) hx hb dX8_costBy_70 hl (by decide) rfl (fun ls hl => ?_)
      refine lv_iload hx hb dX8_costBy_72 (lv_at hl 1 rfl) ?_
      refine lv_bipush (v := 12) hx hb dX8_costBy_74 (by decide) ?_
      refine lv_icmp_ge (tgt := 113) hx hb dX8_costBy_76 (by decide) (fun c_72 => ?_) (fun c_72 => ?_)
      · have fc_72 : 12 ≤ r_1.toInt := zf_le c_72 (by decide) rfl
        refine lv_iload hx hb dX8_costBy_113 (lv_at hl 0 rfl) ?_
        exact W.iret (v := x_71) hx hb hr (fun t ht hW => ⟨x_71, rfl, ⟨by omega, by omega, (show (x_71 : Int32).toInt = zLb (zLn gki gpa gta npu.toInt.toNat nhu.toInt (gco 0).toInt (gco 1).toInt (gco 2).toInt 0) (gco 0).toInt (zPw 1) (gki p_.toNatClampNeg).toInt (gpa p_.toNatClampNeg).toInt (gta p_.toNatClampNeg).toInt nhu.toInt d.toInt sec.toInt from by (have nx_44 : (gco 0).toInt = x_44.toInt := (by rw [ex_44, show (0 : Int32).toNatClampNeg = 0 from by decide]); have zw := hsr_1_0; have E1 : r_1.toInt * (zLn gki gpa gta npu.toInt.toNat nhu.toInt (gco 0).toInt (gco 1).toInt (gco 2).toInt 0) (zShl (gki p_.toNatClampNeg).toInt (gpa p_.toNatClampNeg).toInt d.toInt) (sec.toInt - (gta p_.toNatClampNeg).toInt) = x_70.toInt := (by rw [← hsr_62_0.1 (by decide), show sec.toInt - (gta p_.toNatClampNeg).toInt = (x_66 : Int32).toInt from by (have z : (gta p_.toNatClampNeg).toInt = x_65.toInt := (by rw [ex_65]); omega), ← hsr_67_0]; omega); have E2 : (12 - r_1.toInt) * (zLn gki gpa gta npu.toInt.toNat nhu.toInt (gco 0).toInt (gco 1).toInt (gco 2).toInt 0) (zDpr (gki p_.toNatClampNeg).toInt (gpa p_.toNatClampNeg).toInt nhu.toInt d.toInt) (sec.toInt - (gta p_.toNatClampNeg).toInt) = 0 := (by rw [show 12 - r_1.toInt = 0 from by omega, Int.zero_mul]); have nk : (gki p_.toNatClampNeg).toInt = x_4.toInt := (by rw [ex_4]); unfold zLb zBy1; rw [← zw, E1, E2, show zPw 1 = 12 from by decide]; first | (rw [if_pos (by omega)]; omega) | (rw [if_neg (by omega)]; omega)))⟩, ht⟩) (fun q hq => by cases hq) dX8_costBy_115
      · have fc_72 : r_1.toInt < 12 := zf_nle c_72 (by decide) rfl
        refine lv_iload hx hb dX8_costBy_79 (lv_at hl 0 rfl) ?_
        refine lv_bipush (v := 12) hx hb dX8_costBy_81 (by decide) ?_
        refine lv_iload hx hb dX8_costBy_83 (lv_at hl 1 rfl) ?_
        refine lv_isub hx hb dX8_costBy_85 ?_
        refine lv_topi (fun x_73 ex_73 => ?_)
        have qx_73 : x_73.toInt = 12 - r_1.toInt := by rw [ex_73]; exact zf_sub (by decide) rfl (by omega) (by omega)
        refine lv_aload_n hx hb dX8_costBy_86 rfl (lv_at hl 2 rfl) ?_
        refine lv_iload_n hx hb dX8_costBy_87 rfl (lv_at hl 4 rfl) ?_
        refine lv_iconst (v := 1) hx hb dX8_costBy_88 (by decide) ?_
        refine lv_isub hx hb dX8_costBy_89 ?_
        refine lv_topi (fun y_74 ey_74 => ?_)
        obtain rfl : y_74 = 0 := ey_74.trans (by decide)
        refine lv_aload_n hx hb dX8_costBy_90 rfl (lv_at hl 2 rfl) ?_
        refine lv_iload_n hx hb dX8_costBy_91 rfl (lv_at hl 3 rfl) ?_
        refine lv_iload_n hx hb dX8_costBy_92 rfl (lv_at hl 5 rfl) ?_
        refine lv_iconst (v := 0) hx hb dX8_costBy_93 (by decide) ?_
        have kc0 : (0 : Int32).toInt = 0 := by decide
        refine zc_V (As := [.int p_, .int d, .int 0]) (rest := [.int 0, .ref m0, .int x_73, .int x_71]) ⟨hx, hb, hml, hown, hts⟩ (c_F_M_deep l D cI cJ cZ cP cS po m0 mrf mki mpa mta mla msl mco mhe mso msi msh mce mca mwo mnu mte mwa mke mma mth mtr (npu) (nte) (nat_) (nde) (nto) (nse) (nhu) (nga) (nsd) (nfa) (nba) (npl) (nen) (nnu) (nwr) (nra) (nik) gki gpa (p_) (d) (0) hy0 hy1 hy2 hy3 hy4 hy5 hy6 hy7 hy8 hy9 hy10 hy11 hy12 hy13 hy14 hy15 hy16 hy17 (by omega) (by omega) hp_gki hp_gpa) (cwV 3 hts gX8_costBy_X8_deep rfl rfl rfl ⟨rfl, dh_X8_deep⟩ ⟨Nat.le_of_ble_eq_true rfl, Nat.le_of_ble_eq_true rfl⟩) hK hN hZ hP (hP.sub [0, 1, 2] rfl) (va_recv (q := (RX8, TX8, 38)) hK hP (ci := 8) (q0 := 0) rfl rfl) rfl hl.1 rfl (Nat.le_of_ble_eq_true rfl) dX8_costBy_94 ⟨Nat.le_of_ble_eq_true rfl, Nat.le_of_ble_eq_true rfl⟩ (fun r_75 hr_75 => ?_)
        obtain ⟨g_76, g_77, hsr_75_0⟩ := hr_75
        refine lv_iload hx hb dX8_costBy_97 (lv_at hl 6 rfl) ?_
        refine lv_aload_n hx hb dX8_costBy_99 rfl (lv_at hl 2 rfl) ?_
        refine va_get (D := D) (ci := 8) (v := .ref mta) (C := RX8) (T := TX8) (N := 38) hx hb hts hi_X8_costBy_8 hown hK hP 0 rfl rfl 13 (by decide) (hts (.fieldLink RX8 35 "TheLiningsInItModel" "takes" "[I") (List.mem_of_getElem? (i := 3) rfl)) (fun _ h9 => h9) rfl dX8_costBy_100 ?_
        refine lv_iload_n hx hb dX8_costBy_103 rfl (lv_at hl 3 rfl) ?_
        refine va_iald hx hb hK hP 3 0 rfl rfl (zf_in (by omega) (by omega)) dX8_costBy_104 ?_
        refine lv_topi (fun y_78 ey_78 => ?_)
        obtain rfl : x_65 = y_78 := ex_65.trans ey_78.symm
        refine lv_isub hx hb dX8_costBy_105 ?_
        refine lv_topi (fun y_79 ey_79 => ?_)
        obtain rfl : x_66 = y_79 := ex_66.trans ey_79.symm
        refine zc_V (As := [.int 0, .int r_75, .int x_66]) (rest := [.int x_73, .int x_71]) ⟨hx, hb, hml, hown, hts⟩ (c_F_M_leastCost_0 l D cI cJ cZ cP cS po m0 mrf mki mpa mta mla msl mco mhe mso msi msh mce mca mwo mnu mte mwa mke mma mth mtr (npu) (nte) (nat_) (nde) (nto) (nse) (nhu) (nga) (nsd) (nfa) (nba) (npl) (nen) (nnu) (nwr) (nra) (nik) gki gpa gta gco (r_75) (x_66) hy0 hy1 hy2 hy3 hy4 hy5 hy6 hy7 hy8 hy9 hy10 hy11 hy12 hy13 (by omega) (by omega) (by omega) (by omega) hp_gki hp_gpa hp_gta hp_gco) (cwV 3 hts gX8_costBy_X8_leastCost rfl rfl rfl ⟨rfl, dh_X8_leastCost⟩ ⟨Nat.le_of_ble_eq_true rfl, Nat.le_of_ble_eq_true rfl⟩) hK hN hZ hP (hP.sub [0, 1, 2, 3, 4] rfl) (va_recv (q := (RX8, TX8, 38)) hK hP (ci := 8) (q0 := 0) rfl rfl) rfl hl.1 rfl (Nat.le_of_ble_eq_true rfl) dX8_costBy_106 ⟨Nat.le_of_ble_eq_true rfl, Nat.le_of_ble_eq_true rfl⟩ (fun r_80 hr_80 => ?_)
        obtain ⟨g_81, g_82, hsr_80_0⟩ := hr_80
        refine lv_imul hx hb dX8_costBy_109 ?_
        refine lv_topi (fun x_83 ex_83 => ?_)
        obtain ⟨mx_83, nx_83, ox_83⟩ := zf_mulc (a := x_73) (b := r_80) (x := x_73.toInt) (y := r_80.toInt) (P := 99) rfl rfl ⟨by omega, by omega⟩ ⟨by omega, by omega⟩ (by decide)
        rw [← ex_83] at mx_83
        refine lv_iadd hx hb dX8_costBy_110 ?_
        refine lv_topi (fun x_84 ex_84 => ?_)
        have qx_84 : x_84.toInt = x_71.toInt + x_83.toInt := by rw [ex_84]; exact zf_add rfl rfl (by omega) (by omega)
        refine lv_istore (lv' := [(6, .int x_84), (5, .int r_1), (0, .ref m0), (1, .int p_), (2, .int 1), (3, .int d), (4, .int sec)]) hx hb dX8_costBy_111 hl (by decide) rfl (fun ls hl => ?_)
        refine lv_iload hx hb dX8_costBy_113 (lv_at hl 0 rfl) ?_
        have hmx9 := zMix (w := r_1.toInt) (x := r_67.toInt) (y := r_80.toInt) (P := 99) ⟨by omega, by omega⟩ ⟨by omega, by omega⟩ ⟨by omega, by omega⟩
        rw [show 12 - r_1.toInt = x_73.toInt from by omega] at hmx9
        exact W.iret (v := x_84) hx hb hr (fun t ht hW => ⟨x_84, rfl, ⟨by omega, by omega, (show (x_84 : Int32).toInt = zLb (zLn gki gpa gta npu.toInt.toNat nhu.toInt (gco 0).toInt (gco 1).toInt (gco 2).toInt 0) (gco 0).toInt (zPw 1) (gki p_.toNatClampNeg).toInt (gpa p_.toNatClampNeg).toInt (gta p_.toNatClampNeg).toInt nhu.toInt d.toInt sec.toInt from by (have nx_44 : (gco 0).toInt = x_44.toInt := (by rw [ex_44, show (0 : Int32).toNatClampNeg = 0 from by decide]); have zw := hsr_1_0; have E1 : r_1.toInt * (zLn gki gpa gta npu.toInt.toNat nhu.toInt (gco 0).toInt (gco 1).toInt (gco 2).toInt 0) (zShl (gki p_.toNatClampNeg).toInt (gpa p_.toNatClampNeg).toInt d.toInt) (sec.toInt - (gta p_.toNatClampNeg).toInt) = x_70.toInt := (by rw [← hsr_62_0.1 (by decide), show sec.toInt - (gta p_.toNatClampNeg).toInt = (x_66 : Int32).toInt from by (have z : (gta p_.toNatClampNeg).toInt = x_65.toInt := (by rw [ex_65]); omega), ← hsr_67_0]; omega); have E2 : (12 - r_1.toInt) * (zLn gki gpa gta npu.toInt.toNat nhu.toInt (gco 0).toInt (gco 1).toInt (gco 2).toInt 0) (zDpr (gki p_.toNatClampNeg).toInt (gpa p_.toNatClampNeg).toInt nhu.toInt d.toInt) (sec.toInt - (gta p_.toNatClampNeg).toInt) = x_83.toInt := (by rw [← hsr_75_0.2 (by decide), show sec.toInt - (gta p_.toNatClampNeg).toInt = (x_66 : Int32).toInt from by (have z : (gta p_.toNatClampNeg).toInt = x_65.toInt := (by rw [ex_65]); omega), ← hsr_80_0, show 12 - r_1.toInt = x_73.toInt from by omega]; omega); have nk : (gki p_.toNatClampNeg).toInt = x_4.toInt := (by rw [ex_4]); unfold zLb zBy1; rw [← zw, E1, E2, show zPw 1 = 12 from by decide]; first | (rw [if_pos (by omega)]; omega) | (rw [if_neg (by omega)]; omega)))⟩, ht⟩) (fun q hq => by cases hq) dX8_costBy_115
set_option maxHeartbeats 4000000 in
set_option maxRecDepth 100000 in
theorem c_F_M_leastCost_1 (l : Launch) (D : va_G) (cI cJ cZ cP cS : ClassId) (po : zPool) (m0 mrf mki mpa mta mla msl mco mhe mso msi msh mce mca mwo mnu mte mwa mke mma mth mtr : Nat) (npu nte nat_ nde nto nse nhu nga nsd nfa nba npl nen nnu nwr nra nik : Int32) (gki gpa gta gco : Nat → Int32) (d sec : Int32) (hy0 : 0 ≤ npu.toInt) (hy1 : npu.toInt ≤ 8) (hy2 : 4 ≤ nte.toInt) (hy3 : nte.toInt ≤ 40) (hy4 : 0 ≤ nat_.toInt) (hy5 : nat_.toInt ≤ 40) (hy6 : 0 ≤ nde.toInt) (hy7 : nde.toInt ≤ 24) (hy8 : 0 ≤ nhu.toInt) (hy9 : nhu.toInt ≤ 9) (hy10 : 0 ≤ nra.toInt) (hy11 : nra.toInt ≤ 2000) (hy12 : 0 ≤ nik.toInt) (hy13 : nik.toInt ≤ 1) (hy14 : 0 ≤ d.toInt) (hy15 : d.toInt ≤ 24) (hy16 : 0 ≤ sec.toInt) (hy17 : sec.toInt ≤ 300) (hp_gki : zRg gki (0) 6) (hp_gpa : zRg gpa (0) 9) (hp_gta : zRg gta (0) 60) (hp_gco : zRg gco (0) 99) : Met l yX8_leastCost wsX8_leastCost ({ frames := 3, cells := 0, slots := 0, locals := 73 }) (va_Pc [.ref m0, .int 1, .int d, .int sec] (zR D (zKT cI cJ cZ cP cS) po [(zMO m0 npu nte nat_ nde nto nse nhu nga nsd nfa mrf mki mpa mta mla msl mco mhe mso msi msh mce mca mwo mnu mte nba npl nen nnu nwr mwa mke mma mth mtr nra nik), (mki, .inl (cI, 8, .inl gki)), (mpa, .inl (cI, 8, .inl gpa)), (mta, .inl (cI, 8, .inl gta)), (mco, .inl (cI, 3, .inl gco))])) (vp_Si (fun r => 0 ≤ r.toInt ∧ r.toInt ≤ 1188 ∧ (r.toInt = (zLn gki gpa gta npu.toInt.toNat nhu.toInt (gco 0).toInt (gco 1).toInt (gco 2).toInt 1) d.toInt sec.toInt))) 0 0 (fun _ => False) := by
  refine Met.ofW (cc := cX8_leastCost) (maxL := 7) (ret := (some .int)) (by decide) rfl ?_
  intro p e s m args below meth c s₁ B hml hv
  obtain ⟨rfl, hP, hK, hN, hZ⟩ := hv
  have hx := B.exec
  have hb := B.bytes
  have hr := B.returns
  have hts := atoms_spec (ws := wsX8_leastCost) B.pre
  have hown : s.vm.findClass RX8 = some m.cls := findClass_of_methodNamed B.named
  have hlocks := B.notSynchronized
  have hl := lv_entry ([.ref m0, .int 1, .int d, .int sec]) (n := 7) (Nat.le_of_ble_eq_true rfl)
  rw [lg_entry_eq]
  generalize (lg_sl ([.ref m0, .int 1, .int d, .int sec]) ++ List.replicate (7 - (lg_sl ([.ref m0, .int 1, .int d, .int sec])).length) Slot.unset).toArray = ls at hl ⊢
  replace hl : lv_has ls 7 [(0, .ref m0), (1, .int 1), (2, .int d), (3, .int sec)] := hl
  refine lv_iload_n hx hb dX8_leastCost_0 rfl (lv_at hl 2 rfl) ?_
  refine lv_if_ne (tgt := 6) hx hb dX8_leastCost_1 (by decide) (fun c_1 => ?_) (fun c_1 => ?_)
  · have fc_1 : d.toInt ≠ 0 := zf_ne c_1 rfl (by decide)
    refine lv_aload_n hx hb dX8_leastCost_6 rfl (lv_at hl 0 rfl) ?_
    refine va_get (D := D) (ci := 8) (v := .ref mco) (C := RX8) (T := TX8) (N := 38) hx hb hts hi_X8_leastCost_8 hown hK hP 0 rfl rfl 16 (by decide) (hts (.fieldLink RX8 44 "TheLiningsInItModel" "cost" "[I") (List.mem_of_getElem? (i := 1) rfl)) (fun _ h9 => h9) rfl dX8_leastCost_7 ?_
    refine lv_iconst (v := 2) hx hb dX8_leastCost_10 (by decide) ?_
    refine va_iald hx hb hK hP 4 0 rfl rfl (zf_in (by decide) (by decide)) dX8_leastCost_11 ?_
    refine lv_topi (fun x_2 ex_2 => ?_)
    have bx_2 : 0 ≤ x_2.toInt ∧ x_2.toInt ≤ 99 := by rw [ex_2]; exact hp_gco _
    refine lv_aload_n hx hb dX8_leastCost_12 rfl (lv_at hl 0 rfl) ?_
    refine lv_iload_n hx hb dX8_leastCost_13 rfl (lv_at hl 1 rfl) ?_
    refine zc_V (As := [.int 1]) (rest := [.int x_2]) ⟨hx, hb, hml, hown, hts⟩ (c_M_power_1 l D cI cJ cZ cP cS po m0 mrf mki mpa mta mla msl mco mhe mso msi msh mce mca mwo mnu mte mwa mke mma mth mtr (npu) (nte) (nat_) (nde) (nto) (nse) (nhu) (nga) (nsd) (nfa) (nba) (npl) (nen) (nnu) (nwr) (nra) (nik) hy0 hy1 hy2 hy3 hy4 hy5 hy6 hy7 hy8 hy9 hy10 hy11 hy12 hy13) (cwV 1 hts gX8_leastCost_X8_power rfl rfl rfl ⟨rfl, dh_X8_power⟩ ⟨Nat.le_of_ble_eq_true rfl, Nat.le_of_ble_eq_true rfl⟩) hK hN hZ hP (hP.sub [0] rfl) (va_recv (q := (RX8, TX8, 38)) hK hP (ci := 8) (q0 := 0) rfl rfl) rfl hl.1 rfl (Nat.le_of_ble_eq_true rfl) dX8_leastCost_14 ⟨Nat.le_of_ble_eq_true rfl, Nat.le_of_ble_eq_true rfl⟩ (fun r_3 hr_3 => ?_)
    obtain rfl := hr_3
    refine lv_imul hx hb dX8_leastCost_17 ?_
    refine lv_topi (fun x_4 ex_4 => ?_)
    have qx_4 : x_4.toInt = x_2.toInt * 12 := by rw [ex_4]; exact zf_mul rfl (by decide) (by omega) (by omega)
    refine lv_istore (lv' := [(4, .int x_4), (0, .ref m0), (1, .int 1), (2, .int d), (3, .int sec)]) hx hb dX8_leastCost_18 hl (by decide) rfl (fun ls hl => ?_)
    refine lv_iload_n hx hb dX8_leastCost_20 rfl (lv_at hl 4 rfl) ?_
    refine lv_bipush (v := 30) hx hb dX8_leastCost_21 (by decide) ?_
    refine lv_icmp_lt (tgt := 57) hx hb dX8_leastCost_23 (by decide) (fun c_5 => ?_) (fun c_5 => ?_)
    · have fc_5 : sec.toInt < 30 := zf_lt c_5 rfl (by decide)
      refine lv_iconst (v := 0) hx hb dX8_leastCost_57 (by decide) ?_
      refine lv_istore (lv' := [(5, .int 0), (4, .int x_4), (0, .ref m0), (1, .int 1), (2, .int d), (3, .int sec)]) hx hb dX8_leastCost_58 hl (by decide) rfl (fun ls hl => ?_)
      obtain ⟨i_60, hi_60⟩ : ∃ i : Int32, i = 0 := ⟨_, rfl⟩
      replace hl : lv_has ls 7 [(5, .int i_60), (4, .int x_4), (0, .ref m0), (1, .int 1), (2, .int d), (3, .int sec)] := by rw [hi_60]; exact lv_sub hl [0, 1, 2, 3, 4, 5] rfl
      have h1i_60 : i_60.toInt = 0 := by rw [hi_60]; decide
      obtain ⟨nfu, hni_60⟩ : ∃ nq9 : Nat, npu.toInt ≤ i_60.toInt + (nq9 : Int) := ⟨((npu.toInt : Int) - 0).toNat, by omega⟩
      have hloi_60 : 0 ≤ i_60.toInt := by omega
      obtain ⟨v_6, hv_6⟩ : ∃ g : Int32, g = x_4 := ⟨_, rfl⟩
      replace hl : lv_has ls 7 [(5, .int i_60), (4, .int v_6), (0, .ref m0), (1, .int 1), (2, .int d), (3, .int sec)] := by rw [hv_6]; exact hl
      have hbv_6 : 0 ≤ v_6.toInt ∧ v_6.toInt ≤ 1188 := by rw [hv_6]; exact ⟨by omega, by omega⟩
      have hvi_60_0 : (v_6 : Int32).toInt = zFi gta d.toInt sec.toInt (zPw 1 * zAt (gco 1).toInt (gco 2).toInt sec.toInt) (zLv (zLn gki gpa gta npu.toInt.toNat nhu.toInt (gco 0).toInt (gco 1).toInt (gco 2).toInt 0) gki gpa gta (gco 0).toInt (zPw 1) nhu.toInt d.toInt sec.toInt) i_60.toInt.toNat := by
        (try rw [hi_60]); (try rw [hv_6]); (rw [(show ((0 : Int32).toInt.toNat) = 0 from by decide)]; show _ = zPw 1 * zAt (gco 1).toInt (gco 2).toInt sec.toInt; (have nx_2 : (gco 2).toInt = x_2.toInt := (by rw [ex_2, show (2 : Int32).toNatClampNeg = 2 from by decide]); unfold zAt; rw [show zPw 1 = 12 from by decide]; first | (rw [if_neg (by omega)]; omega) | (rw [if_pos (by omega)]; omega)))
      have hvi_60_1 : i_60.toInt ≤ npu.toInt := by
        (try rw [hi_60]); (try rw [hv_6]); (have k0 : (0 : Int32).toInt = 0 := (by decide); omega)
      clear h1i_60 hi_60 hv_6
      revert hni_60
      revert hloi_60
      revert hvi_60_1
      revert hvi_60_0
      revert hbv_6
      revert hl
      revert ls
      revert v_6
      revert i_60
      induction nfu with
      | zero =>
        intro i_60 v_6 ls hl hbv_6 hvi_60_0 hvi_60_1 hloi_60 hni_60
        have hzi_60 : npu.toInt ≤ i_60.toInt := by omega
        refine lv_iload hx hb dX8_leastCost_60 (lv_at hl 0 rfl) ?_
        refine lv_aload_n hx hb dX8_leastCost_62 rfl (lv_at hl 2 rfl) ?_
        refine va_get (D := D) (ci := 8) (v := .int npu) (C := RX8) (T := TX8) (N := 38) hx hb hts hi_X8_leastCost_8 hown hK hP 0 rfl rfl 0 (by decide) (hts (.fieldLink RX8 90 "TheLiningsInItModel" "pulls" "I") (List.mem_of_getElem? (i := 2) rfl)) (fun _ h9 => h9) rfl dX8_leastCost_63 ?_
        refine lv_icmp_ge (tgt := 120) hx hb dX8_leastCost_66 (by decide) (fun c_7 => ?_) (fun c_7 => ?_)
        · have fc_7 : npu.toInt ≤ i_60.toInt := zf_le c_7 rfl rfl
          refine lv_iload hx hb dX8_leastCost_120 (lv_at hl 1 rfl) ?_
          exact W.iret (v := v_6) hx hb hr (fun t ht hW => ⟨v_6, rfl, ⟨by omega, by omega, (show (v_6 : Int32).toInt = (zLn gki gpa gta npu.toInt.toNat nhu.toInt (gco 0).toInt (gco 1).toInt (gco 2).toInt 1) d.toInt sec.toInt from by (have h9 : i_60.toInt.toNat = npu.toInt.toNat := (by omega); have z := hvi_60_0; rw [h9] at z; rw [zLn_s, if_neg (by omega)]; exact z))⟩, ht⟩) (fun q hq => by cases hq) dX8_leastCost_122
        · exfalso; have fc_7 : i_60.toInt < npu.toInt := zf_nle c_7 rfl rfl; omega
      | succ nfu ih =>
        intro i_60 v_6 ls hl hbv_6 hvi_60_0 hvi_60_1 hloi_60 hni_60
        refine lv_iload hx hb dX8_leastCost_60 (lv_at hl 0 rfl) ?_
        refine lv_aload_n hx hb dX8_leastCost_62 rfl (lv_at hl 2 rfl) ?_
        refine va_get (D := D) (ci := 8) (v := .int npu) (C := RX8) (T := TX8) (N := 38) hx hb hts hi_X8_leastCost_8 hown hK hP 0 rfl rfl 0 (by decide) (hts (.fieldLink RX8 90 "TheLiningsInItModel" "pulls" "I") (List.mem_of_getElem? (i := 2) rfl)) (fun _ h9 => h9) rfl dX8_leastCost_63 ?_
        refine lv_icmp_ge (tgt := 120) hx hb dX8_leastCost_66 (by decide) (fun c_8 => ?_) (fun c_8 => ?_)
        · have fc_8 : npu.toInt ≤ i_60.toInt := zf_le c_8 rfl rfl
          refine lv_iload hx hb dX8_leastCost_120 (lv_at hl 1 rfl) ?_
          exact W.iret (v := v_6) hx hb hr (fun t ht hW => ⟨v_6, rfl, ⟨by omega, by omega, (show (v_6 : Int32).toInt = (zLn gki gpa gta npu.toInt.toNat nhu.toInt (gco 0).toInt (gco 1).toInt (gco 2).toInt 1) d.toInt sec.toInt from by (have h9 : i_60.toInt.toNat = npu.toInt.toNat := (by omega); have z := hvi_60_0; rw [h9] at z; rw [zLn_s, if_neg (by omega)]; exact z))⟩, ht⟩) (fun q hq => by cases hq) dX8_leastCost_122
        · have fc_8 : i_60.toInt < npu.toInt := zf_nle c_8 rfl rfl
          refine lv_iload_n hx hb dX8_leastCost_69 rfl (lv_at hl 3 rfl) ?_
          refine lv_if_le (tgt := 120) hx hb dX8_leastCost_70 (by decide) (fun c_9 => ?_) (fun c_9 => ?_)
          · exact absurd c_9 (by decide)
          · refine lv_aload_n hx hb dX8_leastCost_73 rfl (lv_at hl 2 rfl) ?_
            refine lv_iload hx hb dX8_leastCost_74 (lv_at hl 0 rfl) ?_
            refine lv_iload_n hx hb dX8_leastCost_76 rfl (lv_at hl 4 rfl) ?_
            refine lv_iload_n hx hb dX8_leastCost_77 rfl (lv_at hl 5 rfl) ?_
            refine zc_V (As := [.int i_60, .int d, .int sec]) (rest := []) ⟨hx, hb, hml, hown, hts⟩ (c_F_M_mayBe l D cI cJ cZ cP cS po m0 mrf mki mpa mta mla msl mco mhe mso msi msh mce mca mwo mnu mte mwa mke mma mth mtr (npu) (nte) (nat_) (nde) (nto) (nse) (nhu) (nga) (nsd) (nfa) (nba) (npl) (nen) (nnu) (nwr) (nra) (nik) gta (i_60) (d) (sec) hy0 hy1 hy2 hy3 hy4 hy5 hy6 hy7 hy8 hy9 hy10 hy11 hy12 hy13 (by omega) (by omega) hp_gta) (cwV 3 hts gX8_leastCost_X8_mayBe rfl rfl rfl ⟨rfl, dh_X8_mayBe⟩ ⟨Nat.le_of_ble_eq_true rfl, Nat.le_of_ble_eq_true rfl⟩) hK hN hZ hP (hP.sub [0, 3] rfl) (va_recv (q := (RX8, TX8, 38)) hK hP (ci := 8) (q0 := 0) rfl rfl) rfl hl.1 rfl (Nat.le_of_ble_eq_true rfl) dX8_leastCost_78 ⟨Nat.le_of_ble_eq_true rfl, Nat.le_of_ble_eq_true rfl⟩ (fun r_10 hr_10 => ?_)
            obtain ⟨g_11, g_12, hsr_10_0⟩ := hr_10
            refine lv_if_ne (tgt := 87) hx hb dX8_leastCost_81 (by decide) (fun c_13 => ?_) (fun c_13 => ?_)
            · have fc_13 : r_10.toInt ≠ 0 := zf_ne c_13 rfl (by decide)
              have htl9 : (gta i_60.toNatClampNeg).toInt ≤ sec.toInt := (hsr_10_0.mp (by omega)).2
              refine lv_aload_n hx hb dX8_leastCost_87 rfl (lv_at hl 2 rfl) ?_
              refine lv_iload hx hb dX8_leastCost_88 (lv_at hl 0 rfl) ?_
              refine lv_iload_n hx hb dX8_leastCost_90 rfl (lv_at hl 3 rfl) ?_
              refine lv_iload_n hx hb dX8_leastCost_91 rfl (lv_at hl 4 rfl) ?_
              refine lv_iload_n hx hb dX8_leastCost_92 rfl (lv_at hl 5 rfl) ?_
              refine zc_V (As := [.int i_60, .int 1, .int d, .int sec]) (rest := []) ⟨hx, hb, hml, hown, hts⟩ (c_F_M_costBy_1 l D cI cJ cZ cP cS po m0 mrf mki mpa mta mla msl mco mhe mso msi msh mce mca mwo mnu mte mwa mke mma mth mtr (npu) (nte) (nat_) (nde) (nto) (nse) (nhu) (nga) (nsd) (nfa) (nba) (npl) (nen) (nnu) (nwr) (nra) (nik) gki gpa gta gco (i_60) (d) (sec) hy0 hy1 hy2 hy3 hy4 hy5 hy6 hy7 hy8 hy9 hy10 hy11 hy12 hy13 (by omega) (by omega) hy14 hy15 hy16 hy17 (by first | assumption | omega) hp_gki hp_gpa hp_gta hp_gco) (cwV 4 hts gX8_leastCost_X8_costBy rfl rfl rfl ⟨rfl, dh_X8_costBy⟩ ⟨Nat.le_of_ble_eq_true rfl, Nat.le_of_ble_eq_true rfl⟩) hK hN hZ hP (hP.sub [0, 1, 2, 3, 4] rfl) (va_recv (q := (RX8, TX8, 38)) hK hP (ci := 8) (q0 := 0) rfl rfl) rfl hl.1 rfl (Nat.le_of_ble_eq_true rfl) dX8_leastCost_93 ⟨Nat.le_of_ble_eq_true rfl, Nat.le_of_ble_eq_true rfl⟩ (fun r_14 hr_14 => ?_)
              obtain ⟨g_15, g_16, hsr_14_0⟩ := hr_14
              refine lv_istore (lv' := [(6, .int r_14), (5, .int i_60), (4, .int v_6), (0, .ref m0), (1, .int 1), (2, .int d), (3, .int sec)]) hx hb dX8_leastCost_96 hl (by decide) rfl (fun ls hl => ?_)
              refine lv_iload hx hb dX8_leastCost_98 (lv_at hl 0 rfl) ?_
              refine lv_iload hx hb dX8_leastCost_100 (lv_at hl 2 rfl) ?_
              refine lv_icmp_ge (tgt := 110) hx hb dX8_leastCost_102 (by decide) (fun c_17 => ?_) (fun c_17 => ?_)
              · have fc_17 : v_6.toInt ≤ r_14.toInt := zf_le c_17 rfl rfl
                refine lv_iload hx hb dX8_leastCost_110 (lv_at hl 2 rfl) ?_
                refine lv_istore (lv' := [(4, .int v_6), (6, .int r_14), (5, .int i_60), (0, .ref m0), (1, .int 1), (2, .int d), (3, .int sec)]) hx hb dX8_leastCost_112 hl (by decide) rfl (fun ls hl => ?_)
                obtain ⟨x_18, ex_18⟩ : ∃ y : Int32, y = i_60 + 1 := ⟨_, rfl⟩
                have qx_18 : x_18.toInt = i_60.toInt + 1 := dw_inc ex_18 fc_8
                refine lv_iinc (v := x_18) (lv' := [(5, .int x_18), (4, .int v_6), (6, .int r_14), (0, .ref m0), (1, .int 1), (2, .int d), (3, .int sec)]) hx hb dX8_leastCost_114 hl (k := 2) rfl ex_18.symm (by decide) rfl (fun ls hl => ?_)
                refine lv_goto (tgt := 60) hx hb dX8_leastCost_117 (by decide) ?_
                exact ih x_18 v_6 _ (lv_sub hl [0, 1, 3, 4, 5, 6] rfl) hbv_6 (show (v_6 : Int32).toInt = zFi gta d.toInt sec.toInt (zPw 1 * zAt (gco 1).toInt (gco 2).toInt sec.toInt) (zLv (zLn gki gpa gta npu.toInt.toNat nhu.toInt (gco 0).toInt (gco 1).toInt (gco 2).toInt 0) gki gpa gta (gco 0).toInt (zPw 1) nhu.toInt d.toInt sec.toInt) x_18.toInt.toNat from by (have hx : x_18.toInt.toNat = i_60.toInt.toNat + 1 := (by omega); have y9 : i_60.toNatClampNeg = i_60.toInt.toNat := rfl; have hm := hsr_10_0; rw [y9] at hm; rw [hx, zFi_y (hm.mp (by omega)), ← hvi_60_0]; have zr := hsr_14_0; rw [y9] at zr; have zr2 : r_14.toInt = (zLv (zLn gki gpa gta npu.toInt.toNat nhu.toInt (gco 0).toInt (gco 1).toInt (gco 2).toInt 0) gki gpa gta (gco 0).toInt (zPw 1) nhu.toInt d.toInt sec.toInt) i_60.toInt.toNat := zr; omega)) (show x_18.toInt ≤ npu.toInt from by omega) (dw_lo hloi_60 qx_18) (dw_hn hni_60 qx_18)
              · have fc_17 : r_14.toInt < v_6.toInt := zf_nle c_17 rfl rfl
                refine lv_iload hx hb dX8_leastCost_105 (lv_at hl 0 rfl) ?_
                refine lv_goto (tgt := 112) hx hb dX8_leastCost_107 (by decide) ?_
                refine lv_istore (lv' := [(4, .int r_14), (6, .int r_14), (5, .int i_60), (0, .ref m0), (1, .int 1), (2, .int d), (3, .int sec)]) hx hb dX8_leastCost_112 hl (by decide) rfl (fun ls hl => ?_)
                obtain ⟨x_19, ex_19⟩ : ∃ y : Int32, y = i_60 + 1 := ⟨_, rfl⟩
                have qx_19 : x_19.toInt = i_60.toInt + 1 := dw_inc ex_19 fc_8
                refine lv_iinc (v := x_19) (lv' := [(5, .int x_19), (4, .int r_14), (6, .int r_14), (0, .ref m0), (1, .int 1), (2, .int d), (3, .int sec)]) hx hb dX8_leastCost_114 hl (k := 2) rfl ex_19.symm (by decide) rfl (fun ls hl => ?_)
                refine lv_goto (tgt := 60) hx hb dX8_leastCost_117 (by decide) ?_
                exact ih x_19 r_14 _ (lv_sub hl [0, 1, 3, 4, 5, 6] rfl) ⟨by omega, by omega⟩ (show (r_14 : Int32).toInt = zFi gta d.toInt sec.toInt (zPw 1 * zAt (gco 1).toInt (gco 2).toInt sec.toInt) (zLv (zLn gki gpa gta npu.toInt.toNat nhu.toInt (gco 0).toInt (gco 1).toInt (gco 2).toInt 0) gki gpa gta (gco 0).toInt (zPw 1) nhu.toInt d.toInt sec.toInt) x_19.toInt.toNat from by (have hx : x_19.toInt.toNat = i_60.toInt.toNat + 1 := (by omega); have y9 : i_60.toNatClampNeg = i_60.toInt.toNat := rfl; have hm := hsr_10_0; rw [y9] at hm; rw [hx, zFi_y (hm.mp (by omega)), ← hvi_60_0]; have zr := hsr_14_0; rw [y9] at zr; have zr2 : r_14.toInt = (zLv (zLn gki gpa gta npu.toInt.toNat nhu.toInt (gco 0).toInt (gco 1).toInt (gco 2).toInt 0) gki gpa gta (gco 0).toInt (zPw 1) nhu.toInt d.toInt sec.toInt) i_60.toInt.toNat := zr; omega)) (show x_19.toInt ≤ npu.toInt from by omega) (dw_lo hloi_60 qx_19) (dw_hn hni_60 qx_19)
            · have fc_13 : r_10.toInt = 0 := zf_eq c_13 rfl (by decide)
              refine lv_goto (tgt := 114) hx hb dX8_leastCost_84 (by decide) ?_
              obtain ⟨x_20, ex_20⟩ : ∃ y : Int32, y = i_60 + 1 := ⟨_, rfl⟩
              have qx_20 : x_20.toInt = i_60.toInt + 1 := dw_inc ex_20 fc_8
              refine lv_iinc (v := x_20) (lv' := [(5, .int x_20), (4, .int v_6), (0, .ref m0), (1, .int 1), (2, .int d), (3, .int sec)]) hx hb dX8_leastCost_114 hl (k := 0) rfl ex_20.symm (by decide) rfl (fun ls hl => ?_)
              refine lv_goto (tgt := 60) hx hb dX8_leastCost_117 (by decide) ?_
              exact ih x_20 v_6 _ (lv_sub hl [0, 1, 2, 3, 4, 5] rfl) hbv_6 (show (v_6 : Int32).toInt = zFi gta d.toInt sec.toInt (zPw 1 * zAt (gco 1).toInt (gco 2).toInt sec.toInt) (zLv (zLn gki gpa gta npu.toInt.toNat nhu.toInt (gco 0).toInt (gco 1).toInt (gco 2).toInt 0) gki gpa gta (gco 0).toInt (zPw 1) nhu.toInt d.toInt sec.toInt) x_20.toInt.toNat from by (have hx : x_20.toInt.toNat = i_60.toInt.toNat + 1 := (by omega); have y9 : i_60.toNatClampNeg = i_60.toInt.toNat := rfl; have hm := hsr_10_0; rw [y9] at hm; rw [hx, zFi_n (fun z => by (have z1 := hm.mpr z; omega))]; exact hvi_60_0)) (show x_20.toInt ≤ npu.toInt from by omega) (dw_lo hloi_60 qx_20) (dw_hn hni_60 qx_20)
    · have fc_5 : 30 ≤ sec.toInt := zf_nlt c_5 rfl (by decide)
      refine lv_aload_n hx hb dX8_leastCost_26 rfl (lv_at hl 1 rfl) ?_
      refine va_get (D := D) (ci := 8) (v := .ref mco) (C := RX8) (T := TX8) (N := 38) hx hb hts hi_X8_leastCost_8 hown hK hP 0 rfl rfl 16 (by decide) (hts (.fieldLink RX8 44 "TheLiningsInItModel" "cost" "[I") (List.mem_of_getElem? (i := 1) rfl)) (fun _ h9 => h9) rfl dX8_leastCost_27 ?_
      refine lv_iconst (v := 1) hx hb dX8_leastCost_30 (by decide) ?_
      refine va_iald hx hb hK hP 4 0 rfl rfl (zf_in (by decide) (by decide)) dX8_leastCost_31 ?_
      refine lv_topi (fun x_21 ex_21 => ?_)
      have bx_21 : 0 ≤ x_21.toInt ∧ x_21.toInt ≤ 99 := by rw [ex_21]; exact hp_gco _
      refine lv_aload_n hx hb dX8_leastCost_32 rfl (lv_at hl 1 rfl) ?_
      refine lv_iload_n hx hb dX8_leastCost_33 rfl (lv_at hl 2 rfl) ?_
      refine zc_V (As := [.int 1]) (rest := [.int x_21]) ⟨hx, hb, hml, hown, hts⟩ (c_M_power_1 l D cI cJ cZ cP cS po m0 mrf mki mpa mta mla msl mco mhe mso msi msh mce mca mwo mnu mte mwa mke mma mth mtr (npu) (nte) (nat_) (nde) (nto) (nse) (nhu) (nga) (nsd) (nfa) (nba) (npl) (nen) (nnu) (nwr) (nra) (nik) hy0 hy1 hy2 hy3 hy4 hy5 hy6 hy7 hy8 hy9 hy10 hy11 hy12 hy13) (cwV 1 hts gX8_leastCost_X8_power rfl rfl rfl ⟨rfl, dh_X8_power⟩ ⟨Nat.le_of_ble_eq_true rfl, Nat.le_of_ble_eq_true rfl⟩) hK hN hZ hP (hP.sub [0] rfl) (va_recv (q := (RX8, TX8, 38)) hK hP (ci := 8) (q0 := 0) rfl rfl) rfl hl.1 rfl (Nat.le_of_ble_eq_true rfl) dX8_leastCost_34 ⟨Nat.le_of_ble_eq_true rfl, Nat.le_of_ble_eq_true rfl⟩ (fun r_22 hr_22 => ?_)
      obtain rfl := hr_22
      refine lv_imul hx hb dX8_leastCost_37 ?_
      refine lv_topi (fun x_23 ex_23 => ?_)
      have qx_23 : x_23.toInt = x_21.toInt * 12 := by rw [ex_23]; exact zf_mul rfl (by decide) (by omega) (by omega)
      refine lv_iload hx hb dX8_leastCost_38 (lv_at hl 0 rfl) ?_
      refine lv_icmp_ge (tgt := 57) hx hb dX8_leastCost_40 (by decide) (fun c_24 => ?_) (fun c_24 => ?_)
      · have fc_24 : x_4.toInt ≤ x_23.toInt := zf_le c_24 rfl rfl
        refine lv_iconst (v := 0) hx hb dX8_leastCost_57 (by decide) ?_
        refine lv_istore (lv' := [(5, .int 0), (4, .int x_4), (0, .ref m0), (1, .int 1), (2, .int d), (3, .int sec)]) hx hb dX8_leastCost_58 hl (by decide) rfl (fun ls hl => ?_)
        obtain ⟨i_60, hi_60⟩ : ∃ i : Int32, i = 0 := ⟨_, rfl⟩
        replace hl : lv_has ls 7 [(5, .int i_60), (4, .int x_4), (0, .ref m0), (1, .int 1), (2, .int d), (3, .int sec)] := by rw [hi_60]; exact lv_sub hl [0, 1, 2, 3, 4, 5] rfl
        have h1i_60 : i_60.toInt = 0 := by rw [hi_60]; decide
        obtain ⟨nfu, hni_60⟩ : ∃ nq9 : Nat, npu.toInt ≤ i_60.toInt + (nq9 : Int) := ⟨((npu.toInt : Int) - 0).toNat, by omega⟩
        have hloi_60 : 0 ≤ i_60.toInt := by omega
        obtain ⟨v_25, hv_25⟩ : ∃ g : Int32, g = x_4 := ⟨_, rfl⟩
        replace hl : lv_has ls 7 [(5, .int i_60), (4, .int v_25), (0, .ref m0), (1, .int 1), (2, .int d), (3, .int sec)] := by rw [hv_25]; exact hl
        have hbv_25 : 0 ≤ v_25.toInt ∧ v_25.toInt ≤ 1188 := by rw [hv_25]; exact ⟨by omega, by omega⟩
        have hvi_60_0 : (v_25 : Int32).toInt = zFi gta d.toInt sec.toInt (zPw 1 * zAt (gco 1).toInt (gco 2).toInt sec.toInt) (zLv (zLn gki gpa gta npu.toInt.toNat nhu.toInt (gco 0).toInt (gco 1).toInt (gco 2).toInt 0) gki gpa gta (gco 0).toInt (zPw 1) nhu.toInt d.toInt sec.toInt) i_60.toInt.toNat := by
          (try rw [hi_60]); (try rw [hv_25]); (rw [(show ((0 : Int32).toInt.toNat) = 0 from by decide)]; show _ = zPw 1 * zAt (gco 1).toInt (gco 2).toInt sec.toInt; (have nx_2 : (gco 2).toInt = x_2.toInt := (by rw [ex_2, show (2 : Int32).toNatClampNeg = 2 from by decide]); have nx_21 : (gco 1).toInt = x_21.toInt := (by rw [ex_21, show (1 : Int32).toNatClampNeg = 1 from by decide]); unfold zAt; rw [show zPw 1 = 12 from by decide]; first | (rw [if_pos (by omega)]; omega) | (rw [if_neg (by omega)]; omega)))
        have hvi_60_1 : i_60.toInt ≤ npu.toInt := by
          (try rw [hi_60]); (try rw [hv_25]); (have k0 : (0 : Int32).toInt = 0 := (by decide); omega)
        clear h1i_60 hi_60 hv_25
        revert hni_60
        revert hloi_60
        revert hvi_60_1
        revert hvi_60_0
        revert hbv_25
        revert hl
        revert ls
        revert v_25
        revert i_60
        induction nfu with
        | zero =>
          intro i_60 v_25 ls hl hbv_25 hvi_60_0 hvi_60_1 hloi_60 hni_60
          have hzi_60 : npu.toInt ≤ i_60.toInt := by omega
          refine lv_iload hx hb dX8_leastCost_60 (lv_at hl 0 rfl) ?_
          refine lv_aload_n hx hb dX8_leastCost_62 rfl (lv_at hl 2 rfl) ?_
          refine va_get (D := D) (ci := 8) (v := .int npu) (C := RX8) (T := TX8) (N := 38) hx hb hts hi_X8_leastCost_8 hown hK hP 0 rfl rfl 0 (by decide) (hts (.fieldLink RX8 90 "TheLiningsInItModel" "pulls" "I") (List.mem_of_getElem? (i := 2) rfl)) (fun _ h9 => h9) rfl dX8_leastCost_63 ?_
          refine lv_icmp_ge (tgt := 120) hx hb dX8_leastCost_66 (by decide) (fun c_26 => ?_) (fun c_26 => ?_)
          · have fc_26 : npu.toInt ≤ i_60.toInt := zf_le c_26 rfl rfl
            refine lv_iload hx hb dX8_leastCost_120 (lv_at hl 1 rfl) ?_
            exact W.iret (v := v_25) hx hb hr (fun t ht hW => ⟨v_25, rfl, ⟨by omega, by omega, (show (v_25 : Int32).toInt = (zLn gki gpa gta npu.toInt.toNat nhu.toInt (gco 0).toInt (gco 1).toInt (gco 2).toInt 1) d.toInt sec.toInt from by (have h9 : i_60.toInt.toNat = npu.toInt.toNat := (by omega); have z := hvi_60_0; rw [h9] at z; rw [zLn_s, if_neg (by omega)]; exact z))⟩, ht⟩) (fun q hq => by cases hq) dX8_leastCost_122
          · exfalso; have fc_26 : i_60.toInt < npu.toInt := zf_nle c_26 rfl rfl; omega
        | succ nfu ih =>
          intro i_60 v_25 ls hl hbv_25 hvi_60_0 hvi_60_1 hloi_60 hni_60
          refine lv_iload hx hb dX8_leastCost_60 (lv_at hl 0 rfl) ?_
          refine lv_aload_n hx hb dX8_leastCost_62 rfl (lv_at hl 2 rfl) ?_
          refine va_get (D := D) (ci := 8) (v := .int npu) (C := RX8) (T := TX8) (N := 38) hx hb hts hi_X8_leastCost_8 hown hK hP 0 rfl rfl 0 (by decide) (hts (.fieldLink RX8 90 "TheLiningsInItModel" "pulls" "I") (List.mem_of_getElem? (i := 2) rfl)) (fun _ h9 => h9) rfl dX8_leastCost_63 ?_
          refine lv_icmp_ge (tgt := 120) hx hb dX8_leastCost_66 (by decide) (fun c_27 => ?_) (fun c_27 => ?_)
          · have fc_27 : npu.toInt ≤ i_60.toInt := zf_le c_27 rfl rfl
            refine lv_iload hx hb dX8_leastCost_120 (lv_at hl 1 rfl) ?_
            exact W.iret (v := v_25) hx hb hr (fun t ht hW => ⟨v_25, rfl, ⟨by omega, by omega, (show (v_25 : Int32).toInt = (zLn gki gpa gta npu.toInt.toNat nhu.toInt (gco 0).toInt (gco 1).toInt (gco 2).toInt 1) d.toInt sec.toInt from by (have h9 : i_60.toInt.toNat = npu.toInt.toNat := (by omega); have z := hvi_60_0; rw [h9] at z; rw [zLn_s, if_neg (by omega)]; exact z))⟩, ht⟩) (fun q hq => by cases hq) dX8_leastCost_122
          · have fc_27 : i_60.toInt < npu.toInt := zf_nle c_27 rfl rfl
            refine lv_iload_n hx hb dX8_leastCost_69 rfl (lv_at hl 3 rfl) ?_
            refine lv_if_le (tgt := 120) hx hb dX8_leastCost_70 (by decide) (fun c_28 => ?_) (fun c_28 => ?_)
            · exact absurd c_28 (by decide)
            · refine lv_aload_n hx hb dX8_leastCost_73 rfl (lv_at hl 2 rfl) ?_
              refine lv_iload hx hb dX8_leastCost_74 (lv_at hl 0 rfl) ?_
              refine lv_iload_n hx hb dX8_leastCost_76 rfl (lv_at hl 4 rfl) ?_
              refine lv_iload_n hx hb dX8_leastCost_77 rfl (lv_at hl 5 rfl) ?_
              refine zc_V (As := [.int i_60, .int d, .int sec]) (rest := []) ⟨hx, hb, hml, hown, hts⟩ (c_F_M_mayBe l D cI cJ cZ cP cS po m0 mrf mki mpa mta mla msl mco mhe mso msi msh mce mca mwo mnu mte mwa mke mma mth mtr (npu) (nte) (nat_) (nde) (nto) (nse) (nhu) (nga) (nsd) (nfa) (nba) (npl) (nen) (nnu) (nwr) (nra) (nik) gta (i_60) (d) (sec) hy0 hy1 hy2 hy3 hy4 hy5 hy6 hy7 hy8 hy9 hy10 hy11 hy12 hy13 (by omega) (by omega) hp_gta) (cwV 3 hts gX8_leastCost_X8_mayBe rfl rfl rfl ⟨rfl, dh_X8_mayBe⟩ ⟨Nat.le_of_ble_eq_true rfl, Nat.le_of_ble_eq_true rfl⟩) hK hN hZ hP (hP.sub [0, 3] rfl) (va_recv (q := (RX8, TX8, 38)) hK hP (ci := 8) (q0 := 0) rfl rfl) rfl hl.1 rfl (Nat.le_of_ble_eq_true rfl) dX8_leastCost_78 ⟨Nat.le_of_ble_eq_true rfl, Nat.le_of_ble_eq_true rfl⟩ (fun r_29 hr_29 => ?_)
              obtain ⟨g_30, g_31, hsr_29_0⟩ := hr_29
              refine lv_if_ne (tgt := 87) hx hb dX8_leastCost_81 (by decide) (fun c_32 => ?_) (fun c_32 => ?_)
              · have fc_32 : r_29.toInt ≠ 0 := zf_ne c_32 rfl (by decide)
                have htl9 : (gta i_60.toNatClampNeg).toInt ≤ sec.toInt := (hsr_29_0.mp (by omega)).2
                refine lv_aload_n hx hb dX8_leastCost_87 rfl (lv_at hl 2 rfl) ?_
                refine lv_iload hx hb dX8_leastCost_88 (lv_at hl 0 rfl) ?_
                refine lv_iload_n hx hb dX8_leastCost_90 rfl (lv_at hl 3 rfl) ?_
                refine lv_iload_n hx hb dX8_leastCost_91 rfl (lv_at hl 4 rfl) ?_
                refine lv_iload_n hx hb dX8_leastCost_92 rfl (lv_at hl 5 rfl) ?_
                refine zc_V (As := [.int i_60, .int 1, .int d, .int sec]) (rest := []) ⟨hx, hb, hml, hown, hts⟩ (c_F_M_costBy_1 l D cI cJ cZ cP cS po m0 mrf mki mpa mta mla msl mco mhe mso msi msh mce mca mwo mnu mte mwa mke mma mth mtr (npu) (nte) (nat_) (nde) (nto) (nse) (nhu) (nga) (nsd) (nfa) (nba) (npl) (nen) (nnu) (nwr) (nra) (nik) gki gpa gta gco (i_60) (d) (sec) hy0 hy1 hy2 hy3 hy4 hy5 hy6 hy7 hy8 hy9 hy10 hy11 hy12 hy13 (by omega) (by omega) hy14 hy15 hy16 hy17 (by first | assumption | omega) hp_gki hp_gpa hp_gta hp_gco) (cwV 4 hts gX8_leastCost_X8_costBy rfl rfl rfl ⟨rfl, dh_X8_costBy⟩ ⟨Nat.le_of_ble_eq_true rfl, Nat.le_of_ble_eq_true rfl⟩) hK hN hZ hP (hP.sub [0, 1, 2, 3, 4] rfl) (va_recv (q := (RX8, TX8, 38)) hK hP (ci := 8) (q0 := 0) rfl rfl) rfl hl.1 rfl (Nat.le_of_ble_eq_true rfl) dX8_leastCost_93 ⟨Nat.le_of_ble_eq_true rfl, Nat.le_of_ble_eq_true rfl⟩ (fun r_33 hr_33 => ?_)
                obtain ⟨g_34, g_35, hsr_33_0⟩ := hr_33
                refine lv_istore (lv' := [(6, .int r_33), (5, .int i_60), (4, .int v_25), (0, .ref m0), (1, .int 1), (2, .int d), (3, .int sec)]) hx hb dX8_leastCost_96 hl (by decide) rfl (fun ls hl => ?_)
                refine lv_iload hx hb dX8_leastCost_98 (lv_at hl 0 rfl) ?_
                refine lv_iload hx hb dX8_leastCost_100 (lv_at hl 2 rfl) ?_
                refine lv_icmp_ge (tgt := 110) hx hb dX8_leastCost_102 (by decide) (fun c_36 => ?_) (fun c_36 => ?_)
                · have fc_36 : v_25.toInt ≤ r_33.toInt := zf_le c_36 rfl rfl
                  refine lv_iload hx hb dX8_leastCost_110 (lv_at hl 2 rfl) ?_
                  refine lv_istore (lv' := [(4, .int v_25), (6, .int r_33), (5, .int i_60), (0, .ref m0), (1, .int 1), (2, .int d), (3, .int sec)]) hx hb dX8_leastCost_112 hl (by decide) rfl (fun ls hl => ?_)
                  obtain ⟨x_37, ex_37⟩ : ∃ y : Int32, y = i_60 + 1 := ⟨_, rfl⟩
                  have qx_37 : x_37.toInt = i_60.toInt + 1 := dw_inc ex_37 fc_27
                  refine lv_iinc (v := x_37) (lv' := [(5, .int x_37), (4, .int v_25), (6, .int r_33), (0, .ref m0), (1, .int 1), (2, .int d), (3, .int sec)]) hx hb dX8_leastCost_114 hl (k := 2) rfl ex_37.symm (by decide) rfl (fun ls hl => ?_)
                  refine lv_goto (tgt := 60) hx hb dX8_leastCost_117 (by decide) ?_
                  exact ih x_37 v_25 _ (lv_sub hl [0, 1, 3, 4, 5, 6] rfl) hbv_25 (show (v_25 : Int32).toInt = zFi gta d.toInt sec.toInt (zPw 1 * zAt (gco 1).toInt (gco 2).toInt sec.toInt) (zLv (zLn gki gpa gta npu.toInt.toNat nhu.toInt (gco 0).toInt (gco 1).toInt (gco 2).toInt 0) gki gpa gta (gco 0).toInt (zPw 1) nhu.toInt d.toInt sec.toInt) x_37.toInt.toNat from by (have hx : x_37.toInt.toNat = i_60.toInt.toNat + 1 := (by omega); have y9 : i_60.toNatClampNeg = i_60.toInt.toNat := rfl; have hm := hsr_29_0; rw [y9] at hm; rw [hx, zFi_y (hm.mp (by omega)), ← hvi_60_0]; have zr := hsr_33_0; rw [y9] at zr; have zr2 : r_33.toInt = (zLv (zLn gki gpa gta npu.toInt.toNat nhu.toInt (gco 0).toInt (gco 1).toInt (gco 2).toInt 0) gki gpa gta (gco 0).toInt (zPw 1) nhu.toInt d.toInt sec.toInt) i_60.toInt.toNat := zr; omega)) (show x_37.toInt ≤ npu.toInt from by omega) (dw_lo hloi_60 qx_37) (dw_hn hni_60 qx_37)
                · have fc_36 : r_33.toInt < v_25.toInt := zf_nle c_36 rfl rfl
                  refine lv_iload hx hb dX8_leastCost_105 (lv_at hl 0 rfl) ?_
                  refine lv_goto (tgt := 112) hx hb dX8_leastCost_107 (by decide) ?_
                  refine lv_istore (lv' := [(4, .int r_33), (6, .int r_33), (5, .int i_60), (0, .ref m0), (1, .int 1), (2, .int d), (3, .int sec)]) hx hb dX8_leastCost_112 hl (by decide) rfl (fun ls hl => ?_)
                  obtain ⟨x_38, ex_38⟩ : ∃ y : Int32, y = i_60 + 1 := ⟨_, rfl⟩
                  have qx_38 : x_38.toInt = i_60.toInt + 1 := dw_inc ex_38 fc_27
                  refine lv_iinc (v := x_38) (lv' := [(5, .int x_38), (4, .int r_33), (6, .int r_33), (0, .ref m0), (1, .int 1), (2, .int d), (3, .int sec)]) hx hb dX8_leastCost_114 hl (k := 2) rfl ex_38.symm (by decide) rfl (fun ls hl => ?_)
                  refine lv_goto (tgt := 60) hx hb dX8_leastCost_117 (by decide) ?_
                  exact ih x_38 r_33 _ (lv_sub hl [0, 1, 3, 4, 5, 6] rfl) ⟨by omega, by omega⟩ (show (r_33 : Int32).toInt = zFi gta d.toInt sec.toInt (zPw 1 * zAt (gco 1).toInt (gco 2).toInt sec.toInt) (zLv (zLn gki gpa gta npu.toInt.toNat nhu.toInt (gco 0).toInt (gco 1).toInt (gco 2).toInt 0) gki gpa gta (gco 0).toInt (zPw 1) nhu.toInt d.toInt sec.toInt) x_38.toInt.toNat from by (have hx : x_38.toInt.toNat = i_60.toInt.toNat + 1 := (by omega); have y9 : i_60.toNatClampNeg = i_60.toInt.toNat := rfl; have hm := hsr_29_0; rw [y9] at hm; rw [hx, zFi_y (hm.mp (by omega)), ← hvi_60_0]; have zr := hsr_33_0; rw [y9] at zr; have zr2 : r_33.toInt = (zLv (zLn gki gpa gta npu.toInt.toNat nhu.toInt (gco 0).toInt (gco 1).toInt (gco 2).toInt 0) gki gpa gta (gco 0).toInt (zPw 1) nhu.toInt d.toInt sec.toInt) i_60.toInt.toNat := zr; omega)) (show x_38.toInt ≤ npu.toInt from by omega) (dw_lo hloi_60 qx_38) (dw_hn hni_60 qx_38)
              · have fc_32 : r_29.toInt = 0 := zf_eq c_32 rfl (by decide)
                refine lv_goto (tgt := 114) hx hb dX8_leastCost_84 (by decide) ?_
                obtain ⟨x_39, ex_39⟩ : ∃ y : Int32, y = i_60 + 1 := ⟨_, rfl⟩
                have qx_39 : x_39.toInt = i_60.toInt + 1 := dw_inc ex_39 fc_27
                refine lv_iinc (v := x_39) (lv' := [(5, .int x_39), (4, .int v_25), (0, .ref m0), (1, .int 1), (2, .int d), (3, .int sec)]) hx hb dX8_leastCost_114 hl (k := 0) rfl ex_39.symm (by decide) rfl (fun ls hl => ?_)
                refine lv_goto (tgt := 60) hx hb dX8_leastCost_117 (by decide) ?_
                exact ih x_39 v_25 _ (lv_sub hl [0, 1, 2, 3, 4, 5] rfl) hbv_25 (show (v_25 : Int32).toInt = zFi gta d.toInt sec.toInt (zPw 1 * zAt (gco 1).toInt (gco 2).toInt sec.toInt) (zLv (zLn gki gpa gta npu.toInt.toNat nhu.toInt (gco 0).toInt (gco 1).toInt (gco 2).toInt 0) gki gpa gta (gco 0).toInt (zPw 1) nhu.toInt d.toInt sec.toInt) x_39.toInt.toNat from by (have hx : x_39.toInt.toNat = i_60.toInt.toNat + 1 := (by omega); have y9 : i_60.toNatClampNeg = i_60.toInt.toNat := rfl; have hm := hsr_29_0; rw [y9] at hm; rw [hx, zFi_n (fun z => by (have z1 := hm.mpr z; omega))]; exact hvi_60_0)) (show x_39.toInt ≤ npu.toInt from by omega) (dw_lo hloi_60 qx_39) (dw_hn hni_60 qx_39)
      · have fc_24 : x_23.toInt < x_4.toInt := zf_nle c_24 rfl rfl
        refine lv_aload_n hx hb dX8_leastCost_43 rfl (lv_at hl 1 rfl) ?_
        refine va_get (D := D) (ci := 8) (v := .ref mco) (C := RX8) (T := TX8) (N := 38) hx hb hts hi_X8_leastCost_8 hown hK hP 0 rfl rfl 16 (by decide) (hts (.fieldLink RX8 44 "TheLiningsInItModel" "cost" "[I") (List.mem_of_getElem? (i := 1) rfl)) (fun _ h9 => h9) rfl dX8_leastCost_44 ?_
        refine lv_iconst (v := 1) hx hb dX8_leastCost_47 (by decide) ?_
        refine va_iald hx hb hK hP 4 0 rfl rfl (zf_in (by decide) (by decide)) dX8_leastCost_48 ?_
        refine lv_topi (fun y_40 ey_40 => ?_)
        obtain rfl : x_21 = y_40 := ex_21.trans ey_40.symm
        refine lv_aload_n hx hb dX8_leastCost_49 rfl (lv_at hl 1 rfl) ?_
        refine lv_iload_n hx hb dX8_leastCost_50 rfl (lv_at hl 2 rfl) ?_
        refine zc_V (As := [.int 1]) (rest := [.int x_21]) ⟨hx, hb, hml, hown, hts⟩ (c_M_power_1 l D cI cJ cZ cP cS po m0 mrf mki mpa mta mla msl mco mhe mso msi msh mce mca mwo mnu mte mwa mke mma mth mtr (npu) (nte) (nat_) (nde) (nto) (nse) (nhu) (nga) (nsd) (nfa) (nba) (npl) (nen) (nnu) (nwr) (nra) (nik) hy0 hy1 hy2 hy3 hy4 hy5 hy6 hy7 hy8 hy9 hy10 hy11 hy12 hy13) (cwV 1 hts gX8_leastCost_X8_power rfl rfl rfl ⟨rfl, dh_X8_power⟩ ⟨Nat.le_of_ble_eq_true rfl, Nat.le_of_ble_eq_true rfl⟩) hK hN hZ hP (hP.sub [0] rfl) (va_recv (q := (RX8, TX8, 38)) hK hP (ci := 8) (q0 := 0) rfl rfl) rfl hl.1 rfl (Nat.le_of_ble_eq_true rfl) dX8_leastCost_51 ⟨Nat.le_of_ble_eq_true rfl, Nat.le_of_ble_eq_true rfl⟩ (fun r_41 hr_41 => ?_)
        obtain rfl := hr_41
        refine lv_imul hx hb dX8_leastCost_54 ?_
        refine lv_topi (fun y_42 ey_42 => ?_)
        obtain rfl : x_23 = y_42 := ex_23.trans ey_42.symm
        refine lv_istore (lv' := [(4, .int x_23), (0, .ref m0), (1, .int 1), (2, .int d), (3, .int sec)]) hx hb dX8_leastCost_55 hl (by decide) rfl (fun ls hl => ?_)
        refine lv_iconst (v := 0) hx hb dX8_leastCost_57 (by decide) ?_
        refine lv_istore (lv' := [(5, .int 0), (4, .int x_23), (0, .ref m0), (1, .int 1), (2, .int d), (3, .int sec)]) hx hb dX8_leastCost_58 hl (by decide) rfl (fun ls hl => ?_)
        obtain ⟨i_60, hi_60⟩ : ∃ i : Int32, i = 0 := ⟨_, rfl⟩
        replace hl : lv_has ls 7 [(5, .int i_60), (4, .int x_23), (0, .ref m0), (1, .int 1), (2, .int d), (3, .int sec)] := by rw [hi_60]; exact lv_sub hl [0, 1, 2, 3, 4, 5] rfl
        have h1i_60 : i_60.toInt = 0 := by rw [hi_60]; decide
        obtain ⟨nfu, hni_60⟩ : ∃ nq9 : Nat, npu.toInt ≤ i_60.toInt + (nq9 : Int) := ⟨((npu.toInt : Int) - 0).toNat, by omega⟩
        have hloi_60 : 0 ≤ i_60.toInt := by omega
        obtain ⟨v_43, hv_43⟩ : ∃ g : Int32, g = x_23 := ⟨_, rfl⟩
        replace hl : lv_has ls 7 [(5, .int i_60), (4, .int v_43), (0, .ref m0), (1, .int 1), (2, .int d), (3, .int sec)] := by rw [hv_43]; exact hl
        have hbv_43 : 0 ≤ v_43.toInt ∧ v_43.toInt ≤ 1188 := by rw [hv_43]; exact ⟨by omega, by omega⟩
        have hvi_60_0 : (v_43 : Int32).toInt = zFi gta d.toInt sec.toInt (zPw 1 * zAt (gco 1).toInt (gco 2).toInt sec.toInt) (zLv (zLn gki gpa gta npu.toInt.toNat nhu.toInt (gco 0).toInt (gco 1).toInt (gco 2).toInt 0) gki gpa gta (gco 0).toInt (zPw 1) nhu.toInt d.toInt sec.toInt) i_60.toInt.toNat := by
          (try rw [hi_60]); (try rw [hv_43]); (rw [(show ((0 : Int32).toInt.toNat) = 0 from by decide)]; show _ = zPw 1 * zAt (gco 1).toInt (gco 2).toInt sec.toInt; (have nx_2 : (gco 2).toInt = x_2.toInt := (by rw [ex_2, show (2 : Int32).toNatClampNeg = 2 from by decide]); have nx_21 : (gco 1).toInt = x_21.toInt := (by rw [ex_21, show (1 : Int32).toNatClampNeg = 1 from by decide]); unfold zAt; rw [show zPw 1 = 12 from by decide]; first | (rw [if_pos (by omega)]; omega) | (rw [if_neg (by omega)]; omega)))
        have hvi_60_1 : i_60.toInt ≤ npu.toInt := by
          (try rw [hi_60]); (try rw [hv_43]); (have k0 : (0 : Int32).toInt = 0 := (by decide); omega)
        clear h1i_60 hi_60 hv_43
        revert hni_60
        revert hloi_60
        revert hvi_60_1
        revert hvi_60_0
        revert hbv_43
        revert hl
        revert ls
        revert v_43
        revert i_60
        induction nfu with
        | zero =>
          intro i_60 v_43 ls hl hbv_43 hvi_60_0 hvi_60_1 hloi_60 hni_60
          have hzi_60 : npu.toInt ≤ i_60.toInt := by omega
          refine lv_iload hx hb dX8_leastCost_60 (lv_at hl 0 rfl) ?_
          refine lv_aload_n hx hb dX8_leastCost_62 rfl (lv_at hl 2 rfl) ?_
          refine va_get (D := D) (ci := 8) (v := .int npu) (C := RX8) (T := TX8) (N := 38) hx hb hts hi_X8_leastCost_8 hown hK hP 0 rfl rfl 0 (by decide) (hts (.fieldLink RX8 90 "TheLiningsInItModel" "pulls" "I") (List.mem_of_getElem? (i := 2) rfl)) (fun _ h9 => h9) rfl dX8_leastCost_63 ?_
          refine lv_icmp_ge (tgt := 120) hx hb dX8_leastCost_66 (by decide) (fun c_44 => ?_) (fun c_44 => ?_)
          · have fc_44 : npu.toInt ≤ i_60.toInt := zf_le c_44 rfl rfl
            refine lv_iload hx hb dX8_leastCost_120 (lv_at hl 1 rfl) ?_
            exact W.iret (v := v_43) hx hb hr (fun t ht hW => ⟨v_43, rfl, ⟨by omega, by omega, (show (v_43 : Int32).toInt = (zLn gki gpa gta npu.toInt.toNat nhu.toInt (gco 0).toInt (gco 1).toInt (gco 2).toInt 1) d.toInt sec.toInt from by (have h9 : i_60.toInt.toNat = npu.toInt.toNat := (by omega); have z := hvi_60_0; rw [h9] at z; rw [zLn_s, if_neg (by omega)]; exact z))⟩, ht⟩) (fun q hq => by cases hq) dX8_leastCost_122
          · exfalso; have fc_44 : i_60.toInt < npu.toInt := zf_nle c_44 rfl rfl; omega
        | succ nfu ih =>
          intro i_60 v_43 ls hl hbv_43 hvi_60_0 hvi_60_1 hloi_60 hni_60
          refine lv_iload hx hb dX8_leastCost_60 (lv_at hl 0 rfl) ?_
          refine lv_aload_n hx hb dX8_leastCost_62 rfl (lv_at hl 2 rfl) ?_
          refine va_get (D := D) (ci := 8) (v := .int npu) (C := RX8) (T := TX8) (N := 38) hx hb hts hi_X8_leastCost_8 hown hK hP 0 rfl rfl 0 (by decide) (hts (.fieldLink RX8 90 "TheLiningsInItModel" "pulls" "I") (List.mem_of_getElem? (i := 2) rfl)) (fun _ h9 => h9) rfl dX8_leastCost_63 ?_
          refine lv_icmp_ge (tgt := 120) hx hb dX8_leastCost_66 (by decide) (fun c_45 => ?_) (fun c_45 => ?_)
          · have fc_45 : npu.toInt ≤ i_60.toInt := zf_le c_45 rfl rfl
            refine lv_iload hx hb dX8_leastCost_120 (lv_at hl 1 rfl) ?_
            exact W.iret (v := v_43) hx hb hr (fun t ht hW => ⟨v_43, rfl, ⟨by omega, by omega, (show (v_43 : Int32).toInt = (zLn gki gpa gta npu.toInt.toNat nhu.toInt (gco 0).toInt (gco 1).toInt (gco 2).toInt 1) d.toInt sec.toInt from by (have h9 : i_60.toInt.toNat = npu.toInt.toNat := (by omega); have z := hvi_60_0; rw [h9] at z; rw [zLn_s, if_neg (by omega)]; exact z))⟩, ht⟩) (fun q hq => by cases hq) dX8_leastCost_122
          · have fc_45 : i_60.toInt < npu.toInt := zf_nle c_45 rfl rfl
            refine lv_iload_n hx hb dX8_leastCost_69 rfl (lv_at hl 3 rfl) ?_
            refine lv_if_le (tgt := 120) hx hb dX8_leastCost_70 (by decide) (fun c_46 => ?_) (fun c_46 => ?_)
            · exact absurd c_46 (by decide)
            · refine lv_aload_n hx hb dX8_leastCost_73 rfl (lv_at hl 2 rfl) ?_
              refine lv_iload hx hb dX8_leastCost_74 (lv_at hl 0 rfl) ?_
              refine lv_iload_n hx hb dX8_leastCost_76 rfl (lv_at hl 4 rfl) ?_
              refine lv_iload_n hx hb dX8_leastCost_77 rfl (lv_at hl 5 rfl) ?_
              refine zc_V (As := [.int i_60, .int d, .int sec]) (rest := []) ⟨hx, hb, hml, hown, hts⟩ (c_F_M_mayBe l D cI cJ cZ cP cS po m0 mrf mki mpa mta mla msl mco mhe mso msi msh mce mca mwo mnu mte mwa mke mma mth mtr (npu) (nte) (nat_) (nde) (nto) (nse) (nhu) (nga) (nsd) (nfa) (nba) (npl) (nen) (nnu) (nwr) (nra) (nik) gta (i_60) (d) (sec) hy0 hy1 hy2 hy3 hy4 hy5 hy6 hy7 hy8 hy9 hy10 hy11 hy12 hy13 (by omega) (by omega) hp_gta) (cwV 3 hts gX8_leastCost_X8_mayBe rfl rfl rfl ⟨rfl, dh_X8_mayBe⟩ ⟨Nat.le_of_ble_eq_true rfl, Nat.le_of_ble_eq_true rfl⟩) hK hN hZ hP (hP.sub [0, 3] rfl) (va_recv (q := (RX8, TX8, 38)) hK hP (ci := 8) (q0 := 0) rfl rfl) rfl hl.1 rfl (Nat.le_of_ble_eq_true rfl) dX8_leastCost_78 ⟨Nat.le_of_ble_eq_true rfl, Nat.le_of_ble_eq_true rfl⟩ (fun r_47 hr_47 => ?_)
              obtain ⟨g_48, g_49, hsr_47_0⟩ := hr_47
              refine lv_if_ne (tgt := 87) hx hb dX8_leastCost_81 (by decide) (fun c_50 => ?_) (fun c_50 => ?_)
              · have fc_50 : r_47.toInt ≠ 0 := zf_ne c_50 rfl (by decide)
                have htl9 : (gta i_60.toNatClampNeg).toInt ≤ sec.toInt := (hsr_47_0.mp (by omega)).2
                refine lv_aload_n hx hb dX8_leastCost_87 rfl (lv_at hl 2 rfl) ?_
                refine lv_iload hx hb dX8_leastCost_88 (lv_at hl 0 rfl) ?_
                refine lv_iload_n hx hb dX8_leastCost_90 rfl (lv_at hl 3 rfl) ?_
                refine lv_iload_n hx hb dX8_leastCost_91 rfl (lv_at hl 4 rfl) ?_
                refine lv_iload_n hx hb dX8_leastCost_92 rfl (lv_at hl 5 rfl) ?_
                refine zc_V (As := [.int i_60, .int 1, .int d, .int sec]) (rest := []) ⟨hx, hb, hml, hown, hts⟩ (c_F_M_costBy_1 l D cI cJ cZ cP cS po m0 mrf mki mpa mta mla msl mco mhe mso msi msh mce mca mwo mnu mte mwa mke mma mth mtr (npu) (nte) (nat_) (nde) (nto) (nse) (nhu) (nga) (nsd) (nfa) (nba) (npl) (nen) (nnu) (nwr) (nra) (nik) gki gpa gta gco (i_60) (d) (sec) hy0 hy1 hy2 hy3 hy4 hy5 hy6 hy7 hy8 hy9 hy10 hy11 hy12 hy13 (by omega) (by omega) hy14 hy15 hy16 hy17 (by first | assumption | omega) hp_gki hp_gpa hp_gta hp_gco) (cwV 4 hts gX8_leastCost_X8_costBy rfl rfl rfl ⟨rfl, dh_X8_costBy⟩ ⟨Nat.le_of_ble_eq_true rfl, Nat.le_of_ble_eq_true rfl⟩) hK hN hZ hP (hP.sub [0, 1, 2, 3, 4] rfl) (va_recv (q := (RX8, TX8, 38)) hK hP (ci := 8) (q0 := 0) rfl rfl) rfl hl.1 rfl (Nat.le_of_ble_eq_true rfl) dX8_leastCost_93 ⟨Nat.le_of_ble_eq_true rfl, Nat.le_of_ble_eq_true rfl⟩ (fun r_51 hr_51 => ?_)
                obtain ⟨g_52, g_53, hsr_51_0⟩ := hr_51
                refine lv_istore (lv' := [(6, .int r_51), (5, .int i_60), (4, .int v_43), (0, .ref m0), (1, .int 1), (2, .int d), (3, .int sec)]) hx hb dX8_leastCost_96 hl (by decide) rfl (fun ls hl => ?_)
                refine lv_iload hx hb dX8_leastCost_98 (lv_at hl 0 rfl) ?_
                refine lv_iload hx hb dX8_leastCost_100 (lv_at hl 2 rfl) ?_
                refine lv_icmp_ge (tgt := 110) hx hb dX8_leastCost_102 (by decide) (fun c_54 => ?_) (fun c_54 => ?_)
                · have fc_54 : v_43.toInt ≤ r_51.toInt := zf_le c_54 rfl rfl
                  refine lv_iload hx hb dX8_leastCost_110 (lv_at hl 2 rfl) ?_
                  refine lv_istore (lv' := [(4, .int v_43), (6, .int r_51), (5, .int i_60), (0, .ref m0), (1, .int 1), (2, .int d), (3, .int sec)]) hx hb dX8_leastCost_112 hl (by decide) rfl (fun ls hl => ?_)
                  obtain ⟨x_55, ex_55⟩ : ∃ y : Int32, y = i_60 + 1 := ⟨_, rfl⟩
                  have qx_55 : x_55.toInt = i_60.toInt + 1 := dw_inc ex_55 fc_45
                  refine lv_iinc (v := x_55) (lv' := [(5, .int x_55), (4, .int v_43), (6, .int r_51), (0, .ref m0), (1, .int 1), (2, .int d), (3, .int sec)]) hx hb dX8_leastCost_114 hl (k := 2) rfl ex_55.symm (by decide) rfl (fun ls hl => ?_)
                  refine lv_goto (tgt := 60) hx hb dX8_leastCost_117 (by decide) ?_
                  exact ih x_55 v_43 _ (lv_sub hl [0, 1, 3, 4, 5, 6] rfl) hbv_43 (show (v_43 : Int32).toInt = zFi gta d.toInt sec.toInt (zPw 1 * zAt (gco 1).toInt (gco 2).toInt sec.toInt) (zLv (zLn gki gpa gta npu.toInt.toNat nhu.toInt (gco 0).toInt (gco 1).toInt (gco 2).toInt 0) gki gpa gta (gco 0).toInt (zPw 1) nhu.toInt d.toInt sec.toInt) x_55.toInt.toNat from by (have hx : x_55.toInt.toNat = i_60.toInt.toNat + 1 := (by omega); have y9 : i_60.toNatClampNeg = i_60.toInt.toNat := rfl; have hm := hsr_47_0; rw [y9] at hm; rw [hx, zFi_y (hm.mp (by omega)), ← hvi_60_0]; have zr := hsr_51_0; rw [y9] at zr; have zr2 : r_51.toInt = (zLv (zLn gki gpa gta npu.toInt.toNat nhu.toInt (gco 0).toInt (gco 1).toInt (gco 2).toInt 0) gki gpa gta (gco 0).toInt (zPw 1) nhu.toInt d.toInt sec.toInt) i_60.toInt.toNat := zr; omega)) (show x_55.toInt ≤ npu.toInt from by omega) (dw_lo hloi_60 qx_55) (dw_hn hni_60 qx_55)
                · have fc_54 : r_51.toInt < v_43.toInt := zf_nle c_54 rfl rfl
                  refine lv_iload hx hb dX8_leastCost_105 (lv_at hl 0 rfl) ?_
                  refine lv_goto (tgt := 112) hx hb dX8_leastCost_107 (by decide) ?_
                  refine lv_istore (lv' := [(4, .int r_51), (6, .int r_51), (5, .int i_60), (0, .ref m0), (1, .int 1), (2, .int d), (3, .int sec)]) hx hb dX8_leastCost_112 hl (by decide) rfl (fun ls hl => ?_)
                  obtain ⟨x_56, ex_56⟩ : ∃ y : Int32, y = i_60 + 1 := ⟨_, rfl⟩
                  have qx_56 : x_56.toInt = i_60.toInt + 1 := dw_inc ex_56 fc_45
                  refine lv_iinc (v := x_56) (lv' := [(5, .int x_56), (4, .int r_51), (6, .int r_51), (0, .ref m0), (1, .int 1), (2, .int d), (3, .int sec)]) hx hb dX8_leastCost_114 hl (k := 2) rfl ex_56.symm (by decide) rfl (fun ls hl => ?_)
                  refine lv_goto (tgt := 60) hx hb dX8_leastCost_117 (by decide) ?_
                  exact ih x_56 r_51 _ (lv_sub hl [0, 1, 3, 4, 5, 6] rfl) ⟨by omega, by omega⟩ (show (r_51 : Int32).toInt = zFi gta d.toInt sec.toInt (zPw 1 * zAt (gco 1).toInt (gco 2).toInt sec.toInt) (zLv (zLn gki gpa gta npu.toInt.toNat nhu.toInt (gco 0).toInt (gco 1).toInt (gco 2).toInt 0) gki gpa gta (gco 0).toInt (zPw 1) nhu.toInt d.toInt sec.toInt) x_56.toInt.toNat from by (have hx : x_56.toInt.toNat = i_60.toInt.toNat + 1 := (by omega); have y9 : i_60.toNatClampNeg = i_60.toInt.toNat := rfl; have hm := hsr_47_0; rw [y9] at hm; rw [hx, zFi_y (hm.mp (by omega)), ← hvi_60_0]; have zr := hsr_51_0; rw [y9] at zr; have zr2 : r_51.toInt = (zLv (zLn gki gpa gta npu.toInt.toNat nhu.toInt (gco 0).toInt (gco 1).toInt (gco 2).toInt 0) gki gpa gta (gco 0).toInt (zPw 1) nhu.toInt d.toInt sec.toInt) i_60.toInt.toNat := zr; omega)) (show x_56.toInt ≤ npu.toInt from by omega) (dw_lo hloi_60 qx_56) (dw_hn hni_60 qx_56)
              · have fc_50 : r_47.toInt = 0 := zf_eq c_50 rfl (by decide)
                refine lv_goto (tgt := 114) hx hb dX8_leastCost_84 (by decide) ?_
                obtain ⟨x_57, ex_57⟩ : ∃ y : Int32, y = i_60 + 1 := ⟨_, rfl⟩
                have qx_57 : x_57.toInt = i_60.toInt + 1 := dw_inc ex_57 fc_45
                refine lv_iinc (v := x_57) (lv' := [(5, .int x_57), (4, .int v_43), (0, .ref m0), (1, .int 1), (2, .int d), (3, .int sec)]) hx hb dX8_leastCost_114 hl (k := 0) rfl ex_57.symm (by decide) rfl (fun ls hl => ?_)
                refine lv_goto (tgt := 60) hx hb dX8_leastCost_117 (by decide) ?_
                exact ih x_57 v_43 _ (lv_sub hl [0, 1, 2, 3, 4, 5] rfl) hbv_43 (show (v_43 : Int32).toInt = zFi gta d.toInt sec.toInt (zPw 1 * zAt (gco 1).toInt (gco 2).toInt sec.toInt) (zLv (zLn gki gpa gta npu.toInt.toNat nhu.toInt (gco 0).toInt (gco 1).toInt (gco 2).toInt 0) gki gpa gta (gco 0).toInt (zPw 1) nhu.toInt d.toInt sec.toInt) x_57.toInt.toNat from by (have hx : x_57.toInt.toNat = i_60.toInt.toNat + 1 := (by omega); have y9 : i_60.toNatClampNeg = i_60.toInt.toNat := rfl; have hm := hsr_47_0; rw [y9] at hm; rw [hx, zFi_n (fun z => by (have z1 := hm.mpr z; omega))]; exact hvi_60_0)) (show x_57.toInt ≤ npu.toInt from by omega) (dw_lo hloi_60 qx_57) (dw_hn hni_60 qx_57)
  · have fc_1 : d.toInt = 0 := zf_eq c_1 rfl (by decide)
    refine lv_iconst (v := 0) hx hb dX8_leastCost_4 (by decide) ?_
    exact W.iret (v := 0) hx hb hr (fun t ht hW => ⟨0, rfl, ⟨by decide, by decide, (show (0 : Int32).toInt = (zLn gki gpa gta npu.toInt.toNat nhu.toInt (gco 0).toInt (gco 1).toInt (gco 2).toInt 1) d.toInt sec.toInt from by (have k9 : (0 : Int32).toInt = 0 := (by decide); rw [zLn_s, if_pos (by omega)]; exact k9))⟩, ht⟩) (fun q hq => by cases hq) dX8_leastCost_5
set_option maxHeartbeats 4000000 in
set_option maxRecDepth 100000 in
theorem c_F_M_costBy_2 (l : Launch) (D : va_G) (cI cJ cZ cP cS : ClassId) (po : zPool) (m0 mrf mki mpa mta mla msl mco mhe mso msi msh mce mca mwo mnu mte mwa mke mma mth mtr : Nat) (npu nte nat_ nde nto nse nhu nga nsd nfa nba npl nen nnu nwr nra nik : Int32) (gki gpa gta gco : Nat → Int32) (p_ d sec : Int32) (hy0 : 0 ≤ npu.toInt) (hy1 : npu.toInt ≤ 8) (hy2 : 4 ≤ nte.toInt) (hy3 : nte.toInt ≤ 40) (hy4 : 0 ≤ nat_.toInt) (hy5 : nat_.toInt ≤ 40) (hy6 : 0 ≤ nde.toInt) (hy7 : nde.toInt ≤ 24) (hy8 : 0 ≤ nhu.toInt) (hy9 : nhu.toInt ≤ 9) (hy10 : 0 ≤ nra.toInt) (hy11 : nra.toInt ≤ 2000) (hy12 : 0 ≤ nik.toInt) (hy13 : nik.toInt ≤ 1) (hy14 : 0 ≤ p_.toInt) (hy15 : p_.toInt ≤ 7) (hy16 : 0 ≤ d.toInt) (hy17 : d.toInt ≤ 24) (hy18 : 0 ≤ sec.toInt) (hy19 : sec.toInt ≤ 300) (htl : (gta p_.toNatClampNeg).toInt ≤ sec.toInt) (hp_gki : zRg gki (0) 6) (hp_gpa : zRg gpa (0) 9) (hp_gta : zRg gta (0) 60) (hp_gco : zRg gco (0) 99) : Met l yX8_costBy wsX8_costBy ({ frames := 4, cells := 0, slots := 0, locals := 99 }) (va_Pc [.ref m0, .int p_, .int 2, .int d, .int sec] (zR D (zKT cI cJ cZ cP cS) po [(zMO m0 npu nte nat_ nde nto nse nhu nga nsd nfa mrf mki mpa mta mla msl mco mhe mso msi msh mce mca mwo mnu mte nba npl nen nnu nwr mwa mke mma mth mtr nra nik), (mki, .inl (cI, 8, .inl gki)), (mpa, .inl (cI, 8, .inl gpa)), (mta, .inl (cI, 8, .inl gta)), (mco, .inl (cI, 3, .inl gco))])) (vp_Si (fun r => 0 ≤ r.toInt ∧ r.toInt ≤ 28512 ∧ (r.toInt = zLb (zLn gki gpa gta npu.toInt.toNat nhu.toInt (gco 0).toInt (gco 1).toInt (gco 2).toInt 1) (gco 0).toInt (zPw 2) (gki p_.toNatClampNeg).toInt (gpa p_.toNatClampNeg).toInt (gta p_.toNatClampNeg).toInt nhu.toInt d.toInt sec.toInt))) 0 0 (fun _ => False) := by
  refine Met.ofW (cc := cX8_costBy) (maxL := 7) (ret := (some .int)) (by decide) rfl ?_
  intro p e s m args below meth c s₁ B hml hv
  obtain ⟨rfl, hP, hK, hN, hZ⟩ := hv
  have hx := B.exec
  have hb := B.bytes
  have hr := B.returns
  have hts := atoms_spec (ws := wsX8_costBy) B.pre
  have hown : s.vm.findClass RX8 = some m.cls := findClass_of_methodNamed B.named
  have hlocks := B.notSynchronized
  have hl := lv_entry ([.ref m0, .int p_, .int 2, .int d, .int sec]) (n := 7) (Nat.le_of_ble_eq_true rfl)
  rw [lg_entry_eq]
  generalize (lg_sl ([.ref m0, .int p_, .int 2, .int d, .int sec]) ++ List.replicate (7 - (lg_sl ([.ref m0, .int p_, .int 2, .int d, .int sec])).length) Slot.unset).toArray = ls at hl ⊢
  replace hl : lv_has ls 7 [(0, .ref m0), (1, .int p_), (2, .int 2), (3, .int d), (4, .int sec)] := hl
  refine lv_aload_n hx hb dX8_costBy_0 rfl (lv_at hl 0 rfl) ?_
  refine lv_iload_n hx hb dX8_costBy_1 rfl (lv_at hl 1 rfl) ?_
  refine lv_iload_n hx hb dX8_costBy_2 rfl (lv_at hl 3 rfl) ?_
  refine zc_V (As := [.int p_, .int d]) (rest := []) ⟨hx, hb, hml, hown, hts⟩ (c_F_M_ways l D cI cJ cZ cP cS po m0 mrf mki mpa mta mla msl mco mhe mso msi msh mce mca mwo mnu mte mwa mke mma mth mtr (npu) (nte) (nat_) (nde) (nto) (nse) (nhu) (nga) (nsd) (nfa) (nba) (npl) (nen) (nnu) (nwr) (nra) (nik) gki gpa (p_) (d) hy0 hy1 hy2 hy3 hy4 hy5 hy6 hy7 hy8 hy9 hy10 hy11 hy12 hy13 hy14 hy15 hy16 hy17 hp_gki hp_gpa) (cwV 2 hts gX8_costBy_X8_ways rfl rfl rfl ⟨rfl, dh_X8_ways⟩ ⟨Nat.le_of_ble_eq_true rfl, Nat.le_of_ble_eq_true rfl⟩) hK hN hZ hP (hP.sub [0, 1, 2] rfl) (va_recv (q := (RX8, TX8, 38)) hK hP (ci := 8) (q0 := 0) rfl rfl) rfl hl.1 rfl (Nat.le_of_ble_eq_true rfl) dX8_costBy_3 ⟨Nat.le_of_ble_eq_true rfl, Nat.le_of_ble_eq_true rfl⟩ (fun r_1 hr_1 => ?_)
  obtain ⟨g_2, g_3, hsr_1_0⟩ := hr_1
  refine lv_istore (lv' := [(5, .int r_1), (0, .ref m0), (1, .int p_), (2, .int 2), (3, .int d), (4, .int sec)]) hx hb dX8_costBy_6 hl (by decide) rfl (fun ls hl => ?_)
  refine lv_aload_n hx hb dX8_costBy_8 rfl (lv_at hl 1 rfl) ?_
  refine va_get (D := D) (ci := 8) (v := .ref mki) (C := RX8) (T := TX8) (N := 38) hx hb hts hi_X8_costBy_8 hown hK hP 0 rfl rfl 11 (by decide) (hts (.fieldLink RX8 29 "TheLiningsInItModel" "kind" "[I") (List.mem_of_getElem? (i := 1) rfl)) (fun _ h9 => h9) rfl dX8_costBy_9 ?_
  refine lv_iload_n hx hb dX8_costBy_12 rfl (lv_at hl 2 rfl) ?_
  refine va_iald hx hb hK hP 1 0 rfl rfl (zf_in (by omega) (by omega)) dX8_costBy_13 ?_
  refine lv_topi (fun x_4 ex_4 => ?_)
  have bx_4 : 0 ≤ x_4.toInt ∧ x_4.toInt ≤ 6 := by rw [ex_4]; exact hp_gki _
  refine lv_iconst (v := 5) hx hb dX8_costBy_14 (by decide) ?_
  refine lv_icmp_ne (tgt := 33) hx hb dX8_costBy_15 (by decide) (fun c_5 => ?_) (fun c_5 => ?_)
  · have fc_5 : x_4.toInt ≠ 5 := zf_ne c_5 rfl (by decide)
    refine lv_iconst (v := 0) hx hb dX8_costBy_33 (by decide) ?_
    refine lv_istore (lv' := [(6, .int 0), (5, .int r_1), (0, .ref m0), (1, .int p_), (2, .int 2), (3, .int d), (4, .int sec)]) hx hb dX8_costBy_34 hl (by decide) rfl (fun ls hl => ?_)
    refine lv_iload hx hb dX8_costBy_36 (lv_at hl 1 rfl) ?_
    refine lv_if_le (tgt := 72) hx hb dX8_costBy_38 (by decide) (fun c_6 => ?_) (fun c_6 => ?_)
    · have fc_6 : r_1.toInt ≤ 0 := zf_le c_6 rfl (by decide)
      refine lv_iload hx hb dX8_costBy_72 (lv_at hl 1 rfl) ?_
      refine lv_bipush (v := 12) hx hb dX8_costBy_74 (by decide) ?_
      refine lv_icmp_ge (tgt := 113) hx hb dX8_costBy_76 (by decide) (fun c_7 => ?_) (fun c_7 => ?_)
      · exfalso; have fc_7 : 12 ≤ r_1.toInt := zf_le c_7 (by decide) rfl; omega
      · have fc_7 : r_1.toInt < 12 := zf_nle c_7 (by decide) rfl
        refine lv_iload hx hb dX8_costBy_79 (lv_at hl 0 rfl) ?_
        refine lv_bipush (v := 12) hx hb dX8_costBy_81 (by decide) ?_
        refine lv_iload hx hb dX8_costBy_83 (lv_at hl 1 rfl) ?_
        refine lv_isub hx hb dX8_costBy_85 ?_
        refine lv_topi (fun x_8 ex_8 => ?_)
        have qx_8 : x_8.toInt = 12 - r_1.toInt := by rw [ex_8]; exact zf_sub (by decide) rfl (by omega) (by omega)
        refine lv_aload_n hx hb dX8_costBy_86 rfl (lv_at hl 2 rfl) ?_
        refine lv_iload_n hx hb dX8_costBy_87 rfl (lv_at hl 4 rfl) ?_
        refine lv_iconst (v := 1) hx hb dX8_costBy_88 (by decide) ?_
        refine lv_isub hx hb dX8_costBy_89 ?_
        refine lv_topi (fun y_9 ey_9 => ?_)
        obtain rfl : y_9 = 1 := ey_9.trans (by decide)
        refine lv_aload_n hx hb dX8_costBy_90 rfl (lv_at hl 2 rfl) ?_
        refine lv_iload_n hx hb dX8_costBy_91 rfl (lv_at hl 3 rfl) ?_
        refine lv_iload_n hx hb dX8_costBy_92 rfl (lv_at hl 5 rfl) ?_
        refine lv_iconst (v := 0) hx hb dX8_costBy_93 (by decide) ?_
        have kc0 : (0 : Int32).toInt = 0 := by decide
        refine zc_V (As := [.int p_, .int d, .int 0]) (rest := [.int 1, .ref m0, .int x_8, .int 0]) ⟨hx, hb, hml, hown, hts⟩ (c_F_M_deep l D cI cJ cZ cP cS po m0 mrf mki mpa mta mla msl mco mhe mso msi msh mce mca mwo mnu mte mwa mke mma mth mtr (npu) (nte) (nat_) (nde) (nto) (nse) (nhu) (nga) (nsd) (nfa) (nba) (npl) (nen) (nnu) (nwr) (nra) (nik) gki gpa (p_) (d) (0) hy0 hy1 hy2 hy3 hy4 hy5 hy6 hy7 hy8 hy9 hy10 hy11 hy12 hy13 hy14 hy15 hy16 hy17 (by omega) (by omega) hp_gki hp_gpa) (cwV 3 hts gX8_costBy_X8_deep rfl rfl rfl ⟨rfl, dh_X8_deep⟩ ⟨Nat.le_of_ble_eq_true rfl, Nat.le_of_ble_eq_true rfl⟩) hK hN hZ hP (hP.sub [0, 1, 2] rfl) (va_recv (q := (RX8, TX8, 38)) hK hP (ci := 8) (q0 := 0) rfl rfl) rfl hl.1 rfl (Nat.le_of_ble_eq_true rfl) dX8_costBy_94 ⟨Nat.le_of_ble_eq_true rfl, Nat.le_of_ble_eq_true rfl⟩ (fun r_10 hr_10 => ?_)
        obtain ⟨g_11, g_12, hsr_10_0⟩ := hr_10
        refine lv_iload hx hb dX8_costBy_97 (lv_at hl 6 rfl) ?_
        refine lv_aload_n hx hb dX8_costBy_99 rfl (lv_at hl 2 rfl) ?_
        refine va_get (D := D) (ci := 8) (v := .ref mta) (C := RX8) (T := TX8) (N := 38) hx hb hts hi_X8_costBy_8 hown hK hP 0 rfl rfl 13 (by decide) (hts (.fieldLink RX8 35 "TheLiningsInItModel" "takes" "[I") (List.mem_of_getElem? (i := 3) rfl)) (fun _ h9 => h9) rfl dX8_costBy_100 ?_
        refine lv_iload_n hx hb dX8_costBy_103 rfl (lv_at hl 3 rfl) ?_
        refine va_iald hx hb hK hP 3 0 rfl rfl (zf_in (by omega) (by omega)) dX8_costBy_104 ?_
        refine lv_topi (fun x_13 ex_13 => ?_)
        have bx_13 : 0 ≤ x_13.toInt ∧ x_13.toInt ≤ 60 := by rw [ex_13]; exact hp_gta _
        have htx_13 : x_13.toInt ≤ sec.toInt := by (rw [ex_13]; exact htl)
        refine lv_isub hx hb dX8_costBy_105 ?_
        refine lv_topi (fun x_14 ex_14 => ?_)
        have qx_14 : x_14.toInt = sec.toInt - x_13.toInt := by rw [ex_14]; exact zf_sub rfl rfl (by omega) (by omega)
        refine zc_V (As := [.int 1, .int r_10, .int x_14]) (rest := [.int x_8, .int 0]) ⟨hx, hb, hml, hown, hts⟩ (c_F_M_leastCost_1 l D cI cJ cZ cP cS po m0 mrf mki mpa mta mla msl mco mhe mso msi msh mce mca mwo mnu mte mwa mke mma mth mtr (npu) (nte) (nat_) (nde) (nto) (nse) (nhu) (nga) (nsd) (nfa) (nba) (npl) (nen) (nnu) (nwr) (nra) (nik) gki gpa gta gco (r_10) (x_14) hy0 hy1 hy2 hy3 hy4 hy5 hy6 hy7 hy8 hy9 hy10 hy11 hy12 hy13 (by omega) (by omega) (by omega) (by omega) hp_gki hp_gpa hp_gta hp_gco) (cwV 3 hts gX8_costBy_X8_leastCost rfl rfl rfl ⟨rfl, dh_X8_leastCost⟩ ⟨Nat.le_of_ble_eq_true rfl, Nat.le_of_ble_eq_true rfl⟩) hK hN hZ hP (hP.sub [0, 1, 2, 3, 4] rfl) (va_recv (q := (RX8, TX8, 38)) hK hP (ci := 8) (q0 := 0) rfl rfl) rfl hl.1 rfl (Nat.le_of_ble_eq_true rfl) dX8_costBy_106 ⟨Nat.le_of_ble_eq_true rfl, Nat.le_of_ble_eq_true rfl⟩ (fun r_15 hr_15 => ?_)
        obtain ⟨g_16, g_17, hsr_15_0⟩ := hr_15
        refine lv_imul hx hb dX8_costBy_109 ?_
        refine lv_topi (fun x_18 ex_18 => ?_)
        obtain ⟨mx_18, nx_18, ox_18⟩ := zf_mulc (a := x_8) (b := r_15) (x := x_8.toInt) (y := r_15.toInt) (P := 1188) rfl rfl ⟨by omega, by omega⟩ ⟨by omega, by omega⟩ (by decide)
        rw [← ex_18] at mx_18
        refine lv_iadd hx hb dX8_costBy_110 ?_
        refine lv_topi (fun x_19 ex_19 => ?_)
        have qx_19 : x_19.toInt = 0 + x_18.toInt := by rw [ex_19]; exact zf_add (by decide) rfl (by omega) (by omega)
        refine lv_istore (lv' := [(6, .int x_19), (5, .int r_1), (0, .ref m0), (1, .int p_), (2, .int 2), (3, .int d), (4, .int sec)]) hx hb dX8_costBy_111 hl (by decide) rfl (fun ls hl => ?_)
        refine lv_iload hx hb dX8_costBy_113 (lv_at hl 0 rfl) ?_
        exact W.iret (v := x_19) hx hb hr (fun t ht hW => ⟨x_19, rfl, ⟨by omega, by omega, (show (x_19 : Int32).toInt = zLb (zLn gki gpa gta npu.toInt.toNat nhu.toInt (gco 0).toInt (gco 1).toInt (gco 2).toInt 1) (gco 0).toInt (zPw 2) (gki p_.toNatClampNeg).toInt (gpa p_.toNatClampNeg).toInt (gta p_.toNatClampNeg).toInt nhu.toInt d.toInt sec.toInt from by (have zw := hsr_1_0; have E1 : r_1.toInt * (zLn gki gpa gta npu.toInt.toNat nhu.toInt (gco 0).toInt (gco 1).toInt (gco 2).toInt 1) (zShl (gki p_.toNatClampNeg).toInt (gpa p_.toNatClampNeg).toInt d.toInt) (sec.toInt - (gta p_.toNatClampNeg).toInt) = 0 := (by rw [show r_1.toInt = 0 from by omega, Int.zero_mul]); have E2 : (12 - r_1.toInt) * (zLn gki gpa gta npu.toInt.toNat nhu.toInt (gco 0).toInt (gco 1).toInt (gco 2).toInt 1) (zDpr (gki p_.toNatClampNeg).toInt (gpa p_.toNatClampNeg).toInt nhu.toInt d.toInt) (sec.toInt - (gta p_.toNatClampNeg).toInt) = x_18.toInt := (by rw [← hsr_10_0.2 (by decide), show sec.toInt - (gta p_.toNatClampNeg).toInt = (x_14 : Int32).toInt from by (have z : (gta p_.toNatClampNeg).toInt = x_13.toInt := (by rw [ex_13]); omega), ← hsr_15_0, show 12 - r_1.toInt = x_8.toInt from by omega]; omega); have nk : (gki p_.toNatClampNeg).toInt = x_4.toInt := (by rw [ex_4]); unfold zLb zBy1; rw [← zw, E1, E2, show zPw 2 = 144 from by decide]; first | (rw [if_neg (by omega)]; omega) | (rw [if_pos (by omega)]; omega)))⟩, ht⟩) (fun q hq => by cases hq) dX8_costBy_115
    · have fc_6 : 0 < r_1.toInt := zf_nle c_6 rfl (by decide)
      refine lv_iload hx hb dX8_costBy_41 (lv_at hl 0 rfl) ?_
      refine lv_iload hx hb dX8_costBy_43 (lv_at hl 1 rfl) ?_
      refine lv_aload_n hx hb dX8_costBy_45 rfl (lv_at hl 2 rfl) ?_
      refine lv_iload_n hx hb dX8_costBy_46 rfl (lv_at hl 4 rfl) ?_
      refine lv_iconst (v := 1) hx hb dX8_costBy_47 (by decide) ?_
      refine lv_isub hx hb dX8_costBy_48 ?_
      refine lv_topi (fun y_20 ey_20 => ?_)
      obtain rfl : y_20 = 1 := ey_20.trans (by decide)
      refine lv_aload_n hx hb dX8_costBy_49 rfl (lv_at hl 2 rfl) ?_
      refine lv_iload_n hx hb dX8_costBy_50 rfl (lv_at hl 3 rfl) ?_
      refine lv_iload_n hx hb dX8_costBy_51 rfl (lv_at hl 5 rfl) ?_
      refine lv_iconst (v := 1) hx hb dX8_costBy_52 (by decide) ?_
      have kc1 : (1 : Int32).toInt = 1 := by decide
      refine zc_V (As := [.int p_, .int d, .int 1]) (rest := [.int 1, .ref m0, .int r_1, .int 0]) ⟨hx, hb, hml, hown, hts⟩ (c_F_M_deep l D cI cJ cZ cP cS po m0 mrf mki mpa mta mla msl mco mhe mso msi msh mce mca mwo mnu mte mwa mke mma mth mtr (npu) (nte) (nat_) (nde) (nto) (nse) (nhu) (nga) (nsd) (nfa) (nba) (npl) (nen) (nnu) (nwr) (nra) (nik) gki gpa (p_) (d) (1) hy0 hy1 hy2 hy3 hy4 hy5 hy6 hy7 hy8 hy9 hy10 hy11 hy12 hy13 hy14 hy15 hy16 hy17 (by omega) (by omega) hp_gki hp_gpa) (cwV 3 hts gX8_costBy_X8_deep rfl rfl rfl ⟨rfl, dh_X8_deep⟩ ⟨Nat.le_of_ble_eq_true rfl, Nat.le_of_ble_eq_true rfl⟩) hK hN hZ hP (hP.sub [0, 1, 2] rfl) (va_recv (q := (RX8, TX8, 38)) hK hP (ci := 8) (q0 := 0) rfl rfl) rfl hl.1 rfl (Nat.le_of_ble_eq_true rfl) dX8_costBy_53 ⟨Nat.le_of_ble_eq_true rfl, Nat.le_of_ble_eq_true rfl⟩ (fun r_21 hr_21 => ?_)
      obtain ⟨g_22, g_23, hsr_21_0⟩ := hr_21
      refine lv_iload hx hb dX8_costBy_56 (lv_at hl 6 rfl) ?_
      refine lv_aload_n hx hb dX8_costBy_58 rfl (lv_at hl 2 rfl) ?_
      refine va_get (D := D) (ci := 8) (v := .ref mta) (C := RX8) (T := TX8) (N := 38) hx hb hts hi_X8_costBy_8 hown hK hP 0 rfl rfl 13 (by decide) (hts (.fieldLink RX8 35 "TheLiningsInItModel" "takes" "[I") (List.mem_of_getElem? (i := 3) rfl)) (fun _ h9 => h9) rfl dX8_costBy_59 ?_
      refine lv_iload_n hx hb dX8_costBy_62 rfl (lv_at hl 3 rfl) ?_
      refine va_iald hx hb hK hP 3 0 rfl rfl (zf_in (by omega) (by omega)) dX8_costBy_63 ?_
      refine lv_topi (fun x_24 ex_24 => ?_)
      have bx_24 : 0 ≤ x_24.toInt ∧ x_24.toInt ≤ 60 := by rw [ex_24]; exact hp_gta _
      have htx_24 : x_24.toInt ≤ sec.toInt := by (rw [ex_24]; exact htl)
      refine lv_isub hx hb dX8_costBy_64 ?_
      refine lv_topi (fun x_25 ex_25 => ?_)
      have qx_25 : x_25.toInt = sec.toInt - x_24.toInt := by rw [ex_25]; exact zf_sub rfl rfl (by omega) (by omega)
      refine zc_V (As := [.int 1, .int r_21, .int x_25]) (rest := [.int r_1, .int 0]) ⟨hx, hb, hml, hown, hts⟩ (c_F_M_leastCost_1 l D cI cJ cZ cP cS po m0 mrf mki mpa mta mla msl mco mhe mso msi msh mce mca mwo mnu mte mwa mke mma mth mtr (npu) (nte) (nat_) (nde) (nto) (nse) (nhu) (nga) (nsd) (nfa) (nba) (npl) (nen) (nnu) (nwr) (nra) (nik) gki gpa gta gco (r_21) (x_25) hy0 hy1 hy2 hy3 hy4 hy5 hy6 hy7 hy8 hy9 hy10 hy11 hy12 hy13 (by omega) (by omega) (by omega) (by omega) hp_gki hp_gpa hp_gta hp_gco) (cwV 3 hts gX8_costBy_X8_leastCost rfl rfl rfl ⟨rfl, dh_X8_leastCost⟩ ⟨Nat.le_of_ble_eq_true rfl, Nat.le_of_ble_eq_true rfl⟩) hK hN hZ hP (hP.sub [0, 1, 2, 3, 4] rfl) (va_recv (q := (RX8, TX8, 38)) hK hP (ci := 8) (q0 := 0) rfl rfl) rfl hl.1 rfl (Nat.le_of_ble_eq_true rfl) dX8_costBy_65 ⟨Nat.le_of_ble_eq_true rfl, Nat.le_of_ble_eq_true rfl⟩ (fun r_26 hr_26 => ?_)
      obtain ⟨g_27, g_28, hsr_26_0⟩ := hr_26
      refine lv_imul hx hb dX8_costBy_68 ?_
      refine lv_topi (fun x_29 ex_29 => ?_)
      obtain ⟨mx_29, nx_29, ox_29⟩ := zf_mulc (a := r_1) (b := r_26) (x := r_1.toInt) (y := r_26.toInt) (P := 1188) rfl rfl ⟨by omega, by omega⟩ ⟨by omega, by omega⟩ (by decide)
      rw [← ex_29] at mx_29
      refine lv_iadd hx hb dX8_costBy_69 ?_
      refine lv_topi (fun x_30 ex_30 => ?_)
      have qx_30 : x_30.toInt = 0 + x_29.toInt := by rw [ex_30]; exact zf_add (by decide) rfl (by omega) (by omega)
      refine lv_istore (lv' := [(6, .int x_30), (5, .int r_1), (0, .ref m0), (1, .int p_), (2, .int 2), (3, .int d), (4, .int sec)]) hx hb dX8_costBy_70 hl (by decide) rfl (fun ls hl => ?_)
      refine lv_iload hx hb dX8_costBy_72 (lv_at hl 1 rfl) ?_
      refine lv_bipush (v := 12) hx hb dX8_costBy_74 (by decide) ?_
      refine lv_icmp_ge (tgt := 113) hx hb dX8_costBy_76 (by decide) (fun c_31 => ?_) (fun c_31 => ?_)
      · have fc_31 : 12 ≤ r_1.toInt := zf_le c_31 (by decide) rfl
        refine lv_iload hx hb dX8_costBy_113 (lv_at hl 0 rfl) ?_
        exact W.iret (v := x_30) hx hb hr (fun t ht hW => ⟨x_30, rfl, ⟨by omega, by omega, (show (x_30 : Int32).toInt = zLb (zLn gki gpa gta npu.toInt.toNat nhu.toInt (gco 0).toInt (gco 1).toInt (gco 2).toInt 1) (gco 0).toInt (zPw 2) (gki p_.toNatClampNeg).toInt (gpa p_.toNatClampNeg).toInt (gta p_.toNatClampNeg).toInt nhu.toInt d.toInt sec.toInt from by (have zw := hsr_1_0; have E1 : r_1.toInt * (zLn gki gpa gta npu.toInt.toNat nhu.toInt (gco 0).toInt (gco 1).toInt (gco 2).toInt 1) (zShl (gki p_.toNatClampNeg).toInt (gpa p_.toNatClampNeg).toInt d.toInt) (sec.toInt - (gta p_.toNatClampNeg).toInt) = x_29.toInt := (by rw [← hsr_21_0.1 (by decide), show sec.toInt - (gta p_.toNatClampNeg).toInt = (x_25 : Int32).toInt from by (have z : (gta p_.toNatClampNeg).toInt = x_24.toInt := (by rw [ex_24]); omega), ← hsr_26_0]; omega); have E2 : (12 - r_1.toInt) * (zLn gki gpa gta npu.toInt.toNat nhu.toInt (gco 0).toInt (gco 1).toInt (gco 2).toInt 1) (zDpr (gki p_.toNatClampNeg).toInt (gpa p_.toNatClampNeg).toInt nhu.toInt d.toInt) (sec.toInt - (gta p_.toNatClampNeg).toInt) = 0 := (by rw [show 12 - r_1.toInt = 0 from by omega, Int.zero_mul]); have nk : (gki p_.toNatClampNeg).toInt = x_4.toInt := (by rw [ex_4]); unfold zLb zBy1; rw [← zw, E1, E2, show zPw 2 = 144 from by decide]; first | (rw [if_neg (by omega)]; omega) | (rw [if_pos (by omega)]; omega)))⟩, ht⟩) (fun q hq => by cases hq) dX8_costBy_115
      · have fc_31 : r_1.toInt < 12 := zf_nle c_31 (by decide) rfl
        refine lv_iload hx hb dX8_costBy_79 (lv_at hl 0 rfl) ?_
        refine lv_bipush (v := 12) hx hb dX8_costBy_81 (by decide) ?_
        refine lv_iload hx hb dX8_costBy_83 (lv_at hl 1 rfl) ?_
        refine lv_isub hx hb dX8_costBy_85 ?_
        refine lv_topi (fun x_32 ex_32 => ?_)
        have qx_32 : x_32.toInt = 12 - r_1.toInt := by rw [ex_32]; exact zf_sub (by decide) rfl (by omega) (by omega)
        refine lv_aload_n hx hb dX8_costBy_86 rfl (lv_at hl 2 rfl) ?_
        refine lv_iload_n hx hb dX8_costBy_87 rfl (lv_at hl 4 rfl) ?_
        refine lv_iconst (v := 1) hx hb dX8_costBy_88 (by decide) ?_
        refine lv_isub hx hb dX8_costBy_89 ?_
        refine lv_topi (fun y_33 ey_33 => ?_)
        obtain rfl : y_33 = 1 := ey_33.trans (by decide)
        refine lv_aload_n hx hb dX8_costBy_90 rfl (lv_at hl 2 rfl) ?_
        refine lv_iload_n hx hb dX8_costBy_91 rfl (lv_at hl 3 rfl) ?_
        refine lv_iload_n hx hb dX8_costBy_92 rfl (lv_at hl 5 rfl) ?_
        refine lv_iconst (v := 0) hx hb dX8_costBy_93 (by decide) ?_
        have kc0 : (0 : Int32).toInt = 0 := by decide
        refine zc_V (As := [.int p_, .int d, .int 0]) (rest := [.int 1, .ref m0, .int x_32, .int x_30]) ⟨hx, hb, hml, hown, hts⟩ (c_F_M_deep l D cI cJ cZ cP cS po m0 mrf mki mpa mta mla msl mco mhe mso msi msh mce mca mwo mnu mte mwa mke mma mth mtr (npu) (nte) (nat_) (nde) (nto) (nse) (nhu) (nga) (nsd) (nfa) (nba) (npl) (nen) (nnu) (nwr) (nra) (nik) gki gpa (p_) (d) (0) hy0 hy1 hy2 hy3 hy4 hy5 hy6 hy7 hy8 hy9 hy10 hy11 hy12 hy13 hy14 hy15 hy16 hy17 (by omega) (by omega) hp_gki hp_gpa) (cwV 3 hts gX8_costBy_X8_deep rfl rfl rfl ⟨rfl, dh_X8_deep⟩ ⟨Nat.le_of_ble_eq_true rfl, Nat.le_of_ble_eq_true rfl⟩) hK hN hZ hP (hP.sub [0, 1, 2] rfl) (va_recv (q := (RX8, TX8, 38)) hK hP (ci := 8) (q0 := 0) rfl rfl) rfl hl.1 rfl (Nat.le_of_ble_eq_true rfl) dX8_costBy_94 ⟨Nat.le_of_ble_eq_true rfl, Nat.le_of_ble_eq_true rfl⟩ (fun r_34 hr_34 => ?_)
        obtain ⟨g_35, g_36, hsr_34_0⟩ := hr_34
        refine lv_iload hx hb dX8_costBy_97 (lv_at hl 6 rfl) ?_
        refine lv_aload_n hx hb dX8_costBy_99 rfl (lv_at hl 2 rfl) ?_
        refine va_get (D := D) (ci := 8) (v := .ref mta) (C := RX8) (T := TX8) (N := 38) hx hb hts hi_X8_costBy_8 hown hK hP 0 rfl rfl 13 (by decide) (hts (.fieldLink RX8 35 "TheLiningsInItModel" "takes" "[I") (List.mem_of_getElem? (i := 3) rfl)) (fun _ h9 => h9) rfl dX8_costBy_100 ?_
        refine lv_iload_n hx hb dX8_costBy_103 rfl (lv_at hl 3 rfl) ?_
        refine va_iald hx hb hK hP 3 0 rfl rfl (zf_in (by omega) (by omega)) dX8_costBy_104 ?_
        refine lv_topi (fun y_37 ey_37 => ?_)
        obtain rfl : x_24 = y_37 := ex_24.trans ey_37.symm
        refine lv_isub hx hb dX8_costBy_105 ?_
        refine lv_topi (fun y_38 ey_38 => ?_)
        obtain rfl : x_25 = y_38 := ex_25.trans ey_38.symm
        refine zc_V (As := [.int 1, .int r_34, .int x_25]) (rest := [.int x_32, .int x_30]) ⟨hx, hb, hml, hown, hts⟩ (c_F_M_leastCost_1 l D cI cJ cZ cP cS po m0 mrf mki mpa mta mla msl mco mhe mso msi msh mce mca mwo mnu mte mwa mke mma mth mtr (npu) (nte) (nat_) (nde) (nto) (nse) (nhu) (nga) (nsd) (nfa) (nba) (npl) (nen) (nnu) (nwr) (nra) (nik) gki gpa gta gco (r_34) (x_25) hy0 hy1 hy2 hy3 hy4 hy5 hy6 hy7 hy8 hy9 hy10 hy11 hy12 hy13 (by omega) (by omega) (by omega) (by omega) hp_gki hp_gpa hp_gta hp_gco) (cwV 3 hts gX8_costBy_X8_leastCost rfl rfl rfl ⟨rfl, dh_X8_leastCost⟩ ⟨Nat.le_of_ble_eq_true rfl, Nat.le_of_ble_eq_true rfl⟩) hK hN hZ hP (hP.sub [0, 1, 2, 3, 4] rfl) (va_recv (q := (RX8, TX8, 38)) hK hP (ci := 8) (q0 := 0) rfl rfl) rfl hl.1 rfl (Nat.le_of_ble_eq_true rfl) dX8_costBy_106 ⟨Nat.le_of_ble_eq_true rfl, Nat.le_of_ble_eq_true rfl⟩ (fun r_39 hr_39 => ?_)
        obtain ⟨g_40, g_41, hsr_39_0⟩ := hr_39
        refine lv_imul hx hb dX8_costBy_109 ?_
        refine lv_topi (fun x_42 ex_42 => ?_)
        obtain ⟨mx_42, nx_42, ox_42⟩ := zf_mulc (a := x_32) (b := r_39) (x := x_32.toInt) (y := r_39.toInt) (P := 1188) rfl rfl ⟨by omega, by omega⟩ ⟨by omega, by omega⟩ (by decide)
        rw [← ex_42] at mx_42
        refine lv_iadd hx hb dX8_costBy_110 ?_
        refine lv_topi (fun x_43 ex_43 => ?_)
        have qx_43 : x_43.toInt = x_30.toInt + x_42.toInt := by rw [ex_43]; exact zf_add rfl rfl (by omega) (by omega)
        refine lv_istore (lv' := [(6, .int x_43), (5, .int r_1), (0, .ref m0), (1, .int p_), (2, .int 2), (3, .int d), (4, .int sec)]) hx hb dX8_costBy_111 hl (by decide) rfl (fun ls hl => ?_)
        refine lv_iload hx hb dX8_costBy_113 (lv_at hl 0 rfl) ?_
        have hmx9 := zMix (w := r_1.toInt) (x := r_26.toInt) (y := r_39.toInt) (P := 1188) ⟨by omega, by omega⟩ ⟨by omega, by omega⟩ ⟨by omega, by omega⟩
        rw [show 12 - r_1.toInt = x_32.toInt from by omega] at hmx9
        exact W.iret (v := x_43) hx hb hr (fun t ht hW => ⟨x_43, rfl, ⟨by omega, by omega, (show (x_43 : Int32).toInt = zLb (zLn gki gpa gta npu.toInt.toNat nhu.toInt (gco 0).toInt (gco 1).toInt (gco 2).toInt 1) (gco 0).toInt (zPw 2) (gki p_.toNatClampNeg).toInt (gpa p_.toNatClampNeg).toInt (gta p_.toNatClampNeg).toInt nhu.toInt d.toInt sec.toInt from by (have zw := hsr_1_0; have E1 : r_1.toInt * (zLn gki gpa gta npu.toInt.toNat nhu.toInt (gco 0).toInt (gco 1).toInt (gco 2).toInt 1) (zShl (gki p_.toNatClampNeg).toInt (gpa p_.toNatClampNeg).toInt d.toInt) (sec.toInt - (gta p_.toNatClampNeg).toInt) = x_29.toInt := (by rw [← hsr_21_0.1 (by decide), show sec.toInt - (gta p_.toNatClampNeg).toInt = (x_25 : Int32).toInt from by (have z : (gta p_.toNatClampNeg).toInt = x_24.toInt := (by rw [ex_24]); omega), ← hsr_26_0]; omega); have E2 : (12 - r_1.toInt) * (zLn gki gpa gta npu.toInt.toNat nhu.toInt (gco 0).toInt (gco 1).toInt (gco 2).toInt 1) (zDpr (gki p_.toNatClampNeg).toInt (gpa p_.toNatClampNeg).toInt nhu.toInt d.toInt) (sec.toInt - (gta p_.toNatClampNeg).toInt) = x_42.toInt := (by rw [← hsr_34_0.2 (by decide), show sec.toInt - (gta p_.toNatClampNeg).toInt = (x_25 : Int32).toInt from by (have z : (gta p_.toNatClampNeg).toInt = x_24.toInt := (by rw [ex_24]); omega), ← hsr_39_0, show 12 - r_1.toInt = x_32.toInt from by omega]; omega); have nk : (gki p_.toNatClampNeg).toInt = x_4.toInt := (by rw [ex_4]); unfold zLb zBy1; rw [← zw, E1, E2, show zPw 2 = 144 from by decide]; first | (rw [if_neg (by omega)]; omega) | (rw [if_pos (by omega)]; omega)))⟩, ht⟩) (fun q hq => by cases hq) dX8_costBy_115
  · have fc_5 : x_4.toInt = 5 := zf_eq c_5 rfl (by decide)
    refine lv_aload_n hx hb dX8_costBy_18 rfl (lv_at hl 1 rfl) ?_
    refine va_get (D := D) (ci := 8) (v := .ref mco) (C := RX8) (T := TX8) (N := 38) hx hb hts hi_X8_costBy_8 hown hK hP 0 rfl rfl 16 (by decide) (hts (.fieldLink RX8 44 "TheLiningsInItModel" "cost" "[I") (List.mem_of_getElem? (i := 2) rfl)) (fun _ h9 => h9) rfl dX8_costBy_19 ?_
    refine lv_iconst (v := 0) hx hb dX8_costBy_22 (by decide) ?_
    refine va_iald hx hb hK hP 4 0 rfl rfl (zf_in (by decide) (by decide)) dX8_costBy_23 ?_
    refine lv_topi (fun x_44 ex_44 => ?_)
    have bx_44 : 0 ≤ x_44.toInt ∧ x_44.toInt ≤ 99 := by rw [ex_44]; exact hp_gco _
    refine lv_aload_n hx hb dX8_costBy_24 rfl (lv_at hl 1 rfl) ?_
    refine lv_iload_n hx hb dX8_costBy_25 rfl (lv_at hl 3 rfl) ?_
    refine zc_V (As := [.int 2]) (rest := [.int x_44]) ⟨hx, hb, hml, hown, hts⟩ (c_M_power_2 l D cI cJ cZ cP cS po m0 mrf mki mpa mta mla msl mco mhe mso msi msh mce mca mwo mnu mte mwa mke mma mth mtr (npu) (nte) (nat_) (nde) (nto) (nse) (nhu) (nga) (nsd) (nfa) (nba) (npl) (nen) (nnu) (nwr) (nra) (nik) hy0 hy1 hy2 hy3 hy4 hy5 hy6 hy7 hy8 hy9 hy10 hy11 hy12 hy13) (cwV 1 hts gX8_costBy_X8_power rfl rfl rfl ⟨rfl, dh_X8_power⟩ ⟨Nat.le_of_ble_eq_true rfl, Nat.le_of_ble_eq_true rfl⟩) hK hN hZ hP (hP.sub [0] rfl) (va_recv (q := (RX8, TX8, 38)) hK hP (ci := 8) (q0 := 0) rfl rfl) rfl hl.1 rfl (Nat.le_of_ble_eq_true rfl) dX8_costBy_26 ⟨Nat.le_of_ble_eq_true rfl, Nat.le_of_ble_eq_true rfl⟩ (fun r_45 hr_45 => ?_)
    obtain rfl := hr_45
    refine lv_imul hx hb dX8_costBy_29 ?_
    refine lv_topi (fun x_46 ex_46 => ?_)
    have qx_46 : x_46.toInt = x_44.toInt * 144 := by rw [ex_46]; exact zf_mul rfl (by decide) (by omega) (by omega)
    refine lv_goto (tgt := 34) hx hb dX8_costBy_30 (by decide) ?_
    refine lv_istore (lv' := [(6, .int x_46), (5, .int r_1), (0, .ref m0), (1, .int p_), (2, .int 2), (3, .int d), (4, .int sec)]) hx hb dX8_costBy_34 hl (by decide) rfl (fun ls hl => ?_)
    refine lv_iload hx hb dX8_costBy_36 (lv_at hl 1 rfl) ?_
    refine lv_if_le (tgt := 72) hx hb dX8_costBy_38 (by decide) (fun c_47 => ?_) (fun c_47 => ?_)
    · have fc_47 : r_1.toInt ≤ 0 := zf_le c_47 rfl (by decide)
      refine lv_iload hx hb dX8_costBy_72 (lv_at hl 1 rfl) ?_
      refine lv_bipush (v := 12) hx hb dX8_costBy_74 (by decide) ?_
      refine lv_icmp_ge (tgt := 113) hx hb dX8_costBy_76 (by decide) (fun c_48 => ?_) (fun c_48 => ?_)
      · exfalso; have fc_48 : 12 ≤ r_1.toInt := zf_le c_48 (by decide) rfl; omega
      · have fc_48 : r_1.toInt < 12 := zf_nle c_48 (by decide) rfl
        refine lv_iload hx hb dX8_costBy_79 (lv_at hl 0 rfl) ?_
        refine lv_bipush (v := 12) hx hb dX8_costBy_81 (by decide) ?_
        refine lv_iload hx hb dX8_costBy_83 (lv_at hl 1 rfl) ?_
        refine lv_isub hx hb dX8_costBy_85 ?_
        refine lv_topi (fun x_49 ex_49 => ?_)
        have qx_49 : x_49.toInt = 12 - r_1.toInt := by rw [ex_49]; exact zf_sub (by decide) rfl (by omega) (by omega)
        refine lv_aload_n hx hb dX8_costBy_86 rfl (lv_at hl 2 rfl) ?_
        refine lv_iload_n hx hb dX8_costBy_87 rfl (lv_at hl 4 rfl) ?_
        refine lv_iconst (v := 1) hx hb dX8_costBy_88 (by decide) ?_
        refine lv_isub hx hb dX8_costBy_89 ?_
        refine lv_topi (fun y_50 ey_50 => ?_)
        obtain rfl : y_50 = 1 := ey_50.trans (by decide)
        refine lv_aload_n hx hb dX8_costBy_90 rfl (lv_at hl 2 rfl) ?_
        refine lv_iload_n hx hb dX8_costBy_91 rfl (lv_at hl 3 rfl) ?_
        refine lv_iload_n hx hb dX8_costBy_92 rfl (lv_at hl 5 rfl) ?_
        refine lv_iconst (v := 0) hx hb dX8_costBy_93 (by decide) ?_
        have kc0 : (0 : Int32).toInt = 0 := by decide
        refine zc_V (As := [.int p_, .int d, .int 0]) (rest := [.int 1, .ref m0, .int x_49, .int x_46]) ⟨hx, hb, hml, hown, hts⟩ (c_F_M_deep l D cI cJ cZ cP cS po m0 mrf mki mpa mta mla msl mco mhe mso msi msh mce mca mwo mnu mte mwa mke mma mth mtr (npu) (nte) (nat_) (nde) (nto) (nse) (nhu) (nga) (nsd) (nfa) (nba) (npl) (nen) (nnu) (nwr) (nra) (nik) gki gpa (p_) (d) (0) hy0 hy1 hy2 hy3 hy4 hy5 hy6 hy7 hy8 hy9 hy10 hy11 hy12 hy13 hy14 hy15 hy16 hy17 (by omega) (by omega) hp_gki hp_gpa) (cwV 3 hts gX8_costBy_X8_deep rfl rfl rfl ⟨rfl, dh_X8_deep⟩ ⟨Nat.le_of_ble_eq_true rfl, Nat.le_of_ble_eq_true rfl⟩) hK hN hZ hP (hP.sub [0, 1, 2] rfl) (va_recv (q := (RX8, TX8, 38)) hK hP (ci := 8) (q0 := 0) rfl rfl) rfl hl.1 rfl (Nat.le_of_ble_eq_true rfl) dX8_costBy_94 ⟨Nat.le_of_ble_eq_true rfl, Nat.le_of_ble_eq_true rfl⟩ (fun r_51 hr_51 => ?_)
        obtain ⟨g_52, g_53, hsr_51_0⟩ := hr_51
        refine lv_iload hx hb dX8_costBy_97 (lv_at hl 6 rfl) ?_
        refine lv_aload_n hx hb dX8_costBy_99 rfl (lv_at hl 2 rfl) ?_
        refine va_get (D := D) (ci := 8) (v := .ref mta) (C := RX8) (T := TX8) (N := 38) hx hb hts hi_X8_costBy_8 hown hK hP 0 rfl rfl 13 (by decide) (hts (.fieldLink RX8 35 "TheLiningsInItModel" "takes" "[I") (List.mem_of_getElem? (i := 3) rfl)) (fun _ h9 => h9) rfl dX8_costBy_100 ?_
        refine lv_iload_n hx hb dX8_costBy_103 rfl (lv_at hl 3 rfl) ?_
        refine va_iald hx hb hK hP 3 0 rfl rfl (zf_in (by omega) (by omega)) dX8_costBy_104 ?_
        refine lv_topi (fun x_54 ex_54 => ?_)
        have bx_54 : 0 ≤ x_54.toInt ∧ x_54.toInt ≤ 60 := by rw [ex_54]; exact hp_gta _
        have htx_54 : x_54.toInt ≤ sec.toInt := by (rw [ex_54]; exact htl)
        refine lv_isub hx hb dX8_costBy_105 ?_
        refine lv_topi (fun x_55 ex_55 => ?_)
        have qx_55 : x_55.toInt = sec.toInt - x_54.toInt := by rw [ex_55]; exact zf_sub rfl rfl (by omega) (by omega)
        refine zc_V (As := [.int 1, .int r_51, .int x_55]) (rest := [.int x_49, .int x_46]) ⟨hx, hb, hml, hown, hts⟩ (c_F_M_leastCost_1 l D cI cJ cZ cP cS po m0 mrf mki mpa mta mla msl mco mhe mso msi msh mce mca mwo mnu mte mwa mke mma mth mtr (npu) (nte) (nat_) (nde) (nto) (nse) (nhu) (nga) (nsd) (nfa) (nba) (npl) (nen) (nnu) (nwr) (nra) (nik) gki gpa gta gco (r_51) (x_55) hy0 hy1 hy2 hy3 hy4 hy5 hy6 hy7 hy8 hy9 hy10 hy11 hy12 hy13 (by omega) (by omega) (by omega) (by omega) hp_gki hp_gpa hp_gta hp_gco) (cwV 3 hts gX8_costBy_X8_leastCost rfl rfl rfl ⟨rfl, dh_X8_leastCost⟩ ⟨Nat.le_of_ble_eq_true rfl, Nat.le_of_ble_eq_true rfl⟩) hK hN hZ hP (hP.sub [0, 1, 2, 3, 4] rfl) (va_recv (q := (RX8, TX8, 38)) hK hP (ci := 8) (q0 := 0) rfl rfl) rfl hl.1 rfl (Nat.le_of_ble_eq_true rfl) dX8_costBy_106 ⟨Nat.le_of_ble_eq_true rfl, Nat.le_of_ble_eq_true rfl⟩ (fun r_56 hr_56 => ?_)
        obtain ⟨g_57, g_58, hsr_56_0⟩ := hr_56
        refine lv_imul hx hb dX8_costBy_109 ?_
        refine lv_topi (fun x_59 ex_59 => ?_)
        obtain ⟨mx_59, nx_59, ox_59⟩ := zf_mulc (a := x_49) (b := r_56) (x := x_49.toInt) (y := r_56.toInt) (P := 1188) rfl rfl ⟨by omega, by omega⟩ ⟨by omega, by omega⟩ (by decide)
        rw [← ex_59] at mx_59
        refine lv_iadd hx hb dX8_costBy_110 ?_
        refine lv_topi (fun x_60 ex_60 => ?_)
        have qx_60 : x_60.toInt = x_46.toInt + x_59.toInt := by rw [ex_60]; exact zf_add rfl rfl (by omega) (by omega)
        refine lv_istore (lv' := [(6, .int x_60), (5, .int r_1), (0, .ref m0), (1, .int p_), (2, .int 2), (3, .int d), (4, .int sec)]) hx hb dX8_costBy_111 hl (by decide) rfl (fun ls hl => ?_)
        refine lv_iload hx hb dX8_costBy_113 (lv_at hl 0 rfl) ?_
        exact W.iret (v := x_60) hx hb hr (fun t ht hW => ⟨x_60, rfl, ⟨by omega, by omega, (show (x_60 : Int32).toInt = zLb (zLn gki gpa gta npu.toInt.toNat nhu.toInt (gco 0).toInt (gco 1).toInt (gco 2).toInt 1) (gco 0).toInt (zPw 2) (gki p_.toNatClampNeg).toInt (gpa p_.toNatClampNeg).toInt (gta p_.toNatClampNeg).toInt nhu.toInt d.toInt sec.toInt from by (have nx_44 : (gco 0).toInt = x_44.toInt := (by rw [ex_44, show (0 : Int32).toNatClampNeg = 0 from by decide]); have zw := hsr_1_0; have E1 : r_1.toInt * (zLn gki gpa gta npu.toInt.toNat nhu.toInt (gco 0).toInt (gco 1).toInt (gco 2).toInt 1) (zShl (gki p_.toNatClampNeg).toInt (gpa p_.toNatClampNeg).toInt d.toInt) (sec.toInt - (gta p_.toNatClampNeg).toInt) = 0 := (by rw [show r_1.toInt = 0 from by omega, Int.zero_mul]); have E2 : (12 - r_1.toInt) * (zLn gki gpa gta npu.toInt.toNat nhu.toInt (gco 0).toInt (gco 1).toInt (gco 2).toInt 1) (zDpr (gki p_.toNatClampNeg).toInt (gpa p_.toNatClampNeg).toInt nhu.toInt d.toInt) (sec.toInt - (gta p_.toNatClampNeg).toInt) = x_59.toInt := (by rw [← hsr_51_0.2 (by decide), show sec.toInt - (gta p_.toNatClampNeg).toInt = (x_55 : Int32).toInt from by (have z : (gta p_.toNatClampNeg).toInt = x_54.toInt := (by rw [ex_54]); omega), ← hsr_56_0, show 12 - r_1.toInt = x_49.toInt from by omega]; omega); have nk : (gki p_.toNatClampNeg).toInt = x_4.toInt := (by rw [ex_4]); unfold zLb zBy1; rw [← zw, E1, E2, show zPw 2 = 144 from by decide]; first | (rw [if_pos (by omega)]; omega) | (rw [if_neg (by omega)]; omega)))⟩, ht⟩) (fun q hq => by cases hq) dX8_costBy_115
    · have fc_47 : 0 < r_1.toInt := zf_nle c_47 rfl (by decide)
      refine lv_iload hx hb dX8_costBy_41 (lv_at hl 0 rfl) ?_
      refine lv_iload hx hb dX8_costBy_43 (lv_at hl 1 rfl) ?_
      refine lv_aload_n hx hb dX8_costBy_45 rfl (lv_at hl 2 rfl) ?_
      refine lv_iload_n hx hb dX8_costBy_46 rfl (lv_at hl 4 rfl) ?_
      refine lv_iconst (v := 1) hx hb dX8_costBy_47 (by decide) ?_
      refine lv_isub hx hb dX8_costBy_48 ?_
      refine lv_topi (fun y_61 ey_61 => ?_)
      obtain rfl : y_61 = 1 := ey_61.trans (by decide)
      refine lv_aload_n hx hb dX8_costBy_49 rfl (lv_at hl 2 rfl) ?_
      refine lv_iload_n hx hb dX8_costBy_50 rfl (lv_at hl 3 rfl) ?_
      refine lv_iload_n hx hb dX8_costBy_51 rfl (lv_at hl 5 rfl) ?_
      refine lv_iconst (v := 1) hx hb dX8_costBy_52 (by decide) ?_
      have kc1 : (1 : Int32).toInt = 1 := by decide
      refine zc_V (As := [.int p_, .int d, .int 1]) (rest := [.int 1, .ref m0, .int r_1, .int x_46]) ⟨hx, hb, hml, hown, hts⟩ (c_F_M_deep l D cI cJ cZ cP cS po m0 mrf mki mpa mta mla msl mco mhe mso msi msh mce mca mwo mnu mte mwa mke mma mth mtr (npu) (nte) (nat_) (nde) (nto) (nse) (nhu) (nga) (nsd) (nfa) (nba) (npl) (nen) (nnu) (nwr) (nra) (nik) gki gpa (p_) (d) (1) hy0 hy1 hy2 hy3 hy4 hy5 hy6 hy7 hy8 hy9 hy10 hy11 hy12 hy13 hy14 hy15 hy16 hy17 (by omega) (by omega) hp_gki hp_gpa) (cwV 3 hts gX8_costBy_X8_deep rfl rfl rfl ⟨rfl, dh_X8_deep⟩ ⟨Nat.le_of_ble_eq_true rfl, Nat.le_of_ble_eq_true rfl⟩) hK hN hZ hP (hP.sub [0, 1, 2] rfl) (va_recv (q := (RX8, TX8, 38)) hK hP (ci := 8) (q0 := 0) rfl rfl) rfl hl.1 rfl (Nat.le_of_ble_eq_true rfl) dX8_costBy_53 ⟨Nat.le_of_ble_eq_true rfl, Nat.le_of_ble_eq_true rfl⟩ (fun r_62 hr_62 => ?_)
      obtain ⟨g_63, g_64, hsr_62_0⟩ := hr_62
      refine lv_iload hx hb dX8_costBy_56 (lv_at hl 6 rfl) ?_
      refine lv_aload_n hx hb dX8_costBy_58 rfl (lv_at hl 2 rfl) ?_
      refine va_get (D := D) (ci := 8) (v := .ref mta) (C := RX8) (T := TX8) (N := 38) hx hb hts hi_X8_costBy_8 hown hK hP 0 rfl rfl 13 (by decide) (hts (.fieldLink RX8 35 "TheLiningsInItModel" "takes" "[I") (List.mem_of_getElem? (i := 3) rfl)) (fun _ h9 => h9) rfl dX8_costBy_59 ?_
      refine lv_iload_n hx hb dX8_costBy_62 rfl (lv_at hl 3 rfl) ?_
      refine va_iald hx hb hK hP 3 0 rfl rfl (zf_in (by omega) (by omega)) dX8_costBy_63 ?_
      refine lv_topi (fun x_65 ex_65 => ?_)
      have bx_65 : 0 ≤ x_65.toInt ∧ x_65.toInt ≤ 60 := by rw [ex_65]; exact hp_gta _
      have htx_65 : x_65.toInt ≤ sec.toInt := by (rw [ex_65]; exact htl)
      refine lv_isub hx hb dX8_costBy_64 ?_
      refine lv_topi (fun x_66 ex_66 => ?_)
      have qx_66 : x_66.toInt = sec.toInt - x_65.toInt := by rw [ex_66]; exact zf_sub rfl rfl (by omega) (by omega)
      refine zc_V (As := [.int 1, .int r_62, .int x_66]) (rest := [.int r_1, .int x_46]) ⟨hx, hb, hml, hown, hts⟩ (c_F_M_leastCost_1 l D cI cJ cZ cP cS po m0 mrf mki mpa mta mla msl mco mhe mso msi msh mce mca mwo mnu mte mwa mke mma mth mtr (npu) (nte) (nat_) (nde) (nto) (nse) (nhu) (nga) (nsd) (nfa) (nba) (npl) (nen) (nnu) (nwr) (nra) (nik) gki gpa gta gco (r_62) (x_66) hy0 hy1 hy2 hy3 hy4 hy5 hy6 hy7 hy8 hy9 hy10 hy11 hy12 hy13 (by omega) (by omega) (by omega) (by omega) hp_gki hp_gpa hp_gta hp_gco) (cwV 3 hts gX8_costBy_X8_leastCost rfl rfl rfl ⟨rfl, dh_X8_leastCost⟩ ⟨Nat.le_of_ble_eq_true rfl, Nat.le_of_ble_eq_true rfl⟩) hK hN hZ hP (hP.sub [0, 1, 2, 3, 4] rfl) (va_recv (q := (RX8, TX8, 38)) hK hP (ci := 8) (q0 := 0) rfl rfl) rfl hl.1 rfl (Nat.le_of_ble_eq_true rfl) dX8_costBy_65 ⟨Nat.le_of_ble_eq_true rfl, Nat.le_of_ble_eq_true rfl⟩ (fun r_67 hr_67 => ?_)
      obtain ⟨g_68, g_69, hsr_67_0⟩ := hr_67
      refine lv_imul hx hb dX8_costBy_68 ?_
      refine lv_topi (fun x_70 ex_70 => ?_)
      obtain ⟨mx_70, nx_70, ox_70⟩ := zf_mulc (a := r_1) (b := r_67) (x := r_1.toInt) (y := r_67.toInt) (P := 1188) rfl rfl ⟨by omega, by omega⟩ ⟨by omega, by omega⟩ (by decide)
      rw [← ex_70] at mx_70
      refine lv_iadd hx hb dX8_costBy_69 ?_
      refine lv_topi (fun x_71 ex_71 => ?_)
      have qx_71 : x_71.toInt = x_46.toInt + x_70.toInt := by rw [ex_71]; exact zf_add rfl rfl (by omega) (by omega)
      refine lv_istore (lv' := [(6, .int x_71), (5, .int r_1), (0, .ref m0), (1, .int p_), (2, .int 2), (3, .int d), (4, .int sec)]) hx hb dX8_costBy_70 hl (by decide) rfl (fun ls hl => ?_)
      refine lv_iload hx hb dX8_costBy_72 (lv_at hl 1 rfl) ?_
      refine lv_bipush (v := 12) hx hb dX8_costBy_74 (by decide) ?_
      refine lv_icmp_ge (tgt := 113) hx hb dX8_costBy_76 (by decide) (fun c_72 => ?_) (fun c_72 => ?_)
      · have fc_72 : 12 ≤ r_1.toInt := zf_le c_72 (by decide) rfl
        refine lv_iload hx hb dX8_costBy_113 (lv_at hl 0 rfl) ?_
        exact W.iret (v := x_71) hx hb hr (fun t ht hW => ⟨x_71, rfl, ⟨by omega, by omega, (show (x_71 : Int32).toInt = zLb (zLn gki gpa gta npu.toInt.toNat nhu.toInt (gco 0).toInt (gco 1).toInt (gco 2).toInt 1) (gco 0).toInt (zPw 2) (gki p_.toNatClampNeg).toInt (gpa p_.toNatClampNeg).toInt (gta p_.toNatClampNeg).toInt nhu.toInt d.toInt sec.toInt from by (have nx_44 : (gco 0).toInt = x_44.toInt := (by rw [ex_44, show (0 : Int32).toNatClampNeg = 0 from by decide]); have zw := hsr_1_0; have E1 : r_1.toInt * (zLn gki gpa gta npu.toInt.toNat nhu.toInt (gco 0).toInt (gco 1).toInt (gco 2).toInt 1) (zShl (gki p_.toNatClampNeg).toInt (gpa p_.toNatClampNeg).toInt d.toInt) (sec.toInt - (gta p_.toNatClampNeg).toInt) = x_70.toInt := (by rw [← hsr_62_0.1 (by decide), show sec.toInt - (gta p_.toNatClampNeg).toInt = (x_66 : Int32).toInt from by (have z : (gta p_.toNatClampNeg).toInt = x_65.toInt := (by rw [ex_65]); omega), ← hsr_67_0]; omega); have E2 : (12 - r_1.toInt) * (zLn gki gpa gta npu.toInt.toNat nhu.toInt (gco 0).toInt (gco 1).toInt (gco 2).toInt 1) (zDpr (gki p_.toNatClampNeg).toInt (gpa p_.toNatClampNeg).toInt nhu.toInt d.toInt) (sec.toInt - (gta p_.toNatClampNeg).toInt) = 0 := (by rw [show 12 - r_1.toInt = 0 from by omega, Int.zero_mul]); have nk : (gki p_.toNatClampNeg).toInt = x_4.toInt := (by rw [ex_4]); unfold zLb zBy1; rw [← zw, E1, E2, show zPw 2 = 144 from by decide]; first | (rw [if_pos (by omega)]; omega) | (rw [if_neg (by omega)]; omega)))⟩, ht⟩) (fun q hq => by cases hq) dX8_costBy_115
      · have fc_72 : r_1.toInt < 12 := zf_nle c_72 (by decide) rfl
        refine lv_iload hx hb dX8_costBy_79 (lv_at hl 0 rfl) ?_
        refine lv_bipush (v := 12) hx hb dX8_costBy_81 (by decide) ?_
        refine lv_iload hx hb dX8_costBy_83 (lv_at hl 1 rfl) ?_
        refine lv_isub hx hb dX8_costBy_85 ?_
        refine lv_topi (fun x_73 ex_73 => ?_)
        have qx_73 : x_73.toInt = 12 - r_1.toInt := by rw [ex_73]; exact zf_sub (by decide) rfl (by omega) (by omega)
        refine lv_aload_n hx hb dX8_costBy_86 rfl (lv_at hl 2 rfl) ?_
        refine lv_iload_n hx hb dX8_costBy_87 rfl (lv_at hl 4 rfl) ?_
        refine lv_iconst (v := 1) hx hb dX8_costBy_88 (by decide) ?_
        refine lv_isub hx hb dX8_costBy_89 ?_
        refine lv_topi (fun y_74 ey_74 => ?_)
        obtain rfl : y_74 = 1 := ey_74.trans (by decide)
        refine lv_aload_n hx hb dX8_costBy_90 rfl (lv_at hl 2 rfl) ?_
        refine lv_iload_n hx hb dX8_costBy_91 rfl (lv_at hl 3 rfl) ?_
        refine lv_iload_n hx hb dX8_costBy_92 rfl (lv_at hl 5 rfl) ?_
        refine lv_iconst (v := 0) hx hb dX8_costBy_93 (by decide) ?_
        have kc0 : (0 : Int32).toInt = 0 := by decide
        refine zc_V (As := [.int p_, .int d, .int 0]) (rest := [.int 1, .ref m0, .int x_73, .int x_71]) ⟨hx, hb, hml, hown, hts⟩ (c_F_M_deep l D cI cJ cZ cP cS po m0 mrf mki mpa mta mla msl mco mhe mso msi msh mce mca mwo mnu mte mwa mke mma mth mtr (npu) (nte) (nat_) (nde) (nto) (nse) (nhu) (nga) (nsd) (nfa) (nba) (npl) (nen) (nnu) (nwr) (nra) (nik) gki gpa (p_) (d) (0) hy0 hy1 hy2 hy3 hy4 hy5 hy6 hy7 hy8 hy9 hy10 hy11 hy12 hy13 hy14 hy15 hy16 hy17 (by omega) (by omega) hp_gki hp_gpa) (cwV 3 hts gX8_costBy_X8_deep rfl rfl rfl ⟨rfl, dh_X8_deep⟩ ⟨Nat.le_of_ble_eq_true rfl, Nat.le_of_ble_eq_true rfl⟩) hK hN hZ hP (hP.sub [0, 1, 2] rfl) (va_recv (q := (RX8, TX8, 38)) hK hP (ci := 8) (q0 := 0) rfl rfl) rfl hl.1 rfl (Nat.le_of_ble_eq_true rfl) dX8_costBy_94 ⟨Nat.le_of_ble_eq_true rfl, Nat.le_of_ble_eq_true rfl⟩ (fun r_75 hr_75 => ?_)
        obtain ⟨g_76, g_77, hsr_75_0⟩ := hr_75
        refine lv_iload hx hb dX8_costBy_97 (lv_at hl 6 rfl) ?_
        refine lv_aload_n hx hb dX8_costBy_99 rfl (lv_at hl 2 rfl) ?_
        refine va_get (D := D) (ci := 8) (v := .ref mta) (C := RX8) (T := TX8) (N := 38) hx hb hts hi_X8_costBy_8 hown hK hP 0 rfl rfl 13 (by decide) (hts (.fieldLink RX8 35 "TheLiningsInItModel" "takes" "[I") (List.mem_of_getElem? (i := 3) rfl)) (fun _ h9 => h9) rfl dX8_costBy_100 ?_
        refine lv_iload_n hx hb dX8_costBy_103 rfl (lv_at hl 3 rfl) ?_
        refine va_iald hx hb hK hP 3 0 rfl rfl (zf_in (by omega) (by omega)) dX8_costBy_104 ?_
        refine lv_topi (fun y_78 ey_78 => ?_)
        obtain rfl : x_65 = y_78 := ex_65.trans ey_78.symm
        refine lv_isub hx hb dX8_costBy_105 ?_
        refine lv_topi (fun y_79 ey_79 => ?_)
        obtain rfl : x_66 = y_79 := ex_66.trans ey_79.symm
        refine zc_V (As := [.int 1, .int r_75, .int x_66]) (rest := [.int x_73, .int x_71]) ⟨hx, hb, hml, hown, hts⟩ (c_F_M_leastCost_1 l D cI cJ cZ cP cS po m0 mrf mki mpa mta mla msl mco mhe mso msi msh mce mca mwo mnu mte mwa mke mma mth mtr (npu) (nte) (nat_) (nde) (nto) (nse) (nhu) (nga) (nsd) (nfa) (nba) (npl) (nen) (nnu) (nwr) (nra) (nik) gki gpa gta gco (r_75) (x_66) hy0 hy1 hy2 hy3 hy4 hy5 hy6 hy7 hy8 hy9 hy10 hy11 hy12 hy13 (by omega) (by omega) (by omega) (by omega) hp_gki hp_gpa hp_gta hp_gco) (cwV 3 hts gX8_costBy_X8_leastCost rfl rfl rfl ⟨rfl, dh_X8_leastCost⟩ ⟨Nat.le_of_ble_eq_true rfl, Nat.le_of_ble_eq_true rfl⟩) hK hN hZ hP (hP.sub [0, 1, 2, 3, 4] rfl) (va_recv (q := (RX8, TX8, 38)) hK hP (ci := 8) (q0 := 0) rfl rfl) rfl hl.1 rfl (Nat.le_of_ble_eq_true rfl) dX8_costBy_106 ⟨Nat.le_of_ble_eq_true rfl, Nat.le_of_ble_eq_true rfl⟩ (fun r_80 hr_80 => ?_)
        obtain ⟨g_81, g_82, hsr_80_0⟩ := hr_80
        refine lv_imul hx hb dX8_costBy_109 ?_
        refine lv_topi (fun x_83 ex_83 => ?_)
        obtain ⟨mx_83, nx_83, ox_83⟩ := zf_mulc (a := x_73) (b := r_80) (x := x_73.toInt) (y := r_80.toInt) (P := 1188) rfl rfl ⟨by omega, by omega⟩ ⟨by omega, by omega⟩ (by decide)
        rw [← ex_83] at mx_83
        refine lv_iadd hx hb dX8_costBy_110 ?_
        refine lv_topi (fun x_84 ex_84 => ?_)
        have qx_84 : x_84.toInt = x_71.toInt + x_83.toInt := by rw [ex_84]; exact zf_add rfl rfl (by omega) (by omega)
        refine lv_istore (lv' := [(6, .int x_84), (5, .int r_1), (0, .ref m0), (1, .int p_), (2, .int 2), (3, .int d), (4, .int sec)]) hx hb dX8_costBy_111 hl (by decide) rfl (fun ls hl => ?_)
        refine lv_iload hx hb dX8_costBy_113 (lv_at hl 0 rfl) ?_
        have hmx9 := zMix (w := r_1.toInt) (x := r_67.toInt) (y := r_80.toInt) (P := 1188) ⟨by omega, by omega⟩ ⟨by omega, by omega⟩ ⟨by omega, by omega⟩
        rw [show 12 - r_1.toInt = x_73.toInt from by omega] at hmx9
        exact W.iret (v := x_84) hx hb hr (fun t ht hW => ⟨x_84, rfl, ⟨by omega, by omega, (show (x_84 : Int32).toInt = zLb (zLn gki gpa gta npu.toInt.toNat nhu.toInt (gco 0).toInt (gco 1).toInt (gco 2).toInt 1) (gco 0).toInt (zPw 2) (gki p_.toNatClampNeg).toInt (gpa p_.toNatClampNeg).toInt (gta p_.toNatClampNeg).toInt nhu.toInt d.toInt sec.toInt from by (have nx_44 : (gco 0).toInt = x_44.toInt := (by rw [ex_44, show (0 : Int32).toNatClampNeg = 0 from by decide]); have zw := hsr_1_0; have E1 : r_1.toInt * (zLn gki gpa gta npu.toInt.toNat nhu.toInt (gco 0).toInt (gco 1).toInt (gco 2).toInt 1) (zShl (gki p_.toNatClampNeg).toInt (gpa p_.toNatClampNeg).toInt d.toInt) (sec.toInt - (gta p_.toNatClampNeg).toInt) = x_70.toInt := (by rw [← hsr_62_0.1 (by decide), show sec.toInt - (gta p_.toNatClampNeg).toInt = (x_66 : Int32).toInt from by (have z : (gta p_.toNatClampNeg).toInt = x_65.toInt := (by rw [ex_65]); omega), ← hsr_67_0]; omega); have E2 : (12 - r_1.toInt) * (zLn gki gpa gta npu.toInt.toNat nhu.toInt (gco 0).toInt (gco 1).toInt (gco 2).toInt 1) (zDpr (gki p_.toNatClampNeg).toInt (gpa p_.toNatClampNeg).toInt nhu.toInt d.toInt) (sec.toInt - (gta p_.toNatClampNeg).toInt) = x_83.toInt := (by rw [← hsr_75_0.2 (by decide), show sec.toInt - (gta p_.toNatClampNeg).toInt = (x_66 : Int32).toInt from by (have z : (gta p_.toNatClampNeg).toInt = x_65.toInt := (by rw [ex_65]); omega), ← hsr_80_0, show 12 - r_1.toInt = x_73.toInt from by omega]; omega); have nk : (gki p_.toNatClampNeg).toInt = x_4.toInt := (by rw [ex_4]); unfold zLb zBy1; rw [← zw, E1, E2, show zPw 2 = 144 from by decide]; first | (rw [if_pos (by omega)]; omega) | (rw [if_neg (by omega)]; omega)))⟩, ht⟩) (fun q hq => by cases hq) dX8_costBy_115
set_option maxHeartbeats 4000000 in
set_option maxRecDepth 100000 in
theorem c_F_M_leastCost_2 (l : Launch) (D : va_G) (cI cJ cZ cP cS : ClassId) (po : zPool) (m0 mrf mki mpa mta mla msl mco mhe mso msi msh mce mca mwo mnu mte mwa mke mma mth mtr : Nat) (npu nte nat_ nde nto nse nhu nga nsd nfa nba npl nen nnu nwr nra nik : Int32) (gki gpa gta gco : Nat → Int32) (d sec : Int32) (hy0 : 0 ≤ npu.toInt) (hy1 : npu.toInt ≤ 8) (hy2 : 4 ≤ nte.toInt) (hy3 : nte.toInt ≤ 40) (hy4 : 0 ≤ nat_.toInt) (hy5 : nat_.toInt ≤ 40) (hy6 : 0 ≤ nde.toInt) (hy7 : nde.toInt ≤ 24) (hy8 : 0 ≤ nhu.toInt) (hy9 : nhu.toInt ≤ 9) (hy10 : 0 ≤ nra.toInt) (hy11 : nra.toInt ≤ 2000) (hy12 : 0 ≤ nik.toInt) (hy13 : nik.toInt ≤ 1) (hy14 : 0 ≤ d.toInt) (hy15 : d.toInt ≤ 24) (hy16 : 0 ≤ sec.toInt) (hy17 : sec.toInt ≤ 300) (hp_gki : zRg gki (0) 6) (hp_gpa : zRg gpa (0) 9) (hp_gta : zRg gta (0) 60) (hp_gco : zRg gco (0) 99) : Met l yX8_leastCost wsX8_leastCost ({ frames := 5, cells := 0, slots := 0, locals := 125 }) (va_Pc [.ref m0, .int 2, .int d, .int sec] (zR D (zKT cI cJ cZ cP cS) po [(zMO m0 npu nte nat_ nde nto nse nhu nga nsd nfa mrf mki mpa mta mla msl mco mhe mso msi msh mce mca mwo mnu mte nba npl nen nnu nwr mwa mke mma mth mtr nra nik), (mki, .inl (cI, 8, .inl gki)), (mpa, .inl (cI, 8, .inl gpa)), (mta, .inl (cI, 8, .inl gta)), (mco, .inl (cI, 3, .inl gco))])) (vp_Si (fun r => 0 ≤ r.toInt ∧ r.toInt ≤ 14256 ∧ (r.toInt = (zLn gki gpa gta npu.toInt.toNat nhu.toInt (gco 0).toInt (gco 1).toInt (gco 2).toInt 2) d.toInt sec.toInt))) 0 0 (fun _ => False) := by
  refine Met.ofW (cc := cX8_leastCost) (maxL := 7) (ret := (some .int)) (by decide) rfl ?_
  intro p e s m args below meth c s₁ B hml hv
  obtain ⟨rfl, hP, hK, hN, hZ⟩ := hv
  have hx := B.exec
  have hb := B.bytes
  have hr := B.returns
  have hts := atoms_spec (ws := wsX8_leastCost) B.pre
  have hown : s.vm.findClass RX8 = some m.cls := findClass_of_methodNamed B.named
  have hlocks := B.notSynchronized
  have hl := lv_entry ([.ref m0, .int 2, .int d, .int sec]) (n := 7) (Nat.le_of_ble_eq_true rfl)
  rw [lg_entry_eq]
  generalize (lg_sl ([.ref m0, .int 2, .int d, .int sec]) ++ List.replicate (7 - (lg_sl ([.ref m0, .int 2, .int d, .int sec])).length) Slot.unset).toArray = ls at hl ⊢
  replace hl : lv_has ls 7 [(0, .ref m0), (1, .int 2), (2, .int d), (3, .int sec)] := hl
  refine lv_iload_n hx hb dX8_leastCost_0 rfl (lv_at hl 2 rfl) ?_
  refine lv_if_ne (tgt := 6) hx hb dX8_leastCost_1 (by decide) (fun c_1 => ?_) (fun c_1 => ?_)
  · have fc_1 : d.toInt ≠ 0 := zf_ne c_1 rfl (by decide)
    refine lv_aload_n hx hb dX8_leastCost_6 rfl (lv_at hl 0 rfl) ?_
    refine va_get (D := D) (ci := 8) (v := .ref mco) (C := RX8) (T := TX8) (N := 38) hx hb hts hi_X8_leastCost_8 hown hK hP 0 rfl rfl 16 (by decide) (hts (.fieldLink RX8 44 "TheLiningsInItModel" "cost" "[I") (List.mem_of_getElem? (i := 1) rfl)) (fun _ h9 => h9) rfl dX8_leastCost_7 ?_
    refine lv_iconst (v := 2) hx hb dX8_leastCost_10 (by decide) ?_
    refine va_iald hx hb hK hP 4 0 rfl rfl (zf_in (by decide) (by decide)) dX8_leastCost_11 ?_
    refine lv_topi (fun x_2 ex_2 => ?_)
    have bx_2 : 0 ≤ x_2.toInt ∧ x_2.toInt ≤ 99 := by rw [ex_2]; exact hp_gco _
    refine lv_aload_n hx hb dX8_leastCost_12 rfl (lv_at hl 0 rfl) ?_
    refine lv_iload_n hx hb dX8_leastCost_13 rfl (lv_at hl 1 rfl) ?_
    refine zc_V (As := [.int 2]) (rest := [.int x_2]) ⟨hx, hb, hml, hown, hts⟩ (c_M_power_2 l D cI cJ cZ cP cS po m0 mrf mki mpa mta mla msl mco mhe mso msi msh mce mca mwo mnu mte mwa mke mma mth mtr (npu) (nte) (nat_) (nde) (nto) (nse) (nhu) (nga) (nsd) (nfa) (nba) (npl) (nen) (nnu) (nwr) (nra) (nik) hy0 hy1 hy2 hy3 hy4 hy5 hy6 hy7 hy8 hy9 hy10 hy11 hy12 hy13) (cwV 1 hts gX8_leastCost_X8_power rfl rfl rfl ⟨rfl, dh_X8_power⟩ ⟨Nat.le_of_ble_eq_true rfl, Nat.le_of_ble_eq_true rfl⟩) hK hN hZ hP (hP.sub [0] rfl) (va_recv (q := (RX8, TX8, 38)) hK hP (ci := 8) (q0 := 0) rfl rfl) rfl hl.1 rfl (Nat.le_of_ble_eq_true rfl) dX8_leastCost_14 ⟨Nat.le_of_ble_eq_true rfl, Nat.le_of_ble_eq_true rfl⟩ (fun r_3 hr_3 => ?_)
    obtain rfl := hr_3
    refine lv_imul hx hb dX8_leastCost_17 ?_
    refine lv_topi (fun x_4 ex_4 => ?_)
    have qx_4 : x_4.toInt = x_2.toInt * 144 := by rw [ex_4]; exact zf_mul rfl (by decide) (by omega) (by omega)
    refine lv_istore (lv' := [(4, .int x_4), (0, .ref m0), (1, .int 2), (2, .int d), (3, .int sec)]) hx hb dX8_leastCost_18 hl (by decide) rfl (fun ls hl => ?_)
    refine lv_iload_n hx hb dX8_leastCost_20 rfl (lv_at hl 4 rfl) ?_
    refine lv_bipush (v := 30) hx hb dX8_leastCost_21 (by decide) ?_
    refine lv_icmp_lt (tgt := 57) hx hb dX8_leastCost_23 (by decide) (fun c_5 => ?_) (fun c_5 => ?_)
    · have fc_5 : sec.toInt < 30 := zf_lt c_5 rfl (by decide)
      refine lv_iconst (v := 0) hx hb dX8_leastCost_57 (by decide) ?_
      refine lv_istore (lv' := [(5, .int 0), (4, .int x_4), (0, .ref m0), (1, .int 2), (2, .int d), (3, .int sec)]) hx hb dX8_leastCost_58 hl (by decide) rfl (fun ls hl => ?_)
      obtain ⟨i_60, hi_60⟩ : ∃ i : Int32, i = 0 := ⟨_, rfl⟩
      replace hl : lv_has ls 7 [(5, .int i_60), (4, .int x_4), (0, .ref m0), (1, .int 2), (2, .int d), (3, .int sec)] := by rw [hi_60]; exact lv_sub hl [0, 1, 2, 3, 4, 5] rfl
      have h1i_60 : i_60.toInt = 0 := by rw [hi_60]; decide
      obtain ⟨nfu, hni_60⟩ : ∃ nq9 : Nat, npu.toInt ≤ i_60.toInt + (nq9 : Int) := ⟨((npu.toInt : Int) - 0).toNat, by omega⟩
      have hloi_60 : 0 ≤ i_60.toInt := by omega
      obtain ⟨v_6, hv_6⟩ : ∃ g : Int32, g = x_4 := ⟨_, rfl⟩
      replace hl : lv_has ls 7 [(5, .int i_60), (4, .int v_6), (0, .ref m0), (1, .int 2), (2, .int d), (3, .int sec)] := by rw [hv_6]; exact hl
      have hbv_6 : 0 ≤ v_6.toInt ∧ v_6.toInt ≤ 14256 := by rw [hv_6]; exact ⟨by omega, by omega⟩
      have hvi_60_0 : (v_6 : Int32).toInt = zFi gta d.toInt sec.toInt (zPw 2 * zAt (gco 1).toInt (gco 2).toInt sec.toInt) (zLv (zLn gki gpa gta npu.toInt.toNat nhu.toInt (gco 0).toInt (gco 1).toInt (gco 2).toInt 1) gki gpa gta (gco 0).toInt (zPw 2) nhu.toInt d.toInt sec.toInt) i_60.toInt.toNat := by
        (try rw [hi_60]); (try rw [hv_6]); (rw [(show ((0 : Int32).toInt.toNat) = 0 from by decide)]; show _ = zPw 2 * zAt (gco 1).toInt (gco 2).toInt sec.toInt; (have nx_2 : (gco 2).toInt = x_2.toInt := (by rw [ex_2, show (2 : Int32).toNatClampNeg = 2 from by decide]); unfold zAt; rw [show zPw 2 = 144 from by decide]; first | (rw [if_neg (by omega)]; omega) | (rw [if_pos (by omega)]; omega)))
      have hvi_60_1 : i_60.toInt ≤ npu.toInt := by
        (try rw [hi_60]); (try rw [hv_6]); (have k0 : (0 : Int32).toInt = 0 := (by decide); omega)
      clear h1i_60 hi_60 hv_6
      revert hni_60
      revert hloi_60
      revert hvi_60_1
      revert hvi_60_0
      revert hbv_6
      revert hl
      revert ls
      revert v_6
      revert i_60
      induction nfu with
      | zero =>
        intro i_60 v_6 ls hl hbv_6 hvi_60_0 hvi_60_1 hloi_60 hni_60
        have hzi_60 : npu.toInt ≤ i_60.toInt := by omega
        refine lv_iload hx hb dX8_leastCost_60 (lv_at hl 0 rfl) ?_
        refine lv_aload_n hx hb dX8_leastCost_62 rfl (lv_at hl 2 rfl) ?_
        refine va_get (D := D) (ci := 8) (v := .int npu) (C := RX8) (T := TX8) (N := 38) hx hb hts hi_X8_leastCost_8 hown hK hP 0 rfl rfl 0 (by decide) (hts (.fieldLink RX8 90 "TheLiningsInItModel" "pulls" "I") (List.mem_of_getElem? (i := 2) rfl)) (fun _ h9 => h9) rfl dX8_leastCost_63 ?_
        refine lv_icmp_ge (tgt := 120) hx hb dX8_leastCost_66 (by decide) (fun c_7 => ?_) (fun c_7 => ?_)
        · have fc_7 : npu.toInt ≤ i_60.toInt := zf_le c_7 rfl rfl
          refine lv_iload hx hb dX8_leastCost_120 (lv_at hl 1 rfl) ?_
          exact W.iret (v := v_6) hx hb hr (fun t ht hW => ⟨v_6, rfl, ⟨by omega, by omega, (show (v_6 : Int32).toInt = (zLn gki gpa gta npu.toInt.toNat nhu.toInt (gco 0).toInt (gco 1).toInt (gco 2).toInt 2) d.toInt sec.toInt from by (have h9 : i_60.toInt.toNat = npu.toInt.toNat := (by omega); have z := hvi_60_0; rw [h9] at z; rw [zLn_s, if_neg (by omega)]; exact z))⟩, ht⟩) (fun q hq => by cases hq) dX8_leastCost_122
        · exfalso; have fc_7 : i_60.toInt < npu.toInt := zf_nle c_7 rfl rfl; omega
      | succ nfu ih =>
        intro i_60 v_6 ls hl hbv_6 hvi_60_0 hvi_60_1 hloi_60 hni_60
        refine lv_iload hx hb dX8_leastCost_60 (lv_at hl 0 rfl) ?_
        refine lv_aload_n hx hb dX8_leastCost_62 rfl (lv_at hl 2 rfl) ?_
        refine va_get (D := D) (ci := 8) (v := .int npu) (C := RX8) (T := TX8) (N := 38) hx hb hts hi_X8_leastCost_8 hown hK hP 0 rfl rfl 0 (by decide) (hts (.fieldLink RX8 90 "TheLiningsInItModel" "pulls" "I") (List.mem_of_getElem? (i := 2) rfl)) (fun _ h9 => h9) rfl dX8_leastCost_63 ?_
        refine lv_icmp_ge (tgt := 120) hx hb dX8_leastCost_66 (by decide) (fun c_8 => ?_) (fun c_8 => ?_)
        · have fc_8 : npu.toInt ≤ i_60.toInt := zf_le c_8 rfl rfl
          refine lv_iload hx hb dX8_leastCost_120 (lv_at hl 1 rfl) ?_
          exact W.iret (v := v_6) hx hb hr (fun t ht hW => ⟨v_6, rfl, ⟨by omega, by omega, (show (v_6 : Int32).toInt = (zLn gki gpa gta npu.toInt.toNat nhu.toInt (gco 0).toInt (gco 1).toInt (gco 2).toInt 2) d.toInt sec.toInt from by (have h9 : i_60.toInt.toNat = npu.toInt.toNat := (by omega); have z := hvi_60_0; rw [h9] at z; rw [zLn_s, if_neg (by omega)]; exact z))⟩, ht⟩) (fun q hq => by cases hq) dX8_leastCost_122
        · have fc_8 : i_60.toInt < npu.toInt := zf_nle c_8 rfl rfl
          refine lv_iload_n hx hb dX8_leastCost_69 rfl (lv_at hl 3 rfl) ?_
          refine lv_if_le (tgt := 120) hx hb dX8_leastCost_70 (by decide) (fun c_9 => ?_) (fun c_9 => ?_)
          · exact absurd c_9 (by decide)
          · refine lv_aload_n hx hb dX8_leastCost_73 rfl (lv_at hl 2 rfl) ?_
            refine lv_iload hx hb dX8_leastCost_74 (lv_at hl 0 rfl) ?_
            refine lv_iload_n hx hb dX8_leastCost_76 rfl (lv_at hl 4 rfl) ?_
            refine lv_iload_n hx hb dX8_leastCost_77 rfl (lv_at hl 5 rfl) ?_
            refine zc_V (As := [.int i_60, .int d, .int sec]) (rest := []) ⟨hx, hb, hml, hown, hts⟩ (c_F_M_mayBe l D cI cJ cZ cP cS po m0 mrf mki mpa mta mla msl mco mhe mso msi msh mce mca mwo mnu mte mwa mke mma mth mtr (npu) (nte) (nat_) (nde) (nto) (nse) (nhu) (nga) (nsd) (nfa) (nba) (npl) (nen) (nnu) (nwr) (nra) (nik) gta (i_60) (d) (sec) hy0 hy1 hy2 hy3 hy4 hy5 hy6 hy7 hy8 hy9 hy10 hy11 hy12 hy13 (by omega) (by omega) hp_gta) (cwV 3 hts gX8_leastCost_X8_mayBe rfl rfl rfl ⟨rfl, dh_X8_mayBe⟩ ⟨Nat.le_of_ble_eq_true rfl, Nat.le_of_ble_eq_true rfl⟩) hK hN hZ hP (hP.sub [0, 3] rfl) (va_recv (q := (RX8, TX8, 38)) hK hP (ci := 8) (q0 := 0) rfl rfl) rfl hl.1 rfl (Nat.le_of_ble_eq_true rfl) dX8_leastCost_78 ⟨Nat.le_of_ble_eq_true rfl, Nat.le_of_ble_eq_true rfl⟩ (fun r_10 hr_10 => ?_)
            obtain ⟨g_11, g_12, hsr_10_0⟩ := hr_10
            refine lv_if_ne (tgt := 87) hx hb dX8_leastCost_81 (by decide) (fun c_13 => ?_) (fun c_13 => ?_)
            · have fc_13 : r_10.toInt ≠ 0 := zf_ne c_13 rfl (by decide)
              have htl9 : (gta i_60.toNatClampNeg).toInt ≤ sec.toInt := (hsr_10_0.mp (by omega)).2
              refine lv_aload_n hx hb dX8_leastCost_87 rfl (lv_at hl 2 rfl) ?_
              refine lv_iload hx hb dX8_leastCost_88 (lv_at hl 0 rfl) ?_
              refine lv_iload_n hx hb dX8_leastCost_90 rfl (lv_at hl 3 rfl) ?_
              refine lv_iload_n hx hb dX8_leastCost_91 rfl (lv_at hl 4 rfl) ?_
              refine lv_iload_n hx hb dX8_leastCost_92 rfl (lv_at hl 5 rfl) ?_
              refine zc_V (As := [.int i_60, .int 2, .int d, .int sec]) (rest := []) ⟨hx, hb, hml, hown, hts⟩ (c_F_M_costBy_2 l D cI cJ cZ cP cS po m0 mrf mki mpa mta mla msl mco mhe mso msi msh mce mca mwo mnu mte mwa mke mma mth mtr (npu) (nte) (nat_) (nde) (nto) (nse) (nhu) (nga) (nsd) (nfa) (nba) (npl) (nen) (nnu) (nwr) (nra) (nik) gki gpa gta gco (i_60) (d) (sec) hy0 hy1 hy2 hy3 hy4 hy5 hy6 hy7 hy8 hy9 hy10 hy11 hy12 hy13 (by omega) (by omega) hy14 hy15 hy16 hy17 (by first | assumption | omega) hp_gki hp_gpa hp_gta hp_gco) (cwV 4 hts gX8_leastCost_X8_costBy rfl rfl rfl ⟨rfl, dh_X8_costBy⟩ ⟨Nat.le_of_ble_eq_true rfl, Nat.le_of_ble_eq_true rfl⟩) hK hN hZ hP (hP.sub [0, 1, 2, 3, 4] rfl) (va_recv (q := (RX8, TX8, 38)) hK hP (ci := 8) (q0 := 0) rfl rfl) rfl hl.1 rfl (Nat.le_of_ble_eq_true rfl) dX8_leastCost_93 ⟨Nat.le_of_ble_eq_true rfl, Nat.le_of_ble_eq_true rfl⟩ (fun r_14 hr_14 => ?_)
              obtain ⟨g_15, g_16, hsr_14_0⟩ := hr_14
              refine lv_istore (lv' := [(6, .int r_14), (5, .int i_60), (4, .int v_6), (0, .ref m0), (1, .int 2), (2, .int d), (3, .int sec)]) hx hb dX8_leastCost_96 hl (by decide) rfl (fun ls hl => ?_)
              refine lv_iload hx hb dX8_leastCost_98 (lv_at hl 0 rfl) ?_
              refine lv_iload hx hb dX8_leastCost_100 (lv_at hl 2 rfl) ?_
              refine lv_icmp_ge (tgt := 110) hx hb dX8_leastCost_102 (by decide) (fun c_17 => ?_) (fun c_17 => ?_)
              · have fc_17 : v_6.toInt ≤ r_14.toInt := zf_le c_17 rfl rfl
                refine lv_iload hx hb dX8_leastCost_110 (lv_at hl 2 rfl) ?_
                refine lv_istore (lv' := [(4, .int v_6), (6, .int r_14), (5, .int i_60), (0, .ref m0), (1, .int 2), (2, .int d), (3, .int sec)]) hx hb dX8_leastCost_112 hl (by decide) rfl (fun ls hl => ?_)
                obtain ⟨x_18, ex_18⟩ : ∃ y : Int32, y = i_60 + 1 := ⟨_, rfl⟩
                have qx_18 : x_18.toInt = i_60.toInt + 1 := dw_inc ex_18 fc_8
                refine lv_iinc (v := x_18) (lv' := [(5, .int x_18), (4, .int v_6), (6, .int r_14), (0, .ref m0), (1, .int 2), (2, .int d), (3, .int sec)]) hx hb dX8_leastCost_114 hl (k := 2) rfl ex_18.symm (by decide) rfl (fun ls hl => ?_)
                refine lv_goto (tgt := 60) hx hb dX8_leastCost_117 (by decide) ?_
                exact ih x_18 v_6 _ (lv_sub hl [0, 1, 3, 4, 5, 6] rfl) hbv_6 (show (v_6 : Int32).toInt = zFi gta d.toInt sec.toInt (zPw 2 * zAt (gco 1).toInt (gco 2).toInt sec.toInt) (zLv (zLn gki gpa gta npu.toInt.toNat nhu.toInt (gco 0).toInt (gco 1).toInt (gco 2).toInt 1) gki gpa gta (gco 0).toInt (zPw 2) nhu.toInt d.toInt sec.toInt) x_18.toInt.toNat from by (have hx : x_18.toInt.toNat = i_60.toInt.toNat + 1 := (by omega); have y9 : i_60.toNatClampNeg = i_60.toInt.toNat := rfl; have hm := hsr_10_0; rw [y9] at hm; rw [hx, zFi_y (hm.mp (by omega)), ← hvi_60_0]; have zr := hsr_14_0; rw [y9] at zr; have zr2 : r_14.toInt = (zLv (zLn gki gpa gta npu.toInt.toNat nhu.toInt (gco 0).toInt (gco 1).toInt (gco 2).toInt 1) gki gpa gta (gco 0).toInt (zPw 2) nhu.toInt d.toInt sec.toInt) i_60.toInt.toNat := zr; omega)) (show x_18.toInt ≤ npu.toInt from by omega) (dw_lo hloi_60 qx_18) (dw_hn hni_60 qx_18)
              · have fc_17 : r_14.toInt < v_6.toInt := zf_nle c_17 rfl rfl
                refine lv_iload hx hb dX8_leastCost_105 (lv_at hl 0 rfl) ?_
                refine lv_goto (tgt := 112) hx hb dX8_leastCost_107 (by decide) ?_
                refine lv_istore (lv' := [(4, .int r_14), (6, .int r_14), (5, .int i_60), (0, .ref m0), (1, .int 2), (2, .int d), (3, .int sec)]) hx hb dX8_leastCost_112 hl (by decide) rfl (fun ls hl => ?_)
                obtain ⟨x_19, ex_19⟩ : ∃ y : Int32, y = i_60 + 1 := ⟨_, rfl⟩
                have qx_19 : x_19.toInt = i_60.toInt + 1 := dw_inc ex_19 fc_8
                refine lv_iinc (v := x_19) (lv' := [(5, .int x_19), (4, .int r_14), (6, .int r_14), (0, .ref m0), (1, .int 2), (2, .int d), (3, .int sec)]) hx hb dX8_leastCost_114 hl (k := 2) rfl ex_19.symm (by decide) rfl (fun ls hl => ?_)
                refine lv_goto (tgt := 60) hx hb dX8_leastCost_117 (by decide) ?_
                exact ih x_19 r_14 _ (lv_sub hl [0, 1, 3, 4, 5, 6] rfl) ⟨by omega, by omega⟩ (show (r_14 : Int32).toInt = zFi gta d.toInt sec.toInt (zPw 2 * zAt (gco 1).toInt (gco 2).toInt sec.toInt) (zLv (zLn gki gpa gta npu.toInt.toNat nhu.toInt (gco 0).toInt (gco 1).toInt (gco 2).toInt 1) gki gpa gta (gco 0).toInt (zPw 2) nhu.toInt d.toInt sec.toInt) x_19.toInt.toNat from by (have hx : x_19.toInt.toNat = i_60.toInt.toNat + 1 := (by omega); have y9 : i_60.toNatClampNeg = i_60.toInt.toNat := rfl; have hm := hsr_10_0; rw [y9] at hm; rw [hx, zFi_y (hm.mp (by omega)), ← hvi_60_0]; have zr := hsr_14_0; rw [y9] at zr; have zr2 : r_14.toInt = (zLv (zLn gki gpa gta npu.toInt.toNat nhu.toInt (gco 0).toInt (gco 1).toInt (gco 2).toInt 1) gki gpa gta (gco 0).toInt (zPw 2) nhu.toInt d.toInt sec.toInt) i_60.toInt.toNat := zr; omega)) (show x_19.toInt ≤ npu.toInt from by omega) (dw_lo hloi_60 qx_19) (dw_hn hni_60 qx_19)
            · have fc_13 : r_10.toInt = 0 := zf_eq c_13 rfl (by decide)
              refine lv_goto (tgt := 114) hx hb dX8_leastCost_84 (by decide) ?_
              obtain ⟨x_20, ex_20⟩ : ∃ y : Int32, y = i_60 + 1 := ⟨_, rfl⟩
              have qx_20 : x_20.toInt = i_60.toInt + 1 := dw_inc ex_20 fc_8
              refine lv_iinc (v := x_20) (lv' := [(5, .int x_20), (4, .int v_6), (0, .ref m0), (1, .int 2), (2, .int d), (3, .int sec)]) hx hb dX8_leastCost_114 hl (k := 0) rfl ex_20.symm (by decide) rfl (fun ls hl => ?_)
              refine lv_goto (tgt := 60) hx hb dX8_leastCost_117 (by decide) ?_
              exact ih x_20 v_6 _ (lv_sub hl [0, 1, 2, 3, 4, 5] rfl) hbv_6 (show (v_6 : Int32).toInt = zFi gta d.toInt sec.toInt (zPw 2 * zAt (gco 1).toInt (gco 2).toInt sec.toInt) (zLv (zLn gki gpa gta npu.toInt.toNat nhu.toInt (gco 0).toInt (gco 1).toInt (gco 2).toInt 1) gki gpa gta (gco 0).toInt (zPw 2) nhu.toInt d.toInt sec.toInt) x_20.toInt.toNat from by (have hx : x_20.toInt.toNat = i_60.toInt.toNat + 1 := (by omega); have y9 : i_60.toNatClampNeg = i_60.toInt.toNat := rfl; have hm := hsr_10_0; rw [y9] at hm; rw [hx, zFi_n (fun z => by (have z1 := hm.mpr z; omega))]; exact hvi_60_0)) (show x_20.toInt ≤ npu.toInt from by omega) (dw_lo hloi_60 qx_20) (dw_hn hni_60 qx_20)
    · have fc_5 : 30 ≤ sec.toInt := zf_nlt c_5 rfl (by decide)
      refine lv_aload_n hx hb dX8_leastCost_26 rfl (lv_at hl 1 rfl) ?_
      refine va_get (D := D) (ci := 8) (v := .ref mco) (C := RX8) (T := TX8) (N := 38) hx hb hts hi_X8_leastCost_8 hown hK hP 0 rfl rfl 16 (by decide) (hts (.fieldLink RX8 44 "TheLiningsInItModel" "cost" "[I") (List.mem_of_getElem? (i := 1) rfl)) (fun _ h9 => h9) rfl dX8_leastCost_27 ?_
      refine lv_iconst (v := 1) hx hb dX8_leastCost_30 (by decide) ?_
      refine va_iald hx hb hK hP 4 0 rfl rfl (zf_in (by decide) (by decide)) dX8_leastCost_31 ?_
      refine lv_topi (fun x_21 ex_21 => ?_)
      have bx_21 : 0 ≤ x_21.toInt ∧ x_21.toInt ≤ 99 := by rw [ex_21]; exact hp_gco _
      refine lv_aload_n hx hb dX8_leastCost_32 rfl (lv_at hl 1 rfl) ?_
      refine lv_iload_n hx hb dX8_leastCost_33 rfl (lv_at hl 2 rfl) ?_
      refine zc_V (As := [.int 2]) (rest := [.int x_21]) ⟨hx, hb, hml, hown, hts⟩ (c_M_power_2 l D cI cJ cZ cP cS po m0 mrf mki mpa mta mla msl mco mhe mso msi msh mce mca mwo mnu mte mwa mke mma mth mtr (npu) (nte) (nat_) (nde) (nto) (nse) (nhu) (nga) (nsd) (nfa) (nba) (npl) (nen) (nnu) (nwr) (nra) (nik) hy0 hy1 hy2 hy3 hy4 hy5 hy6 hy7 hy8 hy9 hy10 hy11 hy12 hy13) (cwV 1 hts gX8_leastCost_X8_power rfl rfl rfl ⟨rfl, dh_X8_power⟩ ⟨Nat.le_of_ble_eq_true rfl, Nat.le_of_ble_eq_true rfl⟩) hK hN hZ hP (hP.sub [0] rfl) (va_recv (q := (RX8, TX8, 38)) hK hP (ci := 8) (q0 := 0) rfl rfl) rfl hl.1 rfl (Nat.le_of_ble_eq_true rfl) dX8_leastCost_34 ⟨Nat.le_of_ble_eq_true rfl, Nat.le_of_ble_eq_true rfl⟩ (fun r_22 hr_22 => ?_)
      obtain rfl := hr_22
      refine lv_imul hx hb dX8_leastCost_37 ?_
      refine lv_topi (fun x_23 ex_23 => ?_)
      have qx_23 : x_23.toInt = x_21.toInt * 144 := by rw [ex_23]; exact zf_mul rfl (by decide) (by omega) (by omega)
      refine lv_iload hx hb dX8_leastCost_38 (lv_at hl 0 rfl) ?_
      refine lv_icmp_ge (tgt := 57) hx hb dX8_leastCost_40 (by decide) (fun c_24 => ?_) (fun c_24 => ?_)
      · have fc_24 : x_4.toInt ≤ x_23.toInt := zf_le c_24 rfl rfl
        refine lv_iconst (v := 0) hx hb dX8_leastCost_57 (by decide) ?_
        refine lv_istore (lv' := [(5, .int 0), (4, .int x_4), (0, .ref m0), (1, .int 2), (2, .int d), (3, .int sec)]) hx hb dX8_leastCost_58 hl (by decide) rfl (fun ls hl => ?_)
        obtain ⟨i_60, hi_60⟩ : ∃ i : Int32, i = 0 := ⟨_, rfl⟩
        replace hl : lv_has ls 7 [(5, .int i_60), (4, .int x_4), (0, .ref m0), (1, .int 2), (2, .int d), (3, .int sec)] := by rw [hi_60]; exact lv_sub hl [0, 1, 2, 3, 4, 5] rfl
        have h1i_60 : i_60.toInt = 0 := by rw [hi_60]; decide
        obtain ⟨nfu, hni_60⟩ : ∃ nq9 : Nat, npu.toInt ≤ i_60.toInt + (nq9 : Int) := ⟨((npu.toInt : Int) - 0).toNat, by omega⟩
        have hloi_60 : 0 ≤ i_60.toInt := by omega
        obtain ⟨v_25, hv_25⟩ : ∃ g : Int32, g = x_4 := ⟨_, rfl⟩
        replace hl : lv_has ls 7 [(5, .int i_60), (4, .int v_25), (0, .ref m0), (1, .int 2), (2, .int d), (3, .int sec)] := by rw [hv_25]; exact hl
        have hbv_25 : 0 ≤ v_25.toInt ∧ v_25.toInt ≤ 14256 := by rw [hv_25]; exact ⟨by omega, by omega⟩
        have hvi_60_0 : (v_25 : Int32).toInt = zFi gta d.toInt sec.toInt (zPw 2 * zAt (gco 1).toInt (gco 2).toInt sec.toInt) (zLv (zLn gki gpa gta npu.toInt.toNat nhu.toInt (gco 0).toInt (gco 1).toInt (gco 2).toInt 1) gki gpa gta (gco 0).toInt (zPw 2) nhu.toInt d.toInt sec.toInt) i_60.toInt.toNat := by
          (try rw [hi_60]); (try rw [hv_25]); (rw [(show ((0 : Int32).toInt.toNat) = 0 from by decide)]; show _ = zPw 2 * zAt (gco 1).toInt (gco 2).toInt sec.toInt; (have nx_2 : (gco 2).toInt = x_2.toInt := (by rw [ex_2, show (2 : Int32).toNatClampNeg = 2 from by decide]); have nx_21 : (gco 1).toInt = x_21.toInt := (by rw [ex_21, show (1 : Int32).toNatClampNeg = 1 from by decide]); unfold zAt; rw [show zPw 2 = 144 from by decide]; first | (rw [if_pos (by omega)]; omega) | (rw [if_neg (by omega)]; omega)))
        have hvi_60_1 : i_60.toInt ≤ npu.toInt := by
          (try rw [hi_60]); (try rw [hv_25]); (have k0 : (0 : Int32).toInt = 0 := (by decide); omega)
        clear h1i_60 hi_60 hv_25
        revert hni_60
        revert hloi_60
        revert hvi_60_1
        revert hvi_60_0
        revert hbv_25
        revert hl
        revert ls
        revert v_25
        revert i_60
        induction nfu with
        | zero =>
          intro i_60 v_25 ls hl hbv_25 hvi_60_0 hvi_60_1 hloi_60 hni_60
          have hzi_60 : npu.toInt ≤ i_60.toInt := by omega
          refine lv_iload hx hb dX8_leastCost_60 (lv_at hl 0 rfl) ?_
          refine lv_aload_n hx hb dX8_leastCost_62 rfl (lv_at hl 2 rfl) ?_
          refine va_get (D := D) (ci := 8) (v := .int npu) (C := RX8) (T := TX8) (N := 38) hx hb hts hi_X8_leastCost_8 hown hK hP 0 rfl rfl 0 (by decide) (hts (.fieldLink RX8 90 "TheLiningsInItModel" "pulls" "I") (List.mem_of_getElem? (i := 2) rfl)) (fun _ h9 => h9) rfl dX8_leastCost_63 ?_
          refine lv_icmp_ge (tgt := 120) hx hb dX8_leastCost_66 (by decide) (fun c_26 => ?_) (fun c_26 => ?_)
          · have fc_26 : npu.toInt ≤ i_60.toInt := zf_le c_26 rfl rfl
            refine lv_iload hx hb dX8_leastCost_120 (lv_at hl 1 rfl) ?_
            exact W.iret (v := v_25) hx hb hr (fun t ht hW => ⟨v_25, rfl, ⟨by omega, by omega, (show (v_25 : Int32).toInt = (zLn gki gpa gta npu.toInt.toNat nhu.toInt (gco 0).toInt (gco 1).toInt (gco 2).toInt 2) d.toInt sec.toInt from by (have h9 : i_60.toInt.toNat = npu.toInt.toNat := (by omega); have z := hvi_60_0; rw [h9] at z; rw [zLn_s, if_neg (by omega)]; exact z))⟩, ht⟩) (fun q hq => by cases hq) dX8_leastCost_122
          · exfalso; have fc_26 : i_60.toInt < npu.toInt := zf_nle c_26 rfl rfl; omega
        | succ nfu ih =>
          intro i_60 v_25 ls hl hbv_25 hvi_60_0 hvi_60_1 hloi_60 hni_60
          refine lv_iload hx hb dX8_leastCost_60 (lv_at hl 0 rfl) ?_
          refine lv_aload_n hx hb dX8_leastCost_62 rfl (lv_at hl 2 rfl) ?_
          refine va_get (D := D) (ci := 8) (v := .int npu) (C := RX8) (T := TX8) (N := 38) hx hb hts hi_X8_leastCost_8 hown hK hP 0 rfl rfl 0 (by decide) (hts (.fieldLink RX8 90 "TheLiningsInItModel" "pulls" "I") (List.mem_of_getElem? (i := 2) rfl)) (fun _ h9 => h9) rfl dX8_leastCost_63 ?_
          refine lv_icmp_ge (tgt := 120) hx hb dX8_leastCost_66 (by decide) (fun c_27 => ?_) (fun c_27 => ?_)
          · have fc_27 : npu.toInt ≤ i_60.toInt := zf_le c_27 rfl rfl
            refine lv_iload hx hb dX8_leastCost_120 (lv_at hl 1 rfl) ?_
            exact W.iret (v := v_25) hx hb hr (fun t ht hW => ⟨v_25, rfl, ⟨by omega, by omega, (show (v_25 : Int32).toInt = (zLn gki gpa gta npu.toInt.toNat nhu.toInt (gco 0).toInt (gco 1).toInt (gco 2).toInt 2) d.toInt sec.toInt from by (have h9 : i_60.toInt.toNat = npu.toInt.toNat := (by omega); have z := hvi_60_0; rw [h9] at z; rw [zLn_s, if_neg (by omega)]; exact z))⟩, ht⟩) (fun q hq => by cases hq) dX8_leastCost_122
          · have fc_27 : i_60.toInt < npu.toInt := zf_nle c_27 rfl rfl
            refine lv_iload_n hx hb dX8_leastCost_69 rfl (lv_at hl 3 rfl) ?_
            refine lv_if_le (tgt := 120) hx hb dX8_leastCost_70 (by decide) (fun c_28 => ?_) (fun c_28 => ?_)
            · exact absurd c_28 (by decide)
            · refine lv_aload_n hx hb dX8_leastCost_73 rfl (lv_at hl 2 rfl) ?_
              refine lv_iload hx hb dX8_leastCost_74 (lv_at hl 0 rfl) ?_
              refine lv_iload_n hx hb dX8_leastCost_76 rfl (lv_at hl 4 rfl) ?_
              refine lv_iload_n hx hb dX8_leastCost_77 rfl (lv_at hl 5 rfl) ?_
              refine zc_V (As := [.int i_60, .int d, .int sec]) (rest := []) ⟨hx, hb, hml, hown, hts⟩ (c_F_M_mayBe l D cI cJ cZ cP cS po m0 mrf mki mpa mta mla msl mco mhe mso msi msh mce mca mwo mnu mte mwa mke mma mth mtr (npu) (nte) (nat_) (nde) (nto) (nse) (nhu) (nga) (nsd) (nfa) (nba) (npl) (nen) (nnu) (nwr) (nra) (nik) gta (i_60) (d) (sec) hy0 hy1 hy2 hy3 hy4 hy5 hy6 hy7 hy8 hy9 hy10 hy11 hy12 hy13 (by omega) (by omega) hp_gta) (cwV 3 hts gX8_leastCost_X8_mayBe rfl rfl rfl ⟨rfl, dh_X8_mayBe⟩ ⟨Nat.le_of_ble_eq_true rfl, Nat.le_of_ble_eq_true rfl⟩) hK hN hZ hP (hP.sub [0, 3] rfl) (va_recv (q := (RX8, TX8, 38)) hK hP (ci := 8) (q0 := 0) rfl rfl) rfl hl.1 rfl (Nat.le_of_ble_eq_true rfl) dX8_leastCost_78 ⟨Nat.le_of_ble_eq_true rfl, Nat.le_of_ble_eq_true rfl⟩ (fun r_29 hr_29 => ?_)
              obtain ⟨g_30, g_31, hsr_29_0⟩ := hr_29
              refine lv_if_ne (tgt := 87) hx hb dX8_leastCost_81 (by decide) (fun c_32 => ?_) (fun c_32 => ?_)
              · have fc_32 : r_29.toInt ≠ 0 := zf_ne c_32 rfl (by decide)
                have htl9 : (gta i_60.toNatClampNeg).toInt ≤ sec.toInt := (hsr_29_0.mp (by omega)).2
                refine lv_aload_n hx hb dX8_leastCost_87 rfl (lv_at hl 2 rfl) ?_
                refine lv_iload hx hb dX8_leastCost_88 (lv_at hl 0 rfl) ?_
                refine lv_iload_n hx hb dX8_leastCost_90 rfl (lv_at hl 3 rfl) ?_
                refine lv_iload_n hx hb dX8_leastCost_91 rfl (lv_at hl 4 rfl) ?_
                refine lv_iload_n hx hb dX8_leastCost_92 rfl (lv_at hl 5 rfl) ?_
                refine zc_V (As := [.int i_60, .int 2, .int d, .int sec]) (rest := []) ⟨hx, hb, hml, hown, hts⟩ (c_F_M_costBy_2 l D cI cJ cZ cP cS po m0 mrf mki mpa mta mla msl mco mhe mso msi msh mce mca mwo mnu mte mwa mke mma mth mtr (npu) (nte) (nat_) (nde) (nto) (nse) (nhu) (nga) (nsd) (nfa) (nba) (npl) (nen) (nnu) (nwr) (nra) (nik) gki gpa gta gco (i_60) (d) (sec) hy0 hy1 hy2 hy3 hy4 hy5 hy6 hy7 hy8 hy9 hy10 hy11 hy12 hy13 (by omega) (by omega) hy14 hy15 hy16 hy17 (by first | assumption | omega) hp_gki hp_gpa hp_gta hp_gco) (cwV 4 hts gX8_leastCost_X8_costBy rfl rfl rfl ⟨rfl, dh_X8_costBy⟩ ⟨Nat.le_of_ble_eq_true rfl, Nat.le_of_ble_eq_true rfl⟩) hK hN hZ hP (hP.sub [0, 1, 2, 3, 4] rfl) (va_recv (q := (RX8, TX8, 38)) hK hP (ci := 8) (q0 := 0) rfl rfl) rfl hl.1 rfl (Nat.le_of_ble_eq_true rfl) dX8_leastCost_93 ⟨Nat.le_of_ble_eq_true rfl, Nat.le_of_ble_eq_true rfl⟩ (fun r_33 hr_33 => ?_)
                obtain ⟨g_34, g_35, hsr_33_0⟩ := hr_33
                refine lv_istore (lv' := [(6, .int r_33), (5, .int i_60), (4, .int v_25), (0, .ref m0), (1, .int 2), (2, .int d), (3, .int sec)]) hx hb dX8_leastCost_96 hl (by decide) rfl (fun ls hl => ?_)
                refine lv_iload hx hb dX8_leastCost_98 (lv_at hl 0 rfl) ?_
                refine lv_iload hx hb dX8_leastCost_100 (lv_at hl 2 rfl) ?_
                refine lv_icmp_ge (tgt := 110) hx hb dX8_leastCost_102 (by decide) (fun c_36 => ?_) (fun c_36 => ?_)
                · have fc_36 : v_25.toInt ≤ r_33.toInt := zf_le c_36 rfl rfl
                  refine lv_iload hx hb dX8_leastCost_110 (lv_at hl 2 rfl) ?_
                  refine lv_istore (lv' := [(4, .int v_25), (6, .int r_33), (5, .int i_60), (0, .ref m0), (1, .int 2), (2, .int d), (3, .int sec)]) hx hb dX8_leastCost_112 hl (by decide) rfl (fun ls hl => ?_)
                  obtain ⟨x_37, ex_37⟩ : ∃ y : Int32, y = i_60 + 1 := ⟨_, rfl⟩
                  have qx_37 : x_37.toInt = i_60.toInt + 1 := dw_inc ex_37 fc_27
                  refine lv_iinc (v := x_37) (lv' := [(5, .int x_37), (4, .int v_25), (6, .int r_33), (0, .ref m0), (1, .int 2), (2, .int d), (3, .int sec)]) hx hb dX8_leastCost_114 hl (k := 2) rfl ex_37.symm (by decide) rfl (fun ls hl => ?_)
                  refine lv_goto (tgt := 60) hx hb dX8_leastCost_117 (by decide) ?_
                  exact ih x_37 v_25 _ (lv_sub hl [0, 1, 3, 4, 5, 6] rfl) hbv_25 (show (v_25 : Int32).toInt = zFi gta d.toInt sec.toInt (zPw 2 * zAt (gco 1).toInt (gco 2).toInt sec.toInt) (zLv (zLn gki gpa gta npu.toInt.toNat nhu.toInt (gco 0).toInt (gco 1).toInt (gco 2).toInt 1) gki gpa gta (gco 0).toInt (zPw 2) nhu.toInt d.toInt sec.toInt) x_37.toInt.toNat from by (have hx : x_37.toInt.toNat = i_60.toInt.toNat + 1 := (by omega); have y9 : i_60.toNatClampNeg = i_60.toInt.toNat := rfl; have hm := hsr_29_0; rw [y9] at hm; rw [hx, zFi_y (hm.mp (by omega)), ← hvi_60_0]; have zr := hsr_33_0; rw [y9] at zr; have zr2 : r_33.toInt = (zLv (zLn gki gpa gta npu.toInt.toNat nhu.toInt (gco 0).toInt (gco 1).toInt (gco 2).toInt 1) gki gpa gta (gco 0).toInt (zPw 2) nhu.toInt d.toInt sec.toInt) i_60.toInt.toNat := zr; omega)) (show x_37.toInt ≤ npu.toInt from by omega) (dw_lo hloi_60 qx_37) (dw_hn hni_60 qx_37)
                · have fc_36 : r_33.toInt < v_25.toInt := zf_nle c_36 rfl rfl
                  refine lv_iload hx hb dX8_leastCost_105 (lv_at hl 0 rfl) ?_
                  refine lv_goto (tgt := 112) hx hb dX8_leastCost_107 (by decide) ?_
                  refine lv_istore (lv' := [(4, .int r_33), (6, .int r_33), (5, .int i_60), (0, .ref m0), (1, .int 2), (2, .int d), (3, .int sec)]) hx hb dX8_leastCost_112 hl (by decide) rfl (fun ls hl => ?_)
                  obtain ⟨x_38, ex_38⟩ : ∃ y : Int32, y = i_60 + 1 := ⟨_, rfl⟩
                  have qx_38 : x_38.toInt = i_60.toInt + 1 := dw_inc ex_38 fc_27
                  refine lv_iinc (v := x_38) (lv' := [(5, .int x_38), (4, .int r_33), (6, .int r_33), (0, .ref m0), (1, .int 2), (2, .int d), (3, .int sec)]) hx hb dX8_leastCost_114 hl (k := 2) rfl ex_38.symm (by decide) rfl (fun ls hl => ?_)
                  refine lv_goto (tgt := 60) hx hb dX8_leastCost_117 (by decide) ?_
                  exact ih x_38 r_33 _ (lv_sub hl [0, 1, 3, 4, 5, 6] rfl) ⟨by omega, by omega⟩ (show (r_33 : Int32).toInt = zFi gta d.toInt sec.toInt (zPw 2 * zAt (gco 1).toInt (gco 2).toInt sec.toInt) (zLv (zLn gki gpa gta npu.toInt.toNat nhu.toInt (gco 0).toInt (gco 1).toInt (gco 2).toInt 1) gki gpa gta (gco 0).toInt (zPw 2) nhu.toInt d.toInt sec.toInt) x_38.toInt.toNat from by (have hx : x_38.toInt.toNat = i_60.toInt.toNat + 1 := (by omega); have y9 : i_60.toNatClampNeg = i_60.toInt.toNat := rfl; have hm := hsr_29_0; rw [y9] at hm; rw [hx, zFi_y (hm.mp (by omega)), ← hvi_60_0]; have zr := hsr_33_0; rw [y9] at zr; have zr2 : r_33.toInt = (zLv (zLn gki gpa gta npu.toInt.toNat nhu.toInt (gco 0).toInt (gco 1).toInt (gco 2).toInt 1) gki gpa gta (gco 0).toInt (zPw 2) nhu.toInt d.toInt sec.toInt) i_60.toInt.toNat := zr; omega)) (show x_38.toInt ≤ npu.toInt from by omega) (dw_lo hloi_60 qx_38) (dw_hn hni_60 qx_38)
              · have fc_32 : r_29.toInt = 0 := zf_eq c_32 rfl (by decide)
                refine lv_goto (tgt := 114) hx hb dX8_leastCost_84 (by decide) ?_
                obtain ⟨x_39, ex_39⟩ : ∃ y : Int32, y = i_60 + 1 := ⟨_, rfl⟩
                have qx_39 : x_39.toInt = i_60.toInt + 1 := dw_inc ex_39 fc_27
                refine lv_iinc (v := x_39) (lv' := [(5, .int x_39), (4, .int v_25), (0, .ref m0), (1, .int 2), (2, .int d), (3, .int sec)]) hx hb dX8_leastCost_114 hl (k := 0) rfl ex_39.symm (by decide) rfl (fun ls hl => ?_)
                refine lv_goto (tgt := 60) hx hb dX8_leastCost_117 (by decide) ?_
                exact ih x_39 v_25 _ (lv_sub hl [0, 1, 2, 3, 4, 5] rfl) hbv_25 (show (v_25 : Int32).toInt = zFi gta d.toInt sec.toInt (zPw 2 * zAt (gco 1).toInt (gco 2).toInt sec.toInt) (zLv (zLn gki gpa gta npu.toInt.toNat nhu.toInt (gco 0).toInt (gco 1).toInt (gco 2).toInt 1) gki gpa gta (gco 0).toInt (zPw 2) nhu.toInt d.toInt sec.toInt) x_39.toInt.toNat from by (have hx : x_39.toInt.toNat = i_60.toInt.toNat + 1 := (by omega); have y9 : i_60.toNatClampNeg = i_60.toInt.toNat := rfl; have hm := hsr_29_0; rw [y9] at hm; rw [hx, zFi_n (fun z => by (have z1 := hm.mpr z; omega))]; exact hvi_60_0)) (show x_39.toInt ≤ npu.toInt from by omega) (dw_lo hloi_60 qx_39) (dw_hn hni_60 qx_39)
      · have fc_24 : x_23.toInt < x_4.toInt := zf_nle c_24 rfl rfl
        refine lv_aload_n hx hb dX8_leastCost_43 rfl (lv_at hl 1 rfl) ?_
        refine va_get (D := D) (ci := 8) (v := .ref mco) (C := RX8) (T := TX8) (N := 38) hx hb hts hi_X8_leastCost_8 hown hK hP 0 rfl rfl 16 (by decide) (hts (.fieldLink RX8 44 "TheLiningsInItModel" "cost" "[I") (List.mem_of_getElem? (i := 1) rfl)) (fun _ h9 => h9) rfl dX8_leastCost_44 ?_
        refine lv_iconst (v := 1) hx hb dX8_leastCost_47 (by decide) ?_
        refine va_iald hx hb hK hP 4 0 rfl rfl (zf_in (by decide) (by decide)) dX8_leastCost_48 ?_
        refine lv_topi (fun y_40 ey_40 => ?_)
        obtain rfl : x_21 = y_40 := ex_21.trans ey_40.symm
        refine lv_aload_n hx hb dX8_leastCost_49 rfl (lv_at hl 1 rfl) ?_
        refine lv_iload_n hx hb dX8_leastCost_50 rfl (lv_at hl 2 rfl) ?_
        refine zc_V (As := [.int 2]) (rest := [.int x_21]) ⟨hx, hb, hml, hown, hts⟩ (c_M_power_2 l D cI cJ cZ cP cS po m0 mrf mki mpa mta mla msl mco mhe mso msi msh mce mca mwo mnu mte mwa mke mma mth mtr (npu) (nte) (nat_) (nde) (nto) (nse) (nhu) (nga) (nsd) (nfa) (nba) (npl) (nen) (nnu) (nwr) (nra) (nik) hy0 hy1 hy2 hy3 hy4 hy5 hy6 hy7 hy8 hy9 hy10 hy11 hy12 hy13) (cwV 1 hts gX8_leastCost_X8_power rfl rfl rfl ⟨rfl, dh_X8_power⟩ ⟨Nat.le_of_ble_eq_true rfl, Nat.le_of_ble_eq_true rfl⟩) hK hN hZ hP (hP.sub [0] rfl) (va_recv (q := (RX8, TX8, 38)) hK hP (ci := 8) (q0 := 0) rfl rfl) rfl hl.1 rfl (Nat.le_of_ble_eq_true rfl) dX8_leastCost_51 ⟨Nat.le_of_ble_eq_true rfl, Nat.le_of_ble_eq_true rfl⟩ (fun r_41 hr_41 => ?_)
        obtain rfl := hr_41
        refine lv_imul hx hb dX8_leastCost_54 ?_
        refine lv_topi (fun y_42 ey_42 => ?_)
        obtain rfl : x_23 = y_42 := ex_23.trans ey_42.symm
        refine lv_istore (lv' := [(4, .int x_23), (0, .ref m0), (1, .int 2), (2, .int d), (3, .int sec)]) hx hb dX8_leastCost_55 hl (by decide) rfl (fun ls hl => ?_)
        refine lv_iconst (v := 0) hx hb dX8_leastCost_57 (by decide) ?_
        refine lv_istore (lv' := [(5, .int 0), (4, .int x_23), (0, .ref m0), (1, .int 2), (2, .int d), (3, .int sec)]) hx hb dX8_leastCost_58 hl (by decide) rfl (fun ls hl => ?_)
        obtain ⟨i_60, hi_60⟩ : ∃ i : Int32, i = 0 := ⟨_, rfl⟩
        replace hl : lv_has ls 7 [(5, .int i_60), (4, .int x_23), (0, .ref m0), (1, .int 2), (2, .int d), (3, .int sec)] := by rw [hi_60]; exact lv_sub hl [0, 1, 2, 3, 4, 5] rfl
        have h1i_60 : i_60.toInt = 0 := by rw [hi_60]; decide
        obtain ⟨nfu, hni_60⟩ : ∃ nq9 : Nat, npu.toInt ≤ i_60.toInt + (nq9 : Int) := ⟨((npu.toInt : Int) - 0).toNat, by omega⟩
        have hloi_60 : 0 ≤ i_60.toInt := by omega
        obtain ⟨v_43, hv_43⟩ : ∃ g : Int32, g = x_23 := ⟨_, rfl⟩
        replace hl : lv_has ls 7 [(5, .int i_60), (4, .int v_43), (0, .ref m0), (1, .int 2), (2, .int d), (3, .int sec)] := by rw [hv_43]; exact hl
        have hbv_43 : 0 ≤ v_43.toInt ∧ v_43.toInt ≤ 14256 := by rw [hv_43]; exact ⟨by omega, by omega⟩
        have hvi_60_0 : (v_43 : Int32).toInt = zFi gta d.toInt sec.toInt (zPw 2 * zAt (gco 1).toInt (gco 2).toInt sec.toInt) (zLv (zLn gki gpa gta npu.toInt.toNat nhu.toInt (gco 0).toInt (gco 1).toInt (gco 2).toInt 1) gki gpa gta (gco 0).toInt (zPw 2) nhu.toInt d.toInt sec.toInt) i_60.toInt.toNat := by
          (try rw [hi_60]); (try rw [hv_43]); (rw [(show ((0 : Int32).toInt.toNat) = 0 from by decide)]; show _ = zPw 2 * zAt (gco 1).toInt (gco 2).toInt sec.toInt; (have nx_2 : (gco 2).toInt = x_2.toInt := (by rw [ex_2, show (2 : Int32).toNatClampNeg = 2 from by decide]); have nx_21 : (gco 1).toInt = x_21.toInt := (by rw [ex_21, show (1 : Int32).toNatClampNeg = 1 from by decide]); unfold zAt; rw [show zPw 2 = 144 from by decide]; first | (rw [if_pos (by omega)]; omega) | (rw [if_neg (by omega)]; omega)))
        have hvi_60_1 : i_60.toInt ≤ npu.toInt := by
          (try rw [hi_60]); (try rw [hv_43]); (have k0 : (0 : Int32).toInt = 0 := (by decide); omega)
        clear h1i_60 hi_60 hv_43
        revert hni_60
        revert hloi_60
        revert hvi_60_1
        revert hvi_60_0
        revert hbv_43
        revert hl
        revert ls
        revert v_43
        revert i_60
        induction nfu with
        | zero =>
          intro i_60 v_43 ls hl hbv_43 hvi_60_0 hvi_60_1 hloi_60 hni_60
          have hzi_60 : npu.toInt ≤ i_60.toInt := by omega
          refine lv_iload hx hb dX8_leastCost_60 (lv_at hl 0 rfl) ?_
          refine lv_aload_n hx hb dX8_leastCost_62 rfl (lv_at hl 2 rfl) ?_
          refine va_get (D := D) (ci := 8) (v := .int npu) (C := RX8) (T := TX8) (N := 38) hx hb hts hi_X8_leastCost_8 hown hK hP 0 rfl rfl 0 (by decide) (hts (.fieldLink RX8 90 "TheLiningsInItModel" "pulls" "I") (List.mem_of_getElem? (i := 2) rfl)) (fun _ h9 => h9) rfl dX8_leastCost_63 ?_
          refine lv_icmp_ge (tgt := 120) hx hb dX8_leastCost_66 (by decide) (fun c_44 => ?_) (fun c_44 => ?_)
          · have fc_44 : npu.toInt ≤ i_60.toInt := zf_le c_44 rfl rfl
            refine lv_iload hx hb dX8_leastCost_120 (lv_at hl 1 rfl) ?_
            exact W.iret (v := v_43) hx hb hr (fun t ht hW => ⟨v_43, rfl, ⟨by omega, by omega, (show (v_43 : Int32).toInt = (zLn gki gpa gta npu.toInt.toNat nhu.toInt (gco 0).toInt (gco 1).toInt (gco 2).toInt 2) d.toInt sec.toInt from by (have h9 : i_60.toInt.toNat = npu.toInt.toNat := (by omega); have z := hvi_60_0; rw [h9] at z; rw [zLn_s, if_neg (by omega)]; exact z))⟩, ht⟩) (fun q hq => by cases hq) dX8_leastCost_122
          · exfalso; have fc_44 : i_60.toInt < npu.toInt := zf_nle c_44 rfl rfl; omega
        | succ nfu ih =>
          intro i_60 v_43 ls hl hbv_43 hvi_60_0 hvi_60_1 hloi_60 hni_60
          refine lv_iload hx hb dX8_leastCost_60 (lv_at hl 0 rfl) ?_
          refine lv_aload_n hx hb dX8_leastCost_62 rfl (lv_at hl 2 rfl) ?_
          refine va_get (D := D) (ci := 8) (v := .int npu) (C := RX8) (T := TX8) (N := 38) hx hb hts hi_X8_leastCost_8 hown hK hP 0 rfl rfl 0 (by decide) (hts (.fieldLink RX8 90 "TheLiningsInItModel" "pulls" "I") (List.mem_of_getElem? (i := 2) rfl)) (fun _ h9 => h9) rfl dX8_leastCost_63 ?_
          refine lv_icmp_ge (tgt := 120) hx hb dX8_leastCost_66 (by decide) (fun c_45 => ?_) (fun c_45 => ?_)
          · have fc_45 : npu.toInt ≤ i_60.toInt := zf_le c_45 rfl rfl
            refine lv_iload hx hb dX8_leastCost_120 (lv_at hl 1 rfl) ?_
            exact W.iret (v := v_43) hx hb hr (fun t ht hW => ⟨v_43, rfl, ⟨by omega, by omega, (show (v_43 : Int32).toInt = (zLn gki gpa gta npu.toInt.toNat nhu.toInt (gco 0).toInt (gco 1).toInt (gco 2).toInt 2) d.toInt sec.toInt from by (have h9 : i_60.toInt.toNat = npu.toInt.toNat := (by omega); have z := hvi_60_0; rw [h9] at z; rw [zLn_s, if_neg (by omega)]; exact z))⟩, ht⟩) (fun q hq => by cases hq) dX8_leastCost_122
          · have fc_45 : i_60.toInt < npu.toInt := zf_nle c_45 rfl rfl
            refine lv_iload_n hx hb dX8_leastCost_69 rfl (lv_at hl 3 rfl) ?_
            refine lv_if_le (tgt := 120) hx hb dX8_leastCost_70 (by decide) (fun c_46 => ?_) (fun c_46 => ?_)
            · exact absurd c_46 (by decide)
            · refine lv_aload_n hx hb dX8_leastCost_73 rfl (lv_at hl 2 rfl) ?_
              refine lv_iload hx hb dX8_leastCost_74 (lv_at hl 0 rfl) ?_
              refine lv_iload_n hx hb dX8_leastCost_76 rfl (lv_at hl 4 rfl) ?_
              refine lv_iload_n hx hb dX8_leastCost_77 rfl (lv_at hl 5 rfl) ?_
              refine zc_V (As := [.int i_60, .int d, .int sec]) (rest := []) ⟨hx, hb, hml, hown, hts⟩ (c_F_M_mayBe l D cI cJ cZ cP cS po m0 mrf mki mpa mta mla msl mco mhe mso msi msh mce mca mwo mnu mte mwa mke mma mth mtr (npu) (nte) (nat_) (nde) (nto) (nse) (nhu) (nga) (nsd) (nfa) (nba) (npl) (nen) (nnu) (nwr) (nra) (nik) gta (i_60) (d) (sec) hy0 hy1 hy2 hy3 hy4 hy5 hy6 hy7 hy8 hy9 hy10 hy11 hy12 hy13 (by omega) (by omega) hp_gta) (cwV 3 hts gX8_leastCost_X8_mayBe rfl rfl rfl ⟨rfl, dh_X8_mayBe⟩ ⟨Nat.le_of_ble_eq_true rfl, Nat.le_of_ble_eq_true rfl⟩) hK hN hZ hP (hP.sub [0, 3] rfl) (va_recv (q := (RX8, TX8, 38)) hK hP (ci := 8) (q0 := 0) rfl rfl) rfl hl.1 rfl (Nat.le_of_ble_eq_true rfl) dX8_leastCost_78 ⟨Nat.le_of_ble_eq_true rfl, Nat.le_of_ble_eq_true rfl⟩ (fun r_47 hr_47 => ?_)
              obtain ⟨g_48, g_49, hsr_47_0⟩ := hr_47
              refine lv_if_ne (tgt := 87) hx hb dX8_leastCost_81 (by decide) (fun c_50 => ?_) (fun c_50 => ?_)
              · have fc_50 : r_47.toInt ≠ 0 := zf_ne c_50 rfl (by decide)
                have htl9 : (gta i_60.toNatClampNeg).toInt ≤ sec.toInt := (hsr_47_0.mp (by omega)).2
                refine lv_aload_n hx hb dX8_leastCost_87 rfl (lv_at hl 2 rfl) ?_
                refine lv_iload hx hb dX8_leastCost_88 (lv_at hl 0 rfl) ?_
                refine lv_iload_n hx hb dX8_leastCost_90 rfl (lv_at hl 3 rfl) ?_
                refine lv_iload_n hx hb dX8_leastCost_91 rfl (lv_at hl 4 rfl) ?_
                refine lv_iload_n hx hb dX8_leastCost_92 rfl (lv_at hl 5 rfl) ?_
                refine zc_V (As := [.int i_60, .int 2, .int d, .int sec]) (rest := []) ⟨hx, hb, hml, hown, hts⟩ (c_F_M_costBy_2 l D cI cJ cZ cP cS po m0 mrf mki mpa mta mla msl mco mhe mso msi msh mce mca mwo mnu mte mwa mke mma mth mtr (npu) (nte) (nat_) (nde) (nto) (nse) (nhu) (nga) (nsd) (nfa) (nba) (npl) (nen) (nnu) (nwr) (nra) (nik) gki gpa gta gco (i_60) (d) (sec) hy0 hy1 hy2 hy3 hy4 hy5 hy6 hy7 hy8 hy9 hy10 hy11 hy12 hy13 (by omega) (by omega) hy14 hy15 hy16 hy17 (by first | assumption | omega) hp_gki hp_gpa hp_gta hp_gco) (cwV 4 hts gX8_leastCost_X8_costBy rfl rfl rfl ⟨rfl, dh_X8_costBy⟩ ⟨Nat.le_of_ble_eq_true rfl, Nat.le_of_ble_eq_true rfl⟩) hK hN hZ hP (hP.sub [0, 1, 2, 3, 4] rfl) (va_recv (q := (RX8, TX8, 38)) hK hP (ci := 8) (q0 := 0) rfl rfl) rfl hl.1 rfl (Nat.le_of_ble_eq_true rfl) dX8_leastCost_93 ⟨Nat.le_of_ble_eq_true rfl, Nat.le_of_ble_eq_true rfl⟩ (fun r_51 hr_51 => ?_)
                obtain ⟨g_52, g_53, hsr_51_0⟩ := hr_51
                refine lv_istore (lv' := [(6, .int r_51), (5, .int i_60), (4, .int v_43), (0, .ref m0), (1, .int 2), (2, .int d), (3, .int sec)]) hx hb dX8_leastCost_96 hl (by decide) rfl (fun ls hl => ?_)
                refine lv_iload hx hb dX8_leastCost_98 (lv_at hl 0 rfl) ?_
                refine lv_iload hx hb dX8_leastCost_100 (lv_at hl 2 rfl) ?_
                refine lv_icmp_ge (tgt := 110) hx hb dX8_leastCost_102 (by decide) (fun c_54 => ?_) (fun c_54 => ?_)
                · have fc_54 : v_43.toInt ≤ r_51.toInt := zf_le c_54 rfl rfl
                  refine lv_iload hx hb dX8_leastCost_110 (lv_at hl 2 rfl) ?_
                  refine lv_istore (lv' := [(4, .int v_43), (6, .int r_51), (5, .int i_60), (0, .ref m0), (1, .int 2), (2, .int d), (3, .int sec)]) hx hb dX8_leastCost_112 hl (by decide) rfl (fun ls hl => ?_)
                  obtain ⟨x_55, ex_55⟩ : ∃ y : Int32, y = i_60 + 1 := ⟨_, rfl⟩
                  have qx_55 : x_55.toInt = i_60.toInt + 1 := dw_inc ex_55 fc_45
                  refine lv_iinc (v := x_55) (lv' := [(5, .int x_55), (4, .int v_43), (6, .int r_51), (0, .ref m0), (1, .int 2), (2, .int d), (3, .int sec)]) hx hb dX8_leastCost_114 hl (k := 2) rfl ex_55.symm (by decide) rfl (fun ls hl => ?_)
                  refine lv_goto (tgt := 60) hx hb dX8_leastCost_117 (by decide) ?_
                  exact ih x_55 v_43 _ (lv_sub hl [0, 1, 3, 4, 5, 6] rfl) hbv_43 (show (v_43 : Int32).toInt = zFi gta d.toInt sec.toInt (zPw 2 * zAt (gco 1).toInt (gco 2).toInt sec.toInt) (zLv (zLn gki gpa gta npu.toInt.toNat nhu.toInt (gco 0).toInt (gco 1).toInt (gco 2).toInt 1) gki gpa gta (gco 0).toInt (zPw 2) nhu.toInt d.toInt sec.toInt) x_55.toInt.toNat from by (have hx : x_55.toInt.toNat = i_60.toInt.toNat + 1 := (by omega); have y9 : i_60.toNatClampNeg = i_60.toInt.toNat := rfl; have hm := hsr_47_0; rw [y9] at hm; rw [hx, zFi_y (hm.mp (by omega)), ← hvi_60_0]; have zr := hsr_51_0; rw [y9] at zr; have zr2 : r_51.toInt = (zLv (zLn gki gpa gta npu.toInt.toNat nhu.toInt (gco 0).toInt (gco 1).toInt (gco 2).toInt 1) gki gpa gta (gco 0).toInt (zPw 2) nhu.toInt d.toInt sec.toInt) i_60.toInt.toNat := zr; omega)) (show x_55.toInt ≤ npu.toInt from by omega) (dw_lo hloi_60 qx_55) (dw_hn hni_60 qx_55)
                · have fc_54 : r_51.toInt < v_43.toInt := zf_nle c_54 rfl rfl
                  refine lv_iload hx hb dX8_leastCost_105 (lv_at hl 0 rfl) ?_
                  refine lv_goto (tgt := 112) hx hb dX8_leastCost_107 (by decide) ?_
                  refine lv_istore (lv' := [(4, .int r_51), (6, .int r_51), (5, .int i_60), (0, .ref m0), (1, .int 2), (2, .int d), (3, .int sec)]) hx hb dX8_leastCost_112 hl (by decide) rfl (fun ls hl => ?_)
                  obtain ⟨x_56, ex_56⟩ : ∃ y : Int32, y = i_60 + 1 := ⟨_, rfl⟩
                  have qx_56 : x_56.toInt = i_60.toInt + 1 := dw_inc ex_56 fc_45
                  refine lv_iinc (v := x_56) (lv' := [(5, .int x_56), (4, .int r_51), (6, .int r_51), (0, .ref m0), (1, .int 2), (2, .int d), (3, .int sec)]) hx hb dX8_leastCost_114 hl (k := 2) rfl ex_56.symm (by decide) rfl (fun ls hl => ?_)
                  refine lv_goto (tgt := 60) hx hb dX8_leastCost_117 (by decide) ?_
                  exact ih x_56 r_51 _ (lv_sub hl [0, 1, 3, 4, 5, 6] rfl) ⟨by omega, by omega⟩ (show (r_51 : Int32).toInt = zFi gta d.toInt sec.toInt (zPw 2 * zAt (gco 1).toInt (gco 2).toInt sec.toInt) (zLv (zLn gki gpa gta npu.toInt.toNat nhu.toInt (gco 0).toInt (gco 1).toInt (gco 2).toInt 1) gki gpa gta (gco 0).toInt (zPw 2) nhu.toInt d.toInt sec.toInt) x_56.toInt.toNat from by (have hx : x_56.toInt.toNat = i_60.toInt.toNat + 1 := (by omega); have y9 : i_60.toNatClampNeg = i_60.toInt.toNat := rfl; have hm := hsr_47_0; rw [y9] at hm; rw [hx, zFi_y (hm.mp (by omega)), ← hvi_60_0]; have zr := hsr_51_0; rw [y9] at zr; have zr2 : r_51.toInt = (zLv (zLn gki gpa gta npu.toInt.toNat nhu.toInt (gco 0).toInt (gco 1).toInt (gco 2).toInt 1) gki gpa gta (gco 0).toInt (zPw 2) nhu.toInt d.toInt sec.toInt) i_60.toInt.toNat := zr; omega)) (show x_56.toInt ≤ npu.toInt from by omega) (dw_lo hloi_60 qx_56) (dw_hn hni_60 qx_56)
              · have fc_50 : r_47.toInt = 0 := zf_eq c_50 rfl (by decide)
                refine lv_goto (tgt := 114) hx hb dX8_leastCost_84 (by decide) ?_
                obtain ⟨x_57, ex_57⟩ : ∃ y : Int32, y = i_60 + 1 := ⟨_, rfl⟩
                have qx_57 : x_57.toInt = i_60.toInt + 1 := dw_inc ex_57 fc_45
                refine lv_iinc (v := x_57) (lv' := [(5, .int x_57), (4, .int v_43), (0, .ref m0), (1, .int 2), (2, .int d), (3, .int sec)]) hx hb dX8_leastCost_114 hl (k := 0) rfl ex_57.symm (by decide) rfl (fun ls hl => ?_)
                refine lv_goto (tgt := 60) hx hb dX8_leastCost_117 (by decide) ?_
                exact ih x_57 v_43 _ (lv_sub hl [0, 1, 2, 3, 4, 5] rfl) hbv_43 (show (v_43 : Int32).toInt = zFi gta d.toInt sec.toInt (zPw 2 * zAt (gco 1).toInt (gco 2).toInt sec.toInt) (zLv (zLn gki gpa gta npu.toInt.toNat nhu.toInt (gco 0).toInt (gco 1).toInt (gco 2).toInt 1) gki gpa gta (gco 0).toInt (zPw 2) nhu.toInt d.toInt sec.toInt) x_57.toInt.toNat from by (have hx : x_57.toInt.toNat = i_60.toInt.toNat + 1 := (by omega); have y9 : i_60.toNatClampNeg = i_60.toInt.toNat := rfl; have hm := hsr_47_0; rw [y9] at hm; rw [hx, zFi_n (fun z => by (have z1 := hm.mpr z; omega))]; exact hvi_60_0)) (show x_57.toInt ≤ npu.toInt from by omega) (dw_lo hloi_60 qx_57) (dw_hn hni_60 qx_57)
  · have fc_1 : d.toInt = 0 := zf_eq c_1 rfl (by decide)
    refine lv_iconst (v := 0) hx hb dX8_leastCost_4 (by decide) ?_
    exact W.iret (v := 0) hx hb hr (fun t ht hW => ⟨0, rfl, ⟨by decide, by decide, (show (0 : Int32).toInt = (zLn gki gpa gta npu.toInt.toNat nhu.toInt (gco 0).toInt (gco 1).toInt (gco 2).toInt 2) d.toInt sec.toInt from by (have k9 : (0 : Int32).toInt = 0 := (by decide); rw [zLn_s, if_pos (by omega)]; exact k9))⟩, ht⟩) (fun q hq => by cases hq) dX8_leastCost_5
set_option maxHeartbeats 4000000 in
set_option maxRecDepth 100000 in
theorem c_F_M_costBy_3 (l : Launch) (D : va_G) (cI cJ cZ cP cS : ClassId) (po : zPool) (m0 mrf mki mpa mta mla msl mco mhe mso msi msh mce mca mwo mnu mte mwa mke mma mth mtr : Nat) (npu nte nat_ nde nto nse nhu nga nsd nfa nba npl nen nnu nwr nra nik : Int32) (gki gpa gta gco : Nat → Int32) (p_ d sec : Int32) (hy0 : 0 ≤ npu.toInt) (hy1 : npu.toInt ≤ 8) (hy2 : 4 ≤ nte.toInt) (hy3 : nte.toInt ≤ 40) (hy4 : 0 ≤ nat_.toInt) (hy5 : nat_.toInt ≤ 40) (hy6 : 0 ≤ nde.toInt) (hy7 : nde.toInt ≤ 24) (hy8 : 0 ≤ nhu.toInt) (hy9 : nhu.toInt ≤ 9) (hy10 : 0 ≤ nra.toInt) (hy11 : nra.toInt ≤ 2000) (hy12 : 0 ≤ nik.toInt) (hy13 : nik.toInt ≤ 1) (hy14 : 0 ≤ p_.toInt) (hy15 : p_.toInt ≤ 7) (hy16 : 0 ≤ d.toInt) (hy17 : d.toInt ≤ 24) (hy18 : 0 ≤ sec.toInt) (hy19 : sec.toInt ≤ 300) (htl : (gta p_.toNatClampNeg).toInt ≤ sec.toInt) (hp_gki : zRg gki (0) 6) (hp_gpa : zRg gpa (0) 9) (hp_gta : zRg gta (0) 60) (hp_gco : zRg gco (0) 99) : Met l yX8_costBy wsX8_costBy ({ frames := 6, cells := 0, slots := 0, locals := 151 }) (va_Pc [.ref m0, .int p_, .int 3, .int d, .int sec] (zR D (zKT cI cJ cZ cP cS) po [(zMO m0 npu nte nat_ nde nto nse nhu nga nsd nfa mrf mki mpa mta mla msl mco mhe mso msi msh mce mca mwo mnu mte nba npl nen nnu nwr mwa mke mma mth mtr nra nik), (mki, .inl (cI, 8, .inl gki)), (mpa, .inl (cI, 8, .inl gpa)), (mta, .inl (cI, 8, .inl gta)), (mco, .inl (cI, 3, .inl gco))])) (vp_Si (fun r => 0 ≤ r.toInt ∧ r.toInt ≤ 342144 ∧ (r.toInt = zLb (zLn gki gpa gta npu.toInt.toNat nhu.toInt (gco 0).toInt (gco 1).toInt (gco 2).toInt 2) (gco 0).toInt (zPw 3) (gki p_.toNatClampNeg).toInt (gpa p_.toNatClampNeg).toInt (gta p_.toNatClampNeg).toInt nhu.toInt d.toInt sec.toInt))) 0 0 (fun _ => False) := by
  refine Met.ofW (cc := cX8_costBy) (maxL := 7) (ret := (some .int)) (by decide) rfl ?_
  intro p e s m args below meth c s₁ B hml hv
  obtain ⟨rfl, hP, hK, hN, hZ⟩ := hv
  have hx := B.exec
  have hb := B.bytes
  have hr := B.returns
  have hts := atoms_spec (ws := wsX8_costBy) B.pre
  have hown : s.vm.findClass RX8 = some m.cls := findClass_of_methodNamed B.named
  have hlocks := B.notSynchronized
  have hl := lv_entry ([.ref m0, .int p_, .int 3, .int d, .int sec]) (n := 7) (Nat.le_of_ble_eq_true rfl)
  rw [lg_entry_eq]
  generalize (lg_sl ([.ref m0, .int p_, .int 3, .int d, .int sec]) ++ List.replicate (7 - (lg_sl ([.ref m0, .int p_, .int 3, .int d, .int sec])).length) Slot.unset).toArray = ls at hl ⊢
  replace hl : lv_has ls 7 [(0, .ref m0), (1, .int p_), (2, .int 3), (3, .int d), (4, .int sec)] := hl
  refine lv_aload_n hx hb dX8_costBy_0 rfl (lv_at hl 0 rfl) ?_
  refine lv_iload_n hx hb dX8_costBy_1 rfl (lv_at hl 1 rfl) ?_
  refine lv_iload_n hx hb dX8_costBy_2 rfl (lv_at hl 3 rfl) ?_
  refine zc_V (As := [.int p_, .int d]) (rest := []) ⟨hx, hb, hml, hown, hts⟩ (c_F_M_ways l D cI cJ cZ cP cS po m0 mrf mki mpa mta mla msl mco mhe mso msi msh mce mca mwo mnu mte mwa mke mma mth mtr (npu) (nte) (nat_) (nde) (nto) (nse) (nhu) (nga) (nsd) (nfa) (nba) (npl) (nen) (nnu) (nwr) (nra) (nik) gki gpa (p_) (d) hy0 hy1 hy2 hy3 hy4 hy5 hy6 hy7 hy8 hy9 hy10 hy11 hy12 hy13 hy14 hy15 hy16 hy17 hp_gki hp_gpa) (cwV 2 hts gX8_costBy_X8_ways rfl rfl rfl ⟨rfl, dh_X8_ways⟩ ⟨Nat.le_of_ble_eq_true rfl, Nat.le_of_ble_eq_true rfl⟩) hK hN hZ hP (hP.sub [0, 1, 2] rfl) (va_recv (q := (RX8, TX8, 38)) hK hP (ci := 8) (q0 := 0) rfl rfl) rfl hl.1 rfl (Nat.le_of_ble_eq_true rfl) dX8_costBy_3 ⟨Nat.le_of_ble_eq_true rfl, Nat.le_of_ble_eq_true rfl⟩ (fun r_1 hr_1 => ?_)
  obtain ⟨g_2, g_3, hsr_1_0⟩ := hr_1
  refine lv_istore (lv' := [(5, .int r_1), (0, .ref m0), (1, .int p_), (2, .int 3), (3, .int d), (4, .int sec)]) hx hb dX8_costBy_6 hl (by decide) rfl (fun ls hl => ?_)
  refine lv_aload_n hx hb dX8_costBy_8 rfl (lv_at hl 1 rfl) ?_
  refine va_get (D := D) (ci := 8) (v := .ref mki) (C := RX8) (T := TX8) (N := 38) hx hb hts hi_X8_costBy_8 hown hK hP 0 rfl rfl 11 (by decide) (hts (.fieldLink RX8 29 "TheLiningsInItModel" "kind" "[I") (List.mem_of_getElem? (i := 1) rfl)) (fun _ h9 => h9) rfl dX8_costBy_9 ?_
  refine lv_iload_n hx hb dX8_costBy_12 rfl (lv_at hl 2 rfl) ?_
  refine va_iald hx hb hK hP 1 0 rfl rfl (zf_in (by omega) (by omega)) dX8_costBy_13 ?_
  refine lv_topi (fun x_4 ex_4 => ?_)
  have bx_4 : 0 ≤ x_4.toInt ∧ x_4.toInt ≤ 6 := by rw [ex_4]; exact hp_gki _
  refine lv_iconst (v := 5) hx hb dX8_costBy_14 (by decide) ?_
  refine lv_icmp_ne (tgt := 33) hx hb dX8_costBy_15 (by decide) (fun c_5 => ?_) (fun c_5 => ?_)
  · have fc_5 : x_4.toInt ≠ 5 := zf_ne c_5 rfl (by decide)
    refine lv_iconst (v := 0) hx hb dX8_costBy_33 (by decide) ?_
    refine lv_istore (lv' := [(6, .int 0), (5, .int r_1), (0, .ref m0), (1, .int p_), (2, .int 3), (3, .int d), (4, .int sec)]) hx hb dX8_costBy_34 hl (by decide) rfl (fun ls hl => ?_)
    refine lv_iload hx hb dX8_costBy_36 (lv_at hl 1 rfl) ?_
    refine lv_if_le (tgt := 72) hx hb dX8_costBy_38 (by decide) (fun c_6 => ?_) (fun c_6 => ?_)
    · have fc_6 : r_1.toInt ≤ 0 := zf_le c_6 rfl (by decide)
      refine lv_iload hx hb dX8_costBy_72 (lv_at hl 1 rfl) ?_
      refine lv_bipush (v := 12) hx hb dX8_costBy_74 (by decide) ?_
      refine lv_icmp_ge (tgt := 113) hx hb dX8_costBy_76 (by decide) (fun c_7 => ?_) (fun c_7 => ?_)
      · exfalso; have fc_7 : 12 ≤ r_1.toInt := zf_le c_7 (by decide) rfl; omega
      · have fc_7 : r_1.toInt < 12 := zf_nle c_7 (by decide) rfl
        refine lv_iload hx hb dX8_costBy_79 (lv_at hl 0 rfl) ?_
        refine lv_bipush (v := 12) hx hb dX8_costBy_81 (by decide) ?_
        refine lv_iload hx hb dX8_costBy_83 (lv_at hl 1 rfl) ?_
        refine lv_isub hx hb dX8_costBy_85 ?_
        refine lv_topi (fun x_8 ex_8 => ?_)
        have qx_8 : x_8.toInt = 12 - r_1.toInt := by rw [ex_8]; exact zf_sub (by decide) rfl (by omega) (by omega)
        refine lv_aload_n hx hb dX8_costBy_86 rfl (lv_at hl 2 rfl) ?_
        refine lv_iload_n hx hb dX8_costBy_87 rfl (lv_at hl 4 rfl) ?_
        refine lv_iconst (v := 1) hx hb dX8_costBy_88 (by decide) ?_
        refine lv_isub hx hb dX8_costBy_89 ?_
        refine lv_topi (fun y_9 ey_9 => ?_)
        obtain rfl : y_9 = 2 := ey_9.trans (by decide)
        refine lv_aload_n hx hb dX8_costBy_90 rfl (lv_at hl 2 rfl) ?_
        refine lv_iload_n hx hb dX8_costBy_91 rfl (lv_at hl 3 rfl) ?_
        refine lv_iload_n hx hb dX8_costBy_92 rfl (lv_at hl 5 rfl) ?_
        refine lv_iconst (v := 0) hx hb dX8_costBy_93 (by decide) ?_
        have kc0 : (0 : Int32).toInt = 0 := by decide
        refine zc_V (As := [.int p_, .int d, .int 0]) (rest := [.int 2, .ref m0, .int x_8, .int 0]) ⟨hx, hb, hml, hown, hts⟩ (c_F_M_deep l D cI cJ cZ cP cS po m0 mrf mki mpa mta mla msl mco mhe mso msi msh mce mca mwo mnu mte mwa mke mma mth mtr (npu) (nte) (nat_) (nde) (nto) (nse) (nhu) (nga) (nsd) (nfa) (nba) (npl) (nen) (nnu) (nwr) (nra) (nik) gki gpa (p_) (d) (0) hy0 hy1 hy2 hy3 hy4 hy5 hy6 hy7 hy8 hy9 hy10 hy11 hy12 hy13 hy14 hy15 hy16 hy17 (by omega) (by omega) hp_gki hp_gpa) (cwV 3 hts gX8_costBy_X8_deep rfl rfl rfl ⟨rfl, dh_X8_deep⟩ ⟨Nat.le_of_ble_eq_true rfl, Nat.le_of_ble_eq_true rfl⟩) hK hN hZ hP (hP.sub [0, 1, 2] rfl) (va_recv (q := (RX8, TX8, 38)) hK hP (ci := 8) (q0 := 0) rfl rfl) rfl hl.1 rfl (Nat.le_of_ble_eq_true rfl) dX8_costBy_94 ⟨Nat.le_of_ble_eq_true rfl, Nat.le_of_ble_eq_true rfl⟩ (fun r_10 hr_10 => ?_)
        obtain ⟨g_11, g_12, hsr_10_0⟩ := hr_10
        refine lv_iload hx hb dX8_costBy_97 (lv_at hl 6 rfl) ?_
        refine lv_aload_n hx hb dX8_costBy_99 rfl (lv_at hl 2 rfl) ?_
        refine va_get (D := D) (ci := 8) (v := .ref mta) (C := RX8) (T := TX8) (N := 38) hx hb hts hi_X8_costBy_8 hown hK hP 0 rfl rfl 13 (by decide) (hts (.fieldLink RX8 35 "TheLiningsInItModel" "takes" "[I") (List.mem_of_getElem? (i := 3) rfl)) (fun _ h9 => h9) rfl dX8_costBy_100 ?_
        refine lv_iload_n hx hb dX8_costBy_103 rfl (lv_at hl 3 rfl) ?_
        refine va_iald hx hb hK hP 3 0 rfl rfl (zf_in (by omega) (by omega)) dX8_costBy_104 ?_
        refine lv_topi (fun x_13 ex_13 => ?_)
        have bx_13 : 0 ≤ x_13.toInt ∧ x_13.toInt ≤ 60 := by rw [ex_13]; exact hp_gta _
        have htx_13 : x_13.toInt ≤ sec.toInt := by (rw [ex_13]; exact htl)
        refine lv_isub hx hb dX8_costBy_105 ?_
        refine lv_topi (fun x_14 ex_14 => ?_)
        have qx_14 : x_14.toInt = sec.toInt - x_13.toInt := by rw [ex_14]; exact zf_sub rfl rfl (by omega) (by omega)
        refine zc_V (As := [.int 2, .int r_10, .int x_14]) (rest := [.int x_8, .int 0]) ⟨hx, hb, hml, hown, hts⟩ (c_F_M_leastCost_2 l D cI cJ cZ cP cS po m0 mrf mki mpa mta mla msl mco mhe mso msi msh mce mca mwo mnu mte mwa mke mma mth mtr (npu) (nte) (nat_) (nde) (nto) (nse) (nhu) (nga) (nsd) (nfa) (nba) (npl) (nen) (nnu) (nwr) (nra) (nik) gki gpa gta gco (r_10) (x_14) hy0 hy1 hy2 hy3 hy4 hy5 hy6 hy7 hy8 hy9 hy10 hy11 hy12 hy13 (by omega) (by omega) (by omega) (by omega) hp_gki hp_gpa hp_gta hp_gco) (cwV 3 hts gX8_costBy_X8_leastCost rfl rfl rfl ⟨rfl, dh_X8_leastCost⟩ ⟨Nat.le_of_ble_eq_true rfl, Nat.le_of_ble_eq_true rfl⟩) hK hN hZ hP (hP.sub [0, 1, 2, 3, 4] rfl) (va_recv (q := (RX8, TX8, 38)) hK hP (ci := 8) (q0 := 0) rfl rfl) rfl hl.1 rfl (Nat.le_of_ble_eq_true rfl) dX8_costBy_106 ⟨Nat.le_of_ble_eq_true rfl, Nat.le_of_ble_eq_true rfl⟩ (fun r_15 hr_15 => ?_)
        obtain ⟨g_16, g_17, hsr_15_0⟩ := hr_15
        refine lv_imul hx hb dX8_costBy_109 ?_
        refine lv_topi (fun x_18 ex_18 => ?_)
        obtain ⟨mx_18, nx_18, ox_18⟩ := zf_mulc (a := x_8) (b := r_15) (x := x_8.toInt) (y := r_15.toInt) (P := 14256) rfl rfl ⟨by omega, by omega⟩ ⟨by omega, by omega⟩ (by decide)
        rw [← ex_18] at mx_18
        refine lv_iadd hx hb dX8_costBy_110 ?_
        refine lv_topi (fun x_19 ex_19 => ?_)
        have qx_19 : x_19.toInt = 0 + x_18.toInt := by rw [ex_19]; exact zf_add (by decide) rfl (by omega) (by omega)
        refine lv_istore (lv' := [(6, .int x_19), (5, .int r_1), (0, .ref m0), (1, .int p_), (2, .int 3), (3, .int d), (4, .int sec)]) hx hb dX8_costBy_111 hl (by decide) rfl (fun ls hl => ?_)
        refine lv_iload hx hb dX8_costBy_113 (lv_at hl 0 rfl) ?_
        exact W.iret (v := x_19) hx hb hr (fun t ht hW => ⟨x_19, rfl, ⟨by omega, by omega, (show (x_19 : Int32).toInt = zLb (zLn gki gpa gta npu.toInt.toNat nhu.toInt (gco 0).toInt (gco 1).toInt (gco 2).toInt 2) (gco 0).toInt (zPw 3) (gki p_.toNatClampNeg).toInt (gpa p_.toNatClampNeg).toInt (gta p_.toNatClampNeg).toInt nhu.toInt d.toInt sec.toInt from by (have zw := hsr_1_0; have E1 : r_1.toInt * (zLn gki gpa gta npu.toInt.toNat nhu.toInt (gco 0).toInt (gco 1).toInt (gco 2).toInt 2) (zShl (gki p_.toNatClampNeg).toInt (gpa p_.toNatClampNeg).toInt d.toInt) (sec.toInt - (gta p_.toNatClampNeg).toInt) = 0 := (by rw [show r_1.toInt = 0 from by omega, Int.zero_mul]); have E2 : (12 - r_1.toInt) * (zLn gki gpa gta npu.toInt.toNat nhu.toInt (gco 0).toInt (gco 1).toInt (gco 2).toInt 2) (zDpr (gki p_.toNatClampNeg).toInt (gpa p_.toNatClampNeg).toInt nhu.toInt d.toInt) (sec.toInt - (gta p_.toNatClampNeg).toInt) = x_18.toInt := (by rw [← hsr_10_0.2 (by decide), show sec.toInt - (gta p_.toNatClampNeg).toInt = (x_14 : Int32).toInt from by (have z : (gta p_.toNatClampNeg).toInt = x_13.toInt := (by rw [ex_13]); omega), ← hsr_15_0, show 12 - r_1.toInt = x_8.toInt from by omega]; omega); have nk : (gki p_.toNatClampNeg).toInt = x_4.toInt := (by rw [ex_4]); unfold zLb zBy1; rw [← zw, E1, E2, show zPw 3 = 1728 from by decide]; first | (rw [if_neg (by omega)]; omega) | (rw [if_pos (by omega)]; omega)))⟩, ht⟩) (fun q hq => by cases hq) dX8_costBy_115
    · have fc_6 : 0 < r_1.toInt := zf_nle c_6 rfl (by decide)
      refine lv_iload hx hb dX8_costBy_41 (lv_at hl 0 rfl) ?_
      refine lv_iload hx hb dX8_costBy_43 (lv_at hl 1 rfl) ?_
      refine lv_aload_n hx hb dX8_costBy_45 rfl (lv_at hl 2 rfl) ?_
      refine lv_iload_n hx hb dX8_costBy_46 rfl (lv_at hl 4 rfl) ?_
      refine lv_iconst (v := 1) hx hb dX8_costBy_47 (by decide) ?_
      refine lv_isub hx hb dX8_costBy_48 ?_
      refine lv_topi (fun y_20 ey_20 => ?_)
      obtain rfl : y_20 = 2 := ey_20.trans (by decide)
      refine lv_aload_n hx hb dX8_costBy_49 rfl (lv_at hl 2 rfl) ?_
      refine lv_iload_n hx hb dX8_costBy_50 rfl (lv_at hl 3 rfl) ?_
      refine lv_iload_n hx hb dX8_costBy_51 rfl (lv_at hl 5 rfl) ?_
      refine lv_iconst (v := 1) hx hb dX8_costBy_52 (by decide) ?_
      have kc1 : (1 : Int32).toInt = 1 := by decide
      refine zc_V (As := [.int p_, .int d, .int 1]) (rest := [.int 2, .ref m0, .int r_1, .int 0]) ⟨hx, hb, hml, hown, hts⟩ (c_F_M_deep l D cI cJ cZ cP cS po m0 mrf mki mpa mta mla msl mco mhe mso msi msh mce mca mwo mnu mte mwa mke mma mth mtr (npu) (nte) (nat_) (nde) (nto) (nse) (nhu) (nga) (nsd) (nfa) (nba) (npl) (nen) (nnu) (nwr) (nra) (nik) gki gpa (p_) (d) (1) hy0 hy1 hy2 hy3 hy4 hy5 hy6 hy7 hy8 hy9 hy10 hy11 hy12 hy13 hy14 hy15 hy16 hy17 (by omega) (by omega) hp_gki hp_gpa) (cwV 3 hts gX8_costBy_X8_deep rfl rfl rfl ⟨rfl, dh_X8_deep⟩ ⟨Nat.le_of_ble_eq_true rfl, Nat.le_of_ble_eq_true rfl⟩) hK hN hZ hP (hP.sub [0, 1, 2] rfl) (va_recv (q := (RX8, TX8, 38)) hK hP (ci := 8) (q0 := 0) rfl rfl) rfl hl.1 rfl (Nat.le_of_ble_eq_true rfl) dX8_costBy_53 ⟨Nat.le_of_ble_eq_true rfl, Nat.le_of_ble_eq_true rfl⟩ (fun r_21 hr_21 => ?_)
      obtain ⟨g_22, g_23, hsr_21_0⟩ := hr_21
      refine lv_iload hx hb dX8_costBy_56 (lv_at hl 6 rfl) ?_
      refine lv_aload_n hx hb dX8_costBy_58 rfl (lv_at hl 2 rfl) ?_
      refine va_get (D := D) (ci := 8) (v := .ref mta) (C := RX8) (T := TX8) (N := 38) hx hb hts hi_X8_costBy_8 hown hK hP 0 rfl rfl 13 (by decide) (hts (.fieldLink RX8 35 "TheLiningsInItModel" "takes" "[I") (List.mem_of_getElem? (i := 3) rfl)) (fun _ h9 => h9) rfl dX8_costBy_59 ?_
      refine lv_iload_n hx hb dX8_costBy_62 rfl (lv_at hl 3 rfl) ?_
      refine va_iald hx hb hK hP 3 0 rfl rfl (zf_in (by omega) (by omega)) dX8_costBy_63 ?_
      refine lv_topi (fun x_24 ex_24 => ?_)
      have bx_24 : 0 ≤ x_24.toInt ∧ x_24.toInt ≤ 60 := by rw [ex_24]; exact hp_gta _
      have htx_24 : x_24.toInt ≤ sec.toInt := by (rw [ex_24]; exact htl)
      refine lv_isub hx hb dX8_costBy_64 ?_
      refine lv_topi (fun x_25 ex_25 => ?_)
      have qx_25 : x_25.toInt = sec.toInt - x_24.toInt := by rw [ex_25]; exact zf_sub rfl rfl (by omega) (by omega)
      refine zc_V (As := [.int 2, .int r_21, .int x_25]) (rest := [.int r_1, .int 0]) ⟨hx, hb, hml, hown, hts⟩ (c_F_M_leastCost_2 l D cI cJ cZ cP cS po m0 mrf mki mpa mta mla msl mco mhe mso msi msh mce mca mwo mnu mte mwa mke mma mth mtr (npu) (nte) (nat_) (nde) (nto) (nse) (nhu) (nga) (nsd) (nfa) (nba) (npl) (nen) (nnu) (nwr) (nra) (nik) gki gpa gta gco (r_21) (x_25) hy0 hy1 hy2 hy3 hy4 hy5 hy6 hy7 hy8 hy9 hy10 hy11 hy12 hy13 (by omega) (by omega) (by omega) (by omega) hp_gki hp_gpa hp_gta hp_gco) (cwV 3 hts gX8_costBy_X8_leastCost rfl rfl rfl ⟨rfl, dh_X8_leastCost⟩ ⟨Nat.le_of_ble_eq_true rfl, Nat.le_of_ble_eq_true rfl⟩) hK hN hZ hP (hP.sub [0, 1, 2, 3, 4] rfl) (va_recv (q := (RX8, TX8, 38)) hK hP (ci := 8) (q0 := 0) rfl rfl) rfl hl.1 rfl (Nat.le_of_ble_eq_true rfl) dX8_costBy_65 ⟨Nat.le_of_ble_eq_true rfl, Nat.le_of_ble_eq_true rfl⟩ (fun r_26 hr_26 => ?_)
      obtain ⟨g_27, g_28, hsr_26_0⟩ := hr_26
      refine lv_imul hx hb dX8_costBy_68 ?_
      refine lv_topi (fun x_29 ex_29 => ?_)
      obtain ⟨mx_29, nx_29, ox_29⟩ := zf_mulc (a := r_1) (b := r_26) (x := r_1.toInt) (y := r_26.toInt) (P := 14256) rfl rfl ⟨by omega, by omega⟩ ⟨by omega, by omega⟩ (by decide)
      rw [← ex_29] at mx_29
      refine lv_iadd hx hb dX8_costBy_69 ?_
      refine lv_topi (fun x_30 ex_30 => ?_)
      have qx_30 : x_30.toInt = 0 + x_29.toInt := by rw [ex_30]; exact zf_add (by decide) rfl (by omega) (by omega)
      refine lv_istore (lv' := [(6, .int x_30), (5, .int r_1), (0, .ref m0), (1, .int p_), (2, .int 3), (3, .int d), (4, .int sec)]) hx hb dX8_costBy_70 hl (by decide) rfl (fun ls hl => ?_)
      refine lv_iload hx hb dX8_costBy_72 (lv_at hl 1 rfl) ?_
      refine lv_bipush (v := 12) hx hb dX8_costBy_74 (by decide) ?_
      refine lv_icmp_ge (tgt := 113) hx hb dX8_costBy_76 (by decide) (fun c_31 => ?_) (fun c_31 => ?_)
      · have fc_31 : 12 ≤ r_1.toInt := zf_le c_31 (by decide) rfl
        refine lv_iload hx hb dX8_costBy_113 (lv_at hl 0 rfl) ?_
        exact W.iret (v := x_30) hx hb hr (fun t ht hW => ⟨x_30, rfl, ⟨by omega, by omega, (show (x_30 : Int32).toInt = zLb (zLn gki gpa gta npu.toInt.toNat nhu.toInt (gco 0).toInt (gco 1).toInt (gco 2).toInt 2) (gco 0).toInt (zPw 3) (gki p_.toNatClampNeg).toInt (gpa p_.toNatClampNeg).toInt (gta p_.toNatClampNeg).toInt nhu.toInt d.toInt sec.toInt from by (have zw := hsr_1_0; have E1 : r_1.toInt * (zLn gki gpa gta npu.toInt.toNat nhu.toInt (gco 0).toInt (gco 1).toInt (gco 2).toInt 2) (zShl (gki p_.toNatClampNeg).toInt (gpa p_.toNatClampNeg).toInt d.toInt) (sec.toInt - (gta p_.toNatClampNeg).toInt) = x_29.toInt := (by rw [← hsr_21_0.1 (by decide), show sec.toInt - (gta p_.toNatClampNeg).toInt = (x_25 : Int32).toInt from by (have z : (gta p_.toNatClampNeg).toInt = x_24.toInt := (by rw [ex_24]); omega), ← hsr_26_0]; omega); have E2 : (12 - r_1.toInt) * (zLn gki gpa gta npu.toInt.toNat nhu.toInt (gco 0).toInt (gco 1).toInt (gco 2).toInt 2) (zDpr (gki p_.toNatClampNeg).toInt (gpa p_.toNatClampNeg).toInt nhu.toInt d.toInt) (sec.toInt - (gta p_.toNatClampNeg).toInt) = 0 := (by rw [show 12 - r_1.toInt = 0 from by omega, Int.zero_mul]); have nk : (gki p_.toNatClampNeg).toInt = x_4.toInt := (by rw [ex_4]); unfold zLb zBy1; rw [← zw, E1, E2, show zPw 3 = 1728 from by decide]; first | (rw [if_neg (by omega)]; omega) | (rw [if_pos (by omega)]; omega)))⟩, ht⟩) (fun q hq => by cases hq) dX8_costBy_115
      · have fc_31 : r_1.toInt < 12 := zf_nle c_31 (by decide) rfl
        refine lv_iload hx hb dX8_costBy_79 (lv_at hl 0 rfl) ?_
        refine lv_bipush (v := 12) hx hb dX8_costBy_81 (by decide) ?_
        refine lv_iload hx hb dX8_costBy_83 (lv_at hl 1 rfl) ?_
        refine lv_isub hx hb dX8_costBy_85 ?_
        refine lv_topi (fun x_32 ex_32 => ?_)
        have qx_32 : x_32.toInt = 12 - r_1.toInt := by rw [ex_32]; exact zf_sub (by decide) rfl (by omega) (by omega)
        refine lv_aload_n hx hb dX8_costBy_86 rfl (lv_at hl 2 rfl) ?_
        refine lv_iload_n hx hb dX8_costBy_87 rfl (lv_at hl 4 rfl) ?_
        refine lv_iconst (v := 1) hx hb dX8_costBy_88 (by decide) ?_
        refine lv_isub hx hb dX8_costBy_89 ?_
        refine lv_topi (fun y_33 ey_33 => ?_)
        obtain rfl : y_33 = 2 := ey_33.trans (by decide)
        refine lv_aload_n hx hb dX8_costBy_90 rfl (lv_at hl 2 rfl) ?_
        refine lv_iload_n hx hb dX8_costBy_91 rfl (lv_at hl 3 rfl) ?_
        refine lv_iload_n hx hb dX8_costBy_92 rfl (lv_at hl 5 rfl) ?_
        refine lv_iconst (v := 0) hx hb dX8_costBy_93 (by decide) ?_
        have kc0 : (0 : Int32).toInt = 0 := by decide
        refine zc_V (As := [.int p_, .int d, .int 0]) (rest := [.int 2, .ref m0, .int x_32, .int x_30]) ⟨hx, hb, hml, hown, hts⟩ (c_F_M_deep l D cI cJ cZ cP cS po m0 mrf mki mpa mta mla msl mco mhe mso msi msh mce mca mwo mnu mte mwa mke mma mth mtr (npu) (nte) (nat_) (nde) (nto) (nse) (nhu) (nga) (nsd) (nfa) (nba) (npl) (nen) (nnu) (nwr) (nra) (nik) gki gpa (p_) (d) (0) hy0 hy1 hy2 hy3 hy4 hy5 hy6 hy7 hy8 hy9 hy10 hy11 hy12 hy13 hy14 hy15 hy16 hy17 (by omega) (by omega) hp_gki hp_gpa) (cwV 3 hts gX8_costBy_X8_deep rfl rfl rfl ⟨rfl, dh_X8_deep⟩ ⟨Nat.le_of_ble_eq_true rfl, Nat.le_of_ble_eq_true rfl⟩) hK hN hZ hP (hP.sub [0, 1, 2] rfl) (va_recv (q := (RX8, TX8, 38)) hK hP (ci := 8) (q0 := 0) rfl rfl) rfl hl.1 rfl (Nat.le_of_ble_eq_true rfl) dX8_costBy_94 ⟨Nat.le_of_ble_eq_true rfl, Nat.le_of_ble_eq_true rfl⟩ (fun r_34 hr_34 => ?_)
        obtain ⟨g_35, g_36, hsr_34_0⟩ := hr_34
        refine lv_iload hx hb dX8_costBy_97 (lv_at hl 6 rfl) ?_
        refine lv_aload_n hx hb dX8_costBy_99 rfl (lv_at hl 2 rfl) ?_
        refine va_get (D := D) (ci := 8) (v := .ref mta) (C := RX8) (T := TX8) (N := 38) hx hb hts hi_X8_costBy_8 hown hK hP 0 rfl rfl 13 (by decide) (hts (.fieldLink RX8 35 "TheLiningsInItModel" "takes" "[I") (List.mem_of_getElem? (i := 3) rfl)) (fun _ h9 => h9) rfl dX8_costBy_100 ?_
        refine lv_iload_n hx hb dX8_costBy_103 rfl (lv_at hl 3 rfl) ?_
        refine va_iald hx hb hK hP 3 0 rfl rfl (zf_in (by omega) (by omega)) dX8_costBy_104 ?_
        refine lv_topi (fun y_37 ey_37 => ?_)
        obtain rfl : x_24 = y_37 := ex_24.trans ey_37.symm
        refine lv_isub hx hb dX8_costBy_105 ?_
        refine lv_topi (fun y_38 ey_38 => ?_)
        obtain rfl : x_25 = y_38 := ex_25.trans ey_38.symm
        refine zc_V (As := [.int 2, .int r_34, .int x_25]) (rest := [.int x_32, .int x_30]) ⟨hx, hb, hml, hown, hts⟩ (c_F_M_leastCost_2 l D cI cJ cZ cP cS po m0 mrf mki mpa mta mla msl mco mhe mso msi msh mce mca mwo mnu mte mwa mke mma mth mtr (npu) (nte) (nat_) (nde) (nto) (nse) (nhu) (nga) (nsd) (nfa) (nba) (npl) (nen) (nnu) (nwr) (nra) (nik) gki gpa gta gco (r_34) (x_25) hy0 hy1 hy2 hy3 hy4 hy5 hy6 hy7 hy8 hy9 hy10 hy11 hy12 hy13 (by omega) (by omega) (by omega) (by omega) hp_gki hp_gpa hp_gta hp_gco) (cwV 3 hts gX8_costBy_X8_leastCost rfl rfl rfl ⟨rfl, dh_X8_leastCost⟩ ⟨Nat.le_of_ble_eq_true rfl, Nat.le_of_ble_eq_true rfl⟩) hK hN hZ hP (hP.sub [0, 1, 2, 3, 4] rfl) (va_recv (q := (RX8, TX8, 38)) hK hP (ci := 8) (q0 := 0) rfl rfl) rfl hl.1 rfl (Nat.le_of_ble_eq_true rfl) dX8_costBy_106 ⟨Nat.le_of_ble_eq_true rfl, Nat.le_of_ble_eq_true rfl⟩ (fun r_39 hr_39 => ?_)
        obtain ⟨g_40, g_41, hsr_39_0⟩ := hr_39
        refine lv_imul hx hb dX8_costBy_109 ?_
        refine lv_topi (fun x_42 ex_42 => ?_)
        obtain ⟨mx_42, nx_42, ox_42⟩ := zf_mulc (a := x_32) (b := r_39) (x := x_32.toInt) (y := r_39.toInt) (P := 14256) rfl rfl ⟨by omega, by omega⟩ ⟨by omega, by omega⟩ (by decide)
        rw [← ex_42] at mx_42
        refine lv_iadd hx hb dX8_costBy_110 ?_
        refine lv_topi (fun x_43 ex_43 => ?_)
        have qx_43 : x_43.toInt = x_30.toInt + x_42.toInt := by rw [ex_43]; exact zf_add rfl rfl (by omega) (by omega)
        refine lv_istore (lv' := [(6, .int x_43), (5, .int r_1), (0, .ref m0), (1, .int p_), (2, .int 3), (3, .int d), (4, .int sec)]) hx hb dX8_costBy_111 hl (by decide) rfl (fun ls hl => ?_)
        refine lv_iload hx hb dX8_costBy_113 (lv_at hl 0 rfl) ?_
        have hmx9 := zMix (w := r_1.toInt) (x := r_26.toInt) (y := r_39.toInt) (P := 14256) ⟨by omega, by omega⟩ ⟨by omega, by omega⟩ ⟨by omega, by omega⟩
        rw [show 12 - r_1.toInt = x_32.toInt from by omega] at hmx9
        exact W.iret (v := x_43) hx hb hr (fun t ht hW => ⟨x_43, rfl, ⟨by omega, by omega, (show (x_43 : Int32).toInt = zLb (zLn gki gpa gta npu.toInt.toNat nhu.toInt (gco 0).toInt (gco 1).toInt (gco 2).toInt 2) (gco 0).toInt (zPw 3) (gki p_.toNatClampNeg).toInt (gpa p_.toNatClampNeg).toInt (gta p_.toNatClampNeg).toInt nhu.toInt d.toInt sec.toInt from by (have zw := hsr_1_0; have E1 : r_1.toInt * (zLn gki gpa gta npu.toInt.toNat nhu.toInt (gco 0).toInt (gco 1).toInt (gco 2).toInt 2) (zShl (gki p_.toNatClampNeg).toInt (gpa p_.toNatClampNeg).toInt d.toInt) (sec.toInt - (gta p_.toNatClampNeg).toInt) = x_29.toInt := (by rw [← hsr_21_0.1 (by decide), show sec.toInt - (gta p_.toNatClampNeg).toInt = (x_25 : Int32).toInt from by (have z : (gta p_.toNatClampNeg).toInt = x_24.toInt := (by rw [ex_24]); omega), ← hsr_26_0]; omega); have E2 : (12 - r_1.toInt) * (zLn gki gpa gta npu.toInt.toNat nhu.toInt (gco 0).toInt (gco 1).toInt (gco 2).toInt 2) (zDpr (gki p_.toNatClampNeg).toInt (gpa p_.toNatClampNeg).toInt nhu.toInt d.toInt) (sec.toInt - (gta p_.toNatClampNeg).toInt) = x_42.toInt := (by rw [← hsr_34_0.2 (by decide), show sec.toInt - (gta p_.toNatClampNeg).toInt = (x_25 : Int32).toInt from by (have z : (gta p_.toNatClampNeg).toInt = x_24.toInt := (by rw [ex_24]); omega), ← hsr_39_0, show 12 - r_1.toInt = x_32.toInt from by omega]; omega); have nk : (gki p_.toNatClampNeg).toInt = x_4.toInt := (by rw [ex_4]); unfold zLb zBy1; rw [← zw, E1, E2, show zPw 3 = 1728 from by decide]; first | (rw [if_neg (by omega)]; omega) | (rw [if_pos (by omega)]; omega)))⟩, ht⟩) (fun q hq => by cases hq) dX8_costBy_115
  · have fc_5 : x_4.toInt = 5 := zf_eq c_5 rfl (by decide)
    refine lv_aload_n hx hb dX8_costBy_18 rfl (lv_at hl 1 rfl) ?_
    refine va_get (D := D) (ci := 8) (v := .ref mco) (C := RX8) (T := TX8) (N := 38) hx hb hts hi_X8_costBy_8 hown hK hP 0 rfl rfl 16 (by decide) (hts (.fieldLink RX8 44 "TheLiningsInItModel" "cost" "[I") (List.mem_of_getElem? (i := 2) rfl)) (fun _ h9 => h9) rfl dX8_costBy_19 ?_
    refine lv_iconst (v := 0) hx hb dX8_costBy_22 (by decide) ?_
    refine va_iald hx hb hK hP 4 0 rfl rfl (zf_in (by decide) (by decide)) dX8_costBy_23 ?_
    refine lv_topi (fun x_44 ex_44 => ?_)
    have bx_44 : 0 ≤ x_44.toInt ∧ x_44.toInt ≤ 99 := by rw [ex_44]; exact hp_gco _
    refine lv_aload_n hx hb dX8_costBy_24 rfl (lv_at hl 1 rfl) ?_
    refine lv_iload_n hx hb dX8_costBy_25 rfl (lv_at hl 3 rfl) ?_
    refine zc_V (As := [.int 3]) (rest := [.int x_44]) ⟨hx, hb, hml, hown, hts⟩ (c_M_power_3 l D cI cJ cZ cP cS po m0 mrf mki mpa mta mla msl mco mhe mso msi msh mce mca mwo mnu mte mwa mke mma mth mtr (npu) (nte) (nat_) (nde) (nto) (nse) (nhu) (nga) (nsd) (nfa) (nba) (npl) (nen) (nnu) (nwr) (nra) (nik) hy0 hy1 hy2 hy3 hy4 hy5 hy6 hy7 hy8 hy9 hy10 hy11 hy12 hy13) (cwV 1 hts gX8_costBy_X8_power rfl rfl rfl ⟨rfl, dh_X8_power⟩ ⟨Nat.le_of_ble_eq_true rfl, Nat.le_of_ble_eq_true rfl⟩) hK hN hZ hP (hP.sub [0] rfl) (va_recv (q := (RX8, TX8, 38)) hK hP (ci := 8) (q0 := 0) rfl rfl) rfl hl.1 rfl (Nat.le_of_ble_eq_true rfl) dX8_costBy_26 ⟨Nat.le_of_ble_eq_true rfl, Nat.le_of_ble_eq_true rfl⟩ (fun r_45 hr_45 => ?_)
    obtain rfl := hr_45
    refine lv_imul hx hb dX8_costBy_29 ?_
    refine lv_topi (fun x_46 ex_46 => ?_)
    have qx_46 : x_46.toInt = x_44.toInt * 1728 := by rw [ex_46]; exact zf_mul rfl (by decide) (by omega) (by omega)
    refine lv_goto (tgt := 34) hx hb dX8_costBy_30 (by decide) ?_
    refine lv_istore (lv' := [(6, .int x_46), (5, .int r_1), (0, .ref m0), (1, .int p_), (2, .int 3), (3, .int d), (4, .int sec)]) hx hb dX8_costBy_34 hl (by decide) rfl (fun ls hl => ?_)
    refine lv_iload hx hb dX8_costBy_36 (lv_at hl 1 rfl) ?_
    refine lv_if_le (tgt := 72) hx hb dX8_costBy_38 (by decide) (fun c_47 => ?_) (fun c_47 => ?_)
    · have fc_47 : r_1.toInt ≤ 0 := zf_le c_47 rfl (by decide)
      refine lv_iload hx hb dX8_costBy_72 (lv_at hl 1 rfl) ?_
      refine lv_bipush (v := 12) hx hb dX8_costBy_74 (by decide) ?_
      refine lv_icmp_ge (tgt := 113) hx hb dX8_costBy_76 (by decide) (fun c_48 => ?_) (fun c_48 => ?_)
      · exfalso; have fc_48 : 12 ≤ r_1.toInt := zf_le c_48 (by decide) rfl; omega
      · have fc_48 : r_1.toInt < 12 := zf_nle c_48 (by decide) rfl
        refine lv_iload hx hb dX8_costBy_79 (lv_at hl 0 rfl) ?_
        refine lv_bipush (v := 12) hx hb dX8_costBy_81 (by decide) ?_
        refine lv_iload hx hb dX8_costBy_83 (lv_at hl 1 rfl) ?_
        refine lv_isub hx hb dX8_costBy_85 ?_
        refine lv_topi (fun x_49 ex_49 => ?_)
        have qx_49 : x_49.toInt = 12 - r_1.toInt := by rw [ex_49]; exact zf_sub (by decide) rfl (by omega) (by omega)
        refine lv_aload_n hx hb dX8_costBy_86 rfl (lv_at hl 2 rfl) ?_
        refine lv_iload_n hx hb dX8_costBy_87 rfl (lv_at hl 4 rfl) ?_
        refine lv_iconst (v := 1) hx hb dX8_costBy_88 (by decide) ?_
        refine lv_isub hx hb dX8_costBy_89 ?_
        refine lv_topi (fun y_50 ey_50 => ?_)
        obtain rfl : y_50 = 2 := ey_50.trans (by decide)
        refine lv_aload_n hx hb dX8_costBy_90 rfl (lv_at hl 2 rfl) ?_
        refine lv_iload_n hx hb dX8_costBy_91 rfl (lv_at hl 3 rfl) ?_
        refine lv_iload_n hx hb dX8_costBy_92 rfl (lv_at hl 5 rfl) ?_
        refine lv_iconst (v := 0) hx hb dX8_costBy_93 (by decide) ?_
        have kc0 : (0 : Int32).toInt = 0 := by decide
        refine zc_V (As := [.int p_, .int d, .int 0]) (rest := [.int 2, .ref m0, .int x_49, .int x_46]) ⟨hx, hb, hml, hown, hts⟩ (c_F_M_deep l D cI cJ cZ cP cS po m0 mrf mki mpa mta mla msl mco mhe mso msi msh mce mca mwo mnu mte mwa mke mma mth mtr (npu) (nte) (nat_) (nde) (nto) (nse) (nhu) (nga) (nsd) (nfa) (nba) (npl) (nen) (nnu) (nwr) (nra) (nik) gki gpa (p_) (d) (0) hy0 hy1 hy2 hy3 hy4 hy5 hy6 hy7 hy8 hy9 hy10 hy11 hy12 hy13 hy14 hy15 hy16 hy17 (by omega) (by omega) hp_gki hp_gpa) (cwV 3 hts gX8_costBy_X8_deep rfl rfl rfl ⟨rfl, dh_X8_deep⟩ ⟨Nat.le_of_ble_eq_true rfl, Nat.le_of_ble_eq_true rfl⟩) hK hN hZ hP (hP.sub [0, 1, 2] rfl) (va_recv (q := (RX8, TX8, 38)) hK hP (ci := 8) (q0 := 0) rfl rfl) rfl hl.1 rfl (Nat.le_of_ble_eq_true rfl) dX8_costBy_94 ⟨Nat.le_of_ble_eq_true rfl, Nat.le_of_ble_eq_true rfl⟩ (fun r_51 hr_51 => ?_)
        obtain ⟨g_52, g_53, hsr_51_0⟩ := hr_51
        refine lv_iload hx hb dX8_costBy_97 (lv_at hl 6 rfl) ?_
        refine lv_aload_n hx hb dX8_costBy_99 rfl (lv_at hl 2 rfl) ?_
        refine va_get (D := D) (ci := 8) (v := .ref mta) (C := RX8) (T := TX8) (N := 38) hx hb hts hi_X8_costBy_8 hown hK hP 0 rfl rfl 13 (by decide) (hts (.fieldLink RX8 35 "TheLiningsInItModel" "takes" "[I") (List.mem_of_getElem? (i := 3) rfl)) (fun _ h9 => h9) rfl dX8_costBy_100 ?_
        refine lv_iload_n hx hb dX8_costBy_103 rfl (lv_at hl 3 rfl) ?_
        refine va_iald hx hb hK hP 3 0 rfl rfl (zf_in (by omega) (by omega)) dX8_costBy_104 ?_
        refine lv_topi (fun x_54 ex_54 => ?_)
        have bx_54 : 0 ≤ x_54.toInt ∧ x_54.toInt ≤ 60 := by rw [ex_54]; exact hp_gta _
        have htx_54 : x_54.toInt ≤ sec.toInt := by (rw [ex_54]; exact htl)
        refine lv_isub hx hb dX8_costBy_105 ?_
        refine lv_topi (fun x_55 ex_55 => ?_)
        have qx_55 : x_55.toInt = sec.toInt - x_54.toInt := by rw [ex_55]; exact zf_sub rfl rfl (by omega) (by omega)
        refine zc_V (As := [.int 2, .int r_51, .int x_55]) (rest := [.int x_49, .int x_46]) ⟨hx, hb, hml, hown, hts⟩ (c_F_M_leastCost_2 l D cI cJ cZ cP cS po m0 mrf mki mpa mta mla msl mco mhe mso msi msh mce mca mwo mnu mte mwa mke mma mth mtr (npu) (nte) (nat_) (nde) (nto) (nse) (nhu) (nga) (nsd) (nfa) (nba) (npl) (nen) (nnu) (nwr) (nra) (nik) gki gpa gta gco (r_51) (x_55) hy0 hy1 hy2 hy3 hy4 hy5 hy6 hy7 hy8 hy9 hy10 hy11 hy12 hy13 (by omega) (by omega) (by omega) (by omega) hp_gki hp_gpa hp_gta hp_gco) (cwV 3 hts gX8_costBy_X8_leastCost rfl rfl rfl ⟨rfl, dh_X8_leastCost⟩ ⟨Nat.le_of_ble_eq_true rfl, Nat.le_of_ble_eq_true rfl⟩) hK hN hZ hP (hP.sub [0, 1, 2, 3, 4] rfl) (va_recv (q := (RX8, TX8, 38)) hK hP (ci := 8) (q0 := 0) rfl rfl) rfl hl.1 rfl (Nat.le_of_ble_eq_true rfl) dX8_costBy_106 ⟨Nat.le_of_ble_eq_true rfl, Nat.le_of_ble_eq_true rfl⟩ (fun r_56 hr_56 => ?_)
        obtain ⟨g_57, g_58, hsr_56_0⟩ := hr_56
        refine lv_imul hx hb dX8_costBy_109 ?_
        refine lv_topi (fun x_59 ex_59 => ?_)
        obtain ⟨mx_59, nx_59, ox_59⟩ := zf_mulc (a := x_49) (b := r_56) (x := x_49.toInt) (y := r_56.toInt) (P := 14256) rfl rfl ⟨by omega, by omega⟩ ⟨by omega, by omega⟩ (by decide)
        rw [← ex_59] at mx_59
        refine lv_iadd hx hb dX8_costBy_110 ?_
        refine lv_topi (fun x_60 ex_60 => ?_)
        have qx_60 : x_60.toInt = x_46.toInt + x_59.toInt := by rw [ex_60]; exact zf_add rfl rfl (by omega) (by omega)
        refine lv_istore (lv' := [(6, .int x_60), (5, .int r_1), (0, .ref m0), (1, .int p_), (2, .int 3), (3, .int d), (4, .int sec)]) hx hb dX8_costBy_111 hl (by decide) rfl (fun ls hl => ?_)
        refine lv_iload hx hb dX8_costBy_113 (lv_at hl 0 rfl) ?_
        exact W.iret (v := x_60) hx hb hr (fun t ht hW => ⟨x_60, rfl, ⟨by omega, by omega, (show (x_60 : Int32).toInt = zLb (zLn gki gpa gta npu.toInt.toNat nhu.toInt (gco 0).toInt (gco 1).toInt (gco 2).toInt 2) (gco 0).toInt (zPw 3) (gki p_.toNatClampNeg).toInt (gpa p_.toNatClampNeg).toInt (gta p_.toNatClampNeg).toInt nhu.toInt d.toInt sec.toInt from by (have nx_44 : (gco 0).toInt = x_44.toInt := (by rw [ex_44, show (0 : Int32).toNatClampNeg = 0 from by decide]); have zw := hsr_1_0; have E1 : r_1.toInt * (zLn gki gpa gta npu.toInt.toNat nhu.toInt (gco 0).toInt (gco 1).toInt (gco 2).toInt 2) (zShl (gki p_.toNatClampNeg).toInt (gpa p_.toNatClampNeg).toInt d.toInt) (sec.toInt - (gta p_.toNatClampNeg).toInt) = 0 := (by rw [show r_1.toInt = 0 from by omega, Int.zero_mul]); have E2 : (12 - r_1.toInt) * (zLn gki gpa gta npu.toInt.toNat nhu.toInt (gco 0).toInt (gco 1).toInt (gco 2).toInt 2) (zDpr (gki p_.toNatClampNeg).toInt (gpa p_.toNatClampNeg).toInt nhu.toInt d.toInt) (sec.toInt - (gta p_.toNatClampNeg).toInt) = x_59.toInt := (by rw [← hsr_51_0.2 (by decide), show sec.toInt - (gta p_.toNatClampNeg).toInt = (x_55 : Int32).toInt from by (have z : (gta p_.toNatClampNeg).toInt = x_54.toInt := (by rw [ex_54]); omega), ← hsr_56_0, show 12 - r_1.toInt = x_49.toInt from by omega]; omega); have nk : (gki p_.toNatClampNeg).toInt = x_4.toInt := (by rw [ex_4]); unfold zLb zBy1; rw [← zw, E1, E2, show zPw 3 = 1728 from by decide]; first | (rw [if_pos (by omega)]; omega) | (rw [if_neg (by omega)]; omega)))⟩, ht⟩) (fun q hq => by cases hq) dX8_costBy_115
    · have fc_47 : 0 < r_1.toInt := zf_nle c_47 rfl (by decide)
      refine lv_iload hx hb dX8_costBy_41 (lv_at hl 0 rfl) ?_
      refine lv_iload hx hb dX8_costBy_43 (lv_at hl 1 rfl) ?_
      refine lv_aload_n hx hb dX8_costBy_45 rfl (lv_at hl 2 rfl) ?_
      refine lv_iload_n hx hb dX8_costBy_46 rfl (lv_at hl 4 rfl) ?_
      refine lv_iconst (v := 1) hx hb dX8_costBy_47 (by decide) ?_
      refine lv_isub hx hb dX8_costBy_48 ?_
      refine lv_topi (fun y_61 ey_61 => ?_)
      obtain rfl : y_61 = 2 := ey_61.trans (by decide)
      refine lv_aload_n hx hb dX8_costBy_49 rfl (lv_at hl 2 rfl) ?_
      refine lv_iload_n hx hb dX8_costBy_50 rfl (lv_at hl 3 rfl) ?_
      refine lv_iload_n hx hb dX8_costBy_51 rfl (lv_at hl 5 rfl) ?_
      refine lv_iconst (v := 1) hx hb dX8_costBy_52 (by decide) ?_
      have kc1 : (1 : Int32).toInt = 1 := by decide
      refine zc_V (As := [.int p_, .int d, .int 1]) (rest := [.int 2, .ref m0, .int r_1, .int x_46]) ⟨hx, hb, hml, hown, hts⟩ (c_F_M_deep l D cI cJ cZ cP cS po m0 mrf mki mpa mta mla msl mco mhe mso msi msh mce mca mwo mnu mte mwa mke mma mth mtr (npu) (nte) (nat_) (nde) (nto) (nse) (nhu) (nga) (nsd) (nfa) (nba) (npl) (nen) (nnu) (nwr) (nra) (nik) gki gpa (p_) (d) (1) hy0 hy1 hy2 hy3 hy4 hy5 hy6 hy7 hy8 hy9 hy10 hy11 hy12 hy13 hy14 hy15 hy16 hy17 (by omega) (by omega) hp_gki hp_gpa) (cwV 3 hts gX8_costBy_X8_deep rfl rfl rfl ⟨rfl, dh_X8_deep⟩ ⟨Nat.le_of_ble_eq_true rfl, Nat.le_of_ble_eq_true rfl⟩) hK hN hZ hP (hP.sub [0, 1, 2] rfl) (va_recv (q := (RX8, TX8, 38)) hK hP (ci := 8) (q0 := 0) rfl rfl) rfl hl.1 rfl (Nat.le_of_ble_eq_true rfl) dX8_costBy_53 ⟨Nat.le_of_ble_eq_true rfl, Nat.le_of_ble_eq_true rfl⟩ (fun r_62 hr_62 => ?_)
      obtain ⟨g_63, g_64, hsr_62_0⟩ := hr_62
      refine lv_iload hx hb dX8_costBy_56 (lv_at hl 6 rfl) ?_
      refine lv_aload_n hx hb dX8_costBy_58 rfl (lv_at hl 2 rfl) ?_
      refine va_get (D := D) (ci := 8) (v := .ref mta) (C := RX8) (T := TX8) (N := 38) hx hb hts hi_X8_costBy_8 hown hK hP 0 rfl rfl 13 (by decide) (hts (.fieldLink RX8 35 "TheLiningsInItModel" "takes" "[I") (List.mem_of_getElem? (i := 3) rfl)) (fun _ h9 => h9) rfl dX8_costBy_59 ?_
      refine lv_iload_n hx hb dX8_costBy_62 rfl (lv_at hl 3 rfl) ?_
      refine va_iald hx hb hK hP 3 0 rfl rfl (zf_in (by omega) (by omega)) dX8_costBy_63 ?_
      refine lv_topi (fun x_65 ex_65 => ?_)
      have bx_65 : 0 ≤ x_65.toInt ∧ x_65.toInt ≤ 60 := by rw [ex_65]; exact hp_gta _
      have htx_65 : x_65.toInt ≤ sec.toInt := by (rw [ex_65]; exact htl)
      refine lv_isub hx hb dX8_costBy_64 ?_
      refine lv_topi (fun x_66 ex_66 => ?_)
      have qx_66 : x_66.toInt = sec.toInt - x_65.toInt := by rw [ex_66]; exact zf_sub rfl rfl (by omega) (by omega)
      refine zc_V (As := [.int 2, .int r_62, .int x_66]) (rest := [.int r_1, .int x_46]) ⟨hx, hb, hml, hown, hts⟩ (c_F_M_leastCost_2 l D cI cJ cZ cP cS po m0 mrf mki mpa mta mla msl mco mhe mso msi msh mce mca mwo mnu mte mwa mke mma mth mtr (npu) (nte) (nat_) (nde) (nto) (nse) (nhu) (nga) (nsd) (nfa) (nba) (npl) (nen) (nnu) (nwr) (nra) (nik) gki gpa gta gco (r_62) (x_66) hy0 hy1 hy2 hy3 hy4 hy5 hy6 hy7 hy8 hy9 hy10 hy11 hy12 hy13 (by omega) (by omega) (by omega) (by omega) hp_gki hp_gpa hp_gta hp_gco) (cwV 3 hts gX8_costBy_X8_leastCost rfl rfl rfl ⟨rfl, dh_X8_leastCost⟩ ⟨Nat.le_of_ble_eq_true rfl, Nat.le_of_ble_eq_true rfl⟩) hK hN hZ hP (hP.sub [0, 1, 2, 3, 4] rfl) (va_recv (q := (RX8, TX8, 38)) hK hP (ci := 8) (q0 := 0) rfl rfl) rfl hl.1 rfl (Nat.le_of_ble_eq_true rfl) dX8_costBy_65 ⟨Nat.le_of_ble_eq_true rfl, Nat.le_of_ble_eq_true rfl⟩ (fun r_67 hr_67 => ?_)
      obtain ⟨g_68, g_69, hsr_67_0⟩ := hr_67
      refine lv_imul hx hb dX8_costBy_68 ?_
      refine lv_topi (fun x_70 ex_70 => ?_)
      obtain ⟨mx_70, nx_70, ox_70⟩ := zf_mulc (a := r_1) (b := r_67) (x := r_1.toInt) (y := r_67.toInt) (P := 14256) rfl rfl ⟨by omega, by omega⟩ ⟨by omega, by omega⟩ (by decide)
      rw [← ex_70] at mx_70
      refine lv_iadd hx hb dX8_costBy_69 ?_
      refine lv_topi (fun x_71 ex_71 => ?_)
      have qx_71 : x_71.toInt = x_46.toInt + x_70.toInt := by rw [ex_71]; exact zf_add rfl rfl (by omega) (by omega)
      refine lv_istore (lv' := [(6, .int x_71), (5, .int r_1), (0, .ref m0), (1, .int p_), (2, .int 3), (3, .int d), (4, .int sec)]) hx hb dX8_costBy_70 hl (by decide) rfl (fun ls hl => ?_)
      refine lv_iload hx hb dX8_costBy_72 (lv_at hl 1 rfl) ?_
      refine lv_bipush (v := 12) hx hb dX8_costBy_74 (by decide) ?_
      refine lv_icmp_ge (tgt := 113) hx hb dX8_costBy_76 (by decide) (fun c_72 => ?_) (fun c_72 => ?_)
      · have fc_72 : 12 ≤ r_1.toInt := zf_le c_72 (by decide) rfl
        refine lv_iload hx hb dX8_costBy_113 (lv_at hl 0 rfl) ?_
        exact W.iret (v := x_71) hx hb hr (fun t ht hW => ⟨x_71, rfl, ⟨by omega, by omega, (show (x_71 : Int32).toInt = zLb (zLn gki gpa gta npu.toInt.toNat nhu.toInt (gco 0).toInt (gco 1).toInt (gco 2).toInt 2) (gco 0).toInt (zPw 3) (gki p_.toNatClampNeg).toInt (gpa p_.toNatClampNeg).toInt (gta p_.toNatClampNeg).toInt nhu.toInt d.toInt sec.toInt from by (have nx_44 : (gco 0).toInt = x_44.toInt := (by rw [ex_44, show (0 : Int32).toNatClampNeg = 0 from by decide]); have zw := hsr_1_0; have E1 : r_1.toInt * (zLn gki gpa gta npu.toInt.toNat nhu.toInt (gco 0).toInt (gco 1).toInt (gco 2).toInt 2) (zShl (gki p_.toNatClampNeg).toInt (gpa p_.toNatClampNeg).toInt d.toInt) (sec.toInt - (gta p_.toNatClampNeg).toInt) = x_70.toInt := (by rw [← hsr_62_0.1 (by decide), show sec.toInt - (gta p_.toNatClampNeg).toInt = (x_66 : Int32).toInt from by (have z : (gta p_.toNatClampNeg).toInt = x_65.toInt := (by rw [ex_65]); omega), ← hsr_67_0]; omega); have E2 : (12 - r_1.toInt) * (zLn gki gpa gta npu.toInt.toNat nhu.toInt (gco 0).toInt (gco 1).toInt (gco 2).toInt 2) (zDpr (gki p_.toNatClampNeg).toInt (gpa p_.toNatClampNeg).toInt nhu.toInt d.toInt) (sec.toInt - (gta p_.toNatClampNeg).toInt) = 0 := (by rw [show 12 - r_1.toInt = 0 from by omega, Int.zero_mul]); have nk : (gki p_.toNatClampNeg).toInt = x_4.toInt := (by rw [ex_4]); unfold zLb zBy1; rw [← zw, E1, E2, show zPw 3 = 1728 from by decide]; first | (rw [if_pos (by omega)]; omega) | (rw [if_neg (by omega)]; omega)))⟩, ht⟩) (fun q hq => by cases hq) dX8_costBy_115
      · have fc_72 : r_1.toInt < 12 := zf_nle c_72 (by decide) rfl
        refine lv_iload hx hb dX8_costBy_79 (lv_at hl 0 rfl) ?_
        refine lv_bipush (v := 12) hx hb dX8_costBy_81 (by decide) ?_
        refine lv_iload hx hb dX8_costBy_83 (lv_at hl 1 rfl) ?_
        refine lv_isub hx hb dX8_costBy_85 ?_
        refine lv_topi (fun x_73 ex_73 => ?_)
        have qx_73 : x_73.toInt = 12 - r_1.toInt := by rw [ex_73]; exact zf_sub (by decide) rfl (by omega) (by omega)
        refine lv_aload_n hx hb dX8_costBy_86 rfl (lv_at hl 2 rfl) ?_
        refine lv_iload_n hx hb dX8_costBy_87 rfl (lv_at hl 4 rfl) ?_
        refine lv_iconst (v := 1) hx hb dX8_costBy_88 (by decide) ?_
        refine lv_isub hx hb dX8_costBy_89 ?_
        refine lv_topi (fun y_74 ey_74 => ?_)
        obtain rfl : y_74 = 2 := ey_74.trans (by decide)
        refine lv_aload_n hx hb dX8_costBy_90 rfl (lv_at hl 2 rfl) ?_
        refine lv_iload_n hx hb dX8_costBy_91 rfl (lv_at hl 3 rfl) ?_
        refine lv_iload_n hx hb dX8_costBy_92 rfl (lv_at hl 5 rfl) ?_
        refine lv_iconst (v := 0) hx hb dX8_costBy_93 (by decide) ?_
        have kc0 : (0 : Int32).toInt = 0 := by decide
        refine zc_V (As := [.int p_, .int d, .int 0]) (rest := [.int 2, .ref m0, .int x_73, .int x_71]) ⟨hx, hb, hml, hown, hts⟩ (c_F_M_deep l D cI cJ cZ cP cS po m0 mrf mki mpa mta mla msl mco mhe mso msi msh mce mca mwo mnu mte mwa mke mma mth mtr (npu) (nte) (nat_) (nde) (nto) (nse) (nhu) (nga) (nsd) (nfa) (nba) (npl) (nen) (nnu) (nwr) (nra) (nik) gki gpa (p_) (d) (0) hy0 hy1 hy2 hy3 hy4 hy5 hy6 hy7 hy8 hy9 hy10 hy11 hy12 hy13 hy14 hy15 hy16 hy17 (by omega) (by omega) hp_gki hp_gpa) (cwV 3 hts gX8_costBy_X8_deep rfl rfl rfl ⟨rfl, dh_X8_deep⟩ ⟨Nat.le_of_ble_eq_true rfl, Nat.le_of_ble_eq_true rfl⟩) hK hN hZ hP (hP.sub [0, 1, 2] rfl) (va_recv (q := (RX8, TX8, 38)) hK hP (ci := 8) (q0 := 0) rfl rfl) rfl hl.1 rfl (Nat.le_of_ble_eq_true rfl) dX8_costBy_94 ⟨Nat.le_of_ble_eq_true rfl, Nat.le_of_ble_eq_true rfl⟩ (fun r_75 hr_75 => ?_)
        obtain ⟨g_76, g_77, hsr_75_0⟩ := hr_75
        refine lv_iload hx hb dX8_costBy_97 (lv_at hl 6 rfl) ?_
        refine lv_aload_n hx hb dX8_costBy_99 rfl (lv_at hl 2 rfl) ?_
        refine va_get (D := D) (ci := 8) (v := .ref mta) (C := RX8) (T := TX8) (N := 38) hx hb hts hi_X8_costBy_8 hown hK hP 0 rfl rfl 13 (by decide) (hts (.fieldLink RX8 35 "TheLiningsInItModel" "takes" "[I") (List.mem_of_getElem? (i := 3) rfl)) (fun _ h9 => h9) rfl dX8_costBy_100 ?_
        refine lv_iload_n hx hb dX8_costBy_103 rfl (lv_at hl 3 rfl) ?_
        refine va_iald hx hb hK hP 3 0 rfl rfl (zf_in (by omega) (by omega)) dX8_costBy_104 ?_
        refine lv_topi (fun y_78 ey_78 => ?_)
        obtain rfl : x_65 = y_78 := ex_65.trans ey_78.symm
        refine lv_isub hx hb dX8_costBy_105 ?_
        refine lv_topi (fun y_79 ey_79 => ?_)
        obtain rfl : x_66 = y_79 := ex_66.trans ey_79.symm
        refine zc_V (As := [.int 2, .int r_75, .int x_66]) (rest := [.int x_73, .int x_71]) ⟨hx, hb, hml, hown, hts⟩ (c_F_M_leastCost_2 l D cI cJ cZ cP cS po m0 mrf mki mpa mta mla msl mco mhe mso msi msh mce mca mwo mnu mte mwa mke mma mth mtr (npu) (nte) (nat_) (nde) (nto) (nse) (nhu) (nga) (nsd) (nfa) (nba) (npl) (nen) (nnu) (nwr) (nra) (nik) gki gpa gta gco (r_75) (x_66) hy0 hy1 hy2 hy3 hy4 hy5 hy6 hy7 hy8 hy9 hy10 hy11 hy12 hy13 (by omega) (by omega) (by omega) (by omega) hp_gki hp_gpa hp_gta hp_gco) (cwV 3 hts gX8_costBy_X8_leastCost rfl rfl rfl ⟨rfl, dh_X8_leastCost⟩ ⟨Nat.le_of_ble_eq_true rfl, Nat.le_of_ble_eq_true rfl⟩) hK hN hZ hP (hP.sub [0, 1, 2, 3, 4] rfl) (va_recv (q := (RX8, TX8, 38)) hK hP (ci := 8) (q0 := 0) rfl rfl) rfl hl.1 rfl (Nat.le_of_ble_eq_true rfl) dX8_costBy_106 ⟨Nat.le_of_ble_eq_true rfl, Nat.le_of_ble_eq_true rfl⟩ (fun r_80 hr_80 => ?_)
        obtain ⟨g_81, g_82, hsr_80_0⟩ := hr_80
        refine lv_imul hx hb dX8_costBy_109 ?_
        refine lv_topi (fun x_83 ex_83 => ?_)
        obtain ⟨mx_83, nx_83, ox_83⟩ := zf_mulc (a := x_73) (b := r_80) (x := x_73.toInt) (y := r_80.toInt) (P := 14256) rfl rfl ⟨by omega, by omega⟩ ⟨by omega, by omega⟩ (by decide)
        rw [← ex_83] at mx_83
        refine lv_iadd hx hb dX8_costBy_110 ?_
        refine lv_topi (fun x_84 ex_84 => ?_)
        have qx_84 : x_84.toInt = x_71.toInt + x_83.toInt := by rw [ex_84]; exact zf_add rfl rfl (by omega) (by omega)
        refine lv_istore (lv' := [(6, .int x_84), (5, .int r_1), (0, .ref m0), (1, .int p_), (2, .int 3), (3, .int d), (4, .int sec)]) hx hb dX8_costBy_111 hl (by decide) rfl (fun ls hl => ?_)
        refine lv_iload hx hb dX8_costBy_113 (lv_at hl 0 rfl) ?_
        have hmx9 := zMix (w := r_1.toInt) (x := r_67.toInt) (y := r_80.toInt) (P := 14256) ⟨by omega, by omega⟩ ⟨by omega, by omega⟩ ⟨by omega, by omega⟩
        rw [show 12 - r_1.toInt = x_73.toInt from by omega] at hmx9
        exact W.iret (v := x_84) hx hb hr (fun t ht hW => ⟨x_84, rfl, ⟨by omega, by omega, (show (x_84 : Int32).toInt = zLb (zLn gki gpa gta npu.toInt.toNat nhu.toInt (gco 0).toInt (gco 1).toInt (gco 2).toInt 2) (gco 0).toInt (zPw 3) (gki p_.toNatClampNeg).toInt (gpa p_.toNatClampNeg).toInt (gta p_.toNatClampNeg).toInt nhu.toInt d.toInt sec.toInt from by (have nx_44 : (gco 0).toInt = x_44.toInt := (by rw [ex_44, show (0 : Int32).toNatClampNeg = 0 from by decide]); have zw := hsr_1_0; have E1 : r_1.toInt * (zLn gki gpa gta npu.toInt.toNat nhu.toInt (gco 0).toInt (gco 1).toInt (gco 2).toInt 2) (zShl (gki p_.toNatClampNeg).toInt (gpa p_.toNatClampNeg).toInt d.toInt) (sec.toInt - (gta p_.toNatClampNeg).toInt) = x_70.toInt := (by rw [← hsr_62_0.1 (by decide), show sec.toInt - (gta p_.toNatClampNeg).toInt = (x_66 : Int32).toInt from by (have z : (gta p_.toNatClampNeg).toInt = x_65.toInt := (by rw [ex_65]); omega), ← hsr_67_0]; omega); have E2 : (12 - r_1.toInt) * (zLn gki gpa gta npu.toInt.toNat nhu.toInt (gco 0).toInt (gco 1).toInt (gco 2).toInt 2) (zDpr (gki p_.toNatClampNeg).toInt (gpa p_.toNatClampNeg).toInt nhu.toInt d.toInt) (sec.toInt - (gta p_.toNatClampNeg).toInt) = x_83.toInt := (by rw [← hsr_75_0.2 (by decide), show sec.toInt - (gta p_.toNatClampNeg).toInt = (x_66 : Int32).toInt from by (have z : (gta p_.toNatClampNeg).toInt = x_65.toInt := (by rw [ex_65]); omega), ← hsr_80_0, show 12 - r_1.toInt = x_73.toInt from by omega]; omega); have nk : (gki p_.toNatClampNeg).toInt = x_4.toInt := (by rw [ex_4]); unfold zLb zBy1; rw [← zw, E1, E2, show zPw 3 = 1728 from by decide]; first | (rw [if_pos (by omega)]; omega) | (rw [if_neg (by omega)]; omega)))⟩, ht⟩) (fun q hq => by cases hq) dX8_costBy_115
set_option maxHeartbeats 4000000 in
set_option maxRecDepth 100000 in
theorem c_F_M_leastCost_3 (l : Launch) (D : va_G) (cI cJ cZ cP cS : ClassId) (po : zPool) (m0 mrf mki mpa mta mla msl mco mhe mso msi msh mce mca mwo mnu mte mwa mke mma mth mtr : Nat) (npu nte nat_ nde nto nse nhu nga nsd nfa nba npl nen nnu nwr nra nik : Int32) (gki gpa gta gco : Nat → Int32) (d sec : Int32) (hy0 : 0 ≤ npu.toInt) (hy1 : npu.toInt ≤ 8) (hy2 : 4 ≤ nte.toInt) (hy3 : nte.toInt ≤ 40) (hy4 : 0 ≤ nat_.toInt) (hy5 : nat_.toInt ≤ 40) (hy6 : 0 ≤ nde.toInt) (hy7 : nde.toInt ≤ 24) (hy8 : 0 ≤ nhu.toInt) (hy9 : nhu.toInt ≤ 9) (hy10 : 0 ≤ nra.toInt) (hy11 : nra.toInt ≤ 2000) (hy12 : 0 ≤ nik.toInt) (hy13 : nik.toInt ≤ 1) (hy14 : 0 ≤ d.toInt) (hy15 : d.toInt ≤ 24) (hy16 : 0 ≤ sec.toInt) (hy17 : sec.toInt ≤ 300) (hp_gki : zRg gki (0) 6) (hp_gpa : zRg gpa (0) 9) (hp_gta : zRg gta (0) 60) (hp_gco : zRg gco (0) 99) : Met l yX8_leastCost wsX8_leastCost ({ frames := 7, cells := 0, slots := 0, locals := 177 }) (va_Pc [.ref m0, .int 3, .int d, .int sec] (zR D (zKT cI cJ cZ cP cS) po [(zMO m0 npu nte nat_ nde nto nse nhu nga nsd nfa mrf mki mpa mta mla msl mco mhe mso msi msh mce mca mwo mnu mte nba npl nen nnu nwr mwa mke mma mth mtr nra nik), (mki, .inl (cI, 8, .inl gki)), (mpa, .inl (cI, 8, .inl gpa)), (mta, .inl (cI, 8, .inl gta)), (mco, .inl (cI, 3, .inl gco))])) (vp_Si (fun r => 0 ≤ r.toInt ∧ r.toInt ≤ 171072 ∧ (r.toInt = (zLn gki gpa gta npu.toInt.toNat nhu.toInt (gco 0).toInt (gco 1).toInt (gco 2).toInt 3) d.toInt sec.toInt))) 0 0 (fun _ => False) := by
  refine Met.ofW (cc := cX8_leastCost) (maxL := 7) (ret := (some .int)) (by decide) rfl ?_
  intro p e s m args below meth c s₁ B hml hv
  obtain ⟨rfl, hP, hK, hN, hZ⟩ := hv
  have hx := B.exec
  have hb := B.bytes
  have hr := B.returns
  have hts := atoms_spec (ws := wsX8_leastCost) B.pre
  have hown : s.vm.findClass RX8 = some m.cls := findClass_of_methodNamed B.named
  have hlocks := B.notSynchronized
  have hl := lv_entry ([.ref m0, .int 3, .int d, .int sec]) (n := 7) (Nat.le_of_ble_eq_true rfl)
  rw [lg_entry_eq]
  generalize (lg_sl ([.ref m0, .int 3, .int d, .int sec]) ++ List.replicate (7 - (lg_sl ([.ref m0, .int 3, .int d, .int sec])).length) Slot.unset).toArray = ls at hl ⊢
  replace hl : lv_has ls 7 [(0, .ref m0), (1, .int 3), (2, .int d), (3, .int sec)] := hl
  refine lv_iload_n hx hb dX8_leastCost_0 rfl (lv_at hl 2 rfl) ?_
  refine lv_if_ne (tgt := 6) hx hb dX8_leastCost_1 (by decide) (fun c_1 => ?_) (fun c_1 => ?_)
  · have fc_1 : d.toInt ≠ 0 := zf_ne c_1 rfl (by decide)
    refine lv_aload_n hx hb dX8_leastCost_6 rfl (lv_at hl 0 rfl) ?_
    refine va_get (D := D) (ci := 8) (v := .ref mco) (C := RX8) (T := TX8) (N := 38) hx hb hts hi_X8_leastCost_8 hown hK hP 0 rfl rfl 16 (by decide) (hts (.fieldLink RX8 44 "TheLiningsInItModel" "cost" "[I") (List.mem_of_getElem? (i := 1) rfl)) (fun _ h9 => h9) rfl dX8_leastCost_7 ?_
    refine lv_iconst (v := 2) hx hb dX8_leastCost_10 (by decide) ?_
    refine va_iald hx hb hK hP 4 0 rfl rfl (zf_in (by decide) (by decide)) dX8_leastCost_11 ?_
    refine lv_topi (fun x_2 ex_2 => ?_)
    have bx_2 : 0 ≤ x_2.toInt ∧ x_2.toInt ≤ 99 := by rw [ex_2]; exact hp_gco _
    refine lv_aload_n hx hb dX8_leastCost_12 rfl (lv_at hl 0 rfl) ?_
    refine lv_iload_n hx hb dX8_leastCost_13 rfl (lv_at hl 1 rfl) ?_
    refine zc_V (As := [.int 3]) (rest := [.int x_2]) ⟨hx, hb, hml, hown, hts⟩ (c_M_power_3 l D cI cJ cZ cP cS po m0 mrf mki mpa mta mla msl mco mhe mso msi msh mce mca mwo mnu mte mwa mke mma mth mtr (npu) (nte) (nat_) (nde) (nto) (nse) (nhu) (nga) (nsd) (nfa) (nba) (npl) (nen) (nnu) (nwr) (nra) (nik) hy0 hy1 hy2 hy3 hy4 hy5 hy6 hy7 hy8 hy9 hy10 hy11 hy12 hy13) (cwV 1 hts gX8_leastCost_X8_power rfl rfl rfl ⟨rfl, dh_X8_power⟩ ⟨Nat.le_of_ble_eq_true rfl, Nat.le_of_ble_eq_true rfl⟩) hK hN hZ hP (hP.sub [0] rfl) (va_recv (q := (RX8, TX8, 38)) hK hP (ci := 8) (q0 := 0) rfl rfl) rfl hl.1 rfl (Nat.le_of_ble_eq_true rfl) dX8_leastCost_14 ⟨Nat.le_of_ble_eq_true rfl, Nat.le_of_ble_eq_true rfl⟩ (fun r_3 hr_3 => ?_)
    obtain rfl := hr_3
    refine lv_imul hx hb dX8_leastCost_17 ?_
    refine lv_topi (fun x_4 ex_4 => ?_)
    have qx_4 : x_4.toInt = x_2.toInt * 1728 := by rw [ex_4]; exact zf_mul rfl (by decide) (by omega) (by omega)
    refine lv_istore (lv' := [(4, .int x_4), (0, .ref m0), (1, .int 3), (2, .int d), (3, .int sec)]) hx hb dX8_leastCost_18 hl (by decide) rfl (fun ls hl => ?_)
    refine lv_iload_n hx hb dX8_leastCost_20 rfl (lv_at hl 4 rfl) ?_
    refine lv_bipush (v := 30) hx hb dX8_leastCost_21 (by decide) ?_
    refine lv_icmp_lt (tgt := 57) hx hb dX8_leastCost_23 (by decide) (fun c_5 => ?_) (fun c_5 => ?_)
    · have fc_5 : sec.toInt < 30 := zf_lt c_5 rfl (by decide)
      refine lv_iconst (v := 0) hx hb dX8_leastCost_57 (by decide) ?_
      refine lv_istore (lv' := [(5, .int 0), (4, .int x_4), (0, .ref m0), (1, .int 3), (2, .int d), (3, .int sec)]) hx hb dX8_leastCost_58 hl (by decide) rfl (fun ls hl => ?_)
      obtain ⟨i_60, hi_60⟩ : ∃ i : Int32, i = 0 := ⟨_, rfl⟩
      replace hl : lv_has ls 7 [(5, .int i_60), (4, .int x_4), (0, .ref m0), (1, .int 3), (2, .int d), (3, .int sec)] := by rw [hi_60]; exact lv_sub hl [0, 1, 2, 3, 4, 5] rfl
      have h1i_60 : i_60.toInt = 0 := by rw [hi_60]; decide
      obtain ⟨nfu, hni_60⟩ : ∃ nq9 : Nat, npu.toInt ≤ i_60.toInt + (nq9 : Int) := ⟨((npu.toInt : Int) - 0).toNat, by omega⟩
      have hloi_60 : 0 ≤ i_60.toInt := by omega
      obtain ⟨v_6, hv_6⟩ : ∃ g : Int32, g = x_4 := ⟨_, rfl⟩
      replace hl : lv_has ls 7 [(5, .int i_60), (4, .int v_6), (0, .ref m0), (1, .int 3), (2, .int d), (3, .int sec)] := by rw [hv_6]; exact hl
      have hbv_6 : 0 ≤ v_6.toInt ∧ v_6.toInt ≤ 171072 := by rw [hv_6]; exact ⟨by omega, by omega⟩
      have hvi_60_0 : (v_6 : Int32).toInt = zFi gta d.toInt sec.toInt (zPw 3 * zAt (gco 1).toInt (gco 2).toInt sec.toInt) (zLv (zLn gki gpa gta npu.toInt.toNat nhu.toInt (gco 0).toInt (gco 1).toInt (gco 2).toInt 2) gki gpa gta (gco 0).toInt (zPw 3) nhu.toInt d.toInt sec.toInt) i_60.toInt.toNat := by
        (try rw [hi_60]); (try rw [hv_6]); (rw [(show ((0 : Int32).toInt.toNat) = 0 from by decide)]; show _ = zPw 3 * zAt (gco 1).toInt (gco 2).toInt sec.toInt; (have nx_2 : (gco 2).toInt = x_2.toInt := (by rw [ex_2, show (2 : Int32).toNatClampNeg = 2 from by decide]); unfold zAt; rw [show zPw 3 = 1728 from by decide]; first | (rw [if_neg (by omega)]; omega) | (rw [if_pos (by omega)]; omega)))
      have hvi_60_1 : i_60.toInt ≤ npu.toInt := by
        (try rw [hi_60]); (try rw [hv_6]); (have k0 : (0 : Int32).toInt = 0 := (by decide); omega)
      clear h1i_60 hi_60 hv_6
      revert hni_60
      revert hloi_60
      revert hvi_60_1
      revert hvi_60_0
      revert hbv_6
      revert hl
      revert ls
      revert v_6
      revert i_60
      induction nfu with
      | zero =>
        intro i_60 v_6 ls hl hbv_6 hvi_60_0 hvi_60_1 hloi_60 hni_60
        have hzi_60 : npu.toInt ≤ i_60.toInt := by omega
        refine lv_iload hx hb dX8_leastCost_60 (lv_at hl 0 rfl) ?_
        refine lv_aload_n hx hb dX8_leastCost_62 rfl (lv_at hl 2 rfl) ?_
        refine va_get (D := D) (ci := 8) (v := .int npu) (C := RX8) (T := TX8) (N := 38) hx hb hts hi_X8_leastCost_8 hown hK hP 0 rfl rfl 0 (by decide) (hts (.fieldLink RX8 90 "TheLiningsInItModel" "pulls" "I") (List.mem_of_getElem? (i := 2) rfl)) (fun _ h9 => h9) rfl dX8_leastCost_63 ?_
        refine lv_icmp_ge (tgt := 120) hx hb dX8_leastCost_66 (by decide) (fun c_7 => ?_) (fun c_7 => ?_)
        · have fc_7 : npu.toInt ≤ i_60.toInt := zf_le c_7 rfl rfl
          refine lv_iload hx hb dX8_leastCost_120 (lv_at hl 1 rfl) ?_
          exact W.iret (v := v_6) hx hb hr (fun t ht hW => ⟨v_6, rfl, ⟨by omega, by omega, (show (v_6 : Int32).toInt = (zLn gki gpa gta npu.toInt.toNat nhu.toInt (gco 0).toInt (gco 1).toInt (gco 2).toInt 3) d.toInt sec.toInt from by (have h9 : i_60.toInt.toNat = npu.toInt.toNat := (by omega); have z := hvi_60_0; rw [h9] at z; rw [zLn_s, if_neg (by omega)]; exact z))⟩, ht⟩) (fun q hq => by cases hq) dX8_leastCost_122
        · exfalso; have fc_7 : i_60.toInt < npu.toInt := zf_nle c_7 rfl rfl; omega
      | succ nfu ih =>
        intro i_60 v_6 ls hl hbv_6 hvi_60_0 hvi_60_1 hloi_60 hni_60
        refine lv_iload hx hb dX8_leastCost_60 (lv_at hl 0 rfl) ?_
        refine lv_aload_n hx hb dX8_leastCost_62 rfl (lv_at hl 2 rfl) ?_
        refine va_get (D := D) (ci := 8) (v := .int npu) (C := RX8) (T := TX8) (N := 38) hx hb hts hi_X8_leastCost_8 hown hK hP 0 rfl rfl 0 (by decide) (hts (.fieldLink RX8 90 "TheLiningsInItModel" "pulls" "I") (List.mem_of_getElem? (i := 2) rfl)) (fun _ h9 => h9) rfl dX8_leastCost_63 ?_
        refine lv_icmp_ge (tgt := 120) hx hb dX8_leastCost_66 (by decide) (fun c_8 => ?_) (fun c_8 => ?_)
        · have fc_8 : npu.toInt ≤ i_60.toInt := zf_le c_8 rfl rfl
          refine lv_iload hx hb dX8_leastCost_120 (lv_at hl 1 rfl) ?_
          exact W.iret (v := v_6) hx hb hr (fun t ht hW => ⟨v_6, rfl, ⟨by omega, by omega, (show (v_6 : Int32).toInt = (zLn gki gpa gta npu.toInt.toNat nhu.toInt (gco 0).toInt (gco 1).toInt (gco 2).toInt 3) d.toInt sec.toInt from by (have h9 : i_60.toInt.toNat = npu.toInt.toNat := (by omega); have z := hvi_60_0; rw [h9] at z; rw [zLn_s, if_neg (by omega)]; exact z))⟩, ht⟩) (fun q hq => by cases hq) dX8_leastCost_122
        · have fc_8 : i_60.toInt < npu.toInt := zf_nle c_8 rfl rfl
          refine lv_iload_n hx hb dX8_leastCost_69 rfl (lv_at hl 3 rfl) ?_
          refine lv_if_le (tgt := 120) hx hb dX8_leastCost_70 (by decide) (fun c_9 => ?_) (fun c_9 => ?_)
          · exact absurd c_9 (by decide)
          · refine lv_aload_n hx hb dX8_leastCost_73 rfl (lv_at hl 2 rfl) ?_
            refine lv_iload hx hb dX8_leastCost_74 (lv_at hl 0 rfl) ?_
            refine lv_iload_n hx hb dX8_leastCost_76 rfl (lv_at hl 4 rfl) ?_
            refine lv_iload_n hx hb dX8_leastCost_77 rfl (lv_at hl 5 rfl) ?_
            refine zc_V (As := [.int i_60, .int d, .int sec]) (rest := []) ⟨hx, hb, hml, hown, hts⟩ (c_F_M_mayBe l D cI cJ cZ cP cS po m0 mrf mki mpa mta mla msl mco mhe mso msi msh mce mca mwo mnu mte mwa mke mma mth mtr (npu) (nte) (nat_) (nde) (nto) (nse) (nhu) (nga) (nsd) (nfa) (nba) (npl) (nen) (nnu) (nwr) (nra) (nik) gta (i_60) (d) (sec) hy0 hy1 hy2 hy3 hy4 hy5 hy6 hy7 hy8 hy9 hy10 hy11 hy12 hy13 (by omega) (by omega) hp_gta) (cwV 3 hts gX8_leastCost_X8_mayBe rfl rfl rfl ⟨rfl, dh_X8_mayBe⟩ ⟨Nat.le_of_ble_eq_true rfl, Nat.le_of_ble_eq_true rfl⟩) hK hN hZ hP (hP.sub [0, 3] rfl) (va_recv (q := (RX8, TX8, 38)) hK hP (ci := 8) (q0 := 0) rfl rfl) rfl hl.1 rfl (Nat.le_of_ble_eq_true rfl) dX8_leastCost_78 ⟨Nat.le_of_ble_eq_true rfl, Nat.le_of_ble_eq_true rfl⟩ (fun r_10 hr_10 => ?_)
            obtain ⟨g_11, g_12, hsr_10_0⟩ := hr_10
            refine lv_if_ne (tgt := 87) hx hb dX8_leastCost_81 (by decide) (fun c_13 => ?_) (fun c_13 => ?_)
            · have fc_13 : r_10.toInt ≠ 0 := zf_ne c_13 rfl (by decide)
              have htl9 : (gta i_60.toNatClampNeg).toInt ≤ sec.toInt := (hsr_10_0.mp (by omega)).2
              refine lv_aload_n hx hb dX8_leastCost_87 rfl (lv_at hl 2 rfl) ?_
              refine lv_iload hx hb dX8_leastCost_88 (lv_at hl 0 rfl) ?_
              refine lv_iload_n hx hb dX8_leastCost_90 rfl (lv_at hl 3 rfl) ?_
              refine lv_iload_n hx hb dX8_leastCost_91 rfl (lv_at hl 4 rfl) ?_
              refine lv_iload_n hx hb dX8_leastCost_92 rfl (lv_at hl 5 rfl) ?_
              refine zc_V (As := [.int i_60, .int 3, .int d, .int sec]) (rest := []) ⟨hx, hb, hml, hown, hts⟩ (c_F_M_costBy_3 l D cI cJ cZ cP cS po m0 mrf mki mpa mta mla msl mco mhe mso msi msh mce mca mwo mnu mte mwa mke mma mth mtr (npu) (nte) (nat_) (nde) (nto) (nse) (nhu) (nga) (nsd) (nfa) (nba) (npl) (nen) (nnu) (nwr) (nra) (nik) gki gpa gta gco (i_60) (d) (sec) hy0 hy1 hy2 hy3 hy4 hy5 hy6 hy7 hy8 hy9 hy10 hy11 hy12 hy13 (by omega) (by omega) hy14 hy15 hy16 hy17 (by first | assumption | omega) hp_gki hp_gpa hp_gta hp_gco) (cwV 4 hts gX8_leastCost_X8_costBy rfl rfl rfl ⟨rfl, dh_X8_costBy⟩ ⟨Nat.le_of_ble_eq_true rfl, Nat.le_of_ble_eq_true rfl⟩) hK hN hZ hP (hP.sub [0, 1, 2, 3, 4] rfl) (va_recv (q := (RX8, TX8, 38)) hK hP (ci := 8) (q0 := 0) rfl rfl) rfl hl.1 rfl (Nat.le_of_ble_eq_true rfl) dX8_leastCost_93 ⟨Nat.le_of_ble_eq_true rfl, Nat.le_of_ble_eq_true rfl⟩ (fun r_14 hr_14 => ?_)
              obtain ⟨g_15, g_16, hsr_14_0⟩ := hr_14
              refine lv_istore (lv' := [(6, .int r_14), (5, .int i_60), (4, .int v_6), (0, .ref m0), (1, .int 3), (2, .int d), (3, .int sec)]) hx hb dX8_leastCost_96 hl (by decide) rfl (fun ls hl => ?_)
              refine lv_iload hx hb dX8_leastCost_98 (lv_at hl 0 rfl) ?_
              refine lv_iload hx hb dX8_leastCost_100 (lv_at hl 2 rfl) ?_
              refine lv_icmp_ge (tgt := 110) hx hb dX8_leastCost_102 (by decide) (fun c_17 => ?_) (fun c_17 => ?_)
              · have fc_17 : v_6.toInt ≤ r_14.toInt := zf_le c_17 rfl rfl
                refine lv_iload hx hb dX8_leastCost_110 (lv_at hl 2 rfl) ?_
                refine lv_istore (lv' := [(4, .int v_6), (6, .int r_14), (5, .int i_60), (0, .ref m0), (1, .int 3), (2, .int d), (3, .int sec)]) hx hb dX8_leastCost_112 hl (by decide) rfl (fun ls hl => ?_)
                obtain ⟨x_18, ex_18⟩ : ∃ y : Int32, y = i_60 + 1 := ⟨_, rfl⟩
                have qx_18 : x_18.toInt = i_60.toInt + 1 := dw_inc ex_18 fc_8
                refine lv_iinc (v := x_18) (lv' := [(5, .int x_18), (4, .int v_6), (6, .int r_14), (0, .ref m0), (1, .int 3), (2, .int d), (3, .int sec)]) hx hb dX8_leastCost_114 hl (k := 2) rfl ex_18.symm (by decide) rfl (fun ls hl => ?_)
                refine lv_goto (tgt := 60) hx hb dX8_leastCost_117 (by decide) ?_
                exact ih x_18 v_6 _ (lv_sub hl [0, 1, 3, 4, 5, 6] rfl) hbv_6 (show (v_6 : Int32).toInt = zFi gta d.toInt sec.toInt (zPw 3 * zAt (gco 1).toInt (gco 2).toInt sec.toInt) (zLv (zLn gki gpa gta npu.toInt.toNat nhu.toInt (gco 0).toInt (gco 1).toInt (gco 2).toInt 2) gki gpa gta (gco 0).toInt (zPw 3) nhu.toInt d.toInt sec.toInt) x_18.toInt.toNat from by (have hx : x_18.toInt.toNat = i_60.toInt.toNat + 1 := (by omega); have y9 : i_60.toNatClampNeg = i_60.toInt.toNat := rfl; have hm := hsr_10_0; rw [y9] at hm; rw [hx, zFi_y (hm.mp (by omega)), ← hvi_60_0]; have zr := hsr_14_0; rw [y9] at zr; have zr2 : r_14.toInt = (zLv (zLn gki gpa gta npu.toInt.toNat nhu.toInt (gco 0).toInt (gco 1).toInt (gco 2).toInt 2) gki gpa gta (gco 0).toInt (zPw 3) nhu.toInt d.toInt sec.toInt) i_60.toInt.toNat := zr; omega)) (show x_18.toInt ≤ npu.toInt from by omega) (dw_lo hloi_60 qx_18) (dw_hn hni_60 qx_18)
              · have fc_17 : r_14.toInt < v_6.toInt := zf_nle c_17 rfl rfl
                refine lv_iload hx hb dX8_leastCost_105 (lv_at hl 0 rfl) ?_
                refine lv_goto (tgt := 112) hx hb dX8_leastCost_107 (by decide) ?_
                refine lv_istore (lv' := [(4, .int r_14), (6, .int r_14), (5, .int i_60), (0, .ref m0), (1, .int 3), (2, .int d), (3, .int sec)]) hx hb dX8_leastCost_112 hl (by decide) rfl (fun ls hl => ?_)
                obtain ⟨x_19, ex_19⟩ : ∃ y : Int32, y = i_60 + 1 := ⟨_, rfl⟩
                have qx_19 : x_19.toInt = i_60.toInt + 1 := dw_inc ex_19 fc_8
                refine lv_iinc (v := x_19) (lv' := [(5, .int x_19), (4, .int r_14), (6, .int r_14), (0, .ref m0), (1, .int 3), (2, .int d), (3, .int sec)]) hx hb dX8_leastCost_114 hl (k := 2) rfl ex_19.symm (by decide) rfl (fun ls hl => ?_)
                refine lv_goto (tgt := 60) hx hb dX8_leastCost_117 (by decide) ?_
                exact ih x_19 r_14 _ (lv_sub hl [0, 1, 3, 4, 5, 6] rfl) ⟨by omega, by omega⟩ (show (r_14 : Int32).toInt = zFi gta d.toInt sec.toInt (zPw 3 * zAt (gco 1).toInt (gco 2).toInt sec.toInt) (zLv (zLn gki gpa gta npu.toInt.toNat nhu.toInt (gco 0).toInt (gco 1).toInt (gco 2).toInt 2) gki gpa gta (gco 0).toInt (zPw 3) nhu.toInt d.toInt sec.toInt) x_19.toInt.toNat from by (have hx : x_19.toInt.toNat = i_60.toInt.toNat + 1 := (by omega); have y9 : i_60.toNatClampNeg = i_60.toInt.toNat := rfl; have hm := hsr_10_0; rw [y9] at hm; rw [hx, zFi_y (hm.mp (by omega)), ← hvi_60_0]; have zr := hsr_14_0; rw [y9] at zr; have zr2 : r_14.toInt = (zLv (zLn gki gpa gta npu.toInt.toNat nhu.toInt (gco 0).toInt (gco 1).toInt (gco 2).toInt 2) gki gpa gta (gco 0).toInt (zPw 3) nhu.toInt d.toInt sec.toInt) i_60.toInt.toNat := zr; omega)) (show x_19.toInt ≤ npu.toInt from by omega) (dw_lo hloi_60 qx_19) (dw_hn hni_60 qx_19)
            · have fc_13 : r_10.toInt = 0 := zf_eq c_13 rfl (by decide)
              refine lv_goto (tgt := 114) hx hb dX8_leastCost_84 (by decide) ?_
              obtain ⟨x_20, ex_20⟩ : ∃ y : Int32, y = i_60 + 1 := ⟨_, rfl⟩
              have qx_20 : x_20.toInt = i_60.toInt + 1 := dw_inc ex_20 fc_8
              refine lv_iinc (v := x_20) (lv' := [(5, .int x_20), (4, .int v_6), (0, .ref m0), (1, .int 3), (2, .int d), (3, .int sec)]) hx hb dX8_leastCost_114 hl (k := 0) rfl ex_20.symm (by decide) rfl (fun ls hl => ?_)
              refine lv_goto (tgt := 60) hx hb dX8_leastCost_117 (by decide) ?_
              exact ih x_20 v_6 _ (lv_sub hl [0, 1, 2, 3, 4, 5] rfl) hbv_6 (show (v_6 : Int32).toInt = zFi gta d.toInt sec.toInt (zPw 3 * zAt (gco 1).toInt (gco 2).toInt sec.toInt) (zLv (zLn gki gpa gta npu.toInt.toNat nhu.toInt (gco 0).toInt (gco 1).toInt (gco 2).toInt 2) gki gpa gta (gco 0).toInt (zPw 3) nhu.toInt d.toInt sec.toInt) x_20.toInt.toNat from by (have hx : x_20.toInt.toNat = i_60.toInt.toNat + 1 := (by omega); have y9 : i_60.toNatClampNeg = i_60.toInt.toNat := rfl; have hm := hsr_10_0; rw [y9] at hm; rw [hx, zFi_n (fun z => by (have z1 := hm.mpr z; omega))]; exact hvi_60_0)) (show x_20.toInt ≤ npu.toInt from by omega) (dw_lo hloi_60 qx_20) (dw_hn hni_60 qx_20)
    · have fc_5 : 30 ≤ sec.toInt := zf_nlt c_5 rfl (by decide)
      refine lv_aload_n hx hb dX8_leastCost_26 rfl (lv_at hl 1 rfl) ?_
      refine va_get (D := D) (ci := 8) (v := .ref mco) (C := RX8) (T := TX8) (N := 38) hx hb hts hi_X8_leastCost_8 hown hK hP 0 rfl rfl 16 (by decide) (hts (.fieldLink RX8 44 "TheLiningsInItModel" "cost" "[I") (List.mem_of_getElem? (i := 1) rfl)) (fun _ h9 => h9) rfl dX8_leastCost_27 ?_
      refine lv_iconst (v := 1) hx hb dX8_leastCost_30 (by decide) ?_
      refine va_iald hx hb hK hP 4 0 rfl rfl (zf_in (by decide) (by decide)) dX8_leastCost_31 ?_
      refine lv_topi (fun x_21 ex_21 => ?_)
      have bx_21 : 0 ≤ x_21.toInt ∧ x_21.toInt ≤ 99 := by rw [ex_21]; exact hp_gco _
      refine lv_aload_n hx hb dX8_leastCost_32 rfl (lv_at hl 1 rfl) ?_
      refine lv_iload_n hx hb dX8_leastCost_33 rfl (lv_at hl 2 rfl) ?_
      refine zc_V (As := [.int 3]) (rest := [.int x_21]) ⟨hx, hb, hml, hown, hts⟩ (c_M_power_3 l D cI cJ cZ cP cS po m0 mrf mki mpa mta mla msl mco mhe mso msi msh mce mca mwo mnu mte mwa mke mma mth mtr (npu) (nte) (nat_) (nde) (nto) (nse) (nhu) (nga) (nsd) (nfa) (nba) (npl) (nen) (nnu) (nwr) (nra) (nik) hy0 hy1 hy2 hy3 hy4 hy5 hy6 hy7 hy8 hy9 hy10 hy11 hy12 hy13) (cwV 1 hts gX8_leastCost_X8_power rfl rfl rfl ⟨rfl, dh_X8_power⟩ ⟨Nat.le_of_ble_eq_true rfl, Nat.le_of_ble_eq_true rfl⟩) hK hN hZ hP (hP.sub [0] rfl) (va_recv (q := (RX8, TX8, 38)) hK hP (ci := 8) (q0 := 0) rfl rfl) rfl hl.1 rfl (Nat.le_of_ble_eq_true rfl) dX8_leastCost_34 ⟨Nat.le_of_ble_eq_true rfl, Nat.le_of_ble_eq_true rfl⟩ (fun r_22 hr_22 => ?_)
      obtain rfl := hr_22
      refine lv_imul hx hb dX8_leastCost_37 ?_
      refine lv_topi (fun x_23 ex_23 => ?_)
      have qx_23 : x_23.toInt = x_21.toInt * 1728 := by rw [ex_23]; exact zf_mul rfl (by decide) (by omega) (by omega)
      refine lv_iload hx hb dX8_leastCost_38 (lv_at hl 0 rfl) ?_
      refine lv_icmp_ge (tgt := 57) hx hb dX8_leastCost_40 (by decide) (fun c_24 => ?_) (fun c_24 => ?_)
      · have fc_24 : x_4.toInt ≤ x_23.toInt := zf_le c_24 rfl rfl
        refine lv_iconst (v := 0) hx hb dX8_leastCost_57 (by decide) ?_
        refine lv_istore (lv' := [(5, .int 0), (4, .int x_4), (0, .ref m0), (1, .int 3), (2, .int d), (3, .int sec)]) hx hb dX8_leastCost_58 hl (by decide) rfl (fun ls hl => ?_)
        obtain ⟨i_60, hi_60⟩ : ∃ i : Int32, i = 0 := ⟨_, rfl⟩
        replace hl : lv_has ls 7 [(5, .int i_60), (4, .int x_4), (0, .ref m0), (1, .int 3), (2, .int d), (3, .int sec)] := by rw [hi_60]; exact lv_sub hl [0, 1, 2, 3, 4, 5] rfl
        have h1i_60 : i_60.toInt = 0 := by rw [hi_60]; decide
        obtain ⟨nfu, hni_60⟩ : ∃ nq9 : Nat, npu.toInt ≤ i_60.toInt + (nq9 : Int) := ⟨((npu.toInt : Int) - 0).toNat, by omega⟩
        have hloi_60 : 0 ≤ i_60.toInt := by omega
        obtain ⟨v_25, hv_25⟩ : ∃ g : Int32, g = x_4 := ⟨_, rfl⟩
        replace hl : lv_has ls 7 [(5, .int i_60), (4, .int v_25), (0, .ref m0), (1, .int 3), (2, .int d), (3, .int sec)] := by rw [hv_25]; exact hl
        have hbv_25 : 0 ≤ v_25.toInt ∧ v_25.toInt ≤ 171072 := by rw [hv_25]; exact ⟨by omega, by omega⟩
        have hvi_60_0 : (v_25 : Int32).toInt = zFi gta d.toInt sec.toInt (zPw 3 * zAt (gco 1).toInt (gco 2).toInt sec.toInt) (zLv (zLn gki gpa gta npu.toInt.toNat nhu.toInt (gco 0).toInt (gco 1).toInt (gco 2).toInt 2) gki gpa gta (gco 0).toInt (zPw 3) nhu.toInt d.toInt sec.toInt) i_60.toInt.toNat := by
          (try rw [hi_60]); (try rw [hv_25]); (rw [(show ((0 : Int32).toInt.toNat) = 0 from by decide)]; show _ = zPw 3 * zAt (gco 1).toInt (gco 2).toInt sec.toInt; (have nx_2 : (gco 2).toInt = x_2.toInt := (by rw [ex_2, show (2 : Int32).toNatClampNeg = 2 from by decide]); have nx_21 : (gco 1).toInt = x_21.toInt := (by rw [ex_21, show (1 : Int32).toNatClampNeg = 1 from by decide]); unfold zAt; rw [show zPw 3 = 1728 from by decide]; first | (rw [if_pos (by omega)]; omega) | (rw [if_neg (by omega)]; omega)))
        have hvi_60_1 : i_60.toInt ≤ npu.toInt := by
          (try rw [hi_60]); (try rw [hv_25]); (have k0 : (0 : Int32).toInt = 0 := (by decide); omega)
        clear h1i_60 hi_60 hv_25
        revert hni_60
        revert hloi_60
        revert hvi_60_1
        revert hvi_60_0
        revert hbv_25
        revert hl
        revert ls
        revert v_25
        revert i_60
        induction nfu with
        | zero =>
          intro i_60 v_25 ls hl hbv_25 hvi_60_0 hvi_60_1 hloi_60 hni_60
          have hzi_60 : npu.toInt ≤ i_60.toInt := by omega
          refine lv_iload hx hb dX8_leastCost_60 (lv_at hl 0 rfl) ?_
          refine lv_aload_n hx hb dX8_leastCost_62 rfl (lv_at hl 2 rfl) ?_
          refine va_get (D := D) (ci := 8) (v := .int npu) (C := RX8) (T := TX8) (N := 38) hx hb hts hi_X8_leastCost_8 hown hK hP 0 rfl rfl 0 (by decide) (hts (.fieldLink RX8 90 "TheLiningsInItModel" "pulls" "I") (List.mem_of_getElem? (i := 2) rfl)) (fun _ h9 => h9) rfl dX8_leastCost_63 ?_
          refine lv_icmp_ge (tgt := 120) hx hb dX8_leastCost_66 (by decide) (fun c_26 => ?_) (fun c_26 => ?_)
          · have fc_26 : npu.toInt ≤ i_60.toInt := zf_le c_26 rfl rfl
            refine lv_iload hx hb dX8_leastCost_120 (lv_at hl 1 rfl) ?_
            exact W.iret (v := v_25) hx hb hr (fun t ht hW => ⟨v_25, rfl, ⟨by omega, by omega, (show (v_25 : Int32).toInt = (zLn gki gpa gta npu.toInt.toNat nhu.toInt (gco 0).toInt (gco 1).toInt (gco 2).toInt 3) d.toInt sec.toInt from by (have h9 : i_60.toInt.toNat = npu.toInt.toNat := (by omega); have z := hvi_60_0; rw [h9] at z; rw [zLn_s, if_neg (by omega)]; exact z))⟩, ht⟩) (fun q hq => by cases hq) dX8_leastCost_122
          · exfalso; have fc_26 : i_60.toInt < npu.toInt := zf_nle c_26 rfl rfl; omega
        | succ nfu ih =>
          intro i_60 v_25 ls hl hbv_25 hvi_60_0 hvi_60_1 hloi_60 hni_60
          refine lv_iload hx hb dX8_leastCost_60 (lv_at hl 0 rfl) ?_
          refine lv_aload_n hx hb dX8_leastCost_62 rfl (lv_at hl 2 rfl) ?_
          refine va_get (D := D) (ci := 8) (v := .int npu) (C := RX8) (T := TX8) (N := 38) hx hb hts hi_X8_leastCost_8 hown hK hP 0 rfl rfl 0 (by decide) (hts (.fieldLink RX8 90 "TheLiningsInItModel" "pulls" "I") (List.mem_of_getElem? (i := 2) rfl)) (fun _ h9 => h9) rfl dX8_leastCost_63 ?_
          refine lv_icmp_ge (tgt := 120) hx hb dX8_leastCost_66 (by decide) (fun c_27 => ?_) (fun c_27 => ?_)
          · have fc_27 : npu.toInt ≤ i_60.toInt := zf_le c_27 rfl rfl
            refine lv_iload hx hb dX8_leastCost_120 (lv_at hl 1 rfl) ?_
            exact W.iret (v := v_25) hx hb hr (fun t ht hW => ⟨v_25, rfl, ⟨by omega, by omega, (show (v_25 : Int32).toInt = (zLn gki gpa gta npu.toInt.toNat nhu.toInt (gco 0).toInt (gco 1).toInt (gco 2).toInt 3) d.toInt sec.toInt from by (have h9 : i_60.toInt.toNat = npu.toInt.toNat := (by omega); have z := hvi_60_0; rw [h9] at z; rw [zLn_s, if_neg (by omega)]; exact z))⟩, ht⟩) (fun q hq => by cases hq) dX8_leastCost_122
          · have fc_27 : i_60.toInt < npu.toInt := zf_nle c_27 rfl rfl
            refine lv_iload_n hx hb dX8_leastCost_69 rfl (lv_at hl 3 rfl) ?_
            refine lv_if_le (tgt := 120) hx hb dX8_leastCost_70 (by decide) (fun c_28 => ?_) (fun c_28 => ?_)
            · exact absurd c_28 (by decide)
            · refine lv_aload_n hx hb dX8_leastCost_73 rfl (lv_at hl 2 rfl) ?_
              refine lv_iload hx hb dX8_leastCost_74 (lv_at hl 0 rfl) ?_
              refine lv_iload_n hx hb dX8_leastCost_76 rfl (lv_at hl 4 rfl) ?_
              refine lv_iload_n hx hb dX8_leastCost_77 rfl (lv_at hl 5 rfl) ?_
              refine zc_V (As := [.int i_60, .int d, .int sec]) (rest := []) ⟨hx, hb, hml, hown, hts⟩ (c_F_M_mayBe l D cI cJ cZ cP cS po m0 mrf mki mpa mta mla msl mco mhe mso msi msh mce mca mwo mnu mte mwa mke mma mth mtr (npu) (nte) (nat_) (nde) (nto) (nse) (nhu) (nga) (nsd) (nfa) (nba) (npl) (nen) (nnu) (nwr) (nra) (nik) gta (i_60) (d) (sec) hy0 hy1 hy2 hy3 hy4 hy5 hy6 hy7 hy8 hy9 hy10 hy11 hy12 hy13 (by omega) (by omega) hp_gta) (cwV 3 hts gX8_leastCost_X8_mayBe rfl rfl rfl ⟨rfl, dh_X8_mayBe⟩ ⟨Nat.le_of_ble_eq_true rfl, Nat.le_of_ble_eq_true rfl⟩) hK hN hZ hP (hP.sub [0, 3] rfl) (va_recv (q := (RX8, TX8, 38)) hK hP (ci := 8) (q0 := 0) rfl rfl) rfl hl.1 rfl (Nat.le_of_ble_eq_true rfl) dX8_leastCost_78 ⟨Nat.le_of_ble_eq_true rfl, Nat.le_of_ble_eq_true rfl⟩ (fun r_29 hr_29 => ?_)
              obtain ⟨g_30, g_31, hsr_29_0⟩ := hr_29
              refine lv_if_ne (tgt := 87) hx hb dX8_leastCost_81 (by decide) (fun c_32 => ?_) (fun c_32 => ?_)
              · have fc_32 : r_29.toInt ≠ 0 := zf_ne c_32 rfl (by decide)
                have htl9 : (gta i_60.toNatClampNeg).toInt ≤ sec.toInt := (hsr_29_0.mp (by omega)).2
                refine lv_aload_n hx hb dX8_leastCost_87 rfl (lv_at hl 2 rfl) ?_
                refine lv_iload hx hb dX8_leastCost_88 (lv_at hl 0 rfl) ?_
                refine lv_iload_n hx hb dX8_leastCost_90 rfl (lv_at hl 3 rfl) ?_
                refine lv_iload_n hx hb dX8_leastCost_91 rfl (lv_at hl 4 rfl) ?_
                refine lv_iload_n hx hb dX8_leastCost_92 rfl (lv_at hl 5 rfl) ?_
                refine zc_V (As := [.int i_60, .int 3, .int d, .int sec]) (rest := []) ⟨hx, hb, hml, hown, hts⟩ (c_F_M_costBy_3 l D cI cJ cZ cP cS po m0 mrf mki mpa mta mla msl mco mhe mso msi msh mce mca mwo mnu mte mwa mke mma mth mtr (npu) (nte) (nat_) (nde) (nto) (nse) (nhu) (nga) (nsd) (nfa) (nba) (npl) (nen) (nnu) (nwr) (nra) (nik) gki gpa gta gco (i_60) (d) (sec) hy0 hy1 hy2 hy3 hy4 hy5 hy6 hy7 hy8 hy9 hy10 hy11 hy12 hy13 (by omega) (by omega) hy14 hy15 hy16 hy17 (by first | assumption | omega) hp_gki hp_gpa hp_gta hp_gco) (cwV 4 hts gX8_leastCost_X8_costBy rfl rfl rfl ⟨rfl, dh_X8_costBy⟩ ⟨Nat.le_of_ble_eq_true rfl, Nat.le_of_ble_eq_true rfl⟩) hK hN hZ hP (hP.sub [0, 1, 2, 3, 4] rfl) (va_recv (q := (RX8, TX8, 38)) hK hP (ci := 8) (q0 := 0) rfl rfl) rfl hl.1 rfl (Nat.le_of_ble_eq_true rfl) dX8_leastCost_93 ⟨Nat.le_of_ble_eq_true rfl, Nat.le_of_ble_eq_true rfl⟩ (fun r_33 hr_33 => ?_)
                obtain ⟨g_34, g_35, hsr_33_0⟩ := hr_33
                refine lv_istore (lv' := [(6, .int r_33), (5, .int i_60), (4, .int v_25), (0, .ref m0), (1, .int 3), (2, .int d), (3, .int sec)]) hx hb dX8_leastCost_96 hl (by decide) rfl (fun ls hl => ?_)
                refine lv_iload hx hb dX8_leastCost_98 (lv_at hl 0 rfl) ?_
                refine lv_iload hx hb dX8_leastCost_100 (lv_at hl 2 rfl) ?_
                refine lv_icmp_ge (tgt := 110) hx hb dX8_leastCost_102 (by decide) (fun c_36 => ?_) (fun c_36 => ?_)
                · have fc_36 : v_25.toInt ≤ r_33.toInt := zf_le c_36 rfl rfl
                  refine lv_iload hx hb dX8_leastCost_110 (lv_at hl 2 rfl) ?_
                  refine lv_istore (lv' := [(4, .int v_25), (6, .int r_33), (5, .int i_60), (0, .ref m0), (1, .int 3), (2, .int d), (3, .int sec)]) hx hb dX8_leastCost_112 hl (by decide) rfl (fun ls hl => ?_)
                  obtain ⟨x_37, ex_37⟩ : ∃ y : Int32, y = i_60 + 1 := ⟨_, rfl⟩
                  have qx_37 : x_37.toInt = i_60.toInt + 1 := dw_inc ex_37 fc_27
                  refine lv_iinc (v := x_37) (lv' := [(5, .int x_37), (4, .int v_25), (6, .int r_33), (0, .ref m0), (1, .int 3), (2, .int d), (3, .int sec)]) hx hb dX8_leastCost_114 hl (k := 2) rfl ex_37.symm (by decide) rfl (fun ls hl => ?_)
                  refine lv_goto (tgt := 60) hx hb dX8_leastCost_117 (by decide) ?_
                  exact ih x_37 v_25 _ (lv_sub hl [0, 1, 3, 4, 5, 6] rfl) hbv_25 (show (v_25 : Int32).toInt = zFi gta d.toInt sec.toInt (zPw 3 * zAt (gco 1).toInt (gco 2).toInt sec.toInt) (zLv (zLn gki gpa gta npu.toInt.toNat nhu.toInt (gco 0).toInt (gco 1).toInt (gco 2).toInt 2) gki gpa gta (gco 0).toInt (zPw 3) nhu.toInt d.toInt sec.toInt) x_37.toInt.toNat from by (have hx : x_37.toInt.toNat = i_60.toInt.toNat + 1 := (by omega); have y9 : i_60.toNatClampNeg = i_60.toInt.toNat := rfl; have hm := hsr_29_0; rw [y9] at hm; rw [hx, zFi_y (hm.mp (by omega)), ← hvi_60_0]; have zr := hsr_33_0; rw [y9] at zr; have zr2 : r_33.toInt = (zLv (zLn gki gpa gta npu.toInt.toNat nhu.toInt (gco 0).toInt (gco 1).toInt (gco 2).toInt 2) gki gpa gta (gco 0).toInt (zPw 3) nhu.toInt d.toInt sec.toInt) i_60.toInt.toNat := zr; omega)) (show x_37.toInt ≤ npu.toInt from by omega) (dw_lo hloi_60 qx_37) (dw_hn hni_60 qx_37)
                · have fc_36 : r_33.toInt < v_25.toInt := zf_nle c_36 rfl rfl
                  refine lv_iload hx hb dX8_leastCost_105 (lv_at hl 0 rfl) ?_
                  refine lv_goto (tgt := 112) hx hb dX8_leastCost_107 (by decide) ?_
                  refine lv_istore (lv' := [(4, .int r_33), (6, .int r_33), (5, .int i_60), (0, .ref m0), (1, .int 3), (2, .int d), (3, .int sec)]) hx hb dX8_leastCost_112 hl (by decide) rfl (fun ls hl => ?_)
                  obtain ⟨x_38, ex_38⟩ : ∃ y : Int32, y = i_60 + 1 := ⟨_, rfl⟩
                  have qx_38 : x_38.toInt = i_60.toInt + 1 := dw_inc ex_38 fc_27
                  refine lv_iinc (v := x_38) (lv' := [(5, .int x_38), (4, .int r_33), (6, .int r_33), (0, .ref m0), (1, .int 3), (2, .int d), (3, .int sec)]) hx hb dX8_leastCost_114 hl (k := 2) rfl ex_38.symm (by decide) rfl (fun ls hl => ?_)
                  refine lv_goto (tgt := 60) hx hb dX8_leastCost_117 (by decide) ?_
                  exact ih x_38 r_33 _ (lv_sub hl [0, 1, 3, 4, 5, 6] rfl) ⟨by omega, by omega⟩ (show (r_33 : Int32).toInt = zFi gta d.toInt sec.toInt (zPw 3 * zAt (gco 1).toInt (gco 2).toInt sec.toInt) (zLv (zLn gki gpa gta npu.toInt.toNat nhu.toInt (gco 0).toInt (gco 1).toInt (gco 2).toInt 2) gki gpa gta (gco 0).toInt (zPw 3) nhu.toInt d.toInt sec.toInt) x_38.toInt.toNat from by (have hx : x_38.toInt.toNat = i_60.toInt.toNat + 1 := (by omega); have y9 : i_60.toNatClampNeg = i_60.toInt.toNat := rfl; have hm := hsr_29_0; rw [y9] at hm; rw [hx, zFi_y (hm.mp (by omega)), ← hvi_60_0]; have zr := hsr_33_0; rw [y9] at zr; have zr2 : r_33.toInt = (zLv (zLn gki gpa gta npu.toInt.toNat nhu.toInt (gco 0).toInt (gco 1).toInt (gco 2).toInt 2) gki gpa gta (gco 0).toInt (zPw 3) nhu.toInt d.toInt sec.toInt) i_60.toInt.toNat := zr; omega)) (show x_38.toInt ≤ npu.toInt from by omega) (dw_lo hloi_60 qx_38) (dw_hn hni_60 qx_38)
              · have fc_32 : r_29.toInt = 0 := zf_eq c_32 rfl (by decide)
                refine lv_goto (tgt := 114) hx hb dX8_leastCost_84 (by decide) ?_
                obtain ⟨x_39, ex_39⟩ : ∃ y : Int32, y = i_60 + 1 := ⟨_, rfl⟩
                have qx_39 : x_39.toInt = i_60.toInt + 1 := dw_inc ex_39 fc_27
                refine lv_iinc (v := x_39) (lv' := [(5, .int x_39), (4, .int v_25), (0, .ref m0), (1, .int 3), (2, .int d), (3, .int sec)]) hx hb dX8_leastCost_114 hl (k := 0) rfl ex_39.symm (by decide) rfl (fun ls hl => ?_)
                refine lv_goto (tgt := 60) hx hb dX8_leastCost_117 (by decide) ?_
                exact ih x_39 v_25 _ (lv_sub hl [0, 1, 2, 3, 4, 5] rfl) hbv_25 (show (v_25 : Int32).toInt = zFi gta d.toInt sec.toInt (zPw 3 * zAt (gco 1).toInt (gco 2).toInt sec.toInt) (zLv (zLn gki gpa gta npu.toInt.toNat nhu.toInt (gco 0).toInt (gco 1).toInt (gco 2).toInt 2) gki gpa gta (gco 0).toInt (zPw 3) nhu.toInt d.toInt sec.toInt) x_39.toInt.toNat from by (have hx : x_39.toInt.toNat = i_60.toInt.toNat + 1 := (by omega); have y9 : i_60.toNatClampNeg = i_60.toInt.toNat := rfl; have hm := hsr_29_0; rw [y9] at hm; rw [hx, zFi_n (fun z => by (have z1 := hm.mpr z; omega))]; exact hvi_60_0)) (show x_39.toInt ≤ npu.toInt from by omega) (dw_lo hloi_60 qx_39) (dw_hn hni_60 qx_39)
      · have fc_24 : x_23.toInt < x_4.toInt := zf_nle c_24 rfl rfl
        refine lv_aload_n hx hb dX8_leastCost_43 rfl (lv_at hl 1 rfl) ?_
        refine va_get (D := D) (ci := 8) (v := .ref mco) (C := RX8) (T := TX8) (N := 38) hx hb hts hi_X8_leastCost_8 hown hK hP 0 rfl rfl 16 (by decide) (hts (.fieldLink RX8 44 "TheLiningsInItModel" "cost" "[I") (List.mem_of_getElem? (i := 1) rfl)) (fun _ h9 => h9) rfl dX8_leastCost_44 ?_
        refine lv_iconst (v := 1) hx hb dX8_leastCost_47 (by decide) ?_
        refine va_iald hx hb hK hP 4 0 rfl rfl (zf_in (by decide) (by decide)) dX8_leastCost_48 ?_
        refine lv_topi (fun y_40 ey_40 => ?_)
        obtain rfl : x_21 = y_40 := ex_21.trans ey_40.symm
        refine lv_aload_n hx hb dX8_leastCost_49 rfl (lv_at hl 1 rfl) ?_
        refine lv_iload_n hx hb dX8_leastCost_50 rfl (lv_at hl 2 rfl) ?_
        refine zc_V (As := [.int 3]) (rest := [.int x_21]) ⟨hx, hb, hml, hown, hts⟩ (c_M_power_3 l D cI cJ cZ cP cS po m0 mrf mki mpa mta mla msl mco mhe mso msi msh mce mca mwo mnu mte mwa mke mma mth mtr (npu) (nte) (nat_) (nde) (nto) (nse) (nhu) (nga) (nsd) (nfa) (nba) (npl) (nen) (nnu) (nwr) (nra) (nik) hy0 hy1 hy2 hy3 hy4 hy5 hy6 hy7 hy8 hy9 hy10 hy11 hy12 hy13) (cwV 1 hts gX8_leastCost_X8_power rfl rfl rfl ⟨rfl, dh_X8_power⟩ ⟨Nat.le_of_ble_eq_true rfl, Nat.le_of_ble_eq_true rfl⟩) hK hN hZ hP (hP.sub [0] rfl) (va_recv (q := (RX8, TX8, 38)) hK hP (ci := 8) (q0 := 0) rfl rfl) rfl hl.1 rfl (Nat.le_of_ble_eq_true rfl) dX8_leastCost_51 ⟨Nat.le_of_ble_eq_true rfl, Nat.le_of_ble_eq_true rfl⟩ (fun r_41 hr_41 => ?_)
        obtain rfl := hr_41
        refine lv_imul hx hb dX8_leastCost_54 ?_
        refine lv_topi (fun y_42 ey_42 => ?_)
        obtain rfl : x_23 = y_42 := ex_23.trans ey_42.symm
        refine lv_istore (lv' := [(4, .int x_23), (0, .ref m0), (1, .int 3), (2, .int d), (3, .int sec)]) hx hb dX8_leastCost_55 hl (by decide) rfl (fun ls hl => ?_)
        refine lv_iconst (v := 0) hx hb dX8_leastCost_57 (by decide) ?_
        refine lv_istore (lv' := [(5, .int 0), (4, .int x_23), (0, .ref m0), (1, .int 3), (2, .int d), (3, .int sec)]) hx hb dX8_leastCost_58 hl (by decide) rfl (fun ls hl => ?_)
        obtain ⟨i_60, hi_60⟩ : ∃ i : Int32, i = 0 := ⟨_, rfl⟩
        replace hl : lv_has ls 7 [(5, .int i_60), (4, .int x_23), (0, .ref m0), (1, .int 3), (2, .int d), (3, .int sec)] := by rw [hi_60]; exact lv_sub hl [0, 1, 2, 3, 4, 5] rfl
        have h1i_60 : i_60.toInt = 0 := by rw [hi_60]; decide
        obtain ⟨nfu, hni_60⟩ : ∃ nq9 : Nat, npu.toInt ≤ i_60.toInt + (nq9 : Int) := ⟨((npu.toInt : Int) - 0).toNat, by omega⟩
        have hloi_60 : 0 ≤ i_60.toInt := by omega
        obtain ⟨v_43, hv_43⟩ : ∃ g : Int32, g = x_23 := ⟨_, rfl⟩
        replace hl : lv_has ls 7 [(5, .int i_60), (4, .int v_43), (0, .ref m0), (1, .int 3), (2, .int d), (3, .int sec)] := by rw [hv_43]; exact hl
        have hbv_43 : 0 ≤ v_43.toInt ∧ v_43.toInt ≤ 171072 := by rw [hv_43]; exact ⟨by omega, by omega⟩
        have hvi_60_0 : (v_43 : Int32).toInt = zFi gta d.toInt sec.toInt (zPw 3 * zAt (gco 1).toInt (gco 2).toInt sec.toInt) (zLv (zLn gki gpa gta npu.toInt.toNat nhu.toInt (gco 0).toInt (gco 1).toInt (gco 2).toInt 2) gki gpa gta (gco 0).toInt (zPw 3) nhu.toInt d.toInt sec.toInt) i_60.toInt.toNat := by
          (try rw [hi_60]); (try rw [hv_43]); (rw [(show ((0 : Int32).toInt.toNat) = 0 from by decide)]; show _ = zPw 3 * zAt (gco 1).toInt (gco 2).toInt sec.toInt; (have nx_2 : (gco 2).toInt = x_2.toInt := (by rw [ex_2, show (2 : Int32).toNatClampNeg = 2 from by decide]); have nx_21 : (gco 1).toInt = x_21.toInt := (by rw [ex_21, show (1 : Int32).toNatClampNeg = 1 from by decide]); unfold zAt; rw [show zPw 3 = 1728 from by decide]; first | (rw [if_pos (by omega)]; omega) | (rw [if_neg (by omega)]; omega)))
        have hvi_60_1 : i_60.toInt ≤ npu.toInt := by
          (try rw [hi_60]); (try rw [hv_43]); (have k0 : (0 : Int32).toInt = 0 := (by decide); omega)
        clear h1i_60 hi_60 hv_43
        revert hni_60
        revert hloi_60
        revert hvi_60_1
        revert hvi_60_0
        revert hbv_43
        revert hl
        revert ls
        revert v_43
        revert i_60
        induction nfu with
        | zero =>
          intro i_60 v_43 ls hl hbv_43 hvi_60_0 hvi_60_1 hloi_60 hni_60
          have hzi_60 : npu.toInt ≤ i_60.toInt := by omega
          refine lv_iload hx hb dX8_leastCost_60 (lv_at hl 0 rfl) ?_
          refine lv_aload_n hx hb dX8_leastCost_62 rfl (lv_at hl 2 rfl) ?_
          refine va_get (D := D) (ci := 8) (v := .int npu) (C := RX8) (T := TX8) (N := 38) hx hb hts hi_X8_leastCost_8 hown hK hP 0 rfl rfl 0 (by decide) (hts (.fieldLink RX8 90 "TheLiningsInItModel" "pulls" "I") (List.mem_of_getElem? (i := 2) rfl)) (fun _ h9 => h9) rfl dX8_leastCost_63 ?_
          refine lv_icmp_ge (tgt := 120) hx hb dX8_leastCost_66 (by decide) (fun c_44 => ?_) (fun c_44 => ?_)
          · have fc_44 : npu.toInt ≤ i_60.toInt := zf_le c_44 rfl rfl
            refine lv_iload hx hb dX8_leastCost_120 (lv_at hl 1 rfl) ?_
            exact W.iret (v := v_43) hx hb hr (fun t ht hW => ⟨v_43, rfl, ⟨by omega, by omega, (show (v_43 : Int32).toInt = (zLn gki gpa gta npu.toInt.toNat nhu.toInt (gco 0).toInt (gco 1).toInt (gco 2).toInt 3) d.toInt sec.toInt from by (have h9 : i_60.toInt.toNat = npu.toInt.toNat := (by omega); have z := hvi_60_0; rw [h9] at z; rw [zLn_s, if_neg (by omega)]; exact z))⟩, ht⟩) (fun q hq => by cases hq) dX8_leastCost_122
          · exfalso; have fc_44 : i_60.toInt < npu.toInt := zf_nle c_44 rfl rfl; omega
        | succ nfu ih =>
          intro i_60 v_43 ls hl hbv_43 hvi_60_0 hvi_60_1 hloi_60 hni_60
          refine lv_iload hx hb dX8_leastCost_60 (lv_at hl 0 rfl) ?_
          refine lv_aload_n hx hb dX8_leastCost_62 rfl (lv_at hl 2 rfl) ?_
          refine va_get (D := D) (ci := 8) (v := .int npu) (C := RX8) (T := TX8) (N := 38) hx hb hts hi_X8_leastCost_8 hown hK hP 0 rfl rfl 0 (by decide) (hts (.fieldLink RX8 90 "TheLiningsInItModel" "pulls" "I") (List.mem_of_getElem? (i := 2) rfl)) (fun _ h9 => h9) rfl dX8_leastCost_63 ?_
          refine lv_icmp_ge (tgt := 120) hx hb dX8_leastCost_66 (by decide) (fun c_45 => ?_) (fun c_45 => ?_)
          · have fc_45 : npu.toInt ≤ i_60.toInt := zf_le c_45 rfl rfl
            refine lv_iload hx hb dX8_leastCost_120 (lv_at hl 1 rfl) ?_
            exact W.iret (v := v_43) hx hb hr (fun t ht hW => ⟨v_43, rfl, ⟨by omega, by omega, (show (v_43 : Int32).toInt = (zLn gki gpa gta npu.toInt.toNat nhu.toInt (gco 0).toInt (gco 1).toInt (gco 2).toInt 3) d.toInt sec.toInt from by (have h9 : i_60.toInt.toNat = npu.toInt.toNat := (by omega); have z := hvi_60_0; rw [h9] at z; rw [zLn_s, if_neg (by omega)]; exact z))⟩, ht⟩) (fun q hq => by cases hq) dX8_leastCost_122
          · have fc_45 : i_60.toInt < npu.toInt := zf_nle c_45 rfl rfl
            refine lv_iload_n hx hb dX8_leastCost_69 rfl (lv_at hl 3 rfl) ?_
            refine lv_if_le (tgt := 120) hx hb dX8_leastCost_70 (by decide) (fun c_46 => ?_) (fun c_46 => ?_)
            · exact absurd c_46 (by decide)
            · refine lv_aload_n hx hb dX8_leastCost_73 rfl (lv_at hl 2 rfl) ?_
              refine lv_iload hx hb dX8_leastCost_74 (lv_at hl 0 rfl) ?_
              refine lv_iload_n hx hb dX8_leastCost_76 rfl (lv_at hl 4 rfl) ?_
              refine lv_iload_n hx hb dX8_leastCost_77 rfl (lv_at hl 5 rfl) ?_
              refine zc_V (As := [.int i_60, .int d, .int sec]) (rest := []) ⟨hx, hb, hml, hown, hts⟩ (c_F_M_mayBe l D cI cJ cZ cP cS po m0 mrf mki mpa mta mla msl mco mhe mso msi msh mce mca mwo mnu mte mwa mke mma mth mtr (npu) (nte) (nat_) (nde) (nto) (nse) (nhu) (nga) (nsd) (nfa) (nba) (npl) (nen) (nnu) (nwr) (nra) (nik) gta (i_60) (d) (sec) hy0 hy1 hy2 hy3 hy4 hy5 hy6 hy7 hy8 hy9 hy10 hy11 hy12 hy13 (by omega) (by omega) hp_gta) (cwV 3 hts gX8_leastCost_X8_mayBe rfl rfl rfl ⟨rfl, dh_X8_mayBe⟩ ⟨Nat.le_of_ble_eq_true rfl, Nat.le_of_ble_eq_true rfl⟩) hK hN hZ hP (hP.sub [0, 3] rfl) (va_recv (q := (RX8, TX8, 38)) hK hP (ci := 8) (q0 := 0) rfl rfl) rfl hl.1 rfl (Nat.le_of_ble_eq_true rfl) dX8_leastCost_78 ⟨Nat.le_of_ble_eq_true rfl, Nat.le_of_ble_eq_true rfl⟩ (fun r_47 hr_47 => ?_)
              obtain ⟨g_48, g_49, hsr_47_0⟩ := hr_47
              refine lv_if_ne (tgt := 87) hx hb dX8_leastCost_81 (by decide) (fun c_50 => ?_) (fun c_50 => ?_)
              · have fc_50 : r_47.toInt ≠ 0 := zf_ne c_50 rfl (by decide)
                have htl9 : (gta i_60.toNatClampNeg).toInt ≤ sec.toInt := (hsr_47_0.mp (by omega)).2
                refine lv_aload_n hx hb dX8_leastCost_87 rfl (lv_at hl 2 rfl) ?_
                refine lv_iload hx hb dX8_leastCost_88 (lv_at hl 0 rfl) ?_
                refine lv_iload_n hx hb dX8_leastCost_90 rfl (lv_at hl 3 rfl) ?_
                refine lv_iload_n hx hb dX8_leastCost_91 rfl (lv_at hl 4 rfl) ?_
                refine lv_iload_n hx hb dX8_leastCost_92 rfl (lv_at hl 5 rfl) ?_
                refine zc_V (As := [.int i_60, .int 3, .int d, .int sec]) (rest := []) ⟨hx, hb, hml, hown, hts⟩ (c_F_M_costBy_3 l D cI cJ cZ cP cS po m0 mrf mki mpa mta mla msl mco mhe mso msi msh mce mca mwo mnu mte mwa mke mma mth mtr (npu) (nte) (nat_) (nde) (nto) (nse) (nhu) (nga) (nsd) (nfa) (nba) (npl) (nen) (nnu) (nwr) (nra) (nik) gki gpa gta gco (i_60) (d) (sec) hy0 hy1 hy2 hy3 hy4 hy5 hy6 hy7 hy8 hy9 hy10 hy11 hy12 hy13 (by omega) (by omega) hy14 hy15 hy16 hy17 (by first | assumption | omega) hp_gki hp_gpa hp_gta hp_gco) (cwV 4 hts gX8_leastCost_X8_costBy rfl rfl rfl ⟨rfl, dh_X8_costBy⟩ ⟨Nat.le_of_ble_eq_true rfl, Nat.le_of_ble_eq_true rfl⟩) hK hN hZ hP (hP.sub [0, 1, 2, 3, 4] rfl) (va_recv (q := (RX8, TX8, 38)) hK hP (ci := 8) (q0 := 0) rfl rfl) rfl hl.1 rfl (Nat.le_of_ble_eq_true rfl) dX8_leastCost_93 ⟨Nat.le_of_ble_eq_true rfl, Nat.le_of_ble_eq_true rfl⟩ (fun r_51 hr_51 => ?_)
                obtain ⟨g_52, g_53, hsr_51_0⟩ := hr_51
                refine lv_istore (lv' := [(6, .int r_51), (5, .int i_60), (4, .int v_43), (0, .ref m0), (1, .int 3), (2, .int d), (3, .int sec)]) hx hb dX8_leastCost_96 hl (by decide) rfl (fun ls hl => ?_)
                refine lv_iload hx hb dX8_leastCost_98 (lv_at hl 0 rfl) ?_
                refine lv_iload hx hb dX8_leastCost_100 (lv_at hl 2 rfl) ?_
                refine lv_icmp_ge (tgt := 110) hx hb dX8_leastCost_102 (by decide) (fun c_54 => ?_) (fun c_54 => ?_)
                · have fc_54 : v_43.toInt ≤ r_51.toInt := zf_le c_54 rfl rfl
                  refine lv_iload hx hb dX8_leastCost_110 (lv_at hl 2 rfl) ?_
                  refine lv_istore (lv' := [(4, .int v_43), (6, .int r_51), (5, .int i_60), (0, .ref m0), (1, .int 3), (2, .int d), (3, .int sec)]) hx hb dX8_leastCost_112 hl (by decide) rfl (fun ls hl => ?_)
                  obtain ⟨x_55, ex_55⟩ : ∃ y : Int32, y = i_60 + 1 := ⟨_, rfl⟩
                  have qx_55 : x_55.toInt = i_60.toInt + 1 := dw_inc ex_55 fc_45
                  refine lv_iinc (v := x_55) (lv' := [(5, .int x_55), (4, .int v_43), (6, .int r_51), (0, .ref m0), (1, .int 3), (2, .int d), (3, .int sec)]) hx hb dX8_leastCost_114 hl (k := 2) rfl ex_55.symm (by decide) rfl (fun ls hl => ?_)
                  refine lv_goto (tgt := 60) hx hb dX8_leastCost_117 (by decide) ?_
                  exact ih x_55 v_43 _ (lv_sub hl [0, 1, 3, 4, 5, 6] rfl) hbv_43 (show (v_43 : Int32).toInt = zFi gta d.toInt sec.toInt (zPw 3 * zAt (gco 1).toInt (gco 2).toInt sec.toInt) (zLv (zLn gki gpa gta npu.toInt.toNat nhu.toInt (gco 0).toInt (gco 1).toInt (gco 2).toInt 2) gki gpa gta (gco 0).toInt (zPw 3) nhu.toInt d.toInt sec.toInt) x_55.toInt.toNat from by (have hx : x_55.toInt.toNat = i_60.toInt.toNat + 1 := (by omega); have y9 : i_60.toNatClampNeg = i_60.toInt.toNat := rfl; have hm := hsr_47_0; rw [y9] at hm; rw [hx, zFi_y (hm.mp (by omega)), ← hvi_60_0]; have zr := hsr_51_0; rw [y9] at zr; have zr2 : r_51.toInt = (zLv (zLn gki gpa gta npu.toInt.toNat nhu.toInt (gco 0).toInt (gco 1).toInt (gco 2).toInt 2) gki gpa gta (gco 0).toInt (zPw 3) nhu.toInt d.toInt sec.toInt) i_60.toInt.toNat := zr; omega)) (show x_55.toInt ≤ npu.toInt from by omega) (dw_lo hloi_60 qx_55) (dw_hn hni_60 qx_55)
                · have fc_54 : r_51.toInt < v_43.toInt := zf_nle c_54 rfl rfl
                  refine lv_iload hx hb dX8_leastCost_105 (lv_at hl 0 rfl) ?_
                  refine lv_goto (tgt := 112) hx hb dX8_leastCost_107 (by decide) ?_
                  refine lv_istore (lv' := [(4, .int r_51), (6, .int r_51), (5, .int i_60), (0, .ref m0), (1, .int 3), (2, .int d), (3, .int sec)]) hx hb dX8_leastCost_112 hl (by decide) rfl (fun ls hl => ?_)
                  obtain ⟨x_56, ex_56⟩ : ∃ y : Int32, y = i_60 + 1 := ⟨_, rfl⟩
                  have qx_56 : x_56.toInt = i_60.toInt + 1 := dw_inc ex_56 fc_45
                  refine lv_iinc (v := x_56) (lv' := [(5, .int x_56), (4, .int r_51), (6, .int r_51), (0, .ref m0), (1, .int 3), (2, .int d), (3, .int sec)]) hx hb dX8_leastCost_114 hl (k := 2) rfl ex_56.symm (by decide) rfl (fun ls hl => ?_)
                  refine lv_goto (tgt := 60) hx hb dX8_leastCost_117 (by decide) ?_
                  exact ih x_56 r_51 _ (lv_sub hl [0, 1, 3, 4, 5, 6] rfl) ⟨by omega, by omega⟩ (show (r_51 : Int32).toInt = zFi gta d.toInt sec.toInt (zPw 3 * zAt (gco 1).toInt (gco 2).toInt sec.toInt) (zLv (zLn gki gpa gta npu.toInt.toNat nhu.toInt (gco 0).toInt (gco 1).toInt (gco 2).toInt 2) gki gpa gta (gco 0).toInt (zPw 3) nhu.toInt d.toInt sec.toInt) x_56.toInt.toNat from by (have hx : x_56.toInt.toNat = i_60.toInt.toNat + 1 := (by omega); have y9 : i_60.toNatClampNeg = i_60.toInt.toNat := rfl; have hm := hsr_47_0; rw [y9] at hm; rw [hx, zFi_y (hm.mp (by omega)), ← hvi_60_0]; have zr := hsr_51_0; rw [y9] at zr; have zr2 : r_51.toInt = (zLv (zLn gki gpa gta npu.toInt.toNat nhu.toInt (gco 0).toInt (gco 1).toInt (gco 2).toInt 2) gki gpa gta (gco 0).toInt (zPw 3) nhu.toInt d.toInt sec.toInt) i_60.toInt.toNat := zr; omega)) (show x_56.toInt ≤ npu.toInt from by omega) (dw_lo hloi_60 qx_56) (dw_hn hni_60 qx_56)
              · have fc_50 : r_47.toInt = 0 := zf_eq c_50 rfl (by decide)
                refine lv_goto (tgt := 114) hx hb dX8_leastCost_84 (by decide) ?_
                obtain ⟨x_57, ex_57⟩ : ∃ y : Int32, y = i_60 + 1 := ⟨_, rfl⟩
                have qx_57 : x_57.toInt = i_60.toInt + 1 := dw_inc ex_57 fc_45
                refine lv_iinc (v := x_57) (lv' := [(5, .int x_57), (4, .int v_43), (0, .ref m0), (1, .int 3), (2, .int d), (3, .int sec)]) hx hb dX8_leastCost_114 hl (k := 0) rfl ex_57.symm (by decide) rfl (fun ls hl => ?_)
                refine lv_goto (tgt := 60) hx hb dX8_leastCost_117 (by decide) ?_
                exact ih x_57 v_43 _ (lv_sub hl [0, 1, 2, 3, 4, 5] rfl) hbv_43 (show (v_43 : Int32).toInt = zFi gta d.toInt sec.toInt (zPw 3 * zAt (gco 1).toInt (gco 2).toInt sec.toInt) (zLv (zLn gki gpa gta npu.toInt.toNat nhu.toInt (gco 0).toInt (gco 1).toInt (gco 2).toInt 2) gki gpa gta (gco 0).toInt (zPw 3) nhu.toInt d.toInt sec.toInt) x_57.toInt.toNat from by (have hx : x_57.toInt.toNat = i_60.toInt.toNat + 1 := (by omega); have y9 : i_60.toNatClampNeg = i_60.toInt.toNat := rfl; have hm := hsr_47_0; rw [y9] at hm; rw [hx, zFi_n (fun z => by (have z1 := hm.mpr z; omega))]; exact hvi_60_0)) (show x_57.toInt ≤ npu.toInt from by omega) (dw_lo hloi_60 qx_57) (dw_hn hni_60 qx_57)
  · have fc_1 : d.toInt = 0 := zf_eq c_1 rfl (by decide)
    refine lv_iconst (v := 0) hx hb dX8_leastCost_4 (by decide) ?_
    exact W.iret (v := 0) hx hb hr (fun t ht hW => ⟨0, rfl, ⟨by decide, by decide, (show (0 : Int32).toInt = (zLn gki gpa gta npu.toInt.toNat nhu.toInt (gco 0).toInt (gco 1).toInt (gco 2).toInt 3) d.toInt sec.toInt from by (have k9 : (0 : Int32).toInt = 0 := (by decide); rw [zLn_s, if_pos (by omega)]; exact k9))⟩, ht⟩) (fun q hq => by cases hq) dX8_leastCost_5
set_option maxHeartbeats 4000000 in
set_option maxRecDepth 100000 in
theorem c_F_M_costBy_4 (l : Launch) (D : va_G) (cI cJ cZ cP cS : ClassId) (po : zPool) (m0 mrf mki mpa mta mla msl mco mhe mso msi msh mce mca mwo mnu mte mwa mke mma mth mtr : Nat) (npu nte nat_ nde nto nse nhu nga nsd nfa nba npl nen nnu nwr nra nik : Int32) (gki gpa gta gco : Nat → Int32) (p_ d sec : Int32) (hy0 : 0 ≤ npu.toInt) (hy1 : npu.toInt ≤ 8) (hy2 : 4 ≤ nte.toInt) (hy3 : nte.toInt ≤ 40) (hy4 : 0 ≤ nat_.toInt) (hy5 : nat_.toInt ≤ 40) (hy6 : 0 ≤ nde.toInt) (hy7 : nde.toInt ≤ 24) (hy8 : 0 ≤ nhu.toInt) (hy9 : nhu.toInt ≤ 9) (hy10 : 0 ≤ nra.toInt) (hy11 : nra.toInt ≤ 2000) (hy12 : 0 ≤ nik.toInt) (hy13 : nik.toInt ≤ 1) (hy14 : 0 ≤ p_.toInt) (hy15 : p_.toInt ≤ 7) (hy16 : 0 ≤ d.toInt) (hy17 : d.toInt ≤ 24) (hy18 : 0 ≤ sec.toInt) (hy19 : sec.toInt ≤ 300) (htl : (gta p_.toNatClampNeg).toInt ≤ sec.toInt) (hp_gki : zRg gki (0) 6) (hp_gpa : zRg gpa (0) 9) (hp_gta : zRg gta (0) 60) (hp_gco : zRg gco (0) 99) : Met l yX8_costBy wsX8_costBy ({ frames := 8, cells := 0, slots := 0, locals := 203 }) (va_Pc [.ref m0, .int p_, .int 4, .int d, .int sec] (zR D (zKT cI cJ cZ cP cS) po [(zMO m0 npu nte nat_ nde nto nse nhu nga nsd nfa mrf mki mpa mta mla msl mco mhe mso msi msh mce mca mwo mnu mte nba npl nen nnu nwr mwa mke mma mth mtr nra nik), (mki, .inl (cI, 8, .inl gki)), (mpa, .inl (cI, 8, .inl gpa)), (mta, .inl (cI, 8, .inl gta)), (mco, .inl (cI, 3, .inl gco))])) (vp_Si (fun r => 0 ≤ r.toInt ∧ r.toInt ≤ 4105728 ∧ (r.toInt = zLb (zLn gki gpa gta npu.toInt.toNat nhu.toInt (gco 0).toInt (gco 1).toInt (gco 2).toInt 3) (gco 0).toInt (zPw 4) (gki p_.toNatClampNeg).toInt (gpa p_.toNatClampNeg).toInt (gta p_.toNatClampNeg).toInt nhu.toInt d.toInt sec.toInt))) 0 0 (fun _ => False) := by
  refine Met.ofW (cc := cX8_costBy) (maxL := 7) (ret := (some .int)) (by decide) rfl ?_
  intro p e s m args below meth c s₁ B hml hv
  obtain ⟨rfl, hP, hK, hN, hZ⟩ := hv
  have hx := B.exec
  have hb := B.bytes
  have hr := B.returns
  have hts := atoms_spec (ws := wsX8_costBy) B.pre
  have hown : s.vm.findClass RX8 = some m.cls := findClass_of_methodNamed B.named
  have hlocks := B.notSynchronized
  have hl := lv_entry ([.ref m0, .int p_, .int 4, .int d, .int sec]) (n := 7) (Nat.le_of_ble_eq_true rfl)
  rw [lg_entry_eq]
  generalize (lg_sl ([.ref m0, .int p_, .int 4, .int d, .int sec]) ++ List.replicate (7 - (lg_sl ([.ref m0, .int p_, .int 4, .int d, .int sec])).length) Slot.unset).toArray = ls at hl ⊢
  replace hl : lv_has ls 7 [(0, .ref m0), (1, .int p_), (2, .int 4), (3, .int d), (4, .int sec)] := hl
  refine lv_aload_n hx hb dX8_costBy_0 rfl (lv_at hl 0 rfl) ?_
  refine lv_iload_n hx hb dX8_costBy_1 rfl (lv_at hl 1 rfl) ?_
  refine lv_iload_n hx hb dX8_costBy_2 rfl (lv_at hl 3 rfl) ?_
  refine zc_V (As := [.int p_, .int d]) (rest := []) ⟨hx, hb, hml, hown, hts⟩ (c_F_M_ways l D cI cJ cZ cP cS po m0 mrf mki mpa mta mla msl mco mhe mso msi msh mce mca mwo mnu mte mwa mke mma mth mtr (npu) (nte) (nat_) (nde) (nto) (nse) (nhu) (nga) (nsd) (nfa) (nba) (npl) (nen) (nnu) (nwr) (nra) (nik) gki gpa (p_) (d) hy0 hy1 hy2 hy3 hy4 hy5 hy6 hy7 hy8 hy9 hy10 hy11 hy12 hy13 hy14 hy15 hy16 hy17 hp_gki hp_gpa) (cwV 2 hts gX8_costBy_X8_ways rfl rfl rfl ⟨rfl, dh_X8_ways⟩ ⟨Nat.le_of_ble_eq_true rfl, Nat.le_of_ble_eq_true rfl⟩) hK hN hZ hP (hP.sub [0, 1, 2] rfl) (va_recv (q := (RX8, TX8, 38)) hK hP (ci := 8) (q0 := 0) rfl rfl) rfl hl.1 rfl (Nat.le_of_ble_eq_true rfl) dX8_costBy_3 ⟨Nat.le_of_ble_eq_true rfl, Nat.le_of_ble_eq_true rfl⟩ (fun r_1 hr_1 => ?_)
  obtain ⟨g_2, g_3, hsr_1_0⟩ := hr_1
  refine lv_istore (lv' := [(5, .int r_1), (0, .ref m0), (1, .int p_), (2, .int 4), (3, .int d), (4, .int sec)]) hx hb dX8_costBy_6 hl (by decide) rfl (fun ls hl => ?_)
  refine lv_aload_n hx hb dX8_costBy_8 rfl (lv_at hl 1 rfl) ?_
  refine va_get (D := D) (ci := 8) (v := .ref mki) (C := RX8) (T := TX8) (N := 38) hx hb hts hi_X8_costBy_8 hown hK hP 0 rfl rfl 11 (by decide) (hts (.fieldLink RX8 29 "TheLiningsInItModel" "kind" "[I") (List.mem_of_getElem? (i := 1) rfl)) (fun _ h9 => h9) rfl dX8_costBy_9 ?_
  refine lv_iload_n hx hb dX8_costBy_12 rfl (lv_at hl 2 rfl) ?_
  refine va_iald hx hb hK hP 1 0 rfl rfl (zf_in (by omega) (by omega)) dX8_costBy_13 ?_
  refine lv_topi (fun x_4 ex_4 => ?_)
  have bx_4 : 0 ≤ x_4.toInt ∧ x_4.toInt ≤ 6 := by rw [ex_4]; exact hp_gki _
  refine lv_iconst (v := 5) hx hb dX8_costBy_14 (by decide) ?_
  refine lv_icmp_ne (tgt := 33) hx hb dX8_costBy_15 (by decide) (fun c_5 => ?_) (fun c_5 => ?_)
  · have fc_5 : x_4.toInt ≠ 5 := zf_ne c_5 rfl (by decide)
    refine lv_iconst (v := 0) hx hb dX8_costBy_33 (by decide) ?_
    refine lv_istore (lv' := [(6, .int 0), (5, .int r_1), (0, .ref m0), (1, .int p_), (2, .int 4), (3, .int d), (4, .int sec)]) hx hb dX8_costBy_34 hl (by decide) rfl (fun ls hl => ?_)
    refine lv_iload hx hb dX8_costBy_36 (lv_at hl 1 rfl) ?_
    refine lv_if_le (tgt := 72) hx hb dX8_costBy_38 (by decide) (fun c_6 => ?_) (fun c_6 => ?_)
    · have fc_6 : r_1.toInt ≤ 0 := zf_le c_6 rfl (by decide)
      refine lv_iload hx hb dX8_costBy_72 (lv_at hl 1 rfl) ?_
      refine lv_bipush (v := 12) hx hb dX8_costBy_74 (by decide) ?_
      refine lv_icmp_ge (tgt := 113) hx hb dX8_costBy_76 (by decide) (fun c_7 => ?_) (fun c_7 => ?_)
      · exfalso; have fc_7 : 12 ≤ r_1.toInt := zf_le c_7 (by decide) rfl; omega
      · have fc_7 : r_1.toInt < 12 := zf_nle c_7 (by decide) rfl
        refine lv_iload hx hb dX8_costBy_79 (lv_at hl 0 rfl) ?_
        refine lv_bipush (v := 12) hx hb dX8_costBy_81 (by decide) ?_
        refine lv_iload hx hb dX8_costBy_83 (lv_at hl 1 rfl) ?_
        refine lv_isub hx hb dX8_costBy_85 ?_
        refine lv_topi (fun x_8 ex_8 => ?_)
        have qx_8 : x_8.toInt = 12 - r_1.toInt := by rw [ex_8]; exact zf_sub (by decide) rfl (by omega) (by omega)
        refine lv_aload_n hx hb dX8_costBy_86 rfl (lv_at hl 2 rfl) ?_
        refine lv_iload_n hx hb dX8_costBy_87 rfl (lv_at hl 4 rfl) ?_
        refine lv_iconst (v := 1) hx hb dX8_costBy_88 (by decide) ?_
        refine lv_isub hx hb dX8_costBy_89 ?_
        refine lv_topi (fun y_9 ey_9 => ?_)
        obtain rfl : y_9 = 3 := ey_9.trans (by decide)
        refine lv_aload_n hx hb dX8_costBy_90 rfl (lv_at hl 2 rfl) ?_
        refine lv_iload_n hx hb dX8_costBy_91 rfl (lv_at hl 3 rfl) ?_
        refine lv_iload_n hx hb dX8_costBy_92 rfl (lv_at hl 5 rfl) ?_
        refine lv_iconst (v := 0) hx hb dX8_costBy_93 (by decide) ?_
        have kc0 : (0 : Int32).toInt = 0 := by decide
        refine zc_V (As := [.int p_, .int d, .int 0]) (rest := [.int 3, .ref m0, .int x_8, .int 0]) ⟨hx, hb, hml, hown, hts⟩ (c_F_M_deep l D cI cJ cZ cP cS po m0 mrf mki mpa mta mla msl mco mhe mso msi msh mce mca mwo mnu mte mwa mke mma mth mtr (npu) (nte) (nat_) (nde) (nto) (nse) (nhu) (nga) (nsd) (nfa) (nba) (npl) (nen) (nnu) (nwr) (nra) (nik) gki gpa (p_) (d) (0) hy0 hy1 hy2 hy3 hy4 hy5 hy6 hy7 hy8 hy9 hy10 hy11 hy12 hy13 hy14 hy15 hy16 hy17 (by omega) (by omega) hp_gki hp_gpa) (cwV 3 hts gX8_costBy_X8_deep rfl rfl rfl ⟨rfl, dh_X8_deep⟩ ⟨Nat.le_of_ble_eq_true rfl, Nat.le_of_ble_eq_true rfl⟩) hK hN hZ hP (hP.sub [0, 1, 2] rfl) (va_recv (q := (RX8, TX8, 38)) hK hP (ci := 8) (q0 := 0) rfl rfl) rfl hl.1 rfl (Nat.le_of_ble_eq_true rfl) dX8_costBy_94 ⟨Nat.le_of_ble_eq_true rfl, Nat.le_of_ble_eq_true rfl⟩ (fun r_10 hr_10 => ?_)
        obtain ⟨g_11, g_12, hsr_10_0⟩ := hr_10
        refine lv_iload hx hb dX8_costBy_97 (lv_at hl 6 rfl) ?_
        refine lv_aload_n hx hb dX8_costBy_99 rfl (lv_at hl 2 rfl) ?_
        refine va_get (D := D) (ci := 8) (v := .ref mta) (C := RX8) (T := TX8) (N := 38) hx hb hts hi_X8_costBy_8 hown hK hP 0 rfl rfl 13 (by decide) (hts (.fieldLink RX8 35 "TheLiningsInItModel" "takes" "[I") (List.mem_of_getElem? (i := 3) rfl)) (fun _ h9 => h9) rfl dX8_costBy_100 ?_
        refine lv_iload_n hx hb dX8_costBy_103 rfl (lv_at hl 3 rfl) ?_
        refine va_iald hx hb hK hP 3 0 rfl rfl (zf_in (by omega) (by omega)) dX8_costBy_104 ?_
        refine lv_topi (fun x_13 ex_13 => ?_)
        have bx_13 : 0 ≤ x_13.toInt ∧ x_13.toInt ≤ 60 := by rw [ex_13]; exact hp_gta _
        have htx_13 : x_13.toInt ≤ sec.toInt := by (rw [ex_13]; exact htl)
        refine lv_isub hx hb dX8_costBy_105 ?_
        refine lv_topi (fun x_14 ex_14 => ?_)
        have qx_14 : x_14.toInt = sec.toInt - x_13.toInt := by rw [ex_14]; exact zf_sub rfl rfl (by omega) (by omega)
        refine zc_V (As := [.int 3, .int r_10, .int x_14]) (rest := [.int x_8, .int 0]) ⟨hx, hb, hml, hown, hts⟩ (c_F_M_leastCost_3 l D cI cJ cZ cP cS po m0 mrf mki mpa mta mla msl mco mhe mso msi msh mce mca mwo mnu mte mwa mke mma mth mtr (npu) (nte) (nat_) (nde) (nto) (nse) (nhu) (nga) (nsd) (nfa) (nba) (npl) (nen) (nnu) (nwr) (nra) (nik) gki gpa gta gco (r_10) (x_14) hy0 hy1 hy2 hy3 hy4 hy5 hy6 hy7 hy8 hy9 hy10 hy11 hy12 hy13 (by omega) (by omega) (by omega) (by omega) hp_gki hp_gpa hp_gta hp_gco) (cwV 3 hts gX8_costBy_X8_leastCost rfl rfl rfl ⟨rfl, dh_X8_leastCost⟩ ⟨Nat.le_of_ble_eq_true rfl, Nat.le_of_ble_eq_true rfl⟩) hK hN hZ hP (hP.sub [0, 1, 2, 3, 4] rfl) (va_recv (q := (RX8, TX8, 38)) hK hP (ci := 8) (q0 := 0) rfl rfl) rfl hl.1 rfl (Nat.le_of_ble_eq_true rfl) dX8_costBy_106 ⟨Nat.le_of_ble_eq_true rfl, Nat.le_of_ble_eq_true rfl⟩ (fun r_15 hr_15 => ?_)
        obtain ⟨g_16, g_17, hsr_15_0⟩ := hr_15
        refine lv_imul hx hb dX8_costBy_109 ?_
        refine lv_topi (fun x_18 ex_18 => ?_)
        obtain ⟨mx_18, nx_18, ox_18⟩ := zf_mulc (a := x_8) (b := r_15) (x := x_8.toInt) (y := r_15.toInt) (P := 171072) rfl rfl ⟨by omega, by omega⟩ ⟨by omega, by omega⟩ (by decide)
        rw [← ex_18] at mx_18
        refine lv_iadd hx hb dX8_costBy_110 ?_
        refine lv_topi (fun x_19 ex_19 => ?_)
        have qx_19 : x_19.toInt = 0 + x_18.toInt := by rw [ex_19]; exact zf_add (by decide) rfl (by omega) (by omega)
        refine lv_istore (lv' := [(6, .int x_19), (5, .int r_1), (0, .ref m0), (1, .int p_), (2, .int 4), (3, .int d), (4, .int sec)]) hx hb dX8_costBy_111 hl (by decide) rfl (fun ls hl => ?_)
        refine lv_iload hx hb dX8_costBy_113 (lv_at hl 0 rfl) ?_
        exact W.iret (v := x_19) hx hb hr (fun t ht hW => ⟨x_19, rfl, ⟨by omega, by omega, (show (x_19 : Int32).toInt = zLb (zLn gki gpa gta npu.toInt.toNat nhu.toInt (gco 0).toInt (gco 1).toInt (gco 2).toInt 3) (gco 0).toInt (zPw 4) (gki p_.toNatClampNeg).toInt (gpa p_.toNatClampNeg).toInt (gta p_.toNatClampNeg).toInt nhu.toInt d.toInt sec.toInt from by (have zw := hsr_1_0; have E1 : r_1.toInt * (zLn gki gpa gta npu.toInt.toNat nhu.toInt (gco 0).toInt (gco 1).toInt (gco 2).toInt 3) (zShl (gki p_.toNatClampNeg).toInt (gpa p_.toNatClampNeg).toInt d.toInt) (sec.toInt - (gta p_.toNatClampNeg).toInt) = 0 := (by rw [show r_1.toInt = 0 from by omega, Int.zero_mul]); have E2 : (12 - r_1.toInt) * (zLn gki gpa gta npu.toInt.toNat nhu.toInt (gco 0).toInt (gco 1).toInt (gco 2).toInt 3) (zDpr (gki p_.toNatClampNeg).toInt (gpa p_.toNatClampNeg).toInt nhu.toInt d.toInt) (sec.toInt - (gta p_.toNatClampNeg).toInt) = x_18.toInt := (by rw [← hsr_10_0.2 (by decide), show sec.toInt - (gta p_.toNatClampNeg).toInt = (x_14 : Int32).toInt from by (have z : (gta p_.toNatClampNeg).toInt = x_13.toInt := (by rw [ex_13]); omega), ← hsr_15_0, show 12 - r_1.toInt = x_8.toInt from by omega]; omega); have nk : (gki p_.toNatClampNeg).toInt = x_4.toInt := (by rw [ex_4]); unfold zLb zBy1; rw [← zw, E1, E2, show zPw 4 = 20736 from by decide]; first | (rw [if_neg (by omega)]; omega) | (rw [if_pos (by omega)]; omega)))⟩, ht⟩) (fun q hq => by cases hq) dX8_costBy_115
    · have fc_6 : 0 < r_1.toInt := zf_nle c_6 rfl (by decide)
      refine lv_iload hx hb dX8_costBy_41 (lv_at hl 0 rfl) ?_
      refine lv_iload hx hb dX8_costBy_43 (lv_at hl 1 rfl) ?_
      refine lv_aload_n hx hb dX8_costBy_45 rfl (lv_at hl 2 rfl) ?_
      refine lv_iload_n hx hb dX8_costBy_46 rfl (lv_at hl 4 rfl) ?_
      refine lv_iconst (v := 1) hx hb dX8_costBy_47 (by decide) ?_
      refine lv_isub hx hb dX8_costBy_48 ?_
      refine lv_topi (fun y_20 ey_20 => ?_)
      obtain rfl : y_20 = 3 := ey_20.trans (by decide)
      refine lv_aload_n hx hb dX8_costBy_49 rfl (lv_at hl 2 rfl) ?_
      refine lv_iload_n hx hb dX8_costBy_50 rfl (lv_at hl 3 rfl) ?_
      refine lv_iload_n hx hb dX8_costBy_51 rfl (lv_at hl 5 rfl) ?_
      refine lv_iconst (v := 1) hx hb dX8_costBy_52 (by decide) ?_
      have kc1 : (1 : Int32).toInt = 1 := by decide
      refine zc_V (As := [.int p_, .int d, .int 1]) (rest := [.int 3, .ref m0, .int r_1, .int 0]) ⟨hx, hb, hml, hown, hts⟩ (c_F_M_deep l D cI cJ cZ cP cS po m0 mrf mki mpa mta mla msl mco mhe mso msi msh mce mca mwo mnu mte mwa mke mma mth mtr (npu) (nte) (nat_) (nde) (nto) (nse) (nhu) (nga) (nsd) (nfa) (nba) (npl) (nen) (nnu) (nwr) (nra) (nik) gki gpa (p_) (d) (1) hy0 hy1 hy2 hy3 hy4 hy5 hy6 hy7 hy8 hy9 hy10 hy11 hy12 hy13 hy14 hy15 hy16 hy17 (by omega) (by omega) hp_gki hp_gpa) (cwV 3 hts gX8_costBy_X8_deep rfl rfl rfl ⟨rfl, dh_X8_deep⟩ ⟨Nat.le_of_ble_eq_true rfl, Nat.le_of_ble_eq_true rfl⟩) hK hN hZ hP (hP.sub [0, 1, 2] rfl) (va_recv (q := (RX8, TX8, 38)) hK hP (ci := 8) (q0 := 0) rfl rfl) rfl hl.1 rfl (Nat.le_of_ble_eq_true rfl) dX8_costBy_53 ⟨Nat.le_of_ble_eq_true rfl, Nat.le_of_ble_eq_true rfl⟩ (fun r_21 hr_21 => ?_)
      obtain ⟨g_22, g_23, hsr_21_0⟩ := hr_21
      refine lv_iload hx hb dX8_costBy_56 (lv_at hl 6 rfl) ?_
      refine lv_aload_n hx hb dX8_costBy_58 rfl (lv_at hl 2 rfl) ?_
      refine va_get (D := D) (ci := 8) (v := .ref mta) (C := RX8) (T := TX8) (N := 38) hx hb hts hi_X8_costBy_8 hown hK hP 0 rfl rfl 13 (by decide) (hts (.fieldLink RX8 35 "TheLiningsInItModel" "takes" "[I") (List.mem_of_getElem? (i := 3) rfl)) (fun _ h9 => h9) rfl dX8_costBy_59 ?_
      refine lv_iload_n hx hb dX8_costBy_62 rfl (lv_at hl 3 rfl) ?_
      refine va_iald hx hb hK hP 3 0 rfl rfl (zf_in (by omega) (by omega)) dX8_costBy_63 ?_
      refine lv_topi (fun x_24 ex_24 => ?_)
      have bx_24 : 0 ≤ x_24.toInt ∧ x_24.toInt ≤ 60 := by rw [ex_24]; exact hp_gta _
      have htx_24 : x_24.toInt ≤ sec.toInt := by (rw [ex_24]; exact htl)
      refine lv_isub hx hb dX8_costBy_64 ?_
      refine lv_topi (fun x_25 ex_25 => ?_)
      have qx_25 : x_25.toInt = sec.toInt - x_24.toInt := by rw [ex_25]; exact zf_sub rfl rfl (by omega) (by omega)
      refine zc_V (As := [.int 3, .int r_21, .int x_25]) (rest := [.int r_1, .int 0]) ⟨hx, hb, hml, hown, hts⟩ (c_F_M_leastCost_3 l D cI cJ cZ cP cS po m0 mrf mki mpa mta mla msl mco mhe mso msi msh mce mca mwo mnu mte mwa mke mma mth mtr (npu) (nte) (nat_) (nde) (nto) (nse) (nhu) (nga) (nsd) (nfa) (nba) (npl) (nen) (nnu) (nwr) (nra) (nik) gki gpa gta gco (r_21) (x_25) hy0 hy1 hy2 hy3 hy4 hy5 hy6 hy7 hy8 hy9 hy10 hy11 hy12 hy13 (by omega) (by omega) (by omega) (by omega) hp_gki hp_gpa hp_gta hp_gco) (cwV 3 hts gX8_costBy_X8_leastCost rfl rfl rfl ⟨rfl, dh_X8_leastCost⟩ ⟨Nat.le_of_ble_eq_true rfl, Nat.le_of_ble_eq_true rfl⟩) hK hN hZ hP (hP.sub [0, 1, 2, 3, 4] rfl) (va_recv (q := (RX8, TX8, 38)) hK hP (ci := 8) (q0 := 0) rfl rfl) rfl hl.1 rfl (Nat.le_of_ble_eq_true rfl) dX8_costBy_65 ⟨Nat.le_of_ble_eq_true rfl, Nat.le_of_ble_eq_true rfl⟩ (fun r_26 hr_26 => ?_)
      obtain ⟨g_27, g_28, hsr_26_0⟩ := hr_26
      refine lv_imul hx hb dX8_costBy_68 ?_
      refine lv_topi (fun x_29 ex_29 => ?_)
      obtain ⟨mx_29, nx_29, ox_29⟩ := zf_mulc (a := r_1) (b := r_26) (x := r_1.toInt) (y := r_26.toInt) (P := 171072) rfl rfl ⟨by omega, by omega⟩ ⟨by omega, by omega⟩ (by decide)
      rw [← ex_29] at mx_29
      refine lv_iadd hx hb dX8_costBy_69 ?_
      refine lv_topi (fun x_30 ex_30 => ?_)
      have qx_30 : x_30.toInt = 0 + x_29.toInt := by rw [ex_30]; exact zf_add (by decide) rfl (by omega) (by omega)
      refine lv_istore (lv' := [(6, .int x_30), (5, .int r_1), (0, .ref m0), (1, .int p_), (2, .int 4), (3, .int d), (4, .int sec)]) hx hb dX8_costBy_70 hl (by decide) rfl (fun ls hl => ?_)
      refine lv_iload hx hb dX8_costBy_72 (lv_at hl 1 rfl) ?_
      refine lv_bipush (v := 12) hx hb dX8_costBy_74 (by decide) ?_
      refine lv_icmp_ge (tgt := 113) hx hb dX8_costBy_76 (by decide) (fun c_31 => ?_) (fun c_31 => ?_)
      · have fc_31 : 12 ≤ r_1.toInt := zf_le c_31 (by decide) rfl
        refine lv_iload hx hb dX8_costBy_113 (lv_at hl 0 rfl) ?_
        exact W.iret (v := x_30) hx hb hr (fun t ht hW => ⟨x_30, rfl, ⟨by omega, by omega, (show (x_30 : Int32).toInt = zLb (zLn gki gpa gta npu.toInt.toNat nhu.toInt (gco 0).toInt (gco 1).toInt (gco 2).toInt 3) (gco 0).toInt (zPw 4) (gki p_.toNatClampNeg).toInt (gpa p_.toNatClampNeg).toInt (gta p_.toNatClampNeg).toInt nhu.toInt d.toInt sec.toInt from by (have zw := hsr_1_0; have E1 : r_1.toInt * (zLn gki gpa gta npu.toInt.toNat nhu.toInt (gco 0).toInt (gco 1).toInt (gco 2).toInt 3) (zShl (gki p_.toNatClampNeg).toInt (gpa p_.toNatClampNeg).toInt d.toInt) (sec.toInt - (gta p_.toNatClampNeg).toInt) = x_29.toInt := (by rw [← hsr_21_0.1 (by decide), show sec.toInt - (gta p_.toNatClampNeg).toInt = (x_25 : Int32).toInt from by (have z : (gta p_.toNatClampNeg).toInt = x_24.toInt := (by rw [ex_24]); omega), ← hsr_26_0]; omega); have E2 : (12 - r_1.toInt) * (zLn gki gpa gta npu.toInt.toNat nhu.toInt (gco 0).toInt (gco 1).toInt (gco 2).toInt 3) (zDpr (gki p_.toNatClampNeg).toInt (gpa p_.toNatClampNeg).toInt nhu.toInt d.toInt) (sec.toInt - (gta p_.toNatClampNeg).toInt) = 0 := (by rw [show 12 - r_1.toInt = 0 from by omega, Int.zero_mul]); have nk : (gki p_.toNatClampNeg).toInt = x_4.toInt := (by rw [ex_4]); unfold zLb zBy1; rw [← zw, E1, E2, show zPw 4 = 20736 from by decide]; first | (rw [if_neg (by omega)]; omega) | (rw [if_pos (by omega)]; omega)))⟩, ht⟩) (fun q hq => by cases hq) dX8_costBy_115
      · have fc_31 : r_1.toInt < 12 := zf_nle c_31 (by decide) rfl
        refine lv_iload hx hb dX8_costBy_79 (lv_at hl 0 rfl) ?_
        refine lv_bipush (v := 12) hx hb dX8_costBy_81 (by decide) ?_
        refine lv_iload hx hb dX8_costBy_83 (lv_at hl 1 rfl) ?_
        refine lv_isub hx hb dX8_costBy_85 ?_
        refine lv_topi (fun x_32 ex_32 => ?_)
        have qx_32 : x_32.toInt = 12 - r_1.toInt := by rw [ex_32]; exact zf_sub (by decide) rfl (by omega) (by omega)
        refine lv_aload_n hx hb dX8_costBy_86 rfl (lv_at hl 2 rfl) ?_
        refine lv_iload_n hx hb dX8_costBy_87 rfl (lv_at hl 4 rfl) ?_
        refine lv_iconst (v := 1) hx hb dX8_costBy_88 (by decide) ?_
        refine lv_isub hx hb dX8_costBy_89 ?_
        refine lv_topi (fun y_33 ey_33 => ?_)
        obtain rfl : y_33 = 3 := ey_33.trans (by decide)
        refine lv_aload_n hx hb dX8_costBy_90 rfl (lv_at hl 2 rfl) ?_
        refine lv_iload_n hx hb dX8_costBy_91 rfl (lv_at hl 3 rfl) ?_
        refine lv_iload_n hx hb dX8_costBy_92 rfl (lv_at hl 5 rfl) ?_
        refine lv_iconst (v := 0) hx hb dX8_costBy_93 (by decide) ?_
        have kc0 : (0 : Int32).toInt = 0 := by decide
        refine zc_V (As := [.int p_, .int d, .int 0]) (rest := [.int 3, .ref m0, .int x_32, .int x_30]) ⟨hx, hb, hml, hown, hts⟩ (c_F_M_deep l D cI cJ cZ cP cS po m0 mrf mki mpa mta mla msl mco mhe mso msi msh mce mca mwo mnu mte mwa mke mma mth mtr (npu) (nte) (nat_) (nde) (nto) (nse) (nhu) (nga) (nsd) (nfa) (nba) (npl) (nen) (nnu) (nwr) (nra) (nik) gki gpa (p_) (d) (0) hy0 hy1 hy2 hy3 hy4 hy5 hy6 hy7 hy8 hy9 hy10 hy11 hy12 hy13 hy14 hy15 hy16 hy17 (by omega) (by omega) hp_gki hp_gpa) (cwV 3 hts gX8_costBy_X8_deep rfl rfl rfl ⟨rfl, dh_X8_deep⟩ ⟨Nat.le_of_ble_eq_true rfl, Nat.le_of_ble_eq_true rfl⟩) hK hN hZ hP (hP.sub [0, 1, 2] rfl) (va_recv (q := (RX8, TX8, 38)) hK hP (ci := 8) (q0 := 0) rfl rfl) rfl hl.1 rfl (Nat.le_of_ble_eq_true rfl) dX8_costBy_94 ⟨Nat.le_of_ble_eq_true rfl, Nat.le_of_ble_eq_true rfl⟩ (fun r_34 hr_34 => ?_)
        obtain ⟨g_35, g_36, hsr_34_0⟩ := hr_34
        refine lv_iload hx hb dX8_costBy_97 (lv_at hl 6 rfl) ?_
        refine lv_aload_n hx hb dX8_costBy_99 rfl (lv_at hl 2 rfl) ?_
        refine va_get (D := D) (ci := 8) (v := .ref mta) (C := RX8) (T := TX8) (N := 38) hx hb hts hi_X8_costBy_8 hown hK hP 0 rfl rfl 13 (by decide) (hts (.fieldLink RX8 35 "TheLiningsInItModel" "takes" "[I") (List.mem_of_getElem? (i := 3) rfl)) (fun _ h9 => h9) rfl dX8_costBy_100 ?_
        refine lv_iload_n hx hb dX8_costBy_103 rfl (lv_at hl 3 rfl) ?_
        refine va_iald hx hb hK hP 3 0 rfl rfl (zf_in (by omega) (by omega)) dX8_costBy_104 ?_
        refine lv_topi (fun y_37 ey_37 => ?_)
        obtain rfl : x_24 = y_37 := ex_24.trans ey_37.symm
        refine lv_isub hx hb dX8_costBy_105 ?_
        refine lv_topi (fun y_38 ey_38 => ?_)
        obtain rfl : x_25 = y_38 := ex_25.trans ey_38.symm
        refine zc_V (As := [.int 3, .int r_34, .int x_25]) (rest := [.int x_32, .int x_30]) ⟨hx, hb, hml, hown, hts⟩ (c_F_M_leastCost_3 l D cI cJ cZ cP cS po m0 mrf mki mpa mta mla msl mco mhe mso msi msh mce mca mwo mnu mte mwa mke mma mth mtr (npu) (nte) (nat_) (nde) (nto) (nse) (nhu) (nga) (nsd) (nfa) (nba) (npl) (nen) (nnu) (nwr) (nra) (nik) gki gpa gta gco (r_34) (x_25) hy0 hy1 hy2 hy3 hy4 hy5 hy6 hy7 hy8 hy9 hy10 hy11 hy12 hy13 (by omega) (by omega) (by omega) (by omega) hp_gki hp_gpa hp_gta hp_gco) (cwV 3 hts gX8_costBy_X8_leastCost rfl rfl rfl ⟨rfl, dh_X8_leastCost⟩ ⟨Nat.le_of_ble_eq_true rfl, Nat.le_of_ble_eq_true rfl⟩) hK hN hZ hP (hP.sub [0, 1, 2, 3, 4] rfl) (va_recv (q := (RX8, TX8, 38)) hK hP (ci := 8) (q0 := 0) rfl rfl) rfl hl.1 rfl (Nat.le_of_ble_eq_true rfl) dX8_costBy_106 ⟨Nat.le_of_ble_eq_true rfl, Nat.le_of_ble_eq_true rfl⟩ (fun r_39 hr_39 => ?_)
        obtain ⟨g_40, g_41, hsr_39_0⟩ := hr_39
        refine lv_imul hx hb dX8_costBy_109 ?_
        refine lv_topi (fun x_42 ex_42 => ?_)
        obtain ⟨mx_42, nx_42, ox_42⟩ := zf_mulc (a := x_32) (b := r_39) (x := x_32.toInt) (y := r_39.toInt) (P := 171072) rfl rfl ⟨by omega, by omega⟩ ⟨by omega, by omega⟩ (by decide)
        rw [← ex_42] at mx_42
        refine lv_iadd hx hb dX8_costBy_110 ?_
        refine lv_topi (fun x_43 ex_43 => ?_)
        have qx_43 : x_43.toInt = x_30.toInt + x_42.toInt := by rw [ex_43]; exact zf_add rfl rfl (by omega) (by omega)
        refine lv_istore (lv' := [(6, .int x_43), (5, .int r_1), (0, .ref m0), (1, .int p_), (2, .int 4), (3, .int d), (4, .int sec)]) hx hb dX8_costBy_111 hl (by decide) rfl (fun ls hl => ?_)
        refine lv_iload hx hb dX8_costBy_113 (lv_at hl 0 rfl) ?_
        have hmx9 := zMix (w := r_1.toInt) (x := r_26.toInt) (y := r_39.toInt) (P := 171072) ⟨by omega, by omega⟩ ⟨by omega, by omega⟩ ⟨by omega, by omega⟩
        rw [show 12 - r_1.toInt = x_32.toInt from by omega] at hmx9
        exact W.iret (v := x_43) hx hb hr (fun t ht hW => ⟨x_43, rfl, ⟨by omega, by omega, (show (x_43 : Int32).toInt = zLb (zLn gki gpa gta npu.toInt.toNat nhu.toInt (gco 0).toInt (gco 1).toInt (gco 2).toInt 3) (gco 0).toInt (zPw 4) (gki p_.toNatClampNeg).toInt (gpa p_.toNatClampNeg).toInt (gta p_.toNatClampNeg).toInt nhu.toInt d.toInt sec.toInt from by (have zw := hsr_1_0; have E1 : r_1.toInt * (zLn gki gpa gta npu.toInt.toNat nhu.toInt (gco 0).toInt (gco 1).toInt (gco 2).toInt 3) (zShl (gki p_.toNatClampNeg).toInt (gpa p_.toNatClampNeg).toInt d.toInt) (sec.toInt - (gta p_.toNatClampNeg).toInt) = x_29.toInt := (by rw [← hsr_21_0.1 (by decide), show sec.toInt - (gta p_.toNatClampNeg).toInt = (x_25 : Int32).toInt from by (have z : (gta p_.toNatClampNeg).toInt = x_24.toInt := (by rw [ex_24]); omega), ← hsr_26_0]; omega); have E2 : (12 - r_1.toInt) * (zLn gki gpa gta npu.toInt.toNat nhu.toInt (gco 0).toInt (gco 1).toInt (gco 2).toInt 3) (zDpr (gki p_.toNatClampNeg).toInt (gpa p_.toNatClampNeg).toInt nhu.toInt d.toInt) (sec.toInt - (gta p_.toNatClampNeg).toInt) = x_42.toInt := (by rw [← hsr_34_0.2 (by decide), show sec.toInt - (gta p_.toNatClampNeg).toInt = (x_25 : Int32).toInt from by (have z : (gta p_.toNatClampNeg).toInt = x_24.toInt := (by rw [ex_24]); omega), ← hsr_39_0, show 12 - r_1.toInt = x_32.toInt from by omega]; omega); have nk : (gki p_.toNatClampNeg).toInt = x_4.toInt := (by rw [ex_4]); unfold zLb zBy1; rw [← zw, E1, E2, show zPw 4 = 20736 from by decide]; first | (rw [if_neg (by omega)]; omega) | (rw [if_pos (by omega)]; omega)))⟩, ht⟩) (fun q hq => by cases hq) dX8_costBy_115
  · have fc_5 : x_4.toInt = 5 := zf_eq c_5 rfl (by decide)
    refine lv_aload_n hx hb dX8_costBy_18 rfl (lv_at hl 1 rfl) ?_
    refine va_get (D := D) (ci := 8) (v := .ref mco) (C := RX8) (T := TX8) (N := 38) hx hb hts hi_X8_costBy_8 hown hK hP 0 rfl rfl 16 (by decide) (hts (.fieldLink RX8 44 "TheLiningsInItModel" "cost" "[I") (List.mem_of_getElem? (i := 2) rfl)) (fun _ h9 => h9) rfl dX8_costBy_19 ?_
    refine lv_iconst (v := 0) hx hb dX8_costBy_22 (by decide) ?_
    refine va_iald hx hb hK hP 4 0 rfl rfl (zf_in (by decide) (by decide)) dX8_costBy_23 ?_
    refine lv_topi (fun x_44 ex_44 => ?_)
    have bx_44 : 0 ≤ x_44.toInt ∧ x_44.toInt ≤ 99 := by rw [ex_44]; exact hp_gco _
    refine lv_aload_n hx hb dX8_costBy_24 rfl (lv_at hl 1 rfl) ?_
    refine lv_iload_n hx hb dX8_costBy_25 rfl (lv_at hl 3 rfl) ?_
    refine zc_V (As := [.int 4]) (rest := [.int x_44]) ⟨hx, hb, hml, hown, hts⟩ (c_M_power_4 l D cI cJ cZ cP cS po m0 mrf mki mpa mta mla msl mco mhe mso msi msh mce mca mwo mnu mte mwa mke mma mth mtr (npu) (nte) (nat_) (nde) (nto) (nse) (nhu) (nga) (nsd) (nfa) (nba) (npl) (nen) (nnu) (nwr) (nra) (nik) hy0 hy1 hy2 hy3 hy4 hy5 hy6 hy7 hy8 hy9 hy10 hy11 hy12 hy13) (cwV 1 hts gX8_costBy_X8_power rfl rfl rfl ⟨rfl, dh_X8_power⟩ ⟨Nat.le_of_ble_eq_true rfl, Nat.le_of_ble_eq_true rfl⟩) hK hN hZ hP (hP.sub [0] rfl) (va_recv (q := (RX8, TX8, 38)) hK hP (ci := 8) (q0 := 0) rfl rfl) rfl hl.1 rfl (Nat.le_of_ble_eq_true rfl) dX8_costBy_26 ⟨Nat.le_of_ble_eq_true rfl, Nat.le_of_ble_eq_true rfl⟩ (fun r_45 hr_45 => ?_)
    obtain rfl := hr_45
    refine lv_imul hx hb dX8_costBy_29 ?_
    refine lv_topi (fun x_46 ex_46 => ?_)
    have qx_46 : x_46.toInt = x_44.toInt * 20736 := by rw [ex_46]; exact zf_mul rfl (by decide) (by omega) (by omega)
    refine lv_goto (tgt := 34) hx hb dX8_costBy_30 (by decide) ?_
    refine lv_istore (lv' := [(6, .int x_46), (5, .int r_1), (0, .ref m0), (1, .int p_), (2, .int 4), (3, .int d), (4, .int sec)]) hx hb dX8_costBy_34 hl (by decide) rfl (fun ls hl => ?_)
    refine lv_iload hx hb dX8_costBy_36 (lv_at hl 1 rfl) ?_
    refine lv_if_le (tgt := 72) hx hb dX8_costBy_38 (by decide) (fun c_47 => ?_) (fun c_47 => ?_)
    · have fc_47 : r_1.toInt ≤ 0 := zf_le c_47 rfl (by decide)
      refine lv_iload hx hb dX8_costBy_72 (lv_at hl 1 rfl) ?_
      refine lv_bipush (v := 12) hx hb dX8_costBy_74 (by decide) ?_
      refine lv_icmp_ge (tgt := 113) hx hb dX8_costBy_76 (by decide) (fun c_48 => ?_) (fun c_48 => ?_)
      · exfalso; have fc_48 : 12 ≤ r_1.toInt := zf_le c_48 (by decide) rfl; omega
      · have fc_48 : r_1.toInt < 12 := zf_nle c_48 (by decide) rfl
        refine lv_iload hx hb dX8_costBy_79 (lv_at hl 0 rfl) ?_
        refine lv_bipush (v := 12) hx hb dX8_costBy_81 (by decide) ?_
        refine lv_iload hx hb dX8_costBy_83 (lv_at hl 1 rfl) ?_
        refine lv_isub hx hb dX8_costBy_85 ?_
        refine lv_topi (fun x_49 ex_49 => ?_)
        have qx_49 : x_49.toInt = 12 - r_1.toInt := by rw [ex_49]; exact zf_sub (by decide) rfl (by omega) (by omega)
        refine lv_aload_n hx hb dX8_costBy_86 rfl (lv_at hl 2 rfl) ?_
        refine lv_iload_n hx hb dX8_costBy_87 rfl (lv_at hl 4 rfl) ?_
        refine lv_iconst (v := 1) hx hb dX8_costBy_88 (by decide) ?_
        refine lv_isub hx hb dX8_costBy_89 ?_
        refine lv_topi (fun y_50 ey_50 => ?_)
        obtain rfl : y_50 = 3 := ey_50.trans (by decide)
        refine lv_aload_n hx hb dX8_costBy_90 rfl (lv_at hl 2 rfl) ?_
        refine lv_iload_n hx hb dX8_costBy_91 rfl (lv_at hl 3 rfl) ?_
        refine lv_iload_n hx hb dX8_costBy_92 rfl (lv_at hl 5 rfl) ?_
        refine lv_iconst (v := 0) hx hb dX8_costBy_93 (by decide) ?_
        have kc0 : (0 : Int32).toInt = 0 := by decide
        refine zc_V (As := [.int p_, .int d, .int 0]) (rest := [.int 3, .ref m0, .int x_49, .int x_46]) ⟨hx, hb, hml, hown, hts⟩ (c_F_M_deep l D cI cJ cZ cP cS po m0 mrf mki mpa mta mla msl mco mhe mso msi msh mce mca mwo mnu mte mwa mke mma mth mtr (npu) (nte) (nat_) (nde) (nto) (nse) (nhu) (nga) (nsd) (nfa) (nba) (npl) (nen) (nnu) (nwr) (nra) (nik) gki gpa (p_) (d) (0) hy0 hy1 hy2 hy3 hy4 hy5 hy6 hy7 hy8 hy9 hy10 hy11 hy12 hy13 hy14 hy15 hy16 hy17 (by omega) (by omega) hp_gki hp_gpa) (cwV 3 hts gX8_costBy_X8_deep rfl rfl rfl ⟨rfl, dh_X8_deep⟩ ⟨Nat.le_of_ble_eq_true rfl, Nat.le_of_ble_eq_true rfl⟩) hK hN hZ hP (hP.sub [0, 1, 2] rfl) (va_recv (q := (RX8, TX8, 38)) hK hP (ci := 8) (q0 := 0) rfl rfl) rfl hl.1 rfl (Nat.le_of_ble_eq_true rfl) dX8_costBy_94 ⟨Nat.le_of_ble_eq_true rfl, Nat.le_of_ble_eq_true rfl⟩ (fun r_51 hr_51 => ?_)
        obtain ⟨g_52, g_53, hsr_51_0⟩ := hr_51
        refine lv_iload hx hb dX8_costBy_97 (lv_at hl 6 rfl) ?_
        refine lv_aload_n hx hb dX8_costBy_99 rfl (lv_at hl 2 rfl) ?_
        refine va_get (D := D) (ci := 8) (v := .ref mta) (C := RX8) (T := TX8) (N := 38) hx hb hts hi_X8_costBy_8 hown hK hP 0 rfl rfl 13 (by decide) (hts (.fieldLink RX8 35 "TheLiningsInItModel" "takes" "[I") (List.mem_of_getElem? (i := 3) rfl)) (fun _ h9 => h9) rfl dX8_costBy_100 ?_
        refine lv_iload_n hx hb dX8_costBy_103 rfl (lv_at hl 3 rfl) ?_
        refine va_iald hx hb hK hP 3 0 rfl rfl (zf_in (by omega) (by omega)) dX8_costBy_104 ?_
        refine lv_topi (fun x_54 ex_54 => ?_)
        have bx_54 : 0 ≤ x_54.toInt ∧ x_54.toInt ≤ 60 := by rw [ex_54]; exact hp_gta _
        have htx_54 : x_54.toInt ≤ sec.toInt := by (rw [ex_54]; exact htl)
        refine lv_isub hx hb dX8_costBy_105 ?_
        refine lv_topi (fun x_55 ex_55 => ?_)
        have qx_55 : x_55.toInt = sec.toInt - x_54.toInt := by rw [ex_55]; exact zf_sub rfl rfl (by omega) (by omega)
        refine zc_V (As := [.int 3, .int r_51, .int x_55]) (rest := [.int x_49, .int x_46]) ⟨hx, hb, hml, hown, hts⟩ (c_F_M_leastCost_3 l D cI cJ cZ cP cS po m0 mrf mki mpa mta mla msl mco mhe mso msi msh mce mca mwo mnu mte mwa mke mma mth mtr (npu) (nte) (nat_) (nde) (nto) (nse) (nhu) (nga) (nsd) (nfa) (nba) (npl) (nen) (nnu) (nwr) (nra) (nik) gki gpa gta gco (r_51) (x_55) hy0 hy1 hy2 hy3 hy4 hy5 hy6 hy7 hy8 hy9 hy10 hy11 hy12 hy13 (by omega) (by omega) (by omega) (by omega) hp_gki hp_gpa hp_gta hp_gco) (cwV 3 hts gX8_costBy_X8_leastCost rfl rfl rfl ⟨rfl, dh_X8_leastCost⟩ ⟨Nat.le_of_ble_eq_true rfl, Nat.le_of_ble_eq_true rfl⟩) hK hN hZ hP (hP.sub [0, 1, 2, 3, 4] rfl) (va_recv (q := (RX8, TX8, 38)) hK hP (ci := 8) (q0 := 0) rfl rfl) rfl hl.1 rfl (Nat.le_of_ble_eq_true rfl) dX8_costBy_106 ⟨Nat.le_of_ble_eq_true rfl, Nat.le_of_ble_eq_true rfl⟩ (fun r_56 hr_56 => ?_)
        obtain ⟨g_57, g_58, hsr_56_0⟩ := hr_56
        refine lv_imul hx hb dX8_costBy_109 ?_
        refine lv_topi (fun x_59 ex_59 => ?_)
        obtain ⟨mx_59, nx_59, ox_59⟩ := zf_mulc (a := x_49) (b := r_56) (x := x_49.toInt) (y := r_56.toInt) (P := 171072) rfl rfl ⟨by omega, by omega⟩ ⟨by omega, by omega⟩ (by decide)
        rw [← ex_59] at mx_59
        refine lv_iadd hx hb dX8_costBy_110 ?_
        refine lv_topi (fun x_60 ex_60 => ?_)
        have qx_60 : x_60.toInt = x_46.toInt + x_59.toInt := by rw [ex_60]; exact zf_add rfl rfl (by omega) (by omega)
        refine lv_istore (lv' := [(6, .int x_60), (5, .int r_1), (0, .ref m0), (1, .int p_), (2, .int 4), (3, .int d), (4, .int sec)]) hx hb dX8_costBy_111 hl (by decide) rfl (fun ls hl => ?_)
        refine lv_iload hx hb dX8_costBy_113 (lv_at hl 0 rfl) ?_
        exact W.iret (v := x_60) hx hb hr (fun t ht hW => ⟨x_60, rfl, ⟨by omega, by omega, (show (x_60 : Int32).toInt = zLb (zLn gki gpa gta npu.toInt.toNat nhu.toInt (gco 0).toInt (gco 1).toInt (gco 2).toInt 3) (gco 0).toInt (zPw 4) (gki p_.toNatClampNeg).toInt (gpa p_.toNatClampNeg).toInt (gta p_.toNatClampNeg).toInt nhu.toInt d.toInt sec.toInt from by (have nx_44 : (gco 0).toInt = x_44.toInt := (by rw [ex_44, show (0 : Int32).toNatClampNeg = 0 from by decide]); have zw := hsr_1_0; have E1 : r_1.toInt * (zLn gki gpa gta npu.toInt.toNat nhu.toInt (gco 0).toInt (gco 1).toInt (gco 2).toInt 3) (zShl (gki p_.toNatClampNeg).toInt (gpa p_.toNatClampNeg).toInt d.toInt) (sec.toInt - (gta p_.toNatClampNeg).toInt) = 0 := (by rw [show r_1.toInt = 0 from by omega, Int.zero_mul]); have E2 : (12 - r_1.toInt) * (zLn gki gpa gta npu.toInt.toNat nhu.toInt (gco 0).toInt (gco 1).toInt (gco 2).toInt 3) (zDpr (gki p_.toNatClampNeg).toInt (gpa p_.toNatClampNeg).toInt nhu.toInt d.toInt) (sec.toInt - (gta p_.toNatClampNeg).toInt) = x_59.toInt := (by rw [← hsr_51_0.2 (by decide), show sec.toInt - (gta p_.toNatClampNeg).toInt = (x_55 : Int32).toInt from by (have z : (gta p_.toNatClampNeg).toInt = x_54.toInt := (by rw [ex_54]); omega), ← hsr_56_0, show 12 - r_1.toInt = x_49.toInt from by omega]; omega); have nk : (gki p_.toNatClampNeg).toInt = x_4.toInt := (by rw [ex_4]); unfold zLb zBy1; rw [← zw, E1, E2, show zPw 4 = 20736 from by decide]; first | (rw [if_pos (by omega)]; omega) | (rw [if_neg (by omega)]; omega)))⟩, ht⟩) (fun q hq => by cases hq) dX8_costBy_115
    · have fc_47 : 0 < r_1.toInt := zf_nle c_47 rfl (by decide)
      refine lv_iload hx hb dX8_costBy_41 (lv_at hl 0 rfl) ?_
      refine lv_iload hx hb dX8_costBy_43 (lv_at hl 1 rfl) ?_
      refine lv_aload_n hx hb dX8_costBy_45 rfl (lv_at hl 2 rfl) ?_
      refine lv_iload_n hx hb dX8_costBy_46 rfl (lv_at hl 4 rfl) ?_
      refine lv_iconst (v := 1) hx hb dX8_costBy_47 (by decide) ?_
      refine lv_isub hx hb dX8_costBy_48 ?_
      refine lv_topi (fun y_61 ey_61 => ?_)
      obtain rfl : y_61 = 3 := ey_61.trans (by decide)
      refine lv_aload_n hx hb dX8_costBy_49 rfl (lv_at hl 2 rfl) ?_
      refine lv_iload_n hx hb dX8_costBy_50 rfl (lv_at hl 3 rfl) ?_
      refine lv_iload_n hx hb dX8_costBy_51 rfl (lv_at hl 5 rfl) ?_
      refine lv_iconst (v := 1) hx hb dX8_costBy_52 (by decide) ?_
      have kc1 : (1 : Int32).toInt = 1 := by decide
      refine zc_V (As := [.int p_, .int d, .int 1]) (rest := [.int 3, .ref m0, .int r_1, .int x_46]) ⟨hx, hb, hml, hown, hts⟩ (c_F_M_deep l D cI cJ cZ cP cS po m0 mrf mki mpa mta mla msl mco mhe mso msi msh mce mca mwo mnu mte mwa mke mma mth mtr (npu) (nte) (nat_) (nde) (nto) (nse) (nhu) (nga) (nsd) (nfa) (nba) (npl) (nen) (nnu) (nwr) (nra) (nik) gki gpa (p_) (d) (1) hy0 hy1 hy2 hy3 hy4 hy5 hy6 hy7 hy8 hy9 hy10 hy11 hy12 hy13 hy14 hy15 hy16 hy17 (by omega) (by omega) hp_gki hp_gpa) (cwV 3 hts gX8_costBy_X8_deep rfl rfl rfl ⟨rfl, dh_X8_deep⟩ ⟨Nat.le_of_ble_eq_true rfl, Nat.le_of_ble_eq_true rfl⟩) hK hN hZ hP (hP.sub [0, 1, 2] rfl) (va_recv (q := (RX8, TX8, 38)) hK hP (ci := 8) (q0 := 0) rfl rfl) rfl hl.1 rfl (Nat.le_of_ble_eq_true rfl) dX8_costBy_53 ⟨Nat.le_of_ble_eq_true rfl, Nat.le_of_ble_eq_true rfl⟩ (fun r_62 hr_62 => ?_)
      obtain ⟨g_63, g_64, hsr_62_0⟩ := hr_62
      refine lv_iload hx hb dX8_costBy_56 (lv_at hl 6 rfl) ?_
      refine lv_aload_n hx hb dX8_costBy_58 rfl (lv_at hl 2 rfl) ?_
      refine va_get (D := D) (ci := 8) (v := .ref mta) (C := RX8) (T := TX8) (N := 38) hx hb hts hi_X8_costBy_8 hown hK hP 0 rfl rfl 13 (by decide) (hts (.fieldLink RX8 35 "TheLiningsInItModel" "takes" "[I") (List.mem_of_getElem? (i := 3) rfl)) (fun _ h9 => h9) rfl dX8_costBy_59 ?_
      refine lv_iload_n hx hb dX8_costBy_62 rfl (lv_at hl 3 rfl) ?_
      refine va_iald hx hb hK hP 3 0 rfl rfl (zf_in (by omega) (by omega)) dX8_costBy_63 ?_
      refine lv_topi (fun x_65 ex_65 => ?_)
      have bx_65 : 0 ≤ x_65.toInt ∧ x_65.toInt ≤ 60 := by rw [ex_65]; exact hp_gta _
      have htx_65 : x_65.toInt ≤ sec.toInt := by (rw [ex_65]; exact htl)
      refine lv_isub hx hb dX8_costBy_64 ?_
      refine lv_topi (fun x_66 ex_66 => ?_)
      have qx_66 : x_66.toInt = sec.toInt - x_65.toInt := by rw [ex_66]; exact zf_sub rfl rfl (by omega) (by omega)
      refine zc_V (As := [.int 3, .int r_62, .int x_66]) (rest := [.int r_1, .int x_46]) ⟨hx, hb, hml, hown, hts⟩ (c_F_M_leastCost_3 l D cI cJ cZ cP cS po m0 mrf mki mpa mta mla msl mco mhe mso msi msh mce mca mwo mnu mte mwa mke mma mth mtr (npu) (nte) (nat_) (nde) (nto) (nse) (nhu) (nga) (nsd) (nfa) (nba) (npl) (nen) (nnu) (nwr) (nra) (nik) gki gpa gta gco (r_62) (x_66) hy0 hy1 hy2 hy3 hy4 hy5 hy6 hy7 hy8 hy9 hy10 hy11 hy12 hy13 (by omega) (by omega) (by omega) (by omega) hp_gki hp_gpa hp_gta hp_gco) (cwV 3 hts gX8_costBy_X8_leastCost rfl rfl rfl ⟨rfl, dh_X8_leastCost⟩ ⟨Nat.le_of_ble_eq_true rfl, Nat.le_of_ble_eq_true rfl⟩) hK hN hZ hP (hP.sub [0, 1, 2, 3, 4] rfl) (va_recv (q := (RX8, TX8, 38)) hK hP (ci := 8) (q0 := 0) rfl rfl) rfl hl.1 rfl (Nat.le_of_ble_eq_true rfl) dX8_costBy_65 ⟨Nat.le_of_ble_eq_true rfl, Nat.le_of_ble_eq_true rfl⟩ (fun r_67 hr_67 => ?_)
      obtain ⟨g_68, g_69, hsr_67_0⟩ := hr_67
      refine lv_imul hx hb dX8_costBy_68 ?_
      refine lv_topi (fun x_70 ex_70 => ?_)
      obtain ⟨mx_70, nx_70, ox_70⟩ := zf_mulc (a := r_1) (b := r_67) (x := r_1.toInt) (y := r_67.toInt) (P := 171072) rfl rfl ⟨by omega, by omega⟩ ⟨by omega, by omega⟩ (by decide)
      rw [← ex_70] at mx_70
      refine lv_iadd hx hb dX8_costBy_69 ?_
      refine lv_topi (fun x_71 ex_71 => ?_)
      have qx_71 : x_71.toInt = x_46.toInt + x_70.toInt := by rw [ex_71]; exact zf_add rfl rfl (by omega) (by omega)
      refine lv_istore (lv' := [(6, .int x_71), (5, .int r_1), (0, .ref m0), (1, .int p_), (2, .int 4), (3, .int d), (4, .int sec)]) hx hb dX8_costBy_70 hl (by decide) rfl (fun ls hl => ?_)
      refine lv_iload hx hb dX8_costBy_72 (lv_at hl 1 rfl) ?_
      refine lv_bipush (v := 12) hx hb dX8_costBy_74 (by decide) ?_
      refine lv_icmp_ge (tgt := 113) hx hb dX8_costBy_76 (by decide) (fun c_72 => ?_) (fun c_72 => ?_)
      · have fc_72 : 12 ≤ r_1.toInt := zf_le c_72 (by decide) rfl
        refine lv_iload hx hb dX8_costBy_113 (lv_at hl 0 rfl) ?_
        exact W.iret (v := x_71) hx hb hr (fun t ht hW => ⟨x_71, rfl, ⟨by omega, by omega, (show (x_71 : Int32).toInt = zLb (zLn gki gpa gta npu.toInt.toNat nhu.toInt (gco 0).toInt (gco 1).toInt (gco 2).toInt 3) (gco 0).toInt (zPw 4) (gki p_.toNatClampNeg).toInt (gpa p_.toNatClampNeg).toInt (gta p_.toNatClampNeg).toInt nhu.toInt d.toInt sec.toInt from by (have nx_44 : (gco 0).toInt = x_44.toInt := (by rw [ex_44, show (0 : Int32).toNatClampNeg = 0 from by decide]); have zw := hsr_1_0; have E1 : r_1.toInt * (zLn gki gpa gta npu.toInt.toNat nhu.toInt (gco 0).toInt (gco 1).toInt (gco 2).toInt 3) (zShl (gki p_.toNatClampNeg).toInt (gpa p_.toNatClampNeg).toInt d.toInt) (sec.toInt - (gta p_.toNatClampNeg).toInt) = x_70.toInt := (by rw [← hsr_62_0.1 (by decide), show sec.toInt - (gta p_.toNatClampNeg).toInt = (x_66 : Int32).toInt from by (have z : (gta p_.toNatClampNeg).toInt = x_65.toInt := (by rw [ex_65]); omega), ← hsr_67_0]; omega); have E2 : (12 - r_1.toInt) * (zLn gki gpa gta npu.toInt.toNat nhu.toInt (gco 0).toInt (gco 1).toInt (gco 2).toInt 3) (zDpr (gki p_.toNatClampNeg).toInt (gpa p_.toNatClampNeg).toInt nhu.toInt d.toInt) (sec.toInt - (gta p_.toNatClampNeg).toInt) = 0 := (by rw [show 12 - r_1.toInt = 0 from by omega, Int.zero_mul]); have nk : (gki p_.toNatClampNeg).toInt = x_4.toInt := (by rw [ex_4]); unfold zLb zBy1; rw [← zw, E1, E2, show zPw 4 = 20736 from by decide]; first | (rw [if_pos (by omega)]; omega) | (rw [if_neg (by omega)]; omega)))⟩, ht⟩) (fun q hq => by cases hq) dX8_costBy_115
      · have fc_72 : r_1.toInt < 12 := zf_nle c_72 (by decide) rfl
        refine lv_iload hx hb dX8_costBy_79 (lv_at hl 0 rfl) ?_
        refine lv_bipush (v := 12) hx hb dX8_costBy_81 (by decide) ?_
        refine lv_iload hx hb dX8_costBy_83 (lv_at hl 1 rfl) ?_
        refine lv_isub hx hb dX8_costBy_85 ?_
        refine lv_topi (fun x_73 ex_73 => ?_)
        have qx_73 : x_73.toInt = 12 - r_1.toInt := by rw [ex_73]; exact zf_sub (by decide) rfl (by omega) (by omega)
        refine lv_aload_n hx hb dX8_costBy_86 rfl (lv_at hl 2 rfl) ?_
        refine lv_iload_n hx hb dX8_costBy_87 rfl (lv_at hl 4 rfl) ?_
        refine lv_iconst (v := 1) hx hb dX8_costBy_88 (by decide) ?_
        refine lv_isub hx hb dX8_costBy_89 ?_
        refine lv_topi (fun y_74 ey_74 => ?_)
        obtain rfl : y_74 = 3 := ey_74.trans (by decide)
        refine lv_aload_n hx hb dX8_costBy_90 rfl (lv_at hl 2 rfl) ?_
        refine lv_iload_n hx hb dX8_costBy_91 rfl (lv_at hl 3 rfl) ?_
        refine lv_iload_n hx hb dX8_costBy_92 rfl (lv_at hl 5 rfl) ?_
        refine lv_iconst (v := 0) hx hb dX8_costBy_93 (by decide) ?_
        have kc0 : (0 : Int32).toInt = 0 := by decide
        refine zc_V (As := [.int p_, .int d, .int 0]) (rest := [.int 3, .ref m0, .int x_73, .int x_71]) ⟨hx, hb, hml, hown, hts⟩ (c_F_M_deep l D cI cJ cZ cP cS po m0 mrf mki mpa mta mla msl mco mhe mso msi msh mce mca mwo mnu mte mwa mke mma mth mtr (npu) (nte) (nat_) (nde) (nto) (nse) (nhu) (nga) (nsd) (nfa) (nba) (npl) (nen) (nnu) (nwr) (nra) (nik) gki gpa (p_) (d) (0) hy0 hy1 hy2 hy3 hy4 hy5 hy6 hy7 hy8 hy9 hy10 hy11 hy12 hy13 hy14 hy15 hy16 hy17 (by omega) (by omega) hp_gki hp_gpa) (cwV 3 hts gX8_costBy_X8_deep rfl rfl rfl ⟨rfl, dh_X8_deep⟩ ⟨Nat.le_of_ble_eq_true rfl, Nat.le_of_ble_eq_true rfl⟩) hK hN hZ hP (hP.sub [0, 1, 2] rfl) (va_recv (q := (RX8, TX8, 38)) hK hP (ci := 8) (q0 := 0) rfl rfl) rfl hl.1 rfl (Nat.le_of_ble_eq_true rfl) dX8_costBy_94 ⟨Nat.le_of_ble_eq_true rfl, Nat.le_of_ble_eq_true rfl⟩ (fun r_75 hr_75 => ?_)
        obtain ⟨g_76, g_77, hsr_75_0⟩ := hr_75
        refine lv_iload hx hb dX8_costBy_97 (lv_at hl 6 rfl) ?_
        refine lv_aload_n hx hb dX8_costBy_99 rfl (lv_at hl 2 rfl) ?_
        refine va_get (D := D) (ci := 8) (v := .ref mta) (C := RX8) (T := TX8) (N := 38) hx hb hts hi_X8_costBy_8 hown hK hP 0 rfl rfl 13 (by decide) (hts (.fieldLink RX8 35 "TheLiningsInItModel" "takes" "[I") (List.mem_of_getElem? (i := 3) rfl)) (fun _ h9 => h9) rfl dX8_costBy_100 ?_
        refine lv_iload_n hx hb dX8_costBy_103 rfl (lv_at hl 3 rfl) ?_
        refine va_iald hx hb hK hP 3 0 rfl rfl (zf_in (by omega) (by omega)) dX8_costBy_104 ?_
        refine lv_topi (fun y_78 ey_78 => ?_)
        obtain rfl : x_65 = y_78 := ex_65.trans ey_78.symm
        refine lv_isub hx hb dX8_costBy_105 ?_
        refine lv_topi (fun y_79 ey_79 => ?_)
        obtain rfl : x_66 = y_79 := ex_66.trans ey_79.symm
        refine zc_V (As := [.int 3, .int r_75, .int x_66]) (rest := [.int x_73, .int x_71]) ⟨hx, hb, hml, hown, hts⟩ (c_F_M_leastCost_3 l D cI cJ cZ cP cS po m0 mrf mki mpa mta mla msl mco mhe mso msi msh mce mca mwo mnu mte mwa mke mma mth mtr (npu) (nte) (nat_) (nde) (nto) (nse) (nhu) (nga) (nsd) (nfa) (nba) (npl) (nen) (nnu) (nwr) (nra) (nik) gki gpa gta gco (r_75) (x_66) hy0 hy1 hy2 hy3 hy4 hy5 hy6 hy7 hy8 hy9 hy10 hy11 hy12 hy13 (by omega) (by omega) (by omega) (by omega) hp_gki hp_gpa hp_gta hp_gco) (cwV 3 hts gX8_costBy_X8_leastCost rfl rfl rfl ⟨rfl, dh_X8_leastCost⟩ ⟨Nat.le_of_ble_eq_true rfl, Nat.le_of_ble_eq_true rfl⟩) hK hN hZ hP (hP.sub [0, 1, 2, 3, 4] rfl) (va_recv (q := (RX8, TX8, 38)) hK hP (ci := 8) (q0 := 0) rfl rfl) rfl hl.1 rfl (Nat.le_of_ble_eq_true rfl) dX8_costBy_106 ⟨Nat.le_of_ble_eq_true rfl, Nat.le_of_ble_eq_true rfl⟩ (fun r_80 hr_80 => ?_)
        obtain ⟨g_81, g_82, hsr_80_0⟩ := hr_80
        refine lv_imul hx hb dX8_costBy_109 ?_
        refine lv_topi (fun x_83 ex_83 => ?_)
        obtain ⟨mx_83, nx_83, ox_83⟩ := zf_mulc (a := x_73) (b := r_80) (x := x_73.toInt) (y := r_80.toInt) (P := 171072) rfl rfl ⟨by omega, by omega⟩ ⟨by omega, by omega⟩ (by decide)
        rw [← ex_83] at mx_83
        refine lv_iadd hx hb dX8_costBy_110 ?_
        refine lv_topi (fun x_84 ex_84 => ?_)
        have qx_84 : x_84.toInt = x_71.toInt + x_83.toInt := by rw [ex_84]; exact zf_add rfl rfl (by omega) (by omega)
        refine lv_istore (lv' := [(6, .int x_84), (5, .int r_1), (0, .ref m0), (1, .int p_), (2, .int 4), (3, .int d), (4, .int sec)]) hx hb dX8_costBy_111 hl (by decide) rfl (fun ls hl => ?_)
        refine lv_iload hx hb dX8_costBy_113 (lv_at hl 0 rfl) ?_
        have hmx9 := zMix (w := r_1.toInt) (x := r_67.toInt) (y := r_80.toInt) (P := 171072) ⟨by omega, by omega⟩ ⟨by omega, by omega⟩ ⟨by omega, by omega⟩
        rw [show 12 - r_1.toInt = x_73.toInt from by omega] at hmx9
        exact W.iret (v := x_84) hx hb hr (fun t ht hW => ⟨x_84, rfl, ⟨by omega, by omega, (show (x_84 : Int32).toInt = zLb (zLn gki gpa gta npu.toInt.toNat nhu.toInt (gco 0).toInt (gco 1).toInt (gco 2).toInt 3) (gco 0).toInt (zPw 4) (gki p_.toNatClampNeg).toInt (gpa p_.toNatClampNeg).toInt (gta p_.toNatClampNeg).toInt nhu.toInt d.toInt sec.toInt from by (have nx_44 : (gco 0).toInt = x_44.toInt := (by rw [ex_44, show (0 : Int32).toNatClampNeg = 0 from by decide]); have zw := hsr_1_0; have E1 : r_1.toInt * (zLn gki gpa gta npu.toInt.toNat nhu.toInt (gco 0).toInt (gco 1).toInt (gco 2).toInt 3) (zShl (gki p_.toNatClampNeg).toInt (gpa p_.toNatClampNeg).toInt d.toInt) (sec.toInt - (gta p_.toNatClampNeg).toInt) = x_70.toInt := (by rw [← hsr_62_0.1 (by decide), show sec.toInt - (gta p_.toNatClampNeg).toInt = (x_66 : Int32).toInt from by (have z : (gta p_.toNatClampNeg).toInt = x_65.toInt := (by rw [ex_65]); omega), ← hsr_67_0]; omega); have E2 : (12 - r_1.toInt) * (zLn gki gpa gta npu.toInt.toNat nhu.toInt (gco 0).toInt (gco 1).toInt (gco 2).toInt 3) (zDpr (gki p_.toNatClampNeg).toInt (gpa p_.toNatClampNeg).toInt nhu.toInt d.toInt) (sec.toInt - (gta p_.toNatClampNeg).toInt) = x_83.toInt := (by rw [← hsr_75_0.2 (by decide), show sec.toInt - (gta p_.toNatClampNeg).toInt = (x_66 : Int32).toInt from by (have z : (gta p_.toNatClampNeg).toInt = x_65.toInt := (by rw [ex_65]); omega), ← hsr_80_0, show 12 - r_1.toInt = x_73.toInt from by omega]; omega); have nk : (gki p_.toNatClampNeg).toInt = x_4.toInt := (by rw [ex_4]); unfold zLb zBy1; rw [← zw, E1, E2, show zPw 4 = 20736 from by decide]; first | (rw [if_pos (by omega)]; omega) | (rw [if_neg (by omega)]; omega)))⟩, ht⟩) (fun q hq => by cases hq) dX8_costBy_115
set_option maxHeartbeats 4000000 in
set_option maxRecDepth 100000 in
theorem c_F_M_leastCost_4 (l : Launch) (D : va_G) (cI cJ cZ cP cS : ClassId) (po : zPool) (m0 mrf mki mpa mta mla msl mco mhe mso msi msh mce mca mwo mnu mte mwa mke mma mth mtr : Nat) (npu nte nat_ nde nto nse nhu nga nsd nfa nba npl nen nnu nwr nra nik : Int32) (gki gpa gta gco : Nat → Int32) (d sec : Int32) (hy0 : 0 ≤ npu.toInt) (hy1 : npu.toInt ≤ 8) (hy2 : 4 ≤ nte.toInt) (hy3 : nte.toInt ≤ 40) (hy4 : 0 ≤ nat_.toInt) (hy5 : nat_.toInt ≤ 40) (hy6 : 0 ≤ nde.toInt) (hy7 : nde.toInt ≤ 24) (hy8 : 0 ≤ nhu.toInt) (hy9 : nhu.toInt ≤ 9) (hy10 : 0 ≤ nra.toInt) (hy11 : nra.toInt ≤ 2000) (hy12 : 0 ≤ nik.toInt) (hy13 : nik.toInt ≤ 1) (hy14 : 0 ≤ d.toInt) (hy15 : d.toInt ≤ 24) (hy16 : 0 ≤ sec.toInt) (hy17 : sec.toInt ≤ 300) (hp_gki : zRg gki (0) 6) (hp_gpa : zRg gpa (0) 9) (hp_gta : zRg gta (0) 60) (hp_gco : zRg gco (0) 99) : Met l yX8_leastCost wsX8_leastCost ({ frames := 9, cells := 0, slots := 0, locals := 229 }) (va_Pc [.ref m0, .int 4, .int d, .int sec] (zR D (zKT cI cJ cZ cP cS) po [(zMO m0 npu nte nat_ nde nto nse nhu nga nsd nfa mrf mki mpa mta mla msl mco mhe mso msi msh mce mca mwo mnu mte nba npl nen nnu nwr mwa mke mma mth mtr nra nik), (mki, .inl (cI, 8, .inl gki)), (mpa, .inl (cI, 8, .inl gpa)), (mta, .inl (cI, 8, .inl gta)), (mco, .inl (cI, 3, .inl gco))])) (vp_Si (fun r => 0 ≤ r.toInt ∧ r.toInt ≤ 2052864 ∧ (r.toInt = (zLn gki gpa gta npu.toInt.toNat nhu.toInt (gco 0).toInt (gco 1).toInt (gco 2).toInt 4) d.toInt sec.toInt))) 0 0 (fun _ => False) := by
  refine Met.ofW (cc := cX8_leastCost) (maxL := 7) (ret := (some .int)) (by decide) rfl ?_
  intro p e s m args below meth c s₁ B hml hv
  obtain ⟨rfl, hP, hK, hN, hZ⟩ := hv
  have hx := B.exec
  have hb := B.bytes
  have hr := B.returns
  have hts := atoms_spec (ws := wsX8_leastCost) B.pre
  have hown : s.vm.findClass RX8 = some m.cls := findClass_of_methodNamed B.named
  have hlocks := B.notSynchronized
  have hl := lv_entry ([.ref m0, .int 4, .int d, .int sec]) (n := 7) (Nat.le_of_ble_eq_true rfl)
  rw [lg_entry_eq]
  generalize (lg_sl ([.ref m0, .int 4, .int d, .int sec]) ++ List.replicate (7 - (lg_sl ([.ref m0, .int 4, .int d, .int sec])).length) Slot.unset).toArray = ls at hl ⊢
  replace hl : lv_has ls 7 [(0, .ref m0), (1, .int 4), (2, .int d), (3, .int sec)] := hl
  refine lv_iload_n hx hb dX8_leastCost_0 rfl (lv_at hl 2 rfl) ?_
  refine lv_if_ne (tgt := 6) hx hb dX8_leastCost_1 (by decide) (fun c_1 => ?_) (fun c_1 => ?_)
  · have fc_1 : d.toInt ≠ 0 := zf_ne c_1 rfl (by decide)
    refine lv_aload_n hx hb dX8_leastCost_6 rfl (lv_at hl 0 rfl) ?_
    refine va_get (D := D) (ci := 8) (v := .ref mco) (C := RX8) (T := TX8) (N := 38) hx hb hts hi_X8_leastCost_8 hown hK hP 0 rfl rfl 16 (by decide) (hts (.fieldLink RX8 44 "TheLiningsInItModel" "cost" "[I") (List.mem_of_getElem? (i := 1) rfl)) (fun _ h9 => h9) rfl dX8_leastCost_7 ?_
    refine lv_iconst (v := 2) hx hb dX8_leastCost_10 (by decide) ?_
    refine va_iald hx hb hK hP 4 0 rfl rfl (zf_in (by decide) (by decide)) dX8_leastCost_11 ?_
    refine lv_topi (fun x_2 ex_2 => ?_)
    have bx_2 : 0 ≤ x_2.toInt ∧ x_2.toInt ≤ 99 := by rw [ex_2]; exact hp_gco _
    refine lv_aload_n hx hb dX8_leastCost_12 rfl (lv_at hl 0 rfl) ?_
    refine lv_iload_n hx hb dX8_leastCost_13 rfl (lv_at hl 1 rfl) ?_
    refine zc_V (As := [.int 4]) (rest := [.int x_2]) ⟨hx, hb, hml, hown, hts⟩ (c_M_power_4 l D cI cJ cZ cP cS po m0 mrf mki mpa mta mla msl mco mhe mso msi msh mce mca mwo mnu mte mwa mke mma mth mtr (npu) (nte) (nat_) (nde) (nto) (nse) (nhu) (nga) (nsd) (nfa) (nba) (npl) (nen) (nnu) (nwr) (nra) (nik) hy0 hy1 hy2 hy3 hy4 hy5 hy6 hy7 hy8 hy9 hy10 hy11 hy12 hy13) (cwV 1 hts gX8_leastCost_X8_power rfl rfl rfl ⟨rfl, dh_X8_power⟩ ⟨Nat.le_of_ble_eq_true rfl, Nat.le_of_ble_eq_true rfl⟩) hK hN hZ hP (hP.sub [0] rfl) (va_recv (q := (RX8, TX8, 38)) hK hP (ci := 8) (q0 := 0) rfl rfl) rfl hl.1 rfl (Nat.le_of_ble_eq_true rfl) dX8_leastCost_14 ⟨Nat.le_of_ble_eq_true rfl, Nat.le_of_ble_eq_true rfl⟩ (fun r_3 hr_3 => ?_)
    obtain rfl := hr_3
    refine lv_imul hx hb dX8_leastCost_17 ?_
    refine lv_topi (fun x_4 ex_4 => ?_)
    have qx_4 : x_4.toInt = x_2.toInt * 20736 := by rw [ex_4]; exact zf_mul rfl (by decide) (by omega) (by omega)
    refine lv_istore (lv' := [(4, .int x_4), (0, .ref m0), (1, .int 4), (2, .int d), (3, .int sec)]) hx hb dX8_leastCost_18 hl (by decide) rfl (fun ls hl => ?_)
    refine lv_iload_n hx hb dX8_leastCost_20 rfl (lv_at hl 4 rfl) ?_
    refine lv_bipush (v := 30) hx hb dX8_leastCost_21 (by decide) ?_
    refine lv_icmp_lt (tgt := 57) hx hb dX8_leastCost_23 (by decide) (fun c_5 => ?_) (fun c_5 => ?_)
    · have fc_5 : sec.toInt < 30 := zf_lt c_5 rfl (by decide)
      refine lv_iconst (v := 0) hx hb dX8_leastCost_57 (by decide) ?_
      refine lv_istore (lv' := [(5, .int 0), (4, .int x_4), (0, .ref m0), (1, .int 4), (2, .int d), (3, .int sec)]) hx hb dX8_leastCost_58 hl (by decide) rfl (fun ls hl => ?_)
      obtain ⟨i_60, hi_60⟩ : ∃ i : Int32, i = 0 := ⟨_, rfl⟩
      replace hl : lv_has ls 7 [(5, .int i_60), (4, .int x_4), (0, .ref m0), (1, .int 4), (2, .int d), (3, .int sec)] := by rw [hi_60]; exact lv_sub hl [0, 1, 2, 3, 4, 5] rfl
      have h1i_60 : i_60.toInt = 0 := by rw [hi_60]; decide
      obtain ⟨nfu, hni_60⟩ : ∃ nq9 : Nat, npu.toInt ≤ i_60.toInt + (nq9 : Int) := ⟨((npu.toInt : Int) - 0).toNat, by omega⟩
      have hloi_60 : 0 ≤ i_60.toInt := by omega
      obtain ⟨v_6, hv_6⟩ : ∃ g : Int32, g = x_4 := ⟨_, rfl⟩
      replace hl : lv_has ls 7 [(5, .int i_60), (4, .int v_6), (0, .ref m0), (1, .int 4), (2, .int d), (3, .int sec)] := by rw [hv_6]; exact hl
      have hbv_6 : 0 ≤ v_6.toInt ∧ v_6.toInt ≤ 2052864 := by rw [hv_6]; exact ⟨by omega, by omega⟩
      have hvi_60_0 : (v_6 : Int32).toInt = zFi gta d.toInt sec.toInt (zPw 4 * zAt (gco 1).toInt (gco 2).toInt sec.toInt) (zLv (zLn gki gpa gta npu.toInt.toNat nhu.toInt (gco 0).toInt (gco 1).toInt (gco 2).toInt 3) gki gpa gta (gco 0).toInt (zPw 4) nhu.toInt d.toInt sec.toInt) i_60.toInt.toNat := by
        (try rw [hi_60]); (try rw [hv_6]); (rw [(show ((0 : Int32).toInt.toNat) = 0 from by decide)]; show _ = zPw 4 * zAt (gco 1).toInt (gco 2).toInt sec.toInt; (have nx_2 : (gco 2).toInt = x_2.toInt := (by rw [ex_2, show (2 : Int32).toNatClampNeg = 2 from by decide]); unfold zAt; rw [show zPw 4 = 20736 from by decide]; first | (rw [if_neg (by omega)]; omega) | (rw [if_pos (by omega)]; omega)))
      have hvi_60_1 : i_60.toInt ≤ npu.toInt := by
        (try rw [hi_60]); (try rw [hv_6]); (have k0 : (0 : Int32).toInt = 0 := (by decide); omega)
      clear h1i_60 hi_60 hv_6
      revert hni_60
      revert hloi_60
      revert hvi_60_1
      revert hvi_60_0
      revert hbv_6
      revert hl
      revert ls
      revert v_6
      revert i_60
      induction nfu with
      | zero =>
        intro i_60 v_6 ls hl hbv_6 hvi_60_0 hvi_60_1 hloi_60 hni_60
        have hzi_60 : npu.toInt ≤ i_60.toInt := by omega
        refine lv_iload hx hb dX8_leastCost_60 (lv_at hl 0 rfl) ?_
        refine lv_aload_n hx hb dX8_leastCost_62 rfl (lv_at hl 2 rfl) ?_
        refine va_get (D := D) (ci := 8) (v := .int npu) (C := RX8) (T := TX8) (N := 38) hx hb hts hi_X8_leastCost_8 hown hK hP 0 rfl rfl 0 (by decide) (hts (.fieldLink RX8 90 "TheLiningsInItModel" "pulls" "I") (List.mem_of_getElem? (i := 2) rfl)) (fun _ h9 => h9) rfl dX8_leastCost_63 ?_
        refine lv_icmp_ge (tgt := 120) hx hb dX8_leastCost_66 (by decide) (fun c_7 => ?_) (fun c_7 => ?_)
        · have fc_7 : npu.toInt ≤ i_60.toInt := zf_le c_7 rfl rfl
          refine lv_iload hx hb dX8_leastCost_120 (lv_at hl 1 rfl) ?_
          exact W.iret (v := v_6) hx hb hr (fun t ht hW => ⟨v_6, rfl, ⟨by omega, by omega, (show (v_6 : Int32).toInt = (zLn gki gpa gta npu.toInt.toNat nhu.toInt (gco 0).toInt (gco 1).toInt (gco 2).toInt 4) d.toInt sec.toInt from by (have h9 : i_60.toInt.toNat = npu.toInt.toNat := (by omega); have z := hvi_60_0; rw [h9] at z; rw [zLn_s, if_neg (by omega)]; exact z))⟩, ht⟩) (fun q hq => by cases hq) dX8_leastCost_122
        · exfalso; have fc_7 : i_60.toInt < npu.toInt := zf_nle c_7 rfl rfl; omega
      | succ nfu ih =>
        intro i_60 v_6 ls hl hbv_6 hvi_60_0 hvi_60_1 hloi_60 hni_60
        refine lv_iload hx hb dX8_leastCost_60 (lv_at hl 0 rfl) ?_
        refine lv_aload_n hx hb dX8_leastCost_62 rfl (lv_at hl 2 rfl) ?_
        refine va_get (D := D) (ci := 8) (v := .int npu) (C := RX8) (T := TX8) (N := 38) hx hb hts hi_X8_leastCost_8 hown hK hP 0 rfl rfl 0 (by decide) (hts (.fieldLink RX8 90 "TheLiningsInItModel" "pulls" "I") (List.mem_of_getElem? (i := 2) rfl)) (fun _ h9 => h9) rfl dX8_leastCost_63 ?_
        refine lv_icmp_ge (tgt := 120) hx hb dX8_leastCost_66 (by decide) (fun c_8 => ?_) (fun c_8 => ?_)
        · have fc_8 : npu.toInt ≤ i_60.toInt := zf_le c_8 rfl rfl
          refine lv_iload hx hb dX8_leastCost_120 (lv_at hl 1 rfl) ?_
          exact W.iret (v := v_6) hx hb hr (fun t ht hW => ⟨v_6, rfl, ⟨by omega, by omega, (show (v_6 : Int32).toInt = (zLn gki gpa gta npu.toInt.toNat nhu.toInt (gco 0).toInt (gco 1).toInt (gco 2).toInt 4) d.toInt sec.toInt from by (have h9 : i_60.toInt.toNat = npu.toInt.toNat := (by omega); have z := hvi_60_0; rw [h9] at z; rw [zLn_s, if_neg (by omega)]; exact z))⟩, ht⟩) (fun q hq => by cases hq) dX8_leastCost_122
        · have fc_8 : i_60.toInt < npu.toInt := zf_nle c_8 rfl rfl
          refine lv_iload_n hx hb dX8_leastCost_69 rfl (lv_at hl 3 rfl) ?_
          refine lv_if_le (tgt := 120) hx hb dX8_leastCost_70 (by decide) (fun c_9 => ?_) (fun c_9 => ?_)
          · exact absurd c_9 (by decide)
          · refine lv_aload_n hx hb dX8_leastCost_73 rfl (lv_at hl 2 rfl) ?_
            refine lv_iload hx hb dX8_leastCost_74 (lv_at hl 0 rfl) ?_
            refine lv_iload_n hx hb dX8_leastCost_76 rfl (lv_at hl 4 rfl) ?_
            refine lv_iload_n hx hb dX8_leastCost_77 rfl (lv_at hl 5 rfl) ?_
            refine zc_V (As := [.int i_60, .int d, .int sec]) (rest := []) ⟨hx, hb, hml, hown, hts⟩ (c_F_M_mayBe l D cI cJ cZ cP cS po m0 mrf mki mpa mta mla msl mco mhe mso msi msh mce mca mwo mnu mte mwa mke mma mth mtr (npu) (nte) (nat_) (nde) (nto) (nse) (nhu) (nga) (nsd) (nfa) (nba) (npl) (nen) (nnu) (nwr) (nra) (nik) gta (i_60) (d) (sec) hy0 hy1 hy2 hy3 hy4 hy5 hy6 hy7 hy8 hy9 hy10 hy11 hy12 hy13 (by omega) (by omega) hp_gta) (cwV 3 hts gX8_leastCost_X8_mayBe rfl rfl rfl ⟨rfl, dh_X8_mayBe⟩ ⟨Nat.le_of_ble_eq_true rfl, Nat.le_of_ble_eq_true rfl⟩) hK hN hZ hP (hP.sub [0, 3] rfl) (va_recv (q := (RX8, TX8, 38)) hK hP (ci := 8) (q0 := 0) rfl rfl) rfl hl.1 rfl (Nat.le_of_ble_eq_true rfl) dX8_leastCost_78 ⟨Nat.le_of_ble_eq_true rfl, Nat.le_of_ble_eq_true rfl⟩ (fun r_10 hr_10 => ?_)
            obtain ⟨g_11, g_12, hsr_10_0⟩ := hr_10
            refine lv_if_ne (tgt := 87) hx hb dX8_leastCost_81 (by decide) (fun c_13 => ?_) (fun c_13 => ?_)
            · have fc_13 : r_10.toInt ≠ 0 := zf_ne c_13 rfl (by decide)
              have htl9 : (gta i_60.toNatClampNeg).toInt ≤ sec.toInt := (hsr_10_0.mp (by omega)).2
              refine lv_aload_n hx hb dX8_leastCost_87 rfl (lv_at hl 2 rfl) ?_
              refine lv_iload hx hb dX8_leastCost_88 (lv_at hl 0 rfl) ?_
              refine lv_iload_n hx hb dX8_leastCost_90 rfl (lv_at hl 3 rfl) ?_
              refine lv_iload_n hx hb dX8_leastCost_91 rfl (lv_at hl 4 rfl) ?_
              refine lv_iload_n hx hb dX8_leastCost_92 rfl (lv_at hl 5 rfl) ?_
              refine zc_V (As := [.int i_60, .int 4, .int d, .int sec]) (rest := []) ⟨hx, hb, hml, hown, hts⟩ (c_F_M_costBy_4 l D cI cJ cZ cP cS po m0 mrf mki mpa mta mla msl mco mhe mso msi msh mce mca mwo mnu mte mwa mke mma mth mtr (npu) (nte) (nat_) (nde) (nto) (nse) (nhu) (nga) (nsd) (nfa) (nba) (npl) (nen) (nnu) (nwr) (nra) (nik) gki gpa gta gco (i_60) (d) (sec) hy0 hy1 hy2 hy3 hy4 hy5 hy6 hy7 hy8 hy9 hy10 hy11 hy12 hy13 (by omega) (by omega) hy14 hy15 hy16 hy17 (by first | assumption | omega) hp_gki hp_gpa hp_gta hp_gco) (cwV 4 hts gX8_leastCost_X8_costBy rfl rfl rfl ⟨rfl, dh_X8_costBy⟩ ⟨Nat.le_of_ble_eq_true rfl, Nat.le_of_ble_eq_true rfl⟩) hK hN hZ hP (hP.sub [0, 1, 2, 3, 4] rfl) (va_recv (q := (RX8, TX8, 38)) hK hP (ci := 8) (q0 := 0) rfl rfl) rfl hl.1 rfl (Nat.le_of_ble_eq_true rfl) dX8_leastCost_93 ⟨Nat.le_of_ble_eq_true rfl, Nat.le_of_ble_eq_true rfl⟩ (fun r_14 hr_14 => ?_)
              obtain ⟨g_15, g_16, hsr_14_0⟩ := hr_14
              refine lv_istore (lv' := [(6, .int r_14), (5, .int i_60), (4, .int v_6), (0, .ref m0), (1, .int 4), (2, .int d), (3, .int sec)]) hx hb dX8_leastCost_96 hl (by decide) rfl (fun ls hl => ?_)
              refine lv_iload hx hb dX8_leastCost_98 (lv_at hl 0 rfl) ?_
              refine lv_iload hx hb dX8_leastCost_100 (lv_at hl 2 rfl) ?_
              refine lv_icmp_ge (tgt := 110) hx hb dX8_leastCost_102 (by decide) (fun c_17 => ?_) (fun c_17 => ?_)
              · have fc_17 : v_6.toInt ≤ r_14.toInt := zf_le c_17 rfl rfl
                refine lv_iload hx hb dX8_leastCost_110 (lv_at hl 2 rfl) ?_
                refine lv_istore (lv' := [(4, .int v_6), (6, .int r_14), (5, .int i_60), (0, .ref m0), (1, .int 4), (2, .int d), (3, .int sec)]) hx hb dX8_leastCost_112 hl (by decide) rfl (fun ls hl => ?_)
                obtain ⟨x_18, ex_18⟩ : ∃ y : Int32, y = i_60 + 1 := ⟨_, rfl⟩
                have qx_18 : x_18.toInt = i_60.toInt + 1 := dw_inc ex_18 fc_8
                refine lv_iinc (v := x_18) (lv' := [(5, .int x_18), (4, .int v_6), (6, .int r_14), (0, .ref m0), (1, .int 4), (2, .int d), (3, .int sec)]) hx hb dX8_leastCost_114 hl (k := 2) rfl ex_18.symm (by decide) rfl (fun ls hl => ?_)
                refine lv_goto (tgt := 60) hx hb dX8_leastCost_117 (by decide) ?_
                exact ih x_18 v_6 _ (lv_sub hl [0, 1, 3, 4, 5, 6] rfl) hbv_6 (show (v_6 : Int32).toInt = zFi gta d.toInt sec.toInt (zPw 4 * zAt (gco 1).toInt (gco 2).toInt sec.toInt) (zLv (zLn gki gpa gta npu.toInt.toNat nhu.toInt (gco 0).toInt (gco 1).toInt (gco 2).toInt 3) gki gpa gta (gco 0).toInt (zPw 4) nhu.toInt d.toInt sec.toInt) x_18.toInt.toNat from by (have hx : x_18.toInt.toNat = i_60.toInt.toNat + 1 := (by omega); have y9 : i_60.toNatClampNeg = i_60.toInt.toNat := rfl; have hm := hsr_10_0; rw [y9] at hm; rw [hx, zFi_y (hm.mp (by omega)), ← hvi_60_0]; have zr := hsr_14_0; rw [y9] at zr; have zr2 : r_14.toInt = (zLv (zLn gki gpa gta npu.toInt.toNat nhu.toInt (gco 0).toInt (gco 1).toInt (gco 2).toInt 3) gki gpa gta (gco 0).toInt (zPw 4) nhu.toInt d.toInt sec.toInt) i_60.toInt.toNat := zr; omega)) (show x_18.toInt ≤ npu.toInt from by omega) (dw_lo hloi_60 qx_18) (dw_hn hni_60 qx_18)
              · have fc_17 : r_14.toInt < v_6.toInt := zf_nle c_17 rfl rfl
                refine lv_iload hx hb dX8_leastCost_105 (lv_at hl 0 rfl) ?_
                refine lv_goto (tgt := 112) hx hb dX8_leastCost_107 (by decide) ?_
                refine lv_istore (lv' := [(4, .int r_14), (6, .int r_14), (5, .int i_60), (0, .ref m0), (1, .int 4), (2, .int d), (3, .int sec)]) hx hb dX8_leastCost_112 hl (by decide) rfl (fun ls hl => ?_)
                obtain ⟨x_19, ex_19⟩ : ∃ y : Int32, y = i_60 + 1 := ⟨_, rfl⟩
                have qx_19 : x_19.toInt = i_60.toInt + 1 := dw_inc ex_19 fc_8
                refine lv_iinc (v := x_19) (lv' := [(5, .int x_19), (4, .int r_14), (6, .int r_14), (0, .ref m0), (1, .int 4), (2, .int d), (3, .int sec)]) hx hb dX8_leastCost_114 hl (k := 2) rfl ex_19.symm (by decide) rfl (fun ls hl => ?_)
                refine lv_goto (tgt := 60) hx hb dX8_leastCost_117 (by decide) ?_
                exact ih x_19 r_14 _ (lv_sub hl [0, 1, 3, 4, 5, 6] rfl) ⟨by omega, by omega⟩ (show (r_14 : Int32).toInt = zFi gta d.toInt sec.toInt (zPw 4 * zAt (gco 1).toInt (gco 2).toInt sec.toInt) (zLv (zLn gki gpa gta npu.toInt.toNat nhu.toInt (gco 0).toInt (gco 1).toInt (gco 2).toInt 3) gki gpa gta (gco 0).toInt (zPw 4) nhu.toInt d.toInt sec.toInt) x_19.toInt.toNat from by (have hx : x_19.toInt.toNat = i_60.toInt.toNat + 1 := (by omega); have y9 : i_60.toNatClampNeg = i_60.toInt.toNat := rfl; have hm := hsr_10_0; rw [y9] at hm; rw [hx, zFi_y (hm.mp (by omega)), ← hvi_60_0]; have zr := hsr_14_0; rw [y9] at zr; have zr2 : r_14.toInt = (zLv (zLn gki gpa gta npu.toInt.toNat nhu.toInt (gco 0).toInt (gco 1).toInt (gco 2).toInt 3) gki gpa gta (gco 0).toInt (zPw 4) nhu.toInt d.toInt sec.toInt) i_60.toInt.toNat := zr; omega)) (show x_19.toInt ≤ npu.toInt from by omega) (dw_lo hloi_60 qx_19) (dw_hn hni_60 qx_19)
            · have fc_13 : r_10.toInt = 0 := zf_eq c_13 rfl (by decide)
              refine lv_goto (tgt := 114) hx hb dX8_leastCost_84 (by decide) ?_
              obtain ⟨x_20, ex_20⟩ : ∃ y : Int32, y = i_60 + 1 := ⟨_, rfl⟩
              have qx_20 : x_20.toInt = i_60.toInt + 1 := dw_inc ex_20 fc_8
              refine lv_iinc (v := x_20) (lv' := [(5, .int x_20), (4, .int v_6), (0, .ref m0), (1, .int 4), (2, .int d), (3, .int sec)]) hx hb dX8_leastCost_114 hl (k := 0) rfl ex_20.symm (by decide) rfl (fun ls hl => ?_)
              refine lv_goto (tgt := 60) hx hb dX8_leastCost_117 (by decide) ?_
              exact ih x_20 v_6 _ (lv_sub hl [0, 1, 2, 3, 4, 5] rfl) hbv_6 (show (v_6 : Int32).toInt = zFi gta d.toInt sec.toInt (zPw 4 * zAt (gco 1).toInt (gco 2).toInt sec.toInt) (zLv (zLn gki gpa gta npu.toInt.toNat nhu.toInt (gco 0).toInt (gco 1).toInt (gco 2).toInt 3) gki gpa gta (gco 0).toInt (zPw 4) nhu.toInt d.toInt sec.toInt) x_20.toInt.toNat from by (have hx : x_20.toInt.toNat = i_60.toInt.toNat + 1 := (by omega); have y9 : i_60.toNatClampNeg = i_60.toInt.toNat := rfl; have hm := hsr_10_0; rw [y9] at hm; rw [hx, zFi_n (fun z => by (have z1 := hm.mpr z; omega))]; exact hvi_60_0)) (show x_20.toInt ≤ npu.toInt from by omega) (dw_lo hloi_60 qx_20) (dw_hn hni_60 qx_20)
    · have fc_5 : 30 ≤ sec.toInt := zf_nlt c_5 rfl (by decide)
      refine lv_aload_n hx hb dX8_leastCost_26 rfl (lv_at hl 1 rfl) ?_
      refine va_get (D := D) (ci := 8) (v := .ref mco) (C := RX8) (T := TX8) (N := 38) hx hb hts hi_X8_leastCost_8 hown hK hP 0 rfl rfl 16 (by decide) (hts (.fieldLink RX8 44 "TheLiningsInItModel" "cost" "[I") (List.mem_of_getElem? (i := 1) rfl)) (fun _ h9 => h9) rfl dX8_leastCost_27 ?_
      refine lv_iconst (v := 1) hx hb dX8_leastCost_30 (by decide) ?_
      refine va_iald hx hb hK hP 4 0 rfl rfl (zf_in (by decide) (by decide)) dX8_leastCost_31 ?_
      refine lv_topi (fun x_21 ex_21 => ?_)
      have bx_21 : 0 ≤ x_21.toInt ∧ x_21.toInt ≤ 99 := by rw [ex_21]; exact hp_gco _
      refine lv_aload_n hx hb dX8_leastCost_32 rfl (lv_at hl 1 rfl) ?_
      refine lv_iload_n hx hb dX8_leastCost_33 rfl (lv_at hl 2 rfl) ?_
      refine zc_V (As := [.int 4]) (rest := [.int x_21]) ⟨hx, hb, hml, hown, hts⟩ (c_M_power_4 l D cI cJ cZ cP cS po m0 mrf mki mpa mta mla msl mco mhe mso msi msh mce mca mwo mnu mte mwa mke mma mth mtr (npu) (nte) (nat_) (nde) (nto) (nse) (nhu) (nga) (nsd) (nfa) (nba) (npl) (nen) (nnu) (nwr) (nra) (nik) hy0 hy1 hy2 hy3 hy4 hy5 hy6 hy7 hy8 hy9 hy10 hy11 hy12 hy13) (cwV 1 hts gX8_leastCost_X8_power rfl rfl rfl ⟨rfl, dh_X8_power⟩ ⟨Nat.le_of_ble_eq_true rfl, Nat.le_of_ble_eq_true rfl⟩) hK hN hZ hP (hP.sub [0] rfl) (va_recv (q := (RX8, TX8, 38)) hK hP (ci := 8) (q0 := 0) rfl rfl) rfl hl.1 rfl (Nat.le_of_ble_eq_true rfl) dX8_leastCost_34 ⟨Nat.le_of_ble_eq_true rfl, Nat.le_of_ble_eq_true rfl⟩ (fun r_22 hr_22 => ?_)
      obtain rfl := hr_22
      refine lv_imul hx hb dX8_leastCost_37 ?_
      refine lv_topi (fun x_23 ex_23 => ?_)
      have qx_23 : x_23.toInt = x_21.toInt * 20736 := by rw [ex_23]; exact zf_mul rfl (by decide) (by omega) (by omega)
      refine lv_iload hx hb dX8_leastCost_38 (lv_at hl 0 rfl) ?_
      refine lv_icmp_ge (tgt := 57) hx hb dX8_leastCost_40 (by decide) (fun c_24 => ?_) (fun c_24 => ?_)
      · have fc_24 : x_4.toInt ≤ x_23.toInt := zf_le c_24 rfl rfl
        refine lv_iconst (v := 0) hx hb dX8_leastCost_57 (by decide) ?_
        refine lv_istore (lv' := [(5, .int 0), (4, .int x_4), (0, .ref m0), (1, .int 4), (2, .int d), (3, .int sec)]) hx hb dX8_leastCost_58 hl (by decide) rfl (fun ls hl => ?_)
        obtain ⟨i_60, hi_60⟩ : ∃ i : Int32, i = 0 := ⟨_, rfl⟩
        replace hl : lv_has ls 7 [(5, .int i_60), (4, .int x_4), (0, .ref m0), (1, .int 4), (2, .int d), (3, .int sec)] := by rw [hi_60]; exact lv_sub hl [0, 1, 2, 3, 4, 5] rfl
        have h1i_60 : i_60.toInt = 0 := by rw [hi_60]; decide
        obtain ⟨nfu, hni_60⟩ : ∃ nq9 : Nat, npu.toInt ≤ i_60.toInt + (nq9 : Int) := ⟨((npu.toInt : Int) - 0).toNat, by omega⟩
        have hloi_60 : 0 ≤ i_60.toInt := by omega
        obtain ⟨v_25, hv_25⟩ : ∃ g : Int32, g = x_4 := ⟨_, rfl⟩
        replace hl : lv_has ls 7 [(5, .int i_60), (4, .int v_25), (0, .ref m0), (1, .int 4), (2, .int d), (3, .int sec)] := by rw [hv_25]; exact hl
        have hbv_25 : 0 ≤ v_25.toInt ∧ v_25.toInt ≤ 2052864 := by rw [hv_25]; exact ⟨by omega, by omega⟩
        have hvi_60_0 : (v_25 : Int32).toInt = zFi gta d.toInt sec.toInt (zPw 4 * zAt (gco 1).toInt (gco 2).toInt sec.toInt) (zLv (zLn gki gpa gta npu.toInt.toNat nhu.toInt (gco 0).toInt (gco 1).toInt (gco 2).toInt 3) gki gpa gta (gco 0).toInt (zPw 4) nhu.toInt d.toInt sec.toInt) i_60.toInt.toNat := by
          (try rw [hi_60]); (try rw [hv_25]); (rw [(show ((0 : Int32).toInt.toNat) = 0 from by decide)]; show _ = zPw 4 * zAt (gco 1).toInt (gco 2).toInt sec.toInt; (have nx_2 : (gco 2).toInt = x_2.toInt := (by rw [ex_2, show (2 : Int32).toNatClampNeg = 2 from by decide]); have nx_21 : (gco 1).toInt = x_21.toInt := (by rw [ex_21, show (1 : Int32).toNatClampNeg = 1 from by decide]); unfold zAt; rw [show zPw 4 = 20736 from by decide]; first | (rw [if_pos (by omega)]; omega) | (rw [if_neg (by omega)]; omega)))
        have hvi_60_1 : i_60.toInt ≤ npu.toInt := by
          (try rw [hi_60]); (try rw [hv_25]); (have k0 : (0 : Int32).toInt = 0 := (by decide); omega)
        clear h1i_60 hi_60 hv_25
        revert hni_60
        revert hloi_60
        revert hvi_60_1
        revert hvi_60_0
        revert hbv_25
        revert hl
        revert ls
        revert v_25
        revert i_60
        induction nfu with
        | zero =>
          intro i_60 v_25 ls hl hbv_25 hvi_60_0 hvi_60_1 hloi_60 hni_60
          have hzi_60 : npu.toInt ≤ i_60.toInt := by omega
          refine lv_iload hx hb dX8_leastCost_60 (lv_at hl 0 rfl) ?_
          refine lv_aload_n hx hb dX8_leastCost_62 rfl (lv_at hl 2 rfl) ?_
          refine va_get (D := D) (ci := 8) (v := .int npu) (C := RX8) (T := TX8) (N := 38) hx hb hts hi_X8_leastCost_8 hown hK hP 0 rfl rfl 0 (by decide) (hts (.fieldLink RX8 90 "TheLiningsInItModel" "pulls" "I") (List.mem_of_getElem? (i := 2) rfl)) (fun _ h9 => h9) rfl dX8_leastCost_63 ?_
          refine lv_icmp_ge (tgt := 120) hx hb dX8_leastCost_66 (by decide) (fun c_26 => ?_) (fun c_26 => ?_)
          · have fc_26 : npu.toInt ≤ i_60.toInt := zf_le c_26 rfl rfl
            refine lv_iload hx hb dX8_leastCost_120 (lv_at hl 1 rfl) ?_
            exact W.iret (v := v_25) hx hb hr (fun t ht hW => ⟨v_25, rfl, ⟨by omega, by omega, (show (v_25 : Int32).toInt = (zLn gki gpa gta npu.toInt.toNat nhu.toInt (gco 0).toInt (gco 1).toInt (gco 2).toInt 4) d.toInt sec.toInt from by (have h9 : i_60.toInt.toNat = npu.toInt.toNat := (by omega); have z := hvi_60_0; rw [h9] at z; rw [zLn_s, if_neg (by omega)]; exact z))⟩, ht⟩) (fun q hq => by cases hq) dX8_leastCost_122
          · exfalso; have fc_26 : i_60.toInt < npu.toInt := zf_nle c_26 rfl rfl; omega
        | succ nfu ih =>
          intro i_60 v_25 ls hl hbv_25 hvi_60_0 hvi_60_1 hloi_60 hni_60
          refine lv_iload hx hb dX8_leastCost_60 (lv_at hl 0 rfl) ?_
          refine lv_aload_n hx hb dX8_leastCost_62 rfl (lv_at hl 2 rfl) ?_
          refine va_get (D := D) (ci := 8) (v := .int npu) (C := RX8) (T := TX8) (N := 38) hx hb hts hi_X8_leastCost_8 hown hK hP 0 rfl rfl 0 (by decide) (hts (.fieldLink RX8 90 "TheLiningsInItModel" "pulls" "I") (List.mem_of_getElem? (i := 2) rfl)) (fun _ h9 => h9) rfl dX8_leastCost_63 ?_
          refine lv_icmp_ge (tgt := 120) hx hb dX8_leastCost_66 (by decide) (fun c_27 => ?_) (fun c_27 => ?_)
          · have fc_27 : npu.toInt ≤ i_60.toInt := zf_le c_27 rfl rfl
            refine lv_iload hx hb dX8_leastCost_120 (lv_at hl 1 rfl) ?_
            exact W.iret (v := v_25) hx hb hr (fun t ht hW => ⟨v_25, rfl, ⟨by omega, by omega, (show (v_25 : Int32).toInt = (zLn gki gpa gta npu.toInt.toNat nhu.toInt (gco 0).toInt (gco 1).toInt (gco 2).toInt 4) d.toInt sec.toInt from by (have h9 : i_60.toInt.toNat = npu.toInt.toNat := (by omega); have z := hvi_60_0; rw [h9] at z; rw [zLn_s, if_neg (by omega)]; exact z))⟩, ht⟩) (fun q hq => by cases hq) dX8_leastCost_122
          · have fc_27 : i_60.toInt < npu.toInt := zf_nle c_27 rfl rfl
            refine lv_iload_n hx hb dX8_leastCost_69 rfl (lv_at hl 3 rfl) ?_
            refine lv_if_le (tgt := 120) hx hb dX8_leastCost_70 (by decide) (fun c_28 => ?_) (fun c_28 => ?_)
            · exact absurd c_28 (by decide)
            · refine lv_aload_n hx hb dX8_leastCost_73 rfl (lv_at hl 2 rfl) ?_
              refine lv_iload hx hb dX8_leastCost_74 (lv_at hl 0 rfl) ?_
              refine lv_iload_n hx hb dX8_leastCost_76 rfl (lv_at hl 4 rfl) ?_
              refine lv_iload_n hx hb dX8_leastCost_77 rfl (lv_at hl 5 rfl) ?_
              refine zc_V (As := [.int i_60, .int d, .int sec]) (rest := []) ⟨hx, hb, hml, hown, hts⟩ (c_F_M_mayBe l D cI cJ cZ cP cS po m0 mrf mki mpa mta mla msl mco mhe mso msi msh mce mca mwo mnu mte mwa mke mma mth mtr (npu) (nte) (nat_) (nde) (nto) (nse) (nhu) (nga) (nsd) (nfa) (nba) (npl) (nen) (nnu) (nwr) (nra) (nik) gta (i_60) (d) (sec) hy0 hy1 hy2 hy3 hy4 hy5 hy6 hy7 hy8 hy9 hy10 hy11 hy12 hy13 (by omega) (by omega) hp_gta) (cwV 3 hts gX8_leastCost_X8_mayBe rfl rfl rfl ⟨rfl, dh_X8_mayBe⟩ ⟨Nat.le_of_ble_eq_true rfl, Nat.le_of_ble_eq_true rfl⟩) hK hN hZ hP (hP.sub [0, 3] rfl) (va_recv (q := (RX8, TX8, 38)) hK hP (ci := 8) (q0 := 0) rfl rfl) rfl hl.1 rfl (Nat.le_of_ble_eq_true rfl) dX8_leastCost_78 ⟨Nat.le_of_ble_eq_true rfl, Nat.le_of_ble_eq_true rfl⟩ (fun r_29 hr_29 => ?_)
              obtain ⟨g_30, g_31, hsr_29_0⟩ := hr_29
              refine lv_if_ne (tgt := 87) hx hb dX8_leastCost_81 (by decide) (fun c_32 => ?_) (fun c_32 => ?_)
              · have fc_32 : r_29.toInt ≠ 0 := zf_ne c_32 rfl (by decide)
                have htl9 : (gta i_60.toNatClampNeg).toInt ≤ sec.toInt := (hsr_29_0.mp (by omega)).2
                refine lv_aload_n hx hb dX8_leastCost_87 rfl (lv_at hl 2 rfl) ?_
                refine lv_iload hx hb dX8_leastCost_88 (lv_at hl 0 rfl) ?_
                refine lv_iload_n hx hb dX8_leastCost_90 rfl (lv_at hl 3 rfl) ?_
                refine lv_iload_n hx hb dX8_leastCost_91 rfl (lv_at hl 4 rfl) ?_
                refine lv_iload_n hx hb dX8_leastCost_92 rfl (lv_at hl 5 rfl) ?_
                refine zc_V (As := [.int i_60, .int 4, .int d, .int sec]) (rest := []) ⟨hx, hb, hml, hown, hts⟩ (c_F_M_costBy_4 l D cI cJ cZ cP cS po m0 mrf mki mpa mta mla msl mco mhe mso msi msh mce mca mwo mnu mte mwa mke mma mth mtr (npu) (nte) (nat_) (nde) (nto) (nse) (nhu) (nga) (nsd) (nfa) (nba) (npl) (nen) (nnu) (nwr) (nra) (nik) gki gpa gta gco (i_60) (d) (sec) hy0 hy1 hy2 hy3 hy4 hy5 hy6 hy7 hy8 hy9 hy10 hy11 hy12 hy13 (by omega) (by omega) hy14 hy15 hy16 hy17 (by first | assumption | omega) hp_gki hp_gpa hp_gta hp_gco) (cwV 4 hts gX8_leastCost_X8_costBy rfl rfl rfl ⟨rfl, dh_X8_costBy⟩ ⟨Nat.le_of_ble_eq_true rfl, Nat.le_of_ble_eq_true rfl⟩) hK hN hZ hP (hP.sub [0, 1, 2, 3, 4] rfl) (va_recv (q := (RX8, TX8, 38)) hK hP (ci := 8) (q0 := 0) rfl rfl) rfl hl.1 rfl (Nat.le_of_ble_eq_true rfl) dX8_leastCost_93 ⟨Nat.le_of_ble_eq_true rfl, Nat.le_of_ble_eq_true rfl⟩ (fun r_33 hr_33 => ?_)
                obtain ⟨g_34, g_35, hsr_33_0⟩ := hr_33
                refine lv_istore (lv' := [(6, .int r_33), (5, .int i_60), (4, .int v_25), (0, .ref m0), (1, .int 4), (2, .int d), (3, .int sec)]) hx hb dX8_leastCost_96 hl (by decide) rfl (fun ls hl => ?_)
                refine lv_iload hx hb dX8_leastCost_98 (lv_at hl 0 rfl) ?_
                refine lv_iload hx hb dX8_leastCost_100 (lv_at hl 2 rfl) ?_
                refine lv_icmp_ge (tgt := 110) hx hb dX8_leastCost_102 (by decide) (fun c_36 => ?_) (fun c_36 => ?_)
                · have fc_36 : v_25.toInt ≤ r_33.toInt := zf_le c_36 rfl rfl
                  refine lv_iload hx hb dX8_leastCost_110 (lv_at hl 2 rfl) ?_
                  refine lv_istore (lv' := [(4, .int v_25), (6, .int r_33), (5, .int i_60), (0, .ref m0), (1, .int 4), (2, .int d), (3, .int sec)]) hx hb dX8_leastCost_112 hl (by decide) rfl (fun ls hl => ?_)
                  obtain ⟨x_37, ex_37⟩ : ∃ y : Int32, y = i_60 + 1 := ⟨_, rfl⟩
                  have qx_37 : x_37.toInt = i_60.toInt + 1 := dw_inc ex_37 fc_27
                  refine lv_iinc (v := x_37) (lv' := [(5, .int x_37), (4, .int v_25), (6, .int r_33), (0, .ref m0), (1, .int 4), (2, .int d), (3, .int sec)]) hx hb dX8_leastCost_114 hl (k := 2) rfl ex_37.symm (by decide) rfl (fun ls hl => ?_)
                  refine lv_goto (tgt := 60) hx hb dX8_leastCost_117 (by decide) ?_
                  exact ih x_37 v_25 _ (lv_sub hl [0, 1, 3, 4, 5, 6] rfl) hbv_25 (show (v_25 : Int32).toInt = zFi gta d.toInt sec.toInt (zPw 4 * zAt (gco 1).toInt (gco 2).toInt sec.toInt) (zLv (zLn gki gpa gta npu.toInt.toNat nhu.toInt (gco 0).toInt (gco 1).toInt (gco 2).toInt 3) gki gpa gta (gco 0).toInt (zPw 4) nhu.toInt d.toInt sec.toInt) x_37.toInt.toNat from by (have hx : x_37.toInt.toNat = i_60.toInt.toNat + 1 := (by omega); have y9 : i_60.toNatClampNeg = i_60.toInt.toNat := rfl; have hm := hsr_29_0; rw [y9] at hm; rw [hx, zFi_y (hm.mp (by omega)), ← hvi_60_0]; have zr := hsr_33_0; rw [y9] at zr; have zr2 : r_33.toInt = (zLv (zLn gki gpa gta npu.toInt.toNat nhu.toInt (gco 0).toInt (gco 1).toInt (gco 2).toInt 3) gki gpa gta (gco 0).toInt (zPw 4) nhu.toInt d.toInt sec.toInt) i_60.toInt.toNat := zr; omega)) (show x_37.toInt ≤ npu.toInt from by omega) (dw_lo hloi_60 qx_37) (dw_hn hni_60 qx_37)
                · have fc_36 : r_33.toInt < v_25.toInt := zf_nle c_36 rfl rfl
                  refine lv_iload hx hb dX8_leastCost_105 (lv_at hl 0 rfl) ?_
                  refine lv_goto (tgt := 112) hx hb dX8_leastCost_107 (by decide) ?_
                  refine lv_istore (lv' := [(4, .int r_33), (6, .int r_33), (5, .int i_60), (0, .ref m0), (1, .int 4), (2, .int d), (3, .int sec)]) hx hb dX8_leastCost_112 hl (by decide) rfl (fun ls hl => ?_)
                  obtain ⟨x_38, ex_38⟩ : ∃ y : Int32, y = i_60 + 1 := ⟨_, rfl⟩
                  have qx_38 : x_38.toInt = i_60.toInt + 1 := dw_inc ex_38 fc_27
                  refine lv_iinc (v := x_38) (lv' := [(5, .int x_38), (4, .int r_33), (6, .int r_33), (0, .ref m0), (1, .int 4), (2, .int d), (3, .int sec)]) hx hb dX8_leastCost_114 hl (k := 2) rfl ex_38.symm (by decide) rfl (fun ls hl => ?_)
                  refine lv_goto (tgt := 60) hx hb dX8_leastCost_117 (by decide) ?_
                  exact ih x_38 r_33 _ (lv_sub hl [0, 1, 3, 4, 5, 6] rfl) ⟨by omega, by omega⟩ (show (r_33 : Int32).toInt = zFi gta d.toInt sec.toInt (zPw 4 * zAt (gco 1).toInt (gco 2).toInt sec.toInt) (zLv (zLn gki gpa gta npu.toInt.toNat nhu.toInt (gco 0).toInt (gco 1).toInt (gco 2).toInt 3) gki gpa gta (gco 0).toInt (zPw 4) nhu.toInt d.toInt sec.toInt) x_38.toInt.toNat from by (have hx : x_38.toInt.toNat = i_60.toInt.toNat + 1 := (by omega); have y9 : i_60.toNatClampNeg = i_60.toInt.toNat := rfl; have hm := hsr_29_0; rw [y9] at hm; rw [hx, zFi_y (hm.mp (by omega)), ← hvi_60_0]; have zr := hsr_33_0; rw [y9] at zr; have zr2 : r_33.toInt = (zLv (zLn gki gpa gta npu.toInt.toNat nhu.toInt (gco 0).toInt (gco 1).toInt (gco 2).toInt 3) gki gpa gta (gco 0).toInt (zPw 4) nhu.toInt d.toInt sec.toInt) i_60.toInt.toNat := zr; omega)) (show x_38.toInt ≤ npu.toInt from by omega) (dw_lo hloi_60 qx_38) (dw_hn hni_60 qx_38)
              · have fc_32 : r_29.toInt = 0 := zf_eq c_32 rfl (by decide)
                refine lv_goto (tgt := 114) hx hb dX8_leastCost_84 (by decide) ?_
                obtain ⟨x_39, ex_39⟩ : ∃ y : Int32, y = i_60 + 1 := ⟨_, rfl⟩
                have qx_39 : x_39.toInt = i_60.toInt + 1 := dw_inc ex_39 fc_27
                refine lv_iinc (v := x_39) (lv' := [(5, .int x_39), (4, .int v_25), (0, .ref m0), (1, .int 4), (2, .int d), (3, .int sec)]) hx hb dX8_leastCost_114 hl (k := 0) rfl ex_39.symm (by decide) rfl (fun ls hl => ?_)
                refine lv_goto (tgt := 60) hx hb dX8_leastCost_117 (by decide) ?_
                exact ih x_39 v_25 _ (lv_sub hl [0, 1, 2, 3, 4, 5] rfl) hbv_25 (show (v_25 : Int32).toInt = zFi gta d.toInt sec.toInt (zPw 4 * zAt (gco 1).toInt (gco 2).toInt sec.toInt) (zLv (zLn gki gpa gta npu.toInt.toNat nhu.toInt (gco 0).toInt (gco 1).toInt (gco 2).toInt 3) gki gpa gta (gco 0).toInt (zPw 4) nhu.toInt d.toInt sec.toInt) x_39.toInt.toNat from by (have hx : x_39.toInt.toNat = i_60.toInt.toNat + 1 := (by omega); have y9 : i_60.toNatClampNeg = i_60.toInt.toNat := rfl; have hm := hsr_29_0; rw [y9] at hm; rw [hx, zFi_n (fun z => by (have z1 := hm.mpr z; omega))]; exact hvi_60_0)) (show x_39.toInt ≤ npu.toInt from by omega) (dw_lo hloi_60 qx_39) (dw_hn hni_60 qx_39)
      · have fc_24 : x_23.toInt < x_4.toInt := zf_nle c_24 rfl rfl
        refine lv_aload_n hx hb dX8_leastCost_43 rfl (lv_at hl 1 rfl) ?_
        refine va_get (D := D) (ci := 8) (v := .ref mco) (C := RX8) (T := TX8) (N := 38) hx hb hts hi_X8_leastCost_8 hown hK hP 0 rfl rfl 16 (by decide) (hts (.fieldLink RX8 44 "TheLiningsInItModel" "cost" "[I") (List.mem_of_getElem? (i := 1) rfl)) (fun _ h9 => h9) rfl dX8_leastCost_44 ?_
        refine lv_iconst (v := 1) hx hb dX8_leastCost_47 (by decide) ?_
        refine va_iald hx hb hK hP 4 0 rfl rfl (zf_in (by decide) (by decide)) dX8_leastCost_48 ?_
        refine lv_topi (fun y_40 ey_40 => ?_)
        obtain rfl : x_21 = y_40 := ex_21.trans ey_40.symm
        refine lv_aload_n hx hb dX8_leastCost_49 rfl (lv_at hl 1 rfl) ?_
        refine lv_iload_n hx hb dX8_leastCost_50 rfl (lv_at hl 2 rfl) ?_
        refine zc_V (As := [.int 4]) (rest := [.int x_21]) ⟨hx, hb, hml, hown, hts⟩ (c_M_power_4 l D cI cJ cZ cP cS po m0 mrf mki mpa mta mla msl mco mhe mso msi msh mce mca mwo mnu mte mwa mke mma mth mtr (npu) (nte) (nat_) (nde) (nto) (nse) (nhu) (nga) (nsd) (nfa) (nba) (npl) (nen) (nnu) (nwr) (nra) (nik) hy0 hy1 hy2 hy3 hy4 hy5 hy6 hy7 hy8 hy9 hy10 hy11 hy12 hy13) (cwV 1 hts gX8_leastCost_X8_power rfl rfl rfl ⟨rfl, dh_X8_power⟩ ⟨Nat.le_of_ble_eq_true rfl, Nat.le_of_ble_eq_true rfl⟩) hK hN hZ hP (hP.sub [0] rfl) (va_recv (q := (RX8, TX8, 38)) hK hP (ci := 8) (q0 := 0) rfl rfl) rfl hl.1 rfl (Nat.le_of_ble_eq_true rfl) dX8_leastCost_51 ⟨Nat.le_of_ble_eq_true rfl, Nat.le_of_ble_eq_true rfl⟩ (fun r_41 hr_41 => ?_)
        obtain rfl := hr_41
        refine lv_imul hx hb dX8_leastCost_54 ?_
        refine lv_topi (fun y_42 ey_42 => ?_)
        obtain rfl : x_23 = y_42 := ex_23.trans ey_42.symm
        refine lv_istore (lv' := [(4, .int x_23), (0, .ref m0), (1, .int 4), (2, .int d), (3, .int sec)]) hx hb dX8_leastCost_55 hl (by decide) rfl (fun ls hl => ?_)
        refine lv_iconst (v := 0) hx hb dX8_leastCost_57 (by decide) ?_
        refine lv_istore (lv' := [(5, .int 0), (4, .int x_23), (0, .ref m0), (1, .int 4), (2, .int d), (3, .int sec)]) hx hb dX8_leastCost_58 hl (by decide) rfl (fun ls hl => ?_)
        obtain ⟨i_60, hi_60⟩ : ∃ i : Int32, i = 0 := ⟨_, rfl⟩
        replace hl : lv_has ls 7 [(5, .int i_60), (4, .int x_23), (0, .ref m0), (1, .int 4), (2, .int d), (3, .int sec)] := by rw [hi_60]; exact lv_sub hl [0, 1, 2, 3, 4, 5] rfl
        have h1i_60 : i_60.toInt = 0 := by rw [hi_60]; decide
        obtain ⟨nfu, hni_60⟩ : ∃ nq9 : Nat, npu.toInt ≤ i_60.toInt + (nq9 : Int) := ⟨((npu.toInt : Int) - 0).toNat, by omega⟩
        have hloi_60 : 0 ≤ i_60.toInt := by omega
        obtain ⟨v_43, hv_43⟩ : ∃ g : Int32, g = x_23 := ⟨_, rfl⟩
        replace hl : lv_has ls 7 [(5, .int i_60), (4, .int v_43), (0, .ref m0), (1, .int 4), (2, .int d), (3, .int sec)] := by rw [hv_43]; exact hl
        have hbv_43 : 0 ≤ v_43.toInt ∧ v_43.toInt ≤ 2052864 := by rw [hv_43]; exact ⟨by omega, by omega⟩
        have hvi_60_0 : (v_43 : Int32).toInt = zFi gta d.toInt sec.toInt (zPw 4 * zAt (gco 1).toInt (gco 2).toInt sec.toInt) (zLv (zLn gki gpa gta npu.toInt.toNat nhu.toInt (gco 0).toInt (gco 1).toInt (gco 2).toInt 3) gki gpa gta (gco 0).toInt (zPw 4) nhu.toInt d.toInt sec.toInt) i_60.toInt.toNat := by
          (try rw [hi_60]); (try rw [hv_43]); (rw [(show ((0 : Int32).toInt.toNat) = 0 from by decide)]; show _ = zPw 4 * zAt (gco 1).toInt (gco 2).toInt sec.toInt; (have nx_2 : (gco 2).toInt = x_2.toInt := (by rw [ex_2, show (2 : Int32).toNatClampNeg = 2 from by decide]); have nx_21 : (gco 1).toInt = x_21.toInt := (by rw [ex_21, show (1 : Int32).toNatClampNeg = 1 from by decide]); unfold zAt; rw [show zPw 4 = 20736 from by decide]; first | (rw [if_pos (by omega)]; omega) | (rw [if_neg (by omega)]; omega)))
        have hvi_60_1 : i_60.toInt ≤ npu.toInt := by
          (try rw [hi_60]); (try rw [hv_43]); (have k0 : (0 : Int32).toInt = 0 := (by decide); omega)
        clear h1i_60 hi_60 hv_43
        revert hni_60
        revert hloi_60
        revert hvi_60_1
        revert hvi_60_0
        revert hbv_43
        revert hl
        revert ls
        revert v_43
        revert i_60
        induction nfu with
        | zero =>
          intro i_60 v_43 ls hl hbv_43 hvi_60_0 hvi_60_1 hloi_60 hni_60
          have hzi_60 : npu.toInt ≤ i_60.toInt := by omega
          refine lv_iload hx hb dX8_leastCost_60 (lv_at hl 0 rfl) ?_
          refine lv_aload_n hx hb dX8_leastCost_62 rfl (lv_at hl 2 rfl) ?_
          refine va_get (D := D) (ci := 8) (v := .int npu) (C := RX8) (T := TX8) (N := 38) hx hb hts hi_X8_leastCost_8 hown hK hP 0 rfl rfl 0 (by decide) (hts (.fieldLink RX8 90 "TheLiningsInItModel" "pulls" "I") (List.mem_of_getElem? (i := 2) rfl)) (fun _ h9 => h9) rfl dX8_leastCost_63 ?_
          refine lv_icmp_ge (tgt := 120) hx hb dX8_leastCost_66 (by decide) (fun c_44 => ?_) (fun c_44 => ?_)
          · have fc_44 : npu.toInt ≤ i_60.toInt := zf_le c_44 rfl rfl
            refine lv_iload hx hb dX8_leastCost_120 (lv_at hl 1 rfl) ?_
            exact W.iret (v := v_43) hx hb hr (fun t ht hW => ⟨v_43, rfl, ⟨by omega, by omega, (show (v_43 : Int32).toInt = (zLn gki gpa gta npu.toInt.toNat nhu.toInt (gco 0).toInt (gco 1).toInt (gco 2).toInt 4) d.toInt sec.toInt from by (have h9 : i_60.toInt.toNat = npu.toInt.toNat := (by omega); have z := hvi_60_0; rw [h9] at z; rw [zLn_s, if_neg (by omega)]; exact z))⟩, ht⟩) (fun q hq => by cases hq) dX8_leastCost_122
          · exfalso; have fc_44 : i_60.toInt < npu.toInt := zf_nle c_44 rfl rfl; omega
        | succ nfu ih =>
          intro i_60 v_43 ls hl hbv_43 hvi_60_0 hvi_60_1 hloi_60 hni_60
          refine lv_iload hx hb dX8_leastCost_60 (lv_at hl 0 rfl) ?_
          refine lv_aload_n hx hb dX8_leastCost_62 rfl (lv_at hl 2 rfl) ?_
          refine va_get (D := D) (ci := 8) (v := .int npu) (C := RX8) (T := TX8) (N := 38) hx hb hts hi_X8_leastCost_8 hown hK hP 0 rfl rfl 0 (by decide) (hts (.fieldLink RX8 90 "TheLiningsInItModel" "pulls" "I") (List.mem_of_getElem? (i := 2) rfl)) (fun _ h9 => h9) rfl dX8_leastCost_63 ?_
          refine lv_icmp_ge (tgt := 120) hx hb dX8_leastCost_66 (by decide) (fun c_45 => ?_) (fun c_45 => ?_)
          · have fc_45 : npu.toInt ≤ i_60.toInt := zf_le c_45 rfl rfl
            refine lv_iload hx hb dX8_leastCost_120 (lv_at hl 1 rfl) ?_
            exact W.iret (v := v_43) hx hb hr (fun t ht hW => ⟨v_43, rfl, ⟨by omega, by omega, (show (v_43 : Int32).toInt = (zLn gki gpa gta npu.toInt.toNat nhu.toInt (gco 0).toInt (gco 1).toInt (gco 2).toInt 4) d.toInt sec.toInt from by (have h9 : i_60.toInt.toNat = npu.toInt.toNat := (by omega); have z := hvi_60_0; rw [h9] at z; rw [zLn_s, if_neg (by omega)]; exact z))⟩, ht⟩) (fun q hq => by cases hq) dX8_leastCost_122
          · have fc_45 : i_60.toInt < npu.toInt := zf_nle c_45 rfl rfl
            refine lv_iload_n hx hb dX8_leastCost_69 rfl (lv_at hl 3 rfl) ?_
            refine lv_if_le (tgt := 120) hx hb dX8_leastCost_70 (by decide) (fun c_46 => ?_) (fun c_46 => ?_)
            · exact absurd c_46 (by decide)
            · refine lv_aload_n hx hb dX8_leastCost_73 rfl (lv_at hl 2 rfl) ?_
              refine lv_iload hx hb dX8_leastCost_74 (lv_at hl 0 rfl) ?_
              refine lv_iload_n hx hb dX8_leastCost_76 rfl (lv_at hl 4 rfl) ?_
              refine lv_iload_n hx hb dX8_leastCost_77 rfl (lv_at hl 5 rfl) ?_
              refine zc_V (As := [.int i_60, .int d, .int sec]) (rest := []) ⟨hx, hb, hml, hown, hts⟩ (c_F_M_mayBe l D cI cJ cZ cP cS po m0 mrf mki mpa mta mla msl mco mhe mso msi msh mce mca mwo mnu mte mwa mke mma mth mtr (npu) (nte) (nat_) (nde) (nto) (nse) (nhu) (nga) (nsd) (nfa) (nba) (npl) (nen) (nnu) (nwr) (nra) (nik) gta (i_60) (d) (sec) hy0 hy1 hy2 hy3 hy4 hy5 hy6 hy7 hy8 hy9 hy10 hy11 hy12 hy13 (by omega) (by omega) hp_gta) (cwV 3 hts gX8_leastCost_X8_mayBe rfl rfl rfl ⟨rfl, dh_X8_mayBe⟩ ⟨Nat.le_of_ble_eq_true rfl, Nat.le_of_ble_eq_true rfl⟩) hK hN hZ hP (hP.sub [0, 3] rfl) (va_recv (q := (RX8, TX8, 38)) hK hP (ci := 8) (q0 := 0) rfl rfl) rfl hl.1 rfl (Nat.le_of_ble_eq_true rfl) dX8_leastCost_78 ⟨Nat.le_of_ble_eq_true rfl, Nat.le_of_ble_eq_true rfl⟩ (fun r_47 hr_47 => ?_)
              obtain ⟨g_48, g_49, hsr_47_0⟩ := hr_47
              refine lv_if_ne (tgt := 87) hx hb dX8_leastCost_81 (by decide) (fun c_50 => ?_) (fun c_50 => ?_)
              · have fc_50 : r_47.toInt ≠ 0 := zf_ne c_50 rfl (by decide)
                have htl9 : (gta i_60.toNatClampNeg).toInt ≤ sec.toInt := (hsr_47_0.mp (by omega)).2
                refine lv_aload_n hx hb dX8_leastCost_87 rfl (lv_at hl 2 rfl) ?_
                refine lv_iload hx hb dX8_leastCost_88 (lv_at hl 0 rfl) ?_
                refine lv_iload_n hx hb dX8_leastCost_90 rfl (lv_at hl 3 rfl) ?_
                refine lv_iload_n hx hb dX8_leastCost_91 rfl (lv_at hl 4 rfl) ?_
                refine lv_iload_n hx hb dX8_leastCost_92 rfl (lv_at hl 5 rfl) ?_
                refine zc_V (As := [.int i_60, .int 4, .int d, .int sec]) (rest := []) ⟨hx, hb, hml, hown, hts⟩ (c_F_M_costBy_4 l D cI cJ cZ cP cS po m0 mrf mki mpa mta mla msl mco mhe mso msi msh mce mca mwo mnu mte mwa mke mma mth mtr (npu) (nte) (nat_) (nde) (nto) (nse) (nhu) (nga) (nsd) (nfa) (nba) (npl) (nen) (nnu) (nwr) (nra) (nik) gki gpa gta gco (i_60) (d) (sec) hy0 hy1 hy2 hy3 hy4 hy5 hy6 hy7 hy8 hy9 hy10 hy11 hy12 hy13 (by omega) (by omega) hy14 hy15 hy16 hy17 (by first | assumption | omega) hp_gki hp_gpa hp_gta hp_gco) (cwV 4 hts gX8_leastCost_X8_costBy rfl rfl rfl ⟨rfl, dh_X8_costBy⟩ ⟨Nat.le_of_ble_eq_true rfl, Nat.le_of_ble_eq_true rfl⟩) hK hN hZ hP (hP.sub [0, 1, 2, 3, 4] rfl) (va_recv (q := (RX8, TX8, 38)) hK hP (ci := 8) (q0 := 0) rfl rfl) rfl hl.1 rfl (Nat.le_of_ble_eq_true rfl) dX8_leastCost_93 ⟨Nat.le_of_ble_eq_true rfl, Nat.le_of_ble_eq_true rfl⟩ (fun r_51 hr_51 => ?_)
                obtain ⟨g_52, g_53, hsr_51_0⟩ := hr_51
                refine lv_istore (lv' := [(6, .int r_51), (5, .int i_60), (4, .int v_43), (0, .ref m0), (1, .int 4), (2, .int d), (3, .int sec)]) hx hb dX8_leastCost_96 hl (by decide) rfl (fun ls hl => ?_)
                refine lv_iload hx hb dX8_leastCost_98 (lv_at hl 0 rfl) ?_
                refine lv_iload hx hb dX8_leastCost_100 (lv_at hl 2 rfl) ?_
                refine lv_icmp_ge (tgt := 110) hx hb dX8_leastCost_102 (by decide) (fun c_54 => ?_) (fun c_54 => ?_)
                · have fc_54 : v_43.toInt ≤ r_51.toInt := zf_le c_54 rfl rfl
                  refine lv_iload hx hb dX8_leastCost_110 (lv_at hl 2 rfl) ?_
                  refine lv_istore (lv' := [(4, .int v_43), (6, .int r_51), (5, .int i_60), (0, .ref m0), (1, .int 4), (2, .int d), (3, .int sec)]) hx hb dX8_leastCost_112 hl (by decide) rfl (fun ls hl => ?_)
                  obtain ⟨x_55, ex_55⟩ : ∃ y : Int32, y = i_60 + 1 := ⟨_, rfl⟩
                  have qx_55 : x_55.toInt = i_60.toInt + 1 := dw_inc ex_55 fc_45
                  refine lv_iinc (v := x_55) (lv' := [(5, .int x_55), (4, .int v_43), (6, .int r_51), (0, .ref m0), (1, .int 4), (2, .int d), (3, .int sec)]) hx hb dX8_leastCost_114 hl (k := 2) rfl ex_55.symm (by decide) rfl (fun ls hl => ?_)
                  refine lv_goto (tgt := 60) hx hb dX8_leastCost_117 (by decide) ?_
                  exact ih x_55 v_43 _ (lv_sub hl [0, 1, 3, 4, 5, 6] rfl) hbv_43 (show (v_43 : Int32).toInt = zFi gta d.toInt sec.toInt (zPw 4 * zAt (gco 1).toInt (gco 2).toInt sec.toInt) (zLv (zLn gki gpa gta npu.toInt.toNat nhu.toInt (gco 0).toInt (gco 1).toInt (gco 2).toInt 3) gki gpa gta (gco 0).toInt (zPw 4) nhu.toInt d.toInt sec.toInt) x_55.toInt.toNat from by (have hx : x_55.toInt.toNat = i_60.toInt.toNat + 1 := (by omega); have y9 : i_60.toNatClampNeg = i_60.toInt.toNat := rfl; have hm := hsr_47_0; rw [y9] at hm; rw [hx, zFi_y (hm.mp (by omega)), ← hvi_60_0]; have zr := hsr_51_0; rw [y9] at zr; have zr2 : r_51.toInt = (zLv (zLn gki gpa gta npu.toInt.toNat nhu.toInt (gco 0).toInt (gco 1).toInt (gco 2).toInt 3) gki gpa gta (gco 0).toInt (zPw 4) nhu.toInt d.toInt sec.toInt) i_60.toInt.toNat := zr; omega)) (show x_55.toInt ≤ npu.toInt from by omega) (dw_lo hloi_60 qx_55) (dw_hn hni_60 qx_55)
                · have fc_54 : r_51.toInt < v_43.toInt := zf_nle c_54 rfl rfl
                  refine lv_iload hx hb dX8_leastCost_105 (lv_at hl 0 rfl) ?_
                  refine lv_goto (tgt := 112) hx hb dX8_leastCost_107 (by decide) ?_
                  refine lv_istore (lv' := [(4, .int r_51), (6, .int r_51), (5, .int i_60), (0, .ref m0), (1, .int 4), (2, .int d), (3, .int sec)]) hx hb dX8_leastCost_112 hl (by decide) rfl (fun ls hl => ?_)
                  obtain ⟨x_56, ex_56⟩ : ∃ y : Int32, y = i_60 + 1 := ⟨_, rfl⟩
                  have qx_56 : x_56.toInt = i_60.toInt + 1 := dw_inc ex_56 fc_45
                  refine lv_iinc (v := x_56) (lv' := [(5, .int x_56), (4, .int r_51), (6, .int r_51), (0, .ref m0), (1, .int 4), (2, .int d), (3, .int sec)]) hx hb dX8_leastCost_114 hl (k := 2) rfl ex_56.symm (by decide) rfl (fun ls hl => ?_)
                  refine lv_goto (tgt := 60) hx hb dX8_leastCost_117 (by decide) ?_
                  exact ih x_56 r_51 _ (lv_sub hl [0, 1, 3, 4, 5, 6] rfl) ⟨by omega, by omega⟩ (show (r_51 : Int32).toInt = zFi gta d.toInt sec.toInt (zPw 4 * zAt (gco 1).toInt (gco 2).toInt sec.toInt) (zLv (zLn gki gpa gta npu.toInt.toNat nhu.toInt (gco 0).toInt (gco 1).toInt (gco 2).toInt 3) gki gpa gta (gco 0).toInt (zPw 4) nhu.toInt d.toInt sec.toInt) x_56.toInt.toNat from by (have hx : x_56.toInt.toNat = i_60.toInt.toNat + 1 := (by omega); have y9 : i_60.toNatClampNeg = i_60.toInt.toNat := rfl; have hm := hsr_47_0; rw [y9] at hm; rw [hx, zFi_y (hm.mp (by omega)), ← hvi_60_0]; have zr := hsr_51_0; rw [y9] at zr; have zr2 : r_51.toInt = (zLv (zLn gki gpa gta npu.toInt.toNat nhu.toInt (gco 0).toInt (gco 1).toInt (gco 2).toInt 3) gki gpa gta (gco 0).toInt (zPw 4) nhu.toInt d.toInt sec.toInt) i_60.toInt.toNat := zr; omega)) (show x_56.toInt ≤ npu.toInt from by omega) (dw_lo hloi_60 qx_56) (dw_hn hni_60 qx_56)
              · have fc_50 : r_47.toInt = 0 := zf_eq c_50 rfl (by decide)
                refine lv_goto (tgt := 114) hx hb dX8_leastCost_84 (by decide) ?_
                obtain ⟨x_57, ex_57⟩ : ∃ y : Int32, y = i_60 + 1 := ⟨_, rfl⟩
                have qx_57 : x_57.toInt = i_60.toInt + 1 := dw_inc ex_57 fc_45
                refine lv_iinc (v := x_57) (lv' := [(5, .int x_57), (4, .int v_43), (0, .ref m0), (1, .int 4), (2, .int d), (3, .int sec)]) hx hb dX8_leastCost_114 hl (k := 0) rfl ex_57.symm (by decide) rfl (fun ls hl => ?_)
                refine lv_goto (tgt := 60) hx hb dX8_leastCost_117 (by decide) ?_
                exact ih x_57 v_43 _ (lv_sub hl [0, 1, 2, 3, 4, 5] rfl) hbv_43 (show (v_43 : Int32).toInt = zFi gta d.toInt sec.toInt (zPw 4 * zAt (gco 1).toInt (gco 2).toInt sec.toInt) (zLv (zLn gki gpa gta npu.toInt.toNat nhu.toInt (gco 0).toInt (gco 1).toInt (gco 2).toInt 3) gki gpa gta (gco 0).toInt (zPw 4) nhu.toInt d.toInt sec.toInt) x_57.toInt.toNat from by (have hx : x_57.toInt.toNat = i_60.toInt.toNat + 1 := (by omega); have y9 : i_60.toNatClampNeg = i_60.toInt.toNat := rfl; have hm := hsr_47_0; rw [y9] at hm; rw [hx, zFi_n (fun z => by (have z1 := hm.mpr z; omega))]; exact hvi_60_0)) (show x_57.toInt ≤ npu.toInt from by omega) (dw_lo hloi_60 qx_57) (dw_hn hni_60 qx_57)
  · have fc_1 : d.toInt = 0 := zf_eq c_1 rfl (by decide)
    refine lv_iconst (v := 0) hx hb dX8_leastCost_4 (by decide) ?_
    exact W.iret (v := 0) hx hb hr (fun t ht hW => ⟨0, rfl, ⟨by decide, by decide, (show (0 : Int32).toInt = (zLn gki gpa gta npu.toInt.toNat nhu.toInt (gco 0).toInt (gco 1).toInt (gco 2).toInt 4) d.toInt sec.toInt from by (have k9 : (0 : Int32).toInt = 0 := (by decide); rw [zLn_s, if_pos (by omega)]; exact k9))⟩, ht⟩) (fun q hq => by cases hq) dX8_leastCost_5
end
section
set_option maxHeartbeats 4000000 in
set_option maxRecDepth 100000 in
theorem c_F_M_firstOf_0 (l : Launch) (D : va_G) (cI cJ cZ cP cS : ClassId) (po : zPool) (m0 mrf mki mpa mta mla msl mco mhe mso msi msh mce mca mwo mnu mte mwa mke mma mth mtr : Nat) (npu nte nat_ nde nto nse nhu nga nsd nfa nba npl nen nnu nwr nra nik : Int32) (gki gpa gta gco : Nat → Int32) (hy0 : 0 ≤ npu.toInt) (hy1 : npu.toInt ≤ 8) (hy2 : 4 ≤ nte.toInt) (hy3 : nte.toInt ≤ 40) (hy4 : 0 ≤ nat_.toInt) (hy5 : nat_.toInt ≤ 40) (hy6 : 0 ≤ nde.toInt) (hy7 : nde.toInt ≤ 24) (hy8 : 0 ≤ nhu.toInt) (hy9 : nhu.toInt ≤ 9) (hy10 : 0 ≤ nra.toInt) (hy11 : nra.toInt ≤ 2000) (hy12 : 0 ≤ nik.toInt) (hy13 : nik.toInt ≤ 1) (hy14 : 0 ≤ nse.toInt) (hy15 : nse.toInt ≤ 300) (hp_gki : zRg gki (0) 6) (hp_gpa : zRg gpa (0) 9) (hp_gta : zRg gta (0) 60) (hp_gco : zRg gco (0) 99) : Met l yX8_firstOf wsX8_firstOf ({ frames := 2, cells := 0, slots := 0, locals := 47 }) (va_Pc [.ref m0, .int 0] (zR D (zKT cI cJ cZ cP cS) po [(zMO m0 npu nte nat_ nde nto nse nhu nga nsd nfa mrf mki mpa mta mla msl mco mhe mso msi msh mce mca mwo mnu mte nba npl nen nnu nwr mwa mke mma mth mtr nra nik), (mki, .inl (cI, 8, .inl gki)), (mpa, .inl (cI, 8, .inl gpa)), (mta, .inl (cI, 8, .inl gta)), (mco, .inl (cI, 3, .inl gco))])) (vp_Si (fun r => -1 ≤ r.toInt ∧ r.toInt ≤ 101 ∧ (r.toInt = zLr gki gpa gta npu.toInt.toNat nhu.toInt (gco 0).toInt (gco 1).toInt (gco 2).toInt 0 nde.toInt nse.toInt))) 0 0 (fun _ => False) := by
  refine Met.ofW (cc := cX8_firstOf) (maxL := 4) (ret := (some .int)) (by decide) rfl ?_
  intro p e s m args below meth c s₁ B hml hv
  obtain ⟨rfl, hP, hK, hN, hZ⟩ := hv
  have hx := B.exec
  have hb := B.bytes
  have hr := B.returns
  have hts := atoms_spec (ws := wsX8_firstOf) B.pre
  have hown : s.vm.findClass RX8 = some m.cls := findClass_of_methodNamed B.named
  have hlocks := B.notSynchronized
  have hl := lv_entry ([.ref m0, .int 0]) (n := 4) (Nat.le_of_ble_eq_true rfl)
  rw [lg_entry_eq]
  generalize (lg_sl ([.ref m0, .int 0]) ++ List.replicate (4 - (lg_sl ([.ref m0, .int 0])).length) Slot.unset).toArray = ls at hl ⊢
  replace hl : lv_has ls 4 [(0, .ref m0), (1, .int 0)] := hl
  refine lv_aload_n hx hb dX8_firstOf_0 rfl (lv_at hl 0 rfl) ?_
  refine va_get (D := D) (ci := 8) (v := .int nde) (C := RX8) (T := TX8) (N := 38) hx hb hts hi_X8_firstOf_8 hown hK hP 0 rfl rfl 3 (by decide) (hts (.fieldLink RX8 115 "TheLiningsInItModel" "depth" "I") (List.mem_of_getElem? (i := 1) rfl)) (fun _ h9 => h9) rfl dX8_firstOf_1 ?_
  refine lv_if_ne (tgt := 9) hx hb dX8_firstOf_4 (by decide) (fun c_1 => ?_) (fun c_1 => ?_)
  · have fc_1 : nde.toInt ≠ 0 := zf_ne c_1 rfl (by decide)
    refine lv_aload_n hx hb dX8_firstOf_9 rfl (lv_at hl 0 rfl) ?_
    refine lv_iload_n hx hb dX8_firstOf_10 rfl (lv_at hl 1 rfl) ?_
    refine lv_aload_n hx hb dX8_firstOf_11 rfl (lv_at hl 0 rfl) ?_
    refine va_get (D := D) (ci := 8) (v := .int nde) (C := RX8) (T := TX8) (N := 38) hx hb hts hi_X8_firstOf_8 hown hK hP 0 rfl rfl 3 (by decide) (hts (.fieldLink RX8 115 "TheLiningsInItModel" "depth" "I") (List.mem_of_getElem? (i := 1) rfl)) (fun _ h9 => h9) rfl dX8_firstOf_12 ?_
    refine lv_aload_n hx hb dX8_firstOf_15 rfl (lv_at hl 0 rfl) ?_
    refine va_get (D := D) (ci := 8) (v := .int nse) (C := RX8) (T := TX8) (N := 38) hx hb hts hi_X8_firstOf_8 hown hK hP 0 rfl rfl 5 (by decide) (hts (.fieldLink RX8 13 "TheLiningsInItModel" "seconds" "I") (List.mem_of_getElem? (i := 2) rfl)) (fun _ h9 => h9) rfl dX8_firstOf_16 ?_
    refine zc_V (As := [.int 0, .int nde, .int nse]) (rest := []) ⟨hx, hb, hml, hown, hts⟩ (c_F_M_leastCost_0 l D cI cJ cZ cP cS po m0 mrf mki mpa mta mla msl mco mhe mso msi msh mce mca mwo mnu mte mwa mke mma mth mtr (npu) (nte) (nat_) (nde) (nto) (nse) (nhu) (nga) (nsd) (nfa) (nba) (npl) (nen) (nnu) (nwr) (nra) (nik) gki gpa gta gco (nde) (nse) hy0 hy1 hy2 hy3 hy4 hy5 hy6 hy7 hy8 hy9 hy10 hy11 hy12 hy13 hy6 hy7 hy14 hy15 hp_gki hp_gpa hp_gta hp_gco) (cwV 3 hts gX8_firstOf_X8_leastCost rfl rfl rfl ⟨rfl, dh_X8_leastCost⟩ ⟨Nat.le_of_ble_eq_true rfl, Nat.le_of_ble_eq_true rfl⟩) hK hN hZ hP (hP.sub [0, 1, 2, 3, 4] rfl) (va_recv (q := (RX8, TX8, 38)) hK hP (ci := 8) (q0 := 0) rfl rfl) rfl hl.1 rfl (Nat.le_of_ble_eq_true rfl) dX8_firstOf_19 ⟨Nat.le_of_ble_eq_true rfl, Nat.le_of_ble_eq_true rfl⟩ (fun r_2 hr_2 => ?_)
    obtain ⟨g_3, g_4, hsr_2_0⟩ := hr_2
    refine lv_istore_n (lv' := [(2, .int r_2), (0, .ref m0), (1, .int 0)]) hx hb dX8_firstOf_22 rfl hl (by decide) rfl (fun ls hl => ?_)
    refine lv_iconst (v := 0) hx hb dX8_firstOf_23 (by decide) ?_
    refine lv_istore_n (lv' := [(3, .int 0), (2, .int r_2), (0, .ref m0), (1, .int 0)]) hx hb dX8_firstOf_24 rfl hl (by decide) rfl (fun ls hl => ?_)
    refine lv_iload_n hx hb dX8_firstOf_25 rfl (lv_at hl 0 rfl) ?_
    refine lv_aload_n hx hb dX8_firstOf_26 rfl (lv_at hl 2 rfl) ?_
    refine va_get (D := D) (ci := 8) (v := .int npu) (C := RX8) (T := TX8) (N := 38) hx hb hts hi_X8_firstOf_8 hown hK hP 0 rfl rfl 0 (by decide) (hts (.fieldLink RX8 90 "TheLiningsInItModel" "pulls" "I") (List.mem_of_getElem? (i := 3) rfl)) (fun _ h9 => h9) rfl dX8_firstOf_27 ?_
    refine lv_icmp_ge (tgt := 79) hx hb dX8_firstOf_30 (by decide) (fun c_5 => ?_) (fun c_5 => ?_)
    · have fc_5 : npu.toInt ≤ 0 := zf_le c_5 rfl (by decide)
      refine lv_aload_n hx hb dX8_firstOf_79 rfl (lv_at hl 2 rfl) ?_
      refine va_get (D := D) (ci := 8) (v := .int nse) (C := RX8) (T := TX8) (N := 38) hx hb hts hi_X8_firstOf_8 hown hK hP 0 rfl rfl 5 (by decide) (hts (.fieldLink RX8 13 "TheLiningsInItModel" "seconds" "I") (List.mem_of_getElem? (i := 2) rfl)) (fun _ h9 => h9) rfl dX8_firstOf_80 ?_
      refine lv_bipush (v := 30) hx hb dX8_firstOf_83 (by decide) ?_
      refine lv_icmp_lt (tgt := 109) hx hb dX8_firstOf_85 (by decide) (fun c_6 => ?_) (fun c_6 => ?_)
      · have fc_6 : nse.toInt < 30 := zf_lt c_6 rfl (by decide)
        refine lv_bipush (v := 100) hx hb dX8_firstOf_109 (by decide) ?_
        exact W.iret (v := 100) hx hb hr (fun t ht hW => ⟨100, rfl, ⟨by decide, by decide, (show (100 : Int32).toInt = zLr gki gpa gta npu.toInt.toNat nhu.toInt (gco 0).toInt (gco 1).toInt (gco 2).toInt 0 nde.toInt nse.toInt from by (have k1 : (101 : Int32).toInt = 101 := (by decide); have k2 : (100 : Int32).toInt = 100 := (by decide); have zl := hsr_2_0; have hL : zLn gki gpa gta npu.toInt.toNat nhu.toInt (gco 0).toInt (gco 1).toInt (gco 2).toInt 0 nde.toInt nse.toInt = zPw 0 * zAt (gco 1).toInt (gco 2).toInt nse.toInt := (by rw [zLn_0, if_neg (by omega)]); have hh := zHead (P := zPw 0) (c1 := (gco 1).toInt) (c2 := (gco 2).toInt) (s := nse.toInt) (zPw_pos 0); rw [← hL, ← zl, show zPw 0 = 1 from by decide] at hh; unfold zLr; rw [if_neg (by omega), if_pos (Or.inl rfl : (0 : Nat) = 0 ∨ _)]; first | (rw [if_neg (fun z => by (have z2 := hh.mpr z; have z3 := z2.2; have z4 := z2.1; omega))]; omega) | (rw [if_pos (hh.mp ⟨by omega, by omega⟩)]; omega)))⟩, ht⟩) (fun q hq => by cases hq) dX8_firstOf_111
      · have fc_6 : 30 ≤ nse.toInt := zf_nlt c_6 rfl (by decide)
        refine lv_aload_n hx hb dX8_firstOf_88 rfl (lv_at hl 2 rfl) ?_
        refine va_get (D := D) (ci := 8) (v := .ref mco) (C := RX8) (T := TX8) (N := 38) hx hb hts hi_X8_firstOf_8 hown hK hP 0 rfl rfl 16 (by decide) (hts (.fieldLink RX8 44 "TheLiningsInItModel" "cost" "[I") (List.mem_of_getElem? (i := 4) rfl)) (fun _ h9 => h9) rfl dX8_firstOf_89 ?_
        refine lv_iconst (v := 1) hx hb dX8_firstOf_92 (by decide) ?_
        refine va_iald hx hb hK hP 4 0 rfl rfl (zf_in (by decide) (by decide)) dX8_firstOf_93 ?_
        refine lv_topi (fun x_7 ex_7 => ?_)
        have bx_7 : 0 ≤ x_7.toInt ∧ x_7.toInt ≤ 99 := by rw [ex_7]; exact hp_gco _
        refine lv_aload_n hx hb dX8_firstOf_94 rfl (lv_at hl 2 rfl) ?_
        refine lv_iload_n hx hb dX8_firstOf_95 rfl (lv_at hl 3 rfl) ?_
        refine zc_V (As := [.int 0]) (rest := [.int x_7]) ⟨hx, hb, hml, hown, hts⟩ (c_M_power_0 l D cI cJ cZ cP cS po m0 mrf mki mpa mta mla msl mco mhe mso msi msh mce mca mwo mnu mte mwa mke mma mth mtr (npu) (nte) (nat_) (nde) (nto) (nse) (nhu) (nga) (nsd) (nfa) (nba) (npl) (nen) (nnu) (nwr) (nra) (nik) hy0 hy1 hy2 hy3 hy4 hy5 hy6 hy7 hy8 hy9 hy10 hy11 hy12 hy13) (cwV 1 hts gX8_firstOf_X8_power rfl rfl rfl ⟨rfl, dh_X8_power⟩ ⟨Nat.le_of_ble_eq_true rfl, Nat.le_of_ble_eq_true rfl⟩) hK hN hZ hP (hP.sub [0] rfl) (va_recv (q := (RX8, TX8, 38)) hK hP (ci := 8) (q0 := 0) rfl rfl) rfl hl.1 rfl (Nat.le_of_ble_eq_true rfl) dX8_firstOf_96 ⟨Nat.le_of_ble_eq_true rfl, Nat.le_of_ble_eq_true rfl⟩ (fun r_8 hr_8 => ?_)
        obtain rfl := hr_8
        refine lv_imul hx hb dX8_firstOf_99 ?_
        refine lv_topi (fun x_9 ex_9 => ?_)
        have qx_9 : x_9.toInt = x_7.toInt * 1 := by rw [ex_9]; exact zf_mul rfl (by decide) (by omega) (by omega)
        refine lv_iload_n hx hb dX8_firstOf_100 rfl (lv_at hl 1 rfl) ?_
        refine lv_icmp_ne (tgt := 109) hx hb dX8_firstOf_101 (by decide) (fun c_10 => ?_) (fun c_10 => ?_)
        · have fc_10 : x_9.toInt ≠ r_2.toInt := zf_ne c_10 rfl rfl
          refine lv_bipush (v := 100) hx hb dX8_firstOf_109 (by decide) ?_
          exact W.iret (v := 100) hx hb hr (fun t ht hW => ⟨100, rfl, ⟨by decide, by decide, (show (100 : Int32).toInt = zLr gki gpa gta npu.toInt.toNat nhu.toInt (gco 0).toInt (gco 1).toInt (gco 2).toInt 0 nde.toInt nse.toInt from by (have k1 : (101 : Int32).toInt = 101 := (by decide); have k2 : (100 : Int32).toInt = 100 := (by decide); have nx_7 : (gco 1).toInt = x_7.toInt := (by rw [ex_7, show (1 : Int32).toNatClampNeg = 1 from by decide]); have zl := hsr_2_0; have hL : zLn gki gpa gta npu.toInt.toNat nhu.toInt (gco 0).toInt (gco 1).toInt (gco 2).toInt 0 nde.toInt nse.toInt = zPw 0 * zAt (gco 1).toInt (gco 2).toInt nse.toInt := (by rw [zLn_0, if_neg (by omega)]); have hh := zHead (P := zPw 0) (c1 := (gco 1).toInt) (c2 := (gco 2).toInt) (s := nse.toInt) (zPw_pos 0); rw [← hL, ← zl, show zPw 0 = 1 from by decide] at hh; unfold zLr; rw [if_neg (by omega), if_pos (Or.inl rfl : (0 : Nat) = 0 ∨ _)]; first | (rw [if_neg (fun z => by (have z2 := hh.mpr z; have z3 := z2.2; have z4 := z2.1; omega))]; omega) | (rw [if_pos (hh.mp ⟨by omega, by omega⟩)]; omega)))⟩, ht⟩) (fun q hq => by cases hq) dX8_firstOf_111
        · have fc_10 : x_9.toInt = r_2.toInt := zf_eq c_10 rfl rfl
          refine lv_bipush (v := 101) hx hb dX8_firstOf_104 (by decide) ?_
          refine lv_goto (tgt := 111) hx hb dX8_firstOf_106 (by decide) ?_
          exact W.iret (v := 101) hx hb hr (fun t ht hW => ⟨101, rfl, ⟨by decide, by decide, (show (101 : Int32).toInt = zLr gki gpa gta npu.toInt.toNat nhu.toInt (gco 0).toInt (gco 1).toInt (gco 2).toInt 0 nde.toInt nse.toInt from by (have k1 : (101 : Int32).toInt = 101 := (by decide); have k2 : (100 : Int32).toInt = 100 := (by decide); have nx_7 : (gco 1).toInt = x_7.toInt := (by rw [ex_7, show (1 : Int32).toNatClampNeg = 1 from by decide]); have zl := hsr_2_0; have hL : zLn gki gpa gta npu.toInt.toNat nhu.toInt (gco 0).toInt (gco 1).toInt (gco 2).toInt 0 nde.toInt nse.toInt = zPw 0 * zAt (gco 1).toInt (gco 2).toInt nse.toInt := (by rw [zLn_0, if_neg (by omega)]); have hh := zHead (P := zPw 0) (c1 := (gco 1).toInt) (c2 := (gco 2).toInt) (s := nse.toInt) (zPw_pos 0); rw [← hL, ← zl, show zPw 0 = 1 from by decide] at hh; unfold zLr; rw [if_neg (by omega), if_pos (Or.inl rfl : (0 : Nat) = 0 ∨ _)]; first | (rw [if_pos (hh.mp ⟨by omega, by omega⟩)]; omega) | (rw [if_neg (fun z => by (have z2 := hh.mpr z; have z3 := z2.2; have z4 := z2.1; omega))]; omega)))⟩, ht⟩) (fun q hq => by cases hq) dX8_firstOf_111
    · have fc_5 : 0 < npu.toInt := zf_nle c_5 rfl (by decide)
      refine lv_iload_n hx hb dX8_firstOf_33 rfl (lv_at hl 3 rfl) ?_
      refine lv_if_le (tgt := 79) hx hb dX8_firstOf_34 (by decide) (fun c_11 => ?_) (fun c_11 => ?_)
      · refine lv_aload_n hx hb dX8_firstOf_79 rfl (lv_at hl 2 rfl) ?_
        refine va_get (D := D) (ci := 8) (v := .int nse) (C := RX8) (T := TX8) (N := 38) hx hb hts hi_X8_firstOf_8 hown hK hP 0 rfl rfl 5 (by decide) (hts (.fieldLink RX8 13 "TheLiningsInItModel" "seconds" "I") (List.mem_of_getElem? (i := 2) rfl)) (fun _ h9 => h9) rfl dX8_firstOf_80 ?_
        refine lv_bipush (v := 30) hx hb dX8_firstOf_83 (by decide) ?_
        refine lv_icmp_lt (tgt := 109) hx hb dX8_firstOf_85 (by decide) (fun c_12 => ?_) (fun c_12 => ?_)
        · have fc_12 : nse.toInt < 30 := zf_lt c_12 rfl (by decide)
          refine lv_bipush (v := 100) hx hb dX8_firstOf_109 (by decide) ?_
          exact W.iret (v := 100) hx hb hr (fun t ht hW => ⟨100, rfl, ⟨by decide, by decide, (show (100 : Int32).toInt = zLr gki gpa gta npu.toInt.toNat nhu.toInt (gco 0).toInt (gco 1).toInt (gco 2).toInt 0 nde.toInt nse.toInt from by (have k1 : (101 : Int32).toInt = 101 := (by decide); have k2 : (100 : Int32).toInt = 100 := (by decide); have zl := hsr_2_0; have hL : zLn gki gpa gta npu.toInt.toNat nhu.toInt (gco 0).toInt (gco 1).toInt (gco 2).toInt 0 nde.toInt nse.toInt = zPw 0 * zAt (gco 1).toInt (gco 2).toInt nse.toInt := (by rw [zLn_0, if_neg (by omega)]); have hh := zHead (P := zPw 0) (c1 := (gco 1).toInt) (c2 := (gco 2).toInt) (s := nse.toInt) (zPw_pos 0); rw [← hL, ← zl, show zPw 0 = 1 from by decide] at hh; unfold zLr; rw [if_neg (by omega), if_pos (Or.inl rfl : (0 : Nat) = 0 ∨ _)]; first | (rw [if_neg (fun z => by (have z2 := hh.mpr z; have z3 := z2.2; have z4 := z2.1; omega))]; omega) | (rw [if_pos (hh.mp ⟨by omega, by omega⟩)]; omega)))⟩, ht⟩) (fun q hq => by cases hq) dX8_firstOf_111
        · have fc_12 : 30 ≤ nse.toInt := zf_nlt c_12 rfl (by decide)
          refine lv_aload_n hx hb dX8_firstOf_88 rfl (lv_at hl 2 rfl) ?_
          refine va_get (D := D) (ci := 8) (v := .ref mco) (C := RX8) (T := TX8) (N := 38) hx hb hts hi_X8_firstOf_8 hown hK hP 0 rfl rfl 16 (by decide) (hts (.fieldLink RX8 44 "TheLiningsInItModel" "cost" "[I") (List.mem_of_getElem? (i := 4) rfl)) (fun _ h9 => h9) rfl dX8_firstOf_89 ?_
          refine lv_iconst (v := 1) hx hb dX8_firstOf_92 (by decide) ?_
          refine va_iald hx hb hK hP 4 0 rfl rfl (zf_in (by decide) (by decide)) dX8_firstOf_93 ?_
          refine lv_topi (fun x_13 ex_13 => ?_)
          have bx_13 : 0 ≤ x_13.toInt ∧ x_13.toInt ≤ 99 := by rw [ex_13]; exact hp_gco _
          refine lv_aload_n hx hb dX8_firstOf_94 rfl (lv_at hl 2 rfl) ?_
          refine lv_iload_n hx hb dX8_firstOf_95 rfl (lv_at hl 3 rfl) ?_
          refine zc_V (As := [.int 0]) (rest := [.int x_13]) ⟨hx, hb, hml, hown, hts⟩ (c_M_power_0 l D cI cJ cZ cP cS po m0 mrf mki mpa mta mla msl mco mhe mso msi msh mce mca mwo mnu mte mwa mke mma mth mtr (npu) (nte) (nat_) (nde) (nto) (nse) (nhu) (nga) (nsd) (nfa) (nba) (npl) (nen) (nnu) (nwr) (nra) (nik) hy0 hy1 hy2 hy3 hy4 hy5 hy6 hy7 hy8 hy9 hy10 hy11 hy12 hy13) (cwV 1 hts gX8_firstOf_X8_power rfl rfl rfl ⟨rfl, dh_X8_power⟩ ⟨Nat.le_of_ble_eq_true rfl, Nat.le_of_ble_eq_true rfl⟩) hK hN hZ hP (hP.sub [0] rfl) (va_recv (q := (RX8, TX8, 38)) hK hP (ci := 8) (q0 := 0) rfl rfl) rfl hl.1 rfl (Nat.le_of_ble_eq_true rfl) dX8_firstOf_96 ⟨Nat.le_of_ble_eq_true rfl, Nat.le_of_ble_eq_true rfl⟩ (fun r_14 hr_14 => ?_)
          obtain rfl := hr_14
          refine lv_imul hx hb dX8_firstOf_99 ?_
          refine lv_topi (fun x_15 ex_15 => ?_)
          have qx_15 : x_15.toInt = x_13.toInt * 1 := by rw [ex_15]; exact zf_mul rfl (by decide) (by omega) (by omega)
          refine lv_iload_n hx hb dX8_firstOf_100 rfl (lv_at hl 1 rfl) ?_
          refine lv_icmp_ne (tgt := 109) hx hb dX8_firstOf_101 (by decide) (fun c_16 => ?_) (fun c_16 => ?_)
          · have fc_16 : x_15.toInt ≠ r_2.toInt := zf_ne c_16 rfl rfl
            refine lv_bipush (v := 100) hx hb dX8_firstOf_109 (by decide) ?_
            exact W.iret (v := 100) hx hb hr (fun t ht hW => ⟨100, rfl, ⟨by decide, by decide, (show (100 : Int32).toInt = zLr gki gpa gta npu.toInt.toNat nhu.toInt (gco 0).toInt (gco 1).toInt (gco 2).toInt 0 nde.toInt nse.toInt from by (have k1 : (101 : Int32).toInt = 101 := (by decide); have k2 : (100 : Int32).toInt = 100 := (by decide); have nx_13 : (gco 1).toInt = x_13.toInt := (by rw [ex_13, show (1 : Int32).toNatClampNeg = 1 from by decide]); have zl := hsr_2_0; have hL : zLn gki gpa gta npu.toInt.toNat nhu.toInt (gco 0).toInt (gco 1).toInt (gco 2).toInt 0 nde.toInt nse.toInt = zPw 0 * zAt (gco 1).toInt (gco 2).toInt nse.toInt := (by rw [zLn_0, if_neg (by omega)]); have hh := zHead (P := zPw 0) (c1 := (gco 1).toInt) (c2 := (gco 2).toInt) (s := nse.toInt) (zPw_pos 0); rw [← hL, ← zl, show zPw 0 = 1 from by decide] at hh; unfold zLr; rw [if_neg (by omega), if_pos (Or.inl rfl : (0 : Nat) = 0 ∨ _)]; first | (rw [if_neg (fun z => by (have z2 := hh.mpr z; have z3 := z2.2; have z4 := z2.1; omega))]; omega) | (rw [if_pos (hh.mp ⟨by omega, by omega⟩)]; omega)))⟩, ht⟩) (fun q hq => by cases hq) dX8_firstOf_111
          · have fc_16 : x_15.toInt = r_2.toInt := zf_eq c_16 rfl rfl
            refine lv_bipush (v := 101) hx hb dX8_firstOf_104 (by decide) ?_
            refine lv_goto (tgt := 111) hx hb dX8_firstOf_106 (by decide) ?_
            exact W.iret (v := 101) hx hb hr (fun t ht hW => ⟨101, rfl, ⟨by decide, by decide, (show (101 : Int32).toInt = zLr gki gpa gta npu.toInt.toNat nhu.toInt (gco 0).toInt (gco 1).toInt (gco 2).toInt 0 nde.toInt nse.toInt from by (have k1 : (101 : Int32).toInt = 101 := (by decide); have k2 : (100 : Int32).toInt = 100 := (by decide); have nx_13 : (gco 1).toInt = x_13.toInt := (by rw [ex_13, show (1 : Int32).toNatClampNeg = 1 from by decide]); have zl := hsr_2_0; have hL : zLn gki gpa gta npu.toInt.toNat nhu.toInt (gco 0).toInt (gco 1).toInt (gco 2).toInt 0 nde.toInt nse.toInt = zPw 0 * zAt (gco 1).toInt (gco 2).toInt nse.toInt := (by rw [zLn_0, if_neg (by omega)]); have hh := zHead (P := zPw 0) (c1 := (gco 1).toInt) (c2 := (gco 2).toInt) (s := nse.toInt) (zPw_pos 0); rw [← hL, ← zl, show zPw 0 = 1 from by decide] at hh; unfold zLr; rw [if_neg (by omega), if_pos (Or.inl rfl : (0 : Nat) = 0 ∨ _)]; first | (rw [if_pos (hh.mp ⟨by omega, by omega⟩)]; omega) | (rw [if_neg (fun z => by (have z2 := hh.mpr z; have z3 := z2.2; have z4 := z2.1; omega))]; omega)))⟩, ht⟩) (fun q hq => by cases hq) dX8_firstOf_111
      · exact absurd c_11 (by decide)
  · have fc_1 : nde.toInt = 0 := zf_eq c_1 rfl (by decide)
    refine lv_iconst (v := (-1)) hx hb dX8_firstOf_7 (by decide) ?_
    exact W.iret (v := (-1)) hx hb hr (fun t ht hW => ⟨(-1), rfl, ⟨by decide, by decide, (show ((-1) : Int32).toInt = zLr gki gpa gta npu.toInt.toNat nhu.toInt (gco 0).toInt (gco 1).toInt (gco 2).toInt 0 nde.toInt nse.toInt from by (have k9 : ((-1) : Int32).toInt = -1 := (by decide); unfold zLr; rw [if_pos (by omega)]; exact k9))⟩, ht⟩) (fun q hq => by cases hq) dX8_firstOf_8
set_option maxHeartbeats 4000000 in
set_option maxRecDepth 100000 in
theorem c_F_M_firstOf_1 (l : Launch) (D : va_G) (cI cJ cZ cP cS : ClassId) (po : zPool) (m0 mrf mki mpa mta mla msl mco mhe mso msi msh mce mca mwo mnu mte mwa mke mma mth mtr : Nat) (npu nte nat_ nde nto nse nhu nga nsd nfa nba npl nen nnu nwr nra nik : Int32) (gki gpa gta gco : Nat → Int32) (hy0 : 0 ≤ npu.toInt) (hy1 : npu.toInt ≤ 8) (hy2 : 4 ≤ nte.toInt) (hy3 : nte.toInt ≤ 40) (hy4 : 0 ≤ nat_.toInt) (hy5 : nat_.toInt ≤ 40) (hy6 : 0 ≤ nde.toInt) (hy7 : nde.toInt ≤ 24) (hy8 : 0 ≤ nhu.toInt) (hy9 : nhu.toInt ≤ 9) (hy10 : 0 ≤ nra.toInt) (hy11 : nra.toInt ≤ 2000) (hy12 : 0 ≤ nik.toInt) (hy13 : nik.toInt ≤ 1) (hy14 : 0 ≤ nse.toInt) (hy15 : nse.toInt ≤ 300) (hp_gki : zRg gki (0) 6) (hp_gpa : zRg gpa (0) 9) (hp_gta : zRg gta (0) 60) (hp_gco : zRg gco (0) 99) : Met l yX8_firstOf wsX8_firstOf ({ frames := 4, cells := 0, slots := 0, locals := 99 }) (va_Pc [.ref m0, .int 1] (zR D (zKT cI cJ cZ cP cS) po [(zMO m0 npu nte nat_ nde nto nse nhu nga nsd nfa mrf mki mpa mta mla msl mco mhe mso msi msh mce mca mwo mnu mte nba npl nen nnu nwr mwa mke mma mth mtr nra nik), (mki, .inl (cI, 8, .inl gki)), (mpa, .inl (cI, 8, .inl gpa)), (mta, .inl (cI, 8, .inl gta)), (mco, .inl (cI, 3, .inl gco))])) (vp_Si (fun r => -1 ≤ r.toInt ∧ r.toInt ≤ 101 ∧ (r.toInt = zLr gki gpa gta npu.toInt.toNat nhu.toInt (gco 0).toInt (gco 1).toInt (gco 2).toInt 1 nde.toInt nse.toInt))) 0 0 (fun _ => False) := by
  refine Met.ofW (cc := cX8_firstOf) (maxL := 4) (ret := (some .int)) (by decide) rfl ?_
  intro p e s m args below meth c s₁ B hml hv
  obtain ⟨rfl, hP, hK, hN, hZ⟩ := hv
  have hx := B.exec
  have hb := B.bytes
  have hr := B.returns
  have hts := atoms_spec (ws := wsX8_firstOf) B.pre
  have hown : s.vm.findClass RX8 = some m.cls := findClass_of_methodNamed B.named
  have hlocks := B.notSynchronized
  have hl := lv_entry ([.ref m0, .int 1]) (n := 4) (Nat.le_of_ble_eq_true rfl)
  rw [lg_entry_eq]
  generalize (lg_sl ([.ref m0, .int 1]) ++ List.replicate (4 - (lg_sl ([.ref m0, .int 1])).length) Slot.unset).toArray = ls at hl ⊢
  replace hl : lv_has ls 4 [(0, .ref m0), (1, .int 1)] := hl
  refine lv_aload_n hx hb dX8_firstOf_0 rfl (lv_at hl 0 rfl) ?_
  refine va_get (D := D) (ci := 8) (v := .int nde) (C := RX8) (T := TX8) (N := 38) hx hb hts hi_X8_firstOf_8 hown hK hP 0 rfl rfl 3 (by decide) (hts (.fieldLink RX8 115 "TheLiningsInItModel" "depth" "I") (List.mem_of_getElem? (i := 1) rfl)) (fun _ h9 => h9) rfl dX8_firstOf_1 ?_
  refine lv_if_ne (tgt := 9) hx hb dX8_firstOf_4 (by decide) (fun c_1 => ?_) (fun c_1 => ?_)
  · have fc_1 : nde.toInt ≠ 0 := zf_ne c_1 rfl (by decide)
    refine lv_aload_n hx hb dX8_firstOf_9 rfl (lv_at hl 0 rfl) ?_
    refine lv_iload_n hx hb dX8_firstOf_10 rfl (lv_at hl 1 rfl) ?_
    refine lv_aload_n hx hb dX8_firstOf_11 rfl (lv_at hl 0 rfl) ?_
    refine va_get (D := D) (ci := 8) (v := .int nde) (C := RX8) (T := TX8) (N := 38) hx hb hts hi_X8_firstOf_8 hown hK hP 0 rfl rfl 3 (by decide) (hts (.fieldLink RX8 115 "TheLiningsInItModel" "depth" "I") (List.mem_of_getElem? (i := 1) rfl)) (fun _ h9 => h9) rfl dX8_firstOf_12 ?_
    refine lv_aload_n hx hb dX8_firstOf_15 rfl (lv_at hl 0 rfl) ?_
    refine va_get (D := D) (ci := 8) (v := .int nse) (C := RX8) (T := TX8) (N := 38) hx hb hts hi_X8_firstOf_8 hown hK hP 0 rfl rfl 5 (by decide) (hts (.fieldLink RX8 13 "TheLiningsInItModel" "seconds" "I") (List.mem_of_getElem? (i := 2) rfl)) (fun _ h9 => h9) rfl dX8_firstOf_16 ?_
    refine zc_V (As := [.int 1, .int nde, .int nse]) (rest := []) ⟨hx, hb, hml, hown, hts⟩ (c_F_M_leastCost_1 l D cI cJ cZ cP cS po m0 mrf mki mpa mta mla msl mco mhe mso msi msh mce mca mwo mnu mte mwa mke mma mth mtr (npu) (nte) (nat_) (nde) (nto) (nse) (nhu) (nga) (nsd) (nfa) (nba) (npl) (nen) (nnu) (nwr) (nra) (nik) gki gpa gta gco (nde) (nse) hy0 hy1 hy2 hy3 hy4 hy5 hy6 hy7 hy8 hy9 hy10 hy11 hy12 hy13 hy6 hy7 hy14 hy15 hp_gki hp_gpa hp_gta hp_gco) (cwV 3 hts gX8_firstOf_X8_leastCost rfl rfl rfl ⟨rfl, dh_X8_leastCost⟩ ⟨Nat.le_of_ble_eq_true rfl, Nat.le_of_ble_eq_true rfl⟩) hK hN hZ hP (hP.sub [0, 1, 2, 3, 4] rfl) (va_recv (q := (RX8, TX8, 38)) hK hP (ci := 8) (q0 := 0) rfl rfl) rfl hl.1 rfl (Nat.le_of_ble_eq_true rfl) dX8_firstOf_19 ⟨Nat.le_of_ble_eq_true rfl, Nat.le_of_ble_eq_true rfl⟩ (fun r_2 hr_2 => ?_)
    obtain ⟨g_3, g_4, hsr_2_0⟩ := hr_2
    refine lv_istore_n (lv' := [(2, .int r_2), (0, .ref m0), (1, .int 1)]) hx hb dX8_firstOf_22 rfl hl (by decide) rfl (fun ls hl => ?_)
    refine lv_iconst (v := 0) hx hb dX8_firstOf_23 (by decide) ?_
    refine lv_istore_n (lv' := [(3, .int 0), (2, .int r_2), (0, .ref m0), (1, .int 1)]) hx hb dX8_firstOf_24 rfl hl (by decide) rfl (fun ls hl => ?_)
    obtain ⟨i_25, hi_25⟩ : ∃ i : Int32, i = 0 := ⟨_, rfl⟩
    replace hl : lv_has ls 4 [(3, .int i_25), (2, .int r_2), (0, .ref m0), (1, .int 1)] := by rw [hi_25]; exact lv_sub hl [0, 1, 2, 3] rfl
    have h1i_25 : i_25.toInt = 0 := by rw [hi_25]; decide
    obtain ⟨nfu, hni_25⟩ : ∃ nq9 : Nat, npu.toInt ≤ i_25.toInt + (nq9 : Int) := ⟨((npu.toInt : Int) - 0).toNat, by omega⟩
    have hloi_25 : 0 ≤ i_25.toInt := by omega
    have hvi_25_0 : zFf gta nde.toInt nse.toInt ((zLn gki gpa gta npu.toInt.toNat nhu.toInt (gco 0).toInt (gco 1).toInt (gco 2).toInt 1) nde.toInt nse.toInt) (zLv (zLn gki gpa gta npu.toInt.toNat nhu.toInt (gco 0).toInt (gco 1).toInt (gco 2).toInt 0) gki gpa gta (gco 0).toInt (zPw 1) nhu.toInt nde.toInt nse.toInt) i_25.toInt.toNat = -1 := by
      (try rw [hi_25]); (rw [(show ((0 : Int32).toInt.toNat) = 0 from by decide)]; rfl)
    have hvi_25_1 : i_25.toInt ≤ npu.toInt := by
      (try rw [hi_25]); (have k0 : (0 : Int32).toInt = 0 := (by decide); omega)
    clear h1i_25 hi_25
    revert hni_25
    revert hloi_25
    revert hvi_25_1
    revert hvi_25_0
    revert hl
    revert ls
    revert i_25
    induction nfu with
    | zero =>
      intro i_25 ls hl hvi_25_0 hvi_25_1 hloi_25 hni_25
      have hzi_25 : npu.toInt ≤ i_25.toInt := by omega
      refine lv_iload_n hx hb dX8_firstOf_25 rfl (lv_at hl 0 rfl) ?_
      refine lv_aload_n hx hb dX8_firstOf_26 rfl (lv_at hl 2 rfl) ?_
      refine va_get (D := D) (ci := 8) (v := .int npu) (C := RX8) (T := TX8) (N := 38) hx hb hts hi_X8_firstOf_8 hown hK hP 0 rfl rfl 0 (by decide) (hts (.fieldLink RX8 90 "TheLiningsInItModel" "pulls" "I") (List.mem_of_getElem? (i := 3) rfl)) (fun _ h9 => h9) rfl dX8_firstOf_27 ?_
      refine lv_icmp_ge (tgt := 79) hx hb dX8_firstOf_30 (by decide) (fun c_5 => ?_) (fun c_5 => ?_)
      · have fc_5 : npu.toInt ≤ i_25.toInt := zf_le c_5 rfl rfl
        refine lv_aload_n hx hb dX8_firstOf_79 rfl (lv_at hl 2 rfl) ?_
        refine va_get (D := D) (ci := 8) (v := .int nse) (C := RX8) (T := TX8) (N := 38) hx hb hts hi_X8_firstOf_8 hown hK hP 0 rfl rfl 5 (by decide) (hts (.fieldLink RX8 13 "TheLiningsInItModel" "seconds" "I") (List.mem_of_getElem? (i := 2) rfl)) (fun _ h9 => h9) rfl dX8_firstOf_80 ?_
        refine lv_bipush (v := 30) hx hb dX8_firstOf_83 (by decide) ?_
        refine lv_icmp_lt (tgt := 109) hx hb dX8_firstOf_85 (by decide) (fun c_6 => ?_) (fun c_6 => ?_)
        · have fc_6 : nse.toInt < 30 := zf_lt c_6 rfl (by decide)
          refine lv_bipush (v := 100) hx hb dX8_firstOf_109 (by decide) ?_
          exact W.iret (v := 100) hx hb hr (fun t ht hW => ⟨100, rfl, ⟨by decide, by decide, (show (100 : Int32).toInt = zLr gki gpa gta npu.toInt.toNat nhu.toInt (gco 0).toInt (gco 1).toInt (gco 2).toInt 1 nde.toInt nse.toInt from by (have k1 : (101 : Int32).toInt = 101 := (by decide); have k2 : (100 : Int32).toInt = 100 := (by decide); have zl := hsr_2_0; have h9 : i_25.toInt.toNat = npu.toInt.toNat := (by omega); have z := hvi_25_0; rw [h9] at z; have hS := zLn_s (K := gki) (A := gpa) (T := gta) (N := npu.toInt.toNat) (n := 0) (h := nhu.toInt) (c0 := (gco 0).toInt) (c1 := (gco 1).toInt) (c2 := (gco 2).toInt) (d := nde.toInt) (s := nse.toInt); rw [if_neg (by omega)] at hS; have hL : zLn gki gpa gta npu.toInt.toNat nhu.toInt (gco 0).toInt (gco 1).toInt (gco 2).toInt 1 nde.toInt nse.toInt = zPw 1 * zAt (gco 1).toInt (gco 2).toInt nse.toInt := zFf_no npu.toInt.toNat (Or.inl hS) z hS; have hh := zHead (P := zPw 1) (c1 := (gco 1).toInt) (c2 := (gco 2).toInt) (s := nse.toInt) (zPw_pos 1); rw [← hL, ← zl, show zPw 1 = 12 from by decide] at hh; unfold zLr; rw [if_neg (by omega), show (1 : Nat) - 1 = 0 from by decide, if_pos (Or.inr z)]; first | (rw [if_neg (fun z => by (have z2 := hh.mpr z; have z3 := z2.2; have z4 := z2.1; omega))]; omega) | (rw [if_pos (hh.mp ⟨by omega, by omega⟩)]; omega)))⟩, ht⟩) (fun q hq => by cases hq) dX8_firstOf_111
        · have fc_6 : 30 ≤ nse.toInt := zf_nlt c_6 rfl (by decide)
          refine lv_aload_n hx hb dX8_firstOf_88 rfl (lv_at hl 2 rfl) ?_
          refine va_get (D := D) (ci := 8) (v := .ref mco) (C := RX8) (T := TX8) (N := 38) hx hb hts hi_X8_firstOf_8 hown hK hP 0 rfl rfl 16 (by decide) (hts (.fieldLink RX8 44 "TheLiningsInItModel" "cost" "[I") (List.mem_of_getElem? (i := 4) rfl)) (fun _ h9 => h9) rfl dX8_firstOf_89 ?_
          refine lv_iconst (v := 1) hx hb dX8_firstOf_92 (by decide) ?_
          refine va_iald hx hb hK hP 4 0 rfl rfl (zf_in (by decide) (by decide)) dX8_firstOf_93 ?_
          refine lv_topi (fun x_7 ex_7 => ?_)
          have bx_7 : 0 ≤ x_7.toInt ∧ x_7.toInt ≤ 99 := by rw [ex_7]; exact hp_gco _
          refine lv_aload_n hx hb dX8_firstOf_94 rfl (lv_at hl 2 rfl) ?_
          refine lv_iload_n hx hb dX8_firstOf_95 rfl (lv_at hl 3 rfl) ?_
          refine zc_V (As := [.int 1]) (rest := [.int x_7]) ⟨hx, hb, hml, hown, hts⟩ (c_M_power_1 l D cI cJ cZ cP cS po m0 mrf mki mpa mta mla msl mco mhe mso msi msh mce mca mwo mnu mte mwa mke mma mth mtr (npu) (nte) (nat_) (nde) (nto) (nse) (nhu) (nga) (nsd) (nfa) (nba) (npl) (nen) (nnu) (nwr) (nra) (nik) hy0 hy1 hy2 hy3 hy4 hy5 hy6 hy7 hy8 hy9 hy10 hy11 hy12 hy13) (cwV 1 hts gX8_firstOf_X8_power rfl rfl rfl ⟨rfl, dh_X8_power⟩ ⟨Nat.le_of_ble_eq_true rfl, Nat.le_of_ble_eq_true rfl⟩) hK hN hZ hP (hP.sub [0] rfl) (va_recv (q := (RX8, TX8, 38)) hK hP (ci := 8) (q0 := 0) rfl rfl) rfl hl.1 rfl (Nat.le_of_ble_eq_true rfl) dX8_firstOf_96 ⟨Nat.le_of_ble_eq_true rfl, Nat.le_of_ble_eq_true rfl⟩ (fun r_8 hr_8 => ?_)
          obtain rfl := hr_8
          refine lv_imul hx hb dX8_firstOf_99 ?_
          refine lv_topi (fun x_9 ex_9 => ?_)
          have qx_9 : x_9.toInt = x_7.toInt * 12 := by rw [ex_9]; exact zf_mul rfl (by decide) (by omega) (by omega)
          refine lv_iload_n hx hb dX8_firstOf_100 rfl (lv_at hl 1 rfl) ?_
          refine lv_icmp_ne (tgt := 109) hx hb dX8_firstOf_101 (by decide) (fun c_10 => ?_) (fun c_10 => ?_)
          · have fc_10 : x_9.toInt ≠ r_2.toInt := zf_ne c_10 rfl rfl
            refine lv_bipush (v := 100) hx hb dX8_firstOf_109 (by decide) ?_
            exact W.iret (v := 100) hx hb hr (fun t ht hW => ⟨100, rfl, ⟨by decide, by decide, (show (100 : Int32).toInt = zLr gki gpa gta npu.toInt.toNat nhu.toInt (gco 0).toInt (gco 1).toInt (gco 2).toInt 1 nde.toInt nse.toInt from by (have k1 : (101 : Int32).toInt = 101 := (by decide); have k2 : (100 : Int32).toInt = 100 := (by decide); have nx_7 : (gco 1).toInt = x_7.toInt := (by rw [ex_7, show (1 : Int32).toNatClampNeg = 1 from by decide]); have zl := hsr_2_0; have h9 : i_25.toInt.toNat = npu.toInt.toNat := (by omega); have z := hvi_25_0; rw [h9] at z; have hS := zLn_s (K := gki) (A := gpa) (T := gta) (N := npu.toInt.toNat) (n := 0) (h := nhu.toInt) (c0 := (gco 0).toInt) (c1 := (gco 1).toInt) (c2 := (gco 2).toInt) (d := nde.toInt) (s := nse.toInt); rw [if_neg (by omega)] at hS; have hL : zLn gki gpa gta npu.toInt.toNat nhu.toInt (gco 0).toInt (gco 1).toInt (gco 2).toInt 1 nde.toInt nse.toInt = zPw 1 * zAt (gco 1).toInt (gco 2).toInt nse.toInt := zFf_no npu.toInt.toNat (Or.inl hS) z hS; have hh := zHead (P := zPw 1) (c1 := (gco 1).toInt) (c2 := (gco 2).toInt) (s := nse.toInt) (zPw_pos 1); rw [← hL, ← zl, show zPw 1 = 12 from by decide] at hh; unfold zLr; rw [if_neg (by omega), show (1 : Nat) - 1 = 0 from by decide, if_pos (Or.inr z)]; first | (rw [if_neg (fun z => by (have z2 := hh.mpr z; have z3 := z2.2; have z4 := z2.1; omega))]; omega) | (rw [if_pos (hh.mp ⟨by omega, by omega⟩)]; omega)))⟩, ht⟩) (fun q hq => by cases hq) dX8_firstOf_111
          · have fc_10 : x_9.toInt = r_2.toInt := zf_eq c_10 rfl rfl
            refine lv_bipush (v := 101) hx hb dX8_firstOf_104 (by decide) ?_
            refine lv_goto (tgt := 111) hx hb dX8_firstOf_106 (by decide) ?_
            exact W.iret (v := 101) hx hb hr (fun t ht hW => ⟨101, rfl, ⟨by decide, by decide, (show (101 : Int32).toInt = zLr gki gpa gta npu.toInt.toNat nhu.toInt (gco 0).toInt (gco 1).toInt (gco 2).toInt 1 nde.toInt nse.toInt from by (have k1 : (101 : Int32).toInt = 101 := (by decide); have k2 : (100 : Int32).toInt = 100 := (by decide); have nx_7 : (gco 1).toInt = x_7.toInt := (by rw [ex_7, show (1 : Int32).toNatClampNeg = 1 from by decide]); have zl := hsr_2_0; have h9 : i_25.toInt.toNat = npu.toInt.toNat := (by omega); have z := hvi_25_0; rw [h9] at z; have hS := zLn_s (K := gki) (A := gpa) (T := gta) (N := npu.toInt.toNat) (n := 0) (h := nhu.toInt) (c0 := (gco 0).toInt) (c1 := (gco 1).toInt) (c2 := (gco 2).toInt) (d := nde.toInt) (s := nse.toInt); rw [if_neg (by omega)] at hS; have hL : zLn gki gpa gta npu.toInt.toNat nhu.toInt (gco 0).toInt (gco 1).toInt (gco 2).toInt 1 nde.toInt nse.toInt = zPw 1 * zAt (gco 1).toInt (gco 2).toInt nse.toInt := zFf_no npu.toInt.toNat (Or.inl hS) z hS; have hh := zHead (P := zPw 1) (c1 := (gco 1).toInt) (c2 := (gco 2).toInt) (s := nse.toInt) (zPw_pos 1); rw [← hL, ← zl, show zPw 1 = 12 from by decide] at hh; unfold zLr; rw [if_neg (by omega), show (1 : Nat) - 1 = 0 from by decide, if_pos (Or.inr z)]; first | (rw [if_pos (hh.mp ⟨by omega, by omega⟩)]; omega) | (rw [if_neg (fun z => by (have z2 := hh.mpr z; have z3 := z2.2; have z4 := z2.1; omega))]; omega)))⟩, ht⟩) (fun q hq => by cases hq) dX8_firstOf_111
      · exfalso; have fc_5 : i_25.toInt < npu.toInt := zf_nle c_5 rfl rfl; omega
    | succ nfu ih =>
      intro i_25 ls hl hvi_25_0 hvi_25_1 hloi_25 hni_25
      refine lv_iload_n hx hb dX8_firstOf_25 rfl (lv_at hl 0 rfl) ?_
      refine lv_aload_n hx hb dX8_firstOf_26 rfl (lv_at hl 2 rfl) ?_
      refine va_get (D := D) (ci := 8) (v := .int npu) (C := RX8) (T := TX8) (N := 38) hx hb hts hi_X8_firstOf_8 hown hK hP 0 rfl rfl 0 (by decide) (hts (.fieldLink RX8 90 "TheLiningsInItModel" "pulls" "I") (List.mem_of_getElem? (i := 3) rfl)) (fun _ h9 => h9) rfl dX8_firstOf_27 ?_
      refine lv_icmp_ge (tgt := 79) hx hb dX8_firstOf_30 (by decide) (fun c_11 => ?_) (fun c_11 => ?_)
      · have fc_11 : npu.toInt ≤ i_25.toInt := zf_le c_11 rfl rfl
        refine lv_aload_n hx hb dX8_firstOf_79 rfl (lv_at hl 2 rfl) ?_
        refine va_get (D := D) (ci := 8) (v := .int nse) (C := RX8) (T := TX8) (N := 38) hx hb hts hi_X8_firstOf_8 hown hK hP 0 rfl rfl 5 (by decide) (hts (.fieldLink RX8 13 "TheLiningsInItModel" "seconds" "I") (List.mem_of_getElem? (i := 2) rfl)) (fun _ h9 => h9) rfl dX8_firstOf_80 ?_
        refine lv_bipush (v := 30) hx hb dX8_firstOf_83 (by decide) ?_
        refine lv_icmp_lt (tgt := 109) hx hb dX8_firstOf_85 (by decide) (fun c_12 => ?_) (fun c_12 => ?_)
        · have fc_12 : nse.toInt < 30 := zf_lt c_12 rfl (by decide)
          refine lv_bipush (v := 100) hx hb dX8_firstOf_109 (by decide) ?_
          exact W.iret (v := 100) hx hb hr (fun t ht hW => ⟨100, rfl, ⟨by decide, by decide, (show (100 : Int32).toInt = zLr gki gpa gta npu.toInt.toNat nhu.toInt (gco 0).toInt (gco 1).toInt (gco 2).toInt 1 nde.toInt nse.toInt from by (have k1 : (101 : Int32).toInt = 101 := (by decide); have k2 : (100 : Int32).toInt = 100 := (by decide); have zl := hsr_2_0; have h9 : i_25.toInt.toNat = npu.toInt.toNat := (by omega); have z := hvi_25_0; rw [h9] at z; have hS := zLn_s (K := gki) (A := gpa) (T := gta) (N := npu.toInt.toNat) (n := 0) (h := nhu.toInt) (c0 := (gco 0).toInt) (c1 := (gco 1).toInt) (c2 := (gco 2).toInt) (d := nde.toInt) (s := nse.toInt); rw [if_neg (by omega)] at hS; have hL : zLn gki gpa gta npu.toInt.toNat nhu.toInt (gco 0).toInt (gco 1).toInt (gco 2).toInt 1 nde.toInt nse.toInt = zPw 1 * zAt (gco 1).toInt (gco 2).toInt nse.toInt := zFf_no npu.toInt.toNat (Or.inl hS) z hS; have hh := zHead (P := zPw 1) (c1 := (gco 1).toInt) (c2 := (gco 2).toInt) (s := nse.toInt) (zPw_pos 1); rw [← hL, ← zl, show zPw 1 = 12 from by decide] at hh; unfold zLr; rw [if_neg (by omega), show (1 : Nat) - 1 = 0 from by decide, if_pos (Or.inr z)]; first | (rw [if_neg (fun z => by (have z2 := hh.mpr z; have z3 := z2.2; have z4 := z2.1; omega))]; omega) | (rw [if_pos (hh.mp ⟨by omega, by omega⟩)]; omega)))⟩, ht⟩) (fun q hq => by cases hq) dX8_firstOf_111
        · have fc_12 : 30 ≤ nse.toInt := zf_nlt c_12 rfl (by decide)
          refine lv_aload_n hx hb dX8_firstOf_88 rfl (lv_at hl 2 rfl) ?_
          refine va_get (D := D) (ci := 8) (v := .ref mco) (C := RX8) (T := TX8) (N := 38) hx hb hts hi_X8_firstOf_8 hown hK hP 0 rfl rfl 16 (by decide) (hts (.fieldLink RX8 44 "TheLiningsInItModel" "cost" "[I") (List.mem_of_getElem? (i := 4) rfl)) (fun _ h9 => h9) rfl dX8_firstOf_89 ?_
          refine lv_iconst (v := 1) hx hb dX8_firstOf_92 (by decide) ?_
          refine va_iald hx hb hK hP 4 0 rfl rfl (zf_in (by decide) (by decide)) dX8_firstOf_93 ?_
          refine lv_topi (fun x_13 ex_13 => ?_)
          have bx_13 : 0 ≤ x_13.toInt ∧ x_13.toInt ≤ 99 := by rw [ex_13]; exact hp_gco _
          refine lv_aload_n hx hb dX8_firstOf_94 rfl (lv_at hl 2 rfl) ?_
          refine lv_iload_n hx hb dX8_firstOf_95 rfl (lv_at hl 3 rfl) ?_
          refine zc_V (As := [.int 1]) (rest := [.int x_13]) ⟨hx, hb, hml, hown, hts⟩ (c_M_power_1 l D cI cJ cZ cP cS po m0 mrf mki mpa mta mla msl mco mhe mso msi msh mce mca mwo mnu mte mwa mke mma mth mtr (npu) (nte) (nat_) (nde) (nto) (nse) (nhu) (nga) (nsd) (nfa) (nba) (npl) (nen) (nnu) (nwr) (nra) (nik) hy0 hy1 hy2 hy3 hy4 hy5 hy6 hy7 hy8 hy9 hy10 hy11 hy12 hy13) (cwV 1 hts gX8_firstOf_X8_power rfl rfl rfl ⟨rfl, dh_X8_power⟩ ⟨Nat.le_of_ble_eq_true rfl, Nat.le_of_ble_eq_true rfl⟩) hK hN hZ hP (hP.sub [0] rfl) (va_recv (q := (RX8, TX8, 38)) hK hP (ci := 8) (q0 := 0) rfl rfl) rfl hl.1 rfl (Nat.le_of_ble_eq_true rfl) dX8_firstOf_96 ⟨Nat.le_of_ble_eq_true rfl, Nat.le_of_ble_eq_true rfl⟩ (fun r_14 hr_14 => ?_)
          obtain rfl := hr_14
          refine lv_imul hx hb dX8_firstOf_99 ?_
          refine lv_topi (fun x_15 ex_15 => ?_)
          have qx_15 : x_15.toInt = x_13.toInt * 12 := by rw [ex_15]; exact zf_mul rfl (by decide) (by omega) (by omega)
          refine lv_iload_n hx hb dX8_firstOf_100 rfl (lv_at hl 1 rfl) ?_
          refine lv_icmp_ne (tgt := 109) hx hb dX8_firstOf_101 (by decide) (fun c_16 => ?_) (fun c_16 => ?_)
          · have fc_16 : x_15.toInt ≠ r_2.toInt := zf_ne c_16 rfl rfl
            refine lv_bipush (v := 100) hx hb dX8_firstOf_109 (by decide) ?_
            exact W.iret (v := 100) hx hb hr (fun t ht hW => ⟨100, rfl, ⟨by decide, by decide, (show (100 : Int32).toInt = zLr gki gpa gta npu.toInt.toNat nhu.toInt (gco 0).toInt (gco 1).toInt (gco 2).toInt 1 nde.toInt nse.toInt from by (have k1 : (101 : Int32).toInt = 101 := (by decide); have k2 : (100 : Int32).toInt = 100 := (by decide); have nx_13 : (gco 1).toInt = x_13.toInt := (by rw [ex_13, show (1 : Int32).toNatClampNeg = 1 from by decide]); have zl := hsr_2_0; have h9 : i_25.toInt.toNat = npu.toInt.toNat := (by omega); have z := hvi_25_0; rw [h9] at z; have hS := zLn_s (K := gki) (A := gpa) (T := gta) (N := npu.toInt.toNat) (n := 0) (h := nhu.toInt) (c0 := (gco 0).toInt) (c1 := (gco 1).toInt) (c2 := (gco 2).toInt) (d := nde.toInt) (s := nse.toInt); rw [if_neg (by omega)] at hS; have hL : zLn gki gpa gta npu.toInt.toNat nhu.toInt (gco 0).toInt (gco 1).toInt (gco 2).toInt 1 nde.toInt nse.toInt = zPw 1 * zAt (gco 1).toInt (gco 2).toInt nse.toInt := zFf_no npu.toInt.toNat (Or.inl hS) z hS; have hh := zHead (P := zPw 1) (c1 := (gco 1).toInt) (c2 := (gco 2).toInt) (s := nse.toInt) (zPw_pos 1); rw [← hL, ← zl, show zPw 1 = 12 from by decide] at hh; unfold zLr; rw [if_neg (by omega), show (1 : Nat) - 1 = 0 from by decide, if_pos (Or.inr z)]; first | (rw [if_neg (fun z => by (have z2 := hh.mpr z; have z3 := z2.2; have z4 := z2.1; omega))]; omega) | (rw [if_pos (hh.mp ⟨by omega, by omega⟩)]; omega)))⟩, ht⟩) (fun q hq => by cases hq) dX8_firstOf_111
          · have fc_16 : x_15.toInt = r_2.toInt := zf_eq c_16 rfl rfl
            refine lv_bipush (v := 101) hx hb dX8_firstOf_104 (by decide) ?_
            refine lv_goto (tgt := 111) hx hb dX8_firstOf_106 (by decide) ?_
            exact W.iret (v := 101) hx hb hr (fun t ht hW => ⟨101, rfl, ⟨by decide, by decide, (show (101 : Int32).toInt = zLr gki gpa gta npu.toInt.toNat nhu.toInt (gco 0).toInt (gco 1).toInt (gco 2).toInt 1 nde.toInt nse.toInt from by (have k1 : (101 : Int32).toInt = 101 := (by decide); have k2 : (100 : Int32).toInt = 100 := (by decide); have nx_13 : (gco 1).toInt = x_13.toInt := (by rw [ex_13, show (1 : Int32).toNatClampNeg = 1 from by decide]); have zl := hsr_2_0; have h9 : i_25.toInt.toNat = npu.toInt.toNat := (by omega); have z := hvi_25_0; rw [h9] at z; have hS := zLn_s (K := gki) (A := gpa) (T := gta) (N := npu.toInt.toNat) (n := 0) (h := nhu.toInt) (c0 := (gco 0).toInt) (c1 := (gco 1).toInt) (c2 := (gco 2).toInt) (d := nde.toInt) (s := nse.toInt); rw [if_neg (by omega)] at hS; have hL : zLn gki gpa gta npu.toInt.toNat nhu.toInt (gco 0).toInt (gco 1).toInt (gco 2).toInt 1 nde.toInt nse.toInt = zPw 1 * zAt (gco 1).toInt (gco 2).toInt nse.toInt := zFf_no npu.toInt.toNat (Or.inl hS) z hS; have hh := zHead (P := zPw 1) (c1 := (gco 1).toInt) (c2 := (gco 2).toInt) (s := nse.toInt) (zPw_pos 1); rw [← hL, ← zl, show zPw 1 = 12 from by decide] at hh; unfold zLr; rw [if_neg (by omega), show (1 : Nat) - 1 = 0 from by decide, if_pos (Or.inr z)]; first | (rw [if_pos (hh.mp ⟨by omega, by omega⟩)]; omega) | (rw [if_neg (fun z => by (have z2 := hh.mpr z; have z3 := z2.2; have z4 := z2.1; omega))]; omega)))⟩, ht⟩) (fun q hq => by cases hq) dX8_firstOf_111
      · have fc_11 : i_25.toInt < npu.toInt := zf_nle c_11 rfl rfl
        refine lv_iload_n hx hb dX8_firstOf_33 rfl (lv_at hl 3 rfl) ?_
        refine lv_if_le (tgt := 79) hx hb dX8_firstOf_34 (by decide) (fun c_17 => ?_) (fun c_17 => ?_)
        · exact absurd c_17 (by decide)
        · refine lv_aload_n hx hb dX8_firstOf_37 rfl (lv_at hl 2 rfl) ?_
          refine lv_iload_n hx hb dX8_firstOf_38 rfl (lv_at hl 0 rfl) ?_
          refine lv_aload_n hx hb dX8_firstOf_39 rfl (lv_at hl 2 rfl) ?_
          refine va_get (D := D) (ci := 8) (v := .int nde) (C := RX8) (T := TX8) (N := 38) hx hb hts hi_X8_firstOf_8 hown hK hP 0 rfl rfl 3 (by decide) (hts (.fieldLink RX8 115 "TheLiningsInItModel" "depth" "I") (List.mem_of_getElem? (i := 1) rfl)) (fun _ h9 => h9) rfl dX8_firstOf_40 ?_
          refine lv_aload_n hx hb dX8_firstOf_43 rfl (lv_at hl 2 rfl) ?_
          refine va_get (D := D) (ci := 8) (v := .int nse) (C := RX8) (T := TX8) (N := 38) hx hb hts hi_X8_firstOf_8 hown hK hP 0 rfl rfl 5 (by decide) (hts (.fieldLink RX8 13 "TheLiningsInItModel" "seconds" "I") (List.mem_of_getElem? (i := 2) rfl)) (fun _ h9 => h9) rfl dX8_firstOf_44 ?_
          refine zc_V (As := [.int i_25, .int nde, .int nse]) (rest := []) ⟨hx, hb, hml, hown, hts⟩ (c_F_M_mayBe l D cI cJ cZ cP cS po m0 mrf mki mpa mta mla msl mco mhe mso msi msh mce mca mwo mnu mte mwa mke mma mth mtr (npu) (nte) (nat_) (nde) (nto) (nse) (nhu) (nga) (nsd) (nfa) (nba) (npl) (nen) (nnu) (nwr) (nra) (nik) gta (i_25) (nde) (nse) hy0 hy1 hy2 hy3 hy4 hy5 hy6 hy7 hy8 hy9 hy10 hy11 hy12 hy13 (by omega) (by omega) hp_gta) (cwV 3 hts gX8_firstOf_X8_mayBe rfl rfl rfl ⟨rfl, dh_X8_mayBe⟩ ⟨Nat.le_of_ble_eq_true rfl, Nat.le_of_ble_eq_true rfl⟩) hK hN hZ hP (hP.sub [0, 3] rfl) (va_recv (q := (RX8, TX8, 38)) hK hP (ci := 8) (q0 := 0) rfl rfl) rfl hl.1 rfl (Nat.le_of_ble_eq_true rfl) dX8_firstOf_47 ⟨Nat.le_of_ble_eq_true rfl, Nat.le_of_ble_eq_true rfl⟩ (fun r_18 hr_18 => ?_)
          obtain ⟨g_19, g_20, hsr_18_0⟩ := hr_18
          refine lv_if_eq (tgt := 73) hx hb dX8_firstOf_50 (by decide) (fun c_21 => ?_) (fun c_21 => ?_)
          · have fc_21 : r_18.toInt = 0 := zf_eq c_21 rfl (by decide)
            obtain ⟨x_22, ex_22⟩ : ∃ y : Int32, y = i_25 + 1 := ⟨_, rfl⟩
            have qx_22 : x_22.toInt = i_25.toInt + 1 := dw_inc ex_22 fc_11
            refine lv_iinc (v := x_22) (lv' := [(3, .int x_22), (2, .int r_2), (0, .ref m0), (1, .int 1)]) hx hb dX8_firstOf_73 hl (k := 0) rfl ex_22.symm (by decide) rfl (fun ls hl => ?_)
            refine lv_goto (tgt := 25) hx hb dX8_firstOf_76 (by decide) ?_
            exact ih x_22 _ (lv_sub hl [0, 1, 2, 3] rfl) (show zFf gta nde.toInt nse.toInt ((zLn gki gpa gta npu.toInt.toNat nhu.toInt (gco 0).toInt (gco 1).toInt (gco 2).toInt 1) nde.toInt nse.toInt) (zLv (zLn gki gpa gta npu.toInt.toNat nhu.toInt (gco 0).toInt (gco 1).toInt (gco 2).toInt 0) gki gpa gta (gco 0).toInt (zPw 1) nhu.toInt nde.toInt nse.toInt) x_22.toInt.toNat = -1 from by (have hx : x_22.toInt.toNat = i_25.toInt.toNat + 1 := (by omega); have y9 : i_25.toNatClampNeg = i_25.toInt.toNat := rfl; have hm := hsr_18_0; rw [y9] at hm; rw [hx]; exact zFf_nx hvi_25_0 (fun z => by (have z1 := hm.mpr z.1; omega)))) (show x_22.toInt ≤ npu.toInt from by omega) (dw_lo hloi_25 qx_22) (dw_hn hni_25 qx_22)
          · have fc_21 : r_18.toInt ≠ 0 := zf_ne c_21 rfl (by decide)
            have htl9 : (gta i_25.toNatClampNeg).toInt ≤ nse.toInt := (hsr_18_0.mp (by omega)).2
            refine lv_aload_n hx hb dX8_firstOf_53 rfl (lv_at hl 2 rfl) ?_
            refine lv_iload_n hx hb dX8_firstOf_54 rfl (lv_at hl 0 rfl) ?_
            refine lv_iload_n hx hb dX8_firstOf_55 rfl (lv_at hl 3 rfl) ?_
            refine lv_aload_n hx hb dX8_firstOf_56 rfl (lv_at hl 2 rfl) ?_
            refine va_get (D := D) (ci := 8) (v := .int nde) (C := RX8) (T := TX8) (N := 38) hx hb hts hi_X8_firstOf_8 hown hK hP 0 rfl rfl 3 (by decide) (hts (.fieldLink RX8 115 "TheLiningsInItModel" "depth" "I") (List.mem_of_getElem? (i := 1) rfl)) (fun _ h9 => h9) rfl dX8_firstOf_57 ?_
            refine lv_aload_n hx hb dX8_firstOf_60 rfl (lv_at hl 2 rfl) ?_
            refine va_get (D := D) (ci := 8) (v := .int nse) (C := RX8) (T := TX8) (N := 38) hx hb hts hi_X8_firstOf_8 hown hK hP 0 rfl rfl 5 (by decide) (hts (.fieldLink RX8 13 "TheLiningsInItModel" "seconds" "I") (List.mem_of_getElem? (i := 2) rfl)) (fun _ h9 => h9) rfl dX8_firstOf_61 ?_
            refine zc_V (As := [.int i_25, .int 1, .int nde, .int nse]) (rest := []) ⟨hx, hb, hml, hown, hts⟩ (c_F_M_costBy_1 l D cI cJ cZ cP cS po m0 mrf mki mpa mta mla msl mco mhe mso msi msh mce mca mwo mnu mte mwa mke mma mth mtr (npu) (nte) (nat_) (nde) (nto) (nse) (nhu) (nga) (nsd) (nfa) (nba) (npl) (nen) (nnu) (nwr) (nra) (nik) gki gpa gta gco (i_25) (nde) (nse) hy0 hy1 hy2 hy3 hy4 hy5 hy6 hy7 hy8 hy9 hy10 hy11 hy12 hy13 (by omega) (by omega) hy6 hy7 hy14 hy15 (by first | assumption | omega) hp_gki hp_gpa hp_gta hp_gco) (cwV 4 hts gX8_firstOf_X8_costBy rfl rfl rfl ⟨rfl, dh_X8_costBy⟩ ⟨Nat.le_of_ble_eq_true rfl, Nat.le_of_ble_eq_true rfl⟩) hK hN hZ hP (hP.sub [0, 1, 2, 3, 4] rfl) (va_recv (q := (RX8, TX8, 38)) hK hP (ci := 8) (q0 := 0) rfl rfl) rfl hl.1 rfl (Nat.le_of_ble_eq_true rfl) dX8_firstOf_64 ⟨Nat.le_of_ble_eq_true rfl, Nat.le_of_ble_eq_true rfl⟩ (fun r_23 hr_23 => ?_)
            obtain ⟨g_24, g_25, hsr_23_0⟩ := hr_23
            refine lv_iload_n hx hb dX8_firstOf_67 rfl (lv_at hl 1 rfl) ?_
            refine lv_icmp_ne (tgt := 73) hx hb dX8_firstOf_68 (by decide) (fun c_26 => ?_) (fun c_26 => ?_)
            · have fc_26 : r_23.toInt ≠ r_2.toInt := zf_ne c_26 rfl rfl
              obtain ⟨x_27, ex_27⟩ : ∃ y : Int32, y = i_25 + 1 := ⟨_, rfl⟩
              have qx_27 : x_27.toInt = i_25.toInt + 1 := dw_inc ex_27 fc_11
              refine lv_iinc (v := x_27) (lv' := [(3, .int x_27), (2, .int r_2), (0, .ref m0), (1, .int 1)]) hx hb dX8_firstOf_73 hl (k := 0) rfl ex_27.symm (by decide) rfl (fun ls hl => ?_)
              refine lv_goto (tgt := 25) hx hb dX8_firstOf_76 (by decide) ?_
              exact ih x_27 _ (lv_sub hl [0, 1, 2, 3] rfl) (show zFf gta nde.toInt nse.toInt ((zLn gki gpa gta npu.toInt.toNat nhu.toInt (gco 0).toInt (gco 1).toInt (gco 2).toInt 1) nde.toInt nse.toInt) (zLv (zLn gki gpa gta npu.toInt.toNat nhu.toInt (gco 0).toInt (gco 1).toInt (gco 2).toInt 0) gki gpa gta (gco 0).toInt (zPw 1) nhu.toInt nde.toInt nse.toInt) x_27.toInt.toNat = -1 from by (have hx : x_27.toInt.toNat = i_25.toInt.toNat + 1 := (by omega); have y9 : i_25.toNatClampNeg = i_25.toInt.toNat := rfl; have hm := hsr_18_0; rw [y9] at hm; have zr := hsr_23_0; rw [y9] at zr; have zr2 : r_23.toInt = (zLv (zLn gki gpa gta npu.toInt.toNat nhu.toInt (gco 0).toInt (gco 1).toInt (gco 2).toInt 0) gki gpa gta (gco 0).toInt (zPw 1) nhu.toInt nde.toInt nse.toInt) i_25.toInt.toNat := zr; have zl := hsr_2_0; rw [hx]; exact zFf_nx hvi_25_0 (fun z => by (have z2 := z.2; rw [← zr2, ← zl] at z2; omega)))) (show x_27.toInt ≤ npu.toInt from by omega) (dw_lo hloi_25 qx_27) (dw_hn hni_25 qx_27)
            · have fc_26 : r_23.toInt = r_2.toInt := zf_eq c_26 rfl rfl
              refine lv_iload_n hx hb dX8_firstOf_71 rfl (lv_at hl 0 rfl) ?_
              exact W.iret (v := i_25) hx hb hr (fun t ht hW => ⟨i_25, rfl, ⟨by omega, by omega, (show (i_25 : Int32).toInt = zLr gki gpa gta npu.toInt.toNat nhu.toInt (gco 0).toInt (gco 1).toInt (gco 2).toInt 1 nde.toInt nse.toInt from by (have y9 : i_25.toNatClampNeg = i_25.toInt.toNat := rfl; have hm := hsr_18_0; rw [y9] at hm; have zr := hsr_23_0; rw [y9] at zr; have zr2 : r_23.toInt = (zLv (zLn gki gpa gta npu.toInt.toNat nhu.toInt (gco 0).toInt (gco 1).toInt (gco 2).toInt 0) gki gpa gta (gco 0).toInt (zPw 1) nhu.toInt nde.toInt nse.toInt) i_25.toInt.toNat := zr; have zl := hsr_2_0; have zf : zFf gta nde.toInt nse.toInt ((zLn gki gpa gta npu.toInt.toNat nhu.toInt (gco 0).toInt (gco 1).toInt (gco 2).toInt 1) nde.toInt nse.toInt) (zLv (zLn gki gpa gta npu.toInt.toNat nhu.toInt (gco 0).toInt (gco 1).toInt (gco 2).toInt 0) gki gpa gta (gco 0).toInt (zPw 1) nhu.toInt nde.toInt nse.toInt) npu.toInt.toNat = (i_25.toInt.toNat : Int) := zFf_at hvi_25_0 (hm.mp (by omega)) (by rw [← zr2, ← zl]; omega) (by omega); unfold zLr; rw [if_neg (by omega), show (1 : Nat) - 1 = 0 from by decide, if_neg (fun z => by (rcases z with z | z; (exact absurd z (by decide)); (rw [zf] at z; omega))), zf]; omega))⟩, ht⟩) (fun q hq => by cases hq) dX8_firstOf_72
  · have fc_1 : nde.toInt = 0 := zf_eq c_1 rfl (by decide)
    refine lv_iconst (v := (-1)) hx hb dX8_firstOf_7 (by decide) ?_
    exact W.iret (v := (-1)) hx hb hr (fun t ht hW => ⟨(-1), rfl, ⟨by decide, by decide, (show ((-1) : Int32).toInt = zLr gki gpa gta npu.toInt.toNat nhu.toInt (gco 0).toInt (gco 1).toInt (gco 2).toInt 1 nde.toInt nse.toInt from by (have k9 : ((-1) : Int32).toInt = -1 := (by decide); unfold zLr; rw [if_pos (by omega)]; exact k9))⟩, ht⟩) (fun q hq => by cases hq) dX8_firstOf_8
set_option maxHeartbeats 4000000 in
set_option maxRecDepth 100000 in
theorem c_F_M_firstOf_2 (l : Launch) (D : va_G) (cI cJ cZ cP cS : ClassId) (po : zPool) (m0 mrf mki mpa mta mla msl mco mhe mso msi msh mce mca mwo mnu mte mwa mke mma mth mtr : Nat) (npu nte nat_ nde nto nse nhu nga nsd nfa nba npl nen nnu nwr nra nik : Int32) (gki gpa gta gco : Nat → Int32) (hy0 : 0 ≤ npu.toInt) (hy1 : npu.toInt ≤ 8) (hy2 : 4 ≤ nte.toInt) (hy3 : nte.toInt ≤ 40) (hy4 : 0 ≤ nat_.toInt) (hy5 : nat_.toInt ≤ 40) (hy6 : 0 ≤ nde.toInt) (hy7 : nde.toInt ≤ 24) (hy8 : 0 ≤ nhu.toInt) (hy9 : nhu.toInt ≤ 9) (hy10 : 0 ≤ nra.toInt) (hy11 : nra.toInt ≤ 2000) (hy12 : 0 ≤ nik.toInt) (hy13 : nik.toInt ≤ 1) (hy14 : 0 ≤ nse.toInt) (hy15 : nse.toInt ≤ 300) (hp_gki : zRg gki (0) 6) (hp_gpa : zRg gpa (0) 9) (hp_gta : zRg gta (0) 60) (hp_gco : zRg gco (0) 99) : Met l yX8_firstOf wsX8_firstOf ({ frames := 6, cells := 0, slots := 0, locals := 151 }) (va_Pc [.ref m0, .int 2] (zR D (zKT cI cJ cZ cP cS) po [(zMO m0 npu nte nat_ nde nto nse nhu nga nsd nfa mrf mki mpa mta mla msl mco mhe mso msi msh mce mca mwo mnu mte nba npl nen nnu nwr mwa mke mma mth mtr nra nik), (mki, .inl (cI, 8, .inl gki)), (mpa, .inl (cI, 8, .inl gpa)), (mta, .inl (cI, 8, .inl gta)), (mco, .inl (cI, 3, .inl gco))])) (vp_Si (fun r => -1 ≤ r.toInt ∧ r.toInt ≤ 101 ∧ (r.toInt = zLr gki gpa gta npu.toInt.toNat nhu.toInt (gco 0).toInt (gco 1).toInt (gco 2).toInt 2 nde.toInt nse.toInt))) 0 0 (fun _ => False) := by
  refine Met.ofW (cc := cX8_firstOf) (maxL := 4) (ret := (some .int)) (by decide) rfl ?_
  intro p e s m args below meth c s₁ B hml hv
  obtain ⟨rfl, hP, hK, hN, hZ⟩ := hv
  have hx := B.exec
  have hb := B.bytes
  have hr := B.returns
  have hts := atoms_spec (ws := wsX8_firstOf) B.pre
  have hown : s.vm.findClass RX8 = some m.cls := findClass_of_methodNamed B.named
  have hlocks := B.notSynchronized
  have hl := lv_entry ([.ref m0, .int 2]) (n := 4) (Nat.le_of_ble_eq_true rfl)
  rw [lg_entry_eq]
  generalize (lg_sl ([.ref m0, .int 2]) ++ List.replicate (4 - (lg_sl ([.ref m0, .int 2])).length) Slot.unset).toArray = ls at hl ⊢
  replace hl : lv_has ls 4 [(0, .ref m0), (1, .int 2)] := hl
  refine lv_aload_n hx hb dX8_firstOf_0 rfl (lv_at hl 0 rfl) ?_
  refine va_get (D := D) (ci := 8) (v := .int nde) (C := RX8) (T := TX8) (N := 38) hx hb hts hi_X8_firstOf_8 hown hK hP 0 rfl rfl 3 (by decide) (hts (.fieldLink RX8 115 "TheLiningsInItModel" "depth" "I") (List.mem_of_getElem? (i := 1) rfl)) (fun _ h9 => h9) rfl dX8_firstOf_1 ?_
  refine lv_if_ne (tgt := 9) hx hb dX8_firstOf_4 (by decide) (fun c_1 => ?_) (fun c_1 => ?_)
  · have fc_1 : nde.toInt ≠ 0 := zf_ne c_1 rfl (by decide)
    refine lv_aload_n hx hb dX8_firstOf_9 rfl (lv_at hl 0 rfl) ?_
    refine lv_iload_n hx hb dX8_firstOf_10 rfl (lv_at hl 1 rfl) ?_
    refine lv_aload_n hx hb dX8_firstOf_11 rfl (lv_at hl 0 rfl) ?_
    refine va_get (D := D) (ci := 8) (v := .int nde) (C := RX8) (T := TX8) (N := 38) hx hb hts hi_X8_firstOf_8 hown hK hP 0 rfl rfl 3 (by decide) (hts (.fieldLink RX8 115 "TheLiningsInItModel" "depth" "I") (List.mem_of_getElem? (i := 1) rfl)) (fun _ h9 => h9) rfl dX8_firstOf_12 ?_
    refine lv_aload_n hx hb dX8_firstOf_15 rfl (lv_at hl 0 rfl) ?_
    refine va_get (D := D) (ci := 8) (v := .int nse) (C := RX8) (T := TX8) (N := 38) hx hb hts hi_X8_firstOf_8 hown hK hP 0 rfl rfl 5 (by decide) (hts (.fieldLink RX8 13 "TheLiningsInItModel" "seconds" "I") (List.mem_of_getElem? (i := 2) rfl)) (fun _ h9 => h9) rfl dX8_firstOf_16 ?_
    refine zc_V (As := [.int 2, .int nde, .int nse]) (rest := []) ⟨hx, hb, hml, hown, hts⟩ (c_F_M_leastCost_2 l D cI cJ cZ cP cS po m0 mrf mki mpa mta mla msl mco mhe mso msi msh mce mca mwo mnu mte mwa mke mma mth mtr (npu) (nte) (nat_) (nde) (nto) (nse) (nhu) (nga) (nsd) (nfa) (nba) (npl) (nen) (nnu) (nwr) (nra) (nik) gki gpa gta gco (nde) (nse) hy0 hy1 hy2 hy3 hy4 hy5 hy6 hy7 hy8 hy9 hy10 hy11 hy12 hy13 hy6 hy7 hy14 hy15 hp_gki hp_gpa hp_gta hp_gco) (cwV 3 hts gX8_firstOf_X8_leastCost rfl rfl rfl ⟨rfl, dh_X8_leastCost⟩ ⟨Nat.le_of_ble_eq_true rfl, Nat.le_of_ble_eq_true rfl⟩) hK hN hZ hP (hP.sub [0, 1, 2, 3, 4] rfl) (va_recv (q := (RX8, TX8, 38)) hK hP (ci := 8) (q0 := 0) rfl rfl) rfl hl.1 rfl (Nat.le_of_ble_eq_true rfl) dX8_firstOf_19 ⟨Nat.le_of_ble_eq_true rfl, Nat.le_of_ble_eq_true rfl⟩ (fun r_2 hr_2 => ?_)
    obtain ⟨g_3, g_4, hsr_2_0⟩ := hr_2
    refine lv_istore_n (lv' := [(2, .int r_2), (0, .ref m0), (1, .int 2)]) hx hb dX8_firstOf_22 rfl hl (by decide) rfl (fun ls hl => ?_)
    refine lv_iconst (v := 0) hx hb dX8_firstOf_23 (by decide) ?_
    refine lv_istore_n (lv' := [(3, .int 0), (2, .int r_2), (0, .ref m0), (1, .int 2)]) hx hb dX8_firstOf_24 rfl hl (by decide) rfl (fun ls hl => ?_)
    obtain ⟨i_25, hi_25⟩ : ∃ i : Int32, i = 0 := ⟨_, rfl⟩
    replace hl : lv_has ls 4 [(3, .int i_25), (2, .int r_2), (0, .ref m0), (1, .int 2)] := by rw [hi_25]; exact lv_sub hl [0, 1, 2, 3] rfl
    have h1i_25 : i_25.toInt = 0 := by rw [hi_25]; decide
    obtain ⟨nfu, hni_25⟩ : ∃ nq9 : Nat, npu.toInt ≤ i_25.toInt + (nq9 : Int) := ⟨((npu.toInt : Int) - 0).toNat, by omega⟩
    have hloi_25 : 0 ≤ i_25.toInt := by omega
    have hvi_25_0 : zFf gta nde.toInt nse.toInt ((zLn gki gpa gta npu.toInt.toNat nhu.toInt (gco 0).toInt (gco 1).toInt (gco 2).toInt 2) nde.toInt nse.toInt) (zLv (zLn gki gpa gta npu.toInt.toNat nhu.toInt (gco 0).toInt (gco 1).toInt (gco 2).toInt 1) gki gpa gta (gco 0).toInt (zPw 2) nhu.toInt nde.toInt nse.toInt) i_25.toInt.toNat = -1 := by
      (try rw [hi_25]); (rw [(show ((0 : Int32).toInt.toNat) = 0 from by decide)]; rfl)
    have hvi_25_1 : i_25.toInt ≤ npu.toInt := by
      (try rw [hi_25]); (have k0 : (0 : Int32).toInt = 0 := (by decide); omega)
    clear h1i_25 hi_25
    revert hni_25
    revert hloi_25
    revert hvi_25_1
    revert hvi_25_0
    revert hl
    revert ls
    revert i_25
    induction nfu with
    | zero =>
      intro i_25 ls hl hvi_25_0 hvi_25_1 hloi_25 hni_25
      have hzi_25 : npu.toInt ≤ i_25.toInt := by omega
      refine lv_iload_n hx hb dX8_firstOf_25 rfl (lv_at hl 0 rfl) ?_
      refine lv_aload_n hx hb dX8_firstOf_26 rfl (lv_at hl 2 rfl) ?_
      refine va_get (D := D) (ci := 8) (v := .int npu) (C := RX8) (T := TX8) (N := 38) hx hb hts hi_X8_firstOf_8 hown hK hP 0 rfl rfl 0 (by decide) (hts (.fieldLink RX8 90 "TheLiningsInItModel" "pulls" "I") (List.mem_of_getElem? (i := 3) rfl)) (fun _ h9 => h9) rfl dX8_firstOf_27 ?_
      refine lv_icmp_ge (tgt := 79) hx hb dX8_firstOf_30 (by decide) (fun c_5 => ?_) (fun c_5 => ?_)
      · have fc_5 : npu.toInt ≤ i_25.toInt := zf_le c_5 rfl rfl
        refine lv_aload_n hx hb dX8_firstOf_79 rfl (lv_at hl 2 rfl) ?_
        refine va_get (D := D) (ci := 8) (v := .int nse) (C := RX8) (T := TX8) (N := 38) hx hb hts hi_X8_firstOf_8 hown hK hP 0 rfl rfl 5 (by decide) (hts (.fieldLink RX8 13 "TheLiningsInItModel" "seconds" "I") (List.mem_of_getElem? (i := 2) rfl)) (fun _ h9 => h9) rfl dX8_firstOf_80 ?_
        refine lv_bipush (v := 30) hx hb dX8_firstOf_83 (by decide) ?_
        refine lv_icmp_lt (tgt := 109) hx hb dX8_firstOf_85 (by decide) (fun c_6 => ?_) (fun c_6 => ?_)
        · have fc_6 : nse.toInt < 30 := zf_lt c_6 rfl (by decide)
          refine lv_bipush (v := 100) hx hb dX8_firstOf_109 (by decide) ?_
          exact W.iret (v := 100) hx hb hr (fun t ht hW => ⟨100, rfl, ⟨by decide, by decide, (show (100 : Int32).toInt = zLr gki gpa gta npu.toInt.toNat nhu.toInt (gco 0).toInt (gco 1).toInt (gco 2).toInt 2 nde.toInt nse.toInt from by (have k1 : (101 : Int32).toInt = 101 := (by decide); have k2 : (100 : Int32).toInt = 100 := (by decide); have zl := hsr_2_0; have h9 : i_25.toInt.toNat = npu.toInt.toNat := (by omega); have z := hvi_25_0; rw [h9] at z; have hS := zLn_s (K := gki) (A := gpa) (T := gta) (N := npu.toInt.toNat) (n := 1) (h := nhu.toInt) (c0 := (gco 0).toInt) (c1 := (gco 1).toInt) (c2 := (gco 2).toInt) (d := nde.toInt) (s := nse.toInt); rw [if_neg (by omega)] at hS; have hL : zLn gki gpa gta npu.toInt.toNat nhu.toInt (gco 0).toInt (gco 1).toInt (gco 2).toInt 2 nde.toInt nse.toInt = zPw 2 * zAt (gco 1).toInt (gco 2).toInt nse.toInt := zFf_no npu.toInt.toNat (Or.inl hS) z hS; have hh := zHead (P := zPw 2) (c1 := (gco 1).toInt) (c2 := (gco 2).toInt) (s := nse.toInt) (zPw_pos 2); rw [← hL, ← zl, show zPw 2 = 144 from by decide] at hh; unfold zLr; rw [if_neg (by omega), show (2 : Nat) - 1 = 1 from by decide, if_pos (Or.inr z)]; first | (rw [if_neg (fun z => by (have z2 := hh.mpr z; have z3 := z2.2; have z4 := z2.1; omega))]; omega) | (rw [if_pos (hh.mp ⟨by omega, by omega⟩)]; omega)))⟩, ht⟩) (fun q hq => by cases hq) dX8_firstOf_111
        · have fc_6 : 30 ≤ nse.toInt := zf_nlt c_6 rfl (by decide)
          refine lv_aload_n hx hb dX8_firstOf_88 rfl (lv_at hl 2 rfl) ?_
          refine va_get (D := D) (ci := 8) (v := .ref mco) (C := RX8) (T := TX8) (N := 38) hx hb hts hi_X8_firstOf_8 hown hK hP 0 rfl rfl 16 (by decide) (hts (.fieldLink RX8 44 "TheLiningsInItModel" "cost" "[I") (List.mem_of_getElem? (i := 4) rfl)) (fun _ h9 => h9) rfl dX8_firstOf_89 ?_
          refine lv_iconst (v := 1) hx hb dX8_firstOf_92 (by decide) ?_
          refine va_iald hx hb hK hP 4 0 rfl rfl (zf_in (by decide) (by decide)) dX8_firstOf_93 ?_
          refine lv_topi (fun x_7 ex_7 => ?_)
          have bx_7 : 0 ≤ x_7.toInt ∧ x_7.toInt ≤ 99 := by rw [ex_7]; exact hp_gco _
          refine lv_aload_n hx hb dX8_firstOf_94 rfl (lv_at hl 2 rfl) ?_
          refine lv_iload_n hx hb dX8_firstOf_95 rfl (lv_at hl 3 rfl) ?_
          refine zc_V (As := [.int 2]) (rest := [.int x_7]) ⟨hx, hb, hml, hown, hts⟩ (c_M_power_2 l D cI cJ cZ cP cS po m0 mrf mki mpa mta mla msl mco mhe mso msi msh mce mca mwo mnu mte mwa mke mma mth mtr (npu) (nte) (nat_) (nde) (nto) (nse) (nhu) (nga) (nsd) (nfa) (nba) (npl) (nen) (nnu) (nwr) (nra) (nik) hy0 hy1 hy2 hy3 hy4 hy5 hy6 hy7 hy8 hy9 hy10 hy11 hy12 hy13) (cwV 1 hts gX8_firstOf_X8_power rfl rfl rfl ⟨rfl, dh_X8_power⟩ ⟨Nat.le_of_ble_eq_true rfl, Nat.le_of_ble_eq_true rfl⟩) hK hN hZ hP (hP.sub [0] rfl) (va_recv (q := (RX8, TX8, 38)) hK hP (ci := 8) (q0 := 0) rfl rfl) rfl hl.1 rfl (Nat.le_of_ble_eq_true rfl) dX8_firstOf_96 ⟨Nat.le_of_ble_eq_true rfl, Nat.le_of_ble_eq_true rfl⟩ (fun r_8 hr_8 => ?_)
          obtain rfl := hr_8
          refine lv_imul hx hb dX8_firstOf_99 ?_
          refine lv_topi (fun x_9 ex_9 => ?_)
          have qx_9 : x_9.toInt = x_7.toInt * 144 := by rw [ex_9]; exact zf_mul rfl (by decide) (by omega) (by omega)
          refine lv_iload_n hx hb dX8_firstOf_100 rfl (lv_at hl 1 rfl) ?_
          refine lv_icmp_ne (tgt := 109) hx hb dX8_firstOf_101 (by decide) (fun c_10 => ?_) (fun c_10 => ?_)
          · have fc_10 : x_9.toInt ≠ r_2.toInt := zf_ne c_10 rfl rfl
            refine lv_bipush (v := 100) hx hb dX8_firstOf_109 (by decide) ?_
            exact W.iret (v := 100) hx hb hr (fun t ht hW => ⟨100, rfl, ⟨by decide, by decide, (show (100 : Int32).toInt = zLr gki gpa gta npu.toInt.toNat nhu.toInt (gco 0).toInt (gco 1).toInt (gco 2).toInt 2 nde.toInt nse.toInt from by (have k1 : (101 : Int32).toInt = 101 := (by decide); have k2 : (100 : Int32).toInt = 100 := (by decide); have nx_7 : (gco 1).toInt = x_7.toInt := (by rw [ex_7, show (1 : Int32).toNatClampNeg = 1 from by decide]); have zl := hsr_2_0; have h9 : i_25.toInt.toNat = npu.toInt.toNat := (by omega); have z := hvi_25_0; rw [h9] at z; have hS := zLn_s (K := gki) (A := gpa) (T := gta) (N := npu.toInt.toNat) (n := 1) (h := nhu.toInt) (c0 := (gco 0).toInt) (c1 := (gco 1).toInt) (c2 := (gco 2).toInt) (d := nde.toInt) (s := nse.toInt); rw [if_neg (by omega)] at hS; have hL : zLn gki gpa gta npu.toInt.toNat nhu.toInt (gco 0).toInt (gco 1).toInt (gco 2).toInt 2 nde.toInt nse.toInt = zPw 2 * zAt (gco 1).toInt (gco 2).toInt nse.toInt := zFf_no npu.toInt.toNat (Or.inl hS) z hS; have hh := zHead (P := zPw 2) (c1 := (gco 1).toInt) (c2 := (gco 2).toInt) (s := nse.toInt) (zPw_pos 2); rw [← hL, ← zl, show zPw 2 = 144 from by decide] at hh; unfold zLr; rw [if_neg (by omega), show (2 : Nat) - 1 = 1 from by decide, if_pos (Or.inr z)]; first | (rw [if_neg (fun z => by (have z2 := hh.mpr z; have z3 := z2.2; have z4 := z2.1; omega))]; omega) | (rw [if_pos (hh.mp ⟨by omega, by omega⟩)]; omega)))⟩, ht⟩) (fun q hq => by cases hq) dX8_firstOf_111
          · have fc_10 : x_9.toInt = r_2.toInt := zf_eq c_10 rfl rfl
            refine lv_bipush (v := 101) hx hb dX8_firstOf_104 (by decide) ?_
            refine lv_goto (tgt := 111) hx hb dX8_firstOf_106 (by decide) ?_
            exact W.iret (v := 101) hx hb hr (fun t ht hW => ⟨101, rfl, ⟨by decide, by decide, (show (101 : Int32).toInt = zLr gki gpa gta npu.toInt.toNat nhu.toInt (gco 0).toInt (gco 1).toInt (gco 2).toInt 2 nde.toInt nse.toInt from by (have k1 : (101 : Int32).toInt = 101 := (by decide); have k2 : (100 : Int32).toInt = 100 := (by decide); have nx_7 : (gco 1).toInt = x_7.toInt := (by rw [ex_7, show (1 : Int32).toNatClampNeg = 1 from by decide]); have zl := hsr_2_0; have h9 : i_25.toInt.toNat = npu.toInt.toNat := (by omega); have z := hvi_25_0; rw [h9] at z; have hS := zLn_s (K := gki) (A := gpa) (T := gta) (N := npu.toInt.toNat) (n := 1) (h := nhu.toInt) (c0 := (gco 0).toInt) (c1 := (gco 1).toInt) (c2 := (gco 2).toInt) (d := nde.toInt) (s := nse.toInt); rw [if_neg (by omega)] at hS; have hL : zLn gki gpa gta npu.toInt.toNat nhu.toInt (gco 0).toInt (gco 1).toInt (gco 2).toInt 2 nde.toInt nse.toInt = zPw 2 * zAt (gco 1).toInt (gco 2).toInt nse.toInt := zFf_no npu.toInt.toNat (Or.inl hS) z hS; have hh := zHead (P := zPw 2) (c1 := (gco 1).toInt) (c2 := (gco 2).toInt) (s := nse.toInt) (zPw_pos 2); rw [← hL, ← zl, show zPw 2 = 144 from by decide] at hh; unfold zLr; rw [if_neg (by omega), show (2 : Nat) - 1 = 1 from by decide, if_pos (Or.inr z)]; first | (rw [if_pos (hh.mp ⟨by omega, by omega⟩)]; omega) | (rw [if_neg (fun z => by (have z2 := hh.mpr z; have z3 := z2.2; have z4 := z2.1; omega))]; omega)))⟩, ht⟩) (fun q hq => by cases hq) dX8_firstOf_111
      · exfalso; have fc_5 : i_25.toInt < npu.toInt := zf_nle c_5 rfl rfl; omega
    | succ nfu ih =>
      intro i_25 ls hl hvi_25_0 hvi_25_1 hloi_25 hni_25
      refine lv_iload_n hx hb dX8_firstOf_25 rfl (lv_at hl 0 rfl) ?_
      refine lv_aload_n hx hb dX8_firstOf_26 rfl (lv_at hl 2 rfl) ?_
      refine va_get (D := D) (ci := 8) (v := .int npu) (C := RX8) (T := TX8) (N := 38) hx hb hts hi_X8_firstOf_8 hown hK hP 0 rfl rfl 0 (by decide) (hts (.fieldLink RX8 90 "TheLiningsInItModel" "pulls" "I") (List.mem_of_getElem? (i := 3) rfl)) (fun _ h9 => h9) rfl dX8_firstOf_27 ?_
      refine lv_icmp_ge (tgt := 79) hx hb dX8_firstOf_30 (by decide) (fun c_11 => ?_) (fun c_11 => ?_)
      · have fc_11 : npu.toInt ≤ i_25.toInt := zf_le c_11 rfl rfl
        refine lv_aload_n hx hb dX8_firstOf_79 rfl (lv_at hl 2 rfl) ?_
        refine va_get (D := D) (ci := 8) (v := .int nse) (C := RX8) (T := TX8) (N := 38) hx hb hts hi_X8_firstOf_8 hown hK hP 0 rfl rfl 5 (by decide) (hts (.fieldLink RX8 13 "TheLiningsInItModel" "seconds" "I") (List.mem_of_getElem? (i := 2) rfl)) (fun _ h9 => h9) rfl dX8_firstOf_80 ?_
        refine lv_bipush (v := 30) hx hb dX8_firstOf_83 (by decide) ?_
        refine lv_icmp_lt (tgt := 109) hx hb dX8_firstOf_85 (by decide) (fun c_12 => ?_) (fun c_12 => ?_)
        · have fc_12 : nse.toInt < 30 := zf_lt c_12 rfl (by decide)
          refine lv_bipush (v := 100) hx hb dX8_firstOf_109 (by decide) ?_
          exact W.iret (v := 100) hx hb hr (fun t ht hW => ⟨100, rfl, ⟨by decide, by decide, (show (100 : Int32).toInt = zLr gki gpa gta npu.toInt.toNat nhu.toInt (gco 0).toInt (gco 1).toInt (gco 2).toInt 2 nde.toInt nse.toInt from by (have k1 : (101 : Int32).toInt = 101 := (by decide); have k2 : (100 : Int32).toInt = 100 := (by decide); have zl := hsr_2_0; have h9 : i_25.toInt.toNat = npu.toInt.toNat := (by omega); have z := hvi_25_0; rw [h9] at z; have hS := zLn_s (K := gki) (A := gpa) (T := gta) (N := npu.toInt.toNat) (n := 1) (h := nhu.toInt) (c0 := (gco 0).toInt) (c1 := (gco 1).toInt) (c2 := (gco 2).toInt) (d := nde.toInt) (s := nse.toInt); rw [if_neg (by omega)] at hS; have hL : zLn gki gpa gta npu.toInt.toNat nhu.toInt (gco 0).toInt (gco 1).toInt (gco 2).toInt 2 nde.toInt nse.toInt = zPw 2 * zAt (gco 1).toInt (gco 2).toInt nse.toInt := zFf_no npu.toInt.toNat (Or.inl hS) z hS; have hh := zHead (P := zPw 2) (c1 := (gco 1).toInt) (c2 := (gco 2).toInt) (s := nse.toInt) (zPw_pos 2); rw [← hL, ← zl, show zPw 2 = 144 from by decide] at hh; unfold zLr; rw [if_neg (by omega), show (2 : Nat) - 1 = 1 from by decide, if_pos (Or.inr z)]; first | (rw [if_neg (fun z => by (have z2 := hh.mpr z; have z3 := z2.2; have z4 := z2.1; omega))]; omega) | (rw [if_pos (hh.mp ⟨by omega, by omega⟩)]; omega)))⟩, ht⟩) (fun q hq => by cases hq) dX8_firstOf_111
        · have fc_12 : 30 ≤ nse.toInt := zf_nlt c_12 rfl (by decide)
          refine lv_aload_n hx hb dX8_firstOf_88 rfl (lv_at hl 2 rfl) ?_
          refine va_get (D := D) (ci := 8) (v := .ref mco) (C := RX8) (T := TX8) (N := 38) hx hb hts hi_X8_firstOf_8 hown hK hP 0 rfl rfl 16 (by decide) (hts (.fieldLink RX8 44 "TheLiningsInItModel" "cost" "[I") (List.mem_of_getElem? (i := 4) rfl)) (fun _ h9 => h9) rfl dX8_firstOf_89 ?_
          refine lv_iconst (v := 1) hx hb dX8_firstOf_92 (by decide) ?_
          refine va_iald hx hb hK hP 4 0 rfl rfl (zf_in (by decide) (by decide)) dX8_firstOf_93 ?_
          refine lv_topi (fun x_13 ex_13 => ?_)
          have bx_13 : 0 ≤ x_13.toInt ∧ x_13.toInt ≤ 99 := by rw [ex_13]; exact hp_gco _
          refine lv_aload_n hx hb dX8_firstOf_94 rfl (lv_at hl 2 rfl) ?_
          refine lv_iload_n hx hb dX8_firstOf_95 rfl (lv_at hl 3 rfl) ?_
          refine zc_V (As := [.int 2]) (rest := [.int x_13]) ⟨hx, hb, hml, hown, hts⟩ (c_M_power_2 l D cI cJ cZ cP cS po m0 mrf mki mpa mta mla msl mco mhe mso msi msh mce mca mwo mnu mte mwa mke mma mth mtr (npu) (nte) (nat_) (nde) (nto) (nse) (nhu) (nga) (nsd) (nfa) (nba) (npl) (nen) (nnu) (nwr) (nra) (nik) hy0 hy1 hy2 hy3 hy4 hy5 hy6 hy7 hy8 hy9 hy10 hy11 hy12 hy13) (cwV 1 hts gX8_firstOf_X8_power rfl rfl rfl ⟨rfl, dh_X8_power⟩ ⟨Nat.le_of_ble_eq_true rfl, Nat.le_of_ble_eq_true rfl⟩) hK hN hZ hP (hP.sub [0] rfl) (va_recv (q := (RX8, TX8, 38)) hK hP (ci := 8) (q0 := 0) rfl rfl) rfl hl.1 rfl (Nat.le_of_ble_eq_true rfl) dX8_firstOf_96 ⟨Nat.le_of_ble_eq_true rfl, Nat.le_of_ble_eq_true rfl⟩ (fun r_14 hr_14 => ?_)
          obtain rfl := hr_14
          refine lv_imul hx hb dX8_firstOf_99 ?_
          refine lv_topi (fun x_15 ex_15 => ?_)
          have qx_15 : x_15.toInt = x_13.toInt * 144 := by rw [ex_15]; exact zf_mul rfl (by decide) (by omega) (by omega)
          refine lv_iload_n hx hb dX8_firstOf_100 rfl (lv_at hl 1 rfl) ?_
          refine lv_icmp_ne (tgt := 109) hx hb dX8_firstOf_101 (by decide) (fun c_16 => ?_) (fun c_16 => ?_)
          · have fc_16 : x_15.toInt ≠ r_2.toInt := zf_ne c_16 rfl rfl
            refine lv_bipush (v := 100) hx hb dX8_firstOf_109 (by decide) ?_
            exact W.iret (v := 100) hx hb hr (fun t ht hW => ⟨100, rfl, ⟨by decide, by decide, (show (100 : Int32).toInt = zLr gki gpa gta npu.toInt.toNat nhu.toInt (gco 0).toInt (gco 1).toInt (gco 2).toInt 2 nde.toInt nse.toInt from by (have k1 : (101 : Int32).toInt = 101 := (by decide); have k2 : (100 : Int32).toInt = 100 := (by decide); have nx_13 : (gco 1).toInt = x_13.toInt := (by rw [ex_13, show (1 : Int32).toNatClampNeg = 1 from by decide]); have zl := hsr_2_0; have h9 : i_25.toInt.toNat = npu.toInt.toNat := (by omega); have z := hvi_25_0; rw [h9] at z; have hS := zLn_s (K := gki) (A := gpa) (T := gta) (N := npu.toInt.toNat) (n := 1) (h := nhu.toInt) (c0 := (gco 0).toInt) (c1 := (gco 1).toInt) (c2 := (gco 2).toInt) (d := nde.toInt) (s := nse.toInt); rw [if_neg (by omega)] at hS; have hL : zLn gki gpa gta npu.toInt.toNat nhu.toInt (gco 0).toInt (gco 1).toInt (gco 2).toInt 2 nde.toInt nse.toInt = zPw 2 * zAt (gco 1).toInt (gco 2).toInt nse.toInt := zFf_no npu.toInt.toNat (Or.inl hS) z hS; have hh := zHead (P := zPw 2) (c1 := (gco 1).toInt) (c2 := (gco 2).toInt) (s := nse.toInt) (zPw_pos 2); rw [← hL, ← zl, show zPw 2 = 144 from by decide] at hh; unfold zLr; rw [if_neg (by omega), show (2 : Nat) - 1 = 1 from by decide, if_pos (Or.inr z)]; first | (rw [if_neg (fun z => by (have z2 := hh.mpr z; have z3 := z2.2; have z4 := z2.1; omega))]; omega) | (rw [if_pos (hh.mp ⟨by omega, by omega⟩)]; omega)))⟩, ht⟩) (fun q hq => by cases hq) dX8_firstOf_111
          · have fc_16 : x_15.toInt = r_2.toInt := zf_eq c_16 rfl rfl
            refine lv_bipush (v := 101) hx hb dX8_firstOf_104 (by decide) ?_
            refine lv_goto (tgt := 111) hx hb dX8_firstOf_106 (by decide) ?_
            exact W.iret (v := 101) hx hb hr (fun t ht hW => ⟨101, rfl, ⟨by decide, by decide, (show (101 : Int32).toInt = zLr gki gpa gta npu.toInt.toNat nhu.toInt (gco 0).toInt (gco 1).toInt (gco 2).toInt 2 nde.toInt nse.toInt from by (have k1 : (101 : Int32).toInt = 101 := (by decide); have k2 : (100 : Int32).toInt = 100 := (by decide); have nx_13 : (gco 1).toInt = x_13.toInt := (by rw [ex_13, show (1 : Int32).toNatClampNeg = 1 from by decide]); have zl := hsr_2_0; have h9 : i_25.toInt.toNat = npu.toInt.toNat := (by omega); have z := hvi_25_0; rw [h9] at z; have hS := zLn_s (K := gki) (A := gpa) (T := gta) (N := npu.toInt.toNat) (n := 1) (h := nhu.toInt) (c0 := (gco 0).toInt) (c1 := (gco 1).toInt) (c2 := (gco 2).toInt) (d := nde.toInt) (s := nse.toInt); rw [if_neg (by omega)] at hS; have hL : zLn gki gpa gta npu.toInt.toNat nhu.toInt (gco 0).toInt (gco 1).toInt (gco 2).toInt 2 nde.toInt nse.toInt = zPw 2 * zAt (gco 1).toInt (gco 2).toInt nse.toInt := zFf_no npu.toInt.toNat (Or.inl hS) z hS; have hh := zHead (P := zPw 2) (c1 := (gco 1).toInt) (c2 := (gco 2).toInt) (s := nse.toInt) (zPw_pos 2); rw [← hL, ← zl, show zPw 2 = 144 from by decide] at hh; unfold zLr; rw [if_neg (by omega), show (2 : Nat) - 1 = 1 from by decide, if_pos (Or.inr z)]; first | (rw [if_pos (hh.mp ⟨by omega, by omega⟩)]; omega) | (rw [if_neg (fun z => by (have z2 := hh.mpr z; have z3 := z2.2; have z4 := z2.1; omega))]; omega)))⟩, ht⟩) (fun q hq => by cases hq) dX8_firstOf_111
      · have fc_11 : i_25.toInt < npu.toInt := zf_nle c_11 rfl rfl
        refine lv_iload_n hx hb dX8_firstOf_33 rfl (lv_at hl 3 rfl) ?_
        refine lv_if_le (tgt := 79) hx hb dX8_firstOf_34 (by decide) (fun c_17 => ?_) (fun c_17 => ?_)
        · exact absurd c_17 (by decide)
        · refine lv_aload_n hx hb dX8_firstOf_37 rfl (lv_at hl 2 rfl) ?_
          refine lv_iload_n hx hb dX8_firstOf_38 rfl (lv_at hl 0 rfl) ?_
          refine lv_aload_n hx hb dX8_firstOf_39 rfl (lv_at hl 2 rfl) ?_
          refine va_get (D := D) (ci := 8) (v := .int nde) (C := RX8) (T := TX8) (N := 38) hx hb hts hi_X8_firstOf_8 hown hK hP 0 rfl rfl 3 (by decide) (hts (.fieldLink RX8 115 "TheLiningsInItModel" "depth" "I") (List.mem_of_getElem? (i := 1) rfl)) (fun _ h9 => h9) rfl dX8_firstOf_40 ?_
          refine lv_aload_n hx hb dX8_firstOf_43 rfl (lv_at hl 2 rfl) ?_
          refine va_get (D := D) (ci := 8) (v := .int nse) (C := RX8) (T := TX8) (N := 38) hx hb hts hi_X8_firstOf_8 hown hK hP 0 rfl rfl 5 (by decide) (hts (.fieldLink RX8 13 "TheLiningsInItModel" "seconds" "I") (List.mem_of_getElem? (i := 2) rfl)) (fun _ h9 => h9) rfl dX8_firstOf_44 ?_
          refine zc_V (As := [.int i_25, .int nde, .int nse]) (rest := []) ⟨hx, hb, hml, hown, hts⟩ (c_F_M_mayBe l D cI cJ cZ cP cS po m0 mrf mki mpa mta mla msl mco mhe mso msi msh mce mca mwo mnu mte mwa mke mma mth mtr (npu) (nte) (nat_) (nde) (nto) (nse) (nhu) (nga) (nsd) (nfa) (nba) (npl) (nen) (nnu) (nwr) (nra) (nik) gta (i_25) (nde) (nse) hy0 hy1 hy2 hy3 hy4 hy5 hy6 hy7 hy8 hy9 hy10 hy11 hy12 hy13 (by omega) (by omega) hp_gta) (cwV 3 hts gX8_firstOf_X8_mayBe rfl rfl rfl ⟨rfl, dh_X8_mayBe⟩ ⟨Nat.le_of_ble_eq_true rfl, Nat.le_of_ble_eq_true rfl⟩) hK hN hZ hP (hP.sub [0, 3] rfl) (va_recv (q := (RX8, TX8, 38)) hK hP (ci := 8) (q0 := 0) rfl rfl) rfl hl.1 rfl (Nat.le_of_ble_eq_true rfl) dX8_firstOf_47 ⟨Nat.le_of_ble_eq_true rfl, Nat.le_of_ble_eq_true rfl⟩ (fun r_18 hr_18 => ?_)
          obtain ⟨g_19, g_20, hsr_18_0⟩ := hr_18
          refine lv_if_eq (tgt := 73) hx hb dX8_firstOf_50 (by decide) (fun c_21 => ?_) (fun c_21 => ?_)
          · have fc_21 : r_18.toInt = 0 := zf_eq c_21 rfl (by decide)
            obtain ⟨x_22, ex_22⟩ : ∃ y : Int32, y = i_25 + 1 := ⟨_, rfl⟩
            have qx_22 : x_22.toInt = i_25.toInt + 1 := dw_inc ex_22 fc_11
            refine lv_iinc (v := x_22) (lv' := [(3, .int x_22), (2, .int r_2), (0, .ref m0), (1, .int 2)]) hx hb dX8_firstOf_73 hl (k := 0) rfl ex_22.symm (by decide) rfl (fun ls hl => ?_)
            refine lv_goto (tgt := 25) hx hb dX8_firstOf_76 (by decide) ?_
            exact ih x_22 _ (lv_sub hl [0, 1, 2, 3] rfl) (show zFf gta nde.toInt nse.toInt ((zLn gki gpa gta npu.toInt.toNat nhu.toInt (gco 0).toInt (gco 1).toInt (gco 2).toInt 2) nde.toInt nse.toInt) (zLv (zLn gki gpa gta npu.toInt.toNat nhu.toInt (gco 0).toInt (gco 1).toInt (gco 2).toInt 1) gki gpa gta (gco 0).toInt (zPw 2) nhu.toInt nde.toInt nse.toInt) x_22.toInt.toNat = -1 from by (have hx : x_22.toInt.toNat = i_25.toInt.toNat + 1 := (by omega); have y9 : i_25.toNatClampNeg = i_25.toInt.toNat := rfl; have hm := hsr_18_0; rw [y9] at hm; rw [hx]; exact zFf_nx hvi_25_0 (fun z => by (have z1 := hm.mpr z.1; omega)))) (show x_22.toInt ≤ npu.toInt from by omega) (dw_lo hloi_25 qx_22) (dw_hn hni_25 qx_22)
          · have fc_21 : r_18.toInt ≠ 0 := zf_ne c_21 rfl (by decide)
            have htl9 : (gta i_25.toNatClampNeg).toInt ≤ nse.toInt := (hsr_18_0.mp (by omega)).2
            refine lv_aload_n hx hb dX8_firstOf_53 rfl (lv_at hl 2 rfl) ?_
            refine lv_iload_n hx hb dX8_firstOf_54 rfl (lv_at hl 0 rfl) ?_
            refine lv_iload_n hx hb dX8_firstOf_55 rfl (lv_at hl 3 rfl) ?_
            refine lv_aload_n hx hb dX8_firstOf_56 rfl (lv_at hl 2 rfl) ?_
            refine va_get (D := D) (ci := 8) (v := .int nde) (C := RX8) (T := TX8) (N := 38) hx hb hts hi_X8_firstOf_8 hown hK hP 0 rfl rfl 3 (by decide) (hts (.fieldLink RX8 115 "TheLiningsInItModel" "depth" "I") (List.mem_of_getElem? (i := 1) rfl)) (fun _ h9 => h9) rfl dX8_firstOf_57 ?_
            refine lv_aload_n hx hb dX8_firstOf_60 rfl (lv_at hl 2 rfl) ?_
            refine va_get (D := D) (ci := 8) (v := .int nse) (C := RX8) (T := TX8) (N := 38) hx hb hts hi_X8_firstOf_8 hown hK hP 0 rfl rfl 5 (by decide) (hts (.fieldLink RX8 13 "TheLiningsInItModel" "seconds" "I") (List.mem_of_getElem? (i := 2) rfl)) (fun _ h9 => h9) rfl dX8_firstOf_61 ?_
            refine zc_V (As := [.int i_25, .int 2, .int nde, .int nse]) (rest := []) ⟨hx, hb, hml, hown, hts⟩ (c_F_M_costBy_2 l D cI cJ cZ cP cS po m0 mrf mki mpa mta mla msl mco mhe mso msi msh mce mca mwo mnu mte mwa mke mma mth mtr (npu) (nte) (nat_) (nde) (nto) (nse) (nhu) (nga) (nsd) (nfa) (nba) (npl) (nen) (nnu) (nwr) (nra) (nik) gki gpa gta gco (i_25) (nde) (nse) hy0 hy1 hy2 hy3 hy4 hy5 hy6 hy7 hy8 hy9 hy10 hy11 hy12 hy13 (by omega) (by omega) hy6 hy7 hy14 hy15 (by first | assumption | omega) hp_gki hp_gpa hp_gta hp_gco) (cwV 4 hts gX8_firstOf_X8_costBy rfl rfl rfl ⟨rfl, dh_X8_costBy⟩ ⟨Nat.le_of_ble_eq_true rfl, Nat.le_of_ble_eq_true rfl⟩) hK hN hZ hP (hP.sub [0, 1, 2, 3, 4] rfl) (va_recv (q := (RX8, TX8, 38)) hK hP (ci := 8) (q0 := 0) rfl rfl) rfl hl.1 rfl (Nat.le_of_ble_eq_true rfl) dX8_firstOf_64 ⟨Nat.le_of_ble_eq_true rfl, Nat.le_of_ble_eq_true rfl⟩ (fun r_23 hr_23 => ?_)
            obtain ⟨g_24, g_25, hsr_23_0⟩ := hr_23
            refine lv_iload_n hx hb dX8_firstOf_67 rfl (lv_at hl 1 rfl) ?_
            refine lv_icmp_ne (tgt := 73) hx hb dX8_firstOf_68 (by decide) (fun c_26 => ?_) (fun c_26 => ?_)
            · have fc_26 : r_23.toInt ≠ r_2.toInt := zf_ne c_26 rfl rfl
              obtain ⟨x_27, ex_27⟩ : ∃ y : Int32, y = i_25 + 1 := ⟨_, rfl⟩
              have qx_27 : x_27.toInt = i_25.toInt + 1 := dw_inc ex_27 fc_11
              refine lv_iinc (v := x_27) (lv' := [(3, .int x_27), (2, .int r_2), (0, .ref m0), (1, .int 2)]) hx hb dX8_firstOf_73 hl (k := 0) rfl ex_27.symm (by decide) rfl (fun ls hl => ?_)
              refine lv_goto (tgt := 25) hx hb dX8_firstOf_76 (by decide) ?_
              exact ih x_27 _ (lv_sub hl [0, 1, 2, 3] rfl) (show zFf gta nde.toInt nse.toInt ((zLn gki gpa gta npu.toInt.toNat nhu.toInt (gco 0).toInt (gco 1).toInt (gco 2).toInt 2) nde.toInt nse.toInt) (zLv (zLn gki gpa gta npu.toInt.toNat nhu.toInt (gco 0).toInt (gco 1).toInt (gco 2).toInt 1) gki gpa gta (gco 0).toInt (zPw 2) nhu.toInt nde.toInt nse.toInt) x_27.toInt.toNat = -1 from by (have hx : x_27.toInt.toNat = i_25.toInt.toNat + 1 := (by omega); have y9 : i_25.toNatClampNeg = i_25.toInt.toNat := rfl; have hm := hsr_18_0; rw [y9] at hm; have zr := hsr_23_0; rw [y9] at zr; have zr2 : r_23.toInt = (zLv (zLn gki gpa gta npu.toInt.toNat nhu.toInt (gco 0).toInt (gco 1).toInt (gco 2).toInt 1) gki gpa gta (gco 0).toInt (zPw 2) nhu.toInt nde.toInt nse.toInt) i_25.toInt.toNat := zr; have zl := hsr_2_0; rw [hx]; exact zFf_nx hvi_25_0 (fun z => by (have z2 := z.2; rw [← zr2, ← zl] at z2; omega)))) (show x_27.toInt ≤ npu.toInt from by omega) (dw_lo hloi_25 qx_27) (dw_hn hni_25 qx_27)
            · have fc_26 : r_23.toInt = r_2.toInt := zf_eq c_26 rfl rfl
              refine lv_iload_n hx hb dX8_firstOf_71 rfl (lv_at hl 0 rfl) ?_
              exact W.iret (v := i_25) hx hb hr (fun t ht hW => ⟨i_25, rfl, ⟨by omega, by omega, (show (i_25 : Int32).toInt = zLr gki gpa gta npu.toInt.toNat nhu.toInt (gco 0).toInt (gco 1).toInt (gco 2).toInt 2 nde.toInt nse.toInt from by (have y9 : i_25.toNatClampNeg = i_25.toInt.toNat := rfl; have hm := hsr_18_0; rw [y9] at hm; have zr := hsr_23_0; rw [y9] at zr; have zr2 : r_23.toInt = (zLv (zLn gki gpa gta npu.toInt.toNat nhu.toInt (gco 0).toInt (gco 1).toInt (gco 2).toInt 1) gki gpa gta (gco 0).toInt (zPw 2) nhu.toInt nde.toInt nse.toInt) i_25.toInt.toNat := zr; have zl := hsr_2_0; have zf : zFf gta nde.toInt nse.toInt ((zLn gki gpa gta npu.toInt.toNat nhu.toInt (gco 0).toInt (gco 1).toInt (gco 2).toInt 2) nde.toInt nse.toInt) (zLv (zLn gki gpa gta npu.toInt.toNat nhu.toInt (gco 0).toInt (gco 1).toInt (gco 2).toInt 1) gki gpa gta (gco 0).toInt (zPw 2) nhu.toInt nde.toInt nse.toInt) npu.toInt.toNat = (i_25.toInt.toNat : Int) := zFf_at hvi_25_0 (hm.mp (by omega)) (by rw [← zr2, ← zl]; omega) (by omega); unfold zLr; rw [if_neg (by omega), show (2 : Nat) - 1 = 1 from by decide, if_neg (fun z => by (rcases z with z | z; (exact absurd z (by decide)); (rw [zf] at z; omega))), zf]; omega))⟩, ht⟩) (fun q hq => by cases hq) dX8_firstOf_72
  · have fc_1 : nde.toInt = 0 := zf_eq c_1 rfl (by decide)
    refine lv_iconst (v := (-1)) hx hb dX8_firstOf_7 (by decide) ?_
    exact W.iret (v := (-1)) hx hb hr (fun t ht hW => ⟨(-1), rfl, ⟨by decide, by decide, (show ((-1) : Int32).toInt = zLr gki gpa gta npu.toInt.toNat nhu.toInt (gco 0).toInt (gco 1).toInt (gco 2).toInt 2 nde.toInt nse.toInt from by (have k9 : ((-1) : Int32).toInt = -1 := (by decide); unfold zLr; rw [if_pos (by omega)]; exact k9))⟩, ht⟩) (fun q hq => by cases hq) dX8_firstOf_8
set_option maxHeartbeats 4000000 in
set_option maxRecDepth 100000 in
theorem c_F_M_firstOf_3 (l : Launch) (D : va_G) (cI cJ cZ cP cS : ClassId) (po : zPool) (m0 mrf mki mpa mta mla msl mco mhe mso msi msh mce mca mwo mnu mte mwa mke mma mth mtr : Nat) (npu nte nat_ nde nto nse nhu nga nsd nfa nba npl nen nnu nwr nra nik : Int32) (gki gpa gta gco : Nat → Int32) (hy0 : 0 ≤ npu.toInt) (hy1 : npu.toInt ≤ 8) (hy2 : 4 ≤ nte.toInt) (hy3 : nte.toInt ≤ 40) (hy4 : 0 ≤ nat_.toInt) (hy5 : nat_.toInt ≤ 40) (hy6 : 0 ≤ nde.toInt) (hy7 : nde.toInt ≤ 24) (hy8 : 0 ≤ nhu.toInt) (hy9 : nhu.toInt ≤ 9) (hy10 : 0 ≤ nra.toInt) (hy11 : nra.toInt ≤ 2000) (hy12 : 0 ≤ nik.toInt) (hy13 : nik.toInt ≤ 1) (hy14 : 0 ≤ nse.toInt) (hy15 : nse.toInt ≤ 300) (hp_gki : zRg gki (0) 6) (hp_gpa : zRg gpa (0) 9) (hp_gta : zRg gta (0) 60) (hp_gco : zRg gco (0) 99) : Met l yX8_firstOf wsX8_firstOf ({ frames := 8, cells := 0, slots := 0, locals := 203 }) (va_Pc [.ref m0, .int 3] (zR D (zKT cI cJ cZ cP cS) po [(zMO m0 npu nte nat_ nde nto nse nhu nga nsd nfa mrf mki mpa mta mla msl mco mhe mso msi msh mce mca mwo mnu mte nba npl nen nnu nwr mwa mke mma mth mtr nra nik), (mki, .inl (cI, 8, .inl gki)), (mpa, .inl (cI, 8, .inl gpa)), (mta, .inl (cI, 8, .inl gta)), (mco, .inl (cI, 3, .inl gco))])) (vp_Si (fun r => -1 ≤ r.toInt ∧ r.toInt ≤ 101 ∧ (r.toInt = zLr gki gpa gta npu.toInt.toNat nhu.toInt (gco 0).toInt (gco 1).toInt (gco 2).toInt 3 nde.toInt nse.toInt))) 0 0 (fun _ => False) := by
  refine Met.ofW (cc := cX8_firstOf) (maxL := 4) (ret := (some .int)) (by decide) rfl ?_
  intro p e s m args below meth c s₁ B hml hv
  obtain ⟨rfl, hP, hK, hN, hZ⟩ := hv
  have hx := B.exec
  have hb := B.bytes
  have hr := B.returns
  have hts := atoms_spec (ws := wsX8_firstOf) B.pre
  have hown : s.vm.findClass RX8 = some m.cls := findClass_of_methodNamed B.named
  have hlocks := B.notSynchronized
  have hl := lv_entry ([.ref m0, .int 3]) (n := 4) (Nat.le_of_ble_eq_true rfl)
  rw [lg_entry_eq]
  generalize (lg_sl ([.ref m0, .int 3]) ++ List.replicate (4 - (lg_sl ([.ref m0, .int 3])).length) Slot.unset).toArray = ls at hl ⊢
  replace hl : lv_has ls 4 [(0, .ref m0), (1, .int 3)] := hl
  refine lv_aload_n hx hb dX8_firstOf_0 rfl (lv_at hl 0 rfl) ?_
  refine va_get (D := D) (ci := 8) (v := .int nde) (C := RX8) (T := TX8) (N := 38) hx hb hts hi_X8_firstOf_8 hown hK hP 0 rfl rfl 3 (by decide) (hts (.fieldLink RX8 115 "TheLiningsInItModel" "depth" "I") (List.mem_of_getElem? (i := 1) rfl)) (fun _ h9 => h9) rfl dX8_firstOf_1 ?_
  refine lv_if_ne (tgt := 9) hx hb dX8_firstOf_4 (by decide) (fun c_1 => ?_) (fun c_1 => ?_)
  · have fc_1 : nde.toInt ≠ 0 := zf_ne c_1 rfl (by decide)
    refine lv_aload_n hx hb dX8_firstOf_9 rfl (lv_at hl 0 rfl) ?_
    refine lv_iload_n hx hb dX8_firstOf_10 rfl (lv_at hl 1 rfl) ?_
    refine lv_aload_n hx hb dX8_firstOf_11 rfl (lv_at hl 0 rfl) ?_
    refine va_get (D := D) (ci := 8) (v := .int nde) (C := RX8) (T := TX8) (N := 38) hx hb hts hi_X8_firstOf_8 hown hK hP 0 rfl rfl 3 (by decide) (hts (.fieldLink RX8 115 "TheLiningsInItModel" "depth" "I") (List.mem_of_getElem? (i := 1) rfl)) (fun _ h9 => h9) rfl dX8_firstOf_12 ?_
    refine lv_aload_n hx hb dX8_firstOf_15 rfl (lv_at hl 0 rfl) ?_
    refine va_get (D := D) (ci := 8) (v := .int nse) (C := RX8) (T := TX8) (N := 38) hx hb hts hi_X8_firstOf_8 hown hK hP 0 rfl rfl 5 (by decide) (hts (.fieldLink RX8 13 "TheLiningsInItModel" "seconds" "I") (List.mem_of_getElem? (i := 2) rfl)) (fun _ h9 => h9) rfl dX8_firstOf_16 ?_
    refine zc_V (As := [.int 3, .int nde, .int nse]) (rest := []) ⟨hx, hb, hml, hown, hts⟩ (c_F_M_leastCost_3 l D cI cJ cZ cP cS po m0 mrf mki mpa mta mla msl mco mhe mso msi msh mce mca mwo mnu mte mwa mke mma mth mtr (npu) (nte) (nat_) (nde) (nto) (nse) (nhu) (nga) (nsd) (nfa) (nba) (npl) (nen) (nnu) (nwr) (nra) (nik) gki gpa gta gco (nde) (nse) hy0 hy1 hy2 hy3 hy4 hy5 hy6 hy7 hy8 hy9 hy10 hy11 hy12 hy13 hy6 hy7 hy14 hy15 hp_gki hp_gpa hp_gta hp_gco) (cwV 3 hts gX8_firstOf_X8_leastCost rfl rfl rfl ⟨rfl, dh_X8_leastCost⟩ ⟨Nat.le_of_ble_eq_true rfl, Nat.le_of_ble_eq_true rfl⟩) hK hN hZ hP (hP.sub [0, 1, 2, 3, 4] rfl) (va_recv (q := (RX8, TX8, 38)) hK hP (ci := 8) (q0 := 0) rfl rfl) rfl hl.1 rfl (Nat.le_of_ble_eq_true rfl) dX8_firstOf_19 ⟨Nat.le_of_ble_eq_true rfl, Nat.le_of_ble_eq_true rfl⟩ (fun r_2 hr_2 => ?_)
    obtain ⟨g_3, g_4, hsr_2_0⟩ := hr_2
    refine lv_istore_n (lv' := [(2, .int r_2), (0, .ref m0), (1, .int 3)]) hx hb dX8_firstOf_22 rfl hl (by decide) rfl (fun ls hl => ?_)
    refine lv_iconst (v := 0) hx hb dX8_firstOf_23 (by decide) ?_
    refine lv_istore_n (lv' := [(3, .int 0), (2, .int r_2), (0, .ref m0), (1, .int 3)]) hx hb dX8_firstOf_24 rfl hl (by decide) rfl (fun ls hl => ?_)
    obtain ⟨i_25, hi_25⟩ : ∃ i : Int32, i = 0 := ⟨_, rfl⟩
    replace hl : lv_has ls 4 [(3, .int i_25), (2, .int r_2), (0, .ref m0), (1, .int 3)] := by rw [hi_25]; exact lv_sub hl [0, 1, 2, 3] rfl
    have h1i_25 : i_25.toInt = 0 := by rw [hi_25]; decide
    obtain ⟨nfu, hni_25⟩ : ∃ nq9 : Nat, npu.toInt ≤ i_25.toInt + (nq9 : Int) := ⟨((npu.toInt : Int) - 0).toNat, by omega⟩
    have hloi_25 : 0 ≤ i_25.toInt := by omega
    have hvi_25_0 : zFf gta nde.toInt nse.toInt ((zLn gki gpa gta npu.toInt.toNat nhu.toInt (gco 0).toInt (gco 1).toInt (gco 2).toInt 3) nde.toInt nse.toInt) (zLv (zLn gki gpa gta npu.toInt.toNat nhu.toInt (gco 0).toInt (gco 1).toInt (gco 2).toInt 2) gki gpa gta (gco 0).toInt (zPw 3) nhu.toInt nde.toInt nse.toInt) i_25.toInt.toNat = -1 := by
      (try rw [hi_25]); (rw [(show ((0 : Int32).toInt.toNat) = 0 from by decide)]; rfl)
    have hvi_25_1 : i_25.toInt ≤ npu.toInt := by
      (try rw [hi_25]); (have k0 : (0 : Int32).toInt = 0 := (by decide); omega)
    clear h1i_25 hi_25
    revert hni_25
    revert hloi_25
    revert hvi_25_1
    revert hvi_25_0
    revert hl
    revert ls
    revert i_25
    induction nfu with
    | zero =>
      intro i_25 ls hl hvi_25_0 hvi_25_1 hloi_25 hni_25
      have hzi_25 : npu.toInt ≤ i_25.toInt := by omega
      refine lv_iload_n hx hb dX8_firstOf_25 rfl (lv_at hl 0 rfl) ?_
      refine lv_aload_n hx hb dX8_firstOf_26 rfl (lv_at hl 2 rfl) ?_
      refine va_get (D := D) (ci := 8) (v := .int npu) (C := RX8) (T := TX8) (N := 38) hx hb hts hi_X8_firstOf_8 hown hK hP 0 rfl rfl 0 (by decide) (hts (.fieldLink RX8 90 "TheLiningsInItModel" "pulls" "I") (List.mem_of_getElem? (i := 3) rfl)) (fun _ h9 => h9) rfl dX8_firstOf_27 ?_
      refine lv_icmp_ge (tgt := 79) hx hb dX8_firstOf_30 (by decide) (fun c_5 => ?_) (fun c_5 => ?_)
      · have fc_5 : npu.toInt ≤ i_25.toInt := zf_le c_5 rfl rfl
        refine lv_aload_n hx hb dX8_firstOf_79 rfl (lv_at hl 2 rfl) ?_
        refine va_get (D := D) (ci := 8) (v := .int nse) (C := RX8) (T := TX8) (N := 38) hx hb hts hi_X8_firstOf_8 hown hK hP 0 rfl rfl 5 (by decide) (hts (.fieldLink RX8 13 "TheLiningsInItModel" "seconds" "I") (List.mem_of_getElem? (i := 2) rfl)) (fun _ h9 => h9) rfl dX8_firstOf_80 ?_
        refine lv_bipush (v := 30) hx hb dX8_firstOf_83 (by decide) ?_
        refine lv_icmp_lt (tgt := 109) hx hb dX8_firstOf_85 (by decide) (fun c_6 => ?_) (fun c_6 => ?_)
        · have fc_6 : nse.toInt < 30 := zf_lt c_6 rfl (by decide)
          refine lv_bipush (v := 100) hx hb dX8_firstOf_109 (by decide) ?_
          exact W.iret (v := 100) hx hb hr (fun t ht hW => ⟨100, rfl, ⟨by decide, by decide, (show (100 : Int32).toInt = zLr gki gpa gta npu.toInt.toNat nhu.toInt (gco 0).toInt (gco 1).toInt (gco 2).toInt 3 nde.toInt nse.toInt from by (have k1 : (101 : Int32).toInt = 101 := (by decide); have k2 : (100 : Int32).toInt = 100 := (by decide); have zl := hsr_2_0; have h9 : i_25.toInt.toNat = npu.toInt.toNat := (by omega); have z := hvi_25_0; rw [h9] at z; have hS := zLn_s (K := gki) (A := gpa) (T := gta) (N := npu.toInt.toNat) (n := 2) (h := nhu.toInt) (c0 := (gco 0).toInt) (c1 := (gco 1).toInt) (c2 := (gco 2).toInt) (d := nde.toInt) (s := nse.toInt); rw [if_neg (by omega)] at hS; have hL : zLn gki gpa gta npu.toInt.toNat nhu.toInt (gco 0).toInt (gco 1).toInt (gco 2).toInt 3 nde.toInt nse.toInt = zPw 3 * zAt (gco 1).toInt (gco 2).toInt nse.toInt := zFf_no npu.toInt.toNat (Or.inl hS) z hS; have hh := zHead (P := zPw 3) (c1 := (gco 1).toInt) (c2 := (gco 2).toInt) (s := nse.toInt) (zPw_pos 3); rw [← hL, ← zl, show zPw 3 = 1728 from by decide] at hh; unfold zLr; rw [if_neg (by omega), show (3 : Nat) - 1 = 2 from by decide, if_pos (Or.inr z)]; first | (rw [if_neg (fun z => by (have z2 := hh.mpr z; have z3 := z2.2; have z4 := z2.1; omega))]; omega) | (rw [if_pos (hh.mp ⟨by omega, by omega⟩)]; omega)))⟩, ht⟩) (fun q hq => by cases hq) dX8_firstOf_111
        · have fc_6 : 30 ≤ nse.toInt := zf_nlt c_6 rfl (by decide)
          refine lv_aload_n hx hb dX8_firstOf_88 rfl (lv_at hl 2 rfl) ?_
          refine va_get (D := D) (ci := 8) (v := .ref mco) (C := RX8) (T := TX8) (N := 38) hx hb hts hi_X8_firstOf_8 hown hK hP 0 rfl rfl 16 (by decide) (hts (.fieldLink RX8 44 "TheLiningsInItModel" "cost" "[I") (List.mem_of_getElem? (i := 4) rfl)) (fun _ h9 => h9) rfl dX8_firstOf_89 ?_
          refine lv_iconst (v := 1) hx hb dX8_firstOf_92 (by decide) ?_
          refine va_iald hx hb hK hP 4 0 rfl rfl (zf_in (by decide) (by decide)) dX8_firstOf_93 ?_
          refine lv_topi (fun x_7 ex_7 => ?_)
          have bx_7 : 0 ≤ x_7.toInt ∧ x_7.toInt ≤ 99 := by rw [ex_7]; exact hp_gco _
          refine lv_aload_n hx hb dX8_firstOf_94 rfl (lv_at hl 2 rfl) ?_
          refine lv_iload_n hx hb dX8_firstOf_95 rfl (lv_at hl 3 rfl) ?_
          refine zc_V (As := [.int 3]) (rest := [.int x_7]) ⟨hx, hb, hml, hown, hts⟩ (c_M_power_3 l D cI cJ cZ cP cS po m0 mrf mki mpa mta mla msl mco mhe mso msi msh mce mca mwo mnu mte mwa mke mma mth mtr (npu) (nte) (nat_) (nde) (nto) (nse) (nhu) (nga) (nsd) (nfa) (nba) (npl) (nen) (nnu) (nwr) (nra) (nik) hy0 hy1 hy2 hy3 hy4 hy5 hy6 hy7 hy8 hy9 hy10 hy11 hy12 hy13) (cwV 1 hts gX8_firstOf_X8_power rfl rfl rfl ⟨rfl, dh_X8_power⟩ ⟨Nat.le_of_ble_eq_true rfl, Nat.le_of_ble_eq_true rfl⟩) hK hN hZ hP (hP.sub [0] rfl) (va_recv (q := (RX8, TX8, 38)) hK hP (ci := 8) (q0 := 0) rfl rfl) rfl hl.1 rfl (Nat.le_of_ble_eq_true rfl) dX8_firstOf_96 ⟨Nat.le_of_ble_eq_true rfl, Nat.le_of_ble_eq_true rfl⟩ (fun r_8 hr_8 => ?_)
          obtain rfl := hr_8
          refine lv_imul hx hb dX8_firstOf_99 ?_
          refine lv_topi (fun x_9 ex_9 => ?_)
          have qx_9 : x_9.toInt = x_7.toInt * 1728 := by rw [ex_9]; exact zf_mul rfl (by decide) (by omega) (by omega)
          refine lv_iload_n hx hb dX8_firstOf_100 rfl (lv_at hl 1 rfl) ?_
          refine lv_icmp_ne (tgt := 109) hx hb dX8_firstOf_101 (by decide) (fun c_10 => ?_) (fun c_10 => ?_)
          · have fc_10 : x_9.toInt ≠ r_2.toInt := zf_ne c_10 rfl rfl
            refine lv_bipush (v := 100) hx hb dX8_firstOf_109 (by decide) ?_
            exact W.iret (v := 100) hx hb hr (fun t ht hW => ⟨100, rfl, ⟨by decide, by decide, (show (100 : Int32).toInt = zLr gki gpa gta npu.toInt.toNat nhu.toInt (gco 0).toInt (gco 1).toInt (gco 2).toInt 3 nde.toInt nse.toInt from by (have k1 : (101 : Int32).toInt = 101 := (by decide); have k2 : (100 : Int32).toInt = 100 := (by decide); have nx_7 : (gco 1).toInt = x_7.toInt := (by rw [ex_7, show (1 : Int32).toNatClampNeg = 1 from by decide]); have zl := hsr_2_0; have h9 : i_25.toInt.toNat = npu.toInt.toNat := (by omega); have z := hvi_25_0; rw [h9] at z; have hS := zLn_s (K := gki) (A := gpa) (T := gta) (N := npu.toInt.toNat) (n := 2) (h := nhu.toInt) (c0 := (gco 0).toInt) (c1 := (gco 1).toInt) (c2 := (gco 2).toInt) (d := nde.toInt) (s := nse.toInt); rw [if_neg (by omega)] at hS; have hL : zLn gki gpa gta npu.toInt.toNat nhu.toInt (gco 0).toInt (gco 1).toInt (gco 2).toInt 3 nde.toInt nse.toInt = zPw 3 * zAt (gco 1).toInt (gco 2).toInt nse.toInt := zFf_no npu.toInt.toNat (Or.inl hS) z hS; have hh := zHead (P := zPw 3) (c1 := (gco 1).toInt) (c2 := (gco 2).toInt) (s := nse.toInt) (zPw_pos 3); rw [← hL, ← zl, show zPw 3 = 1728 from by decide] at hh; unfold zLr; rw [if_neg (by omega), show (3 : Nat) - 1 = 2 from by decide, if_pos (Or.inr z)]; first | (rw [if_neg (fun z => by (have z2 := hh.mpr z; have z3 := z2.2; have z4 := z2.1; omega))]; omega) | (rw [if_pos (hh.mp ⟨by omega, by omega⟩)]; omega)))⟩, ht⟩) (fun q hq => by cases hq) dX8_firstOf_111
          · have fc_10 : x_9.toInt = r_2.toInt := zf_eq c_10 rfl rfl
            refine lv_bipush (v := 101) hx hb dX8_firstOf_104 (by decide) ?_
            refine lv_goto (tgt := 111) hx hb dX8_firstOf_106 (by decide) ?_
            exact W.iret (v := 101) hx hb hr (fun t ht hW => ⟨101, rfl, ⟨by decide, by decide, (show (101 : Int32).toInt = zLr gki gpa gta npu.toInt.toNat nhu.toInt (gco 0).toInt (gco 1).toInt (gco 2).toInt 3 nde.toInt nse.toInt from by (have k1 : (101 : Int32).toInt = 101 := (by decide); have k2 : (100 : Int32).toInt = 100 := (by decide); have nx_7 : (gco 1).toInt = x_7.toInt := (by rw [ex_7, show (1 : Int32).toNatClampNeg = 1 from by decide]); have zl := hsr_2_0; have h9 : i_25.toInt.toNat = npu.toInt.toNat := (by omega); have z := hvi_25_0; rw [h9] at z; have hS := zLn_s (K := gki) (A := gpa) (T := gta) (N := npu.toInt.toNat) (n := 2) (h := nhu.toInt) (c0 := (gco 0).toInt) (c1 := (gco 1).toInt) (c2 := (gco 2).toInt) (d := nde.toInt) (s := nse.toInt); rw [if_neg (by omega)] at hS; have hL : zLn gki gpa gta npu.toInt.toNat nhu.toInt (gco 0).toInt (gco 1).toInt (gco 2).toInt 3 nde.toInt nse.toInt = zPw 3 * zAt (gco 1).toInt (gco 2).toInt nse.toInt := zFf_no npu.toInt.toNat (Or.inl hS) z hS; have hh := zHead (P := zPw 3) (c1 := (gco 1).toInt) (c2 := (gco 2).toInt) (s := nse.toInt) (zPw_pos 3); rw [← hL, ← zl, show zPw 3 = 1728 from by decide] at hh; unfold zLr; rw [if_neg (by omega), show (3 : Nat) - 1 = 2 from by decide, if_pos (Or.inr z)]; first | (rw [if_pos (hh.mp ⟨by omega, by omega⟩)]; omega) | (rw [if_neg (fun z => by (have z2 := hh.mpr z; have z3 := z2.2; have z4 := z2.1; omega))]; omega)))⟩, ht⟩) (fun q hq => by cases hq) dX8_firstOf_111
      · exfalso; have fc_5 : i_25.toInt < npu.toInt := zf_nle c_5 rfl rfl; omega
    | succ nfu ih =>
      intro i_25 ls hl hvi_25_0 hvi_25_1 hloi_25 hni_25
      refine lv_iload_n hx hb dX8_firstOf_25 rfl (lv_at hl 0 rfl) ?_
      refine lv_aload_n hx hb dX8_firstOf_26 rfl (lv_at hl 2 rfl) ?_
      refine va_get (D := D) (ci := 8) (v := .int npu) (C := RX8) (T := TX8) (N := 38) hx hb hts hi_X8_firstOf_8 hown hK hP 0 rfl rfl 0 (by decide) (hts (.fieldLink RX8 90 "TheLiningsInItModel" "pulls" "I") (List.mem_of_getElem? (i := 3) rfl)) (fun _ h9 => h9) rfl dX8_firstOf_27 ?_
      refine lv_icmp_ge (tgt := 79) hx hb dX8_firstOf_30 (by decide) (fun c_11 => ?_) (fun c_11 => ?_)
      · have fc_11 : npu.toInt ≤ i_25.toInt := zf_le c_11 rfl rfl
        refine lv_aload_n hx hb dX8_firstOf_79 rfl (lv_at hl 2 rfl) ?_
        refine va_get (D := D) (ci := 8) (v := .int nse) (C := RX8) (T := TX8) (N := 38) hx hb hts hi_X8_firstOf_8 hown hK hP 0 rfl rfl 5 (by decide) (hts (.fieldLink RX8 13 "TheLiningsInItModel" "seconds" "I") (List.mem_of_getElem? (i := 2) rfl)) (fun _ h9 => h9) rfl dX8_firstOf_80 ?_
        refine lv_bipush (v := 30) hx hb dX8_firstOf_83 (by decide) ?_
        refine lv_icmp_lt (tgt := 109) hx hb dX8_firstOf_85 (by decide) (fun c_12 => ?_) (fun c_12 => ?_)
        · have fc_12 : nse.toInt < 30 := zf_lt c_12 rfl (by decide)
          refine lv_bipush (v := 100) hx hb dX8_firstOf_109 (by decide) ?_
          exact W.iret (v := 100) hx hb hr (fun t ht hW => ⟨100, rfl, ⟨by decide, by decide, (show (100 : Int32).toInt = zLr gki gpa gta npu.toInt.toNat nhu.toInt (gco 0).toInt (gco 1).toInt (gco 2).toInt 3 nde.toInt nse.toInt from by (have k1 : (101 : Int32).toInt = 101 := (by decide); have k2 : (100 : Int32).toInt = 100 := (by decide); have zl := hsr_2_0; have h9 : i_25.toInt.toNat = npu.toInt.toNat := (by omega); have z := hvi_25_0; rw [h9] at z; have hS := zLn_s (K := gki) (A := gpa) (T := gta) (N := npu.toInt.toNat) (n := 2) (h := nhu.toInt) (c0 := (gco 0).toInt) (c1 := (gco 1).toInt) (c2 := (gco 2).toInt) (d := nde.toInt) (s := nse.toInt); rw [if_neg (by omega)] at hS; have hL : zLn gki gpa gta npu.toInt.toNat nhu.toInt (gco 0).toInt (gco 1).toInt (gco 2).toInt 3 nde.toInt nse.toInt = zPw 3 * zAt (gco 1).toInt (gco 2).toInt nse.toInt := zFf_no npu.toInt.toNat (Or.inl hS) z hS; have hh := zHead (P := zPw 3) (c1 := (gco 1).toInt) (c2 := (gco 2).toInt) (s := nse.toInt) (zPw_pos 3); rw [← hL, ← zl, show zPw 3 = 1728 from by decide] at hh; unfold zLr; rw [if_neg (by omega), show (3 : Nat) - 1 = 2 from by decide, if_pos (Or.inr z)]; first | (rw [if_neg (fun z => by (have z2 := hh.mpr z; have z3 := z2.2; have z4 := z2.1; omega))]; omega) | (rw [if_pos (hh.mp ⟨by omega, by omega⟩)]; omega)))⟩, ht⟩) (fun q hq => by cases hq) dX8_firstOf_111
        · have fc_12 : 30 ≤ nse.toInt := zf_nlt c_12 rfl (by decide)
          refine lv_aload_n hx hb dX8_firstOf_88 rfl (lv_at hl 2 rfl) ?_
          refine va_get (D := D) (ci := 8) (v := .ref mco) (C := RX8) (T := TX8) (N := 38) hx hb hts hi_X8_firstOf_8 hown hK hP 0 rfl rfl 16 (by decide) (hts (.fieldLink RX8 44 "TheLiningsInItModel" "cost" "[I") (List.mem_of_getElem? (i := 4) rfl)) (fun _ h9 => h9) rfl dX8_firstOf_89 ?_
          refine lv_iconst (v := 1) hx hb dX8_firstOf_92 (by decide) ?_
          refine va_iald hx hb hK hP 4 0 rfl rfl (zf_in (by decide) (by decide)) dX8_firstOf_93 ?_
          refine lv_topi (fun x_13 ex_13 => ?_)
          have bx_13 : 0 ≤ x_13.toInt ∧ x_13.toInt ≤ 99 := by rw [ex_13]; exact hp_gco _
          refine lv_aload_n hx hb dX8_firstOf_94 rfl (lv_at hl 2 rfl) ?_
          refine lv_iload_n hx hb dX8_firstOf_95 rfl (lv_at hl 3 rfl) ?_
          refine zc_V (As := [.int 3]) (rest := [.int x_13]) ⟨hx, hb, hml, hown, hts⟩ (c_M_power_3 l D cI cJ cZ cP cS po m0 mrf mki mpa mta mla msl mco mhe mso msi msh mce mca mwo mnu mte mwa mke mma mth mtr (npu) (nte) (nat_) (nde) (nto) (nse) (nhu) (nga) (nsd) (nfa) (nba) (npl) (nen) (nnu) (nwr) (nra) (nik) hy0 hy1 hy2 hy3 hy4 hy5 hy6 hy7 hy8 hy9 hy10 hy11 hy12 hy13) (cwV 1 hts gX8_firstOf_X8_power rfl rfl rfl ⟨rfl, dh_X8_power⟩ ⟨Nat.le_of_ble_eq_true rfl, Nat.le_of_ble_eq_true rfl⟩) hK hN hZ hP (hP.sub [0] rfl) (va_recv (q := (RX8, TX8, 38)) hK hP (ci := 8) (q0 := 0) rfl rfl) rfl hl.1 rfl (Nat.le_of_ble_eq_true rfl) dX8_firstOf_96 ⟨Nat.le_of_ble_eq_true rfl, Nat.le_of_ble_eq_true rfl⟩ (fun r_14 hr_14 => ?_)
          obtain rfl := hr_14
          refine lv_imul hx hb dX8_firstOf_99 ?_
          refine lv_topi (fun x_15 ex_15 => ?_)
          have qx_15 : x_15.toInt = x_13.toInt * 1728 := by rw [ex_15]; exact zf_mul rfl (by decide) (by omega) (by omega)
          refine lv_iload_n hx hb dX8_firstOf_100 rfl (lv_at hl 1 rfl) ?_
          refine lv_icmp_ne (tgt := 109) hx hb dX8_firstOf_101 (by decide) (fun c_16 => ?_) (fun c_16 => ?_)
          · have fc_16 : x_15.toInt ≠ r_2.toInt := zf_ne c_16 rfl rfl
            refine lv_bipush (v := 100) hx hb dX8_firstOf_109 (by decide) ?_
            exact W.iret (v := 100) hx hb hr (fun t ht hW => ⟨100, rfl, ⟨by decide, by decide, (show (100 : Int32).toInt = zLr gki gpa gta npu.toInt.toNat nhu.toInt (gco 0).toInt (gco 1).toInt (gco 2).toInt 3 nde.toInt nse.toInt from by (have k1 : (101 : Int32).toInt = 101 := (by decide); have k2 : (100 : Int32).toInt = 100 := (by decide); have nx_13 : (gco 1).toInt = x_13.toInt := (by rw [ex_13, show (1 : Int32).toNatClampNeg = 1 from by decide]); have zl := hsr_2_0; have h9 : i_25.toInt.toNat = npu.toInt.toNat := (by omega); have z := hvi_25_0; rw [h9] at z; have hS := zLn_s (K := gki) (A := gpa) (T := gta) (N := npu.toInt.toNat) (n := 2) (h := nhu.toInt) (c0 := (gco 0).toInt) (c1 := (gco 1).toInt) (c2 := (gco 2).toInt) (d := nde.toInt) (s := nse.toInt); rw [if_neg (by omega)] at hS; have hL : zLn gki gpa gta npu.toInt.toNat nhu.toInt (gco 0).toInt (gco 1).toInt (gco 2).toInt 3 nde.toInt nse.toInt = zPw 3 * zAt (gco 1).toInt (gco 2).toInt nse.toInt := zFf_no npu.toInt.toNat (Or.inl hS) z hS; have hh := zHead (P := zPw 3) (c1 := (gco 1).toInt) (c2 := (gco 2).toInt) (s := nse.toInt) (zPw_pos 3); rw [← hL, ← zl, show zPw 3 = 1728 from by decide] at hh; unfold zLr; rw [if_neg (by omega), show (3 : Nat) - 1 = 2 from by decide, if_pos (Or.inr z)]; first | (rw [if_neg (fun z => by (have z2 := hh.mpr z; have z3 := z2.2; have z4 := z2.1; omega))]; omega) | (rw [if_pos (hh.mp ⟨by omega, by omega⟩)]; omega)))⟩, ht⟩) (fun q hq => by cases hq) dX8_firstOf_111
          · have fc_16 : x_15.toInt = r_2.toInt := zf_eq c_16 rfl rfl
            refine lv_bipush (v := 101) hx hb dX8_firstOf_104 (by decide) ?_
            refine lv_goto (tgt := 111) hx hb dX8_firstOf_106 (by decide) ?_
            exact W.iret (v := 101) hx hb hr (fun t ht hW => ⟨101, rfl, ⟨by decide, by decide, (show (101 : Int32).toInt = zLr gki gpa gta npu.toInt.toNat nhu.toInt (gco 0).toInt (gco 1).toInt (gco 2).toInt 3 nde.toInt nse.toInt from by (have k1 : (101 : Int32).toInt = 101 := (by decide); have k2 : (100 : Int32).toInt = 100 := (by decide); have nx_13 : (gco 1).toInt = x_13.toInt := (by rw [ex_13, show (1 : Int32).toNatClampNeg = 1 from by decide]); have zl := hsr_2_0; have h9 : i_25.toInt.toNat = npu.toInt.toNat := (by omega); have z := hvi_25_0; rw [h9] at z; have hS := zLn_s (K := gki) (A := gpa) (T := gta) (N := npu.toInt.toNat) (n := 2) (h := nhu.toInt) (c0 := (gco 0).toInt) (c1 := (gco 1).toInt) (c2 := (gco 2).toInt) (d := nde.toInt) (s := nse.toInt); rw [if_neg (by omega)] at hS; have hL : zLn gki gpa gta npu.toInt.toNat nhu.toInt (gco 0).toInt (gco 1).toInt (gco 2).toInt 3 nde.toInt nse.toInt = zPw 3 * zAt (gco 1).toInt (gco 2).toInt nse.toInt := zFf_no npu.toInt.toNat (Or.inl hS) z hS; have hh := zHead (P := zPw 3) (c1 := (gco 1).toInt) (c2 := (gco 2).toInt) (s := nse.toInt) (zPw_pos 3); rw [← hL, ← zl, show zPw 3 = 1728 from by decide] at hh; unfold zLr; rw [if_neg (by omega), show (3 : Nat) - 1 = 2 from by decide, if_pos (Or.inr z)]; first | (rw [if_pos (hh.mp ⟨by omega, by omega⟩)]; omega) | (rw [if_neg (fun z => by (have z2 := hh.mpr z; have z3 := z2.2; have z4 := z2.1; omega))]; omega)))⟩, ht⟩) (fun q hq => by cases hq) dX8_firstOf_111
      · have fc_11 : i_25.toInt < npu.toInt := zf_nle c_11 rfl rfl
        refine lv_iload_n hx hb dX8_firstOf_33 rfl (lv_at hl 3 rfl) ?_
        refine lv_if_le (tgt := 79) hx hb dX8_firstOf_34 (by decide) (fun c_17 => ?_) (fun c_17 => ?_)
        · exact absurd c_17 (by decide)
        · refine lv_aload_n hx hb dX8_firstOf_37 rfl (lv_at hl 2 rfl) ?_
          refine lv_iload_n hx hb dX8_firstOf_38 rfl (lv_at hl 0 rfl) ?_
          refine lv_aload_n hx hb dX8_firstOf_39 rfl (lv_at hl 2 rfl) ?_
          refine va_get (D := D) (ci := 8) (v := .int nde) (C := RX8) (T := TX8) (N := 38) hx hb hts hi_X8_firstOf_8 hown hK hP 0 rfl rfl 3 (by decide) (hts (.fieldLink RX8 115 "TheLiningsInItModel" "depth" "I") (List.mem_of_getElem? (i := 1) rfl)) (fun _ h9 => h9) rfl dX8_firstOf_40 ?_
          refine lv_aload_n hx hb dX8_firstOf_43 rfl (lv_at hl 2 rfl) ?_
          refine va_get (D := D) (ci := 8) (v := .int nse) (C := RX8) (T := TX8) (N := 38) hx hb hts hi_X8_firstOf_8 hown hK hP 0 rfl rfl 5 (by decide) (hts (.fieldLink RX8 13 "TheLiningsInItModel" "seconds" "I") (List.mem_of_getElem? (i := 2) rfl)) (fun _ h9 => h9) rfl dX8_firstOf_44 ?_
          refine zc_V (As := [.int i_25, .int nde, .int nse]) (rest := []) ⟨hx, hb, hml, hown, hts⟩ (c_F_M_mayBe l D cI cJ cZ cP cS po m0 mrf mki mpa mta mla msl mco mhe mso msi msh mce mca mwo mnu mte mwa mke mma mth mtr (npu) (nte) (nat_) (nde) (nto) (nse) (nhu) (nga) (nsd) (nfa) (nba) (npl) (nen) (nnu) (nwr) (nra) (nik) gta (i_25) (nde) (nse) hy0 hy1 hy2 hy3 hy4 hy5 hy6 hy7 hy8 hy9 hy10 hy11 hy12 hy13 (by omega) (by omega) hp_gta) (cwV 3 hts gX8_firstOf_X8_mayBe rfl rfl rfl ⟨rfl, dh_X8_mayBe⟩ ⟨Nat.le_of_ble_eq_true rfl, Nat.le_of_ble_eq_true rfl⟩) hK hN hZ hP (hP.sub [0, 3] rfl) (va_recv (q := (RX8, TX8, 38)) hK hP (ci := 8) (q0 := 0) rfl rfl) rfl hl.1 rfl (Nat.le_of_ble_eq_true rfl) dX8_firstOf_47 ⟨Nat.le_of_ble_eq_true rfl, Nat.le_of_ble_eq_true rfl⟩ (fun r_18 hr_18 => ?_)
          obtain ⟨g_19, g_20, hsr_18_0⟩ := hr_18
          refine lv_if_eq (tgt := 73) hx hb dX8_firstOf_50 (by decide) (fun c_21 => ?_) (fun c_21 => ?_)
          · have fc_21 : r_18.toInt = 0 := zf_eq c_21 rfl (by decide)
            obtain ⟨x_22, ex_22⟩ : ∃ y : Int32, y = i_25 + 1 := ⟨_, rfl⟩
            have qx_22 : x_22.toInt = i_25.toInt + 1 := dw_inc ex_22 fc_11
            refine lv_iinc (v := x_22) (lv' := [(3, .int x_22), (2, .int r_2), (0, .ref m0), (1, .int 3)]) hx hb dX8_firstOf_73 hl (k := 0) rfl ex_22.symm (by decide) rfl (fun ls hl => ?_)
            refine lv_goto (tgt := 25) hx hb dX8_firstOf_76 (by decide) ?_
            exact ih x_22 _ (lv_sub hl [0, 1, 2, 3] rfl) (show zFf gta nde.toInt nse.toInt ((zLn gki gpa gta npu.toInt.toNat nhu.toInt (gco 0).toInt (gco 1).toInt (gco 2).toInt 3) nde.toInt nse.toInt) (zLv (zLn gki gpa gta npu.toInt.toNat nhu.toInt (gco 0).toInt (gco 1).toInt (gco 2).toInt 2) gki gpa gta (gco 0).toInt (zPw 3) nhu.toInt nde.toInt nse.toInt) x_22.toInt.toNat = -1 from by (have hx : x_22.toInt.toNat = i_25.toInt.toNat + 1 := (by omega); have y9 : i_25.toNatClampNeg = i_25.toInt.toNat := rfl; have hm := hsr_18_0; rw [y9] at hm; rw [hx]; exact zFf_nx hvi_25_0 (fun z => by (have z1 := hm.mpr z.1; omega)))) (show x_22.toInt ≤ npu.toInt from by omega) (dw_lo hloi_25 qx_22) (dw_hn hni_25 qx_22)
          · have fc_21 : r_18.toInt ≠ 0 := zf_ne c_21 rfl (by decide)
            have htl9 : (gta i_25.toNatClampNeg).toInt ≤ nse.toInt := (hsr_18_0.mp (by omega)).2
            refine lv_aload_n hx hb dX8_firstOf_53 rfl (lv_at hl 2 rfl) ?_
            refine lv_iload_n hx hb dX8_firstOf_54 rfl (lv_at hl 0 rfl) ?_
            refine lv_iload_n hx hb dX8_firstOf_55 rfl (lv_at hl 3 rfl) ?_
            refine lv_aload_n hx hb dX8_firstOf_56 rfl (lv_at hl 2 rfl) ?_
            refine va_get (D := D) (ci := 8) (v := .int nde) (C := RX8) (T := TX8) (N := 38) hx hb hts hi_X8_firstOf_8 hown hK hP 0 rfl rfl 3 (by decide) (hts (.fieldLink RX8 115 "TheLiningsInItModel" "depth" "I") (List.mem_of_getElem? (i := 1) rfl)) (fun _ h9 => h9) rfl dX8_firstOf_57 ?_
            refine lv_aload_n hx hb dX8_firstOf_60 rfl (lv_at hl 2 rfl) ?_
            refine va_get (D := D) (ci := 8) (v := .int nse) (C := RX8) (T := TX8) (N := 38) hx hb hts hi_X8_firstOf_8 hown hK hP 0 rfl rfl 5 (by decide) (hts (.fieldLink RX8 13 "TheLiningsInItModel" "seconds" "I") (List.mem_of_getElem? (i := 2) rfl)) (fun _ h9 => h9) rfl dX8_firstOf_61 ?_
            refine zc_V (As := [.int i_25, .int 3, .int nde, .int nse]) (rest := []) ⟨hx, hb, hml, hown, hts⟩ (c_F_M_costBy_3 l D cI cJ cZ cP cS po m0 mrf mki mpa mta mla msl mco mhe mso msi msh mce mca mwo mnu mte mwa mke mma mth mtr (npu) (nte) (nat_) (nde) (nto) (nse) (nhu) (nga) (nsd) (nfa) (nba) (npl) (nen) (nnu) (nwr) (nra) (nik) gki gpa gta gco (i_25) (nde) (nse) hy0 hy1 hy2 hy3 hy4 hy5 hy6 hy7 hy8 hy9 hy10 hy11 hy12 hy13 (by omega) (by omega) hy6 hy7 hy14 hy15 (by first | assumption | omega) hp_gki hp_gpa hp_gta hp_gco) (cwV 4 hts gX8_firstOf_X8_costBy rfl rfl rfl ⟨rfl, dh_X8_costBy⟩ ⟨Nat.le_of_ble_eq_true rfl, Nat.le_of_ble_eq_true rfl⟩) hK hN hZ hP (hP.sub [0, 1, 2, 3, 4] rfl) (va_recv (q := (RX8, TX8, 38)) hK hP (ci := 8) (q0 := 0) rfl rfl) rfl hl.1 rfl (Nat.le_of_ble_eq_true rfl) dX8_firstOf_64 ⟨Nat.le_of_ble_eq_true rfl, Nat.le_of_ble_eq_true rfl⟩ (fun r_23 hr_23 => ?_)
            obtain ⟨g_24, g_25, hsr_23_0⟩ := hr_23
            refine lv_iload_n hx hb dX8_firstOf_67 rfl (lv_at hl 1 rfl) ?_
            refine lv_icmp_ne (tgt := 73) hx hb dX8_firstOf_68 (by decide) (fun c_26 => ?_) (fun c_26 => ?_)
            · have fc_26 : r_23.toInt ≠ r_2.toInt := zf_ne c_26 rfl rfl
              obtain ⟨x_27, ex_27⟩ : ∃ y : Int32, y = i_25 + 1 := ⟨_, rfl⟩
              have qx_27 : x_27.toInt = i_25.toInt + 1 := dw_inc ex_27 fc_11
              refine lv_iinc (v := x_27) (lv' := [(3, .int x_27), (2, .int r_2), (0, .ref m0), (1, .int 3)]) hx hb dX8_firstOf_73 hl (k := 0) rfl ex_27.symm (by decide) rfl (fun ls hl => ?_)
              refine lv_goto (tgt := 25) hx hb dX8_firstOf_76 (by decide) ?_
              exact ih x_27 _ (lv_sub hl [0, 1, 2, 3] rfl) (show zFf gta nde.toInt nse.toInt ((zLn gki gpa gta npu.toInt.toNat nhu.toInt (gco 0).toInt (gco 1).toInt (gco 2).toInt 3) nde.toInt nse.toInt) (zLv (zLn gki gpa gta npu.toInt.toNat nhu.toInt (gco 0).toInt (gco 1).toInt (gco 2).toInt 2) gki gpa gta (gco 0).toInt (zPw 3) nhu.toInt nde.toInt nse.toInt) x_27.toInt.toNat = -1 from by (have hx : x_27.toInt.toNat = i_25.toInt.toNat + 1 := (by omega); have y9 : i_25.toNatClampNeg = i_25.toInt.toNat := rfl; have hm := hsr_18_0; rw [y9] at hm; have zr := hsr_23_0; rw [y9] at zr; have zr2 : r_23.toInt = (zLv (zLn gki gpa gta npu.toInt.toNat nhu.toInt (gco 0).toInt (gco 1).toInt (gco 2).toInt 2) gki gpa gta (gco 0).toInt (zPw 3) nhu.toInt nde.toInt nse.toInt) i_25.toInt.toNat := zr; have zl := hsr_2_0; rw [hx]; exact zFf_nx hvi_25_0 (fun z => by (have z2 := z.2; rw [← zr2, ← zl] at z2; omega)))) (show x_27.toInt ≤ npu.toInt from by omega) (dw_lo hloi_25 qx_27) (dw_hn hni_25 qx_27)
            · have fc_26 : r_23.toInt = r_2.toInt := zf_eq c_26 rfl rfl
              refine lv_iload_n hx hb dX8_firstOf_71 rfl (lv_at hl 0 rfl) ?_
              exact W.iret (v := i_25) hx hb hr (fun t ht hW => ⟨i_25, rfl, ⟨by omega, by omega, (show (i_25 : Int32).toInt = zLr gki gpa gta npu.toInt.toNat nhu.toInt (gco 0).toInt (gco 1).toInt (gco 2).toInt 3 nde.toInt nse.toInt from by (have y9 : i_25.toNatClampNeg = i_25.toInt.toNat := rfl; have hm := hsr_18_0; rw [y9] at hm; have zr := hsr_23_0; rw [y9] at zr; have zr2 : r_23.toInt = (zLv (zLn gki gpa gta npu.toInt.toNat nhu.toInt (gco 0).toInt (gco 1).toInt (gco 2).toInt 2) gki gpa gta (gco 0).toInt (zPw 3) nhu.toInt nde.toInt nse.toInt) i_25.toInt.toNat := zr; have zl := hsr_2_0; have zf : zFf gta nde.toInt nse.toInt ((zLn gki gpa gta npu.toInt.toNat nhu.toInt (gco 0).toInt (gco 1).toInt (gco 2).toInt 3) nde.toInt nse.toInt) (zLv (zLn gki gpa gta npu.toInt.toNat nhu.toInt (gco 0).toInt (gco 1).toInt (gco 2).toInt 2) gki gpa gta (gco 0).toInt (zPw 3) nhu.toInt nde.toInt nse.toInt) npu.toInt.toNat = (i_25.toInt.toNat : Int) := zFf_at hvi_25_0 (hm.mp (by omega)) (by rw [← zr2, ← zl]; omega) (by omega); unfold zLr; rw [if_neg (by omega), show (3 : Nat) - 1 = 2 from by decide, if_neg (fun z => by (rcases z with z | z; (exact absurd z (by decide)); (rw [zf] at z; omega))), zf]; omega))⟩, ht⟩) (fun q hq => by cases hq) dX8_firstOf_72
  · have fc_1 : nde.toInt = 0 := zf_eq c_1 rfl (by decide)
    refine lv_iconst (v := (-1)) hx hb dX8_firstOf_7 (by decide) ?_
    exact W.iret (v := (-1)) hx hb hr (fun t ht hW => ⟨(-1), rfl, ⟨by decide, by decide, (show ((-1) : Int32).toInt = zLr gki gpa gta npu.toInt.toNat nhu.toInt (gco 0).toInt (gco 1).toInt (gco 2).toInt 3 nde.toInt nse.toInt from by (have k9 : ((-1) : Int32).toInt = -1 := (by decide); unfold zLr; rw [if_pos (by omega)]; exact k9))⟩, ht⟩) (fun q hq => by cases hq) dX8_firstOf_8
set_option maxHeartbeats 4000000 in
set_option maxRecDepth 100000 in
theorem c_F_M_firstOf_4 (l : Launch) (D : va_G) (cI cJ cZ cP cS : ClassId) (po : zPool) (m0 mrf mki mpa mta mla msl mco mhe mso msi msh mce mca mwo mnu mte mwa mke mma mth mtr : Nat) (npu nte nat_ nde nto nse nhu nga nsd nfa nba npl nen nnu nwr nra nik : Int32) (gki gpa gta gco : Nat → Int32) (hy0 : 0 ≤ npu.toInt) (hy1 : npu.toInt ≤ 8) (hy2 : 4 ≤ nte.toInt) (hy3 : nte.toInt ≤ 40) (hy4 : 0 ≤ nat_.toInt) (hy5 : nat_.toInt ≤ 40) (hy6 : 0 ≤ nde.toInt) (hy7 : nde.toInt ≤ 24) (hy8 : 0 ≤ nhu.toInt) (hy9 : nhu.toInt ≤ 9) (hy10 : 0 ≤ nra.toInt) (hy11 : nra.toInt ≤ 2000) (hy12 : 0 ≤ nik.toInt) (hy13 : nik.toInt ≤ 1) (hy14 : 0 ≤ nse.toInt) (hy15 : nse.toInt ≤ 300) (hp_gki : zRg gki (0) 6) (hp_gpa : zRg gpa (0) 9) (hp_gta : zRg gta (0) 60) (hp_gco : zRg gco (0) 99) : Met l yX8_firstOf wsX8_firstOf ({ frames := 10, cells := 0, slots := 0, locals := 255 }) (va_Pc [.ref m0, .int 4] (zR D (zKT cI cJ cZ cP cS) po [(zMO m0 npu nte nat_ nde nto nse nhu nga nsd nfa mrf mki mpa mta mla msl mco mhe mso msi msh mce mca mwo mnu mte nba npl nen nnu nwr mwa mke mma mth mtr nra nik), (mki, .inl (cI, 8, .inl gki)), (mpa, .inl (cI, 8, .inl gpa)), (mta, .inl (cI, 8, .inl gta)), (mco, .inl (cI, 3, .inl gco))])) (vp_Si (fun r => -1 ≤ r.toInt ∧ r.toInt ≤ 101 ∧ (r.toInt = zLr gki gpa gta npu.toInt.toNat nhu.toInt (gco 0).toInt (gco 1).toInt (gco 2).toInt 4 nde.toInt nse.toInt))) 0 0 (fun _ => False) := by
  refine Met.ofW (cc := cX8_firstOf) (maxL := 4) (ret := (some .int)) (by decide) rfl ?_
  intro p e s m args below meth c s₁ B hml hv
  obtain ⟨rfl, hP, hK, hN, hZ⟩ := hv
  have hx := B.exec
  have hb := B.bytes
  have hr := B.returns
  have hts := atoms_spec (ws := wsX8_firstOf) B.pre
  have hown : s.vm.findClass RX8 = some m.cls := findClass_of_methodNamed B.named
  have hlocks := B.notSynchronized
  have hl := lv_entry ([.ref m0, .int 4]) (n := 4) (Nat.le_of_ble_eq_true rfl)
  rw [lg_entry_eq]
  generalize (lg_sl ([.ref m0, .int 4]) ++ List.replicate (4 - (lg_sl ([.ref m0, .int 4])).length) Slot.unset).toArray = ls at hl ⊢
  replace hl : lv_has ls 4 [(0, .ref m0), (1, .int 4)] := hl
  refine lv_aload_n hx hb dX8_firstOf_0 rfl (lv_at hl 0 rfl) ?_
  refine va_get (D := D) (ci := 8) (v := .int nde) (C := RX8) (T := TX8) (N := 38) hx hb hts hi_X8_firstOf_8 hown hK hP 0 rfl rfl 3 (by decide) (hts (.fieldLink RX8 115 "TheLiningsInItModel" "depth" "I") (List.mem_of_getElem? (i := 1) rfl)) (fun _ h9 => h9) rfl dX8_firstOf_1 ?_
  refine lv_if_ne (tgt := 9) hx hb dX8_firstOf_4 (by decide) (fun c_1 => ?_) (fun c_1 => ?_)
  · have fc_1 : nde.toInt ≠ 0 := zf_ne c_1 rfl (by decide)
    refine lv_aload_n hx hb dX8_firstOf_9 rfl (lv_at hl 0 rfl) ?_
    refine lv_iload_n hx hb dX8_firstOf_10 rfl (lv_at hl 1 rfl) ?_
    refine lv_aload_n hx hb dX8_firstOf_11 rfl (lv_at hl 0 rfl) ?_
    refine va_get (D := D) (ci := 8) (v := .int nde) (C := RX8) (T := TX8) (N := 38) hx hb hts hi_X8_firstOf_8 hown hK hP 0 rfl rfl 3 (by decide) (hts (.fieldLink RX8 115 "TheLiningsInItModel" "depth" "I") (List.mem_of_getElem? (i := 1) rfl)) (fun _ h9 => h9) rfl dX8_firstOf_12 ?_
    refine lv_aload_n hx hb dX8_firstOf_15 rfl (lv_at hl 0 rfl) ?_
    refine va_get (D := D) (ci := 8) (v := .int nse) (C := RX8) (T := TX8) (N := 38) hx hb hts hi_X8_firstOf_8 hown hK hP 0 rfl rfl 5 (by decide) (hts (.fieldLink RX8 13 "TheLiningsInItModel" "seconds" "I") (List.mem_of_getElem? (i := 2) rfl)) (fun _ h9 => h9) rfl dX8_firstOf_16 ?_
    refine zc_V (As := [.int 4, .int nde, .int nse]) (rest := []) ⟨hx, hb, hml, hown, hts⟩ (c_F_M_leastCost_4 l D cI cJ cZ cP cS po m0 mrf mki mpa mta mla msl mco mhe mso msi msh mce mca mwo mnu mte mwa mke mma mth mtr (npu) (nte) (nat_) (nde) (nto) (nse) (nhu) (nga) (nsd) (nfa) (nba) (npl) (nen) (nnu) (nwr) (nra) (nik) gki gpa gta gco (nde) (nse) hy0 hy1 hy2 hy3 hy4 hy5 hy6 hy7 hy8 hy9 hy10 hy11 hy12 hy13 hy6 hy7 hy14 hy15 hp_gki hp_gpa hp_gta hp_gco) (cwV 3 hts gX8_firstOf_X8_leastCost rfl rfl rfl ⟨rfl, dh_X8_leastCost⟩ ⟨Nat.le_of_ble_eq_true rfl, Nat.le_of_ble_eq_true rfl⟩) hK hN hZ hP (hP.sub [0, 1, 2, 3, 4] rfl) (va_recv (q := (RX8, TX8, 38)) hK hP (ci := 8) (q0 := 0) rfl rfl) rfl hl.1 rfl (Nat.le_of_ble_eq_true rfl) dX8_firstOf_19 ⟨Nat.le_of_ble_eq_true rfl, Nat.le_of_ble_eq_true rfl⟩ (fun r_2 hr_2 => ?_)
    obtain ⟨g_3, g_4, hsr_2_0⟩ := hr_2
    refine lv_istore_n (lv' := [(2, .int r_2), (0, .ref m0), (1, .int 4)]) hx hb dX8_firstOf_22 rfl hl (by decide) rfl (fun ls hl => ?_)
    refine lv_iconst (v := 0) hx hb dX8_firstOf_23 (by decide) ?_
    refine lv_istore_n (lv' := [(3, .int 0), (2, .int r_2), (0, .ref m0), (1, .int 4)]) hx hb dX8_firstOf_24 rfl hl (by decide) rfl (fun ls hl => ?_)
    obtain ⟨i_25, hi_25⟩ : ∃ i : Int32, i = 0 := ⟨_, rfl⟩
    replace hl : lv_has ls 4 [(3, .int i_25), (2, .int r_2), (0, .ref m0), (1, .int 4)] := by rw [hi_25]; exact lv_sub hl [0, 1, 2, 3] rfl
    have h1i_25 : i_25.toInt = 0 := by rw [hi_25]; decide
    obtain ⟨nfu, hni_25⟩ : ∃ nq9 : Nat, npu.toInt ≤ i_25.toInt + (nq9 : Int) := ⟨((npu.toInt : Int) - 0).toNat, by omega⟩
    have hloi_25 : 0 ≤ i_25.toInt := by omega
    have hvi_25_0 : zFf gta nde.toInt nse.toInt ((zLn gki gpa gta npu.toInt.toNat nhu.toInt (gco 0).toInt (gco 1).toInt (gco 2).toInt 4) nde.toInt nse.toInt) (zLv (zLn gki gpa gta npu.toInt.toNat nhu.toInt (gco 0).toInt (gco 1).toInt (gco 2).toInt 3) gki gpa gta (gco 0).toInt (zPw 4) nhu.toInt nde.toInt nse.toInt) i_25.toInt.toNat = -1 := by
      (try rw [hi_25]); (rw [(show ((0 : Int32).toInt.toNat) = 0 from by decide)]; rfl)
    have hvi_25_1 : i_25.toInt ≤ npu.toInt := by
      (try rw [hi_25]); (have k0 : (0 : Int32).toInt = 0 := (by decide); omega)
    clear h1i_25 hi_25
    revert hni_25
    revert hloi_25
    revert hvi_25_1
    revert hvi_25_0
    revert hl
    revert ls
    revert i_25
    induction nfu with
    | zero =>
      intro i_25 ls hl hvi_25_0 hvi_25_1 hloi_25 hni_25
      have hzi_25 : npu.toInt ≤ i_25.toInt := by omega
      refine lv_iload_n hx hb dX8_firstOf_25 rfl (lv_at hl 0 rfl) ?_
      refine lv_aload_n hx hb dX8_firstOf_26 rfl (lv_at hl 2 rfl) ?_
      refine va_get (D := D) (ci := 8) (v := .int npu) (C := RX8) (T := TX8) (N := 38) hx hb hts hi_X8_firstOf_8 hown hK hP 0 rfl rfl 0 (by decide) (hts (.fieldLink RX8 90 "TheLiningsInItModel" "pulls" "I") (List.mem_of_getElem? (i := 3) rfl)) (fun _ h9 => h9) rfl dX8_firstOf_27 ?_
      refine lv_icmp_ge (tgt := 79) hx hb dX8_firstOf_30 (by decide) (fun c_5 => ?_) (fun c_5 => ?_)
      · have fc_5 : npu.toInt ≤ i_25.toInt := zf_le c_5 rfl rfl
        refine lv_aload_n hx hb dX8_firstOf_79 rfl (lv_at hl 2 rfl) ?_
        refine va_get (D := D) (ci := 8) (v := .int nse) (C := RX8) (T := TX8) (N := 38) hx hb hts hi_X8_firstOf_8 hown hK hP 0 rfl rfl 5 (by decide) (hts (.fieldLink RX8 13 "TheLiningsInItModel" "seconds" "I") (List.mem_of_getElem? (i := 2) rfl)) (fun _ h9 => h9) rfl dX8_firstOf_80 ?_
        refine lv_bipush (v := 30) hx hb dX8_firstOf_83 (by decide) ?_
        refine lv_icmp_lt (tgt := 109) hx hb dX8_firstOf_85 (by decide) (fun c_6 => ?_) (fun c_6 => ?_)
        · have fc_6 : nse.toInt < 30 := zf_lt c_6 rfl (by decide)
          refine lv_bipush (v := 100) hx hb dX8_firstOf_109 (by decide) ?_
          exact W.iret (v := 100) hx hb hr (fun t ht hW => ⟨100, rfl, ⟨by decide, by decide, (show (100 : Int32).toInt = zLr gki gpa gta npu.toInt.toNat nhu.toInt (gco 0).toInt (gco 1).toInt (gco 2).toInt 4 nde.toInt nse.toInt from by (have k1 : (101 : Int32).toInt = 101 := (by decide); have k2 : (100 : Int32).toInt = 100 := (by decide); have zl := hsr_2_0; have h9 : i_25.toInt.toNat = npu.toInt.toNat := (by omega); have z := hvi_25_0; rw [h9] at z; have hS := zLn_s (K := gki) (A := gpa) (T := gta) (N := npu.toInt.toNat) (n := 3) (h := nhu.toInt) (c0 := (gco 0).toInt) (c1 := (gco 1).toInt) (c2 := (gco 2).toInt) (d := nde.toInt) (s := nse.toInt); rw [if_neg (by omega)] at hS; have hL : zLn gki gpa gta npu.toInt.toNat nhu.toInt (gco 0).toInt (gco 1).toInt (gco 2).toInt 4 nde.toInt nse.toInt = zPw 4 * zAt (gco 1).toInt (gco 2).toInt nse.toInt := zFf_no npu.toInt.toNat (Or.inl hS) z hS; have hh := zHead (P := zPw 4) (c1 := (gco 1).toInt) (c2 := (gco 2).toInt) (s := nse.toInt) (zPw_pos 4); rw [← hL, ← zl, show zPw 4 = 20736 from by decide] at hh; unfold zLr; rw [if_neg (by omega), show (4 : Nat) - 1 = 3 from by decide, if_pos (Or.inr z)]; first | (rw [if_neg (fun z => by (have z2 := hh.mpr z; have z3 := z2.2; have z4 := z2.1; omega))]; omega) | (rw [if_pos (hh.mp ⟨by omega, by omega⟩)]; omega)))⟩, ht⟩) (fun q hq => by cases hq) dX8_firstOf_111
        · have fc_6 : 30 ≤ nse.toInt := zf_nlt c_6 rfl (by decide)
          refine lv_aload_n hx hb dX8_firstOf_88 rfl (lv_at hl 2 rfl) ?_
          refine va_get (D := D) (ci := 8) (v := .ref mco) (C := RX8) (T := TX8) (N := 38) hx hb hts hi_X8_firstOf_8 hown hK hP 0 rfl rfl 16 (by decide) (hts (.fieldLink RX8 44 "TheLiningsInItModel" "cost" "[I") (List.mem_of_getElem? (i := 4) rfl)) (fun _ h9 => h9) rfl dX8_firstOf_89 ?_
          refine lv_iconst (v := 1) hx hb dX8_firstOf_92 (by decide) ?_
          refine va_iald hx hb hK hP 4 0 rfl rfl (zf_in (by decide) (by decide)) dX8_firstOf_93 ?_
          refine lv_topi (fun x_7 ex_7 => ?_)
          have bx_7 : 0 ≤ x_7.toInt ∧ x_7.toInt ≤ 99 := by rw [ex_7]; exact hp_gco _
          refine lv_aload_n hx hb dX8_firstOf_94 rfl (lv_at hl 2 rfl) ?_
          refine lv_iload_n hx hb dX8_firstOf_95 rfl (lv_at hl 3 rfl) ?_
          refine zc_V (As := [.int 4]) (rest := [.int x_7]) ⟨hx, hb, hml, hown, hts⟩ (c_M_power_4 l D cI cJ cZ cP cS po m0 mrf mki mpa mta mla msl mco mhe mso msi msh mce mca mwo mnu mte mwa mke mma mth mtr (npu) (nte) (nat_) (nde) (nto) (nse) (nhu) (nga) (nsd) (nfa) (nba) (npl) (nen) (nnu) (nwr) (nra) (nik) hy0 hy1 hy2 hy3 hy4 hy5 hy6 hy7 hy8 hy9 hy10 hy11 hy12 hy13) (cwV 1 hts gX8_firstOf_X8_power rfl rfl rfl ⟨rfl, dh_X8_power⟩ ⟨Nat.le_of_ble_eq_true rfl, Nat.le_of_ble_eq_true rfl⟩) hK hN hZ hP (hP.sub [0] rfl) (va_recv (q := (RX8, TX8, 38)) hK hP (ci := 8) (q0 := 0) rfl rfl) rfl hl.1 rfl (Nat.le_of_ble_eq_true rfl) dX8_firstOf_96 ⟨Nat.le_of_ble_eq_true rfl, Nat.le_of_ble_eq_true rfl⟩ (fun r_8 hr_8 => ?_)
          obtain rfl := hr_8
          refine lv_imul hx hb dX8_firstOf_99 ?_
          refine lv_topi (fun x_9 ex_9 => ?_)
          have qx_9 : x_9.toInt = x_7.toInt * 20736 := by rw [ex_9]; exact zf_mul rfl (by decide) (by omega) (by omega)
          refine lv_iload_n hx hb dX8_firstOf_100 rfl (lv_at hl 1 rfl) ?_
          refine lv_icmp_ne (tgt := 109) hx hb dX8_firstOf_101 (by decide) (fun c_10 => ?_) (fun c_10 => ?_)
          · have fc_10 : x_9.toInt ≠ r_2.toInt := zf_ne c_10 rfl rfl
            refine lv_bipush (v := 100) hx hb dX8_firstOf_109 (by decide) ?_
            exact W.iret (v := 100) hx hb hr (fun t ht hW => ⟨100, rfl, ⟨by decide, by decide, (show (100 : Int32).toInt = zLr gki gpa gta npu.toInt.toNat nhu.toInt (gco 0).toInt (gco 1).toInt (gco 2).toInt 4 nde.toInt nse.toInt from by (have k1 : (101 : Int32).toInt = 101 := (by decide); have k2 : (100 : Int32).toInt = 100 := (by decide); have nx_7 : (gco 1).toInt = x_7.toInt := (by rw [ex_7, show (1 : Int32).toNatClampNeg = 1 from by decide]); have zl := hsr_2_0; have h9 : i_25.toInt.toNat = npu.toInt.toNat := (by omega); have z := hvi_25_0; rw [h9] at z; have hS := zLn_s (K := gki) (A := gpa) (T := gta) (N := npu.toInt.toNat) (n := 3) (h := nhu.toInt) (c0 := (gco 0).toInt) (c1 := (gco 1).toInt) (c2 := (gco 2).toInt) (d := nde.toInt) (s := nse.toInt); rw [if_neg (by omega)] at hS; have hL : zLn gki gpa gta npu.toInt.toNat nhu.toInt (gco 0).toInt (gco 1).toInt (gco 2).toInt 4 nde.toInt nse.toInt = zPw 4 * zAt (gco 1).toInt (gco 2).toInt nse.toInt := zFf_no npu.toInt.toNat (Or.inl hS) z hS; have hh := zHead (P := zPw 4) (c1 := (gco 1).toInt) (c2 := (gco 2).toInt) (s := nse.toInt) (zPw_pos 4); rw [← hL, ← zl, show zPw 4 = 20736 from by decide] at hh; unfold zLr; rw [if_neg (by omega), show (4 : Nat) - 1 = 3 from by decide, if_pos (Or.inr z)]; first | (rw [if_neg (fun z => by (have z2 := hh.mpr z; have z3 := z2.2; have z4 := z2.1; omega))]; omega) | (rw [if_pos (hh.mp ⟨by omega, by omega⟩)]; omega)))⟩, ht⟩) (fun q hq => by cases hq) dX8_firstOf_111
          · have fc_10 : x_9.toInt = r_2.toInt := zf_eq c_10 rfl rfl
            refine lv_bipush (v := 101) hx hb dX8_firstOf_104 (by decide) ?_
            refine lv_goto (tgt := 111) hx hb dX8_firstOf_106 (by decide) ?_
            exact W.iret (v := 101) hx hb hr (fun t ht hW => ⟨101, rfl, ⟨by decide, by decide, (show (101 : Int32).toInt = zLr gki gpa gta npu.toInt.toNat nhu.toInt (gco 0).toInt (gco 1).toInt (gco 2).toInt 4 nde.toInt nse.toInt from by (have k1 : (101 : Int32).toInt = 101 := (by decide); have k2 : (100 : Int32).toInt = 100 := (by decide); have nx_7 : (gco 1).toInt = x_7.toInt := (by rw [ex_7, show (1 : Int32).toNatClampNeg = 1 from by decide]); have zl := hsr_2_0; have h9 : i_25.toInt.toNat = npu.toInt.toNat := (by omega); have z := hvi_25_0; rw [h9] at z; have hS := zLn_s (K := gki) (A := gpa) (T := gta) (N := npu.toInt.toNat) (n := 3) (h := nhu.toInt) (c0 := (gco 0).toInt) (c1 := (gco 1).toInt) (c2 := (gco 2).toInt) (d := nde.toInt) (s := nse.toInt); rw [if_neg (by omega)] at hS; have hL : zLn gki gpa gta npu.toInt.toNat nhu.toInt (gco 0).toInt (gco 1).toInt (gco 2).toInt 4 nde.toInt nse.toInt = zPw 4 * zAt (gco 1).toInt (gco 2).toInt nse.toInt := zFf_no npu.toInt.toNat (Or.inl hS) z hS; have hh := zHead (P := zPw 4) (c1 := (gco 1).toInt) (c2 := (gco 2).toInt) (s := nse.toInt) (zPw_pos 4); rw [← hL, ← zl, show zPw 4 = 20736 from by decide] at hh; unfold zLr; rw [if_neg (by omega), show (4 : Nat) - 1 = 3 from by decide, if_pos (Or.inr z)]; first | (rw [if_pos (hh.mp ⟨by omega, by omega⟩)]; omega) | (rw [if_neg (fun z => by (have z2 := hh.mpr z; have z3 := z2.2; have z4 := z2.1; omega))]; omega)))⟩, ht⟩) (fun q hq => by cases hq) dX8_firstOf_111
      · exfalso; have fc_5 : i_25.toInt < npu.toInt := zf_nle c_5 rfl rfl; omega
    | succ nfu ih =>
      intro i_25 ls hl hvi_25_0 hvi_25_1 hloi_25 hni_25
      refine lv_iload_n hx hb dX8_firstOf_25 rfl (lv_at hl 0 rfl) ?_
      refine lv_aload_n hx hb dX8_firstOf_26 rfl (lv_at hl 2 rfl) ?_
      refine va_get (D := D) (ci := 8) (v := .int npu) (C := RX8) (T := TX8) (N := 38) hx hb hts hi_X8_firstOf_8 hown hK hP 0 rfl rfl 0 (by decide) (hts (.fieldLink RX8 90 "TheLiningsInItModel" "pulls" "I") (List.mem_of_getElem? (i := 3) rfl)) (fun _ h9 => h9) rfl dX8_firstOf_27 ?_
      refine lv_icmp_ge (tgt := 79) hx hb dX8_firstOf_30 (by decide) (fun c_11 => ?_) (fun c_11 => ?_)
      · have fc_11 : npu.toInt ≤ i_25.toInt := zf_le c_11 rfl rfl
        refine lv_aload_n hx hb dX8_firstOf_79 rfl (lv_at hl 2 rfl) ?_
        refine va_get (D := D) (ci := 8) (v := .int nse) (C := RX8) (T := TX8) (N := 38) hx hb hts hi_X8_firstOf_8 hown hK hP 0 rfl rfl 5 (by decide) (hts (.fieldLink RX8 13 "TheLiningsInItModel" "seconds" "I") (List.mem_of_getElem? (i := 2) rfl)) (fun _ h9 => h9) rfl dX8_firstOf_80 ?_
        refine lv_bipush (v := 30) hx hb dX8_firstOf_83 (by decide) ?_
        refine lv_icmp_lt (tgt := 109) hx hb dX8_firstOf_85 (by decide) (fun c_12 => ?_) (fun c_12 => ?_)
        · have fc_12 : nse.toInt < 30 := zf_lt c_12 rfl (by decide)
          refine lv_bipush (v := 100) hx hb dX8_firstOf_109 (by decide) ?_
          exact W.iret (v := 100) hx hb hr (fun t ht hW => ⟨100, rfl, ⟨by decide, by decide, (show (100 : Int32).toInt = zLr gki gpa gta npu.toInt.toNat nhu.toInt (gco 0).toInt (gco 1).toInt (gco 2).toInt 4 nde.toInt nse.toInt from by (have k1 : (101 : Int32).toInt = 101 := (by decide); have k2 : (100 : Int32).toInt = 100 := (by decide); have zl := hsr_2_0; have h9 : i_25.toInt.toNat = npu.toInt.toNat := (by omega); have z := hvi_25_0; rw [h9] at z; have hS := zLn_s (K := gki) (A := gpa) (T := gta) (N := npu.toInt.toNat) (n := 3) (h := nhu.toInt) (c0 := (gco 0).toInt) (c1 := (gco 1).toInt) (c2 := (gco 2).toInt) (d := nde.toInt) (s := nse.toInt); rw [if_neg (by omega)] at hS; have hL : zLn gki gpa gta npu.toInt.toNat nhu.toInt (gco 0).toInt (gco 1).toInt (gco 2).toInt 4 nde.toInt nse.toInt = zPw 4 * zAt (gco 1).toInt (gco 2).toInt nse.toInt := zFf_no npu.toInt.toNat (Or.inl hS) z hS; have hh := zHead (P := zPw 4) (c1 := (gco 1).toInt) (c2 := (gco 2).toInt) (s := nse.toInt) (zPw_pos 4); rw [← hL, ← zl, show zPw 4 = 20736 from by decide] at hh; unfold zLr; rw [if_neg (by omega), show (4 : Nat) - 1 = 3 from by decide, if_pos (Or.inr z)]; first | (rw [if_neg (fun z => by (have z2 := hh.mpr z; have z3 := z2.2; have z4 := z2.1; omega))]; omega) | (rw [if_pos (hh.mp ⟨by omega, by omega⟩)]; omega)))⟩, ht⟩) (fun q hq => by cases hq) dX8_firstOf_111
        · have fc_12 : 30 ≤ nse.toInt := zf_nlt c_12 rfl (by decide)
          refine lv_aload_n hx hb dX8_firstOf_88 rfl (lv_at hl 2 rfl) ?_
          refine va_get (D := D) (ci := 8) (v := .ref mco) (C := RX8) (T := TX8) (N := 38) hx hb hts hi_X8_firstOf_8 hown hK hP 0 rfl rfl 16 (by decide) (hts (.fieldLink RX8 44 "TheLiningsInItModel" "cost" "[I") (List.mem_of_getElem? (i := 4) rfl)) (fun _ h9 => h9) rfl dX8_firstOf_89 ?_
          refine lv_iconst (v := 1) hx hb dX8_firstOf_92 (by decide) ?_
          refine va_iald hx hb hK hP 4 0 rfl rfl (zf_in (by decide) (by decide)) dX8_firstOf_93 ?_
          refine lv_topi (fun x_13 ex_13 => ?_)
          have bx_13 : 0 ≤ x_13.toInt ∧ x_13.toInt ≤ 99 := by rw [ex_13]; exact hp_gco _
          refine lv_aload_n hx hb dX8_firstOf_94 rfl (lv_at hl 2 rfl) ?_
          refine lv_iload_n hx hb dX8_firstOf_95 rfl (lv_at hl 3 rfl) ?_
          refine zc_V (As := [.int 4]) (rest := [.int x_13]) ⟨hx, hb, hml, hown, hts⟩ (c_M_power_4 l D cI cJ cZ cP cS po m0 mrf mki mpa mta mla msl mco mhe mso msi msh mce mca mwo mnu mte mwa mke mma mth mtr (npu) (nte) (nat_) (nde) (nto) (nse) (nhu) (nga) (nsd) (nfa) (nba) (npl) (nen) (nnu) (nwr) (nra) (nik) hy0 hy1 hy2 hy3 hy4 hy5 hy6 hy7 hy8 hy9 hy10 hy11 hy12 hy13) (cwV 1 hts gX8_firstOf_X8_power rfl rfl rfl ⟨rfl, dh_X8_power⟩ ⟨Nat.le_of_ble_eq_true rfl, Nat.le_of_ble_eq_true rfl⟩) hK hN hZ hP (hP.sub [0] rfl) (va_recv (q := (RX8, TX8, 38)) hK hP (ci := 8) (q0 := 0) rfl rfl) rfl hl.1 rfl (Nat.le_of_ble_eq_true rfl) dX8_firstOf_96 ⟨Nat.le_of_ble_eq_true rfl, Nat.le_of_ble_eq_true rfl⟩ (fun r_14 hr_14 => ?_)
          obtain rfl := hr_14
          refine lv_imul hx hb dX8_firstOf_99 ?_
          refine lv_topi (fun x_15 ex_15 => ?_)
          have qx_15 : x_15.toInt = x_13.toInt * 20736 := by rw [ex_15]; exact zf_mul rfl (by decide) (by omega) (by omega)
          refine lv_iload_n hx hb dX8_firstOf_100 rfl (lv_at hl 1 rfl) ?_
          refine lv_icmp_ne (tgt := 109) hx hb dX8_firstOf_101 (by decide) (fun c_16 => ?_) (fun c_16 => ?_)
          · have fc_16 : x_15.toInt ≠ r_2.toInt := zf_ne c_16 rfl rfl
            refine lv_bipush (v := 100) hx hb dX8_firstOf_109 (by decide) ?_
            exact W.iret (v := 100) hx hb hr (fun t ht hW => ⟨100, rfl, ⟨by decide, by decide, (show (100 : Int32).toInt = zLr gki gpa gta npu.toInt.toNat nhu.toInt (gco 0).toInt (gco 1).toInt (gco 2).toInt 4 nde.toInt nse.toInt from by (have k1 : (101 : Int32).toInt = 101 := (by decide); have k2 : (100 : Int32).toInt = 100 := (by decide); have nx_13 : (gco 1).toInt = x_13.toInt := (by rw [ex_13, show (1 : Int32).toNatClampNeg = 1 from by decide]); have zl := hsr_2_0; have h9 : i_25.toInt.toNat = npu.toInt.toNat := (by omega); have z := hvi_25_0; rw [h9] at z; have hS := zLn_s (K := gki) (A := gpa) (T := gta) (N := npu.toInt.toNat) (n := 3) (h := nhu.toInt) (c0 := (gco 0).toInt) (c1 := (gco 1).toInt) (c2 := (gco 2).toInt) (d := nde.toInt) (s := nse.toInt); rw [if_neg (by omega)] at hS; have hL : zLn gki gpa gta npu.toInt.toNat nhu.toInt (gco 0).toInt (gco 1).toInt (gco 2).toInt 4 nde.toInt nse.toInt = zPw 4 * zAt (gco 1).toInt (gco 2).toInt nse.toInt := zFf_no npu.toInt.toNat (Or.inl hS) z hS; have hh := zHead (P := zPw 4) (c1 := (gco 1).toInt) (c2 := (gco 2).toInt) (s := nse.toInt) (zPw_pos 4); rw [← hL, ← zl, show zPw 4 = 20736 from by decide] at hh; unfold zLr; rw [if_neg (by omega), show (4 : Nat) - 1 = 3 from by decide, if_pos (Or.inr z)]; first | (rw [if_neg (fun z => by (have z2 := hh.mpr z; have z3 := z2.2; have z4 := z2.1; omega))]; omega) | (rw [if_pos (hh.mp ⟨by omega, by omega⟩)]; omega)))⟩, ht⟩) (fun q hq => by cases hq) dX8_firstOf_111
          · have fc_16 : x_15.toInt = r_2.toInt := zf_eq c_16 rfl rfl
            refine lv_bipush (v := 101) hx hb dX8_firstOf_104 (by decide) ?_
            refine lv_goto (tgt := 111) hx hb dX8_firstOf_106 (by decide) ?_
            exact W.iret (v := 101) hx hb hr (fun t ht hW => ⟨101, rfl, ⟨by decide, by decide, (show (101 : Int32).toInt = zLr gki gpa gta npu.toInt.toNat nhu.toInt (gco 0).toInt (gco 1).toInt (gco 2).toInt 4 nde.toInt nse.toInt from by (have k1 : (101 : Int32).toInt = 101 := (by decide); have k2 : (100 : Int32).toInt = 100 := (by decide); have nx_13 : (gco 1).toInt = x_13.toInt := (by rw [ex_13, show (1 : Int32).toNatClampNeg = 1 from by decide]); have zl := hsr_2_0; have h9 : i_25.toInt.toNat = npu.toInt.toNat := (by omega); have z := hvi_25_0; rw [h9] at z; have hS := zLn_s (K := gki) (A := gpa) (T := gta) (N := npu.toInt.toNat) (n := 3) (h := nhu.toInt) (c0 := (gco 0).toInt) (c1 := (gco 1).toInt) (c2 := (gco 2).toInt) (d := nde.toInt) (s := nse.toInt); rw [if_neg (by omega)] at hS; have hL : zLn gki gpa gta npu.toInt.toNat nhu.toInt (gco 0).toInt (gco 1).toInt (gco 2).toInt 4 nde.toInt nse.toInt = zPw 4 * zAt (gco 1).toInt (gco 2).toInt nse.toInt := zFf_no npu.toInt.toNat (Or.inl hS) z hS; have hh := zHead (P := zPw 4) (c1 := (gco 1).toInt) (c2 := (gco 2).toInt) (s := nse.toInt) (zPw_pos 4); rw [← hL, ← zl, show zPw 4 = 20736 from by decide] at hh; unfold zLr; rw [if_neg (by omega), show (4 : Nat) - 1 = 3 from by decide, if_pos (Or.inr z)]; first | (rw [if_pos (hh.mp ⟨by omega, by omega⟩)]; omega) | (rw [if_neg (fun z => by (have z2 := hh.mpr z; have z3 := z2.2; have z4 := z2.1; omega))]; omega)))⟩, ht⟩) (fun q hq => by cases hq) dX8_firstOf_111
      · have fc_11 : i_25.toInt < npu.toInt := zf_nle c_11 rfl rfl
        refine lv_iload_n hx hb dX8_firstOf_33 rfl (lv_at hl 3 rfl) ?_
        refine lv_if_le (tgt := 79) hx hb dX8_firstOf_34 (by decide) (fun c_17 => ?_) (fun c_17 => ?_)
        · exact absurd c_17 (by decide)
        · refine lv_aload_n hx hb dX8_firstOf_37 rfl (lv_at hl 2 rfl) ?_
          refine lv_iload_n hx hb dX8_firstOf_38 rfl (lv_at hl 0 rfl) ?_
          refine lv_aload_n hx hb dX8_firstOf_39 rfl (lv_at hl 2 rfl) ?_
          refine va_get (D := D) (ci := 8) (v := .int nde) (C := RX8) (T := TX8) (N := 38) hx hb hts hi_X8_firstOf_8 hown hK hP 0 rfl rfl 3 (by decide) (hts (.fieldLink RX8 115 "TheLiningsInItModel" "depth" "I") (List.mem_of_getElem? (i := 1) rfl)) (fun _ h9 => h9) rfl dX8_firstOf_40 ?_
          refine lv_aload_n hx hb dX8_firstOf_43 rfl (lv_at hl 2 rfl) ?_
          refine va_get (D := D) (ci := 8) (v := .int nse) (C := RX8) (T := TX8) (N := 38) hx hb hts hi_X8_firstOf_8 hown hK hP 0 rfl rfl 5 (by decide) (hts (.fieldLink RX8 13 "TheLiningsInItModel" "seconds" "I") (List.mem_of_getElem? (i := 2) rfl)) (fun _ h9 => h9) rfl dX8_firstOf_44 ?_
          refine zc_V (As := [.int i_25, .int nde, .int nse]) (rest := []) ⟨hx, hb, hml, hown, hts⟩ (c_F_M_mayBe l D cI cJ cZ cP cS po m0 mrf mki mpa mta mla msl mco mhe mso msi msh mce mca mwo mnu mte mwa mke mma mth mtr (npu) (nte) (nat_) (nde) (nto) (nse) (nhu) (nga) (nsd) (nfa) (nba) (npl) (nen) (nnu) (nwr) (nra) (nik) gta (i_25) (nde) (nse) hy0 hy1 hy2 hy3 hy4 hy5 hy6 hy7 hy8 hy9 hy10 hy11 hy12 hy13 (by omega) (by omega) hp_gta) (cwV 3 hts gX8_firstOf_X8_mayBe rfl rfl rfl ⟨rfl, dh_X8_mayBe⟩ ⟨Nat.le_of_ble_eq_true rfl, Nat.le_of_ble_eq_true rfl⟩) hK hN hZ hP (hP.sub [0, 3] rfl) (va_recv (q := (RX8, TX8, 38)) hK hP (ci := 8) (q0 := 0) rfl rfl) rfl hl.1 rfl (Nat.le_of_ble_eq_true rfl) dX8_firstOf_47 ⟨Nat.le_of_ble_eq_true rfl, Nat.le_of_ble_eq_true rfl⟩ (fun r_18 hr_18 => ?_)
          obtain ⟨g_19, g_20, hsr_18_0⟩ := hr_18
          refine lv_if_eq (tgt := 73) hx hb dX8_firstOf_50 (by decide) (fun c_21 => ?_) (fun c_21 => ?_)
          · have fc_21 : r_18.toInt = 0 := zf_eq c_21 rfl (by decide)
            obtain ⟨x_22, ex_22⟩ : ∃ y : Int32, y = i_25 + 1 := ⟨_, rfl⟩
            have qx_22 : x_22.toInt = i_25.toInt + 1 := dw_inc ex_22 fc_11
            refine lv_iinc (v := x_22) (lv' := [(3, .int x_22), (2, .int r_2), (0, .ref m0), (1, .int 4)]) hx hb dX8_firstOf_73 hl (k := 0) rfl ex_22.symm (by decide) rfl (fun ls hl => ?_)
            refine lv_goto (tgt := 25) hx hb dX8_firstOf_76 (by decide) ?_
            exact ih x_22 _ (lv_sub hl [0, 1, 2, 3] rfl) (show zFf gta nde.toInt nse.toInt ((zLn gki gpa gta npu.toInt.toNat nhu.toInt (gco 0).toInt (gco 1).toInt (gco 2).toInt 4) nde.toInt nse.toInt) (zLv (zLn gki gpa gta npu.toInt.toNat nhu.toInt (gco 0).toInt (gco 1).toInt (gco 2).toInt 3) gki gpa gta (gco 0).toInt (zPw 4) nhu.toInt nde.toInt nse.toInt) x_22.toInt.toNat = -1 from by (have hx : x_22.toInt.toNat = i_25.toInt.toNat + 1 := (by omega); have y9 : i_25.toNatClampNeg = i_25.toInt.toNat := rfl; have hm := hsr_18_0; rw [y9] at hm; rw [hx]; exact zFf_nx hvi_25_0 (fun z => by (have z1 := hm.mpr z.1; omega)))) (show x_22.toInt ≤ npu.toInt from by omega) (dw_lo hloi_25 qx_22) (dw_hn hni_25 qx_22)
          · have fc_21 : r_18.toInt ≠ 0 := zf_ne c_21 rfl (by decide)
            have htl9 : (gta i_25.toNatClampNeg).toInt ≤ nse.toInt := (hsr_18_0.mp (by omega)).2
            refine lv_aload_n hx hb dX8_firstOf_53 rfl (lv_at hl 2 rfl) ?_
            refine lv_iload_n hx hb dX8_firstOf_54 rfl (lv_at hl 0 rfl) ?_
            refine lv_iload_n hx hb dX8_firstOf_55 rfl (lv_at hl 3 rfl) ?_
            refine lv_aload_n hx hb dX8_firstOf_56 rfl (lv_at hl 2 rfl) ?_
            refine va_get (D := D) (ci := 8) (v := .int nde) (C := RX8) (T := TX8) (N := 38) hx hb hts hi_X8_firstOf_8 hown hK hP 0 rfl rfl 3 (by decide) (hts (.fieldLink RX8 115 "TheLiningsInItModel" "depth" "I") (List.mem_of_getElem? (i := 1) rfl)) (fun _ h9 => h9) rfl dX8_firstOf_57 ?_
            refine lv_aload_n hx hb dX8_firstOf_60 rfl (lv_at hl 2 rfl) ?_
            refine va_get (D := D) (ci := 8) (v := .int nse) (C := RX8) (T := TX8) (N := 38) hx hb hts hi_X8_firstOf_8 hown hK hP 0 rfl rfl 5 (by decide) (hts (.fieldLink RX8 13 "TheLiningsInItModel" "seconds" "I") (List.mem_of_getElem? (i := 2) rfl)) (fun _ h9 => h9) rfl dX8_firstOf_61 ?_
            refine zc_V (As := [.int i_25, .int 4, .int nde, .int nse]) (rest := []) ⟨hx, hb, hml, hown, hts⟩ (c_F_M_costBy_4 l D cI cJ cZ cP cS po m0 mrf mki mpa mta mla msl mco mhe mso msi msh mce mca mwo mnu mte mwa mke mma mth mtr (npu) (nte) (nat_) (nde) (nto) (nse) (nhu) (nga) (nsd) (nfa) (nba) (npl) (nen) (nnu) (nwr) (nra) (nik) gki gpa gta gco (i_25) (nde) (nse) hy0 hy1 hy2 hy3 hy4 hy5 hy6 hy7 hy8 hy9 hy10 hy11 hy12 hy13 (by omega) (by omega) hy6 hy7 hy14 hy15 (by first | assumption | omega) hp_gki hp_gpa hp_gta hp_gco) (cwV 4 hts gX8_firstOf_X8_costBy rfl rfl rfl ⟨rfl, dh_X8_costBy⟩ ⟨Nat.le_of_ble_eq_true rfl, Nat.le_of_ble_eq_true rfl⟩) hK hN hZ hP (hP.sub [0, 1, 2, 3, 4] rfl) (va_recv (q := (RX8, TX8, 38)) hK hP (ci := 8) (q0 := 0) rfl rfl) rfl hl.1 rfl (Nat.le_of_ble_eq_true rfl) dX8_firstOf_64 ⟨Nat.le_of_ble_eq_true rfl, Nat.le_of_ble_eq_true rfl⟩ (fun r_23 hr_23 => ?_)
            obtain ⟨g_24, g_25, hsr_23_0⟩ := hr_23
            refine lv_iload_n hx hb dX8_firstOf_67 rfl (lv_at hl 1 rfl) ?_
            refine lv_icmp_ne (tgt := 73) hx hb dX8_firstOf_68 (by decide) (fun c_26 => ?_) (fun c_26 => ?_)
            · have fc_26 : r_23.toInt ≠ r_2.toInt := zf_ne c_26 rfl rfl
              obtain ⟨x_27, ex_27⟩ : ∃ y : Int32, y = i_25 + 1 := ⟨_, rfl⟩
              have qx_27 : x_27.toInt = i_25.toInt + 1 := dw_inc ex_27 fc_11
              refine lv_iinc (v := x_27) (lv' := [(3, .int x_27), (2, .int r_2), (0, .ref m0), (1, .int 4)]) hx hb dX8_firstOf_73 hl (k := 0) rfl ex_27.symm (by decide) rfl (fun ls hl => ?_)
              refine lv_goto (tgt := 25) hx hb dX8_firstOf_76 (by decide) ?_
              exact ih x_27 _ (lv_sub hl [0, 1, 2, 3] rfl) (show zFf gta nde.toInt nse.toInt ((zLn gki gpa gta npu.toInt.toNat nhu.toInt (gco 0).toInt (gco 1).toInt (gco 2).toInt 4) nde.toInt nse.toInt) (zLv (zLn gki gpa gta npu.toInt.toNat nhu.toInt (gco 0).toInt (gco 1).toInt (gco 2).toInt 3) gki gpa gta (gco 0).toInt (zPw 4) nhu.toInt nde.toInt nse.toInt) x_27.toInt.toNat = -1 from by (have hx : x_27.toInt.toNat = i_25.toInt.toNat + 1 := (by omega); have y9 : i_25.toNatClampNeg = i_25.toInt.toNat := rfl; have hm := hsr_18_0; rw [y9] at hm; have zr := hsr_23_0; rw [y9] at zr; have zr2 : r_23.toInt = (zLv (zLn gki gpa gta npu.toInt.toNat nhu.toInt (gco 0).toInt (gco 1).toInt (gco 2).toInt 3) gki gpa gta (gco 0).toInt (zPw 4) nhu.toInt nde.toInt nse.toInt) i_25.toInt.toNat := zr; have zl := hsr_2_0; rw [hx]; exact zFf_nx hvi_25_0 (fun z => by (have z2 := z.2; rw [← zr2, ← zl] at z2; omega)))) (show x_27.toInt ≤ npu.toInt from by omega) (dw_lo hloi_25 qx_27) (dw_hn hni_25 qx_27)
            · have fc_26 : r_23.toInt = r_2.toInt := zf_eq c_26 rfl rfl
              refine lv_iload_n hx hb dX8_firstOf_71 rfl (lv_at hl 0 rfl) ?_
              exact W.iret (v := i_25) hx hb hr (fun t ht hW => ⟨i_25, rfl, ⟨by omega, by omega, (show (i_25 : Int32).toInt = zLr gki gpa gta npu.toInt.toNat nhu.toInt (gco 0).toInt (gco 1).toInt (gco 2).toInt 4 nde.toInt nse.toInt from by (have y9 : i_25.toNatClampNeg = i_25.toInt.toNat := rfl; have hm := hsr_18_0; rw [y9] at hm; have zr := hsr_23_0; rw [y9] at zr; have zr2 : r_23.toInt = (zLv (zLn gki gpa gta npu.toInt.toNat nhu.toInt (gco 0).toInt (gco 1).toInt (gco 2).toInt 3) gki gpa gta (gco 0).toInt (zPw 4) nhu.toInt nde.toInt nse.toInt) i_25.toInt.toNat := zr; have zl := hsr_2_0; have zf : zFf gta nde.toInt nse.toInt ((zLn gki gpa gta npu.toInt.toNat nhu.toInt (gco 0).toInt (gco 1).toInt (gco 2).toInt 4) nde.toInt nse.toInt) (zLv (zLn gki gpa gta npu.toInt.toNat nhu.toInt (gco 0).toInt (gco 1).toInt (gco 2).toInt 3) gki gpa gta (gco 0).toInt (zPw 4) nhu.toInt nde.toInt nse.toInt) npu.toInt.toNat = (i_25.toInt.toNat : Int) := zFf_at hvi_25_0 (hm.mp (by omega)) (by rw [← zr2, ← zl]; omega) (by omega); unfold zLr; rw [if_neg (by omega), show (4 : Nat) - 1 = 3 from by decide, if_neg (fun z => by (rcases z with z | z; (exact absurd z (by decide)); (rw [zf] at z; omega))), zf]; omega))⟩, ht⟩) (fun q hq => by cases hq) dX8_firstOf_72
  · have fc_1 : nde.toInt = 0 := zf_eq c_1 rfl (by decide)
    refine lv_iconst (v := (-1)) hx hb dX8_firstOf_7 (by decide) ?_
    exact W.iret (v := (-1)) hx hb hr (fun t ht hW => ⟨(-1), rfl, ⟨by decide, by decide, (show ((-1) : Int32).toInt = zLr gki gpa gta npu.toInt.toNat nhu.toInt (gco 0).toInt (gco 1).toInt (gco 2).toInt 4 nde.toInt nse.toInt from by (have k9 : ((-1) : Int32).toInt = -1 := (by decide); unfold zLr; rw [if_pos (by omega)]; exact k9))⟩, ht⟩) (fun q hq => by cases hq) dX8_firstOf_8
set_option maxHeartbeats 4000000 in
set_option maxRecDepth 100000 in
theorem c_F_M_line (l : Launch) (D : va_G) (cI cJ cZ cP cS : ClassId) (po : zPool) (m0 mrf mki mpa mta mla msl mco mhe mso msi msh mce mca mwo mnu mte mwa mke mma mth mtr : Nat) (npu nte nat_ nde nto nse nhu nga nsd nfa nba npl nen nnu nwr nra nik : Int32) (grf gki gpa gta gco : Nat → Int32) (n w : Int32) (hy0 : 0 ≤ npu.toInt) (hy1 : npu.toInt ≤ 8) (hy2 : 4 ≤ nte.toInt) (hy3 : nte.toInt ≤ 40) (hy4 : 0 ≤ nat_.toInt) (hy5 : nat_.toInt ≤ 40) (hy6 : 0 ≤ nde.toInt) (hy7 : nde.toInt ≤ 24) (hy8 : 0 ≤ nhu.toInt) (hy9 : nhu.toInt ≤ 9) (hy10 : 0 ≤ nra.toInt) (hy11 : nra.toInt ≤ 2000) (hy12 : 0 ≤ nik.toInt) (hy13 : nik.toInt ≤ 1) (hy14 : 0 ≤ nse.toInt) (hy15 : nse.toInt ≤ 300) (hp_gki : zRg gki (0) 6) (hp_gpa : zRg gpa (0) 9) (hp_gta : zRg gta (0) 60) (hp_gco : zRg gco (0) 99) (hpz : Nat) : Met l yX8_line wsX8_line ({ frames := 11, cells := 0, slots := 0, locals := 278 }) (va_Pc [.ref m0, .int n, .int w] (zW D (zKT cI cJ cZ cP cS) po [(zMO m0 npu nte nat_ nde nto nse nhu nga nsd nfa mrf mki mpa mta mla msl mco mhe mso msi msh mce mca mwo mnu mte nba npl nen nnu nwr mwa mke mma mth mtr nra nik), (mrf, .inl (cI, 8, .inl grf)), (mki, .inl (cI, 8, .inl gki)), (mpa, .inl (cI, 8, .inl gpa)), (mta, .inl (cI, 8, .inl gta)), (mco, .inl (cI, 3, .inl gco))] hpz)) (va_Qi (fun (r : Int32) (grf2 : (Nat → Int32)) => (((w.toInt < 0 ∨ 1 < w.toInt) ∧ r.toInt = -15) ∨ ((0 ≤ w.toInt ∧ w.toInt ≤ 1) ∧ (((n.toInt < 0 ∨ 4 < n.toInt) ∧ r.toInt = -16) ∨ ((0 ≤ n.toInt ∧ n.toInt ≤ 4) ∧ ((w.toInt = 1 ∧ r.toInt = zLr gki gpa gta npu.toInt.toNat nhu.toInt (gco 0).toInt (gco 1).toInt (gco 2).toInt n.toInt.toNat nde.toInt nse.toInt) ∨ (w.toInt = 0 ∧ r.toInt = zLn gki gpa gta npu.toInt.toNat nhu.toInt (gco 0).toInt (gco 1).toInt (gco 2).toInt n.toInt.toNat nde.toInt nse.toInt)))))) ∧ (True)) (zB D [(zMO m0 npu nte nat_ nde nto nse nhu nga nsd nfa mrf mki mpa mta mla msl mco mhe mso msi msh mce mca mwo mnu mte nba npl nen nnu nwr mwa mke mma mth mtr nra nik), (mrf, .inl (cI, 8, .inl grf)), (mki, .inl (cI, 8, .inl gki)), (mpa, .inl (cI, 8, .inl gpa)), (mta, .inl (cI, 8, .inl gta)), (mco, .inl (cI, 3, .inl gco))] hpz (fun (grf2 : Nat → Int32) => [(zMO m0 npu nte nat_ nde nto nse nhu nga nsd nfa mrf mki mpa mta mla msl mco mhe mso msi msh mce mca mwo mnu mte nba npl nen nnu nwr mwa mke mma mth mtr nra nik), (mrf, .inl (cI, 8, .inl grf2)), (mki, .inl (cI, 8, .inl gki)), (mpa, .inl (cI, 8, .inl gpa)), (mta, .inl (cI, 8, .inl gta)), (mco, .inl (cI, 3, .inl gco))])) (va_A [(zMO m0 npu nte nat_ nde nto nse nhu nga nsd nfa mrf mki mpa mta mla msl mco mhe mso msi msh mce mca mwo mnu mte nba npl nen nnu nwr mwa mke mma mth mtr nra nik), (mrf, .inl (cI, 8, .inl grf)), (mki, .inl (cI, 8, .inl gki)), (mpa, .inl (cI, 8, .inl gpa)), (mta, .inl (cI, 8, .inl gta)), (mco, .inl (cI, 3, .inl gco))] hpz)) 0 0 (va_A [(zMO m0 npu nte nat_ nde nto nse nhu nga nsd nfa mrf mki mpa mta mla msl mco mhe mso msi msh mce mca mwo mnu mte nba npl nen nnu nwr mwa mke mma mth mtr nra nik), (mrf, .inl (cI, 8, .inl grf)), (mki, .inl (cI, 8, .inl gki)), (mpa, .inl (cI, 8, .inl gpa)), (mta, .inl (cI, 8, .inl gta)), (mco, .inl (cI, 3, .inl gco))] hpz) := by
  refine Met.ofW (cc := cX8_line) (maxL := 3) (ret := (some .int)) (by decide) rfl ?_
  intro p e s m args below meth c s₁ B hml hv
  obtain ⟨rfl, hsz, hP, hK, hD0, hN, hZ⟩ := hv
  have hx := B.exec
  have hb := B.bytes
  have hr := B.returns
  have hts := atoms_spec (ws := wsX8_line) B.pre
  have hown : s.vm.findClass RX8 = some m.cls := findClass_of_methodNamed B.named
  have hlocks := B.notSynchronized
  subst hsz
  have hD := hD0.self (sz := s.heap.size)
  have hA := zA_of hD
  have hl := lv_entry ([.ref m0, .int n, .int w]) (n := 3) (Nat.le_of_ble_eq_true rfl)
  rw [lg_entry_eq]
  generalize (lg_sl ([.ref m0, .int n, .int w]) ++ List.replicate (3 - (lg_sl ([.ref m0, .int n, .int w])).length) Slot.unset).toArray = ls at hl ⊢
  replace hl : lv_has ls 3 [(0, .ref m0), (1, .int n), (2, .int w)] := hl
  refine zw_begin hP hD (fun H locs hP1 hS => ?_)
  clear hP
  have hP := hP1
  clear hP1
  refine lv_iload_n hx hb dX8_line_0 rfl (lv_at hl 2 rfl) ?_
  refine lv_if_lt (tgt := 9) hx hb dX8_line_1 (by decide) (fun c_1 => ?_) (fun c_1 => ?_)
  · have fc_1 : w.toInt < 0 := zf_lt c_1 rfl (by decide)
    refine lv_aload_n hx hb dX8_line_9 rfl (lv_at hl 0 rfl) ?_
    refine lv_bipush (v := (-5)) hx hb dX8_line_10 (by decide) ?_
    skip
    refine zw_V (As := [.int (-5)]) (rest := []) (wr := [(mki, .inl (cI, 8, .inl gki)), (mpa, .inl (cI, 8, .inl gpa)), (mta, .inl (cI, 8, .inl gta)), (mco, .inl (cI, 3, .inl gco))]) ⟨hx, hb, hml, hown, hts⟩ (c_M_noTen_5 l D cI cJ cZ cP cS po m0 mrf mki mpa mta mla msl mco mhe mso msi msh mce mca mwo mnu mte mwa mke mma mth mtr (npu) (nte) (nat_) (nde) (nto) (nse) (nhu) (nga) (nsd) (nfa) (nba) (npl) (nen) (nnu) (nwr) (nra) (nik) grf hy0 hy1 hy2 hy3 hy4 hy5 hy6 hy7 hy8 hy9 hy10 hy11 hy12 hy13 H.size) (cwV 1 hts gX8_line_X8_noTen rfl rfl rfl ⟨rfl, dh_X8_noTen⟩ ⟨Nat.le_of_ble_eq_true rfl, Nat.le_of_ble_eq_true rfl⟩) hK hN (hZ.kept hS) hP hD hS hA [0, 1] [2, 3, 4, 5] rfl rfl (by decide) (by decide) (by decide) (va_recv (q := (RX8, TX8, 38)) hK hP (ci := 8) (q0 := 0) rfl rfl) rfl hl.1 rfl (Nat.le_of_ble_eq_true rfl) dX8_line_12 ⟨Nat.le_of_ble_eq_true rfl, Nat.le_of_ble_eq_true rfl⟩ (fun r_2 u_3 H locs hr_2 hP hD hS => ?_)
    obtain ⟨q_4, rfl⟩ : ∃ z, z = u_3 := ⟨_, rfl⟩
    have h9R := zRe (ws' := [(mki, .inl (cI, 8, .inl gki)), (mpa, .inl (cI, 8, .inl gpa)), (mta, .inl (cI, 8, .inl gta)), (mco, .inl (cI, 3, .inl gco)), (zMO m0 npu nte nat_ nde nto nse nhu nga nsd nfa mrf mki mpa mta mla msl mco mhe mso msi msh mce mca mwo mnu mte nba npl nen nnu nwr mwa mke mma mth mtr nra nik), (mrf, .inl (cI, 8, .inl q_4))]) hP hD rfl
    clear hP hD
    obtain ⟨hP, hD⟩ := h9R
    obtain rfl := hr_2
    exact W.iret (v := (-15)) hx hb hr (fun t ht hW => ⟨⟨(-15), q_4, rfl, ⟨(show ((w.toInt < 0 ∨ 1 < w.toInt) ∧ ((-15) : Int32).toInt = -15) ∨ ((0 ≤ w.toInt ∧ w.toInt ≤ 1) ∧ (((n.toInt < 0 ∨ 4 < n.toInt) ∧ ((-15) : Int32).toInt = -16) ∨ ((0 ≤ n.toInt ∧ n.toInt ≤ 4) ∧ ((w.toInt = 1 ∧ ((-15) : Int32).toInt = zLr gki gpa gta npu.toInt.toNat nhu.toInt (gco 0).toInt (gco 1).toInt (gco 2).toInt n.toInt.toNat nde.toInt nse.toInt) ∨ (w.toInt = 0 ∧ ((-15) : Int32).toInt = zLn gki gpa gta npu.toInt.toNat nhu.toInt (gco 0).toInt (gco 1).toInt (gco 2).toInt n.toInt.toNat nde.toInt nse.toInt))))) from by (have k15m : ((-15) : Int32).toInt = -15 := (by decide); omega)), trivial⟩, zRet ht hP hD [4, 5, 0, 1, 2, 3] (by decide) rfl⟩, hS.F ht⟩) hS.2.2 dX8_line_15
  · have fc_1 : 0 ≤ w.toInt := zf_nlt c_1 rfl (by decide)
    refine lv_iload_n hx hb dX8_line_4 rfl (lv_at hl 2 rfl) ?_
    refine lv_iconst (v := 1) hx hb dX8_line_5 (by decide) ?_
    refine lv_icmp_le (tgt := 16) hx hb dX8_line_6 (by decide) (fun c_5 => ?_) (fun c_5 => ?_)
    · have fc_5 : w.toInt ≤ 1 := zf_le c_5 rfl (by decide)
      refine lv_aload_n hx hb dX8_line_16 rfl (lv_at hl 0 rfl) ?_
      refine lv_iload_n hx hb dX8_line_17 rfl (lv_at hl 1 rfl) ?_
      refine zc_V (As := [.int n]) (rest := []) ⟨hx, hb, hml, hown, hts⟩ (c_M_isFew l D cI cJ cZ cP cS po m0 mrf mki mpa mta mla msl mco mhe mso msi msh mce mca mwo mnu mte mwa mke mma mth mtr (npu) (nte) (nat_) (nde) (nto) (nse) (nhu) (nga) (nsd) (nfa) (nba) (npl) (nen) (nnu) (nwr) (nra) (nik) (n) hy0 hy1 hy2 hy3 hy4 hy5 hy6 hy7 hy8 hy9 hy10 hy11 hy12 hy13) (cwV 1 hts gX8_line_X8_isFew rfl rfl rfl ⟨rfl, dh_X8_isFew⟩ ⟨Nat.le_of_ble_eq_true rfl, Nat.le_of_ble_eq_true rfl⟩) hK hN (hZ.kept hS) hP (hP.sub [0] rfl) (va_recv (q := (RX8, TX8, 38)) hK hP (ci := 8) (q0 := 0) rfl rfl) rfl hl.1 rfl (Nat.le_of_ble_eq_true rfl) dX8_line_18 ⟨Nat.le_of_ble_eq_true rfl, Nat.le_of_ble_eq_true rfl⟩ (fun r_6 hr_6 => ?_)
      rcases hr_6 with ⟨rfl, g_7⟩ | ⟨rfl, g_8, g_9⟩ | ⟨rfl, g_10, g_11⟩
      · refine lv_if_ne (tgt := 31) hx hb dX8_line_21 (by decide) (fun c_12 => ?_) (fun c_12 => ?_)
        · exact absurd c_12 (by decide)
        · refine lv_aload_n hx hb dX8_line_24 rfl (lv_at hl 0 rfl) ?_
          refine lv_bipush (v := (-6)) hx hb dX8_line_25 (by decide) ?_
          skip
          refine zw_V (As := [.int (-6)]) (rest := []) (wr := [(mki, .inl (cI, 8, .inl gki)), (mpa, .inl (cI, 8, .inl gpa)), (mta, .inl (cI, 8, .inl gta)), (mco, .inl (cI, 3, .inl gco))]) ⟨hx, hb, hml, hown, hts⟩ (c_M_noTen_6 l D cI cJ cZ cP cS po m0 mrf mki mpa mta mla msl mco mhe mso msi msh mce mca mwo mnu mte mwa mke mma mth mtr (npu) (nte) (nat_) (nde) (nto) (nse) (nhu) (nga) (nsd) (nfa) (nba) (npl) (nen) (nnu) (nwr) (nra) (nik) grf hy0 hy1 hy2 hy3 hy4 hy5 hy6 hy7 hy8 hy9 hy10 hy11 hy12 hy13 H.size) (cwV 1 hts gX8_line_X8_noTen rfl rfl rfl ⟨rfl, dh_X8_noTen⟩ ⟨Nat.le_of_ble_eq_true rfl, Nat.le_of_ble_eq_true rfl⟩) hK hN (hZ.kept hS) hP hD hS hA [0, 1] [2, 3, 4, 5] rfl rfl (by decide) (by decide) (by decide) (va_recv (q := (RX8, TX8, 38)) hK hP (ci := 8) (q0 := 0) rfl rfl) rfl hl.1 rfl (Nat.le_of_ble_eq_true rfl) dX8_line_27 ⟨Nat.le_of_ble_eq_true rfl, Nat.le_of_ble_eq_true rfl⟩ (fun r_13 u_14 H locs hr_13 hP hD hS => ?_)
          obtain ⟨q_15, rfl⟩ : ∃ z, z = u_14 := ⟨_, rfl⟩
          have h9R := zRe (ws' := [(mki, .inl (cI, 8, .inl gki)), (mpa, .inl (cI, 8, .inl gpa)), (mta, .inl (cI, 8, .inl gta)), (mco, .inl (cI, 3, .inl gco)), (zMO m0 npu nte nat_ nde nto nse nhu nga nsd nfa mrf mki mpa mta mla msl mco mhe mso msi msh mce mca mwo mnu mte nba npl nen nnu nwr mwa mke mma mth mtr nra nik), (mrf, .inl (cI, 8, .inl q_15))]) hP hD rfl
          clear hP hD
          obtain ⟨hP, hD⟩ := h9R
          obtain rfl := hr_13
          exact W.iret (v := (-16)) hx hb hr (fun t ht hW => ⟨⟨(-16), q_15, rfl, ⟨(show ((w.toInt < 0 ∨ 1 < w.toInt) ∧ ((-16) : Int32).toInt = -15) ∨ ((0 ≤ w.toInt ∧ w.toInt ≤ 1) ∧ (((n.toInt < 0 ∨ 4 < n.toInt) ∧ ((-16) : Int32).toInt = -16) ∨ ((0 ≤ n.toInt ∧ n.toInt ≤ 4) ∧ ((w.toInt = 1 ∧ ((-16) : Int32).toInt = zLr gki gpa gta npu.toInt.toNat nhu.toInt (gco 0).toInt (gco 1).toInt (gco 2).toInt n.toInt.toNat nde.toInt nse.toInt) ∨ (w.toInt = 0 ∧ ((-16) : Int32).toInt = zLn gki gpa gta npu.toInt.toNat nhu.toInt (gco 0).toInt (gco 1).toInt (gco 2).toInt n.toInt.toNat nde.toInt nse.toInt))))) from by (have k16m : ((-16) : Int32).toInt = -16 := (by decide); omega)), trivial⟩, zRet ht hP hD [4, 5, 0, 1, 2, 3] (by decide) rfl⟩, hS.F ht⟩) hS.2.2 dX8_line_30
      · refine lv_if_ne (tgt := 31) hx hb dX8_line_21 (by decide) (fun c_16 => ?_) (fun c_16 => ?_)
        · exact absurd c_16 (by decide)
        · refine lv_aload_n hx hb dX8_line_24 rfl (lv_at hl 0 rfl) ?_
          refine lv_bipush (v := (-6)) hx hb dX8_line_25 (by decide) ?_
          skip
          refine zw_V (As := [.int (-6)]) (rest := []) (wr := [(mki, .inl (cI, 8, .inl gki)), (mpa, .inl (cI, 8, .inl gpa)), (mta, .inl (cI, 8, .inl gta)), (mco, .inl (cI, 3, .inl gco))]) ⟨hx, hb, hml, hown, hts⟩ (c_M_noTen_6 l D cI cJ cZ cP cS po m0 mrf mki mpa mta mla msl mco mhe mso msi msh mce mca mwo mnu mte mwa mke mma mth mtr (npu) (nte) (nat_) (nde) (nto) (nse) (nhu) (nga) (nsd) (nfa) (nba) (npl) (nen) (nnu) (nwr) (nra) (nik) grf hy0 hy1 hy2 hy3 hy4 hy5 hy6 hy7 hy8 hy9 hy10 hy11 hy12 hy13 H.size) (cwV 1 hts gX8_line_X8_noTen rfl rfl rfl ⟨rfl, dh_X8_noTen⟩ ⟨Nat.le_of_ble_eq_true rfl, Nat.le_of_ble_eq_true rfl⟩) hK hN (hZ.kept hS) hP hD hS hA [0, 1] [2, 3, 4, 5] rfl rfl (by decide) (by decide) (by decide) (va_recv (q := (RX8, TX8, 38)) hK hP (ci := 8) (q0 := 0) rfl rfl) rfl hl.1 rfl (Nat.le_of_ble_eq_true rfl) dX8_line_27 ⟨Nat.le_of_ble_eq_true rfl, Nat.le_of_ble_eq_true rfl⟩ (fun r_17 u_18 H locs hr_17 hP hD hS => ?_)
          obtain ⟨q_19, rfl⟩ : ∃ z, z = u_18 := ⟨_, rfl⟩
          have h9R := zRe (ws' := [(mki, .inl (cI, 8, .inl gki)), (mpa, .inl (cI, 8, .inl gpa)), (mta, .inl (cI, 8, .inl gta)), (mco, .inl (cI, 3, .inl gco)), (zMO m0 npu nte nat_ nde nto nse nhu nga nsd nfa mrf mki mpa mta mla msl mco mhe mso msi msh mce mca mwo mnu mte nba npl nen nnu nwr mwa mke mma mth mtr nra nik), (mrf, .inl (cI, 8, .inl q_19))]) hP hD rfl
          clear hP hD
          obtain ⟨hP, hD⟩ := h9R
          obtain rfl := hr_17
          exact W.iret (v := (-16)) hx hb hr (fun t ht hW => ⟨⟨(-16), q_19, rfl, ⟨(show ((w.toInt < 0 ∨ 1 < w.toInt) ∧ ((-16) : Int32).toInt = -15) ∨ ((0 ≤ w.toInt ∧ w.toInt ≤ 1) ∧ (((n.toInt < 0 ∨ 4 < n.toInt) ∧ ((-16) : Int32).toInt = -16) ∨ ((0 ≤ n.toInt ∧ n.toInt ≤ 4) ∧ ((w.toInt = 1 ∧ ((-16) : Int32).toInt = zLr gki gpa gta npu.toInt.toNat nhu.toInt (gco 0).toInt (gco 1).toInt (gco 2).toInt n.toInt.toNat nde.toInt nse.toInt) ∨ (w.toInt = 0 ∧ ((-16) : Int32).toInt = zLn gki gpa gta npu.toInt.toNat nhu.toInt (gco 0).toInt (gco 1).toInt (gco 2).toInt n.toInt.toNat nde.toInt nse.toInt))))) from by (have k16m : ((-16) : Int32).toInt = -16 := (by decide); omega)), trivial⟩, zRet ht hP hD [4, 5, 0, 1, 2, 3] (by decide) rfl⟩, hS.F ht⟩) hS.2.2 dX8_line_30
      · refine lv_if_ne (tgt := 31) hx hb dX8_line_21 (by decide) (fun c_20 => ?_) (fun c_20 => ?_)
        · have hsp : n = 0 ∨ n = 1 ∨ n = 2 ∨ n = 3 ∨ n = 4 := by
            rcases (show n.toInt = 0 ∨ n.toInt = 1 ∨ n.toInt = 2 ∨ n.toInt = 3 ∨ n.toInt = 4 by omega) with h9 | h9 | h9 | h9 | h9
            · refine Or.inl ?_; exact zf_val h9 (by decide)
            · refine Or.inr (Or.inl ?_); exact zf_val h9 (by decide)
            · refine Or.inr (Or.inr (Or.inl ?_)); exact zf_val h9 (by decide)
            · refine Or.inr (Or.inr (Or.inr (Or.inl ?_))); exact zf_val h9 (by decide)
            · refine Or.inr (Or.inr (Or.inr (Or.inr (?_)))); exact zf_val h9 (by decide)
          rcases hsp with rfl | rfl | rfl | rfl | rfl
          · have kc0 : (0 : Int32).toInt = 0 := by decide
            refine lv_iload_n hx hb dX8_line_31 rfl (lv_at hl 2 rfl) ?_
            refine lv_if_ne (tgt := 51) hx hb dX8_line_32 (by decide) (fun c_21 => ?_) (fun c_21 => ?_)
            · have fc_21 : w.toInt ≠ 0 := zf_ne c_21 rfl (by decide)
              refine lv_aload_n hx hb dX8_line_51 rfl (lv_at hl 0 rfl) ?_
              refine lv_iload_n hx hb dX8_line_52 rfl (lv_at hl 1 rfl) ?_
              refine zc_V (As := [.int 0]) (rest := []) ⟨hx, hb, hml, hown, hts⟩ (c_F_M_firstOf_0 l D cI cJ cZ cP cS po m0 mrf mki mpa mta mla msl mco mhe mso msi msh mce mca mwo mnu mte mwa mke mma mth mtr (npu) (nte) (nat_) (nde) (nto) (nse) (nhu) (nga) (nsd) (nfa) (nba) (npl) (nen) (nnu) (nwr) (nra) (nik) gki gpa gta gco hy0 hy1 hy2 hy3 hy4 hy5 hy6 hy7 hy8 hy9 hy10 hy11 hy12 hy13 hy14 hy15 hp_gki hp_gpa hp_gta hp_gco) (cwV 1 hts gX8_line_X8_firstOf rfl rfl rfl ⟨rfl, dh_X8_firstOf⟩ ⟨Nat.le_of_ble_eq_true rfl, Nat.le_of_ble_eq_true rfl⟩) hK hN (hZ.kept hS) hP (hP.sub [0, 2, 3, 4, 5] rfl) (va_recv (q := (RX8, TX8, 38)) hK hP (ci := 8) (q0 := 0) rfl rfl) rfl hl.1 rfl (Nat.le_of_ble_eq_true rfl) dX8_line_53 ⟨Nat.le_of_ble_eq_true rfl, Nat.le_of_ble_eq_true rfl⟩ (fun r_22 hr_22 => ?_)
              obtain ⟨g_23, g_24, hsr_22_0⟩ := hr_22
              exact W.iret (v := r_22) hx hb hr (fun t ht hW => ⟨⟨r_22, grf, rfl, ⟨(show ((w.toInt < 0 ∨ 1 < w.toInt) ∧ (r_22 : Int32).toInt = -15) ∨ ((0 ≤ w.toInt ∧ w.toInt ≤ 1) ∧ ((((0 : Int32).toInt < 0 ∨ 4 < (0 : Int32).toInt) ∧ (r_22 : Int32).toInt = -16) ∨ ((0 ≤ (0 : Int32).toInt ∧ (0 : Int32).toInt ≤ 4) ∧ ((w.toInt = 1 ∧ (r_22 : Int32).toInt = zLr gki gpa gta npu.toInt.toNat nhu.toInt (gco 0).toInt (gco 1).toInt (gco 2).toInt (0 : Int32).toInt.toNat nde.toInt nse.toInt) ∨ (w.toInt = 0 ∧ (r_22 : Int32).toInt = zLn gki gpa gta npu.toInt.toNat nhu.toInt (gco 0).toInt (gco 1).toInt (gco 2).toInt (0 : Int32).toInt.toNat nde.toInt nse.toInt))))) from by (have k0 : (0 : Int32).toInt = 0 := (by decide); refine Or.inr ⟨by omega, Or.inr ⟨by omega, Or.inl ⟨by omega, (by rw [show (0 : Int32).toInt.toNat = 0 from by decide]; exact hsr_22_0)⟩⟩⟩)), trivial⟩, zRet ht hP hD [0, 1, 2, 3, 4, 5] (by decide) rfl⟩, hS.F ht⟩) hS.2.2 dX8_line_56
            · have fc_21 : w.toInt = 0 := zf_eq c_21 rfl (by decide)
              refine lv_aload_n hx hb dX8_line_35 rfl (lv_at hl 0 rfl) ?_
              refine lv_iload_n hx hb dX8_line_36 rfl (lv_at hl 1 rfl) ?_
              refine lv_aload_n hx hb dX8_line_37 rfl (lv_at hl 0 rfl) ?_
              refine va_get (D := D) (ci := 8) (v := .int nde) (C := RX8) (T := TX8) (N := 38) hx hb hts hi_X8_line_8 hown hK hP 0 rfl rfl 3 (by decide) (hts (.fieldLink RX8 115 "TheLiningsInItModel" "depth" "I") (List.mem_of_getElem? (i := 1) rfl)) (fun _ h9 => h9) rfl dX8_line_38 ?_
              refine lv_aload_n hx hb dX8_line_41 rfl (lv_at hl 0 rfl) ?_
              refine va_get (D := D) (ci := 8) (v := .int nse) (C := RX8) (T := TX8) (N := 38) hx hb hts hi_X8_line_8 hown hK hP 0 rfl rfl 5 (by decide) (hts (.fieldLink RX8 13 "TheLiningsInItModel" "seconds" "I") (List.mem_of_getElem? (i := 2) rfl)) (fun _ h9 => h9) rfl dX8_line_42 ?_
              refine zc_V (As := [.int 0, .int nde, .int nse]) (rest := []) ⟨hx, hb, hml, hown, hts⟩ (c_F_M_leastCost_0 l D cI cJ cZ cP cS po m0 mrf mki mpa mta mla msl mco mhe mso msi msh mce mca mwo mnu mte mwa mke mma mth mtr (npu) (nte) (nat_) (nde) (nto) (nse) (nhu) (nga) (nsd) (nfa) (nba) (npl) (nen) (nnu) (nwr) (nra) (nik) gki gpa gta gco (nde) (nse) hy0 hy1 hy2 hy3 hy4 hy5 hy6 hy7 hy8 hy9 hy10 hy11 hy12 hy13 hy6 hy7 hy14 hy15 hp_gki hp_gpa hp_gta hp_gco) (cwV 3 hts gX8_line_X8_leastCost rfl rfl rfl ⟨rfl, dh_X8_leastCost⟩ ⟨Nat.le_of_ble_eq_true rfl, Nat.le_of_ble_eq_true rfl⟩) hK hN (hZ.kept hS) hP (hP.sub [0, 2, 3, 4, 5] rfl) (va_recv (q := (RX8, TX8, 38)) hK hP (ci := 8) (q0 := 0) rfl rfl) rfl hl.1 rfl (Nat.le_of_ble_eq_true rfl) dX8_line_45 ⟨Nat.le_of_ble_eq_true rfl, Nat.le_of_ble_eq_true rfl⟩ (fun r_25 hr_25 => ?_)
              obtain ⟨g_26, g_27, hsr_25_0⟩ := hr_25
              refine lv_goto (tgt := 56) hx hb dX8_line_48 (by decide) ?_
              exact W.iret (v := r_25) hx hb hr (fun t ht hW => ⟨⟨r_25, grf, rfl, ⟨(show ((w.toInt < 0 ∨ 1 < w.toInt) ∧ (r_25 : Int32).toInt = -15) ∨ ((0 ≤ w.toInt ∧ w.toInt ≤ 1) ∧ ((((0 : Int32).toInt < 0 ∨ 4 < (0 : Int32).toInt) ∧ (r_25 : Int32).toInt = -16) ∨ ((0 ≤ (0 : Int32).toInt ∧ (0 : Int32).toInt ≤ 4) ∧ ((w.toInt = 1 ∧ (r_25 : Int32).toInt = zLr gki gpa gta npu.toInt.toNat nhu.toInt (gco 0).toInt (gco 1).toInt (gco 2).toInt (0 : Int32).toInt.toNat nde.toInt nse.toInt) ∨ (w.toInt = 0 ∧ (r_25 : Int32).toInt = zLn gki gpa gta npu.toInt.toNat nhu.toInt (gco 0).toInt (gco 1).toInt (gco 2).toInt (0 : Int32).toInt.toNat nde.toInt nse.toInt))))) from by (have k0 : (0 : Int32).toInt = 0 := (by decide); refine Or.inr ⟨by omega, Or.inr ⟨by omega, Or.inr ⟨by omega, (by rw [show (0 : Int32).toInt.toNat = 0 from by decide]; exact hsr_25_0)⟩⟩⟩)), trivial⟩, zRet ht hP hD [0, 1, 2, 3, 4, 5] (by decide) rfl⟩, hS.F ht⟩) hS.2.2 dX8_line_56
          · have kc1 : (1 : Int32).toInt = 1 := by decide
            refine lv_iload_n hx hb dX8_line_31 rfl (lv_at hl 2 rfl) ?_
            refine lv_if_ne (tgt := 51) hx hb dX8_line_32 (by decide) (fun c_28 => ?_) (fun c_28 => ?_)
            · have fc_28 : w.toInt ≠ 0 := zf_ne c_28 rfl (by decide)
              refine lv_aload_n hx hb dX8_line_51 rfl (lv_at hl 0 rfl) ?_
              refine lv_iload_n hx hb dX8_line_52 rfl (lv_at hl 1 rfl) ?_
              refine zc_V (As := [.int 1]) (rest := []) ⟨hx, hb, hml, hown, hts⟩ (c_F_M_firstOf_1 l D cI cJ cZ cP cS po m0 mrf mki mpa mta mla msl mco mhe mso msi msh mce mca mwo mnu mte mwa mke mma mth mtr (npu) (nte) (nat_) (nde) (nto) (nse) (nhu) (nga) (nsd) (nfa) (nba) (npl) (nen) (nnu) (nwr) (nra) (nik) gki gpa gta gco hy0 hy1 hy2 hy3 hy4 hy5 hy6 hy7 hy8 hy9 hy10 hy11 hy12 hy13 hy14 hy15 hp_gki hp_gpa hp_gta hp_gco) (cwV 1 hts gX8_line_X8_firstOf rfl rfl rfl ⟨rfl, dh_X8_firstOf⟩ ⟨Nat.le_of_ble_eq_true rfl, Nat.le_of_ble_eq_true rfl⟩) hK hN (hZ.kept hS) hP (hP.sub [0, 2, 3, 4, 5] rfl) (va_recv (q := (RX8, TX8, 38)) hK hP (ci := 8) (q0 := 0) rfl rfl) rfl hl.1 rfl (Nat.le_of_ble_eq_true rfl) dX8_line_53 ⟨Nat.le_of_ble_eq_true rfl, Nat.le_of_ble_eq_true rfl⟩ (fun r_29 hr_29 => ?_)
              obtain ⟨g_30, g_31, hsr_29_0⟩ := hr_29
              exact W.iret (v := r_29) hx hb hr (fun t ht hW => ⟨⟨r_29, grf, rfl, ⟨(show ((w.toInt < 0 ∨ 1 < w.toInt) ∧ (r_29 : Int32).toInt = -15) ∨ ((0 ≤ w.toInt ∧ w.toInt ≤ 1) ∧ ((((1 : Int32).toInt < 0 ∨ 4 < (1 : Int32).toInt) ∧ (r_29 : Int32).toInt = -16) ∨ ((0 ≤ (1 : Int32).toInt ∧ (1 : Int32).toInt ≤ 4) ∧ ((w.toInt = 1 ∧ (r_29 : Int32).toInt = zLr gki gpa gta npu.toInt.toNat nhu.toInt (gco 0).toInt (gco 1).toInt (gco 2).toInt (1 : Int32).toInt.toNat nde.toInt nse.toInt) ∨ (w.toInt = 0 ∧ (r_29 : Int32).toInt = zLn gki gpa gta npu.toInt.toNat nhu.toInt (gco 0).toInt (gco 1).toInt (gco 2).toInt (1 : Int32).toInt.toNat nde.toInt nse.toInt))))) from by (have k1 : (1 : Int32).toInt = 1 := (by decide); refine Or.inr ⟨by omega, Or.inr ⟨by omega, Or.inl ⟨by omega, (by rw [show (1 : Int32).toInt.toNat = 1 from by decide]; exact hsr_29_0)⟩⟩⟩)), trivial⟩, zRet ht hP hD [0, 1, 2, 3, 4, 5] (by decide) rfl⟩, hS.F ht⟩) hS.2.2 dX8_line_56
            · have fc_28 : w.toInt = 0 := zf_eq c_28 rfl (by decide)
              refine lv_aload_n hx hb dX8_line_35 rfl (lv_at hl 0 rfl) ?_
              refine lv_iload_n hx hb dX8_line_36 rfl (lv_at hl 1 rfl) ?_
              refine lv_aload_n hx hb dX8_line_37 rfl (lv_at hl 0 rfl) ?_
              refine va_get (D := D) (ci := 8) (v := .int nde) (C := RX8) (T := TX8) (N := 38) hx hb hts hi_X8_line_8 hown hK hP 0 rfl rfl 3 (by decide) (hts (.fieldLink RX8 115 "TheLiningsInItModel" "depth" "I") (List.mem_of_getElem? (i := 1) rfl)) (fun _ h9 => h9) rfl dX8_line_38 ?_
              refine lv_aload_n hx hb dX8_line_41 rfl (lv_at hl 0 rfl) ?_
              refine va_get (D := D) (ci := 8) (v := .int nse) (C := RX8) (T := TX8) (N := 38) hx hb hts hi_X8_line_8 hown hK hP 0 rfl rfl 5 (by decide) (hts (.fieldLink RX8 13 "TheLiningsInItModel" "seconds" "I") (List.mem_of_getElem? (i := 2) rfl)) (fun _ h9 => h9) rfl dX8_line_42 ?_
              refine zc_V (As := [.int 1, .int nde, .int nse]) (rest := []) ⟨hx, hb, hml, hown, hts⟩ (c_F_M_leastCost_1 l D cI cJ cZ cP cS po m0 mrf mki mpa mta mla msl mco mhe mso msi msh mce mca mwo mnu mte mwa mke mma mth mtr (npu) (nte) (nat_) (nde) (nto) (nse) (nhu) (nga) (nsd) (nfa) (nba) (npl) (nen) (nnu) (nwr) (nra) (nik) gki gpa gta gco (nde) (nse) hy0 hy1 hy2 hy3 hy4 hy5 hy6 hy7 hy8 hy9 hy10 hy11 hy12 hy13 hy6 hy7 hy14 hy15 hp_gki hp_gpa hp_gta hp_gco) (cwV 3 hts gX8_line_X8_leastCost rfl rfl rfl ⟨rfl, dh_X8_leastCost⟩ ⟨Nat.le_of_ble_eq_true rfl, Nat.le_of_ble_eq_true rfl⟩) hK hN (hZ.kept hS) hP (hP.sub [0, 2, 3, 4, 5] rfl) (va_recv (q := (RX8, TX8, 38)) hK hP (ci := 8) (q0 := 0) rfl rfl) rfl hl.1 rfl (Nat.le_of_ble_eq_true rfl) dX8_line_45 ⟨Nat.le_of_ble_eq_true rfl, Nat.le_of_ble_eq_true rfl⟩ (fun r_32 hr_32 => ?_)
              obtain ⟨g_33, g_34, hsr_32_0⟩ := hr_32
              refine lv_goto (tgt := 56) hx hb dX8_line_48 (by decide) ?_
              exact W.iret (v := r_32) hx hb hr (fun t ht hW => ⟨⟨r_32, grf, rfl, ⟨(show ((w.toInt < 0 ∨ 1 < w.toInt) ∧ (r_32 : Int32).toInt = -15) ∨ ((0 ≤ w.toInt ∧ w.toInt ≤ 1) ∧ ((((1 : Int32).toInt < 0 ∨ 4 < (1 : Int32).toInt) ∧ (r_32 : Int32).toInt = -16) ∨ ((0 ≤ (1 : Int32).toInt ∧ (1 : Int32).toInt ≤ 4) ∧ ((w.toInt = 1 ∧ (r_32 : Int32).toInt = zLr gki gpa gta npu.toInt.toNat nhu.toInt (gco 0).toInt (gco 1).toInt (gco 2).toInt (1 : Int32).toInt.toNat nde.toInt nse.toInt) ∨ (w.toInt = 0 ∧ (r_32 : Int32).toInt = zLn gki gpa gta npu.toInt.toNat nhu.toInt (gco 0).toInt (gco 1).toInt (gco 2).toInt (1 : Int32).toInt.toNat nde.toInt nse.toInt))))) from by (have k1 : (1 : Int32).toInt = 1 := (by decide); refine Or.inr ⟨by omega, Or.inr ⟨by omega, Or.inr ⟨by omega, (by rw [show (1 : Int32).toInt.toNat = 1 from by decide]; exact hsr_32_0)⟩⟩⟩)), trivial⟩, zRet ht hP hD [0, 1, 2, 3, 4, 5] (by decide) rfl⟩, hS.F ht⟩) hS.2.2 dX8_line_56
          · have kc2 : (2 : Int32).toInt = 2 := by decide
            refine lv_iload_n hx hb dX8_line_31 rfl (lv_at hl 2 rfl) ?_
            refine lv_if_ne (tgt := 51) hx hb dX8_line_32 (by decide) (fun c_35 => ?_) (fun c_35 => ?_)
            · have fc_35 : w.toInt ≠ 0 := zf_ne c_35 rfl (by decide)
              refine lv_aload_n hx hb dX8_line_51 rfl (lv_at hl 0 rfl) ?_
              refine lv_iload_n hx hb dX8_line_52 rfl (lv_at hl 1 rfl) ?_
              refine zc_V (As := [.int 2]) (rest := []) ⟨hx, hb, hml, hown, hts⟩ (c_F_M_firstOf_2 l D cI cJ cZ cP cS po m0 mrf mki mpa mta mla msl mco mhe mso msi msh mce mca mwo mnu mte mwa mke mma mth mtr (npu) (nte) (nat_) (nde) (nto) (nse) (nhu) (nga) (nsd) (nfa) (nba) (npl) (nen) (nnu) (nwr) (nra) (nik) gki gpa gta gco hy0 hy1 hy2 hy3 hy4 hy5 hy6 hy7 hy8 hy9 hy10 hy11 hy12 hy13 hy14 hy15 hp_gki hp_gpa hp_gta hp_gco) (cwV 1 hts gX8_line_X8_firstOf rfl rfl rfl ⟨rfl, dh_X8_firstOf⟩ ⟨Nat.le_of_ble_eq_true rfl, Nat.le_of_ble_eq_true rfl⟩) hK hN (hZ.kept hS) hP (hP.sub [0, 2, 3, 4, 5] rfl) (va_recv (q := (RX8, TX8, 38)) hK hP (ci := 8) (q0 := 0) rfl rfl) rfl hl.1 rfl (Nat.le_of_ble_eq_true rfl) dX8_line_53 ⟨Nat.le_of_ble_eq_true rfl, Nat.le_of_ble_eq_true rfl⟩ (fun r_36 hr_36 => ?_)
              obtain ⟨g_37, g_38, hsr_36_0⟩ := hr_36
              exact W.iret (v := r_36) hx hb hr (fun t ht hW => ⟨⟨r_36, grf, rfl, ⟨(show ((w.toInt < 0 ∨ 1 < w.toInt) ∧ (r_36 : Int32).toInt = -15) ∨ ((0 ≤ w.toInt ∧ w.toInt ≤ 1) ∧ ((((2 : Int32).toInt < 0 ∨ 4 < (2 : Int32).toInt) ∧ (r_36 : Int32).toInt = -16) ∨ ((0 ≤ (2 : Int32).toInt ∧ (2 : Int32).toInt ≤ 4) ∧ ((w.toInt = 1 ∧ (r_36 : Int32).toInt = zLr gki gpa gta npu.toInt.toNat nhu.toInt (gco 0).toInt (gco 1).toInt (gco 2).toInt (2 : Int32).toInt.toNat nde.toInt nse.toInt) ∨ (w.toInt = 0 ∧ (r_36 : Int32).toInt = zLn gki gpa gta npu.toInt.toNat nhu.toInt (gco 0).toInt (gco 1).toInt (gco 2).toInt (2 : Int32).toInt.toNat nde.toInt nse.toInt))))) from by (have k2 : (2 : Int32).toInt = 2 := (by decide); refine Or.inr ⟨by omega, Or.inr ⟨by omega, Or.inl ⟨by omega, (by rw [show (2 : Int32).toInt.toNat = 2 from by decide]; exact hsr_36_0)⟩⟩⟩)), trivial⟩, zRet ht hP hD [0, 1, 2, 3, 4, 5] (by decide) rfl⟩, hS.F ht⟩) hS.2.2 dX8_line_56
            · have fc_35 : w.toInt = 0 := zf_eq c_35 rfl (by decide)
              refine lv_aload_n hx hb dX8_line_35 rfl (lv_at hl 0 rfl) ?_
              refine lv_iload_n hx hb dX8_line_36 rfl (lv_at hl 1 rfl) ?_
              refine lv_aload_n hx hb dX8_line_37 rfl (lv_at hl 0 rfl) ?_
              refine va_get (D := D) (ci := 8) (v := .int nde) (C := RX8) (T := TX8) (N := 38) hx hb hts hi_X8_line_8 hown hK hP 0 rfl rfl 3 (by decide) (hts (.fieldLink RX8 115 "TheLiningsInItModel" "depth" "I") (List.mem_of_getElem? (i := 1) rfl)) (fun _ h9 => h9) rfl dX8_line_38 ?_
              refine lv_aload_n hx hb dX8_line_41 rfl (lv_at hl 0 rfl) ?_
              refine va_get (D := D) (ci := 8) (v := .int nse) (C := RX8) (T := TX8) (N := 38) hx hb hts hi_X8_line_8 hown hK hP 0 rfl rfl 5 (by decide) (hts (.fieldLink RX8 13 "TheLiningsInItModel" "seconds" "I") (List.mem_of_getElem? (i := 2) rfl)) (fun _ h9 => h9) rfl dX8_line_42 ?_
              refine zc_V (As := [.int 2, .int nde, .int nse]) (rest := []) ⟨hx, hb, hml, hown, hts⟩ (c_F_M_leastCost_2 l D cI cJ cZ cP cS po m0 mrf mki mpa mta mla msl mco mhe mso msi msh mce mca mwo mnu mte mwa mke mma mth mtr (npu) (nte) (nat_) (nde) (nto) (nse) (nhu) (nga) (nsd) (nfa) (nba) (npl) (nen) (nnu) (nwr) (nra) (nik) gki gpa gta gco (nde) (nse) hy0 hy1 hy2 hy3 hy4 hy5 hy6 hy7 hy8 hy9 hy10 hy11 hy12 hy13 hy6 hy7 hy14 hy15 hp_gki hp_gpa hp_gta hp_gco) (cwV 3 hts gX8_line_X8_leastCost rfl rfl rfl ⟨rfl, dh_X8_leastCost⟩ ⟨Nat.le_of_ble_eq_true rfl, Nat.le_of_ble_eq_true rfl⟩) hK hN (hZ.kept hS) hP (hP.sub [0, 2, 3, 4, 5] rfl) (va_recv (q := (RX8, TX8, 38)) hK hP (ci := 8) (q0 := 0) rfl rfl) rfl hl.1 rfl (Nat.le_of_ble_eq_true rfl) dX8_line_45 ⟨Nat.le_of_ble_eq_true rfl, Nat.le_of_ble_eq_true rfl⟩ (fun r_39 hr_39 => ?_)
              obtain ⟨g_40, g_41, hsr_39_0⟩ := hr_39
              refine lv_goto (tgt := 56) hx hb dX8_line_48 (by decide) ?_
              exact W.iret (v := r_39) hx hb hr (fun t ht hW => ⟨⟨r_39, grf, rfl, ⟨(show ((w.toInt < 0 ∨ 1 < w.toInt) ∧ (r_39 : Int32).toInt = -15) ∨ ((0 ≤ w.toInt ∧ w.toInt ≤ 1) ∧ ((((2 : Int32).toInt < 0 ∨ 4 < (2 : Int32).toInt) ∧ (r_39 : Int32).toInt = -16) ∨ ((0 ≤ (2 : Int32).toInt ∧ (2 : Int32).toInt ≤ 4) ∧ ((w.toInt = 1 ∧ (r_39 : Int32).toInt = zLr gki gpa gta npu.toInt.toNat nhu.toInt (gco 0).toInt (gco 1).toInt (gco 2).toInt (2 : Int32).toInt.toNat nde.toInt nse.toInt) ∨ (w.toInt = 0 ∧ (r_39 : Int32).toInt = zLn gki gpa gta npu.toInt.toNat nhu.toInt (gco 0).toInt (gco 1).toInt (gco 2).toInt (2 : Int32).toInt.toNat nde.toInt nse.toInt))))) from by (have k2 : (2 : Int32).toInt = 2 := (by decide); refine Or.inr ⟨by omega, Or.inr ⟨by omega, Or.inr ⟨by omega, (by rw [show (2 : Int32).toInt.toNat = 2 from by decide]; exact hsr_39_0)⟩⟩⟩)), trivial⟩, zRet ht hP hD [0, 1, 2, 3, 4, 5] (by decide) rfl⟩, hS.F ht⟩) hS.2.2 dX8_line_56
          · have kc3 : (3 : Int32).toInt = 3 := by decide
            refine lv_iload_n hx hb dX8_line_31 rfl (lv_at hl 2 rfl) ?_
            refine lv_if_ne (tgt := 51) hx hb dX8_line_32 (by decide) (fun c_42 => ?_) (fun c_42 => ?_)
            · have fc_42 : w.toInt ≠ 0 := zf_ne c_42 rfl (by decide)
              refine lv_aload_n hx hb dX8_line_51 rfl (lv_at hl 0 rfl) ?_
              refine lv_iload_n hx hb dX8_line_52 rfl (lv_at hl 1 rfl) ?_
              refine zc_V (As := [.int 3]) (rest := []) ⟨hx, hb, hml, hown, hts⟩ (c_F_M_firstOf_3 l D cI cJ cZ cP cS po m0 mrf mki mpa mta mla msl mco mhe mso msi msh mce mca mwo mnu mte mwa mke mma mth mtr (npu) (nte) (nat_) (nde) (nto) (nse) (nhu) (nga) (nsd) (nfa) (nba) (npl) (nen) (nnu) (nwr) (nra) (nik) gki gpa gta gco hy0 hy1 hy2 hy3 hy4 hy5 hy6 hy7 hy8 hy9 hy10 hy11 hy12 hy13 hy14 hy15 hp_gki hp_gpa hp_gta hp_gco) (cwV 1 hts gX8_line_X8_firstOf rfl rfl rfl ⟨rfl, dh_X8_firstOf⟩ ⟨Nat.le_of_ble_eq_true rfl, Nat.le_of_ble_eq_true rfl⟩) hK hN (hZ.kept hS) hP (hP.sub [0, 2, 3, 4, 5] rfl) (va_recv (q := (RX8, TX8, 38)) hK hP (ci := 8) (q0 := 0) rfl rfl) rfl hl.1 rfl (Nat.le_of_ble_eq_true rfl) dX8_line_53 ⟨Nat.le_of_ble_eq_true rfl, Nat.le_of_ble_eq_true rfl⟩ (fun r_43 hr_43 => ?_)
              obtain ⟨g_44, g_45, hsr_43_0⟩ := hr_43
              exact W.iret (v := r_43) hx hb hr (fun t ht hW => ⟨⟨r_43, grf, rfl, ⟨(show ((w.toInt < 0 ∨ 1 < w.toInt) ∧ (r_43 : Int32).toInt = -15) ∨ ((0 ≤ w.toInt ∧ w.toInt ≤ 1) ∧ ((((3 : Int32).toInt < 0 ∨ 4 < (3 : Int32).toInt) ∧ (r_43 : Int32).toInt = -16) ∨ ((0 ≤ (3 : Int32).toInt ∧ (3 : Int32).toInt ≤ 4) ∧ ((w.toInt = 1 ∧ (r_43 : Int32).toInt = zLr gki gpa gta npu.toInt.toNat nhu.toInt (gco 0).toInt (gco 1).toInt (gco 2).toInt (3 : Int32).toInt.toNat nde.toInt nse.toInt) ∨ (w.toInt = 0 ∧ (r_43 : Int32).toInt = zLn gki gpa gta npu.toInt.toNat nhu.toInt (gco 0).toInt (gco 1).toInt (gco 2).toInt (3 : Int32).toInt.toNat nde.toInt nse.toInt))))) from by (have k3 : (3 : Int32).toInt = 3 := (by decide); refine Or.inr ⟨by omega, Or.inr ⟨by omega, Or.inl ⟨by omega, (by rw [show (3 : Int32).toInt.toNat = 3 from by decide]; exact hsr_43_0)⟩⟩⟩)), trivial⟩, zRet ht hP hD [0, 1, 2, 3, 4, 5] (by decide) rfl⟩, hS.F ht⟩) hS.2.2 dX8_line_56
            · have fc_42 : w.toInt = 0 := zf_eq c_42 rfl (by decide)
              refine lv_aload_n hx hb dX8_line_35 rfl (lv_at hl 0 rfl) ?_
              refine lv_iload_n hx hb dX8_line_36 rfl (lv_at hl 1 rfl) ?_
              refine lv_aload_n hx hb dX8_line_37 rfl (lv_at hl 0 rfl) ?_
              refine va_get (D := D) (ci := 8) (v := .int nde) (C := RX8) (T := TX8) (N := 38) hx hb hts hi_X8_line_8 hown hK hP 0 rfl rfl 3 (by decide) (hts (.fieldLink RX8 115 "TheLiningsInItModel" "depth" "I") (List.mem_of_getElem? (i := 1) rfl)) (fun _ h9 => h9) rfl dX8_line_38 ?_
              refine lv_aload_n hx hb dX8_line_41 rfl (lv_at hl 0 rfl) ?_
              refine va_get (D := D) (ci := 8) (v := .int nse) (C := RX8) (T := TX8) (N := 38) hx hb hts hi_X8_line_8 hown hK hP 0 rfl rfl 5 (by decide) (hts (.fieldLink RX8 13 "TheLiningsInItModel" "seconds" "I") (List.mem_of_getElem? (i := 2) rfl)) (fun _ h9 => h9) rfl dX8_line_42 ?_
              refine zc_V (As := [.int 3, .int nde, .int nse]) (rest := []) ⟨hx, hb, hml, hown, hts⟩ (c_F_M_leastCost_3 l D cI cJ cZ cP cS po m0 mrf mki mpa mta mla msl mco mhe mso msi msh mce mca mwo mnu mte mwa mke mma mth mtr (npu) (nte) (nat_) (nde) (nto) (nse) (nhu) (nga) (nsd) (nfa) (nba) (npl) (nen) (nnu) (nwr) (nra) (nik) gki gpa gta gco (nde) (nse) hy0 hy1 hy2 hy3 hy4 hy5 hy6 hy7 hy8 hy9 hy10 hy11 hy12 hy13 hy6 hy7 hy14 hy15 hp_gki hp_gpa hp_gta hp_gco) (cwV 3 hts gX8_line_X8_leastCost rfl rfl rfl ⟨rfl, dh_X8_leastCost⟩ ⟨Nat.le_of_ble_eq_true rfl, Nat.le_of_ble_eq_true rfl⟩) hK hN (hZ.kept hS) hP (hP.sub [0, 2, 3, 4, 5] rfl) (va_recv (q := (RX8, TX8, 38)) hK hP (ci := 8) (q0 := 0) rfl rfl) rfl hl.1 rfl (Nat.le_of_ble_eq_true rfl) dX8_line_45 ⟨Nat.le_of_ble_eq_true rfl, Nat.le_of_ble_eq_true rfl⟩ (fun r_46 hr_46 => ?_)
              obtain ⟨g_47, g_48, hsr_46_0⟩ := hr_46
              refine lv_goto (tgt := 56) hx hb dX8_line_48 (by decide) ?_
              exact W.iret (v := r_46) hx hb hr (fun t ht hW => ⟨⟨r_46, grf, rfl, ⟨(show ((w.toInt < 0 ∨ 1 < w.toInt) ∧ (r_46 : Int32).toInt = -15) ∨ ((0 ≤ w.toInt ∧ w.toInt ≤ 1) ∧ ((((3 : Int32).toInt < 0 ∨ 4 < (3 : Int32).toInt) ∧ (r_46 : Int32).toInt = -16) ∨ ((0 ≤ (3 : Int32).toInt ∧ (3 : Int32).toInt ≤ 4) ∧ ((w.toInt = 1 ∧ (r_46 : Int32).toInt = zLr gki gpa gta npu.toInt.toNat nhu.toInt (gco 0).toInt (gco 1).toInt (gco 2).toInt (3 : Int32).toInt.toNat nde.toInt nse.toInt) ∨ (w.toInt = 0 ∧ (r_46 : Int32).toInt = zLn gki gpa gta npu.toInt.toNat nhu.toInt (gco 0).toInt (gco 1).toInt (gco 2).toInt (3 : Int32).toInt.toNat nde.toInt nse.toInt))))) from by (have k3 : (3 : Int32).toInt = 3 := (by decide); refine Or.inr ⟨by omega, Or.inr ⟨by omega, Or.inr ⟨by omega, (by rw [show (3 : Int32).toInt.toNat = 3 from by decide]; exact hsr_46_0)⟩⟩⟩)), trivial⟩, zRet ht hP hD [0, 1, 2, 3, 4, 5] (by decide) rfl⟩, hS.F ht⟩) hS.2.2 dX8_line_56
          · have kc4 : (4 : Int32).toInt = 4 := by decide
            refine lv_iload_n hx hb dX8_line_31 rfl (lv_at hl 2 rfl) ?_
            refine lv_if_ne (tgt := 51) hx hb dX8_line_32 (by decide) (fun c_49 => ?_) (fun c_49 => ?_)
            · have fc_49 : w.toInt ≠ 0 := zf_ne c_49 rfl (by decide)
              refine lv_aload_n hx hb dX8_line_51 rfl (lv_at hl 0 rfl) ?_
              refine lv_iload_n hx hb dX8_line_52 rfl (lv_at hl 1 rfl) ?_
              refine zc_V (As := [.int 4]) (rest := []) ⟨hx, hb, hml, hown, hts⟩ (c_F_M_firstOf_4 l D cI cJ cZ cP cS po m0 mrf mki mpa mta mla msl mco mhe mso msi msh mce mca mwo mnu mte mwa mke mma mth mtr (npu) (nte) (nat_) (nde) (nto) (nse) (nhu) (nga) (nsd) (nfa) (nba) (npl) (nen) (nnu) (nwr) (nra) (nik) gki gpa gta gco hy0 hy1 hy2 hy3 hy4 hy5 hy6 hy7 hy8 hy9 hy10 hy11 hy12 hy13 hy14 hy15 hp_gki hp_gpa hp_gta hp_gco) (cwV 1 hts gX8_line_X8_firstOf rfl rfl rfl ⟨rfl, dh_X8_firstOf⟩ ⟨Nat.le_of_ble_eq_true rfl, Nat.le_of_ble_eq_true rfl⟩) hK hN (hZ.kept hS) hP (hP.sub [0, 2, 3, 4, 5] rfl) (va_recv (q := (RX8, TX8, 38)) hK hP (ci := 8) (q0 := 0) rfl rfl) rfl hl.1 rfl (Nat.le_of_ble_eq_true rfl) dX8_line_53 ⟨Nat.le_of_ble_eq_true rfl, Nat.le_of_ble_eq_true rfl⟩ (fun r_50 hr_50 => ?_)
              obtain ⟨g_51, g_52, hsr_50_0⟩ := hr_50
              exact W.iret (v := r_50) hx hb hr (fun t ht hW => ⟨⟨r_50, grf, rfl, ⟨(show ((w.toInt < 0 ∨ 1 < w.toInt) ∧ (r_50 : Int32).toInt = -15) ∨ ((0 ≤ w.toInt ∧ w.toInt ≤ 1) ∧ ((((4 : Int32).toInt < 0 ∨ 4 < (4 : Int32).toInt) ∧ (r_50 : Int32).toInt = -16) ∨ ((0 ≤ (4 : Int32).toInt ∧ (4 : Int32).toInt ≤ 4) ∧ ((w.toInt = 1 ∧ (r_50 : Int32).toInt = zLr gki gpa gta npu.toInt.toNat nhu.toInt (gco 0).toInt (gco 1).toInt (gco 2).toInt (4 : Int32).toInt.toNat nde.toInt nse.toInt) ∨ (w.toInt = 0 ∧ (r_50 : Int32).toInt = zLn gki gpa gta npu.toInt.toNat nhu.toInt (gco 0).toInt (gco 1).toInt (gco 2).toInt (4 : Int32).toInt.toNat nde.toInt nse.toInt))))) from by (have k4 : (4 : Int32).toInt = 4 := (by decide); refine Or.inr ⟨by omega, Or.inr ⟨by omega, Or.inl ⟨by omega, (by rw [show (4 : Int32).toInt.toNat = 4 from by decide]; exact hsr_50_0)⟩⟩⟩)), trivial⟩, zRet ht hP hD [0, 1, 2, 3, 4, 5] (by decide) rfl⟩, hS.F ht⟩) hS.2.2 dX8_line_56
            · have fc_49 : w.toInt = 0 := zf_eq c_49 rfl (by decide)
              refine lv_aload_n hx hb dX8_line_35 rfl (lv_at hl 0 rfl) ?_
              refine lv_iload_n hx hb dX8_line_36 rfl (lv_at hl 1 rfl) ?_
              refine lv_aload_n hx hb dX8_line_37 rfl (lv_at hl 0 rfl) ?_
              refine va_get (D := D) (ci := 8) (v := .int nde) (C := RX8) (T := TX8) (N := 38) hx hb hts hi_X8_line_8 hown hK hP 0 rfl rfl 3 (by decide) (hts (.fieldLink RX8 115 "TheLiningsInItModel" "depth" "I") (List.mem_of_getElem? (i := 1) rfl)) (fun _ h9 => h9) rfl dX8_line_38 ?_
              refine lv_aload_n hx hb dX8_line_41 rfl (lv_at hl 0 rfl) ?_
              refine va_get (D := D) (ci := 8) (v := .int nse) (C := RX8) (T := TX8) (N := 38) hx hb hts hi_X8_line_8 hown hK hP 0 rfl rfl 5 (by decide) (hts (.fieldLink RX8 13 "TheLiningsInItModel" "seconds" "I") (List.mem_of_getElem? (i := 2) rfl)) (fun _ h9 => h9) rfl dX8_line_42 ?_
              refine zc_V (As := [.int 4, .int nde, .int nse]) (rest := []) ⟨hx, hb, hml, hown, hts⟩ (c_F_M_leastCost_4 l D cI cJ cZ cP cS po m0 mrf mki mpa mta mla msl mco mhe mso msi msh mce mca mwo mnu mte mwa mke mma mth mtr (npu) (nte) (nat_) (nde) (nto) (nse) (nhu) (nga) (nsd) (nfa) (nba) (npl) (nen) (nnu) (nwr) (nra) (nik) gki gpa gta gco (nde) (nse) hy0 hy1 hy2 hy3 hy4 hy5 hy6 hy7 hy8 hy9 hy10 hy11 hy12 hy13 hy6 hy7 hy14 hy15 hp_gki hp_gpa hp_gta hp_gco) (cwV 3 hts gX8_line_X8_leastCost rfl rfl rfl ⟨rfl, dh_X8_leastCost⟩ ⟨Nat.le_of_ble_eq_true rfl, Nat.le_of_ble_eq_true rfl⟩) hK hN (hZ.kept hS) hP (hP.sub [0, 2, 3, 4, 5] rfl) (va_recv (q := (RX8, TX8, 38)) hK hP (ci := 8) (q0 := 0) rfl rfl) rfl hl.1 rfl (Nat.le_of_ble_eq_true rfl) dX8_line_45 ⟨Nat.le_of_ble_eq_true rfl, Nat.le_of_ble_eq_true rfl⟩ (fun r_53 hr_53 => ?_)
              obtain ⟨g_54, g_55, hsr_53_0⟩ := hr_53
              refine lv_goto (tgt := 56) hx hb dX8_line_48 (by decide) ?_
              exact W.iret (v := r_53) hx hb hr (fun t ht hW => ⟨⟨r_53, grf, rfl, ⟨(show ((w.toInt < 0 ∨ 1 < w.toInt) ∧ (r_53 : Int32).toInt = -15) ∨ ((0 ≤ w.toInt ∧ w.toInt ≤ 1) ∧ ((((4 : Int32).toInt < 0 ∨ 4 < (4 : Int32).toInt) ∧ (r_53 : Int32).toInt = -16) ∨ ((0 ≤ (4 : Int32).toInt ∧ (4 : Int32).toInt ≤ 4) ∧ ((w.toInt = 1 ∧ (r_53 : Int32).toInt = zLr gki gpa gta npu.toInt.toNat nhu.toInt (gco 0).toInt (gco 1).toInt (gco 2).toInt (4 : Int32).toInt.toNat nde.toInt nse.toInt) ∨ (w.toInt = 0 ∧ (r_53 : Int32).toInt = zLn gki gpa gta npu.toInt.toNat nhu.toInt (gco 0).toInt (gco 1).toInt (gco 2).toInt (4 : Int32).toInt.toNat nde.toInt nse.toInt))))) from by (have k4 : (4 : Int32).toInt = 4 := (by decide); refine Or.inr ⟨by omega, Or.inr ⟨by omega, Or.inr ⟨by omega, (by rw [show (4 : Int32).toInt.toNat = 4 from by decide]; exact hsr_53_0)⟩⟩⟩)), trivial⟩, zRet ht hP hD [0, 1, 2, 3, 4, 5] (by decide) rfl⟩, hS.F ht⟩) hS.2.2 dX8_line_56
        · exact absurd c_20 (by decide)
    · have fc_5 : 1 < w.toInt := zf_nle c_5 rfl (by decide)
      refine lv_aload_n hx hb dX8_line_9 rfl (lv_at hl 0 rfl) ?_
      refine lv_bipush (v := (-5)) hx hb dX8_line_10 (by decide) ?_
      skip
      refine zw_V (As := [.int (-5)]) (rest := []) (wr := [(mki, .inl (cI, 8, .inl gki)), (mpa, .inl (cI, 8, .inl gpa)), (mta, .inl (cI, 8, .inl gta)), (mco, .inl (cI, 3, .inl gco))]) ⟨hx, hb, hml, hown, hts⟩ (c_M_noTen_5 l D cI cJ cZ cP cS po m0 mrf mki mpa mta mla msl mco mhe mso msi msh mce mca mwo mnu mte mwa mke mma mth mtr (npu) (nte) (nat_) (nde) (nto) (nse) (nhu) (nga) (nsd) (nfa) (nba) (npl) (nen) (nnu) (nwr) (nra) (nik) grf hy0 hy1 hy2 hy3 hy4 hy5 hy6 hy7 hy8 hy9 hy10 hy11 hy12 hy13 H.size) (cwV 1 hts gX8_line_X8_noTen rfl rfl rfl ⟨rfl, dh_X8_noTen⟩ ⟨Nat.le_of_ble_eq_true rfl, Nat.le_of_ble_eq_true rfl⟩) hK hN (hZ.kept hS) hP hD hS hA [0, 1] [2, 3, 4, 5] rfl rfl (by decide) (by decide) (by decide) (va_recv (q := (RX8, TX8, 38)) hK hP (ci := 8) (q0 := 0) rfl rfl) rfl hl.1 rfl (Nat.le_of_ble_eq_true rfl) dX8_line_12 ⟨Nat.le_of_ble_eq_true rfl, Nat.le_of_ble_eq_true rfl⟩ (fun r_56 u_57 H locs hr_56 hP hD hS => ?_)
      obtain ⟨q_58, rfl⟩ : ∃ z, z = u_57 := ⟨_, rfl⟩
      have h9R := zRe (ws' := [(mki, .inl (cI, 8, .inl gki)), (mpa, .inl (cI, 8, .inl gpa)), (mta, .inl (cI, 8, .inl gta)), (mco, .inl (cI, 3, .inl gco)), (zMO m0 npu nte nat_ nde nto nse nhu nga nsd nfa mrf mki mpa mta mla msl mco mhe mso msi msh mce mca mwo mnu mte nba npl nen nnu nwr mwa mke mma mth mtr nra nik), (mrf, .inl (cI, 8, .inl q_58))]) hP hD rfl
      clear hP hD
      obtain ⟨hP, hD⟩ := h9R
      obtain rfl := hr_56
      exact W.iret (v := (-15)) hx hb hr (fun t ht hW => ⟨⟨(-15), q_58, rfl, ⟨(show ((w.toInt < 0 ∨ 1 < w.toInt) ∧ ((-15) : Int32).toInt = -15) ∨ ((0 ≤ w.toInt ∧ w.toInt ≤ 1) ∧ (((n.toInt < 0 ∨ 4 < n.toInt) ∧ ((-15) : Int32).toInt = -16) ∨ ((0 ≤ n.toInt ∧ n.toInt ≤ 4) ∧ ((w.toInt = 1 ∧ ((-15) : Int32).toInt = zLr gki gpa gta npu.toInt.toNat nhu.toInt (gco 0).toInt (gco 1).toInt (gco 2).toInt n.toInt.toNat nde.toInt nse.toInt) ∨ (w.toInt = 0 ∧ ((-15) : Int32).toInt = zLn gki gpa gta npu.toInt.toNat nhu.toInt (gco 0).toInt (gco 1).toInt (gco 2).toInt n.toInt.toNat nde.toInt nse.toInt))))) from by (have k15m : ((-15) : Int32).toInt = -15 := (by decide); omega)), trivial⟩, zRet ht hP hD [4, 5, 0, 1, 2, 3] (by decide) rfl⟩, hS.F ht⟩) hS.2.2 dX8_line_15
set_option maxHeartbeats 4000000 in
set_option maxRecDepth 100000 in
theorem c_F_M_casesIn_0 (l : Launch) (D : va_G) (cI cJ cZ cP cS : ClassId) (po : zPool) (m0 mrf mki mpa mta mla msl mco mhe mso msi msh mce mca mwo mnu mte mwa mke mma mth mtr : Nat) (npu nte nat_ nde nto nse nhu nga nsd nfa nba npl nen nnu nwr nra nik : Int32) (gki gpa gta : Nat → Int32) (h : Int32) (hy0 : 0 ≤ npu.toInt) (hy1 : npu.toInt ≤ 8) (hy2 : 4 ≤ nte.toInt) (hy3 : nte.toInt ≤ 40) (hy4 : 0 ≤ nat_.toInt) (hy5 : nat_.toInt ≤ 40) (hy6 : 0 ≤ nde.toInt) (hy7 : nde.toInt ≤ 24) (hy8 : 0 ≤ nhu.toInt) (hy9 : nhu.toInt ≤ 9) (hy10 : 0 ≤ nra.toInt) (hy11 : nra.toInt ≤ 2000) (hy12 : 0 ≤ nik.toInt) (hy13 : nik.toInt ≤ 1) (hy14 : 0 ≤ h.toInt) (hy15 : h.toInt ≤ 9) (hy16 : 0 ≤ nse.toInt) (hy17 : nse.toInt ≤ 300) (hp_gki : zRg gki (0) 6) (hp_gpa : zRg gpa (0) 9) (hp_gta : zRg gta (0) 60) (hpz : Nat) : Met l yX8_casesIn wsX8_casesIn ({ frames := 2, cells := 0, slots := 0, locals := 48 }) (va_Pc [.ref m0, .int 0, .int h] (zW D (zKT cI cJ cZ cP cS) po [(zMO m0 npu nte nat_ nde nto nse nhu nga nsd nfa mrf mki mpa mta mla msl mco mhe mso msi msh mce mca mwo mnu mte nba npl nen nnu nwr mwa mke mma mth mtr nra nik), (mki, .inl (cI, 8, .inl gki)), (mpa, .inl (cI, 8, .inl gpa)), (mta, .inl (cI, 8, .inl gta))] hpz)) (va_Qi (fun (r : Int32) (_ : Unit) => (r.toInt = zM gki gpa gta npu.toInt.toNat h.toInt 1 0 nde.toInt nse.toInt) ∧ (0 ≤ r.toInt ∧ r.toInt ≤ 1)) (zB D [(zMO m0 npu nte nat_ nde nto nse nhu nga nsd nfa mrf mki mpa mta mla msl mco mhe mso msi msh mce mca mwo mnu mte nba npl nen nnu nwr mwa mke mma mth mtr nra nik), (mki, .inl (cI, 8, .inl gki)), (mpa, .inl (cI, 8, .inl gpa)), (mta, .inl (cI, 8, .inl gta))] hpz (fun (_ : Unit) => [(zMO m0 npu nte nat_ nde nto nse nhu nga nsd nfa mrf mki mpa mta mla msl mco mhe mso msi msh mce mca mwo mnu mte nba npl nen nnu nwr mwa mke mma mth mtr nra nik), (mki, .inl (cI, 8, .inl gki)), (mpa, .inl (cI, 8, .inl gpa)), (mta, .inl (cI, 8, .inl gta))])) (va_A [(zMO m0 npu nte nat_ nde nto nse nhu nga nsd nfa mrf mki mpa mta mla msl mco mhe mso msi msh mce mca mwo mnu mte nba npl nen nnu nwr mwa mke mma mth mtr nra nik), (mki, .inl (cI, 8, .inl gki)), (mpa, .inl (cI, 8, .inl gpa)), (mta, .inl (cI, 8, .inl gta))] hpz)) 0 0 (va_A [(zMO m0 npu nte nat_ nde nto nse nhu nga nsd nfa mrf mki mpa mta mla msl mco mhe mso msi msh mce mca mwo mnu mte nba npl nen nnu nwr mwa mke mma mth mtr nra nik), (mki, .inl (cI, 8, .inl gki)), (mpa, .inl (cI, 8, .inl gpa)), (mta, .inl (cI, 8, .inl gta))] hpz) := by
  refine Met.ofW (cc := cX8_casesIn) (maxL := 5) (ret := (some .int)) (by decide) rfl ?_
  intro p e s m args below meth c s₁ B hml hv
  obtain ⟨rfl, hsz, hP, hK, hD0, hN, hZ⟩ := hv
  have hx := B.exec
  have hb := B.bytes
  have hr := B.returns
  have hts := atoms_spec (ws := wsX8_casesIn) B.pre
  have hown : s.vm.findClass RX8 = some m.cls := findClass_of_methodNamed B.named
  have hlocks := B.notSynchronized
  subst hsz
  have hD := hD0.self (sz := s.heap.size)
  have hA := zA_of hD
  have hl := lv_entry ([.ref m0, .int 0, .int h]) (n := 5) (Nat.le_of_ble_eq_true rfl)
  rw [lg_entry_eq]
  generalize (lg_sl ([.ref m0, .int 0, .int h]) ++ List.replicate (5 - (lg_sl ([.ref m0, .int 0, .int h])).length) Slot.unset).toArray = ls at hl ⊢
  replace hl : lv_has ls 5 [(0, .ref m0), (1, .int 0), (2, .int h)] := hl
  refine zw_begin hP hD (fun H locs hP1 hS => ?_)
  clear hP
  have hP := hP1
  clear hP1
  refine lv_aload_n hx hb dX8_casesIn_0 rfl (lv_at hl 0 rfl) ?_
  refine va_get (D := D) (ci := 8) (v := .int nhu) (C := RX8) (T := TX8) (N := 38) hx hb hts hi_X8_casesIn_8 hown hK hP 0 rfl rfl 6 (by decide) (hts (.fieldLink RX8 135 "TheLiningsInItModel" "hurry" "I") (List.mem_of_getElem? (i := 1) rfl)) (fun _ h9 => h9) rfl dX8_casesIn_1 ?_
  refine lv_istore_n (lv' := [(3, .int nhu), (0, .ref m0), (1, .int 0), (2, .int h)]) hx hb dX8_casesIn_4 rfl hl (by decide) rfl (fun ls hl => ?_)
  refine lv_aload_n hx hb dX8_casesIn_5 rfl (lv_at hl 1 rfl) ?_
  refine lv_iload_n hx hb dX8_casesIn_6 rfl (lv_at hl 3 rfl) ?_
  refine va_put (D := D) (ci := 8) (v := .int h) (ty := .int) (C := RX8) (T := TX8) (N := 38) hx hb hts hi_X8_casesIn_8 tyX8 tyX8_ok nmX8 hown hK hP hD hS 0 rfl rfl 6 (by decide) (hts (.fieldLink RX8 135 "TheLiningsInItModel" "hurry" "I") (List.mem_of_getElem? (i := 1) rfl)) (fun _ h9 => h9) rfl (tyX8_ok 6 (Nat.le_of_ble_eq_true rfl)) rfl rfl (Nat.le_of_ble_eq_true rfl) dX8_casesIn_7 (fun H locs hP hD hS => ?_)
  have h9R := zRe (ws' := [(zMO m0 npu nte nat_ nde nto nse h nga nsd nfa mrf mki mpa mta mla msl mco mhe mso msi msh mce mca mwo mnu mte nba npl nen nnu nwr mwa mke mma mth mtr nra nik), (mki, .inl (cI, 8, .inl gki)), (mpa, .inl (cI, 8, .inl gpa)), (mta, .inl (cI, 8, .inl gta))]) hP hD rfl
  clear hP hD
  obtain ⟨hP, hD⟩ := h9R
  refine lv_aload_n hx hb dX8_casesIn_10 rfl (lv_at hl 1 rfl) ?_
  refine lv_iload_n hx hb dX8_casesIn_11 rfl (lv_at hl 2 rfl) ?_
  refine lv_aload_n hx hb dX8_casesIn_12 rfl (lv_at hl 1 rfl) ?_
  refine va_get (D := D) (ci := 8) (v := .int nde) (C := RX8) (T := TX8) (N := 38) hx hb hts hi_X8_casesIn_8 hown hK hP 0 rfl rfl 3 (by decide) (hts (.fieldLink RX8 115 "TheLiningsInItModel" "depth" "I") (List.mem_of_getElem? (i := 2) rfl)) (fun _ h9 => h9) rfl dX8_casesIn_13 ?_
  refine lv_aload_n hx hb dX8_casesIn_16 rfl (lv_at hl 1 rfl) ?_
  refine va_get (D := D) (ci := 8) (v := .int nse) (C := RX8) (T := TX8) (N := 38) hx hb hts hi_X8_casesIn_8 hown hK hP 0 rfl rfl 5 (by decide) (hts (.fieldLink RX8 13 "TheLiningsInItModel" "seconds" "I") (List.mem_of_getElem? (i := 3) rfl)) (fun _ h9 => h9) rfl dX8_casesIn_17 ?_
  refine lv_iconst (v := 0) hx hb dX8_casesIn_20 (by decide) ?_
  have kc0 : (0 : Int32).toInt = 0 := by decide
  refine zc_V (As := [.int 0, .int nde, .int nse, .int 0]) (rest := []) ⟨hx, hb, hml, hown, hts⟩ (c_F_M_mostCases_0 l D cI cJ cZ cP cS po m0 mrf mki mpa mta mla msl mco mhe mso msi msh mce mca mwo mnu mte mwa mke mma mth mtr (npu) (nte) (nat_) (nde) (nto) (nse) (h) (nga) (nsd) (nfa) (nba) (npl) (nen) (nnu) (nwr) (nra) (nik) gki gpa gta (nde) (nse) (0) hy0 hy1 hy2 hy3 hy4 hy5 hy6 hy7 hy14 hy15 hy10 hy11 hy12 hy13 hy6 hy7 hy16 hy17 (by omega) (by omega) hp_gki hp_gpa hp_gta) (cwV 4 hts gX8_casesIn_X8_mostCases rfl rfl rfl ⟨rfl, dh_X8_mostCases⟩ ⟨Nat.le_of_ble_eq_true rfl, Nat.le_of_ble_eq_true rfl⟩) hK hN (hZ.kept hS) hP (hP.sub [0, 1, 2, 3] rfl) (va_recv (q := (RX8, TX8, 38)) hK hP (ci := 8) (q0 := 0) rfl rfl) rfl hl.1 rfl (Nat.le_of_ble_eq_true rfl) dX8_casesIn_21 ⟨Nat.le_of_ble_eq_true rfl, Nat.le_of_ble_eq_true rfl⟩ (fun r_1 hr_1 => ?_)
  obtain ⟨g_2, g_3, hsr_1_0⟩ := hr_1
  refine lv_istore (lv' := [(4, .int r_1), (3, .int nhu), (0, .ref m0), (1, .int 0), (2, .int h)]) hx hb dX8_casesIn_24 hl (by decide) rfl (fun ls hl => ?_)
  refine lv_aload_n hx hb dX8_casesIn_26 rfl (lv_at hl 2 rfl) ?_
  refine lv_iload_n hx hb dX8_casesIn_27 rfl (lv_at hl 1 rfl) ?_
  refine va_put (D := D) (ci := 8) (v := .int nhu) (ty := .int) (C := RX8) (T := TX8) (N := 38) hx hb hts hi_X8_casesIn_8 tyX8 tyX8_ok nmX8 hown hK hP hD hS 0 rfl rfl 6 (by decide) (hts (.fieldLink RX8 135 "TheLiningsInItModel" "hurry" "I") (List.mem_of_getElem? (i := 1) rfl)) (fun _ h9 => h9) rfl (tyX8_ok 6 (Nat.le_of_ble_eq_true rfl)) rfl rfl (Nat.le_of_ble_eq_true rfl) dX8_casesIn_28 (fun H locs hP hD hS => ?_)
  have h9R := zRe (ws' := [(zMO m0 npu nte nat_ nde nto nse nhu nga nsd nfa mrf mki mpa mta mla msl mco mhe mso msi msh mce mca mwo mnu mte nba npl nen nnu nwr mwa mke mma mth mtr nra nik), (mki, .inl (cI, 8, .inl gki)), (mpa, .inl (cI, 8, .inl gpa)), (mta, .inl (cI, 8, .inl gta))]) hP hD rfl
  clear hP hD
  obtain ⟨hP, hD⟩ := h9R
  refine lv_iload hx hb dX8_casesIn_31 (lv_at hl 0 rfl) ?_
  exact W.iret (v := r_1) hx hb hr (fun t ht hW => ⟨⟨r_1, (), rfl, ⟨(show (r_1 : Int32).toInt = zM gki gpa gta npu.toInt.toNat h.toInt 1 0 nde.toInt nse.toInt from by (have z := hsr_1_0; rw [show (if (0 : Int32).toInt = 0 then (1 : Int) else 0) = 1 from by decide] at z; exact z)), ⟨by omega, by omega⟩⟩, zRet ht hP hD [0, 1, 2, 3] (by decide) rfl⟩, hS.F ht⟩) hS.2.2 dX8_casesIn_33
set_option maxHeartbeats 4000000 in
set_option maxRecDepth 100000 in
theorem c_F_M_casesIn_1 (l : Launch) (D : va_G) (cI cJ cZ cP cS : ClassId) (po : zPool) (m0 mrf mki mpa mta mla msl mco mhe mso msi msh mce mca mwo mnu mte mwa mke mma mth mtr : Nat) (npu nte nat_ nde nto nse nhu nga nsd nfa nba npl nen nnu nwr nra nik : Int32) (gki gpa gta : Nat → Int32) (h : Int32) (hy0 : 0 ≤ npu.toInt) (hy1 : npu.toInt ≤ 8) (hy2 : 4 ≤ nte.toInt) (hy3 : nte.toInt ≤ 40) (hy4 : 0 ≤ nat_.toInt) (hy5 : nat_.toInt ≤ 40) (hy6 : 0 ≤ nde.toInt) (hy7 : nde.toInt ≤ 24) (hy8 : 0 ≤ nhu.toInt) (hy9 : nhu.toInt ≤ 9) (hy10 : 0 ≤ nra.toInt) (hy11 : nra.toInt ≤ 2000) (hy12 : 0 ≤ nik.toInt) (hy13 : nik.toInt ≤ 1) (hy14 : 0 ≤ h.toInt) (hy15 : h.toInt ≤ 9) (hy16 : 0 ≤ nse.toInt) (hy17 : nse.toInt ≤ 300) (hp_gki : zRg gki (0) 6) (hp_gpa : zRg gpa (0) 9) (hp_gta : zRg gta (0) 60) (hpz : Nat) : Met l yX8_casesIn wsX8_casesIn ({ frames := 4, cells := 0, slots := 0, locals := 102 }) (va_Pc [.ref m0, .int 1, .int h] (zW D (zKT cI cJ cZ cP cS) po [(zMO m0 npu nte nat_ nde nto nse nhu nga nsd nfa mrf mki mpa mta mla msl mco mhe mso msi msh mce mca mwo mnu mte nba npl nen nnu nwr mwa mke mma mth mtr nra nik), (mki, .inl (cI, 8, .inl gki)), (mpa, .inl (cI, 8, .inl gpa)), (mta, .inl (cI, 8, .inl gta))] hpz)) (va_Qi (fun (r : Int32) (_ : Unit) => (r.toInt = zM gki gpa gta npu.toInt.toNat h.toInt 1 1 nde.toInt nse.toInt) ∧ (0 ≤ r.toInt ∧ r.toInt ≤ 12)) (zB D [(zMO m0 npu nte nat_ nde nto nse nhu nga nsd nfa mrf mki mpa mta mla msl mco mhe mso msi msh mce mca mwo mnu mte nba npl nen nnu nwr mwa mke mma mth mtr nra nik), (mki, .inl (cI, 8, .inl gki)), (mpa, .inl (cI, 8, .inl gpa)), (mta, .inl (cI, 8, .inl gta))] hpz (fun (_ : Unit) => [(zMO m0 npu nte nat_ nde nto nse nhu nga nsd nfa mrf mki mpa mta mla msl mco mhe mso msi msh mce mca mwo mnu mte nba npl nen nnu nwr mwa mke mma mth mtr nra nik), (mki, .inl (cI, 8, .inl gki)), (mpa, .inl (cI, 8, .inl gpa)), (mta, .inl (cI, 8, .inl gta))])) (va_A [(zMO m0 npu nte nat_ nde nto nse nhu nga nsd nfa mrf mki mpa mta mla msl mco mhe mso msi msh mce mca mwo mnu mte nba npl nen nnu nwr mwa mke mma mth mtr nra nik), (mki, .inl (cI, 8, .inl gki)), (mpa, .inl (cI, 8, .inl gpa)), (mta, .inl (cI, 8, .inl gta))] hpz)) 0 0 (va_A [(zMO m0 npu nte nat_ nde nto nse nhu nga nsd nfa mrf mki mpa mta mla msl mco mhe mso msi msh mce mca mwo mnu mte nba npl nen nnu nwr mwa mke mma mth mtr nra nik), (mki, .inl (cI, 8, .inl gki)), (mpa, .inl (cI, 8, .inl gpa)), (mta, .inl (cI, 8, .inl gta))] hpz) := by
  refine Met.ofW (cc := cX8_casesIn) (maxL := 5) (ret := (some .int)) (by decide) rfl ?_
  intro p e s m args below meth c s₁ B hml hv
  obtain ⟨rfl, hsz, hP, hK, hD0, hN, hZ⟩ := hv
  have hx := B.exec
  have hb := B.bytes
  have hr := B.returns
  have hts := atoms_spec (ws := wsX8_casesIn) B.pre
  have hown : s.vm.findClass RX8 = some m.cls := findClass_of_methodNamed B.named
  have hlocks := B.notSynchronized
  subst hsz
  have hD := hD0.self (sz := s.heap.size)
  have hA := zA_of hD
  have hl := lv_entry ([.ref m0, .int 1, .int h]) (n := 5) (Nat.le_of_ble_eq_true rfl)
  rw [lg_entry_eq]
  generalize (lg_sl ([.ref m0, .int 1, .int h]) ++ List.replicate (5 - (lg_sl ([.ref m0, .int 1, .int h])).length) Slot.unset).toArray = ls at hl ⊢
  replace hl : lv_has ls 5 [(0, .ref m0), (1, .int 1), (2, .int h)] := hl
  refine zw_begin hP hD (fun H locs hP1 hS => ?_)
  clear hP
  have hP := hP1
  clear hP1
  refine lv_aload_n hx hb dX8_casesIn_0 rfl (lv_at hl 0 rfl) ?_
  refine va_get (D := D) (ci := 8) (v := .int nhu) (C := RX8) (T := TX8) (N := 38) hx hb hts hi_X8_casesIn_8 hown hK hP 0 rfl rfl 6 (by decide) (hts (.fieldLink RX8 135 "TheLiningsInItModel" "hurry" "I") (List.mem_of_getElem? (i := 1) rfl)) (fun _ h9 => h9) rfl dX8_casesIn_1 ?_
  refine lv_istore_n (lv' := [(3, .int nhu), (0, .ref m0), (1, .int 1), (2, .int h)]) hx hb dX8_casesIn_4 rfl hl (by decide) rfl (fun ls hl => ?_)
  refine lv_aload_n hx hb dX8_casesIn_5 rfl (lv_at hl 1 rfl) ?_
  refine lv_iload_n hx hb dX8_casesIn_6 rfl (lv_at hl 3 rfl) ?_
  refine va_put (D := D) (ci := 8) (v := .int h) (ty := .int) (C := RX8) (T := TX8) (N := 38) hx hb hts hi_X8_casesIn_8 tyX8 tyX8_ok nmX8 hown hK hP hD hS 0 rfl rfl 6 (by decide) (hts (.fieldLink RX8 135 "TheLiningsInItModel" "hurry" "I") (List.mem_of_getElem? (i := 1) rfl)) (fun _ h9 => h9) rfl (tyX8_ok 6 (Nat.le_of_ble_eq_true rfl)) rfl rfl (Nat.le_of_ble_eq_true rfl) dX8_casesIn_7 (fun H locs hP hD hS => ?_)
  have h9R := zRe (ws' := [(zMO m0 npu nte nat_ nde nto nse h nga nsd nfa mrf mki mpa mta mla msl mco mhe mso msi msh mce mca mwo mnu mte nba npl nen nnu nwr mwa mke mma mth mtr nra nik), (mki, .inl (cI, 8, .inl gki)), (mpa, .inl (cI, 8, .inl gpa)), (mta, .inl (cI, 8, .inl gta))]) hP hD rfl
  clear hP hD
  obtain ⟨hP, hD⟩ := h9R
  refine lv_aload_n hx hb dX8_casesIn_10 rfl (lv_at hl 1 rfl) ?_
  refine lv_iload_n hx hb dX8_casesIn_11 rfl (lv_at hl 2 rfl) ?_
  refine lv_aload_n hx hb dX8_casesIn_12 rfl (lv_at hl 1 rfl) ?_
  refine va_get (D := D) (ci := 8) (v := .int nde) (C := RX8) (T := TX8) (N := 38) hx hb hts hi_X8_casesIn_8 hown hK hP 0 rfl rfl 3 (by decide) (hts (.fieldLink RX8 115 "TheLiningsInItModel" "depth" "I") (List.mem_of_getElem? (i := 2) rfl)) (fun _ h9 => h9) rfl dX8_casesIn_13 ?_
  refine lv_aload_n hx hb dX8_casesIn_16 rfl (lv_at hl 1 rfl) ?_
  refine va_get (D := D) (ci := 8) (v := .int nse) (C := RX8) (T := TX8) (N := 38) hx hb hts hi_X8_casesIn_8 hown hK hP 0 rfl rfl 5 (by decide) (hts (.fieldLink RX8 13 "TheLiningsInItModel" "seconds" "I") (List.mem_of_getElem? (i := 3) rfl)) (fun _ h9 => h9) rfl dX8_casesIn_17 ?_
  refine lv_iconst (v := 0) hx hb dX8_casesIn_20 (by decide) ?_
  have kc0 : (0 : Int32).toInt = 0 := by decide
  refine zc_V (As := [.int 1, .int nde, .int nse, .int 0]) (rest := []) ⟨hx, hb, hml, hown, hts⟩ (c_F_M_mostCases_1 l D cI cJ cZ cP cS po m0 mrf mki mpa mta mla msl mco mhe mso msi msh mce mca mwo mnu mte mwa mke mma mth mtr (npu) (nte) (nat_) (nde) (nto) (nse) (h) (nga) (nsd) (nfa) (nba) (npl) (nen) (nnu) (nwr) (nra) (nik) gki gpa gta (nde) (nse) (0) hy0 hy1 hy2 hy3 hy4 hy5 hy6 hy7 hy14 hy15 hy10 hy11 hy12 hy13 hy6 hy7 hy16 hy17 (by omega) (by omega) hp_gki hp_gpa hp_gta) (cwV 4 hts gX8_casesIn_X8_mostCases rfl rfl rfl ⟨rfl, dh_X8_mostCases⟩ ⟨Nat.le_of_ble_eq_true rfl, Nat.le_of_ble_eq_true rfl⟩) hK hN (hZ.kept hS) hP (hP.sub [0, 1, 2, 3] rfl) (va_recv (q := (RX8, TX8, 38)) hK hP (ci := 8) (q0 := 0) rfl rfl) rfl hl.1 rfl (Nat.le_of_ble_eq_true rfl) dX8_casesIn_21 ⟨Nat.le_of_ble_eq_true rfl, Nat.le_of_ble_eq_true rfl⟩ (fun r_1 hr_1 => ?_)
  obtain ⟨g_2, g_3, hsr_1_0⟩ := hr_1
  refine lv_istore (lv' := [(4, .int r_1), (3, .int nhu), (0, .ref m0), (1, .int 1), (2, .int h)]) hx hb dX8_casesIn_24 hl (by decide) rfl (fun ls hl => ?_)
  refine lv_aload_n hx hb dX8_casesIn_26 rfl (lv_at hl 2 rfl) ?_
  refine lv_iload_n hx hb dX8_casesIn_27 rfl (lv_at hl 1 rfl) ?_
  refine va_put (D := D) (ci := 8) (v := .int nhu) (ty := .int) (C := RX8) (T := TX8) (N := 38) hx hb hts hi_X8_casesIn_8 tyX8 tyX8_ok nmX8 hown hK hP hD hS 0 rfl rfl 6 (by decide) (hts (.fieldLink RX8 135 "TheLiningsInItModel" "hurry" "I") (List.mem_of_getElem? (i := 1) rfl)) (fun _ h9 => h9) rfl (tyX8_ok 6 (Nat.le_of_ble_eq_true rfl)) rfl rfl (Nat.le_of_ble_eq_true rfl) dX8_casesIn_28 (fun H locs hP hD hS => ?_)
  have h9R := zRe (ws' := [(zMO m0 npu nte nat_ nde nto nse nhu nga nsd nfa mrf mki mpa mta mla msl mco mhe mso msi msh mce mca mwo mnu mte nba npl nen nnu nwr mwa mke mma mth mtr nra nik), (mki, .inl (cI, 8, .inl gki)), (mpa, .inl (cI, 8, .inl gpa)), (mta, .inl (cI, 8, .inl gta))]) hP hD rfl
  clear hP hD
  obtain ⟨hP, hD⟩ := h9R
  refine lv_iload hx hb dX8_casesIn_31 (lv_at hl 0 rfl) ?_
  exact W.iret (v := r_1) hx hb hr (fun t ht hW => ⟨⟨r_1, (), rfl, ⟨(show (r_1 : Int32).toInt = zM gki gpa gta npu.toInt.toNat h.toInt 1 1 nde.toInt nse.toInt from by (have z := hsr_1_0; rw [show (if (0 : Int32).toInt = 0 then (1 : Int) else 0) = 1 from by decide] at z; exact z)), ⟨by omega, by omega⟩⟩, zRet ht hP hD [0, 1, 2, 3] (by decide) rfl⟩, hS.F ht⟩) hS.2.2 dX8_casesIn_33
set_option maxHeartbeats 4000000 in
set_option maxRecDepth 100000 in
theorem c_F_M_casesIn_2 (l : Launch) (D : va_G) (cI cJ cZ cP cS : ClassId) (po : zPool) (m0 mrf mki mpa mta mla msl mco mhe mso msi msh mce mca mwo mnu mte mwa mke mma mth mtr : Nat) (npu nte nat_ nde nto nse nhu nga nsd nfa nba npl nen nnu nwr nra nik : Int32) (gki gpa gta : Nat → Int32) (h : Int32) (hy0 : 0 ≤ npu.toInt) (hy1 : npu.toInt ≤ 8) (hy2 : 4 ≤ nte.toInt) (hy3 : nte.toInt ≤ 40) (hy4 : 0 ≤ nat_.toInt) (hy5 : nat_.toInt ≤ 40) (hy6 : 0 ≤ nde.toInt) (hy7 : nde.toInt ≤ 24) (hy8 : 0 ≤ nhu.toInt) (hy9 : nhu.toInt ≤ 9) (hy10 : 0 ≤ nra.toInt) (hy11 : nra.toInt ≤ 2000) (hy12 : 0 ≤ nik.toInt) (hy13 : nik.toInt ≤ 1) (hy14 : 0 ≤ h.toInt) (hy15 : h.toInt ≤ 9) (hy16 : 0 ≤ nse.toInt) (hy17 : nse.toInt ≤ 300) (hp_gki : zRg gki (0) 6) (hp_gpa : zRg gpa (0) 9) (hp_gta : zRg gta (0) 60) (hpz : Nat) : Met l yX8_casesIn wsX8_casesIn ({ frames := 6, cells := 0, slots := 0, locals := 156 }) (va_Pc [.ref m0, .int 2, .int h] (zW D (zKT cI cJ cZ cP cS) po [(zMO m0 npu nte nat_ nde nto nse nhu nga nsd nfa mrf mki mpa mta mla msl mco mhe mso msi msh mce mca mwo mnu mte nba npl nen nnu nwr mwa mke mma mth mtr nra nik), (mki, .inl (cI, 8, .inl gki)), (mpa, .inl (cI, 8, .inl gpa)), (mta, .inl (cI, 8, .inl gta))] hpz)) (va_Qi (fun (r : Int32) (_ : Unit) => (r.toInt = zM gki gpa gta npu.toInt.toNat h.toInt 1 2 nde.toInt nse.toInt) ∧ (0 ≤ r.toInt ∧ r.toInt ≤ 144)) (zB D [(zMO m0 npu nte nat_ nde nto nse nhu nga nsd nfa mrf mki mpa mta mla msl mco mhe mso msi msh mce mca mwo mnu mte nba npl nen nnu nwr mwa mke mma mth mtr nra nik), (mki, .inl (cI, 8, .inl gki)), (mpa, .inl (cI, 8, .inl gpa)), (mta, .inl (cI, 8, .inl gta))] hpz (fun (_ : Unit) => [(zMO m0 npu nte nat_ nde nto nse nhu nga nsd nfa mrf mki mpa mta mla msl mco mhe mso msi msh mce mca mwo mnu mte nba npl nen nnu nwr mwa mke mma mth mtr nra nik), (mki, .inl (cI, 8, .inl gki)), (mpa, .inl (cI, 8, .inl gpa)), (mta, .inl (cI, 8, .inl gta))])) (va_A [(zMO m0 npu nte nat_ nde nto nse nhu nga nsd nfa mrf mki mpa mta mla msl mco mhe mso msi msh mce mca mwo mnu mte nba npl nen nnu nwr mwa mke mma mth mtr nra nik), (mki, .inl (cI, 8, .inl gki)), (mpa, .inl (cI, 8, .inl gpa)), (mta, .inl (cI, 8, .inl gta))] hpz)) 0 0 (va_A [(zMO m0 npu nte nat_ nde nto nse nhu nga nsd nfa mrf mki mpa mta mla msl mco mhe mso msi msh mce mca mwo mnu mte nba npl nen nnu nwr mwa mke mma mth mtr nra nik), (mki, .inl (cI, 8, .inl gki)), (mpa, .inl (cI, 8, .inl gpa)), (mta, .inl (cI, 8, .inl gta))] hpz) := by
  refine Met.ofW (cc := cX8_casesIn) (maxL := 5) (ret := (some .int)) (by decide) rfl ?_
  intro p e s m args below meth c s₁ B hml hv
  obtain ⟨rfl, hsz, hP, hK, hD0, hN, hZ⟩ := hv
  have hx := B.exec
  have hb := B.bytes
  have hr := B.returns
  have hts := atoms_spec (ws := wsX8_casesIn) B.pre
  have hown : s.vm.findClass RX8 = some m.cls := findClass_of_methodNamed B.named
  have hlocks := B.notSynchronized
  subst hsz
  have hD := hD0.self (sz := s.heap.size)
  have hA := zA_of hD
  have hl := lv_entry ([.ref m0, .int 2, .int h]) (n := 5) (Nat.le_of_ble_eq_true rfl)
  rw [lg_entry_eq]
  generalize (lg_sl ([.ref m0, .int 2, .int h]) ++ List.replicate (5 - (lg_sl ([.ref m0, .int 2, .int h])).length) Slot.unset).toArray = ls at hl ⊢
  replace hl : lv_has ls 5 [(0, .ref m0), (1, .int 2), (2, .int h)] := hl
  refine zw_begin hP hD (fun H locs hP1 hS => ?_)
  clear hP
  have hP := hP1
  clear hP1
  refine lv_aload_n hx hb dX8_casesIn_0 rfl (lv_at hl 0 rfl) ?_
  refine va_get (D := D) (ci := 8) (v := .int nhu) (C := RX8) (T := TX8) (N := 38) hx hb hts hi_X8_casesIn_8 hown hK hP 0 rfl rfl 6 (by decide) (hts (.fieldLink RX8 135 "TheLiningsInItModel" "hurry" "I") (List.mem_of_getElem? (i := 1) rfl)) (fun _ h9 => h9) rfl dX8_casesIn_1 ?_
  refine lv_istore_n (lv' := [(3, .int nhu), (0, .ref m0), (1, .int 2), (2, .int h)]) hx hb dX8_casesIn_4 rfl hl (by decide) rfl (fun ls hl => ?_)
  refine lv_aload_n hx hb dX8_casesIn_5 rfl (lv_at hl 1 rfl) ?_
  refine lv_iload_n hx hb dX8_casesIn_6 rfl (lv_at hl 3 rfl) ?_
  refine va_put (D := D) (ci := 8) (v := .int h) (ty := .int) (C := RX8) (T := TX8) (N := 38) hx hb hts hi_X8_casesIn_8 tyX8 tyX8_ok nmX8 hown hK hP hD hS 0 rfl rfl 6 (by decide) (hts (.fieldLink RX8 135 "TheLiningsInItModel" "hurry" "I") (List.mem_of_getElem? (i := 1) rfl)) (fun _ h9 => h9) rfl (tyX8_ok 6 (Nat.le_of_ble_eq_true rfl)) rfl rfl (Nat.le_of_ble_eq_true rfl) dX8_casesIn_7 (fun H locs hP hD hS => ?_)
  have h9R := zRe (ws' := [(zMO m0 npu nte nat_ nde nto nse h nga nsd nfa mrf mki mpa mta mla msl mco mhe mso msi msh mce mca mwo mnu mte nba npl nen nnu nwr mwa mke mma mth mtr nra nik), (mki, .inl (cI, 8, .inl gki)), (mpa, .inl (cI, 8, .inl gpa)), (mta, .inl (cI, 8, .inl gta))]) hP hD rfl
  clear hP hD
  obtain ⟨hP, hD⟩ := h9R
  refine lv_aload_n hx hb dX8_casesIn_10 rfl (lv_at hl 1 rfl) ?_
  refine lv_iload_n hx hb dX8_casesIn_11 rfl (lv_at hl 2 rfl) ?_
  refine lv_aload_n hx hb dX8_casesIn_12 rfl (lv_at hl 1 rfl) ?_
  refine va_get (D := D) (ci := 8) (v := .int nde) (C := RX8) (T := TX8) (N := 38) hx hb hts hi_X8_casesIn_8 hown hK hP 0 rfl rfl 3 (by decide) (hts (.fieldLink RX8 115 "TheLiningsInItModel" "depth" "I") (List.mem_of_getElem? (i := 2) rfl)) (fun _ h9 => h9) rfl dX8_casesIn_13 ?_
  refine lv_aload_n hx hb dX8_casesIn_16 rfl (lv_at hl 1 rfl) ?_
  refine va_get (D := D) (ci := 8) (v := .int nse) (C := RX8) (T := TX8) (N := 38) hx hb hts hi_X8_casesIn_8 hown hK hP 0 rfl rfl 5 (by decide) (hts (.fieldLink RX8 13 "TheLiningsInItModel" "seconds" "I") (List.mem_of_getElem? (i := 3) rfl)) (fun _ h9 => h9) rfl dX8_casesIn_17 ?_
  refine lv_iconst (v := 0) hx hb dX8_casesIn_20 (by decide) ?_
  have kc0 : (0 : Int32).toInt = 0 := by decide
  refine zc_V (As := [.int 2, .int nde, .int nse, .int 0]) (rest := []) ⟨hx, hb, hml, hown, hts⟩ (c_F_M_mostCases_2 l D cI cJ cZ cP cS po m0 mrf mki mpa mta mla msl mco mhe mso msi msh mce mca mwo mnu mte mwa mke mma mth mtr (npu) (nte) (nat_) (nde) (nto) (nse) (h) (nga) (nsd) (nfa) (nba) (npl) (nen) (nnu) (nwr) (nra) (nik) gki gpa gta (nde) (nse) (0) hy0 hy1 hy2 hy3 hy4 hy5 hy6 hy7 hy14 hy15 hy10 hy11 hy12 hy13 hy6 hy7 hy16 hy17 (by omega) (by omega) hp_gki hp_gpa hp_gta) (cwV 4 hts gX8_casesIn_X8_mostCases rfl rfl rfl ⟨rfl, dh_X8_mostCases⟩ ⟨Nat.le_of_ble_eq_true rfl, Nat.le_of_ble_eq_true rfl⟩) hK hN (hZ.kept hS) hP (hP.sub [0, 1, 2, 3] rfl) (va_recv (q := (RX8, TX8, 38)) hK hP (ci := 8) (q0 := 0) rfl rfl) rfl hl.1 rfl (Nat.le_of_ble_eq_true rfl) dX8_casesIn_21 ⟨Nat.le_of_ble_eq_true rfl, Nat.le_of_ble_eq_true rfl⟩ (fun r_1 hr_1 => ?_)
  obtain ⟨g_2, g_3, hsr_1_0⟩ := hr_1
  refine lv_istore (lv' := [(4, .int r_1), (3, .int nhu), (0, .ref m0), (1, .int 2), (2, .int h)]) hx hb dX8_casesIn_24 hl (by decide) rfl (fun ls hl => ?_)
  refine lv_aload_n hx hb dX8_casesIn_26 rfl (lv_at hl 2 rfl) ?_
  refine lv_iload_n hx hb dX8_casesIn_27 rfl (lv_at hl 1 rfl) ?_
  refine va_put (D := D) (ci := 8) (v := .int nhu) (ty := .int) (C := RX8) (T := TX8) (N := 38) hx hb hts hi_X8_casesIn_8 tyX8 tyX8_ok nmX8 hown hK hP hD hS 0 rfl rfl 6 (by decide) (hts (.fieldLink RX8 135 "TheLiningsInItModel" "hurry" "I") (List.mem_of_getElem? (i := 1) rfl)) (fun _ h9 => h9) rfl (tyX8_ok 6 (Nat.le_of_ble_eq_true rfl)) rfl rfl (Nat.le_of_ble_eq_true rfl) dX8_casesIn_28 (fun H locs hP hD hS => ?_)
  have h9R := zRe (ws' := [(zMO m0 npu nte nat_ nde nto nse nhu nga nsd nfa mrf mki mpa mta mla msl mco mhe mso msi msh mce mca mwo mnu mte nba npl nen nnu nwr mwa mke mma mth mtr nra nik), (mki, .inl (cI, 8, .inl gki)), (mpa, .inl (cI, 8, .inl gpa)), (mta, .inl (cI, 8, .inl gta))]) hP hD rfl
  clear hP hD
  obtain ⟨hP, hD⟩ := h9R
  refine lv_iload hx hb dX8_casesIn_31 (lv_at hl 0 rfl) ?_
  exact W.iret (v := r_1) hx hb hr (fun t ht hW => ⟨⟨r_1, (), rfl, ⟨(show (r_1 : Int32).toInt = zM gki gpa gta npu.toInt.toNat h.toInt 1 2 nde.toInt nse.toInt from by (have z := hsr_1_0; rw [show (if (0 : Int32).toInt = 0 then (1 : Int) else 0) = 1 from by decide] at z; exact z)), ⟨by omega, by omega⟩⟩, zRet ht hP hD [0, 1, 2, 3] (by decide) rfl⟩, hS.F ht⟩) hS.2.2 dX8_casesIn_33
set_option maxHeartbeats 4000000 in
set_option maxRecDepth 100000 in
theorem c_F_M_casesIn_3 (l : Launch) (D : va_G) (cI cJ cZ cP cS : ClassId) (po : zPool) (m0 mrf mki mpa mta mla msl mco mhe mso msi msh mce mca mwo mnu mte mwa mke mma mth mtr : Nat) (npu nte nat_ nde nto nse nhu nga nsd nfa nba npl nen nnu nwr nra nik : Int32) (gki gpa gta : Nat → Int32) (h : Int32) (hy0 : 0 ≤ npu.toInt) (hy1 : npu.toInt ≤ 8) (hy2 : 4 ≤ nte.toInt) (hy3 : nte.toInt ≤ 40) (hy4 : 0 ≤ nat_.toInt) (hy5 : nat_.toInt ≤ 40) (hy6 : 0 ≤ nde.toInt) (hy7 : nde.toInt ≤ 24) (hy8 : 0 ≤ nhu.toInt) (hy9 : nhu.toInt ≤ 9) (hy10 : 0 ≤ nra.toInt) (hy11 : nra.toInt ≤ 2000) (hy12 : 0 ≤ nik.toInt) (hy13 : nik.toInt ≤ 1) (hy14 : 0 ≤ h.toInt) (hy15 : h.toInt ≤ 9) (hy16 : 0 ≤ nse.toInt) (hy17 : nse.toInt ≤ 300) (hp_gki : zRg gki (0) 6) (hp_gpa : zRg gpa (0) 9) (hp_gta : zRg gta (0) 60) (hpz : Nat) : Met l yX8_casesIn wsX8_casesIn ({ frames := 8, cells := 0, slots := 0, locals := 210 }) (va_Pc [.ref m0, .int 3, .int h] (zW D (zKT cI cJ cZ cP cS) po [(zMO m0 npu nte nat_ nde nto nse nhu nga nsd nfa mrf mki mpa mta mla msl mco mhe mso msi msh mce mca mwo mnu mte nba npl nen nnu nwr mwa mke mma mth mtr nra nik), (mki, .inl (cI, 8, .inl gki)), (mpa, .inl (cI, 8, .inl gpa)), (mta, .inl (cI, 8, .inl gta))] hpz)) (va_Qi (fun (r : Int32) (_ : Unit) => (r.toInt = zM gki gpa gta npu.toInt.toNat h.toInt 1 3 nde.toInt nse.toInt) ∧ (0 ≤ r.toInt ∧ r.toInt ≤ 1728)) (zB D [(zMO m0 npu nte nat_ nde nto nse nhu nga nsd nfa mrf mki mpa mta mla msl mco mhe mso msi msh mce mca mwo mnu mte nba npl nen nnu nwr mwa mke mma mth mtr nra nik), (mki, .inl (cI, 8, .inl gki)), (mpa, .inl (cI, 8, .inl gpa)), (mta, .inl (cI, 8, .inl gta))] hpz (fun (_ : Unit) => [(zMO m0 npu nte nat_ nde nto nse nhu nga nsd nfa mrf mki mpa mta mla msl mco mhe mso msi msh mce mca mwo mnu mte nba npl nen nnu nwr mwa mke mma mth mtr nra nik), (mki, .inl (cI, 8, .inl gki)), (mpa, .inl (cI, 8, .inl gpa)), (mta, .inl (cI, 8, .inl gta))])) (va_A [(zMO m0 npu nte nat_ nde nto nse nhu nga nsd nfa mrf mki mpa mta mla msl mco mhe mso msi msh mce mca mwo mnu mte nba npl nen nnu nwr mwa mke mma mth mtr nra nik), (mki, .inl (cI, 8, .inl gki)), (mpa, .inl (cI, 8, .inl gpa)), (mta, .inl (cI, 8, .inl gta))] hpz)) 0 0 (va_A [(zMO m0 npu nte nat_ nde nto nse nhu nga nsd nfa mrf mki mpa mta mla msl mco mhe mso msi msh mce mca mwo mnu mte nba npl nen nnu nwr mwa mke mma mth mtr nra nik), (mki, .inl (cI, 8, .inl gki)), (mpa, .inl (cI, 8, .inl gpa)), (mta, .inl (cI, 8, .inl gta))] hpz) := by
  refine Met.ofW (cc := cX8_casesIn) (maxL := 5) (ret := (some .int)) (by decide) rfl ?_
  intro p e s m args below meth c s₁ B hml hv
  obtain ⟨rfl, hsz, hP, hK, hD0, hN, hZ⟩ := hv
  have hx := B.exec
  have hb := B.bytes
  have hr := B.returns
  have hts := atoms_spec (ws := wsX8_casesIn) B.pre
  have hown : s.vm.findClass RX8 = some m.cls := findClass_of_methodNamed B.named
  have hlocks := B.notSynchronized
  subst hsz
  have hD := hD0.self (sz := s.heap.size)
  have hA := zA_of hD
  have hl := lv_entry ([.ref m0, .int 3, .int h]) (n := 5) (Nat.le_of_ble_eq_true rfl)
  rw [lg_entry_eq]
  generalize (lg_sl ([.ref m0, .int 3, .int h]) ++ List.replicate (5 - (lg_sl ([.ref m0, .int 3, .int h])).length) Slot.unset).toArray = ls at hl ⊢
  replace hl : lv_has ls 5 [(0, .ref m0), (1, .int 3), (2, .int h)] := hl
  refine zw_begin hP hD (fun H locs hP1 hS => ?_)
  clear hP
  have hP := hP1
  clear hP1
  refine lv_aload_n hx hb dX8_casesIn_0 rfl (lv_at hl 0 rfl) ?_
  refine va_get (D := D) (ci := 8) (v := .int nhu) (C := RX8) (T := TX8) (N := 38) hx hb hts hi_X8_casesIn_8 hown hK hP 0 rfl rfl 6 (by decide) (hts (.fieldLink RX8 135 "TheLiningsInItModel" "hurry" "I") (List.mem_of_getElem? (i := 1) rfl)) (fun _ h9 => h9) rfl dX8_casesIn_1 ?_
  refine lv_istore_n (lv' := [(3, .int nhu), (0, .ref m0), (1, .int 3), (2, .int h)]) hx hb dX8_casesIn_4 rfl hl (by decide) rfl (fun ls hl => ?_)
  refine lv_aload_n hx hb dX8_casesIn_5 rfl (lv_at hl 1 rfl) ?_
  refine lv_iload_n hx hb dX8_casesIn_6 rfl (lv_at hl 3 rfl) ?_
  refine va_put (D := D) (ci := 8) (v := .int h) (ty := .int) (C := RX8) (T := TX8) (N := 38) hx hb hts hi_X8_casesIn_8 tyX8 tyX8_ok nmX8 hown hK hP hD hS 0 rfl rfl 6 (by decide) (hts (.fieldLink RX8 135 "TheLiningsInItModel" "hurry" "I") (List.mem_of_getElem? (i := 1) rfl)) (fun _ h9 => h9) rfl (tyX8_ok 6 (Nat.le_of_ble_eq_true rfl)) rfl rfl (Nat.le_of_ble_eq_true rfl) dX8_casesIn_7 (fun H locs hP hD hS => ?_)
  have h9R := zRe (ws' := [(zMO m0 npu nte nat_ nde nto nse h nga nsd nfa mrf mki mpa mta mla msl mco mhe mso msi msh mce mca mwo mnu mte nba npl nen nnu nwr mwa mke mma mth mtr nra nik), (mki, .inl (cI, 8, .inl gki)), (mpa, .inl (cI, 8, .inl gpa)), (mta, .inl (cI, 8, .inl gta))]) hP hD rfl
  clear hP hD
  obtain ⟨hP, hD⟩ := h9R
  refine lv_aload_n hx hb dX8_casesIn_10 rfl (lv_at hl 1 rfl) ?_
  refine lv_iload_n hx hb dX8_casesIn_11 rfl (lv_at hl 2 rfl) ?_
  refine lv_aload_n hx hb dX8_casesIn_12 rfl (lv_at hl 1 rfl) ?_
  refine va_get (D := D) (ci := 8) (v := .int nde) (C := RX8) (T := TX8) (N := 38) hx hb hts hi_X8_casesIn_8 hown hK hP 0 rfl rfl 3 (by decide) (hts (.fieldLink RX8 115 "TheLiningsInItModel" "depth" "I") (List.mem_of_getElem? (i := 2) rfl)) (fun _ h9 => h9) rfl dX8_casesIn_13 ?_
  refine lv_aload_n hx hb dX8_casesIn_16 rfl (lv_at hl 1 rfl) ?_
  refine va_get (D := D) (ci := 8) (v := .int nse) (C := RX8) (T := TX8) (N := 38) hx hb hts hi_X8_casesIn_8 hown hK hP 0 rfl rfl 5 (by decide) (hts (.fieldLink RX8 13 "TheLiningsInItModel" "seconds" "I") (List.mem_of_getElem? (i := 3) rfl)) (fun _ h9 => h9) rfl dX8_casesIn_17 ?_
  refine lv_iconst (v := 0) hx hb dX8_casesIn_20 (by decide) ?_
  have kc0 : (0 : Int32).toInt = 0 := by decide
  refine zc_V (As := [.int 3, .int nde, .int nse, .int 0]) (rest := []) ⟨hx, hb, hml, hown, hts⟩ (c_F_M_mostCases_3 l D cI cJ cZ cP cS po m0 mrf mki mpa mta mla msl mco mhe mso msi msh mce mca mwo mnu mte mwa mke mma mth mtr (npu) (nte) (nat_) (nde) (nto) (nse) (h) (nga) (nsd) (nfa) (nba) (npl) (nen) (nnu) (nwr) (nra) (nik) gki gpa gta (nde) (nse) (0) hy0 hy1 hy2 hy3 hy4 hy5 hy6 hy7 hy14 hy15 hy10 hy11 hy12 hy13 hy6 hy7 hy16 hy17 (by omega) (by omega) hp_gki hp_gpa hp_gta) (cwV 4 hts gX8_casesIn_X8_mostCases rfl rfl rfl ⟨rfl, dh_X8_mostCases⟩ ⟨Nat.le_of_ble_eq_true rfl, Nat.le_of_ble_eq_true rfl⟩) hK hN (hZ.kept hS) hP (hP.sub [0, 1, 2, 3] rfl) (va_recv (q := (RX8, TX8, 38)) hK hP (ci := 8) (q0 := 0) rfl rfl) rfl hl.1 rfl (Nat.le_of_ble_eq_true rfl) dX8_casesIn_21 ⟨Nat.le_of_ble_eq_true rfl, Nat.le_of_ble_eq_true rfl⟩ (fun r_1 hr_1 => ?_)
  obtain ⟨g_2, g_3, hsr_1_0⟩ := hr_1
  refine lv_istore (lv' := [(4, .int r_1), (3, .int nhu), (0, .ref m0), (1, .int 3), (2, .int h)]) hx hb dX8_casesIn_24 hl (by decide) rfl (fun ls hl => ?_)
  refine lv_aload_n hx hb dX8_casesIn_26 rfl (lv_at hl 2 rfl) ?_
  refine lv_iload_n hx hb dX8_casesIn_27 rfl (lv_at hl 1 rfl) ?_
  refine va_put (D := D) (ci := 8) (v := .int nhu) (ty := .int) (C := RX8) (T := TX8) (N := 38) hx hb hts hi_X8_casesIn_8 tyX8 tyX8_ok nmX8 hown hK hP hD hS 0 rfl rfl 6 (by decide) (hts (.fieldLink RX8 135 "TheLiningsInItModel" "hurry" "I") (List.mem_of_getElem? (i := 1) rfl)) (fun _ h9 => h9) rfl (tyX8_ok 6 (Nat.le_of_ble_eq_true rfl)) rfl rfl (Nat.le_of_ble_eq_true rfl) dX8_casesIn_28 (fun H locs hP hD hS => ?_)
  have h9R := zRe (ws' := [(zMO m0 npu nte nat_ nde nto nse nhu nga nsd nfa mrf mki mpa mta mla msl mco mhe mso msi msh mce mca mwo mnu mte nba npl nen nnu nwr mwa mke mma mth mtr nra nik), (mki, .inl (cI, 8, .inl gki)), (mpa, .inl (cI, 8, .inl gpa)), (mta, .inl (cI, 8, .inl gta))]) hP hD rfl
  clear hP hD
  obtain ⟨hP, hD⟩ := h9R
  refine lv_iload hx hb dX8_casesIn_31 (lv_at hl 0 rfl) ?_
  exact W.iret (v := r_1) hx hb hr (fun t ht hW => ⟨⟨r_1, (), rfl, ⟨(show (r_1 : Int32).toInt = zM gki gpa gta npu.toInt.toNat h.toInt 1 3 nde.toInt nse.toInt from by (have z := hsr_1_0; rw [show (if (0 : Int32).toInt = 0 then (1 : Int) else 0) = 1 from by decide] at z; exact z)), ⟨by omega, by omega⟩⟩, zRet ht hP hD [0, 1, 2, 3] (by decide) rfl⟩, hS.F ht⟩) hS.2.2 dX8_casesIn_33
set_option maxHeartbeats 4000000 in
set_option maxRecDepth 100000 in
theorem c_F_M_casesIn_4 (l : Launch) (D : va_G) (cI cJ cZ cP cS : ClassId) (po : zPool) (m0 mrf mki mpa mta mla msl mco mhe mso msi msh mce mca mwo mnu mte mwa mke mma mth mtr : Nat) (npu nte nat_ nde nto nse nhu nga nsd nfa nba npl nen nnu nwr nra nik : Int32) (gki gpa gta : Nat → Int32) (h : Int32) (hy0 : 0 ≤ npu.toInt) (hy1 : npu.toInt ≤ 8) (hy2 : 4 ≤ nte.toInt) (hy3 : nte.toInt ≤ 40) (hy4 : 0 ≤ nat_.toInt) (hy5 : nat_.toInt ≤ 40) (hy6 : 0 ≤ nde.toInt) (hy7 : nde.toInt ≤ 24) (hy8 : 0 ≤ nhu.toInt) (hy9 : nhu.toInt ≤ 9) (hy10 : 0 ≤ nra.toInt) (hy11 : nra.toInt ≤ 2000) (hy12 : 0 ≤ nik.toInt) (hy13 : nik.toInt ≤ 1) (hy14 : 0 ≤ h.toInt) (hy15 : h.toInt ≤ 9) (hy16 : 0 ≤ nse.toInt) (hy17 : nse.toInt ≤ 300) (hp_gki : zRg gki (0) 6) (hp_gpa : zRg gpa (0) 9) (hp_gta : zRg gta (0) 60) (hpz : Nat) : Met l yX8_casesIn wsX8_casesIn ({ frames := 10, cells := 0, slots := 0, locals := 264 }) (va_Pc [.ref m0, .int 4, .int h] (zW D (zKT cI cJ cZ cP cS) po [(zMO m0 npu nte nat_ nde nto nse nhu nga nsd nfa mrf mki mpa mta mla msl mco mhe mso msi msh mce mca mwo mnu mte nba npl nen nnu nwr mwa mke mma mth mtr nra nik), (mki, .inl (cI, 8, .inl gki)), (mpa, .inl (cI, 8, .inl gpa)), (mta, .inl (cI, 8, .inl gta))] hpz)) (va_Qi (fun (r : Int32) (_ : Unit) => (r.toInt = zM gki gpa gta npu.toInt.toNat h.toInt 1 4 nde.toInt nse.toInt) ∧ (0 ≤ r.toInt ∧ r.toInt ≤ 20736)) (zB D [(zMO m0 npu nte nat_ nde nto nse nhu nga nsd nfa mrf mki mpa mta mla msl mco mhe mso msi msh mce mca mwo mnu mte nba npl nen nnu nwr mwa mke mma mth mtr nra nik), (mki, .inl (cI, 8, .inl gki)), (mpa, .inl (cI, 8, .inl gpa)), (mta, .inl (cI, 8, .inl gta))] hpz (fun (_ : Unit) => [(zMO m0 npu nte nat_ nde nto nse nhu nga nsd nfa mrf mki mpa mta mla msl mco mhe mso msi msh mce mca mwo mnu mte nba npl nen nnu nwr mwa mke mma mth mtr nra nik), (mki, .inl (cI, 8, .inl gki)), (mpa, .inl (cI, 8, .inl gpa)), (mta, .inl (cI, 8, .inl gta))])) (va_A [(zMO m0 npu nte nat_ nde nto nse nhu nga nsd nfa mrf mki mpa mta mla msl mco mhe mso msi msh mce mca mwo mnu mte nba npl nen nnu nwr mwa mke mma mth mtr nra nik), (mki, .inl (cI, 8, .inl gki)), (mpa, .inl (cI, 8, .inl gpa)), (mta, .inl (cI, 8, .inl gta))] hpz)) 0 0 (va_A [(zMO m0 npu nte nat_ nde nto nse nhu nga nsd nfa mrf mki mpa mta mla msl mco mhe mso msi msh mce mca mwo mnu mte nba npl nen nnu nwr mwa mke mma mth mtr nra nik), (mki, .inl (cI, 8, .inl gki)), (mpa, .inl (cI, 8, .inl gpa)), (mta, .inl (cI, 8, .inl gta))] hpz) := by
  refine Met.ofW (cc := cX8_casesIn) (maxL := 5) (ret := (some .int)) (by decide) rfl ?_
  intro p e s m args below meth c s₁ B hml hv
  obtain ⟨rfl, hsz, hP, hK, hD0, hN, hZ⟩ := hv
  have hx := B.exec
  have hb := B.bytes
  have hr := B.returns
  have hts := atoms_spec (ws := wsX8_casesIn) B.pre
  have hown : s.vm.findClass RX8 = some m.cls := findClass_of_methodNamed B.named
  have hlocks := B.notSynchronized
  subst hsz
  have hD := hD0.self (sz := s.heap.size)
  have hA := zA_of hD
  have hl := lv_entry ([.ref m0, .int 4, .int h]) (n := 5) (Nat.le_of_ble_eq_true rfl)
  rw [lg_entry_eq]
  generalize (lg_sl ([.ref m0, .int 4, .int h]) ++ List.replicate (5 - (lg_sl ([.ref m0, .int 4, .int h])).length) Slot.unset).toArray = ls at hl ⊢
  replace hl : lv_has ls 5 [(0, .ref m0), (1, .int 4), (2, .int h)] := hl
  refine zw_begin hP hD (fun H locs hP1 hS => ?_)
  clear hP
  have hP := hP1
  clear hP1
  refine lv_aload_n hx hb dX8_casesIn_0 rfl (lv_at hl 0 rfl) ?_
  refine va_get (D := D) (ci := 8) (v := .int nhu) (C := RX8) (T := TX8) (N := 38) hx hb hts hi_X8_casesIn_8 hown hK hP 0 rfl rfl 6 (by decide) (hts (.fieldLink RX8 135 "TheLiningsInItModel" "hurry" "I") (List.mem_of_getElem? (i := 1) rfl)) (fun _ h9 => h9) rfl dX8_casesIn_1 ?_
  refine lv_istore_n (lv' := [(3, .int nhu), (0, .ref m0), (1, .int 4), (2, .int h)]) hx hb dX8_casesIn_4 rfl hl (by decide) rfl (fun ls hl => ?_)
  refine lv_aload_n hx hb dX8_casesIn_5 rfl (lv_at hl 1 rfl) ?_
  refine lv_iload_n hx hb dX8_casesIn_6 rfl (lv_at hl 3 rfl) ?_
  refine va_put (D := D) (ci := 8) (v := .int h) (ty := .int) (C := RX8) (T := TX8) (N := 38) hx hb hts hi_X8_casesIn_8 tyX8 tyX8_ok nmX8 hown hK hP hD hS 0 rfl rfl 6 (by decide) (hts (.fieldLink RX8 135 "TheLiningsInItModel" "hurry" "I") (List.mem_of_getElem? (i := 1) rfl)) (fun _ h9 => h9) rfl (tyX8_ok 6 (Nat.le_of_ble_eq_true rfl)) rfl rfl (Nat.le_of_ble_eq_true rfl) dX8_casesIn_7 (fun H locs hP hD hS => ?_)
  have h9R := zRe (ws' := [(zMO m0 npu nte nat_ nde nto nse h nga nsd nfa mrf mki mpa mta mla msl mco mhe mso msi msh mce mca mwo mnu mte nba npl nen nnu nwr mwa mke mma mth mtr nra nik), (mki, .inl (cI, 8, .inl gki)), (mpa, .inl (cI, 8, .inl gpa)), (mta, .inl (cI, 8, .inl gta))]) hP hD rfl
  clear hP hD
  obtain ⟨hP, hD⟩ := h9R
  refine lv_aload_n hx hb dX8_casesIn_10 rfl (lv_at hl 1 rfl) ?_
  refine lv_iload_n hx hb dX8_casesIn_11 rfl (lv_at hl 2 rfl) ?_
  refine lv_aload_n hx hb dX8_casesIn_12 rfl (lv_at hl 1 rfl) ?_
  refine va_get (D := D) (ci := 8) (v := .int nde) (C := RX8) (T := TX8) (N := 38) hx hb hts hi_X8_casesIn_8 hown hK hP 0 rfl rfl 3 (by decide) (hts (.fieldLink RX8 115 "TheLiningsInItModel" "depth" "I") (List.mem_of_getElem? (i := 2) rfl)) (fun _ h9 => h9) rfl dX8_casesIn_13 ?_
  refine lv_aload_n hx hb dX8_casesIn_16 rfl (lv_at hl 1 rfl) ?_
  refine va_get (D := D) (ci := 8) (v := .int nse) (C := RX8) (T := TX8) (N := 38) hx hb hts hi_X8_casesIn_8 hown hK hP 0 rfl rfl 5 (by decide) (hts (.fieldLink RX8 13 "TheLiningsInItModel" "seconds" "I") (List.mem_of_getElem? (i := 3) rfl)) (fun _ h9 => h9) rfl dX8_casesIn_17 ?_
  refine lv_iconst (v := 0) hx hb dX8_casesIn_20 (by decide) ?_
  have kc0 : (0 : Int32).toInt = 0 := by decide
  refine zc_V (As := [.int 4, .int nde, .int nse, .int 0]) (rest := []) ⟨hx, hb, hml, hown, hts⟩ (c_F_M_mostCases_4 l D cI cJ cZ cP cS po m0 mrf mki mpa mta mla msl mco mhe mso msi msh mce mca mwo mnu mte mwa mke mma mth mtr (npu) (nte) (nat_) (nde) (nto) (nse) (h) (nga) (nsd) (nfa) (nba) (npl) (nen) (nnu) (nwr) (nra) (nik) gki gpa gta (nde) (nse) (0) hy0 hy1 hy2 hy3 hy4 hy5 hy6 hy7 hy14 hy15 hy10 hy11 hy12 hy13 hy6 hy7 hy16 hy17 (by omega) (by omega) hp_gki hp_gpa hp_gta) (cwV 4 hts gX8_casesIn_X8_mostCases rfl rfl rfl ⟨rfl, dh_X8_mostCases⟩ ⟨Nat.le_of_ble_eq_true rfl, Nat.le_of_ble_eq_true rfl⟩) hK hN (hZ.kept hS) hP (hP.sub [0, 1, 2, 3] rfl) (va_recv (q := (RX8, TX8, 38)) hK hP (ci := 8) (q0 := 0) rfl rfl) rfl hl.1 rfl (Nat.le_of_ble_eq_true rfl) dX8_casesIn_21 ⟨Nat.le_of_ble_eq_true rfl, Nat.le_of_ble_eq_true rfl⟩ (fun r_1 hr_1 => ?_)
  obtain ⟨g_2, g_3, hsr_1_0⟩ := hr_1
  refine lv_istore (lv' := [(4, .int r_1), (3, .int nhu), (0, .ref m0), (1, .int 4), (2, .int h)]) hx hb dX8_casesIn_24 hl (by decide) rfl (fun ls hl => ?_)
  refine lv_aload_n hx hb dX8_casesIn_26 rfl (lv_at hl 2 rfl) ?_
  refine lv_iload_n hx hb dX8_casesIn_27 rfl (lv_at hl 1 rfl) ?_
  refine va_put (D := D) (ci := 8) (v := .int nhu) (ty := .int) (C := RX8) (T := TX8) (N := 38) hx hb hts hi_X8_casesIn_8 tyX8 tyX8_ok nmX8 hown hK hP hD hS 0 rfl rfl 6 (by decide) (hts (.fieldLink RX8 135 "TheLiningsInItModel" "hurry" "I") (List.mem_of_getElem? (i := 1) rfl)) (fun _ h9 => h9) rfl (tyX8_ok 6 (Nat.le_of_ble_eq_true rfl)) rfl rfl (Nat.le_of_ble_eq_true rfl) dX8_casesIn_28 (fun H locs hP hD hS => ?_)
  have h9R := zRe (ws' := [(zMO m0 npu nte nat_ nde nto nse nhu nga nsd nfa mrf mki mpa mta mla msl mco mhe mso msi msh mce mca mwo mnu mte nba npl nen nnu nwr mwa mke mma mth mtr nra nik), (mki, .inl (cI, 8, .inl gki)), (mpa, .inl (cI, 8, .inl gpa)), (mta, .inl (cI, 8, .inl gta))]) hP hD rfl
  clear hP hD
  obtain ⟨hP, hD⟩ := h9R
  refine lv_iload hx hb dX8_casesIn_31 (lv_at hl 0 rfl) ?_
  exact W.iret (v := r_1) hx hb hr (fun t ht hW => ⟨⟨r_1, (), rfl, ⟨(show (r_1 : Int32).toInt = zM gki gpa gta npu.toInt.toNat h.toInt 1 4 nde.toInt nse.toInt from by (have z := hsr_1_0; rw [show (if (0 : Int32).toInt = 0 then (1 : Int) else 0) = 1 from by decide] at z; exact z)), ⟨by omega, by omega⟩⟩, zRet ht hP hD [0, 1, 2, 3] (by decide) rfl⟩, hS.F ht⟩) hS.2.2 dX8_casesIn_33
end
