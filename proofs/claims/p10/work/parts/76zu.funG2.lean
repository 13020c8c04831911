set_option maxHeartbeats 4000000 in
set_option maxRecDepth 100000 in
theorem c_F_M_leastCost_0 (l : Launch) (D : va_G) (cI cJ cZ cP cS : ClassId) (po : zPool) (m0 mrf mki mpa mta mla msl mco mhe mso msi msh mce mca mwo mnu mte mwa mke mma mth mtr : Nat) (npu nte nat_ nde nto nse nhu nga nsd nfa nba npl nen nnu nwr nra nik : Int32) (gki gpa gta gco : Nat → Int32) (d sec : Int32) (hy0 : 0 ≤ npu.toInt) (hy1 : npu.toInt ≤ 8) (hy2 : 4 ≤ nte.toInt) (hy3 : nte.toInt ≤ 40) (hy4 : 0 ≤ nat_.toInt) (hy5 : nat_.toInt ≤ 40) (hy6 : 0 ≤ nde.toInt) (hy7 : nde.toInt ≤ 24) (hy8 : 0 ≤ nhu.toInt) (hy9 : nhu.toInt ≤ 9) (hy10 : 0 ≤ nra.toInt) (hy11 : nra.toInt ≤ 2000) (hy12 : 0 ≤ nik.toInt) (hy13 : nik.toInt ≤ 1) (hy14 : 0 ≤ d.toInt) (hy15 : d.toInt ≤ 24) (hy16 : 0 ≤ sec.toInt) (hy17 : sec.toInt ≤ 300) (hp_gki : zRg gki (0) 6) (hp_gpa : zRg gpa (0) 9) (hp_gta : zRg gta (0) 60) (hp_gco : zRg gco (0) 99) : Met l yX8_leastCost wsX8_leastCost ({ frames := 1, cells := 0, slots := 0, locals := 21 }) (va_Pc [.ref m0, .int 0, .int d, .int sec] (zR D (zKT cI cJ cZ cP cS) po [(zMO m0 npu nte nat_ nde nto nse nhu nga nsd nfa mrf mki mpa mta mla msl mco mhe mso msi msh mce mca mwo mnu mte nba npl nen nnu nwr mwa mke mma mth mtr nra nik), (mki, .inl (cI, 8, .inl gki)), (mpa, .inl (cI, 8, .inl gpa)), (mta, .inl (cI, 8, .inl gta)), (mco, .inl (cI, 3, .inl gco))])) (vp_Si (fun r => 0 ≤ r.toInt ∧ r.toInt ≤ 99 ∧ (r.toInt = (zLn gki gpa gta npu.toInt.toNat nhu.toInt (gco 0).toInt (gco 1).toInt (gco 2).toInt 0) d.toInt sec.toInt))) 0 0 (fun _ => False) := by
  refine Met.ofW (cc := cX8_leastCost) (maxL := 7) (ret := (some .int)) (by decide) rfl ?_
  intro p e s m args below meth c s₁ B hml hv
  obtain ⟨rfl, hP, hK, hN, hZ⟩ := hv
  have hx := B.exec
  have hb := B.bytes
  have hr := B.returns
  have hts := atoms_spec (ws := wsX8_leastCost) B.pre
  have hown : s.vm.findClass RX8 = some m.cls := findClass_of_methodNamed B.named
  have hlocks := B.notSynchronized
  have hl := lv_entry ([.ref m0, .int 0, .int d, .int sec]) (n := 7) (Nat.le_of_ble_eq_true rfl)
  rw [lg_entry_eq]
  generalize (lg_sl ([.ref m0, .int 0, .int d, .int sec]) ++ List.replicate (7 - (lg_sl ([.ref m0, .int 0, .int d, .int sec])).length) Slot.unset).toArray = ls at hl ⊢
  replace hl : lv_has ls 7 [(0, .ref m0), (1, .int 0), (2, .int d), (3, .int sec)] := hl
  refine lv_iload_n hx hb dX8_leastCost_0 rfl (lv_at hl 2 rfl) ?_
  refine lv_if_ne (tgt := 6) hx hb dX8_leastCost_1 (by decide) (fun c_1 => ?_) (fun c_1 => ?_)
  · have fc_1 : d.toInt ≠ 0 := zf_ne c_1 rfl (by decide)
    refine lv_aload_n hx hb dX8_leastCost_6 rfl (lv_at hl 0 rfl) ?_
    refine va_get (D := D) (ci := 8) (v := .ref mco) (C := RX8) (T := TX8) (N := 38) hx hb hts hi_X8_leastCost_8 hown hK hP 0 rfl rfl 16 (by decide) (hts (.fieldLink RX8 44 "TheLiningsInItModel" "cost" "[I") (List.mem_of_getElem? (i := 1) rfl)) (fun _ h9 => h9) rfl dX8_leastCost_7 ?_
    refine lv_iconst (v := 2) hx hb dX8_leastCost_10 (by decide) ?_
    refine va_iald hx hb hK hP 4 0 rfl rfl (zf_in (by decide) (by decide)) dX8_leastCost_11 ?_
    refine lv_topi (fun x_2 ex_2 => ?_)
    have bx_2 : 0 ≤ x_2.toInt ∧ x_2.toInt ≤ 99 := by rw [ex_2]; exact hp_gco _
    refine lv_aload_n hx hb dX8_leastCost_12 rfl (lv_at hl 0 rfl) ?_
    refine lv_iload_n hx hb dX8_leastCost_13 rfl (lv_at hl 1 rfl) ?_
    refine zc_V (As := [.int 0]) (rest := [.int x_2]) ⟨hx, hb, hml, hown, hts⟩ (c_M_power_0 l D cI cJ cZ cP cS po m0 mrf mki mpa mta mla msl mco mhe mso msi msh mce mca mwo mnu mte mwa mke mma mth mtr (npu) (nte) (nat_) (nde) (nto) (nse) (nhu) (nga) (nsd) (nfa) (nba) (npl) (nen) (nnu) (nwr) (nra) (nik) hy0 hy1 hy2 hy3 hy4 hy5 hy6 hy7 hy8 hy9 hy10 hy11 hy12 hy13) (cwV 1 hts gX8_leastCost_X8_power rfl rfl rfl ⟨rfl, dh_X8_power⟩ ⟨Nat.le_of_ble_eq_true rfl, Nat.le_of_ble_eq_true rfl⟩) hK hN hZ hP (hP.sub [0] rfl) (va_recv (q := (RX8, TX8, 38)) hK hP (ci := 8) (q0 := 0) rfl rfl) rfl hl.1 rfl (Nat.le_of_ble_eq_true rfl) dX8_leastCost_14 ⟨Nat.le_of_ble_eq_true rfl, Nat.le_of_ble_eq_true rfl⟩ (fun r_3 hr_3 => ?_)
    obtain rfl := hr_3
    refine lv_imul hx hb dX8_leastCost_17 ?_
    refine lv_topi (fun x_4 ex_4 => ?_)
    have qx_4 : x_4.toInt = x_2.toInt * 1 := by rw [ex_4]; exact zf_mul rfl (by decide) (by omega) (by omega)
    refine lv_istore (lv' := [(4, .int x_4), (0, .ref m0), (1, .int 0), (2, .int d), (3, .int sec)]) hx hb dX8_leastCost_18 hl (by decide) rfl (fun ls hl => ?_)
    refine lv_iload_n hx hb dX8_leastCost_20 rfl (lv_at hl 4 rfl) ?_
    refine lv_bipush (v := 30) hx hb dX8_leastCost_21 (by decide) ?_
    refine lv_icmp_lt (tgt := 57) hx hb dX8_leastCost_23 (by decide) (fun c_5 => ?_) (fun c_5 => ?_)
    · have fc_5 : sec.toInt < 30 := zf_lt c_5 rfl (by decide)
      refine lv_iconst (v := 0) hx hb dX8_leastCost_57 (by decide) ?_
      refine lv_istore (lv' := [(5, .int 0), (4, .int x_4), (0, .ref m0), (1, .int 0), (2, .int d), (3, .int sec)]) hx hb dX8_leastCost_58 hl (by decide) rfl (fun ls hl => ?_)
      refine lv_iload hx hb dX8_leastCost_60 (lv_at hl 0 rfl) ?_
      refine lv_aload_n hx hb dX8_leastCost_62 rfl (lv_at hl 2 rfl) ?_
      refine va_get (D := D) (ci := 8) (v := .int npu) (C := RX8) (T := TX8) (N := 38) hx hb hts hi_X8_leastCost_8 hown hK hP 0 rfl rfl 0 (by decide) (hts (.fieldLink RX8 90 "TheLiningsInItModel" "pulls" "I") (List.mem_of_getElem? (i := 2) rfl)) (fun _ h9 => h9) rfl dX8_leastCost_63 ?_
      refine lv_icmp_ge (tgt := 120) hx hb dX8_leastCost_66 (by decide) (fun c_6 => ?_) (fun c_6 => ?_)
      · have fc_6 : npu.toInt ≤ 0 := zf_le c_6 rfl (by decide)
        refine lv_iload hx hb dX8_leastCost_120 (lv_at hl 1 rfl) ?_
        exact W.iret (v := x_4) hx hb hr (fun t ht hW => ⟨x_4, rfl, ⟨by omega, by omega, (show (x_4 : Int32).toInt = (zLn gki gpa gta npu.toInt.toNat nhu.toInt (gco 0).toInt (gco 1).toInt (gco 2).toInt 0) d.toInt sec.toInt from by (rw [zLn_0, if_neg (by omega)]; (have nx_2 : (gco 2).toInt = x_2.toInt := (by rw [ex_2, show (2 : Int32).toNatClampNeg = 2 from by decide]); unfold zAt; rw [show zPw 0 = 1 from by decide]; first | (rw [if_pos (by omega)]; omega) | (rw [if_neg (by omega)]; omega))))⟩, ht⟩) (fun q hq => by cases hq) dX8_leastCost_122
      · have fc_6 : 0 < npu.toInt := zf_nle c_6 rfl (by decide)
        refine lv_iload_n hx hb dX8_leastCost_69 rfl (lv_at hl 3 rfl) ?_
        refine lv_if_le (tgt := 120) hx hb dX8_leastCost_70 (by decide) (fun c_7 => ?_) (fun c_7 => ?_)
        · refine lv_iload hx hb dX8_leastCost_120 (lv_at hl 1 rfl) ?_
          exact W.iret (v := x_4) hx hb hr (fun t ht hW => ⟨x_4, rfl, ⟨by omega, by omega, (show (x_4 : Int32).toInt = (zLn gki gpa gta npu.toInt.toNat nhu.toInt (gco 0).toInt (gco 1).toInt (gco 2).toInt 0) d.toInt sec.toInt from by (rw [zLn_0, if_neg (by omega)]; (have nx_2 : (gco 2).toInt = x_2.toInt := (by rw [ex_2, show (2 : Int32).toNatClampNeg = 2 from by decide]); unfold zAt; rw [show zPw 0 = 1 from by decide]; first | (rw [if_pos (by omega)]; omega) | (rw [if_neg (by omega)]; omega))))⟩, ht⟩) (fun q hq => by cases hq) dX8_leastCost_122
        · exact absurd c_7 (by decide)
    · have fc_5 : 30 ≤ sec.toInt := zf_nlt c_5 rfl (by decide)
      refine lv_aload_n hx hb dX8_leastCost_26 rfl (lv_at hl 1 rfl) ?_
      refine va_get (D := D) (ci := 8) (v := .ref mco) (C := RX8) (T := TX8) (N := 38) hx hb hts hi_X8_leastCost_8 hown hK hP 0 rfl rfl 16 (by decide) (hts (.fieldLink RX8 44 "TheLiningsInItModel" "cost" "[I") (List.mem_of_getElem? (i := 1) rfl)) (fun _ h9 => h9) rfl dX8_leastCost_27 ?_
      refine lv_iconst (v := 1) hx hb dX8_leastCost_30 (by decide) ?_
      refine va_iald hx hb hK hP 4 0 rfl rfl (zf_in (by decide) (by decide)) dX8_leastCost_31 ?_
      refine lv_topi (fun x_8 ex_8 => ?_)
      have bx_8 : 0 ≤ x_8.toInt ∧ x_8.toInt ≤ 99 := by rw [ex_8]; exact hp_gco _
      refine lv_aload_n hx hb dX8_leastCost_32 rfl (lv_at hl 1 rfl) ?_
      refine lv_iload_n hx hb dX8_leastCost_33 rfl (lv_at hl 2 rfl) ?_
      refine zc_V (As := [.int 0]) (rest := [.int x_8]) ⟨hx, hb, hml, hown, hts⟩ (c_M_power_0 l D cI cJ cZ cP cS po m0 mrf mki mpa mta mla msl mco mhe mso msi msh mce mca mwo mnu mte mwa mke mma mth mtr (npu) (nte) (nat_) (nde) (nto) (nse) (nhu) (nga) (nsd) (nfa) (nba) (npl) (nen) (nnu) (nwr) (nra) (nik) hy0 hy1 hy2 hy3 hy4 hy5 hy6 hy7 hy8 hy9 hy10 hy11 hy12 hy13) (cwV 1 hts gX8_leastCost_X8_power rfl rfl rfl ⟨rfl, dh_X8_power⟩ ⟨Nat.le_of_ble_eq_true rfl, Nat.le_of_ble_eq_true rfl⟩) hK hN hZ hP (hP.sub [0] rfl) (va_recv (q := (RX8, TX8, 38)) hK hP (ci := 8) (q0 := 0) rfl rfl) rfl hl.1 rfl (Nat.le_of_ble_eq_true rfl) dX8_leastCost_34 ⟨Nat.le_of_ble_eq_true rfl, Nat.le_of_ble_eq_true rfl⟩ (fun r_9 hr_9 => ?_)
      obtain rfl := hr_9
      refine lv_imul hx hb dX8_leastCost_37 ?_
      refine lv_topi (fun x_10 ex_10 => ?_)
      have qx_10 : x_10.toInt = x_8.toInt * 1 := by rw [ex_10]; exact zf_mul rfl (by decide) (by omega) (by omega)
      refine lv_iload hx hb dX8_leastCost_38 (lv_at hl 0 rfl) ?_
      refine lv_icmp_ge (tgt := 57) hx hb dX8_leastCost_40 (by decide) (fun c_11 => ?_) (fun c_11 => ?_)
      · have fc_11 : x_4.toInt ≤ x_10.toInt := zf_le c_11 rfl rfl
        refine lv_iconst (v := 0) hx hb dX8_leastCost_57 (by decide) ?_
        refine lv_istore (lv' := [(5, .int 0), (4, .int x_4), (0, .ref m0), (1, .int 0), (2, .int d), (3, .int sec)]) hx hb dX8_leastCost_58 hl (by decide) rfl (fun ls hl => ?_)
        refine lv_iload hx hb dX8_leastCost_60 (lv_at hl 0 rfl) ?_
        refine lv_aload_n hx hb dX8_leastCost_62 rfl (lv_at hl 2 rfl) ?_
        refine va_get (D := D) (ci := 8) (v := .int npu) (C := RX8) (T := TX8) (N := 38) hx hb hts hi_X8_leastCost_8 hown hK hP 0 rfl rfl 0 (by decide) (hts (.fieldLink RX8 90 "TheLiningsInItModel" "pulls" "I") (List.mem_of_getElem? (i := 2) rfl)) (fun _ h9 => h9) rfl dX8_leastCost_63 ?_
        refine lv_icmp_ge (tgt := 120) hx hb dX8_leastCost_66 (by decide) (fun c_12 => ?_) (fun c_12 => ?_)
        · have fc_12 : npu.toInt ≤ 0 := zf_le c_12 rfl (by decide)
          refine lv_iload hx hb dX8_leastCost_120 (lv_at hl 1 rfl) ?_
          exact W.iret (v := x_4) hx hb hr (fun t ht hW => ⟨x_4, rfl, ⟨by omega, by omega, (show (x_4 : Int32).toInt = (zLn gki gpa gta npu.toInt.toNat nhu.toInt (gco 0).toInt (gco 1).toInt (gco 2).toInt 0) d.toInt sec.toInt from by (rw [zLn_0, if_neg (by omega)]; (have nx_2 : (gco 2).toInt = x_2.toInt := (by rw [ex_2, show (2 : Int32).toNatClampNeg = 2 from by decide]); have nx_8 : (gco 1).toInt = x_8.toInt := (by rw [ex_8, show (1 : Int32).toNatClampNeg = 1 from by decide]); unfold zAt; rw [show zPw 0 = 1 from by decide]; first | (rw [if_pos (by omega)]; omega) | (rw [if_neg (by omega)]; omega))))⟩, ht⟩) (fun q hq => by cases hq) dX8_leastCost_122
        · have fc_12 : 0 < npu.toInt := zf_nle c_12 rfl (by decide)
          refine lv_iload_n hx hb dX8_leastCost_69 rfl (lv_at hl 3 rfl) ?_
          refine lv_if_le (tgt := 120) hx hb dX8_leastCost_70 (by decide) (fun c_13 => ?_) (fun c_13 => ?_)
          · refine lv_iload hx hb dX8_leastCost_120 (lv_at hl 1 rfl) ?_
            exact W.iret (v := x_4) hx hb hr (fun t ht hW => ⟨x_4, rfl, ⟨by omega, by omega, (show (x_4 : Int32).toInt = (zLn gki gpa gta npu.toInt.toNat nhu.toInt (gco 0).toInt (gco 1).toInt (gco 2).toInt 0) d.toInt sec.toInt from by (rw [zLn_0, if_neg (by omega)]; (have nx_2 : (gco 2).toInt = x_2.toInt := (by rw [ex_2, show (2 : Int32).toNatClampNeg = 2 from by decide]); have nx_8 : (gco 1).toInt = x_8.toInt := (by rw [ex_8, show (1 : Int32).toNatClampNeg = 1 from by decide]); unfold zAt; rw [show zPw 0 = 1 from by decide]; first | (rw [if_pos (by omega)]; omega) | (rw [if_neg (by omega)]; omega))))⟩, ht⟩) (fun q hq => by cases hq) dX8_leastCost_122
          · exact absurd c_13 (by decide)
      · have fc_11 : x_10.toInt < x_4.toInt := zf_nle c_11 rfl rfl
        refine lv_aload_n hx hb dX8_leastCost_43 rfl (lv_at hl 1 rfl) ?_
        refine va_get (D := D) (ci := 8) (v := .ref mco) (C := RX8) (T := TX8) (N := 38) hx hb hts hi_X8_leastCost_8 hown hK hP 0 rfl rfl 16 (by decide) (hts (.fieldLink RX8 44 "TheLiningsInItModel" "cost" "[I") (List.mem_of_getElem? (i := 1) rfl)) (fun _ h9 => h9) rfl dX8_leastCost_44 ?_
        refine lv_iconst (v := 1) hx hb dX8_leastCost_47 (by decide) ?_
        refine va_iald hx hb hK hP 4 0 rfl rfl (zf_in (by decide) (by decide)) dX8_leastCost_48 ?_
        refine lv_topi (fun y_14 ey_14 => ?_)
        obtain rfl : x_8 = y_14 := ex_8.trans ey_14.symm
        refine lv_aload_n hx hb dX8_leastCost_49 rfl (lv_at hl 1 rfl) ?_
        refine lv_iload_n hx hb dX8_leastCost_50 rfl (lv_at hl 2 rfl) ?_
        refine zc_V (As := [.int 0]) (rest := [.int x_8]) ⟨hx, hb, hml, hown, hts⟩ (c_M_power_0 l D cI cJ cZ cP cS po m0 mrf mki mpa mta mla msl mco mhe mso msi msh mce mca mwo mnu mte mwa mke mma mth mtr (npu) (nte) (nat_) (nde) (nto) (nse) (nhu) (nga) (nsd) (nfa) (nba) (npl) (nen) (nnu) (nwr) (nra) (nik) hy0 hy1 hy2 hy3 hy4 hy5 hy6 hy7 hy8 hy9 hy10 hy11 hy12 hy13) (cwV 1 hts gX8_leastCost_X8_power rfl rfl rfl ⟨rfl, dh_X8_power⟩ ⟨Nat.le_of_ble_eq_true rfl, Nat.le_of_ble_eq_true rfl⟩) hK hN hZ hP (hP.sub [0] rfl) (va_recv (q := (RX8, TX8, 38)) hK hP (ci := 8) (q0 := 0) rfl rfl) rfl hl.1 rfl (Nat.le_of_ble_eq_true rfl) dX8_leastCost_51 ⟨Nat.le_of_ble_eq_true rfl, Nat.le_of_ble_eq_true rfl⟩ (fun r_15 hr_15 => ?_)
        obtain rfl := hr_15
        refine lv_imul hx hb dX8_leastCost_54 ?_
        refine lv_topi (fun y_16 ey_16 => ?_)
        obtain rfl : x_10 = y_16 := ex_10.trans ey_16.symm
        refine lv_istore (lv' := [(4, .int x_10), (0, .ref m0), (1, .int 0), (2, .int d), (3, .int sec)]) hx hb dX8_leastCost_55 hl (by decide) rfl (fun ls hl => ?_)
        refine lv_iconst (v := 0) hx hb dX8_leastCost_57 (by decide) ?_
        refine lv_istore (lv' := [(5, .int 0), (4, .int x_10), (0, .ref m0), (1, .int 0), (2, .int d), (3, .int sec)]) hx hb dX8_leastCost_58 hl (by decide) rfl (fun ls hl => ?_)
        refine lv_iload hx hb dX8_leastCost_60 (lv_at hl 0 rfl) ?_
        refine lv_aload_n hx hb dX8_leastCost_62 rfl (lv_at hl 2 rfl) ?_
        refine va_get (D := D) (ci := 8) (v := .int npu) (C := RX8) (T := TX8) (N := 38) hx hb hts hi_X8_leastCost_8 hown hK hP 0 rfl rfl 0 (by decide) (hts (.fieldLink RX8 90 "TheLiningsInItModel" "pulls" "I") (List.mem_of_getElem? (i := 2) rfl)) (fun _ h9 => h9) rfl dX8_leastCost_63 ?_
        refine lv_icmp_ge (tgt := 120) hx hb dX8_leastCost_66 (by decide) (fun c_17 => ?_) (fun c_17 => ?_)
        · have fc_17 : npu.toInt ≤ 0 := zf_le c_17 rfl (by decide)
          refine lv_iload hx hb dX8_leastCost_120 (lv_at hl 1 rfl) ?_
          exact W.iret (v := x_10) hx hb hr (fun t ht hW => ⟨x_10, rfl, ⟨by omega, by omega, (show (x_10 : Int32).toInt = (zLn gki gpa gta npu.toInt.toNat nhu.toInt (gco 0).toInt (gco 1).toInt (gco 2).toInt 0) d.toInt sec.toInt from by (rw [zLn_0, if_neg (by omega)]; (have nx_2 : (gco 2).toInt = x_2.toInt := (by rw [ex_2, show (2 : Int32).toNatClampNeg = 2 from by decide]); have nx_8 : (gco 1).toInt = x_8.toInt := (by rw [ex_8, show (1 : Int32).toNatClampNeg = 1 from by decide]); unfold zAt; rw [show zPw 0 = 1 from by decide]; first | (rw [if_pos (by omega)]; omega) | (rw [if_neg (by omega)]; omega))))⟩, ht⟩) (fun q hq => by cases hq) dX8_leastCost_122
        · have fc_17 : 0 < npu.toInt := zf_nle c_17 rfl (by decide)
          refine lv_iload_n hx hb dX8_leastCost_69 rfl (lv_at hl 3 rfl) ?_
          refine lv_if_le (tgt := 120) hx hb dX8_leastCost_70 (by decide) (fun c_18 => ?_) (fun c_18 => ?_)
          · refine lv_iload hx hb dX8_leastCost_120 (lv_at hl 1 rfl) ?_
            exact W.iret (v := x_10) hx hb hr (fun t ht hW => ⟨x_10, rfl, ⟨by omega, by omega, (show (x_10 : Int32).toInt = (zLn gki gpa gta npu.toInt.toNat nhu.toInt (gco 0).toInt (gco 1).toInt (gco 2).toInt 0) d.toInt sec.toInt from by (rw [zLn_0, if_neg (by omega)]; (have nx_2 : (gco 2).toInt = x_2.toInt := (by rw [ex_2, show (2 : Int32).toNatClampNeg = 2 from by decide]); have nx_8 : (gco 1).toInt = x_8.toInt := (by rw [ex_8, show (1 : Int32).toNatClampNeg = 1 from by decide]); unfold zAt; rw [show zPw 0 = 1 from by decide]; first | (rw [if_pos (by omega)]; omega) | (rw [if_neg (by omega)]; omega))))⟩, ht⟩) (fun q hq => by cases hq) dX8_leastCost_122
          · exact absurd c_18 (by decide)
  · have fc_1 : d.toInt = 0 := zf_eq c_1 rfl (by decide)
    refine lv_iconst (v := 0) hx hb dX8_leastCost_4 (by decide) ?_
    exact W.iret (v := 0) hx hb hr (fun t ht hW => ⟨0, rfl, ⟨by decide, by decide, (show (0 : Int32).toInt = (zLn gki gpa gta npu.toInt.toNat nhu.toInt (gco 0).toInt (gco 1).toInt (gco 2).toInt 0) d.toInt sec.toInt from by (have k9 : (0 : Int32).toInt = 0 := (by decide); rw [zLn_0, if_pos (by omega)]; exact k9))⟩, ht⟩) (fun q hq => by cases hq) dX8_leastCost_5
set_option maxHeartbeats 4000000 in
set_option maxRecDepth 100000 in
theorem c_F_M_costBy_1 (l : Launch) (D : va_G) (cI cJ cZ cP cS : ClassId) (po : zPool) (m0 mrf mki mpa mta mla msl mco mhe mso msi msh mce mca mwo mnu mte mwa mke mma mth mtr : Nat) (npu nte nat_ nde nto nse nhu nga nsd nfa nba npl nen nnu nwr nra nik : Int32) (gki gpa gta gco : Nat → Int32) (p_ d sec : Int32) (hy0 : 0 ≤ npu.toInt) (hy1 : npu.toInt ≤ 8) (hy2 : 4 ≤ nte.toInt) (hy3 : nte.toInt ≤ 40) (hy4 : 0 ≤ nat_.toInt) (hy5 : nat_.toInt ≤ 40) (hy6 : 0 ≤ nde.toInt) (hy7 : nde.toInt ≤ 24) (hy8 : 0 ≤ nhu.toInt) (hy9 : nhu.toInt ≤ 9) (hy10 : 0 ≤ nra.toInt) (hy11 : nra.toInt ≤ 2000) (hy12 : 0 ≤ nik.toInt) (hy13 : nik.toInt ≤ 1) (hy14 : 0 ≤ p_.toInt) (hy15 : p_.toInt ≤ 7) (hy16 : 0 ≤ d.toInt) (hy17 : d.toInt ≤ 24) (hy18 : 0 ≤ sec.toInt) (hy19 : sec.toInt ≤ 300) (htl : (gta p_.toNatClampNeg).toInt ≤ sec.toInt) (hp_gki : zRg gki (0) 6) (hp_gpa : zRg gpa (0) 9) (hp_gta : zRg gta (0) 60) (hp_gco : zRg gco (0) 99) : Met l yX8_costBy wsX8_costBy ({ frames := 2, cells := 0, slots := 0, locals := 47 }) (va_Pc [.ref m0, .int p_, .int 1, .int d, .int sec] (zR D (zKT cI cJ cZ cP cS) po [(zMO m0 npu nte nat_ nde nto nse nhu nga nsd nfa mrf mki mpa mta mla msl mco mhe mso msi msh mce mca mwo mnu mte nba npl nen nnu nwr mwa mke mma mth mtr nra nik), (mki, .inl (cI, 8, .inl gki)), (mpa, .inl (cI, 8, .inl gpa)), (mta, .inl (cI, 8, .inl gta)), (mco, .inl (cI, 3, .inl gco))])) (vp_Si (fun r => 0 ≤ r.toInt ∧ r.toInt ≤ 2376 ∧ (r.toInt = zLb (zLn gki gpa gta npu.toInt.toNat nhu.toInt (gco 0).toInt (gco 1).toInt (gco 2).toInt 0) (gco 0).toInt (zPw 1) (gki p_.toNatClampNeg).toInt (gpa p_.toNatClampNeg).toInt (gta p_.toNatClampNeg).toInt nhu.toInt d.toInt sec.toInt))) 0 0 (fun _ => False) := by sorry
set_option maxHeartbeats 4000000 in
set_option maxRecDepth 100000 in
theorem c_F_M_leastCost_1 (l : Launch) (D : va_G) (cI cJ cZ cP cS : ClassId) (po : zPool) (m0 mrf mki mpa mta mla msl mco mhe mso msi msh mce mca mwo mnu mte mwa mke mma mth mtr : Nat) (npu nte nat_ nde nto nse nhu nga nsd nfa nba npl nen nnu nwr nra nik : Int32) (gki gpa gta gco : Nat → Int32) (d sec : Int32) (hy0 : 0 ≤ npu.toInt) (hy1 : npu.toInt ≤ 8) (hy2 : 4 ≤ nte.toInt) (hy3 : nte.toInt ≤ 40) (hy4 : 0 ≤ nat_.toInt) (hy5 : nat_.toInt ≤ 40) (hy6 : 0 ≤ nde.toInt) (hy7 : nde.toInt ≤ 24) (hy8 : 0 ≤ nhu.toInt) (hy9 : nhu.toInt ≤ 9) (hy10 : 0 ≤ nra.toInt) (hy11 : nra.toInt ≤ 2000) (hy12 : 0 ≤ nik.toInt) (hy13 : nik.toInt ≤ 1) (hy14 : 0 ≤ d.toInt) (hy15 : d.toInt ≤ 24) (hy16 : 0 ≤ sec.toInt) (hy17 : sec.toInt ≤ 300) (hp_gki : zRg gki (0) 6) (hp_gpa : zRg gpa (0) 9) (hp_gta : zRg gta (0) 60) (hp_gco : zRg gco (0) 99) : Met l yX8_leastCost wsX8_leastCost ({ frames := 3, cells := 0, slots := 0, locals := 73 }) (va_Pc [.ref m0, .int 1, .int d, .int sec] (zR D (zKT cI cJ cZ cP cS) po [(zMO m0 npu nte nat_ nde nto nse nhu nga nsd nfa mrf mki mpa mta mla msl mco mhe mso msi msh mce mca mwo mnu mte nba npl nen nnu nwr mwa mke mma mth mtr nra nik), (mki, .inl (cI, 8, .inl gki)), (mpa, .inl (cI, 8, .inl gpa)), (mta, .inl (cI, 8, .inl gta)), (mco, .inl (cI, 3, .inl gco))])) (vp_Si (fun r => 0 ≤ r.toInt ∧ r.toInt ≤ 1188 ∧ (r.toInt = (zLn gki gpa gta npu.toInt.toNat nhu.toInt (gco 0).toInt (gco 1).toInt (gco 2).toInt 1) d.toInt sec.toInt))) 0 0 (fun _ => False) := by
  refine Met.ofW (cc := cX8_leastCost) (maxL := 7) (ret := (some .int)) (by decide) rfl ?_
  intro p e s m args below meth c s₁ B hml hv
  obtain ⟨rfl, hP, hK, hN, hZ⟩ := hv
  have hx := B.exec
  have hb := B.bytes
  have hr := B.returns
  have hts := atoms_spec (ws := wsX8_leastCost) B.pre
  have hown : s.vm.findClass RX8 = some m.cls := findClass_of_methodNamed B.named
  have hlocks := B.notSynchronized
  have hl := lv_entry ([.ref m0, .int 1, .int d, .int sec]) (n := 7) (Nat.le_of_ble_eq_true rfl)
  rw [lg_entry_eq]
  generalize (lg_sl ([.ref m0, .int 1, .int d, .int sec]) ++ List.replicate (7 - (lg_sl ([.ref m0, .int 1, .int d, .int sec])).length) Slot.unset).toArray = ls at hl ⊢
  replace hl : lv_has ls 7 [(0, .ref m0), (1, .int 1), (2, .int d), (3, .int sec)] := hl
  refine lv_iload_n hx hb dX8_leastCost_0 rfl (lv_at hl 2 rfl) ?_
  refine lv_if_ne (tgt := 6) hx hb dX8_leastCost_1 (by decide) (fun c_1 => ?_) (fun c_1 => ?_)
  · have fc_1 : d.toInt ≠ 0 := zf_ne c_1 rfl (by decide)
    refine lv_aload_n hx hb dX8_leastCost_6 rfl (lv_at hl 0 rfl) ?_
    refine va_get (D := D) (ci := 8) (v := .ref mco) (C := RX8) (T := TX8) (N := 38) hx hb hts hi_X8_leastCost_8 hown hK hP 0 rfl rfl 16 (by decide) (hts (.fieldLink RX8 44 "TheLiningsInItModel" "cost" "[I") (List.mem_of_getElem? (i := 1) rfl)) (fun _ h9 => h9) rfl dX8_leastCost_7 ?_
    refine lv_iconst (v := 2) hx hb dX8_leastCost_10 (by decide) ?_
    refine va_iald hx hb hK hP 4 0 rfl rfl (zf_in (by decide) (by decide)) dX8_leastCost_11 ?_
    refine lv_topi (fun x_2 ex_2 => ?_)
    have bx_2 : 0 ≤ x_2.toInt ∧ x_2.toInt ≤ 99 := by rw [ex_2]; exact hp_gco _
    refine lv_aload_n hx hb dX8_leastCost_12 rfl (lv_at hl 0 rfl) ?_
    refine lv_iload_n hx hb dX8_leastCost_13 rfl (lv_at hl 1 rfl) ?_
    refine zc_V (As := [.int 1]) (rest := [.int x_2]) ⟨hx, hb, hml, hown, hts⟩ (c_M_power_1 l D cI cJ cZ cP cS po m0 mrf mki mpa mta mla msl mco mhe mso msi msh mce mca mwo mnu mte mwa mke mma mth mtr (npu) (nte) (nat_) (nde) (nto) (nse) (nhu) (nga) (nsd) (nfa) (nba) (npl) (nen) (nnu) (nwr) (nra) (nik) hy0 hy1 hy2 hy3 hy4 hy5 hy6 hy7 hy8 hy9 hy10 hy11 hy12 hy13) (cwV 1 hts gX8_leastCost_X8_power rfl rfl rfl ⟨rfl, dh_X8_power⟩ ⟨Nat.le_of_ble_eq_true rfl, Nat.le_of_ble_eq_true rfl⟩) hK hN hZ hP (hP.sub [0] rfl) (va_recv (q := (RX8, TX8, 38)) hK hP (ci := 8) (q0 := 0) rfl rfl) rfl hl.1 rfl (Nat.le_of_ble_eq_true rfl) dX8_leastCost_14 ⟨Nat.le_of_ble_eq_true rfl, Nat.le_of_ble_eq_true rfl⟩ (fun r_3 hr_3 => ?_)
    obtain rfl := hr_3
    refine lv_imul hx hb dX8_leastCost_17 ?_
    refine lv_topi (fun x_4 ex_4 => ?_)
    have qx_4 : x_4.toInt = x_2.toInt * 12 := by rw [ex_4]; exact zf_mul rfl (by decide) (by omega) (by omega)
    refine lv_istore (lv' := [(4, .int x_4), (0, .ref m0), (1, .int 1), (2, .int d), (3, .int sec)]) hx hb dX8_leastCost_18 hl (by decide) rfl (fun ls hl => ?_)
    refine lv_iload_n hx hb dX8_leastCost_20 rfl (lv_at hl 4 rfl) ?_
    refine lv_bipush (v := 30) hx hb dX8_leastCost_21 (by decide) ?_
    refine lv_icmp_lt (tgt := 57) hx hb dX8_leastCost_23 (by decide) (fun c_5 => ?_) (fun c_5 => ?_)
    · have fc_5 : sec.toInt < 30 := zf_lt c_5 rfl (by decide)
      refine lv_iconst (v := 0) hx hb dX8_leastCost_57 (by decide) ?_
      refine lv_istore (lv' := [(5, .int 0), (4, .int x_4), (0, .ref m0), (1, .int 1), (2, .int d), (3, .int sec)]) hx hb dX8_leastCost_58 hl (by decide) rfl (fun ls hl => ?_)
      obtain ⟨i_60, hi_60⟩ : ∃ i : Int32, i = 0 := ⟨_, rfl⟩
      replace hl : lv_has ls 7 [(5, .int i_60), (4, .int x_4), (0, .ref m0), (1, .int 1), (2, .int d), (3, .int sec)] := by rw [hi_60]; exact lv_sub hl [0, 1, 2, 3, 4, 5] rfl
      have h1i_60 : i_60.toInt = 0 := by rw [hi_60]; decide
      obtain ⟨nfu, hni_60⟩ : ∃ nq9 : Nat, npu.toInt ≤ i_60.toInt + (nq9 : Int) := ⟨((npu.toInt : Int) - 0).toNat, by omega⟩
      have hloi_60 : 0 ≤ i_60.toInt := by omega
      obtain ⟨v_6, hv_6⟩ : ∃ g : Int32, g = x_4 := ⟨_, rfl⟩
      replace hl : lv_has ls 7 [(5, .int i_60), (4, .int v_6), (0, .ref m0), (1, .int 1), (2, .int d), (3, .int sec)] := by rw [hv_6]; exact hl
      have hbv_6 : 0 ≤ v_6.toInt ∧ v_6.toInt ≤ 1188 := by rw [hv_6]; exact ⟨by omega, by omega⟩
      have hvi_60_0 : (v_6 : Int32).toInt = zFi gta d.toInt sec.toInt (zPw 1 * zAt (gco 1).toInt (gco 2).toInt sec.toInt) (zLv (zLn gki gpa gta npu.toInt.toNat nhu.toInt (gco 0).toInt (gco 1).toInt (gco 2).toInt 0) gki gpa gta (gco 0).toInt (zPw 1) nhu.toInt d.toInt sec.toInt) i_60.toInt.toNat := by
        (try rw [hi_60]); (try rw [hv_6]); (rw [(show ((0 : Int32).toInt.toNat) = 0 from by decide)]; show _ = zPw 1 * zAt (gco 1).toInt (gco 2).toInt sec.toInt; (have nx_2 : (gco 2).toInt = x_2.toInt := (by rw [ex_2, show (2 : Int32).toNatClampNeg = 2 from by decide]); unfold zAt; rw [show zPw 1 = 12 from by decide]; first | (rw [if_pos (by omega)]; omega) | (rw [if_neg (by omega)]; omega)))
      have hvi_60_1 : i_60.toInt ≤ npu.toInt := by
        (try rw [hi_60]); (try rw [hv_6]); (have k0 : (0 : Int32).toInt = 0 := (by decide); omega)
      clear h1i_60 hi_60 hv_6
      revert hni_60
      revert hloi_60
      revert hvi_60_1
      revert hvi_60_0
      revert hbv_6
      revert hl
      revert ls
      revert v_6
      revert i_60
      induction nfu with
      | zero =>
        intro i_60 v_6 ls hl hbv_6 hvi_60_0 hvi_60_1 hloi_60 hni_60
        have hzi_60 : npu.toInt ≤ i_60.toInt := by omega
        refine lv_iload hx hb dX8_leastCost_60 (lv_at hl 0 rfl) ?_
        refine lv_aload_n hx hb dX8_leastCost_62 rfl (lv_at hl 2 rfl) ?_
        refine va_get (D := D) (ci := 8) (v := .int npu) (C := RX8) (T := TX8) (N := 38) hx hb hts hi_X8_leastCost_8 hown hK hP 0 rfl rfl 0 (by decide) (hts (.fieldLink RX8 90 "TheLiningsInItModel" "pulls" "I") (List.mem_of_getElem? (i := 2) rfl)) (fun _ h9 => h9) rfl dX8_leastCost_63 ?_
        refine lv_icmp_ge (tgt := 120) hx hb dX8_leastCost_66 (by decide) (fun c_7 => ?_) (fun c_7 => ?_)
        · have fc_7 : npu.toInt ≤ i_60.toInt := zf_le c_7 rfl rfl
          refine lv_iload hx hb dX8_leastCost_120 (lv_at hl 1 rfl) ?_
          exact W.iret (v := v_6) hx hb hr (fun t ht hW => ⟨v_6, rfl, ⟨by omega, by omega, (show (v_6 : Int32).toInt = (zLn gki gpa gta npu.toInt.toNat nhu.toInt (gco 0).toInt (gco 1).toInt (gco 2).toInt 1) d.toInt sec.toInt from by (have h9 : i_60.toInt.toNat = npu.toInt.toNat := (by omega); have z := hvi_60_0; rw [h9] at z; rw [zLn_s, if_neg (by omega)]; exact z))⟩, ht⟩) (fun q hq => by cases hq) dX8_leastCost_122
        · exfalso; have fc_7 : i_60.toInt < npu.toInt := zf_nle c_7 rfl rfl; omega
      | succ nfu ih =>
        intro i_60 v_6 ls hl hbv_6 hvi_60_0 hvi_60_1 hloi_60 hni_60
        refine lv_iload hx hb dX8_leastCost_60 (lv_at hl 0 rfl) ?_
        refine lv_aload_n hx hb dX8_leastCost_62 rfl (lv_at hl 2 rfl) ?_
        refine va_get (D := D) (ci := 8) (v := .int npu) (C := RX8) (T := TX8) (N := 38) hx hb hts hi_X8_leastCost_8 hown hK hP 0 rfl rfl 0 (by decide) (hts (.fieldLink RX8 90 "TheLiningsInItModel" "pulls" "I") (List.mem_of_getElem? (i := 2) rfl)) (fun _ h9 => h9) rfl dX8_leastCost_63 ?_
        refine lv_icmp_ge (tgt := 120) hx hb dX8_leastCost_66 (by decide) (fun c_8 => ?_) (fun c_8 => ?_)
        · have fc_8 : npu.toInt ≤ i_60.toInt := zf_le c_8 rfl rfl
          refine lv_iload hx hb dX8_leastCost_120 (lv_at hl 1 rfl) ?_
          exact W.iret (v := v_6) hx hb hr (fun t ht hW => ⟨v_6, rfl, ⟨by omega, by omega, (show (v_6 : Int32).toInt = (zLn gki gpa gta npu.toInt.toNat nhu.toInt (gco 0).toInt (gco 1).toInt (gco 2).toInt 1) d.toInt sec.toInt from by (have h9 : i_60.toInt.toNat = npu.toInt.toNat := (by omega); have z := hvi_60_0; rw [h9] at z; rw [zLn_s, if_neg (by omega)]; exact z))⟩, ht⟩) (fun q hq => by cases hq) dX8_leastCost_122
        · have fc_8 : i_60.toInt < npu.toInt := zf_nle c_8 rfl rfl
          refine lv_iload_n hx hb dX8_leastCost_69 rfl (lv_at hl 3 rfl) ?_
          refine lv_if_le (tgt := 120) hx hb dX8_leastCost_70 (by decide) (fun c_9 => ?_) (fun c_9 => ?_)
          · exact absurd c_9 (by decide)
          · refine lv_aload_n hx hb dX8_leastCost_73 rfl (lv_at hl 2 rfl) ?_
            refine lv_iload hx hb dX8_leastCost_74 (lv_at hl 0 rfl) ?_
            refine lv_iload_n hx hb dX8_leastCost_76 rfl (lv_at hl 4 rfl) ?_
            refine lv_iload_n hx hb dX8_leastCost_77 rfl (lv_at hl 5 rfl) ?_
            refine zc_V (As := [.int i_60, .int d, .int sec]) (rest := []) ⟨hx, hb, hml, hown, hts⟩ (c_F_M_mayBe l D cI cJ cZ cP cS po m0 mrf mki mpa mta mla msl mco mhe mso msi msh mce mca mwo mnu mte mwa mke mma mth mtr (npu) (nte) (nat_) (nde) (nto) (nse) (nhu) (nga) (nsd) (nfa) (nba) (npl) (nen) (nnu) (nwr) (nra) (nik) gta (i_60) (d) (sec) hy0 hy1 hy2 hy3 hy4 hy5 hy6 hy7 hy8 hy9 hy10 hy11 hy12 hy13 (by omega) (by omega) hp_gta) (cwV 3 hts gX8_leastCost_X8_mayBe rfl rfl rfl ⟨rfl, dh_X8_mayBe⟩ ⟨Nat.le_of_ble_eq_true rfl, Nat.le_of_ble_eq_true rfl⟩) hK hN hZ hP (hP.sub [0, 3] rfl) (va_recv (q := (RX8, TX8, 38)) hK hP (ci := 8) (q0 := 0) rfl rfl) rfl hl.1 rfl (Nat.le_of_ble_eq_true rfl) dX8_leastCost_78 ⟨Nat.le_of_ble_eq_true rfl, Nat.le_of_ble_eq_true rfl⟩ (fun r_10 hr_10 => ?_)
            obtain ⟨g_11, g_12, hsr_10_0⟩ := hr_10
            refine lv_if_ne (tgt := 87) hx hb dX8_leastCost_81 (by decide) (fun c_13 => ?_) (fun c_13 => ?_)
            · have fc_13 : r_10.toInt ≠ 0 := zf_ne c_13 rfl (by decide)
              have htl9 : (gta i_60.toNatClampNeg).toInt ≤ sec.toInt := (hsr_10_0.mp (by omega)).2
              refine lv_aload_n hx hb dX8_leastCost_87 rfl (lv_at hl 2 rfl) ?_
              refine lv_iload hx hb dX8_leastCost_88 (lv_at hl 0 rfl) ?_
              refine lv_iload_n hx hb dX8_leastCost_90 rfl (lv_at hl 3 rfl) ?_
              refine lv_iload_n hx hb dX8_leastCost_91 rfl (lv_at hl 4 rfl) ?_
              refine lv_iload_n hx hb dX8_leastCost_92 rfl (lv_at hl 5 rfl) ?_
              refine zc_V (As := [.int i_60, .int 1, .int d, .int sec]) (rest := []) ⟨hx, hb, hml, hown, hts⟩ (c_F_M_costBy_1 l D cI cJ cZ cP cS po m0 mrf mki mpa mta mla msl mco mhe mso msi msh mce mca mwo mnu mte mwa mke mma mth mtr (npu) (nte) (nat_) (nde) (nto) (nse) (nhu) (nga) (nsd) (nfa) (nba) (npl) (nen) (nnu) (nwr) (nra) (nik) gki gpa gta gco (i_60) (d) (sec) hy0 hy1 hy2 hy3 hy4 hy5 hy6 hy7 hy8 hy9 hy10 hy11 hy12 hy13 (by omega) (by omega) hy14 hy15 hy16 hy17 (by first | assumption | omega) hp_gki hp_gpa hp_gta hp_gco) (cwV 4 hts gX8_leastCost_X8_costBy rfl rfl rfl ⟨rfl, dh_X8_costBy⟩ ⟨Nat.le_of_ble_eq_true rfl, Nat.le_of_ble_eq_true rfl⟩) hK hN hZ hP (hP.sub [0, 1, 2, 3, 4] rfl) (va_recv (q := (RX8, TX8, 38)) hK hP (ci := 8) (q0 := 0) rfl rfl) rfl hl.1 rfl (Nat.le_of_ble_eq_true rfl) dX8_leastCost_93 ⟨Nat.le_of_ble_eq_true rfl, Nat.le_of_ble_eq_true rfl⟩ (fun r_14 hr_14 => ?_)
              obtain ⟨g_15, g_16, hsr_14_0⟩ := hr_14
              refine lv_istore (lv' := [(6, .int r_14), (5, .int i_60), (4, .int v_6), (0, .ref m0), (1, .int 1), (2, .int d), (3, .int sec)]) hx hb dX8_leastCost_96 hl (by decide) rfl (fun ls hl => ?_)
              refine lv_iload hx hb dX8_leastCost_98 (lv_at hl 0 rfl) ?_
              refine lv_iload hx hb dX8_leastCost_100 (lv_at hl 2 rfl) ?_
              refine lv_icmp_ge (tgt := 110) hx hb dX8_leastCost_102 (by decide) (fun c_17 => ?_) (fun c_17 => ?_)
              · have fc_17 : v_6.toInt ≤ r_14.toInt := zf_le c_17 rfl rfl
                refine lv_iload hx hb dX8_leastCost_110 (lv_at hl 2 rfl) ?_
                refine lv_istore (lv' := [(4, .int v_6), (6, .int r_14), (5, .int i_60), (0, .ref m0), (1, .int 1), (2, .int d), (3, .int sec)]) hx hb dX8_leastCost_112 hl (by decide) rfl (fun ls hl => ?_)
                obtain ⟨x_18, ex_18⟩ : ∃ y : Int32, y = i_60 + 1 := ⟨_, rfl⟩
                have qx_18 : x_18.toInt = i_60.toInt + 1 := dw_inc ex_18 fc_8
                refine lv_iinc (v := x_18) (lv' := [(5, .int x_18), (4, .int v_6), (6, .int r_14), (0, .ref m0), (1, .int 1), (2, .int d), (3, .int sec)]) hx hb dX8_leastCost_114 hl (k := 2) rfl ex_18.symm (by decide) rfl (fun ls hl => ?_)
                refine lv_goto (tgt := 60) hx hb dX8_leastCost_117 (by decide) ?_
                exact ih x_18 v_6 _ (lv_sub hl [0, 1, 3, 4, 5, 6] rfl) hbv_6 (show (v_6 : Int32).toInt = zFi gta d.toInt sec.toInt (zPw 1 * zAt (gco 1).toInt (gco 2).toInt sec.toInt) (zLv (zLn gki gpa gta npu.toInt.toNat nhu.toInt (gco 0).toInt (gco 1).toInt (gco 2).toInt 0) gki gpa gta (gco 0).toInt (zPw 1) nhu.toInt d.toInt sec.toInt) x_18.toInt.toNat from by (have hx : x_18.toInt.toNat = i_60.toInt.toNat + 1 := (by omega); have y9 : i_60.toNatClampNeg = i_60.toInt.toNat := rfl; have hm := hsr_10_0; rw [y9] at hm; rw [hx, zFi_y (hm.mp (by omega)), ← hvi_60_0]; have zr := hsr_14_0; rw [y9] at zr; have zr2 : r_14.toInt = (zLv (zLn gki gpa gta npu.toInt.toNat nhu.toInt (gco 0).toInt (gco 1).toInt (gco 2).toInt 0) gki gpa gta (gco 0).toInt (zPw 1) nhu.toInt d.toInt sec.toInt) i_60.toInt.toNat := zr; omega)) (show x_18.toInt ≤ npu.toInt from by omega) (dw_lo hloi_60 qx_18) (dw_hn hni_60 qx_18)
              · have fc_17 : r_14.toInt < v_6.toInt := zf_nle c_17 rfl rfl
                refine lv_iload hx hb dX8_leastCost_105 (lv_at hl 0 rfl) ?_
                refine lv_goto (tgt := 112) hx hb dX8_leastCost_107 (by decide) ?_
                refine lv_istore (lv' := [(4, .int r_14), (6, .int r_14), (5, .int i_60), (0, .ref m0), (1, .int 1), (2, .int d), (3, .int sec)]) hx hb dX8_leastCost_112 hl (by decide) rfl (fun ls hl => ?_)
                obtain ⟨x_19, ex_19⟩ : ∃ y : Int32, y = i_60 + 1 := ⟨_, rfl⟩
                have qx_19 : x_19.toInt = i_60.toInt + 1 := dw_inc ex_19 fc_8
                refine lv_iinc (v := x_19) (lv' := [(5, .int x_19), (4, .int r_14), (6, .int r_14), (0, .ref m0), (1, .int 1), (2, .int d), (3, .int sec)]) hx hb dX8_leastCost_114 hl (k := 2) rfl ex_19.symm (by decide) rfl (fun ls hl => ?_)
                refine lv_goto (tgt := 60) hx hb dX8_leastCost_117 (by decide) ?_
                exact ih x_19 r_14 _ (lv_sub hl [0, 1, 3, 4, 5, 6] rfl) ⟨by omega, by omega⟩ (show (r_14 : Int32).toInt = zFi gta d.toInt sec.toInt (zPw 1 * zAt (gco 1).toInt (gco 2).toInt sec.toInt) (zLv (zLn gki gpa gta npu.toInt.toNat nhu.toInt (gco 0).toInt (gco 1).toInt (gco 2).toInt 0) gki gpa gta (gco 0).toInt (zPw 1) nhu.toInt d.toInt sec.toInt) x_19.toInt.toNat from by (have hx : x_19.toInt.toNat = i_60.toInt.toNat + 1 := (by omega); have y9 : i_60.toNatClampNeg = i_60.toInt.toNat := rfl; have hm := hsr_10_0; rw [y9] at hm; rw [hx, zFi_y (hm.mp (by omega)), ← hvi_60_0]; have zr := hsr_14_0; rw [y9] at zr; have zr2 : r_14.toInt = (zLv (zLn gki gpa gta npu.toInt.toNat nhu.toInt (gco 0).toInt (gco 1).toInt (gco 2).toInt 0) gki gpa gta (gco 0).toInt (zPw 1) nhu.toInt d.toInt sec.toInt) i_60.toInt.toNat := zr; omega)) (show x_19.toInt ≤ npu.toInt from by omega) (dw_lo hloi_60 qx_19) (dw_hn hni_60 qx_19)
            · have fc_13 : r_10.toInt = 0 := zf_eq c_13 rfl (by decide)
              refine lv_goto (tgt := 114) hx hb dX8_leastCost_84 (by decide) ?_
              obtain ⟨x_20, ex_20⟩ : ∃ y : Int32, y = i_60 + 1 := ⟨_, rfl⟩
              have qx_20 : x_20.toInt = i_60.toInt + 1 := dw_inc ex_20 fc_8
              refine lv_iinc (v := x_20) (lv' := [(5, .int x_20), (4, .int v_6), (0, .ref m0), (1, .int 1), (2, .int d), (3, .int sec)]) hx hb dX8_leastCost_114 hl (k := 0) rfl ex_20.symm (by decide) rfl (fun ls hl => ?_)
              refine lv_goto (tgt := 60) hx hb dX8_leastCost_117 (by decide) ?_
              exact ih x_20 v_6 _ (lv_sub hl [0, 1, 2, 3, 4, 5] rfl) hbv_6 (show (v_6 : Int32).toInt = zFi gta d.toInt sec.toInt (zPw 1 * zAt (gco 1).toInt (gco 2).toInt sec.toInt) (zLv (zLn gki gpa gta npu.toInt.toNat nhu.toInt (gco 0).toInt (gco 1).toInt (gco 2).toInt 0) gki gpa gta (gco 0).toInt (zPw 1) nhu.toInt d.toInt sec.toInt) x_20.toInt.toNat from by (have hx : x_20.toInt.toNat = i_60.toInt.toNat + 1 := (by omega); have y9 : i_60.toNatClampNeg = i_60.toInt.toNat := rfl; have hm := hsr_10_0; rw [y9] at hm; rw [hx, zFi_n (fun z => by (have z1 := hm.mpr z; omega))]; exact hvi_60_0)) (show x_20.toInt ≤ npu.toInt from by omega) (dw_lo hloi_60 qx_20) (dw_hn hni_60 qx_20)
    · have fc_5 : 30 ≤ sec.toInt := zf_nlt c_5 rfl (by decide)
      refine lv_aload_n hx hb dX8_leastCost_26 rfl (lv_at hl 1 rfl) ?_
      refine va_get (D := D) (ci := 8) (v := .ref mco) (C := RX8) (T := TX8) (N := 38) hx hb hts hi_X8_leastCost_8 hown hK hP 0 rfl rfl 16 (by decide) (hts (.fieldLink RX8 44 "TheLiningsInItModel" "cost" "[I") (List.mem_of_getElem? (i := 1) rfl)) (fun _ h9 => h9) rfl dX8_leastCost_27 ?_
      refine lv_iconst (v := 1) hx hb dX8_leastCost_30 (by decide) ?_
      refine va_iald hx hb hK hP 4 0 rfl rfl (zf_in (by decide) (by decide)) dX8_leastCost_31 ?_
      refine lv_topi (fun x_21 ex_21 => ?_)
      have bx_21 : 0 ≤ x_21.toInt ∧ x_21.toInt ≤ 99 := by rw [ex_21]; exact hp_gco _
      refine lv_aload_n hx hb dX8_leastCost_32 rfl (lv_at hl 1 rfl) ?_
      refine lv_iload_n hx hb dX8_leastCost_33 rfl (lv_at hl 2 rfl) ?_
      refine zc_V (As := [.int 1]) (rest := [.int x_21]) ⟨hx, hb, hml, hown, hts⟩ (c_M_power_1 l D cI cJ cZ cP cS po m0 mrf mki mpa mta mla msl mco mhe mso msi msh mce mca mwo mnu mte mwa mke mma mth mtr (npu) (nte) (nat_) (nde) (nto) (nse) (nhu) (nga) (nsd) (nfa) (nba) (npl) (nen) (nnu) (nwr) (nra) (nik) hy0 hy1 hy2 hy3 hy4 hy5 hy6 hy7 hy8 hy9 hy10 hy11 hy12 hy13) (cwV 1 hts gX8_leastCost_X8_power rfl rfl rfl ⟨rfl, dh_X8_power⟩ ⟨Nat.le_of_ble_eq_true rfl, Nat.le_of_ble_eq_true rfl⟩) hK hN hZ hP (hP.sub [0] rfl) (va_recv (q := (RX8, TX8, 38)) hK hP (ci := 8) (q0 := 0) rfl rfl) rfl hl.1 rfl (Nat.le_of_ble_eq_true rfl) dX8_leastCost_34 ⟨Nat.le_of_ble_eq_true rfl, Nat.le_of_ble_eq_true rfl⟩ (fun r_22 hr_22 => ?_)
      obtain rfl := hr_22
      refine lv_imul hx hb dX8_leastCost_37 ?_
      refine lv_topi (fun x_23 ex_23 => ?_)
      have qx_23 : x_23.toInt = x_21.toInt * 12 := by rw [ex_23]; exact zf_mul rfl (by decide) (by omega) (by omega)
      refine lv_iload hx hb dX8_leastCost_38 (lv_at hl 0 rfl) ?_
      refine lv_icmp_ge (tgt := 57) hx hb dX8_leastCost_40 (by decide) (fun c_24 => ?_) (fun c_24 => ?_)
      · have fc_24 : x_4.toInt ≤ x_23.toInt := zf_le c_24 rfl rfl
        refine lv_iconst (v := 0) hx hb dX8_leastCost_57 (by decide) ?_
        refine lv_istore (lv' := [(5, .int 0), (4, .int x_4), (0, .ref m0), (1, .int 1), (2, .int d), (3, .int sec)]) hx hb dX8_leastCost_58 hl (by decide) rfl (fun ls hl => ?_)
        obtain ⟨i_60, hi_60⟩ : ∃ i : Int32, i = 0 := ⟨_, rfl⟩
        replace hl : lv_has ls 7 [(5, .int i_60), (4, .int x_4), (0, .ref m0), (1, .int 1), (2, .int d), (3, .int sec)] := by rw [hi_60]; exact lv_sub hl [0, 1, 2, 3, 4, 5] rfl
        have h1i_60 : i_60.toInt = 0 := by rw [hi_60]; decide
        obtain ⟨nfu, hni_60⟩ : ∃ nq9 : Nat, npu.toInt ≤ i_60.toInt + (nq9 : Int) := ⟨((npu.toInt : Int) - 0).toNat, by omega⟩
        have hloi_60 : 0 ≤ i_60.toInt := by omega
        obtain ⟨v_25, hv_25⟩ : ∃ g : Int32, g = x_4 := ⟨_, rfl⟩
        replace hl : lv_has ls 7 [(5, .int i_60), (4, .int v_25), (0, .ref m0), (1, .int 1), (2, .int d), (3, .int sec)] := by rw [hv_25]; exact hl
        have hbv_25 : 0 ≤ v_25.toInt ∧ v_25.toInt ≤ 1188 := by rw [hv_25]; exact ⟨by omega, by omega⟩
        have hvi_60_0 : (v_25 : Int32).toInt = zFi gta d.toInt sec.toInt (zPw 1 * zAt (gco 1).toInt (gco 2).toInt sec.toInt) (zLv (zLn gki gpa gta npu.toInt.toNat nhu.toInt (gco 0).toInt (gco 1).toInt (gco 2).toInt 0) gki gpa gta (gco 0).toInt (zPw 1) nhu.toInt d.toInt sec.toInt) i_60.toInt.toNat := by
          (try rw [hi_60]); (try rw [hv_25]); (rw [(show ((0 : Int32).toInt.toNat) = 0 from by decide)]; show _ = zPw 1 * zAt (gco 1).toInt (gco 2).toInt sec.toInt; (have nx_2 : (gco 2).toInt = x_2.toInt := (by rw [ex_2, show (2 : Int32).toNatClampNeg = 2 from by decide]); have nx_21 : (gco 1).toInt = x_21.toInt := (by rw [ex_21, show (1 : Int32).toNatClampNeg = 1 from by decide]); unfold zAt; rw [show zPw 1 = 12 from by decide]; first | (rw [if_pos (by omega)]; omega) | (rw [if_neg (by omega)]; omega)))
        have hvi_60_1 : i_60.toInt ≤ npu.toInt := by
          (try rw [hi_60]); (try rw [hv_25]); (have k0 : (0 : Int32).toInt = 0 := (by decide); omega)
        clear h1i_60 hi_60 hv_25
        revert hni_60
        revert hloi_60
        revert hvi_60_1
        revert hvi_60_0
        revert hbv_25
        revert hl
        revert ls
        revert v_25
        revert i_60
        induction nfu with
        | zero =>
          intro i_60 v_25 ls hl hbv_25 hvi_60_0 hvi_60_1 hloi_60 hni_60
          have hzi_60 : npu.toInt ≤ i_60.toInt := by omega
          refine lv_iload hx hb dX8_leastCost_60 (lv_at hl 0 rfl) ?_
          refine lv_aload_n hx hb dX8_leastCost_62 rfl (lv_at hl 2 rfl) ?_
          refine va_get (D := D) (ci := 8) (v := .int npu) (C := RX8) (T := TX8) (N := 38) hx hb hts hi_X8_leastCost_8 hown hK hP 0 rfl rfl 0 (by decide) (hts (.fieldLink RX8 90 "TheLiningsInItModel" "pulls" "I") (List.mem_of_getElem? (i := 2) rfl)) (fun _ h9 => h9) rfl dX8_leastCost_63 ?_
          refine lv_icmp_ge (tgt := 120) hx hb dX8_leastCost_66 (by decide) (fun c_26 => ?_) (fun c_26 => ?_)
          · have fc_26 : npu.toInt ≤ i_60.toInt := zf_le c_26 rfl rfl
            refine lv_iload hx hb dX8_leastCost_120 (lv_at hl 1 rfl) ?_
            exact W.iret (v := v_25) hx hb hr (fun t ht hW => ⟨v_25, rfl, ⟨by omega, by omega, (show (v_25 : Int32).toInt = (zLn gki gpa gta npu.toInt.toNat nhu.toInt (gco 0).toInt (gco 1).toInt (gco 2).toInt 1) d.toInt sec.toInt from by (have h9 : i_60.toInt.toNat = npu.toInt.toNat := (by omega); have z := hvi_60_0; rw [h9] at z; rw [zLn_s, if_neg (by omega)]; exact z))⟩, ht⟩) (fun q hq => by cases hq) dX8_leastCost_122
          · exfalso; have fc_26 : i_60.toInt < npu.toInt := zf_nle c_26 rfl rfl; omega
        | succ nfu ih =>
          intro i_60 v_25 ls hl hbv_25 hvi_60_0 hvi_60_1 hloi_60 hni_60
          refine lv_iload hx hb dX8_leastCost_60 (lv_at hl 0 rfl) ?_
          refine lv_aload_n hx hb dX8_leastCost_62 rfl (lv_at hl 2 rfl) ?_
          refine va_get (D := D) (ci := 8) (v := .int npu) (C := RX8) (T := TX8) (N := 38) hx hb hts hi_X8_leastCost_8 hown hK hP 0 rfl rfl 0 (by decide) (hts (.fieldLink RX8 90 "TheLiningsInItModel" "pulls" "I") (List.mem_of_getElem? (i := 2) rfl)) (fun _ h9 => h9) rfl dX8_leastCost_63 ?_
          refine lv_icmp_ge (tgt := 120) hx hb dX8_leastCost_66 (by decide) (fun c_27 => ?_) (fun c_27 => ?_)
          · have fc_27 : npu.toInt ≤ i_60.toInt := zf_le c_27 rfl rfl
            refine lv_iload hx hb dX8_leastCost_120 (lv_at hl 1 rfl) ?_
            exact W.iret (v := v_25) hx hb hr (fun t ht hW => ⟨v_25, rfl, ⟨by omega, by omega, (show (v_25 : Int32).toInt = (zLn gki gpa gta npu.toInt.toNat nhu.toInt (gco 0).toInt (gco 1).toInt (gco 2).toInt 1) d.toInt sec.toInt from by (have h9 : i_60.toInt.toNat = npu.toInt.toNat := (by omega); have z := hvi_60_0; rw [h9] at z; rw [zLn_s, if_neg (by omega)]; exact z))⟩, ht⟩) (fun q hq => by cases hq) dX8_leastCost_122
          · have fc_27 : i_60.toInt < npu.toInt := zf_nle c_27 rfl rfl
            refine lv_iload_n hx hb dX8_leastCost_69 rfl (lv_at hl 3 rfl) ?_
            refine lv_if_le (tgt := 120) hx hb dX8_leastCost_70 (by decide) (fun c_28 => ?_) (fun c_28 => ?_)
            · exact absurd c_28 (by decide)
            · refine lv_aload_n hx hb dX8_leastCost_73 rfl (lv_at hl 2 rfl) ?_
              refine lv_iload hx hb dX8_leastCost_74 (lv_at hl 0 rfl) ?_
              refine lv_iload_n hx hb dX8_leastCost_76 rfl (lv_at hl 4 rfl) ?_
              refine lv_iload_n hx hb dX8_leastCost_77 rfl (lv_at hl 5 rfl) ?_
              refine zc_V (As := [.int i_60, .int d, .int sec]) (rest := []) ⟨hx, hb, hml, hown, hts⟩ (c_F_M_mayBe l D cI cJ cZ cP cS po m0 mrf mki mpa mta mla msl mco mhe mso msi msh mce mca mwo mnu mte mwa mke mma mth mtr (npu) (nte) (nat_) (nde) (nto) (nse) (nhu) (nga) (nsd) (nfa) (nba) (npl) (nen) (nnu) (nwr) (nra) (nik) gta (i_60) (d) (sec) hy0 hy1 hy2 hy3 hy4 hy5 hy6 hy7 hy8 hy9 hy10 hy11 hy12 hy13 (by omega) (by omega) hp_gta) (cwV 3 hts gX8_leastCost_X8_mayBe rfl rfl rfl ⟨rfl, dh_X8_mayBe⟩ ⟨Nat.le_of_ble_eq_true rfl, Nat.le_of_ble_eq_true rfl⟩) hK hN hZ hP (hP.sub [0, 3] rfl) (va_recv (q := (RX8, TX8, 38)) hK hP (ci := 8) (q0 := 0) rfl rfl) rfl hl.1 rfl (Nat.le_of_ble_eq_true rfl) dX8_leastCost_78 ⟨Nat.le_of_ble_eq_true rfl, Nat.le_of_ble_eq_true rfl⟩ (fun r_29 hr_29 => ?_)
              obtain ⟨g_30, g_31, hsr_29_0⟩ := hr_29
              refine lv_if_ne (tgt := 87) hx hb dX8_leastCost_81 (by decide) (fun c_32 => ?_) (fun c_32 => ?_)
              · have fc_32 : r_29.toInt ≠ 0 := zf_ne c_32 rfl (by decide)
                have htl9 : (gta i_60.toNatClampNeg).toInt ≤ sec.toInt := (hsr_29_0.mp (by omega)).2
                refine lv_aload_n hx hb dX8_leastCost_87 rfl (lv_at hl 2 rfl) ?_
                refine lv_iload hx hb dX8_leastCost_88 (lv_at hl 0 rfl) ?_
                refine lv_iload_n hx hb dX8_leastCost_90 rfl (lv_at hl 3 rfl) ?_
                refine lv_iload_n hx hb dX8_leastCost_91 rfl (lv_at hl 4 rfl) ?_
                refine lv_iload_n hx hb dX8_leastCost_92 rfl (lv_at hl 5 rfl) ?_
                refine zc_V (As := [.int i_60, .int 1, .int d, .int sec]) (rest := []) ⟨hx, hb, hml, hown, hts⟩ (c_F_M_costBy_1 l D cI cJ cZ cP cS po m0 mrf mki mpa mta mla msl mco mhe mso msi msh mce mca mwo mnu mte mwa mke mma mth mtr (npu) (nte) (nat_) (nde) (nto) (nse) (nhu) (nga) (nsd) (nfa) (nba) (npl) (nen) (nnu) (nwr) (nra) (nik) gki gpa gta gco (i_60) (d) (sec) hy0 hy1 hy2 hy3 hy4 hy5 hy6 hy7 hy8 hy9 hy10 hy11 hy12 hy13 (by omega) (by omega) hy14 hy15 hy16 hy17 (by first | assumption | omega) hp_gki hp_gpa hp_gta hp_gco) (cwV 4 hts gX8_leastCost_X8_costBy rfl rfl rfl ⟨rfl, dh_X8_costBy⟩ ⟨Nat.le_of_ble_eq_true rfl, Nat.le_of_ble_eq_true rfl⟩) hK hN hZ hP (hP.sub [0, 1, 2, 3, 4] rfl) (va_recv (q := (RX8, TX8, 38)) hK hP (ci := 8) (q0 := 0) rfl rfl) rfl hl.1 rfl (Nat.le_of_ble_eq_true rfl) dX8_leastCost_93 ⟨Nat.le_of_ble_eq_true rfl, Nat.le_of_ble_eq_true rfl⟩ (fun r_33 hr_33 => ?_)
                obtain ⟨g_34, g_35, hsr_33_0⟩ := hr_33
                refine lv_istore (lv' := [(6, .int r_33), (5, .int i_60), (4, .int v_25), (0, .ref m0), (1, .int 1), (2, .int d), (3, .int sec)]) hx hb dX8_leastCost_96 hl (by decide) rfl (fun ls hl => ?_)
                refine lv_iload hx hb dX8_leastCost_98 (lv_at hl 0 rfl) ?_
                refine lv_iload hx hb dX8_leastCost_100 (lv_at hl 2 rfl) ?_
                refine lv_icmp_ge (tgt := 110) hx hb dX8_leastCost_102 (by decide) (fun c_36 => ?_) (fun c_36 => ?_)
                · have fc_36 : v_25.toInt ≤ r_33.toInt := zf_le c_36 rfl rfl
                  refine lv_iload hx hb dX8_leastCost_110 (lv_at hl 2 rfl) ?_
                  refine lv_istore (lv' := [(4, .int v_25), (6, .int r_33), (5, .int i_60), (0, .ref m0), (1, .int 1), (2, .int d), (3, .int sec)]) hx hb dX8_leastCost_112 hl (by decide) rfl (fun ls hl => ?_)
                  obtain ⟨x_37, ex_37⟩ : ∃ y : Int32, y = i_60 + 1 := ⟨_, rfl⟩
                  have qx_37 : x_37.toInt = i_60.toInt + 1 := dw_inc ex_37 fc_27
                  refine lv_iinc (v := x_37) (lv' := [(5, .int x_37), (4, .int v_25), (6, .int r_33), (0, .ref m0), (1, .int 1), (2, .int d), (3, .int sec)]) hx hb dX8_leastCost_114 hl (k := 2) rfl ex_37.symm (by decide) rfl (fun ls hl => ?_)
                  refine lv_goto (tgt := 60) hx hb dX8_leastCost_117 (by decide) ?_
                  exact ih x_37 v_25 _ (lv_sub hl [0, 1, 3, 4, 5, 6] rfl) hbv_25 (show (v_25 : Int32).toInt = zFi gta d.toInt sec.toInt (zPw 1 * zAt (gco 1).toInt (gco 2).toInt sec.toInt) (zLv (zLn gki gpa gta npu.toInt.toNat nhu.toInt (gco 0).toInt (gco 1).toInt (gco 2).toInt 0) gki gpa gta (gco 0).toInt (zPw 1) nhu.toInt d.toInt sec.toInt) x_37.toInt.toNat from by (have hx : x_37.toInt.toNat = i_60.toInt.toNat + 1 := (by omega); have y9 : i_60.toNatClampNeg = i_60.toInt.toNat := rfl; have hm := hsr_29_0; rw [y9] at hm; rw [hx, zFi_y (hm.mp (by omega)), ← hvi_60_0]; have zr := hsr_33_0; rw [y9] at zr; have zr2 : r_33.toInt = (zLv (zLn gki gpa gta npu.toInt.toNat nhu.toInt (gco 0).toInt (gco 1).toInt (gco 2).toInt 0) gki gpa gta (gco 0).toInt (zPw 1) nhu.toInt d.toInt sec.toInt) i_60.toInt.toNat := zr; omega)) (show x_37.toInt ≤ npu.toInt from by omega) (dw_lo hloi_60 qx_37) (dw_hn hni_60 qx_37)
                · have fc_36 : r_33.toInt < v_25.toInt := zf_nle c_36 rfl rfl
                  refine lv_iload hx hb dX8_leastCost_105 (lv_at hl 0 rfl) ?_
                  refine lv_goto (tgt := 112) hx hb dX8_leastCost_107 (by decide) ?_
                  refine lv_istore (lv' := [(4, .int r_33), (6, .int r_33), (5, .int i_60), (0, .ref m0), (1, .int 1), (2, .int d), (3, .int sec)]) hx hb dX8_leastCost_112 hl (by decide) rfl (fun ls hl => ?_)
                  obtain ⟨x_38, ex_38⟩ : ∃ y : Int32, y = i_60 + 1 := ⟨_, rfl⟩
                  have qx_38 : x_38.toInt = i_60.toInt + 1 := dw_inc ex_38 fc_27
                  refine lv_iinc (v := x_38) (lv' := [(5, .int x_38), (4, .int r_33), (6, .int r_33), (0, .ref m0), (1, .int 1), (2, .int d), (3, .int sec)]) hx hb dX8_leastCost_114 hl (k := 2) rfl ex_38.symm (by decide) rfl (fun ls hl => ?_)
                  refine lv_goto (tgt := 60) hx hb dX8_leastCost_117 (by decide) ?_
                  exact ih x_38 r_33 _ (lv_sub hl [0, 1, 3, 4, 5, 6] rfl) ⟨by omega, by omega⟩ (show (r_33 : Int32).toInt = zFi gta d.toInt sec.toInt (zPw 1 * zAt (gco 1).toInt (gco 2).toInt sec.toInt) (zLv (zLn gki gpa gta npu.toInt.toNat nhu.toInt (gco 0).toInt (gco 1).toInt (gco 2).toInt 0) gki gpa gta (gco 0).toInt (zPw 1) nhu.toInt d.toInt sec.toInt) x_38.toInt.toNat from by (have hx : x_38.toInt.toNat = i_60.toInt.toNat + 1 := (by omega); have y9 : i_60.toNatClampNeg = i_60.toInt.toNat := rfl; have hm := hsr_29_0; rw [y9] at hm; rw [hx, zFi_y (hm.mp (by omega)), ← hvi_60_0]; have zr := hsr_33_0; rw [y9] at zr; have zr2 : r_33.toInt = (zLv (zLn gki gpa gta npu.toInt.toNat nhu.toInt (gco 0).toInt (gco 1).toInt (gco 2).toInt 0) gki gpa gta (gco 0).toInt (zPw 1) nhu.toInt d.toInt sec.toInt) i_60.toInt.toNat := zr; omega)) (show x_38.toInt ≤ npu.toInt from by omega) (dw_lo hloi_60 qx_38) (dw_hn hni_60 qx_38)
              · have fc_32 : r_29.toInt = 0 := zf_eq c_32 rfl (by decide)
                refine lv_goto (tgt := 114) hx hb dX8_leastCost_84 (by decide) ?_
                obtain ⟨x_39, ex_39⟩ : ∃ y : Int32, y = i_60 + 1 := ⟨_, rfl⟩
                have qx_39 : x_39.toInt = i_60.toInt + 1 := dw_inc ex_39 fc_27
                refine lv_iinc (v := x_39) (lv' := [(5, .int x_39), (4, .int v_25), (0, .ref m0), (1, .int 1), (2, .int d), (3, .int sec)]) hx hb dX8_leastCost_114 hl (k := 0) rfl ex_39.symm (by decide) rfl (fun ls hl => ?_)
                refine lv_goto (tgt := 60) hx hb dX8_leastCost_117 (by decide) ?_
                exact ih x_39 v_25 _ (lv_sub hl [0, 1, 2, 3, 4, 5] rfl) hbv_25 (show (v_25 : Int32).toInt = zFi gta d.toInt sec.toInt (zPw 1 * zAt (gco 1).toInt (gco 2).toInt sec.toInt) (zLv (zLn gki gpa gta npu.toInt.toNat nhu.toInt (gco 0).toInt (gco 1).toInt (gco 2).toInt 0) gki gpa gta (gco 0).toInt (zPw 1) nhu.toInt d.toInt sec.toInt) x_39.toInt.toNat from by (have hx : x_39.toInt.toNat = i_60.toInt.toNat + 1 := (by omega); have y9 : i_60.toNatClampNeg = i_60.toInt.toNat := rfl; have hm := hsr_29_0; rw [y9] at hm; rw [hx, zFi_n (fun z => by (have z1 := hm.mpr z; omega))]; exact hvi_60_0)) (show x_39.toInt ≤ npu.toInt from by omega) (dw_lo hloi_60 qx_39) (dw_hn hni_60 qx_39)
      · have fc_24 : x_23.toInt < x_4.toInt := zf_nle c_24 rfl rfl
        refine lv_aload_n hx hb dX8_leastCost_43 rfl (lv_at hl 1 rfl) ?_
        refine va_get (D := D) (ci := 8) (v := .ref mco) (C := RX8) (T := TX8) (N := 38) hx hb hts hi_X8_leastCost_8 hown hK hP 0 rfl rfl 16 (by decide) (hts (.fieldLink RX8 44 "TheLiningsInItModel" "cost" "[I") (List.mem_of_getElem? (i := 1) rfl)) (fun _ h9 => h9) rfl dX8_leastCost_44 ?_
        refine lv_iconst (v := 1) hx hb dX8_leastCost_47 (by decide) ?_
        refine va_iald hx hb hK hP 4 0 rfl rfl (zf_in (by decide) (by decide)) dX8_leastCost_48 ?_
        refine lv_topi (fun y_40 ey_40 => ?_)
        obtain rfl : x_21 = y_40 := ex_21.trans ey_40.symm
        refine lv_aload_n hx hb dX8_leastCost_49 rfl (lv_at hl 1 rfl) ?_
        refine lv_iload_n hx hb dX8_leastCost_50 rfl (lv_at hl 2 rfl) ?_
        refine zc_V (As := [.int 1]) (rest := [.int x_21]) ⟨hx, hb, hml, hown, hts⟩ (c_M_power_1 l D cI cJ cZ cP cS po m0 mrf mki mpa mta mla msl mco mhe mso msi msh mce mca mwo mnu mte mwa mke mma mth mtr (npu) (nte) (nat_) (nde) (nto) (nse) (nhu) (nga) (nsd) (nfa) (nba) (npl) (nen) (nnu) (nwr) (nra) (nik) hy0 hy1 hy2 hy3 hy4 hy5 hy6 hy7 hy8 hy9 hy10 hy11 hy12 hy13) (cwV 1 hts gX8_leastCost_X8_power rfl rfl rfl ⟨rfl, dh_X8_power⟩ ⟨Nat.le_of_ble_eq_true rfl, Nat.le_of_ble_eq_true rfl⟩) hK hN hZ hP (hP.sub [0] rfl) (va_recv (q := (RX8, TX8, 38)) hK hP (ci := 8) (q0 := 0) rfl rfl) rfl hl.1 rfl (Nat.le_of_ble_eq_true rfl) dX8_leastCost_51 ⟨Nat.le_of_ble_eq_true rfl, Nat.le_of_ble_eq_true rfl⟩ (fun r_41 hr_41 => ?_)
        obtain rfl := hr_41
        refine lv_imul hx hb dX8_leastCost_54 ?_
        refine lv_topi (fun y_42 ey_42 => ?_)
        obtain rfl : x_23 = y_42 := ex_23.trans ey_42.symm
        refine lv_istore (lv' := [(4, .int x_23), (0, .ref m0), (1, .int 1), (2, .int d), (3, .int sec)]) hx hb dX8_leastCost_55 hl (by decide) rfl (fun ls hl => ?_)
        refine lv_iconst (v := 0) hx hb dX8_leastCost_57 (by decide) ?_
        refine lv_istore (lv' := [(5, .int 0), (4, .int x_23), (0, .ref m0), (1, .int 1), (2, .int d), (3, .int sec)]) hx hb dX8_leastCost_58 hl (by decide) rfl (fun ls hl => ?_)
        obtain ⟨i_60, hi_60⟩ : ∃ i : Int32, i = 0 := ⟨_, rfl⟩
        replace hl : lv_has ls 7 [(5, .int i_60), (4, .int x_23), (0, .ref m0), (1, .int 1), (2, .int d), (3, .int sec)] := by rw [hi_60]; exact lv_sub hl [0, 1, 2, 3, 4, 5] rfl
        have h1i_60 : i_60.toInt = 0 := by rw [hi_60]; decide
        obtain ⟨nfu, hni_60⟩ : ∃ nq9 : Nat, npu.toInt ≤ i_60.toInt + (nq9 : Int) := ⟨((npu.toInt : Int) - 0).toNat, by omega⟩
        have hloi_60 : 0 ≤ i_60.toInt := by omega
        obtain ⟨v_43, hv_43⟩ : ∃ g : Int32, g = x_23 := ⟨_, rfl⟩
        replace hl : lv_has ls 7 [(5, .int i_60), (4, .int v_43), (0, .ref m0), (1, .int 1), (2, .int d), (3, .int sec)] := by rw [hv_43]; exact hl
        have hbv_43 : 0 ≤ v_43.toInt ∧ v_43.toInt ≤ 1188 := by rw [hv_43]; exact ⟨by omega, by omega⟩
        have hvi_60_0 : (v_43 : Int32).toInt = zFi gta d.toInt sec.toInt (zPw 1 * zAt (gco 1).toInt (gco 2).toInt sec.toInt) (zLv (zLn gki gpa gta npu.toInt.toNat nhu.toInt (gco 0).toInt (gco 1).toInt (gco 2).toInt 0) gki gpa gta (gco 0).toInt (zPw 1) nhu.toInt d.toInt sec.toInt) i_60.toInt.toNat := by
          (try rw [hi_60]); (try rw [hv_43]); (rw [(show ((0 : Int32).toInt.toNat) = 0 from by decide)]; show _ = zPw 1 * zAt (gco 1).toInt (gco 2).toInt sec.toInt; (have nx_2 : (gco 2).toInt = x_2.toInt := (by rw [ex_2, show (2 : Int32).toNatClampNeg = 2 from by decide]); have nx_21 : (gco 1).toInt = x_21.toInt := (by rw [ex_21, show (1 : Int32).toNatClampNeg = 1 from by decide]); unfold zAt; rw [show zPw 1 = 12 from by decide]; first | (rw [if_pos (by omega)]; omega) | (rw [if_neg (by omega)]; omega)))
        have hvi_60_1 : i_60.toInt ≤ npu.toInt := by
          (try rw [hi_60]); (try rw [hv_43]); (have k0 : (0 : Int32).toInt = 0 := (by decide); omega)
        clear h1i_60 hi_60 hv_43
        revert hni_60
        revert hloi_60
        revert hvi_60_1
        revert hvi_60_0
        revert hbv_43
        revert hl
        revert ls
        revert v_43
        revert i_60
        induction nfu with
        | zero =>
          intro i_60 v_43 ls hl hbv_43 hvi_60_0 hvi_60_1 hloi_60 hni_60
          have hzi_60 : npu.toInt ≤ i_60.toInt := by omega
          refine lv_iload hx hb dX8_leastCost_60 (lv_at hl 0 rfl) ?_
          refine lv_aload_n hx hb dX8_leastCost_62 rfl (lv_at hl 2 rfl) ?_
          refine va_get (D := D) (ci := 8) (v := .int npu) (C := RX8) (T := TX8) (N := 38) hx hb hts hi_X8_leastCost_8 hown hK hP 0 rfl rfl 0 (by decide) (hts (.fieldLink RX8 90 "TheLiningsInItModel" "pulls" "I") (List.mem_of_getElem? (i := 2) rfl)) (fun _ h9 => h9) rfl dX8_leastCost_63 ?_
          refine lv_icmp_ge (tgt := 120) hx hb dX8_leastCost_66 (by decide) (fun c_44 => ?_) (fun c_44 => ?_)
          · have fc_44 : npu.toInt ≤ i_60.toInt := zf_le c_44 rfl rfl
            refine lv_iload hx hb dX8_leastCost_120 (lv_at hl 1 rfl) ?_
            exact W.iret (v := v_43) hx hb hr (fun t ht hW => ⟨v_43, rfl, ⟨by omega, by omega, (show (v_43 : Int32).toInt = (zLn gki gpa gta npu.toInt.toNat nhu.toInt (gco 0).toInt (gco 1).toInt (gco 2).toInt 1) d.toInt sec.toInt from by (have h9 : i_60.toInt.toNat = npu.toInt.toNat := (by omega); have z := hvi_60_0; rw [h9] at z; rw [zLn_s, if_neg (by omega)]; exact z))⟩, ht⟩) (fun q hq => by cases hq) dX8_leastCost_122
          · exfalso; have fc_44 : i_60.toInt < npu.toInt := zf_nle c_44 rfl rfl; omega
        | succ nfu ih =>
          intro i_60 v_43 ls hl hbv_43 hvi_60_0 hvi_60_1 hloi_60 hni_60
          refine lv_iload hx hb dX8_leastCost_60 (lv_at hl 0 rfl) ?_
          refine lv_aload_n hx hb dX8_leastCost_62 rfl (lv_at hl 2 rfl) ?_
          refine va_get (D := D) (ci := 8) (v := .int npu) (C := RX8) (T := TX8) (N := 38) hx hb hts hi_X8_leastCost_8 hown hK hP 0 rfl rfl 0 (by decide) (hts (.fieldLink RX8 90 "TheLiningsInItModel" "pulls" "I") (List.mem_of_getElem? (i := 2) rfl)) (fun _ h9 => h9) rfl dX8_leastCost_63 ?_
          refine lv_icmp_ge (tgt := 120) hx hb dX8_leastCost_66 (by decide) (fun c_45 => ?_) (fun c_45 => ?_)
          · have fc_45 : npu.toInt ≤ i_60.toInt := zf_le c_45 rfl rfl
            refine lv_iload hx hb dX8_leastCost_120 (lv_at hl 1 rfl) ?_
            exact W.iret (v := v_43) hx hb hr (fun t ht hW => ⟨v_43, rfl, ⟨by omega, by omega, (show (v_43 : Int32).toInt = (zLn gki gpa gta npu.toInt.toNat nhu.toInt (gco 0).toInt (gco 1).toInt (gco 2).toInt 1) d.toInt sec.toInt from by (have h9 : i_60.toInt.toNat = npu.toInt.toNat := (by omega); have z := hvi_60_0; rw [h9] at z; rw [zLn_s, if_neg (by omega)]; exact z))⟩, ht⟩) (fun q hq => by cases hq) dX8_leastCost_122
          · have fc_45 : i_60.toInt < npu.toInt := zf_nle c_45 rfl rfl
            refine lv_iload_n hx hb dX8_leastCost_69 rfl (lv_at hl 3 rfl) ?_
            refine lv_if_le (tgt := 120) hx hb dX8_leastCost_70 (by decide) (fun c_46 => ?_) (fun c_46 => ?_)
            · exact absurd c_46 (by decide)
            · refine lv_aload_n hx hb dX8_leastCost_73 rfl (lv_at hl 2 rfl) ?_
              refine lv_iload hx hb dX8_leastCost_74 (lv_at hl 0 rfl) ?_
              refine lv_iload_n hx hb dX8_leastCost_76 rfl (lv_at hl 4 rfl) ?_
              refine lv_iload_n hx hb dX8_leastCost_77 rfl (lv_at hl 5 rfl) ?_
              refine zc_V (As := [.int i_60, .int d, .int sec]) (rest := []) ⟨hx, hb, hml, hown, hts⟩ (c_F_M_mayBe l D cI cJ cZ cP cS po m0 mrf mki mpa mta mla msl mco mhe mso msi msh mce mca mwo mnu mte mwa mke mma mth mtr (npu) (nte) (nat_) (nde) (nto) (nse) (nhu) (nga) (nsd) (nfa) (nba) (npl) (nen) (nnu) (nwr) (nra) (nik) gta (i_60) (d) (sec) hy0 hy1 hy2 hy3 hy4 hy5 hy6 hy7 hy8 hy9 hy10 hy11 hy12 hy13 (by omega) (by omega) hp_gta) (cwV 3 hts gX8_leastCost_X8_mayBe rfl rfl rfl ⟨rfl, dh_X8_mayBe⟩ ⟨Nat.le_of_ble_eq_true rfl, Nat.le_of_ble_eq_true rfl⟩) hK hN hZ hP (hP.sub [0, 3] rfl) (va_recv (q := (RX8, TX8, 38)) hK hP (ci := 8) (q0 := 0) rfl rfl) rfl hl.1 rfl (Nat.le_of_ble_eq_true rfl) dX8_leastCost_78 ⟨Nat.le_of_ble_eq_true rfl, Nat.le_of_ble_eq_true rfl⟩ (fun r_47 hr_47 => ?_)
              obtain ⟨g_48, g_49, hsr_47_0⟩ := hr_47
              refine lv_if_ne (tgt := 87) hx hb dX8_leastCost_81 (by decide) (fun c_50 => ?_) (fun c_50 => ?_)
              · have fc_50 : r_47.toInt ≠ 0 := zf_ne c_50 rfl (by decide)
                have htl9 : (gta i_60.toNatClampNeg).toInt ≤ sec.toInt := (hsr_47_0.mp (by omega)).2
                refine lv_aload_n hx hb dX8_leastCost_87 rfl (lv_at hl 2 rfl) ?_
                refine lv_iload hx hb dX8_leastCost_88 (lv_at hl 0 rfl) ?_
                refine lv_iload_n hx hb dX8_leastCost_90 rfl (lv_at hl 3 rfl) ?_
                refine lv_iload_n hx hb dX8_leastCost_91 rfl (lv_at hl 4 rfl) ?_
                refine lv_iload_n hx hb dX8_leastCost_92 rfl (lv_at hl 5 rfl) ?_
                refine zc_V (As := [.int i_60, .int 1, .int d, .int sec]) (rest := []) ⟨hx, hb, hml, hown, hts⟩ (c_F_M_costBy_1 l D cI cJ cZ cP cS po m0 mrf mki mpa mta mla msl mco mhe mso msi msh mce mca mwo mnu mte mwa mke mma mth mtr (npu) (nte) (nat_) (nde) (nto) (nse) (nhu) (nga) (nsd) (nfa) (nba) (npl) (nen) (nnu) (nwr) (nra) (nik) gki gpa gta gco (i_60) (d) (sec) hy0 hy1 hy2 hy3 hy4 hy5 hy6 hy7 hy8 hy9 hy10 hy11 hy12 hy13 (by omega) (by omega) hy14 hy15 hy16 hy17 (by first | assumption | omega) hp_gki hp_gpa hp_gta hp_gco) (cwV 4 hts gX8_leastCost_X8_costBy rfl rfl rfl ⟨rfl, dh_X8_costBy⟩ ⟨Nat.le_of_ble_eq_true rfl, Nat.le_of_ble_eq_true rfl⟩) hK hN hZ hP (hP.sub [0, 1, 2, 3, 4] rfl) (va_recv (q := (RX8, TX8, 38)) hK hP (ci := 8) (q0 := 0) rfl rfl) rfl hl.1 rfl (Nat.le_of_ble_eq_true rfl) dX8_leastCost_93 ⟨Nat.le_of_ble_eq_true rfl, Nat.le_of_ble_eq_true rfl⟩ (fun r_51 hr_51 => ?_)
                obtain ⟨g_52, g_53, hsr_51_0⟩ := hr_51
                refine lv_istore (lv' := [(6, .int r_51), (5, .int i_60), (4, .int v_43), (0, .ref m0), (1, .int 1), (2, .int d), (3, .int sec)]) hx hb dX8_leastCost_96 hl (by decide) rfl (fun ls hl => ?_)
                refine lv_iload hx hb dX8_leastCost_98 (lv_at hl 0 rfl) ?_
                refine lv_iload hx hb dX8_leastCost_100 (lv_at hl 2 rfl) ?_
                refine lv_icmp_ge (tgt := 110) hx hb dX8_leastCost_102 (by decide) (fun c_54 => ?_) (fun c_54 => ?_)
                · have fc_54 : v_43.toInt ≤ r_51.toInt := zf_le c_54 rfl rfl
                  refine lv_iload hx hb dX8_leastCost_110 (lv_at hl 2 rfl) ?_
                  refine lv_istore (lv' := [(4, .int v_43), (6, .int r_51), (5, .int i_60), (0, .ref m0), (1, .int 1), (2, .int d), (3, .int sec)]) hx hb dX8_leastCost_112 hl (by decide) rfl (fun ls hl => ?_)
                  obtain ⟨x_55, ex_55⟩ : ∃ y : Int32, y = i_60 + 1 := ⟨_, rfl⟩
                  have qx_55 : x_55.toInt = i_60.toInt + 1 := dw_inc ex_55 fc_45
                  refine lv_iinc (v := x_55) (lv' := [(5, .int x_55), (4, .int v_43), (6, .int r_51), (0, .ref m0), (1, .int 1), (2, .int d), (3, .int sec)]) hx hb dX8_leastCost_114 hl (k := 2) rfl ex_55.symm (by decide) rfl (fun ls hl => ?_)
                  refine lv_goto (tgt := 60) hx hb dX8_leastCost_117 (by decide) ?_
                  exact ih x_55 v_43 _ (lv_sub hl [0, 1, 3, 4, 5, 6] rfl) hbv_43 (show (v_43 : Int32).toInt = zFi gta d.toInt sec.toInt (zPw 1 * zAt (gco 1).toInt (gco 2).toInt sec.toInt) (zLv (zLn gki gpa gta npu.toInt.toNat nhu.toInt (gco 0).toInt (gco 1).toInt (gco 2).toInt 0) gki gpa gta (gco 0).toInt (zPw 1) nhu.toInt d.toInt sec.toInt) x_55.toInt.toNat from by (have hx : x_55.toInt.toNat = i_60.toInt.toNat + 1 := (by omega); have y9 : i_60.toNatClampNeg = i_60.toInt.toNat := rfl; have hm := hsr_47_0; rw [y9] at hm; rw [hx, zFi_y (hm.mp (by omega)), ← hvi_60_0]; have zr := hsr_51_0; rw [y9] at zr; have zr2 : r_51.toInt = (zLv (zLn gki gpa gta npu.toInt.toNat nhu.toInt (gco 0).toInt (gco 1).toInt (gco 2).toInt 0) gki gpa gta (gco 0).toInt (zPw 1) nhu.toInt d.toInt sec.toInt) i_60.toInt.toNat := zr; omega)) (show x_55.toInt ≤ npu.toInt from by omega) (dw_lo hloi_60 qx_55) (dw_hn hni_60 qx_55)
                · have fc_54 : r_51.toInt < v_43.toInt := zf_nle c_54 rfl rfl
                  refine lv_iload hx hb dX8_leastCost_105 (lv_at hl 0 rfl) ?_
                  refine lv_goto (tgt := 112) hx hb dX8_leastCost_107 (by decide) ?_
                  refine lv_istore (lv' := [(4, .int r_51), (6, .int r_51), (5, .int i_60), (0, .ref m0), (1, .int 1), (2, .int d), (3, .int sec)]) hx hb dX8_leastCost_112 hl (by decide) rfl (fun ls hl => ?_)
                  obtain ⟨x_56, ex_56⟩ : ∃ y : Int32, y = i_60 + 1 := ⟨_, rfl⟩
                  have qx_56 : x_56.toInt = i_60.toInt + 1 := dw_inc ex_56 fc_45
                  refine lv_iinc (v := x_56) (lv' := [(5, .int x_56), (4, .int r_51), (6, .int r_51), (0, .ref m0), (1, .int 1), (2, .int d), (3, .int sec)]) hx hb dX8_leastCost_114 hl (k := 2) rfl ex_56.symm (by decide) rfl (fun ls hl => ?_)
                  refine lv_goto (tgt := 60) hx hb dX8_leastCost_117 (by decide) ?_
                  exact ih x_56 r_51 _ (lv_sub hl [0, 1, 3, 4, 5, 6] rfl) ⟨by omega, by omega⟩ (show (r_51 : Int32).toInt = zFi gta d.toInt sec.toInt (zPw 1 * zAt (gco 1).toInt (gco 2).toInt sec.toInt) (zLv (zLn gki gpa gta npu.toInt.toNat nhu.toInt (gco 0).toInt (gco 1).toInt (gco 2).toInt 0) gki gpa gta (gco 0).toInt (zPw 1) nhu.toInt d.toInt sec.toInt) x_56.toInt.toNat from by (have hx : x_56.toInt.toNat = i_60.toInt.toNat + 1 := (by omega); have y9 : i_60.toNatClampNeg = i_60.toInt.toNat := rfl; have hm := hsr_47_0; rw [y9] at hm; rw [hx, zFi_y (hm.mp (by omega)), ← hvi_60_0]; have zr := hsr_51_0; rw [y9] at zr; have zr2 : r_51.toInt = (zLv (zLn gki gpa gta npu.toInt.toNat nhu.toInt (gco 0).toInt (gco 1).toInt (gco 2).toInt 0) gki gpa gta (gco 0).toInt (zPw 1) nhu.toInt d.toInt sec.toInt) i_60.toInt.toNat := zr; omega)) (show x_56.toInt ≤ npu.toInt from by omega) (dw_lo hloi_60 qx_56) (dw_hn hni_60 qx_56)
              · have fc_50 : r_47.toInt = 0 := zf_eq c_50 rfl (by decide)
                refine lv_goto (tgt := 114) hx hb dX8_leastCost_84 (by decide) ?_
                obtain ⟨x_57, ex_57⟩ : ∃ y : Int32, y = i_60 + 1 := ⟨_, rfl⟩
                have qx_57 : x_57.toInt = i_60.toInt + 1 := dw_inc ex_57 fc_45
                refine lv_iinc (v := x_57) (lv' := [(5, .int x_57), (4, .int v_43), (0, .ref m0), (1, .int 1), (2, .int d), (3, .int sec)]) hx hb dX8_leastCost_114 hl (k := 0) rfl ex_57.symm (by decide) rfl (fun ls hl => ?_)
                refine lv_goto (tgt := 60) hx hb dX8_leastCost_117 (by decide) ?_
                exact ih x_57 v_43 _ (lv_sub hl [0, 1, 2, 3, 4, 5] rfl) hbv_43 (show (v_43 : Int32).toInt = zFi gta d.toInt sec.toInt (zPw 1 * zAt (gco 1).toInt (gco 2).toInt sec.toInt) (zLv (zLn gki gpa gta npu.toInt.toNat nhu.toInt (gco 0).toInt (gco 1).toInt (gco 2).toInt 0) gki gpa gta (gco 0).toInt (zPw 1) nhu.toInt d.toInt sec.toInt) x_57.toInt.toNat from by (have hx : x_57.toInt.toNat = i_60.toInt.toNat + 1 := (by omega); have y9 : i_60.toNatClampNeg = i_60.toInt.toNat := rfl; have hm := hsr_47_0; rw [y9] at hm; rw [hx, zFi_n (fun z => by (have z1 := hm.mpr z; omega))]; exact hvi_60_0)) (show x_57.toInt ≤ npu.toInt from by omega) (dw_lo hloi_60 qx_57) (dw_hn hni_60 qx_57)
  · have fc_1 : d.toInt = 0 := zf_eq c_1 rfl (by decide)
    refine lv_iconst (v := 0) hx hb dX8_leastCost_4 (by decide) ?_
    exact W.iret (v := 0) hx hb hr (fun t ht hW => ⟨0, rfl, ⟨by decide, by decide, (show (0 : Int32).toInt = (zLn gki gpa gta npu.toInt.toNat nhu.toInt (gco 0).toInt (gco 1).toInt (gco 2).toInt 1) d.toInt sec.toInt from by (have k9 : (0 : Int32).toInt = 0 := (by decide); rw [zLn_s, if_pos (by omega)]; exact k9))⟩, ht⟩) (fun q hq => by cases hq) dX8_leastCost_5
set_option maxHeartbeats 4000000 in
set_option maxRecDepth 100000 in
theorem c_F_M_costBy_2 (l : Launch) (D : va_G) (cI cJ cZ cP cS : ClassId) (po : zPool) (m0 mrf mki mpa mta mla msl mco mhe mso msi msh mce mca mwo mnu mte mwa mke mma mth mtr : Nat) (npu nte nat_ nde nto nse nhu nga nsd nfa nba npl nen nnu nwr nra nik : Int32) (gki gpa gta gco : Nat → Int32) (p_ d sec : Int32) (hy0 : 0 ≤ npu.toInt) (hy1 : npu.toInt ≤ 8) (hy2 : 4 ≤ nte.toInt) (hy3 : nte.toInt ≤ 40) (hy4 : 0 ≤ nat_.toInt) (hy5 : nat_.toInt ≤ 40) (hy6 : 0 ≤ nde.toInt) (hy7 : nde.toInt ≤ 24) (hy8 : 0 ≤ nhu.toInt) (hy9 : nhu.toInt ≤ 9) (hy10 : 0 ≤ nra.toInt) (hy11 : nra.toInt ≤ 2000) (hy12 : 0 ≤ nik.toInt) (hy13 : nik.toInt ≤ 1) (hy14 : 0 ≤ p_.toInt) (hy15 : p_.toInt ≤ 7) (hy16 : 0 ≤ d.toInt) (hy17 : d.toInt ≤ 24) (hy18 : 0 ≤ sec.toInt) (hy19 : sec.toInt ≤ 300) (htl : (gta p_.toNatClampNeg).toInt ≤ sec.toInt) (hp_gki : zRg gki (0) 6) (hp_gpa : zRg gpa (0) 9) (hp_gta : zRg gta (0) 60) (hp_gco : zRg gco (0) 99) : Met l yX8_costBy wsX8_costBy ({ frames := 4, cells := 0, slots := 0, locals := 99 }) (va_Pc [.ref m0, .int p_, .int 2, .int d, .int sec] (zR D (zKT cI cJ cZ cP cS) po [(zMO m0 npu nte nat_ nde nto nse nhu nga nsd nfa mrf mki mpa mta mla msl mco mhe mso msi msh mce mca mwo mnu mte nba npl nen nnu nwr mwa mke mma mth mtr nra nik), (mki, .inl (cI, 8, .inl gki)), (mpa, .inl (cI, 8, .inl gpa)), (mta, .inl (cI, 8, .inl gta)), (mco, .inl (cI, 3, .inl gco))])) (vp_Si (fun r => 0 ≤ r.toInt ∧ r.toInt ≤ 28512 ∧ (r.toInt = zLb (zLn gki gpa gta npu.toInt.toNat nhu.toInt (gco 0).toInt (gco 1).toInt (gco 2).toInt 1) (gco 0).toInt (zPw 2) (gki p_.toNatClampNeg).toInt (gpa p_.toNatClampNeg).toInt (gta p_.toNatClampNeg).toInt nhu.toInt d.toInt sec.toInt))) 0 0 (fun _ => False) := by sorry
set_option maxHeartbeats 4000000 in
set_option maxRecDepth 100000 in
theorem c_F_M_leastCost_2 (l : Launch) (D : va_G) (cI cJ cZ cP cS : ClassId) (po : zPool) (m0 mrf mki mpa mta mla msl mco mhe mso msi msh mce mca mwo mnu mte mwa mke mma mth mtr : Nat) (npu nte nat_ nde nto nse nhu nga nsd nfa nba npl nen nnu nwr nra nik : Int32) (gki gpa gta gco : Nat → Int32) (d sec : Int32) (hy0 : 0 ≤ npu.toInt) (hy1 : npu.toInt ≤ 8) (hy2 : 4 ≤ nte.toInt) (hy3 : nte.toInt ≤ 40) (hy4 : 0 ≤ nat_.toInt) (hy5 : nat_.toInt ≤ 40) (hy6 : 0 ≤ nde.toInt) (hy7 : nde.toInt ≤ 24) (hy8 : 0 ≤ nhu.toInt) (hy9 : nhu.toInt ≤ 9) (hy10 : 0 ≤ nra.toInt) (hy11 : nra.toInt ≤ 2000) (hy12 : 0 ≤ nik.toInt) (hy13 : nik.toInt ≤ 1) (hy14 : 0 ≤ d.toInt) (hy15 : d.toInt ≤ 24) (hy16 : 0 ≤ sec.toInt) (hy17 : sec.toInt ≤ 300) (hp_gki : zRg gki (0) 6) (hp_gpa : zRg gpa (0) 9) (hp_gta : zRg gta (0) 60) (hp_gco : zRg gco (0) 99) : Met l yX8_leastCost wsX8_leastCost ({ frames := 5, cells := 0, slots := 0, locals := 125 }) (va_Pc [.ref m0, .int 2, .int d, .int sec] (zR D (zKT cI cJ cZ cP cS) po [(zMO m0 npu nte nat_ nde nto nse nhu nga nsd nfa mrf mki mpa mta mla msl mco mhe mso msi msh mce mca mwo mnu mte nba npl nen nnu nwr mwa mke mma mth mtr nra nik), (mki, .inl (cI, 8, .inl gki)), (mpa, .inl (cI, 8, .inl gpa)), (mta, .inl (cI, 8, .inl gta)), (mco, .inl (cI, 3, .inl gco))])) (vp_Si (fun r => 0 ≤ r.toInt ∧ r.toInt ≤ 14256 ∧ (r.toInt = (zLn gki gpa gta npu.toInt.toNat nhu.toInt (gco 0).toInt (gco 1).toInt (gco 2).toInt 2) d.toInt sec.toInt))) 0 0 (fun _ => False) := by
  refine Met.ofW (cc := cX8_leastCost) (maxL := 7) (ret := (some .int)) (by decide) rfl ?_
  intro p e s m args below meth c s₁ B hml hv
  obtain ⟨rfl, hP, hK, hN, hZ⟩ := hv
  have hx := B.exec
  have hb := B.bytes
  have hr := B.returns
  have hts := atoms_spec (ws := wsX8_leastCost) B.pre
  have hown : s.vm.findClass RX8 = some m.cls := findClass_of_methodNamed B.named
  have hlocks := B.notSynchronized
  have hl := lv_entry ([.ref m0, .int 2, .int d, .int sec]) (n := 7) (Nat.le_of_ble_eq_true rfl)
  rw [lg_entry_eq]
  generalize (lg_sl ([.ref m0, .int 2, .int d, .int sec]) ++ List.replicate (7 - (lg_sl ([.ref m0, .int 2, .int d, .int sec])).length) Slot.unset).toArray = ls at hl ⊢
  replace hl : lv_has ls 7 [(0, .ref m0), (1, .int 2), (2, .int d), (3, .int sec)] := hl
  refine lv_iload_n hx hb dX8_leastCost_0 rfl (lv_at hl 2 rfl) ?_
  refine lv_if_ne (tgt := 6) hx hb dX8_leastCost_1 (by decide) (fun c_1 => ?_) (fun c_1 => ?_)
  · have fc_1 : d.toInt ≠ 0 := zf_ne c_1 rfl (by decide)
    refine lv_aload_n hx hb dX8_leastCost_6 rfl (lv_at hl 0 rfl) ?_
    refine va_get (D := D) (ci := 8) (v := .ref mco) (C := RX8) (T := TX8) (N := 38) hx hb hts hi_X8_leastCost_8 hown hK hP 0 rfl rfl 16 (by decide) (hts (.fieldLink RX8 44 "TheLiningsInItModel" "cost" "[I") (List.mem_of_getElem? (i := 1) rfl)) (fun _ h9 => h9) rfl dX8_leastCost_7 ?_
    refine lv_iconst (v := 2) hx hb dX8_leastCost_10 (by decide) ?_
    refine va_iald hx hb hK hP 4 0 rfl rfl (zf_in (by decide) (by decide)) dX8_leastCost_11 ?_
    refine lv_topi (fun x_2 ex_2 => ?_)
    have bx_2 : 0 ≤ x_2.toInt ∧ x_2.toInt ≤ 99 := by rw [ex_2]; exact hp_gco _
    refine lv_aload_n hx hb dX8_leastCost_12 rfl (lv_at hl 0 rfl) ?_
    refine lv_iload_n hx hb dX8_leastCost_13 rfl (lv_at hl 1 rfl) ?_
    refine zc_V (As := [.int 2]) (rest := [.int x_2]) ⟨hx, hb, hml, hown, hts⟩ (c_M_power_2 l D cI cJ cZ cP cS po m0 mrf mki mpa mta mla msl mco mhe mso msi msh mce mca mwo mnu mte mwa mke mma mth mtr (npu) (nte) (nat_) (nde) (nto) (nse) (nhu) (nga) (nsd) (nfa) (nba) (npl) (nen) (nnu) (nwr) (nra) (nik) hy0 hy1 hy2 hy3 hy4 hy5 hy6 hy7 hy8 hy9 hy10 hy11 hy12 hy13) (cwV 1 hts gX8_leastCost_X8_power rfl rfl rfl ⟨rfl, dh_X8_power⟩ ⟨Nat.le_of_ble_eq_true rfl, Nat.le_of_ble_eq_true rfl⟩) hK hN hZ hP (hP.sub [0] rfl) (va_recv (q := (RX8, TX8, 38)) hK hP (ci := 8) (q0 := 0) rfl rfl) rfl hl.1 rfl (Nat.le_of_ble_eq_true rfl) dX8_leastCost_14 ⟨Nat.le_of_ble_eq_true rfl, Nat.le_of_ble_eq_true rfl⟩ (fun r_3 hr_3 => ?_)
    obtain rfl := hr_3
    refine lv_imul hx hb dX8_leastCost_17 ?_
    refine lv_topi (fun x_4 ex_4 => ?_)
    have qx_4 : x_4.toInt = x_2.toInt * 144 := by rw [ex_4]; exact zf_mul rfl (by decide) (by omega) (by omega)
    refine lv_istore (lv' := [(4, .int x_4), (0, .ref m0), (1, .int 2), (2, .int d), (3, .int sec)]) hx hb dX8_leastCost_18 hl (by decide) rfl (fun ls hl => ?_)
    refine lv_iload_n hx hb dX8_leastCost_20 rfl (lv_at hl 4 rfl) ?_
    refine lv_bipush (v := 30) hx hb dX8_leastCost_21 (by decide) ?_
    refine lv_icmp_lt (tgt := 57) hx hb dX8_leastCost_23 (by decide) (fun c_5 => ?_) (fun c_5 => ?_)
    · have fc_5 : sec.toInt < 30 := zf_lt c_5 rfl (by decide)
      refine lv_iconst (v := 0) hx hb dX8_leastCost_57 (by decide) ?_
      refine lv_istore (lv' := [(5, .int 0), (4, .int x_4), (0, .ref m0), (1, .int 2), (2, .int d), (3, .int sec)]) hx hb dX8_leastCost_58 hl (by decide) rfl (fun ls hl => ?_)
      obtain ⟨i_60, hi_60⟩ : ∃ i : Int32, i = 0 := ⟨_, rfl⟩
      replace hl : lv_has ls 7 [(5, .int i_60), (4, .int x_4), (0, .ref m0), (1, .int 2), (2, .int d), (3, .int sec)] := by rw [hi_60]; exact lv_sub hl [0, 1, 2, 3, 4, 5] rfl
      have h1i_60 : i_60.toInt = 0 := by rw [hi_60]; decide
      obtain ⟨nfu, hni_60⟩ : ∃ nq9 : Nat, npu.toInt ≤ i_60.toInt + (nq9 : Int) := ⟨((npu.toInt : Int) - 0).toNat, by omega⟩
      have hloi_60 : 0 ≤ i_60.toInt := by omega
      obtain ⟨v_6, hv_6⟩ : ∃ g : Int32, g = x_4 := ⟨_, rfl⟩
      replace hl : lv_has ls 7 [(5, .int i_60), (4, .int v_6), (0, .ref m0), (1, .int 2), (2, .int d), (3, .int sec)] := by rw [hv_6]; exact hl
      have hbv_6 : 0 ≤ v_6.toInt ∧ v_6.toInt ≤ 14256 := by rw [hv_6]; exact ⟨by omega, by omega⟩
      have hvi_60_0 : (v_6 : Int32).toInt = zFi gta d.toInt sec.toInt (zPw 2 * zAt (gco 1).toInt (gco 2).toInt sec.toInt) (zLv (zLn gki gpa gta npu.toInt.toNat nhu.toInt (gco 0).toInt (gco 1).toInt (gco 2).toInt 1) gki gpa gta (gco 0).toInt (zPw 2) nhu.toInt d.toInt sec.toInt) i_60.toInt.toNat := by
        (try rw [hi_60]); (try rw [hv_6]); (rw [(show ((0 : Int32).toInt.toNat) = 0 from by decide)]; show _ = zPw 2 * zAt (gco 1).toInt (gco 2).toInt sec.toInt; (have nx_2 : (gco 2).toInt = x_2.toInt := (by rw [ex_2, show (2 : Int32).toNatClampNeg = 2 from by decide]); unfold zAt; rw [show zPw 2 = 144 from by decide]; first | (rw [if_pos (by omega)]; omega) | (rw [if_neg (by omega)]; omega)))
      have hvi_60_1 : i_60.toInt ≤ npu.toInt := by
        (try rw [hi_60]); (try rw [hv_6]); (have k0 : (0 : Int32).toInt = 0 := (by decide); omega)
      clear h1i_60 hi_60 hv_6
      revert hni_60
      revert hloi_60
      revert hvi_60_1
      revert hvi_60_0
      revert hbv_6
      revert hl
      revert ls
      revert v_6
      revert i_60
      induction nfu with
      | zero =>
        intro i_60 v_6 ls hl hbv_6 hvi_60_0 hvi_60_1 hloi_60 hni_60
        have hzi_60 : npu.toInt ≤ i_60.toInt := by omega
        refine lv_iload hx hb dX8_leastCost_60 (lv_at hl 0 rfl) ?_
        refine lv_aload_n hx hb dX8_leastCost_62 rfl (lv_at hl 2 rfl) ?_
        refine va_get (D := D) (ci := 8) (v := .int npu) (C := RX8) (T := TX8) (N := 38) hx hb hts hi_X8_leastCost_8 hown hK hP 0 rfl rfl 0 (by decide) (hts (.fieldLink RX8 90 "TheLiningsInItModel" "pulls" "I") (List.mem_of_getElem? (i := 2) rfl)) (fun _ h9 => h9) rfl dX8_leastCost_63 ?_
        refine lv_icmp_ge (tgt := 120) hx hb dX8_leastCost_66 (by decide) (fun c_7 => ?_) (fun c_7 => ?_)
        · have fc_7 : npu.toInt ≤ i_60.toInt := zf_le c_7 rfl rfl
          refine lv_iload hx hb dX8_leastCost_120 (lv_at hl 1 rfl) ?_
          exact W.iret (v := v_6) hx hb hr (fun t ht hW => ⟨v_6, rfl, ⟨by omega, by omega, (show (v_6 : Int32).toInt = (zLn gki gpa gta npu.toInt.toNat nhu.toInt (gco 0).toInt (gco 1).toInt (gco 2).toInt 2) d.toInt sec.toInt from by (have h9 : i_60.toInt.toNat = npu.toInt.toNat := (by omega); have z := hvi_60_0; rw [h9] at z; rw [zLn_s, if_neg (by omega)]; exact z))⟩, ht⟩) (fun q hq => by cases hq) dX8_leastCost_122
        · exfalso; have fc_7 : i_60.toInt < npu.toInt := zf_nle c_7 rfl rfl; omega
      | succ nfu ih =>
        intro i_60 v_6 ls hl hbv_6 hvi_60_0 hvi_60_1 hloi_60 hni_60
        refine lv_iload hx hb dX8_leastCost_60 (lv_at hl 0 rfl) ?_
        refine lv_aload_n hx hb dX8_leastCost_62 rfl (lv_at hl 2 rfl) ?_
        refine va_get (D := D) (ci := 8) (v := .int npu) (C := RX8) (T := TX8) (N := 38) hx hb hts hi_X8_leastCost_8 hown hK hP 0 rfl rfl 0 (by decide) (hts (.fieldLink RX8 90 "TheLiningsInItModel" "pulls" "I") (List.mem_of_getElem? (i := 2) rfl)) (fun _ h9 => h9) rfl dX8_leastCost_63 ?_
        refine lv_icmp_ge (tgt := 120) hx hb dX8_leastCost_66 (by decide) (fun c_8 => ?_) (fun c_8 => ?_)
        · have fc_8 : npu.toInt ≤ i_60.toInt := zf_le c_8 rfl rfl
          refine lv_iload hx hb dX8_leastCost_120 (lv_at hl 1 rfl) ?_
          exact W.iret (v := v_6) hx hb hr (fun t ht hW => ⟨v_6, rfl, ⟨by omega, by omega, (show (v_6 : Int32).toInt = (zLn gki gpa gta npu.toInt.toNat nhu.toInt (gco 0).toInt (gco 1).toInt (gco 2).toInt 2) d.toInt sec.toInt from by (have h9 : i_60.toInt.toNat = npu.toInt.toNat := (by omega); have z := hvi_60_0; rw [h9] at z; rw [zLn_s, if_neg (by omega)]; exact z))⟩, ht⟩) (fun q hq => by cases hq) dX8_leastCost_122
        · have fc_8 : i_60.toInt < npu.toInt := zf_nle c_8 rfl rfl
          refine lv_iload_n hx hb dX8_leastCost_69 rfl (lv_at hl 3 rfl) ?_
          refine lv_if_le (tgt := 120) hx hb dX8_leastCost_70 (by decide) (fun c_9 => ?_) (fun c_9 => ?_)
          · exact absurd c_9 (by decide)
          · refine lv_aload_n hx hb dX8_leastCost_73 rfl (lv_at hl 2 rfl) ?_
            refine lv_iload hx hb dX8_leastCost_74 (lv_at hl 0 rfl) ?_
            refine lv_iload_n hx hb dX8_leastCost_76 rfl (lv_at hl 4 rfl) ?_
            refine lv_iload_n hx hb dX8_leastCost_77 rfl (lv_at hl 5 rfl) ?_
            refine zc_V (As := [.int i_60, .int d, .int sec]) (rest := []) ⟨hx, hb, hml, hown, hts⟩ (c_F_M_mayBe l D cI cJ cZ cP cS po m0 mrf mki mpa mta mla msl mco mhe mso msi msh mce mca mwo mnu mte mwa mke mma mth mtr (npu) (nte) (nat_) (nde) (nto) (nse) (nhu) (nga) (nsd) (nfa) (nba) (npl) (nen) (nnu) (nwr) (nra) (nik) gta (i_60) (d) (sec) hy0 hy1 hy2 hy3 hy4 hy5 hy6 hy7 hy8 hy9 hy10 hy11 hy12 hy13 (by omega) (by omega) hp_gta) (cwV 3 hts gX8_leastCost_X8_mayBe rfl rfl rfl ⟨rfl, dh_X8_mayBe⟩ ⟨Nat.le_of_ble_eq_true rfl, Nat.le_of_ble_eq_true rfl⟩) hK hN hZ hP (hP.sub [0, 3] rfl) (va_recv (q := (RX8, TX8, 38)) hK hP (ci := 8) (q0 := 0) rfl rfl) rfl hl.1 rfl (Nat.le_of_ble_eq_true rfl) dX8_leastCost_78 ⟨Nat.le_of_ble_eq_true rfl, Nat.le_of_ble_eq_true rfl⟩ (fun r_10 hr_10 => ?_)
            obtain ⟨g_11, g_12, hsr_10_0⟩ := hr_10
            refine lv_if_ne (tgt := 87) hx hb dX8_leastCost_81 (by decide) (fun c_13 => ?_) (fun c_13 => ?_)
            · have fc_13 : r_10.toInt ≠ 0 := zf_ne c_13 rfl (by decide)
              have htl9 : (gta i_60.toNatClampNeg).toInt ≤ sec.toInt := (hsr_10_0.mp (by omega)).2
              refine lv_aload_n hx hb dX8_leastCost_87 rfl (lv_at hl 2 rfl) ?_
              refine lv_iload hx hb dX8_leastCost_88 (lv_at hl 0 rfl) ?_
              refine lv_iload_n hx hb dX8_leastCost_90 rfl (lv_at hl 3 rfl) ?_
              refine lv_iload_n hx hb dX8_leastCost_91 rfl (lv_at hl 4 rfl) ?_
              refine lv_iload_n hx hb dX8_leastCost_92 rfl (lv_at hl 5 rfl) ?_
              refine zc_V (As := [.int i_60, .int 2, .int d, .int sec]) (rest := []) ⟨hx, hb, hml, hown, hts⟩ (c_F_M_costBy_2 l D cI cJ cZ cP cS po m0 mrf mki mpa mta mla msl mco mhe mso msi msh mce mca mwo mnu mte mwa mke mma mth mtr (npu) (nte) (nat_) (nde) (nto) (nse) (nhu) (nga) (nsd) (nfa) (nba) (npl) (nen) (nnu) (nwr) (nra) (nik) gki gpa gta gco (i_60) (d) (sec) hy0 hy1 hy2 hy3 hy4 hy5 hy6 hy7 hy8 hy9 hy10 hy11 hy12 hy13 (by omega) (by omega) hy14 hy15 hy16 hy17 (by first | assumption | omega) hp_gki hp_gpa hp_gta hp_gco) (cwV 4 hts gX8_leastCost_X8_costBy rfl rfl rfl ⟨rfl, dh_X8_costBy⟩ ⟨Nat.le_of_ble_eq_true rfl, Nat.le_of_ble_eq_true rfl⟩) hK hN hZ hP (hP.sub [0, 1, 2, 3, 4] rfl) (va_recv (q := (RX8, TX8, 38)) hK hP (ci := 8) (q0 := 0) rfl rfl) rfl hl.1 rfl (Nat.le_of_ble_eq_true rfl) dX8_leastCost_93 ⟨Nat.le_of_ble_eq_true rfl, Nat.le_of_ble_eq_true rfl⟩ (fun r_14 hr_14 => ?_)
              obtain ⟨g_15, g_16, hsr_14_0⟩ := hr_14
              refine lv_istore (lv' := [(6, .int r_14), (5, .int i_60), (4, .int v_6), (0, .ref m0), (1, .int 2), (2, .int d), (3, .int sec)]) hx hb dX8_leastCost_96 hl (by decide) rfl (fun ls hl => ?_)
              refine lv_iload hx hb dX8_leastCost_98 (lv_at hl 0 rfl) ?_
              refine lv_iload hx hb dX8_leastCost_100 (lv_at hl 2 rfl) ?_
              refine lv_icmp_ge (tgt := 110) hx hb dX8_leastCost_102 (by decide) (fun c_17 => ?_) (fun c_17 => ?_)
              · have fc_17 : v_6.toInt ≤ r_14.toInt := zf_le c_17 rfl rfl
                refine lv_iload hx hb dX8_leastCost_110 (lv_at hl 2 rfl) ?_
                refine lv_istore (lv' := [(4, .int v_6), (6, .int r_14), (5, .int i_60), (0, .ref m0), (1, .int 2), (2, .int d), (3, .int sec)]) hx hb dX8_leastCost_112 hl (by decide) rfl (fun ls hl => ?_)
                obtain ⟨x_18, ex_18⟩ : ∃ y : Int32, y = i_60 + 1 := ⟨_, rfl⟩
                have qx_18 : x_18.toInt = i_60.toInt + 1 := dw_inc ex_18 fc_8
                refine lv_iinc (v := x_18) (lv' := [(5, .int x_18), (4, .int v_6), (6, .int r_14), (0, .ref m0), (1, .int 2), (2, .int d), (3, .int sec)]) hx hb dX8_leastCost_114 hl (k := 2) rfl ex_18.symm (by decide) rfl (fun ls hl => ?_)
                refine lv_goto (tgt := 60) hx hb dX8_leastCost_117 (by decide) ?_
                exact ih x_18 v_6 _ (lv_sub hl [0, 1, 3, 4, 5, 6] rfl) hbv_6 (show (v_6 : Int32).toInt = zFi gta d.toInt sec.toInt (zPw 2 * zAt (gco 1).toInt (gco 2).toInt sec.toInt) (zLv (zLn gki gpa gta npu.toInt.toNat nhu.toInt (gco 0).toInt (gco 1).toInt (gco 2).toInt 1) gki gpa gta (gco 0).toInt (zPw 2) nhu.toInt d.toInt sec.toInt) x_18.toInt.toNat from by (have hx : x_18.toInt.toNat = i_60.toInt.toNat + 1 := (by omega); have y9 : i_60.toNatClampNeg = i_60.toInt.toNat := rfl; have hm := hsr_10_0; rw [y9] at hm; rw [hx, zFi_y (hm.mp (by omega)), ← hvi_60_0]; have zr := hsr_14_0; rw [y9] at zr; have zr2 : r_14.toInt = (zLv (zLn gki gpa gta npu.toInt.toNat nhu.toInt (gco 0).toInt (gco 1).toInt (gco 2).toInt 1) gki gpa gta (gco 0).toInt (zPw 2) nhu.toInt d.toInt sec.toInt) i_60.toInt.toNat := zr; omega)) (show x_18.toInt ≤ npu.toInt from by omega) (dw_lo hloi_60 qx_18) (dw_hn hni_60 qx_18)
              · have fc_17 : r_14.toInt < v_6.toInt := zf_nle c_17 rfl rfl
                refine lv_iload hx hb dX8_leastCost_105 (lv_at hl 0 rfl) ?_
                refine lv_goto (tgt := 112) hx hb dX8_leastCost_107 (by decide) ?_
                refine lv_istore (lv' := [(4, .int r_14), (6, .int r_14), (5, .int i_60), (0, .ref m0), (1, .int 2), (2, .int d), (3, .int sec)]) hx hb dX8_leastCost_112 hl (by decide) rfl (fun ls hl => ?_)
                obtain ⟨x_19, ex_19⟩ : ∃ y : Int32, y = i_60 + 1 := ⟨_, rfl⟩
                have qx_19 : x_19.toInt = i_60.toInt + 1 := dw_inc ex_19 fc_8
                refine lv_iinc (v := x_19) (lv' := [(5, .int x_19), (4, .int r_14), (6, .int r_14), (0, .ref m0), (1, .int 2), (2, .int d), (3, .int sec)]) hx hb dX8_leastCost_114 hl (k := 2) rfl ex_19.symm (by decide) rfl (fun ls hl => ?_)
                refine lv_goto (tgt := 60) hx hb dX8_leastCost_117 (by decide) ?_
                exact ih x_19 r_14 _ (lv_sub hl [0, 1, 3, 4, 5, 6] rfl) ⟨by omega, by omega⟩ (show (r_14 : Int32).toInt = zFi gta d.toInt sec.toInt (zPw 2 * zAt (gco 1).toInt (gco 2).toInt sec.toInt) (zLv (zLn gki gpa gta npu.toInt.toNat nhu.toInt (gco 0).toInt (gco 1).toInt (gco 2).toInt 1) gki gpa gta (gco 0).toInt (zPw 2) nhu.toInt d.toInt sec.toInt) x_19.toInt.toNat from by (have hx : x_19.toInt.toNat = i_60.toInt.toNat + 1 := (by omega); have y9 : i_60.toNatClampNeg = i_60.toInt.toNat := rfl; have hm := hsr_10_0; rw [y9] at hm; rw [hx, zFi_y (hm.mp (by omega)), ← hvi_60_0]; have zr := hsr_14_0; rw [y9] at zr; have zr2 : r_14.toInt = (zLv (zLn gki gpa gta npu.toInt.toNat nhu.toInt (gco 0).toInt (gco 1).toInt (gco 2).toInt 1) gki gpa gta (gco 0).toInt (zPw 2) nhu.toInt d.toInt sec.toInt) i_60.toInt.toNat := zr; omega)) (show x_19.toInt ≤ npu.toInt from by omega) (dw_lo hloi_60 qx_19) (dw_hn hni_60 qx_19)
            · have fc_13 : r_10.toInt = 0 := zf_eq c_13 rfl (by decide)
              refine lv_goto (tgt := 114) hx hb dX8_leastCost_84 (by decide) ?_
              obtain ⟨x_20, ex_20⟩ : ∃ y : Int32, y = i_60 + 1 := ⟨_, rfl⟩
              have qx_20 : x_20.toInt = i_60.toInt + 1 := dw_inc ex_20 fc_8
              refine lv_iinc (v := x_20) (lv' := [(5, .int x_20), (4, .int v_6), (0, .ref m0), (1, .int 2), (2, .int d), (3, .int sec)]) hx hb dX8_leastCost_114 hl (k := 0) rfl ex_20.symm (by decide) rfl (fun ls hl => ?_)
              refine lv_goto (tgt := 60) hx hb dX8_leastCost_117 (by decide) ?_
              exact ih x_20 v_6 _ (lv_sub hl [0, 1, 2, 3, 4, 5] rfl) hbv_6 (show (v_6 : Int32).toInt = zFi gta d.toInt sec.toInt (zPw 2 * zAt (gco 1).toInt (gco 2).toInt sec.toInt) (zLv (zLn gki gpa gta npu.toInt.toNat nhu.toInt (gco 0).toInt (gco 1).toInt (gco 2).toInt 1) gki gpa gta (gco 0).toInt (zPw 2) nhu.toInt d.toInt sec.toInt) x_20.toInt.toNat from by (have hx : x_20.toInt.toNat = i_60.toInt.toNat + 1 := (by omega); have y9 : i_60.toNatClampNeg = i_60.toInt.toNat := rfl; have hm := hsr_10_0; rw [y9] at hm; rw [hx, zFi_n (fun z => by (have z1 := hm.mpr z; omega))]; exact hvi_60_0)) (show x_20.toInt ≤ npu.toInt from by omega) (dw_lo hloi_60 qx_20) (dw_hn hni_60 qx_20)
    · have fc_5 : 30 ≤ sec.toInt := zf_nlt c_5 rfl (by decide)
      refine lv_aload_n hx hb dX8_leastCost_26 rfl (lv_at hl 1 rfl) ?_
      refine va_get (D := D) (ci := 8) (v := .ref mco) (C := RX8) (T := TX8) (N := 38) hx hb hts hi_X8_leastCost_8 hown hK hP 0 rfl rfl 16 (by decide) (hts (.fieldLink RX8 44 "TheLiningsInItModel" "cost" "[I") (List.mem_of_getElem? (i := 1) rfl)) (fun _ h9 => h9) rfl dX8_leastCost_27 ?_
      refine lv_iconst (v := 1) hx hb dX8_leastCost_30 (by decide) ?_
      refine va_iald hx hb hK hP 4 0 rfl rfl (zf_in (by decide) (by decide)) dX8_leastCost_31 ?_
      refine lv_topi (fun x_21 ex_21 => ?_)
      have bx_21 : 0 ≤ x_21.toInt ∧ x_21.toInt ≤ 99 := by rw [ex_21]; exact hp_gco _
      refine lv_aload_n hx hb dX8_leastCost_32 rfl (lv_at hl 1 rfl) ?_
      refine lv_iload_n hx hb dX8_leastCost_33 rfl (lv_at hl 2 rfl) ?_
      refine zc_V (As := [.int 2]) (rest := [.int x_21]) ⟨hx, hb, hml, hown, hts⟩ (c_M_power_2 l D cI cJ cZ cP cS po m0 mrf mki mpa mta mla msl mco mhe mso msi msh mce mca mwo mnu mte mwa mke mma mth mtr (npu) (nte) (nat_) (nde) (nto) (nse) (nhu) (nga) (nsd) (nfa) (nba) (npl) (nen) (nnu) (nwr) (nra) (nik) hy0 hy1 hy2 hy3 hy4 hy5 hy6 hy7 hy8 hy9 hy10 hy11 hy12 hy13) (cwV 1 hts gX8_leastCost_X8_power rfl rfl rfl ⟨rfl, dh_X8_power⟩ ⟨Nat.le_of_ble_eq_true rfl, Nat.le_of_ble_eq_true rfl⟩) hK hN hZ hP (hP.sub [0] rfl) (va_recv (q := (RX8, TX8, 38)) hK hP (ci := 8) (q0 := 0) rfl rfl) rfl hl.1 rfl (Nat.le_of_ble_eq_true rfl) dX8_leastCost_34 ⟨Nat.le_of_ble_eq_true rfl, Nat.le_of_ble_eq_true rfl⟩ (fun r_22 hr_22 => ?_)
      obtain rfl := hr_22
      refine lv_imul hx hb dX8_leastCost_37 ?_
      refine lv_topi (fun x_23 ex_23 => ?_)
      have qx_23 : x_23.toInt = x_21.toInt * 144 := by rw [ex_23]; exact zf_mul rfl (by decide) (by omega) (by omega)
      refine lv_iload hx hb dX8_leastCost_38 (lv_at hl 0 rfl) ?_
      refine lv_icmp_ge (tgt := 57) hx hb dX8_leastCost_40 (by decide) (fun c_24 => ?_) (fun c_24 => ?_)
      · have fc_24 : x_4.toInt ≤ x_23.toInt := zf_le c_24 rfl rfl
        refine lv_iconst (v := 0) hx hb dX8_leastCost_57 (by decide) ?_
        refine lv_istore (lv' := [(5, .int 0), (4, .int x_4), (0, .ref m0), (1, .int 2), (2, .int d), (3, .int sec)]) hx hb dX8_leastCost_58 hl (by decide) rfl (fun ls hl => ?_)
        obtain ⟨i_60, hi_60⟩ : ∃ i : Int32, i = 0 := ⟨_, rfl⟩
        replace hl : lv_has ls 7 [(5, .int i_60), (4, .int x_4), (0, .ref m0), (1, .int 2), (2, .int d), (3, .int sec)] := by rw [hi_60]; exact lv_sub hl [0, 1, 2, 3, 4, 5] rfl
        have h1i_60 : i_60.toInt = 0 := by rw [hi_60]; decide
        obtain ⟨nfu, hni_60⟩ : ∃ nq9 : Nat, npu.toInt ≤ i_60.toInt + (nq9 : Int) := ⟨((npu.toInt : Int) - 0).toNat, by omega⟩
        have hloi_60 : 0 ≤ i_60.toInt := by omega
        obtain ⟨v_25, hv_25⟩ : ∃ g : Int32, g = x_4 := ⟨_, rfl⟩
        replace hl : lv_has ls 7 [(5, .int i_60), (4, .int v_25), (0, .ref m0), (1, .int 2), (2, .int d), (3, .int sec)] := by rw [hv_25]; exact hl
        have hbv_25 : 0 ≤ v_25.toInt ∧ v_25.toInt ≤ 14256 := by rw [hv_25]; exact ⟨by omega, by omega⟩
        have hvi_60_0 : (v_25 : Int32).toInt = zFi gta d.toInt sec.toInt (zPw 2 * zAt (gco 1).toInt (gco 2).toInt sec.toInt) (zLv (zLn gki gpa gta npu.toInt.toNat nhu.toInt (gco 0).toInt (gco 1).toInt (gco 2).toInt 1) gki gpa gta (gco 0).toInt (zPw 2) nhu.toInt d.toInt sec.toInt) i_60.toInt.toNat := by
          (try rw [hi_60]); (try rw [hv_25]); (rw [(show ((0 : Int32).toInt.toNat) = 0 from by decide)]; show _ = zPw 2 * zAt (gco 1).toInt (gco 2).toInt sec.toInt; (have nx_2 : (gco 2).toInt = x_2.toInt := (by rw [ex_2, show (2 : Int32).toNatClampNeg = 2 from by decide]); have nx_21 : (gco 1).toInt = x_21.toInt := (by rw [ex_21, show (1 : Int32).toNatClampNeg = 1 from by decide]); unfold zAt; rw [show zPw 2 = 144 from by decide]; first | (rw [if_pos (by omega)]; omega) | (rw [if_neg (by omega)]; omega)))
        have hvi_60_1 : i_60.toInt ≤ npu.toInt := by
          (try rw [hi_60]); (try rw [hv_25]); (have k0 : (0 : Int32).toInt = 0 := (by decide); omega)
        clear h1i_60 hi_60 hv_25
        revert hni_60
        revert hloi_60
        revert hvi_60_1
        revert hvi_60_0
        revert hbv_25
        revert hl
        revert ls
        revert v_25
        revert i_60
        induction nfu with
        | zero =>
          intro i_60 v_25 ls hl hbv_25 hvi_60_0 hvi_60_1 hloi_60 hni_60
          have hzi_60 : npu.toInt ≤ i_60.toInt := by omega
          refine lv_iload hx hb dX8_leastCost_60 (lv_at hl 0 rfl) ?_
          refine lv_aload_n hx hb dX8_leastCost_62 rfl (lv_at hl 2 rfl) ?_
          refine va_get (D := D) (ci := 8) (v := .int npu) (C := RX8) (T := TX8) (N := 38) hx hb hts hi_X8_leastCost_8 hown hK hP 0 rfl rfl 0 (by decide) (hts (.fieldLink RX8 90 "TheLiningsInItModel" "pulls" "I") (List.mem_of_getElem? (i := 2) rfl)) (fun _ h9 => h9) rfl dX8_leastCost_63 ?_
          refine lv_icmp_ge (tgt := 120) hx hb dX8_leastCost_66 (by decide) (fun c_26 => ?_) (fun c_26 => ?_)
          · have fc_26 : npu.toInt ≤ i_60.toInt := zf_le c_26 rfl rfl
            refine lv_iload hx hb dX8_leastCost_120 (lv_at hl 1 rfl) ?_
            exact W.iret (v := v_25) hx hb hr (fun t ht hW => ⟨v_25, rfl, ⟨by omega, by omega, (show (v_25 : Int32).toInt = (zLn gki gpa gta npu.toInt.toNat nhu.toInt (gco 0).toInt (gco 1).toInt (gco 2).toInt 2) d.toInt sec.toInt from by (have h9 : i_60.toInt.toNat = npu.toInt.toNat := (by omega); have z := hvi_60_0; rw [h9] at z; rw [zLn_s, if_neg (by omega)]; exact z))⟩, ht⟩) (fun q hq => by cases hq) dX8_leastCost_122
          · exfalso; have fc_26 : i_60.toInt < npu.toInt := zf_nle c_26 rfl rfl; omega
        | succ nfu ih =>
          intro i_60 v_25 ls hl hbv_25 hvi_60_0 hvi_60_1 hloi_60 hni_60
          refine lv_iload hx hb dX8_leastCost_60 (lv_at hl 0 rfl) ?_
          refine lv_aload_n hx hb dX8_leastCost_62 rfl (lv_at hl 2 rfl) ?_
          refine va_get (D := D) (ci := 8) (v := .int npu) (C := RX8) (T := TX8) (N := 38) hx hb hts hi_X8_leastCost_8 hown hK hP 0 rfl rfl 0 (by decide) (hts (.fieldLink RX8 90 "TheLiningsInItModel" "pulls" "I") (List.mem_of_getElem? (i := 2) rfl)) (fun _ h9 => h9) rfl dX8_leastCost_63 ?_
          refine lv_icmp_ge (tgt := 120) hx hb dX8_leastCost_66 (by decide) (fun c_27 => ?_) (fun c_27 => ?_)
          · have fc_27 : npu.toInt ≤ i_60.toInt := zf_le c_27 rfl rfl
            refine lv_iload hx hb dX8_leastCost_120 (lv_at hl 1 rfl) ?_
            exact W.iret (v := v_25) hx hb hr (fun t ht hW => ⟨v_25, rfl, ⟨by omega, by omega, (show (v_25 : Int32).toInt = (zLn gki gpa gta npu.toInt.toNat nhu.toInt (gco 0).toInt (gco 1).toInt (gco 2).toInt 2) d.toInt sec.toInt from by (have h9 : i_60.toInt.toNat = npu.toInt.toNat := (by omega); have z := hvi_60_0; rw [h9] at z; rw [zLn_s, if_neg (by omega)]; exact z))⟩, ht⟩) (fun q hq => by cases hq) dX8_leastCost_122
          · have fc_27 : i_60.toInt < npu.toInt := zf_nle c_27 rfl rfl
            refine lv_iload_n hx hb dX8_leastCost_69 rfl (lv_at hl 3 rfl) ?_
            refine lv_if_le (tgt := 120) hx hb dX8_leastCost_70 (by decide) (fun c_28 => ?_) (fun c_28 => ?_)
            · exact absurd c_28 (by decide)
            · refine lv_aload_n hx hb dX8_leastCost_73 rfl (lv_at hl 2 rfl) ?_
              refine lv_iload hx hb dX8_leastCost_74 (lv_at hl 0 rfl) ?_
              refine lv_iload_n hx hb dX8_leastCost_76 rfl (lv_at hl 4 rfl) ?_
              refine lv_iload_n hx hb dX8_leastCost_77 rfl (lv_at hl 5 rfl) ?_
              refine zc_V (As := [.int i_60, .int d, .int sec]) (rest := []) ⟨hx, hb, hml, hown, hts⟩ (c_F_M_mayBe l D cI cJ cZ cP cS po m0 mrf mki mpa mta mla msl mco mhe mso msi msh mce mca mwo mnu mte mwa mke mma mth mtr (npu) (nte) (nat_) (nde) (nto) (nse) (nhu) (nga) (nsd) (nfa) (nba) (npl) (nen) (nnu) (nwr) (nra) (nik) gta (i_60) (d) (sec) hy0 hy1 hy2 hy3 hy4 hy5 hy6 hy7 hy8 hy9 hy10 hy11 hy12 hy13 (by omega) (by omega) hp_gta) (cwV 3 hts gX8_leastCost_X8_mayBe rfl rfl rfl ⟨rfl, dh_X8_mayBe⟩ ⟨Nat.le_of_ble_eq_true rfl, Nat.le_of_ble_eq_true rfl⟩) hK hN hZ hP (hP.sub [0, 3] rfl) (va_recv (q := (RX8, TX8, 38)) hK hP (ci := 8) (q0 := 0) rfl rfl) rfl hl.1 rfl (Nat.le_of_ble_eq_true rfl) dX8_leastCost_78 ⟨Nat.le_of_ble_eq_true rfl, Nat.le_of_ble_eq_true rfl⟩ (fun r_29 hr_29 => ?_)
              obtain ⟨g_30, g_31, hsr_29_0⟩ := hr_29
              refine lv_if_ne (tgt := 87) hx hb dX8_leastCost_81 (by decide) (fun c_32 => ?_) (fun c_32 => ?_)
              · have fc_32 : r_29.toInt ≠ 0 := zf_ne c_32 rfl (by decide)
                have htl9 : (gta i_60.toNatClampNeg).toInt ≤ sec.toInt := (hsr_29_0.mp (by omega)).2
                refine lv_aload_n hx hb dX8_leastCost_87 rfl (lv_at hl 2 rfl) ?_
                refine lv_iload hx hb dX8_leastCost_88 (lv_at hl 0 rfl) ?_
                refine lv_iload_n hx hb dX8_leastCost_90 rfl (lv_at hl 3 rfl) ?_
                refine lv_iload_n hx hb dX8_leastCost_91 rfl (lv_at hl 4 rfl) ?_
                refine lv_iload_n hx hb dX8_leastCost_92 rfl (lv_at hl 5 rfl) ?_
                refine zc_V (As := [.int i_60, .int 2, .int d, .int sec]) (rest := []) ⟨hx, hb, hml, hown, hts⟩ (c_F_M_costBy_2 l D cI cJ cZ cP cS po m0 mrf mki mpa mta mla msl mco mhe mso msi msh mce mca mwo mnu mte mwa mke mma mth mtr (npu) (nte) (nat_) (nde) (nto) (nse) (nhu) (nga) (nsd) (nfa) (nba) (npl) (nen) (nnu) (nwr) (nra) (nik) gki gpa gta gco (i_60) (d) (sec) hy0 hy1 hy2 hy3 hy4 hy5 hy6 hy7 hy8 hy9 hy10 hy11 hy12 hy13 (by omega) (by omega) hy14 hy15 hy16 hy17 (by first | assumption | omega) hp_gki hp_gpa hp_gta hp_gco) (cwV 4 hts gX8_leastCost_X8_costBy rfl rfl rfl ⟨rfl, dh_X8_costBy⟩ ⟨Nat.le_of_ble_eq_true rfl, Nat.le_of_ble_eq_true rfl⟩) hK hN hZ hP (hP.sub [0, 1, 2, 3, 4] rfl) (va_recv (q := (RX8, TX8, 38)) hK hP (ci := 8) (q0 := 0) rfl rfl) rfl hl.1 rfl (Nat.le_of_ble_eq_true rfl) dX8_leastCost_93 ⟨Nat.le_of_ble_eq_true rfl, Nat.le_of_ble_eq_true rfl⟩ (fun r_33 hr_33 => ?_)
                obtain ⟨g_34, g_35, hsr_33_0⟩ := hr_33
                refine lv_istore (lv' := [(6, .int r_33), (5, .int i_60), (4, .int v_25), (0, .ref m0), (1, .int 2), (2, .int d), (3, .int sec)]) hx hb dX8_leastCost_96 hl (by decide) rfl (fun ls hl => ?_)
                refine lv_iload hx hb dX8_leastCost_98 (lv_at hl 0 rfl) ?_
                refine lv_iload hx hb dX8_leastCost_100 (lv_at hl 2 rfl) ?_
                refine lv_icmp_ge (tgt := 110) hx hb dX8_leastCost_102 (by decide) (fun c_36 => ?_) (fun c_36 => ?_)
                · have fc_36 : v_25.toInt ≤ r_33.toInt := zf_le c_36 rfl rfl
                  refine lv_iload hx hb dX8_leastCost_110 (lv_at hl 2 rfl) ?_
                  refine lv_istore (lv' := [(4, .int v_25), (6, .int r_33), (5, .int i_60), (0, .ref m0), (1, .int 2), (2, .int d), (3, .int sec)]) hx hb dX8_leastCost_112 hl (by decide) rfl (fun ls hl => ?_)
                  obtain ⟨x_37, ex_37⟩ : ∃ y : Int32, y = i_60 + 1 := ⟨_, rfl⟩
                  have qx_37 : x_37.toInt = i_60.toInt + 1 := dw_inc ex_37 fc_27
                  refine lv_iinc (v := x_37) (lv' := [(5, .int x_37), (4, .int v_25), (6, .int r_33), (0, .ref m0), (1, .int 2), (2, .int d), (3, .int sec)]) hx hb dX8_leastCost_114 hl (k := 2) rfl ex_37.symm (by decide) rfl (fun ls hl => ?_)
                  refine lv_goto (tgt := 60) hx hb dX8_leastCost_117 (by decide) ?_
                  exact ih x_37 v_25 _ (lv_sub hl [0, 1, 3, 4, 5, 6] rfl) hbv_25 (show (v_25 : Int32).toInt = zFi gta d.toInt sec.toInt (zPw 2 * zAt (gco 1).toInt (gco 2).toInt sec.toInt) (zLv (zLn gki gpa gta npu.toInt.toNat nhu.toInt (gco 0).toInt (gco 1).toInt (gco 2).toInt 1) gki gpa gta (gco 0).toInt (zPw 2) nhu.toInt d.toInt sec.toInt) x_37.toInt.toNat from by (have hx : x_37.toInt.toNat = i_60.toInt.toNat + 1 := (by omega); have y9 : i_60.toNatClampNeg = i_60.toInt.toNat := rfl; have hm := hsr_29_0; rw [y9] at hm; rw [hx, zFi_y (hm.mp (by omega)), ← hvi_60_0]; have zr := hsr_33_0; rw [y9] at zr; have zr2 : r_33.toInt = (zLv (zLn gki gpa gta npu.toInt.toNat nhu.toInt (gco 0).toInt (gco 1).toInt (gco 2).toInt 1) gki gpa gta (gco 0).toInt (zPw 2) nhu.toInt d.toInt sec.toInt) i_60.toInt.toNat := zr; omega)) (show x_37.toInt ≤ npu.toInt from by omega) (dw_lo hloi_60 qx_37) (dw_hn hni_60 qx_37)
                · have fc_36 : r_33.toInt < v_25.toInt := zf_nle c_36 rfl rfl
                  refine lv_iload hx hb dX8_leastCost_105 (lv_at hl 0 rfl) ?_
                  refine lv_goto (tgt := 112) hx hb dX8_leastCost_107 (by decide) ?_
                  refine lv_istore (lv' := [(4, .int r_33), (6, .int r_33), (5, .int i_60), (0, .ref m0), (1, .int 2), (2, .int d), (3, .int sec)]) hx hb dX8_leastCost_112 hl (by decide) rfl (fun ls hl => ?_)
                  obtain ⟨x_38, ex_38⟩ : ∃ y : Int32, y = i_60 + 1 := ⟨_, rfl⟩
                  have qx_38 : x_38.toInt = i_60.toInt + 1 := dw_inc ex_38 fc_27
                  refine lv_iinc (v := x_38) (lv' := [(5, .int x_38), (4, .int r_33), (6, .int r_33), (0, .ref m0), (1, .int 2), (2, .int d), (3, .int sec)]) hx hb dX8_leastCost_114 hl (k := 2) rfl ex_38.symm (by decide) rfl (fun ls hl => ?_)
                  refine lv_goto (tgt := 60) hx hb dX8_leastCost_117 (by decide) ?_
                  exact ih x_38 r_33 _ (lv_sub hl [0, 1, 3, 4, 5, 6] rfl) ⟨by omega, by omega⟩ (show (r_33 : Int32).toInt = zFi gta d.toInt sec.toInt (zPw 2 * zAt (gco 1).toInt (gco 2).toInt sec.toInt) (zLv (zLn gki gpa gta npu.toInt.toNat nhu.toInt (gco 0).toInt (gco 1).toInt (gco 2).toInt 1) gki gpa gta (gco 0).toInt (zPw 2) nhu.toInt d.toInt sec.toInt) x_38.toInt.toNat from by (have hx : x_38.toInt.toNat = i_60.toInt.toNat + 1 := (by omega); have y9 : i_60.toNatClampNeg = i_60.toInt.toNat := rfl; have hm := hsr_29_0; rw [y9] at hm; rw [hx, zFi_y (hm.mp (by omega)), ← hvi_60_0]; have zr := hsr_33_0; rw [y9] at zr; have zr2 : r_33.toInt = (zLv (zLn gki gpa gta npu.toInt.toNat nhu.toInt (gco 0).toInt (gco 1).toInt (gco 2).toInt 1) gki gpa gta (gco 0).toInt (zPw 2) nhu.toInt d.toInt sec.toInt) i_60.toInt.toNat := zr; omega)) (show x_38.toInt ≤ npu.toInt from by omega) (dw_lo hloi_60 qx_38) (dw_hn hni_60 qx_38)
              · have fc_32 : r_29.toInt = 0 := zf_eq c_32 rfl (by decide)
                refine lv_goto (tgt := 114) hx hb dX8_leastCost_84 (by decide) ?_
                obtain ⟨x_39, ex_39⟩ : ∃ y : Int32, y = i_60 + 1 := ⟨_, rfl⟩
                have qx_39 : x_39.toInt = i_60.toInt + 1 := dw_inc ex_39 fc_27
                refine lv_iinc (v := x_39) (lv' := [(5, .int x_39), (4, .int v_25), (0, .ref m0), (1, .int 2), (2, .int d), (3, .int sec)]) hx hb dX8_leastCost_114 hl (k := 0) rfl ex_39.symm (by decide) rfl (fun ls hl => ?_)
                refine lv_goto (tgt := 60) hx hb dX8_leastCost_117 (by decide) ?_
                exact ih x_39 v_25 _ (lv_sub hl [0, 1, 2, 3, 4, 5] rfl) hbv_25 (show (v_25 : Int32).toInt = zFi gta d.toInt sec.toInt (zPw 2 * zAt (gco 1).toInt (gco 2).toInt sec.toInt) (zLv (zLn gki gpa gta npu.toInt.toNat nhu.toInt (gco 0).toInt (gco 1).toInt (gco 2).toInt 1) gki gpa gta (gco 0).toInt (zPw 2) nhu.toInt d.toInt sec.toInt) x_39.toInt.toNat from by (have hx : x_39.toInt.toNat = i_60.toInt.toNat + 1 := (by omega); have y9 : i_60.toNatClampNeg = i_60.toInt.toNat := rfl; have hm := hsr_29_0; rw [y9] at hm; rw [hx, zFi_n (fun z => by (have z1 := hm.mpr z; omega))]; exact hvi_60_0)) (show x_39.toInt ≤ npu.toInt from by omega) (dw_lo hloi_60 qx_39) (dw_hn hni_60 qx_39)
      · have fc_24 : x_23.toInt < x_4.toInt := zf_nle c_24 rfl rfl
        refine lv_aload_n hx hb dX8_leastCost_43 rfl (lv_at hl 1 rfl) ?_
        refine va_get (D := D) (ci := 8) (v := .ref mco) (C := RX8) (T := TX8) (N := 38) hx hb hts hi_X8_leastCost_8 hown hK hP 0 rfl rfl 16 (by decide) (hts (.fieldLink RX8 44 "TheLiningsInItModel" "cost" "[I") (List.mem_of_getElem? (i := 1) rfl)) (fun _ h9 => h9) rfl dX8_leastCost_44 ?_
        refine lv_iconst (v := 1) hx hb dX8_leastCost_47 (by decide) ?_
        refine va_iald hx hb hK hP 4 0 rfl rfl (zf_in (by decide) (by decide)) dX8_leastCost_48 ?_
        refine lv_topi (fun y_40 ey_40 => ?_)
        obtain rfl : x_21 = y_40 := ex_21.trans ey_40.symm
        refine lv_aload_n hx hb dX8_leastCost_49 rfl (lv_at hl 1 rfl) ?_
        refine lv_iload_n hx hb dX8_leastCost_50 rfl (lv_at hl 2 rfl) ?_
        refine zc_V (As := [.int 2]) (rest := [.int x_21]) ⟨hx, hb, hml, hown, hts⟩ (c_M_power_2 l D cI cJ cZ cP cS po m0 mrf mki mpa mta mla msl mco mhe mso msi msh mce mca mwo mnu mte mwa mke mma mth mtr (npu) (nte) (nat_) (nde) (nto) (nse) (nhu) (nga) (nsd) (nfa) (nba) (npl) (nen) (nnu) (nwr) (nra) (nik) hy0 hy1 hy2 hy3 hy4 hy5 hy6 hy7 hy8 hy9 hy10 hy11 hy12 hy13) (cwV 1 hts gX8_leastCost_X8_power rfl rfl rfl ⟨rfl, dh_X8_power⟩ ⟨Nat.le_of_ble_eq_true rfl, Nat.le_of_ble_eq_true rfl⟩) hK hN hZ hP (hP.sub [0] rfl) (va_recv (q := (RX8, TX8, 38)) hK hP (ci := 8) (q0 := 0) rfl rfl) rfl hl.1 rfl (Nat.le_of_ble_eq_true rfl) dX8_leastCost_51 ⟨Nat.le_of_ble_eq_true rfl, Nat.le_of_ble_eq_true rfl⟩ (fun r_41 hr_41 => ?_)
        obtain rfl := hr_41
        refine lv_imul hx hb dX8_leastCost_54 ?_
        refine lv_topi (fun y_42 ey_42 => ?_)
        obtain rfl : x_23 = y_42 := ex_23.trans ey_42.symm
        refine lv_istore (lv' := [(4, .int x_23), (0, .ref m0), (1, .int 2), (2, .int d), (3, .int sec)]) hx hb dX8_leastCost_55 hl (by decide) rfl (fun ls hl => ?_)
        refine lv_iconst (v := 0) hx hb dX8_leastCost_57 (by decide) ?_
        refine lv_istore (lv' := [(5, .int 0), (4, .int x_23), (0, .ref m0), (1, .int 2), (2, .int d), (3, .int sec)]) hx hb dX8_leastCost_58 hl (by decide) rfl (fun ls hl => ?_)
        obtain ⟨i_60, hi_60⟩ : ∃ i : Int32, i = 0 := ⟨_, rfl⟩
        replace hl : lv_has ls 7 [(5, .int i_60), (4, .int x_23), (0, .ref m0), (1, .int 2), (2, .int d), (3, .int sec)] := by rw [hi_60]; exact lv_sub hl [0, 1, 2, 3, 4, 5] rfl
        have h1i_60 : i_60.toInt = 0 := by rw [hi_60]; decide
        obtain ⟨nfu, hni_60⟩ : ∃ nq9 : Nat, npu.toInt ≤ i_60.toInt + (nq9 : Int) := ⟨((npu.toInt : Int) - 0).toNat, by omega⟩
        have hloi_60 : 0 ≤ i_60.toInt := by omega
        obtain ⟨v_43, hv_43⟩ : ∃ g : Int32, g = x_23 := ⟨_, rfl⟩
        replace hl : lv_has ls 7 [(5, .int i_60), (4, .int v_43), (0, .ref m0), (1, .int 2), (2, .int d), (3, .int sec)] := by rw [hv_43]; exact hl
        have hbv_43 : 0 ≤ v_43.toInt ∧ v_43.toInt ≤ 14256 := by rw [hv_43]; exact ⟨by omega, by omega⟩
        have hvi_60_0 : (v_43 : Int32).toInt = zFi gta d.toInt sec.toInt (zPw 2 * zAt (gco 1).toInt (gco 2).toInt sec.toInt) (zLv (zLn gki gpa gta npu.toInt.toNat nhu.toInt (gco 0).toInt (gco 1).toInt (gco 2).toInt 1) gki gpa gta (gco 0).toInt (zPw 2) nhu.toInt d.toInt sec.toInt) i_60.toInt.toNat := by
          (try rw [hi_60]); (try rw [hv_43]); (rw [(show ((0 : Int32).toInt.toNat) = 0 from by decide)]; show _ = zPw 2 * zAt (gco 1).toInt (gco 2).toInt sec.toInt; (have nx_2 : (gco 2).toInt = x_2.toInt := (by rw [ex_2, show (2 : Int32).toNatClampNeg = 2 from by decide]); have nx_21 : (gco 1).toInt = x_21.toInt := (by rw [ex_21, show (1 : Int32).toNatClampNeg = 1 from by decide]); unfold zAt; rw [show zPw 2 = 144 from by decide]; first | (rw [if_pos (by omega)]; omega) | (rw [if_neg (by omega)]; omega)))
        have hvi_60_1 : i_60.toInt ≤ npu.toInt := by
          (try rw [hi_60]); (try rw [hv_43]); (have k0 : (0 : Int32).toInt = 0 := (by decide); omega)
        clear h1i_60 hi_60 hv_43
        revert hni_60
        revert hloi_60
        revert hvi_60_1
        revert hvi_60_0
        revert hbv_43
        revert hl
        revert ls
        revert v_43
        revert i_60
        induction nfu with
        | zero =>
          intro i_60 v_43 ls hl hbv_43 hvi_60_0 hvi_60_1 hloi_60 hni_60
          have hzi_60 : npu.toInt ≤ i_60.toInt := by omega
          refine lv_iload hx hb dX8_leastCost_60 (lv_at hl 0 rfl) ?_
          refine lv_aload_n hx hb dX8_leastCost_62 rfl (lv_at hl 2 rfl) ?_
          refine va_get (D := D) (ci := 8) (v := .int npu) (C := RX8) (T := TX8) (N := 38) hx hb hts hi_X8_leastCost_8 hown hK hP 0 rfl rfl 0 (by decide) (hts (.fieldLink RX8 90 "TheLiningsInItModel" "pulls" "I") (List.mem_of_getElem? (i := 2) rfl)) (fun _ h9 => h9) rfl dX8_leastCost_63 ?_
          refine lv_icmp_ge (tgt := 120) hx hb dX8_leastCost_66 (by decide) (fun c_44 => ?_) (fun c_44 => ?_)
          · have fc_44 : npu.toInt ≤ i_60.toInt := zf_le c_44 rfl rfl
            refine lv_iload hx hb dX8_leastCost_120 (lv_at hl 1 rfl) ?_
            exact W.iret (v := v_43) hx hb hr (fun t ht hW => ⟨v_43, rfl, ⟨by omega, by omega, (show (v_43 : Int32).toInt = (zLn gki gpa gta npu.toInt.toNat nhu.toInt (gco 0).toInt (gco 1).toInt (gco 2).toInt 2) d.toInt sec.toInt from by (have h9 : i_60.toInt.toNat = npu.toInt.toNat := (by omega); have z := hvi_60_0; rw [h9] at z; rw [zLn_s, if_neg (by omega)]; exact z))⟩, ht⟩) (fun q hq => by cases hq) dX8_leastCost_122
          · exfalso; have fc_44 : i_60.toInt < npu.toInt := zf_nle c_44 rfl rfl; omega
        | succ nfu ih =>
          intro i_60 v_43 ls hl hbv_43 hvi_60_0 hvi_60_1 hloi_60 hni_60
          refine lv_iload hx hb dX8_leastCost_60 (lv_at hl 0 rfl) ?_
          refine lv_aload_n hx hb dX8_leastCost_62 rfl (lv_at hl 2 rfl) ?_
          refine va_get (D := D) (ci := 8) (v := .int npu) (C := RX8) (T := TX8) (N := 38) hx hb hts hi_X8_leastCost_8 hown hK hP 0 rfl rfl 0 (by decide) (hts (.fieldLink RX8 90 "TheLiningsInItModel" "pulls" "I") (List.mem_of_getElem? (i := 2) rfl)) (fun _ h9 => h9) rfl dX8_leastCost_63 ?_
          refine lv_icmp_ge (tgt := 120) hx hb dX8_leastCost_66 (by decide) (fun c_45 => ?_) (fun c_45 => ?_)
          · have fc_45 : npu.toInt ≤ i_60.toInt := zf_le c_45 rfl rfl
            refine lv_iload hx hb dX8_leastCost_120 (lv_at hl 1 rfl) ?_
            exact W.iret (v := v_43) hx hb hr (fun t ht hW => ⟨v_43, rfl, ⟨by omega, by omega, (show (v_43 : Int32).toInt = (zLn gki gpa gta npu.toInt.toNat nhu.toInt (gco 0).toInt (gco 1).toInt (gco 2).toInt 2) d.toInt sec.toInt from by (have h9 : i_60.toInt.toNat = npu.toInt.toNat := (by omega); have z := hvi_60_0; rw [h9] at z; rw [zLn_s, if_neg (by omega)]; exact z))⟩, ht⟩) (fun q hq => by cases hq) dX8_leastCost_122
          · have fc_45 : i_60.toInt < npu.toInt := zf_nle c_45 rfl rfl
            refine lv_iload_n hx hb dX8_leastCost_69 rfl (lv_at hl 3 rfl) ?_
            refine lv_if_le (tgt := 120) hx hb dX8_leastCost_70 (by decide) (fun c_46 => ?_) (fun c_46 => ?_)
            · exact absurd c_46 (by decide)
            · refine lv_aload_n hx hb dX8_leastCost_73 rfl (lv_at hl 2 rfl) ?_
              refine lv_iload hx hb dX8_leastCost_74 (lv_at hl 0 rfl) ?_
              refine lv_iload_n hx hb dX8_leastCost_76 rfl (lv_at hl 4 rfl) ?_
              refine lv_iload_n hx hb dX8_leastCost_77 rfl (lv_at hl 5 rfl) ?_
              refine zc_V (As := [.int i_60, .int d, .int sec]) (rest := []) ⟨hx, hb, hml, hown, hts⟩ (c_F_M_mayBe l D cI cJ cZ cP cS po m0 mrf mki mpa mta mla msl mco mhe mso msi msh mce mca mwo mnu mte mwa mke mma mth mtr (npu) (nte) (nat_) (nde) (nto) (nse) (nhu) (nga) (nsd) (nfa) (nba) (npl) (nen) (nnu) (nwr) (nra) (nik) gta (i_60) (d) (sec) hy0 hy1 hy2 hy3 hy4 hy5 hy6 hy7 hy8 hy9 hy10 hy11 hy12 hy13 (by omega) (by omega) hp_gta) (cwV 3 hts gX8_leastCost_X8_mayBe rfl rfl rfl ⟨rfl, dh_X8_mayBe⟩ ⟨Nat.le_of_ble_eq_true rfl, Nat.le_of_ble_eq_true rfl⟩) hK hN hZ hP (hP.sub [0, 3] rfl) (va_recv (q := (RX8, TX8, 38)) hK hP (ci := 8) (q0 := 0) rfl rfl) rfl hl.1 rfl (Nat.le_of_ble_eq_true rfl) dX8_leastCost_78 ⟨Nat.le_of_ble_eq_true rfl, Nat.le_of_ble_eq_true rfl⟩ (fun r_47 hr_47 => ?_)
              obtain ⟨g_48, g_49, hsr_47_0⟩ := hr_47
              refine lv_if_ne (tgt := 87) hx hb dX8_leastCost_81 (by decide) (fun c_50 => ?_) (fun c_50 => ?_)
              · have fc_50 : r_47.toInt ≠ 0 := zf_ne c_50 rfl (by decide)
                have htl9 : (gta i_60.toNatClampNeg).toInt ≤ sec.toInt := (hsr_47_0.mp (by omega)).2
                refine lv_aload_n hx hb dX8_leastCost_87 rfl (lv_at hl 2 rfl) ?_
                refine lv_iload hx hb dX8_leastCost_88 (lv_at hl 0 rfl) ?_
                refine lv_iload_n hx hb dX8_leastCost_90 rfl (lv_at hl 3 rfl) ?_
                refine lv_iload_n hx hb dX8_leastCost_91 rfl (lv_at hl 4 rfl) ?_
                refine lv_iload_n hx hb dX8_leastCost_92 rfl (lv_at hl 5 rfl) ?_
                refine zc_V (As := [.int i_60, .int 2, .int d, .int sec]) (rest := []) ⟨hx, hb, hml, hown, hts⟩ (c_F_M_costBy_2 l D cI cJ cZ cP cS po m0 mrf mki mpa mta mla msl mco mhe mso msi msh mce mca mwo mnu mte mwa mke mma mth mtr (npu) (nte) (nat_) (nde) (nto) (nse) (nhu) (nga) (nsd) (nfa) (nba) (npl) (nen) (nnu) (nwr) (nra) (nik) gki gpa gta gco (i_60) (d) (sec) hy0 hy1 hy2 hy3 hy4 hy5 hy6 hy7 hy8 hy9 hy10 hy11 hy12 hy13 (by omega) (by omega) hy14 hy15 hy16 hy17 (by first | assumption | omega) hp_gki hp_gpa hp_gta hp_gco) (cwV 4 hts gX8_leastCost_X8_costBy rfl rfl rfl ⟨rfl, dh_X8_costBy⟩ ⟨Nat.le_of_ble_eq_true rfl, Nat.le_of_ble_eq_true rfl⟩) hK hN hZ hP (hP.sub [0, 1, 2, 3, 4] rfl) (va_recv (q := (RX8, TX8, 38)) hK hP (ci := 8) (q0 := 0) rfl rfl) rfl hl.1 rfl (Nat.le_of_ble_eq_true rfl) dX8_leastCost_93 ⟨Nat.le_of_ble_eq_true rfl, Nat.le_of_ble_eq_true rfl⟩ (fun r_51 hr_51 => ?_)
                obtain ⟨g_52, g_53, hsr_51_0⟩ := hr_51
                refine lv_istore (lv' := [(6, .int r_51), (5, .int i_60), (4, .int v_43), (0, .ref m0), (1, .int 2), (2, .int d), (3, .int sec)]) hx hb dX8_leastCost_96 hl (by decide) rfl (fun ls hl => ?_)
                refine lv_iload hx hb dX8_leastCost_98 (lv_at hl 0 rfl) ?_
                refine lv_iload hx hb dX8_leastCost_100 (lv_at hl 2 rfl) ?_
                refine lv_icmp_ge (tgt := 110) hx hb dX8_leastCost_102 (by decide) (fun c_54 => ?_) (fun c_54 => ?_)
                · have fc_54 : v_43.toInt ≤ r_51.toInt := zf_le c_54 rfl rfl
                  refine lv_iload hx hb dX8_leastCost_110 (lv_at hl 2 rfl) ?_
                  refine lv_istore (lv' := [(4, .int v_43), (6, .int r_51), (5, .int i_60), (0, .ref m0), (1, .int 2), (2, .int d), (3, .int sec)]) hx hb dX8_leastCost_112 hl (by decide) rfl (fun ls hl => ?_)
                  obtain ⟨x_55, ex_55⟩ : ∃ y : Int32, y = i_60 + 1 := ⟨_, rfl⟩
                  have qx_55 : x_55.toInt = i_60.toInt + 1 := dw_inc ex_55 fc_45
                  refine lv_iinc (v := x_55) (lv' := [(5, .int x_55), (4, .int v_43), (6, .int r_51), (0, .ref m0), (1, .int 2), (2, .int d), (3, .int sec)]) hx hb dX8_leastCost_114 hl (k := 2) rfl ex_55.symm (by decide) rfl (fun ls hl => ?_)
                  refine lv_goto (tgt := 60) hx hb dX8_leastCost_117 (by decide) ?_
                  exact ih x_55 v_43 _ (lv_sub hl [0, 1, 3, 4, 5, 6] rfl) hbv_43 (show (v_43 : Int32).toInt = zFi gta d.toInt sec.toInt (zPw 2 * zAt (gco 1).toInt (gco 2).toInt sec.toInt) (zLv (zLn gki gpa gta npu.toInt.toNat nhu.toInt (gco 0).toInt (gco 1).toInt (gco 2).toInt 1) gki gpa gta (gco 0).toInt (zPw 2) nhu.toInt d.toInt sec.toInt) x_55.toInt.toNat from by (have hx : x_55.toInt.toNat = i_60.toInt.toNat + 1 := (by omega); have y9 : i_60.toNatClampNeg = i_60.toInt.toNat := rfl; have hm := hsr_47_0; rw [y9] at hm; rw [hx, zFi_y (hm.mp (by omega)), ← hvi_60_0]; have zr := hsr_51_0; rw [y9] at zr; have zr2 : r_51.toInt = (zLv (zLn gki gpa gta npu.toInt.toNat nhu.toInt (gco 0).toInt (gco 1).toInt (gco 2).toInt 1) gki gpa gta (gco 0).toInt (zPw 2) nhu.toInt d.toInt sec.toInt) i_60.toInt.toNat := zr; omega)) (show x_55.toInt ≤ npu.toInt from by omega) (dw_lo hloi_60 qx_55) (dw_hn hni_60 qx_55)
                · have fc_54 : r_51.toInt < v_43.toInt := zf_nle c_54 rfl rfl
                  refine lv_iload hx hb dX8_leastCost_105 (lv_at hl 0 rfl) ?_
                  refine lv_goto (tgt := 112) hx hb dX8_leastCost_107 (by decide) ?_
                  refine lv_istore (lv' := [(4, .int r_51), (6, .int r_51), (5, .int i_60), (0, .ref m0), (1, .int 2), (2, .int d), (3, .int sec)]) hx hb dX8_leastCost_112 hl (by decide) rfl (fun ls hl => ?_)
                  obtain ⟨x_56, ex_56⟩ : ∃ y : Int32, y = i_60 + 1 := ⟨_, rfl⟩
                  have qx_56 : x_56.toInt = i_60.toInt + 1 := dw_inc ex_56 fc_45
                  refine lv_iinc (v := x_56) (lv' := [(5, .int x_56), (4, .int r_51), (6, .int r_51), (0, .ref m0), (1, .int 2), (2, .int d), (3, .int sec)]) hx hb dX8_leastCost_114 hl (k := 2) rfl ex_56.symm (by decide) rfl (fun ls hl => ?_)
                  refine lv_goto (tgt := 60) hx hb dX8_leastCost_117 (by decide) ?_
                  exact ih x_56 r_51 _ (lv_sub hl [0, 1, 3, 4, 5, 6] rfl) ⟨by omega, by omega⟩ (show (r_51 : Int32).toInt = zFi gta d.toInt sec.toInt (zPw 2 * zAt (gco 1).toInt (gco 2).toInt sec.toInt) (zLv (zLn gki gpa gta npu.toInt.toNat nhu.toInt (gco 0).toInt (gco 1).toInt (gco 2).toInt 1) gki gpa gta (gco 0).toInt (zPw 2) nhu.toInt d.toInt sec.toInt) x_56.toInt.toNat from by (have hx : x_56.toInt.toNat = i_60.toInt.toNat + 1 := (by omega); have y9 : i_60.toNatClampNeg = i_60.toInt.toNat := rfl; have hm := hsr_47_0; rw [y9] at hm; rw [hx, zFi_y (hm.mp (by omega)), ← hvi_60_0]; have zr := hsr_51_0; rw [y9] at zr; have zr2 : r_51.toInt = (zLv (zLn gki gpa gta npu.toInt.toNat nhu.toInt (gco 0).toInt (gco 1).toInt (gco 2).toInt 1) gki gpa gta (gco 0).toInt (zPw 2) nhu.toInt d.toInt sec.toInt) i_60.toInt.toNat := zr; omega)) (show x_56.toInt ≤ npu.toInt from by omega) (dw_lo hloi_60 qx_56) (dw_hn hni_60 qx_56)
              · have fc_50 : r_47.toInt = 0 := zf_eq c_50 rfl (by decide)
                refine lv_goto (tgt := 114) hx hb dX8_leastCost_84 (by decide) ?_
                obtain ⟨x_57, ex_57⟩ : ∃ y : Int32, y = i_60 + 1 := ⟨_, rfl⟩
                have qx_57 : x_57.toInt = i_60.toInt + 1 := dw_inc ex_57 fc_45
                refine lv_iinc (v := x_57) (lv' := [(5, .int x_57), (4, .int v_43), (0, .ref m0), (1, .int 2), (2, .int d), (3, .int sec)]) hx hb dX8_leastCost_114 hl (k := 0) rfl ex_57.symm (by decide) rfl (fun ls hl => ?_)
                refine lv_goto (tgt := 60) hx hb dX8_leastCost_117 (by decide) ?_
                exact ih x_57 v_43 _ (lv_sub hl [0, 1, 2, 3, 4, 5] rfl) hbv_43 (show (v_43 : Int32).toInt = zFi gta d.toInt sec.toInt (zPw 2 * zAt (gco 1).toInt (gco 2).toInt sec.toInt) (zLv (zLn gki gpa gta npu.toInt.toNat nhu.toInt (gco 0).toInt (gco 1).toInt (gco 2).toInt 1) gki gpa gta (gco 0).toInt (zPw 2) nhu.toInt d.toInt sec.toInt) x_57.toInt.toNat from by (have hx : x_57.toInt.toNat = i_60.toInt.toNat + 1 := (by omega); have y9 : i_60.toNatClampNeg = i_60.toInt.toNat := rfl; have hm := hsr_47_0; rw [y9] at hm; rw [hx, zFi_n (fun z => by (have z1 := hm.mpr z; omega))]; exact hvi_60_0)) (show x_57.toInt ≤ npu.toInt from by omega) (dw_lo hloi_60 qx_57) (dw_hn hni_60 qx_57)
  · have fc_1 : d.toInt = 0 := zf_eq c_1 rfl (by decide)
    refine lv_iconst (v := 0) hx hb dX8_leastCost_4 (by decide) ?_
    exact W.iret (v := 0) hx hb hr (fun t ht hW => ⟨0, rfl, ⟨by decide, by decide, (show (0 : Int32).toInt = (zLn gki gpa gta npu.toInt.toNat nhu.toInt (gco 0).toInt (gco 1).toInt (gco 2).toInt 2) d.toInt sec.toInt from by (have k9 : (0 : Int32).toInt = 0 := (by decide); rw [zLn_s, if_pos (by omega)]; exact k9))⟩, ht⟩) (fun q hq => by cases hq) dX8_leastCost_5
set_option maxHeartbeats 4000000 in
set_option maxRecDepth 100000 in
theorem c_F_M_costBy_3 (l : Launch) (D : va_G) (cI cJ cZ cP cS : ClassId) (po : zPool) (m0 mrf mki mpa mta mla msl mco mhe mso msi msh mce mca mwo mnu mte mwa mke mma mth mtr : Nat) (npu nte nat_ nde nto nse nhu nga nsd nfa nba npl nen nnu nwr nra nik : Int32) (gki gpa gta gco : Nat → Int32) (p_ d sec : Int32) (hy0 : 0 ≤ npu.toInt) (hy1 : npu.toInt ≤ 8) (hy2 : 4 ≤ nte.toInt) (hy3 : nte.toInt ≤ 40) (hy4 : 0 ≤ nat_.toInt) (hy5 : nat_.toInt ≤ 40) (hy6 : 0 ≤ nde.toInt) (hy7 : nde.toInt ≤ 24) (hy8 : 0 ≤ nhu.toInt) (hy9 : nhu.toInt ≤ 9) (hy10 : 0 ≤ nra.toInt) (hy11 : nra.toInt ≤ 2000) (hy12 : 0 ≤ nik.toInt) (hy13 : nik.toInt ≤ 1) (hy14 : 0 ≤ p_.toInt) (hy15 : p_.toInt ≤ 7) (hy16 : 0 ≤ d.toInt) (hy17 : d.toInt ≤ 24) (hy18 : 0 ≤ sec.toInt) (hy19 : sec.toInt ≤ 300) (htl : (gta p_.toNatClampNeg).toInt ≤ sec.toInt) (hp_gki : zRg gki (0) 6) (hp_gpa : zRg gpa (0) 9) (hp_gta : zRg gta (0) 60) (hp_gco : zRg gco (0) 99) : Met l yX8_costBy wsX8_costBy ({ frames := 6, cells := 0, slots := 0, locals := 151 }) (va_Pc [.ref m0, .int p_, .int 3, .int d, .int sec] (zR D (zKT cI cJ cZ cP cS) po [(zMO m0 npu nte nat_ nde nto nse nhu nga nsd nfa mrf mki mpa mta mla msl mco mhe mso msi msh mce mca mwo mnu mte nba npl nen nnu nwr mwa mke mma mth mtr nra nik), (mki, .inl (cI, 8, .inl gki)), (mpa, .inl (cI, 8, .inl gpa)), (mta, .inl (cI, 8, .inl gta)), (mco, .inl (cI, 3, .inl gco))])) (vp_Si (fun r => 0 ≤ r.toInt ∧ r.toInt ≤ 342144 ∧ (r.toInt = zLb (zLn gki gpa gta npu.toInt.toNat nhu.toInt (gco 0).toInt (gco 1).toInt (gco 2).toInt 2) (gco 0).toInt (zPw 3) (gki p_.toNatClampNeg).toInt (gpa p_.toNatClampNeg).toInt (gta p_.toNatClampNeg).toInt nhu.toInt d.toInt sec.toInt))) 0 0 (fun _ => False) := by sorry
set_option maxHeartbeats 4000000 in
set_option maxRecDepth 100000 in
theorem c_F_M_leastCost_3 (l : Launch) (D : va_G) (cI cJ cZ cP cS : ClassId) (po : zPool) (m0 mrf mki mpa mta mla msl mco mhe mso msi msh mce mca mwo mnu mte mwa mke mma mth mtr : Nat) (npu nte nat_ nde nto nse nhu nga nsd nfa nba npl nen nnu nwr nra nik : Int32) (gki gpa gta gco : Nat → Int32) (d sec : Int32) (hy0 : 0 ≤ npu.toInt) (hy1 : npu.toInt ≤ 8) (hy2 : 4 ≤ nte.toInt) (hy3 : nte.toInt ≤ 40) (hy4 : 0 ≤ nat_.toInt) (hy5 : nat_.toInt ≤ 40) (hy6 : 0 ≤ nde.toInt) (hy7 : nde.toInt ≤ 24) (hy8 : 0 ≤ nhu.toInt) (hy9 : nhu.toInt ≤ 9) (hy10 : 0 ≤ nra.toInt) (hy11 : nra.toInt ≤ 2000) (hy12 : 0 ≤ nik.toInt) (hy13 : nik.toInt ≤ 1) (hy14 : 0 ≤ d.toInt) (hy15 : d.toInt ≤ 24) (hy16 : 0 ≤ sec.toInt) (hy17 : sec.toInt ≤ 300) (hp_gki : zRg gki (0) 6) (hp_gpa : zRg gpa (0) 9) (hp_gta : zRg gta (0) 60) (hp_gco : zRg gco (0) 99) : Met l yX8_leastCost wsX8_leastCost ({ frames := 7, cells := 0, slots := 0, locals := 177 }) (va_Pc [.ref m0, .int 3, .int d, .int sec] (zR D (zKT cI cJ cZ cP cS) po [(zMO m0 npu nte nat_ nde nto nse nhu nga nsd nfa mrf mki mpa mta mla msl mco mhe mso msi msh mce mca mwo mnu mte nba npl nen nnu nwr mwa mke mma mth mtr nra nik), (mki, .inl (cI, 8, .inl gki)), (mpa, .inl (cI, 8, .inl gpa)), (mta, .inl (cI, 8, .inl gta)), (mco, .inl (cI, 3, .inl gco))])) (vp_Si (fun r => 0 ≤ r.toInt ∧ r.toInt ≤ 171072 ∧ (r.toInt = (zLn gki gpa gta npu.toInt.toNat nhu.toInt (gco 0).toInt (gco 1).toInt (gco 2).toInt 3) d.toInt sec.toInt))) 0 0 (fun _ => False) := by
  refine Met.ofW (cc := cX8_leastCost) (maxL := 7) (ret := (some .int)) (by decide) rfl ?_
  intro p e s m args below meth c s₁ B hml hv
  obtain ⟨rfl, hP, hK, hN, hZ⟩ := hv
  have hx := B.exec
  have hb := B.bytes
  have hr := B.returns
  have hts := atoms_spec (ws := wsX8_leastCost) B.pre
  have hown : s.vm.findClass RX8 = some m.cls := findClass_of_methodNamed B.named
  have hlocks := B.notSynchronized
  have hl := lv_entry ([.ref m0, .int 3, .int d, .int sec]) (n := 7) (Nat.le_of_ble_eq_true rfl)
  rw [lg_entry_eq]
  generalize (lg_sl ([.ref m0, .int 3, .int d, .int sec]) ++ List.replicate (7 - (lg_sl ([.ref m0, .int 3, .int d, .int sec])).length) Slot.unset).toArray = ls at hl ⊢
  replace hl : lv_has ls 7 [(0, .ref m0), (1, .int 3), (2, .int d), (3, .int sec)] := hl
  refine lv_iload_n hx hb dX8_leastCost_0 rfl (lv_at hl 2 rfl) ?_
  refine lv_if_ne (tgt := 6) hx hb dX8_leastCost_1 (by decide) (fun c_1 => ?_) (fun c_1 => ?_)
  · have fc_1 : d.toInt ≠ 0 := zf_ne c_1 rfl (by decide)
    refine lv_aload_n hx hb dX8_leastCost_6 rfl (lv_at hl 0 rfl) ?_
    refine va_get (D := D) (ci := 8) (v := .ref mco) (C := RX8) (T := TX8) (N := 38) hx hb hts hi_X8_leastCost_8 hown hK hP 0 rfl rfl 16 (by decide) (hts (.fieldLink RX8 44 "TheLiningsInItModel" "cost" "[I") (List.mem_of_getElem? (i := 1) rfl)) (fun _ h9 => h9) rfl dX8_leastCost_7 ?_
    refine lv_iconst (v := 2) hx hb dX8_leastCost_10 (by decide) ?_
    refine va_iald hx hb hK hP 4 0 rfl rfl (zf_in (by decide) (by decide)) dX8_leastCost_11 ?_
    refine lv_topi (fun x_2 ex_2 => ?_)
    have bx_2 : 0 ≤ x_2.toInt ∧ x_2.toInt ≤ 99 := by rw [ex_2]; exact hp_gco _
    refine lv_aload_n hx hb dX8_leastCost_12 rfl (lv_at hl 0 rfl) ?_
    refine lv_iload_n hx hb dX8_leastCost_13 rfl (lv_at hl 1 rfl) ?_
    refine zc_V (As := [.int 3]) (rest := [.int x_2]) ⟨hx, hb, hml, hown, hts⟩ (c_M_power_3 l D cI cJ cZ cP cS po m0 mrf mki mpa mta mla msl mco mhe mso msi msh mce mca mwo mnu mte mwa mke mma mth mtr (npu) (nte) (nat_) (nde) (nto) (nse) (nhu) (nga) (nsd) (nfa) (nba) (npl) (nen) (nnu) (nwr) (nra) (nik) hy0 hy1 hy2 hy3 hy4 hy5 hy6 hy7 hy8 hy9 hy10 hy11 hy12 hy13) (cwV 1 hts gX8_leastCost_X8_power rfl rfl rfl ⟨rfl, dh_X8_power⟩ ⟨Nat.le_of_ble_eq_true rfl, Nat.le_of_ble_eq_true rfl⟩) hK hN hZ hP (hP.sub [0] rfl) (va_recv (q := (RX8, TX8, 38)) hK hP (ci := 8) (q0 := 0) rfl rfl) rfl hl.1 rfl (Nat.le_of_ble_eq_true rfl) dX8_leastCost_14 ⟨Nat.le_of_ble_eq_true rfl, Nat.le_of_ble_eq_true rfl⟩ (fun r_3 hr_3 => ?_)
    obtain rfl := hr_3
    refine lv_imul hx hb dX8_leastCost_17 ?_
    refine lv_topi (fun x_4 ex_4 => ?_)
    have qx_4 : x_4.toInt = x_2.toInt * 1728 := by rw [ex_4]; exact zf_mul rfl (by decide) (by omega) (by omega)
    refine lv_istore (lv' := [(4, .int x_4), (0, .ref m0), (1, .int 3), (2, .int d), (3, .int sec)]) hx hb dX8_leastCost_18 hl (by decide) rfl (fun ls hl => ?_)
    refine lv_iload_n hx hb dX8_leastCost_20 rfl (lv_at hl 4 rfl) ?_
    refine lv_bipush (v := 30) hx hb dX8_leastCost_21 (by decide) ?_
    refine lv_icmp_lt (tgt := 57) hx hb dX8_leastCost_23 (by decide) (fun c_5 => ?_) (fun c_5 => ?_)
    · have fc_5 : sec.toInt < 30 := zf_lt c_5 rfl (by decide)
      refine lv_iconst (v := 0) hx hb dX8_leastCost_57 (by decide) ?_
      refine lv_istore (lv' := [(5, .int 0), (4, .int x_4), (0, .ref m0), (1, .int 3), (2, .int d), (3, .int sec)]) hx hb dX8_leastCost_58 hl (by decide) rfl (fun ls hl => ?_)
      obtain ⟨i_60, hi_60⟩ : ∃ i : Int32, i = 0 := ⟨_, rfl⟩
      replace hl : lv_has ls 7 [(5, .int i_60), (4, .int x_4), (0, .ref m0), (1, .int 3), (2, .int d), (3, .int sec)] := by rw [hi_60]; exact lv_sub hl [0, 1, 2, 3, 4, 5] rfl
      have h1i_60 : i_60.toInt = 0 := by rw [hi_60]; decide
      obtain ⟨nfu, hni_60⟩ : ∃ nq9 : Nat, npu.toInt ≤ i_60.toInt + (nq9 : Int) := ⟨((npu.toInt : Int) - 0).toNat, by omega⟩
      have hloi_60 : 0 ≤ i_60.toInt := by omega
      obtain ⟨v_6, hv_6⟩ : ∃ g : Int32, g = x_4 := ⟨_, rfl⟩
      replace hl : lv_has ls 7 [(5, .int i_60), (4, .int v_6), (0, .ref m0), (1, .int 3), (2, .int d), (3, .int sec)] := by rw [hv_6]; exact hl
      have hbv_6 : 0 ≤ v_6.toInt ∧ v_6.toInt ≤ 171072 := by rw [hv_6]; exact ⟨by omega, by omega⟩
      have hvi_60_0 : (v_6 : Int32).toInt = zFi gta d.toInt sec.toInt (zPw 3 * zAt (gco 1).toInt (gco 2).toInt sec.toInt) (zLv (zLn gki gpa gta npu.toInt.toNat nhu.toInt (gco 0).toInt (gco 1).toInt (gco 2).toInt 2) gki gpa gta (gco 0).toInt (zPw 3) nhu.toInt d.toInt sec.toInt) i_60.toInt.toNat := by
        (try rw [hi_60]); (try rw [hv_6]); (rw [(show ((0 : Int32).toInt.toNat) = 0 from by decide)]; show _ = zPw 3 * zAt (gco 1).toInt (gco 2).toInt sec.toInt; (have nx_2 : (gco 2).toInt = x_2.toInt := (by rw [ex_2, show (2 : Int32).toNatClampNeg = 2 from by decide]); unfold zAt; rw [show zPw 3 = 1728 from by decide]; first | (rw [if_pos (by omega)]; omega) | (rw [if_neg (by omega)]; omega)))
      have hvi_60_1 : i_60.toInt ≤ npu.toInt := by
        (try rw [hi_60]); (try rw [hv_6]); (have k0 : (0 : Int32).toInt = 0 := (by decide); omega)
      clear h1i_60 hi_60 hv_6
      revert hni_60
      revert hloi_60
      revert hvi_60_1
      revert hvi_60_0
      revert hbv_6
      revert hl
      revert ls
      revert v_6
      revert i_60
      induction nfu with
      | zero =>
        intro i_60 v_6 ls hl hbv_6 hvi_60_0 hvi_60_1 hloi_60 hni_60
        have hzi_60 : npu.toInt ≤ i_60.toInt := by omega
        refine lv_iload hx hb dX8_leastCost_60 (lv_at hl 0 rfl) ?_
        refine lv_aload_n hx hb dX8_leastCost_62 rfl (lv_at hl 2 rfl) ?_
        refine va_get (D := D) (ci := 8) (v := .int npu) (C := RX8) (T := TX8) (N := 38) hx hb hts hi_X8_leastCost_8 hown hK hP 0 rfl rfl 0 (by decide) (hts (.fieldLink RX8 90 "TheLiningsInItModel" "pulls" "I") (List.mem_of_getElem? (i := 2) rfl)) (fun _ h9 => h9) rfl dX8_leastCost_63 ?_
        refine lv_icmp_ge (tgt := 120) hx hb dX8_leastCost_66 (by decide) (fun c_7 => ?_) (fun c_7 => ?_)
        · have fc_7 : npu.toInt ≤ i_60.toInt := zf_le c_7 rfl rfl
          refine lv_iload hx hb dX8_leastCost_120 (lv_at hl 1 rfl) ?_
          exact W.iret (v := v_6) hx hb hr (fun t ht hW => ⟨v_6, rfl, ⟨by omega, by omega, (show (v_6 : Int32).toInt = (zLn gki gpa gta npu.toInt.toNat nhu.toInt (gco 0).toInt (gco 1).toInt (gco 2).toInt 3) d.toInt sec.toInt from by (have h9 : i_60.toInt.toNat = npu.toInt.toNat := (by omega); have z := hvi_60_0; rw [h9] at z; rw [zLn_s, if_neg (by omega)]; exact z))⟩, ht⟩) (fun q hq => by cases hq) dX8_leastCost_122
        · exfalso; have fc_7 : i_60.toInt < npu.toInt := zf_nle c_7 rfl rfl; omega
      | succ nfu ih =>
        intro i_60 v_6 ls hl hbv_6 hvi_60_0 hvi_60_1 hloi_60 hni_60
        refine lv_iload hx hb dX8_leastCost_60 (lv_at hl 0 rfl) ?_
        refine lv_aload_n hx hb dX8_leastCost_62 rfl (lv_at hl 2 rfl) ?_
        refine va_get (D := D) (ci := 8) (v := .int npu) (C := RX8) (T := TX8) (N := 38) hx hb hts hi_X8_leastCost_8 hown hK hP 0 rfl rfl 0 (by decide) (hts (.fieldLink RX8 90 "TheLiningsInItModel" "pulls" "I") (List.mem_of_getElem? (i := 2) rfl)) (fun _ h9 => h9) rfl dX8_leastCost_63 ?_
        refine lv_icmp_ge (tgt := 120) hx hb dX8_leastCost_66 (by decide) (fun c_8 => ?_) (fun c_8 => ?_)
        · have fc_8 : npu.toInt ≤ i_60.toInt := zf_le c_8 rfl rfl
          refine lv_iload hx hb dX8_leastCost_120 (lv_at hl 1 rfl) ?_
          exact W.iret (v := v_6) hx hb hr (fun t ht hW => ⟨v_6, rfl, ⟨by omega, by omega, (show (v_6 : Int32).toInt = (zLn gki gpa gta npu.toInt.toNat nhu.toInt (gco 0).toInt (gco 1).toInt (gco 2).toInt 3) d.toInt sec.toInt from by (have h9 : i_60.toInt.toNat = npu.toInt.toNat := (by omega); have z := hvi_60_0; rw [h9] at z; rw [zLn_s, if_neg (by omega)]; exact z))⟩, ht⟩) (fun q hq => by cases hq) dX8_leastCost_122
        · have fc_8 : i_60.toInt < npu.toInt := zf_nle c_8 rfl rfl
          refine lv_iload_n hx hb dX8_leastCost_69 rfl (lv_at hl 3 rfl) ?_
          refine lv_if_le (tgt := 120) hx hb dX8_leastCost_70 (by decide) (fun c_9 => ?_) (fun c_9 => ?_)
          · exact absurd c_9 (by decide)
          · refine lv_aload_n hx hb dX8_leastCost_73 rfl (lv_at hl 2 rfl) ?_
            refine lv_iload hx hb dX8_leastCost_74 (lv_at hl 0 rfl) ?_
            refine lv_iload_n hx hb dX8_leastCost_76 rfl (lv_at hl 4 rfl) ?_
            refine lv_iload_n hx hb dX8_leastCost_77 rfl (lv_at hl 5 rfl) ?_
            refine zc_V (As := [.int i_60, .int d, .int sec]) (rest := []) ⟨hx, hb, hml, hown, hts⟩ (c_F_M_mayBe l D cI cJ cZ cP cS po m0 mrf mki mpa mta mla msl mco mhe mso msi msh mce mca mwo mnu mte mwa mke mma mth mtr (npu) (nte) (nat_) (nde) (nto) (nse) (nhu) (nga) (nsd) (nfa) (nba) (npl) (nen) (nnu) (nwr) (nra) (nik) gta (i_60) (d) (sec) hy0 hy1 hy2 hy3 hy4 hy5 hy6 hy7 hy8 hy9 hy10 hy11 hy12 hy13 (by omega) (by omega) hp_gta) (cwV 3 hts gX8_leastCost_X8_mayBe rfl rfl rfl ⟨rfl, dh_X8_mayBe⟩ ⟨Nat.le_of_ble_eq_true rfl, Nat.le_of_ble_eq_true rfl⟩) hK hN hZ hP (hP.sub [0, 3] rfl) (va_recv (q := (RX8, TX8, 38)) hK hP (ci := 8) (q0 := 0) rfl rfl) rfl hl.1 rfl (Nat.le_of_ble_eq_true rfl) dX8_leastCost_78 ⟨Nat.le_of_ble_eq_true rfl, Nat.le_of_ble_eq_true rfl⟩ (fun r_10 hr_10 => ?_)
            obtain ⟨g_11, g_12, hsr_10_0⟩ := hr_10
            refine lv_if_ne (tgt := 87) hx hb dX8_leastCost_81 (by decide) (fun c_13 => ?_) (fun c_13 => ?_)
            · have fc_13 : r_10.toInt ≠ 0 := zf_ne c_13 rfl (by decide)
              have htl9 : (gta i_60.toNatClampNeg).toInt ≤ sec.toInt := (hsr_10_0.mp (by omega)).2
              refine lv_aload_n hx hb dX8_leastCost_87 rfl (lv_at hl 2 rfl) ?_
              refine lv_iload hx hb dX8_leastCost_88 (lv_at hl 0 rfl) ?_
              refine lv_iload_n hx hb dX8_leastCost_90 rfl (lv_at hl 3 rfl) ?_
              refine lv_iload_n hx hb dX8_leastCost_91 rfl (lv_at hl 4 rfl) ?_
              refine lv_iload_n hx hb dX8_leastCost_92 rfl (lv_at hl 5 rfl) ?_
              refine zc_V (As := [.int i_60, .int 3, .int d, .int sec]) (rest := []) ⟨hx, hb, hml, hown, hts⟩ (c_F_M_costBy_3 l D cI cJ cZ cP cS po m0 mrf mki mpa mta mla msl mco mhe mso msi msh mce mca mwo mnu mte mwa mke mma mth mtr (npu) (nte) (nat_) (nde) (nto) (nse) (nhu) (nga) (nsd) (nfa) (nba) (npl) (nen) (nnu) (nwr) (nra) (nik) gki gpa gta gco (i_60) (d) (sec) hy0 hy1 hy2 hy3 hy4 hy5 hy6 hy7 hy8 hy9 hy10 hy11 hy12 hy13 (by omega) (by omega) hy14 hy15 hy16 hy17 (by first | assumption | omega) hp_gki hp_gpa hp_gta hp_gco) (cwV 4 hts gX8_leastCost_X8_costBy rfl rfl rfl ⟨rfl, dh_X8_costBy⟩ ⟨Nat.le_of_ble_eq_true rfl, Nat.le_of_ble_eq_true rfl⟩) hK hN hZ hP (hP.sub [0, 1, 2, 3, 4] rfl) (va_recv (q := (RX8, TX8, 38)) hK hP (ci := 8) (q0 := 0) rfl rfl) rfl hl.1 rfl (Nat.le_of_ble_eq_true rfl) dX8_leastCost_93 ⟨Nat.le_of_ble_eq_true rfl, Nat.le_of_ble_eq_true rfl⟩ (fun r_14 hr_14 => ?_)
              obtain ⟨g_15, g_16, hsr_14_0⟩ := hr_14
              refine lv_istore (lv' := [(6, .int r_14), (5, .int i_60), (4, .int v_6), (0, .ref m0), (1, .int 3), (2, .int d), (3, .int sec)]) hx hb dX8_leastCost_96 hl (by decide) rfl (fun ls hl => ?_)
              refine lv_iload hx hb dX8_leastCost_98 (lv_at hl 0 rfl) ?_
              refine lv_iload hx hb dX8_leastCost_100 (lv_at hl 2 rfl) ?_
              refine lv_icmp_ge (tgt := 110) hx hb dX8_leastCost_102 (by decide) (fun c_17 => ?_) (fun c_17 => ?_)
              · have fc_17 : v_6.toInt ≤ r_14.toInt := zf_le c_17 rfl rfl
                refine lv_iload hx hb dX8_leastCost_110 (lv_at hl 2 rfl) ?_
                refine lv_istore (lv' := [(4, .int v_6), (6, .int r_14), (5, .int i_60), (0, .ref m0), (1, .int 3), (2, .int d), (3, .int sec)]) hx hb dX8_leastCost_112 hl (by decide) rfl (fun ls hl => ?_)
                obtain ⟨x_18, ex_18⟩ : ∃ y : Int32, y = i_60 + 1 := ⟨_, rfl⟩
                have qx_18 : x_18.toInt = i_60.toInt + 1 := dw_inc ex_18 fc_8
                refine lv_iinc (v := x_18) (lv' := [(5, .int x_18), (4, .int v_6), (6, .int r_14), (0, .ref m0), (1, .int 3), (2, .int d), (3, .int sec)]) hx hb dX8_leastCost_114 hl (k := 2) rfl ex_18.symm (by decide) rfl (fun ls hl => ?_)
                refine lv_goto (tgt := 60) hx hb dX8_leastCost_117 (by decide) ?_
                exact ih x_18 v_6 _ (lv_sub hl [0, 1, 3, 4, 5, 6] rfl) hbv_6 (show (v_6 : Int32).toInt = zFi gta d.toInt sec.toInt (zPw 3 * zAt (gco 1).toInt (gco 2).toInt sec.toInt) (zLv (zLn gki gpa gta npu.toInt.toNat nhu.toInt (gco 0).toInt (gco 1).toInt (gco 2).toInt 2) gki gpa gta (gco 0).toInt (zPw 3) nhu.toInt d.toInt sec.toInt) x_18.toInt.toNat from by (have hx : x_18.toInt.toNat = i_60.toInt.toNat + 1 := (by omega); have y9 : i_60.toNatClampNeg = i_60.toInt.toNat := rfl; have hm := hsr_10_0; rw [y9] at hm; rw [hx, zFi_y (hm.mp (by omega)), ← hvi_60_0]; have zr := hsr_14_0; rw [y9] at zr; have zr2 : r_14.toInt = (zLv (zLn gki gpa gta npu.toInt.toNat nhu.toInt (gco 0).toInt (gco 1).toInt (gco 2).toInt 2) gki gpa gta (gco 0).toInt (zPw 3) nhu.toInt d.toInt sec.toInt) i_60.toInt.toNat := zr; omega)) (show x_18.toInt ≤ npu.toInt from by omega) (dw_lo hloi_60 qx_18) (dw_hn hni_60 qx_18)
              · have fc_17 : r_14.toInt < v_6.toInt := zf_nle c_17 rfl rfl
                refine lv_iload hx hb dX8_leastCost_105 (lv_at hl 0 rfl) ?_
                refine lv_goto (tgt := 112) hx hb dX8_leastCost_107 (by decide) ?_
                refine lv_istore (lv' := [(4, .int r_14), (6, .int r_14), (5, .int i_60), (0, .ref m0), (1, .int 3), (2, .int d), (3, .int sec)]) hx hb dX8_leastCost_112 hl (by decide) rfl (fun ls hl => ?_)
                obtain ⟨x_19, ex_19⟩ : ∃ y : Int32, y = i_60 + 1 := ⟨_, rfl⟩
                have qx_19 : x_19.toInt = i_60.toInt + 1 := dw_inc ex_19 fc_8
                refine lv_iinc (v := x_19) (lv' := [(5, .int x_19), (4, .int r_14), (6, .int r_14), (0, .ref m0), (1, .int 3), (2, .int d), (3, .int sec)]) hx hb dX8_leastCost_114 hl (k := 2) rfl ex_19.symm (by decide) rfl (fun ls hl => ?_)
                refine lv_goto (tgt := 60) hx hb dX8_leastCost_117 (by decide) ?_
                exact ih x_19 r_14 _ (lv_sub hl [0, 1, 3, 4, 5, 6] rfl) ⟨by omega, by omega⟩ (show (r_14 : Int32).toInt = zFi gta d.toInt sec.toInt (zPw 3 * zAt (gco 1).toInt (gco 2).toInt sec.toInt) (zLv (zLn gki gpa gta npu.toInt.toNat nhu.toInt (gco 0).toInt (gco 1).toInt (gco 2).toInt 2) gki gpa gta (gco 0).toInt (zPw 3) nhu.toInt d.toInt sec.toInt) x_19.toInt.toNat from by (have hx : x_19.toInt.toNat = i_60.toInt.toNat + 1 := (by omega); have y9 : i_60.toNatClampNeg = i_60.toInt.toNat := rfl; have hm := hsr_10_0; rw [y9] at hm; rw [hx, zFi_y (hm.mp (by omega)), ← hvi_60_0]; have zr := hsr_14_0; rw [y9] at zr; have zr2 : r_14.toInt = (zLv (zLn gki gpa gta npu.toInt.toNat nhu.toInt (gco 0).toInt (gco 1).toInt (gco 2).toInt 2) gki gpa gta (gco 0).toInt (zPw 3) nhu.toInt d.toInt sec.toInt) i_60.toInt.toNat := zr; omega)) (show x_19.toInt ≤ npu.toInt from by omega) (dw_lo hloi_60 qx_19) (dw_hn hni_60 qx_19)
            · have fc_13 : r_10.toInt = 0 := zf_eq c_13 rfl (by decide)
              refine lv_goto (tgt := 114) hx hb dX8_leastCost_84 (by decide) ?_
              obtain ⟨x_20, ex_20⟩ : ∃ y : Int32, y = i_60 + 1 := ⟨_, rfl⟩
              have qx_20 : x_20.toInt = i_60.toInt + 1 := dw_inc ex_20 fc_8
              refine lv_iinc (v := x_20) (lv' := [(5, .int x_20), (4, .int v_6), (0, .ref m0), (1, .int 3), (2, .int d), (3, .int sec)]) hx hb dX8_leastCost_114 hl (k := 0) rfl ex_20.symm (by decide) rfl (fun ls hl => ?_)
              refine lv_goto (tgt := 60) hx hb dX8_leastCost_117 (by decide) ?_
              exact ih x_20 v_6 _ (lv_sub hl [0, 1, 2, 3, 4, 5] rfl) hbv_6 (show (v_6 : Int32).toInt = zFi gta d.toInt sec.toInt (zPw 3 * zAt (gco 1).toInt (gco 2).toInt sec.toInt) (zLv (zLn gki gpa gta npu.toInt.toNat nhu.toInt (gco 0).toInt (gco 1).toInt (gco 2).toInt 2) gki gpa gta (gco 0).toInt (zPw 3) nhu.toInt d.toInt sec.toInt) x_20.toInt.toNat from by (have hx : x_20.toInt.toNat = i_60.toInt.toNat + 1 := (by omega); have y9 : i_60.toNatClampNeg = i_60.toInt.toNat := rfl; have hm := hsr_10_0; rw [y9] at hm; rw [hx, zFi_n (fun z => by (have z1 := hm.mpr z; omega))]; exact hvi_60_0)) (show x_20.toInt ≤ npu.toInt from by omega) (dw_lo hloi_60 qx_20) (dw_hn hni_60 qx_20)
    · have fc_5 : 30 ≤ sec.toInt := zf_nlt c_5 rfl (by decide)
      refine lv_aload_n hx hb dX8_leastCost_26 rfl (lv_at hl 1 rfl) ?_
      refine va_get (D := D) (ci := 8) (v := .ref mco) (C := RX8) (T := TX8) (N := 38) hx hb hts hi_X8_leastCost_8 hown hK hP 0 rfl rfl 16 (by decide) (hts (.fieldLink RX8 44 "TheLiningsInItModel" "cost" "[I") (List.mem_of_getElem? (i := 1) rfl)) (fun _ h9 => h9) rfl dX8_leastCost_27 ?_
      refine lv_iconst (v := 1) hx hb dX8_leastCost_30 (by decide) ?_
      refine va_iald hx hb hK hP 4 0 rfl rfl (zf_in (by decide) (by decide)) dX8_leastCost_31 ?_
      refine lv_topi (fun x_21 ex_21 => ?_)
      have bx_21 : 0 ≤ x_21.toInt ∧ x_21.toInt ≤ 99 := by rw [ex_21]; exact hp_gco _
      refine lv_aload_n hx hb dX8_leastCost_32 rfl (lv_at hl 1 rfl) ?_
      refine lv_iload_n hx hb dX8_leastCost_33 rfl (lv_at hl 2 rfl) ?_
      refine zc_V (As := [.int 3]) (rest := [.int x_21]) ⟨hx, hb, hml, hown, hts⟩ (c_M_power_3 l D cI cJ cZ cP cS po m0 mrf mki mpa mta mla msl mco mhe mso msi msh mce mca mwo mnu mte mwa mke mma mth mtr (npu) (nte) (nat_) (nde) (nto) (nse) (nhu) (nga) (nsd) (nfa) (nba) (npl) (nen) (nnu) (nwr) (nra) (nik) hy0 hy1 hy2 hy3 hy4 hy5 hy6 hy7 hy8 hy9 hy10 hy11 hy12 hy13) (cwV 1 hts gX8_leastCost_X8_power rfl rfl rfl ⟨rfl, dh_X8_power⟩ ⟨Nat.le_of_ble_eq_true rfl, Nat.le_of_ble_eq_true rfl⟩) hK hN hZ hP (hP.sub [0] rfl) (va_recv (q := (RX8, TX8, 38)) hK hP (ci := 8) (q0 := 0) rfl rfl) rfl hl.1 rfl (Nat.le_of_ble_eq_true rfl) dX8_leastCost_34 ⟨Nat.le_of_ble_eq_true rfl, Nat.le_of_ble_eq_true rfl⟩ (fun r_22 hr_22 => ?_)
      obtain rfl := hr_22
      refine lv_imul hx hb dX8_leastCost_37 ?_
      refine lv_topi (fun x_23 ex_23 => ?_)
      have qx_23 : x_23.toInt = x_21.toInt * 1728 := by rw [ex_23]; exact zf_mul rfl (by decide) (by omega) (by omega)
      refine lv_iload hx hb dX8_leastCost_38 (lv_at hl 0 rfl) ?_
      refine lv_icmp_ge (tgt := 57) hx hb dX8_leastCost_40 (by decide) (fun c_24 => ?_) (fun c_24 => ?_)
      · have fc_24 : x_4.toInt ≤ x_23.toInt := zf_le c_24 rfl rfl
        refine lv_iconst (v := 0) hx hb dX8_leastCost_57 (by decide) ?_
        refine lv_istore (lv' := [(5, .int 0), (4, .int x_4), (0, .ref m0), (1, .int 3), (2, .int d), (3, .int sec)]) hx hb dX8_leastCost_58 hl (by decide) rfl (fun ls hl => ?_)
        obtain ⟨i_60, hi_60⟩ : ∃ i : Int32, i = 0 := ⟨_, rfl⟩
        replace hl : lv_has ls 7 [(5, .int i_60), (4, .int x_4), (0, .ref m0), (1, .int 3), (2, .int d), (3, .int sec)] := by rw [hi_60]; exact lv_sub hl [0, 1, 2, 3, 4, 5] rfl
        have h1i_60 : i_60.toInt = 0 := by rw [hi_60]; decide
        obtain ⟨nfu, hni_60⟩ : ∃ nq9 : Nat, npu.toInt ≤ i_60.toInt + (nq9 : Int) := ⟨((npu.toInt : Int) - 0).toNat, by omega⟩
        have hloi_60 : 0 ≤ i_60.toInt := by omega
        obtain ⟨v_25, hv_25⟩ : ∃ g : Int32, g = x_4 := ⟨_, rfl⟩
        replace hl : lv_has ls 7 [(5, .int i_60), (4, .int v_25), (0, .ref m0), (1, .int 3), (2, .int d), (3, .int sec)] := by rw [hv_25]; exact hl
        have hbv_25 : 0 ≤ v_25.toInt ∧ v_25.toInt ≤ 171072 := by rw [hv_25]; exact ⟨by omega, by omega⟩
        have hvi_60_0 : (v_25 : Int32).toInt = zFi gta d.toInt sec.toInt (zPw 3 * zAt (gco 1).toInt (gco 2).toInt sec.toInt) (zLv (zLn gki gpa gta npu.toInt.toNat nhu.toInt (gco 0).toInt (gco 1).toInt (gco 2).toInt 2) gki gpa gta (gco 0).toInt (zPw 3) nhu.toInt d.toInt sec.toInt) i_60.toInt.toNat := by
          (try rw [hi_60]); (try rw [hv_25]); (rw [(show ((0 : Int32).toInt.toNat) = 0 from by decide)]; show _ = zPw 3 * zAt (gco 1).toInt (gco 2).toInt sec.toInt; (have nx_2 : (gco 2).toInt = x_2.toInt := (by rw [ex_2, show (2 : Int32).toNatClampNeg = 2 from by decide]); have nx_21 : (gco 1).toInt = x_21.toInt := (by rw [ex_21, show (1 : Int32).toNatClampNeg = 1 from by decide]); unfold zAt; rw [show zPw 3 = 1728 from by decide]; first | (rw [if_pos (by omega)]; omega) | (rw [if_neg (by omega)]; omega)))
        have hvi_60_1 : i_60.toInt ≤ npu.toInt := by
          (try rw [hi_60]); (try rw [hv_25]); (have k0 : (0 : Int32).toInt = 0 := (by decide); omega)
        clear h1i_60 hi_60 hv_25
        revert hni_60
        revert hloi_60
        revert hvi_60_1
        revert hvi_60_0
        revert hbv_25
        revert hl
        revert ls
        revert v_25
        revert i_60
        induction nfu with
        | zero =>
          intro i_60 v_25 ls hl hbv_25 hvi_60_0 hvi_60_1 hloi_60 hni_60
          have hzi_60 : npu.toInt ≤ i_60.toInt := by omega
          refine lv_iload hx hb dX8_leastCost_60 (lv_at hl 0 rfl) ?_
          refine lv_aload_n hx hb dX8_leastCost_62 rfl (lv_at hl 2 rfl) ?_
          refine va_get (D := D) (ci := 8) (v := .int npu) (C := RX8) (T := TX8) (N := 38) hx hb hts hi_X8_leastCost_8 hown hK hP 0 rfl rfl 0 (by decide) (hts (.fieldLink RX8 90 "TheLiningsInItModel" "pulls" "I") (List.mem_of_getElem? (i := 2) rfl)) (fun _ h9 => h9) rfl dX8_leastCost_63 ?_
          refine lv_icmp_ge (tgt := 120) hx hb dX8_leastCost_66 (by decide) (fun c_26 => ?_) (fun c_26 => ?_)
          · have fc_26 : npu.toInt ≤ i_60.toInt := zf_le c_26 rfl rfl
            refine lv_iload hx hb dX8_leastCost_120 (lv_at hl 1 rfl) ?_
            exact W.iret (v := v_25) hx hb hr (fun t ht hW => ⟨v_25, rfl, ⟨by omega, by omega, (show (v_25 : Int32).toInt = (zLn gki gpa gta npu.toInt.toNat nhu.toInt (gco 0).toInt (gco 1).toInt (gco 2).toInt 3) d.toInt sec.toInt from by (have h9 : i_60.toInt.toNat = npu.toInt.toNat := (by omega); have z := hvi_60_0; rw [h9] at z; rw [zLn_s, if_neg (by omega)]; exact z))⟩, ht⟩) (fun q hq => by cases hq) dX8_leastCost_122
          · exfalso; have fc_26 : i_60.toInt < npu.toInt := zf_nle c_26 rfl rfl; omega
        | succ nfu ih =>
          intro i_60 v_25 ls hl hbv_25 hvi_60_0 hvi_60_1 hloi_60 hni_60
          refine lv_iload hx hb dX8_leastCost_60 (lv_at hl 0 rfl) ?_
          refine lv_aload_n hx hb dX8_leastCost_62 rfl (lv_at hl 2 rfl) ?_
          refine va_get (D := D) (ci := 8) (v := .int npu) (C := RX8) (T := TX8) (N := 38) hx hb hts hi_X8_leastCost_8 hown hK hP 0 rfl rfl 0 (by decide) (hts (.fieldLink RX8 90 "TheLiningsInItModel" "pulls" "I") (List.mem_of_getElem? (i := 2) rfl)) (fun _ h9 => h9) rfl dX8_leastCost_63 ?_
          refine lv_icmp_ge (tgt := 120) hx hb dX8_leastCost_66 (by decide) (fun c_27 => ?_) (fun c_27 => ?_)
          · have fc_27 : npu.toInt ≤ i_60.toInt := zf_le c_27 rfl rfl
            refine lv_iload hx hb dX8_leastCost_120 (lv_at hl 1 rfl) ?_
            exact W.iret (v := v_25) hx hb hr (fun t ht hW => ⟨v_25, rfl, ⟨by omega, by omega, (show (v_25 : Int32).toInt = (zLn gki gpa gta npu.toInt.toNat nhu.toInt (gco 0).toInt (gco 1).toInt (gco 2).toInt 3) d.toInt sec.toInt from by (have h9 : i_60.toInt.toNat = npu.toInt.toNat := (by omega); have z := hvi_60_0; rw [h9] at z; rw [zLn_s, if_neg (by omega)]; exact z))⟩, ht⟩) (fun q hq => by cases hq) dX8_leastCost_122
          · have fc_27 : i_60.toInt < npu.toInt := zf_nle c_27 rfl rfl
            refine lv_iload_n hx hb dX8_leastCost_69 rfl (lv_at hl 3 rfl) ?_
            refine lv_if_le (tgt := 120) hx hb dX8_leastCost_70 (by decide) (fun c_28 => ?_) (fun c_28 => ?_)
            · exact absurd c_28 (by decide)
            · refine lv_aload_n hx hb dX8_leastCost_73 rfl (lv_at hl 2 rfl) ?_
              refine lv_iload hx hb dX8_leastCost_74 (lv_at hl 0 rfl) ?_
              refine lv_iload_n hx hb dX8_leastCost_76 rfl (lv_at hl 4 rfl) ?_
              refine lv_iload_n hx hb dX8_leastCost_77 rfl (lv_at hl 5 rfl) ?_
              refine zc_V (As := [.int i_60, .int d, .int sec]) (rest := []) ⟨hx, hb, hml, hown, hts⟩ (c_F_M_mayBe l D cI cJ cZ cP cS po m0 mrf mki mpa mta mla msl mco mhe mso msi msh mce mca mwo mnu mte mwa mke mma mth mtr (npu) (nte) (nat_) (nde) (nto) (nse) (nhu) (nga) (nsd) (nfa) (nba) (npl) (nen) (nnu) (nwr) (nra) (nik) gta (i_60) (d) (sec) hy0 hy1 hy2 hy3 hy4 hy5 hy6 hy7 hy8 hy9 hy10 hy11 hy12 hy13 (by omega) (by omega) hp_gta) (cwV 3 hts gX8_leastCost_X8_mayBe rfl rfl rfl ⟨rfl, dh_X8_mayBe⟩ ⟨Nat.le_of_ble_eq_true rfl, Nat.le_of_ble_eq_true rfl⟩) hK hN hZ hP (hP.sub [0, 3] rfl) (va_recv (q := (RX8, TX8, 38)) hK hP (ci := 8) (q0 := 0) rfl rfl) rfl hl.1 rfl (Nat.le_of_ble_eq_true rfl) dX8_leastCost_78 ⟨Nat.le_of_ble_eq_true rfl, Nat.le_of_ble_eq_true rfl⟩ (fun r_29 hr_29 => ?_)
              obtain ⟨g_30, g_31, hsr_29_0⟩ := hr_29
              refine lv_if_ne (tgt := 87) hx hb dX8_leastCost_81 (by decide) (fun c_32 => ?_) (fun c_32 => ?_)
              · have fc_32 : r_29.toInt ≠ 0 := zf_ne c_32 rfl (by decide)
                have htl9 : (gta i_60.toNatClampNeg).toInt ≤ sec.toInt := (hsr_29_0.mp (by omega)).2
                refine lv_aload_n hx hb dX8_leastCost_87 rfl (lv_at hl 2 rfl) ?_
                refine lv_iload hx hb dX8_leastCost_88 (lv_at hl 0 rfl) ?_
                refine lv_iload_n hx hb dX8_leastCost_90 rfl (lv_at hl 3 rfl) ?_
                refine lv_iload_n hx hb dX8_leastCost_91 rfl (lv_at hl 4 rfl) ?_
                refine lv_iload_n hx hb dX8_leastCost_92 rfl (lv_at hl 5 rfl) ?_
                refine zc_V (As := [.int i_60, .int 3, .int d, .int sec]) (rest := []) ⟨hx, hb, hml, hown, hts⟩ (c_F_M_costBy_3 l D cI cJ cZ cP cS po m0 mrf mki mpa mta mla msl mco mhe mso msi msh mce mca mwo mnu mte mwa mke mma mth mtr (npu) (nte) (nat_) (nde) (nto) (nse) (nhu) (nga) (nsd) (nfa) (nba) (npl) (nen) (nnu) (nwr) (nra) (nik) gki gpa gta gco (i_60) (d) (sec) hy0 hy1 hy2 hy3 hy4 hy5 hy6 hy7 hy8 hy9 hy10 hy11 hy12 hy13 (by omega) (by omega) hy14 hy15 hy16 hy17 (by first | assumption | omega) hp_gki hp_gpa hp_gta hp_gco) (cwV 4 hts gX8_leastCost_X8_costBy rfl rfl rfl ⟨rfl, dh_X8_costBy⟩ ⟨Nat.le_of_ble_eq_true rfl, Nat.le_of_ble_eq_true rfl⟩) hK hN hZ hP (hP.sub [0, 1, 2, 3, 4] rfl) (va_recv (q := (RX8, TX8, 38)) hK hP (ci := 8) (q0 := 0) rfl rfl) rfl hl.1 rfl (Nat.le_of_ble_eq_true rfl) dX8_leastCost_93 ⟨Nat.le_of_ble_eq_true rfl, Nat.le_of_ble_eq_true rfl⟩ (fun r_33 hr_33 => ?_)
                obtain ⟨g_34, g_35, hsr_33_0⟩ := hr_33
                refine lv_istore (lv' := [(6, .int r_33), (5, .int i_60), (4, .int v_25), (0, .ref m0), (1, .int 3), (2, .int d), (3, .int sec)]) hx hb dX8_leastCost_96 hl (by decide) rfl (fun ls hl => ?_)
                refine lv_iload hx hb dX8_leastCost_98 (lv_at hl 0 rfl) ?_
                refine lv_iload hx hb dX8_leastCost_100 (lv_at hl 2 rfl) ?_
                refine lv_icmp_ge (tgt := 110) hx hb dX8_leastCost_102 (by decide) (fun c_36 => ?_) (fun c_36 => ?_)
                · have fc_36 : v_25.toInt ≤ r_33.toInt := zf_le c_36 rfl rfl
                  refine lv_iload hx hb dX8_leastCost_110 (lv_at hl 2 rfl) ?_
                  refine lv_istore (lv' := [(4, .int v_25), (6, .int r_33), (5, .int i_60), (0, .ref m0), (1, .int 3), (2, .int d), (3, .int sec)]) hx hb dX8_leastCost_112 hl (by decide) rfl (fun ls hl => ?_)
                  obtain ⟨x_37, ex_37⟩ : ∃ y : Int32, y = i_60 + 1 := ⟨_, rfl⟩
                  have qx_37 : x_37.toInt = i_60.toInt + 1 := dw_inc ex_37 fc_27
                  refine lv_iinc (v := x_37) (lv' := [(5, .int x_37), (4, .int v_25), (6, .int r_33), (0, .ref m0), (1, .int 3), (2, .int d), (3, .int sec)]) hx hb dX8_leastCost_114 hl (k := 2) rfl ex_37.symm (by decide) rfl (fun ls hl => ?_)
                  refine lv_goto (tgt := 60) hx hb dX8_leastCost_117 (by decide) ?_
                  exact ih x_37 v_25 _ (lv_sub hl [0, 1, 3, 4, 5, 6] rfl) hbv_25 (show (v_25 : Int32).toInt = zFi gta d.toInt sec.toInt (zPw 3 * zAt (gco 1).toInt (gco 2).toInt sec.toInt) (zLv (zLn gki gpa gta npu.toInt.toNat nhu.toInt (gco 0).toInt (gco 1).toInt (gco 2).toInt 2) gki gpa gta (gco 0).toInt (zPw 3) nhu.toInt d.toInt sec.toInt) x_37.toInt.toNat from by (have hx : x_37.toInt.toNat = i_60.toInt.toNat + 1 := (by omega); have y9 : i_60.toNatClampNeg = i_60.toInt.toNat := rfl; have hm := hsr_29_0; rw [y9] at hm; rw [hx, zFi_y (hm.mp (by omega)), ← hvi_60_0]; have zr := hsr_33_0; rw [y9] at zr; have zr2 : r_33.toInt = (zLv (zLn gki gpa gta npu.toInt.toNat nhu.toInt (gco 0).toInt (gco 1).toInt (gco 2).toInt 2) gki gpa gta (gco 0).toInt (zPw 3) nhu.toInt d.toInt sec.toInt) i_60.toInt.toNat := zr; omega)) (show x_37.toInt ≤ npu.toInt from by omega) (dw_lo hloi_60 qx_37) (dw_hn hni_60 qx_37)
                · have fc_36 : r_33.toInt < v_25.toInt := zf_nle c_36 rfl rfl
                  refine lv_iload hx hb dX8_leastCost_105 (lv_at hl 0 rfl) ?_
                  refine lv_goto (tgt := 112) hx hb dX8_leastCost_107 (by decide) ?_
                  refine lv_istore (lv' := [(4, .int r_33), (6, .int r_33), (5, .int i_60), (0, .ref m0), (1, .int 3), (2, .int d), (3, .int sec)]) hx hb dX8_leastCost_112 hl (by decide) rfl (fun ls hl => ?_)
                  obtain ⟨x_38, ex_38⟩ : ∃ y : Int32, y = i_60 + 1 := ⟨_, rfl⟩
                  have qx_38 : x_38.toInt = i_60.toInt + 1 := dw_inc ex_38 fc_27
                  refine lv_iinc (v := x_38) (lv' := [(5, .int x_38), (4, .int r_33), (6, .int r_33), (0, .ref m0), (1, .int 3), (2, .int d), (3, .int sec)]) hx hb dX8_leastCost_114 hl (k := 2) rfl ex_38.symm (by decide) rfl (fun ls hl => ?_)
                  refine lv_goto (tgt := 60) hx hb dX8_leastCost_117 (by decide) ?_
                  exact ih x_38 r_33 _ (lv_sub hl [0, 1, 3, 4, 5, 6] rfl) ⟨by omega, by omega⟩ (show (r_33 : Int32).toInt = zFi gta d.toInt sec.toInt (zPw 3 * zAt (gco 1).toInt (gco 2).toInt sec.toInt) (zLv (zLn gki gpa gta npu.toInt.toNat nhu.toInt (gco 0).toInt (gco 1).toInt (gco 2).toInt 2) gki gpa gta (gco 0).toInt (zPw 3) nhu.toInt d.toInt sec.toInt) x_38.toInt.toNat from by (have hx : x_38.toInt.toNat = i_60.toInt.toNat + 1 := (by omega); have y9 : i_60.toNatClampNeg = i_60.toInt.toNat := rfl; have hm := hsr_29_0; rw [y9] at hm; rw [hx, zFi_y (hm.mp (by omega)), ← hvi_60_0]; have zr := hsr_33_0; rw [y9] at zr; have zr2 : r_33.toInt = (zLv (zLn gki gpa gta npu.toInt.toNat nhu.toInt (gco 0).toInt (gco 1).toInt (gco 2).toInt 2) gki gpa gta (gco 0).toInt (zPw 3) nhu.toInt d.toInt sec.toInt) i_60.toInt.toNat := zr; omega)) (show x_38.toInt ≤ npu.toInt from by omega) (dw_lo hloi_60 qx_38) (dw_hn hni_60 qx_38)
              · have fc_32 : r_29.toInt = 0 := zf_eq c_32 rfl (by decide)
                refine lv_goto (tgt := 114) hx hb dX8_leastCost_84 (by decide) ?_
                obtain ⟨x_39, ex_39⟩ : ∃ y : Int32, y = i_60 + 1 := ⟨_, rfl⟩
                have qx_39 : x_39.toInt = i_60.toInt + 1 := dw_inc ex_39 fc_27
                refine lv_iinc (v := x_39) (lv' := [(5, .int x_39), (4, .int v_25), (0, .ref m0), (1, .int 3), (2, .int d), (3, .int sec)]) hx hb dX8_leastCost_114 hl (k := 0) rfl ex_39.symm (by decide) rfl (fun ls hl => ?_)
                refine lv_goto (tgt := 60) hx hb dX8_leastCost_117 (by decide) ?_
                exact ih x_39 v_25 _ (lv_sub hl [0, 1, 2, 3, 4, 5] rfl) hbv_25 (show (v_25 : Int32).toInt = zFi gta d.toInt sec.toInt (zPw 3 * zAt (gco 1).toInt (gco 2).toInt sec.toInt) (zLv (zLn gki gpa gta npu.toInt.toNat nhu.toInt (gco 0).toInt (gco 1).toInt (gco 2).toInt 2) gki gpa gta (gco 0).toInt (zPw 3) nhu.toInt d.toInt sec.toInt) x_39.toInt.toNat from by (have hx : x_39.toInt.toNat = i_60.toInt.toNat + 1 := (by omega); have y9 : i_60.toNatClampNeg = i_60.toInt.toNat := rfl; have hm := hsr_29_0; rw [y9] at hm; rw [hx, zFi_n (fun z => by (have z1 := hm.mpr z; omega))]; exact hvi_60_0)) (show x_39.toInt ≤ npu.toInt from by omega) (dw_lo hloi_60 qx_39) (dw_hn hni_60 qx_39)
      · have fc_24 : x_23.toInt < x_4.toInt := zf_nle c_24 rfl rfl
        refine lv_aload_n hx hb dX8_leastCost_43 rfl (lv_at hl 1 rfl) ?_
        refine va_get (D := D) (ci := 8) (v := .ref mco) (C := RX8) (T := TX8) (N := 38) hx hb hts hi_X8_leastCost_8 hown hK hP 0 rfl rfl 16 (by decide) (hts (.fieldLink RX8 44 "TheLiningsInItModel" "cost" "[I") (List.mem_of_getElem? (i := 1) rfl)) (fun _ h9 => h9) rfl dX8_leastCost_44 ?_
        refine lv_iconst (v := 1) hx hb dX8_leastCost_47 (by decide) ?_
        refine va_iald hx hb hK hP 4 0 rfl rfl (zf_in (by decide) (by decide)) dX8_leastCost_48 ?_
        refine lv_topi (fun y_40 ey_40 => ?_)
        obtain rfl : x_21 = y_40 := ex_21.trans ey_40.symm
        refine lv_aload_n hx hb dX8_leastCost_49 rfl (lv_at hl 1 rfl) ?_
        refine lv_iload_n hx hb dX8_leastCost_50 rfl (lv_at hl 2 rfl) ?_
        refine zc_V (As := [.int 3]) (rest := [.int x_21]) ⟨hx, hb, hml, hown, hts⟩ (c_M_power_3 l D cI cJ cZ cP cS po m0 mrf mki mpa mta mla msl mco mhe mso msi msh mce mca mwo mnu mte mwa mke mma mth mtr (npu) (nte) (nat_) (nde) (nto) (nse) (nhu) (nga) (nsd) (nfa) (nba) (npl) (nen) (nnu) (nwr) (nra) (nik) hy0 hy1 hy2 hy3 hy4 hy5 hy6 hy7 hy8 hy9 hy10 hy11 hy12 hy13) (cwV 1 hts gX8_leastCost_X8_power rfl rfl rfl ⟨rfl, dh_X8_power⟩ ⟨Nat.le_of_ble_eq_true rfl, Nat.le_of_ble_eq_true rfl⟩) hK hN hZ hP (hP.sub [0] rfl) (va_recv (q := (RX8, TX8, 38)) hK hP (ci := 8) (q0 := 0) rfl rfl) rfl hl.1 rfl (Nat.le_of_ble_eq_true rfl) dX8_leastCost_51 ⟨Nat.le_of_ble_eq_true rfl, Nat.le_of_ble_eq_true rfl⟩ (fun r_41 hr_41 => ?_)
        obtain rfl := hr_41
        refine lv_imul hx hb dX8_leastCost_54 ?_
        refine lv_topi (fun y_42 ey_42 => ?_)
        obtain rfl : x_23 = y_42 := ex_23.trans ey_42.symm
        refine lv_istore (lv' := [(4, .int x_23), (0, .ref m0), (1, .int 3), (2, .int d), (3, .int sec)]) hx hb dX8_leastCost_55 hl (by decide) rfl (fun ls hl => ?_)
        refine lv_iconst (v := 0) hx hb dX8_leastCost_57 (by decide) ?_
        refine lv_istore (lv' := [(5, .int 0), (4, .int x_23), (0, .ref m0), (1, .int 3), (2, .int d), (3, .int sec)]) hx hb dX8_leastCost_58 hl (by decide) rfl (fun ls hl => ?_)
        obtain ⟨i_60, hi_60⟩ : ∃ i : Int32, i = 0 := ⟨_, rfl⟩
        replace hl : lv_has ls 7 [(5, .int i_60), (4, .int x_23), (0, .ref m0), (1, .int 3), (2, .int d), (3, .int sec)] := by rw [hi_60]; exact lv_sub hl [0, 1, 2, 3, 4, 5] rfl
        have h1i_60 : i_60.toInt = 0 := by rw [hi_60]; decide
        obtain ⟨nfu, hni_60⟩ : ∃ nq9 : Nat, npu.toInt ≤ i_60.toInt + (nq9 : Int) := ⟨((npu.toInt : Int) - 0).toNat, by omega⟩
        have hloi_60 : 0 ≤ i_60.toInt := by omega
        obtain ⟨v_43, hv_43⟩ : ∃ g : Int32, g = x_23 := ⟨_, rfl⟩
        replace hl : lv_has ls 7 [(5, .int i_60), (4, .int v_43), (0, .ref m0), (1, .int 3), (2, .int d), (3, .int sec)] := by rw [hv_43]; exact hl
        have hbv_43 : 0 ≤ v_43.toInt ∧ v_43.toInt ≤ 171072 := by rw [hv_43]; exact ⟨by omega, by omega⟩
        have hvi_60_0 : (v_43 : Int32).toInt = zFi gta d.toInt sec.toInt (zPw 3 * zAt (gco 1).toInt (gco 2).toInt sec.toInt) (zLv (zLn gki gpa gta npu.toInt.toNat nhu.toInt (gco 0).toInt (gco 1).toInt (gco 2).toInt 2) gki gpa gta (gco 0).toInt (zPw 3) nhu.toInt d.toInt sec.toInt) i_60.toInt.toNat := by
          (try rw [hi_60]); (try rw [hv_43]); (rw [(show ((0 : Int32).toInt.toNat) = 0 from by decide)]; show _ = zPw 3 * zAt (gco 1).toInt (gco 2).toInt sec.toInt; (have nx_2 : (gco 2).toInt = x_2.toInt := (by rw [ex_2, show (2 : Int32).toNatClampNeg = 2 from by decide]); have nx_21 : (gco 1).toInt = x_21.toInt := (by rw [ex_21, show (1 : Int32).toNatClampNeg = 1 from by decide]); unfold zAt; rw [show zPw 3 = 1728 from by decide]; first | (rw [if_pos (by omega)]; omega) | (rw [if_neg (by omega)]; omega)))
        have hvi_60_1 : i_60.toInt ≤ npu.toInt := by
          (try rw [hi_60]); (try rw [hv_43]); (have k0 : (0 : Int32).toInt = 0 := (by decide); omega)
        clear h1i_60 hi_60 hv_43
        revert hni_60
        revert hloi_60
        revert hvi_60_1
        revert hvi_60_0
        revert hbv_43
        revert hl
        revert ls
        revert v_43
        revert i_60
        induction nfu with
        | zero =>
          intro i_60 v_43 ls hl hbv_43 hvi_60_0 hvi_60_1 hloi_60 hni_60
          have hzi_60 : npu.toInt ≤ i_60.toInt := by omega
          refine lv_iload hx hb dX8_leastCost_60 (lv_at hl 0 rfl) ?_
          refine lv_aload_n hx hb dX8_leastCost_62 rfl (lv_at hl 2 rfl) ?_
          refine va_get (D := D) (ci := 8) (v := .int npu) (C := RX8) (T := TX8) (N := 38) hx hb hts hi_X8_leastCost_8 hown hK hP 0 rfl rfl 0 (by decide) (hts (.fieldLink RX8 90 "TheLiningsInItModel" "pulls" "I") (List.mem_of_getElem? (i := 2) rfl)) (fun _ h9 => h9) rfl dX8_leastCost_63 ?_
          refine lv_icmp_ge (tgt := 120) hx hb dX8_leastCost_66 (by decide) (fun c_44 => ?_) (fun c_44 => ?_)
          · have fc_44 : npu.toInt ≤ i_60.toInt := zf_le c_44 rfl rfl
            refine lv_iload hx hb dX8_leastCost_120 (lv_at hl 1 rfl) ?_
            exact W.iret (v := v_43) hx hb hr (fun t ht hW => ⟨v_43, rfl, ⟨by omega, by omega, (show (v_43 : Int32).toInt = (zLn gki gpa gta npu.toInt.toNat nhu.toInt (gco 0).toInt (gco 1).toInt (gco 2).toInt 3) d.toInt sec.toInt from by (have h9 : i_60.toInt.toNat = npu.toInt.toNat := (by omega); have z := hvi_60_0; rw [h9] at z; rw [zLn_s, if_neg (by omega)]; exact z))⟩, ht⟩) (fun q hq => by cases hq) dX8_leastCost_122
          · exfalso; have fc_44 : i_60.toInt < npu.toInt := zf_nle c_44 rfl rfl; omega
        | succ nfu ih =>
          intro i_60 v_43 ls hl hbv_43 hvi_60_0 hvi_60_1 hloi_60 hni_60
          refine lv_iload hx hb dX8_leastCost_60 (lv_at hl 0 rfl) ?_
          refine lv_aload_n hx hb dX8_leastCost_62 rfl (lv_at hl 2 rfl) ?_
          refine va_get (D := D) (ci := 8) (v := .int npu) (C := RX8) (T := TX8) (N := 38) hx hb hts hi_X8_leastCost_8 hown hK hP 0 rfl rfl 0 (by decide) (hts (.fieldLink RX8 90 "TheLiningsInItModel" "pulls" "I") (List.mem_of_getElem? (i := 2) rfl)) (fun _ h9 => h9) rfl dX8_leastCost_63 ?_
          refine lv_icmp_ge (tgt := 120) hx hb dX8_leastCost_66 (by decide) (fun c_45 => ?_) (fun c_45 => ?_)
          · have fc_45 : npu.toInt ≤ i_60.toInt := zf_le c_45 rfl rfl
            refine lv_iload hx hb dX8_leastCost_120 (lv_at hl 1 rfl) ?_
            exact W.iret (v := v_43) hx hb hr (fun t ht hW => ⟨v_43, rfl, ⟨by omega, by omega, (show (v_43 : Int32).toInt = (zLn gki gpa gta npu.toInt.toNat nhu.toInt (gco 0).toInt (gco 1).toInt (gco 2).toInt 3) d.toInt sec.toInt from by (have h9 : i_60.toInt.toNat = npu.toInt.toNat := (by omega); have z := hvi_60_0; rw [h9] at z; rw [zLn_s, if_neg (by omega)]; exact z))⟩, ht⟩) (fun q hq => by cases hq) dX8_leastCost_122
          · have fc_45 : i_60.toInt < npu.toInt := zf_nle c_45 rfl rfl
            refine lv_iload_n hx hb dX8_leastCost_69 rfl (lv_at hl 3 rfl) ?_
            refine lv_if_le (tgt := 120) hx hb dX8_leastCost_70 (by decide) (fun c_46 => ?_) (fun c_46 => ?_)
            · exact absurd c_46 (by decide)
            · refine lv_aload_n hx hb dX8_leastCost_73 rfl (lv_at hl 2 rfl) ?_
              refine lv_iload hx hb dX8_leastCost_74 (lv_at hl 0 rfl) ?_
              refine lv_iload_n hx hb dX8_leastCost_76 rfl (lv_at hl 4 rfl) ?_
              refine lv_iload_n hx hb dX8_leastCost_77 rfl (lv_at hl 5 rfl) ?_
              refine zc_V (As := [.int i_60, .int d, .int sec]) (rest := []) ⟨hx, hb, hml, hown, hts⟩ (c_F_M_mayBe l D cI cJ cZ cP cS po m0 mrf mki mpa mta mla msl mco mhe mso msi msh mce mca mwo mnu mte mwa mke mma mth mtr (npu) (nte) (nat_) (nde) (nto) (nse) (nhu) (nga) (nsd) (nfa) (nba) (npl) (nen) (nnu) (nwr) (nra) (nik) gta (i_60) (d) (sec) hy0 hy1 hy2 hy3 hy4 hy5 hy6 hy7 hy8 hy9 hy10 hy11 hy12 hy13 (by omega) (by omega) hp_gta) (cwV 3 hts gX8_leastCost_X8_mayBe rfl rfl rfl ⟨rfl, dh_X8_mayBe⟩ ⟨Nat.le_of_ble_eq_true rfl, Nat.le_of_ble_eq_true rfl⟩) hK hN hZ hP (hP.sub [0, 3] rfl) (va_recv (q := (RX8, TX8, 38)) hK hP (ci := 8) (q0 := 0) rfl rfl) rfl hl.1 rfl (Nat.le_of_ble_eq_true rfl) dX8_leastCost_78 ⟨Nat.le_of_ble_eq_true rfl, Nat.le_of_ble_eq_true rfl⟩ (fun r_47 hr_47 => ?_)
              obtain ⟨g_48, g_49, hsr_47_0⟩ := hr_47
              refine lv_if_ne (tgt := 87) hx hb dX8_leastCost_81 (by decide) (fun c_50 => ?_) (fun c_50 => ?_)
              · have fc_50 : r_47.toInt ≠ 0 := zf_ne c_50 rfl (by decide)
                have htl9 : (gta i_60.toNatClampNeg).toInt ≤ sec.toInt := (hsr_47_0.mp (by omega)).2
                refine lv_aload_n hx hb dX8_leastCost_87 rfl (lv_at hl 2 rfl) ?_
                refine lv_iload hx hb dX8_leastCost_88 (lv_at hl 0 rfl) ?_
                refine lv_iload_n hx hb dX8_leastCost_90 rfl (lv_at hl 3 rfl) ?_
                refine lv_iload_n hx hb dX8_leastCost_91 rfl (lv_at hl 4 rfl) ?_
                refine lv_iload_n hx hb dX8_leastCost_92 rfl (lv_at hl 5 rfl) ?_
                refine zc_V (As := [.int i_60, .int 3, .int d, .int sec]) (rest := []) ⟨hx, hb, hml, hown, hts⟩ (c_F_M_costBy_3 l D cI cJ cZ cP cS po m0 mrf mki mpa mta mla msl mco mhe mso msi msh mce mca mwo mnu mte mwa mke mma mth mtr (npu) (nte) (nat_) (nde) (nto) (nse) (nhu) (nga) (nsd) (nfa) (nba) (npl) (nen) (nnu) (nwr) (nra) (nik) gki gpa gta gco (i_60) (d) (sec) hy0 hy1 hy2 hy3 hy4 hy5 hy6 hy7 hy8 hy9 hy10 hy11 hy12 hy13 (by omega) (by omega) hy14 hy15 hy16 hy17 (by first | assumption | omega) hp_gki hp_gpa hp_gta hp_gco) (cwV 4 hts gX8_leastCost_X8_costBy rfl rfl rfl ⟨rfl, dh_X8_costBy⟩ ⟨Nat.le_of_ble_eq_true rfl, Nat.le_of_ble_eq_true rfl⟩) hK hN hZ hP (hP.sub [0, 1, 2, 3, 4] rfl) (va_recv (q := (RX8, TX8, 38)) hK hP (ci := 8) (q0 := 0) rfl rfl) rfl hl.1 rfl (Nat.le_of_ble_eq_true rfl) dX8_leastCost_93 ⟨Nat.le_of_ble_eq_true rfl, Nat.le_of_ble_eq_true rfl⟩ (fun r_51 hr_51 => ?_)
                obtain ⟨g_52, g_53, hsr_51_0⟩ := hr_51
                refine lv_istore (lv' := [(6, .int r_51), (5, .int i_60), (4, .int v_43), (0, .ref m0), (1, .int 3), (2, .int d), (3, .int sec)]) hx hb dX8_leastCost_96 hl (by decide) rfl (fun ls hl => ?_)
                refine lv_iload hx hb dX8_leastCost_98 (lv_at hl 0 rfl) ?_
                refine lv_iload hx hb dX8_leastCost_100 (lv_at hl 2 rfl) ?_
                refine lv_icmp_ge (tgt := 110) hx hb dX8_leastCost_102 (by decide) (fun c_54 => ?_) (fun c_54 => ?_)
                · have fc_54 : v_43.toInt ≤ r_51.toInt := zf_le c_54 rfl rfl
                  refine lv_iload hx hb dX8_leastCost_110 (lv_at hl 2 rfl) ?_
                  refine lv_istore (lv' := [(4, .int v_43), (6, .int r_51), (5, .int i_60), (0, .ref m0), (1, .int 3), (2, .int d), (3, .int sec)]) hx hb dX8_leastCost_112 hl (by decide) rfl (fun ls hl => ?_)
                  obtain ⟨x_55, ex_55⟩ : ∃ y : Int32, y = i_60 + 1 := ⟨_, rfl⟩
                  have qx_55 : x_55.toInt = i_60.toInt + 1 := dw_inc ex_55 fc_45
                  refine lv_iinc (v := x_55) (lv' := [(5, .int x_55), (4, .int v_43), (6, .int r_51), (0, .ref m0), (1, .int 3), (2, .int d), (3, .int sec)]) hx hb dX8_leastCost_114 hl (k := 2) rfl ex_55.symm (by decide) rfl (fun ls hl => ?_)
                  refine lv_goto (tgt := 60) hx hb dX8_leastCost_117 (by decide) ?_
                  exact ih x_55 v_43 _ (lv_sub hl [0, 1, 3, 4, 5, 6] rfl) hbv_43 (show (v_43 : Int32).toInt = zFi gta d.toInt sec.toInt (zPw 3 * zAt (gco 1).toInt (gco 2).toInt sec.toInt) (zLv (zLn gki gpa gta npu.toInt.toNat nhu.toInt (gco 0).toInt (gco 1).toInt (gco 2).toInt 2) gki gpa gta (gco 0).toInt (zPw 3) nhu.toInt d.toInt sec.toInt) x_55.toInt.toNat from by (have hx : x_55.toInt.toNat = i_60.toInt.toNat + 1 := (by omega); have y9 : i_60.toNatClampNeg = i_60.toInt.toNat := rfl; have hm := hsr_47_0; rw [y9] at hm; rw [hx, zFi_y (hm.mp (by omega)), ← hvi_60_0]; have zr := hsr_51_0; rw [y9] at zr; have zr2 : r_51.toInt = (zLv (zLn gki gpa gta npu.toInt.toNat nhu.toInt (gco 0).toInt (gco 1).toInt (gco 2).toInt 2) gki gpa gta (gco 0).toInt (zPw 3) nhu.toInt d.toInt sec.toInt) i_60.toInt.toNat := zr; omega)) (show x_55.toInt ≤ npu.toInt from by omega) (dw_lo hloi_60 qx_55) (dw_hn hni_60 qx_55)
                · have fc_54 : r_51.toInt < v_43.toInt := zf_nle c_54 rfl rfl
                  refine lv_iload hx hb dX8_leastCost_105 (lv_at hl 0 rfl) ?_
                  refine lv_goto (tgt := 112) hx hb dX8_leastCost_107 (by decide) ?_
                  refine lv_istore (lv' := [(4, .int r_51), (6, .int r_51), (5, .int i_60), (0, .ref m0), (1, .int 3), (2, .int d), (3, .int sec)]) hx hb dX8_leastCost_112 hl (by decide) rfl (fun ls hl => ?_)
                  obtain ⟨x_56, ex_56⟩ : ∃ y : Int32, y = i_60 + 1 := ⟨_, rfl⟩
                  have qx_56 : x_56.toInt = i_60.toInt + 1 := dw_inc ex_56 fc_45
                  refine lv_iinc (v := x_56) (lv' := [(5, .int x_56), (4, .int r_51), (6, .int r_51), (0, .ref m0), (1, .int 3), (2, .int d), (3, .int sec)]) hx hb dX8_leastCost_114 hl (k := 2) rfl ex_56.symm (by decide) rfl (fun ls hl => ?_)
                  refine lv_goto (tgt := 60) hx hb dX8_leastCost_117 (by decide) ?_
                  exact ih x_56 r_51 _ (lv_sub hl [0, 1, 3, 4, 5, 6] rfl) ⟨by omega, by omega⟩ (show (r_51 : Int32).toInt = zFi gta d.toInt sec.toInt (zPw 3 * zAt (gco 1).toInt (gco 2).toInt sec.toInt) (zLv (zLn gki gpa gta npu.toInt.toNat nhu.toInt (gco 0).toInt (gco 1).toInt (gco 2).toInt 2) gki gpa gta (gco 0).toInt (zPw 3) nhu.toInt d.toInt sec.toInt) x_56.toInt.toNat from by (have hx : x_56.toInt.toNat = i_60.toInt.toNat + 1 := (by omega); have y9 : i_60.toNatClampNeg = i_60.toInt.toNat := rfl; have hm := hsr_47_0; rw [y9] at hm; rw [hx, zFi_y (hm.mp (by omega)), ← hvi_60_0]; have zr := hsr_51_0; rw [y9] at zr; have zr2 : r_51.toInt = (zLv (zLn gki gpa gta npu.toInt.toNat nhu.toInt (gco 0).toInt (gco 1).toInt (gco 2).toInt 2) gki gpa gta (gco 0).toInt (zPw 3) nhu.toInt d.toInt sec.toInt) i_60.toInt.toNat := zr; omega)) (show x_56.toInt ≤ npu.toInt from by omega) (dw_lo hloi_60 qx_56) (dw_hn hni_60 qx_56)
              · have fc_50 : r_47.toInt = 0 := zf_eq c_50 rfl (by decide)
                refine lv_goto (tgt := 114) hx hb dX8_leastCost_84 (by decide) ?_
                obtain ⟨x_57, ex_57⟩ : ∃ y : Int32, y = i_60 + 1 := ⟨_, rfl⟩
                have qx_57 : x_57.toInt = i_60.toInt + 1 := dw_inc ex_57 fc_45
                refine lv_iinc (v := x_57) (lv' := [(5, .int x_57), (4, .int v_43), (0, .ref m0), (1, .int 3), (2, .int d), (3, .int sec)]) hx hb dX8_leastCost_114 hl (k := 0) rfl ex_57.symm (by decide) rfl (fun ls hl => ?_)
                refine lv_goto (tgt := 60) hx hb dX8_leastCost_117 (by decide) ?_
                exact ih x_57 v_43 _ (lv_sub hl [0, 1, 2, 3, 4, 5] rfl) hbv_43 (show (v_43 : Int32).toInt = zFi gta d.toInt sec.toInt (zPw 3 * zAt (gco 1).toInt (gco 2).toInt sec.toInt) (zLv (zLn gki gpa gta npu.toInt.toNat nhu.toInt (gco 0).toInt (gco 1).toInt (gco 2).toInt 2) gki gpa gta (gco 0).toInt (zPw 3) nhu.toInt d.toInt sec.toInt) x_57.toInt.toNat from by (have hx : x_57.toInt.toNat = i_60.toInt.toNat + 1 := (by omega); have y9 : i_60.toNatClampNeg = i_60.toInt.toNat := rfl; have hm := hsr_47_0; rw [y9] at hm; rw [hx, zFi_n (fun z => by (have z1 := hm.mpr z; omega))]; exact hvi_60_0)) (show x_57.toInt ≤ npu.toInt from by omega) (dw_lo hloi_60 qx_57) (dw_hn hni_60 qx_57)
  · have fc_1 : d.toInt = 0 := zf_eq c_1 rfl (by decide)
    refine lv_iconst (v := 0) hx hb dX8_leastCost_4 (by decide) ?_
    exact W.iret (v := 0) hx hb hr (fun t ht hW => ⟨0, rfl, ⟨by decide, by decide, (show (0 : Int32).toInt = (zLn gki gpa gta npu.toInt.toNat nhu.toInt (gco 0).toInt (gco 1).toInt (gco 2).toInt 3) d.toInt sec.toInt from by (have k9 : (0 : Int32).toInt = 0 := (by decide); rw [zLn_s, if_pos (by omega)]; exact k9))⟩, ht⟩) (fun q hq => by cases hq) dX8_leastCost_5
set_option maxHeartbeats 4000000 in
set_option maxRecDepth 100000 in
theorem c_F_M_costBy_4 (l : Launch) (D : va_G) (cI cJ cZ cP cS : ClassId) (po : zPool) (m0 mrf mki mpa mta mla msl mco mhe mso msi msh mce mca mwo mnu mte mwa mke mma mth mtr : Nat) (npu nte nat_ nde nto nse nhu nga nsd nfa nba npl nen nnu nwr nra nik : Int32) (gki gpa gta gco : Nat → Int32) (p_ d sec : Int32) (hy0 : 0 ≤ npu.toInt) (hy1 : npu.toInt ≤ 8) (hy2 : 4 ≤ nte.toInt) (hy3 : nte.toInt ≤ 40) (hy4 : 0 ≤ nat_.toInt) (hy5 : nat_.toInt ≤ 40) (hy6 : 0 ≤ nde.toInt) (hy7 : nde.toInt ≤ 24) (hy8 : 0 ≤ nhu.toInt) (hy9 : nhu.toInt ≤ 9) (hy10 : 0 ≤ nra.toInt) (hy11 : nra.toInt ≤ 2000) (hy12 : 0 ≤ nik.toInt) (hy13 : nik.toInt ≤ 1) (hy14 : 0 ≤ p_.toInt) (hy15 : p_.toInt ≤ 7) (hy16 : 0 ≤ d.toInt) (hy17 : d.toInt ≤ 24) (hy18 : 0 ≤ sec.toInt) (hy19 : sec.toInt ≤ 300) (htl : (gta p_.toNatClampNeg).toInt ≤ sec.toInt) (hp_gki : zRg gki (0) 6) (hp_gpa : zRg gpa (0) 9) (hp_gta : zRg gta (0) 60) (hp_gco : zRg gco (0) 99) : Met l yX8_costBy wsX8_costBy ({ frames := 8, cells := 0, slots := 0, locals := 203 }) (va_Pc [.ref m0, .int p_, .int 4, .int d, .int sec] (zR D (zKT cI cJ cZ cP cS) po [(zMO m0 npu nte nat_ nde nto nse nhu nga nsd nfa mrf mki mpa mta mla msl mco mhe mso msi msh mce mca mwo mnu mte nba npl nen nnu nwr mwa mke mma mth mtr nra nik), (mki, .inl (cI, 8, .inl gki)), (mpa, .inl (cI, 8, .inl gpa)), (mta, .inl (cI, 8, .inl gta)), (mco, .inl (cI, 3, .inl gco))])) (vp_Si (fun r => 0 ≤ r.toInt ∧ r.toInt ≤ 4105728 ∧ (r.toInt = zLb (zLn gki gpa gta npu.toInt.toNat nhu.toInt (gco 0).toInt (gco 1).toInt (gco 2).toInt 3) (gco 0).toInt (zPw 4) (gki p_.toNatClampNeg).toInt (gpa p_.toNatClampNeg).toInt (gta p_.toNatClampNeg).toInt nhu.toInt d.toInt sec.toInt))) 0 0 (fun _ => False) := by sorry
set_option maxHeartbeats 4000000 in
set_option maxRecDepth 100000 in
theorem c_F_M_leastCost_4 (l : Launch) (D : va_G) (cI cJ cZ cP cS : ClassId) (po : zPool) (m0 mrf mki mpa mta mla msl mco mhe mso msi msh mce mca mwo mnu mte mwa mke mma mth mtr : Nat) (npu nte nat_ nde nto nse nhu nga nsd nfa nba npl nen nnu nwr nra nik : Int32) (gki gpa gta gco : Nat → Int32) (d sec : Int32) (hy0 : 0 ≤ npu.toInt) (hy1 : npu.toInt ≤ 8) (hy2 : 4 ≤ nte.toInt) (hy3 : nte.toInt ≤ 40) (hy4 : 0 ≤ nat_.toInt) (hy5 : nat_.toInt ≤ 40) (hy6 : 0 ≤ nde.toInt) (hy7 : nde.toInt ≤ 24) (hy8 : 0 ≤ nhu.toInt) (hy9 : nhu.toInt ≤ 9) (hy10 : 0 ≤ nra.toInt) (hy11 : nra.toInt ≤ 2000) (hy12 : 0 ≤ nik.toInt) (hy13 : nik.toInt ≤ 1) (hy14 : 0 ≤ d.toInt) (hy15 : d.toInt ≤ 24) (hy16 : 0 ≤ sec.toInt) (hy17 : sec.toInt ≤ 300) (hp_gki : zRg gki (0) 6) (hp_gpa : zRg gpa (0) 9) (hp_gta : zRg gta (0) 60) (hp_gco : zRg gco (0) 99) : Met l yX8_leastCost wsX8_leastCost ({ frames := 9, cells := 0, slots := 0, locals := 229 }) (va_Pc [.ref m0, .int 4, .int d, .int sec] (zR D (zKT cI cJ cZ cP cS) po [(zMO m0 npu nte nat_ nde nto nse nhu nga nsd nfa mrf mki mpa mta mla msl mco mhe mso msi msh mce mca mwo mnu mte nba npl nen nnu nwr mwa mke mma mth mtr nra nik), (mki, .inl (cI, 8, .inl gki)), (mpa, .inl (cI, 8, .inl gpa)), (mta, .inl (cI, 8, .inl gta)), (mco, .inl (cI, 3, .inl gco))])) (vp_Si (fun r => 0 ≤ r.toInt ∧ r.toInt ≤ 2052864 ∧ (r.toInt = (zLn gki gpa gta npu.toInt.toNat nhu.toInt (gco 0).toInt (gco 1).toInt (gco 2).toInt 4) d.toInt sec.toInt))) 0 0 (fun _ => False) := by
  refine Met.ofW (cc := cX8_leastCost) (maxL := 7) (ret := (some .int)) (by decide) rfl ?_
  intro p e s m args below meth c s₁ B hml hv
  obtain ⟨rfl, hP, hK, hN, hZ⟩ := hv
  have hx := B.exec
  have hb := B.bytes
  have hr := B.returns
  have hts := atoms_spec (ws := wsX8_leastCost) B.pre
  have hown : s.vm.findClass RX8 = some m.cls := findClass_of_methodNamed B.named
  have hlocks := B.notSynchronized
  have hl := lv_entry ([.ref m0, .int 4, .int d, .int sec]) (n := 7) (Nat.le_of_ble_eq_true rfl)
  rw [lg_entry_eq]
  generalize (lg_sl ([.ref m0, .int 4, .int d, .int sec]) ++ List.replicate (7 - (lg_sl ([.ref m0, .int 4, .int d, .int sec])).length) Slot.unset).toArray = ls at hl ⊢
  replace hl : lv_has ls 7 [(0, .ref m0), (1, .int 4), (2, .int d), (3, .int sec)] := hl
  refine lv_iload_n hx hb dX8_leastCost_0 rfl (lv_at hl 2 rfl) ?_
  refine lv_if_ne (tgt := 6) hx hb dX8_leastCost_1 (by decide) (fun c_1 => ?_) (fun c_1 => ?_)
  · have fc_1 : d.toInt ≠ 0 := zf_ne c_1 rfl (by decide)
    refine lv_aload_n hx hb dX8_leastCost_6 rfl (lv_at hl 0 rfl) ?_
    refine va_get (D := D) (ci := 8) (v := .ref mco) (C := RX8) (T := TX8) (N := 38) hx hb hts hi_X8_leastCost_8 hown hK hP 0 rfl rfl 16 (by decide) (hts (.fieldLink RX8 44 "TheLiningsInItModel" "cost" "[I") (List.mem_of_getElem? (i := 1) rfl)) (fun _ h9 => h9) rfl dX8_leastCost_7 ?_
    refine lv_iconst (v := 2) hx hb dX8_leastCost_10 (by decide) ?_
    refine va_iald hx hb hK hP 4 0 rfl rfl (zf_in (by decide) (by decide)) dX8_leastCost_11 ?_
    refine lv_topi (fun x_2 ex_2 => ?_)
    have bx_2 : 0 ≤ x_2.toInt ∧ x_2.toInt ≤ 99 := by rw [ex_2]; exact hp_gco _
    refine lv_aload_n hx hb dX8_leastCost_12 rfl (lv_at hl 0 rfl) ?_
    refine lv_iload_n hx hb dX8_leastCost_13 rfl (lv_at hl 1 rfl) ?_
    refine zc_V (As := [.int 4]) (rest := [.int x_2]) ⟨hx, hb, hml, hown, hts⟩ (c_M_power_4 l D cI cJ cZ cP cS po m0 mrf mki mpa mta mla msl mco mhe mso msi msh mce mca mwo mnu mte mwa mke mma mth mtr (npu) (nte) (nat_) (nde) (nto) (nse) (nhu) (nga) (nsd) (nfa) (nba) (npl) (nen) (nnu) (nwr) (nra) (nik) hy0 hy1 hy2 hy3 hy4 hy5 hy6 hy7 hy8 hy9 hy10 hy11 hy12 hy13) (cwV 1 hts gX8_leastCost_X8_power rfl rfl rfl ⟨rfl, dh_X8_power⟩ ⟨Nat.le_of_ble_eq_true rfl, Nat.le_of_ble_eq_true rfl⟩) hK hN hZ hP (hP.sub [0] rfl) (va_recv (q := (RX8, TX8, 38)) hK hP (ci := 8) (q0 := 0) rfl rfl) rfl hl.1 rfl (Nat.le_of_ble_eq_true rfl) dX8_leastCost_14 ⟨Nat.le_of_ble_eq_true rfl, Nat.le_of_ble_eq_true rfl⟩ (fun r_3 hr_3 => ?_)
    obtain rfl := hr_3
    refine lv_imul hx hb dX8_leastCost_17 ?_
    refine lv_topi (fun x_4 ex_4 => ?_)
    have qx_4 : x_4.toInt = x_2.toInt * 20736 := by rw [ex_4]; exact zf_mul rfl (by decide) (by omega) (by omega)
    refine lv_istore (lv' := [(4, .int x_4), (0, .ref m0), (1, .int 4), (2, .int d), (3, .int sec)]) hx hb dX8_leastCost_18 hl (by decide) rfl (fun ls hl => ?_)
    refine lv_iload_n hx hb dX8_leastCost_20 rfl (lv_at hl 4 rfl) ?_
    refine lv_bipush (v := 30) hx hb dX8_leastCost_21 (by decide) ?_
    refine lv_icmp_lt (tgt := 57) hx hb dX8_leastCost_23 (by decide) (fun c_5 => ?_) (fun c_5 => ?_)
    · have fc_5 : sec.toInt < 30 := zf_lt c_5 rfl (by decide)
      refine lv_iconst (v := 0) hx hb dX8_leastCost_57 (by decide) ?_
      refine lv_istore (lv' := [(5, .int 0), (4, .int x_4), (0, .ref m0), (1, .int 4), (2, .int d), (3, .int sec)]) hx hb dX8_leastCost_58 hl (by decide) rfl (fun ls hl => ?_)
      obtain ⟨i_60, hi_60⟩ : ∃ i : Int32, i = 0 := ⟨_, rfl⟩
      replace hl : lv_has ls 7 [(5, .int i_60), (4, .int x_4), (0, .ref m0), (1, .int 4), (2, .int d), (3, .int sec)] := by rw [hi_60]; exact lv_sub hl [0, 1, 2, 3, 4, 5] rfl
      have h1i_60 : i_60.toInt = 0 := by rw [hi_60]; decide
      obtain ⟨nfu, hni_60⟩ : ∃ nq9 : Nat, npu.toInt ≤ i_60.toInt + (nq9 : Int) := ⟨((npu.toInt : Int) - 0).toNat, by omega⟩
      have hloi_60 : 0 ≤ i_60.toInt := by omega
      obtain ⟨v_6, hv_6⟩ : ∃ g : Int32, g = x_4 := ⟨_, rfl⟩
      replace hl : lv_has ls 7 [(5, .int i_60), (4, .int v_6), (0, .ref m0), (1, .int 4), (2, .int d), (3, .int sec)] := by rw [hv_6]; exact hl
      have hbv_6 : 0 ≤ v_6.toInt ∧ v_6.toInt ≤ 2052864 := by rw [hv_6]; exact ⟨by omega, by omega⟩
      have hvi_60_0 : (v_6 : Int32).toInt = zFi gta d.toInt sec.toInt (zPw 4 * zAt (gco 1).toInt (gco 2).toInt sec.toInt) (zLv (zLn gki gpa gta npu.toInt.toNat nhu.toInt (gco 0).toInt (gco 1).toInt (gco 2).toInt 3) gki gpa gta (gco 0).toInt (zPw 4) nhu.toInt d.toInt sec.toInt) i_60.toInt.toNat := by
        (try rw [hi_60]); (try rw [hv_6]); (rw [(show ((0 : Int32).toInt.toNat) = 0 from by decide)]; show _ = zPw 4 * zAt (gco 1).toInt (gco 2).toInt sec.toInt; (have nx_2 : (gco 2).toInt = x_2.toInt := (by rw [ex_2, show (2 : Int32).toNatClampNeg = 2 from by decide]); unfold zAt; rw [show zPw 4 = 20736 from by decide]; first | (rw [if_pos (by omega)]; omega) | (rw [if_neg (by omega)]; omega)))
      have hvi_60_1 : i_60.toInt ≤ npu.toInt := by
        (try rw [hi_60]); (try rw [hv_6]); (have k0 : (0 : Int32).toInt = 0 := (by decide); omega)
      clear h1i_60 hi_60 hv_6
      revert hni_60
      revert hloi_60
      revert hvi_60_1
      revert hvi_60_0
      revert hbv_6
      revert hl
      revert ls
      revert v_6
      revert i_60
      induction nfu with
      | zero =>
        intro i_60 v_6 ls hl hbv_6 hvi_60_0 hvi_60_1 hloi_60 hni_60
        have hzi_60 : npu.toInt ≤ i_60.toInt := by omega
        refine lv_iload hx hb dX8_leastCost_60 (lv_at hl 0 rfl) ?_
        refine lv_aload_n hx hb dX8_leastCost_62 rfl (lv_at hl 2 rfl) ?_
        refine va_get (D := D) (ci := 8) (v := .int npu) (C := RX8) (T := TX8) (N := 38) hx hb hts hi_X8_leastCost_8 hown hK hP 0 rfl rfl 0 (by decide) (hts (.fieldLink RX8 90 "TheLiningsInItModel" "pulls" "I") (List.mem_of_getElem? (i := 2) rfl)) (fun _ h9 => h9) rfl dX8_leastCost_63 ?_
        refine lv_icmp_ge (tgt := 120) hx hb dX8_leastCost_66 (by decide) (fun c_7 => ?_) (fun c_7 => ?_)
        · have fc_7 : npu.toInt ≤ i_60.toInt := zf_le c_7 rfl rfl
          refine lv_iload hx hb dX8_leastCost_120 (lv_at hl 1 rfl) ?_
          exact W.iret (v := v_6) hx hb hr (fun t ht hW => ⟨v_6, rfl, ⟨by omega, by omega, (show (v_6 : Int32).toInt = (zLn gki gpa gta npu.toInt.toNat nhu.toInt (gco 0).toInt (gco 1).toInt (gco 2).toInt 4) d.toInt sec.toInt from by (have h9 : i_60.toInt.toNat = npu.toInt.toNat := (by omega); have z := hvi_60_0; rw [h9] at z; rw [zLn_s, if_neg (by omega)]; exact z))⟩, ht⟩) (fun q hq => by cases hq) dX8_leastCost_122
        · exfalso; have fc_7 : i_60.toInt < npu.toInt := zf_nle c_7 rfl rfl; omega
      | succ nfu ih =>
        intro i_60 v_6 ls hl hbv_6 hvi_60_0 hvi_60_1 hloi_60 hni_60
        refine lv_iload hx hb dX8_leastCost_60 (lv_at hl 0 rfl) ?_
        refine lv_aload_n hx hb dX8_leastCost_62 rfl (lv_at hl 2 rfl) ?_
        refine va_get (D := D) (ci := 8) (v := .int npu) (C := RX8) (T := TX8) (N := 38) hx hb hts hi_X8_leastCost_8 hown hK hP 0 rfl rfl 0 (by decide) (hts (.fieldLink RX8 90 "TheLiningsInItModel" "pulls" "I") (List.mem_of_getElem? (i := 2) rfl)) (fun _ h9 => h9) rfl dX8_leastCost_63 ?_
        refine lv_icmp_ge (tgt := 120) hx hb dX8_leastCost_66 (by decide) (fun c_8 => ?_) (fun c_8 => ?_)
        · have fc_8 : npu.toInt ≤ i_60.toInt := zf_le c_8 rfl rfl
          refine lv_iload hx hb dX8_leastCost_120 (lv_at hl 1 rfl) ?_
          exact W.iret (v := v_6) hx hb hr (fun t ht hW => ⟨v_6, rfl, ⟨by omega, by omega, (show (v_6 : Int32).toInt = (zLn gki gpa gta npu.toInt.toNat nhu.toInt (gco 0).toInt (gco 1).toInt (gco 2).toInt 4) d.toInt sec.toInt from by (have h9 : i_60.toInt.toNat = npu.toInt.toNat := (by omega); have z := hvi_60_0; rw [h9] at z; rw [zLn_s, if_neg (by omega)]; exact z))⟩, ht⟩) (fun q hq => by cases hq) dX8_leastCost_122
        · have fc_8 : i_60.toInt < npu.toInt := zf_nle c_8 rfl rfl
          refine lv_iload_n hx hb dX8_leastCost_69 rfl (lv_at hl 3 rfl) ?_
          refine lv_if_le (tgt := 120) hx hb dX8_leastCost_70 (by decide) (fun c_9 => ?_) (fun c_9 => ?_)
          · exact absurd c_9 (by decide)
          · refine lv_aload_n hx hb dX8_leastCost_73 rfl (lv_at hl 2 rfl) ?_
            refine lv_iload hx hb dX8_leastCost_74 (lv_at hl 0 rfl) ?_
            refine lv_iload_n hx hb dX8_leastCost_76 rfl (lv_at hl 4 rfl) ?_
            refine lv_iload_n hx hb dX8_leastCost_77 rfl (lv_at hl 5 rfl) ?_
            refine zc_V (As := [.int i_60, .int d, .int sec]) (rest := []) ⟨hx, hb, hml, hown, hts⟩ (c_F_M_mayBe l D cI cJ cZ cP cS po m0 mrf mki mpa mta mla msl mco mhe mso msi msh mce mca mwo mnu mte mwa mke mma mth mtr (npu) (nte) (nat_) (nde) (nto) (nse) (nhu) (nga) (nsd) (nfa) (nba) (npl) (nen) (nnu) (nwr) (nra) (nik) gta (i_60) (d) (sec) hy0 hy1 hy2 hy3 hy4 hy5 hy6 hy7 hy8 hy9 hy10 hy11 hy12 hy13 (by omega) (by omega) hp_gta) (cwV 3 hts gX8_leastCost_X8_mayBe rfl rfl rfl ⟨rfl, dh_X8_mayBe⟩ ⟨Nat.le_of_ble_eq_true rfl, Nat.le_of_ble_eq_true rfl⟩) hK hN hZ hP (hP.sub [0, 3] rfl) (va_recv (q := (RX8, TX8, 38)) hK hP (ci := 8) (q0 := 0) rfl rfl) rfl hl.1 rfl (Nat.le_of_ble_eq_true rfl) dX8_leastCost_78 ⟨Nat.le_of_ble_eq_true rfl, Nat.le_of_ble_eq_true rfl⟩ (fun r_10 hr_10 => ?_)
            obtain ⟨g_11, g_12, hsr_10_0⟩ := hr_10
            refine lv_if_ne (tgt := 87) hx hb dX8_leastCost_81 (by decide) (fun c_13 => ?_) (fun c_13 => ?_)
            · have fc_13 : r_10.toInt ≠ 0 := zf_ne c_13 rfl (by decide)
              have htl9 : (gta i_60.toNatClampNeg).toInt ≤ sec.toInt := (hsr_10_0.mp (by omega)).2
              refine lv_aload_n hx hb dX8_leastCost_87 rfl (lv_at hl 2 rfl) ?_
              refine lv_iload hx hb dX8_leastCost_88 (lv_at hl 0 rfl) ?_
              refine lv_iload_n hx hb dX8_leastCost_90 rfl (lv_at hl 3 rfl) ?_
              refine lv_iload_n hx hb dX8_leastCost_91 rfl (lv_at hl 4 rfl) ?_
              refine lv_iload_n hx hb dX8_leastCost_92 rfl (lv_at hl 5 rfl) ?_
              refine zc_V (As := [.int i_60, .int 4, .int d, .int sec]) (rest := []) ⟨hx, hb, hml, hown, hts⟩ (c_F_M_costBy_4 l D cI cJ cZ cP cS po m0 mrf mki mpa mta mla msl mco mhe mso msi msh mce mca mwo mnu mte mwa mke mma mth mtr (npu) (nte) (nat_) (nde) (nto) (nse) (nhu) (nga) (nsd) (nfa) (nba) (npl) (nen) (nnu) (nwr) (nra) (nik) gki gpa gta gco (i_60) (d) (sec) hy0 hy1 hy2 hy3 hy4 hy5 hy6 hy7 hy8 hy9 hy10 hy11 hy12 hy13 (by omega) (by omega) hy14 hy15 hy16 hy17 (by first | assumption | omega) hp_gki hp_gpa hp_gta hp_gco) (cwV 4 hts gX8_leastCost_X8_costBy rfl rfl rfl ⟨rfl, dh_X8_costBy⟩ ⟨Nat.le_of_ble_eq_true rfl, Nat.le_of_ble_eq_true rfl⟩) hK hN hZ hP (hP.sub [0, 1, 2, 3, 4] rfl) (va_recv (q := (RX8, TX8, 38)) hK hP (ci := 8) (q0 := 0) rfl rfl) rfl hl.1 rfl (Nat.le_of_ble_eq_true rfl) dX8_leastCost_93 ⟨Nat.le_of_ble_eq_true rfl, Nat.le_of_ble_eq_true rfl⟩ (fun r_14 hr_14 => ?_)
              obtain ⟨g_15, g_16, hsr_14_0⟩ := hr_14
              refine lv_istore (lv' := [(6, .int r_14), (5, .int i_60), (4, .int v_6), (0, .ref m0), (1, .int 4), (2, .int d), (3, .int sec)]) hx hb dX8_leastCost_96 hl (by decide) rfl (fun ls hl => ?_)
              refine lv_iload hx hb dX8_leastCost_98 (lv_at hl 0 rfl) ?_
              refine lv_iload hx hb dX8_leastCost_100 (lv_at hl 2 rfl) ?_
              refine lv_icmp_ge (tgt := 110) hx hb dX8_leastCost_102 (by decide) (fun c_17 => ?_) (fun c_17 => ?_)
              · have fc_17 : v_6.toInt ≤ r_14.toInt := zf_le c_17 rfl rfl
                refine lv_iload hx hb dX8_leastCost_110 (lv_at hl 2 rfl) ?_
                refine lv_istore (lv' := [(4, .int v_6), (6, .int r_14), (5, .int i_60), (0, .ref m0), (1, .int 4), (2, .int d), (3, .int sec)]) hx hb dX8_leastCost_112 hl (by decide) rfl (fun ls hl => ?_)
                obtain ⟨x_18, ex_18⟩ : ∃ y : Int32, y = i_60 + 1 := ⟨_, rfl⟩
                have qx_18 : x_18.toInt = i_60.toInt + 1 := dw_inc ex_18 fc_8
                refine lv_iinc (v := x_18) (lv' := [(5, .int x_18), (4, .int v_6), (6, .int r_14), (0, .ref m0), (1, .int 4), (2, .int d), (3, .int sec)]) hx hb dX8_leastCost_114 hl (k := 2) rfl ex_18.symm (by decide) rfl (fun ls hl => ?_)
                refine lv_goto (tgt := 60) hx hb dX8_leastCost_117 (by decide) ?_
                exact ih x_18 v_6 _ (lv_sub hl [0, 1, 3, 4, 5, 6] rfl) hbv_6 (show (v_6 : Int32).toInt = zFi gta d.toInt sec.toInt (zPw 4 * zAt (gco 1).toInt (gco 2).toInt sec.toInt) (zLv (zLn gki gpa gta npu.toInt.toNat nhu.toInt (gco 0).toInt (gco 1).toInt (gco 2).toInt 3) gki gpa gta (gco 0).toInt (zPw 4) nhu.toInt d.toInt sec.toInt) x_18.toInt.toNat from by (have hx : x_18.toInt.toNat = i_60.toInt.toNat + 1 := (by omega); have y9 : i_60.toNatClampNeg = i_60.toInt.toNat := rfl; have hm := hsr_10_0; rw [y9] at hm; rw [hx, zFi_y (hm.mp (by omega)), ← hvi_60_0]; have zr := hsr_14_0; rw [y9] at zr; have zr2 : r_14.toInt = (zLv (zLn gki gpa gta npu.toInt.toNat nhu.toInt (gco 0).toInt (gco 1).toInt (gco 2).toInt 3) gki gpa gta (gco 0).toInt (zPw 4) nhu.toInt d.toInt sec.toInt) i_60.toInt.toNat := zr; omega)) (show x_18.toInt ≤ npu.toInt from by omega) (dw_lo hloi_60 qx_18) (dw_hn hni_60 qx_18)
              · have fc_17 : r_14.toInt < v_6.toInt := zf_nle c_17 rfl rfl
                refine lv_iload hx hb dX8_leastCost_105 (lv_at hl 0 rfl) ?_
                refine lv_goto (tgt := 112) hx hb dX8_leastCost_107 (by decide) ?_
                refine lv_istore (lv' := [(4, .int r_14), (6, .int r_14), (5, .int i_60), (0, .ref m0), (1, .int 4), (2, .int d), (3, .int sec)]) hx hb dX8_leastCost_112 hl (by decide) rfl (fun ls hl => ?_)
                obtain ⟨x_19, ex_19⟩ : ∃ y : Int32, y = i_60 + 1 := ⟨_, rfl⟩
                have qx_19 : x_19.toInt = i_60.toInt + 1 := dw_inc ex_19 fc_8
                refine lv_iinc (v := x_19) (lv' := [(5, .int x_19), (4, .int r_14), (6, .int r_14), (0, .ref m0), (1, .int 4), (2, .int d), (3, .int sec)]) hx hb dX8_leastCost_114 hl (k := 2) rfl ex_19.symm (by decide) rfl (fun ls hl => ?_)
                refine lv_goto (tgt := 60) hx hb dX8_leastCost_117 (by decide) ?_
                exact ih x_19 r_14 _ (lv_sub hl [0, 1, 3, 4, 5, 6] rfl) ⟨by omega, by omega⟩ (show (r_14 : Int32).toInt = zFi gta d.toInt sec.toInt (zPw 4 * zAt (gco 1).toInt (gco 2).toInt sec.toInt) (zLv (zLn gki gpa gta npu.toInt.toNat nhu.toInt (gco 0).toInt (gco 1).toInt (gco 2).toInt 3) gki gpa gta (gco 0).toInt (zPw 4) nhu.toInt d.toInt sec.toInt) x_19.toInt.toNat from by (have hx : x_19.toInt.toNat = i_60.toInt.toNat + 1 := (by omega); have y9 : i_60.toNatClampNeg = i_60.toInt.toNat := rfl; have hm := hsr_10_0; rw [y9] at hm; rw [hx, zFi_y (hm.mp (by omega)), ← hvi_60_0]; have zr := hsr_14_0; rw [y9] at zr; have zr2 : r_14.toInt = (zLv (zLn gki gpa gta npu.toInt.toNat nhu.toInt (gco 0).toInt (gco 1).toInt (gco 2).toInt 3) gki gpa gta (gco 0).toInt (zPw 4) nhu.toInt d.toInt sec.toInt) i_60.toInt.toNat := zr; omega)) (show x_19.toInt ≤ npu.toInt from by omega) (dw_lo hloi_60 qx_19) (dw_hn hni_60 qx_19)
            · have fc_13 : r_10.toInt = 0 := zf_eq c_13 rfl (by decide)
              refine lv_goto (tgt := 114) hx hb dX8_leastCost_84 (by decide) ?_
              obtain ⟨x_20, ex_20⟩ : ∃ y : Int32, y = i_60 + 1 := ⟨_, rfl⟩
              have qx_20 : x_20.toInt = i_60.toInt + 1 := dw_inc ex_20 fc_8
              refine lv_iinc (v := x_20) (lv' := [(5, .int x_20), (4, .int v_6), (0, .ref m0), (1, .int 4), (2, .int d), (3, .int sec)]) hx hb dX8_leastCost_114 hl (k := 0) rfl ex_20.symm (by decide) rfl (fun ls hl => ?_)
              refine lv_goto (tgt := 60) hx hb dX8_leastCost_117 (by decide) ?_
              exact ih x_20 v_6 _ (lv_sub hl [0, 1, 2, 3, 4, 5] rfl) hbv_6 (show (v_6 : Int32).toInt = zFi gta d.toInt sec.toInt (zPw 4 * zAt (gco 1).toInt (gco 2).toInt sec.toInt) (zLv (zLn gki gpa gta npu.toInt.toNat nhu.toInt (gco 0).toInt (gco 1).toInt (gco 2).toInt 3) gki gpa gta (gco 0).toInt (zPw 4) nhu.toInt d.toInt sec.toInt) x_20.toInt.toNat from by (have hx : x_20.toInt.toNat = i_60.toInt.toNat + 1 := (by omega); have y9 : i_60.toNatClampNeg = i_60.toInt.toNat := rfl; have hm := hsr_10_0; rw [y9] at hm; rw [hx, zFi_n (fun z => by (have z1 := hm.mpr z; omega))]; exact hvi_60_0)) (show x_20.toInt ≤ npu.toInt from by omega) (dw_lo hloi_60 qx_20) (dw_hn hni_60 qx_20)
    · have fc_5 : 30 ≤ sec.toInt := zf_nlt c_5 rfl (by decide)
      refine lv_aload_n hx hb dX8_leastCost_26 rfl (lv_at hl 1 rfl) ?_
      refine va_get (D := D) (ci := 8) (v := .ref mco) (C := RX8) (T := TX8) (N := 38) hx hb hts hi_X8_leastCost_8 hown hK hP 0 rfl rfl 16 (by decide) (hts (.fieldLink RX8 44 "TheLiningsInItModel" "cost" "[I") (List.mem_of_getElem? (i := 1) rfl)) (fun _ h9 => h9) rfl dX8_leastCost_27 ?_
      refine lv_iconst (v := 1) hx hb dX8_leastCost_30 (by decide) ?_
      refine va_iald hx hb hK hP 4 0 rfl rfl (zf_in (by decide) (by decide)) dX8_leastCost_31 ?_
      refine lv_topi (fun x_21 ex_21 => ?_)
      have bx_21 : 0 ≤ x_21.toInt ∧ x_21.toInt ≤ 99 := by rw [ex_21]; exact hp_gco _
      refine lv_aload_n hx hb dX8_leastCost_32 rfl (lv_at hl 1 rfl) ?_
      refine lv_iload_n hx hb dX8_leastCost_33 rfl (lv_at hl 2 rfl) ?_
      refine zc_V (As := [.int 4]) (rest := [.int x_21]) ⟨hx, hb, hml, hown, hts⟩ (c_M_power_4 l D cI cJ cZ cP cS po m0 mrf mki mpa mta mla msl mco mhe mso msi msh mce mca mwo mnu mte mwa mke mma mth mtr (npu) (nte) (nat_) (nde) (nto) (nse) (nhu) (nga) (nsd) (nfa) (nba) (npl) (nen) (nnu) (nwr) (nra) (nik) hy0 hy1 hy2 hy3 hy4 hy5 hy6 hy7 hy8 hy9 hy10 hy11 hy12 hy13) (cwV 1 hts gX8_leastCost_X8_power rfl rfl rfl ⟨rfl, dh_X8_power⟩ ⟨Nat.le_of_ble_eq_true rfl, Nat.le_of_ble_eq_true rfl⟩) hK hN hZ hP (hP.sub [0] rfl) (va_recv (q := (RX8, TX8, 38)) hK hP (ci := 8) (q0 := 0) rfl rfl) rfl hl.1 rfl (Nat.le_of_ble_eq_true rfl) dX8_leastCost_34 ⟨Nat.le_of_ble_eq_true rfl, Nat.le_of_ble_eq_true rfl⟩ (fun r_22 hr_22 => ?_)
      obtain rfl := hr_22
      refine lv_imul hx hb dX8_leastCost_37 ?_
      refine lv_topi (fun x_23 ex_23 => ?_)
      have qx_23 : x_23.toInt = x_21.toInt * 20736 := by rw [ex_23]; exact zf_mul rfl (by decide) (by omega) (by omega)
      refine lv_iload hx hb dX8_leastCost_38 (lv_at hl 0 rfl) ?_
      refine lv_icmp_ge (tgt := 57) hx hb dX8_leastCost_40 (by decide) (fun c_24 => ?_) (fun c_24 => ?_)
      · have fc_24 : x_4.toInt ≤ x_23.toInt := zf_le c_24 rfl rfl
        refine lv_iconst (v := 0) hx hb dX8_leastCost_57 (by decide) ?_
        refine lv_istore (lv' := [(5, .int 0), (4, .int x_4), (0, .ref m0), (1, .int 4), (2, .int d), (3, .int sec)]) hx hb dX8_leastCost_58 hl (by decide) rfl (fun ls hl => ?_)
        obtain ⟨i_60, hi_60⟩ : ∃ i : Int32, i = 0 := ⟨_, rfl⟩
        replace hl : lv_has ls 7 [(5, .int i_60), (4, .int x_4), (0, .ref m0), (1, .int 4), (2, .int d), (3, .int sec)] := by rw [hi_60]; exact lv_sub hl [0, 1, 2, 3, 4, 5] rfl
        have h1i_60 : i_60.toInt = 0 := by rw [hi_60]; decide
        obtain ⟨nfu, hni_60⟩ : ∃ nq9 : Nat, npu.toInt ≤ i_60.toInt + (nq9 : Int) := ⟨((npu.toInt : Int) - 0).toNat, by omega⟩
        have hloi_60 : 0 ≤ i_60.toInt := by omega
        obtain ⟨v_25, hv_25⟩ : ∃ g : Int32, g = x_4 := ⟨_, rfl⟩
        replace hl : lv_has ls 7 [(5, .int i_60), (4, .int v_25), (0, .ref m0), (1, .int 4), (2, .int d), (3, .int sec)] := by rw [hv_25]; exact hl
        have hbv_25 : 0 ≤ v_25.toInt ∧ v_25.toInt ≤ 2052864 := by rw [hv_25]; exact ⟨by omega, by omega⟩
        have hvi_60_0 : (v_25 : Int32).toInt = zFi gta d.toInt sec.toInt (zPw 4 * zAt (gco 1).toInt (gco 2).toInt sec.toInt) (zLv (zLn gki gpa gta npu.toInt.toNat nhu.toInt (gco 0).toInt (gco 1).toInt (gco 2).toInt 3) gki gpa gta (gco 0).toInt (zPw 4) nhu.toInt d.toInt sec.toInt) i_60.toInt.toNat := by
          (try rw [hi_60]); (try rw [hv_25]); (rw [(show ((0 : Int32).toInt.toNat) = 0 from by decide)]; show _ = zPw 4 * zAt (gco 1).toInt (gco 2).toInt sec.toInt; (have nx_2 : (gco 2).toInt = x_2.toInt := (by rw [ex_2, show (2 : Int32).toNatClampNeg = 2 from by decide]); have nx_21 : (gco 1).toInt = x_21.toInt := (by rw [ex_21, show (1 : Int32).toNatClampNeg = 1 from by decide]); unfold zAt; rw [show zPw 4 = 20736 from by decide]; first | (rw [if_pos (by omega)]; omega) | (rw [if_neg (by omega)]; omega)))
        have hvi_60_1 : i_60.toInt ≤ npu.toInt := by
          (try rw [hi_60]); (try rw [hv_25]); (have k0 : (0 : Int32).toInt = 0 := (by decide); omega)
        clear h1i_60 hi_60 hv_25
        revert hni_60
        revert hloi_60
        revert hvi_60_1
        revert hvi_60_0
        revert hbv_25
        revert hl
        revert ls
        revert v_25
        revert i_60
        induction nfu with
        | zero =>
          intro i_60 v_25 ls hl hbv_25 hvi_60_0 hvi_60_1 hloi_60 hni_60
          have hzi_60 : npu.toInt ≤ i_60.toInt := by omega
          refine lv_iload hx hb dX8_leastCost_60 (lv_at hl 0 rfl) ?_
          refine lv_aload_n hx hb dX8_leastCost_62 rfl (lv_at hl 2 rfl) ?_
          refine va_get (D := D) (ci := 8) (v := .int npu) (C := RX8) (T := TX8) (N := 38) hx hb hts hi_X8_leastCost_8 hown hK hP 0 rfl rfl 0 (by decide) (hts (.fieldLink RX8 90 "TheLiningsInItModel" "pulls" "I") (List.mem_of_getElem? (i := 2) rfl)) (fun _ h9 => h9) rfl dX8_leastCost_63 ?_
          refine lv_icmp_ge (tgt := 120) hx hb dX8_leastCost_66 (by decide) (fun c_26 => ?_) (fun c_26 => ?_)
          · have fc_26 : npu.toInt ≤ i_60.toInt := zf_le c_26 rfl rfl
            refine lv_iload hx hb dX8_leastCost_120 (lv_at hl 1 rfl) ?_
            exact W.iret (v := v_25) hx hb hr (fun t ht hW => ⟨v_25, rfl, ⟨by omega, by omega, (show (v_25 : Int32).toInt = (zLn gki gpa gta npu.toInt.toNat nhu.toInt (gco 0).toInt (gco 1).toInt (gco 2).toInt 4) d.toInt sec.toInt from by (have h9 : i_60.toInt.toNat = npu.toInt.toNat := (by omega); have z := hvi_60_0; rw [h9] at z; rw [zLn_s, if_neg (by omega)]; exact z))⟩, ht⟩) (fun q hq => by cases hq) dX8_leastCost_122
          · exfalso; have fc_26 : i_60.toInt < npu.toInt := zf_nle c_26 rfl rfl; omega
        | succ nfu ih =>
          intro i_60 v_25 ls hl hbv_25 hvi_60_0 hvi_60_1 hloi_60 hni_60
          refine lv_iload hx hb dX8_leastCost_60 (lv_at hl 0 rfl) ?_
          refine lv_aload_n hx hb dX8_leastCost_62 rfl (lv_at hl 2 rfl) ?_
          refine va_get (D := D) (ci := 8) (v := .int npu) (C := RX8) (T := TX8) (N := 38) hx hb hts hi_X8_leastCost_8 hown hK hP 0 rfl rfl 0 (by decide) (hts (.fieldLink RX8 90 "TheLiningsInItModel" "pulls" "I") (List.mem_of_getElem? (i := 2) rfl)) (fun _ h9 => h9) rfl dX8_leastCost_63 ?_
          refine lv_icmp_ge (tgt := 120) hx hb dX8_leastCost_66 (by decide) (fun c_27 => ?_) (fun c_27 => ?_)
          · have fc_27 : npu.toInt ≤ i_60.toInt := zf_le c_27 rfl rfl
            refine lv_iload hx hb dX8_leastCost_120 (lv_at hl 1 rfl) ?_
            exact W.iret (v := v_25) hx hb hr (fun t ht hW => ⟨v_25, rfl, ⟨by omega, by omega, (show (v_25 : Int32).toInt = (zLn gki gpa gta npu.toInt.toNat nhu.toInt (gco 0).toInt (gco 1).toInt (gco 2).toInt 4) d.toInt sec.toInt from by (have h9 : i_60.toInt.toNat = npu.toInt.toNat := (by omega); have z := hvi_60_0; rw [h9] at z; rw [zLn_s, if_neg (by omega)]; exact z))⟩, ht⟩) (fun q hq => by cases hq) dX8_leastCost_122
          · have fc_27 : i_60.toInt < npu.toInt := zf_nle c_27 rfl rfl
            refine lv_iload_n hx hb dX8_leastCost_69 rfl (lv_at hl 3 rfl) ?_
            refine lv_if_le (tgt := 120) hx hb dX8_leastCost_70 (by decide) (fun c_28 => ?_) (fun c_28 => ?_)
            · exact absurd c_28 (by decide)
            · refine lv_aload_n hx hb dX8_leastCost_73 rfl (lv_at hl 2 rfl) ?_
              refine lv_iload hx hb dX8_leastCost_74 (lv_at hl 0 rfl) ?_
              refine lv_iload_n hx hb dX8_leastCost_76 rfl (lv_at hl 4 rfl) ?_
              refine lv_iload_n hx hb dX8_leastCost_77 rfl (lv_at hl 5 rfl) ?_
              refine zc_V (As := [.int i_60, .int d, .int sec]) (rest := []) ⟨hx, hb, hml, hown, hts⟩ (c_F_M_mayBe l D cI cJ cZ cP cS po m0 mrf mki mpa mta mla msl mco mhe mso msi msh mce mca mwo mnu mte mwa mke mma mth mtr (npu) (nte) (nat_) (nde) (nto) (nse) (nhu) (nga) (nsd) (nfa) (nba) (npl) (nen) (nnu) (nwr) (nra) (nik) gta (i_60) (d) (sec) hy0 hy1 hy2 hy3 hy4 hy5 hy6 hy7 hy8 hy9 hy10 hy11 hy12 hy13 (by omega) (by omega) hp_gta) (cwV 3 hts gX8_leastCost_X8_mayBe rfl rfl rfl ⟨rfl, dh_X8_mayBe⟩ ⟨Nat.le_of_ble_eq_true rfl, Nat.le_of_ble_eq_true rfl⟩) hK hN hZ hP (hP.sub [0, 3] rfl) (va_recv (q := (RX8, TX8, 38)) hK hP (ci := 8) (q0 := 0) rfl rfl) rfl hl.1 rfl (Nat.le_of_ble_eq_true rfl) dX8_leastCost_78 ⟨Nat.le_of_ble_eq_true rfl, Nat.le_of_ble_eq_true rfl⟩ (fun r_29 hr_29 => ?_)
              obtain ⟨g_30, g_31, hsr_29_0⟩ := hr_29
              refine lv_if_ne (tgt := 87) hx hb dX8_leastCost_81 (by decide) (fun c_32 => ?_) (fun c_32 => ?_)
              · have fc_32 : r_29.toInt ≠ 0 := zf_ne c_32 rfl (by decide)
                have htl9 : (gta i_60.toNatClampNeg).toInt ≤ sec.toInt := (hsr_29_0.mp (by omega)).2
                refine lv_aload_n hx hb dX8_leastCost_87 rfl (lv_at hl 2 rfl) ?_
                refine lv_iload hx hb dX8_leastCost_88 (lv_at hl 0 rfl) ?_
                refine lv_iload_n hx hb dX8_leastCost_90 rfl (lv_at hl 3 rfl) ?_
                refine lv_iload_n hx hb dX8_leastCost_91 rfl (lv_at hl 4 rfl) ?_
                refine lv_iload_n hx hb dX8_leastCost_92 rfl (lv_at hl 5 rfl) ?_
                refine zc_V (As := [.int i_60, .int 4, .int d, .int sec]) (rest := []) ⟨hx, hb, hml, hown, hts⟩ (c_F_M_costBy_4 l D cI cJ cZ cP cS po m0 mrf mki mpa mta mla msl mco mhe mso msi msh mce mca mwo mnu mte mwa mke mma mth mtr (npu) (nte) (nat_) (nde) (nto) (nse) (nhu) (nga) (nsd) (nfa) (nba) (npl) (nen) (nnu) (nwr) (nra) (nik) gki gpa gta gco (i_60) (d) (sec) hy0 hy1 hy2 hy3 hy4 hy5 hy6 hy7 hy8 hy9 hy10 hy11 hy12 hy13 (by omega) (by omega) hy14 hy15 hy16 hy17 (by first | assumption | omega) hp_gki hp_gpa hp_gta hp_gco) (cwV 4 hts gX8_leastCost_X8_costBy rfl rfl rfl ⟨rfl, dh_X8_costBy⟩ ⟨Nat.le_of_ble_eq_true rfl, Nat.le_of_ble_eq_true rfl⟩) hK hN hZ hP (hP.sub [0, 1, 2, 3, 4] rfl) (va_recv (q := (RX8, TX8, 38)) hK hP (ci := 8) (q0 := 0) rfl rfl) rfl hl.1 rfl (Nat.le_of_ble_eq_true rfl) dX8_leastCost_93 ⟨Nat.le_of_ble_eq_true rfl, Nat.le_of_ble_eq_true rfl⟩ (fun r_33 hr_33 => ?_)
                obtain ⟨g_34, g_35, hsr_33_0⟩ := hr_33
                refine lv_istore (lv' := [(6, .int r_33), (5, .int i_60), (4, .int v_25), (0, .ref m0), (1, .int 4), (2, .int d), (3, .int sec)]) hx hb dX8_leastCost_96 hl (by decide) rfl (fun ls hl => ?_)
                refine lv_iload hx hb dX8_leastCost_98 (lv_at hl 0 rfl) ?_
                refine lv_iload hx hb dX8_leastCost_100 (lv_at hl 2 rfl) ?_
                refine lv_icmp_ge (tgt := 110) hx hb dX8_leastCost_102 (by decide) (fun c_36 => ?_) (fun c_36 => ?_)
                · have fc_36 : v_25.toInt ≤ r_33.toInt := zf_le c_36 rfl rfl
                  refine lv_iload hx hb dX8_leastCost_110 (lv_at hl 2 rfl) ?_
                  refine lv_istore (lv' := [(4, .int v_25), (6, .int r_33), (5, .int i_60), (0, .ref m0), (1, .int 4), (2, .int d), (3, .int sec)]) hx hb dX8_leastCost_112 hl (by decide) rfl (fun ls hl => ?_)
                  obtain ⟨x_37, ex_37⟩ : ∃ y : Int32, y = i_60 + 1 := ⟨_, rfl⟩
                  have qx_37 : x_37.toInt = i_60.toInt + 1 := dw_inc ex_37 fc_27
                  refine lv_iinc (v := x_37) (lv' := [(5, .int x_37), (4, .int v_25), (6, .int r_33), (0, .ref m0), (1, .int 4), (2, .int d), (3, .int sec)]) hx hb dX8_leastCost_114 hl (k := 2) rfl ex_37.symm (by decide) rfl (fun ls hl => ?_)
                  refine lv_goto (tgt := 60) hx hb dX8_leastCost_117 (by decide) ?_
                  exact ih x_37 v_25 _ (lv_sub hl [0, 1, 3, 4, 5, 6] rfl) hbv_25 (show (v_25 : Int32).toInt = zFi gta d.toInt sec.toInt (zPw 4 * zAt (gco 1).toInt (gco 2).toInt sec.toInt) (zLv (zLn gki gpa gta npu.toInt.toNat nhu.toInt (gco 0).toInt (gco 1).toInt (gco 2).toInt 3) gki gpa gta (gco 0).toInt (zPw 4) nhu.toInt d.toInt sec.toInt) x_37.toInt.toNat from by (have hx : x_37.toInt.toNat = i_60.toInt.toNat + 1 := (by omega); have y9 : i_60.toNatClampNeg = i_60.toInt.toNat := rfl; have hm := hsr_29_0; rw [y9] at hm; rw [hx, zFi_y (hm.mp (by omega)), ← hvi_60_0]; have zr := hsr_33_0; rw [y9] at zr; have zr2 : r_33.toInt = (zLv (zLn gki gpa gta npu.toInt.toNat nhu.toInt (gco 0).toInt (gco 1).toInt (gco 2).toInt 3) gki gpa gta (gco 0).toInt (zPw 4) nhu.toInt d.toInt sec.toInt) i_60.toInt.toNat := zr; omega)) (show x_37.toInt ≤ npu.toInt from by omega) (dw_lo hloi_60 qx_37) (dw_hn hni_60 qx_37)
                · have fc_36 : r_33.toInt < v_25.toInt := zf_nle c_36 rfl rfl
                  refine lv_iload hx hb dX8_leastCost_105 (lv_at hl 0 rfl) ?_
                  refine lv_goto (tgt := 112) hx hb dX8_leastCost_107 (by decide) ?_
                  refine lv_istore (lv' := [(4, .int r_33), (6, .int r_33), (5, .int i_60), (0, .ref m0), (1, .int 4), (2, .int d), (3, .int sec)]) hx hb dX8_leastCost_112 hl (by decide) rfl (fun ls hl => ?_)
                  obtain ⟨x_38, ex_38⟩ : ∃ y : Int32, y = i_60 + 1 := ⟨_, rfl⟩
                  have qx_38 : x_38.toInt = i_60.toInt + 1 := dw_inc ex_38 fc_27
                  refine lv_iinc (v := x_38) (lv' := [(5, .int x_38), (4, .int r_33), (6, .int r_33), (0, .ref m0), (1, .int 4), (2, .int d), (3, .int sec)]) hx hb dX8_leastCost_114 hl (k := 2) rfl ex_38.symm (by decide) rfl (fun ls hl => ?_)
                  refine lv_goto (tgt := 60) hx hb dX8_leastCost_117 (by decide) ?_
                  exact ih x_38 r_33 _ (lv_sub hl [0, 1, 3, 4, 5, 6] rfl) ⟨by omega, by omega⟩ (show (r_33 : Int32).toInt = zFi gta d.toInt sec.toInt (zPw 4 * zAt (gco 1).toInt (gco 2).toInt sec.toInt) (zLv (zLn gki gpa gta npu.toInt.toNat nhu.toInt (gco 0).toInt (gco 1).toInt (gco 2).toInt 3) gki gpa gta (gco 0).toInt (zPw 4) nhu.toInt d.toInt sec.toInt) x_38.toInt.toNat from by (have hx : x_38.toInt.toNat = i_60.toInt.toNat + 1 := (by omega); have y9 : i_60.toNatClampNeg = i_60.toInt.toNat := rfl; have hm := hsr_29_0; rw [y9] at hm; rw [hx, zFi_y (hm.mp (by omega)), ← hvi_60_0]; have zr := hsr_33_0; rw [y9] at zr; have zr2 : r_33.toInt = (zLv (zLn gki gpa gta npu.toInt.toNat nhu.toInt (gco 0).toInt (gco 1).toInt (gco 2).toInt 3) gki gpa gta (gco 0).toInt (zPw 4) nhu.toInt d.toInt sec.toInt) i_60.toInt.toNat := zr; omega)) (show x_38.toInt ≤ npu.toInt from by omega) (dw_lo hloi_60 qx_38) (dw_hn hni_60 qx_38)
              · have fc_32 : r_29.toInt = 0 := zf_eq c_32 rfl (by decide)
                refine lv_goto (tgt := 114) hx hb dX8_leastCost_84 (by decide) ?_
                obtain ⟨x_39, ex_39⟩ : ∃ y : Int32, y = i_60 + 1 := ⟨_, rfl⟩
                have qx_39 : x_39.toInt = i_60.toInt + 1 := dw_inc ex_39 fc_27
                refine lv_iinc (v := x_39) (lv' := [(5, .int x_39), (4, .int v_25), (0, .ref m0), (1, .int 4), (2, .int d), (3, .int sec)]) hx hb dX8_leastCost_114 hl (k := 0) rfl ex_39.symm (by decide) rfl (fun ls hl => ?_)
                refine lv_goto (tgt := 60) hx hb dX8_leastCost_117 (by decide) ?_
                exact ih x_39 v_25 _ (lv_sub hl [0, 1, 2, 3, 4, 5] rfl) hbv_25 (show (v_25 : Int32).toInt = zFi gta d.toInt sec.toInt (zPw 4 * zAt (gco 1).toInt (gco 2).toInt sec.toInt) (zLv (zLn gki gpa gta npu.toInt.toNat nhu.toInt (gco 0).toInt (gco 1).toInt (gco 2).toInt 3) gki gpa gta (gco 0).toInt (zPw 4) nhu.toInt d.toInt sec.toInt) x_39.toInt.toNat from by (have hx : x_39.toInt.toNat = i_60.toInt.toNat + 1 := (by omega); have y9 : i_60.toNatClampNeg = i_60.toInt.toNat := rfl; have hm := hsr_29_0; rw [y9] at hm; rw [hx, zFi_n (fun z => by (have z1 := hm.mpr z; omega))]; exact hvi_60_0)) (show x_39.toInt ≤ npu.toInt from by omega) (dw_lo hloi_60 qx_39) (dw_hn hni_60 qx_39)
      · have fc_24 : x_23.toInt < x_4.toInt := zf_nle c_24 rfl rfl
        refine lv_aload_n hx hb dX8_leastCost_43 rfl (lv_at hl 1 rfl) ?_
        refine va_get (D := D) (ci := 8) (v := .ref mco) (C := RX8) (T := TX8) (N := 38) hx hb hts hi_X8_leastCost_8 hown hK hP 0 rfl rfl 16 (by decide) (hts (.fieldLink RX8 44 "TheLiningsInItModel" "cost" "[I") (List.mem_of_getElem? (i := 1) rfl)) (fun _ h9 => h9) rfl dX8_leastCost_44 ?_
        refine lv_iconst (v := 1) hx hb dX8_leastCost_47 (by decide) ?_
        refine va_iald hx hb hK hP 4 0 rfl rfl (zf_in (by decide) (by decide)) dX8_leastCost_48 ?_
        refine lv_topi (fun y_40 ey_40 => ?_)
        obtain rfl : x_21 = y_40 := ex_21.trans ey_40.symm
        refine lv_aload_n hx hb dX8_leastCost_49 rfl (lv_at hl 1 rfl) ?_
        refine lv_iload_n hx hb dX8_leastCost_50 rfl (lv_at hl 2 rfl) ?_
        refine zc_V (As := [.int 4]) (rest := [.int x_21]) ⟨hx, hb, hml, hown, hts⟩ (c_M_power_4 l D cI cJ cZ cP cS po m0 mrf mki mpa mta mla msl mco mhe mso msi msh mce mca mwo mnu mte mwa mke mma mth mtr (npu) (nte) (nat_) (nde) (nto) (nse) (nhu) (nga) (nsd) (nfa) (nba) (npl) (nen) (nnu) (nwr) (nra) (nik) hy0 hy1 hy2 hy3 hy4 hy5 hy6 hy7 hy8 hy9 hy10 hy11 hy12 hy13) (cwV 1 hts gX8_leastCost_X8_power rfl rfl rfl ⟨rfl, dh_X8_power⟩ ⟨Nat.le_of_ble_eq_true rfl, Nat.le_of_ble_eq_true rfl⟩) hK hN hZ hP (hP.sub [0] rfl) (va_recv (q := (RX8, TX8, 38)) hK hP (ci := 8) (q0 := 0) rfl rfl) rfl hl.1 rfl (Nat.le_of_ble_eq_true rfl) dX8_leastCost_51 ⟨Nat.le_of_ble_eq_true rfl, Nat.le_of_ble_eq_true rfl⟩ (fun r_41 hr_41 => ?_)
        obtain rfl := hr_41
        refine lv_imul hx hb dX8_leastCost_54 ?_
        refine lv_topi (fun y_42 ey_42 => ?_)
        obtain rfl : x_23 = y_42 := ex_23.trans ey_42.symm
        refine lv_istore (lv' := [(4, .int x_23), (0, .ref m0), (1, .int 4), (2, .int d), (3, .int sec)]) hx hb dX8_leastCost_55 hl (by decide) rfl (fun ls hl => ?_)
        refine lv_iconst (v := 0) hx hb dX8_leastCost_57 (by decide) ?_
        refine lv_istore (lv' := [(5, .int 0), (4, .int x_23), (0, .ref m0), (1, .int 4), (2, .int d), (3, .int sec)]) hx hb dX8_leastCost_58 hl (by decide) rfl (fun ls hl => ?_)
        obtain ⟨i_60, hi_60⟩ : ∃ i : Int32, i = 0 := ⟨_, rfl⟩
        replace hl : lv_has ls 7 [(5, .int i_60), (4, .int x_23), (0, .ref m0), (1, .int 4), (2, .int d), (3, .int sec)] := by rw [hi_60]; exact lv_sub hl [0, 1, 2, 3, 4, 5] rfl
        have h1i_60 : i_60.toInt = 0 := by rw [hi_60]; decide
        obtain ⟨nfu, hni_60⟩ : ∃ nq9 : Nat, npu.toInt ≤ i_60.toInt + (nq9 : Int) := ⟨((npu.toInt : Int) - 0).toNat, by omega⟩
        have hloi_60 : 0 ≤ i_60.toInt := by omega
        obtain ⟨v_43, hv_43⟩ : ∃ g : Int32, g = x_23 := ⟨_, rfl⟩
        replace hl : lv_has ls 7 [(5, .int i_60), (4, .int v_43), (0, .ref m0), (1, .int 4), (2, .int d), (3, .int sec)] := by rw [hv_43]; exact hl
        have hbv_43 : 0 ≤ v_43.toInt ∧ v_43.toInt ≤ 2052864 := by rw [hv_43]; exact ⟨by omega, by omega⟩
        have hvi_60_0 : (v_43 : Int32).toInt = zFi gta d.toInt sec.toInt (zPw 4 * zAt (gco 1).toInt (gco 2).toInt sec.toInt) (zLv (zLn gki gpa gta npu.toInt.toNat nhu.toInt (gco 0).toInt (gco 1).toInt (gco 2).toInt 3) gki gpa gta (gco 0).toInt (zPw 4) nhu.toInt d.toInt sec.toInt) i_60.toInt.toNat := by
          (try rw [hi_60]); (try rw [hv_43]); (rw [(show ((0 : Int32).toInt.toNat) = 0 from by decide)]; show _ = zPw 4 * zAt (gco 1).toInt (gco 2).toInt sec.toInt; (have nx_2 : (gco 2).toInt = x_2.toInt := (by rw [ex_2, show (2 : Int32).toNatClampNeg = 2 from by decide]); have nx_21 : (gco 1).toInt = x_21.toInt := (by rw [ex_21, show (1 : Int32).toNatClampNeg = 1 from by decide]); unfold zAt; rw [show zPw 4 = 20736 from by decide]; first | (rw [if_pos (by omega)]; omega) | (rw [if_neg (by omega)]; omega)))
        have hvi_60_1 : i_60.toInt ≤ npu.toInt := by
          (try rw [hi_60]); (try rw [hv_43]); (have k0 : (0 : Int32).toInt = 0 := (by decide); omega)
        clear h1i_60 hi_60 hv_43
        revert hni_60
        revert hloi_60
        revert hvi_60_1
        revert hvi_60_0
        revert hbv_43
        revert hl
        revert ls
        revert v_43
        revert i_60
        induction nfu with
        | zero =>
          intro i_60 v_43 ls hl hbv_43 hvi_60_0 hvi_60_1 hloi_60 hni_60
          have hzi_60 : npu.toInt ≤ i_60.toInt := by omega
          refine lv_iload hx hb dX8_leastCost_60 (lv_at hl 0 rfl) ?_
          refine lv_aload_n hx hb dX8_leastCost_62 rfl (lv_at hl 2 rfl) ?_
          refine va_get (D := D) (ci := 8) (v := .int npu) (C := RX8) (T := TX8) (N := 38) hx hb hts hi_X8_leastCost_8 hown hK hP 0 rfl rfl 0 (by decide) (hts (.fieldLink RX8 90 "TheLiningsInItModel" "pulls" "I") (List.mem_of_getElem? (i := 2) rfl)) (fun _ h9 => h9) rfl dX8_leastCost_63 ?_
          refine lv_icmp_ge (tgt := 120) hx hb dX8_leastCost_66 (by decide) (fun c_44 => ?_) (fun c_44 => ?_)
          · have fc_44 : npu.toInt ≤ i_60.toInt := zf_le c_44 rfl rfl
            refine lv_iload hx hb dX8_leastCost_120 (lv_at hl 1 rfl) ?_
            exact W.iret (v := v_43) hx hb hr (fun t ht hW => ⟨v_43, rfl, ⟨by omega, by omega, (show (v_43 : Int32).toInt = (zLn gki gpa gta npu.toInt.toNat nhu.toInt (gco 0).toInt (gco 1).toInt (gco 2).toInt 4) d.toInt sec.toInt from by (have h9 : i_60.toInt.toNat = npu.toInt.toNat := (by omega); have z := hvi_60_0; rw [h9] at z; rw [zLn_s, if_neg (by omega)]; exact z))⟩, ht⟩) (fun q hq => by cases hq) dX8_leastCost_122
          · exfalso; have fc_44 : i_60.toInt < npu.toInt := zf_nle c_44 rfl rfl; omega
        | succ nfu ih =>
          intro i_60 v_43 ls hl hbv_43 hvi_60_0 hvi_60_1 hloi_60 hni_60
          refine lv_iload hx hb dX8_leastCost_60 (lv_at hl 0 rfl) ?_
          refine lv_aload_n hx hb dX8_leastCost_62 rfl (lv_at hl 2 rfl) ?_
          refine va_get (D := D) (ci := 8) (v := .int npu) (C := RX8) (T := TX8) (N := 38) hx hb hts hi_X8_leastCost_8 hown hK hP 0 rfl rfl 0 (by decide) (hts (.fieldLink RX8 90 "TheLiningsInItModel" "pulls" "I") (List.mem_of_getElem? (i := 2) rfl)) (fun _ h9 => h9) rfl dX8_leastCost_63 ?_
          refine lv_icmp_ge (tgt := 120) hx hb dX8_leastCost_66 (by decide) (fun c_45 => ?_) (fun c_45 => ?_)
          · have fc_45 : npu.toInt ≤ i_60.toInt := zf_le c_45 rfl rfl
            refine lv_iload hx hb dX8_leastCost_120 (lv_at hl 1 rfl) ?_
            exact W.iret (v := v_43) hx hb hr (fun t ht hW => ⟨v_43, rfl, ⟨by omega, by omega, (show (v_43 : Int32).toInt = (zLn gki gpa gta npu.toInt.toNat nhu.toInt (gco 0).toInt (gco 1).toInt (gco 2).toInt 4) d.toInt sec.toInt from by (have h9 : i_60.toInt.toNat = npu.toInt.toNat := (by omega); have z := hvi_60_0; rw [h9] at z; rw [zLn_s, if_neg (by omega)]; exact z))⟩, ht⟩) (fun q hq => by cases hq) dX8_leastCost_122
          · have fc_45 : i_60.toInt < npu.toInt := zf_nle c_45 rfl rfl
            refine lv_iload_n hx hb dX8_leastCost_69 rfl (lv_at hl 3 rfl) ?_
            refine lv_if_le (tgt := 120) hx hb dX8_leastCost_70 (by decide) (fun c_46 => ?_) (fun c_46 => ?_)
            · exact absurd c_46 (by decide)
            · refine lv_aload_n hx hb dX8_leastCost_73 rfl (lv_at hl 2 rfl) ?_
              refine lv_iload hx hb dX8_leastCost_74 (lv_at hl 0 rfl) ?_
              refine lv_iload_n hx hb dX8_leastCost_76 rfl (lv_at hl 4 rfl) ?_
              refine lv_iload_n hx hb dX8_leastCost_77 rfl (lv_at hl 5 rfl) ?_
              refine zc_V (As := [.int i_60, .int d, .int sec]) (rest := []) ⟨hx, hb, hml, hown, hts⟩ (c_F_M_mayBe l D cI cJ cZ cP cS po m0 mrf mki mpa mta mla msl mco mhe mso msi msh mce mca mwo mnu mte mwa mke mma mth mtr (npu) (nte) (nat_) (nde) (nto) (nse) (nhu) (nga) (nsd) (nfa) (nba) (npl) (nen) (nnu) (nwr) (nra) (nik) gta (i_60) (d) (sec) hy0 hy1 hy2 hy3 hy4 hy5 hy6 hy7 hy8 hy9 hy10 hy11 hy12 hy13 (by omega) (by omega) hp_gta) (cwV 3 hts gX8_leastCost_X8_mayBe rfl rfl rfl ⟨rfl, dh_X8_mayBe⟩ ⟨Nat.le_of_ble_eq_true rfl, Nat.le_of_ble_eq_true rfl⟩) hK hN hZ hP (hP.sub [0, 3] rfl) (va_recv (q := (RX8, TX8, 38)) hK hP (ci := 8) (q0 := 0) rfl rfl) rfl hl.1 rfl (Nat.le_of_ble_eq_true rfl) dX8_leastCost_78 ⟨Nat.le_of_ble_eq_true rfl, Nat.le_of_ble_eq_true rfl⟩ (fun r_47 hr_47 => ?_)
              obtain ⟨g_48, g_49, hsr_47_0⟩ := hr_47
              refine lv_if_ne (tgt := 87) hx hb dX8_leastCost_81 (by decide) (fun c_50 => ?_) (fun c_50 => ?_)
              · have fc_50 : r_47.toInt ≠ 0 := zf_ne c_50 rfl (by decide)
                have htl9 : (gta i_60.toNatClampNeg).toInt ≤ sec.toInt := (hsr_47_0.mp (by omega)).2
                refine lv_aload_n hx hb dX8_leastCost_87 rfl (lv_at hl 2 rfl) ?_
                refine lv_iload hx hb dX8_leastCost_88 (lv_at hl 0 rfl) ?_
                refine lv_iload_n hx hb dX8_leastCost_90 rfl (lv_at hl 3 rfl) ?_
                refine lv_iload_n hx hb dX8_leastCost_91 rfl (lv_at hl 4 rfl) ?_
                refine lv_iload_n hx hb dX8_leastCost_92 rfl (lv_at hl 5 rfl) ?_
                refine zc_V (As := [.int i_60, .int 4, .int d, .int sec]) (rest := []) ⟨hx, hb, hml, hown, hts⟩ (c_F_M_costBy_4 l D cI cJ cZ cP cS po m0 mrf mki mpa mta mla msl mco mhe mso msi msh mce mca mwo mnu mte mwa mke mma mth mtr (npu) (nte) (nat_) (nde) (nto) (nse) (nhu) (nga) (nsd) (nfa) (nba) (npl) (nen) (nnu) (nwr) (nra) (nik) gki gpa gta gco (i_60) (d) (sec) hy0 hy1 hy2 hy3 hy4 hy5 hy6 hy7 hy8 hy9 hy10 hy11 hy12 hy13 (by omega) (by omega) hy14 hy15 hy16 hy17 (by first | assumption | omega) hp_gki hp_gpa hp_gta hp_gco) (cwV 4 hts gX8_leastCost_X8_costBy rfl rfl rfl ⟨rfl, dh_X8_costBy⟩ ⟨Nat.le_of_ble_eq_true rfl, Nat.le_of_ble_eq_true rfl⟩) hK hN hZ hP (hP.sub [0, 1, 2, 3, 4] rfl) (va_recv (q := (RX8, TX8, 38)) hK hP (ci := 8) (q0 := 0) rfl rfl) rfl hl.1 rfl (Nat.le_of_ble_eq_true rfl) dX8_leastCost_93 ⟨Nat.le_of_ble_eq_true rfl, Nat.le_of_ble_eq_true rfl⟩ (fun r_51 hr_51 => ?_)
                obtain ⟨g_52, g_53, hsr_51_0⟩ := hr_51
                refine lv_istore (lv' := [(6, .int r_51), (5, .int i_60), (4, .int v_43), (0, .ref m0), (1, .int 4), (2, .int d), (3, .int sec)]) hx hb dX8_leastCost_96 hl (by decide) rfl (fun ls hl => ?_)
                refine lv_iload hx hb dX8_leastCost_98 (lv_at hl 0 rfl) ?_
                refine lv_iload hx hb dX8_leastCost_100 (lv_at hl 2 rfl) ?_
                refine lv_icmp_ge (tgt := 110) hx hb dX8_leastCost_102 (by decide) (fun c_54 => ?_) (fun c_54 => ?_)
                · have fc_54 : v_43.toInt ≤ r_51.toInt := zf_le c_54 rfl rfl
                  refine lv_iload hx hb dX8_leastCost_110 (lv_at hl 2 rfl) ?_
                  refine lv_istore (lv' := [(4, .int v_43), (6, .int r_51), (5, .int i_60), (0, .ref m0), (1, .int 4), (2, .int d), (3, .int sec)]) hx hb dX8_leastCost_112 hl (by decide) rfl (fun ls hl => ?_)
                  obtain ⟨x_55, ex_55⟩ : ∃ y : Int32, y = i_60 + 1 := ⟨_, rfl⟩
                  have qx_55 : x_55.toInt = i_60.toInt + 1 := dw_inc ex_55 fc_45
                  refine lv_iinc (v := x_55) (lv' := [(5, .int x_55), (4, .int v_43), (6, .int r_51), (0, .ref m0), (1, .int 4), (2, .int d), (3, .int sec)]) hx hb dX8_leastCost_114 hl (k := 2) rfl ex_55.symm (by decide) rfl (fun ls hl => ?_)
                  refine lv_goto (tgt := 60) hx hb dX8_leastCost_117 (by decide) ?_
                  exact ih x_55 v_43 _ (lv_sub hl [0, 1, 3, 4, 5, 6] rfl) hbv_43 (show (v_43 : Int32).toInt = zFi gta d.toInt sec.toInt (zPw 4 * zAt (gco 1).toInt (gco 2).toInt sec.toInt) (zLv (zLn gki gpa gta npu.toInt.toNat nhu.toInt (gco 0).toInt (gco 1).toInt (gco 2).toInt 3) gki gpa gta (gco 0).toInt (zPw 4) nhu.toInt d.toInt sec.toInt) x_55.toInt.toNat from by (have hx : x_55.toInt.toNat = i_60.toInt.toNat + 1 := (by omega); have y9 : i_60.toNatClampNeg = i_60.toInt.toNat := rfl; have hm := hsr_47_0; rw [y9] at hm; rw [hx, zFi_y (hm.mp (by omega)), ← hvi_60_0]; have zr := hsr_51_0; rw [y9] at zr; have zr2 : r_51.toInt = (zLv (zLn gki gpa gta npu.toInt.toNat nhu.toInt (gco 0).toInt (gco 1).toInt (gco 2).toInt 3) gki gpa gta (gco 0).toInt (zPw 4) nhu.toInt d.toInt sec.toInt) i_60.toInt.toNat := zr; omega)) (show x_55.toInt ≤ npu.toInt from by omega) (dw_lo hloi_60 qx_55) (dw_hn hni_60 qx_55)
                · have fc_54 : r_51.toInt < v_43.toInt := zf_nle c_54 rfl rfl
                  refine lv_iload hx hb dX8_leastCost_105 (lv_at hl 0 rfl) ?_
                  refine lv_goto (tgt := 112) hx hb dX8_leastCost_107 (by decide) ?_
                  refine lv_istore (lv' := [(4, .int r_51), (6, .int r_51), (5, .int i_60), (0, .ref m0), (1, .int 4), (2, .int d), (3, .int sec)]) hx hb dX8_leastCost_112 hl (by decide) rfl (fun ls hl => ?_)
                  obtain ⟨x_56, ex_56⟩ : ∃ y : Int32, y = i_60 + 1 := ⟨_, rfl⟩
                  have qx_56 : x_56.toInt = i_60.toInt + 1 := dw_inc ex_56 fc_45
                  refine lv_iinc (v := x_56) (lv' := [(5, .int x_56), (4, .int r_51), (6, .int r_51), (0, .ref m0), (1, .int 4), (2, .int d), (3, .int sec)]) hx hb dX8_leastCost_114 hl (k := 2) rfl ex_56.symm (by decide) rfl (fun ls hl => ?_)
                  refine lv_goto (tgt := 60) hx hb dX8_leastCost_117 (by decide) ?_
                  exact ih x_56 r_51 _ (lv_sub hl [0, 1, 3, 4, 5, 6] rfl) ⟨by omega, by omega⟩ (show (r_51 : Int32).toInt = zFi gta d.toInt sec.toInt (zPw 4 * zAt (gco 1).toInt (gco 2).toInt sec.toInt) (zLv (zLn gki gpa gta npu.toInt.toNat nhu.toInt (gco 0).toInt (gco 1).toInt (gco 2).toInt 3) gki gpa gta (gco 0).toInt (zPw 4) nhu.toInt d.toInt sec.toInt) x_56.toInt.toNat from by (have hx : x_56.toInt.toNat = i_60.toInt.toNat + 1 := (by omega); have y9 : i_60.toNatClampNeg = i_60.toInt.toNat := rfl; have hm := hsr_47_0; rw [y9] at hm; rw [hx, zFi_y (hm.mp (by omega)), ← hvi_60_0]; have zr := hsr_51_0; rw [y9] at zr; have zr2 : r_51.toInt = (zLv (zLn gki gpa gta npu.toInt.toNat nhu.toInt (gco 0).toInt (gco 1).toInt (gco 2).toInt 3) gki gpa gta (gco 0).toInt (zPw 4) nhu.toInt d.toInt sec.toInt) i_60.toInt.toNat := zr; omega)) (show x_56.toInt ≤ npu.toInt from by omega) (dw_lo hloi_60 qx_56) (dw_hn hni_60 qx_56)
              · have fc_50 : r_47.toInt = 0 := zf_eq c_50 rfl (by decide)
                refine lv_goto (tgt := 114) hx hb dX8_leastCost_84 (by decide) ?_
                obtain ⟨x_57, ex_57⟩ : ∃ y : Int32, y = i_60 + 1 := ⟨_, rfl⟩
                have qx_57 : x_57.toInt = i_60.toInt + 1 := dw_inc ex_57 fc_45
                refine lv_iinc (v := x_57) (lv' := [(5, .int x_57), (4, .int v_43), (0, .ref m0), (1, .int 4), (2, .int d), (3, .int sec)]) hx hb dX8_leastCost_114 hl (k := 0) rfl ex_57.symm (by decide) rfl (fun ls hl => ?_)
                refine lv_goto (tgt := 60) hx hb dX8_leastCost_117 (by decide) ?_
                exact ih x_57 v_43 _ (lv_sub hl [0, 1, 2, 3, 4, 5] rfl) hbv_43 (show (v_43 : Int32).toInt = zFi gta d.toInt sec.toInt (zPw 4 * zAt (gco 1).toInt (gco 2).toInt sec.toInt) (zLv (zLn gki gpa gta npu.toInt.toNat nhu.toInt (gco 0).toInt (gco 1).toInt (gco 2).toInt 3) gki gpa gta (gco 0).toInt (zPw 4) nhu.toInt d.toInt sec.toInt) x_57.toInt.toNat from by (have hx : x_57.toInt.toNat = i_60.toInt.toNat + 1 := (by omega); have y9 : i_60.toNatClampNeg = i_60.toInt.toNat := rfl; have hm := hsr_47_0; rw [y9] at hm; rw [hx, zFi_n (fun z => by (have z1 := hm.mpr z; omega))]; exact hvi_60_0)) (show x_57.toInt ≤ npu.toInt from by omega) (dw_lo hloi_60 qx_57) (dw_hn hni_60 qx_57)
  · have fc_1 : d.toInt = 0 := zf_eq c_1 rfl (by decide)
    refine lv_iconst (v := 0) hx hb dX8_leastCost_4 (by decide) ?_
    exact W.iret (v := 0) hx hb hr (fun t ht hW => ⟨0, rfl, ⟨by decide, by decide, (show (0 : Int32).toInt = (zLn gki gpa gta npu.toInt.toNat nhu.toInt (gco 0).toInt (gco 1).toInt (gco 2).toInt 4) d.toInt sec.toInt from by (have k9 : (0 : Int32).toInt = 0 := (by decide); rw [zLn_s, if_pos (by omega)]; exact k9))⟩, ht⟩) (fun q hq => by cases hq) dX8_leastCost_5

