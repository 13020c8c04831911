section
theorem hi_X8_firstOf_8 : ∀ w ∈ u_ws RX8 TX8 38, w ∈ wsX8_firstOf := fun w h => (gl_X8_firstOf_X80 w h).1
set_option maxHeartbeats 4000000 in
set_option maxRecDepth 100000 in
theorem c_M_firstOf_0 (l : Launch) (D : va_G) (cI cJ cZ cP cS : ClassId) (po : zPool) (m0 mrf mki mpa mta mla msl mco mhe mso msi msh mce mca mwo mnu mte mwa mke mma mth mtr : Nat) (npu nte nat_ nde nto nse nhu nga nsd nfa nba npl nen nnu nwr nra nik : Int32) (gki gpa gta gco : Nat → Int32) (hy0 : 0 ≤ npu.toInt) (hy1 : npu.toInt ≤ 8) (hy2 : 4 ≤ nte.toInt) (hy3 : nte.toInt ≤ 40) (hy4 : 0 ≤ nat_.toInt) (hy5 : nat_.toInt ≤ 40) (hy6 : 0 ≤ nde.toInt) (hy7 : nde.toInt ≤ 24) (hy8 : 0 ≤ nhu.toInt) (hy9 : nhu.toInt ≤ 9) (hy10 : 0 ≤ nra.toInt) (hy11 : nra.toInt ≤ 2000) (hy12 : 0 ≤ nik.toInt) (hy13 : nik.toInt ≤ 1) (hp_gki : zRg gki (0) 6) (hp_gpa : zRg gpa (0) 9) (hp_gta : zRg gta (0) 60) (hp_gco : zRg gco (0) 99) : Met l yX8_firstOf wsX8_firstOf ({ frames := 2, cells := 0, slots := 0, locals := 47 }) (va_Pc [.ref m0, .int 0] (zR D (zKT cI cJ cZ cP cS) po [(zMO m0 npu nte nat_ nde nto nse nhu nga nsd nfa mrf mki mpa mta mla msl mco mhe mso msi msh mce mca mwo mnu mte nba npl nen nnu nwr mwa mke mma mth mtr nra nik), (mki, .inl (cI, 8, .inl gki)), (mpa, .inl (cI, 8, .inl gpa)), (mta, .inl (cI, 8, .inl gta)), (mco, .inl (cI, 3, .inl gco))])) (vp_Si (fun r => True)) 0 0 (fun _ => False) := by
  refine Met.ofW (cc := cX8_firstOf) (maxL := 4) (ret := (some .int)) (by decide) rfl ?_
  intro p e s m args below meth c s₁ B hml hv
  obtain ⟨rfl, hP, hK, hN, hZ⟩ := hv
  have hx := B.exec
  have hb := B.bytes
  have hr := B.returns
  have hts := atoms_spec (ws := wsX8_firstOf) B.pre
  have hown : s.vm.findClass RX8 = some m.cls := findClass_of_methodNamed B.named
  have hlocks := B.notSynchronized
  have hl := lv_entry ([.ref m0, .int 0]) (n := 4) (Nat.le_of_ble_eq_true rfl)
  rw [lg_entry_eq]
  generalize (lg_sl ([.ref m0, .int 0]) ++ List.replicate (4 - (lg_sl ([.ref m0, .int 0])).length) Slot.unset).toArray = ls at hl ⊢
  replace hl : lv_has ls 4 [(0, .ref m0), (1, .int 0)] := hl
  refine lv_aload_n hx hb dX8_firstOf_0 rfl (lv_at hl 0 rfl) ?_
  refine va_get (D := D) (ci := 8) (v := .int nde) (C := RX8) (T := TX8) (N := 38) hx hb hts hi_X8_firstOf_8 hown hK hP 0 rfl rfl 3 (by decide) (hts (.fieldLink RX8 115 "TheLiningsInItModel" "depth" "I") (List.mem_of_getElem? (i := 1) rfl)) (fun _ h9 => h9) rfl dX8_firstOf_1 ?_
  refine lv_if_ne (tgt := 9) hx hb dX8_firstOf_4 (by decide) (fun c_1 => ?_) (fun c_1 => ?_)
  · have fc_1 : nde.toInt ≠ 0 := zf_ne c_1 rfl (by decide)
    refine lv_aload_n hx hb dX8_firstOf_9 rfl (lv_at hl 0 rfl) ?_
    refine lv_iload_n hx hb dX8_firstOf_10 rfl (lv_at hl 1 rfl) ?_
    refine lv_aload_n hx hb dX8_firstOf_11 rfl (lv_at hl 0 rfl) ?_
    refine va_get (D := D) (ci := 8) (v := .int nde) (C := RX8) (T := TX8) (N := 38) hx hb hts hi_X8_firstOf_8 hown hK hP 0 rfl rfl 3 (by decide) (hts (.fieldLink RX8 115 "TheLiningsInItModel" "depth" "I") (List.mem_of_getElem? (i := 1) rfl)) (fun _ h9 => h9) rfl dX8_firstOf_12 ?_
    refine lv_aload_n hx hb dX8_firstOf_15 rfl (lv_at hl 0 rfl) ?_
    refine va_get (D := D) (ci := 8) (v := .int nse) (C := RX8) (T := TX8) (N := 38) hx hb hts hi_X8_firstOf_8 hown hK hP 0 rfl rfl 5 (by decide) (hts (.fieldLink RX8 13 "TheLiningsInItModel" "seconds" "I") (List.mem_of_getElem? (i := 2) rfl)) (fun _ h9 => h9) rfl dX8_firstOf_16 ?_
    refine zc_V (As := [.int 0, .int nde, .int nse]) (rest := []) ⟨hx, hb, hml, hown, hts⟩ (c_M_leastCost_0 l D cI cJ cZ cP cS po m0 mrf mki mpa mta mla msl mco mhe mso msi msh mce mca mwo mnu mte mwa mke mma mth mtr (npu) (nte) (nat_) (nde) (nto) (nse) (nhu) (nga) (nsd) (nfa) (nba) (npl) (nen) (nnu) (nwr) (nra) (nik) gki gpa gta gco (nde) (nse) hy0 hy1 hy2 hy3 hy4 hy5 hy6 hy7 hy8 hy9 hy10 hy11 hy12 hy13 hy6 hy7 hp_gki hp_gpa hp_gta hp_gco) (cwV 3 hts gX8_firstOf_X8_leastCost rfl rfl rfl ⟨rfl, dh_X8_leastCost⟩ ⟨Nat.le_of_ble_eq_true rfl, Nat.le_of_ble_eq_true rfl⟩) hK hN hZ hP (hP.sub [0, 1, 2, 3, 4] rfl) (va_recv (q := (RX8, TX8, 38)) hK hP (ci := 8) (q0 := 0) rfl rfl) rfl hl.1 rfl (Nat.le_of_ble_eq_true rfl) dX8_firstOf_19 ⟨Nat.le_of_ble_eq_true rfl, Nat.le_of_ble_eq_true rfl⟩ (fun r_2 hr_2 => ?_)
    refine lv_istore_n (lv' := [(2, .int r_2), (0, .ref m0), (1, .int 0)]) hx hb dX8_firstOf_22 rfl hl (by decide) rfl (fun ls hl => ?_)
    refine lv_iconst (v := 0) hx hb dX8_firstOf_23 (by decide) ?_
    refine lv_istore_n (lv' := [(3, .int 0), (2, .int r_2), (0, .ref m0), (1, .int 0)]) hx hb dX8_firstOf_24 rfl hl (by decide) rfl (fun ls hl => ?_)
    obtain ⟨i_25, hi_25⟩ : ∃ i : Int32, i = 0 := ⟨_, rfl⟩
    replace hl : lv_has ls 4 [(3, .int i_25), (2, .int r_2), (0, .ref m0), (1, .int 0)] := by rw [hi_25]; exact lv_sub hl [0, 1, 2, 3] rfl
    have h1i_25 : i_25.toInt = 0 := by rw [hi_25]; decide
    obtain ⟨nfu, hni_25⟩ : ∃ nq9 : Nat, npu.toInt ≤ i_25.toInt + (nq9 : Int) := ⟨((npu.toInt : Int) - 0).toNat, by omega⟩
    have hloi_25 : 0 ≤ i_25.toInt := by omega
    clear h1i_25 hi_25
    revert hni_25
    revert hloi_25
    revert hl
    revert ls
    revert i_25
    induction nfu with
    | zero =>
      intro i_25 ls hl hloi_25 hni_25
      have hzi_25 : npu.toInt ≤ i_25.toInt := by omega
      refine lv_iload_n hx hb dX8_firstOf_25 rfl (lv_at hl 0 rfl) ?_
      refine lv_aload_n hx hb dX8_firstOf_26 rfl (lv_at hl 2 rfl) ?_
      refine va_get (D := D) (ci := 8) (v := .int npu) (C := RX8) (T := TX8) (N := 38) hx hb hts hi_X8_firstOf_8 hown hK hP 0 rfl rfl 0 (by decide) (hts (.fieldLink RX8 90 "TheLiningsInItModel" "pulls" "I") (List.mem_of_getElem? (i := 3) rfl)) (fun _ h9 => h9) rfl dX8_firstOf_27 ?_
      refine lv_icmp_ge (tgt := 79) hx hb dX8_firstOf_30 (by decide) (fun c_3 => ?_) (fun c_3 => ?_)
      · have fc_3 : npu.toInt ≤ i_25.toInt := zf_le c_3 rfl rfl
        refine lv_aload_n hx hb dX8_firstOf_79 rfl (lv_at hl 2 rfl) ?_
        refine va_get (D := D) (ci := 8) (v := .int nse) (C := RX8) (T := TX8) (N := 38) hx hb hts hi_X8_firstOf_8 hown hK hP 0 rfl rfl 5 (by decide) (hts (.fieldLink RX8 13 "TheLiningsInItModel" "seconds" "I") (List.mem_of_getElem? (i := 2) rfl)) (fun _ h9 => h9) rfl dX8_firstOf_80 ?_
        refine lv_bipush (v := 30) hx hb dX8_firstOf_83 (by decide) ?_
        refine lv_icmp_lt (tgt := 109) hx hb dX8_firstOf_85 (by decide) (fun c_4 => ?_) (fun c_4 => ?_)
        · have fc_4 : nse.toInt < 30 := zf_lt c_4 rfl (by decide)
          refine lv_bipush (v := 100) hx hb dX8_firstOf_109 (by decide) ?_
          exact W.iret (v := 100) hx hb hr (fun t ht hW => ⟨100, rfl, trivial, ht⟩) (fun q hq => by cases hq) dX8_firstOf_111
        · have fc_4 : 30 ≤ nse.toInt := zf_nlt c_4 rfl (by decide)
          refine lv_aload_n hx hb dX8_firstOf_88 rfl (lv_at hl 2 rfl) ?_
          refine va_get (D := D) (ci := 8) (v := .ref mco) (C := RX8) (T := TX8) (N := 38) hx hb hts hi_X8_firstOf_8 hown hK hP 0 rfl rfl 16 (by decide) (hts (.fieldLink RX8 44 "TheLiningsInItModel" "cost" "[I") (List.mem_of_getElem? (i := 4) rfl)) (fun _ h9 => h9) rfl dX8_firstOf_89 ?_
          refine lv_iconst (v := 1) hx hb dX8_firstOf_92 (by decide) ?_
          refine va_iald hx hb hK hP 4 0 rfl rfl (zf_in (by decide) (by decide)) dX8_firstOf_93 ?_
          refine lv_topi (fun x_5 ex_5 => ?_)
          have bx_5 : 0 ≤ x_5.toInt ∧ x_5.toInt ≤ 99 := by rw [ex_5]; exact hp_gco _
          refine lv_aload_n hx hb dX8_firstOf_94 rfl (lv_at hl 2 rfl) ?_
          refine lv_iload_n hx hb dX8_firstOf_95 rfl (lv_at hl 3 rfl) ?_
          refine zc_V (As := [.int 0]) (rest := [.int x_5]) ⟨hx, hb, hml, hown, hts⟩ (c_M_power_0 l D cI cJ cZ cP cS po m0 mrf mki mpa mta mla msl mco mhe mso msi msh mce mca mwo mnu mte mwa mke mma mth mtr (npu) (nte) (nat_) (nde) (nto) (nse) (nhu) (nga) (nsd) (nfa) (nba) (npl) (nen) (nnu) (nwr) (nra) (nik) hy0 hy1 hy2 hy3 hy4 hy5 hy6 hy7 hy8 hy9 hy10 hy11 hy12 hy13) (cwV 1 hts gX8_firstOf_X8_power rfl rfl rfl ⟨rfl, dh_X8_power⟩ ⟨Nat.le_of_ble_eq_true rfl, Nat.le_of_ble_eq_true rfl⟩) hK hN hZ hP (hP.sub [0] rfl) (va_recv (q := (RX8, TX8, 38)) hK hP (ci := 8) (q0 := 0) rfl rfl) rfl hl.1 rfl (Nat.le_of_ble_eq_true rfl) dX8_firstOf_96 ⟨Nat.le_of_ble_eq_true rfl, Nat.le_of_ble_eq_true rfl⟩ (fun r_6 hr_6 => ?_)
          obtain rfl := hr_6
          refine lv_imul hx hb dX8_firstOf_99 ?_
          refine lv_topi (fun x_7 ex_7 => ?_)
          have qx_7 : x_7.toInt = x_5.toInt * 1 := by rw [ex_7]; exact zf_mul rfl (by decide) (by omega) (by omega)
          refine lv_iload_n hx hb dX8_firstOf_100 rfl (lv_at hl 1 rfl) ?_
          refine lv_icmp_ne (tgt := 109) hx hb dX8_firstOf_101 (by decide) (fun c_8 => ?_) (fun c_8 => ?_)
          · have fc_8 : x_7.toInt ≠ r_2.toInt := zf_ne c_8 rfl rfl
            refine lv_bipush (v := 100) hx hb dX8_firstOf_109 (by decide) ?_
            exact W.iret (v := 100) hx hb hr (fun t ht hW => ⟨100, rfl, trivial, ht⟩) (fun q hq => by cases hq) dX8_firstOf_111
          · have fc_8 : x_7.toInt = r_2.toInt := zf_eq c_8 rfl rfl
            refine lv_bipush (v := 101) hx hb dX8_firstOf_104 (by decide) ?_
            refine lv_goto (tgt := 111) hx hb dX8_firstOf_106 (by decide) ?_
            exact W.iret (v := 101) hx hb hr (fun t ht hW => ⟨101, rfl, trivial, ht⟩) (fun q hq => by cases hq) dX8_firstOf_111
      · exfalso; have fc_3 : i_25.toInt < npu.toInt := zf_nle c_3 rfl rfl; omega
    | succ nfu ih =>
      intro i_25 ls hl hloi_25 hni_25
      refine lv_iload_n hx hb dX8_firstOf_25 rfl (lv_at hl 0 rfl) ?_
      refine lv_aload_n hx hb dX8_firstOf_26 rfl (lv_at hl 2 rfl) ?_
      refine va_get (D := D) (ci := 8) (v := .int npu) (C := RX8) (T := TX8) (N := 38) hx hb hts hi_X8_firstOf_8 hown hK hP 0 rfl rfl 0 (by decide) (hts (.fieldLink RX8 90 "TheLiningsInItModel" "pulls" "I") (List.mem_of_getElem? (i := 3) rfl)) (fun _ h9 => h9) rfl dX8_firstOf_27 ?_
      refine lv_icmp_ge (tgt := 79) hx hb dX8_firstOf_30 (by decide) (fun c_9 => ?_) (fun c_9 => ?_)
      · have fc_9 : npu.toInt ≤ i_25.toInt := zf_le c_9 rfl rfl
        refine lv_aload_n hx hb dX8_firstOf_79 rfl (lv_at hl 2 rfl) ?_
        refine va_get (D := D) (ci := 8) (v := .int nse) (C := RX8) (T := TX8) (N := 38) hx hb hts hi_X8_firstOf_8 hown hK hP 0 rfl rfl 5 (by decide) (hts (.fieldLink RX8 13 "TheLiningsInItModel" "seconds" "I") (List.mem_of_getElem? (i := 2) rfl)) (fun _ h9 => h9) rfl dX8_firstOf_80 ?_
        refine lv_bipush (v := 30) hx hb dX8_firstOf_83 (by decide) ?_
        refine lv_icmp_lt (tgt := 109) hx hb dX8_firstOf_85 (by decide) (fun c_10 => ?_) (fun c_10 => ?_)
        · have fc_10 : nse.toInt < 30 := zf_lt c_10 rfl (by decide)
          refine lv_bipush (v := 100) hx hb dX8_firstOf_109 (by decide) ?_
          exact W.iret (v := 100) hx hb hr (fun t ht hW => ⟨100, rfl, trivial, ht⟩) (fun q hq => by cases hq) dX8_firstOf_111
        · have fc_10 : 30 ≤ nse.toInt := zf_nlt c_10 rfl (by decide)
          refine lv_aload_n hx hb dX8_firstOf_88 rfl (lv_at hl 2 rfl) ?_
          refine va_get (D := D) (ci := 8) (v := .ref mco) (C := RX8) (T := TX8) (N := 38) hx hb hts hi_X8_firstOf_8 hown hK hP 0 rfl rfl 16 (by decide) (hts (.fieldLink RX8 44 "TheLiningsInItModel" "cost" "[I") (List.mem_of_getElem? (i := 4) rfl)) (fun _ h9 => h9) rfl dX8_firstOf_89 ?_
          refine lv_iconst (v := 1) hx hb dX8_firstOf_92 (by decide) ?_
          refine va_iald hx hb hK hP 4 0 rfl rfl (zf_in (by decide) (by decide)) dX8_firstOf_93 ?_
          refine lv_topi (fun x_11 ex_11 => ?_)
          have bx_11 : 0 ≤ x_11.toInt ∧ x_11.toInt ≤ 99 := by rw [ex_11]; exact hp_gco _
          refine lv_aload_n hx hb dX8_firstOf_94 rfl (lv_at hl 2 rfl) ?_
          refine lv_iload_n hx hb dX8_firstOf_95 rfl (lv_at hl 3 rfl) ?_
          refine zc_V (As := [.int 0]) (rest := [.int x_11]) ⟨hx, hb, hml, hown, hts⟩ (c_M_power_0 l D cI cJ cZ cP cS po m0 mrf mki mpa mta mla msl mco mhe mso msi msh mce mca mwo mnu mte mwa mke mma mth mtr (npu) (nte) (nat_) (nde) (nto) (nse) (nhu) (nga) (nsd) (nfa) (nba) (npl) (nen) (nnu) (nwr) (nra) (nik) hy0 hy1 hy2 hy3 hy4 hy5 hy6 hy7 hy8 hy9 hy10 hy11 hy12 hy13) (cwV 1 hts gX8_firstOf_X8_power rfl rfl rfl ⟨rfl, dh_X8_power⟩ ⟨Nat.le_of_ble_eq_true rfl, Nat.le_of_ble_eq_true rfl⟩) hK hN hZ hP (hP.sub [0] rfl) (va_recv (q := (RX8, TX8, 38)) hK hP (ci := 8) (q0 := 0) rfl rfl) rfl hl.1 rfl (Nat.le_of_ble_eq_true rfl) dX8_firstOf_96 ⟨Nat.le_of_ble_eq_true rfl, Nat.le_of_ble_eq_true rfl⟩ (fun r_12 hr_12 => ?_)
          obtain rfl := hr_12
          refine lv_imul hx hb dX8_firstOf_99 ?_
          refine lv_topi (fun x_13 ex_13 => ?_)
          have qx_13 : x_13.toInt = x_11.toInt * 1 := by rw [ex_13]; exact zf_mul rfl (by decide) (by omega) (by omega)
          refine lv_iload_n hx hb dX8_firstOf_100 rfl (lv_at hl 1 rfl) ?_
          refine lv_icmp_ne (tgt := 109) hx hb dX8_firstOf_101 (by decide) (fun c_14 => ?_) (fun c_14 => ?_)
          · have fc_14 : x_13.toInt ≠ r_2.toInt := zf_ne c_14 rfl rfl
            refine lv_bipush (v := 100) hx hb dX8_firstOf_109 (by decide) ?_
            exact W.iret (v := 100) hx hb hr (fun t ht hW => ⟨100, rfl, trivial, ht⟩) (fun q hq => by cases hq) dX8_firstOf_111
          · have fc_14 : x_13.toInt = r_2.toInt := zf_eq c_14 rfl rfl
            refine lv_bipush (v := 101) hx hb dX8_firstOf_104 (by decide) ?_
            refine lv_goto (tgt := 111) hx hb dX8_firstOf_106 (by decide) ?_
            exact W.iret (v := 101) hx hb hr (fun t ht hW => ⟨101, rfl, trivial, ht⟩) (fun q hq => by cases hq) dX8_firstOf_111
      · have fc_9 : i_25.toInt < npu.toInt := zf_nle c_9 rfl rfl
        refine lv_iload_n hx hb dX8_firstOf_33 rfl (lv_at hl 3 rfl) ?_
        refine lv_if_le (tgt := 79) hx hb dX8_firstOf_34 (by decide) (fun c_15 => ?_) (fun c_15 => ?_)
        · refine lv_aload_n hx hb dX8_firstOf_79 rfl (lv_at hl 2 rfl) ?_
          refine va_get (D := D) (ci := 8) (v := .int nse) (C := RX8) (T := TX8) (N := 38) hx hb hts hi_X8_firstOf_8 hown hK hP 0 rfl rfl 5 (by decide) (hts (.fieldLink RX8 13 "TheLiningsInItModel" "seconds" "I") (List.mem_of_getElem? (i := 2) rfl)) (fun _ h9 => h9) rfl dX8_firstOf_80 ?_
          refine lv_bipush (v := 30) hx hb dX8_firstOf_83 (by decide) ?_
          refine lv_icmp_lt (tgt := 109) hx hb dX8_firstOf_85 (by decide) (fun c_16 => ?_) (fun c_16 => ?_)
          · have fc_16 : nse.toInt < 30 := zf_lt c_16 rfl (by decide)
            refine lv_bipush (v := 100) hx hb dX8_firstOf_109 (by decide) ?_
            exact W.iret (v := 100) hx hb hr (fun t ht hW => ⟨100, rfl, trivial, ht⟩) (fun q hq => by cases hq) dX8_firstOf_111
          · have fc_16 : 30 ≤ nse.toInt := zf_nlt c_16 rfl (by decide)
            refine lv_aload_n hx hb dX8_firstOf_88 rfl (lv_at hl 2 rfl) ?_
            refine va_get (D := D) (ci := 8) (v := .ref mco) (C := RX8) (T := TX8) (N := 38) hx hb hts hi_X8_firstOf_8 hown hK hP 0 rfl rfl 16 (by decide) (hts (.fieldLink RX8 44 "TheLiningsInItModel" "cost" "[I") (List.mem_of_getElem? (i := 4) rfl)) (fun _ h9 => h9) rfl dX8_firstOf_89 ?_
            refine lv_iconst (v := 1) hx hb dX8_firstOf_92 (by decide) ?_
            refine va_iald hx hb hK hP 4 0 rfl rfl (zf_in (by decide) (by decide)) dX8_firstOf_93 ?_
            refine lv_topi (fun x_17 ex_17 => ?_)
            have bx_17 : 0 ≤ x_17.toInt ∧ x_17.toInt ≤ 99 := by rw [ex_17]; exact hp_gco _
            refine lv_aload_n hx hb dX8_firstOf_94 rfl (lv_at hl 2 rfl) ?_
            refine lv_iload_n hx hb dX8_firstOf_95 rfl (lv_at hl 3 rfl) ?_
            refine zc_V (As := [.int 0]) (rest := [.int x_17]) ⟨hx, hb, hml, hown, hts⟩ (c_M_power_0 l D cI cJ cZ cP cS po m0 mrf mki mpa mta mla msl mco mhe mso msi msh mce mca mwo mnu mte mwa mke mma mth mtr (npu) (nte) (nat_) (nde) (nto) (nse) (nhu) (nga) (nsd) (nfa) (nba) (npl) (nen) (nnu) (nwr) (nra) (nik) hy0 hy1 hy2 hy3 hy4 hy5 hy6 hy7 hy8 hy9 hy10 hy11 hy12 hy13) (cwV 1 hts gX8_firstOf_X8_power rfl rfl rfl ⟨rfl, dh_X8_power⟩ ⟨Nat.le_of_ble_eq_true rfl, Nat.le_of_ble_eq_true rfl⟩) hK hN hZ hP (hP.sub [0] rfl) (va_recv (q := (RX8, TX8, 38)) hK hP (ci := 8) (q0 := 0) rfl rfl) rfl hl.1 rfl (Nat.le_of_ble_eq_true rfl) dX8_firstOf_96 ⟨Nat.le_of_ble_eq_true rfl, Nat.le_of_ble_eq_true rfl⟩ (fun r_18 hr_18 => ?_)
            obtain rfl := hr_18
            refine lv_imul hx hb dX8_firstOf_99 ?_
            refine lv_topi (fun x_19 ex_19 => ?_)
            have qx_19 : x_19.toInt = x_17.toInt * 1 := by rw [ex_19]; exact zf_mul rfl (by decide) (by omega) (by omega)
            refine lv_iload_n hx hb dX8_firstOf_100 rfl (lv_at hl 1 rfl) ?_
            refine lv_icmp_ne (tgt := 109) hx hb dX8_firstOf_101 (by decide) (fun c_20 => ?_) (fun c_20 => ?_)
            · have fc_20 : x_19.toInt ≠ r_2.toInt := zf_ne c_20 rfl rfl
              refine lv_bipush (v := 100) hx hb dX8_firstOf_109 (by decide) ?_
              exact W.iret (v := 100) hx hb hr (fun t ht hW => ⟨100, rfl, trivial, ht⟩) (fun q hq => by cases hq) dX8_firstOf_111
            · have fc_20 : x_19.toInt = r_2.toInt := zf_eq c_20 rfl rfl
              refine lv_bipush (v := 101) hx hb dX8_firstOf_104 (by decide) ?_
              refine lv_goto (tgt := 111) hx hb dX8_firstOf_106 (by decide) ?_
              exact W.iret (v := 101) hx hb hr (fun t ht hW => ⟨101, rfl, trivial, ht⟩) (fun q hq => by cases hq) dX8_firstOf_111
        · exact absurd c_15 (by decide)
  · have fc_1 : nde.toInt = 0 := zf_eq c_1 rfl (by decide)
    refine lv_iconst (v := (-1)) hx hb dX8_firstOf_7 (by decide) ?_
    exact W.iret (v := (-1)) hx hb hr (fun t ht hW => ⟨(-1), rfl, trivial, ht⟩) (fun q hq => by cases hq) dX8_firstOf_8
set_option maxHeartbeats 4000000 in
set_option maxRecDepth 100000 in
theorem c_M_firstOf_1 (l : Launch) (D : va_G) (cI cJ cZ cP cS : ClassId) (po : zPool) (m0 mrf mki mpa mta mla msl mco mhe mso msi msh mce mca mwo mnu mte mwa mke mma mth mtr : Nat) (npu nte nat_ nde nto nse nhu nga nsd nfa nba npl nen nnu nwr nra nik : Int32) (gki gpa gta gco : Nat → Int32) (hy0 : 0 ≤ npu.toInt) (hy1 : npu.toInt ≤ 8) (hy2 : 4 ≤ nte.toInt) (hy3 : nte.toInt ≤ 40) (hy4 : 0 ≤ nat_.toInt) (hy5 : nat_.toInt ≤ 40) (hy6 : 0 ≤ nde.toInt) (hy7 : nde.toInt ≤ 24) (hy8 : 0 ≤ nhu.toInt) (hy9 : nhu.toInt ≤ 9) (hy10 : 0 ≤ nra.toInt) (hy11 : nra.toInt ≤ 2000) (hy12 : 0 ≤ nik.toInt) (hy13 : nik.toInt ≤ 1) (hp_gki : zRg gki (0) 6) (hp_gpa : zRg gpa (0) 9) (hp_gta : zRg gta (0) 60) (hp_gco : zRg gco (0) 99) : Met l yX8_firstOf wsX8_firstOf ({ frames := 4, cells := 0, slots := 0, locals := 99 }) (va_Pc [.ref m0, .int 1] (zR D (zKT cI cJ cZ cP cS) po [(zMO m0 npu nte nat_ nde nto nse nhu nga nsd nfa mrf mki mpa mta mla msl mco mhe mso msi msh mce mca mwo mnu mte nba npl nen nnu nwr mwa mke mma mth mtr nra nik), (mki, .inl (cI, 8, .inl gki)), (mpa, .inl (cI, 8, .inl gpa)), (mta, .inl (cI, 8, .inl gta)), (mco, .inl (cI, 3, .inl gco))])) (vp_Si (fun r => True)) 0 0 (fun _ => False) := by
  refine Met.ofW (cc := cX8_firstOf) (maxL := 4) (ret := (some .int)) (by decide) rfl ?_
  intro p e s m args below meth c s₁ B hml hv
  obtain ⟨rfl, hP, hK, hN, hZ⟩ := hv
  have hx := B.exec
  have hb := B.bytes
  have hr := B.returns
  have hts := atoms_spec (ws := wsX8_firstOf) B.pre
  have hown : s.vm.findClass RX8 = some m.cls := findClass_of_methodNamed B.named
  have hlocks := B.notSynchronized
  have hl := lv_entry ([.ref m0, .int 1]) (n := 4) (Nat.le_of_ble_eq_true rfl)
  rw [lg_entry_eq]
  generalize (lg_sl ([.ref m0, .int 1]) ++ List.replicate (4 - (lg_sl ([.ref m0, .int 1])).length) Slot.unset).toArray = ls at hl ⊢
  replace hl : lv_has ls 4 [(0, .ref m0), (1, .int 1)] := hl
  refine lv_aload_n hx hb dX8_firstOf_0 rfl (lv_at hl 0 rfl) ?_
  refine va_get (D := D) (ci := 8) (v := .int nde) (C := RX8) (T := TX8) (N := 38) hx hb hts hi_X8_firstOf_8 hown hK hP 0 rfl rfl 3 (by decide) (hts (.fieldLink RX8 115 "TheLiningsInItModel" "depth" "I") (List.mem_of_getElem? (i := 1) rfl)) (fun _ h9 => h9) rfl dX8_firstOf_1 ?_
  refine lv_if_ne (tgt := 9) hx hb dX8_firstOf_4 (by decide) (fun c_1 => ?_) (fun c_1 => ?_)
  · have fc_1 : nde.toInt ≠ 0 := zf_ne c_1 rfl (by decide)
    refine lv_aload_n hx hb dX8_firstOf_9 rfl (lv_at hl 0 rfl) ?_
    refine lv_iload_n hx hb dX8_firstOf_10 rfl (lv_at hl 1 rfl) ?_
    refine lv_aload_n hx hb dX8_firstOf_11 rfl (lv_at hl 0 rfl) ?_
    refine va_get (D := D) (ci := 8) (v := .int nde) (C := RX8) (T := TX8) (N := 38) hx hb hts hi_X8_firstOf_8 hown hK hP 0 rfl rfl 3 (by decide) (hts (.fieldLink RX8 115 "TheLiningsInItModel" "depth" "I") (List.mem_of_getElem? (i := 1) rfl)) (fun _ h9 => h9) rfl dX8_firstOf_12 ?_
    refine lv_aload_n hx hb dX8_firstOf_15 rfl (lv_at hl 0 rfl) ?_
    refine va_get (D := D) (ci := 8) (v := .int nse) (C := RX8) (T := TX8) (N := 38) hx hb hts hi_X8_firstOf_8 hown hK hP 0 rfl rfl 5 (by decide) (hts (.fieldLink RX8 13 "TheLiningsInItModel" "seconds" "I") (List.mem_of_getElem? (i := 2) rfl)) (fun _ h9 => h9) rfl dX8_firstOf_16 ?_
    refine zc_V (As := [.int 1, .int nde, .int nse]) (rest := []) ⟨hx, hb, hml, hown, hts⟩ (c_M_leastCost_1 l D cI cJ cZ cP cS po m0 mrf mki mpa mta mla msl mco mhe mso msi msh mce mca mwo mnu mte mwa mke mma mth mtr (npu) (nte) (nat_) (nde) (nto) (nse) (nhu) (nga) (nsd) (nfa) (nba) (npl) (nen) (nnu) (nwr) (nra) (nik) gki gpa gta gco (nde) (nse) hy0 hy1 hy2 hy3 hy4 hy5 hy6 hy7 hy8 hy9 hy10 hy11 hy12 hy13 hy6 hy7 hp_gki hp_gpa hp_gta hp_gco) (cwV 3 hts gX8_firstOf_X8_leastCost rfl rfl rfl ⟨rfl, dh_X8_leastCost⟩ ⟨Nat.le_of_ble_eq_true rfl, Nat.le_of_ble_eq_true rfl⟩) hK hN hZ hP (hP.sub [0, 1, 2, 3, 4] rfl) (va_recv (q := (RX8, TX8, 38)) hK hP (ci := 8) (q0 := 0) rfl rfl) rfl hl.1 rfl (Nat.le_of_ble_eq_true rfl) dX8_firstOf_19 ⟨Nat.le_of_ble_eq_true rfl, Nat.le_of_ble_eq_true rfl⟩ (fun r_2 hr_2 => ?_)
    refine lv_istore_n (lv' := [(2, .int r_2), (0, .ref m0), (1, .int 1)]) hx hb dX8_firstOf_22 rfl hl (by decide) rfl (fun ls hl => ?_)
    refine lv_iconst (v := 0) hx hb dX8_firstOf_23 (by decide) ?_
    refine lv_istore_n (lv' := [(3, .int 0), (2, .int r_2), (0, .ref m0), (1, .int 1)]) hx hb dX8_firstOf_24 rfl hl (by decide) rfl (fun ls hl => ?_)
    obtain ⟨i_25, hi_25⟩ : ∃ i : Int32, i = 0 := ⟨_, rfl⟩
    replace hl : lv_has ls 4 [(3, .int i_25), (2, .int r_2), (0, .ref m0), (1, .int 1)] := by rw [hi_25]; exact lv_sub hl [0, 1, 2, 3] rfl
    have h1i_25 : i_25.toInt = 0 := by rw [hi_25]; decide
    obtain ⟨nfu, hni_25⟩ : ∃ nq9 : Nat, npu.toInt ≤ i_25.toInt + (nq9 : Int) := ⟨((npu.toInt : Int) - 0).toNat, by omega⟩
    have hloi_25 : 0 ≤ i_25.toInt := by omega
    clear h1i_25 hi_25
    revert hni_25
    revert hloi_25
    revert hl
    revert ls
    revert i_25
    induction nfu with
    | zero =>
      intro i_25 ls hl hloi_25 hni_25
      have hzi_25 : npu.toInt ≤ i_25.toInt := by omega
      refine lv_iload_n hx hb dX8_firstOf_25 rfl (lv_at hl 0 rfl) ?_
      refine lv_aload_n hx hb dX8_firstOf_26 rfl (lv_at hl 2 rfl) ?_
      refine va_get (D := D) (ci := 8) (v := .int npu) (C := RX8) (T := TX8) (N := 38) hx hb hts hi_X8_firstOf_8 hown hK hP 0 rfl rfl 0 (by decide) (hts (.fieldLink RX8 90 "TheLiningsInItModel" "pulls" "I") (List.mem_of_getElem? (i := 3) rfl)) (fun _ h9 => h9) rfl dX8_firstOf_27 ?_
      refine lv_icmp_ge (tgt := 79) hx hb dX8_firstOf_30 (by decide) (fun c_3 => ?_) (fun c_3 => ?_)
      · have fc_3 : npu.toInt ≤ i_25.toInt := zf_le c_3 rfl rfl
        refine lv_aload_n hx hb dX8_firstOf_79 rfl (lv_at hl 2 rfl) ?_
        refine va_get (D := D) (ci := 8) (v := .int nse) (C := RX8) (T := TX8) (N := 38) hx hb hts hi_X8_firstOf_8 hown hK hP 0 rfl rfl 5 (by decide) (hts (.fieldLink RX8 13 "TheLiningsInItModel" "seconds" "I") (List.mem_of_getElem? (i := 2) rfl)) (fun _ h9 => h9) rfl dX8_firstOf_80 ?_
        refine lv_bipush (v := 30) hx hb dX8_firstOf_83 (by decide) ?_
        refine lv_icmp_lt (tgt := 109) hx hb dX8_firstOf_85 (by decide) (fun c_4 => ?_) (fun c_4 => ?_)
        · have fc_4 : nse.toInt < 30 := zf_lt c_4 rfl (by decide)
          refine lv_bipush (v := 100) hx hb dX8_firstOf_109 (by decide) ?_
          exact W.iret (v := 100) hx hb hr (fun t ht hW => ⟨100, rfl, trivial, ht⟩) (fun q hq => by cases hq) dX8_firstOf_111
        · have fc_4 : 30 ≤ nse.toInt := zf_nlt c_4 rfl (by decide)
          refine lv_aload_n hx hb dX8_firstOf_88 rfl (lv_at hl 2 rfl) ?_
          refine va_get (D := D) (ci := 8) (v := .ref mco) (C := RX8) (T := TX8) (N := 38) hx hb hts hi_X8_firstOf_8 hown hK hP 0 rfl rfl 16 (by decide) (hts (.fieldLink RX8 44 "TheLiningsInItModel" "cost" "[I") (List.mem_of_getElem? (i := 4) rfl)) (fun _ h9 => h9) rfl dX8_firstOf_89 ?_
          refine lv_iconst (v := 1) hx hb dX8_firstOf_92 (by decide) ?_
          refine va_iald hx hb hK hP 4 0 rfl rfl (zf_in (by decide) (by decide)) dX8_firstOf_93 ?_
          refine lv_topi (fun x_5 ex_5 => ?_)
          have bx_5 : 0 ≤ x_5.toInt ∧ x_5.toInt ≤ 99 := by rw [ex_5]; exact hp_gco _
          refine lv_aload_n hx hb dX8_firstOf_94 rfl (lv_at hl 2 rfl) ?_
          refine lv_iload_n hx hb dX8_firstOf_95 rfl (lv_at hl 3 rfl) ?_
          refine zc_V (As := [.int 1]) (rest := [.int x_5]) ⟨hx, hb, hml, hown, hts⟩ (c_M_power_1 l D cI cJ cZ cP cS po m0 mrf mki mpa mta mla msl mco mhe mso msi msh mce mca mwo mnu mte mwa mke mma mth mtr (npu) (nte) (nat_) (nde) (nto) (nse) (nhu) (nga) (nsd) (nfa) (nba) (npl) (nen) (nnu) (nwr) (nra) (nik) hy0 hy1 hy2 hy3 hy4 hy5 hy6 hy7 hy8 hy9 hy10 hy11 hy12 hy13) (cwV 1 hts gX8_firstOf_X8_power rfl rfl rfl ⟨rfl, dh_X8_power⟩ ⟨Nat.le_of_ble_eq_true rfl, Nat.le_of_ble_eq_true rfl⟩) hK hN hZ hP (hP.sub [0] rfl) (va_recv (q := (RX8, TX8, 38)) hK hP (ci := 8) (q0 := 0) rfl rfl) rfl hl.1 rfl (Nat.le_of_ble_eq_true rfl) dX8_firstOf_96 ⟨Nat.le_of_ble_eq_true rfl, Nat.le_of_ble_eq_true rfl⟩ (fun r_6 hr_6 => ?_)
          obtain rfl := hr_6
          refine lv_imul hx hb dX8_firstOf_99 ?_
          refine lv_topi (fun x_7 ex_7 => ?_)
          have qx_7 : x_7.toInt = x_5.toInt * 12 := by rw [ex_7]; exact zf_mul rfl (by decide) (by omega) (by omega)
          refine lv_iload_n hx hb dX8_firstOf_100 rfl (lv_at hl 1 rfl) ?_
          refine lv_icmp_ne (tgt := 109) hx hb dX8_firstOf_101 (by decide) (fun c_8 => ?_) (fun c_8 => ?_)
          · have fc_8 : x_7.toInt ≠ r_2.toInt := zf_ne c_8 rfl rfl
            refine lv_bipush (v := 100) hx hb dX8_firstOf_109 (by decide) ?_
            exact W.iret (v := 100) hx hb hr (fun t ht hW => ⟨100, rfl, trivial, ht⟩) (fun q hq => by cases hq) dX8_firstOf_111
          · have fc_8 : x_7.toInt = r_2.toInt := zf_eq c_8 rfl rfl
            refine lv_bipush (v := 101) hx hb dX8_firstOf_104 (by decide) ?_
            refine lv_goto (tgt := 111) hx hb dX8_firstOf_106 (by decide) ?_
            exact W.iret (v := 101) hx hb hr (fun t ht hW => ⟨101, rfl, trivial, ht⟩) (fun q hq => by cases hq) dX8_firstOf_111
      · exfalso; have fc_3 : i_25.toInt < npu.toInt := zf_nle c_3 rfl rfl; omega
    | succ nfu ih =>
      intro i_25 ls hl hloi_25 hni_25
      refine lv_iload_n hx hb dX8_firstOf_25 rfl (lv_at hl 0 rfl) ?_
      refine lv_aload_n hx hb dX8_firstOf_26 rfl (lv_at hl 2 rfl) ?_
      refine va_get (D := D) (ci := 8) (v := .int npu) (C := RX8) (T := TX8) (N := 38) hx hb hts hi_X8_firstOf_8 hown hK hP 0 rfl rfl 0 (by decide) (hts (.fieldLink RX8 90 "TheLiningsInItModel" "pulls" "I") (List.mem_of_getElem? (i := 3) rfl)) (fun _ h9 => h9) rfl dX8_firstOf_27 ?_
      refine lv_icmp_ge (tgt := 79) hx hb dX8_firstOf_30 (by decide) (fun c_9 => ?_) (fun c_9 => ?_)
      · have fc_9 : npu.toInt ≤ i_25.toInt := zf_le c_9 rfl rfl
        refine lv_aload_n hx hb dX8_firstOf_79 rfl (lv_at hl 2 rfl) ?_
        refine va_get (D := D) (ci := 8) (v := .int nse) (C := RX8) (T := TX8) (N := 38) hx hb hts hi_X8_firstOf_8 hown hK hP 0 rfl rfl 5 (by decide) (hts (.fieldLink RX8 13 "TheLiningsInItModel" "seconds" "I") (List.mem_of_getElem? (i := 2) rfl)) (fun _ h9 => h9) rfl dX8_firstOf_80 ?_
        refine lv_bipush (v := 30) hx hb dX8_firstOf_83 (by decide) ?_
        refine lv_icmp_lt (tgt := 109) hx hb dX8_firstOf_85 (by decide) (fun c_10 => ?_) (fun c_10 => ?_)
        · have fc_10 : nse.toInt < 30 := zf_lt c_10 rfl (by decide)
          refine lv_bipush (v := 100) hx hb dX8_firstOf_109 (by decide) ?_
          exact W.iret (v := 100) hx hb hr (fun t ht hW => ⟨100, rfl, trivial, ht⟩) (fun q hq => by cases hq) dX8_firstOf_111
        · have fc_10 : 30 ≤ nse.toInt := zf_nlt c_10 rfl (by decide)
          refine lv_aload_n hx hb dX8_firstOf_88 rfl (lv_at hl 2 rfl) ?_
          refine va_get (D := D) (ci := 8) (v := .ref mco) (C := RX8) (T := TX8) (N := 38) hx hb hts hi_X8_firstOf_8 hown hK hP 0 rfl rfl 16 (by decide) (hts (.fieldLink RX8 44 "TheLiningsInItModel" "cost" "[I") (List.mem_of_getElem? (i := 4) rfl)) (fun _ h9 => h9) rfl dX8_firstOf_89 ?_
          refine lv_iconst (v := 1) hx hb dX8_firstOf_92 (by decide) ?_
          refine va_iald hx hb hK hP 4 0 rfl rfl (zf_in (by decide) (by decide)) dX8_firstOf_93 ?_
          refine lv_topi (fun x_11 ex_11 => ?_)
          have bx_11 : 0 ≤ x_11.toInt ∧ x_11.toInt ≤ 99 := by rw [ex_11]; exact hp_gco _
          refine lv_aload_n hx hb dX8_firstOf_94 rfl (lv_at hl 2 rfl) ?_
          refine lv_iload_n hx hb dX8_firstOf_95 rfl (lv_at hl 3 rfl) ?_
          refine zc_V (As := [.int 1]) (rest := [.int x_11]) ⟨hx, hb, hml, hown, hts⟩ (c_M_power_1 l D cI cJ cZ cP cS po m0 mrf mki mpa mta mla msl mco mhe mso msi msh mce mca mwo mnu mte mwa mke mma mth mtr (npu) (nte) (nat_) (nde) (nto) (nse) (nhu) (nga) (nsd) (nfa) (nba) (npl) (nen) (nnu) (nwr) (nra) (nik) hy0 hy1 hy2 hy3 hy4 hy5 hy6 hy7 hy8 hy9 hy10 hy11 hy12 hy13) (cwV 1 hts gX8_firstOf_X8_power rfl rfl rfl ⟨rfl, dh_X8_power⟩ ⟨Nat.le_of_ble_eq_true rfl, Nat.le_of_ble_eq_true rfl⟩) hK hN hZ hP (hP.sub [0] rfl) (va_recv (q := (RX8, TX8, 38)) hK hP (ci := 8) (q0 := 0) rfl rfl) rfl hl.1 rfl (Nat.le_of_ble_eq_true rfl) dX8_firstOf_96 ⟨Nat.le_of_ble_eq_true rfl, Nat.le_of_ble_eq_true rfl⟩ (fun r_12 hr_12 => ?_)
          obtain rfl := hr_12
          refine lv_imul hx hb dX8_firstOf_99 ?_
          refine lv_topi (fun x_13 ex_13 => ?_)
          have qx_13 : x_13.toInt = x_11.toInt * 12 := by rw [ex_13]; exact zf_mul rfl (by decide) (by omega) (by omega)
          refine lv_iload_n hx hb dX8_firstOf_100 rfl (lv_at hl 1 rfl) ?_
          refine lv_icmp_ne (tgt := 109) hx hb dX8_firstOf_101 (by decide) (fun c_14 => ?_) (fun c_14 => ?_)
          · have fc_14 : x_13.toInt ≠ r_2.toInt := zf_ne c_14 rfl rfl
            refine lv_bipush (v := 100) hx hb dX8_firstOf_109 (by decide) ?_
            exact W.iret (v := 100) hx hb hr (fun t ht hW => ⟨100, rfl, trivial, ht⟩) (fun q hq => by cases hq) dX8_firstOf_111
          · have fc_14 : x_13.toInt = r_2.toInt := zf_eq c_14 rfl rfl
            refine lv_bipush (v := 101) hx hb dX8_firstOf_104 (by decide) ?_
            refine lv_goto (tgt := 111) hx hb dX8_firstOf_106 (by decide) ?_
            exact W.iret (v := 101) hx hb hr (fun t ht hW => ⟨101, rfl, trivial, ht⟩) (fun q hq => by cases hq) dX8_firstOf_111
      · have fc_9 : i_25.toInt < npu.toInt := zf_nle c_9 rfl rfl
        refine lv_iload_n hx hb dX8_firstOf_33 rfl (lv_at hl 3 rfl) ?_
        refine lv_if_le (tgt := 79) hx hb dX8_firstOf_34 (by decide) (fun c_15 => ?_) (fun c_15 => ?_)
        · exact absurd c_15 (by decide)
        · refine lv_aload_n hx hb dX8_firstOf_37 rfl (lv_at hl 2 rfl) ?_
          refine lv_iload_n hx hb dX8_firstOf_38 rfl (lv_at hl 0 rfl) ?_
          refine lv_aload_n hx hb dX8_firstOf_39 rfl (lv_at hl 2 rfl) ?_
          refine va_get (D := D) (ci := 8) (v := .int nde) (C := RX8) (T := TX8) (N := 38) hx hb hts hi_X8_firstOf_8 hown hK hP 0 rfl rfl 3 (by decide) (hts (.fieldLink RX8 115 "TheLiningsInItModel" "depth" "I") (List.mem_of_getElem? (i := 1) rfl)) (fun _ h9 => h9) rfl dX8_firstOf_40 ?_
          refine lv_aload_n hx hb dX8_firstOf_43 rfl (lv_at hl 2 rfl) ?_
          refine va_get (D := D) (ci := 8) (v := .int nse) (C := RX8) (T := TX8) (N := 38) hx hb hts hi_X8_firstOf_8 hown hK hP 0 rfl rfl 5 (by decide) (hts (.fieldLink RX8 13 "TheLiningsInItModel" "seconds" "I") (List.mem_of_getElem? (i := 2) rfl)) (fun _ h9 => h9) rfl dX8_firstOf_44 ?_
          refine zc_V (As := [.int i_25, .int nde, .int nse]) (rest := []) ⟨hx, hb, hml, hown, hts⟩ (c_M_mayBe l D cI cJ cZ cP cS po m0 mrf mki mpa mta mla msl mco mhe mso msi msh mce mca mwo mnu mte mwa mke mma mth mtr (npu) (nte) (nat_) (nde) (nto) (nse) (nhu) (nga) (nsd) (nfa) (nba) (npl) (nen) (nnu) (nwr) (nra) (nik) gta (i_25) (nde) (nse) hy0 hy1 hy2 hy3 hy4 hy5 hy6 hy7 hy8 hy9 hy10 hy11 hy12 hy13 (by omega) (by omega) hp_gta) (cwV 3 hts gX8_firstOf_X8_mayBe rfl rfl rfl ⟨rfl, dh_X8_mayBe⟩ ⟨Nat.le_of_ble_eq_true rfl, Nat.le_of_ble_eq_true rfl⟩) hK hN hZ hP (hP.sub [0, 3] rfl) (va_recv (q := (RX8, TX8, 38)) hK hP (ci := 8) (q0 := 0) rfl rfl) rfl hl.1 rfl (Nat.le_of_ble_eq_true rfl) dX8_firstOf_47 ⟨Nat.le_of_ble_eq_true rfl, Nat.le_of_ble_eq_true rfl⟩ (fun r_16 hr_16 => ?_)
          obtain ⟨g_17, g_18, hsr_16_0⟩ := hr_16
          refine lv_if_eq (tgt := 73) hx hb dX8_firstOf_50 (by decide) (fun c_19 => ?_) (fun c_19 => ?_)
          · have fc_19 : r_16.toInt = 0 := zf_eq c_19 rfl (by decide)
            obtain ⟨x_20, ex_20⟩ : ∃ y : Int32, y = i_25 + 1 := ⟨_, rfl⟩
            have qx_20 : x_20.toInt = i_25.toInt + 1 := dw_inc ex_20 fc_9
            refine lv_iinc (v := x_20) (lv' := [(3, .int x_20), (2, .int r_2), (0, .ref m0), (1, .int 1)]) hx hb dX8_firstOf_73 hl (k := 0) rfl ex_20.symm (by decide) rfl (fun ls hl => ?_)
            refine lv_goto (tgt := 25) hx hb dX8_firstOf_76 (by decide) ?_
            exact ih x_20 _ (lv_sub hl [0, 1, 2, 3] rfl) (dw_lo hloi_25 qx_20) (dw_hn hni_25 qx_20)
          · have fc_19 : r_16.toInt ≠ 0 := zf_ne c_19 rfl (by decide)
            refine lv_aload_n hx hb dX8_firstOf_53 rfl (lv_at hl 2 rfl) ?_
            refine lv_iload_n hx hb dX8_firstOf_54 rfl (lv_at hl 0 rfl) ?_
            refine lv_iload_n hx hb dX8_firstOf_55 rfl (lv_at hl 3 rfl) ?_
            refine lv_aload_n hx hb dX8_firstOf_56 rfl (lv_at hl 2 rfl) ?_
            refine va_get (D := D) (ci := 8) (v := .int nde) (C := RX8) (T := TX8) (N := 38) hx hb hts hi_X8_firstOf_8 hown hK hP 0 rfl rfl 3 (by decide) (hts (.fieldLink RX8 115 "TheLiningsInItModel" "depth" "I") (List.mem_of_getElem? (i := 1) rfl)) (fun _ h9 => h9) rfl dX8_firstOf_57 ?_
            refine lv_aload_n hx hb dX8_firstOf_60 rfl (lv_at hl 2 rfl) ?_
            refine va_get (D := D) (ci := 8) (v := .int nse) (C := RX8) (T := TX8) (N := 38) hx hb hts hi_X8_firstOf_8 hown hK hP 0 rfl rfl 5 (by decide) (hts (.fieldLink RX8 13 "TheLiningsInItModel" "seconds" "I") (List.mem_of_getElem? (i := 2) rfl)) (fun _ h9 => h9) rfl dX8_firstOf_61 ?_
            refine zc_V (As := [.int i_25, .int 1, .int nde, .int nse]) (rest := []) ⟨hx, hb, hml, hown, hts⟩ (c_M_costBy_1 l D cI cJ cZ cP cS po m0 mrf mki mpa mta mla msl mco mhe mso msi msh mce mca mwo mnu mte mwa mke mma mth mtr (npu) (nte) (nat_) (nde) (nto) (nse) (nhu) (nga) (nsd) (nfa) (nba) (npl) (nen) (nnu) (nwr) (nra) (nik) gki gpa gta gco (i_25) (nde) (nse) hy0 hy1 hy2 hy3 hy4 hy5 hy6 hy7 hy8 hy9 hy10 hy11 hy12 hy13 (by omega) (by omega) hy6 hy7 hp_gki hp_gpa hp_gta hp_gco) (cwV 4 hts gX8_firstOf_X8_costBy rfl rfl rfl ⟨rfl, dh_X8_costBy⟩ ⟨Nat.le_of_ble_eq_true rfl, Nat.le_of_ble_eq_true rfl⟩) hK hN hZ hP (hP.sub [0, 1, 2, 3, 4] rfl) (va_recv (q := (RX8, TX8, 38)) hK hP (ci := 8) (q0 := 0) rfl rfl) rfl hl.1 rfl (Nat.le_of_ble_eq_true rfl) dX8_firstOf_64 ⟨Nat.le_of_ble_eq_true rfl, Nat.le_of_ble_eq_true rfl⟩ (fun r_21 hr_21 => ?_)
            refine lv_iload_n hx hb dX8_firstOf_67 rfl (lv_at hl 1 rfl) ?_
            refine lv_icmp_ne (tgt := 73) hx hb dX8_firstOf_68 (by decide) (fun c_22 => ?_) (fun c_22 => ?_)
            · have fc_22 : r_21.toInt ≠ r_2.toInt := zf_ne c_22 rfl rfl
              obtain ⟨x_23, ex_23⟩ : ∃ y : Int32, y = i_25 + 1 := ⟨_, rfl⟩
              have qx_23 : x_23.toInt = i_25.toInt + 1 := dw_inc ex_23 fc_9
              refine lv_iinc (v := x_23) (lv' := [(3, .int x_23), (2, .int r_2), (0, .ref m0), (1, .int 1)]) hx hb dX8_firstOf_73 hl (k := 0) rfl ex_23.symm (by decide) rfl (fun ls hl => ?_)
              refine lv_goto (tgt := 25) hx hb dX8_firstOf_76 (by decide) ?_
              exact ih x_23 _ (lv_sub hl [0, 1, 2, 3] rfl) (dw_lo hloi_25 qx_23) (dw_hn hni_25 qx_23)
            · have fc_22 : r_21.toInt = r_2.toInt := zf_eq c_22 rfl rfl
              refine lv_iload_n hx hb dX8_firstOf_71 rfl (lv_at hl 0 rfl) ?_
              exact W.iret (v := i_25) hx hb hr (fun t ht hW => ⟨i_25, rfl, trivial, ht⟩) (fun q hq => by cases hq) dX8_firstOf_72
  · have fc_1 : nde.toInt = 0 := zf_eq c_1 rfl (by decide)
    refine lv_iconst (v := (-1)) hx hb dX8_firstOf_7 (by decide) ?_
    exact W.iret (v := (-1)) hx hb hr (fun t ht hW => ⟨(-1), rfl, trivial, ht⟩) (fun q hq => by cases hq) dX8_firstOf_8
set_option maxHeartbeats 4000000 in
set_option maxRecDepth 100000 in
theorem c_M_firstOf_2 (l : Launch) (D : va_G) (cI cJ cZ cP cS : ClassId) (po : zPool) (m0 mrf mki mpa mta mla msl mco mhe mso msi msh mce mca mwo mnu mte mwa mke mma mth mtr : Nat) (npu nte nat_ nde nto nse nhu nga nsd nfa nba npl nen nnu nwr nra nik : Int32) (gki gpa gta gco : Nat → Int32) (hy0 : 0 ≤ npu.toInt) (hy1 : npu.toInt ≤ 8) (hy2 : 4 ≤ nte.toInt) (hy3 : nte.toInt ≤ 40) (hy4 : 0 ≤ nat_.toInt) (hy5 : nat_.toInt ≤ 40) (hy6 : 0 ≤ nde.toInt) (hy7 : nde.toInt ≤ 24) (hy8 : 0 ≤ nhu.toInt) (hy9 : nhu.toInt ≤ 9) (hy10 : 0 ≤ nra.toInt) (hy11 : nra.toInt ≤ 2000) (hy12 : 0 ≤ nik.toInt) (hy13 : nik.toInt ≤ 1) (hp_gki : zRg gki (0) 6) (hp_gpa : zRg gpa (0) 9) (hp_gta : zRg gta (0) 60) (hp_gco : zRg gco (0) 99) : Met l yX8_firstOf wsX8_firstOf ({ frames := 6, cells := 0, slots := 0, locals := 151 }) (va_Pc [.ref m0, .int 2] (zR D (zKT cI cJ cZ cP cS) po [(zMO m0 npu nte nat_ nde nto nse nhu nga nsd nfa mrf mki mpa mta mla msl mco mhe mso msi msh mce mca mwo mnu mte nba npl nen nnu nwr mwa mke mma mth mtr nra nik), (mki, .inl (cI, 8, .inl gki)), (mpa, .inl (cI, 8, .inl gpa)), (mta, .inl (cI, 8, .inl gta)), (mco, .inl (cI, 3, .inl gco))])) (vp_Si (fun r => True)) 0 0 (fun _ => False) := by
  refine Met.ofW (cc := cX8_firstOf) (maxL := 4) (ret := (some .int)) (by decide) rfl ?_
  intro p e s m args below meth c s₁ B hml hv
  obtain ⟨rfl, hP, hK, hN, hZ⟩ := hv
  have hx := B.exec
  have hb := B.bytes
  have hr := B.returns
  have hts := atoms_spec (ws := wsX8_firstOf) B.pre
  have hown : s.vm.findClass RX8 = some m.cls := findClass_of_methodNamed B.named
  have hlocks := B.notSynchronized
  have hl := lv_entry ([.ref m0, .int 2]) (n := 4) (Nat.le_of_ble_eq_true rfl)
  rw [lg_entry_eq]
  generalize (lg_sl ([.ref m0, .int 2]) ++ List.replicate (4 - (lg_sl ([.ref m0, .int 2])).length) Slot.unset).toArray = ls at hl ⊢
  replace hl : lv_has ls 4 [(0, .ref m0), (1, .int 2)] := hl
  refine lv_aload_n hx hb dX8_firstOf_0 rfl (lv_at hl 0 rfl) ?_
  refine va_get (D := D) (ci := 8) (v := .int nde) (C := RX8) (T := TX8) (N := 38) hx hb hts hi_X8_firstOf_8 hown hK hP 0 rfl rfl 3 (by decide) (hts (.fieldLink RX8 115 "TheLiningsInItModel" "depth" "I") (List.mem_of_getElem? (i := 1) rfl)) (fun _ h9 => h9) rfl dX8_firstOf_1 ?_
  refine lv_if_ne (tgt := 9) hx hb dX8_firstOf_4 (by decide) (fun c_1 => ?_) (fun c_1 => ?_)
  · have fc_1 : nde.toInt ≠ 0 := zf_ne c_1 rfl (by decide)
    refine lv_aload_n hx hb dX8_firstOf_9 rfl (lv_at hl 0 rfl) ?_
    refine lv_iload_n hx hb dX8_firstOf_10 rfl (lv_at hl 1 rfl) ?_
    refine lv_aload_n hx hb dX8_firstOf_11 rfl (lv_at hl 0 rfl) ?_
    refine va_get (D := D) (ci := 8) (v := .int nde) (C := RX8) (T := TX8) (N := 38) hx hb hts hi_X8_firstOf_8 hown hK hP 0 rfl rfl 3 (by decide) (hts (.fieldLink RX8 115 "TheLiningsInItModel" "depth" "I") (List.mem_of_getElem? (i := 1) rfl)) (fun _ h9 => h9) rfl dX8_firstOf_12 ?_
    refine lv_aload_n hx hb dX8_firstOf_15 rfl (lv_at hl 0 rfl) ?_
    refine va_get (D := D) (ci := 8) (v := .int nse) (C := RX8) (T := TX8) (N := 38) hx hb hts hi_X8_firstOf_8 hown hK hP 0 rfl rfl 5 (by decide) (hts (.fieldLink RX8 13 "TheLiningsInItModel" "seconds" "I") (List.mem_of_getElem? (i := 2) rfl)) (fun _ h9 => h9) rfl dX8_firstOf_16 ?_
    refine zc_V (As := [.int 2, .int nde, .int nse]) (rest := []) ⟨hx, hb, hml, hown, hts⟩ (c_M_leastCost_2 l D cI cJ cZ cP cS po m0 mrf mki mpa mta mla msl mco mhe mso msi msh mce mca mwo mnu mte mwa mke mma mth mtr (npu) (nte) (nat_) (nde) (nto) (nse) (nhu) (nga) (nsd) (nfa) (nba) (npl) (nen) (nnu) (nwr) (nra) (nik) gki gpa gta gco (nde) (nse) hy0 hy1 hy2 hy3 hy4 hy5 hy6 hy7 hy8 hy9 hy10 hy11 hy12 hy13 hy6 hy7 hp_gki hp_gpa hp_gta hp_gco) (cwV 3 hts gX8_firstOf_X8_leastCost rfl rfl rfl ⟨rfl, dh_X8_leastCost⟩ ⟨Nat.le_of_ble_eq_true rfl, Nat.le_of_ble_eq_true rfl⟩) hK hN hZ hP (hP.sub [0, 1, 2, 3, 4] rfl) (va_recv (q := (RX8, TX8, 38)) hK hP (ci := 8) (q0 := 0) rfl rfl) rfl hl.1 rfl (Nat.le_of_ble_eq_true rfl) dX8_firstOf_19 ⟨Nat.le_of_ble_eq_true rfl, Nat.le_of_ble_eq_true rfl⟩ (fun r_2 hr_2 => ?_)
    refine lv_istore_n (lv' := [(2, .int r_2), (0, .ref m0), (1, .int 2)]) hx hb dX8_firstOf_22 rfl hl (by decide) rfl (fun ls hl => ?_)
    refine lv_iconst (v := 0) hx hb dX8_firstOf_23 (by decide) ?_
    refine lv_istore_n (lv' := [(3, .int 0), (2, .int r_2), (0, .ref m0), (1, .int 2)]) hx hb dX8_firstOf_24 rfl hl (by decide) rfl (fun ls hl => ?_)
    obtain ⟨i_25, hi_25⟩ : ∃ i : Int32, i = 0 := ⟨_, rfl⟩
    replace hl : lv_has ls 4 [(3, .int i_25), (2, .int r_2), (0, .ref m0), (1, .int 2)] := by rw [hi_25]; exact lv_sub hl [0, 1, 2, 3] rfl
    have h1i_25 : i_25.toInt = 0 := by rw [hi_25]; decide
    obtain ⟨nfu, hni_25⟩ : ∃ nq9 : Nat, npu.toInt ≤ i_25.toInt + (nq9 : Int) := ⟨((npu.toInt : Int) - 0).toNat, by omega⟩
    have hloi_25 : 0 ≤ i_25.toInt := by omega
    clear h1i_25 hi_25
    revert hni_25
    revert hloi_25
    revert hl
    revert ls
    revert i_25
    induction nfu with
    | zero =>
      intro i_25 ls hl hloi_25 hni_25
      have hzi_25 : npu.toInt ≤ i_25.toInt := by omega
      refine lv_iload_n hx hb dX8_firstOf_25 rfl (lv_at hl 0 rfl) ?_
      refine lv_aload_n hx hb dX8_firstOf_26 rfl (lv_at hl 2 rfl) ?_
      refine va_get (D := D) (ci := 8) (v := .int npu) (C := RX8) (T := TX8) (N := 38) hx hb hts hi_X8_firstOf_8 hown hK hP 0 rfl rfl 0 (by decide) (hts (.fieldLink RX8 90 "TheLiningsInItModel" "pulls" "I") (List.mem_of_getElem? (i := 3) rfl)) (fun _ h9 => h9) rfl dX8_firstOf_27 ?_
      refine lv_icmp_ge (tgt := 79) hx hb dX8_firstOf_30 (by decide) (fun c_3 => ?_) (fun c_3 => ?_)
      · have fc_3 : npu.toInt ≤ i_25.toInt := zf_le c_3 rfl rfl
        refine lv_aload_n hx hb dX8_firstOf_79 rfl (lv_at hl 2 rfl) ?_
        refine va_get (D := D) (ci := 8) (v := .int nse) (C := RX8) (T := TX8) (N := 38) hx hb hts hi_X8_firstOf_8 hown hK hP 0 rfl rfl 5 (by decide) (hts (.fieldLink RX8 13 "TheLiningsInItModel" "seconds" "I") (List.mem_of_getElem? (i := 2) rfl)) (fun _ h9 => h9) rfl dX8_firstOf_80 ?_
        refine lv_bipush (v := 30) hx hb dX8_firstOf_83 (by decide) ?_
        refine lv_icmp_lt (tgt := 109) hx hb dX8_firstOf_85 (by decide) (fun c_4 => ?_) (fun c_4 => ?_)
        · have fc_4 : nse.toInt < 30 := zf_lt c_4 rfl (by decide)
          refine lv_bipush (v := 100) hx hb dX8_firstOf_109 (by decide) ?_
          exact W.iret (v := 100) hx hb hr (fun t ht hW => ⟨100, rfl, trivial, ht⟩) (fun q hq => by cases hq) dX8_firstOf_111
        · have fc_4 : 30 ≤ nse.toInt := zf_nlt c_4 rfl (by decide)
          refine lv_aload_n hx hb dX8_firstOf_88 rfl (lv_at hl 2 rfl) ?_
          refine va_get (D := D) (ci := 8) (v := .ref mco) (C := RX8) (T := TX8) (N := 38) hx hb hts hi_X8_firstOf_8 hown hK hP 0 rfl rfl 16 (by decide) (hts (.fieldLink RX8 44 "TheLiningsInItModel" "cost" "[I") (List.mem_of_getElem? (i := 4) rfl)) (fun _ h9 => h9) rfl dX8_firstOf_89 ?_
          refine lv_iconst (v := 1) hx hb dX8_firstOf_92 (by decide) ?_
          refine va_iald hx hb hK hP 4 0 rfl rfl (zf_in (by decide) (by decide)) dX8_firstOf_93 ?_
          refine lv_topi (fun x_5 ex_5 => ?_)
          have bx_5 : 0 ≤ x_5.toInt ∧ x_5.toInt ≤ 99 := by rw [ex_5]; exact hp_gco _
          refine lv_aload_n hx hb dX8_firstOf_94 rfl (lv_at hl 2 rfl) ?_
          refine lv_iload_n hx hb dX8_firstOf_95 rfl (lv_at hl 3 rfl) ?_
          refine zc_V (As := [.int 2]) (rest := [.int x_5]) ⟨hx, hb, hml, hown, hts⟩ (c_M_power_2 l D cI cJ cZ cP cS po m0 mrf mki mpa mta mla msl mco mhe mso msi msh mce mca mwo mnu mte mwa mke mma mth mtr (npu) (nte) (nat_) (nde) (nto) (nse) (nhu) (nga) (nsd) (nfa) (nba) (npl) (nen) (nnu) (nwr) (nra) (nik) hy0 hy1 hy2 hy3 hy4 hy5 hy6 hy7 hy8 hy9 hy10 hy11 hy12 hy13) (cwV 1 hts gX8_firstOf_X8_power rfl rfl rfl ⟨rfl, dh_X8_power⟩ ⟨Nat.le_of_ble_eq_true rfl, Nat.le_of_ble_eq_true rfl⟩) hK hN hZ hP (hP.sub [0] rfl) (va_recv (q := (RX8, TX8, 38)) hK hP (ci := 8) (q0 := 0) rfl rfl) rfl hl.1 rfl (Nat.le_of_ble_eq_true rfl) dX8_firstOf_96 ⟨Nat.le_of_ble_eq_true rfl, Nat.le_of_ble_eq_true rfl⟩ (fun r_6 hr_6 => ?_)
          obtain rfl := hr_6
          refine lv_imul hx hb dX8_firstOf_99 ?_
          refine lv_topi (fun x_7 ex_7 => ?_)
          have qx_7 : x_7.toInt = x_5.toInt * 144 := by rw [ex_7]; exact zf_mul rfl (by decide) (by omega) (by omega)
          refine lv_iload_n hx hb dX8_firstOf_100 rfl (lv_at hl 1 rfl) ?_
          refine lv_icmp_ne (tgt := 109) hx hb dX8_firstOf_101 (by decide) (fun c_8 => ?_) (fun c_8 => ?_)
          · have fc_8 : x_7.toInt ≠ r_2.toInt := zf_ne c_8 rfl rfl
            refine lv_bipush (v := 100) hx hb dX8_firstOf_109 (by decide) ?_
            exact W.iret (v := 100) hx hb hr (fun t ht hW => ⟨100, rfl, trivial, ht⟩) (fun q hq => by cases hq) dX8_firstOf_111
          · have fc_8 : x_7.toInt = r_2.toInt := zf_eq c_8 rfl rfl
            refine lv_bipush (v := 101) hx hb dX8_firstOf_104 (by decide) ?_
            refine lv_goto (tgt := 111) hx hb dX8_firstOf_106 (by decide) ?_
            exact W.iret (v := 101) hx hb hr (fun t ht hW => ⟨101, rfl, trivial, ht⟩) (fun q hq => by cases hq) dX8_firstOf_111
      · exfalso; have fc_3 : i_25.toInt < npu.toInt := zf_nle c_3 rfl rfl; omega
    | succ nfu ih =>
      intro i_25 ls hl hloi_25 hni_25
      refine lv_iload_n hx hb dX8_firstOf_25 rfl (lv_at hl 0 rfl) ?_
      refine lv_aload_n hx hb dX8_firstOf_26 rfl (lv_at hl 2 rfl) ?_
      refine va_get (D := D) (ci := 8) (v := .int npu) (C := RX8) (T := TX8) (N := 38) hx hb hts hi_X8_firstOf_8 hown hK hP 0 rfl rfl 0 (by decide) (hts (.fieldLink RX8 90 "TheLiningsInItModel" "pulls" "I") (List.mem_of_getElem? (i := 3) rfl)) (fun _ h9 => h9) rfl dX8_firstOf_27 ?_
      refine lv_icmp_ge (tgt := 79) hx hb dX8_firstOf_30 (by decide) (fun c_9 => ?_) (fun c_9 => ?_)
      · have fc_9 : npu.toInt ≤ i_25.toInt := zf_le c_9 rfl rfl
        refine lv_aload_n hx hb dX8_firstOf_79 rfl (lv_at hl 2 rfl) ?_
        refine va_get (D := D) (ci := 8) (v := .int nse) (C := RX8) (T := TX8) (N := 38) hx hb hts hi_X8_firstOf_8 hown hK hP 0 rfl rfl 5 (by decide) (hts (.fieldLink RX8 13 "TheLiningsInItModel" "seconds" "I") (List.mem_of_getElem? (i := 2) rfl)) (fun _ h9 => h9) rfl dX8_firstOf_80 ?_
        refine lv_bipush (v := 30) hx hb dX8_firstOf_83 (by decide) ?_
        refine lv_icmp_lt (tgt := 109) hx hb dX8_firstOf_85 (by decide) (fun c_10 => ?_) (fun c_10 => ?_)
        · have fc_10 : nse.toInt < 30 := zf_lt c_10 rfl (by decide)
          refine lv_bipush (v := 100) hx hb dX8_firstOf_109 (by decide) ?_
          exact W.iret (v := 100) hx hb hr (fun t ht hW => ⟨100, rfl, trivial, ht⟩) (fun q hq => by cases hq) dX8_firstOf_111
        · have fc_10 : 30 ≤ nse.toInt := zf_nlt c_10 rfl (by decide)
          refine lv_aload_n hx hb dX8_firstOf_88 rfl (lv_at hl 2 rfl) ?_
          refine va_get (D := D) (ci := 8) (v := .ref mco) (C := RX8) (T := TX8) (N := 38) hx hb hts hi_X8_firstOf_8 hown hK hP 0 rfl rfl 16 (by decide) (hts (.fieldLink RX8 44 "TheLiningsInItModel" "cost" "[I") (List.mem_of_getElem? (i := 4) rfl)) (fun _ h9 => h9) rfl dX8_firstOf_89 ?_
          refine lv_iconst (v := 1) hx hb dX8_firstOf_92 (by decide) ?_
          refine va_iald hx hb hK hP 4 0 rfl rfl (zf_in (by decide) (by decide)) dX8_firstOf_93 ?_
          refine lv_topi (fun x_11 ex_11 => ?_)
          have bx_11 : 0 ≤ x_11.toInt ∧ x_11.toInt ≤ 99 := by rw [ex_11]; exact hp_gco _
          refine lv_aload_n hx hb dX8_firstOf_94 rfl (lv_at hl 2 rfl) ?_
          refine lv_iload_n hx hb dX8_firstOf_95 rfl (lv_at hl 3 rfl) ?_
          refine zc_V (As := [.int 2]) (rest := [.int x_11]) ⟨hx, hb, hml, hown, hts⟩ (c_M_power_2 l D cI cJ cZ cP cS po m0 mrf mki mpa mta mla msl mco mhe mso msi msh mce mca mwo mnu mte mwa mke mma mth mtr (npu) (nte) (nat_) (nde) (nto) (nse) (nhu) (nga) (nsd) (nfa) (nba) (npl) (nen) (nnu) (nwr) (nra) (nik) hy0 hy1 hy2 hy3 hy4 hy5 hy6 hy7 hy8 hy9 hy10 hy11 hy12 hy13) (cwV 1 hts gX8_firstOf_X8_power rfl rfl rfl ⟨rfl, dh_X8_power⟩ ⟨Nat.le_of_ble_eq_true rfl, Nat.le_of_ble_eq_true rfl⟩) hK hN hZ hP (hP.sub [0] rfl) (va_recv (q := (RX8, TX8, 38)) hK hP (ci := 8) (q0 := 0) rfl rfl) rfl hl.1 rfl (Nat.le_of_ble_eq_true rfl) dX8_firstOf_96 ⟨Nat.le_of_ble_eq_true rfl, Nat.le_of_ble_eq_true rfl⟩ (fun r_12 hr_12 => ?_)
          obtain rfl := hr_12
          refine lv_imul hx hb dX8_firstOf_99 ?_
          refine lv_topi (fun x_13 ex_13 => ?_)
          have qx_13 : x_13.toInt = x_11.toInt * 144 := by rw [ex_13]; exact zf_mul rfl (by decide) (by omega) (by omega)
          refine lv_iload_n hx hb dX8_firstOf_100 rfl (lv_at hl 1 rfl) ?_
          refine lv_icmp_ne (tgt := 109) hx hb dX8_firstOf_101 (by decide) (fun c_14 => ?_) (fun c_14 => ?_)
          · have fc_14 : x_13.toInt ≠ r_2.toInt := zf_ne c_14 rfl rfl
            refine lv_bipush (v := 100) hx hb dX8_firstOf_109 (by decide) ?_
            exact W.iret (v := 100) hx hb hr (fun t ht hW => ⟨100, rfl, trivial, ht⟩) (fun q hq => by cases hq) dX8_firstOf_111
          · have fc_14 : x_13.toInt = r_2.toInt := zf_eq c_14 rfl rfl
            refine lv_bipush (v := 101) hx hb dX8_firstOf_104 (by decide) ?_
            refine lv_goto (tgt := 111) hx hb dX8_firstOf_106 (by decide) ?_
            exact W.iret (v := 101) hx hb hr (fun t ht hW => ⟨101, rfl, trivial, ht⟩) (fun q hq => by cases hq) dX8_firstOf_111
      · have fc_9 : i_25.toInt < npu.toInt := zf_nle c_9 rfl rfl
        refine lv_iload_n hx hb dX8_firstOf_33 rfl (lv_at hl 3 rfl) ?_
        refine lv_if_le (tgt := 79) hx hb dX8_firstOf_34 (by decide) (fun c_15 => ?_) (fun c_15 => ?_)
        · exact absurd c_15 (by decide)
        · refine lv_aload_n hx hb dX8_firstOf_37 rfl (lv_at hl 2 rfl) ?_
          refine lv_iload_n hx hb dX8_firstOf_38 rfl (lv_at hl 0 rfl) ?_
          refine lv_aload_n hx hb dX8_firstOf_39 rfl (lv_at hl 2 rfl) ?_
          refine va_get (D := D) (ci := 8) (v := .int nde) (C := RX8) (T := TX8) (N := 38) hx hb hts hi_X8_firstOf_8 hown hK hP 0 rfl rfl 3 (by decide) (hts (.fieldLink RX8 115 "TheLiningsInItModel" "depth" "I") (List.mem_of_getElem? (i := 1) rfl)) (fun _ h9 => h9) rfl dX8_firstOf_40 ?_
          refine lv_aload_n hx hb dX8_firstOf_43 rfl (lv_at hl 2 rfl) ?_
          refine va_get (D := D) (ci := 8) (v := .int nse) (C := RX8) (T := TX8) (N := 38) hx hb hts hi_X8_firstOf_8 hown hK hP 0 rfl rfl 5 (by decide) (hts (.fieldLink RX8 13 "TheLiningsInItModel" "seconds" "I") (List.mem_of_getElem? (i := 2) rfl)) (fun _ h9 => h9) rfl dX8_firstOf_44 ?_
          refine zc_V (As := [.int i_25, .int nde, .int nse]) (rest := []) ⟨hx, hb, hml, hown, hts⟩ (c_M_mayBe l D cI cJ cZ cP cS po m0 mrf mki mpa mta mla msl mco mhe mso msi msh mce mca mwo mnu mte mwa mke mma mth mtr (npu) (nte) (nat_) (nde) (nto) (nse) (nhu) (nga) (nsd) (nfa) (nba) (npl) (nen) (nnu) (nwr) (nra) (nik) gta (i_25) (nde) (nse) hy0 hy1 hy2 hy3 hy4 hy5 hy6 hy7 hy8 hy9 hy10 hy11 hy12 hy13 (by omega) (by omega) hp_gta) (cwV 3 hts gX8_firstOf_X8_mayBe rfl rfl rfl ⟨rfl, dh_X8_mayBe⟩ ⟨Nat.le_of_ble_eq_true rfl, Nat.le_of_ble_eq_true rfl⟩) hK hN hZ hP (hP.sub [0, 3] rfl) (va_recv (q := (RX8, TX8, 38)) hK hP (ci := 8) (q0 := 0) rfl rfl) rfl hl.1 rfl (Nat.le_of_ble_eq_true rfl) dX8_firstOf_47 ⟨Nat.le_of_ble_eq_true rfl, Nat.le_of_ble_eq_true rfl⟩ (fun r_16 hr_16 => ?_)
          obtain ⟨g_17, g_18, hsr_16_0⟩ := hr_16
          refine lv_if_eq (tgt := 73) hx hb dX8_firstOf_50 (by decide) (fun c_19 => ?_) (fun c_19 => ?_)
          · have fc_19 : r_16.toInt = 0 := zf_eq c_19 rfl (by decide)
            obtain ⟨x_20, ex_20⟩ : ∃ y : Int32, y = i_25 + 1 := ⟨_, rfl⟩
            have qx_20 : x_20.toInt = i_25.toInt + 1 := dw_inc ex_20 fc_9
            refine lv_iinc (v := x_20) (lv' := [(3, .int x_20), (2, .int r_2), (0, .ref m0), (1, .int 2)]) hx hb dX8_firstOf_73 hl (k := 0) rfl ex_20.symm (by decide) rfl (fun ls hl => ?_)
            refine lv_goto (tgt := 25) hx hb dX8_firstOf_76 (by decide) ?_
            exact ih x_20 _ (lv_sub hl [0, 1, 2, 3] rfl) (dw_lo hloi_25 qx_20) (dw_hn hni_25 qx_20)
          · have fc_19 : r_16.toInt ≠ 0 := zf_ne c_19 rfl (by decide)
            refine lv_aload_n hx hb dX8_firstOf_53 rfl (lv_at hl 2 rfl) ?_
            refine lv_iload_n hx hb dX8_firstOf_54 rfl (lv_at hl 0 rfl) ?_
            refine lv_iload_n hx hb dX8_firstOf_55 rfl (lv_at hl 3 rfl) ?_
            refine lv_aload_n hx hb dX8_firstOf_56 rfl (lv_at hl 2 rfl) ?_
            refine va_get (D := D) (ci := 8) (v := .int nde) (C := RX8) (T := TX8) (N := 38) hx hb hts hi_X8_firstOf_8 hown hK hP 0 rfl rfl 3 (by decide) (hts (.fieldLink RX8 115 "TheLiningsInItModel" "depth" "I") (List.mem_of_getElem? (i := 1) rfl)) (fun _ h9 => h9) rfl dX8_firstOf_57 ?_
            refine lv_aload_n hx hb dX8_firstOf_60 rfl (lv_at hl 2 rfl) ?_
            refine va_get (D := D) (ci := 8) (v := .int nse) (C := RX8) (T := TX8) (N := 38) hx hb hts hi_X8_firstOf_8 hown hK hP 0 rfl rfl 5 (by decide) (hts (.fieldLink RX8 13 "TheLiningsInItModel" "seconds" "I") (List.mem_of_getElem? (i := 2) rfl)) (fun _ h9 => h9) rfl dX8_firstOf_61 ?_
            refine zc_V (As := [.int i_25, .int 2, .int nde, .int nse]) (rest := []) ⟨hx, hb, hml, hown, hts⟩ (c_M_costBy_2 l D cI cJ cZ cP cS po m0 mrf mki mpa mta mla msl mco mhe mso msi msh mce mca mwo mnu mte mwa mke mma mth mtr (npu) (nte) (nat_) (nde) (nto) (nse) (nhu) (nga) (nsd) (nfa) (nba) (npl) (nen) (nnu) (nwr) (nra) (nik) gki gpa gta gco (i_25) (nde) (nse) hy0 hy1 hy2 hy3 hy4 hy5 hy6 hy7 hy8 hy9 hy10 hy11 hy12 hy13 (by omega) (by omega) hy6 hy7 hp_gki hp_gpa hp_gta hp_gco) (cwV 4 hts gX8_firstOf_X8_costBy rfl rfl rfl ⟨rfl, dh_X8_costBy⟩ ⟨Nat.le_of_ble_eq_true rfl, Nat.le_of_ble_eq_true rfl⟩) hK hN hZ hP (hP.sub [0, 1, 2, 3, 4] rfl) (va_recv (q := (RX8, TX8, 38)) hK hP (ci := 8) (q0 := 0) rfl rfl) rfl hl.1 rfl (Nat.le_of_ble_eq_true rfl) dX8_firstOf_64 ⟨Nat.le_of_ble_eq_true rfl, Nat.le_of_ble_eq_true rfl⟩ (fun r_21 hr_21 => ?_)
            refine lv_iload_n hx hb dX8_firstOf_67 rfl (lv_at hl 1 rfl) ?_
            refine lv_icmp_ne (tgt := 73) hx hb dX8_firstOf_68 (by decide) (fun c_22 => ?_) (fun c_22 => ?_)
            · have fc_22 : r_21.toInt ≠ r_2.toInt := zf_ne c_22 rfl rfl
              obtain ⟨x_23, ex_23⟩ : ∃ y : Int32, y = i_25 + 1 := ⟨_, rfl⟩
              have qx_23 : x_23.toInt = i_25.toInt + 1 := dw_inc ex_23 fc_9
              refine lv_iinc (v := x_23) (lv' := [(3, .int x_23), (2, .int r_2), (0, .ref m0), (1, .int 2)]) hx hb dX8_firstOf_73 hl (k := 0) rfl ex_23.symm (by decide) rfl (fun ls hl => ?_)
              refine lv_goto (tgt := 25) hx hb dX8_firstOf_76 (by decide) ?_
              exact ih x_23 _ (lv_sub hl [0, 1, 2, 3] rfl) (dw_lo hloi_25 qx_23) (dw_hn hni_25 qx_23)
            · have fc_22 : r_21.toInt = r_2.toInt := zf_eq c_22 rfl rfl
              refine lv_iload_n hx hb dX8_firstOf_71 rfl (lv_at hl 0 rfl) ?_
              exact W.iret (v := i_25) hx hb hr (fun t ht hW => ⟨i_25, rfl, trivial, ht⟩) (fun q hq => by cases hq) dX8_firstOf_72
  · have fc_1 : nde.toInt = 0 := zf_eq c_1 rfl (by decide)
    refine lv_iconst (v := (-1)) hx hb dX8_firstOf_7 (by decide) ?_
    exact W.iret (v := (-1)) hx hb hr (fun t ht hW => ⟨(-1), rfl, trivial, ht⟩) (fun q hq => by cases hq) dX8_firstOf_8
set_option maxHeartbeats 4000000 in
set_option maxRecDepth 100000 in
theorem c_M_firstOf_3 (l : Launch) (D : va_G) (cI cJ cZ cP cS : ClassId) (po : zPool) (m0 mrf mki mpa mta mla msl mco mhe mso msi msh mce mca mwo mnu mte mwa mke mma mth mtr : Nat) (npu nte nat_ nde nto nse nhu nga nsd nfa nba npl nen nnu nwr nra nik : Int32) (gki gpa gta gco : Nat → Int32) (hy0 : 0 ≤ npu.toInt) (hy1 : npu.toInt ≤ 8) (hy2 : 4 ≤ nte.toInt) (hy3 : nte.toInt ≤ 40) (hy4 : 0 ≤ nat_.toInt) (hy5 : nat_.toInt ≤ 40) (hy6 : 0 ≤ nde.toInt) (hy7 : nde.toInt ≤ 24) (hy8 : 0 ≤ nhu.toInt) (hy9 : nhu.toInt ≤ 9) (hy10 : 0 ≤ nra.toInt) (hy11 : nra.toInt ≤ 2000) (hy12 : 0 ≤ nik.toInt) (hy13 : nik.toInt ≤ 1) (hp_gki : zRg gki (0) 6) (hp_gpa : zRg gpa (0) 9) (hp_gta : zRg gta (0) 60) (hp_gco : zRg gco (0) 99) : Met l yX8_firstOf wsX8_firstOf ({ frames := 8, cells := 0, slots := 0, locals := 203 }) (va_Pc [.ref m0, .int 3] (zR D (zKT cI cJ cZ cP cS) po [(zMO m0 npu nte nat_ nde nto nse nhu nga nsd nfa mrf mki mpa mta mla msl mco mhe mso msi msh mce mca mwo mnu mte nba npl nen nnu nwr mwa mke mma mth mtr nra nik), (mki, .inl (cI, 8, .inl gki)), (mpa, .inl (cI, 8, .inl gpa)), (mta, .inl (cI, 8, .inl gta)), (mco, .inl (cI, 3, .inl gco))])) (vp_Si (fun r => True)) 0 0 (fun _ => False) := by
  refine Met.ofW (cc := cX8_firstOf) (maxL := 4) (ret := (some .int)) (by decide) rfl ?_
  intro p e s m args below meth c s₁ B hml hv
  obtain ⟨rfl, hP, hK, hN, hZ⟩ := hv
  have hx := B.exec
  have hb := B.bytes
  have hr := B.returns
  have hts := atoms_spec (ws := wsX8_firstOf) B.pre
  have hown : s.vm.findClass RX8 = some m.cls := findClass_of_methodNamed B.named
  have hlocks := B.notSynchronized
  have hl := lv_entry ([.ref m0, .int 3]) (n := 4) (Nat.le_of_ble_eq_true rfl)
  rw [lg_entry_eq]
  generalize (lg_sl ([.ref m0, .int 3]) ++ List.replicate (4 - (lg_sl ([.ref m0, .int 3])).length) Slot.unset).toArray = ls at hl ⊢
  replace hl : lv_has ls 4 [(0, .ref m0), (1, .int 3)] := hl
  refine lv_aload_n hx hb dX8_firstOf_0 rfl (lv_at hl 0 rfl) ?_
  refine va_get (D := D) (ci := 8) (v := .int nde) (C := RX8) (T := TX8) (N := 38) hx hb hts hi_X8_firstOf_8 hown hK hP 0 rfl rfl 3 (by decide) (hts (.fieldLink RX8 115 "TheLiningsInItModel" "depth" "I") (List.mem_of_getElem? (i := 1) rfl)) (fun _ h9 => h9) rfl dX8_firstOf_1 ?_
  refine lv_if_ne (tgt := 9) hx hb dX8_firstOf_4 (by decide) (fun c_1 => ?_) (fun c_1 => ?_)
  · have fc_1 : nde.toInt ≠ 0 := zf_ne c_1 rfl (by decide)
    refine lv_aload_n hx hb dX8_firstOf_9 rfl (lv_at hl 0 rfl) ?_
    refine lv_iload_n hx hb dX8_firstOf_10 rfl (lv_at hl 1 rfl) ?_
    refine lv_aload_n hx hb dX8_firstOf_11 rfl (lv_at hl 0 rfl) ?_
    refine va_get (D := D) (ci := 8) (v := .int nde) (C := RX8) (T := TX8) (N := 38) hx hb hts hi_X8_firstOf_8 hown hK hP 0 rfl rfl 3 (by decide) (hts (.fieldLink RX8 115 "TheLiningsInItModel" "depth" "I") (List.mem_of_getElem? (i := 1) rfl)) (fun _ h9 => h9) rfl dX8_firstOf_12 ?_
    refine lv_aload_n hx hb dX8_firstOf_15 rfl (lv_at hl 0 rfl) ?_
    refine va_get (D := D) (ci := 8) (v := .int nse) (C := RX8) (T := TX8) (N := 38) hx hb hts hi_X8_firstOf_8 hown hK hP 0 rfl rfl 5 (by decide) (hts (.fieldLink RX8 13 "TheLiningsInItModel" "seconds" "I") (List.mem_of_getElem? (i := 2) rfl)) (fun _ h9 => h9) rfl dX8_firstOf_16 ?_
    refine zc_V (As := [.int 3, .int nde, .int nse]) (rest := []) ⟨hx, hb, hml, hown, hts⟩ (c_M_leastCost_3 l D cI cJ cZ cP cS po m0 mrf mki mpa mta mla msl mco mhe mso msi msh mce mca mwo mnu mte mwa mke mma mth mtr (npu) (nte) (nat_) (nde) (nto) (nse) (nhu) (nga) (nsd) (nfa) (nba) (npl) (nen) (nnu) (nwr) (nra) (nik) gki gpa gta gco (nde) (nse) hy0 hy1 hy2 hy3 hy4 hy5 hy6 hy7 hy8 hy9 hy10 hy11 hy12 hy13 hy6 hy7 hp_gki hp_gpa hp_gta hp_gco) (cwV 3 hts gX8_firstOf_X8_leastCost rfl rfl rfl ⟨rfl, dh_X8_leastCost⟩ ⟨Nat.le_of_ble_eq_true rfl, Nat.le_of_ble_eq_true rfl⟩) hK hN hZ hP (hP.sub [0, 1, 2, 3, 4] rfl) (va_recv (q := (RX8, TX8, 38)) hK hP (ci := 8) (q0 := 0) rfl rfl) rfl hl.1 rfl (Nat.le_of_ble_eq_true rfl) dX8_firstOf_19 ⟨Nat.le_of_ble_eq_true rfl, Nat.le_of_ble_eq_true rfl⟩ (fun r_2 hr_2 => ?_)
    refine lv_istore_n (lv' := [(2, .int r_2), (0, .ref m0), (1, .int 3)]) hx hb dX8_firstOf_22 rfl hl (by decide) rfl (fun ls hl => ?_)
    refine lv_iconst (v := 0) hx hb dX8_firstOf_23 (by decide) ?_
    refine lv_istore_n (lv' := [(3, .int 0), (2, .int r_2), (0, .ref m0), (1, .int 3)]) hx hb dX8_firstOf_24 rfl hl (by decide) rfl (fun ls hl => ?_)
    obtain ⟨i_25, hi_25⟩ : ∃ i : Int32, i = 0 := ⟨_, rfl⟩
    replace hl : lv_has ls 4 [(3, .int i_25), (2, .int r_2), (0, .ref m0), (1, .int 3)] := by rw [hi_25]; exact lv_sub hl [0, 1, 2, 3] rfl
    have h1i_25 : i_25.toInt = 0 := by rw [hi_25]; decide
    obtain ⟨nfu, hni_25⟩ : ∃ nq9 : Nat, npu.toInt ≤ i_25.toInt + (nq9 : Int) := ⟨((npu.toInt : Int) - 0).toNat, by omega⟩
    have hloi_25 : 0 ≤ i_25.toInt := by omega
    clear h1i_25 hi_25
    revert hni_25
    revert hloi_25
    revert hl
    revert ls
    revert i_25
    induction nfu with
    | zero =>
      intro i_25 ls hl hloi_25 hni_25
      have hzi_25 : npu.toInt ≤ i_25.toInt := by omega
      refine lv_iload_n hx hb dX8_firstOf_25 rfl (lv_at hl 0 rfl) ?_
      refine lv_aload_n hx hb dX8_firstOf_26 rfl (lv_at hl 2 rfl) ?_
      refine va_get (D := D) (ci := 8) (v := .int npu) (C := RX8) (T := TX8) (N := 38) hx hb hts hi_X8_firstOf_8 hown hK hP 0 rfl rfl 0 (by decide) (hts (.fieldLink RX8 90 "TheLiningsInItModel" "pulls" "I") (List.mem_of_getElem? (i := 3) rfl)) (fun _ h9 => h9) rfl dX8_firstOf_27 ?_
      refine lv_icmp_ge (tgt := 79) hx hb dX8_firstOf_30 (by decide) (fun c_3 => ?_) (fun c_3 => ?_)
      · have fc_3 : npu.toInt ≤ i_25.toInt := zf_le c_3 rfl rfl
        refine lv_aload_n hx hb dX8_firstOf_79 rfl (lv_at hl 2 rfl) ?_
        refine va_get (D := D) (ci := 8) (v := .int nse) (C := RX8) (T := TX8) (N := 38) hx hb hts hi_X8_firstOf_8 hown hK hP 0 rfl rfl 5 (by decide) (hts (.fieldLink RX8 13 "TheLiningsInItModel" "seconds" "I") (List.mem_of_getElem? (i := 2) rfl)) (fun _ h9 => h9) rfl dX8_firstOf_80 ?_
        refine lv_bipush (v := 30) hx hb dX8_firstOf_83 (by decide) ?_
        refine lv_icmp_lt (tgt := 109) hx hb dX8_firstOf_85 (by decide) (fun c_4 => ?_) (fun c_4 => ?_)
        · have fc_4 : nse.toInt < 30 := zf_lt c_4 rfl (by decide)
          refine lv_bipush (v := 100) hx hb dX8_firstOf_109 (by decide) ?_
          exact W.iret (v := 100) hx hb hr (fun t ht hW => ⟨100, rfl, trivial, ht⟩) (fun q hq => by cases hq) dX8_firstOf_111
        · have fc_4 : 30 ≤ nse.toInt := zf_nlt c_4 rfl (by decide)
          refine lv_aload_n hx hb dX8_firstOf_88 rfl (lv_at hl 2 rfl) ?_
          refine va_get (D := D) (ci := 8) (v := .ref mco) (C := RX8) (T := TX8) (N := 38) hx hb hts hi_X8_firstOf_8 hown hK hP 0 rfl rfl 16 (by decide) (hts (.fieldLink RX8 44 "TheLiningsInItModel" "cost" "[I") (List.mem_of_getElem? (i := 4) rfl)) (fun _ h9 => h9) rfl dX8_firstOf_89 ?_
          refine lv_iconst (v := 1) hx hb dX8_firstOf_92 (by decide) ?_
          refine va_iald hx hb hK hP 4 0 rfl rfl (zf_in (by decide) (by decide)) dX8_firstOf_93 ?_
          refine lv_topi (fun x_5 ex_5 => ?_)
          have bx_5 : 0 ≤ x_5.toInt ∧ x_5.toInt ≤ 99 := by rw [ex_5]; exact hp_gco _
          refine lv_aload_n hx hb dX8_firstOf_94 rfl (lv_at hl 2 rfl) ?_
          refine lv_iload_n hx hb dX8_firstOf_95 rfl (lv_at hl 3 rfl) ?_
          refine zc_V (As := [.int 3]) (rest := [.int x_5]) ⟨hx, hb, hml, hown, hts⟩ (c_M_power_3 l D cI cJ cZ cP cS po m0 mrf mki mpa mta mla msl mco mhe mso msi msh mce mca mwo mnu mte mwa mke mma mth mtr (npu) (nte) (nat_) (nde) (nto) (nse) (nhu) (nga) (nsd) (nfa) (nba) (npl) (nen) (nnu) (nwr) (nra) (nik) hy0 hy1 hy2 hy3 hy4 hy5 hy6 hy7 hy8 hy9 hy10 hy11 hy12 hy13) (cwV 1 hts gX8_firstOf_X8_power rfl rfl rfl ⟨rfl, dh_X8_power⟩ ⟨Nat.le_of_ble_eq_true rfl, Nat.le_of_ble_eq_true rfl⟩) hK hN hZ hP (hP.sub [0] rfl) (va_recv (q := (RX8, TX8, 38)) hK hP (ci := 8) (q0 := 0) rfl rfl) rfl hl.1 rfl (Nat.le_of_ble_eq_true rfl) dX8_firstOf_96 ⟨Nat.le_of_ble_eq_true rfl, Nat.le_of_ble_eq_true rfl⟩ (fun r_6 hr_6 => ?_)
          obtain rfl := hr_6
          refine lv_imul hx hb dX8_firstOf_99 ?_
          refine lv_topi (fun x_7 ex_7 => ?_)
          have qx_7 : x_7.toInt = x_5.toInt * 1728 := by rw [ex_7]; exact zf_mul rfl (by decide) (by omega) (by omega)
          refine lv_iload_n hx hb dX8_firstOf_100 rfl (lv_at hl 1 rfl) ?_
          refine lv_icmp_ne (tgt := 109) hx hb dX8_firstOf_101 (by decide) (fun c_8 => ?_) (fun c_8 => ?_)
          · have fc_8 : x_7.toInt ≠ r_2.toInt := zf_ne c_8 rfl rfl
            refine lv_bipush (v := 100) hx hb dX8_firstOf_109 (by decide) ?_
            exact W.iret (v := 100) hx hb hr (fun t ht hW => ⟨100, rfl, trivial, ht⟩) (fun q hq => by cases hq) dX8_firstOf_111
          · have fc_8 : x_7.toInt = r_2.toInt := zf_eq c_8 rfl rfl
            refine lv_bipush (v := 101) hx hb dX8_firstOf_104 (by decide) ?_
            refine lv_goto (tgt := 111) hx hb dX8_firstOf_106 (by decide) ?_
            exact W.iret (v := 101) hx hb hr (fun t ht hW => ⟨101, rfl, trivial, ht⟩) (fun q hq => by cases hq) dX8_firstOf_111
      · exfalso; have fc_3 : i_25.toInt < npu.toInt := zf_nle c_3 rfl rfl; omega
    | succ nfu ih =>
      intro i_25 ls hl hloi_25 hni_25
      refine lv_iload_n hx hb dX8_firstOf_25 rfl (lv_at hl 0 rfl) ?_
      refine lv_aload_n hx hb dX8_firstOf_26 rfl (lv_at hl 2 rfl) ?_
      refine va_get (D := D) (ci := 8) (v := .int npu) (C := RX8) (T := TX8) (N := 38) hx hb hts hi_X8_firstOf_8 hown hK hP 0 rfl rfl 0 (by decide) (hts (.fieldLink RX8 90 "TheLiningsInItModel" "pulls" "I") (List.mem_of_getElem? (i := 3) rfl)) (fun _ h9 => h9) rfl dX8_firstOf_27 ?_
      refine lv_icmp_ge (tgt := 79) hx hb dX8_firstOf_30 (by decide) (fun c_9 => ?_) (fun c_9 => ?_)
      · have fc_9 : npu.toInt ≤ i_25.toInt := zf_le c_9 rfl rfl
        refine lv_aload_n hx hb dX8_firstOf_79 rfl (lv_at hl 2 rfl) ?_
        refine va_get (D := D) (ci := 8) (v := .int nse) (C := RX8) (T := TX8) (N := 38) hx hb hts hi_X8_firstOf_8 hown hK hP 0 rfl rfl 5 (by decide) (hts (.fieldLink RX8 13 "TheLiningsInItModel" "seconds" "I") (List.mem_of_getElem? (i := 2) rfl)) (fun _ h9 => h9) rfl dX8_firstOf_80 ?_
        refine lv_bipush (v := 30) hx hb dX8_firstOf_83 (by decide) ?_
        refine lv_icmp_lt (tgt := 109) hx hb dX8_firstOf_85 (by decide) (fun c_10 => ?_) (fun c_10 => ?_)
        · have fc_10 : nse.toInt < 30 := zf_lt c_10 rfl (by decide)
          refine lv_bipush (v := 100) hx hb dX8_firstOf_109 (by decide) ?_
          exact W.iret (v := 100) hx hb hr (fun t ht hW => ⟨100, rfl, trivial, ht⟩) (fun q hq => by cases hq) dX8_firstOf_111
        · have fc_10 : 30 ≤ nse.toInt := zf_nlt c_10 rfl (by decide)
          refine lv_aload_n hx hb dX8_firstOf_88 rfl (lv_at hl 2 rfl) ?_
          refine va_get (D := D) (ci := 8) (v := .ref mco) (C := RX8) (T := TX8) (N := 38) hx hb hts hi_X8_firstOf_8 hown hK hP 0 rfl rfl 16 (by decide) (hts (.fieldLink RX8 44 "TheLiningsInItModel" "cost" "[I") (List.mem_of_getElem? (i := 4) rfl)) (fun _ h9 => h9) rfl dX8_firstOf_89 ?_
          refine lv_iconst (v := 1) hx hb dX8_firstOf_92 (by decide) ?_
          refine va_iald hx hb hK hP 4 0 rfl rfl (zf_in (by decide) (by decide)) dX8_firstOf_93 ?_
          refine lv_topi (fun x_11 ex_11 => ?_)
          have bx_11 : 0 ≤ x_11.toInt ∧ x_11.toInt ≤ 99 := by rw [ex_11]; exact hp_gco _
          refine lv_aload_n hx hb dX8_firstOf_94 rfl (lv_at hl 2 rfl) ?_
          refine lv_iload_n hx hb dX8_firstOf_95 rfl (lv_at hl 3 rfl) ?_
          refine zc_V (As := [.int 3]) (rest := [.int x_11]) ⟨hx, hb, hml, hown, hts⟩ (c_M_power_3 l D cI cJ cZ cP cS po m0 mrf mki mpa mta mla msl mco mhe mso msi msh mce mca mwo mnu mte mwa mke mma mth mtr (npu) (nte) (nat_) (nde) (nto) (nse) (nhu) (nga) (nsd) (nfa) (nba) (npl) (nen) (nnu) (nwr) (nra) (nik) hy0 hy1 hy2 hy3 hy4 hy5 hy6 hy7 hy8 hy9 hy10 hy11 hy12 hy13) (cwV 1 hts gX8_firstOf_X8_power rfl rfl rfl ⟨rfl, dh_X8_power⟩ ⟨Nat.le_of_ble_eq_true rfl, Nat.le_of_ble_eq_true rfl⟩) hK hN hZ hP (hP.sub [0] rfl) (va_recv (q := (RX8, TX8, 38)) hK hP (ci := 8) (q0 := 0) rfl rfl) rfl hl.1 rfl (Nat.le_of_ble_eq_true rfl) dX8_firstOf_96 ⟨Nat.le_of_ble_eq_true rfl, Nat.le_of_ble_eq_true rfl⟩ (fun r_12 hr_12 => ?_)
          obtain rfl := hr_12
          refine lv_imul hx hb dX8_firstOf_99 ?_
          refine lv_topi (fun x_13 ex_13 => ?_)
          have qx_13 : x_13.toInt = x_11.toInt * 1728 := by rw [ex_13]; exact zf_mul rfl (by decide) (by omega) (by omega)
          refine lv_iload_n hx hb dX8_firstOf_100 rfl (lv_at hl 1 rfl) ?_
          refine lv_icmp_ne (tgt := 109) hx hb dX8_firstOf_101 (by decide) (fun c_14 => ?_) (fun c_14 => ?_)
          · have fc_14 : x_13.toInt ≠ r_2.toInt := zf_ne c_14 rfl rfl
            refine lv_bipush (v := 100) hx hb dX8_firstOf_109 (by decide) ?_
            exact W.iret (v := 100) hx hb hr (fun t ht hW => ⟨100, rfl, trivial, ht⟩) (fun q hq => by cases hq) dX8_firstOf_111
          · have fc_14 : x_13.toInt = r_2.toInt := zf_eq c_14 rfl rfl
            refine lv_bipush (v := 101) hx hb dX8_firstOf_104 (by decide) ?_
            refine lv_goto (tgt := 111) hx hb dX8_firstOf_106 (by decide) ?_
            exact W.iret (v := 101) hx hb hr (fun t ht hW => ⟨101, rfl, trivial, ht⟩) (fun q hq => by cases hq) dX8_firstOf_111
      · have fc_9 : i_25.toInt < npu.toInt := zf_nle c_9 rfl rfl
        refine lv_iload_n hx hb dX8_firstOf_33 rfl (lv_at hl 3 rfl) ?_
        refine lv_if_le (tgt := 79) hx hb dX8_firstOf_34 (by decide) (fun c_15 => ?_) (fun c_15 => ?_)
        · exact absurd c_15 (by decide)
        · refine lv_aload_n hx hb dX8_firstOf_37 rfl (lv_at hl 2 rfl) ?_
          refine lv_iload_n hx hb dX8_firstOf_38 rfl (lv_at hl 0 rfl) ?_
          refine lv_aload_n hx hb dX8_firstOf_39 rfl (lv_at hl 2 rfl) ?_
          refine va_get (D := D) (ci := 8) (v := .int nde) (C := RX8) (T := TX8) (N := 38) hx hb hts hi_X8_firstOf_8 hown hK hP 0 rfl rfl 3 (by decide) (hts (.fieldLink RX8 115 "TheLiningsInItModel" "depth" "I") (List.mem_of_getElem? (i := 1) rfl)) (fun _ h9 => h9) rfl dX8_firstOf_40 ?_
          refine lv_aload_n hx hb dX8_firstOf_43 rfl (lv_at hl 2 rfl) ?_
          refine va_get (D := D) (ci := 8) (v := .int nse) (C := RX8) (T := TX8) (N := 38) hx hb hts hi_X8_firstOf_8 hown hK hP 0 rfl rfl 5 (by decide) (hts (.fieldLink RX8 13 "TheLiningsInItModel" "seconds" "I") (List.mem_of_getElem? (i := 2) rfl)) (fun _ h9 => h9) rfl dX8_firstOf_44 ?_
          refine zc_V (As := [.int i_25, .int nde, .int nse]) (rest := []) ⟨hx, hb, hml, hown, hts⟩ (c_M_mayBe l D cI cJ cZ cP cS po m0 mrf mki mpa mta mla msl mco mhe mso msi msh mce mca mwo mnu mte mwa mke mma mth mtr (npu) (nte) (nat_) (nde) (nto) (nse) (nhu) (nga) (nsd) (nfa) (nba) (npl) (nen) (nnu) (nwr) (nra) (nik) gta (i_25) (nde) (nse) hy0 hy1 hy2 hy3 hy4 hy5 hy6 hy7 hy8 hy9 hy10 hy11 hy12 hy13 (by omega) (by omega) hp_gta) (cwV 3 hts gX8_firstOf_X8_mayBe rfl rfl rfl ⟨rfl, dh_X8_mayBe⟩ ⟨Nat.le_of_ble_eq_true rfl, Nat.le_of_ble_eq_true rfl⟩) hK hN hZ hP (hP.sub [0, 3] rfl) (va_recv (q := (RX8, TX8, 38)) hK hP (ci := 8) (q0 := 0) rfl rfl) rfl hl.1 rfl (Nat.le_of_ble_eq_true rfl) dX8_firstOf_47 ⟨Nat.le_of_ble_eq_true rfl, Nat.le_of_ble_eq_true rfl⟩ (fun r_16 hr_16 => ?_)
          obtain ⟨g_17, g_18, hsr_16_0⟩ := hr_16
          refine lv_if_eq (tgt := 73) hx hb dX8_firstOf_50 (by decide) (fun c_19 => ?_) (fun c_19 => ?_)
          · have fc_19 : r_16.toInt = 0 := zf_eq c_19 rfl (by decide)
            obtain ⟨x_20, ex_20⟩ : ∃ y : Int32, y = i_25 + 1 := ⟨_, rfl⟩
            have qx_20 : x_20.toInt = i_25.toInt + 1 := dw_inc ex_20 fc_9
            refine lv_iinc (v := x_20) (lv' := [(3, .int x_20), (2, .int r_2), (0, .ref m0), (1, .int 3)]) hx hb dX8_firstOf_73 hl (k := 0) rfl ex_20.symm (by decide) rfl (fun ls hl => ?_)
            refine lv_goto (tgt := 25) hx hb dX8_firstOf_76 (by decide) ?_
            exact ih x_20 _ (lv_sub hl [0, 1, 2, 3] rfl) (dw_lo hloi_25 qx_20) (dw_hn hni_25 qx_20)
          · have fc_19 : r_16.toInt ≠ 0 := zf_ne c_19 rfl (by decide)
            refine lv_aload_n hx hb dX8_firstOf_53 rfl (lv_at hl 2 rfl) ?_
            refine lv_iload_n hx hb dX8_firstOf_54 rfl (lv_at hl 0 rfl) ?_
            refine lv_iload_n hx hb dX8_firstOf_55 rfl (lv_at hl 3 rfl) ?_
            refine lv_aload_n hx hb dX8_firstOf_56 rfl (lv_at hl 2 rfl) ?_
            refine va_get (D := D) (ci := 8) (v := .int nde) (C := RX8) (T := TX8) (N := 38) hx hb hts hi_X8_firstOf_8 hown hK hP 0 rfl rfl 3 (by decide) (hts (.fieldLink RX8 115 "TheLiningsInItModel" "depth" "I") (List.mem_of_getElem? (i := 1) rfl)) (fun _ h9 => h9) rfl dX8_firstOf_57 ?_
            refine lv_aload_n hx hb dX8_firstOf_60 rfl (lv_at hl 2 rfl) ?_
            refine va_get (D := D) (ci := 8) (v := .int nse) (C := RX8) (T := TX8) (N := 38) hx hb hts hi_X8_firstOf_8 hown hK hP 0 rfl rfl 5 (by decide) (hts (.fieldLink RX8 13 "TheLiningsInItModel" "seconds" "I") (List.mem_of_getElem? (i := 2) rfl)) (fun _ h9 => h9) rfl dX8_firstOf_61 ?_
            refine zc_V (As := [.int i_25, .int 3, .int nde, .int nse]) (rest := []) ⟨hx, hb, hml, hown, hts⟩ (c_M_costBy_3 l D cI cJ cZ cP cS po m0 mrf mki mpa mta mla msl mco mhe mso msi msh mce mca mwo mnu mte mwa mke mma mth mtr (npu) (nte) (nat_) (nde) (nto) (nse) (nhu) (nga) (nsd) (nfa) (nba) (npl) (nen) (nnu) (nwr) (nra) (nik) gki gpa gta gco (i_25) (nde) (nse) hy0 hy1 hy2 hy3 hy4 hy5 hy6 hy7 hy8 hy9 hy10 hy11 hy12 hy13 (by omega) (by omega) hy6 hy7 hp_gki hp_gpa hp_gta hp_gco) (cwV 4 hts gX8_firstOf_X8_costBy rfl rfl rfl ⟨rfl, dh_X8_costBy⟩ ⟨Nat.le_of_ble_eq_true rfl, Nat.le_of_ble_eq_true rfl⟩) hK hN hZ hP (hP.sub [0, 1, 2, 3, 4] rfl) (va_recv (q := (RX8, TX8, 38)) hK hP (ci := 8) (q0 := 0) rfl rfl) rfl hl.1 rfl (Nat.le_of_ble_eq_true rfl) dX8_firstOf_64 ⟨Nat.le_of_ble_eq_true rfl, Nat.le_of_ble_eq_true rfl⟩ (fun r_21 hr_21 => ?_)
            refine lv_iload_n hx hb dX8_firstOf_67 rfl (lv_at hl 1 rfl) ?_
            refine lv_icmp_ne (tgt := 73) hx hb dX8_firstOf_68 (by decide) (fun c_22 => ?_) (fun c_22 => ?_)
            · have fc_22 : r_21.toInt ≠ r_2.toInt := zf_ne c_22 rfl rfl
              obtain ⟨x_23, ex_23⟩ : ∃ y : Int32, y = i_25 + 1 := ⟨_, rfl⟩
              have qx_23 : x_23.toInt = i_25.toInt + 1 := dw_inc ex_23 fc_9
              refine lv_iinc (v := x_23) (lv' := [(3, .int x_23), (2, .int r_2), (0, .ref m0), (1, .int 3)]) hx hb dX8_firstOf_73 hl (k := 0) rfl ex_23.symm (by decide) rfl (fun ls hl => ?_)
              refine lv_goto (tgt := 25) hx hb dX8_firstOf_76 (by decide) ?_
              exact ih x_23 _ (lv_sub hl [0, 1, 2, 3] rfl) (dw_lo hloi_25 qx_23) (dw_hn hni_25 qx_23)
            · have fc_22 : r_21.toInt = r_2.toInt := zf_eq c_22 rfl rfl
              refine lv_iload_n hx hb dX8_firstOf_71 rfl (lv_at hl 0 rfl) ?_
              exact W.iret (v := i_25) hx hb hr (fun t ht hW => ⟨i_25, rfl, trivial, ht⟩) (fun q hq => by cases hq) dX8_firstOf_72
  · have fc_1 : nde.toInt = 0 := zf_eq c_1 rfl (by decide)
    refine lv_iconst (v := (-1)) hx hb dX8_firstOf_7 (by decide) ?_
    exact W.iret (v := (-1)) hx hb hr (fun t ht hW => ⟨(-1), rfl, trivial, ht⟩) (fun q hq => by cases hq) dX8_firstOf_8
set_option maxHeartbeats 4000000 in
set_option maxRecDepth 100000 in
theorem c_M_firstOf_4 (l : Launch) (D : va_G) (cI cJ cZ cP cS : ClassId) (po : zPool) (m0 mrf mki mpa mta mla msl mco mhe mso msi msh mce mca mwo mnu mte mwa mke mma mth mtr : Nat) (npu nte nat_ nde nto nse nhu nga nsd nfa nba npl nen nnu nwr nra nik : Int32) (gki gpa gta gco : Nat → Int32) (hy0 : 0 ≤ npu.toInt) (hy1 : npu.toInt ≤ 8) (hy2 : 4 ≤ nte.toInt) (hy3 : nte.toInt ≤ 40) (hy4 : 0 ≤ nat_.toInt) (hy5 : nat_.toInt ≤ 40) (hy6 : 0 ≤ nde.toInt) (hy7 : nde.toInt ≤ 24) (hy8 : 0 ≤ nhu.toInt) (hy9 : nhu.toInt ≤ 9) (hy10 : 0 ≤ nra.toInt) (hy11 : nra.toInt ≤ 2000) (hy12 : 0 ≤ nik.toInt) (hy13 : nik.toInt ≤ 1) (hp_gki : zRg gki (0) 6) (hp_gpa : zRg gpa (0) 9) (hp_gta : zRg gta (0) 60) (hp_gco : zRg gco (0) 99) : Met l yX8_firstOf wsX8_firstOf ({ frames := 10, cells := 0, slots := 0, locals := 255 }) (va_Pc [.ref m0, .int 4] (zR D (zKT cI cJ cZ cP cS) po [(zMO m0 npu nte nat_ nde nto nse nhu nga nsd nfa mrf mki mpa mta mla msl mco mhe mso msi msh mce mca mwo mnu mte nba npl nen nnu nwr mwa mke mma mth mtr nra nik), (mki, .inl (cI, 8, .inl gki)), (mpa, .inl (cI, 8, .inl gpa)), (mta, .inl (cI, 8, .inl gta)), (mco, .inl (cI, 3, .inl gco))])) (vp_Si (fun r => True)) 0 0 (fun _ => False) := by
  refine Met.ofW (cc := cX8_firstOf) (maxL := 4) (ret := (some .int)) (by decide) rfl ?_
  intro p e s m args below meth c s₁ B hml hv
  obtain ⟨rfl, hP, hK, hN, hZ⟩ := hv
  have hx := B.exec
  have hb := B.bytes
  have hr := B.returns
  have hts := atoms_spec (ws := wsX8_firstOf) B.pre
  have hown : s.vm.findClass RX8 = some m.cls := findClass_of_methodNamed B.named
  have hlocks := B.notSynchronized
  have hl := lv_entry ([.ref m0, .int 4]) (n := 4) (Nat.le_of_ble_eq_true rfl)
  rw [lg_entry_eq]
  generalize (lg_sl ([.ref m0, .int 4]) ++ List.replicate (4 - (lg_sl ([.ref m0, .int 4])).length) Slot.unset).toArray = ls at hl ⊢
  replace hl : lv_has ls 4 [(0, .ref m0), (1, .int 4)] := hl
  refine lv_aload_n hx hb dX8_firstOf_0 rfl (lv_at hl 0 rfl) ?_
  refine va_get (D := D) (ci := 8) (v := .int nde) (C := RX8) (T := TX8) (N := 38) hx hb hts hi_X8_firstOf_8 hown hK hP 0 rfl rfl 3 (by decide) (hts (.fieldLink RX8 115 "TheLiningsInItModel" "depth" "I") (List.mem_of_getElem? (i := 1) rfl)) (fun _ h9 => h9) rfl dX8_firstOf_1 ?_
  refine lv_if_ne (tgt := 9) hx hb dX8_firstOf_4 (by decide) (fun c_1 => ?_) (fun c_1 => ?_)
  · have fc_1 : nde.toInt ≠ 0 := zf_ne c_1 rfl (by decide)
    refine lv_aload_n hx hb dX8_firstOf_9 rfl (lv_at hl 0 rfl) ?_
    refine lv_iload_n hx hb dX8_firstOf_10 rfl (lv_at hl 1 rfl) ?_
    refine lv_aload_n hx hb dX8_firstOf_11 rfl (lv_at hl 0 rfl) ?_
    refine va_get (D := D) (ci := 8) (v := .int nde) (C := RX8) (T := TX8) (N := 38) hx hb hts hi_X8_firstOf_8 hown hK hP 0 rfl rfl 3 (by decide) (hts (.fieldLink RX8 115 "TheLiningsInItModel" "depth" "I") (List.mem_of_getElem? (i := 1) rfl)) (fun _ h9 => h9) rfl dX8_firstOf_12 ?_
    refine lv_aload_n hx hb dX8_firstOf_15 rfl (lv_at hl 0 rfl) ?_
    refine va_get (D := D) (ci := 8) (v := .int nse) (C := RX8) (T := TX8) (N := 38) hx hb hts hi_X8_firstOf_8 hown hK hP 0 rfl rfl 5 (by decide) (hts (.fieldLink RX8 13 "TheLiningsInItModel" "seconds" "I") (List.mem_of_getElem? (i := 2) rfl)) (fun _ h9 => h9) rfl dX8_firstOf_16 ?_
    refine zc_V (As := [.int 4, .int nde, .int nse]) (rest := []) ⟨hx, hb, hml, hown, hts⟩ (c_M_leastCost_4 l D cI cJ cZ cP cS po m0 mrf mki mpa mta mla msl mco mhe mso msi msh mce mca mwo mnu mte mwa mke mma mth mtr (npu) (nte) (nat_) (nde) (nto) (nse) (nhu) (nga) (nsd) (nfa) (nba) (npl) (nen) (nnu) (nwr) (nra) (nik) gki gpa gta gco (nde) (nse) hy0 hy1 hy2 hy3 hy4 hy5 hy6 hy7 hy8 hy9 hy10 hy11 hy12 hy13 hy6 hy7 hp_gki hp_gpa hp_gta hp_gco) (cwV 3 hts gX8_firstOf_X8_leastCost rfl rfl rfl ⟨rfl, dh_X8_leastCost⟩ ⟨Nat.le_of_ble_eq_true rfl, Nat.le_of_ble_eq_true rfl⟩) hK hN hZ hP (hP.sub [0, 1, 2, 3, 4] rfl) (va_recv (q := (RX8, TX8, 38)) hK hP (ci := 8) (q0 := 0) rfl rfl) rfl hl.1 rfl (Nat.le_of_ble_eq_true rfl) dX8_firstOf_19 ⟨Nat.le_of_ble_eq_true rfl, Nat.le_of_ble_eq_true rfl⟩ (fun r_2 hr_2 => ?_)
    refine lv_istore_n (lv' := [(2, .int r_2), (0, .ref m0), (1, .int 4)]) hx hb dX8_firstOf_22 rfl hl (by decide) rfl (fun ls hl => ?_)
    refine lv_iconst (v := 0) hx hb dX8_firstOf_23 (by decide) ?_
    refine lv_istore_n (lv' := [(3, .int 0), (2, .int r_2), (0, .ref m0), (1, .int 4)]) hx hb dX8_firstOf_24 rfl hl (by decide) rfl (fun ls hl => ?_)
    obtain ⟨i_25, hi_25⟩ : ∃ i : Int32, i = 0 := ⟨_, rfl⟩
    replace hl : lv_has ls 4 [(3, .int i_25), (2, .int r_2), (0, .ref m0), (1, .int 4)] := by rw [hi_25]; exact lv_sub hl [0, 1, 2, 3] rfl
    have h1i_25 : i_25.toInt = 0 := by rw [hi_25]; decide
    obtain ⟨nfu, hni_25⟩ : ∃ nq9 : Nat, npu.toInt ≤ i_25.toInt + (nq9 : Int) := ⟨((npu.toInt : Int) - 0).toNat, by omega⟩
    have hloi_25 : 0 ≤ i_25.toInt := by omega
    clear h1i_25 hi_25
    revert hni_25
    revert hloi_25
    revert hl
    revert ls
    revert i_25
    induction nfu with
    | zero =>
      intro i_25 ls hl hloi_25 hni_25
      have hzi_25 : npu.toInt ≤ i_25.toInt := by omega
      refine lv_iload_n hx hb dX8_firstOf_25 rfl (lv_at hl 0 rfl) ?_
      refine lv_aload_n hx hb dX8_firstOf_26 rfl (lv_at hl 2 rfl) ?_
      refine va_get (D := D) (ci := 8) (v := .int npu) (C := RX8) (T := TX8) (N := 38) hx hb hts hi_X8_firstOf_8 hown hK hP 0 rfl rfl 0 (by decide) (hts (.fieldLink RX8 90 "TheLiningsInItModel" "pulls" "I") (List.mem_of_getElem? (i := 3) rfl)) (fun _ h9 => h9) rfl dX8_firstOf_27 ?_
      refine lv_icmp_ge (tgt := 79) hx hb dX8_firstOf_30 (by decide) (fun c_3 => ?_) (fun c_3 => ?_)
      · have fc_3 : npu.toInt ≤ i_25.toInt := zf_le c_3 rfl rfl
        refine lv_aload_n hx hb dX8_firstOf_79 rfl (lv_at hl 2 rfl) ?_
        refine va_get (D := D) (ci := 8) (v := .int nse) (C := RX8) (T := TX8) (N := 38) hx hb hts hi_X8_firstOf_8 hown hK hP 0 rfl rfl 5 (by decide) (hts (.fieldLink RX8 13 "TheLiningsInItModel" "seconds" "I") (List.mem_of_getElem? (i := 2) rfl)) (fun _ h9 => h9) rfl dX8_firstOf_80 ?_
        refine lv_bipush (v := 30) hx hb dX8_firstOf_83 (by decide) ?_
        refine lv_icmp_lt (tgt := 109) hx hb dX8_firstOf_85 (by decide) (fun c_4 => ?_) (fun c_4 => ?_)
        · have fc_4 : nse.toInt < 30 := zf_lt c_4 rfl (by decide)
          refine lv_bipush (v := 100) hx hb dX8_firstOf_109 (by decide) ?_
          exact W.iret (v := 100) hx hb hr (fun t ht hW => ⟨100, rfl, trivial, ht⟩) (fun q hq => by cases hq) dX8_firstOf_111
        · have fc_4 : 30 ≤ nse.toInt := zf_nlt c_4 rfl (by decide)
          refine lv_aload_n hx hb dX8_firstOf_88 rfl (lv_at hl 2 rfl) ?_
          refine va_get (D := D) (ci := 8) (v := .ref mco) (C := RX8) (T := TX8) (N := 38) hx hb hts hi_X8_firstOf_8 hown hK hP 0 rfl rfl 16 (by decide) (hts (.fieldLink RX8 44 "TheLiningsInItModel" "cost" "[I") (List.mem_of_getElem? (i := 4) rfl)) (fun _ h9 => h9) rfl dX8_firstOf_89 ?_
          refine lv_iconst (v := 1) hx hb dX8_firstOf_92 (by decide) ?_
          refine va_iald hx hb hK hP 4 0 rfl rfl (zf_in (by decide) (by decide)) dX8_firstOf_93 ?_
          refine lv_topi (fun x_5 ex_5 => ?_)
          have bx_5 : 0 ≤ x_5.toInt ∧ x_5.toInt ≤ 99 := by rw [ex_5]; exact hp_gco _
          refine lv_aload_n hx hb dX8_firstOf_94 rfl (lv_at hl 2 rfl) ?_
          refine lv_iload_n hx hb dX8_firstOf_95 rfl (lv_at hl 3 rfl) ?_
          refine zc_V (As := [.int 4]) (rest := [.int x_5]) ⟨hx, hb, hml, hown, hts⟩ (c_M_power_4 l D cI cJ cZ cP cS po m0 mrf mki mpa mta mla msl mco mhe mso msi msh mce mca mwo mnu mte mwa mke mma mth mtr (npu) (nte) (nat_) (nde) (nto) (nse) (nhu) (nga) (nsd) (nfa) (nba) (npl) (nen) (nnu) (nwr) (nra) (nik) hy0 hy1 hy2 hy3 hy4 hy5 hy6 hy7 hy8 hy9 hy10 hy11 hy12 hy13) (cwV 1 hts gX8_firstOf_X8_power rfl rfl rfl ⟨rfl, dh_X8_power⟩ ⟨Nat.le_of_ble_eq_true rfl, Nat.le_of_ble_eq_true rfl⟩) hK hN hZ hP (hP.sub [0] rfl) (va_recv (q := (RX8, TX8, 38)) hK hP (ci := 8) (q0 := 0) rfl rfl) rfl hl.1 rfl (Nat.le_of_ble_eq_true rfl) dX8_firstOf_96 ⟨Nat.le_of_ble_eq_true rfl, Nat.le_of_ble_eq_true rfl⟩ (fun r_6 hr_6 => ?_)
          obtain rfl := hr_6
          refine lv_imul hx hb dX8_firstOf_99 ?_
          refine lv_topi (fun x_7 ex_7 => ?_)
          have qx_7 : x_7.toInt = x_5.toInt * 20736 := by rw [ex_7]; exact zf_mul rfl (by decide) (by omega) (by omega)
          refine lv_iload_n hx hb dX8_firstOf_100 rfl (lv_at hl 1 rfl) ?_
          refine lv_icmp_ne (tgt := 109) hx hb dX8_firstOf_101 (by decide) (fun c_8 => ?_) (fun c_8 => ?_)
          · have fc_8 : x_7.toInt ≠ r_2.toInt := zf_ne c_8 rfl rfl
            refine lv_bipush (v := 100) hx hb dX8_firstOf_109 (by decide) ?_
            exact W.iret (v := 100) hx hb hr (fun t ht hW => ⟨100, rfl, trivial, ht⟩) (fun q hq => by cases hq) dX8_firstOf_111
          · have fc_8 : x_7.toInt = r_2.toInt := zf_eq c_8 rfl rfl
            refine lv_bipush (v := 101) hx hb dX8_firstOf_104 (by decide) ?_
            refine lv_goto (tgt := 111) hx hb dX8_firstOf_106 (by decide) ?_
            exact W.iret (v := 101) hx hb hr (fun t ht hW => ⟨101, rfl, trivial, ht⟩) (fun q hq => by cases hq) dX8_firstOf_111
      · exfalso; have fc_3 : i_25.toInt < npu.toInt := zf_nle c_3 rfl rfl; omega
    | succ nfu ih =>
      intro i_25 ls hl hloi_25 hni_25
      refine lv_iload_n hx hb dX8_firstOf_25 rfl (lv_at hl 0 rfl) ?_
      refine lv_aload_n hx hb dX8_firstOf_26 rfl (lv_at hl 2 rfl) ?_
      refine va_get (D := D) (ci := 8) (v := .int npu) (C := RX8) (T := TX8) (N := 38) hx hb hts hi_X8_firstOf_8 hown hK hP 0 rfl rfl 0 (by decide) (hts (.fieldLink RX8 90 "TheLiningsInItModel" "pulls" "I") (List.mem_of_getElem? (i := 3) rfl)) (fun _ h9 => h9) rfl dX8_firstOf_27 ?_
      refine lv_icmp_ge (tgt := 79) hx hb dX8_firstOf_30 (by decide) (fun c_9 => ?_) (fun c_9 => ?_)
      · have fc_9 : npu.toInt ≤ i_25.toInt := zf_le c_9 rfl rfl
        refine lv_aload_n hx hb dX8_firstOf_79 rfl (lv_at hl 2 rfl) ?_
        refine va_get (D := D) (ci := 8) (v := .int nse) (C := RX8) (T := TX8) (N := 38) hx hb hts hi_X8_firstOf_8 hown hK hP 0 rfl rfl 5 (by decide) (hts (.fieldLink RX8 13 "TheLiningsInItModel" "seconds" "I") (List.mem_of_getElem? (i := 2) rfl)) (fun _ h9 => h9) rfl dX8_firstOf_80 ?_
        refine lv_bipush (v := 30) hx hb dX8_firstOf_83 (by decide) ?_
        refine lv_icmp_lt (tgt := 109) hx hb dX8_firstOf_85 (by decide) (fun c_10 => ?_) (fun c_10 => ?_)
        · have fc_10 : nse.toInt < 30 := zf_lt c_10 rfl (by decide)
          refine lv_bipush (v := 100) hx hb dX8_firstOf_109 (by decide) ?_
          exact W.iret (v := 100) hx hb hr (fun t ht hW => ⟨100, rfl, trivial, ht⟩) (fun q hq => by cases hq) dX8_firstOf_111
        · have fc_10 : 30 ≤ nse.toInt := zf_nlt c_10 rfl (by decide)
          refine lv_aload_n hx hb dX8_firstOf_88 rfl (lv_at hl 2 rfl) ?_
          refine va_get (D := D) (ci := 8) (v := .ref mco) (C := RX8) (T := TX8) (N := 38) hx hb hts hi_X8_firstOf_8 hown hK hP 0 rfl rfl 16 (by decide) (hts (.fieldLink RX8 44 "TheLiningsInItModel" "cost" "[I") (List.mem_of_getElem? (i := 4) rfl)) (fun _ h9 => h9) rfl dX8_firstOf_89 ?_
          refine lv_iconst (v := 1) hx hb dX8_firstOf_92 (by decide) ?_
          refine va_iald hx hb hK hP 4 0 rfl rfl (zf_in (by decide) (by decide)) dX8_firstOf_93 ?_
          refine lv_topi (fun x_11 ex_11 => ?_)
          have bx_11 : 0 ≤ x_11.toInt ∧ x_11.toInt ≤ 99 := by rw [ex_11]; exact hp_gco _
          refine lv_aload_n hx hb dX8_firstOf_94 rfl (lv_at hl 2 rfl) ?_
          refine lv_iload_n hx hb dX8_firstOf_95 rfl (lv_at hl 3 rfl) ?_
          refine zc_V (As := [.int 4]) (rest := [.int x_11]) ⟨hx, hb, hml, hown, hts⟩ (c_M_power_4 l D cI cJ cZ cP cS po m0 mrf mki mpa mta mla msl mco mhe mso msi msh mce mca mwo mnu mte mwa mke mma mth mtr (npu) (nte) (nat_) (nde) (nto) (nse) (nhu) (nga) (nsd) (nfa) (nba) (npl) (nen) (nnu) (nwr) (nra) (nik) hy0 hy1 hy2 hy3 hy4 hy5 hy6 hy7 hy8 hy9 hy10 hy11 hy12 hy13) (cwV 1 hts gX8_firstOf_X8_power rfl rfl rfl ⟨rfl, dh_X8_power⟩ ⟨Nat.le_of_ble_eq_true rfl, Nat.le_of_ble_eq_true rfl⟩) hK hN hZ hP (hP.sub [0] rfl) (va_recv (q := (RX8, TX8, 38)) hK hP (ci := 8) (q0 := 0) rfl rfl) rfl hl.1 rfl (Nat.le_of_ble_eq_true rfl) dX8_firstOf_96 ⟨Nat.le_of_ble_eq_true rfl, Nat.le_of_ble_eq_true rfl⟩ (fun r_12 hr_12 => ?_)
          obtain rfl := hr_12
          refine lv_imul hx hb dX8_firstOf_99 ?_
          refine lv_topi (fun x_13 ex_13 => ?_)
          have qx_13 : x_13.toInt = x_11.toInt * 20736 := by rw [ex_13]; exact zf_mul rfl (by decide) (by omega) (by omega)
          refine lv_iload_n hx hb dX8_firstOf_100 rfl (lv_at hl 1 rfl) ?_
          refine lv_icmp_ne (tgt := 109) hx hb dX8_firstOf_101 (by decide) (fun c_14 => ?_) (fun c_14 => ?_)
          · have fc_14 : x_13.toInt ≠ r_2.toInt := zf_ne c_14 rfl rfl
            refine lv_bipush (v := 100) hx hb dX8_firstOf_109 (by decide) ?_
            exact W.iret (v := 100) hx hb hr (fun t ht hW => ⟨100, rfl, trivial, ht⟩) (fun q hq => by cases hq) dX8_firstOf_111
          · have fc_14 : x_13.toInt = r_2.toInt := zf_eq c_14 rfl rfl
            refine lv_bipush (v := 101) hx hb dX8_firstOf_104 (by decide) ?_
            refine lv_goto (tgt := 111) hx hb dX8_firstOf_106 (by decide) ?_
            exact W.iret (v := 101) hx hb hr (fun t ht hW => ⟨101, rfl, trivial, ht⟩) (fun q hq => by cases hq) dX8_firstOf_111
      · have fc_9 : i_25.toInt < npu.toInt := zf_nle c_9 rfl rfl
        refine lv_iload_n hx hb dX8_firstOf_33 rfl (lv_at hl 3 rfl) ?_
        refine lv_if_le (tgt := 79) hx hb dX8_firstOf_34 (by decide) (fun c_15 => ?_) (fun c_15 => ?_)
        · exact absurd c_15 (by decide)
        · refine lv_aload_n hx hb dX8_firstOf_37 rfl (lv_at hl 2 rfl) ?_
          refine lv_iload_n hx hb dX8_firstOf_38 rfl (lv_at hl 0 rfl) ?_
          refine lv_aload_n hx hb dX8_firstOf_39 rfl (lv_at hl 2 rfl) ?_
          refine va_get (D := D) (ci := 8) (v := .int nde) (C := RX8) (T := TX8) (N := 38) hx hb hts hi_X8_firstOf_8 hown hK hP 0 rfl rfl 3 (by decide) (hts (.fieldLink RX8 115 "TheLiningsInItModel" "depth" "I") (List.mem_of_getElem? (i := 1) rfl)) (fun _ h9 => h9) rfl dX8_firstOf_40 ?_
          refine lv_aload_n hx hb dX8_firstOf_43 rfl (lv_at hl 2 rfl) ?_
          refine va_get (D := D) (ci := 8) (v := .int nse) (C := RX8) (T := TX8) (N := 38) hx hb hts hi_X8_firstOf_8 hown hK hP 0 rfl rfl 5 (by decide) (hts (.fieldLink RX8 13 "TheLiningsInItModel" "seconds" "I") (List.mem_of_getElem? (i := 2) rfl)) (fun _ h9 => h9) rfl dX8_firstOf_44 ?_
          refine zc_V (As := [.int i_25, .int nde, .int nse]) (rest := []) ⟨hx, hb, hml, hown, hts⟩ (c_M_mayBe l D cI cJ cZ cP cS po m0 mrf mki mpa mta mla msl mco mhe mso msi msh mce mca mwo mnu mte mwa mke mma mth mtr (npu) (nte) (nat_) (nde) (nto) (nse) (nhu) (nga) (nsd) (nfa) (nba) (npl) (nen) (nnu) (nwr) (nra) (nik) gta (i_25) (nde) (nse) hy0 hy1 hy2 hy3 hy4 hy5 hy6 hy7 hy8 hy9 hy10 hy11 hy12 hy13 (by omega) (by omega) hp_gta) (cwV 3 hts gX8_firstOf_X8_mayBe rfl rfl rfl ⟨rfl, dh_X8_mayBe⟩ ⟨Nat.le_of_ble_eq_true rfl, Nat.le_of_ble_eq_true rfl⟩) hK hN hZ hP (hP.sub [0, 3] rfl) (va_recv (q := (RX8, TX8, 38)) hK hP (ci := 8) (q0 := 0) rfl rfl) rfl hl.1 rfl (Nat.le_of_ble_eq_true rfl) dX8_firstOf_47 ⟨Nat.le_of_ble_eq_true rfl, Nat.le_of_ble_eq_true rfl⟩ (fun r_16 hr_16 => ?_)
          obtain ⟨g_17, g_18, hsr_16_0⟩ := hr_16
          refine lv_if_eq (tgt := 73) hx hb dX8_firstOf_50 (by decide) (fun c_19 => ?_) (fun c_19 => ?_)
          · have fc_19 : r_16.toInt = 0 := zf_eq c_19 rfl (by decide)
            obtain ⟨x_20, ex_20⟩ : ∃ y : Int32, y = i_25 + 1 := ⟨_, rfl⟩
            have qx_20 : x_20.toInt = i_25.toInt + 1 := dw_inc ex_20 fc_9
            refine lv_iinc (v := x_20) (lv' := [(3, .int x_20), (2, .int r_2), (0, .ref m0), (1, .int 4)]) hx hb dX8_firstOf_73 hl (k := 0) rfl ex_20.symm (by decide) rfl (fun ls hl => ?_)
            refine lv_goto (tgt := 25) hx hb dX8_firstOf_76 (by decide) ?_
            exact ih x_20 _ (lv_sub hl [0, 1, 2, 3] rfl) (dw_lo hloi_25 qx_20) (dw_hn hni_25 qx_20)
          · have fc_19 : r_16.toInt ≠ 0 := zf_ne c_19 rfl (by decide)
            refine lv_aload_n hx hb dX8_firstOf_53 rfl (lv_at hl 2 rfl) ?_
            refine lv_iload_n hx hb dX8_firstOf_54 rfl (lv_at hl 0 rfl) ?_
            refine lv_iload_n hx hb dX8_firstOf_55 rfl (lv_at hl 3 rfl) ?_
            refine lv_aload_n hx hb dX8_firstOf_56 rfl (lv_at hl 2 rfl) ?_
            refine va_get (D := D) (ci := 8) (v := .int nde) (C := RX8) (T := TX8) (N := 38) hx hb hts hi_X8_firstOf_8 hown hK hP 0 rfl rfl 3 (by decide) (hts (.fieldLink RX8 115 "TheLiningsInItModel" "depth" "I") (List.mem_of_getElem? (i := 1) rfl)) (fun _ h9 => h9) rfl dX8_firstOf_57 ?_
            refine lv_aload_n hx hb dX8_firstOf_60 rfl (lv_at hl 2 rfl) ?_
            refine va_get (D := D) (ci := 8) (v := .int nse) (C := RX8) (T := TX8) (N := 38) hx hb hts hi_X8_firstOf_8 hown hK hP 0 rfl rfl 5 (by decide) (hts (.fieldLink RX8 13 "TheLiningsInItModel" "seconds" "I") (List.mem_of_getElem? (i := 2) rfl)) (fun _ h9 => h9) rfl dX8_firstOf_61 ?_
            refine zc_V (As := [.int i_25, .int 4, .int nde, .int nse]) (rest := []) ⟨hx, hb, hml, hown, hts⟩ (c_M_costBy_4 l D cI cJ cZ cP cS po m0 mrf mki mpa mta mla msl mco mhe mso msi msh mce mca mwo mnu mte mwa mke mma mth mtr (npu) (nte) (nat_) (nde) (nto) (nse) (nhu) (nga) (nsd) (nfa) (nba) (npl) (nen) (nnu) (nwr) (nra) (nik) gki gpa gta gco (i_25) (nde) (nse) hy0 hy1 hy2 hy3 hy4 hy5 hy6 hy7 hy8 hy9 hy10 hy11 hy12 hy13 (by omega) (by omega) hy6 hy7 hp_gki hp_gpa hp_gta hp_gco) (cwV 4 hts gX8_firstOf_X8_costBy rfl rfl rfl ⟨rfl, dh_X8_costBy⟩ ⟨Nat.le_of_ble_eq_true rfl, Nat.le_of_ble_eq_true rfl⟩) hK hN hZ hP (hP.sub [0, 1, 2, 3, 4] rfl) (va_recv (q := (RX8, TX8, 38)) hK hP (ci := 8) (q0 := 0) rfl rfl) rfl hl.1 rfl (Nat.le_of_ble_eq_true rfl) dX8_firstOf_64 ⟨Nat.le_of_ble_eq_true rfl, Nat.le_of_ble_eq_true rfl⟩ (fun r_21 hr_21 => ?_)
            refine lv_iload_n hx hb dX8_firstOf_67 rfl (lv_at hl 1 rfl) ?_
            refine lv_icmp_ne (tgt := 73) hx hb dX8_firstOf_68 (by decide) (fun c_22 => ?_) (fun c_22 => ?_)
            · have fc_22 : r_21.toInt ≠ r_2.toInt := zf_ne c_22 rfl rfl
              obtain ⟨x_23, ex_23⟩ : ∃ y : Int32, y = i_25 + 1 := ⟨_, rfl⟩
              have qx_23 : x_23.toInt = i_25.toInt + 1 := dw_inc ex_23 fc_9
              refine lv_iinc (v := x_23) (lv' := [(3, .int x_23), (2, .int r_2), (0, .ref m0), (1, .int 4)]) hx hb dX8_firstOf_73 hl (k := 0) rfl ex_23.symm (by decide) rfl (fun ls hl => ?_)
              refine lv_goto (tgt := 25) hx hb dX8_firstOf_76 (by decide) ?_
              exact ih x_23 _ (lv_sub hl [0, 1, 2, 3] rfl) (dw_lo hloi_25 qx_23) (dw_hn hni_25 qx_23)
            · have fc_22 : r_21.toInt = r_2.toInt := zf_eq c_22 rfl rfl
              refine lv_iload_n hx hb dX8_firstOf_71 rfl (lv_at hl 0 rfl) ?_
              exact W.iret (v := i_25) hx hb hr (fun t ht hW => ⟨i_25, rfl, trivial, ht⟩) (fun q hq => by cases hq) dX8_firstOf_72
  · have fc_1 : nde.toInt = 0 := zf_eq c_1 rfl (by decide)
    refine lv_iconst (v := (-1)) hx hb dX8_firstOf_7 (by decide) ?_
    exact W.iret (v := (-1)) hx hb hr (fun t ht hW => ⟨(-1), rfl, trivial, ht⟩) (fun q hq => by cases hq) dX8_firstOf_8
theorem hi_X8_line_8 : ∀ w ∈ u_ws RX8 TX8 38, w ∈ wsX8_line := fun w h => (gl_X8_line_X80 w h).1
set_option maxHeartbeats 4000000 in
set_option maxRecDepth 100000 in
theorem c_M_line (l : Launch) (D : va_G) (cI cJ cZ cP cS : ClassId) (po : zPool) (m0 mrf mki mpa mta mla msl mco mhe mso msi msh mce mca mwo mnu mte mwa mke mma mth mtr : Nat) (npu nte nat_ nde nto nse nhu nga nsd nfa nba npl nen nnu nwr nra nik : Int32) (grf gki gpa gta gco : Nat → Int32) (n w : Int32) (hy0 : 0 ≤ npu.toInt) (hy1 : npu.toInt ≤ 8) (hy2 : 4 ≤ nte.toInt) (hy3 : nte.toInt ≤ 40) (hy4 : 0 ≤ nat_.toInt) (hy5 : nat_.toInt ≤ 40) (hy6 : 0 ≤ nde.toInt) (hy7 : nde.toInt ≤ 24) (hy8 : 0 ≤ nhu.toInt) (hy9 : nhu.toInt ≤ 9) (hy10 : 0 ≤ nra.toInt) (hy11 : nra.toInt ≤ 2000) (hy12 : 0 ≤ nik.toInt) (hy13 : nik.toInt ≤ 1) (hp_gki : zRg gki (0) 6) (hp_gpa : zRg gpa (0) 9) (hp_gta : zRg gta (0) 60) (hp_gco : zRg gco (0) 99) (hpz : Nat) : Met l yX8_line wsX8_line ({ frames := 11, cells := 0, slots := 0, locals := 278 }) (va_Pc [.ref m0, .int n, .int w] (zW D (zKT cI cJ cZ cP cS) po [(zMO m0 npu nte nat_ nde nto nse nhu nga nsd nfa mrf mki mpa mta mla msl mco mhe mso msi msh mce mca mwo mnu mte nba npl nen nnu nwr mwa mke mma mth mtr nra nik), (mrf, .inl (cI, 8, .inl grf)), (mki, .inl (cI, 8, .inl gki)), (mpa, .inl (cI, 8, .inl gpa)), (mta, .inl (cI, 8, .inl gta)), (mco, .inl (cI, 3, .inl gco))] hpz)) (va_Qi (fun (r : Int32) (grf2 : (Nat → Int32)) => True) (zB D [(zMO m0 npu nte nat_ nde nto nse nhu nga nsd nfa mrf mki mpa mta mla msl mco mhe mso msi msh mce mca mwo mnu mte nba npl nen nnu nwr mwa mke mma mth mtr nra nik), (mrf, .inl (cI, 8, .inl grf)), (mki, .inl (cI, 8, .inl gki)), (mpa, .inl (cI, 8, .inl gpa)), (mta, .inl (cI, 8, .inl gta)), (mco, .inl (cI, 3, .inl gco))] hpz (fun (grf2 : Nat → Int32) => [(zMO m0 npu nte nat_ nde nto nse nhu nga nsd nfa mrf mki mpa mta mla msl mco mhe mso msi msh mce mca mwo mnu mte nba npl nen nnu nwr mwa mke mma mth mtr nra nik), (mrf, .inl (cI, 8, .inl grf2)), (mki, .inl (cI, 8, .inl gki)), (mpa, .inl (cI, 8, .inl gpa)), (mta, .inl (cI, 8, .inl gta)), (mco, .inl (cI, 3, .inl gco))])) (va_A [(zMO m0 npu nte nat_ nde nto nse nhu nga nsd nfa mrf mki mpa mta mla msl mco mhe mso msi msh mce mca mwo mnu mte nba npl nen nnu nwr mwa mke mma mth mtr nra nik), (mrf, .inl (cI, 8, .inl grf)), (mki, .inl (cI, 8, .inl gki)), (mpa, .inl (cI, 8, .inl gpa)), (mta, .inl (cI, 8, .inl gta)), (mco, .inl (cI, 3, .inl gco))] hpz)) 0 0 (va_A [(zMO m0 npu nte nat_ nde nto nse nhu nga nsd nfa mrf mki mpa mta mla msl mco mhe mso msi msh mce mca mwo mnu mte nba npl nen nnu nwr mwa mke mma mth mtr nra nik), (mrf, .inl (cI, 8, .inl grf)), (mki, .inl (cI, 8, .inl gki)), (mpa, .inl (cI, 8, .inl gpa)), (mta, .inl (cI, 8, .inl gta)), (mco, .inl (cI, 3, .inl gco))] hpz) := by
  refine Met.ofW (cc := cX8_line) (maxL := 3) (ret := (some .int)) (by decide) rfl ?_
  intro p e s m args below meth c s₁ B hml hv
  obtain ⟨rfl, hsz, hP, hK, hD0, hN, hZ⟩ := hv
  have hx := B.exec
  have hb := B.bytes
  have hr := B.returns
  have hts := atoms_spec (ws := wsX8_line) B.pre
  have hown : s.vm.findClass RX8 = some m.cls := findClass_of_methodNamed B.named
  have hlocks := B.notSynchronized
  subst hsz
  have hD := hD0.self (sz := s.heap.size)
  have hA := zA_of hD
  have hl := lv_entry ([.ref m0, .int n, .int w]) (n := 3) (Nat.le_of_ble_eq_true rfl)
  rw [lg_entry_eq]
  generalize (lg_sl ([.ref m0, .int n, .int w]) ++ List.replicate (3 - (lg_sl ([.ref m0, .int n, .int w])).length) Slot.unset).toArray = ls at hl ⊢
  replace hl : lv_has ls 3 [(0, .ref m0), (1, .int n), (2, .int w)] := hl
  refine zw_begin hP hD (fun H locs hP1 hS => ?_)
  clear hP
  have hP := hP1
  clear hP1
  refine lv_iload_n hx hb dX8_line_0 rfl (lv_at hl 2 rfl) ?_
  refine lv_if_lt (tgt := 9) hx hb dX8_line_1 (by decide) (fun c_1 => ?_) (fun c_1 => ?_)
  · have fc_1 : w.toInt < 0 := zf_lt c_1 rfl (by decide)
    refine lv_aload_n hx hb dX8_line_9 rfl (lv_at hl 0 rfl) ?_
    refine lv_bipush (v := (-5)) hx hb dX8_line_10 (by decide) ?_
    skip
    refine zw_V (As := [.int (-5)]) (rest := []) (wr := [(mki, .inl (cI, 8, .inl gki)), (mpa, .inl (cI, 8, .inl gpa)), (mta, .inl (cI, 8, .inl gta)), (mco, .inl (cI, 3, .inl gco))]) ⟨hx, hb, hml, hown, hts⟩ (c_M_noTen_5 l D cI cJ cZ cP cS po m0 mrf mki mpa mta mla msl mco mhe mso msi msh mce mca mwo mnu mte mwa mke mma mth mtr (npu) (nte) (nat_) (nde) (nto) (nse) (nhu) (nga) (nsd) (nfa) (nba) (npl) (nen) (nnu) (nwr) (nra) (nik) grf hy0 hy1 hy2 hy3 hy4 hy5 hy6 hy7 hy8 hy9 hy10 hy11 hy12 hy13 H.size) (cwV 1 hts gX8_line_X8_noTen rfl rfl rfl ⟨rfl, dh_X8_noTen⟩ ⟨Nat.le_of_ble_eq_true rfl, Nat.le_of_ble_eq_true rfl⟩) hK hN (hZ.kept hS) hP hD hS hA [0, 1] [2, 3, 4, 5] rfl rfl (by decide) (by decide) (by decide) (va_recv (q := (RX8, TX8, 38)) hK hP (ci := 8) (q0 := 0) rfl rfl) rfl hl.1 rfl (Nat.le_of_ble_eq_true rfl) dX8_line_12 ⟨Nat.le_of_ble_eq_true rfl, Nat.le_of_ble_eq_true rfl⟩ (fun r_2 u_3 H locs hr_2 hP hD hS => ?_)
    obtain ⟨q_4, rfl⟩ : ∃ z, z = u_3 := ⟨_, rfl⟩
    have h9R := zRe (ws' := [(mki, .inl (cI, 8, .inl gki)), (mpa, .inl (cI, 8, .inl gpa)), (mta, .inl (cI, 8, .inl gta)), (mco, .inl (cI, 3, .inl gco)), (zMO m0 npu nte nat_ nde nto nse nhu nga nsd nfa mrf mki mpa mta mla msl mco mhe mso msi msh mce mca mwo mnu mte nba npl nen nnu nwr mwa mke mma mth mtr nra nik), (mrf, .inl (cI, 8, .inl q_4))]) hP hD rfl
    clear hP hD
    obtain ⟨hP, hD⟩ := h9R
    obtain rfl := hr_2
    exact W.iret (v := (-15)) hx hb hr (fun t ht hW => ⟨⟨(-15), q_4, rfl, trivial, zRet ht hP hD [4, 5, 0, 1, 2, 3] (by decide) rfl⟩, hS.F ht⟩) hS.2.2 dX8_line_15
  · have fc_1 : 0 ≤ w.toInt := zf_nlt c_1 rfl (by decide)
    refine lv_iload_n hx hb dX8_line_4 rfl (lv_at hl 2 rfl) ?_
    refine lv_iconst (v := 1) hx hb dX8_line_5 (by decide) ?_
    refine lv_icmp_le (tgt := 16) hx hb dX8_line_6 (by decide) (fun c_5 => ?_) (fun c_5 => ?_)
    · have fc_5 : w.toInt ≤ 1 := zf_le c_5 rfl (by decide)
      refine lv_aload_n hx hb dX8_line_16 rfl (lv_at hl 0 rfl) ?_
      refine lv_iload_n hx hb dX8_line_17 rfl (lv_at hl 1 rfl) ?_
      refine zc_V (As := [.int n]) (rest := []) ⟨hx, hb, hml, hown, hts⟩ (c_M_isFew l D cI cJ cZ cP cS po m0 mrf mki mpa mta mla msl mco mhe mso msi msh mce mca mwo mnu mte mwa mke mma mth mtr (npu) (nte) (nat_) (nde) (nto) (nse) (nhu) (nga) (nsd) (nfa) (nba) (npl) (nen) (nnu) (nwr) (nra) (nik) (n) hy0 hy1 hy2 hy3 hy4 hy5 hy6 hy7 hy8 hy9 hy10 hy11 hy12 hy13) (cwV 1 hts gX8_line_X8_isFew rfl rfl rfl ⟨rfl, dh_X8_isFew⟩ ⟨Nat.le_of_ble_eq_true rfl, Nat.le_of_ble_eq_true rfl⟩) hK hN (hZ.kept hS) hP (hP.sub [0] rfl) (va_recv (q := (RX8, TX8, 38)) hK hP (ci := 8) (q0 := 0) rfl rfl) rfl hl.1 rfl (Nat.le_of_ble_eq_true rfl) dX8_line_18 ⟨Nat.le_of_ble_eq_true rfl, Nat.le_of_ble_eq_true rfl⟩ (fun r_6 hr_6 => ?_)
      rcases hr_6 with ⟨rfl, g_7⟩ | ⟨rfl, g_8, g_9⟩ | ⟨rfl, g_10, g_11⟩
      · refine lv_if_ne (tgt := 31) hx hb dX8_line_21 (by decide) (fun c_12 => ?_) (fun c_12 => ?_)
        · exact absurd c_12 (by decide)
        · refine lv_aload_n hx hb dX8_line_24 rfl (lv_at hl 0 rfl) ?_
          refine lv_bipush (v := (-6)) hx hb dX8_line_25 (by decide) ?_
          skip
          refine zw_V (As := [.int (-6)]) (rest := []) (wr := [(mki, .inl (cI, 8, .inl gki)), (mpa, .inl (cI, 8, .inl gpa)), (mta, .inl (cI, 8, .inl gta)), (mco, .inl (cI, 3, .inl gco))]) ⟨hx, hb, hml, hown, hts⟩ (c_M_noTen_6 l D cI cJ cZ cP cS po m0 mrf mki mpa mta mla msl mco mhe mso msi msh mce mca mwo mnu mte mwa mke mma mth mtr (npu) (nte) (nat_) (nde) (nto) (nse) (nhu) (nga) (nsd) (nfa) (nba) (npl) (nen) (nnu) (nwr) (nra) (nik) grf hy0 hy1 hy2 hy3 hy4 hy5 hy6 hy7 hy8 hy9 hy10 hy11 hy12 hy13 H.size) (cwV 1 hts gX8_line_X8_noTen rfl rfl rfl ⟨rfl, dh_X8_noTen⟩ ⟨Nat.le_of_ble_eq_true rfl, Nat.le_of_ble_eq_true rfl⟩) hK hN (hZ.kept hS) hP hD hS hA [0, 1] [2, 3, 4, 5] rfl rfl (by decide) (by decide) (by decide) (va_recv (q := (RX8, TX8, 38)) hK hP (ci := 8) (q0 := 0) rfl rfl) rfl hl.1 rfl (Nat.le_of_ble_eq_true rfl) dX8_line_27 ⟨Nat.le_of_ble_eq_true rfl, Nat.le_of_ble_eq_true rfl⟩ (fun r_13 u_14 H locs hr_13 hP hD hS => ?_)
          obtain ⟨q_15, rfl⟩ : ∃ z, z = u_14 := ⟨_, rfl⟩
          have h9R := zRe (ws' := [(mki, .inl (cI, 8, .inl gki)), (mpa, .inl (cI, 8, .inl gpa)), (mta, .inl (cI, 8, .inl gta)), (mco, .inl (cI, 3, .inl gco)), (zMO m0 npu nte nat_ nde nto nse nhu nga nsd nfa mrf mki mpa mta mla msl mco mhe mso msi msh mce mca mwo mnu mte nba npl nen nnu nwr mwa mke mma mth mtr nra nik), (mrf, .inl (cI, 8, .inl q_15))]) hP hD rfl
          clear hP hD
          obtain ⟨hP, hD⟩ := h9R
          obtain rfl := hr_13
          exact W.iret (v := (-16)) hx hb hr (fun t ht hW => ⟨⟨(-16), q_15, rfl, trivial, zRet ht hP hD [4, 5, 0, 1, 2, 3] (by decide) rfl⟩, hS.F ht⟩) hS.2.2 dX8_line_30
      · refine lv_if_ne (tgt := 31) hx hb dX8_line_21 (by decide) (fun c_16 => ?_) (fun c_16 => ?_)
        · exact absurd c_16 (by decide)
        · refine lv_aload_n hx hb dX8_line_24 rfl (lv_at hl 0 rfl) ?_
          refine lv_bipush (v := (-6)) hx hb dX8_line_25 (by decide) ?_
          skip
          refine zw_V (As := [.int (-6)]) (rest := []) (wr := [(mki, .inl (cI, 8, .inl gki)), (mpa, .inl (cI, 8, .inl gpa)), (mta, .inl (cI, 8, .inl gta)), (mco, .inl (cI, 3, .inl gco))]) ⟨hx, hb, hml, hown, hts⟩ (c_M_noTen_6 l D cI cJ cZ cP cS po m0 mrf mki mpa mta mla msl mco mhe mso msi msh mce mca mwo mnu mte mwa mke mma mth mtr (npu) (nte) (nat_) (nde) (nto) (nse) (nhu) (nga) (nsd) (nfa) (nba) (npl) (nen) (nnu) (nwr) (nra) (nik) grf hy0 hy1 hy2 hy3 hy4 hy5 hy6 hy7 hy8 hy9 hy10 hy11 hy12 hy13 H.size) (cwV 1 hts gX8_line_X8_noTen rfl rfl rfl ⟨rfl, dh_X8_noTen⟩ ⟨Nat.le_of_ble_eq_true rfl, Nat.le_of_ble_eq_true rfl⟩) hK hN (hZ.kept hS) hP hD hS hA [0, 1] [2, 3, 4, 5] rfl rfl (by decide) (by decide) (by decide) (va_recv (q := (RX8, TX8, 38)) hK hP (ci := 8) (q0 := 0) rfl rfl) rfl hl.1 rfl (Nat.le_of_ble_eq_true rfl) dX8_line_27 ⟨Nat.le_of_ble_eq_true rfl, Nat.le_of_ble_eq_true rfl⟩ (fun r_17 u_18 H locs hr_17 hP hD hS => ?_)
          obtain ⟨q_19, rfl⟩ : ∃ z, z = u_18 := ⟨_, rfl⟩
          have h9R := zRe (ws' := [(mki, .inl (cI, 8, .inl gki)), (mpa, .inl (cI, 8, .inl gpa)), (mta, .inl (cI, 8, .inl gta)), (mco, .inl (cI, 3, .inl gco)), (zMO m0 npu nte nat_ nde nto nse nhu nga nsd nfa mrf mki mpa mta mla msl mco mhe mso msi msh mce mca mwo mnu mte nba npl nen nnu nwr mwa mke mma mth mtr nra nik), (mrf, .inl (cI, 8, .inl q_19))]) hP hD rfl
          clear hP hD
          obtain ⟨hP, hD⟩ := h9R
          obtain rfl := hr_17
          exact W.iret (v := (-16)) hx hb hr (fun t ht hW => ⟨⟨(-16), q_19, rfl, trivial, zRet ht hP hD [4, 5, 0, 1, 2, 3] (by decide) rfl⟩, hS.F ht⟩) hS.2.2 dX8_line_30
      · refine lv_if_ne (tgt := 31) hx hb dX8_line_21 (by decide) (fun c_20 => ?_) (fun c_20 => ?_)
        · have hsp : n = 0 ∨ n = 1 ∨ n = 2 ∨ n = 3 ∨ n = 4 := by
            rcases (show n.toInt = 0 ∨ n.toInt = 1 ∨ n.toInt = 2 ∨ n.toInt = 3 ∨ n.toInt = 4 by omega) with h9 | h9 | h9 | h9 | h9
            · refine Or.inl ?_; exact zf_val h9 (by decide)
            · refine Or.inr (Or.inl ?_); exact zf_val h9 (by decide)
            · refine Or.inr (Or.inr (Or.inl ?_)); exact zf_val h9 (by decide)
            · refine Or.inr (Or.inr (Or.inr (Or.inl ?_))); exact zf_val h9 (by decide)
            · refine Or.inr (Or.inr (Or.inr (Or.inr (?_)))); exact zf_val h9 (by decide)
          rcases hsp with rfl | rfl | rfl | rfl | rfl
          · have kc0 : (0 : Int32).toInt = 0 := by decide
            refine lv_iload_n hx hb dX8_line_31 rfl (lv_at hl 2 rfl) ?_
            refine lv_if_ne (tgt := 51) hx hb dX8_line_32 (by decide) (fun c_21 => ?_) (fun c_21 => ?_)
            · have fc_21 : w.toInt ≠ 0 := zf_ne c_21 rfl (by decide)
              refine lv_aload_n hx hb dX8_line_51 rfl (lv_at hl 0 rfl) ?_
              refine lv_iload_n hx hb dX8_line_52 rfl (lv_at hl 1 rfl) ?_
              refine zc_V (As := [.int 0]) (rest := []) ⟨hx, hb, hml, hown, hts⟩ (c_M_firstOf_0 l D cI cJ cZ cP cS po m0 mrf mki mpa mta mla msl mco mhe mso msi msh mce mca mwo mnu mte mwa mke mma mth mtr (npu) (nte) (nat_) (nde) (nto) (nse) (nhu) (nga) (nsd) (nfa) (nba) (npl) (nen) (nnu) (nwr) (nra) (nik) gki gpa gta gco hy0 hy1 hy2 hy3 hy4 hy5 hy6 hy7 hy8 hy9 hy10 hy11 hy12 hy13 hp_gki hp_gpa hp_gta hp_gco) (cwV 1 hts gX8_line_X8_firstOf rfl rfl rfl ⟨rfl, dh_X8_firstOf⟩ ⟨Nat.le_of_ble_eq_true rfl, Nat.le_of_ble_eq_true rfl⟩) hK hN (hZ.kept hS) hP (hP.sub [0, 2, 3, 4, 5] rfl) (va_recv (q := (RX8, TX8, 38)) hK hP (ci := 8) (q0 := 0) rfl rfl) rfl hl.1 rfl (Nat.le_of_ble_eq_true rfl) dX8_line_53 ⟨Nat.le_of_ble_eq_true rfl, Nat.le_of_ble_eq_true rfl⟩ (fun r_22 hr_22 => ?_)
              exact W.iret (v := r_22) hx hb hr (fun t ht hW => ⟨⟨r_22, grf, rfl, trivial, zRet ht hP hD [0, 1, 2, 3, 4, 5] (by decide) rfl⟩, hS.F ht⟩) hS.2.2 dX8_line_56
            · have fc_21 : w.toInt = 0 := zf_eq c_21 rfl (by decide)
              refine lv_aload_n hx hb dX8_line_35 rfl (lv_at hl 0 rfl) ?_
              refine lv_iload_n hx hb dX8_line_36 rfl (lv_at hl 1 rfl) ?_
              refine lv_aload_n hx hb dX8_line_37 rfl (lv_at hl 0 rfl) ?_
              refine va_get (D := D) (ci := 8) (v := .int nde) (C := RX8) (T := TX8) (N := 38) hx hb hts hi_X8_line_8 hown hK hP 0 rfl rfl 3 (by decide) (hts (.fieldLink RX8 115 "TheLiningsInItModel" "depth" "I") (List.mem_of_getElem? (i := 1) rfl)) (fun _ h9 => h9) rfl dX8_line_38 ?_
              refine lv_aload_n hx hb dX8_line_41 rfl (lv_at hl 0 rfl) ?_
              refine va_get (D := D) (ci := 8) (v := .int nse) (C := RX8) (T := TX8) (N := 38) hx hb hts hi_X8_line_8 hown hK hP 0 rfl rfl 5 (by decide) (hts (.fieldLink RX8 13 "TheLiningsInItModel" "seconds" "I") (List.mem_of_getElem? (i := 2) rfl)) (fun _ h9 => h9) rfl dX8_line_42 ?_
              refine zc_V (As := [.int 0, .int nde, .int nse]) (rest := []) ⟨hx, hb, hml, hown, hts⟩ (c_M_leastCost_0 l D cI cJ cZ cP cS po m0 mrf mki mpa mta mla msl mco mhe mso msi msh mce mca mwo mnu mte mwa mke mma mth mtr (npu) (nte) (nat_) (nde) (nto) (nse) (nhu) (nga) (nsd) (nfa) (nba) (npl) (nen) (nnu) (nwr) (nra) (nik) gki gpa gta gco (nde) (nse) hy0 hy1 hy2 hy3 hy4 hy5 hy6 hy7 hy8 hy9 hy10 hy11 hy12 hy13 hy6 hy7 hp_gki hp_gpa hp_gta hp_gco) (cwV 3 hts gX8_line_X8_leastCost rfl rfl rfl ⟨rfl, dh_X8_leastCost⟩ ⟨Nat.le_of_ble_eq_true rfl, Nat.le_of_ble_eq_true rfl⟩) hK hN (hZ.kept hS) hP (hP.sub [0, 2, 3, 4, 5] rfl) (va_recv (q := (RX8, TX8, 38)) hK hP (ci := 8) (q0 := 0) rfl rfl) rfl hl.1 rfl (Nat.le_of_ble_eq_true rfl) dX8_line_45 ⟨Nat.le_of_ble_eq_true rfl, Nat.le_of_ble_eq_true rfl⟩ (fun r_23 hr_23 => ?_)
              refine lv_goto (tgt := 56) hx hb dX8_line_48 (by decide) ?_
              exact W.iret (v := r_23) hx hb hr (fun t ht hW => ⟨⟨r_23, grf, rfl, trivial, zRet ht hP hD [0, 1, 2, 3, 4, 5] (by decide) rfl⟩, hS.F ht⟩) hS.2.2 dX8_line_56
          · have kc1 : (1 : Int32).toInt = 1 := by decide
            refine lv_iload_n hx hb dX8_line_31 rfl (lv_at hl 2 rfl) ?_
            refine lv_if_ne (tgt := 51) hx hb dX8_line_32 (by decide) (fun c_24 => ?_) (fun c_24 => ?_)
            · have fc_24 : w.toInt ≠ 0 := zf_ne c_24 rfl (by decide)
              refine lv_aload_n hx hb dX8_line_51 rfl (lv_at hl 0 rfl) ?_
              refine lv_iload_n hx hb dX8_line_52 rfl (lv_at hl 1 rfl) ?_
              refine zc_V (As := [.int 1]) (rest := []) ⟨hx, hb, hml, hown, hts⟩ (c_M_firstOf_1 l D cI cJ cZ cP cS po m0 mrf mki mpa mta mla msl mco mhe mso msi msh mce mca mwo mnu mte mwa mke mma mth mtr (npu) (nte) (nat_) (nde) (nto) (nse) (nhu) (nga) (nsd) (nfa) (nba) (npl) (nen) (nnu) (nwr) (nra) (nik) gki gpa gta gco hy0 hy1 hy2 hy3 hy4 hy5 hy6 hy7 hy8 hy9 hy10 hy11 hy12 hy13 hp_gki hp_gpa hp_gta hp_gco) (cwV 1 hts gX8_line_X8_firstOf rfl rfl rfl ⟨rfl, dh_X8_firstOf⟩ ⟨Nat.le_of_ble_eq_true rfl, Nat.le_of_ble_eq_true rfl⟩) hK hN (hZ.kept hS) hP (hP.sub [0, 2, 3, 4, 5] rfl) (va_recv (q := (RX8, TX8, 38)) hK hP (ci := 8) (q0 := 0) rfl rfl) rfl hl.1 rfl (Nat.le_of_ble_eq_true rfl) dX8_line_53 ⟨Nat.le_of_ble_eq_true rfl, Nat.le_of_ble_eq_true rfl⟩ (fun r_25 hr_25 => ?_)
              exact W.iret (v := r_25) hx hb hr (fun t ht hW => ⟨⟨r_25, grf, rfl, trivial, zRet ht hP hD [0, 1, 2, 3, 4, 5] (by decide) rfl⟩, hS.F ht⟩) hS.2.2 dX8_line_56
            · have fc_24 : w.toInt = 0 := zf_eq c_24 rfl (by decide)
              refine lv_aload_n hx hb dX8_line_35 rfl (lv_at hl 0 rfl) ?_
              refine lv_iload_n hx hb dX8_line_36 rfl (lv_at hl 1 rfl) ?_
              refine lv_aload_n hx hb dX8_line_37 rfl (lv_at hl 0 rfl) ?_
              refine va_get (D := D) (ci := 8) (v := .int nde) (C := RX8) (T := TX8) (N := 38) hx hb hts hi_X8_line_8 hown hK hP 0 rfl rfl 3 (by decide) (hts (.fieldLink RX8 115 "TheLiningsInItModel" "depth" "I") (List.mem_of_getElem? (i := 1) rfl)) (fun _ h9 => h9) rfl dX8_line_38 ?_
              refine lv_aload_n hx hb dX8_line_41 rfl (lv_at hl 0 rfl) ?_
              refine va_get (D := D) (ci := 8) (v := .int nse) (C := RX8) (T := TX8) (N := 38) hx hb hts hi_X8_line_8 hown hK hP 0 rfl rfl 5 (by decide) (hts (.fieldLink RX8 13 "TheLiningsInItModel" "seconds" "I") (List.mem_of_getElem? (i := 2) rfl)) (fun _ h9 => h9) rfl dX8_line_42 ?_
              refine zc_V (As := [.int 1, .int nde, .int nse]) (rest := []) ⟨hx, hb, hml, hown, hts⟩ (c_M_leastCost_1 l D cI cJ cZ cP cS po m0 mrf mki mpa mta mla msl mco mhe mso msi msh mce mca mwo mnu mte mwa mke mma mth mtr (npu) (nte) (nat_) (nde) (nto) (nse) (nhu) (nga) (nsd) (nfa) (nba) (npl) (nen) (nnu) (nwr) (nra) (nik) gki gpa gta gco (nde) (nse) hy0 hy1 hy2 hy3 hy4 hy5 hy6 hy7 hy8 hy9 hy10 hy11 hy12 hy13 hy6 hy7 hp_gki hp_gpa hp_gta hp_gco) (cwV 3 hts gX8_line_X8_leastCost rfl rfl rfl ⟨rfl, dh_X8_leastCost⟩ ⟨Nat.le_of_ble_eq_true rfl, Nat.le_of_ble_eq_true rfl⟩) hK hN (hZ.kept hS) hP (hP.sub [0, 2, 3, 4, 5] rfl) (va_recv (q := (RX8, TX8, 38)) hK hP (ci := 8) (q0 := 0) rfl rfl) rfl hl.1 rfl (Nat.le_of_ble_eq_true rfl) dX8_line_45 ⟨Nat.le_of_ble_eq_true rfl, Nat.le_of_ble_eq_true rfl⟩ (fun r_26 hr_26 => ?_)
              refine lv_goto (tgt := 56) hx hb dX8_line_48 (by decide) ?_
              exact W.iret (v := r_26) hx hb hr (fun t ht hW => ⟨⟨r_26, grf, rfl, trivial, zRet ht hP hD [0, 1, 2, 3, 4, 5] (by decide) rfl⟩, hS.F ht⟩) hS.2.2 dX8_line_56
          · have kc2 : (2 : Int32).toInt = 2 := by decide
            refine lv_iload_n hx hb dX8_line_31 rfl (lv_at hl 2 rfl) ?_
            refine lv_if_ne (tgt := 51) hx hb dX8_line_32 (by decide) (fun c_27 => ?_) (fun c_27 => ?_)
            · have fc_27 : w.toInt ≠ 0 := zf_ne c_27 rfl (by decide)
              refine lv_aload_n hx hb dX8_line_51 rfl (lv_at hl 0 rfl) ?_
              refine lv_iload_n hx hb dX8_line_52 rfl (lv_at hl 1 rfl) ?_
              refine zc_V (As := [.int 2]) (rest := []) ⟨hx, hb, hml, hown, hts⟩ (c_M_firstOf_2 l D cI cJ cZ cP cS po m0 mrf mki mpa mta mla msl mco mhe mso msi msh mce mca mwo mnu mte mwa mke mma mth mtr (npu) (nte) (nat_) (nde) (nto) (nse) (nhu) (nga) (nsd) (nfa) (nba) (npl) (nen) (nnu) (nwr) (nra) (nik) gki gpa gta gco hy0 hy1 hy2 hy3 hy4 hy5 hy6 hy7 hy8 hy9 hy10 hy11 hy12 hy13 hp_gki hp_gpa hp_gta hp_gco) (cwV 1 hts gX8_line_X8_firstOf rfl rfl rfl ⟨rfl, dh_X8_firstOf⟩ ⟨Nat.le_of_ble_eq_true rfl, Nat.le_of_ble_eq_true rfl⟩) hK hN (hZ.kept hS) hP (hP.sub [0, 2, 3, 4, 5] rfl) (va_recv (q := (RX8, TX8, 38)) hK hP (ci := 8) (q0 := 0) rfl rfl) rfl hl.1 rfl (Nat.le_of_ble_eq_true rfl) dX8_line_53 ⟨Nat.le_of_ble_eq_true rfl, Nat.le_of_ble_eq_true rfl⟩ (fun r_28 hr_28 => ?_)
              exact W.iret (v := r_28) hx hb hr (fun t ht hW => ⟨⟨r_28, grf, rfl, trivial, zRet ht hP hD [0, 1, 2, 3, 4, 5] (by decide) rfl⟩, hS.F ht⟩) hS.2.2 dX8_line_56
            · have fc_27 : w.toInt = 0 := zf_eq c_27 rfl (by decide)
              refine lv_aload_n hx hb dX8_line_35 rfl (lv_at hl 0 rfl) ?_
              refine lv_iload_n hx hb dX8_line_36 rfl (lv_at hl 1 rfl) ?_
              refine lv_aload_n hx hb dX8_line_37 rfl (lv_at hl 0 rfl) ?_
              refine va_get (D := D) (ci := 8) (v := .int nde) (C := RX8) (T := TX8) (N := 38) hx hb hts hi_X8_line_8 hown hK hP 0 rfl rfl 3 (by decide) (hts (.fieldLink RX8 115 "TheLiningsInItModel" "depth" "I") (List.mem_of_getElem? (i := 1) rfl)) (fun _ h9 => h9) rfl dX8_line_38 ?_
              refine lv_aload_n hx hb dX8_line_41 rfl (lv_at hl 0 rfl) ?_
              refine va_get (D := D) (ci := 8) (v := .int nse) (C := RX8) (T := TX8) (N := 38) hx hb hts hi_X8_line_8 hown hK hP 0 rfl rfl 5 (by decide) (hts (.fieldLink RX8 13 "TheLiningsInItModel" "seconds" "I") (List.mem_of_getElem? (i := 2) rfl)) (fun _ h9 => h9) rfl dX8_line_42 ?_
              refine zc_V (As := [.int 2, .int nde, .int nse]) (rest := []) ⟨hx, hb, hml, hown, hts⟩ (c_M_leastCost_2 l D cI cJ cZ cP cS po m0 mrf mki mpa mta mla msl mco mhe mso msi msh mce mca mwo mnu mte mwa mke mma mth mtr (npu) (nte) (nat_) (nde) (nto) (nse) (nhu) (nga) (nsd) (nfa) (nba) (npl) (nen) (nnu) (nwr) (nra) (nik) gki gpa gta gco (nde) (nse) hy0 hy1 hy2 hy3 hy4 hy5 hy6 hy7 hy8 hy9 hy10 hy11 hy12 hy13 hy6 hy7 hp_gki hp_gpa hp_gta hp_gco) (cwV 3 hts gX8_line_X8_leastCost rfl rfl rfl ⟨rfl, dh_X8_leastCost⟩ ⟨Nat.le_of_ble_eq_true rfl, Nat.le_of_ble_eq_true rfl⟩) hK hN (hZ.kept hS) hP (hP.sub [0, 2, 3, 4, 5] rfl) (va_recv (q := (RX8, TX8, 38)) hK hP (ci := 8) (q0 := 0) rfl rfl) rfl hl.1 rfl (Nat.le_of_ble_eq_true rfl) dX8_line_45 ⟨Nat.le_of_ble_eq_true rfl, Nat.le_of_ble_eq_true rfl⟩ (fun r_29 hr_29 => ?_)
              refine lv_goto (tgt := 56) hx hb dX8_line_48 (by decide) ?_
              exact W.iret (v := r_29) hx hb hr (fun t ht hW => ⟨⟨r_29, grf, rfl, trivial, zRet ht hP hD [0, 1, 2, 3, 4, 5] (by decide) rfl⟩, hS.F ht⟩) hS.2.2 dX8_line_56
          · have kc3 : (3 : Int32).toInt = 3 := by decide
            refine lv_iload_n hx hb dX8_line_31 rfl (lv_at hl 2 rfl) ?_
            refine lv_if_ne (tgt := 51) hx hb dX8_line_32 (by decide) (fun c_30 => ?_) (fun c_30 => ?_)
            · have fc_30 : w.toInt ≠ 0 := zf_ne c_30 rfl (by decide)
              refine lv_aload_n hx hb dX8_line_51 rfl (lv_at hl 0 rfl) ?_
              refine lv_iload_n hx hb dX8_line_52 rfl (lv_at hl 1 rfl) ?_
              refine zc_V (As := [.int 3]) (rest := []) ⟨hx, hb, hml, hown, hts⟩ (c_M_firstOf_3 l D cI cJ cZ cP cS po m0 mrf mki mpa mta mla msl mco mhe mso msi msh mce mca mwo mnu mte mwa mke mma mth mtr (npu) (nte) (nat_) (nde) (nto) (nse) (nhu) (nga) (nsd) (nfa) (nba) (npl) (nen) (nnu) (nwr) (nra) (nik) gki gpa gta gco hy0 hy1 hy2 hy3 hy4 hy5 hy6 hy7 hy8 hy9 hy10 hy11 hy12 hy13 hp_gki hp_gpa hp_gta hp_gco) (cwV 1 hts gX8_line_X8_firstOf rfl rfl rfl ⟨rfl, dh_X8_firstOf⟩ ⟨Nat.le_of_ble_eq_true rfl, Nat.le_of_ble_eq_true rfl⟩) hK hN (hZ.kept hS) hP (hP.sub [0, 2, 3, 4, 5] rfl) (va_recv (q := (RX8, TX8, 38)) hK hP (ci := 8) (q0 := 0) rfl rfl) rfl hl.1 rfl (Nat.le_of_ble_eq_true rfl) dX8_line_53 ⟨Nat.le_of_ble_eq_true rfl, Nat.le_of_ble_eq_true rfl⟩ (fun r_31 hr_31 => ?_)
              exact W.iret (v := r_31) hx hb hr (fun t ht hW => ⟨⟨r_31, grf, rfl, trivial, zRet ht hP hD [0, 1, 2, 3, 4, 5] (by decide) rfl⟩, hS.F ht⟩) hS.2.2 dX8_line_56
            · have fc_30 : w.toInt = 0 := zf_eq c_30 rfl (by decide)
              refine lv_aload_n hx hb dX8_line_35 rfl (lv_at hl 0 rfl) ?_
              refine lv_iload_n hx hb dX8_line_36 rfl (lv_at hl 1 rfl) ?_
              refine lv_aload_n hx hb dX8_line_37 rfl (lv_at hl 0 rfl) ?_
              refine va_get (D := D) (ci := 8) (v := .int nde) (C := RX8) (T := TX8) (N := 38) hx hb hts hi_X8_line_8 hown hK hP 0 rfl rfl 3 (by decide) (hts (.fieldLink RX8 115 "TheLiningsInItModel" "depth" "I") (List.mem_of_getElem? (i := 1) rfl)) (fun _ h9 => h9) rfl dX8_line_38 ?_
              refine lv_aload_n hx hb dX8_line_41 rfl (lv_at hl 0 rfl) ?_
              refine va_get (D := D) (ci := 8) (v := .int nse) (C := RX8) (T := TX8) (N := 38) hx hb hts hi_X8_line_8 hown hK hP 0 rfl rfl 5 (by decide) (hts (.fieldLink RX8 13 "TheLiningsInItModel" "seconds" "I") (List.mem_of_getElem? (i := 2) rfl)) (fun _ h9 => h9) rfl dX8_line_42 ?_
              refine zc_V (As := [.int 3, .int nde, .int nse]) (rest := []) ⟨hx, hb, hml, hown, hts⟩ (c_M_leastCost_3 l D cI cJ cZ cP cS po m0 mrf mki mpa mta mla msl mco mhe mso msi msh mce mca mwo mnu mte mwa mke mma mth mtr (npu) (nte) (nat_) (nde) (nto) (nse) (nhu) (nga) (nsd) (nfa) (nba) (npl) (nen) (nnu) (nwr) (nra) (nik) gki gpa gta gco (nde) (nse) hy0 hy1 hy2 hy3 hy4 hy5 hy6 hy7 hy8 hy9 hy10 hy11 hy12 hy13 hy6 hy7 hp_gki hp_gpa hp_gta hp_gco) (cwV 3 hts gX8_line_X8_leastCost rfl rfl rfl ⟨rfl, dh_X8_leastCost⟩ ⟨Nat.le_of_ble_eq_true rfl, Nat.le_of_ble_eq_true rfl⟩) hK hN (hZ.kept hS) hP (hP.sub [0, 2, 3, 4, 5] rfl) (va_recv (q := (RX8, TX8, 38)) hK hP (ci := 8) (q0 := 0) rfl rfl) rfl hl.1 rfl (Nat.le_of_ble_eq_true rfl) dX8_line_45 ⟨Nat.le_of_ble_eq_true rfl, Nat.le_of_ble_eq_true rfl⟩ (fun r_32 hr_32 => ?_)
              refine lv_goto (tgt := 56) hx hb dX8_line_48 (by decide) ?_
              exact W.iret (v := r_32) hx hb hr (fun t ht hW => ⟨⟨r_32, grf, rfl, trivial, zRet ht hP hD [0, 1, 2, 3, 4, 5] (by decide) rfl⟩, hS.F ht⟩) hS.2.2 dX8_line_56
          · have kc4 : (4 : Int32).toInt = 4 := by decide
            refine lv_iload_n hx hb dX8_line_31 rfl (lv_at hl 2 rfl) ?_
            refine lv_if_ne (tgt := 51) hx hb dX8_line_32 (by decide) (fun c_33 => ?_) (fun c_33 => ?_)
            · have fc_33 : w.toInt ≠ 0 := zf_ne c_33 rfl (by decide)
              refine lv_aload_n hx hb dX8_line_51 rfl (lv_at hl 0 rfl) ?_
              refine lv_iload_n hx hb dX8_line_52 rfl (lv_at hl 1 rfl) ?_
              refine zc_V (As := [.int 4]) (rest := []) ⟨hx, hb, hml, hown, hts⟩ (c_M_firstOf_4 l D cI cJ cZ cP cS po m0 mrf mki mpa mta mla msl mco mhe mso msi msh mce mca mwo mnu mte mwa mke mma mth mtr (npu) (nte) (nat_) (nde) (nto) (nse) (nhu) (nga) (nsd) (nfa) (nba) (npl) (nen) (nnu) (nwr) (nra) (nik) gki gpa gta gco hy0 hy1 hy2 hy3 hy4 hy5 hy6 hy7 hy8 hy9 hy10 hy11 hy12 hy13 hp_gki hp_gpa hp_gta hp_gco) (cwV 1 hts gX8_line_X8_firstOf rfl rfl rfl ⟨rfl, dh_X8_firstOf⟩ ⟨Nat.le_of_ble_eq_true rfl, Nat.le_of_ble_eq_true rfl⟩) hK hN (hZ.kept hS) hP (hP.sub [0, 2, 3, 4, 5] rfl) (va_recv (q := (RX8, TX8, 38)) hK hP (ci := 8) (q0 := 0) rfl rfl) rfl hl.1 rfl (Nat.le_of_ble_eq_true rfl) dX8_line_53 ⟨Nat.le_of_ble_eq_true rfl, Nat.le_of_ble_eq_true rfl⟩ (fun r_34 hr_34 => ?_)
              exact W.iret (v := r_34) hx hb hr (fun t ht hW => ⟨⟨r_34, grf, rfl, trivial, zRet ht hP hD [0, 1, 2, 3, 4, 5] (by decide) rfl⟩, hS.F ht⟩) hS.2.2 dX8_line_56
            · have fc_33 : w.toInt = 0 := zf_eq c_33 rfl (by decide)
              refine lv_aload_n hx hb dX8_line_35 rfl (lv_at hl 0 rfl) ?_
              refine lv_iload_n hx hb dX8_line_36 rfl (lv_at hl 1 rfl) ?_
              refine lv_aload_n hx hb dX8_line_37 rfl (lv_at hl 0 rfl) ?_
              refine va_get (D := D) (ci := 8) (v := .int nde) (C := RX8) (T := TX8) (N := 38) hx hb hts hi_X8_line_8 hown hK hP 0 rfl rfl 3 (by decide) (hts (.fieldLink RX8 115 "TheLiningsInItModel" "depth" "I") (List.mem_of_getElem? (i := 1) rfl)) (fun _ h9 => h9) rfl dX8_line_38 ?_
              refine lv_aload_n hx hb dX8_line_41 rfl (lv_at hl 0 rfl) ?_
              refine va_get (D := D) (ci := 8) (v := .int nse) (C := RX8) (T := TX8) (N := 38) hx hb hts hi_X8_line_8 hown hK hP 0 rfl rfl 5 (by decide) (hts (.fieldLink RX8 13 "TheLiningsInItModel" "seconds" "I") (List.mem_of_getElem? (i := 2) rfl)) (fun _ h9 => h9) rfl dX8_line_42 ?_
              refine zc_V (As := [.int 4, .int nde, .int nse]) (rest := []) ⟨hx, hb, hml, hown, hts⟩ (c_M_leastCost_4 l D cI cJ cZ cP cS po m0 mrf mki mpa mta mla msl mco mhe mso msi msh mce mca mwo mnu mte mwa mke mma mth mtr (npu) (nte) (nat_) (nde) (nto) (nse) (nhu) (nga) (nsd) (nfa) (nba) (npl) (nen) (nnu) (nwr) (nra) (nik) gki gpa gta gco (nde) (nse) hy0 hy1 hy2 hy3 hy4 hy5 hy6 hy7 hy8 hy9 hy10 hy11 hy12 hy13 hy6 hy7 hp_gki hp_gpa hp_gta hp_gco) (cwV 3 hts gX8_line_X8_leastCost rfl rfl rfl ⟨rfl, dh_X8_leastCost⟩ ⟨Nat.le_of_ble_eq_true rfl, Nat.le_of_ble_eq_true rfl⟩) hK hN (hZ.kept hS) hP (hP.sub [0, 2, 3, 4, 5] rfl) (va_recv (q := (RX8, TX8, 38)) hK hP (ci := 8) (q0 := 0) rfl rfl) rfl hl.1 rfl (Nat.le_of_ble_eq_true rfl) dX8_line_45 ⟨Nat.le_of_ble_eq_true rfl, Nat.le_of_ble_eq_true rfl⟩ (fun r_35 hr_35 => ?_)
              refine lv_goto (tgt := 56) hx hb dX8_line_48 (by decide) ?_
              exact W.iret (v := r_35) hx hb hr (fun t ht hW => ⟨⟨r_35, grf, rfl, trivial, zRet ht hP hD [0, 1, 2, 3, 4, 5] (by decide) rfl⟩, hS.F ht⟩) hS.2.2 dX8_line_56
        · exact absurd c_20 (by decide)
    · have fc_5 : 1 < w.toInt := zf_nle c_5 rfl (by decide)
      refine lv_aload_n hx hb dX8_line_9 rfl (lv_at hl 0 rfl) ?_
      refine lv_bipush (v := (-5)) hx hb dX8_line_10 (by decide) ?_
      skip
      refine zw_V (As := [.int (-5)]) (rest := []) (wr := [(mki, .inl (cI, 8, .inl gki)), (mpa, .inl (cI, 8, .inl gpa)), (mta, .inl (cI, 8, .inl gta)), (mco, .inl (cI, 3, .inl gco))]) ⟨hx, hb, hml, hown, hts⟩ (c_M_noTen_5 l D cI cJ cZ cP cS po m0 mrf mki mpa mta mla msl mco mhe mso msi msh mce mca mwo mnu mte mwa mke mma mth mtr (npu) (nte) (nat_) (nde) (nto) (nse) (nhu) (nga) (nsd) (nfa) (nba) (npl) (nen) (nnu) (nwr) (nra) (nik) grf hy0 hy1 hy2 hy3 hy4 hy5 hy6 hy7 hy8 hy9 hy10 hy11 hy12 hy13 H.size) (cwV 1 hts gX8_line_X8_noTen rfl rfl rfl ⟨rfl, dh_X8_noTen⟩ ⟨Nat.le_of_ble_eq_true rfl, Nat.le_of_ble_eq_true rfl⟩) hK hN (hZ.kept hS) hP hD hS hA [0, 1] [2, 3, 4, 5] rfl rfl (by decide) (by decide) (by decide) (va_recv (q := (RX8, TX8, 38)) hK hP (ci := 8) (q0 := 0) rfl rfl) rfl hl.1 rfl (Nat.le_of_ble_eq_true rfl) dX8_line_12 ⟨Nat.le_of_ble_eq_true rfl, Nat.le_of_ble_eq_true rfl⟩ (fun r_36 u_37 H locs hr_36 hP hD hS => ?_)
      obtain ⟨q_38, rfl⟩ : ∃ z, z = u_37 := ⟨_, rfl⟩
      have h9R := zRe (ws' := [(mki, .inl (cI, 8, .inl gki)), (mpa, .inl (cI, 8, .inl gpa)), (mta, .inl (cI, 8, .inl gta)), (mco, .inl (cI, 3, .inl gco)), (zMO m0 npu nte nat_ nde nto nse nhu nga nsd nfa mrf mki mpa mta mla msl mco mhe mso msi msh mce mca mwo mnu mte nba npl nen nnu nwr mwa mke mma mth mtr nra nik), (mrf, .inl (cI, 8, .inl q_38))]) hP hD rfl
      clear hP hD
      obtain ⟨hP, hD⟩ := h9R
      obtain rfl := hr_36
      exact W.iret (v := (-15)) hx hb hr (fun t ht hW => ⟨⟨(-15), q_38, rfl, trivial, zRet ht hP hD [4, 5, 0, 1, 2, 3] (by decide) rfl⟩, hS.F ht⟩) hS.2.2 dX8_line_15
theorem hi_X8_casesIn_8 : ∀ w ∈ u_ws RX8 TX8 38, w ∈ wsX8_casesIn := fun w h => (gl_X8_casesIn_X80 w h).1
set_option maxHeartbeats 4000000 in
set_option maxRecDepth 100000 in
theorem c_M_casesIn_0 (l : Launch) (D : va_G) (cI cJ cZ cP cS : ClassId) (po : zPool) (m0 mrf mki mpa mta mla msl mco mhe mso msi msh mce mca mwo mnu mte mwa mke mma mth mtr : Nat) (npu nte nat_ nde nto nse nhu nga nsd nfa nba npl nen nnu nwr nra nik : Int32) (gki gpa gta : Nat → Int32) (h : Int32) (hy0 : 0 ≤ npu.toInt) (hy1 : npu.toInt ≤ 8) (hy2 : 4 ≤ nte.toInt) (hy3 : nte.toInt ≤ 40) (hy4 : 0 ≤ nat_.toInt) (hy5 : nat_.toInt ≤ 40) (hy6 : 0 ≤ nde.toInt) (hy7 : nde.toInt ≤ 24) (hy8 : 0 ≤ nhu.toInt) (hy9 : nhu.toInt ≤ 9) (hy10 : 0 ≤ nra.toInt) (hy11 : nra.toInt ≤ 2000) (hy12 : 0 ≤ nik.toInt) (hy13 : nik.toInt ≤ 1) (hy14 : 0 ≤ h.toInt) (hy15 : h.toInt ≤ 9) (hp_gki : zRg gki (0) 6) (hp_gpa : zRg gpa (0) 9) (hp_gta : zRg gta (0) 60) (hpz : Nat) : Met l yX8_casesIn wsX8_casesIn ({ frames := 2, cells := 0, slots := 0, locals := 48 }) (va_Pc [.ref m0, .int 0, .int h] (zW D (zKT cI cJ cZ cP cS) po [(zMO m0 npu nte nat_ nde nto nse nhu nga nsd nfa mrf mki mpa mta mla msl mco mhe mso msi msh mce mca mwo mnu mte nba npl nen nnu nwr mwa mke mma mth mtr nra nik), (mki, .inl (cI, 8, .inl gki)), (mpa, .inl (cI, 8, .inl gpa)), (mta, .inl (cI, 8, .inl gta))] hpz)) (va_Qi (fun (r : Int32) (_ : Unit) => True) (zB D [(zMO m0 npu nte nat_ nde nto nse nhu nga nsd nfa mrf mki mpa mta mla msl mco mhe mso msi msh mce mca mwo mnu mte nba npl nen nnu nwr mwa mke mma mth mtr nra nik), (mki, .inl (cI, 8, .inl gki)), (mpa, .inl (cI, 8, .inl gpa)), (mta, .inl (cI, 8, .inl gta))] hpz (fun (_ : Unit) => [(zMO m0 npu nte nat_ nde nto nse nhu nga nsd nfa mrf mki mpa mta mla msl mco mhe mso msi msh mce mca mwo mnu mte nba npl nen nnu nwr mwa mke mma mth mtr nra nik), (mki, .inl (cI, 8, .inl gki)), (mpa, .inl (cI, 8, .inl gpa)), (mta, .inl (cI, 8, .inl gta))])) (va_A [(zMO m0 npu nte nat_ nde nto nse nhu nga nsd nfa mrf mki mpa mta mla msl mco mhe mso msi msh mce mca mwo mnu mte nba npl nen nnu nwr mwa mke mma mth mtr nra nik), (mki, .inl (cI, 8, .inl gki)), (mpa, .inl (cI, 8, .inl gpa)), (mta, .inl (cI, 8, .inl gta))] hpz)) 0 0 (va_A [(zMO m0 npu nte nat_ nde nto nse nhu nga nsd nfa mrf mki mpa mta mla msl mco mhe mso msi msh mce mca mwo mnu mte nba npl nen nnu nwr mwa mke mma mth mtr nra nik), (mki, .inl (cI, 8, .inl gki)), (mpa, .inl (cI, 8, .inl gpa)), (mta, .inl (cI, 8, .inl gta))] hpz) := by
  refine Met.ofW (cc := cX8_casesIn) (maxL := 5) (ret := (some .int)) (by decide) rfl ?_
  intro p e s m args below meth c s₁ B hml hv
  obtain ⟨rfl, hsz, hP, hK, hD0, hN, hZ⟩ := hv
  have hx := B.exec
  have hb := B.bytes
  have hr := B.returns
  have hts := atoms_spec (ws := wsX8_casesIn) B.pre
  have hown : s.vm.findClass RX8 = some m.cls := findClass_of_methodNamed B.named
  have hlocks := B.notSynchronized
  subst hsz
  have hD := hD0.self (sz := s.heap.size)
  have hA := zA_of hD
  have hl := lv_entry ([.ref m0, .int 0, .int h]) (n := 5) (Nat.le_of_ble_eq_true rfl)
  rw [lg_entry_eq]
  generalize (lg_sl ([.ref m0, .int 0, .int h]) ++ List.replicate (5 - (lg_sl ([.ref m0, .int 0, .int h])).length) Slot.unset).toArray = ls at hl ⊢
  replace hl : lv_has ls 5 [(0, .ref m0), (1, .int 0), (2, .int h)] := hl
  refine zw_begin hP hD (fun H locs hP1 hS => ?_)
  clear hP
  have hP := hP1
  clear hP1
  refine lv_aload_n hx hb dX8_casesIn_0 rfl (lv_at hl 0 rfl) ?_
  refine va_get (D := D) (ci := 8) (v := .int nhu) (C := RX8) (T := TX8) (N := 38) hx hb hts hi_X8_casesIn_8 hown hK hP 0 rfl rfl 6 (by decide) (hts (.fieldLink RX8 135 "TheLiningsInItModel" "hurry" "I") (List.mem_of_getElem? (i := 1) rfl)) (fun _ h9 => h9) rfl dX8_casesIn_1 ?_
  refine lv_istore_n (lv' := [(3, .int nhu), (0, .ref m0), (1, .int 0), (2, .int h)]) hx hb dX8_casesIn_4 rfl hl (by decide) rfl (fun ls hl => ?_)
  refine lv_aload_n hx hb dX8_casesIn_5 rfl (lv_at hl 1 rfl) ?_
  refine lv_iload_n hx hb dX8_casesIn_6 rfl (lv_at hl 3 rfl) ?_
  refine va_put (D := D) (ci := 8) (v := .int h) (ty := .int) (C := RX8) (T := TX8) (N := 38) hx hb hts hi_X8_casesIn_8 tyX8 tyX8_ok nmX8 hown hK hP hD hS 0 rfl rfl 6 (by decide) (hts (.fieldLink RX8 135 "TheLiningsInItModel" "hurry" "I") (List.mem_of_getElem? (i := 1) rfl)) (fun _ h9 => h9) rfl (tyX8_ok 6 (Nat.le_of_ble_eq_true rfl)) rfl rfl (Nat.le_of_ble_eq_true rfl) dX8_casesIn_7 (fun H locs hP hD hS => ?_)
  have h9R := zRe (ws' := [(zMO m0 npu nte nat_ nde nto nse h nga nsd nfa mrf mki mpa mta mla msl mco mhe mso msi msh mce mca mwo mnu mte nba npl nen nnu nwr mwa mke mma mth mtr nra nik), (mki, .inl (cI, 8, .inl gki)), (mpa, .inl (cI, 8, .inl gpa)), (mta, .inl (cI, 8, .inl gta))]) hP hD rfl
  clear hP hD
  obtain ⟨hP, hD⟩ := h9R
  refine lv_aload_n hx hb dX8_casesIn_10 rfl (lv_at hl 1 rfl) ?_
  refine lv_iload_n hx hb dX8_casesIn_11 rfl (lv_at hl 2 rfl) ?_
  refine lv_aload_n hx hb dX8_casesIn_12 rfl (lv_at hl 1 rfl) ?_
  refine va_get (D := D) (ci := 8) (v := .int nde) (C := RX8) (T := TX8) (N := 38) hx hb hts hi_X8_casesIn_8 hown hK hP 0 rfl rfl 3 (by decide) (hts (.fieldLink RX8 115 "TheLiningsInItModel" "depth" "I") (List.mem_of_getElem? (i := 2) rfl)) (fun _ h9 => h9) rfl dX8_casesIn_13 ?_
  refine lv_aload_n hx hb dX8_casesIn_16 rfl (lv_at hl 1 rfl) ?_
  refine va_get (D := D) (ci := 8) (v := .int nse) (C := RX8) (T := TX8) (N := 38) hx hb hts hi_X8_casesIn_8 hown hK hP 0 rfl rfl 5 (by decide) (hts (.fieldLink RX8 13 "TheLiningsInItModel" "seconds" "I") (List.mem_of_getElem? (i := 3) rfl)) (fun _ h9 => h9) rfl dX8_casesIn_17 ?_
  refine lv_iconst (v := 0) hx hb dX8_casesIn_20 (by decide) ?_
  refine zc_V (As := [.int 0, .int nde, .int nse, .int 0]) (rest := []) ⟨hx, hb, hml, hown, hts⟩ (c_M_mostCases_0 l D cI cJ cZ cP cS po m0 mrf mki mpa mta mla msl mco mhe mso msi msh mce mca mwo mnu mte mwa mke mma mth mtr (npu) (nte) (nat_) (nde) (nto) (nse) (h) (nga) (nsd) (nfa) (nba) (npl) (nen) (nnu) (nwr) (nra) (nik) gki gpa gta (nde) (nse) (0) hy0 hy1 hy2 hy3 hy4 hy5 hy6 hy7 hy14 hy15 hy10 hy11 hy12 hy13 hy6 hy7 hp_gki hp_gpa hp_gta) (cwV 4 hts gX8_casesIn_X8_mostCases rfl rfl rfl ⟨rfl, dh_X8_mostCases⟩ ⟨Nat.le_of_ble_eq_true rfl, Nat.le_of_ble_eq_true rfl⟩) hK hN (hZ.kept hS) hP (hP.sub [0, 1, 2, 3] rfl) (va_recv (q := (RX8, TX8, 38)) hK hP (ci := 8) (q0 := 0) rfl rfl) rfl hl.1 rfl (Nat.le_of_ble_eq_true rfl) dX8_casesIn_21 ⟨Nat.le_of_ble_eq_true rfl, Nat.le_of_ble_eq_true rfl⟩ (fun r_1 hr_1 => ?_)
  refine lv_istore (lv' := [(4, .int r_1), (3, .int nhu), (0, .ref m0), (1, .int 0), (2, .int h)]) hx hb dX8_casesIn_24 hl (by decide) rfl (fun ls hl => ?_)
  refine lv_aload_n hx hb dX8_casesIn_26 rfl (lv_at hl 2 rfl) ?_
  refine lv_iload_n hx hb dX8_casesIn_27 rfl (lv_at hl 1 rfl) ?_
  refine va_put (D := D) (ci := 8) (v := .int nhu) (ty := .int) (C := RX8) (T := TX8) (N := 38) hx hb hts hi_X8_casesIn_8 tyX8 tyX8_ok nmX8 hown hK hP hD hS 0 rfl rfl 6 (by decide) (hts (.fieldLink RX8 135 "TheLiningsInItModel" "hurry" "I") (List.mem_of_getElem? (i := 1) rfl)) (fun _ h9 => h9) rfl (tyX8_ok 6 (Nat.le_of_ble_eq_true rfl)) rfl rfl (Nat.le_of_ble_eq_true rfl) dX8_casesIn_28 (fun H locs hP hD hS => ?_)
  have h9R := zRe (ws' := [(zMO m0 npu nte nat_ nde nto nse nhu nga nsd nfa mrf mki mpa mta mla msl mco mhe mso msi msh mce mca mwo mnu mte nba npl nen nnu nwr mwa mke mma mth mtr nra nik), (mki, .inl (cI, 8, .inl gki)), (mpa, .inl (cI, 8, .inl gpa)), (mta, .inl (cI, 8, .inl gta))]) hP hD rfl
  clear hP hD
  obtain ⟨hP, hD⟩ := h9R
  refine lv_iload hx hb dX8_casesIn_31 (lv_at hl 0 rfl) ?_
  exact W.iret (v := r_1) hx hb hr (fun t ht hW => ⟨⟨r_1, (), rfl, trivial, zRet ht hP hD [0, 1, 2, 3] (by decide) rfl⟩, hS.F ht⟩) hS.2.2 dX8_casesIn_33
set_option maxHeartbeats 4000000 in
set_option maxRecDepth 100000 in
theorem c_M_casesIn_1 (l : Launch) (D : va_G) (cI cJ cZ cP cS : ClassId) (po : zPool) (m0 mrf mki mpa mta mla msl mco mhe mso msi msh mce mca mwo mnu mte mwa mke mma mth mtr : Nat) (npu nte nat_ nde nto nse nhu nga nsd nfa nba npl nen nnu nwr nra nik : Int32) (gki gpa gta : Nat → Int32) (h : Int32) (hy0 : 0 ≤ npu.toInt) (hy1 : npu.toInt ≤ 8) (hy2 : 4 ≤ nte.toInt) (hy3 : nte.toInt ≤ 40) (hy4 : 0 ≤ nat_.toInt) (hy5 : nat_.toInt ≤ 40) (hy6 : 0 ≤ nde.toInt) (hy7 : nde.toInt ≤ 24) (hy8 : 0 ≤ nhu.toInt) (hy9 : nhu.toInt ≤ 9) (hy10 : 0 ≤ nra.toInt) (hy11 : nra.toInt ≤ 2000) (hy12 : 0 ≤ nik.toInt) (hy13 : nik.toInt ≤ 1) (hy14 : 0 ≤ h.toInt) (hy15 : h.toInt ≤ 9) (hp_gki : zRg gki (0) 6) (hp_gpa : zRg gpa (0) 9) (hp_gta : zRg gta (0) 60) (hpz : Nat) : Met l yX8_casesIn wsX8_casesIn ({ frames := 4, cells := 0, slots := 0, locals := 102 }) (va_Pc [.ref m0, .int 1, .int h] (zW D (zKT cI cJ cZ cP cS) po [(zMO m0 npu nte nat_ nde nto nse nhu nga nsd nfa mrf mki mpa mta mla msl mco mhe mso msi msh mce mca mwo mnu mte nba npl nen nnu nwr mwa mke mma mth mtr nra nik), (mki, .inl (cI, 8, .inl gki)), (mpa, .inl (cI, 8, .inl gpa)), (mta, .inl (cI, 8, .inl gta))] hpz)) (va_Qi (fun (r : Int32) (_ : Unit) => True) (zB D [(zMO m0 npu nte nat_ nde nto nse nhu nga nsd nfa mrf mki mpa mta mla msl mco mhe mso msi msh mce mca mwo mnu mte nba npl nen nnu nwr mwa mke mma mth mtr nra nik), (mki, .inl (cI, 8, .inl gki)), (mpa, .inl (cI, 8, .inl gpa)), (mta, .inl (cI, 8, .inl gta))] hpz (fun (_ : Unit) => [(zMO m0 npu nte nat_ nde nto nse nhu nga nsd nfa mrf mki mpa mta mla msl mco mhe mso msi msh mce mca mwo mnu mte nba npl nen nnu nwr mwa mke mma mth mtr nra nik), (mki, .inl (cI, 8, .inl gki)), (mpa, .inl (cI, 8, .inl gpa)), (mta, .inl (cI, 8, .inl gta))])) (va_A [(zMO m0 npu nte nat_ nde nto nse nhu nga nsd nfa mrf mki mpa mta mla msl mco mhe mso msi msh mce mca mwo mnu mte nba npl nen nnu nwr mwa mke mma mth mtr nra nik), (mki, .inl (cI, 8, .inl gki)), (mpa, .inl (cI, 8, .inl gpa)), (mta, .inl (cI, 8, .inl gta))] hpz)) 0 0 (va_A [(zMO m0 npu nte nat_ nde nto nse nhu nga nsd nfa mrf mki mpa mta mla msl mco mhe mso msi msh mce mca mwo mnu mte nba npl nen nnu nwr mwa mke mma mth mtr nra nik), (mki, .inl (cI, 8, .inl gki)), (mpa, .inl (cI, 8, .inl gpa)), (mta, .inl (cI, 8, .inl gta))] hpz) := by
  refine Met.ofW (cc := cX8_casesIn) (maxL := 5) (ret := (some .int)) (by decide) rfl ?_
  intro p e s m args below meth c s₁ B hml hv
  obtain ⟨rfl, hsz, hP, hK, hD0, hN, hZ⟩ := hv
  have hx := B.exec
  have hb := B.bytes
  have hr := B.returns
  have hts := atoms_spec (ws := wsX8_casesIn) B.pre
  have hown : s.vm.findClass RX8 = some m.cls := findClass_of_methodNamed B.named
  have hlocks := B.notSynchronized
  subst hsz
  have hD := hD0.self (sz := s.heap.size)
  have hA := zA_of hD
  have hl := lv_entry ([.ref m0, .int 1, .int h]) (n := 5) (Nat.le_of_ble_eq_true rfl)
  rw [lg_entry_eq]
  generalize (lg_sl ([.ref m0, .int 1, .int h]) ++ List.replicate (5 - (lg_sl ([.ref m0, .int 1, .int h])).length) Slot.unset).toArray = ls at hl ⊢
  replace hl : lv_has ls 5 [(0, .ref m0), (1, .int 1), (2, .int h)] := hl
  refine zw_begin hP hD (fun H locs hP1 hS => ?_)
  clear hP
  have hP := hP1
  clear hP1
  refine lv_aload_n hx hb dX8_casesIn_0 rfl (lv_at hl 0 rfl) ?_
  refine va_get (D := D) (ci := 8) (v := .int nhu) (C := RX8) (T := TX8) (N := 38) hx hb hts hi_X8_casesIn_8 hown hK hP 0 rfl rfl 6 (by decide) (hts (.fieldLink RX8 135 "TheLiningsInItModel" "hurry" "I") (List.mem_of_getElem? (i := 1) rfl)) (fun _ h9 => h9) rfl dX8_casesIn_1 ?_
  refine lv_istore_n (lv' := [(3, .int nhu), (0, .ref m0), (1, .int 1), (2, .int h)]) hx hb dX8_casesIn_4 rfl hl (by decide) rfl (fun ls hl => ?_)
  refine lv_aload_n hx hb dX8_casesIn_5 rfl (lv_at hl 1 rfl) ?_
  refine lv_iload_n hx hb dX8_casesIn_6 rfl (lv_at hl 3 rfl) ?_
  refine va_put (D := D) (ci := 8) (v := .int h) (ty := .int) (C := RX8) (T := TX8) (N := 38) hx hb hts hi_X8_casesIn_8 tyX8 tyX8_ok nmX8 hown hK hP hD hS 0 rfl rfl 6 (by decide) (hts (.fieldLink RX8 135 "TheLiningsInItModel" "hurry" "I") (List.mem_of_getElem? (i := 1) rfl)) (fun _ h9 => h9) rfl (tyX8_ok 6 (Nat.le_of_ble_eq_true rfl)) rfl rfl (Nat.le_of_ble_eq_true rfl) dX8_casesIn_7 (fun H locs hP hD hS => ?_)
  have h9R := zRe (ws' := [(zMO m0 npu nte nat_ nde nto nse h nga nsd nfa mrf mki mpa mta mla msl mco mhe mso msi msh mce mca mwo mnu mte nba npl nen nnu nwr mwa mke mma mth mtr nra nik), (mki, .inl (cI, 8, .inl gki)), (mpa, .inl (cI, 8, .inl gpa)), (mta, .inl (cI, 8, .inl gta))]) hP hD rfl
  clear hP hD
  obtain ⟨hP, hD⟩ := h9R
  refine lv_aload_n hx hb dX8_casesIn_10 rfl (lv_at hl 1 rfl) ?_
  refine lv_iload_n hx hb dX8_casesIn_11 rfl (lv_at hl 2 rfl) ?_
  refine lv_aload_n hx hb dX8_casesIn_12 rfl (lv_at hl 1 rfl) ?_
  refine va_get (D := D) (ci := 8) (v := .int nde) (C := RX8) (T := TX8) (N := 38) hx hb hts hi_X8_casesIn_8 hown hK hP 0 rfl rfl 3 (by decide) (hts (.fieldLink RX8 115 "TheLiningsInItModel" "depth" "I") (List.mem_of_getElem? (i := 2) rfl)) (fun _ h9 => h9) rfl dX8_casesIn_13 ?_
  refine lv_aload_n hx hb dX8_casesIn_16 rfl (lv_at hl 1 rfl) ?_
  refine va_get (D := D) (ci := 8) (v := .int nse) (C := RX8) (T := TX8) (N := 38) hx hb hts hi_X8_casesIn_8 hown hK hP 0 rfl rfl 5 (by decide) (hts (.fieldLink RX8 13 "TheLiningsInItModel" "seconds" "I") (List.mem_of_getElem? (i := 3) rfl)) (fun _ h9 => h9) rfl dX8_casesIn_17 ?_
  refine lv_iconst (v := 0) hx hb dX8_casesIn_20 (by decide) ?_
  refine zc_V (As := [.int 1, .int nde, .int nse, .int 0]) (rest := []) ⟨hx, hb, hml, hown, hts⟩ (c_M_mostCases_1 l D cI cJ cZ cP cS po m0 mrf mki mpa mta mla msl mco mhe mso msi msh mce mca mwo mnu mte mwa mke mma mth mtr (npu) (nte) (nat_) (nde) (nto) (nse) (h) (nga) (nsd) (nfa) (nba) (npl) (nen) (nnu) (nwr) (nra) (nik) gki gpa gta (nde) (nse) (0) hy0 hy1 hy2 hy3 hy4 hy5 hy6 hy7 hy14 hy15 hy10 hy11 hy12 hy13 hy6 hy7 hp_gki hp_gpa hp_gta) (cwV 4 hts gX8_casesIn_X8_mostCases rfl rfl rfl ⟨rfl, dh_X8_mostCases⟩ ⟨Nat.le_of_ble_eq_true rfl, Nat.le_of_ble_eq_true rfl⟩) hK hN (hZ.kept hS) hP (hP.sub [0, 1, 2, 3] rfl) (va_recv (q := (RX8, TX8, 38)) hK hP (ci := 8) (q0 := 0) rfl rfl) rfl hl.1 rfl (Nat.le_of_ble_eq_true rfl) dX8_casesIn_21 ⟨Nat.le_of_ble_eq_true rfl, Nat.le_of_ble_eq_true rfl⟩ (fun r_1 hr_1 => ?_)
  refine lv_istore (lv' := [(4, .int r_1), (3, .int nhu), (0, .ref m0), (1, .int 1), (2, .int h)]) hx hb dX8_casesIn_24 hl (by decide) rfl (fun ls hl => ?_)
  refine lv_aload_n hx hb dX8_casesIn_26 rfl (lv_at hl 2 rfl) ?_
  refine lv_iload_n hx hb dX8_casesIn_27 rfl (lv_at hl 1 rfl) ?_
  refine va_put (D := D) (ci := 8) (v := .int nhu) (ty := .int) (C := RX8) (T := TX8) (N := 38) hx hb hts hi_X8_casesIn_8 tyX8 tyX8_ok nmX8 hown hK hP hD hS 0 rfl rfl 6 (by decide) (hts (.fieldLink RX8 135 "TheLiningsInItModel" "hurry" "I") (List.mem_of_getElem? (i := 1) rfl)) (fun _ h9 => h9) rfl (tyX8_ok 6 (Nat.le_of_ble_eq_true rfl)) rfl rfl (Nat.le_of_ble_eq_true rfl) dX8_casesIn_28 (fun H locs hP hD hS => ?_)
  have h9R := zRe (ws' := [(zMO m0 npu nte nat_ nde nto nse nhu nga nsd nfa mrf mki mpa mta mla msl mco mhe mso msi msh mce mca mwo mnu mte nba npl nen nnu nwr mwa mke mma mth mtr nra nik), (mki, .inl (cI, 8, .inl gki)), (mpa, .inl (cI, 8, .inl gpa)), (mta, .inl (cI, 8, .inl gta))]) hP hD rfl
  clear hP hD
  obtain ⟨hP, hD⟩ := h9R
  refine lv_iload hx hb dX8_casesIn_31 (lv_at hl 0 rfl) ?_
  exact W.iret (v := r_1) hx hb hr (fun t ht hW => ⟨⟨r_1, (), rfl, trivial, zRet ht hP hD [0, 1, 2, 3] (by decide) rfl⟩, hS.F ht⟩) hS.2.2 dX8_casesIn_33
set_option maxHeartbeats 4000000 in
set_option maxRecDepth 100000 in
theorem c_M_casesIn_2 (l : Launch) (D : va_G) (cI cJ cZ cP cS : ClassId) (po : zPool) (m0 mrf mki mpa mta mla msl mco mhe mso msi msh mce mca mwo mnu mte mwa mke mma mth mtr : Nat) (npu nte nat_ nde nto nse nhu nga nsd nfa nba npl nen nnu nwr nra nik : Int32) (gki gpa gta : Nat → Int32) (h : Int32) (hy0 : 0 ≤ npu.toInt) (hy1 : npu.toInt ≤ 8) (hy2 : 4 ≤ nte.toInt) (hy3 : nte.toInt ≤ 40) (hy4 : 0 ≤ nat_.toInt) (hy5 : nat_.toInt ≤ 40) (hy6 : 0 ≤ nde.toInt) (hy7 : nde.toInt ≤ 24) (hy8 : 0 ≤ nhu.toInt) (hy9 : nhu.toInt ≤ 9) (hy10 : 0 ≤ nra.toInt) (hy11 : nra.toInt ≤ 2000) (hy12 : 0 ≤ nik.toInt) (hy13 : nik.toInt ≤ 1) (hy14 : 0 ≤ h.toInt) (hy15 : h.toInt ≤ 9) (hp_gki : zRg gki (0) 6) (hp_gpa : zRg gpa (0) 9) (hp_gta : zRg gta (0) 60) (hpz : Nat) : Met l yX8_casesIn wsX8_casesIn ({ frames := 6, cells := 0, slots := 0, locals := 156 }) (va_Pc [.ref m0, .int 2, .int h] (zW D (zKT cI cJ cZ cP cS) po [(zMO m0 npu nte nat_ nde nto nse nhu nga nsd nfa mrf mki mpa mta mla msl mco mhe mso msi msh mce mca mwo mnu mte nba npl nen nnu nwr mwa mke mma mth mtr nra nik), (mki, .inl (cI, 8, .inl gki)), (mpa, .inl (cI, 8, .inl gpa)), (mta, .inl (cI, 8, .inl gta))] hpz)) (va_Qi (fun (r : Int32) (_ : Unit) => True) (zB D [(zMO m0 npu nte nat_ nde nto nse nhu nga nsd nfa mrf mki mpa mta mla msl mco mhe mso msi msh mce mca mwo mnu mte nba npl nen nnu nwr mwa mke mma mth mtr nra nik), (mki, .inl (cI, 8, .inl gki)), (mpa, .inl (cI, 8, .inl gpa)), (mta, .inl (cI, 8, .inl gta))] hpz (fun (_ : Unit) => [(zMO m0 npu nte nat_ nde nto nse nhu nga nsd nfa mrf mki mpa mta mla msl mco mhe mso msi msh mce mca mwo mnu mte nba npl nen nnu nwr mwa mke mma mth mtr nra nik), (mki, .inl (cI, 8, .inl gki)), (mpa, .inl (cI, 8, .inl gpa)), (mta, .inl (cI, 8, .inl gta))])) (va_A [(zMO m0 npu nte nat_ nde nto nse nhu nga nsd nfa mrf mki mpa mta mla msl mco mhe mso msi msh mce mca mwo mnu mte nba npl nen nnu nwr mwa mke mma mth mtr nra nik), (mki, .inl (cI, 8, .inl gki)), (mpa, .inl (cI, 8, .inl gpa)), (mta, .inl (cI, 8, .inl gta))] hpz)) 0 0 (va_A [(zMO m0 npu nte nat_ nde nto nse nhu nga nsd nfa mrf mki mpa mta mla msl mco mhe mso msi msh mce mca mwo mnu mte nba npl nen nnu nwr mwa mke mma mth mtr nra nik), (mki, .inl (cI, 8, .inl gki)), (mpa, .inl (cI, 8, .inl gpa)), (mta, .inl (cI, 8, .inl gta))] hpz) := by
  refine Met.ofW (cc := cX8_casesIn) (maxL := 5) (ret := (some .int)) (by decide) rfl ?_
  intro p e s m args below meth c s₁ B hml hv
  obtain ⟨rfl, hsz, hP, hK, hD0, hN, hZ⟩ := hv
  have hx := B.exec
  have hb := B.bytes
  have hr := B.returns
  have hts := atoms_spec (ws := wsX8_casesIn) B.pre
  have hown : s.vm.findClass RX8 = some m.cls := findClass_of_methodNamed B.named
  have hlocks := B.notSynchronized
  subst hsz
  have hD := hD0.self (sz := s.heap.size)
  have hA := zA_of hD
  have hl := lv_entry ([.ref m0, .int 2, .int h]) (n := 5) (Nat.le_of_ble_eq_true rfl)
  rw [lg_entry_eq]
  generalize (lg_sl ([.ref m0, .int 2, .int h]) ++ List.replicate (5 - (lg_sl ([.ref m0, .int 2, .int h])).length) Slot.unset).toArray = ls at hl ⊢
  replace hl : lv_has ls 5 [(0, .ref m0), (1, .int 2), (2, .int h)] := hl
  refine zw_begin hP hD (fun H locs hP1 hS => ?_)
  clear hP
  have hP := hP1
  clear hP1
  refine lv_aload_n hx hb dX8_casesIn_0 rfl (lv_at hl 0 rfl) ?_
  refine va_get (D := D) (ci := 8) (v := .int nhu) (C := RX8) (T := TX8) (N := 38) hx hb hts hi_X8_casesIn_8 hown hK hP 0 rfl rfl 6 (by decide) (hts (.fieldLink RX8 135 "TheLiningsInItModel" "hurry" "I") (List.mem_of_getElem? (i := 1) rfl)) (fun _ h9 => h9) rfl dX8_casesIn_1 ?_
  refine lv_istore_n (lv' := [(3, .int nhu), (0, .ref m0), (1, .int 2), (2, .int h)]) hx hb dX8_casesIn_4 rfl hl (by decide) rfl (fun ls hl => ?_)
  refine lv_aload_n hx hb dX8_casesIn_5 rfl (lv_at hl 1 rfl) ?_
  refine lv_iload_n hx hb dX8_casesIn_6 rfl (lv_at hl 3 rfl) ?_
  refine va_put (D := D) (ci := 8) (v := .int h) (ty := .int) (C := RX8) (T := TX8) (N := 38) hx hb hts hi_X8_casesIn_8 tyX8 tyX8_ok nmX8 hown hK hP hD hS 0 rfl rfl 6 (by decide) (hts (.fieldLink RX8 135 "TheLiningsInItModel" "hurry" "I") (List.mem_of_getElem? (i := 1) rfl)) (fun _ h9 => h9) rfl (tyX8_ok 6 (Nat.le_of_ble_eq_true rfl)) rfl rfl (Nat.le_of_ble_eq_true rfl) dX8_casesIn_7 (fun H locs hP hD hS => ?_)
  have h9R := zRe (ws' := [(zMO m0 npu nte nat_ nde nto nse h nga nsd nfa mrf mki mpa mta mla msl mco mhe mso msi msh mce mca mwo mnu mte nba npl nen nnu nwr mwa mke mma mth mtr nra nik), (mki, .inl (cI, 8, .inl gki)), (mpa, .inl (cI, 8, .inl gpa)), (mta, .inl (cI, 8, .inl gta))]) hP hD rfl
  clear hP hD
  obtain ⟨hP, hD⟩ := h9R
  refine lv_aload_n hx hb dX8_casesIn_10 rfl (lv_at hl 1 rfl) ?_
  refine lv_iload_n hx hb dX8_casesIn_11 rfl (lv_at hl 2 rfl) ?_
  refine lv_aload_n hx hb dX8_casesIn_12 rfl (lv_at hl 1 rfl) ?_
  refine va_get (D := D) (ci := 8) (v := .int nde) (C := RX8) (T := TX8) (N := 38) hx hb hts hi_X8_casesIn_8 hown hK hP 0 rfl rfl 3 (by decide) (hts (.fieldLink RX8 115 "TheLiningsInItModel" "depth" "I") (List.mem_of_getElem? (i := 2) rfl)) (fun _ h9 => h9) rfl dX8_casesIn_13 ?_
  refine lv_aload_n hx hb dX8_casesIn_16 rfl (lv_at hl 1 rfl) ?_
  refine va_get (D := D) (ci := 8) (v := .int nse) (C := RX8) (T := TX8) (N := 38) hx hb hts hi_X8_casesIn_8 hown hK hP 0 rfl rfl 5 (by decide) (hts (.fieldLink RX8 13 "TheLiningsInItModel" "seconds" "I") (List.mem_of_getElem? (i := 3) rfl)) (fun _ h9 => h9) rfl dX8_casesIn_17 ?_
  refine lv_iconst (v := 0) hx hb dX8_casesIn_20 (by decide) ?_
  refine zc_V (As := [.int 2, .int nde, .int nse, .int 0]) (rest := []) ⟨hx, hb, hml, hown, hts⟩ (c_M_mostCases_2 l D cI cJ cZ cP cS po m0 mrf mki mpa mta mla msl mco mhe mso msi msh mce mca mwo mnu mte mwa mke mma mth mtr (npu) (nte) (nat_) (nde) (nto) (nse) (h) (nga) (nsd) (nfa) (nba) (npl) (nen) (nnu) (nwr) (nra) (nik) gki gpa gta (nde) (nse) (0) hy0 hy1 hy2 hy3 hy4 hy5 hy6 hy7 hy14 hy15 hy10 hy11 hy12 hy13 hy6 hy7 hp_gki hp_gpa hp_gta) (cwV 4 hts gX8_casesIn_X8_mostCases rfl rfl rfl ⟨rfl, dh_X8_mostCases⟩ ⟨Nat.le_of_ble_eq_true rfl, Nat.le_of_ble_eq_true rfl⟩) hK hN (hZ.kept hS) hP (hP.sub [0, 1, 2, 3] rfl) (va_recv (q := (RX8, TX8, 38)) hK hP (ci := 8) (q0 := 0) rfl rfl) rfl hl.1 rfl (Nat.le_of_ble_eq_true rfl) dX8_casesIn_21 ⟨Nat.le_of_ble_eq_true rfl, Nat.le_of_ble_eq_true rfl⟩ (fun r_1 hr_1 => ?_)
  refine lv_istore (lv' := [(4, .int r_1), (3, .int nhu), (0, .ref m0), (1, .int 2), (2, .int h)]) hx hb dX8_casesIn_24 hl (by decide) rfl (fun ls hl => ?_)
  refine lv_aload_n hx hb dX8_casesIn_26 rfl (lv_at hl 2 rfl) ?_
  refine lv_iload_n hx hb dX8_casesIn_27 rfl (lv_at hl 1 rfl) ?_
  refine va_put (D := D) (ci := 8) (v := .int nhu) (ty := .int) (C := RX8) (T := TX8) (N := 38) hx hb hts hi_X8_casesIn_8 tyX8 tyX8_ok nmX8 hown hK hP hD hS 0 rfl rfl 6 (by decide) (hts (.fieldLink RX8 135 "TheLiningsInItModel" "hurry" "I") (List.mem_of_getElem? (i := 1) rfl)) (fun _ h9 => h9) rfl (tyX8_ok 6 (Nat.le_of_ble_eq_true rfl)) rfl rfl (Nat.le_of_ble_eq_true rfl) dX8_casesIn_28 (fun H locs hP hD hS => ?_)
  have h9R := zRe (ws' := [(zMO m0 npu nte nat_ nde nto nse nhu nga nsd nfa mrf mki mpa mta mla msl mco mhe mso msi msh mce mca mwo mnu mte nba npl nen nnu nwr mwa mke mma mth mtr nra nik), (mki, .inl (cI, 8, .inl gki)), (mpa, .inl (cI, 8, .inl gpa)), (mta, .inl (cI, 8, .inl gta))]) hP hD rfl
  clear hP hD
  obtain ⟨hP, hD⟩ := h9R
  refine lv_iload hx hb dX8_casesIn_31 (lv_at hl 0 rfl) ?_
  exact W.iret (v := r_1) hx hb hr (fun t ht hW => ⟨⟨r_1, (), rfl, trivial, zRet ht hP hD [0, 1, 2, 3] (by decide) rfl⟩, hS.F ht⟩) hS.2.2 dX8_casesIn_33
set_option maxHeartbeats 4000000 in
set_option maxRecDepth 100000 in
theorem c_M_casesIn_3 (l : Launch) (D : va_G) (cI cJ cZ cP cS : ClassId) (po : zPool) (m0 mrf mki mpa mta mla msl mco mhe mso msi msh mce mca mwo mnu mte mwa mke mma mth mtr : Nat) (npu nte nat_ nde nto nse nhu nga nsd nfa nba npl nen nnu nwr nra nik : Int32) (gki gpa gta : Nat → Int32) (h : Int32) (hy0 : 0 ≤ npu.toInt) (hy1 : npu.toInt ≤ 8) (hy2 : 4 ≤ nte.toInt) (hy3 : nte.toInt ≤ 40) (hy4 : 0 ≤ nat_.toInt) (hy5 : nat_.toInt ≤ 40) (hy6 : 0 ≤ nde.toInt) (hy7 : nde.toInt ≤ 24) (hy8 : 0 ≤ nhu.toInt) (hy9 : nhu.toInt ≤ 9) (hy10 : 0 ≤ nra.toInt) (hy11 : nra.toInt ≤ 2000) (hy12 : 0 ≤ nik.toInt) (hy13 : nik.toInt ≤ 1) (hy14 : 0 ≤ h.toInt) (hy15 : h.toInt ≤ 9) (hp_gki : zRg gki (0) 6) (hp_gpa : zRg gpa (0) 9) (hp_gta : zRg gta (0) 60) (hpz : Nat) : Met l yX8_casesIn wsX8_casesIn ({ frames := 8, cells := 0, slots := 0, locals := 210 }) (va_Pc [.ref m0, .int 3, .int h] (zW D (zKT cI cJ cZ cP cS) po [(zMO m0 npu nte nat_ nde nto nse nhu nga nsd nfa mrf mki mpa mta mla msl mco mhe mso msi msh mce mca mwo mnu mte nba npl nen nnu nwr mwa mke mma mth mtr nra nik), (mki, .inl (cI, 8, .inl gki)), (mpa, .inl (cI, 8, .inl gpa)), (mta, .inl (cI, 8, .inl gta))] hpz)) (va_Qi (fun (r : Int32) (_ : Unit) => True) (zB D [(zMO m0 npu nte nat_ nde nto nse nhu nga nsd nfa mrf mki mpa mta mla msl mco mhe mso msi msh mce mca mwo mnu mte nba npl nen nnu nwr mwa mke mma mth mtr nra nik), (mki, .inl (cI, 8, .inl gki)), (mpa, .inl (cI, 8, .inl gpa)), (mta, .inl (cI, 8, .inl gta))] hpz (fun (_ : Unit) => [(zMO m0 npu nte nat_ nde nto nse nhu nga nsd nfa mrf mki mpa mta mla msl mco mhe mso msi msh mce mca mwo mnu mte nba npl nen nnu nwr mwa mke mma mth mtr nra nik), (mki, .inl (cI, 8, .inl gki)), (mpa, .inl (cI, 8, .inl gpa)), (mta, .inl (cI, 8, .inl gta))])) (va_A [(zMO m0 npu nte nat_ nde nto nse nhu nga nsd nfa mrf mki mpa mta mla msl mco mhe mso msi msh mce mca mwo mnu mte nba npl nen nnu nwr mwa mke mma mth mtr nra nik), (mki, .inl (cI, 8, .inl gki)), (mpa, .inl (cI, 8, .inl gpa)), (mta, .inl (cI, 8, .inl gta))] hpz)) 0 0 (va_A [(zMO m0 npu nte nat_ nde nto nse nhu nga nsd nfa mrf mki mpa mta mla msl mco mhe mso msi msh mce mca mwo mnu mte nba npl nen nnu nwr mwa mke mma mth mtr nra nik), (mki, .inl (cI, 8, .inl gki)), (mpa, .inl (cI, 8, .inl gpa)), (mta, .inl (cI, 8, .inl gta))] hpz) := by
  refine Met.ofW (cc := cX8_casesIn) (maxL := 5) (ret := (some .int)) (by decide) rfl ?_
  intro p e s m args below meth c s₁ B hml hv
  obtain ⟨rfl, hsz, hP, hK, hD0, hN, hZ⟩ := hv
  have hx := B.exec
  have hb := B.bytes
  have hr := B.returns
  have hts := atoms_spec (ws := wsX8_casesIn) B.pre
  have hown : s.vm.findClass RX8 = some m.cls := findClass_of_methodNamed B.named
  have hlocks := B.notSynchronized
  subst hsz
  have hD := hD0.self (sz := s.heap.size)
  have hA := zA_of hD
  have hl := lv_entry ([.ref m0, .int 3, .int h]) (n := 5) (Nat.le_of_ble_eq_true rfl)
  rw [lg_entry_eq]
  generalize (lg_sl ([.ref m0, .int 3, .int h]) ++ List.replicate (5 - (lg_sl ([.ref m0, .int 3, .int h])).length) Slot.unset).toArray = ls at hl ⊢
  replace hl : lv_has ls 5 [(0, .ref m0), (1, .int 3), (2, .int h)] := hl
  refine zw_begin hP hD (fun H locs hP1 hS => ?_)
  clear hP
  have hP := hP1
  clear hP1
  refine lv_aload_n hx hb dX8_casesIn_0 rfl (lv_at hl 0 rfl) ?_
  refine va_get (D := D) (ci := 8) (v := .int nhu) (C := RX8) (T := TX8) (N := 38) hx hb hts hi_X8_casesIn_8 hown hK hP 0 rfl rfl 6 (by decide) (hts (.fieldLink RX8 135 "TheLiningsInItModel" "hurry" "I") (List.mem_of_getElem? (i := 1) rfl)) (fun _ h9 => h9) rfl dX8_casesIn_1 ?_
  refine lv_istore_n (lv' := [(3, .int nhu), (0, .ref m0), (1, .int 3), (2, .int h)]) hx hb dX8_casesIn_4 rfl hl (by decide) rfl (fun ls hl => ?_)
  refine lv_aload_n hx hb dX8_casesIn_5 rfl (lv_at hl 1 rfl) ?_
  refine lv_iload_n hx hb dX8_casesIn_6 rfl (lv_at hl 3 rfl) ?_
  refine va_put (D := D) (ci := 8) (v := .int h) (ty := .int) (C := RX8) (T := TX8) (N := 38) hx hb hts hi_X8_casesIn_8 tyX8 tyX8_ok nmX8 hown hK hP hD hS 0 rfl rfl 6 (by decide) (hts (.fieldLink RX8 135 "TheLiningsInItModel" "hurry" "I") (List.mem_of_getElem? (i := 1) rfl)) (fun _ h9 => h9) rfl (tyX8_ok 6 (Nat.le_of_ble_eq_true rfl)) rfl rfl (Nat.le_of_ble_eq_true rfl) dX8_casesIn_7 (fun H locs hP hD hS => ?_)
  have h9R := zRe (ws' := [(zMO m0 npu nte nat_ nde nto nse h nga nsd nfa mrf mki mpa mta mla msl mco mhe mso msi msh mce mca mwo mnu mte nba npl nen nnu nwr mwa mke mma mth mtr nra nik), (mki, .inl (cI, 8, .inl gki)), (mpa, .inl (cI, 8, .inl gpa)), (mta, .inl (cI, 8, .inl gta))]) hP hD rfl
  clear hP hD
  obtain ⟨hP, hD⟩ := h9R
  refine lv_aload_n hx hb dX8_casesIn_10 rfl (lv_at hl 1 rfl) ?_
  refine lv_iload_n hx hb dX8_casesIn_11 rfl (lv_at hl 2 rfl) ?_
  refine lv_aload_n hx hb dX8_casesIn_12 rfl (lv_at hl 1 rfl) ?_
  refine va_get (D := D) (ci := 8) (v := .int nde) (C := RX8) (T := TX8) (N := 38) hx hb hts hi_X8_casesIn_8 hown hK hP 0 rfl rfl 3 (by decide) (hts (.fieldLink RX8 115 "TheLiningsInItModel" "depth" "I") (List.mem_of_getElem? (i := 2) rfl)) (fun _ h9 => h9) rfl dX8_casesIn_13 ?_
  refine lv_aload_n hx hb dX8_casesIn_16 rfl (lv_at hl 1 rfl) ?_
  refine va_get (D := D) (ci := 8) (v := .int nse) (C := RX8) (T := TX8) (N := 38) hx hb hts hi_X8_casesIn_8 hown hK hP 0 rfl rfl 5 (by decide) (hts (.fieldLink RX8 13 "TheLiningsInItModel" "seconds" "I") (List.mem_of_getElem? (i := 3) rfl)) (fun _ h9 => h9) rfl dX8_casesIn_17 ?_
  refine lv_iconst (v := 0) hx hb dX8_casesIn_20 (by decide) ?_
  refine zc_V (As := [.int 3, .int nde, .int nse, .int 0]) (rest := []) ⟨hx, hb, hml, hown, hts⟩ (c_M_mostCases_3 l D cI cJ cZ cP cS po m0 mrf mki mpa mta mla msl mco mhe mso msi msh mce mca mwo mnu mte mwa mke mma mth mtr (npu) (nte) (nat_) (nde) (nto) (nse) (h) (nga) (nsd) (nfa) (nba) (npl) (nen) (nnu) (nwr) (nra) (nik) gki gpa gta (nde) (nse) (0) hy0 hy1 hy2 hy3 hy4 hy5 hy6 hy7 hy14 hy15 hy10 hy11 hy12 hy13 hy6 hy7 hp_gki hp_gpa hp_gta) (cwV 4 hts gX8_casesIn_X8_mostCases rfl rfl rfl ⟨rfl, dh_X8_mostCases⟩ ⟨Nat.le_of_ble_eq_true rfl, Nat.le_of_ble_eq_true rfl⟩) hK hN (hZ.kept hS) hP (hP.sub [0, 1, 2, 3] rfl) (va_recv (q := (RX8, TX8, 38)) hK hP (ci := 8) (q0 := 0) rfl rfl) rfl hl.1 rfl (Nat.le_of_ble_eq_true rfl) dX8_casesIn_21 ⟨Nat.le_of_ble_eq_true rfl, Nat.le_of_ble_eq_true rfl⟩ (fun r_1 hr_1 => ?_)
  refine lv_istore (lv' := [(4, .int r_1), (3, .int nhu), (0, .ref m0), (1, .int 3), (2, .int h)]) hx hb dX8_casesIn_24 hl (by decide) rfl (fun ls hl => ?_)
  refine lv_aload_n hx hb dX8_casesIn_26 rfl (lv_at hl 2 rfl) ?_
  refine lv_iload_n hx hb dX8_casesIn_27 rfl (lv_at hl 1 rfl) ?_
  refine va_put (D := D) (ci := 8) (v := .int nhu) (ty := .int) (C := RX8) (T := TX8) (N := 38) hx hb hts hi_X8_casesIn_8 tyX8 tyX8_ok nmX8 hown hK hP hD hS 0 rfl rfl 6 (by decide) (hts (.fieldLink RX8 135 "TheLiningsInItModel" "hurry" "I") (List.mem_of_getElem? (i := 1) rfl)) (fun _ h9 => h9) rfl (tyX8_ok 6 (Nat.le_of_ble_eq_true rfl)) rfl rfl (Nat.le_of_ble_eq_true rfl) dX8_casesIn_28 (fun H locs hP hD hS => ?_)
  have h9R := zRe (ws' := [(zMO m0 npu nte nat_ nde nto nse nhu nga nsd nfa mrf mki mpa mta mla msl mco mhe mso msi msh mce mca mwo mnu mte nba npl nen nnu nwr mwa mke mma mth mtr nra nik), (mki, .inl (cI, 8, .inl gki)), (mpa, .inl (cI, 8, .inl gpa)), (mta, .inl (cI, 8, .inl gta))]) hP hD rfl
  clear hP hD
  obtain ⟨hP, hD⟩ := h9R
  refine lv_iload hx hb dX8_casesIn_31 (lv_at hl 0 rfl) ?_
  exact W.iret (v := r_1) hx hb hr (fun t ht hW => ⟨⟨r_1, (), rfl, trivial, zRet ht hP hD [0, 1, 2, 3] (by decide) rfl⟩, hS.F ht⟩) hS.2.2 dX8_casesIn_33
set_option maxHeartbeats 4000000 in
set_option maxRecDepth 100000 in
theorem c_M_casesIn_4 (l : Launch) (D : va_G) (cI cJ cZ cP cS : ClassId) (po : zPool) (m0 mrf mki mpa mta mla msl mco mhe mso msi msh mce mca mwo mnu mte mwa mke mma mth mtr : Nat) (npu nte nat_ nde nto nse nhu nga nsd nfa nba npl nen nnu nwr nra nik : Int32) (gki gpa gta : Nat → Int32) (h : Int32) (hy0 : 0 ≤ npu.toInt) (hy1 : npu.toInt ≤ 8) (hy2 : 4 ≤ nte.toInt) (hy3 : nte.toInt ≤ 40) (hy4 : 0 ≤ nat_.toInt) (hy5 : nat_.toInt ≤ 40) (hy6 : 0 ≤ nde.toInt) (hy7 : nde.toInt ≤ 24) (hy8 : 0 ≤ nhu.toInt) (hy9 : nhu.toInt ≤ 9) (hy10 : 0 ≤ nra.toInt) (hy11 : nra.toInt ≤ 2000) (hy12 : 0 ≤ nik.toInt) (hy13 : nik.toInt ≤ 1) (hy14 : 0 ≤ h.toInt) (hy15 : h.toInt ≤ 9) (hp_gki : zRg gki (0) 6) (hp_gpa : zRg gpa (0) 9) (hp_gta : zRg gta (0) 60) (hpz : Nat) : Met l yX8_casesIn wsX8_casesIn ({ frames := 10, cells := 0, slots := 0, locals := 264 }) (va_Pc [.ref m0, .int 4, .int h] (zW D (zKT cI cJ cZ cP cS) po [(zMO m0 npu nte nat_ nde nto nse nhu nga nsd nfa mrf mki mpa mta mla msl mco mhe mso msi msh mce mca mwo mnu mte nba npl nen nnu nwr mwa mke mma mth mtr nra nik), (mki, .inl (cI, 8, .inl gki)), (mpa, .inl (cI, 8, .inl gpa)), (mta, .inl (cI, 8, .inl gta))] hpz)) (va_Qi (fun (r : Int32) (_ : Unit) => True) (zB D [(zMO m0 npu nte nat_ nde nto nse nhu nga nsd nfa mrf mki mpa mta mla msl mco mhe mso msi msh mce mca mwo mnu mte nba npl nen nnu nwr mwa mke mma mth mtr nra nik), (mki, .inl (cI, 8, .inl gki)), (mpa, .inl (cI, 8, .inl gpa)), (mta, .inl (cI, 8, .inl gta))] hpz (fun (_ : Unit) => [(zMO m0 npu nte nat_ nde nto nse nhu nga nsd nfa mrf mki mpa mta mla msl mco mhe mso msi msh mce mca mwo mnu mte nba npl nen nnu nwr mwa mke mma mth mtr nra nik), (mki, .inl (cI, 8, .inl gki)), (mpa, .inl (cI, 8, .inl gpa)), (mta, .inl (cI, 8, .inl gta))])) (va_A [(zMO m0 npu nte nat_ nde nto nse nhu nga nsd nfa mrf mki mpa mta mla msl mco mhe mso msi msh mce mca mwo mnu mte nba npl nen nnu nwr mwa mke mma mth mtr nra nik), (mki, .inl (cI, 8, .inl gki)), (mpa, .inl (cI, 8, .inl gpa)), (mta, .inl (cI, 8, .inl gta))] hpz)) 0 0 (va_A [(zMO m0 npu nte nat_ nde nto nse nhu nga nsd nfa mrf mki mpa mta mla msl mco mhe mso msi msh mce mca mwo mnu mte nba npl nen nnu nwr mwa mke mma mth mtr nra nik), (mki, .inl (cI, 8, .inl gki)), (mpa, .inl (cI, 8, .inl gpa)), (mta, .inl (cI, 8, .inl gta))] hpz) := by
  refine Met.ofW (cc := cX8_casesIn) (maxL := 5) (ret := (some .int)) (by decide) rfl ?_
  intro p e s m args below meth c s₁ B hml hv
  obtain ⟨rfl, hsz, hP, hK, hD0, hN, hZ⟩ := hv
  have hx := B.exec
  have hb := B.bytes
  have hr := B.returns
  have hts := atoms_spec (ws := wsX8_casesIn) B.pre
  have hown : s.vm.findClass RX8 = some m.cls := findClass_of_methodNamed B.named
  have hlocks := B.notSynchronized
  subst hsz
  have hD := hD0.self (sz := s.heap.size)
  have hA := zA_of hD
  have hl := lv_entry ([.ref m0, .int 4, .int h]) (n := 5) (Nat.le_of_ble_eq_true rfl)
  rw [lg_entry_eq]
  generalize (lg_sl ([.ref m0, .int 4, .int h]) ++ List.replicate (5 - (lg_sl ([.ref m0, .int 4, .int h])).length) Slot.unset).toArray = ls at hl ⊢
  replace hl : lv_has ls 5 [(0, .ref m0), (1, .int 4), (2, .int h)] := hl
  refine zw_begin hP hD (fun H locs hP1 hS => ?_)
  clear hP
  have hP := hP1
  clear hP1
  refine lv_aload_n hx hb dX8_casesIn_0 rfl (lv_at hl 0 rfl) ?_
  refine va_get (D := D) (ci := 8) (v := .int nhu) (C := RX8) (T := TX8) (N := 38) hx hb hts hi_X8_casesIn_8 hown hK hP 0 rfl rfl 6 (by decide) (hts (.fieldLink RX8 135 "TheLiningsInItModel" "hurry" "I") (List.mem_of_getElem? (i := 1) rfl)) (fun _ h9 => h9) rfl dX8_casesIn_1 ?_
  refine lv_istore_n (lv' := [(3, .int nhu), (0, .ref m0), (1, .int 4), (2, .int h)]) hx hb dX8_casesIn_4 rfl hl (by decide) rfl (fun ls hl => ?_)
  refine lv_aload_n hx hb dX8_casesIn_5 rfl (lv_at hl 1 rfl) ?_
  refine lv_iload_n hx hb dX8_casesIn_6 rfl (lv_at hl 3 rfl) ?_
  refine va_put (D := D) (ci := 8) (v := .int h) (ty := .int) (C := RX8) (T := TX8) (N := 38) hx hb hts hi_X8_casesIn_8 tyX8 tyX8_ok nmX8 hown hK hP hD hS 0 rfl rfl 6 (by decide) (hts (.fieldLink RX8 135 "TheLiningsInItModel" "hurry" "I") (List.mem_of_getElem? (i := 1) rfl)) (fun _ h9 => h9) rfl (tyX8_ok 6 (Nat.le_of_ble_eq_true rfl)) rfl rfl (Nat.le_of_ble_eq_true rfl) dX8_casesIn_7 (fun H locs hP hD hS => ?_)
  have h9R := zRe (ws' := [(zMO m0 npu nte nat_ nde nto nse h nga nsd nfa mrf mki mpa mta mla msl mco mhe mso msi msh mce mca mwo mnu mte nba npl nen nnu nwr mwa mke mma mth mtr nra nik), (mki, .inl (cI, 8, .inl gki)), (mpa, .inl (cI, 8, .inl gpa)), (mta, .inl (cI, 8, .inl gta))]) hP hD rfl
  clear hP hD
  obtain ⟨hP, hD⟩ := h9R
  refine lv_aload_n hx hb dX8_casesIn_10 rfl (lv_at hl 1 rfl) ?_
  refine lv_iload_n hx hb dX8_casesIn_11 rfl (lv_at hl 2 rfl) ?_
  refine lv_aload_n hx hb dX8_casesIn_12 rfl (lv_at hl 1 rfl) ?_
  refine va_get (D := D) (ci := 8) (v := .int nde) (C := RX8) (T := TX8) (N := 38) hx hb hts hi_X8_casesIn_8 hown hK hP 0 rfl rfl 3 (by decide) (hts (.fieldLink RX8 115 "TheLiningsInItModel" "depth" "I") (List.mem_of_getElem? (i := 2) rfl)) (fun _ h9 => h9) rfl dX8_casesIn_13 ?_
  refine lv_aload_n hx hb dX8_casesIn_16 rfl (lv_at hl 1 rfl) ?_
  refine va_get (D := D) (ci := 8) (v := .int nse) (C := RX8) (T := TX8) (N := 38) hx hb hts hi_X8_casesIn_8 hown hK hP 0 rfl rfl 5 (by decide) (hts (.fieldLink RX8 13 "TheLiningsInItModel" "seconds" "I") (List.mem_of_getElem? (i := 3) rfl)) (fun _ h9 => h9) rfl dX8_casesIn_17 ?_
  refine lv_iconst (v := 0) hx hb dX8_casesIn_20 (by decide) ?_
  refine zc_V (As := [.int 4, .int nde, .int nse, .int 0]) (rest := []) ⟨hx, hb, hml, hown, hts⟩ (c_M_mostCases_4 l D cI cJ cZ cP cS po m0 mrf mki mpa mta mla msl mco mhe mso msi msh mce mca mwo mnu mte mwa mke mma mth mtr (npu) (nte) (nat_) (nde) (nto) (nse) (h) (nga) (nsd) (nfa) (nba) (npl) (nen) (nnu) (nwr) (nra) (nik) gki gpa gta (nde) (nse) (0) hy0 hy1 hy2 hy3 hy4 hy5 hy6 hy7 hy14 hy15 hy10 hy11 hy12 hy13 hy6 hy7 hp_gki hp_gpa hp_gta) (cwV 4 hts gX8_casesIn_X8_mostCases rfl rfl rfl ⟨rfl, dh_X8_mostCases⟩ ⟨Nat.le_of_ble_eq_true rfl, Nat.le_of_ble_eq_true rfl⟩) hK hN (hZ.kept hS) hP (hP.sub [0, 1, 2, 3] rfl) (va_recv (q := (RX8, TX8, 38)) hK hP (ci := 8) (q0 := 0) rfl rfl) rfl hl.1 rfl (Nat.le_of_ble_eq_true rfl) dX8_casesIn_21 ⟨Nat.le_of_ble_eq_true rfl, Nat.le_of_ble_eq_true rfl⟩ (fun r_1 hr_1 => ?_)
  refine lv_istore (lv' := [(4, .int r_1), (3, .int nhu), (0, .ref m0), (1, .int 4), (2, .int h)]) hx hb dX8_casesIn_24 hl (by decide) rfl (fun ls hl => ?_)
  refine lv_aload_n hx hb dX8_casesIn_26 rfl (lv_at hl 2 rfl) ?_
  refine lv_iload_n hx hb dX8_casesIn_27 rfl (lv_at hl 1 rfl) ?_
  refine va_put (D := D) (ci := 8) (v := .int nhu) (ty := .int) (C := RX8) (T := TX8) (N := 38) hx hb hts hi_X8_casesIn_8 tyX8 tyX8_ok nmX8 hown hK hP hD hS 0 rfl rfl 6 (by decide) (hts (.fieldLink RX8 135 "TheLiningsInItModel" "hurry" "I") (List.mem_of_getElem? (i := 1) rfl)) (fun _ h9 => h9) rfl (tyX8_ok 6 (Nat.le_of_ble_eq_true rfl)) rfl rfl (Nat.le_of_ble_eq_true rfl) dX8_casesIn_28 (fun H locs hP hD hS => ?_)
  have h9R := zRe (ws' := [(zMO m0 npu nte nat_ nde nto nse nhu nga nsd nfa mrf mki mpa mta mla msl mco mhe mso msi msh mce mca mwo mnu mte nba npl nen nnu nwr mwa mke mma mth mtr nra nik), (mki, .inl (cI, 8, .inl gki)), (mpa, .inl (cI, 8, .inl gpa)), (mta, .inl (cI, 8, .inl gta))]) hP hD rfl
  clear hP hD
  obtain ⟨hP, hD⟩ := h9R
  refine lv_iload hx hb dX8_casesIn_31 (lv_at hl 0 rfl) ?_
  exact W.iret (v := r_1) hx hb hr (fun t ht hW => ⟨⟨r_1, (), rfl, trivial, zRet ht hP hD [0, 1, 2, 3] (by decide) rfl⟩, hS.F ht⟩) hS.2.2 dX8_casesIn_33
set_option maxHeartbeats 4000000 in
set_option maxRecDepth 100000 in
theorem c_M_haste (l : Launch) (D : va_G) (cI cJ cZ cP cS : ClassId) (po : zPool) (m0 mrf mki mpa mta mla msl mco mhe mso msi msh mce mca mwo mnu mte mwa mke mma mth mtr : Nat) (npu nte nat_ nde nto nse nhu nga nsd nfa nba npl nen nnu nwr nra nik : Int32) (grf gki gpa gta : Nat → Int32) (n w : Int32) (hy0 : 0 ≤ npu.toInt) (hy1 : npu.toInt ≤ 8) (hy2 : 4 ≤ nte.toInt) (hy3 : nte.toInt ≤ 40) (hy4 : 0 ≤ nat_.toInt) (hy5 : nat_.toInt ≤ 40) (hy6 : 0 ≤ nde.toInt) (hy7 : nde.toInt ≤ 24) (hy8 : 0 ≤ nhu.toInt) (hy9 : nhu.toInt ≤ 9) (hy10 : 0 ≤ nra.toInt) (hy11 : nra.toInt ≤ 2000) (hy12 : 0 ≤ nik.toInt) (hy13 : nik.toInt ≤ 1) (hp_gki : zRg gki (0) 6) (hp_gpa : zRg gpa (0) 9) (hp_gta : zRg gta (0) 60) (hpz : Nat) : Met l yX8_haste wsX8_haste ({ frames := 11, cells := 0, slots := 0, locals := 288 }) (va_Pc [.ref m0, .int n, .int w] (zW D (zKT cI cJ cZ cP cS) po [(zMO m0 npu nte nat_ nde nto nse nhu nga nsd nfa mrf mki mpa mta mla msl mco mhe mso msi msh mce mca mwo mnu mte nba npl nen nnu nwr mwa mke mma mth mtr nra nik), (mrf, .inl (cI, 8, .inl grf)), (mki, .inl (cI, 8, .inl gki)), (mpa, .inl (cI, 8, .inl gpa)), (mta, .inl (cI, 8, .inl gta))] hpz)) (va_Qi (fun (r : Int32) (grf2 : (Nat → Int32)) => True) (zB D [(zMO m0 npu nte nat_ nde nto nse nhu nga nsd nfa mrf mki mpa mta mla msl mco mhe mso msi msh mce mca mwo mnu mte nba npl nen nnu nwr mwa mke mma mth mtr nra nik), (mrf, .inl (cI, 8, .inl grf)), (mki, .inl (cI, 8, .inl gki)), (mpa, .inl (cI, 8, .inl gpa)), (mta, .inl (cI, 8, .inl gta))] hpz (fun (grf2 : Nat → Int32) => [(zMO m0 npu nte nat_ nde nto nse nhu nga nsd nfa mrf mki mpa mta mla msl mco mhe mso msi msh mce mca mwo mnu mte nba npl nen nnu nwr mwa mke mma mth mtr nra nik), (mrf, .inl (cI, 8, .inl grf2)), (mki, .inl (cI, 8, .inl gki)), (mpa, .inl (cI, 8, .inl gpa)), (mta, .inl (cI, 8, .inl gta))])) (va_A [(zMO m0 npu nte nat_ nde nto nse nhu nga nsd nfa mrf mki mpa mta mla msl mco mhe mso msi msh mce mca mwo mnu mte nba npl nen nnu nwr mwa mke mma mth mtr nra nik), (mrf, .inl (cI, 8, .inl grf)), (mki, .inl (cI, 8, .inl gki)), (mpa, .inl (cI, 8, .inl gpa)), (mta, .inl (cI, 8, .inl gta))] hpz)) 0 0 (va_A [(zMO m0 npu nte nat_ nde nto nse nhu nga nsd nfa mrf mki mpa mta mla msl mco mhe mso msi msh mce mca mwo mnu mte nba npl nen nnu nwr mwa mke mma mth mtr nra nik), (mrf, .inl (cI, 8, .inl grf)), (mki, .inl (cI, 8, .inl gki)), (mpa, .inl (cI, 8, .inl gpa)), (mta, .inl (cI, 8, .inl gta))] hpz) := by
  refine Met.ofW (cc := cX8_haste) (maxL := 7) (ret := (some .int)) (by decide) rfl ?_
  intro p e s m args below meth c s₁ B hml hv
  obtain ⟨rfl, hsz, hP, hK, hD0, hN, hZ⟩ := hv
  have hx := B.exec
  have hb := B.bytes
  have hr := B.returns
  have hts := atoms_spec (ws := wsX8_haste) B.pre
  have hown : s.vm.findClass RX8 = some m.cls := findClass_of_methodNamed B.named
  have hlocks := B.notSynchronized
  subst hsz
  have hD := hD0.self (sz := s.heap.size)
  have hA := zA_of hD
  have hl := lv_entry ([.ref m0, .int n, .int w]) (n := 7) (Nat.le_of_ble_eq_true rfl)
  rw [lg_entry_eq]
  generalize (lg_sl ([.ref m0, .int n, .int w]) ++ List.replicate (7 - (lg_sl ([.ref m0, .int n, .int w])).length) Slot.unset).toArray = ls at hl ⊢
  replace hl : lv_has ls 7 [(0, .ref m0), (1, .int n), (2, .int w)] := hl
  refine zw_begin hP hD (fun H locs hP1 hS => ?_)
  clear hP
  have hP := hP1
  clear hP1
  refine lv_iload_n hx hb dX8_haste_0 rfl (lv_at hl 2 rfl) ?_
  refine lv_if_lt (tgt := 9) hx hb dX8_haste_1 (by decide) (fun c_1 => ?_) (fun c_1 => ?_)
  · have fc_1 : w.toInt < 0 := zf_lt c_1 rfl (by decide)
    refine lv_aload_n hx hb dX8_haste_9 rfl (lv_at hl 0 rfl) ?_
    refine lv_bipush (v := (-5)) hx hb dX8_haste_10 (by decide) ?_
    skip
    refine zw_V (As := [.int (-5)]) (rest := []) (wr := [(mki, .inl (cI, 8, .inl gki)), (mpa, .inl (cI, 8, .inl gpa)), (mta, .inl (cI, 8, .inl gta))]) ⟨hx, hb, hml, hown, hts⟩ (c_M_no_5 l D cI cJ cZ cP cS po m0 mrf mki mpa mta mla msl mco mhe mso msi msh mce mca mwo mnu mte mwa mke mma mth mtr (npu) (nte) (nat_) (nde) (nto) (nse) (nhu) (nga) (nsd) (nfa) (nba) (npl) (nen) (nnu) (nwr) (nra) (nik) grf hy0 hy1 hy2 hy3 hy4 hy5 hy6 hy7 hy8 hy9 hy10 hy11 hy12 hy13 H.size) (cwV 1 hts gX8_haste_X8_no rfl rfl rfl ⟨rfl, dh_X8_no⟩ ⟨Nat.le_of_ble_eq_true rfl, Nat.le_of_ble_eq_true rfl⟩) hK hN (hZ.kept hS) hP hD hS hA [0, 1] [2, 3, 4] rfl rfl (by decide) (by decide) (by decide) (va_recv (q := (RX8, TX8, 38)) hK hP (ci := 8) (q0 := 0) rfl rfl) rfl hl.1 rfl (Nat.le_of_ble_eq_true rfl) dX8_haste_12 ⟨Nat.le_of_ble_eq_true rfl, Nat.le_of_ble_eq_true rfl⟩ (fun r_2 u_3 H locs hr_2 hP hD hS => ?_)
    obtain ⟨q_4, rfl⟩ : ∃ z, z = u_3 := ⟨_, rfl⟩
    have h9R := zRe (ws' := [(mki, .inl (cI, 8, .inl gki)), (mpa, .inl (cI, 8, .inl gpa)), (mta, .inl (cI, 8, .inl gta)), (zMO m0 npu nte nat_ nde nto nse nhu nga nsd nfa mrf mki mpa mta mla msl mco mhe mso msi msh mce mca mwo mnu mte nba npl nen nnu nwr mwa mke mma mth mtr nra nik), (mrf, .inl (cI, 8, .inl q_4))]) hP hD rfl
    clear hP hD
    obtain ⟨hP, hD⟩ := h9R
    obtain rfl := hr_2
    exact W.iret (v := (-5)) hx hb hr (fun t ht hW => ⟨⟨(-5), q_4, rfl, trivial, zRet ht hP hD [3, 4, 0, 1, 2] (by decide) rfl⟩, hS.F ht⟩) hS.2.2 dX8_haste_15
  · have fc_1 : 0 ≤ w.toInt := zf_nlt c_1 rfl (by decide)
    refine lv_iload_n hx hb dX8_haste_4 rfl (lv_at hl 2 rfl) ?_
    refine lv_iconst (v := 1) hx hb dX8_haste_5 (by decide) ?_
    refine lv_icmp_le (tgt := 16) hx hb dX8_haste_6 (by decide) (fun c_5 => ?_) (fun c_5 => ?_)
    · have fc_5 : w.toInt ≤ 1 := zf_le c_5 rfl (by decide)
      refine lv_aload_n hx hb dX8_haste_16 rfl (lv_at hl 0 rfl) ?_
      refine lv_iload_n hx hb dX8_haste_17 rfl (lv_at hl 1 rfl) ?_
      refine zc_V (As := [.int n]) (rest := []) ⟨hx, hb, hml, hown, hts⟩ (c_M_isFew l D cI cJ cZ cP cS po m0 mrf mki mpa mta mla msl mco mhe mso msi msh mce mca mwo mnu mte mwa mke mma mth mtr (npu) (nte) (nat_) (nde) (nto) (nse) (nhu) (nga) (nsd) (nfa) (nba) (npl) (nen) (nnu) (nwr) (nra) (nik) (n) hy0 hy1 hy2 hy3 hy4 hy5 hy6 hy7 hy8 hy9 hy10 hy11 hy12 hy13) (cwV 1 hts gX8_haste_X8_isFew rfl rfl rfl ⟨rfl, dh_X8_isFew⟩ ⟨Nat.le_of_ble_eq_true rfl, Nat.le_of_ble_eq_true rfl⟩) hK hN (hZ.kept hS) hP (hP.sub [0] rfl) (va_recv (q := (RX8, TX8, 38)) hK hP (ci := 8) (q0 := 0) rfl rfl) rfl hl.1 rfl (Nat.le_of_ble_eq_true rfl) dX8_haste_18 ⟨Nat.le_of_ble_eq_true rfl, Nat.le_of_ble_eq_true rfl⟩ (fun r_6 hr_6 => ?_)
      rcases hr_6 with ⟨rfl, g_7⟩ | ⟨rfl, g_8, g_9⟩ | ⟨rfl, g_10, g_11⟩
      · refine lv_if_ne (tgt := 31) hx hb dX8_haste_21 (by decide) (fun c_12 => ?_) (fun c_12 => ?_)
        · exact absurd c_12 (by decide)
        · refine lv_aload_n hx hb dX8_haste_24 rfl (lv_at hl 0 rfl) ?_
          refine lv_bipush (v := (-6)) hx hb dX8_haste_25 (by decide) ?_
          skip
          refine zw_V (As := [.int (-6)]) (rest := []) (wr := [(mki, .inl (cI, 8, .inl gki)), (mpa, .inl (cI, 8, .inl gpa)), (mta, .inl (cI, 8, .inl gta))]) ⟨hx, hb, hml, hown, hts⟩ (c_M_no_6 l D cI cJ cZ cP cS po m0 mrf mki mpa mta mla msl mco mhe mso msi msh mce mca mwo mnu mte mwa mke mma mth mtr (npu) (nte) (nat_) (nde) (nto) (nse) (nhu) (nga) (nsd) (nfa) (nba) (npl) (nen) (nnu) (nwr) (nra) (nik) grf hy0 hy1 hy2 hy3 hy4 hy5 hy6 hy7 hy8 hy9 hy10 hy11 hy12 hy13 H.size) (cwV 1 hts gX8_haste_X8_no rfl rfl rfl ⟨rfl, dh_X8_no⟩ ⟨Nat.le_of_ble_eq_true rfl, Nat.le_of_ble_eq_true rfl⟩) hK hN (hZ.kept hS) hP hD hS hA [0, 1] [2, 3, 4] rfl rfl (by decide) (by decide) (by decide) (va_recv (q := (RX8, TX8, 38)) hK hP (ci := 8) (q0 := 0) rfl rfl) rfl hl.1 rfl (Nat.le_of_ble_eq_true rfl) dX8_haste_27 ⟨Nat.le_of_ble_eq_true rfl, Nat.le_of_ble_eq_true rfl⟩ (fun r_13 u_14 H locs hr_13 hP hD hS => ?_)
          obtain ⟨q_15, rfl⟩ : ∃ z, z = u_14 := ⟨_, rfl⟩
          have h9R := zRe (ws' := [(mki, .inl (cI, 8, .inl gki)), (mpa, .inl (cI, 8, .inl gpa)), (mta, .inl (cI, 8, .inl gta)), (zMO m0 npu nte nat_ nde nto nse nhu nga nsd nfa mrf mki mpa mta mla msl mco mhe mso msi msh mce mca mwo mnu mte nba npl nen nnu nwr mwa mke mma mth mtr nra nik), (mrf, .inl (cI, 8, .inl q_15))]) hP hD rfl
          clear hP hD
          obtain ⟨hP, hD⟩ := h9R
          obtain rfl := hr_13
          exact W.iret (v := (-6)) hx hb hr (fun t ht hW => ⟨⟨(-6), q_15, rfl, trivial, zRet ht hP hD [3, 4, 0, 1, 2] (by decide) rfl⟩, hS.F ht⟩) hS.2.2 dX8_haste_30
      · refine lv_if_ne (tgt := 31) hx hb dX8_haste_21 (by decide) (fun c_16 => ?_) (fun c_16 => ?_)
        · exact absurd c_16 (by decide)
        · refine lv_aload_n hx hb dX8_haste_24 rfl (lv_at hl 0 rfl) ?_
          refine lv_bipush (v := (-6)) hx hb dX8_haste_25 (by decide) ?_
          skip
          refine zw_V (As := [.int (-6)]) (rest := []) (wr := [(mki, .inl (cI, 8, .inl gki)), (mpa, .inl (cI, 8, .inl gpa)), (mta, .inl (cI, 8, .inl gta))]) ⟨hx, hb, hml, hown, hts⟩ (c_M_no_6 l D cI cJ cZ cP cS po m0 mrf mki mpa mta mla msl mco mhe mso msi msh mce mca mwo mnu mte mwa mke mma mth mtr (npu) (nte) (nat_) (nde) (nto) (nse) (nhu) (nga) (nsd) (nfa) (nba) (npl) (nen) (nnu) (nwr) (nra) (nik) grf hy0 hy1 hy2 hy3 hy4 hy5 hy6 hy7 hy8 hy9 hy10 hy11 hy12 hy13 H.size) (cwV 1 hts gX8_haste_X8_no rfl rfl rfl ⟨rfl, dh_X8_no⟩ ⟨Nat.le_of_ble_eq_true rfl, Nat.le_of_ble_eq_true rfl⟩) hK hN (hZ.kept hS) hP hD hS hA [0, 1] [2, 3, 4] rfl rfl (by decide) (by decide) (by decide) (va_recv (q := (RX8, TX8, 38)) hK hP (ci := 8) (q0 := 0) rfl rfl) rfl hl.1 rfl (Nat.le_of_ble_eq_true rfl) dX8_haste_27 ⟨Nat.le_of_ble_eq_true rfl, Nat.le_of_ble_eq_true rfl⟩ (fun r_17 u_18 H locs hr_17 hP hD hS => ?_)
          obtain ⟨q_19, rfl⟩ : ∃ z, z = u_18 := ⟨_, rfl⟩
          have h9R := zRe (ws' := [(mki, .inl (cI, 8, .inl gki)), (mpa, .inl (cI, 8, .inl gpa)), (mta, .inl (cI, 8, .inl gta)), (zMO m0 npu nte nat_ nde nto nse nhu nga nsd nfa mrf mki mpa mta mla msl mco mhe mso msi msh mce mca mwo mnu mte nba npl nen nnu nwr mwa mke mma mth mtr nra nik), (mrf, .inl (cI, 8, .inl q_19))]) hP hD rfl
          clear hP hD
          obtain ⟨hP, hD⟩ := h9R
          obtain rfl := hr_17
          exact W.iret (v := (-6)) hx hb hr (fun t ht hW => ⟨⟨(-6), q_19, rfl, trivial, zRet ht hP hD [3, 4, 0, 1, 2] (by decide) rfl⟩, hS.F ht⟩) hS.2.2 dX8_haste_30
      · refine lv_if_ne (tgt := 31) hx hb dX8_haste_21 (by decide) (fun c_20 => ?_) (fun c_20 => ?_)
        · have hsp : n = 0 ∨ n = 1 ∨ n = 2 ∨ n = 3 ∨ n = 4 := by
            rcases (show n.toInt = 0 ∨ n.toInt = 1 ∨ n.toInt = 2 ∨ n.toInt = 3 ∨ n.toInt = 4 by omega) with h9 | h9 | h9 | h9 | h9
            · refine Or.inl ?_; exact zf_val h9 (by decide)
            · refine Or.inr (Or.inl ?_); exact zf_val h9 (by decide)
            · refine Or.inr (Or.inr (Or.inl ?_)); exact zf_val h9 (by decide)
            · refine Or.inr (Or.inr (Or.inr (Or.inl ?_))); exact zf_val h9 (by decide)
            · refine Or.inr (Or.inr (Or.inr (Or.inr (?_)))); exact zf_val h9 (by decide)
          rcases hsp with rfl | rfl | rfl | rfl | rfl
          · have kc0 : (0 : Int32).toInt = 0 := by decide
            refine lv_iload_n hx hb dX8_haste_31 rfl (lv_at hl 2 rfl) ?_
            refine lv_iconst (v := 1) hx hb dX8_haste_32 (by decide) ?_
            refine lv_icmp_ne (tgt := 58) hx hb dX8_haste_33 (by decide) (fun c_21 => ?_) (fun c_21 => ?_)
            · have fc_21 : w.toInt ≠ 1 := zf_ne c_21 rfl (by decide)
              refine lv_iconst (v := 0) hx hb dX8_haste_58 (by decide) ?_
              refine lv_istore_n (lv' := [(3, .int 0), (0, .ref m0), (1, .int 0), (2, .int w)]) hx hb dX8_haste_59 rfl hl (by decide) rfl (fun ls hl => ?_)
              refine lv_iconst (v := (-1)) hx hb dX8_haste_60 (by decide) ?_
              refine lv_istore (lv' := [(4, .int (-1)), (3, .int 0), (0, .ref m0), (1, .int 0), (2, .int w)]) hx hb dX8_haste_61 hl (by decide) rfl (fun ls hl => ?_)
              refine lv_iconst (v := 0) hx hb dX8_haste_63 (by decide) ?_
              refine lv_istore (lv' := [(5, .int 0), (4, .int (-1)), (3, .int 0), (0, .ref m0), (1, .int 0), (2, .int w)]) hx hb dX8_haste_64 hl (by decide) rfl (fun ls hl => ?_)
              obtain ⟨i_66, hi_66⟩ : ∃ i : Int32, i = 0 := ⟨_, rfl⟩
              replace hl : lv_has ls 7 [(5, .int i_66), (4, .int (-1)), (3, .int 0), (0, .ref m0), (1, .int 0), (2, .int w)] := by rw [hi_66]; exact lv_sub hl [0, 1, 2, 3, 4, 5] rfl
              have h1i_66 : i_66.toInt = 0 := by rw [hi_66]; decide
              obtain ⟨nfu, hni_66⟩ : ∃ nq9 : Nat, 10 ≤ i_66.toInt + (nq9 : Int) := ⟨((10 : Int) - 0).toNat, by omega⟩
              have hloi_66 : 0 ≤ i_66.toInt := by omega
              obtain ⟨v_22, hv_22⟩ : ∃ g : Int32, g = 0 := ⟨_, rfl⟩
              obtain ⟨v_23, hv_23⟩ : ∃ g : Int32, g = (-1) := ⟨_, rfl⟩
              replace hl : lv_has ls 7 [(5, .int i_66), (4, .int v_23), (3, .int v_22), (0, .ref m0), (1, .int 0), (2, .int w)] := by rw [hv_22, hv_23]; exact hl
              clear h1i_66 hi_66 hv_22 hv_23
              skip
              revert hni_66
              revert hloi_66
              revert hl
              revert hS
              revert hD
              revert hP
              revert ls
              revert locs
              revert H
              revert v_23
              revert v_22
              revert i_66
              induction nfu with
              | zero =>
                intro i_66 v_22 v_23 H locs ls hP hD hS hl hloi_66 hni_66
                have hzi_66 : 10 ≤ i_66.toInt := by omega
                refine lv_iload hx hb dX8_haste_66 (lv_at hl 0 rfl) ?_
                refine lv_bipush (v := 10) hx hb dX8_haste_68 (by decide) ?_
                refine lv_icmp_ge (tgt := 105) hx hb dX8_haste_70 (by decide) (fun c_24 => ?_) (fun c_24 => ?_)
                · have fc_24 : 10 ≤ i_66.toInt := zf_le c_24 (by decide) rfl
                  refine lv_iload_n hx hb dX8_haste_105 rfl (lv_at hl 2 rfl) ?_
                  exact W.iret (v := v_22) hx hb hr (fun t ht hW => ⟨⟨v_22, grf, rfl, trivial, zRet ht hP hD [0, 1, 2, 3, 4] (by decide) rfl⟩, hS.F ht⟩) hS.2.2 dX8_haste_106
                · exfalso; have fc_24 : i_66.toInt < 10 := zf_nle c_24 (by decide) rfl; omega
              | succ nfu ih =>
                intro i_66 v_22 v_23 H locs ls hP hD hS hl hloi_66 hni_66
                refine lv_iload hx hb dX8_haste_66 (lv_at hl 0 rfl) ?_
                refine lv_bipush (v := 10) hx hb dX8_haste_68 (by decide) ?_
                refine lv_icmp_ge (tgt := 105) hx hb dX8_haste_70 (by decide) (fun c_25 => ?_) (fun c_25 => ?_)
                · have fc_25 : 10 ≤ i_66.toInt := zf_le c_25 (by decide) rfl
                  refine lv_iload_n hx hb dX8_haste_105 rfl (lv_at hl 2 rfl) ?_
                  exact W.iret (v := v_22) hx hb hr (fun t ht hW => ⟨⟨v_22, grf, rfl, trivial, zRet ht hP hD [0, 1, 2, 3, 4] (by decide) rfl⟩, hS.F ht⟩) hS.2.2 dX8_haste_106
                · have fc_25 : i_66.toInt < 10 := zf_nle c_25 (by decide) rfl
                  refine lv_aload_n hx hb dX8_haste_73 rfl (lv_at hl 3 rfl) ?_
                  refine lv_iload_n hx hb dX8_haste_74 rfl (lv_at hl 4 rfl) ?_
                  refine lv_iload hx hb dX8_haste_75 (lv_at hl 0 rfl) ?_
                  skip
                  refine zw_V (As := [.int 0, .int i_66]) (rest := []) (wr := [(mrf, .inl (cI, 8, .inl grf))]) ⟨hx, hb, hml, hown, hts⟩ (c_M_casesIn_0 l D cI cJ cZ cP cS po m0 mrf mki mpa mta mla msl mco mhe mso msi msh mce mca mwo mnu mte mwa mke mma mth mtr (npu) (nte) (nat_) (nde) (nto) (nse) (nhu) (nga) (nsd) (nfa) (nba) (npl) (nen) (nnu) (nwr) (nra) (nik) gki gpa gta (i_66) hy0 hy1 hy2 hy3 hy4 hy5 hy6 hy7 hy8 hy9 hy10 hy11 hy12 hy13 (by omega) (by omega) hp_gki hp_gpa hp_gta H.size) (cwV 2 hts gX8_haste_X8_casesIn rfl rfl rfl ⟨rfl, dh_X8_casesIn⟩ ⟨Nat.le_of_ble_eq_true rfl, Nat.le_of_ble_eq_true rfl⟩) hK hN (hZ.kept hS) hP hD hS hA [0, 2, 3, 4] [1] rfl rfl (by decide) (by decide) (by decide) (va_recv (q := (RX8, TX8, 38)) hK hP (ci := 8) (q0 := 0) rfl rfl) rfl hl.1 rfl (Nat.le_of_ble_eq_true rfl) dX8_haste_77 ⟨Nat.le_of_ble_eq_true rfl, Nat.le_of_ble_eq_true rfl⟩ (fun r_26 u_27 H locs hr_26 hP hD hS => ?_)
                  have h9R := zRe (ws' := [(mrf, .inl (cI, 8, .inl grf)), (zMO m0 npu nte nat_ nde nto nse nhu nga nsd nfa mrf mki mpa mta mla msl mco mhe mso msi msh mce mca mwo mnu mte nba npl nen nnu nwr mwa mke mma mth mtr nra nik), (mki, .inl (cI, 8, .inl gki)), (mpa, .inl (cI, 8, .inl gpa)), (mta, .inl (cI, 8, .inl gta))]) hP hD rfl
                  clear hP hD
                  obtain ⟨hP, hD⟩ := h9R
                  refine lv_istore (lv' := [(6, .int r_26), (5, .int i_66), (4, .int v_23), (3, .int v_22), (0, .ref m0), (1, .int 0), (2, .int w)]) hx hb dX8_haste_80 hl (by decide) rfl (fun ls hl => ?_)
                  refine lv_iload hx hb dX8_haste_82 (lv_at hl 0 rfl) ?_
                  refine lv_iload hx hb dX8_haste_84 (lv_at hl 2 rfl) ?_
                  refine lv_icmp_gt (tgt := 92) hx hb dX8_haste_86 (by decide) (fun c_28 => ?_) (fun c_28 => ?_)
                  · have fc_28 : v_23.toInt < r_26.toInt := zf_lt c_28 rfl rfl
                    refine lv_iload hx hb dX8_haste_92 (lv_at hl 1 rfl) ?_
                    refine lv_istore_n (lv' := [(3, .int i_66), (6, .int r_26), (5, .int i_66), (4, .int v_23), (0, .ref m0), (1, .int 0), (2, .int w)]) hx hb dX8_haste_94 rfl hl (by decide) rfl (fun ls hl => ?_)
                    refine lv_iload hx hb dX8_haste_95 (lv_at hl 1 rfl) ?_
                    refine lv_istore (lv' := [(4, .int r_26), (3, .int i_66), (6, .int r_26), (5, .int i_66), (0, .ref m0), (1, .int 0), (2, .int w)]) hx hb dX8_haste_97 hl (by decide) rfl (fun ls hl => ?_)
                    obtain ⟨x_29, ex_29⟩ : ∃ y : Int32, y = i_66 + 1 := ⟨_, rfl⟩
                    have qx_29 : x_29.toInt = i_66.toInt + 1 := dw_incK ex_29 fc_25 (by decide)
                    refine lv_iinc (v := x_29) (lv' := [(5, .int x_29), (4, .int r_26), (3, .int i_66), (6, .int r_26), (0, .ref m0), (1, .int 0), (2, .int w)]) hx hb dX8_haste_99 hl (k := 3) rfl ex_29.symm (by decide) rfl (fun ls hl => ?_)
                    refine lv_goto (tgt := 66) hx hb dX8_haste_102 (by decide) ?_
                    exact ih x_29 i_66 r_26 _ _ _ (hP.sub [1, 0, 2, 3, 4] rfl) (hD.sub [1, 0, 2, 3, 4] (by decide) rfl) hS (lv_sub hl [0, 1, 2, 4, 5, 6] rfl) (dw_lo hloi_66 qx_29) (dw_hn hni_66 qx_29)
                  · have fc_28 : r_26.toInt ≤ v_23.toInt := zf_nlt c_28 rfl rfl
                    refine lv_goto (tgt := 99) hx hb dX8_haste_89 (by decide) ?_
                    obtain ⟨x_30, ex_30⟩ : ∃ y : Int32, y = i_66 + 1 := ⟨_, rfl⟩
                    have qx_30 : x_30.toInt = i_66.toInt + 1 := dw_incK ex_30 fc_25 (by decide)
                    refine lv_iinc (v := x_30) (lv' := [(5, .int x_30), (6, .int r_26), (4, .int v_23), (3, .int v_22), (0, .ref m0), (1, .int 0), (2, .int w)]) hx hb dX8_haste_99 hl (k := 1) rfl ex_30.symm (by decide) rfl (fun ls hl => ?_)
                    refine lv_goto (tgt := 66) hx hb dX8_haste_102 (by decide) ?_
                    exact ih x_30 v_22 v_23 _ _ _ (hP.sub [1, 0, 2, 3, 4] rfl) (hD.sub [1, 0, 2, 3, 4] (by decide) rfl) hS (lv_sub hl [0, 2, 3, 4, 5, 6] rfl) (dw_lo hloi_66 qx_30) (dw_hn hni_66 qx_30)
            · have fc_21 : w.toInt = 1 := zf_eq c_21 rfl (by decide)
              refine lv_aload_n hx hb dX8_haste_36 rfl (lv_at hl 0 rfl) ?_
              refine lv_iload_n hx hb dX8_haste_37 rfl (lv_at hl 1 rfl) ?_
              refine lv_bipush (v := 9) hx hb dX8_haste_38 (by decide) ?_
              have kc9 : (9 : Int32).toInt = 9 := by decide
              skip
              refine zw_V (As := [.int 0, .int 9]) (rest := []) (wr := [(mrf, .inl (cI, 8, .inl grf))]) ⟨hx, hb, hml, hown, hts⟩ (c_M_casesIn_0 l D cI cJ cZ cP cS po m0 mrf mki mpa mta mla msl mco mhe mso msi msh mce mca mwo mnu mte mwa mke mma mth mtr (npu) (nte) (nat_) (nde) (nto) (nse) (nhu) (nga) (nsd) (nfa) (nba) (npl) (nen) (nnu) (nwr) (nra) (nik) gki gpa gta (9) hy0 hy1 hy2 hy3 hy4 hy5 hy6 hy7 hy8 hy9 hy10 hy11 hy12 hy13 (by omega) (by omega) hp_gki hp_gpa hp_gta H.size) (cwV 2 hts gX8_haste_X8_casesIn rfl rfl rfl ⟨rfl, dh_X8_casesIn⟩ ⟨Nat.le_of_ble_eq_true rfl, Nat.le_of_ble_eq_true rfl⟩) hK hN (hZ.kept hS) hP hD hS hA [0, 2, 3, 4] [1] rfl rfl (by decide) (by decide) (by decide) (va_recv (q := (RX8, TX8, 38)) hK hP (ci := 8) (q0 := 0) rfl rfl) rfl hl.1 rfl (Nat.le_of_ble_eq_true rfl) dX8_haste_40 ⟨Nat.le_of_ble_eq_true rfl, Nat.le_of_ble_eq_true rfl⟩ (fun r_31 u_32 H locs hr_31 hP hD hS => ?_)
              have h9R := zRe (ws' := [(mrf, .inl (cI, 8, .inl grf)), (zMO m0 npu nte nat_ nde nto nse nhu nga nsd nfa mrf mki mpa mta mla msl mco mhe mso msi msh mce mca mwo mnu mte nba npl nen nnu nwr mwa mke mma mth mtr nra nik), (mki, .inl (cI, 8, .inl gki)), (mpa, .inl (cI, 8, .inl gpa)), (mta, .inl (cI, 8, .inl gta))]) hP hD rfl
              clear hP hD
              obtain ⟨hP, hD⟩ := h9R
              refine lv_aload_n hx hb dX8_haste_43 rfl (lv_at hl 0 rfl) ?_
              refine lv_iload_n hx hb dX8_haste_44 rfl (lv_at hl 1 rfl) ?_
              refine lv_iconst (v := 0) hx hb dX8_haste_45 (by decide) ?_
              skip
              refine zw_V (As := [.int 0, .int 0]) (rest := [.int r_31]) (wr := [(mrf, .inl (cI, 8, .inl grf))]) ⟨hx, hb, hml, hown, hts⟩ (c_M_casesIn_0 l D cI cJ cZ cP cS po m0 mrf mki mpa mta mla msl mco mhe mso msi msh mce mca mwo mnu mte mwa mke mma mth mtr (npu) (nte) (nat_) (nde) (nto) (nse) (nhu) (nga) (nsd) (nfa) (nba) (npl) (nen) (nnu) (nwr) (nra) (nik) gki gpa gta (0) hy0 hy1 hy2 hy3 hy4 hy5 hy6 hy7 hy8 hy9 hy10 hy11 hy12 hy13 (by omega) (by omega) hp_gki hp_gpa hp_gta H.size) (cwV 2 hts gX8_haste_X8_casesIn rfl rfl rfl ⟨rfl, dh_X8_casesIn⟩ ⟨Nat.le_of_ble_eq_true rfl, Nat.le_of_ble_eq_true rfl⟩) hK hN (hZ.kept hS) hP hD hS hA [1, 2, 3, 4] [0] rfl rfl (by decide) (by decide) (by decide) (va_recv (q := (RX8, TX8, 38)) hK hP (ci := 8) (q0 := 1) rfl rfl) rfl hl.1 rfl (Nat.le_of_ble_eq_true rfl) dX8_haste_46 ⟨Nat.le_of_ble_eq_true rfl, Nat.le_of_ble_eq_true rfl⟩ (fun r_33 u_34 H locs hr_33 hP hD hS => ?_)
              have h9R := zRe (ws' := [(mrf, .inl (cI, 8, .inl grf)), (zMO m0 npu nte nat_ nde nto nse nhu nga nsd nfa mrf mki mpa mta mla msl mco mhe mso msi msh mce mca mwo mnu mte nba npl nen nnu nwr mwa mke mma mth mtr nra nik), (mki, .inl (cI, 8, .inl gki)), (mpa, .inl (cI, 8, .inl gpa)), (mta, .inl (cI, 8, .inl gta))]) hP hD rfl
              clear hP hD
              obtain ⟨hP, hD⟩ := h9R
              refine lv_icmp_ge (tgt := 56) hx hb dX8_haste_49 (by decide) (fun c_35 => ?_) (fun c_35 => ?_)
              · have fc_35 : r_33.toInt ≤ r_31.toInt := zf_le c_35 rfl rfl
                refine lv_iconst (v := 0) hx hb dX8_haste_56 (by decide) ?_
                exact W.iret (v := 0) hx hb hr (fun t ht hW => ⟨⟨0, grf, rfl, trivial, zRet ht hP hD [1, 0, 2, 3, 4] (by decide) rfl⟩, hS.F ht⟩) hS.2.2 dX8_haste_57
              · have fc_35 : r_31.toInt < r_33.toInt := zf_nle c_35 rfl rfl
                refine lv_iconst (v := 1) hx hb dX8_haste_52 (by decide) ?_
                refine lv_goto (tgt := 57) hx hb dX8_haste_53 (by decide) ?_
                exact W.iret (v := 1) hx hb hr (fun t ht hW => ⟨⟨1, grf, rfl, trivial, zRet ht hP hD [1, 0, 2, 3, 4] (by decide) rfl⟩, hS.F ht⟩) hS.2.2 dX8_haste_57
          · have kc1 : (1 : Int32).toInt = 1 := by decide
            refine lv_iload_n hx hb dX8_haste_31 rfl (lv_at hl 2 rfl) ?_
            refine lv_iconst (v := 1) hx hb dX8_haste_32 (by decide) ?_
            refine lv_icmp_ne (tgt := 58) hx hb dX8_haste_33 (by decide) (fun c_36 => ?_) (fun c_36 => ?_)
            · have fc_36 : w.toInt ≠ 1 := zf_ne c_36 rfl (by decide)
              refine lv_iconst (v := 0) hx hb dX8_haste_58 (by decide) ?_
              refine lv_istore_n (lv' := [(3, .int 0), (0, .ref m0), (1, .int 1), (2, .int w)]) hx hb dX8_haste_59 rfl hl (by decide) rfl (fun ls hl => ?_)
              refine lv_iconst (v := (-1)) hx hb dX8_haste_60 (by decide) ?_
              refine lv_istore (lv' := [(4, .int (-1)), (3, .int 0), (0, .ref m0), (1, .int 1), (2, .int w)]) hx hb dX8_haste_61 hl (by decide) rfl (fun ls hl => ?_)
              refine lv_iconst (v := 0) hx hb dX8_haste_63 (by decide) ?_
              refine lv_istore (lv' := [(5, .int 0), (4, .int (-1)), (3, .int 0), (0, .ref m0), (1, .int 1), (2, .int w)]) hx hb dX8_haste_64 hl (by decide) rfl (fun ls hl => ?_)
              obtain ⟨i_66, hi_66⟩ : ∃ i : Int32, i = 0 := ⟨_, rfl⟩
              replace hl : lv_has ls 7 [(5, .int i_66), (4, .int (-1)), (3, .int 0), (0, .ref m0), (1, .int 1), (2, .int w)] := by rw [hi_66]; exact lv_sub hl [0, 1, 2, 3, 4, 5] rfl
              have h1i_66 : i_66.toInt = 0 := by rw [hi_66]; decide
              obtain ⟨nfu, hni_66⟩ : ∃ nq9 : Nat, 10 ≤ i_66.toInt + (nq9 : Int) := ⟨((10 : Int) - 0).toNat, by omega⟩
              have hloi_66 : 0 ≤ i_66.toInt := by omega
              obtain ⟨v_37, hv_37⟩ : ∃ g : Int32, g = 0 := ⟨_, rfl⟩
              obtain ⟨v_38, hv_38⟩ : ∃ g : Int32, g = (-1) := ⟨_, rfl⟩
              replace hl : lv_has ls 7 [(5, .int i_66), (4, .int v_38), (3, .int v_37), (0, .ref m0), (1, .int 1), (2, .int w)] := by rw [hv_37, hv_38]; exact hl
              clear h1i_66 hi_66 hv_37 hv_38
              skip
              revert hni_66
              revert hloi_66
              revert hl
              revert hS
              revert hD
              revert hP
              revert ls
              revert locs
              revert H
              revert v_38
              revert v_37
              revert i_66
              induction nfu with
              | zero =>
                intro i_66 v_37 v_38 H locs ls hP hD hS hl hloi_66 hni_66
                have hzi_66 : 10 ≤ i_66.toInt := by omega
                refine lv_iload hx hb dX8_haste_66 (lv_at hl 0 rfl) ?_
                refine lv_bipush (v := 10) hx hb dX8_haste_68 (by decide) ?_
                refine lv_icmp_ge (tgt := 105) hx hb dX8_haste_70 (by decide) (fun c_39 => ?_) (fun c_39 => ?_)
                · have fc_39 : 10 ≤ i_66.toInt := zf_le c_39 (by decide) rfl
                  refine lv_iload_n hx hb dX8_haste_105 rfl (lv_at hl 2 rfl) ?_
                  exact W.iret (v := v_37) hx hb hr (fun t ht hW => ⟨⟨v_37, grf, rfl, trivial, zRet ht hP hD [0, 1, 2, 3, 4] (by decide) rfl⟩, hS.F ht⟩) hS.2.2 dX8_haste_106
                · exfalso; have fc_39 : i_66.toInt < 10 := zf_nle c_39 (by decide) rfl; omega
              | succ nfu ih =>
                intro i_66 v_37 v_38 H locs ls hP hD hS hl hloi_66 hni_66
                refine lv_iload hx hb dX8_haste_66 (lv_at hl 0 rfl) ?_
                refine lv_bipush (v := 10) hx hb dX8_haste_68 (by decide) ?_
                refine lv_icmp_ge (tgt := 105) hx hb dX8_haste_70 (by decide) (fun c_40 => ?_) (fun c_40 => ?_)
                · have fc_40 : 10 ≤ i_66.toInt := zf_le c_40 (by decide) rfl
                  refine lv_iload_n hx hb dX8_haste_105 rfl (lv_at hl 2 rfl) ?_
                  exact W.iret (v := v_37) hx hb hr (fun t ht hW => ⟨⟨v_37, grf, rfl, trivial, zRet ht hP hD [0, 1, 2, 3, 4] (by decide) rfl⟩, hS.F ht⟩) hS.2.2 dX8_haste_106
                · have fc_40 : i_66.toInt < 10 := zf_nle c_40 (by decide) rfl
                  refine lv_aload_n hx hb dX8_haste_73 rfl (lv_at hl 3 rfl) ?_
                  refine lv_iload_n hx hb dX8_haste_74 rfl (lv_at hl 4 rfl) ?_
                  refine lv_iload hx hb dX8_haste_75 (lv_at hl 0 rfl) ?_
                  skip
                  refine zw_V (As := [.int 1, .int i_66]) (rest := []) (wr := [(mrf, .inl (cI, 8, .inl grf))]) ⟨hx, hb, hml, hown, hts⟩ (c_M_casesIn_1 l D cI cJ cZ cP cS po m0 mrf mki mpa mta mla msl mco mhe mso msi msh mce mca mwo mnu mte mwa mke mma mth mtr (npu) (nte) (nat_) (nde) (nto) (nse) (nhu) (nga) (nsd) (nfa) (nba) (npl) (nen) (nnu) (nwr) (nra) (nik) gki gpa gta (i_66) hy0 hy1 hy2 hy3 hy4 hy5 hy6 hy7 hy8 hy9 hy10 hy11 hy12 hy13 (by omega) (by omega) hp_gki hp_gpa hp_gta H.size) (cwV 2 hts gX8_haste_X8_casesIn rfl rfl rfl ⟨rfl, dh_X8_casesIn⟩ ⟨Nat.le_of_ble_eq_true rfl, Nat.le_of_ble_eq_true rfl⟩) hK hN (hZ.kept hS) hP hD hS hA [0, 2, 3, 4] [1] rfl rfl (by decide) (by decide) (by decide) (va_recv (q := (RX8, TX8, 38)) hK hP (ci := 8) (q0 := 0) rfl rfl) rfl hl.1 rfl (Nat.le_of_ble_eq_true rfl) dX8_haste_77 ⟨Nat.le_of_ble_eq_true rfl, Nat.le_of_ble_eq_true rfl⟩ (fun r_41 u_42 H locs hr_41 hP hD hS => ?_)
                  have h9R := zRe (ws' := [(mrf, .inl (cI, 8, .inl grf)), (zMO m0 npu nte nat_ nde nto nse nhu nga nsd nfa mrf mki mpa mta mla msl mco mhe mso msi msh mce mca mwo mnu mte nba npl nen nnu nwr mwa mke mma mth mtr nra nik), (mki, .inl (cI, 8, .inl gki)), (mpa, .inl (cI, 8, .inl gpa)), (mta, .inl (cI, 8, .inl gta))]) hP hD rfl
                  clear hP hD
                  obtain ⟨hP, hD⟩ := h9R
                  refine lv_istore (lv' := [(6, .int r_41), (5, .int i_66), (4, .int v_38), (3, .int v_37), (0, .ref m0), (1, .int 1), (2, .int w)]) hx hb dX8_haste_80 hl (by decide) rfl (fun ls hl => ?_)
                  refine lv_iload hx hb dX8_haste_82 (lv_at hl 0 rfl) ?_
                  refine lv_iload hx hb dX8_haste_84 (lv_at hl 2 rfl) ?_
                  refine lv_icmp_gt (tgt := 92) hx hb dX8_haste_86 (by decide) (fun c_43 => ?_) (fun c_43 => ?_)
                  · have fc_43 : v_38.toInt < r_41.toInt := zf_lt c_43 rfl rfl
                    refine lv_iload hx hb dX8_haste_92 (lv_at hl 1 rfl) ?_
                    refine lv_istore_n (lv' := [(3, .int i_66), (6, .int r_41), (5, .int i_66), (4, .int v_38), (0, .ref m0), (1, .int 1), (2, .int w)]) hx hb dX8_haste_94 rfl hl (by decide) rfl (fun ls hl => ?_)
                    refine lv_iload hx hb dX8_haste_95 (lv_at hl 1 rfl) ?_
                    refine lv_istore (lv' := [(4, .int r_41), (3, .int i_66), (6, .int r_41), (5, .int i_66), (0, .ref m0), (1, .int 1), (2, .int w)]) hx hb dX8_haste_97 hl (by decide) rfl (fun ls hl => ?_)
                    obtain ⟨x_44, ex_44⟩ : ∃ y : Int32, y = i_66 + 1 := ⟨_, rfl⟩
                    have qx_44 : x_44.toInt = i_66.toInt + 1 := dw_incK ex_44 fc_40 (by decide)
                    refine lv_iinc (v := x_44) (lv' := [(5, .int x_44), (4, .int r_41), (3, .int i_66), (6, .int r_41), (0, .ref m0), (1, .int 1), (2, .int w)]) hx hb dX8_haste_99 hl (k := 3) rfl ex_44.symm (by decide) rfl (fun ls hl => ?_)
                    refine lv_goto (tgt := 66) hx hb dX8_haste_102 (by decide) ?_
                    exact ih x_44 i_66 r_41 _ _ _ (hP.sub [1, 0, 2, 3, 4] rfl) (hD.sub [1, 0, 2, 3, 4] (by decide) rfl) hS (lv_sub hl [0, 1, 2, 4, 5, 6] rfl) (dw_lo hloi_66 qx_44) (dw_hn hni_66 qx_44)
                  · have fc_43 : r_41.toInt ≤ v_38.toInt := zf_nlt c_43 rfl rfl
                    refine lv_goto (tgt := 99) hx hb dX8_haste_89 (by decide) ?_
                    obtain ⟨x_45, ex_45⟩ : ∃ y : Int32, y = i_66 + 1 := ⟨_, rfl⟩
                    have qx_45 : x_45.toInt = i_66.toInt + 1 := dw_incK ex_45 fc_40 (by decide)
                    refine lv_iinc (v := x_45) (lv' := [(5, .int x_45), (6, .int r_41), (4, .int v_38), (3, .int v_37), (0, .ref m0), (1, .int 1), (2, .int w)]) hx hb dX8_haste_99 hl (k := 1) rfl ex_45.symm (by decide) rfl (fun ls hl => ?_)
                    refine lv_goto (tgt := 66) hx hb dX8_haste_102 (by decide) ?_
                    exact ih x_45 v_37 v_38 _ _ _ (hP.sub [1, 0, 2, 3, 4] rfl) (hD.sub [1, 0, 2, 3, 4] (by decide) rfl) hS (lv_sub hl [0, 2, 3, 4, 5, 6] rfl) (dw_lo hloi_66 qx_45) (dw_hn hni_66 qx_45)
            · have fc_36 : w.toInt = 1 := zf_eq c_36 rfl (by decide)
              refine lv_aload_n hx hb dX8_haste_36 rfl (lv_at hl 0 rfl) ?_
              refine lv_iload_n hx hb dX8_haste_37 rfl (lv_at hl 1 rfl) ?_
              refine lv_bipush (v := 9) hx hb dX8_haste_38 (by decide) ?_
              have kc9 : (9 : Int32).toInt = 9 := by decide
              skip
              refine zw_V (As := [.int 1, .int 9]) (rest := []) (wr := [(mrf, .inl (cI, 8, .inl grf))]) ⟨hx, hb, hml, hown, hts⟩ (c_M_casesIn_1 l D cI cJ cZ cP cS po m0 mrf mki mpa mta mla msl mco mhe mso msi msh mce mca mwo mnu mte mwa mke mma mth mtr (npu) (nte) (nat_) (nde) (nto) (nse) (nhu) (nga) (nsd) (nfa) (nba) (npl) (nen) (nnu) (nwr) (nra) (nik) gki gpa gta (9) hy0 hy1 hy2 hy3 hy4 hy5 hy6 hy7 hy8 hy9 hy10 hy11 hy12 hy13 (by omega) (by omega) hp_gki hp_gpa hp_gta H.size) (cwV 2 hts gX8_haste_X8_casesIn rfl rfl rfl ⟨rfl, dh_X8_casesIn⟩ ⟨Nat.le_of_ble_eq_true rfl, Nat.le_of_ble_eq_true rfl⟩) hK hN (hZ.kept hS) hP hD hS hA [0, 2, 3, 4] [1] rfl rfl (by decide) (by decide) (by decide) (va_recv (q := (RX8, TX8, 38)) hK hP (ci := 8) (q0 := 0) rfl rfl) rfl hl.1 rfl (Nat.le_of_ble_eq_true rfl) dX8_haste_40 ⟨Nat.le_of_ble_eq_true rfl, Nat.le_of_ble_eq_true rfl⟩ (fun r_46 u_47 H locs hr_46 hP hD hS => ?_)
              have h9R := zRe (ws' := [(mrf, .inl (cI, 8, .inl grf)), (zMO m0 npu nte nat_ nde nto nse nhu nga nsd nfa mrf mki mpa mta mla msl mco mhe mso msi msh mce mca mwo mnu mte nba npl nen nnu nwr mwa mke mma mth mtr nra nik), (mki, .inl (cI, 8, .inl gki)), (mpa, .inl (cI, 8, .inl gpa)), (mta, .inl (cI, 8, .inl gta))]) hP hD rfl
              clear hP hD
              obtain ⟨hP, hD⟩ := h9R
              refine lv_aload_n hx hb dX8_haste_43 rfl (lv_at hl 0 rfl) ?_
              refine lv_iload_n hx hb dX8_haste_44 rfl (lv_at hl 1 rfl) ?_
              refine lv_iconst (v := 0) hx hb dX8_haste_45 (by decide) ?_
              have kc0 : (0 : Int32).toInt = 0 := by decide
              skip
              refine zw_V (As := [.int 1, .int 0]) (rest := [.int r_46]) (wr := [(mrf, .inl (cI, 8, .inl grf))]) ⟨hx, hb, hml, hown, hts⟩ (c_M_casesIn_1 l D cI cJ cZ cP cS po m0 mrf mki mpa mta mla msl mco mhe mso msi msh mce mca mwo mnu mte mwa mke mma mth mtr (npu) (nte) (nat_) (nde) (nto) (nse) (nhu) (nga) (nsd) (nfa) (nba) (npl) (nen) (nnu) (nwr) (nra) (nik) gki gpa gta (0) hy0 hy1 hy2 hy3 hy4 hy5 hy6 hy7 hy8 hy9 hy10 hy11 hy12 hy13 (by omega) (by omega) hp_gki hp_gpa hp_gta H.size) (cwV 2 hts gX8_haste_X8_casesIn rfl rfl rfl ⟨rfl, dh_X8_casesIn⟩ ⟨Nat.le_of_ble_eq_true rfl, Nat.le_of_ble_eq_true rfl⟩) hK hN (hZ.kept hS) hP hD hS hA [1, 2, 3, 4] [0] rfl rfl (by decide) (by decide) (by decide) (va_recv (q := (RX8, TX8, 38)) hK hP (ci := 8) (q0 := 1) rfl rfl) rfl hl.1 rfl (Nat.le_of_ble_eq_true rfl) dX8_haste_46 ⟨Nat.le_of_ble_eq_true rfl, Nat.le_of_ble_eq_true rfl⟩ (fun r_48 u_49 H locs hr_48 hP hD hS => ?_)
              have h9R := zRe (ws' := [(mrf, .inl (cI, 8, .inl grf)), (zMO m0 npu nte nat_ nde nto nse nhu nga nsd nfa mrf mki mpa mta mla msl mco mhe mso msi msh mce mca mwo mnu mte nba npl nen nnu nwr mwa mke mma mth mtr nra nik), (mki, .inl (cI, 8, .inl gki)), (mpa, .inl (cI, 8, .inl gpa)), (mta, .inl (cI, 8, .inl gta))]) hP hD rfl
              clear hP hD
              obtain ⟨hP, hD⟩ := h9R
              refine lv_icmp_ge (tgt := 56) hx hb dX8_haste_49 (by decide) (fun c_50 => ?_) (fun c_50 => ?_)
              · have fc_50 : r_48.toInt ≤ r_46.toInt := zf_le c_50 rfl rfl
                refine lv_iconst (v := 0) hx hb dX8_haste_56 (by decide) ?_
                exact W.iret (v := 0) hx hb hr (fun t ht hW => ⟨⟨0, grf, rfl, trivial, zRet ht hP hD [1, 0, 2, 3, 4] (by decide) rfl⟩, hS.F ht⟩) hS.2.2 dX8_haste_57
              · have fc_50 : r_46.toInt < r_48.toInt := zf_nle c_50 rfl rfl
                refine lv_iconst (v := 1) hx hb dX8_haste_52 (by decide) ?_
                refine lv_goto (tgt := 57) hx hb dX8_haste_53 (by decide) ?_
                exact W.iret (v := 1) hx hb hr (fun t ht hW => ⟨⟨1, grf, rfl, trivial, zRet ht hP hD [1, 0, 2, 3, 4] (by decide) rfl⟩, hS.F ht⟩) hS.2.2 dX8_haste_57
          · have kc2 : (2 : Int32).toInt = 2 := by decide
            refine lv_iload_n hx hb dX8_haste_31 rfl (lv_at hl 2 rfl) ?_
            refine lv_iconst (v := 1) hx hb dX8_haste_32 (by decide) ?_
            refine lv_icmp_ne (tgt := 58) hx hb dX8_haste_33 (by decide) (fun c_51 => ?_) (fun c_51 => ?_)
            · have fc_51 : w.toInt ≠ 1 := zf_ne c_51 rfl (by decide)
              refine lv_iconst (v := 0) hx hb dX8_haste_58 (by decide) ?_
              refine lv_istore_n (lv' := [(3, .int 0), (0, .ref m0), (1, .int 2), (2, .int w)]) hx hb dX8_haste_59 rfl hl (by decide) rfl (fun ls hl => ?_)
              refine lv_iconst (v := (-1)) hx hb dX8_haste_60 (by decide) ?_
              refine lv_istore (lv' := [(4, .int (-1)), (3, .int 0), (0, .ref m0), (1, .int 2), (2, .int w)]) hx hb dX8_haste_61 hl (by decide) rfl (fun ls hl => ?_)
              refine lv_iconst (v := 0) hx hb dX8_haste_63 (by decide) ?_
              refine lv_istore (lv' := [(5, .int 0), (4, .int (-1)), (3, .int 0), (0, .ref m0), (1, .int 2), (2, .int w)]) hx hb dX8_haste_64 hl (by decide) rfl (fun ls hl => ?_)
              obtain ⟨i_66, hi_66⟩ : ∃ i : Int32, i = 0 := ⟨_, rfl⟩
              replace hl : lv_has ls 7 [(5, .int i_66), (4, .int (-1)), (3, .int 0), (0, .ref m0), (1, .int 2), (2, .int w)] := by rw [hi_66]; exact lv_sub hl [0, 1, 2, 3, 4, 5] rfl
              have h1i_66 : i_66.toInt = 0 := by rw [hi_66]; decide
              obtain ⟨nfu, hni_66⟩ : ∃ nq9 : Nat, 10 ≤ i_66.toInt + (nq9 : Int) := ⟨((10 : Int) - 0).toNat, by omega⟩
              have hloi_66 : 0 ≤ i_66.toInt := by omega
              obtain ⟨v_52, hv_52⟩ : ∃ g : Int32, g = 0 := ⟨_, rfl⟩
              obtain ⟨v_53, hv_53⟩ : ∃ g : Int32, g = (-1) := ⟨_, rfl⟩
              replace hl : lv_has ls 7 [(5, .int i_66), (4, .int v_53), (3, .int v_52), (0, .ref m0), (1, .int 2), (2, .int w)] := by rw [hv_52, hv_53]; exact hl
              clear h1i_66 hi_66 hv_52 hv_53
              skip
              revert hni_66
              revert hloi_66
              revert hl
              revert hS
              revert hD
              revert hP
              revert ls
              revert locs
              revert H
              revert v_53
              revert v_52
              revert i_66
              induction nfu with
              | zero =>
                intro i_66 v_52 v_53 H locs ls hP hD hS hl hloi_66 hni_66
                have hzi_66 : 10 ≤ i_66.toInt := by omega
                refine lv_iload hx hb dX8_haste_66 (lv_at hl 0 rfl) ?_
                refine lv_bipush (v := 10) hx hb dX8_haste_68 (by decide) ?_
                refine lv_icmp_ge (tgt := 105) hx hb dX8_haste_70 (by decide) (fun c_54 => ?_) (fun c_54 => ?_)
                · have fc_54 : 10 ≤ i_66.toInt := zf_le c_54 (by decide) rfl
                  refine lv_iload_n hx hb dX8_haste_105 rfl (lv_at hl 2 rfl) ?_
                  exact W.iret (v := v_52) hx hb hr (fun t ht hW => ⟨⟨v_52, grf, rfl, trivial, zRet ht hP hD [0, 1, 2, 3, 4] (by decide) rfl⟩, hS.F ht⟩) hS.2.2 dX8_haste_106
                · exfalso; have fc_54 : i_66.toInt < 10 := zf_nle c_54 (by decide) rfl; omega
              | succ nfu ih =>
                intro i_66 v_52 v_53 H locs ls hP hD hS hl hloi_66 hni_66
                refine lv_iload hx hb dX8_haste_66 (lv_at hl 0 rfl) ?_
                refine lv_bipush (v := 10) hx hb dX8_haste_68 (by decide) ?_
                refine lv_icmp_ge (tgt := 105) hx hb dX8_haste_70 (by decide) (fun c_55 => ?_) (fun c_55 => ?_)
                · have fc_55 : 10 ≤ i_66.toInt := zf_le c_55 (by decide) rfl
                  refine lv_iload_n hx hb dX8_haste_105 rfl (lv_at hl 2 rfl) ?_
                  exact W.iret (v := v_52) hx hb hr (fun t ht hW => ⟨⟨v_52, grf, rfl, trivial, zRet ht hP hD [0, 1, 2, 3, 4] (by decide) rfl⟩, hS.F ht⟩) hS.2.2 dX8_haste_106
                · have fc_55 : i_66.toInt < 10 := zf_nle c_55 (by decide) rfl
                  refine lv_aload_n hx hb dX8_haste_73 rfl (lv_at hl 3 rfl) ?_
                  refine lv_iload_n hx hb dX8_haste_74 rfl (lv_at hl 4 rfl) ?_
                  refine lv_iload hx hb dX8_haste_75 (lv_at hl 0 rfl) ?_
                  skip
                  refine zw_V (As := [.int 2, .int i_66]) (rest := []) (wr := [(mrf, .inl (cI, 8, .inl grf))]) ⟨hx, hb, hml, hown, hts⟩ (c_M_casesIn_2 l D cI cJ cZ cP cS po m0 mrf mki mpa mta mla msl mco mhe mso msi msh mce mca mwo mnu mte mwa mke mma mth mtr (npu) (nte) (nat_) (nde) (nto) (nse) (nhu) (nga) (nsd) (nfa) (nba) (npl) (nen) (nnu) (nwr) (nra) (nik) gki gpa gta (i_66) hy0 hy1 hy2 hy3 hy4 hy5 hy6 hy7 hy8 hy9 hy10 hy11 hy12 hy13 (by omega) (by omega) hp_gki hp_gpa hp_gta H.size) (cwV 2 hts gX8_haste_X8_casesIn rfl rfl rfl ⟨rfl, dh_X8_casesIn⟩ ⟨Nat.le_of_ble_eq_true rfl, Nat.le_of_ble_eq_true rfl⟩) hK hN (hZ.kept hS) hP hD hS hA [0, 2, 3, 4] [1] rfl rfl (by decide) (by decide) (by decide) (va_recv (q := (RX8, TX8, 38)) hK hP (ci := 8) (q0 := 0) rfl rfl) rfl hl.1 rfl (Nat.le_of_ble_eq_true rfl) dX8_haste_77 ⟨Nat.le_of_ble_eq_true rfl, Nat.le_of_ble_eq_true rfl⟩ (fun r_56 u_57 H locs hr_56 hP hD hS => ?_)
                  have h9R := zRe (ws' := [(mrf, .inl (cI, 8, .inl grf)), (zMO m0 npu nte nat_ nde nto nse nhu nga nsd nfa mrf mki mpa mta mla msl mco mhe mso msi msh mce mca mwo mnu mte nba npl nen nnu nwr mwa mke mma mth mtr nra nik), (mki, .inl (cI, 8, .inl gki)), (mpa, .inl (cI, 8, .inl gpa)), (mta, .inl (cI, 8, .inl gta))]) hP hD rfl
                  clear hP hD
                  obtain ⟨hP, hD⟩ := h9R
                  refine lv_istore (lv' := [(6, .int r_56), (5, .int i_66), (4, .int v_53), (3, .int v_52), (0, .ref m0), (1, .int 2), (2, .int w)]) hx hb dX8_haste_80 hl (by decide) rfl (fun ls hl => ?_)
                  refine lv_iload hx hb dX8_haste_82 (lv_at hl 0 rfl) ?_
                  refine lv_iload hx hb dX8_haste_84 (lv_at hl 2 rfl) ?_
                  refine lv_icmp_gt (tgt := 92) hx hb dX8_haste_86 (by decide) (fun c_58 => ?_) (fun c_58 => ?_)
                  · have fc_58 : v_53.toInt < r_56.toInt := zf_lt c_58 rfl rfl
                    refine lv_iload hx hb dX8_haste_92 (lv_at hl 1 rfl) ?_
                    refine lv_istore_n (lv' := [(3, .int i_66), (6, .int r_56), (5, .int i_66), (4, .int v_53), (0, .ref m0), (1, .int 2), (2, .int w)]) hx hb dX8_haste_94 rfl hl (by decide) rfl (fun ls hl => ?_)
                    refine lv_iload hx hb dX8_haste_95 (lv_at hl 1 rfl) ?_
                    refine lv_istore (lv' := [(4, .int r_56), (3, .int i_66), (6, .int r_56), (5, .int i_66), (0, .ref m0), (1, .int 2), (2, .int w)]) hx hb dX8_haste_97 hl (by decide) rfl (fun ls hl => ?_)
                    obtain ⟨x_59, ex_59⟩ : ∃ y : Int32, y = i_66 + 1 := ⟨_, rfl⟩
                    have qx_59 : x_59.toInt = i_66.toInt + 1 := dw_incK ex_59 fc_55 (by decide)
                    refine lv_iinc (v := x_59) (lv' := [(5, .int x_59), (4, .int r_56), (3, .int i_66), (6, .int r_56), (0, .ref m0), (1, .int 2), (2, .int w)]) hx hb dX8_haste_99 hl (k := 3) rfl ex_59.symm (by decide) rfl (fun ls hl => ?_)
                    refine lv_goto (tgt := 66) hx hb dX8_haste_102 (by decide) ?_
                    exact ih x_59 i_66 r_56 _ _ _ (hP.sub [1, 0, 2, 3, 4] rfl) (hD.sub [1, 0, 2, 3, 4] (by decide) rfl) hS (lv_sub hl [0, 1, 2, 4, 5, 6] rfl) (dw_lo hloi_66 qx_59) (dw_hn hni_66 qx_59)
                  · have fc_58 : r_56.toInt ≤ v_53.toInt := zf_nlt c_58 rfl rfl
                    refine lv_goto (tgt := 99) hx hb dX8_haste_89 (by decide) ?_
                    obtain ⟨x_60, ex_60⟩ : ∃ y : Int32, y = i_66 + 1 := ⟨_, rfl⟩
                    have qx_60 : x_60.toInt = i_66.toInt + 1 := dw_incK ex_60 fc_55 (by decide)
                    refine lv_iinc (v := x_60) (lv' := [(5, .int x_60), (6, .int r_56), (4, .int v_53), (3, .int v_52), (0, .ref m0), (1, .int 2), (2, .int w)]) hx hb dX8_haste_99 hl (k := 1) rfl ex_60.symm (by decide) rfl (fun ls hl => ?_)
                    refine lv_goto (tgt := 66) hx hb dX8_haste_102 (by decide) ?_
                    exact ih x_60 v_52 v_53 _ _ _ (hP.sub [1, 0, 2, 3, 4] rfl) (hD.sub [1, 0, 2, 3, 4] (by decide) rfl) hS (lv_sub hl [0, 2, 3, 4, 5, 6] rfl) (dw_lo hloi_66 qx_60) (dw_hn hni_66 qx_60)
            · have fc_51 : w.toInt = 1 := zf_eq c_51 rfl (by decide)
              refine lv_aload_n hx hb dX8_haste_36 rfl (lv_at hl 0 rfl) ?_
              refine lv_iload_n hx hb dX8_haste_37 rfl (lv_at hl 1 rfl) ?_
              refine lv_bipush (v := 9) hx hb dX8_haste_38 (by decide) ?_
              have kc9 : (9 : Int32).toInt = 9 := by decide
              skip
              refine zw_V (As := [.int 2, .int 9]) (rest := []) (wr := [(mrf, .inl (cI, 8, .inl grf))]) ⟨hx, hb, hml, hown, hts⟩ (c_M_casesIn_2 l D cI cJ cZ cP cS po m0 mrf mki mpa mta mla msl mco mhe mso msi msh mce mca mwo mnu mte mwa mke mma mth mtr (npu) (nte) (nat_) (nde) (nto) (nse) (nhu) (nga) (nsd) (nfa) (nba) (npl) (nen) (nnu) (nwr) (nra) (nik) gki gpa gta (9) hy0 hy1 hy2 hy3 hy4 hy5 hy6 hy7 hy8 hy9 hy10 hy11 hy12 hy13 (by omega) (by omega) hp_gki hp_gpa hp_gta H.size) (cwV 2 hts gX8_haste_X8_casesIn rfl rfl rfl ⟨rfl, dh_X8_casesIn⟩ ⟨Nat.le_of_ble_eq_true rfl, Nat.le_of_ble_eq_true rfl⟩) hK hN (hZ.kept hS) hP hD hS hA [0, 2, 3, 4] [1] rfl rfl (by decide) (by decide) (by decide) (va_recv (q := (RX8, TX8, 38)) hK hP (ci := 8) (q0 := 0) rfl rfl) rfl hl.1 rfl (Nat.le_of_ble_eq_true rfl) dX8_haste_40 ⟨Nat.le_of_ble_eq_true rfl, Nat.le_of_ble_eq_true rfl⟩ (fun r_61 u_62 H locs hr_61 hP hD hS => ?_)
              have h9R := zRe (ws' := [(mrf, .inl (cI, 8, .inl grf)), (zMO m0 npu nte nat_ nde nto nse nhu nga nsd nfa mrf mki mpa mta mla msl mco mhe mso msi msh mce mca mwo mnu mte nba npl nen nnu nwr mwa mke mma mth mtr nra nik), (mki, .inl (cI, 8, .inl gki)), (mpa, .inl (cI, 8, .inl gpa)), (mta, .inl (cI, 8, .inl gta))]) hP hD rfl
              clear hP hD
              obtain ⟨hP, hD⟩ := h9R
              refine lv_aload_n hx hb dX8_haste_43 rfl (lv_at hl 0 rfl) ?_
              refine lv_iload_n hx hb dX8_haste_44 rfl (lv_at hl 1 rfl) ?_
              refine lv_iconst (v := 0) hx hb dX8_haste_45 (by decide) ?_
              have kc0 : (0 : Int32).toInt = 0 := by decide
              skip
              refine zw_V (As := [.int 2, .int 0]) (rest := [.int r_61]) (wr := [(mrf, .inl (cI, 8, .inl grf))]) ⟨hx, hb, hml, hown, hts⟩ (c_M_casesIn_2 l D cI cJ cZ cP cS po m0 mrf mki mpa mta mla msl mco mhe mso msi msh mce mca mwo mnu mte mwa mke mma mth mtr (npu) (nte) (nat_) (nde) (nto) (nse) (nhu) (nga) (nsd) (nfa) (nba) (npl) (nen) (nnu) (nwr) (nra) (nik) gki gpa gta (0) hy0 hy1 hy2 hy3 hy4 hy5 hy6 hy7 hy8 hy9 hy10 hy11 hy12 hy13 (by omega) (by omega) hp_gki hp_gpa hp_gta H.size) (cwV 2 hts gX8_haste_X8_casesIn rfl rfl rfl ⟨rfl, dh_X8_casesIn⟩ ⟨Nat.le_of_ble_eq_true rfl, Nat.le_of_ble_eq_true rfl⟩) hK hN (hZ.kept hS) hP hD hS hA [1, 2, 3, 4] [0] rfl rfl (by decide) (by decide) (by decide) (va_recv (q := (RX8, TX8, 38)) hK hP (ci := 8) (q0 := 1) rfl rfl) rfl hl.1 rfl (Nat.le_of_ble_eq_true rfl) dX8_haste_46 ⟨Nat.le_of_ble_eq_true rfl, Nat.le_of_ble_eq_true rfl⟩ (fun r_63 u_64 H locs hr_63 hP hD hS => ?_)
              have h9R := zRe (ws' := [(mrf, .inl (cI, 8, .inl grf)), (zMO m0 npu nte nat_ nde nto nse nhu nga nsd nfa mrf mki mpa mta mla msl mco mhe mso msi msh mce mca mwo mnu mte nba npl nen nnu nwr mwa mke mma mth mtr nra nik), (mki, .inl (cI, 8, .inl gki)), (mpa, .inl (cI, 8, .inl gpa)), (mta, .inl (cI, 8, .inl gta))]) hP hD rfl
              clear hP hD
              obtain ⟨hP, hD⟩ := h9R
              refine lv_icmp_ge (tgt := 56) hx hb dX8_haste_49 (by decide) (fun c_65 => ?_) (fun c_65 => ?_)
              · have fc_65 : r_63.toInt ≤ r_61.toInt := zf_le c_65 rfl rfl
                refine lv_iconst (v := 0) hx hb dX8_haste_56 (by decide) ?_
                exact W.iret (v := 0) hx hb hr (fun t ht hW => ⟨⟨0, grf, rfl, trivial, zRet ht hP hD [1, 0, 2, 3, 4] (by decide) rfl⟩, hS.F ht⟩) hS.2.2 dX8_haste_57
              · have fc_65 : r_61.toInt < r_63.toInt := zf_nle c_65 rfl rfl
                refine lv_iconst (v := 1) hx hb dX8_haste_52 (by decide) ?_
                refine lv_goto (tgt := 57) hx hb dX8_haste_53 (by decide) ?_
                exact W.iret (v := 1) hx hb hr (fun t ht hW => ⟨⟨1, grf, rfl, trivial, zRet ht hP hD [1, 0, 2, 3, 4] (by decide) rfl⟩, hS.F ht⟩) hS.2.2 dX8_haste_57
          · have kc3 : (3 : Int32).toInt = 3 := by decide
            refine lv_iload_n hx hb dX8_haste_31 rfl (lv_at hl 2 rfl) ?_
            refine lv_iconst (v := 1) hx hb dX8_haste_32 (by decide) ?_
            refine lv_icmp_ne (tgt := 58) hx hb dX8_haste_33 (by decide) (fun c_66 => ?_) (fun c_66 => ?_)
            · have fc_66 : w.toInt ≠ 1 := zf_ne c_66 rfl (by decide)
              refine lv_iconst (v := 0) hx hb dX8_haste_58 (by decide) ?_
              refine lv_istore_n (lv' := [(3, .int 0), (0, .ref m0), (1, .int 3), (2, .int w)]) hx hb dX8_haste_59 rfl hl (by decide) rfl (fun ls hl => ?_)
              refine lv_iconst (v := (-1)) hx hb dX8_haste_60 (by decide) ?_
              refine lv_istore (lv' := [(4, .int (-1)), (3, .int 0), (0, .ref m0), (1, .int 3), (2, .int w)]) hx hb dX8_haste_61 hl (by decide) rfl (fun ls hl => ?_)
              refine lv_iconst (v := 0) hx hb dX8_haste_63 (by decide) ?_
              refine lv_istore (lv' := [(5, .int 0), (4, .int (-1)), (3, .int 0), (0, .ref m0), (1, .int 3), (2, .int w)]) hx hb dX8_haste_64 hl (by decide) rfl (fun ls hl => ?_)
              obtain ⟨i_66, hi_66⟩ : ∃ i : Int32, i = 0 := ⟨_, rfl⟩
              replace hl : lv_has ls 7 [(5, .int i_66), (4, .int (-1)), (3, .int 0), (0, .ref m0), (1, .int 3), (2, .int w)] := by rw [hi_66]; exact lv_sub hl [0, 1, 2, 3, 4, 5] rfl
              have h1i_66 : i_66.toInt = 0 := by rw [hi_66]; decide
              obtain ⟨nfu, hni_66⟩ : ∃ nq9 : Nat, 10 ≤ i_66.toInt + (nq9 : Int) := ⟨((10 : Int) - 0).toNat, by omega⟩
              have hloi_66 : 0 ≤ i_66.toInt := by omega
              obtain ⟨v_67, hv_67⟩ : ∃ g : Int32, g = 0 := ⟨_, rfl⟩
              obtain ⟨v_68, hv_68⟩ : ∃ g : Int32, g = (-1) := ⟨_, rfl⟩
              replace hl : lv_has ls 7 [(5, .int i_66), (4, .int v_68), (3, .int v_67), (0, .ref m0), (1, .int 3), (2, .int w)] := by rw [hv_67, hv_68]; exact hl
              clear h1i_66 hi_66 hv_67 hv_68
              skip
              revert hni_66
              revert hloi_66
              revert hl
              revert hS
              revert hD
              revert hP
              revert ls
              revert locs
              revert H
              revert v_68
              revert v_67
              revert i_66
              induction nfu with
              | zero =>
                intro i_66 v_67 v_68 H locs ls hP hD hS hl hloi_66 hni_66
                have hzi_66 : 10 ≤ i_66.toInt := by omega
                refine lv_iload hx hb dX8_haste_66 (lv_at hl 0 rfl) ?_
                refine lv_bipush (v := 10) hx hb dX8_haste_68 (by decide) ?_
                refine lv_icmp_ge (tgt := 105) hx hb dX8_haste_70 (by decide) (fun c_69 => ?_) (fun c_69 => ?_)
                · have fc_69 : 10 ≤ i_66.toInt := zf_le c_69 (by decide) rfl
                  refine lv_iload_n hx hb dX8_haste_105 rfl (lv_at hl 2 rfl) ?_
                  exact W.iret (v := v_67) hx hb hr (fun t ht hW => ⟨⟨v_67, grf, rfl, trivial, zRet ht hP hD [0, 1, 2, 3, 4] (by decide) rfl⟩, hS.F ht⟩) hS.2.2 dX8_haste_106
                · exfalso; have fc_69 : i_66.toInt < 10 := zf_nle c_69 (by decide) rfl; omega
              | succ nfu ih =>
                intro i_66 v_67 v_68 H locs ls hP hD hS hl hloi_66 hni_66
                refine lv_iload hx hb dX8_haste_66 (lv_at hl 0 rfl) ?_
                refine lv_bipush (v := 10) hx hb dX8_haste_68 (by decide) ?_
                refine lv_icmp_ge (tgt := 105) hx hb dX8_haste_70 (by decide) (fun c_70 => ?_) (fun c_70 => ?_)
                · have fc_70 : 10 ≤ i_66.toInt := zf_le c_70 (by decide) rfl
                  refine lv_iload_n hx hb dX8_haste_105 rfl (lv_at hl 2 rfl) ?_
                  exact W.iret (v := v_67) hx hb hr (fun t ht hW => ⟨⟨v_67, grf, rfl, trivial, zRet ht hP hD [0, 1, 2, 3, 4] (by decide) rfl⟩, hS.F ht⟩) hS.2.2 dX8_haste_106
                · have fc_70 : i_66.toInt < 10 := zf_nle c_70 (by decide) rfl
                  refine lv_aload_n hx hb dX8_haste_73 rfl (lv_at hl 3 rfl) ?_
                  refine lv_iload_n hx hb dX8_haste_74 rfl (lv_at hl 4 rfl) ?_
                  refine lv_iload hx hb dX8_haste_75 (lv_at hl 0 rfl) ?_
                  skip
                  refine zw_V (As := [.int 3, .int i_66]) (rest := []) (wr := [(mrf, .inl (cI, 8, .inl grf))]) ⟨hx, hb, hml, hown, hts⟩ (c_M_casesIn_3 l D cI cJ cZ cP cS po m0 mrf mki mpa mta mla msl mco mhe mso msi msh mce mca mwo mnu mte mwa mke mma mth mtr (npu) (nte) (nat_) (nde) (nto) (nse) (nhu) (nga) (nsd) (nfa) (nba) (npl) (nen) (nnu) (nwr) (nra) (nik) gki gpa gta (i_66) hy0 hy1 hy2 hy3 hy4 hy5 hy6 hy7 hy8 hy9 hy10 hy11 hy12 hy13 (by omega) (by omega) hp_gki hp_gpa hp_gta H.size) (cwV 2 hts gX8_haste_X8_casesIn rfl rfl rfl ⟨rfl, dh_X8_casesIn⟩ ⟨Nat.le_of_ble_eq_true rfl, Nat.le_of_ble_eq_true rfl⟩) hK hN (hZ.kept hS) hP hD hS hA [0, 2, 3, 4] [1] rfl rfl (by decide) (by decide) (by decide) (va_recv (q := (RX8, TX8, 38)) hK hP (ci := 8) (q0 := 0) rfl rfl) rfl hl.1 rfl (Nat.le_of_ble_eq_true rfl) dX8_haste_77 ⟨Nat.le_of_ble_eq_true rfl, Nat.le_of_ble_eq_true rfl⟩ (fun r_71 u_72 H locs hr_71 hP hD hS => ?_)
                  have h9R := zRe (ws' := [(mrf, .inl (cI, 8, .inl grf)), (zMO m0 npu nte nat_ nde nto nse nhu nga nsd nfa mrf mki mpa mta mla msl mco mhe mso msi msh mce mca mwo mnu mte nba npl nen nnu nwr mwa mke mma mth mtr nra nik), (mki, .inl (cI, 8, .inl gki)), (mpa, .inl (cI, 8, .inl gpa)), (mta, .inl (cI, 8, .inl gta))]) hP hD rfl
                  clear hP hD
                  obtain ⟨hP, hD⟩ := h9R
                  refine lv_istore (lv' := [(6, .int r_71), (5, .int i_66), (4, .int v_68), (3, .int v_67), (0, .ref m0), (1, .int 3), (2, .int w)]) hx hb dX8_haste_80 hl (by decide) rfl (fun ls hl => ?_)
                  refine lv_iload hx hb dX8_haste_82 (lv_at hl 0 rfl) ?_
                  refine lv_iload hx hb dX8_haste_84 (lv_at hl 2 rfl) ?_
                  refine lv_icmp_gt (tgt := 92) hx hb dX8_haste_86 (by decide) (fun c_73 => ?_) (fun c_73 => ?_)
                  · have fc_73 : v_68.toInt < r_71.toInt := zf_lt c_73 rfl rfl
                    refine lv_iload hx hb dX8_haste_92 (lv_at hl 1 rfl) ?_
                    refine lv_istore_n (lv' := [(3, .int i_66), (6, .int r_71), (5, .int i_66), (4, .int v_68), (0, .ref m0), (1, .int 3), (2, .int w)]) hx hb dX8_haste_94 rfl hl (by decide) rfl (fun ls hl => ?_)
                    refine lv_iload hx hb dX8_haste_95 (lv_at hl 1 rfl) ?_
                    refine lv_istore (lv' := [(4, .int r_71), (3, .int i_66), (6, .int r_71), (5, .int i_66), (0, .ref m0), (1, .int 3), (2, .int w)]) hx hb dX8_haste_97 hl (by decide) rfl (fun ls hl => ?_)
                    obtain ⟨x_74, ex_74⟩ : ∃ y : Int32, y = i_66 + 1 := ⟨_, rfl⟩
                    have qx_74 : x_74.toInt = i_66.toInt + 1 := dw_incK ex_74 fc_70 (by decide)
                    refine lv_iinc (v := x_74) (lv' := [(5, .int x_74), (4, .int r_71), (3, .int i_66), (6, .int r_71), (0, .ref m0), (1, .int 3), (2, .int w)]) hx hb dX8_haste_99 hl (k := 3) rfl ex_74.symm (by decide) rfl (fun ls hl => ?_)
                    refine lv_goto (tgt := 66) hx hb dX8_haste_102 (by decide) ?_
                    exact ih x_74 i_66 r_71 _ _ _ (hP.sub [1, 0, 2, 3, 4] rfl) (hD.sub [1, 0, 2, 3, 4] (by decide) rfl) hS (lv_sub hl [0, 1, 2, 4, 5, 6] rfl) (dw_lo hloi_66 qx_74) (dw_hn hni_66 qx_74)
                  · have fc_73 : r_71.toInt ≤ v_68.toInt := zf_nlt c_73 rfl rfl
                    refine lv_goto (tgt := 99) hx hb dX8_haste_89 (by decide) ?_
                    obtain ⟨x_75, ex_75⟩ : ∃ y : Int32, y = i_66 + 1 := ⟨_, rfl⟩
                    have qx_75 : x_75.toInt = i_66.toInt + 1 := dw_incK ex_75 fc_70 (by decide)
                    refine lv_iinc (v := x_75) (lv' := [(5, .int x_75), (6, .int r_71), (4, .int v_68), (3, .int v_67), (0, .ref m0), (1, .int 3), (2, .int w)]) hx hb dX8_haste_99 hl (k := 1) rfl ex_75.symm (by decide) rfl (fun ls hl => ?_)
                    refine lv_goto (tgt := 66) hx hb dX8_haste_102 (by decide) ?_
                    exact ih x_75 v_67 v_68 _ _ _ (hP.sub [1, 0, 2, 3, 4] rfl) (hD.sub [1, 0, 2, 3, 4] (by decide) rfl) hS (lv_sub hl [0, 2, 3, 4, 5, 6] rfl) (dw_lo hloi_66 qx_75) (dw_hn hni_66 qx_75)
            · have fc_66 : w.toInt = 1 := zf_eq c_66 rfl (by decide)
              refine lv_aload_n hx hb dX8_haste_36 rfl (lv_at hl 0 rfl) ?_
              refine lv_iload_n hx hb dX8_haste_37 rfl (lv_at hl 1 rfl) ?_
              refine lv_bipush (v := 9) hx hb dX8_haste_38 (by decide) ?_
              have kc9 : (9 : Int32).toInt = 9 := by decide
              skip
              refine zw_V (As := [.int 3, .int 9]) (rest := []) (wr := [(mrf, .inl (cI, 8, .inl grf))]) ⟨hx, hb, hml, hown, hts⟩ (c_M_casesIn_3 l D cI cJ cZ cP cS po m0 mrf mki mpa mta mla msl mco mhe mso msi msh mce mca mwo mnu mte mwa mke mma mth mtr (npu) (nte) (nat_) (nde) (nto) (nse) (nhu) (nga) (nsd) (nfa) (nba) (npl) (nen) (nnu) (nwr) (nra) (nik) gki gpa gta (9) hy0 hy1 hy2 hy3 hy4 hy5 hy6 hy7 hy8 hy9 hy10 hy11 hy12 hy13 (by omega) (by omega) hp_gki hp_gpa hp_gta H.size) (cwV 2 hts gX8_haste_X8_casesIn rfl rfl rfl ⟨rfl, dh_X8_casesIn⟩ ⟨Nat.le_of_ble_eq_true rfl, Nat.le_of_ble_eq_true rfl⟩) hK hN (hZ.kept hS) hP hD hS hA [0, 2, 3, 4] [1] rfl rfl (by decide) (by decide) (by decide) (va_recv (q := (RX8, TX8, 38)) hK hP (ci := 8) (q0 := 0) rfl rfl) rfl hl.1 rfl (Nat.le_of_ble_eq_true rfl) dX8_haste_40 ⟨Nat.le_of_ble_eq_true rfl, Nat.le_of_ble_eq_true rfl⟩ (fun r_76 u_77 H locs hr_76 hP hD hS => ?_)
              have h9R := zRe (ws' := [(mrf, .inl (cI, 8, .inl grf)), (zMO m0 npu nte nat_ nde nto nse nhu nga nsd nfa mrf mki mpa mta mla msl mco mhe mso msi msh mce mca mwo mnu mte nba npl nen nnu nwr mwa mke mma mth mtr nra nik), (mki, .inl (cI, 8, .inl gki)), (mpa, .inl (cI, 8, .inl gpa)), (mta, .inl (cI, 8, .inl gta))]) hP hD rfl
              clear hP hD
              obtain ⟨hP, hD⟩ := h9R
              refine lv_aload_n hx hb dX8_haste_43 rfl (lv_at hl 0 rfl) ?_
              refine lv_iload_n hx hb dX8_haste_44 rfl (lv_at hl 1 rfl) ?_
              refine lv_iconst (v := 0) hx hb dX8_haste_45 (by decide) ?_
              have kc0 : (0 : Int32).toInt = 0 := by decide
              skip
              refine zw_V (As := [.int 3, .int 0]) (rest := [.int r_76]) (wr := [(mrf, .inl (cI, 8, .inl grf))]) ⟨hx, hb, hml, hown, hts⟩ (c_M_casesIn_3 l D cI cJ cZ cP cS po m0 mrf mki mpa mta mla msl mco mhe mso msi msh mce mca mwo mnu mte mwa mke mma mth mtr (npu) (nte) (nat_) (nde) (nto) (nse) (nhu) (nga) (nsd) (nfa) (nba) (npl) (nen) (nnu) (nwr) (nra) (nik) gki gpa gta (0) hy0 hy1 hy2 hy3 hy4 hy5 hy6 hy7 hy8 hy9 hy10 hy11 hy12 hy13 (by omega) (by omega) hp_gki hp_gpa hp_gta H.size) (cwV 2 hts gX8_haste_X8_casesIn rfl rfl rfl ⟨rfl, dh_X8_casesIn⟩ ⟨Nat.le_of_ble_eq_true rfl, Nat.le_of_ble_eq_true rfl⟩) hK hN (hZ.kept hS) hP hD hS hA [1, 2, 3, 4] [0] rfl rfl (by decide) (by decide) (by decide) (va_recv (q := (RX8, TX8, 38)) hK hP (ci := 8) (q0 := 1) rfl rfl) rfl hl.1 rfl (Nat.le_of_ble_eq_true rfl) dX8_haste_46 ⟨Nat.le_of_ble_eq_true rfl, Nat.le_of_ble_eq_true rfl⟩ (fun r_78 u_79 H locs hr_78 hP hD hS => ?_)
              have h9R := zRe (ws' := [(mrf, .inl (cI, 8, .inl grf)), (zMO m0 npu nte nat_ nde nto nse nhu nga nsd nfa mrf mki mpa mta mla msl mco mhe mso msi msh mce mca mwo mnu mte nba npl nen nnu nwr mwa mke mma mth mtr nra nik), (mki, .inl (cI, 8, .inl gki)), (mpa, .inl (cI, 8, .inl gpa)), (mta, .inl (cI, 8, .inl gta))]) hP hD rfl
              clear hP hD
              obtain ⟨hP, hD⟩ := h9R
              refine lv_icmp_ge (tgt := 56) hx hb dX8_haste_49 (by decide) (fun c_80 => ?_) (fun c_80 => ?_)
              · have fc_80 : r_78.toInt ≤ r_76.toInt := zf_le c_80 rfl rfl
                refine lv_iconst (v := 0) hx hb dX8_haste_56 (by decide) ?_
                exact W.iret (v := 0) hx hb hr (fun t ht hW => ⟨⟨0, grf, rfl, trivial, zRet ht hP hD [1, 0, 2, 3, 4] (by decide) rfl⟩, hS.F ht⟩) hS.2.2 dX8_haste_57
              · have fc_80 : r_76.toInt < r_78.toInt := zf_nle c_80 rfl rfl
                refine lv_iconst (v := 1) hx hb dX8_haste_52 (by decide) ?_
                refine lv_goto (tgt := 57) hx hb dX8_haste_53 (by decide) ?_
                exact W.iret (v := 1) hx hb hr (fun t ht hW => ⟨⟨1, grf, rfl, trivial, zRet ht hP hD [1, 0, 2, 3, 4] (by decide) rfl⟩, hS.F ht⟩) hS.2.2 dX8_haste_57
          · have kc4 : (4 : Int32).toInt = 4 := by decide
            refine lv_iload_n hx hb dX8_haste_31 rfl (lv_at hl 2 rfl) ?_
            refine lv_iconst (v := 1) hx hb dX8_haste_32 (by decide) ?_
            refine lv_icmp_ne (tgt := 58) hx hb dX8_haste_33 (by decide) (fun c_81 => ?_) (fun c_81 => ?_)
            · have fc_81 : w.toInt ≠ 1 := zf_ne c_81 rfl (by decide)
              refine lv_iconst (v := 0) hx hb dX8_haste_58 (by decide) ?_
              refine lv_istore_n (lv' := [(3, .int 0), (0, .ref m0), (1, .int 4), (2, .int w)]) hx hb dX8_haste_59 rfl hl (by decide) rfl (fun ls hl => ?_)
              refine lv_iconst (v := (-1)) hx hb dX8_haste_60 (by decide) ?_
              refine lv_istore (lv' := [(4, .int (-1)), (3, .int 0), (0, .ref m0), (1, .int 4), (2, .int w)]) hx hb dX8_haste_61 hl (by decide) rfl (fun ls hl => ?_)
              refine lv_iconst (v := 0) hx hb dX8_haste_63 (by decide) ?_
              refine lv_istore (lv' := [(5, .int 0), (4, .int (-1)), (3, .int 0), (0, .ref m0), (1, .int 4), (2, .int w)]) hx hb dX8_haste_64 hl (by decide) rfl (fun ls hl => ?_)
              obtain ⟨i_66, hi_66⟩ : ∃ i : Int32, i = 0 := ⟨_, rfl⟩
              replace hl : lv_has ls 7 [(5, .int i_66), (4, .int (-1)), (3, .int 0), (0, .ref m0), (1, .int 4), (2, .int w)] := by rw [hi_66]; exact lv_sub hl [0, 1, 2, 3, 4, 5] rfl
              have h1i_66 : i_66.toInt = 0 := by rw [hi_66]; decide
              obtain ⟨nfu, hni_66⟩ : ∃ nq9 : Nat, 10 ≤ i_66.toInt + (nq9 : Int) := ⟨((10 : Int) - 0).toNat, by omega⟩
              have hloi_66 : 0 ≤ i_66.toInt := by omega
              obtain ⟨v_82, hv_82⟩ : ∃ g : Int32, g = 0 := ⟨_, rfl⟩
              obtain ⟨v_83, hv_83⟩ : ∃ g : Int32, g = (-1) := ⟨_, rfl⟩
              replace hl : lv_has ls 7 [(5, .int i_66), (4, .int v_83), (3, .int v_82), (0, .ref m0), (1, .int 4), (2, .int w)] := by rw [hv_82, hv_83]; exact hl
              clear h1i_66 hi_66 hv_82 hv_83
              skip
              revert hni_66
              revert hloi_66
              revert hl
              revert hS
              revert hD
              revert hP
              revert ls
              revert locs
              revert H
              revert v_83
              revert v_82
              revert i_66
              induction nfu with
              | zero =>
                intro i_66 v_82 v_83 H locs ls hP hD hS hl hloi_66 hni_66
                have hzi_66 : 10 ≤ i_66.toInt := by omega
                refine lv_iload hx hb dX8_haste_66 (lv_at hl 0 rfl) ?_
                refine lv_bipush (v := 10) hx hb dX8_haste_68 (by decide) ?_
                refine lv_icmp_ge (tgt := 105) hx hb dX8_haste_70 (by decide) (fun c_84 => ?_) (fun c_84 => ?_)
                · have fc_84 : 10 ≤ i_66.toInt := zf_le c_84 (by decide) rfl
                  refine lv_iload_n hx hb dX8_haste_105 rfl (lv_at hl 2 rfl) ?_
                  exact W.iret (v := v_82) hx hb hr (fun t ht hW => ⟨⟨v_82, grf, rfl, trivial, zRet ht hP hD [0, 1, 2, 3, 4] (by decide) rfl⟩, hS.F ht⟩) hS.2.2 dX8_haste_106
                · exfalso; have fc_84 : i_66.toInt < 10 := zf_nle c_84 (by decide) rfl; omega
              | succ nfu ih =>
                intro i_66 v_82 v_83 H locs ls hP hD hS hl hloi_66 hni_66
                refine lv_iload hx hb dX8_haste_66 (lv_at hl 0 rfl) ?_
                refine lv_bipush (v := 10) hx hb dX8_haste_68 (by decide) ?_
                refine lv_icmp_ge (tgt := 105) hx hb dX8_haste_70 (by decide) (fun c_85 => ?_) (fun c_85 => ?_)
                · have fc_85 : 10 ≤ i_66.toInt := zf_le c_85 (by decide) rfl
                  refine lv_iload_n hx hb dX8_haste_105 rfl (lv_at hl 2 rfl) ?_
                  exact W.iret (v := v_82) hx hb hr (fun t ht hW => ⟨⟨v_82, grf, rfl, trivial, zRet ht hP hD [0, 1, 2, 3, 4] (by decide) rfl⟩, hS.F ht⟩) hS.2.2 dX8_haste_106
                · have fc_85 : i_66.toInt < 10 := zf_nle c_85 (by decide) rfl
                  refine lv_aload_n hx hb dX8_haste_73 rfl (lv_at hl 3 rfl) ?_
                  refine lv_iload_n hx hb dX8_haste_74 rfl (lv_at hl 4 rfl) ?_
                  refine lv_iload hx hb dX8_haste_75 (lv_at hl 0 rfl) ?_
                  skip
                  refine zw_V (As := [.int 4, .int i_66]) (rest := []) (wr := [(mrf, .inl (cI, 8, .inl grf))]) ⟨hx, hb, hml, hown, hts⟩ (c_M_casesIn_4 l D cI cJ cZ cP cS po m0 mrf mki mpa mta mla msl mco mhe mso msi msh mce mca mwo mnu mte mwa mke mma mth mtr (npu) (nte) (nat_) (nde) (nto) (nse) (nhu) (nga) (nsd) (nfa) (nba) (npl) (nen) (nnu) (nwr) (nra) (nik) gki gpa gta (i_66) hy0 hy1 hy2 hy3 hy4 hy5 hy6 hy7 hy8 hy9 hy10 hy11 hy12 hy13 (by omega) (by omega) hp_gki hp_gpa hp_gta H.size) (cwV 2 hts gX8_haste_X8_casesIn rfl rfl rfl ⟨rfl, dh_X8_casesIn⟩ ⟨Nat.le_of_ble_eq_true rfl, Nat.le_of_ble_eq_true rfl⟩) hK hN (hZ.kept hS) hP hD hS hA [0, 2, 3, 4] [1] rfl rfl (by decide) (by decide) (by decide) (va_recv (q := (RX8, TX8, 38)) hK hP (ci := 8) (q0 := 0) rfl rfl) rfl hl.1 rfl (Nat.le_of_ble_eq_true rfl) dX8_haste_77 ⟨Nat.le_of_ble_eq_true rfl, Nat.le_of_ble_eq_true rfl⟩ (fun r_86 u_87 H locs hr_86 hP hD hS => ?_)
                  have h9R := zRe (ws' := [(mrf, .inl (cI, 8, .inl grf)), (zMO m0 npu nte nat_ nde nto nse nhu nga nsd nfa mrf mki mpa mta mla msl mco mhe mso msi msh mce mca mwo mnu mte nba npl nen nnu nwr mwa mke mma mth mtr nra nik), (mki, .inl (cI, 8, .inl gki)), (mpa, .inl (cI, 8, .inl gpa)), (mta, .inl (cI, 8, .inl gta))]) hP hD rfl
                  clear hP hD
                  obtain ⟨hP, hD⟩ := h9R
                  refine lv_istore (lv' := [(6, .int r_86), (5, .int i_66), (4, .int v_83), (3, .int v_82), (0, .ref m0), (1, .int 4), (2, .int w)]) hx hb dX8_haste_80 hl (by decide) rfl (fun ls hl => ?_)
                  refine lv_iload hx hb dX8_haste_82 (lv_at hl 0 rfl) ?_
                  refine lv_iload hx hb dX8_haste_84 (lv_at hl 2 rfl) ?_
                  refine lv_icmp_gt (tgt := 92) hx hb dX8_haste_86 (by decide) (fun c_88 => ?_) (fun c_88 => ?_)
                  · have fc_88 : v_83.toInt < r_86.toInt := zf_lt c_88 rfl rfl
                    refine lv_iload hx hb dX8_haste_92 (lv_at hl 1 rfl) ?_
                    refine lv_istore_n (lv' := [(3, .int i_66), (6, .int r_86), (5, .int i_66), (4, .int v_83), (0, .ref m0), (1, .int 4), (2, .int w)]) hx hb dX8_haste_94 rfl hl (by decide) rfl (fun ls hl => ?_)
                    refine lv_iload hx hb dX8_haste_95 (lv_at hl 1 rfl) ?_
                    refine lv_istore (lv' := [(4, .int r_86), (3, .int i_66), (6, .int r_86), (5, .int i_66), (0, .ref m0), (1, .int 4), (2, .int w)]) hx hb dX8_haste_97 hl (by decide) rfl (fun ls hl => ?_)
                    obtain ⟨x_89, ex_89⟩ : ∃ y : Int32, y = i_66 + 1 := ⟨_, rfl⟩
                    have qx_89 : x_89.toInt = i_66.toInt + 1 := dw_incK ex_89 fc_85 (by decide)
                    refine lv_iinc (v := x_89) (lv' := [(5, .int x_89), (4, .int r_86), (3, .int i_66), (6, .int r_86), (0, .ref m0), (1, .int 4), (2, .int w)]) hx hb dX8_haste_99 hl (k := 3) rfl ex_89.symm (by decide) rfl (fun ls hl => ?_)
                    refine lv_goto (tgt := 66) hx hb dX8_haste_102 (by decide) ?_
                    exact ih x_89 i_66 r_86 _ _ _ (hP.sub [1, 0, 2, 3, 4] rfl) (hD.sub [1, 0, 2, 3, 4] (by decide) rfl) hS (lv_sub hl [0, 1, 2, 4, 5, 6] rfl) (dw_lo hloi_66 qx_89) (dw_hn hni_66 qx_89)
                  · have fc_88 : r_86.toInt ≤ v_83.toInt := zf_nlt c_88 rfl rfl
                    refine lv_goto (tgt := 99) hx hb dX8_haste_89 (by decide) ?_
                    obtain ⟨x_90, ex_90⟩ : ∃ y : Int32, y = i_66 + 1 := ⟨_, rfl⟩
                    have qx_90 : x_90.toInt = i_66.toInt + 1 := dw_incK ex_90 fc_85 (by decide)
                    refine lv_iinc (v := x_90) (lv' := [(5, .int x_90), (6, .int r_86), (4, .int v_83), (3, .int v_82), (0, .ref m0), (1, .int 4), (2, .int w)]) hx hb dX8_haste_99 hl (k := 1) rfl ex_90.symm (by decide) rfl (fun ls hl => ?_)
                    refine lv_goto (tgt := 66) hx hb dX8_haste_102 (by decide) ?_
                    exact ih x_90 v_82 v_83 _ _ _ (hP.sub [1, 0, 2, 3, 4] rfl) (hD.sub [1, 0, 2, 3, 4] (by decide) rfl) hS (lv_sub hl [0, 2, 3, 4, 5, 6] rfl) (dw_lo hloi_66 qx_90) (dw_hn hni_66 qx_90)
            · have fc_81 : w.toInt = 1 := zf_eq c_81 rfl (by decide)
              refine lv_aload_n hx hb dX8_haste_36 rfl (lv_at hl 0 rfl) ?_
              refine lv_iload_n hx hb dX8_haste_37 rfl (lv_at hl 1 rfl) ?_
              refine lv_bipush (v := 9) hx hb dX8_haste_38 (by decide) ?_
              have kc9 : (9 : Int32).toInt = 9 := by decide
              skip
              refine zw_V (As := [.int 4, .int 9]) (rest := []) (wr := [(mrf, .inl (cI, 8, .inl grf))]) ⟨hx, hb, hml, hown, hts⟩ (c_M_casesIn_4 l D cI cJ cZ cP cS po m0 mrf mki mpa mta mla msl mco mhe mso msi msh mce mca mwo mnu mte mwa mke mma mth mtr (npu) (nte) (nat_) (nde) (nto) (nse) (nhu) (nga) (nsd) (nfa) (nba) (npl) (nen) (nnu) (nwr) (nra) (nik) gki gpa gta (9) hy0 hy1 hy2 hy3 hy4 hy5 hy6 hy7 hy8 hy9 hy10 hy11 hy12 hy13 (by omega) (by omega) hp_gki hp_gpa hp_gta H.size) (cwV 2 hts gX8_haste_X8_casesIn rfl rfl rfl ⟨rfl, dh_X8_casesIn⟩ ⟨Nat.le_of_ble_eq_true rfl, Nat.le_of_ble_eq_true rfl⟩) hK hN (hZ.kept hS) hP hD hS hA [0, 2, 3, 4] [1] rfl rfl (by decide) (by decide) (by decide) (va_recv (q := (RX8, TX8, 38)) hK hP (ci := 8) (q0 := 0) rfl rfl) rfl hl.1 rfl (Nat.le_of_ble_eq_true rfl) dX8_haste_40 ⟨Nat.le_of_ble_eq_true rfl, Nat.le_of_ble_eq_true rfl⟩ (fun r_91 u_92 H locs hr_91 hP hD hS => ?_)
              have h9R := zRe (ws' := [(mrf, .inl (cI, 8, .inl grf)), (zMO m0 npu nte nat_ nde nto nse nhu nga nsd nfa mrf mki mpa mta mla msl mco mhe mso msi msh mce mca mwo mnu mte nba npl nen nnu nwr mwa mke mma mth mtr nra nik), (mki, .inl (cI, 8, .inl gki)), (mpa, .inl (cI, 8, .inl gpa)), (mta, .inl (cI, 8, .inl gta))]) hP hD rfl
              clear hP hD
              obtain ⟨hP, hD⟩ := h9R
              refine lv_aload_n hx hb dX8_haste_43 rfl (lv_at hl 0 rfl) ?_
              refine lv_iload_n hx hb dX8_haste_44 rfl (lv_at hl 1 rfl) ?_
              refine lv_iconst (v := 0) hx hb dX8_haste_45 (by decide) ?_
              have kc0 : (0 : Int32).toInt = 0 := by decide
              skip
              refine zw_V (As := [.int 4, .int 0]) (rest := [.int r_91]) (wr := [(mrf, .inl (cI, 8, .inl grf))]) ⟨hx, hb, hml, hown, hts⟩ (c_M_casesIn_4 l D cI cJ cZ cP cS po m0 mrf mki mpa mta mla msl mco mhe mso msi msh mce mca mwo mnu mte mwa mke mma mth mtr (npu) (nte) (nat_) (nde) (nto) (nse) (nhu) (nga) (nsd) (nfa) (nba) (npl) (nen) (nnu) (nwr) (nra) (nik) gki gpa gta (0) hy0 hy1 hy2 hy3 hy4 hy5 hy6 hy7 hy8 hy9 hy10 hy11 hy12 hy13 (by omega) (by omega) hp_gki hp_gpa hp_gta H.size) (cwV 2 hts gX8_haste_X8_casesIn rfl rfl rfl ⟨rfl, dh_X8_casesIn⟩ ⟨Nat.le_of_ble_eq_true rfl, Nat.le_of_ble_eq_true rfl⟩) hK hN (hZ.kept hS) hP hD hS hA [1, 2, 3, 4] [0] rfl rfl (by decide) (by decide) (by decide) (va_recv (q := (RX8, TX8, 38)) hK hP (ci := 8) (q0 := 1) rfl rfl) rfl hl.1 rfl (Nat.le_of_ble_eq_true rfl) dX8_haste_46 ⟨Nat.le_of_ble_eq_true rfl, Nat.le_of_ble_eq_true rfl⟩ (fun r_93 u_94 H locs hr_93 hP hD hS => ?_)
              have h9R := zRe (ws' := [(mrf, .inl (cI, 8, .inl grf)), (zMO m0 npu nte nat_ nde nto nse nhu nga nsd nfa mrf mki mpa mta mla msl mco mhe mso msi msh mce mca mwo mnu mte nba npl nen nnu nwr mwa mke mma mth mtr nra nik), (mki, .inl (cI, 8, .inl gki)), (mpa, .inl (cI, 8, .inl gpa)), (mta, .inl (cI, 8, .inl gta))]) hP hD rfl
              clear hP hD
              obtain ⟨hP, hD⟩ := h9R
              refine lv_icmp_ge (tgt := 56) hx hb dX8_haste_49 (by decide) (fun c_95 => ?_) (fun c_95 => ?_)
              · have fc_95 : r_93.toInt ≤ r_91.toInt := zf_le c_95 rfl rfl
                refine lv_iconst (v := 0) hx hb dX8_haste_56 (by decide) ?_
                exact W.iret (v := 0) hx hb hr (fun t ht hW => ⟨⟨0, grf, rfl, trivial, zRet ht hP hD [1, 0, 2, 3, 4] (by decide) rfl⟩, hS.F ht⟩) hS.2.2 dX8_haste_57
              · have fc_95 : r_91.toInt < r_93.toInt := zf_nle c_95 rfl rfl
                refine lv_iconst (v := 1) hx hb dX8_haste_52 (by decide) ?_
                refine lv_goto (tgt := 57) hx hb dX8_haste_53 (by decide) ?_
                exact W.iret (v := 1) hx hb hr (fun t ht hW => ⟨⟨1, grf, rfl, trivial, zRet ht hP hD [1, 0, 2, 3, 4] (by decide) rfl⟩, hS.F ht⟩) hS.2.2 dX8_haste_57
        · exact absurd c_20 (by decide)
    · have fc_5 : 1 < w.toInt := zf_nle c_5 rfl (by decide)
      refine lv_aload_n hx hb dX8_haste_9 rfl (lv_at hl 0 rfl) ?_
      refine lv_bipush (v := (-5)) hx hb dX8_haste_10 (by decide) ?_
      skip
      refine zw_V (As := [.int (-5)]) (rest := []) (wr := [(mki, .inl (cI, 8, .inl gki)), (mpa, .inl (cI, 8, .inl gpa)), (mta, .inl (cI, 8, .inl gta))]) ⟨hx, hb, hml, hown, hts⟩ (c_M_no_5 l D cI cJ cZ cP cS po m0 mrf mki mpa mta mla msl mco mhe mso msi msh mce mca mwo mnu mte mwa mke mma mth mtr (npu) (nte) (nat_) (nde) (nto) (nse) (nhu) (nga) (nsd) (nfa) (nba) (npl) (nen) (nnu) (nwr) (nra) (nik) grf hy0 hy1 hy2 hy3 hy4 hy5 hy6 hy7 hy8 hy9 hy10 hy11 hy12 hy13 H.size) (cwV 1 hts gX8_haste_X8_no rfl rfl rfl ⟨rfl, dh_X8_no⟩ ⟨Nat.le_of_ble_eq_true rfl, Nat.le_of_ble_eq_true rfl⟩) hK hN (hZ.kept hS) hP hD hS hA [0, 1] [2, 3, 4] rfl rfl (by decide) (by decide) (by decide) (va_recv (q := (RX8, TX8, 38)) hK hP (ci := 8) (q0 := 0) rfl rfl) rfl hl.1 rfl (Nat.le_of_ble_eq_true rfl) dX8_haste_12 ⟨Nat.le_of_ble_eq_true rfl, Nat.le_of_ble_eq_true rfl⟩ (fun r_96 u_97 H locs hr_96 hP hD hS => ?_)
      obtain ⟨q_98, rfl⟩ : ∃ z, z = u_97 := ⟨_, rfl⟩
      have h9R := zRe (ws' := [(mki, .inl (cI, 8, .inl gki)), (mpa, .inl (cI, 8, .inl gpa)), (mta, .inl (cI, 8, .inl gta)), (zMO m0 npu nte nat_ nde nto nse nhu nga nsd nfa mrf mki mpa mta mla msl mco mhe mso msi msh mce mca mwo mnu mte nba npl nen nnu nwr mwa mke mma mth mtr nra nik), (mrf, .inl (cI, 8, .inl q_98))]) hP hD rfl
      clear hP hD
      obtain ⟨hP, hD⟩ := h9R
      obtain rfl := hr_96
      exact W.iret (v := (-5)) hx hb hr (fun t ht hW => ⟨⟨(-5), q_98, rfl, trivial, zRet ht hP hD [3, 4, 0, 1, 2] (by decide) rfl⟩, hS.F ht⟩) hS.2.2 dX8_haste_15
end
section
theorem hi_X8_barsOf_8 : ∀ w ∈ u_ws RX8 TX8 38, w ∈ wsX8_barsOf := fun w h => (gl_X8_barsOf_X80 w h).1
theorem hi_X8_best_8 : ∀ w ∈ u_ws RX8 TX8 38, w ∈ wsX8_best := fun w h => (gl_X8_best_X80 w h).1
theorem gl_X8_isOpen_X80 : GoodIn wsX8_isOpen wsX80 := (dg_t (dg_t (dg_t gw_wsX80)))
theorem hi_X8_isOpen_8 : ∀ w ∈ u_ws RX8 TX8 38, w ∈ wsX8_isOpen := fun w h => (gl_X8_isOpen_X80 w h).1
set_option maxHeartbeats 4000000 in
set_option maxRecDepth 100000 in
theorem c_M_isOpen (l : Launch) (D : va_G) (cI cJ cZ cP cS : ClassId) (po : zPool) (m0 mrf mki mpa mta mla msl mco mhe mso msi msh mce mca mwo mnu mte mwa mke mma mth mtr : Nat) (npu nte nat_ nde nto nse nhu nga nsd nfa nba npl nen nnu nwr nra nik : Int32) (gla : Nat → Int32) (t_ : Int32) (hy0 : 0 ≤ npu.toInt) (hy1 : npu.toInt ≤ 8) (hy2 : 4 ≤ nte.toInt) (hy3 : nte.toInt ≤ 40) (hy4 : 0 ≤ nat_.toInt) (hy5 : nat_.toInt ≤ 40) (hy6 : 0 ≤ nde.toInt) (hy7 : nde.toInt ≤ 24) (hy8 : 0 ≤ nhu.toInt) (hy9 : nhu.toInt ≤ 9) (hy10 : 0 ≤ nra.toInt) (hy11 : nra.toInt ≤ 2000) (hy12 : 0 ≤ nik.toInt) (hy13 : nik.toInt ≤ 1) (hy14 : 0 ≤ t_.toInt) (hy15 : t_.toInt ≤ 39) (hp_gla : zRg gla (0) 1) : Met l yX8_isOpen wsX8_isOpen ({ frames := 0, cells := 0, slots := 0, locals := 0 }) (va_Pc [.ref m0, .int t_] (zR D (zKT cI cJ cZ cP cS) po [(zMO m0 npu nte nat_ nde nto nse nhu nga nsd nfa mrf mki mpa mta mla msl mco mhe mso msi msh mce mca mwo mnu mte nba npl nen nnu nwr mwa mke mma mth mtr nra nik), (mla, .inl (cI, 40, .inl gla))])) (vp_Si (fun r => 0 ≤ r.toInt ∧ r.toInt ≤ 1)) 0 0 (fun _ => False) := by
  refine Met.ofW (cc := cX8_isOpen) (maxL := 2) (ret := (some .boolean)) (by decide) rfl ?_
  intro p e s m args below meth c s₁ B hml hv
  obtain ⟨rfl, hP, hK, hN, hZ⟩ := hv
  have hx := B.exec
  have hb := B.bytes
  have hr := B.returns
  have hts := atoms_spec (ws := wsX8_isOpen) B.pre
  have hown : s.vm.findClass RX8 = some m.cls := findClass_of_methodNamed B.named
  have hlocks := B.notSynchronized
  have hl := lv_entry ([.ref m0, .int t_]) (n := 2) (Nat.le_of_ble_eq_true rfl)
  rw [lg_entry_eq]
  generalize (lg_sl ([.ref m0, .int t_]) ++ List.replicate (2 - (lg_sl ([.ref m0, .int t_])).length) Slot.unset).toArray = ls at hl ⊢
  replace hl : lv_has ls 2 [(0, .ref m0), (1, .int t_)] := hl
  refine lv_iload_n hx hb dX8_isOpen_0 rfl (lv_at hl 1 rfl) ?_
  refine lv_iconst (v := 2) hx hb dX8_isOpen_1 (by decide) ?_
  refine lv_iadd hx hb dX8_isOpen_2 ?_
  refine lv_topi (fun x_1 ex_1 => ?_)
  have qx_1 : x_1.toInt = t_.toInt + 2 := by rw [ex_1]; exact zf_add rfl (by decide) (by omega) (by omega)
  refine lv_aload_n hx hb dX8_isOpen_3 rfl (lv_at hl 0 rfl) ?_
  refine va_get (D := D) (ci := 8) (v := .int nte) (C := RX8) (T := TX8) (N := 38) hx hb hts hi_X8_isOpen_8 hown hK hP 0 rfl rfl 1 (by decide) (hts (.fieldLink RX8 7 "TheLiningsInItModel" "teeth" "I") (List.mem_of_getElem? (i := 1) rfl)) (fun _ h9 => h9) rfl dX8_isOpen_4 ?_
  refine lv_icmp_ge (tgt := 48) hx hb dX8_isOpen_7 (by decide) (fun c_2 => ?_) (fun c_2 => ?_)
  · have fc_2 : nte.toInt ≤ x_1.toInt := zf_le c_2 rfl rfl
    refine lv_iconst (v := 0) hx hb dX8_isOpen_48 (by decide) ?_
    exact W.zret (v := 0) hx hb hr (by decide) (fun t ht hW => ⟨0, rfl, ⟨by decide, by decide⟩, ht⟩) (fun q hq => by cases hq) dX8_isOpen_49
  · have fc_2 : x_1.toInt < nte.toInt := zf_nle c_2 rfl rfl
    refine lv_aload_n hx hb dX8_isOpen_10 rfl (lv_at hl 0 rfl) ?_
    refine va_get (D := D) (ci := 8) (v := .ref mla) (C := RX8) (T := TX8) (N := 38) hx hb hts hi_X8_isOpen_8 hown hK hP 0 rfl rfl 14 (by decide) (hts (.fieldLink RX8 38 "TheLiningsInItModel" "lacks" "[I") (List.mem_of_getElem? (i := 2) rfl)) (fun _ h9 => h9) rfl dX8_isOpen_11 ?_
    refine lv_iload_n hx hb dX8_isOpen_14 rfl (lv_at hl 1 rfl) ?_
    refine va_iald hx hb hK hP 1 0 rfl rfl (zf_in (by omega) (by omega)) dX8_isOpen_15 ?_
    refine lv_topi (fun x_3 ex_3 => ?_)
    have bx_3 : 0 ≤ x_3.toInt ∧ x_3.toInt ≤ 1 := by rw [ex_3]; exact hp_gla _
    refine lv_iconst (v := 1) hx hb dX8_isOpen_16 (by decide) ?_
    refine lv_icmp_ne (tgt := 48) hx hb dX8_isOpen_17 (by decide) (fun c_4 => ?_) (fun c_4 => ?_)
    · have fc_4 : x_3.toInt ≠ 1 := zf_ne c_4 rfl (by decide)
      refine lv_iconst (v := 0) hx hb dX8_isOpen_48 (by decide) ?_
      exact W.zret (v := 0) hx hb hr (by decide) (fun t ht hW => ⟨0, rfl, ⟨by decide, by decide⟩, ht⟩) (fun q hq => by cases hq) dX8_isOpen_49
    · have fc_4 : x_3.toInt = 1 := zf_eq c_4 rfl (by decide)
      refine lv_aload_n hx hb dX8_isOpen_20 rfl (lv_at hl 0 rfl) ?_
      refine va_get (D := D) (ci := 8) (v := .ref mla) (C := RX8) (T := TX8) (N := 38) hx hb hts hi_X8_isOpen_8 hown hK hP 0 rfl rfl 14 (by decide) (hts (.fieldLink RX8 38 "TheLiningsInItModel" "lacks" "[I") (List.mem_of_getElem? (i := 2) rfl)) (fun _ h9 => h9) rfl dX8_isOpen_21 ?_
      refine lv_iload_n hx hb dX8_isOpen_24 rfl (lv_at hl 1 rfl) ?_
      refine lv_iconst (v := 1) hx hb dX8_isOpen_25 (by decide) ?_
      refine lv_iadd hx hb dX8_isOpen_26 ?_
      refine lv_topi (fun x_5 ex_5 => ?_)
      have qx_5 : x_5.toInt = t_.toInt + 1 := by rw [ex_5]; exact zf_add rfl (by decide) (by omega) (by omega)
      refine va_iald hx hb hK hP 1 0 rfl rfl (zf_in (by omega) (by omega)) dX8_isOpen_27 ?_
      refine lv_topi (fun x_6 ex_6 => ?_)
      have bx_6 : 0 ≤ x_6.toInt ∧ x_6.toInt ≤ 1 := by rw [ex_6]; exact hp_gla _
      refine lv_iconst (v := 1) hx hb dX8_isOpen_28 (by decide) ?_
      refine lv_icmp_ne (tgt := 48) hx hb dX8_isOpen_29 (by decide) (fun c_7 => ?_) (fun c_7 => ?_)
      · have fc_7 : x_6.toInt ≠ 1 := zf_ne c_7 rfl (by decide)
        refine lv_iconst (v := 0) hx hb dX8_isOpen_48 (by decide) ?_
        exact W.zret (v := 0) hx hb hr (by decide) (fun t ht hW => ⟨0, rfl, ⟨by decide, by decide⟩, ht⟩) (fun q hq => by cases hq) dX8_isOpen_49
      · have fc_7 : x_6.toInt = 1 := zf_eq c_7 rfl (by decide)
        refine lv_aload_n hx hb dX8_isOpen_32 rfl (lv_at hl 0 rfl) ?_
        refine va_get (D := D) (ci := 8) (v := .ref mla) (C := RX8) (T := TX8) (N := 38) hx hb hts hi_X8_isOpen_8 hown hK hP 0 rfl rfl 14 (by decide) (hts (.fieldLink RX8 38 "TheLiningsInItModel" "lacks" "[I") (List.mem_of_getElem? (i := 2) rfl)) (fun _ h9 => h9) rfl dX8_isOpen_33 ?_
        refine lv_iload_n hx hb dX8_isOpen_36 rfl (lv_at hl 1 rfl) ?_
        refine lv_iconst (v := 2) hx hb dX8_isOpen_37 (by decide) ?_
        refine lv_iadd hx hb dX8_isOpen_38 ?_
        refine lv_topi (fun y_8 ey_8 => ?_)
        obtain rfl : x_1 = y_8 := ex_1.trans ey_8.symm
        refine va_iald hx hb hK hP 1 0 rfl rfl (zf_in (by omega) (by omega)) dX8_isOpen_39 ?_
        refine lv_topi (fun x_9 ex_9 => ?_)
        have bx_9 : 0 ≤ x_9.toInt ∧ x_9.toInt ≤ 1 := by rw [ex_9]; exact hp_gla _
        refine lv_iconst (v := 1) hx hb dX8_isOpen_40 (by decide) ?_
        refine lv_icmp_ne (tgt := 48) hx hb dX8_isOpen_41 (by decide) (fun c_10 => ?_) (fun c_10 => ?_)
        · have fc_10 : x_9.toInt ≠ 1 := zf_ne c_10 rfl (by decide)
          refine lv_iconst (v := 0) hx hb dX8_isOpen_48 (by decide) ?_
          exact W.zret (v := 0) hx hb hr (by decide) (fun t ht hW => ⟨0, rfl, ⟨by decide, by decide⟩, ht⟩) (fun q hq => by cases hq) dX8_isOpen_49
        · have fc_10 : x_9.toInt = 1 := zf_eq c_10 rfl (by decide)
          refine lv_iconst (v := 1) hx hb dX8_isOpen_44 (by decide) ?_
          refine lv_goto (tgt := 49) hx hb dX8_isOpen_45 (by decide) ?_
          exact W.zret (v := 1) hx hb hr (by decide) (fun t ht hW => ⟨1, rfl, ⟨by decide, by decide⟩, ht⟩) (fun q hq => by cases hq) dX8_isOpen_49
theorem hi_X8_doesHold_8 : ∀ w ∈ u_ws RX8 TX8 38, w ∈ wsX8_doesHold := fun w h => (gl_X8_doesHold_X80 w h).1
theorem hi_X8_frail_8 : ∀ w ∈ u_ws RX8 TX8 38, w ∈ wsX8_frail := fun w h => (gl_X8_frail_X80 w h).1
theorem gl_X8_greatest_X80 : GoodIn wsX8_greatest wsX80 := (dg_t (dg_t gw_wsX80))
theorem hi_X8_greatest_8 : ∀ w ∈ u_ws RX8 TX8 38, w ∈ wsX8_greatest := fun w h => (gl_X8_greatest_X80 w h).1
theorem hi_X8_spare_8 : ∀ w ∈ u_ws RX8 TX8 38, w ∈ wsX8_spare := fun w h => (gl_X8_spare_X80 w h).1
theorem gl_X8_lacking_X80 : GoodIn wsX8_lacking wsX80 := (dg_t (dg_t (dg_t gw_wsX80)))
theorem hi_X8_lacking_8 : ∀ w ∈ u_ws RX8 TX8 38, w ∈ wsX8_lacking := fun w h => (gl_X8_lacking_X80 w h).1
theorem gl_X8_doesCatch_X80 : GoodIn wsX8_doesCatch wsX80 := (dg_t (dg_t (dg_t (dg_t gw_wsX80))))
theorem hi_X8_doesCatch_8 : ∀ w ∈ u_ws RX8 TX8 38, w ∈ wsX8_doesCatch := fun w h => (gl_X8_doesCatch_X80 w h).1
set_option maxHeartbeats 4000000 in
set_option maxRecDepth 100000 in
theorem c_M_doesCatch (l : Launch) (D : va_G) (cI cJ cZ cP cS : ClassId) (po : zPool) (m0 mrf mki mpa mta mla msl mco mhe mso msi msh mce mca mwo mnu mte mwa mke mma mth mtr : Nat) (npu nte nat_ nde nto nse nhu nga nsd nfa nba npl nen nnu nwr nra nik : Int32) (gla gsl : Nat → Int32) (t_ : Int32) (hy0 : 0 ≤ npu.toInt) (hy1 : npu.toInt ≤ 8) (hy2 : 4 ≤ nte.toInt) (hy3 : nte.toInt ≤ 40) (hy4 : 0 ≤ nat_.toInt) (hy5 : nat_.toInt ≤ 40) (hy6 : 0 ≤ nde.toInt) (hy7 : nde.toInt ≤ 24) (hy8 : 0 ≤ nhu.toInt) (hy9 : nhu.toInt ≤ 9) (hy10 : 0 ≤ nra.toInt) (hy11 : nra.toInt ≤ 2000) (hy12 : 0 ≤ nik.toInt) (hy13 : nik.toInt ≤ 1) (hy14 : 0 ≤ t_.toInt) (hy15 : t_.toInt ≤ 39) (hp_gla : zRg gla (0) 1) (hp_gsl : zRg gsl (0) 9) : Met l yX8_doesCatch wsX8_doesCatch ({ frames := 0, cells := 0, slots := 0, locals := 0 }) (va_Pc [.ref m0, .int t_] (zR D (zKT cI cJ cZ cP cS) po [(zMO m0 npu nte nat_ nde nto nse nhu nga nsd nfa mrf mki mpa mta mla msl mco mhe mso msi msh mce mca mwo mnu mte nba npl nen nnu nwr mwa mke mma mth mtr nra nik), (mla, .inl (cI, 40, .inl gla)), (msl, .inl (cI, 40, .inl gsl))])) (vp_Si (fun r => 0 ≤ r.toInt ∧ r.toInt ≤ 1)) 0 0 (fun _ => False) := by
  refine Met.ofW (cc := cX8_doesCatch) (maxL := 2) (ret := (some .boolean)) (by decide) rfl ?_
  intro p e s m args below meth c s₁ B hml hv
  obtain ⟨rfl, hP, hK, hN, hZ⟩ := hv
  have hx := B.exec
  have hb := B.bytes
  have hr := B.returns
  have hts := atoms_spec (ws := wsX8_doesCatch) B.pre
  have hown : s.vm.findClass RX8 = some m.cls := findClass_of_methodNamed B.named
  have hlocks := B.notSynchronized
  have hl := lv_entry ([.ref m0, .int t_]) (n := 2) (Nat.le_of_ble_eq_true rfl)
  rw [lg_entry_eq]
  generalize (lg_sl ([.ref m0, .int t_]) ++ List.replicate (2 - (lg_sl ([.ref m0, .int t_])).length) Slot.unset).toArray = ls at hl ⊢
  replace hl : lv_has ls 2 [(0, .ref m0), (1, .int t_)] := hl
  refine lv_aload_n hx hb dX8_doesCatch_0 rfl (lv_at hl 0 rfl) ?_
  refine va_get (D := D) (ci := 8) (v := .ref mla) (C := RX8) (T := TX8) (N := 38) hx hb hts hi_X8_doesCatch_8 hown hK hP 0 rfl rfl 14 (by decide) (hts (.fieldLink RX8 38 "TheLiningsInItModel" "lacks" "[I") (List.mem_of_getElem? (i := 1) rfl)) (fun _ h9 => h9) rfl dX8_doesCatch_1 ?_
  refine lv_iload_n hx hb dX8_doesCatch_4 rfl (lv_at hl 1 rfl) ?_
  refine va_iald hx hb hK hP 1 0 rfl rfl (zf_in (by omega) (by omega)) dX8_doesCatch_5 ?_
  refine lv_topi (fun x_1 ex_1 => ?_)
  have bx_1 : 0 ≤ x_1.toInt ∧ x_1.toInt ≤ 1 := by rw [ex_1]; exact hp_gla _
  refine lv_if_ne (tgt := 26) hx hb dX8_doesCatch_6 (by decide) (fun c_2 => ?_) (fun c_2 => ?_)
  · have fc_2 : x_1.toInt ≠ 0 := zf_ne c_2 rfl (by decide)
    refine lv_iconst (v := 0) hx hb dX8_doesCatch_26 (by decide) ?_
    exact W.zret (v := 0) hx hb hr (by decide) (fun t ht hW => ⟨0, rfl, ⟨by decide, by decide⟩, ht⟩) (fun q hq => by cases hq) dX8_doesCatch_27
  · have fc_2 : x_1.toInt = 0 := zf_eq c_2 rfl (by decide)
    refine lv_aload_n hx hb dX8_doesCatch_9 rfl (lv_at hl 0 rfl) ?_
    refine va_get (D := D) (ci := 8) (v := .ref msl) (C := RX8) (T := TX8) (N := 38) hx hb hts hi_X8_doesCatch_8 hown hK hP 0 rfl rfl 15 (by decide) (hts (.fieldLink RX8 41 "TheLiningsInItModel" "slack" "[I") (List.mem_of_getElem? (i := 2) rfl)) (fun _ h9 => h9) rfl dX8_doesCatch_10 ?_
    refine lv_iload_n hx hb dX8_doesCatch_13 rfl (lv_at hl 1 rfl) ?_
    refine va_iald hx hb hK hP 2 0 rfl rfl (zf_in (by omega) (by omega)) dX8_doesCatch_14 ?_
    refine lv_topi (fun x_3 ex_3 => ?_)
    have bx_3 : 0 ≤ x_3.toInt ∧ x_3.toInt ≤ 9 := by rw [ex_3]; exact hp_gsl _
    refine lv_aload_n hx hb dX8_doesCatch_15 rfl (lv_at hl 0 rfl) ?_
    refine va_get (D := D) (ci := 8) (v := .int nga) (C := RX8) (T := TX8) (N := 38) hx hb hts hi_X8_doesCatch_8 hown hK hP 0 rfl rfl 7 (by decide) (hts (.fieldLink RX8 16 "TheLiningsInItModel" "gap" "I") (List.mem_of_getElem? (i := 3) rfl)) (fun _ h9 => h9) rfl dX8_doesCatch_16 ?_
    refine lv_icmp_lt (tgt := 26) hx hb dX8_doesCatch_19 (by decide) (fun c_4 => ?_) (fun c_4 => ?_)
    · have fc_4 : x_3.toInt < nga.toInt := zf_lt c_4 rfl rfl
      refine lv_iconst (v := 0) hx hb dX8_doesCatch_26 (by decide) ?_
      exact W.zret (v := 0) hx hb hr (by decide) (fun t ht hW => ⟨0, rfl, ⟨by decide, by decide⟩, ht⟩) (fun q hq => by cases hq) dX8_doesCatch_27
    · have fc_4 : nga.toInt ≤ x_3.toInt := zf_nlt c_4 rfl rfl
      refine lv_iconst (v := 1) hx hb dX8_doesCatch_22 (by decide) ?_
      refine lv_goto (tgt := 27) hx hb dX8_doesCatch_23 (by decide) ?_
      exact W.zret (v := 1) hx hb hr (by decide) (fun t ht hW => ⟨1, rfl, ⟨by decide, by decide⟩, ht⟩) (fun q hq => by cases hq) dX8_doesCatch_27
theorem hi_X8_catches_8 : ∀ w ∈ u_ws RX8 TX8 38, w ∈ wsX8_catches := fun w h => (gl_X8_catches_X80 w h).1
theorem hi_X8_stitches_8 : ∀ w ∈ u_ws RX8 TX8 38, w ∈ wsX8_stitches := fun w h => (gl_X8_stitches_X80 w h).1
theorem hi_X8_closed_8 : ∀ w ∈ u_ws RX8 TX8 38, w ∈ wsX8_closed := fun w h => (gl_X8_closed_X80 w h).1
set_option maxHeartbeats 4000000 in
set_option maxRecDepth 100000 in
theorem c_M_closed (l : Launch) (D : va_G) (cI cJ cZ cP cS : ClassId) (po : zPool) (m0 mrf mki mpa mta mla msl mco mhe mso msi msh mce mca mwo mnu mte mwa mke mma mth mtr : Nat) (npu nte nat_ nde nto nse nhu nga nsd nfa nba npl nen nnu nwr nra nik : Int32) (gla gsl : Nat → Int32) (hy0 : 0 ≤ npu.toInt) (hy1 : npu.toInt ≤ 8) (hy2 : 4 ≤ nte.toInt) (hy3 : nte.toInt ≤ 40) (hy4 : 0 ≤ nat_.toInt) (hy5 : nat_.toInt ≤ 40) (hy6 : 0 ≤ nde.toInt) (hy7 : nde.toInt ≤ 24) (hy8 : 0 ≤ nhu.toInt) (hy9 : nhu.toInt ≤ 9) (hy10 : 0 ≤ nra.toInt) (hy11 : nra.toInt ≤ 2000) (hy12 : 0 ≤ nik.toInt) (hy13 : nik.toInt ≤ 1) (hp_gla : zRg gla (0) 1) (hp_gsl : zRg gsl (0) 9) : Met l yX8_closed wsX8_closed ({ frames := 1, cells := 0, slots := 0, locals := 21 }) (va_Pc [.ref m0] (zR D (zKT cI cJ cZ cP cS) po [(zMO m0 npu nte nat_ nde nto nse nhu nga nsd nfa mrf mki mpa mta mla msl mco mhe mso msi msh mce mca mwo mnu mte nba npl nen nnu nwr mwa mke mma mth mtr nra nik), (mla, .inl (cI, 40, .inl gla)), (msl, .inl (cI, 40, .inl gsl))])) (vp_Si (fun r => True)) 0 0 (fun _ => False) := by
  refine Met.ofW (cc := cX8_closed) (maxL := 2) (ret := (some .int)) (by decide) rfl ?_
  intro p e s m args below meth c s₁ B hml hv
  obtain ⟨rfl, hP, hK, hN, hZ⟩ := hv
  have hx := B.exec
  have hb := B.bytes
  have hr := B.returns
  have hts := atoms_spec (ws := wsX8_closed) B.pre
  have hown : s.vm.findClass RX8 = some m.cls := findClass_of_methodNamed B.named
  have hlocks := B.notSynchronized
  have hl := lv_entry ([.ref m0]) (n := 2) (Nat.le_of_ble_eq_true rfl)
  rw [lg_entry_eq]
  generalize (lg_sl ([.ref m0]) ++ List.replicate (2 - (lg_sl ([.ref m0])).length) Slot.unset).toArray = ls at hl ⊢
  replace hl : lv_has ls 2 [(0, .ref m0)] := hl
  refine lv_aload_n hx hb dX8_closed_0 rfl (lv_at hl 0 rfl) ?_
  refine va_get (D := D) (ci := 8) (v := .int nat_) (C := RX8) (T := TX8) (N := 38) hx hb hts hi_X8_closed_8 hown hK hP 0 rfl rfl 2 (by decide) (hts (.fieldLink RX8 122 "TheLiningsInItModel" "at" "I") (List.mem_of_getElem? (i := 1) rfl)) (fun _ h9 => h9) rfl dX8_closed_1 ?_
  refine lv_istore_n (lv' := [(1, .int nat_), (0, .ref m0)]) hx hb dX8_closed_4 rfl hl (by decide) rfl (fun ls hl => ?_)
  obtain ⟨i_5, hi_5⟩ : ∃ i : Int32, i = nat_ := ⟨_, rfl⟩
  replace hl : lv_has ls 2 [(1, .int i_5), (0, .ref m0)] := by rw [hi_5]; exact lv_sub hl [0, 1] rfl
  have h1i_5 : i_5.toInt = nat_.toInt := by rw [hi_5]
  obtain ⟨nfu, hni_5⟩ : ∃ nq9 : Nat, nte.toInt ≤ i_5.toInt + (nq9 : Int) := ⟨((nte.toInt : Int) - nat_.toInt).toNat, by omega⟩
  have hloi_5 : 0 ≤ i_5.toInt := by omega
  clear h1i_5 hi_5
  revert hni_5
  revert hloi_5
  revert hl
  revert ls
  revert i_5
  induction nfu with
  | zero =>
    intro i_5 ls hl hloi_5 hni_5
    have hzi_5 : nte.toInt ≤ i_5.toInt := by omega
    refine lv_iload_n hx hb dX8_closed_5 rfl (lv_at hl 0 rfl) ?_
    refine lv_aload_n hx hb dX8_closed_6 rfl (lv_at hl 1 rfl) ?_
    refine va_get (D := D) (ci := 8) (v := .int nte) (C := RX8) (T := TX8) (N := 38) hx hb hts hi_X8_closed_8 hown hK hP 0 rfl rfl 1 (by decide) (hts (.fieldLink RX8 7 "TheLiningsInItModel" "teeth" "I") (List.mem_of_getElem? (i := 2) rfl)) (fun _ h9 => h9) rfl dX8_closed_7 ?_
    refine lv_icmp_ge (tgt := 35) hx hb dX8_closed_10 (by decide) (fun c_1 => ?_) (fun c_1 => ?_)
    · have fc_1 : nte.toInt ≤ i_5.toInt := zf_le c_1 rfl rfl
      refine lv_iload_n hx hb dX8_closed_35 rfl (lv_at hl 0 rfl) ?_
      exact W.iret (v := i_5) hx hb hr (fun t ht hW => ⟨i_5, rfl, trivial, ht⟩) (fun q hq => by cases hq) dX8_closed_36
    · exfalso; have fc_1 : i_5.toInt < nte.toInt := zf_nle c_1 rfl rfl; omega
  | succ nfu ih =>
    intro i_5 ls hl hloi_5 hni_5
    refine lv_iload_n hx hb dX8_closed_5 rfl (lv_at hl 0 rfl) ?_
    refine lv_aload_n hx hb dX8_closed_6 rfl (lv_at hl 1 rfl) ?_
    refine va_get (D := D) (ci := 8) (v := .int nte) (C := RX8) (T := TX8) (N := 38) hx hb hts hi_X8_closed_8 hown hK hP 0 rfl rfl 1 (by decide) (hts (.fieldLink RX8 7 "TheLiningsInItModel" "teeth" "I") (List.mem_of_getElem? (i := 2) rfl)) (fun _ h9 => h9) rfl dX8_closed_7 ?_
    refine lv_icmp_ge (tgt := 35) hx hb dX8_closed_10 (by decide) (fun c_2 => ?_) (fun c_2 => ?_)
    · have fc_2 : nte.toInt ≤ i_5.toInt := zf_le c_2 rfl rfl
      refine lv_iload_n hx hb dX8_closed_35 rfl (lv_at hl 0 rfl) ?_
      exact W.iret (v := i_5) hx hb hr (fun t ht hW => ⟨i_5, rfl, trivial, ht⟩) (fun q hq => by cases hq) dX8_closed_36
    · have fc_2 : i_5.toInt < nte.toInt := zf_nle c_2 rfl rfl
      refine lv_aload_n hx hb dX8_closed_13 rfl (lv_at hl 1 rfl) ?_
      refine lv_iload_n hx hb dX8_closed_14 rfl (lv_at hl 0 rfl) ?_
      refine zc_V (As := [.int i_5]) (rest := []) ⟨hx, hb, hml, hown, hts⟩ (c_M_doesCatch l D cI cJ cZ cP cS po m0 mrf mki mpa mta mla msl mco mhe mso msi msh mce mca mwo mnu mte mwa mke mma mth mtr (npu) (nte) (nat_) (nde) (nto) (nse) (nhu) (nga) (nsd) (nfa) (nba) (npl) (nen) (nnu) (nwr) (nra) (nik) gla gsl (i_5) hy0 hy1 hy2 hy3 hy4 hy5 hy6 hy7 hy8 hy9 hy10 hy11 hy12 hy13 (by omega) (by omega) hp_gla hp_gsl) (cwV 1 hts gX8_closed_X8_doesCatch rfl rfl rfl ⟨rfl, dh_X8_doesCatch⟩ ⟨Nat.le_of_ble_eq_true rfl, Nat.le_of_ble_eq_true rfl⟩) hK hN hZ hP (hP.sub [0, 1, 2] rfl) (va_recv (q := (RX8, TX8, 38)) hK hP (ci := 8) (q0 := 0) rfl rfl) rfl hl.1 rfl (Nat.le_of_ble_eq_true rfl) dX8_closed_15 ⟨Nat.le_of_ble_eq_true rfl, Nat.le_of_ble_eq_true rfl⟩ (fun r_3 hr_3 => ?_)
      obtain ⟨g_4, g_5⟩ := hr_3
      refine lv_if_ne (tgt := 35) hx hb dX8_closed_18 (by decide) (fun c_6 => ?_) (fun c_6 => ?_)
      · have fc_6 : r_3.toInt ≠ 0 := zf_ne c_6 rfl (by decide)
        refine lv_iload_n hx hb dX8_closed_35 rfl (lv_at hl 0 rfl) ?_
        exact W.iret (v := i_5) hx hb hr (fun t ht hW => ⟨i_5, rfl, trivial, ht⟩) (fun q hq => by cases hq) dX8_closed_36
      · have fc_6 : r_3.toInt = 0 := zf_eq c_6 rfl (by decide)
        refine lv_aload_n hx hb dX8_closed_21 rfl (lv_at hl 1 rfl) ?_
        refine lv_iload_n hx hb dX8_closed_22 rfl (lv_at hl 0 rfl) ?_
        refine zc_V (As := [.int i_5]) (rest := []) ⟨hx, hb, hml, hown, hts⟩ (c_M_isOpen l D cI cJ cZ cP cS po m0 mrf mki mpa mta mla msl mco mhe mso msi msh mce mca mwo mnu mte mwa mke mma mth mtr (npu) (nte) (nat_) (nde) (nto) (nse) (nhu) (nga) (nsd) (nfa) (nba) (npl) (nen) (nnu) (nwr) (nra) (nik) gla (i_5) hy0 hy1 hy2 hy3 hy4 hy5 hy6 hy7 hy8 hy9 hy10 hy11 hy12 hy13 (by omega) (by omega) hp_gla) (cwV 1 hts gX8_closed_X8_isOpen rfl rfl rfl ⟨rfl, dh_X8_isOpen⟩ ⟨Nat.le_of_ble_eq_true rfl, Nat.le_of_ble_eq_true rfl⟩) hK hN hZ hP (hP.sub [0, 1] rfl) (va_recv (q := (RX8, TX8, 38)) hK hP (ci := 8) (q0 := 0) rfl rfl) rfl hl.1 rfl (Nat.le_of_ble_eq_true rfl) dX8_closed_23 ⟨Nat.le_of_ble_eq_true rfl, Nat.le_of_ble_eq_true rfl⟩ (fun r_7 hr_7 => ?_)
        obtain ⟨g_8, g_9⟩ := hr_7
        refine lv_if_ne (tgt := 35) hx hb dX8_closed_26 (by decide) (fun c_10 => ?_) (fun c_10 => ?_)
        · have fc_10 : r_7.toInt ≠ 0 := zf_ne c_10 rfl (by decide)
          refine lv_iload_n hx hb dX8_closed_35 rfl (lv_at hl 0 rfl) ?_
          exact W.iret (v := i_5) hx hb hr (fun t ht hW => ⟨i_5, rfl, trivial, ht⟩) (fun q hq => by cases hq) dX8_closed_36
        · have fc_10 : r_7.toInt = 0 := zf_eq c_10 rfl (by decide)
          obtain ⟨x_11, ex_11⟩ : ∃ y : Int32, y = i_5 + 1 := ⟨_, rfl⟩
          have qx_11 : x_11.toInt = i_5.toInt + 1 := dw_inc ex_11 fc_2
          refine lv_iinc (v := x_11) (lv' := [(1, .int x_11), (0, .ref m0)]) hx hb dX8_closed_29 hl (k := 0) rfl ex_11.symm (by decide) rfl (fun ls hl => ?_)
          refine lv_goto (tgt := 5) hx hb dX8_closed_32 (by decide) ?_
          exact ih x_11 _ (lv_sub hl [0, 1] rfl) (dw_lo hloi_5 qx_11) (dw_hn hni_5 qx_11)
theorem hi_X8_stitch_8 : ∀ w ∈ u_ws RX8 TX8 38, w ∈ wsX8_stitch := fun w h => (gl_X8_stitch_X80 w h).1
end
