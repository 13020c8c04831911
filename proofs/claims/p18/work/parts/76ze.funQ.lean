set_option maxHeartbeats 4000000 in
set_option maxRecDepth 100000 in
theorem c_F_M_lack (l : Launch) (D : va_G) (cI cJ cZ cP cS : ClassId) (po : zPool) (m0 mrf mki mpa mta mla msl mco mhe mso msi msh mce mca mwo mnu mte mwa mke mma mth mtr : Nat) (npu nte nat_ nde nto nse nhu nga nsd nfa nba npl nen nnu nwr nra nik : Int32) (grf gla : Nat → Int32) (t_ is_ : Int32) (hy0 : 0 ≤ npu.toInt) (hy1 : npu.toInt ≤ 8) (hy2 : 4 ≤ nte.toInt) (hy3 : nte.toInt ≤ 40) (hy4 : 0 ≤ nat_.toInt) (hy5 : nat_.toInt ≤ 40) (hy6 : 0 ≤ nde.toInt) (hy7 : nde.toInt ≤ 24) (hy8 : 0 ≤ nhu.toInt) (hy9 : nhu.toInt ≤ 9) (hy10 : 0 ≤ nra.toInt) (hy11 : nra.toInt ≤ 2000) (hy12 : 0 ≤ nik.toInt) (hy13 : nik.toInt ≤ 1) (hy14 : 0 ≤ is_.toInt) (hy15 : is_.toInt ≤ 1) (hp_gla : zRg gla (0) 1) (hpz : Nat) : Met l yX8_lack wsX8_lack ({ frames := 1, cells := 0, slots := 0, locals := 21 }) (va_Pc [.ref m0, .int t_, .int is_] (zW D (zKT cI cJ cZ cP cS) po [(zMO m0 npu nte nat_ nde nto nse nhu nga nsd nfa mrf mki mpa mta mla msl mco mhe mso msi msh mce mca mwo mnu mte nba npl nen nnu nwr mwa mke mma mth mtr nra nik), (mrf, .inl (cI, 8, .inl grf)), (mla, .inl (cI, 40, .inl gla))] hpz)) (va_Qi (fun (r : Int32) (u : (Nat → Int32) × (Nat → Int32)) => zRg u.2 (0) 1 ∧ ((((0 ≤ t_.toInt ∧ t_.toInt < nte.toInt)) ∧ r.toInt = (gla t_.toNatClampNeg).toInt ∧ u.2 = upd gla t_.toNatClampNeg is_) ∨ (¬ (0 ≤ t_.toInt ∧ t_.toInt < nte.toInt) ∧ r.toInt = -1 ∧ u.2 = gla)) ∧ (True)) (zB D [(zMO m0 npu nte nat_ nde nto nse nhu nga nsd nfa mrf mki mpa mta mla msl mco mhe mso msi msh mce mca mwo mnu mte nba npl nen nnu nwr mwa mke mma mth mtr nra nik), (mrf, .inl (cI, 8, .inl grf)), (mla, .inl (cI, 40, .inl gla))] hpz (fun (u : (Nat → Int32) × (Nat → Int32)) => [(zMO m0 npu nte nat_ nde nto nse nhu nga nsd nfa mrf mki mpa mta mla msl mco mhe mso msi msh mce mca mwo mnu mte nba npl nen nnu nwr mwa mke mma mth mtr nra nik), (mrf, .inl (cI, 8, .inl u.1)), (mla, .inl (cI, 40, .inl u.2))])) (va_A [(zMO m0 npu nte nat_ nde nto nse nhu nga nsd nfa mrf mki mpa mta mla msl mco mhe mso msi msh mce mca mwo mnu mte nba npl nen nnu nwr mwa mke mma mth mtr nra nik), (mrf, .inl (cI, 8, .inl grf)), (mla, .inl (cI, 40, .inl gla))] hpz)) 0 0 (va_A [(zMO m0 npu nte nat_ nde nto nse nhu nga nsd nfa mrf mki mpa mta mla msl mco mhe mso msi msh mce mca mwo mnu mte nba npl nen nnu nwr mwa mke mma mth mtr nra nik), (mrf, .inl (cI, 8, .inl grf)), (mla, .inl (cI, 40, .inl gla))] hpz) := by
  refine Met.ofW (cc := cX8_lack) (maxL := 4) (ret := (some .int)) (by decide) rfl ?_
  intro p e s m args below meth c s₁ B hml hv
  obtain ⟨rfl, hsz, hP, hK, hD0, hN, hZ⟩ := hv
  have hx := B.exec
  have hb := B.bytes
  have hr := B.returns
  have hts := atoms_spec (ws := wsX8_lack) B.pre
  have hown : s.vm.findClass RX8 = some m.cls := findClass_of_methodNamed B.named
  have hlocks := B.notSynchronized
  subst hsz
  have hD := hD0.self (sz := s.heap.size)
  have hA := zA_of hD
  have hl := lv_entry ([.ref m0, .int t_, .int is_]) (n := 4) (Nat.le_of_ble_eq_true rfl)
  rw [lg_entry_eq]
  generalize (lg_sl ([.ref m0, .int t_, .int is_]) ++ List.replicate (4 - (lg_sl ([.ref m0, .int t_, .int is_])).length) Slot.unset).toArray = ls at hl ⊢
  replace hl : lv_has ls 4 [(0, .ref m0), (1, .int t_), (2, .int is_)] := hl
  refine zw_begin hP hD (fun H locs hP1 hS => ?_)
  clear hP
  have hP := hP1
  clear hP1
  refine lv_aload_n hx hb dX8_lack_0 rfl (lv_at hl 0 rfl) ?_
  refine lv_iload_n hx hb dX8_lack_1 rfl (lv_at hl 1 rfl) ?_
  refine zc_V (As := [.int t_]) (rest := []) ⟨hx, hb, hml, hown, hts⟩ (c_M_isTooth l D cI cJ cZ cP cS po m0 mrf mki mpa mta mla msl mco mhe mso msi msh mce mca mwo mnu mte mwa mke mma mth mtr (npu) (nte) (nat_) (nde) (nto) (nse) (nhu) (nga) (nsd) (nfa) (nba) (npl) (nen) (nnu) (nwr) (nra) (nik) (t_) hy0 hy1 hy2 hy3 hy4 hy5 hy6 hy7 hy8 hy9 hy10 hy11 hy12 hy13) (cwV 1 hts gX8_lack_X8_isTooth rfl rfl rfl ⟨rfl, dh_X8_isTooth⟩ ⟨Nat.le_of_ble_eq_true rfl, Nat.le_of_ble_eq_true rfl⟩) hK hN (hZ.kept hS) hP (hP.sub [0] rfl) (va_recv (q := (RX8, TX8, 38)) hK hP (ci := 8) (q0 := 0) rfl rfl) rfl hl.1 rfl (Nat.le_of_ble_eq_true rfl) dX8_lack_2 ⟨Nat.le_of_ble_eq_true rfl, Nat.le_of_ble_eq_true rfl⟩ (fun r_1 hr_1 => ?_)
  rcases hr_1 with ⟨rfl, g_2⟩ | ⟨rfl, g_3, g_4⟩ | ⟨rfl, g_5, g_6⟩
  · refine lv_if_ne (tgt := 14) hx hb dX8_lack_5 (by decide) (fun c_7 => ?_) (fun c_7 => ?_)
    · exact absurd c_7 (by decide)
    · refine lv_aload_n hx hb dX8_lack_8 rfl (lv_at hl 0 rfl) ?_
      refine lv_iconst (v := (-1)) hx hb dX8_lack_9 (by decide) ?_
      skip
      refine zw_V (As := [.int (-1)]) (rest := []) (wr := [(mla, .inl (cI, 40, .inl gla))]) ⟨hx, hb, hml, hown, hts⟩ (c_M_no_1 l D cI cJ cZ cP cS po m0 mrf mki mpa mta mla msl mco mhe mso msi msh mce mca mwo mnu mte mwa mke mma mth mtr (npu) (nte) (nat_) (nde) (nto) (nse) (nhu) (nga) (nsd) (nfa) (nba) (npl) (nen) (nnu) (nwr) (nra) (nik) grf hy0 hy1 hy2 hy3 hy4 hy5 hy6 hy7 hy8 hy9 hy10 hy11 hy12 hy13 H.size) (cwV 1 hts gX8_lack_X8_no rfl rfl rfl ⟨rfl, dh_X8_no⟩ ⟨Nat.le_of_ble_eq_true rfl, Nat.le_of_ble_eq_true rfl⟩) hK hN (hZ.kept hS) hP hD hS hA [0, 1] [2] rfl rfl (by decide) (by decide) (by decide) (va_recv (q := (RX8, TX8, 38)) hK hP (ci := 8) (q0 := 0) rfl rfl) rfl hl.1 rfl (Nat.le_of_ble_eq_true rfl) dX8_lack_10 ⟨Nat.le_of_ble_eq_true rfl, Nat.le_of_ble_eq_true rfl⟩ (fun r_8 u_9 H locs hr_8 hP hD hS => ?_)
      obtain ⟨q_10, rfl⟩ : ∃ z, z = u_9 := ⟨_, rfl⟩
      have h9R := zRe (ws' := [(mla, .inl (cI, 40, .inl gla)), (zMO m0 npu nte nat_ nde nto nse nhu nga nsd nfa mrf mki mpa mta mla msl mco mhe mso msi msh mce mca mwo mnu mte nba npl nen nnu nwr mwa mke mma mth mtr nra nik), (mrf, .inl (cI, 8, .inl q_10))]) hP hD rfl
      clear hP hD
      obtain ⟨hP, hD⟩ := h9R
      obtain rfl := hr_8
      exact W.iret (v := (-1)) hx hb hr (fun t ht hW => ⟨⟨(-1), (q_10, gla), rfl, ⟨hp_gla, (show (((0 ≤ t_.toInt ∧ t_.toInt < nte.toInt)) ∧ ((-1) : Int32).toInt = (gla t_.toNatClampNeg).toInt ∧ gla = upd gla t_.toNatClampNeg is_) ∨ (¬ (0 ≤ t_.toInt ∧ t_.toInt < nte.toInt) ∧ ((-1) : Int32).toInt = -1 ∧ gla = gla) from by (have k9 : ((-1) : Int32).toInt = -1 := (by decide); exact Or.inr ⟨by omega, by omega, rfl⟩)), trivial⟩, zRet ht hP hD [1, 2, 0] (by decide) rfl⟩, hS.F ht⟩) hS.2.2 dX8_lack_13
  · refine lv_if_ne (tgt := 14) hx hb dX8_lack_5 (by decide) (fun c_11 => ?_) (fun c_11 => ?_)
    · exact absurd c_11 (by decide)
    · refine lv_aload_n hx hb dX8_lack_8 rfl (lv_at hl 0 rfl) ?_
      refine lv_iconst (v := (-1)) hx hb dX8_lack_9 (by decide) ?_
      skip
      refine zw_V (As := [.int (-1)]) (rest := []) (wr := [(mla, .inl (cI, 40, .inl gla))]) ⟨hx, hb, hml, hown, hts⟩ (c_M_no_1 l D cI cJ cZ cP cS po m0 mrf mki mpa mta mla msl mco mhe mso msi msh mce mca mwo mnu mte mwa mke mma mth mtr (npu) (nte) (nat_) (nde) (nto) (nse) (nhu) (nga) (nsd) (nfa) (nba) (npl) (nen) (nnu) (nwr) (nra) (nik) grf hy0 hy1 hy2 hy3 hy4 hy5 hy6 hy7 hy8 hy9 hy10 hy11 hy12 hy13 H.size) (cwV 1 hts gX8_lack_X8_no rfl rfl rfl ⟨rfl, dh_X8_no⟩ ⟨Nat.le_of_ble_eq_true rfl, Nat.le_of_ble_eq_true rfl⟩) hK hN (hZ.kept hS) hP hD hS hA [0, 1] [2] rfl rfl (by decide) (by decide) (by decide) (va_recv (q := (RX8, TX8, 38)) hK hP (ci := 8) (q0 := 0) rfl rfl) rfl hl.1 rfl (Nat.le_of_ble_eq_true rfl) dX8_lack_10 ⟨Nat.le_of_ble_eq_true rfl, Nat.le_of_ble_eq_true rfl⟩ (fun r_12 u_13 H locs hr_12 hP hD hS => ?_)
      obtain ⟨q_14, rfl⟩ : ∃ z, z = u_13 := ⟨_, rfl⟩
      have h9R := zRe (ws' := [(mla, .inl (cI, 40, .inl gla)), (zMO m0 npu nte nat_ nde nto nse nhu nga nsd nfa mrf mki mpa mta mla msl mco mhe mso msi msh mce mca mwo mnu mte nba npl nen nnu nwr mwa mke mma mth mtr nra nik), (mrf, .inl (cI, 8, .inl q_14))]) hP hD rfl
      clear hP hD
      obtain ⟨hP, hD⟩ := h9R
      obtain rfl := hr_12
      exact W.iret (v := (-1)) hx hb hr (fun t ht hW => ⟨⟨(-1), (q_14, gla), rfl, ⟨hp_gla, (show (((0 ≤ t_.toInt ∧ t_.toInt < nte.toInt)) ∧ ((-1) : Int32).toInt = (gla t_.toNatClampNeg).toInt ∧ gla = upd gla t_.toNatClampNeg is_) ∨ (¬ (0 ≤ t_.toInt ∧ t_.toInt < nte.toInt) ∧ ((-1) : Int32).toInt = -1 ∧ gla = gla) from by (have k9 : ((-1) : Int32).toInt = -1 := (by decide); exact Or.inr ⟨by omega, by omega, rfl⟩)), trivial⟩, zRet ht hP hD [1, 2, 0] (by decide) rfl⟩, hS.F ht⟩) hS.2.2 dX8_lack_13
  · refine lv_if_ne (tgt := 14) hx hb dX8_lack_5 (by decide) (fun c_15 => ?_) (fun c_15 => ?_)
    · refine lv_aload_n hx hb dX8_lack_14 rfl (lv_at hl 0 rfl) ?_
      refine va_get (D := D) (ci := 8) (v := .ref mla) (C := RX8) (T := TX8) (N := 38) hx hb hts hi_X8_lack_8 hown hK hP 0 rfl rfl 14 (by decide) (hts (.fieldLink RX8 38 "TheLiningsInItModel" "lacks" "[I") (List.mem_of_getElem? (i := 1) rfl)) (fun _ h9 => h9) rfl dX8_lack_15 ?_
      refine lv_iload_n hx hb dX8_lack_18 rfl (lv_at hl 1 rfl) ?_
      refine va_iald hx hb hK hP 2 0 rfl rfl (zf_in (by omega) (by omega)) dX8_lack_19 ?_
      refine lv_topi (fun x_16 ex_16 => ?_)
      have bx_16 : 0 ≤ x_16.toInt ∧ x_16.toInt ≤ 1 := by rw [ex_16]; exact hp_gla _
      refine lv_istore_n (lv' := [(3, .int x_16), (0, .ref m0), (1, .int t_), (2, .int is_)]) hx hb dX8_lack_20 rfl hl (by decide) rfl (fun ls hl => ?_)
      refine lv_aload_n hx hb dX8_lack_21 rfl (lv_at hl 1 rfl) ?_
      refine va_get (D := D) (ci := 8) (v := .ref mla) (C := RX8) (T := TX8) (N := 38) hx hb hts hi_X8_lack_8 hown hK hP 0 rfl rfl 14 (by decide) (hts (.fieldLink RX8 38 "TheLiningsInItModel" "lacks" "[I") (List.mem_of_getElem? (i := 1) rfl)) (fun _ h9 => h9) rfl dX8_lack_22 ?_
      refine lv_iload_n hx hb dX8_lack_25 rfl (lv_at hl 2 rfl) ?_
      refine lv_iload_n hx hb dX8_lack_26 rfl (lv_at hl 3 rfl) ?_
      refine lv_if_eq (tgt := 34) hx hb dX8_lack_27 (by decide) (fun c_17 => ?_) (fun c_17 => ?_)
      · have fc_17 : is_.toInt = 0 := zf_eq c_17 rfl (by decide)
        refine lv_iconst (v := 0) hx hb dX8_lack_34 (by decide) ?_
        refine va_iast hx hb hK hP hD hS 2 0 rfl rfl (zf_in (by omega) (by omega)) dX8_lack_35 (fun H locs hP hD hS => ?_)
        have hpg_18 : zRg (upd gla t_.toNatClampNeg 0) (0) 1 := zRg_upd hp_gla (by decide) (by decide)
        obtain ⟨g_18, hg_18⟩ : ∃ g : Nat → Int32, g = upd gla t_.toNatClampNeg 0 := ⟨_, rfl⟩
        rw [← hg_18] at hP hD hpg_18
        have h9R := zRe (ws' := [(zMO m0 npu nte nat_ nde nto nse nhu nga nsd nfa mrf mki mpa mta mla msl mco mhe mso msi msh mce mca mwo mnu mte nba npl nen nnu nwr mwa mke mma mth mtr nra nik), (mrf, .inl (cI, 8, .inl grf)), (mla, .inl (cI, 40, .inl g_18))]) hP hD rfl
        clear hP hD
        obtain ⟨hP, hD⟩ := h9R
        refine lv_iload_n hx hb dX8_lack_36 rfl (lv_at hl 0 rfl) ?_
        exact W.iret (v := x_16) hx hb hr (fun t ht hW => ⟨⟨x_16, (grf, g_18), rfl, ⟨hpg_18, (show (((0 ≤ t_.toInt ∧ t_.toInt < nte.toInt)) ∧ (x_16 : Int32).toInt = (gla t_.toNatClampNeg).toInt ∧ g_18 = upd gla t_.toNatClampNeg is_) ∨ (¬ (0 ≤ t_.toInt ∧ t_.toInt < nte.toInt) ∧ (x_16 : Int32).toInt = -1 ∧ g_18 = gla) from by (refine Or.inl ⟨by omega, (by rw [← ex_16]), ?_⟩; have k0 : (0 : Int32).toInt = 0 := (by decide); have k1 : (1 : Int32).toInt = 1 := (by decide); rw [hg_18]; congr 1; exact Int32.toInt_inj.mp (by omega))), trivial⟩, zRet ht hP hD [0, 1, 2] (by decide) rfl⟩, hS.F ht⟩) hS.2.2 dX8_lack_37
      · have fc_17 : is_.toInt ≠ 0 := zf_ne c_17 rfl (by decide)
        refine lv_iconst (v := 1) hx hb dX8_lack_30 (by decide) ?_
        refine lv_goto (tgt := 35) hx hb dX8_lack_31 (by decide) ?_
        refine va_iast hx hb hK hP hD hS 2 0 rfl rfl (zf_in (by omega) (by omega)) dX8_lack_35 (fun H locs hP hD hS => ?_)
        have hpg_19 : zRg (upd gla t_.toNatClampNeg 1) (0) 1 := zRg_upd hp_gla (by decide) (by decide)
        obtain ⟨g_19, hg_19⟩ : ∃ g : Nat → Int32, g = upd gla t_.toNatClampNeg 1 := ⟨_, rfl⟩
        rw [← hg_19] at hP hD hpg_19
        have h9R := zRe (ws' := [(zMO m0 npu nte nat_ nde nto nse nhu nga nsd nfa mrf mki mpa mta mla msl mco mhe mso msi msh mce mca mwo mnu mte nba npl nen nnu nwr mwa mke mma mth mtr nra nik), (mrf, .inl (cI, 8, .inl grf)), (mla, .inl (cI, 40, .inl g_19))]) hP hD rfl
        clear hP hD
        obtain ⟨hP, hD⟩ := h9R
        refine lv_iload_n hx hb dX8_lack_36 rfl (lv_at hl 0 rfl) ?_
        exact W.iret (v := x_16) hx hb hr (fun t ht hW => ⟨⟨x_16, (grf, g_19), rfl, ⟨hpg_19, (show (((0 ≤ t_.toInt ∧ t_.toInt < nte.toInt)) ∧ (x_16 : Int32).toInt = (gla t_.toNatClampNeg).toInt ∧ g_19 = upd gla t_.toNatClampNeg is_) ∨ (¬ (0 ≤ t_.toInt ∧ t_.toInt < nte.toInt) ∧ (x_16 : Int32).toInt = -1 ∧ g_19 = gla) from by (refine Or.inl ⟨by omega, (by rw [← ex_16]), ?_⟩; have k0 : (0 : Int32).toInt = 0 := (by decide); have k1 : (1 : Int32).toInt = 1 := (by decide); rw [hg_19]; congr 1; exact Int32.toInt_inj.mp (by omega))), trivial⟩, zRet ht hP hD [0, 1, 2] (by decide) rfl⟩, hS.F ht⟩) hS.2.2 dX8_lack_37
    · exact absurd c_15 (by decide)
set_option maxHeartbeats 4000000 in
set_option maxRecDepth 100000 in
theorem c_F_M_slack (l : Launch) (D : va_G) (cI cJ cZ cP cS : ClassId) (po : zPool) (m0 mrf mki mpa mta mla msl mco mhe mso msi msh mce mca mwo mnu mte mwa mke mma mth mtr : Nat) (npu nte nat_ nde nto nse nhu nga nsd nfa nba npl nen nnu nwr nra nik : Int32) (grf gsl : Nat → Int32) (t_ v : Int32) (hy0 : 0 ≤ npu.toInt) (hy1 : npu.toInt ≤ 8) (hy2 : 4 ≤ nte.toInt) (hy3 : nte.toInt ≤ 40) (hy4 : 0 ≤ nat_.toInt) (hy5 : nat_.toInt ≤ 40) (hy6 : 0 ≤ nde.toInt) (hy7 : nde.toInt ≤ 24) (hy8 : 0 ≤ nhu.toInt) (hy9 : nhu.toInt ≤ 9) (hy10 : 0 ≤ nra.toInt) (hy11 : nra.toInt ≤ 2000) (hy12 : 0 ≤ nik.toInt) (hy13 : nik.toInt ≤ 1) (hp_gsl : zRg gsl (0) 9) (hpz : Nat) : Met l yX8_slack wsX8_slack ({ frames := 1, cells := 0, slots := 0, locals := 21 }) (va_Pc [.ref m0, .int t_, .int v] (zW D (zKT cI cJ cZ cP cS) po [(zMO m0 npu nte nat_ nde nto nse nhu nga nsd nfa mrf mki mpa mta mla msl mco mhe mso msi msh mce mca mwo mnu mte nba npl nen nnu nwr mwa mke mma mth mtr nra nik), (mrf, .inl (cI, 8, .inl grf)), (msl, .inl (cI, 40, .inl gsl))] hpz)) (va_Qi (fun (r : Int32) (u : (Nat → Int32) × (Nat → Int32)) => zRg u.2 (0) 9 ∧ (((0 ≤ t_.toInt ∧ t_.toInt < nte.toInt) ∧ (0 ≤ v.toInt ∧ v.toInt ≤ 9) ∧ r.toInt = (gsl t_.toNatClampNeg).toInt ∧ u.2 = upd gsl t_.toNatClampNeg v) ∨ (¬ (0 ≤ t_.toInt ∧ t_.toInt < nte.toInt) ∧ r.toInt = -1 ∧ u.2 = gsl) ∨ ((0 ≤ t_.toInt ∧ t_.toInt < nte.toInt) ∧ ¬ (0 ≤ v.toInt ∧ v.toInt ≤ 9) ∧ r.toInt = -6 ∧ u.2 = gsl)) ∧ (True)) (zB D [(zMO m0 npu nte nat_ nde nto nse nhu nga nsd nfa mrf mki mpa mta mla msl mco mhe mso msi msh mce mca mwo mnu mte nba npl nen nnu nwr mwa mke mma mth mtr nra nik), (mrf, .inl (cI, 8, .inl grf)), (msl, .inl (cI, 40, .inl gsl))] hpz (fun (u : (Nat → Int32) × (Nat → Int32)) => [(zMO m0 npu nte nat_ nde nto nse nhu nga nsd nfa mrf mki mpa mta mla msl mco mhe mso msi msh mce mca mwo mnu mte nba npl nen nnu nwr mwa mke mma mth mtr nra nik), (mrf, .inl (cI, 8, .inl u.1)), (msl, .inl (cI, 40, .inl u.2))])) (va_A [(zMO m0 npu nte nat_ nde nto nse nhu nga nsd nfa mrf mki mpa mta mla msl mco mhe mso msi msh mce mca mwo mnu mte nba npl nen nnu nwr mwa mke mma mth mtr nra nik), (mrf, .inl (cI, 8, .inl grf)), (msl, .inl (cI, 40, .inl gsl))] hpz)) 0 0 (va_A [(zMO m0 npu nte nat_ nde nto nse nhu nga nsd nfa mrf mki mpa mta mla msl mco mhe mso msi msh mce mca mwo mnu mte nba npl nen nnu nwr mwa mke mma mth mtr nra nik), (mrf, .inl (cI, 8, .inl grf)), (msl, .inl (cI, 40, .inl gsl))] hpz) := by
  refine Met.ofW (cc := cX8_slack) (maxL := 4) (ret := (some .int)) (by decide) rfl ?_
  intro p e s m args below meth c s₁ B hml hv
  obtain ⟨rfl, hsz, hP, hK, hD0, hN, hZ⟩ := hv
  have hx := B.exec
  have hb := B.bytes
  have hr := B.returns
  have hts := atoms_spec (ws := wsX8_slack) B.pre
  have hown : s.vm.findClass RX8 = some m.cls := findClass_of_methodNamed B.named
  have hlocks := B.notSynchronized
  subst hsz
  have hD := hD0.self (sz := s.heap.size)
  have hA := zA_of hD
  have hl := lv_entry ([.ref m0, .int t_, .int v]) (n := 4) (Nat.le_of_ble_eq_true rfl)
  rw [lg_entry_eq]
  generalize (lg_sl ([.ref m0, .int t_, .int v]) ++ List.replicate (4 - (lg_sl ([.ref m0, .int t_, .int v])).length) Slot.unset).toArray = ls at hl ⊢
  replace hl : lv_has ls 4 [(0, .ref m0), (1, .int t_), (2, .int v)] := hl
  refine zw_begin hP hD (fun H locs hP1 hS => ?_)
  clear hP
  have hP := hP1
  clear hP1
  refine lv_aload_n hx hb dX8_slack_0 rfl (lv_at hl 0 rfl) ?_
  refine lv_iload_n hx hb dX8_slack_1 rfl (lv_at hl 1 rfl) ?_
  refine zc_V (As := [.int t_]) (rest := []) ⟨hx, hb, hml, hown, hts⟩ (c_M_isTooth l D cI cJ cZ cP cS po m0 mrf mki mpa mta mla msl mco mhe mso msi msh mce mca mwo mnu mte mwa mke mma mth mtr (npu) (nte) (nat_) (nde) (nto) (nse) (nhu) (nga) (nsd) (nfa) (nba) (npl) (nen) (nnu) (nwr) (nra) (nik) (t_) hy0 hy1 hy2 hy3 hy4 hy5 hy6 hy7 hy8 hy9 hy10 hy11 hy12 hy13) (cwV 1 hts gX8_slack_X8_isTooth rfl rfl rfl ⟨rfl, dh_X8_isTooth⟩ ⟨Nat.le_of_ble_eq_true rfl, Nat.le_of_ble_eq_true rfl⟩) hK hN (hZ.kept hS) hP (hP.sub [0] rfl) (va_recv (q := (RX8, TX8, 38)) hK hP (ci := 8) (q0 := 0) rfl rfl) rfl hl.1 rfl (Nat.le_of_ble_eq_true rfl) dX8_slack_2 ⟨Nat.le_of_ble_eq_true rfl, Nat.le_of_ble_eq_true rfl⟩ (fun r_1 hr_1 => ?_)
  rcases hr_1 with ⟨rfl, g_2⟩ | ⟨rfl, g_3, g_4⟩ | ⟨rfl, g_5, g_6⟩
  · refine lv_if_ne (tgt := 14) hx hb dX8_slack_5 (by decide) (fun c_7 => ?_) (fun c_7 => ?_)
    · exact absurd c_7 (by decide)
    · refine lv_aload_n hx hb dX8_slack_8 rfl (lv_at hl 0 rfl) ?_
      refine lv_iconst (v := (-1)) hx hb dX8_slack_9 (by decide) ?_
      skip
      refine zw_V (As := [.int (-1)]) (rest := []) (wr := [(msl, .inl (cI, 40, .inl gsl))]) ⟨hx, hb, hml, hown, hts⟩ (c_M_no_1 l D cI cJ cZ cP cS po m0 mrf mki mpa mta mla msl mco mhe mso msi msh mce mca mwo mnu mte mwa mke mma mth mtr (npu) (nte) (nat_) (nde) (nto) (nse) (nhu) (nga) (nsd) (nfa) (nba) (npl) (nen) (nnu) (nwr) (nra) (nik) grf hy0 hy1 hy2 hy3 hy4 hy5 hy6 hy7 hy8 hy9 hy10 hy11 hy12 hy13 H.size) (cwV 1 hts gX8_slack_X8_no rfl rfl rfl ⟨rfl, dh_X8_no⟩ ⟨Nat.le_of_ble_eq_true rfl, Nat.le_of_ble_eq_true rfl⟩) hK hN (hZ.kept hS) hP hD hS hA [0, 1] [2] rfl rfl (by decide) (by decide) (by decide) (va_recv (q := (RX8, TX8, 38)) hK hP (ci := 8) (q0 := 0) rfl rfl) rfl hl.1 rfl (Nat.le_of_ble_eq_true rfl) dX8_slack_10 ⟨Nat.le_of_ble_eq_true rfl, Nat.le_of_ble_eq_true rfl⟩ (fun r_8 u_9 H locs hr_8 hP hD hS => ?_)
      obtain ⟨q_10, rfl⟩ : ∃ z, z = u_9 := ⟨_, rfl⟩
      have h9R := zRe (ws' := [(msl, .inl (cI, 40, .inl gsl)), (zMO m0 npu nte nat_ nde nto nse nhu nga nsd nfa mrf mki mpa mta mla msl mco mhe mso msi msh mce mca mwo mnu mte nba npl nen nnu nwr mwa mke mma mth mtr nra nik), (mrf, .inl (cI, 8, .inl q_10))]) hP hD rfl
      clear hP hD
      obtain ⟨hP, hD⟩ := h9R
      obtain rfl := hr_8
      exact W.iret (v := (-1)) hx hb hr (fun t ht hW => ⟨⟨(-1), (q_10, gsl), rfl, ⟨hp_gsl, (show ((0 ≤ t_.toInt ∧ t_.toInt < nte.toInt) ∧ (0 ≤ v.toInt ∧ v.toInt ≤ 9) ∧ ((-1) : Int32).toInt = (gsl t_.toNatClampNeg).toInt ∧ gsl = upd gsl t_.toNatClampNeg v) ∨ (¬ (0 ≤ t_.toInt ∧ t_.toInt < nte.toInt) ∧ ((-1) : Int32).toInt = -1 ∧ gsl = gsl) ∨ ((0 ≤ t_.toInt ∧ t_.toInt < nte.toInt) ∧ ¬ (0 ≤ v.toInt ∧ v.toInt ≤ 9) ∧ ((-1) : Int32).toInt = -6 ∧ gsl = gsl) from by (have k9 : ((-1) : Int32).toInt = -1 := (by decide); exact Or.inr (Or.inl ⟨by omega, by omega, rfl⟩))), trivial⟩, zRet ht hP hD [1, 2, 0] (by decide) rfl⟩, hS.F ht⟩) hS.2.2 dX8_slack_13
  · refine lv_if_ne (tgt := 14) hx hb dX8_slack_5 (by decide) (fun c_11 => ?_) (fun c_11 => ?_)
    · exact absurd c_11 (by decide)
    · refine lv_aload_n hx hb dX8_slack_8 rfl (lv_at hl 0 rfl) ?_
      refine lv_iconst (v := (-1)) hx hb dX8_slack_9 (by decide) ?_
      skip
      refine zw_V (As := [.int (-1)]) (rest := []) (wr := [(msl, .inl (cI, 40, .inl gsl))]) ⟨hx, hb, hml, hown, hts⟩ (c_M_no_1 l D cI cJ cZ cP cS po m0 mrf mki mpa mta mla msl mco mhe mso msi msh mce mca mwo mnu mte mwa mke mma mth mtr (npu) (nte) (nat_) (nde) (nto) (nse) (nhu) (nga) (nsd) (nfa) (nba) (npl) (nen) (nnu) (nwr) (nra) (nik) grf hy0 hy1 hy2 hy3 hy4 hy5 hy6 hy7 hy8 hy9 hy10 hy11 hy12 hy13 H.size) (cwV 1 hts gX8_slack_X8_no rfl rfl rfl ⟨rfl, dh_X8_no⟩ ⟨Nat.le_of_ble_eq_true rfl, Nat.le_of_ble_eq_true rfl⟩) hK hN (hZ.kept hS) hP hD hS hA [0, 1] [2] rfl rfl (by decide) (by decide) (by decide) (va_recv (q := (RX8, TX8, 38)) hK hP (ci := 8) (q0 := 0) rfl rfl) rfl hl.1 rfl (Nat.le_of_ble_eq_true rfl) dX8_slack_10 ⟨Nat.le_of_ble_eq_true rfl, Nat.le_of_ble_eq_true rfl⟩ (fun r_12 u_13 H locs hr_12 hP hD hS => ?_)
      obtain ⟨q_14, rfl⟩ : ∃ z, z = u_13 := ⟨_, rfl⟩
      have h9R := zRe (ws' := [(msl, .inl (cI, 40, .inl gsl)), (zMO m0 npu nte nat_ nde nto nse nhu nga nsd nfa mrf mki mpa mta mla msl mco mhe mso msi msh mce mca mwo mnu mte nba npl nen nnu nwr mwa mke mma mth mtr nra nik), (mrf, .inl (cI, 8, .inl q_14))]) hP hD rfl
      clear hP hD
      obtain ⟨hP, hD⟩ := h9R
      obtain rfl := hr_12
      exact W.iret (v := (-1)) hx hb hr (fun t ht hW => ⟨⟨(-1), (q_14, gsl), rfl, ⟨hp_gsl, (show ((0 ≤ t_.toInt ∧ t_.toInt < nte.toInt) ∧ (0 ≤ v.toInt ∧ v.toInt ≤ 9) ∧ ((-1) : Int32).toInt = (gsl t_.toNatClampNeg).toInt ∧ gsl = upd gsl t_.toNatClampNeg v) ∨ (¬ (0 ≤ t_.toInt ∧ t_.toInt < nte.toInt) ∧ ((-1) : Int32).toInt = -1 ∧ gsl = gsl) ∨ ((0 ≤ t_.toInt ∧ t_.toInt < nte.toInt) ∧ ¬ (0 ≤ v.toInt ∧ v.toInt ≤ 9) ∧ ((-1) : Int32).toInt = -6 ∧ gsl = gsl) from by (have k9 : ((-1) : Int32).toInt = -1 := (by decide); exact Or.inr (Or.inl ⟨by omega, by omega, rfl⟩))), trivial⟩, zRet ht hP hD [1, 2, 0] (by decide) rfl⟩, hS.F ht⟩) hS.2.2 dX8_slack_13
  · refine lv_if_ne (tgt := 14) hx hb dX8_slack_5 (by decide) (fun c_15 => ?_) (fun c_15 => ?_)
    · refine lv_iload_n hx hb dX8_slack_14 rfl (lv_at hl 2 rfl) ?_
      refine lv_if_lt (tgt := 24) hx hb dX8_slack_15 (by decide) (fun c_16 => ?_) (fun c_16 => ?_)
      · have fc_16 : v.toInt < 0 := zf_lt c_16 rfl (by decide)
        refine lv_aload_n hx hb dX8_slack_24 rfl (lv_at hl 0 rfl) ?_
        refine lv_bipush (v := (-6)) hx hb dX8_slack_25 (by decide) ?_
        skip
        refine zw_V (As := [.int (-6)]) (rest := []) (wr := [(msl, .inl (cI, 40, .inl gsl))]) ⟨hx, hb, hml, hown, hts⟩ (c_M_no_6 l D cI cJ cZ cP cS po m0 mrf mki mpa mta mla msl mco mhe mso msi msh mce mca mwo mnu mte mwa mke mma mth mtr (npu) (nte) (nat_) (nde) (nto) (nse) (nhu) (nga) (nsd) (nfa) (nba) (npl) (nen) (nnu) (nwr) (nra) (nik) grf hy0 hy1 hy2 hy3 hy4 hy5 hy6 hy7 hy8 hy9 hy10 hy11 hy12 hy13 H.size) (cwV 1 hts gX8_slack_X8_no rfl rfl rfl ⟨rfl, dh_X8_no⟩ ⟨Nat.le_of_ble_eq_true rfl, Nat.le_of_ble_eq_true rfl⟩) hK hN (hZ.kept hS) hP hD hS hA [0, 1] [2] rfl rfl (by decide) (by decide) (by decide) (va_recv (q := (RX8, TX8, 38)) hK hP (ci := 8) (q0 := 0) rfl rfl) rfl hl.1 rfl (Nat.le_of_ble_eq_true rfl) dX8_slack_27 ⟨Nat.le_of_ble_eq_true rfl, Nat.le_of_ble_eq_true rfl⟩ (fun r_17 u_18 H locs hr_17 hP hD hS => ?_)
        obtain ⟨q_19, rfl⟩ : ∃ z, z = u_18 := ⟨_, rfl⟩
        have h9R := zRe (ws' := [(msl, .inl (cI, 40, .inl gsl)), (zMO m0 npu nte nat_ nde nto nse nhu nga nsd nfa mrf mki mpa mta mla msl mco mhe mso msi msh mce mca mwo mnu mte nba npl nen nnu nwr mwa mke mma mth mtr nra nik), (mrf, .inl (cI, 8, .inl q_19))]) hP hD rfl
        clear hP hD
        obtain ⟨hP, hD⟩ := h9R
        obtain rfl := hr_17
        exact W.iret (v := (-6)) hx hb hr (fun t ht hW => ⟨⟨(-6), (q_19, gsl), rfl, ⟨hp_gsl, (show ((0 ≤ t_.toInt ∧ t_.toInt < nte.toInt) ∧ (0 ≤ v.toInt ∧ v.toInt ≤ 9) ∧ ((-6) : Int32).toInt = (gsl t_.toNatClampNeg).toInt ∧ gsl = upd gsl t_.toNatClampNeg v) ∨ (¬ (0 ≤ t_.toInt ∧ t_.toInt < nte.toInt) ∧ ((-6) : Int32).toInt = -1 ∧ gsl = gsl) ∨ ((0 ≤ t_.toInt ∧ t_.toInt < nte.toInt) ∧ ¬ (0 ≤ v.toInt ∧ v.toInt ≤ 9) ∧ ((-6) : Int32).toInt = -6 ∧ gsl = gsl) from by (have k9 : ((-6) : Int32).toInt = -6 := (by decide); exact Or.inr (Or.inr ⟨by omega, by omega, by omega, rfl⟩))), trivial⟩, zRet ht hP hD [1, 2, 0] (by decide) rfl⟩, hS.F ht⟩) hS.2.2 dX8_slack_30
      · have fc_16 : 0 ≤ v.toInt := zf_nlt c_16 rfl (by decide)
        refine lv_iload_n hx hb dX8_slack_18 rfl (lv_at hl 2 rfl) ?_
        refine lv_bipush (v := 9) hx hb dX8_slack_19 (by decide) ?_
        refine lv_icmp_le (tgt := 31) hx hb dX8_slack_21 (by decide) (fun c_20 => ?_) (fun c_20 => ?_)
        · have fc_20 : v.toInt ≤ 9 := zf_le c_20 rfl (by decide)
          refine lv_aload_n hx hb dX8_slack_31 rfl (lv_at hl 0 rfl) ?_
          refine va_get (D := D) (ci := 8) (v := .ref msl) (C := RX8) (T := TX8) (N := 38) hx hb hts hi_X8_slack_8 hown hK hP 0 rfl rfl 15 (by decide) (hts (.fieldLink RX8 41 "TheLiningsInItModel" "slack" "[I") (List.mem_of_getElem? (i := 1) rfl)) (fun _ h9 => h9) rfl dX8_slack_32 ?_
          refine lv_iload_n hx hb dX8_slack_35 rfl (lv_at hl 1 rfl) ?_
          refine va_iald hx hb hK hP 2 0 rfl rfl (zf_in (by omega) (by omega)) dX8_slack_36 ?_
          refine lv_topi (fun x_21 ex_21 => ?_)
          have bx_21 : 0 ≤ x_21.toInt ∧ x_21.toInt ≤ 9 := by rw [ex_21]; exact hp_gsl _
          refine lv_istore_n (lv' := [(3, .int x_21), (0, .ref m0), (1, .int t_), (2, .int v)]) hx hb dX8_slack_37 rfl hl (by decide) rfl (fun ls hl => ?_)
          refine lv_aload_n hx hb dX8_slack_38 rfl (lv_at hl 1 rfl) ?_
          refine va_get (D := D) (ci := 8) (v := .ref msl) (C := RX8) (T := TX8) (N := 38) hx hb hts hi_X8_slack_8 hown hK hP 0 rfl rfl 15 (by decide) (hts (.fieldLink RX8 41 "TheLiningsInItModel" "slack" "[I") (List.mem_of_getElem? (i := 1) rfl)) (fun _ h9 => h9) rfl dX8_slack_39 ?_
          refine lv_iload_n hx hb dX8_slack_42 rfl (lv_at hl 2 rfl) ?_
          refine lv_iload_n hx hb dX8_slack_43 rfl (lv_at hl 3 rfl) ?_
          refine va_iast hx hb hK hP hD hS 2 0 rfl rfl (zf_in (by omega) (by omega)) dX8_slack_44 (fun H locs hP hD hS => ?_)
          have hpg_22 : zRg (upd gsl t_.toNatClampNeg v) (0) 9 := zRg_upd hp_gsl (by omega) (by omega)
          obtain ⟨g_22, hg_22⟩ : ∃ g : Nat → Int32, g = upd gsl t_.toNatClampNeg v := ⟨_, rfl⟩
          rw [← hg_22] at hP hD hpg_22
          have h9R := zRe (ws' := [(zMO m0 npu nte nat_ nde nto nse nhu nga nsd nfa mrf mki mpa mta mla msl mco mhe mso msi msh mce mca mwo mnu mte nba npl nen nnu nwr mwa mke mma mth mtr nra nik), (mrf, .inl (cI, 8, .inl grf)), (msl, .inl (cI, 40, .inl g_22))]) hP hD rfl
          clear hP hD
          obtain ⟨hP, hD⟩ := h9R
          refine lv_iload_n hx hb dX8_slack_45 rfl (lv_at hl 0 rfl) ?_
          exact W.iret (v := x_21) hx hb hr (fun t ht hW => ⟨⟨x_21, (grf, g_22), rfl, ⟨hpg_22, (show ((0 ≤ t_.toInt ∧ t_.toInt < nte.toInt) ∧ (0 ≤ v.toInt ∧ v.toInt ≤ 9) ∧ (x_21 : Int32).toInt = (gsl t_.toNatClampNeg).toInt ∧ g_22 = upd gsl t_.toNatClampNeg v) ∨ (¬ (0 ≤ t_.toInt ∧ t_.toInt < nte.toInt) ∧ (x_21 : Int32).toInt = -1 ∧ g_22 = gsl) ∨ ((0 ≤ t_.toInt ∧ t_.toInt < nte.toInt) ∧ ¬ (0 ≤ v.toInt ∧ v.toInt ≤ 9) ∧ (x_21 : Int32).toInt = -6 ∧ g_22 = gsl) from by (exact Or.inl ⟨by omega, by omega, (by rw [← ex_21]), hg_22⟩)), trivial⟩, zRet ht hP hD [0, 1, 2] (by decide) rfl⟩, hS.F ht⟩) hS.2.2 dX8_slack_46
        · have fc_20 : 9 < v.toInt := zf_nle c_20 rfl (by decide)
          refine lv_aload_n hx hb dX8_slack_24 rfl (lv_at hl 0 rfl) ?_
          refine lv_bipush (v := (-6)) hx hb dX8_slack_25 (by decide) ?_
          skip
          refine zw_V (As := [.int (-6)]) (rest := []) (wr := [(msl, .inl (cI, 40, .inl gsl))]) ⟨hx, hb, hml, hown, hts⟩ (c_M_no_6 l D cI cJ cZ cP cS po m0 mrf mki mpa mta mla msl mco mhe mso msi msh mce mca mwo mnu mte mwa mke mma mth mtr (npu) (nte) (nat_) (nde) (nto) (nse) (nhu) (nga) (nsd) (nfa) (nba) (npl) (nen) (nnu) (nwr) (nra) (nik) grf hy0 hy1 hy2 hy3 hy4 hy5 hy6 hy7 hy8 hy9 hy10 hy11 hy12 hy13 H.size) (cwV 1 hts gX8_slack_X8_no rfl rfl rfl ⟨rfl, dh_X8_no⟩ ⟨Nat.le_of_ble_eq_true rfl, Nat.le_of_ble_eq_true rfl⟩) hK hN (hZ.kept hS) hP hD hS hA [0, 1] [2] rfl rfl (by decide) (by decide) (by decide) (va_recv (q := (RX8, TX8, 38)) hK hP (ci := 8) (q0 := 0) rfl rfl) rfl hl.1 rfl (Nat.le_of_ble_eq_true rfl) dX8_slack_27 ⟨Nat.le_of_ble_eq_true rfl, Nat.le_of_ble_eq_true rfl⟩ (fun r_23 u_24 H locs hr_23 hP hD hS => ?_)
          obtain ⟨q_25, rfl⟩ : ∃ z, z = u_24 := ⟨_, rfl⟩
          have h9R := zRe (ws' := [(msl, .inl (cI, 40, .inl gsl)), (zMO m0 npu nte nat_ nde nto nse nhu nga nsd nfa mrf mki mpa mta mla msl mco mhe mso msi msh mce mca mwo mnu mte nba npl nen nnu nwr mwa mke mma mth mtr nra nik), (mrf, .inl (cI, 8, .inl q_25))]) hP hD rfl
          clear hP hD
          obtain ⟨hP, hD⟩ := h9R
          obtain rfl := hr_23
          exact W.iret (v := (-6)) hx hb hr (fun t ht hW => ⟨⟨(-6), (q_25, gsl), rfl, ⟨hp_gsl, (show ((0 ≤ t_.toInt ∧ t_.toInt < nte.toInt) ∧ (0 ≤ v.toInt ∧ v.toInt ≤ 9) ∧ ((-6) : Int32).toInt = (gsl t_.toNatClampNeg).toInt ∧ gsl = upd gsl t_.toNatClampNeg v) ∨ (¬ (0 ≤ t_.toInt ∧ t_.toInt < nte.toInt) ∧ ((-6) : Int32).toInt = -1 ∧ gsl = gsl) ∨ ((0 ≤ t_.toInt ∧ t_.toInt < nte.toInt) ∧ ¬ (0 ≤ v.toInt ∧ v.toInt ≤ 9) ∧ ((-6) : Int32).toInt = -6 ∧ gsl = gsl) from by (have k9 : ((-6) : Int32).toInt = -6 := (by decide); exact Or.inr (Or.inr ⟨by omega, by omega, by omega, rfl⟩))), trivial⟩, zRet ht hP hD [1, 2, 0] (by decide) rfl⟩, hS.F ht⟩) hS.2.2 dX8_slack_30
    · exact absurd c_15 (by decide)
set_option maxHeartbeats 4000000 in
set_option maxRecDepth 100000 in
theorem c_F_M_isAsked_x (l : Launch) (D : va_G) (cI cJ cZ cP cS : ClassId) (po : zPool) (m0 mrf mki mpa mta mla msl mco mhe mso msi msh mce mca mwo mnu mte mwa mke mma mth mtr : Nat) (npu nte nat_ nde nto nse nhu nga nsd nfa nba npl nen nnu nwr nra nik : Int32) (w v : Int32) (hy0 : 0 ≤ npu.toInt) (hy1 : npu.toInt ≤ 8) (hy2 : 4 ≤ nte.toInt) (hy3 : nte.toInt ≤ 40) (hy4 : 0 ≤ nat_.toInt) (hy5 : nat_.toInt ≤ 40) (hy6 : 0 ≤ nde.toInt) (hy7 : nde.toInt ≤ 24) (hy8 : 0 ≤ nhu.toInt) (hy9 : nhu.toInt ≤ 9) (hy10 : 0 ≤ nra.toInt) (hy11 : nra.toInt ≤ 2000) (hy12 : 0 ≤ nik.toInt) (hy13 : nik.toInt ≤ 1) (hy14 : 0 ≤ w.toInt) (hy15 : w.toInt ≤ 7) : Met l yX8_isAsked wsX8_isAsked ({ frames := 1, cells := 0, slots := 0, locals := 21 }) (va_Pc [.ref m0, .int w, .int v] (zR D (zKT cI cJ cZ cP cS) po [(zMO m0 npu nte nat_ nde nto nse nhu nga nsd nfa mrf mki mpa mta mla msl mco mhe mso msi msh mce mca mwo mnu mte nba npl nen nnu nwr mwa mke mma mth mtr nra nik)])) (vp_Si (fun r => 0 ≤ r.toInt ∧ r.toInt ≤ 1 ∧ ((r.toInt = 1 ↔ zAsk w.toInt v.toInt nte.toInt)))) 0 0 (fun _ => False) := by
  refine Met.ofW (cc := cX8_isAsked) (maxL := 3) (ret := (some .boolean)) (by decide) rfl ?_
  intro p e s m args below meth c s₁ B hml hv
  obtain ⟨rfl, hP, hK, hN, hZ⟩ := hv
  have hx := B.exec
  have hb := B.bytes
  have hr := B.returns
  have hts := atoms_spec (ws := wsX8_isAsked) B.pre
  have hown : s.vm.findClass RX8 = some m.cls := findClass_of_methodNamed B.named
  have hlocks := B.notSynchronized
  have hl := lv_entry ([.ref m0, .int w, .int v]) (n := 3) (Nat.le_of_ble_eq_true rfl)
  rw [lg_entry_eq]
  generalize (lg_sl ([.ref m0, .int w, .int v]) ++ List.replicate (3 - (lg_sl ([.ref m0, .int w, .int v])).length) Slot.unset).toArray = ls at hl ⊢
  replace hl : lv_has ls 3 [(0, .ref m0), (1, .int w), (2, .int v)] := hl
  refine lv_iload_n hx hb dX8_isAsked_0 rfl (lv_at hl 2 rfl) ?_
  refine lv_iload_n hx hb dX8_isAsked_1 rfl (lv_at hl 1 rfl) ?_
  refine lv_iconst (v := 3) hx hb dX8_isAsked_2 (by decide) ?_
  refine lv_icmp_ne (tgt := 10) hx hb dX8_isAsked_3 (by decide) (fun c_1 => ?_) (fun c_1 => ?_)
  · have fc_1 : w.toInt ≠ 3 := zf_ne c_1 rfl (by decide)
    refine lv_iconst (v := 0) hx hb dX8_isAsked_10 (by decide) ?_
    refine lv_icmp_lt (tgt := 27) hx hb dX8_isAsked_11 (by decide) (fun c_2 => ?_) (fun c_2 => ?_)
    · have fc_2 : v.toInt < 0 := zf_lt c_2 rfl (by decide)
      refine lv_iconst (v := 0) hx hb dX8_isAsked_27 (by decide) ?_
      exact W.zret (v := 0) hx hb hr (by decide) (fun t ht hW => ⟨0, rfl, ⟨by decide, by decide, (show ((0 : Int32).toInt = 1 ↔ zAsk w.toInt v.toInt nte.toInt) from by (have k9 : (0 : Int32).toInt = 0 := (by decide); unfold zAsk; constructor; (intro h; first | (exfalso; omega) | (refine ⟨by omega, ?_, ?_⟩ <;> ((repeat (first | rw [if_pos (by omega)] | rw [if_neg (by omega)])) <;> omega))); (rintro ⟨z1, z2, z3⟩; first | omega | ((repeat (first | rw [if_pos (by omega)] at z2 | rw [if_neg (by omega)] at z2)); (repeat (first | rw [if_pos (by omega)] at z3 | rw [if_neg (by omega)] at z3)); omega))))⟩, ht⟩) (fun q hq => by cases hq) dX8_isAsked_28
    · have fc_2 : 0 ≤ v.toInt := zf_nlt c_2 rfl (by decide)
      refine lv_iload_n hx hb dX8_isAsked_14 rfl (lv_at hl 2 rfl) ?_
      refine lv_aload_n hx hb dX8_isAsked_15 rfl (lv_at hl 0 rfl) ?_
      refine lv_iload_n hx hb dX8_isAsked_16 rfl (lv_at hl 1 rfl) ?_
      refine zc_V (As := [.int w]) (rest := [.int v]) ⟨hx, hb, hml, hown, hts⟩ (c_F_M_most l D cI cJ cZ cP cS po m0 mrf mki mpa mta mla msl mco mhe mso msi msh mce mca mwo mnu mte mwa mke mma mth mtr (npu) (nte) (nat_) (nde) (nto) (nse) (nhu) (nga) (nsd) (nfa) (nba) (npl) (nen) (nnu) (nwr) (nra) (nik) (w) hy0 hy1 hy2 hy3 hy4 hy5 hy6 hy7 hy8 hy9 hy10 hy11 hy12 hy13 hy14 hy15) (cwV 1 hts gX8_isAsked_X8_most rfl rfl rfl ⟨rfl, dh_X8_most⟩ ⟨Nat.le_of_ble_eq_true rfl, Nat.le_of_ble_eq_true rfl⟩) hK hN hZ hP (hP.sub [0] rfl) (va_recv (q := (RX8, TX8, 38)) hK hP (ci := 8) (q0 := 0) rfl rfl) rfl hl.1 rfl (Nat.le_of_ble_eq_true rfl) dX8_isAsked_17 ⟨Nat.le_of_ble_eq_true rfl, Nat.le_of_ble_eq_true rfl⟩ (fun r_3 hr_3 => ?_)
      obtain ⟨g_4, g_5, hsr_3_0⟩ := hr_3
      refine lv_icmp_gt (tgt := 27) hx hb dX8_isAsked_20 (by decide) (fun c_6 => ?_) (fun c_6 => ?_)
      · have fc_6 : r_3.toInt < v.toInt := zf_lt c_6 rfl rfl
        refine lv_iconst (v := 0) hx hb dX8_isAsked_27 (by decide) ?_
        exact W.zret (v := 0) hx hb hr (by decide) (fun t ht hW => ⟨0, rfl, ⟨by decide, by decide, (show ((0 : Int32).toInt = 1 ↔ zAsk w.toInt v.toInt nte.toInt) from by (have k9 : (0 : Int32).toInt = 0 := (by decide); have zm := hsr_3_0; unfold zAsk; constructor; (intro h; first | (exfalso; omega) | (refine ⟨by omega, ?_, ?_⟩ <;> ((repeat (first | rw [if_pos (by omega)] | rw [if_neg (by omega)])) <;> omega))); (rintro ⟨z1, z2, z3⟩; first | omega | ((repeat (first | rw [if_pos (by omega)] at z2 | rw [if_neg (by omega)] at z2)); (repeat (first | rw [if_pos (by omega)] at z3 | rw [if_neg (by omega)] at z3)); omega))))⟩, ht⟩) (fun q hq => by cases hq) dX8_isAsked_28
      · have fc_6 : v.toInt ≤ r_3.toInt := zf_nlt c_6 rfl rfl
        refine lv_iconst (v := 1) hx hb dX8_isAsked_23 (by decide) ?_
        refine lv_goto (tgt := 28) hx hb dX8_isAsked_24 (by decide) ?_
        exact W.zret (v := 1) hx hb hr (by decide) (fun t ht hW => ⟨1, rfl, ⟨by decide, by decide, (show ((1 : Int32).toInt = 1 ↔ zAsk w.toInt v.toInt nte.toInt) from by (have k9 : (1 : Int32).toInt = 1 := (by decide); have zm := hsr_3_0; unfold zAsk; constructor; (intro h; first | (exfalso; omega) | (refine ⟨by omega, ?_, ?_⟩ <;> ((repeat (first | rw [if_pos (by omega)] | rw [if_neg (by omega)])) <;> omega))); (rintro ⟨z1, z2, z3⟩; first | omega | ((repeat (first | rw [if_pos (by omega)] at z2 | rw [if_neg (by omega)] at z2)); (repeat (first | rw [if_pos (by omega)] at z3 | rw [if_neg (by omega)] at z3)); omega))))⟩, ht⟩) (fun q hq => by cases hq) dX8_isAsked_28
  · have fc_1 : w.toInt = 3 := zf_eq c_1 rfl (by decide)
    refine lv_iconst (v := 1) hx hb dX8_isAsked_6 (by decide) ?_
    refine lv_goto (tgt := 11) hx hb dX8_isAsked_7 (by decide) ?_
    refine lv_icmp_lt (tgt := 27) hx hb dX8_isAsked_11 (by decide) (fun c_7 => ?_) (fun c_7 => ?_)
    · have fc_7 : v.toInt < 1 := zf_lt c_7 rfl (by decide)
      refine lv_iconst (v := 0) hx hb dX8_isAsked_27 (by decide) ?_
      exact W.zret (v := 0) hx hb hr (by decide) (fun t ht hW => ⟨0, rfl, ⟨by decide, by decide, (show ((0 : Int32).toInt = 1 ↔ zAsk w.toInt v.toInt nte.toInt) from by (have k9 : (0 : Int32).toInt = 0 := (by decide); unfold zAsk; constructor; (intro h; first | (exfalso; omega) | (refine ⟨by omega, ?_, ?_⟩ <;> ((repeat (first | rw [if_pos (by omega)] | rw [if_neg (by omega)])) <;> omega))); (rintro ⟨z1, z2, z3⟩; first | omega | ((repeat (first | rw [if_pos (by omega)] at z2 | rw [if_neg (by omega)] at z2)); (repeat (first | rw [if_pos (by omega)] at z3 | rw [if_neg (by omega)] at z3)); omega))))⟩, ht⟩) (fun q hq => by cases hq) dX8_isAsked_28
    · have fc_7 : 1 ≤ v.toInt := zf_nlt c_7 rfl (by decide)
      refine lv_iload_n hx hb dX8_isAsked_14 rfl (lv_at hl 2 rfl) ?_
      refine lv_aload_n hx hb dX8_isAsked_15 rfl (lv_at hl 0 rfl) ?_
      refine lv_iload_n hx hb dX8_isAsked_16 rfl (lv_at hl 1 rfl) ?_
      refine zc_V (As := [.int w]) (rest := [.int v]) ⟨hx, hb, hml, hown, hts⟩ (c_F_M_most l D cI cJ cZ cP cS po m0 mrf mki mpa mta mla msl mco mhe mso msi msh mce mca mwo mnu mte mwa mke mma mth mtr (npu) (nte) (nat_) (nde) (nto) (nse) (nhu) (nga) (nsd) (nfa) (nba) (npl) (nen) (nnu) (nwr) (nra) (nik) (w) hy0 hy1 hy2 hy3 hy4 hy5 hy6 hy7 hy8 hy9 hy10 hy11 hy12 hy13 hy14 hy15) (cwV 1 hts gX8_isAsked_X8_most rfl rfl rfl ⟨rfl, dh_X8_most⟩ ⟨Nat.le_of_ble_eq_true rfl, Nat.le_of_ble_eq_true rfl⟩) hK hN hZ hP (hP.sub [0] rfl) (va_recv (q := (RX8, TX8, 38)) hK hP (ci := 8) (q0 := 0) rfl rfl) rfl hl.1 rfl (Nat.le_of_ble_eq_true rfl) dX8_isAsked_17 ⟨Nat.le_of_ble_eq_true rfl, Nat.le_of_ble_eq_true rfl⟩ (fun r_8 hr_8 => ?_)
      obtain ⟨g_9, g_10, hsr_8_0⟩ := hr_8
      refine lv_icmp_gt (tgt := 27) hx hb dX8_isAsked_20 (by decide) (fun c_11 => ?_) (fun c_11 => ?_)
      · have fc_11 : r_8.toInt < v.toInt := zf_lt c_11 rfl rfl
        refine lv_iconst (v := 0) hx hb dX8_isAsked_27 (by decide) ?_
        exact W.zret (v := 0) hx hb hr (by decide) (fun t ht hW => ⟨0, rfl, ⟨by decide, by decide, (show ((0 : Int32).toInt = 1 ↔ zAsk w.toInt v.toInt nte.toInt) from by (have k9 : (0 : Int32).toInt = 0 := (by decide); have zm := hsr_8_0; unfold zAsk; constructor; (intro h; first | (exfalso; omega) | (refine ⟨by omega, ?_, ?_⟩ <;> ((repeat (first | rw [if_pos (by omega)] | rw [if_neg (by omega)])) <;> omega))); (rintro ⟨z1, z2, z3⟩; first | omega | ((repeat (first | rw [if_pos (by omega)] at z2 | rw [if_neg (by omega)] at z2)); (repeat (first | rw [if_pos (by omega)] at z3 | rw [if_neg (by omega)] at z3)); omega))))⟩, ht⟩) (fun q hq => by cases hq) dX8_isAsked_28
      · have fc_11 : v.toInt ≤ r_8.toInt := zf_nlt c_11 rfl rfl
        refine lv_iconst (v := 1) hx hb dX8_isAsked_23 (by decide) ?_
        refine lv_goto (tgt := 28) hx hb dX8_isAsked_24 (by decide) ?_
        exact W.zret (v := 1) hx hb hr (by decide) (fun t ht hW => ⟨1, rfl, ⟨by decide, by decide, (show ((1 : Int32).toInt = 1 ↔ zAsk w.toInt v.toInt nte.toInt) from by (have k9 : (1 : Int32).toInt = 1 := (by decide); have zm := hsr_8_0; unfold zAsk; constructor; (intro h; first | (exfalso; omega) | (refine ⟨by omega, ?_, ?_⟩ <;> ((repeat (first | rw [if_pos (by omega)] | rw [if_neg (by omega)])) <;> omega))); (rintro ⟨z1, z2, z3⟩; first | omega | ((repeat (first | rw [if_pos (by omega)] at z2 | rw [if_neg (by omega)] at z2)); (repeat (first | rw [if_pos (by omega)] at z3 | rw [if_neg (by omega)] at z3)); omega))))⟩, ht⟩) (fun q hq => by cases hq) dX8_isAsked_28
set_option maxHeartbeats 4000000 in
set_option maxRecDepth 100000 in
theorem c_F_M_told (l : Launch) (D : va_G) (cI cJ cZ cP cS : ClassId) (po : zPool) (m0 mrf mki mpa mta mla msl mco mhe mso msi msh mce mca mwo mnu mte mwa mke mma mth mtr : Nat) (npu nte nat_ nde nto nse nhu nga nsd nfa nba npl nen nnu nwr nra nik : Int32) (gco : Nat → Int32) (w : Int32) (hy0 : 0 ≤ npu.toInt) (hy1 : npu.toInt ≤ 8) (hy2 : 4 ≤ nte.toInt) (hy3 : nte.toInt ≤ 40) (hy4 : 0 ≤ nat_.toInt) (hy5 : nat_.toInt ≤ 40) (hy6 : 0 ≤ nde.toInt) (hy7 : nde.toInt ≤ 24) (hy8 : 0 ≤ nhu.toInt) (hy9 : nhu.toInt ≤ 9) (hy10 : 0 ≤ nra.toInt) (hy11 : nra.toInt ≤ 2000) (hy12 : 0 ≤ nik.toInt) (hy13 : nik.toInt ≤ 1) (hy14 : 0 ≤ w.toInt) (hy15 : w.toInt ≤ 7) (hp_gco : zRg gco (0) 99) : Met l yX8_told wsX8_told ({ frames := 0, cells := 0, slots := 0, locals := 0 }) (va_Pc [.ref m0, .int w] (zR D (zKT cI cJ cZ cP cS) po [(zMO m0 npu nte nat_ nde nto nse nhu nga nsd nfa mrf mki mpa mta mla msl mco mhe mso msi msh mce mca mwo mnu mte nba npl nen nnu nwr mwa mke mma mth mtr nra nik), (mco, .inl (cI, 3, .inl gco))])) (vp_Si (fun r => (r.toInt = (if w.toInt = 0 then nde.toInt else if w.toInt = 1 then nse.toInt else if w.toInt = 2 then nhu.toInt else if w.toInt = 3 then nga.toInt else if w.toInt = 7 then nat_.toInt else (gco (w.toInt - 4).toNat).toInt)))) 0 0 (fun _ => False) := by
  refine Met.ofW (cc := cX8_told) (maxL := 2) (ret := (some .int)) (by decide) rfl ?_
  intro p e s m args below meth c s₁ B hml hv
  obtain ⟨rfl, hP, hK, hN, hZ⟩ := hv
  have hx := B.exec
  have hb := B.bytes
  have hr := B.returns
  have hts := atoms_spec (ws := wsX8_told) B.pre
  have hown : s.vm.findClass RX8 = some m.cls := findClass_of_methodNamed B.named
  have hlocks := B.notSynchronized
  have hl := lv_entry ([.ref m0, .int w]) (n := 2) (Nat.le_of_ble_eq_true rfl)
  rw [lg_entry_eq]
  generalize (lg_sl ([.ref m0, .int w]) ++ List.replicate (2 - (lg_sl ([.ref m0, .int w])).length) Slot.unset).toArray = ls at hl ⊢
  replace hl : lv_has ls 2 [(0, .ref m0), (1, .int w)] := hl
  refine lv_iload_n hx hb dX8_told_0 rfl (lv_at hl 1 rfl) ?_
  have hsp : w = 0 ∨ w = 1 ∨ w = 2 ∨ w = 3 ∨ w = 4 ∨ w = 5 ∨ w = 6 ∨ w = 7 := by
    rcases (show w.toInt = 0 ∨ w.toInt = 1 ∨ w.toInt = 2 ∨ w.toInt = 3 ∨ w.toInt = 4 ∨ w.toInt = 5 ∨ w.toInt = 6 ∨ w.toInt = 7 by omega) with h9 | h9 | h9 | h9 | h9 | h9 | h9 | h9
    · refine Or.inl ?_; exact zf_val h9 (by decide)
    · refine Or.inr (Or.inl ?_); exact zf_val h9 (by decide)
    · refine Or.inr (Or.inr (Or.inl ?_)); exact zf_val h9 (by decide)
    · refine Or.inr (Or.inr (Or.inr (Or.inl ?_))); exact zf_val h9 (by decide)
    · refine Or.inr (Or.inr (Or.inr (Or.inr (Or.inl ?_)))); exact zf_val h9 (by decide)
    · refine Or.inr (Or.inr (Or.inr (Or.inr (Or.inr (Or.inl ?_))))); exact zf_val h9 (by decide)
    · refine Or.inr (Or.inr (Or.inr (Or.inr (Or.inr (Or.inr (Or.inl ?_)))))); exact zf_val h9 (by decide)
    · refine Or.inr (Or.inr (Or.inr (Or.inr (Or.inr (Or.inr (Or.inr (?_))))))); exact zf_val h9 (by decide)
  rcases hsp with rfl | rfl | rfl | rfl | rfl | rfl | rfl | rfl
  · have kc0 : (0 : Int32).toInt = 0 := by decide
    refine lv_tableIn (tgt := 48) hx hb dX8_told_1 (by decide) (by decide) rfl (by decide) ?_
    refine lv_aload_n hx hb dX8_told_48 rfl (lv_at hl 0 rfl) ?_
    refine va_get (D := D) (ci := 8) (v := .int nde) (C := RX8) (T := TX8) (N := 38) hx hb hts hi_X8_told_8 hown hK hP 0 rfl rfl 3 (by decide) (hts (.fieldLink RX8 115 "TheLiningsInItModel" "depth" "I") (List.mem_of_getElem? (i := 1) rfl)) (fun _ h9 => h9) rfl dX8_told_49 ?_
    exact W.iret (v := nde) hx hb hr (fun t ht hW => ⟨nde, rfl, (show (nde : Int32).toInt = (if (0 : Int32).toInt = 0 then nde.toInt else if (0 : Int32).toInt = 1 then nse.toInt else if (0 : Int32).toInt = 2 then nhu.toInt else if (0 : Int32).toInt = 3 then nga.toInt else if (0 : Int32).toInt = 7 then nat_.toInt else (gco ((0 : Int32).toInt - 4).toNat).toInt) from by ((repeat (first | rw [if_pos (by omega)] | rw [if_neg (by omega)])); first | done | rfl | omega)), ht⟩) (fun q hq => by cases hq) dX8_told_52
  · have kc1 : (1 : Int32).toInt = 1 := by decide
    refine lv_tableIn (tgt := 53) hx hb dX8_told_1 (by decide) (by decide) rfl (by decide) ?_
    refine lv_aload_n hx hb dX8_told_53 rfl (lv_at hl 0 rfl) ?_
    refine va_get (D := D) (ci := 8) (v := .int nse) (C := RX8) (T := TX8) (N := 38) hx hb hts hi_X8_told_8 hown hK hP 0 rfl rfl 5 (by decide) (hts (.fieldLink RX8 13 "TheLiningsInItModel" "seconds" "I") (List.mem_of_getElem? (i := 2) rfl)) (fun _ h9 => h9) rfl dX8_told_54 ?_
    exact W.iret (v := nse) hx hb hr (fun t ht hW => ⟨nse, rfl, (show (nse : Int32).toInt = (if (1 : Int32).toInt = 0 then nde.toInt else if (1 : Int32).toInt = 1 then nse.toInt else if (1 : Int32).toInt = 2 then nhu.toInt else if (1 : Int32).toInt = 3 then nga.toInt else if (1 : Int32).toInt = 7 then nat_.toInt else (gco ((1 : Int32).toInt - 4).toNat).toInt) from by ((repeat (first | rw [if_pos (by omega)] | rw [if_neg (by omega)])); first | done | rfl | omega)), ht⟩) (fun q hq => by cases hq) dX8_told_57
  · have kc2 : (2 : Int32).toInt = 2 := by decide
    refine lv_tableIn (tgt := 58) hx hb dX8_told_1 (by decide) (by decide) rfl (by decide) ?_
    refine lv_aload_n hx hb dX8_told_58 rfl (lv_at hl 0 rfl) ?_
    refine va_get (D := D) (ci := 8) (v := .int nhu) (C := RX8) (T := TX8) (N := 38) hx hb hts hi_X8_told_8 hown hK hP 0 rfl rfl 6 (by decide) (hts (.fieldLink RX8 135 "TheLiningsInItModel" "hurry" "I") (List.mem_of_getElem? (i := 3) rfl)) (fun _ h9 => h9) rfl dX8_told_59 ?_
    exact W.iret (v := nhu) hx hb hr (fun t ht hW => ⟨nhu, rfl, (show (nhu : Int32).toInt = (if (2 : Int32).toInt = 0 then nde.toInt else if (2 : Int32).toInt = 1 then nse.toInt else if (2 : Int32).toInt = 2 then nhu.toInt else if (2 : Int32).toInt = 3 then nga.toInt else if (2 : Int32).toInt = 7 then nat_.toInt else (gco ((2 : Int32).toInt - 4).toNat).toInt) from by ((repeat (first | rw [if_pos (by omega)] | rw [if_neg (by omega)])); first | done | rfl | omega)), ht⟩) (fun q hq => by cases hq) dX8_told_62
  · have kc3 : (3 : Int32).toInt = 3 := by decide
    refine lv_tableIn (tgt := 63) hx hb dX8_told_1 (by decide) (by decide) rfl (by decide) ?_
    refine lv_aload_n hx hb dX8_told_63 rfl (lv_at hl 0 rfl) ?_
    refine va_get (D := D) (ci := 8) (v := .int nga) (C := RX8) (T := TX8) (N := 38) hx hb hts hi_X8_told_8 hown hK hP 0 rfl rfl 7 (by decide) (hts (.fieldLink RX8 16 "TheLiningsInItModel" "gap" "I") (List.mem_of_getElem? (i := 4) rfl)) (fun _ h9 => h9) rfl dX8_told_64 ?_
    exact W.iret (v := nga) hx hb hr (fun t ht hW => ⟨nga, rfl, (show (nga : Int32).toInt = (if (3 : Int32).toInt = 0 then nde.toInt else if (3 : Int32).toInt = 1 then nse.toInt else if (3 : Int32).toInt = 2 then nhu.toInt else if (3 : Int32).toInt = 3 then nga.toInt else if (3 : Int32).toInt = 7 then nat_.toInt else (gco ((3 : Int32).toInt - 4).toNat).toInt) from by ((repeat (first | rw [if_pos (by omega)] | rw [if_neg (by omega)])); first | done | rfl | omega)), ht⟩) (fun q hq => by cases hq) dX8_told_67
  · have kc4 : (4 : Int32).toInt = 4 := by decide
    refine lv_tableIn (tgt := 73) hx hb dX8_told_1 (by decide) (by decide) rfl (by decide) ?_
    refine lv_aload_n hx hb dX8_told_73 rfl (lv_at hl 0 rfl) ?_
    refine va_get (D := D) (ci := 8) (v := .ref mco) (C := RX8) (T := TX8) (N := 38) hx hb hts hi_X8_told_8 hown hK hP 0 rfl rfl 16 (by decide) (hts (.fieldLink RX8 44 "TheLiningsInItModel" "cost" "[I") (List.mem_of_getElem? (i := 6) rfl)) (fun _ h9 => h9) rfl dX8_told_74 ?_
    refine lv_iload_n hx hb dX8_told_77 rfl (lv_at hl 1 rfl) ?_
    refine lv_iconst (v := 4) hx hb dX8_told_78 (by decide) ?_
    refine lv_isub hx hb dX8_told_79 ?_
    refine lv_topi (fun y_1 ey_1 => ?_)
    obtain rfl : y_1 = 0 := ey_1.trans (by decide)
    refine va_iald hx hb hK hP 1 0 rfl rfl (zf_in (by decide) (by decide)) dX8_told_80 ?_
    refine lv_topi (fun x_2 ex_2 => ?_)
    have bx_2 : 0 ≤ x_2.toInt ∧ x_2.toInt ≤ 99 := by rw [ex_2]; exact hp_gco _
    exact W.iret (v := x_2) hx hb hr (fun t ht hW => ⟨x_2, rfl, (show (x_2 : Int32).toInt = (if (4 : Int32).toInt = 0 then nde.toInt else if (4 : Int32).toInt = 1 then nse.toInt else if (4 : Int32).toInt = 2 then nhu.toInt else if (4 : Int32).toInt = 3 then nga.toInt else if (4 : Int32).toInt = 7 then nat_.toInt else (gco ((4 : Int32).toInt - 4).toNat).toInt) from by ((repeat (first | rw [if_pos (by omega)] | rw [if_neg (by omega)])); first | done | rfl | omega | (rw [ex_2]; congr 2 <;> first | decide | (show _ = (0 : Int32).toInt.toNat; omega)))), ht⟩) (fun q hq => by cases hq) dX8_told_81
  · have kc5 : (5 : Int32).toInt = 5 := by decide
    refine lv_tableIn (tgt := 73) hx hb dX8_told_1 (by decide) (by decide) rfl (by decide) ?_
    refine lv_aload_n hx hb dX8_told_73 rfl (lv_at hl 0 rfl) ?_
    refine va_get (D := D) (ci := 8) (v := .ref mco) (C := RX8) (T := TX8) (N := 38) hx hb hts hi_X8_told_8 hown hK hP 0 rfl rfl 16 (by decide) (hts (.fieldLink RX8 44 "TheLiningsInItModel" "cost" "[I") (List.mem_of_getElem? (i := 6) rfl)) (fun _ h9 => h9) rfl dX8_told_74 ?_
    refine lv_iload_n hx hb dX8_told_77 rfl (lv_at hl 1 rfl) ?_
    refine lv_iconst (v := 4) hx hb dX8_told_78 (by decide) ?_
    refine lv_isub hx hb dX8_told_79 ?_
    refine lv_topi (fun y_3 ey_3 => ?_)
    obtain rfl : y_3 = 1 := ey_3.trans (by decide)
    refine va_iald hx hb hK hP 1 0 rfl rfl (zf_in (by decide) (by decide)) dX8_told_80 ?_
    refine lv_topi (fun x_4 ex_4 => ?_)
    have bx_4 : 0 ≤ x_4.toInt ∧ x_4.toInt ≤ 99 := by rw [ex_4]; exact hp_gco _
    exact W.iret (v := x_4) hx hb hr (fun t ht hW => ⟨x_4, rfl, (show (x_4 : Int32).toInt = (if (5 : Int32).toInt = 0 then nde.toInt else if (5 : Int32).toInt = 1 then nse.toInt else if (5 : Int32).toInt = 2 then nhu.toInt else if (5 : Int32).toInt = 3 then nga.toInt else if (5 : Int32).toInt = 7 then nat_.toInt else (gco ((5 : Int32).toInt - 4).toNat).toInt) from by ((repeat (first | rw [if_pos (by omega)] | rw [if_neg (by omega)])); first | done | rfl | omega | (rw [ex_4]; congr 2 <;> first | decide | (show _ = (1 : Int32).toInt.toNat; omega)))), ht⟩) (fun q hq => by cases hq) dX8_told_81
  · have kc6 : (6 : Int32).toInt = 6 := by decide
    refine lv_tableIn (tgt := 73) hx hb dX8_told_1 (by decide) (by decide) rfl (by decide) ?_
    refine lv_aload_n hx hb dX8_told_73 rfl (lv_at hl 0 rfl) ?_
    refine va_get (D := D) (ci := 8) (v := .ref mco) (C := RX8) (T := TX8) (N := 38) hx hb hts hi_X8_told_8 hown hK hP 0 rfl rfl 16 (by decide) (hts (.fieldLink RX8 44 "TheLiningsInItModel" "cost" "[I") (List.mem_of_getElem? (i := 6) rfl)) (fun _ h9 => h9) rfl dX8_told_74 ?_
    refine lv_iload_n hx hb dX8_told_77 rfl (lv_at hl 1 rfl) ?_
    refine lv_iconst (v := 4) hx hb dX8_told_78 (by decide) ?_
    refine lv_isub hx hb dX8_told_79 ?_
    refine lv_topi (fun y_5 ey_5 => ?_)
    obtain rfl : y_5 = 2 := ey_5.trans (by decide)
    refine va_iald hx hb hK hP 1 0 rfl rfl (zf_in (by decide) (by decide)) dX8_told_80 ?_
    refine lv_topi (fun x_6 ex_6 => ?_)
    have bx_6 : 0 ≤ x_6.toInt ∧ x_6.toInt ≤ 99 := by rw [ex_6]; exact hp_gco _
    exact W.iret (v := x_6) hx hb hr (fun t ht hW => ⟨x_6, rfl, (show (x_6 : Int32).toInt = (if (6 : Int32).toInt = 0 then nde.toInt else if (6 : Int32).toInt = 1 then nse.toInt else if (6 : Int32).toInt = 2 then nhu.toInt else if (6 : Int32).toInt = 3 then nga.toInt else if (6 : Int32).toInt = 7 then nat_.toInt else (gco ((6 : Int32).toInt - 4).toNat).toInt) from by ((repeat (first | rw [if_pos (by omega)] | rw [if_neg (by omega)])); first | done | rfl | omega | (rw [ex_6]; congr 2 <;> first | decide | (show _ = (2 : Int32).toInt.toNat; omega)))), ht⟩) (fun q hq => by cases hq) dX8_told_81
  · have kc7 : (7 : Int32).toInt = 7 := by decide
    refine lv_tableIn (tgt := 68) hx hb dX8_told_1 (by decide) (by decide) rfl (by decide) ?_
    refine lv_aload_n hx hb dX8_told_68 rfl (lv_at hl 0 rfl) ?_
    refine va_get (D := D) (ci := 8) (v := .int nat_) (C := RX8) (T := TX8) (N := 38) hx hb hts hi_X8_told_8 hown hK hP 0 rfl rfl 2 (by decide) (hts (.fieldLink RX8 122 "TheLiningsInItModel" "at" "I") (List.mem_of_getElem? (i := 5) rfl)) (fun _ h9 => h9) rfl dX8_told_69 ?_
    exact W.iret (v := nat_) hx hb hr (fun t ht hW => ⟨nat_, rfl, (show (nat_ : Int32).toInt = (if (7 : Int32).toInt = 0 then nde.toInt else if (7 : Int32).toInt = 1 then nse.toInt else if (7 : Int32).toInt = 2 then nhu.toInt else if (7 : Int32).toInt = 3 then nga.toInt else if (7 : Int32).toInt = 7 then nat_.toInt else (gco ((7 : Int32).toInt - 4).toNat).toInt) from by ((repeat (first | rw [if_pos (by omega)] | rw [if_neg (by omega)])); first | done | rfl | omega)), ht⟩) (fun q hq => by cases hq) dX8_told_72
set_option maxHeartbeats 4000000 in
set_option maxRecDepth 100000 in
theorem c_F_M_ask (l : Launch) (D : va_G) (cI cJ cZ cP cS : ClassId) (po : zPool) (m0 mrf mki mpa mta mla msl mco mhe mso msi msh mce mca mwo mnu mte mwa mke mma mth mtr : Nat) (npu nte nat_ nde nto nse nhu nga nsd nfa nba npl nen nnu nwr nra nik : Int32) (grf gco : Nat → Int32) (w v : Int32) (hy0 : 0 ≤ npu.toInt) (hy1 : npu.toInt ≤ 8) (hy2 : 4 ≤ nte.toInt) (hy3 : nte.toInt ≤ 40) (hy4 : 0 ≤ nat_.toInt) (hy5 : nat_.toInt ≤ 40) (hy6 : 0 ≤ nde.toInt) (hy7 : nde.toInt ≤ 24) (hy8 : 0 ≤ nhu.toInt) (hy9 : nhu.toInt ≤ 9) (hy10 : 0 ≤ nra.toInt) (hy11 : nra.toInt ≤ 2000) (hy12 : 0 ≤ nik.toInt) (hy13 : nik.toInt ≤ 1) (hp_gco : zRg gco (0) 99) (hpz : Nat) : Met l yX8_ask wsX8_ask ({ frames := 2, cells := 0, slots := 0, locals := 43 }) (va_Pc [.ref m0, .int w, .int v] (zW D (zKT cI cJ cZ cP cS) po [(zMO m0 npu nte nat_ nde nto nse nhu nga nsd nfa mrf mki mpa mta mla msl mco mhe mso msi msh mce mca mwo mnu mte nba npl nen nnu nwr mwa mke mma mth mtr nra nik), (mrf, .inl (cI, 8, .inl grf)), (mco, .inl (cI, 3, .inl gco))] hpz)) (va_Qi (fun (r : Int32) (u : (Int32) × (Int32) × (Int32) × (Int32) × (Int32) × (Nat → Int32) × (Nat → Int32)) => (0 ≤ u.1.toInt ∧ u.1.toInt ≤ 24) ∧ (0 ≤ u.2.2.1.toInt ∧ u.2.2.1.toInt ≤ 9) ∧ (0 ≤ u.2.2.2.2.1.toInt ∧ u.2.2.2.2.1.toInt ≤ 40) ∧ zRg u.2.2.2.2.2.2 (0) 99 ∧ ((zAsk w.toInt v.toInt nte.toInt ∧ r.toInt = (if w.toInt = 0 then nde.toInt else if w.toInt = 1 then nse.toInt else if w.toInt = 2 then nhu.toInt else if w.toInt = 3 then nga.toInt else if w.toInt = 7 then nat_.toInt else (gco (w.toInt - 4).toNat).toInt) ∧ (u.1.toInt = (if w.toInt = 0 then v.toInt else nde.toInt) ∧ u.2.1.toInt = (if w.toInt = 1 then v.toInt else nse.toInt) ∧ u.2.2.1.toInt = (if w.toInt = 2 then v.toInt else nhu.toInt) ∧ u.2.2.2.1.toInt = (if w.toInt = 3 then v.toInt else nga.toInt) ∧ u.2.2.2.2.1.toInt = (if w.toInt = 7 then v.toInt else nat_.toInt)) ∧ (w.toInt < 4 ∨ 6 < w.toInt → u.2.2.2.2.2.2 = gco) ∧ (4 ≤ w.toInt → w.toInt ≤ 6 → u.2.2.2.2.2.2 = upd gco (w.toInt - 4).toNat v)) ∨ (¬ zAsk w.toInt v.toInt nte.toInt ∧ r.toInt = -6 ∧ u.1 = nde ∧ u.2.1 = nse ∧ u.2.2.1 = nhu ∧ u.2.2.2.1 = nga ∧ u.2.2.2.2.1 = nat_ ∧ u.2.2.2.2.2.2 = gco)) ∧ (True)) (zB D [(zMO m0 npu nte nat_ nde nto nse nhu nga nsd nfa mrf mki mpa mta mla msl mco mhe mso msi msh mce mca mwo mnu mte nba npl nen nnu nwr mwa mke mma mth mtr nra nik), (mrf, .inl (cI, 8, .inl grf)), (mco, .inl (cI, 3, .inl gco))] hpz (fun (u : (Int32) × (Int32) × (Int32) × (Int32) × (Int32) × (Nat → Int32) × (Nat → Int32)) => [(zMO m0 npu nte u.2.2.2.2.1 u.1 nto u.2.1 u.2.2.1 u.2.2.2.1 nsd nfa mrf mki mpa mta mla msl mco mhe mso msi msh mce mca mwo mnu mte nba npl nen nnu nwr mwa mke mma mth mtr nra nik), (mrf, .inl (cI, 8, .inl u.2.2.2.2.2.1)), (mco, .inl (cI, 3, .inl u.2.2.2.2.2.2))])) (va_A [(zMO m0 npu nte nat_ nde nto nse nhu nga nsd nfa mrf mki mpa mta mla msl mco mhe mso msi msh mce mca mwo mnu mte nba npl nen nnu nwr mwa mke mma mth mtr nra nik), (mrf, .inl (cI, 8, .inl grf)), (mco, .inl (cI, 3, .inl gco))] hpz)) 0 0 (va_A [(zMO m0 npu nte nat_ nde nto nse nhu nga nsd nfa mrf mki mpa mta mla msl mco mhe mso msi msh mce mca mwo mnu mte nba npl nen nnu nwr mwa mke mma mth mtr nra nik), (mrf, .inl (cI, 8, .inl grf)), (mco, .inl (cI, 3, .inl gco))] hpz) := by
  refine Met.ofW (cc := cX8_ask) (maxL := 4) (ret := (some .int)) (by decide) rfl ?_
  intro p e s m args below meth c s₁ B hml hv
  obtain ⟨rfl, hsz, hP, hK, hD0, hN, hZ⟩ := hv
  have hx := B.exec
  have hb := B.bytes
  have hr := B.returns
  have hts := atoms_spec (ws := wsX8_ask) B.pre
  have hown : s.vm.findClass RX8 = some m.cls := findClass_of_methodNamed B.named
  have hlocks := B.notSynchronized
  subst hsz
  have hD := hD0.self (sz := s.heap.size)
  have hA := zA_of hD
  have hl := lv_entry ([.ref m0, .int w, .int v]) (n := 4) (Nat.le_of_ble_eq_true rfl)
  rw [lg_entry_eq]
  generalize (lg_sl ([.ref m0, .int w, .int v]) ++ List.replicate (4 - (lg_sl ([.ref m0, .int w, .int v])).length) Slot.unset).toArray = ls at hl ⊢
  replace hl : lv_has ls 4 [(0, .ref m0), (1, .int w), (2, .int v)] := hl
  refine zw_begin hP hD (fun H locs hP1 hS => ?_)
  clear hP
  have hP := hP1
  clear hP1
  refine lv_iload_n hx hb dX8_ask_0 rfl (lv_at hl 1 rfl) ?_
  refine lv_if_lt (tgt := 19) hx hb dX8_ask_1 (by decide) (fun c_1 => ?_) (fun c_1 => ?_)
  · have fc_1 : w.toInt < 0 := zf_lt c_1 rfl (by decide)
    refine lv_aload_n hx hb dX8_ask_19 rfl (lv_at hl 0 rfl) ?_
    refine lv_bipush (v := (-6)) hx hb dX8_ask_20 (by decide) ?_
    skip
    refine zw_V (As := [.int (-6)]) (rest := []) (wr := [(mco, .inl (cI, 3, .inl gco))]) ⟨hx, hb, hml, hown, hts⟩ (c_M_no_6 l D cI cJ cZ cP cS po m0 mrf mki mpa mta mla msl mco mhe mso msi msh mce mca mwo mnu mte mwa mke mma mth mtr (npu) (nte) (nat_) (nde) (nto) (nse) (nhu) (nga) (nsd) (nfa) (nba) (npl) (nen) (nnu) (nwr) (nra) (nik) grf hy0 hy1 hy2 hy3 hy4 hy5 hy6 hy7 hy8 hy9 hy10 hy11 hy12 hy13 H.size) (cwV 1 hts gX8_ask_X8_no rfl rfl rfl ⟨rfl, dh_X8_no⟩ ⟨Nat.le_of_ble_eq_true rfl, Nat.le_of_ble_eq_true rfl⟩) hK hN (hZ.kept hS) hP hD hS hA [0, 1] [2] rfl rfl (by decide) (by decide) (by decide) (va_recv (q := (RX8, TX8, 38)) hK hP (ci := 8) (q0 := 0) rfl rfl) rfl hl.1 rfl (Nat.le_of_ble_eq_true rfl) dX8_ask_22 ⟨Nat.le_of_ble_eq_true rfl, Nat.le_of_ble_eq_true rfl⟩ (fun r_2 u_3 H locs hr_2 hP hD hS => ?_)
    obtain ⟨q_4, rfl⟩ : ∃ z, z = u_3 := ⟨_, rfl⟩
    have h9R := zRe (ws' := [(mco, .inl (cI, 3, .inl gco)), (zMO m0 npu nte nat_ nde nto nse nhu nga nsd nfa mrf mki mpa mta mla msl mco mhe mso msi msh mce mca mwo mnu mte nba npl nen nnu nwr mwa mke mma mth mtr nra nik), (mrf, .inl (cI, 8, .inl q_4))]) hP hD rfl
    clear hP hD
    obtain ⟨hP, hD⟩ := h9R
    obtain rfl := hr_2
    exact W.iret (v := (-6)) hx hb hr (fun t ht hW => ⟨⟨(-6), (nde, nse, nhu, nga, nat_, q_4, gco), rfl, ⟨(show 0 ≤ nde.toInt ∧ nde.toInt ≤ 24 from ⟨hy6, hy7⟩), (show 0 ≤ nhu.toInt ∧ nhu.toInt ≤ 9 from ⟨hy8, hy9⟩), (show 0 ≤ nat_.toInt ∧ nat_.toInt ≤ 40 from ⟨hy4, hy5⟩), hp_gco, (show (zAsk w.toInt v.toInt nte.toInt ∧ ((-6) : Int32).toInt = (if w.toInt = 0 then nde.toInt else if w.toInt = 1 then nse.toInt else if w.toInt = 2 then nhu.toInt else if w.toInt = 3 then nga.toInt else if w.toInt = 7 then nat_.toInt else (gco (w.toInt - 4).toNat).toInt) ∧ (nde.toInt = (if w.toInt = 0 then v.toInt else nde.toInt) ∧ nse.toInt = (if w.toInt = 1 then v.toInt else nse.toInt) ∧ nhu.toInt = (if w.toInt = 2 then v.toInt else nhu.toInt) ∧ nga.toInt = (if w.toInt = 3 then v.toInt else nga.toInt) ∧ nat_.toInt = (if w.toInt = 7 then v.toInt else nat_.toInt)) ∧ (w.toInt < 4 ∨ 6 < w.toInt → gco = gco) ∧ (4 ≤ w.toInt → w.toInt ≤ 6 → gco = upd gco (w.toInt - 4).toNat v)) ∨ (¬ zAsk w.toInt v.toInt nte.toInt ∧ ((-6) : Int32).toInt = -6 ∧ nde = nde ∧ nse = nse ∧ nhu = nhu ∧ nga = nga ∧ nat_ = nat_ ∧ gco = gco) from by (have k9 : ((-6) : Int32).toInt = -6 := (by decide); refine Or.inr ⟨?_, by omega, rfl, rfl, rfl, rfl, rfl, rfl⟩; unfold zAsk; intro z; omega)), trivial⟩, zRet ht hP hD [1, 2, 0] (by decide) rfl⟩, hS.F ht⟩) hS.2.2 dX8_ask_25
  · have fc_1 : 0 ≤ w.toInt := zf_nlt c_1 rfl (by decide)
    refine lv_iload_n hx hb dX8_ask_4 rfl (lv_at hl 1 rfl) ?_
    refine lv_bipush (v := 7) hx hb dX8_ask_5 (by decide) ?_
    refine lv_icmp_gt (tgt := 19) hx hb dX8_ask_7 (by decide) (fun c_5 => ?_) (fun c_5 => ?_)
    · have fc_5 : 7 < w.toInt := zf_lt c_5 (by decide) rfl
      refine lv_aload_n hx hb dX8_ask_19 rfl (lv_at hl 0 rfl) ?_
      refine lv_bipush (v := (-6)) hx hb dX8_ask_20 (by decide) ?_
      skip
      refine zw_V (As := [.int (-6)]) (rest := []) (wr := [(mco, .inl (cI, 3, .inl gco))]) ⟨hx, hb, hml, hown, hts⟩ (c_M_no_6 l D cI cJ cZ cP cS po m0 mrf mki mpa mta mla msl mco mhe mso msi msh mce mca mwo mnu mte mwa mke mma mth mtr (npu) (nte) (nat_) (nde) (nto) (nse) (nhu) (nga) (nsd) (nfa) (nba) (npl) (nen) (nnu) (nwr) (nra) (nik) grf hy0 hy1 hy2 hy3 hy4 hy5 hy6 hy7 hy8 hy9 hy10 hy11 hy12 hy13 H.size) (cwV 1 hts gX8_ask_X8_no rfl rfl rfl ⟨rfl, dh_X8_no⟩ ⟨Nat.le_of_ble_eq_true rfl, Nat.le_of_ble_eq_true rfl⟩) hK hN (hZ.kept hS) hP hD hS hA [0, 1] [2] rfl rfl (by decide) (by decide) (by decide) (va_recv (q := (RX8, TX8, 38)) hK hP (ci := 8) (q0 := 0) rfl rfl) rfl hl.1 rfl (Nat.le_of_ble_eq_true rfl) dX8_ask_22 ⟨Nat.le_of_ble_eq_true rfl, Nat.le_of_ble_eq_true rfl⟩ (fun r_6 u_7 H locs hr_6 hP hD hS => ?_)
      obtain ⟨q_8, rfl⟩ : ∃ z, z = u_7 := ⟨_, rfl⟩
      have h9R := zRe (ws' := [(mco, .inl (cI, 3, .inl gco)), (zMO m0 npu nte nat_ nde nto nse nhu nga nsd nfa mrf mki mpa mta mla msl mco mhe mso msi msh mce mca mwo mnu mte nba npl nen nnu nwr mwa mke mma mth mtr nra nik), (mrf, .inl (cI, 8, .inl q_8))]) hP hD rfl
      clear hP hD
      obtain ⟨hP, hD⟩ := h9R
      obtain rfl := hr_6
      exact W.iret (v := (-6)) hx hb hr (fun t ht hW => ⟨⟨(-6), (nde, nse, nhu, nga, nat_, q_8, gco), rfl, ⟨(show 0 ≤ nde.toInt ∧ nde.toInt ≤ 24 from ⟨hy6, hy7⟩), (show 0 ≤ nhu.toInt ∧ nhu.toInt ≤ 9 from ⟨hy8, hy9⟩), (show 0 ≤ nat_.toInt ∧ nat_.toInt ≤ 40 from ⟨hy4, hy5⟩), hp_gco, (show (zAsk w.toInt v.toInt nte.toInt ∧ ((-6) : Int32).toInt = (if w.toInt = 0 then nde.toInt else if w.toInt = 1 then nse.toInt else if w.toInt = 2 then nhu.toInt else if w.toInt = 3 then nga.toInt else if w.toInt = 7 then nat_.toInt else (gco (w.toInt - 4).toNat).toInt) ∧ (nde.toInt = (if w.toInt = 0 then v.toInt else nde.toInt) ∧ nse.toInt = (if w.toInt = 1 then v.toInt else nse.toInt) ∧ nhu.toInt = (if w.toInt = 2 then v.toInt else nhu.toInt) ∧ nga.toInt = (if w.toInt = 3 then v.toInt else nga.toInt) ∧ nat_.toInt = (if w.toInt = 7 then v.toInt else nat_.toInt)) ∧ (w.toInt < 4 ∨ 6 < w.toInt → gco = gco) ∧ (4 ≤ w.toInt → w.toInt ≤ 6 → gco = upd gco (w.toInt - 4).toNat v)) ∨ (¬ zAsk w.toInt v.toInt nte.toInt ∧ ((-6) : Int32).toInt = -6 ∧ nde = nde ∧ nse = nse ∧ nhu = nhu ∧ nga = nga ∧ nat_ = nat_ ∧ gco = gco) from by (have k9 : ((-6) : Int32).toInt = -6 := (by decide); refine Or.inr ⟨?_, by omega, rfl, rfl, rfl, rfl, rfl, rfl⟩; unfold zAsk; intro z; omega)), trivial⟩, zRet ht hP hD [1, 2, 0] (by decide) rfl⟩, hS.F ht⟩) hS.2.2 dX8_ask_25
    · have fc_5 : w.toInt ≤ 7 := zf_nlt c_5 (by decide) rfl
      refine lv_aload_n hx hb dX8_ask_10 rfl (lv_at hl 0 rfl) ?_
      refine lv_iload_n hx hb dX8_ask_11 rfl (lv_at hl 1 rfl) ?_
      refine lv_iload_n hx hb dX8_ask_12 rfl (lv_at hl 2 rfl) ?_
      refine zc_V (As := [.int w, .int v]) (rest := []) ⟨hx, hb, hml, hown, hts⟩ (c_F_M_isAsked_x l D cI cJ cZ cP cS po m0 mrf mki mpa mta mla msl mco mhe mso msi msh mce mca mwo mnu mte mwa mke mma mth mtr (npu) (nte) (nat_) (nde) (nto) (nse) (nhu) (nga) (nsd) (nfa) (nba) (npl) (nen) (nnu) (nwr) (nra) (nik) (w) (v) hy0 hy1 hy2 hy3 hy4 hy5 hy6 hy7 hy8 hy9 hy10 hy11 hy12 hy13 (by omega) (by omega)) (cwV 2 hts gX8_ask_X8_isAsked rfl rfl rfl ⟨rfl, dh_X8_isAsked⟩ ⟨Nat.le_of_ble_eq_true rfl, Nat.le_of_ble_eq_true rfl⟩) hK hN (hZ.kept hS) hP (hP.sub [0] rfl) (va_recv (q := (RX8, TX8, 38)) hK hP (ci := 8) (q0 := 0) rfl rfl) rfl hl.1 rfl (Nat.le_of_ble_eq_true rfl) dX8_ask_13 ⟨Nat.le_of_ble_eq_true rfl, Nat.le_of_ble_eq_true rfl⟩ (fun r_9 hr_9 => ?_)
      obtain ⟨g_10, g_11, hsr_9_0⟩ := hr_9
      refine lv_if_ne (tgt := 26) hx hb dX8_ask_16 (by decide) (fun c_12 => ?_) (fun c_12 => ?_)
      · have fc_12 : r_9.toInt ≠ 0 := zf_ne c_12 rfl (by decide)
        refine lv_aload_n hx hb dX8_ask_26 rfl (lv_at hl 0 rfl) ?_
        refine lv_iload_n hx hb dX8_ask_27 rfl (lv_at hl 1 rfl) ?_
        refine zc_V (As := [.int w]) (rest := []) ⟨hx, hb, hml, hown, hts⟩ (c_F_M_told l D cI cJ cZ cP cS po m0 mrf mki mpa mta mla msl mco mhe mso msi msh mce mca mwo mnu mte mwa mke mma mth mtr (npu) (nte) (nat_) (nde) (nto) (nse) (nhu) (nga) (nsd) (nfa) (nba) (npl) (nen) (nnu) (nwr) (nra) (nik) gco (w) hy0 hy1 hy2 hy3 hy4 hy5 hy6 hy7 hy8 hy9 hy10 hy11 hy12 hy13 (by omega) (by omega) hp_gco) (cwV 1 hts gX8_ask_X8_told rfl rfl rfl ⟨rfl, dh_X8_told⟩ ⟨Nat.le_of_ble_eq_true rfl, Nat.le_of_ble_eq_true rfl⟩) hK hN (hZ.kept hS) hP (hP.sub [0, 2] rfl) (va_recv (q := (RX8, TX8, 38)) hK hP (ci := 8) (q0 := 0) rfl rfl) rfl hl.1 rfl (Nat.le_of_ble_eq_true rfl) dX8_ask_28 ⟨Nat.le_of_ble_eq_true rfl, Nat.le_of_ble_eq_true rfl⟩ (fun r_13 hr_13 => ?_)
        have hsr_13_0 := hr_13
        refine lv_istore_n (lv' := [(3, .int r_13), (0, .ref m0), (1, .int w), (2, .int v)]) hx hb dX8_ask_31 rfl hl (by decide) rfl (fun ls hl => ?_)
        refine lv_aload_n hx hb dX8_ask_32 rfl (lv_at hl 1 rfl) ?_
        refine lv_iload_n hx hb dX8_ask_33 rfl (lv_at hl 2 rfl) ?_
        refine lv_iload_n hx hb dX8_ask_34 rfl (lv_at hl 3 rfl) ?_
        skip
        refine zw_Vv (As := [.int w, .int v]) (rest := []) (wr := [(mrf, .inl (cI, 8, .inl grf))]) ⟨hx, hb, hml, hown, hts⟩ (c_F_M_tells l D cI cJ cZ cP cS po m0 mrf mki mpa mta mla msl mco mhe mso msi msh mce mca mwo mnu mte mwa mke mma mth mtr (npu) (nte) (nat_) (nde) (nto) (nse) (nhu) (nga) (nsd) (nfa) (nba) (npl) (nen) (nnu) (nwr) (nra) (nik) gco (w) (v) hy0 hy1 hy2 hy3 hy4 hy5 hy6 hy7 hy8 hy9 hy10 hy11 hy12 hy13 (by omega) (by omega) (by have z := hsr_9_0.mp (by omega); unfold zAsk at z; obtain ⟨z1, z2, z3⟩ := z; split at z2 <;> (repeat' split at z3) <;> omega) hp_gco H.size) (cwV 2 hts gX8_ask_X8_tells rfl rfl rfl ⟨rfl, dh_X8_tells⟩ ⟨Nat.le_of_ble_eq_true rfl, Nat.le_of_ble_eq_true rfl⟩) hK hN (hZ.kept hS) hP hD hS hA [0, 2] [1] rfl rfl (by decide) (by decide) (by decide) (va_recv (q := (RX8, TX8, 38)) hK hP (ci := 8) (q0 := 0) rfl rfl) rfl hl.1 rfl (Nat.le_of_ble_eq_true rfl) dX8_ask_35 ⟨Nat.le_of_ble_eq_true rfl, Nat.le_of_ble_eq_true rfl⟩ (fun u_15 H locs hr_14 hP hD hS => ?_)
        obtain ⟨q_16, q_17, q_18, q_19, q_20, q_21⟩ := u_15
        try dsimp only at hr_14
        obtain ⟨hbq_16, hbq_18, hbq_20, hpq_21, hsr_14_0, hsr_14_1, hr_14⟩ := hr_14
        have h9R := zRe (ws' := [(mrf, .inl (cI, 8, .inl grf)), (zMO m0 npu nte q_20 q_16 nto q_17 q_18 q_19 nsd nfa mrf mki mpa mta mla msl mco mhe mso msi msh mce mca mwo mnu mte nba npl nen nnu nwr mwa mke mma mth mtr nra nik), (mco, .inl (cI, 3, .inl q_21))]) hP hD rfl
        clear hP hD
        obtain ⟨hP, hD⟩ := h9R
        refine lv_iload_n hx hb dX8_ask_38 rfl (lv_at hl 0 rfl) ?_
        exact W.iret (v := r_13) hx hb hr (fun t ht hW => ⟨⟨r_13, (q_16, q_17, q_18, q_19, q_20, grf, q_21), rfl, ⟨(show 0 ≤ q_16.toInt ∧ q_16.toInt ≤ 24 from hbq_16), (show 0 ≤ q_18.toInt ∧ q_18.toInt ≤ 9 from hbq_18), (show 0 ≤ q_20.toInt ∧ q_20.toInt ≤ 40 from hbq_20), hpq_21, (show (zAsk w.toInt v.toInt nte.toInt ∧ (r_13 : Int32).toInt = (if w.toInt = 0 then nde.toInt else if w.toInt = 1 then nse.toInt else if w.toInt = 2 then nhu.toInt else if w.toInt = 3 then nga.toInt else if w.toInt = 7 then nat_.toInt else (gco (w.toInt - 4).toNat).toInt) ∧ (q_16.toInt = (if w.toInt = 0 then v.toInt else nde.toInt) ∧ q_17.toInt = (if w.toInt = 1 then v.toInt else nse.toInt) ∧ q_18.toInt = (if w.toInt = 2 then v.toInt else nhu.toInt) ∧ q_19.toInt = (if w.toInt = 3 then v.toInt else nga.toInt) ∧ q_20.toInt = (if w.toInt = 7 then v.toInt else nat_.toInt)) ∧ (w.toInt < 4 ∨ 6 < w.toInt → q_21 = gco) ∧ (4 ≤ w.toInt → w.toInt ≤ 6 → q_21 = upd gco (w.toInt - 4).toNat v)) ∨ (¬ zAsk w.toInt v.toInt nte.toInt ∧ (r_13 : Int32).toInt = -6 ∧ q_16 = nde ∧ q_17 = nse ∧ q_18 = nhu ∧ q_19 = nga ∧ q_20 = nat_ ∧ q_21 = gco) from by (exact Or.inl ⟨hsr_9_0.mp (by omega), hsr_13_0, hsr_14_0, hsr_14_1⟩)), trivial⟩, zRet ht hP hD [1, 0, 2] (by decide) rfl⟩, hS.F ht⟩) hS.2.2 dX8_ask_39
      · have fc_12 : r_9.toInt = 0 := zf_eq c_12 rfl (by decide)
        refine lv_aload_n hx hb dX8_ask_19 rfl (lv_at hl 0 rfl) ?_
        refine lv_bipush (v := (-6)) hx hb dX8_ask_20 (by decide) ?_
        skip
        refine zw_V (As := [.int (-6)]) (rest := []) (wr := [(mco, .inl (cI, 3, .inl gco))]) ⟨hx, hb, hml, hown, hts⟩ (c_M_no_6 l D cI cJ cZ cP cS po m0 mrf mki mpa mta mla msl mco mhe mso msi msh mce mca mwo mnu mte mwa mke mma mth mtr (npu) (nte) (nat_) (nde) (nto) (nse) (nhu) (nga) (nsd) (nfa) (nba) (npl) (nen) (nnu) (nwr) (nra) (nik) grf hy0 hy1 hy2 hy3 hy4 hy5 hy6 hy7 hy8 hy9 hy10 hy11 hy12 hy13 H.size) (cwV 1 hts gX8_ask_X8_no rfl rfl rfl ⟨rfl, dh_X8_no⟩ ⟨Nat.le_of_ble_eq_true rfl, Nat.le_of_ble_eq_true rfl⟩) hK hN (hZ.kept hS) hP hD hS hA [0, 1] [2] rfl rfl (by decide) (by decide) (by decide) (va_recv (q := (RX8, TX8, 38)) hK hP (ci := 8) (q0 := 0) rfl rfl) rfl hl.1 rfl (Nat.le_of_ble_eq_true rfl) dX8_ask_22 ⟨Nat.le_of_ble_eq_true rfl, Nat.le_of_ble_eq_true rfl⟩ (fun r_22 u_23 H locs hr_22 hP hD hS => ?_)
        obtain ⟨q_24, rfl⟩ : ∃ z, z = u_23 := ⟨_, rfl⟩
        have h9R := zRe (ws' := [(mco, .inl (cI, 3, .inl gco)), (zMO m0 npu nte nat_ nde nto nse nhu nga nsd nfa mrf mki mpa mta mla msl mco mhe mso msi msh mce mca mwo mnu mte nba npl nen nnu nwr mwa mke mma mth mtr nra nik), (mrf, .inl (cI, 8, .inl q_24))]) hP hD rfl
        clear hP hD
        obtain ⟨hP, hD⟩ := h9R
        obtain rfl := hr_22
        exact W.iret (v := (-6)) hx hb hr (fun t ht hW => ⟨⟨(-6), (nde, nse, nhu, nga, nat_, q_24, gco), rfl, ⟨(show 0 ≤ nde.toInt ∧ nde.toInt ≤ 24 from ⟨hy6, hy7⟩), (show 0 ≤ nhu.toInt ∧ nhu.toInt ≤ 9 from ⟨hy8, hy9⟩), (show 0 ≤ nat_.toInt ∧ nat_.toInt ≤ 40 from ⟨hy4, hy5⟩), hp_gco, (show (zAsk w.toInt v.toInt nte.toInt ∧ ((-6) : Int32).toInt = (if w.toInt = 0 then nde.toInt else if w.toInt = 1 then nse.toInt else if w.toInt = 2 then nhu.toInt else if w.toInt = 3 then nga.toInt else if w.toInt = 7 then nat_.toInt else (gco (w.toInt - 4).toNat).toInt) ∧ (nde.toInt = (if w.toInt = 0 then v.toInt else nde.toInt) ∧ nse.toInt = (if w.toInt = 1 then v.toInt else nse.toInt) ∧ nhu.toInt = (if w.toInt = 2 then v.toInt else nhu.toInt) ∧ nga.toInt = (if w.toInt = 3 then v.toInt else nga.toInt) ∧ nat_.toInt = (if w.toInt = 7 then v.toInt else nat_.toInt)) ∧ (w.toInt < 4 ∨ 6 < w.toInt → gco = gco) ∧ (4 ≤ w.toInt → w.toInt ≤ 6 → gco = upd gco (w.toInt - 4).toNat v)) ∨ (¬ zAsk w.toInt v.toInt nte.toInt ∧ ((-6) : Int32).toInt = -6 ∧ nde = nde ∧ nse = nse ∧ nhu = nhu ∧ nga = nga ∧ nat_ = nat_ ∧ gco = gco) from by (have k9 : ((-6) : Int32).toInt = -6 := (by decide); exact Or.inr ⟨(fun z => by (have z1 := hsr_9_0.mpr z; omega)), by omega, rfl, rfl, rfl, rfl, rfl, rfl⟩)), trivial⟩, zRet ht hP hD [1, 2, 0] (by decide) rfl⟩, hS.F ht⟩) hS.2.2 dX8_ask_25
set_option maxHeartbeats 4000000 in
set_option maxRecDepth 100000 in
theorem c_F_M_stitch (l : Launch) (D : va_G) (cI cJ cZ cP cS : ClassId) (po : zPool) (m0 mrf mki mpa mta mla msl mco mhe mso msi msh mce mca mwo mnu mte mwa mke mma mth mtr : Nat) (npu nte nat_ nde nto nse nhu nga nsd nfa nba npl nen nnu nwr nra nik : Int32) (grf gsl : Nat → Int32) (t_ : Int32) (hy0 : 0 ≤ npu.toInt) (hy1 : npu.toInt ≤ 8) (hy2 : 4 ≤ nte.toInt) (hy3 : nte.toInt ≤ 40) (hy4 : 0 ≤ nat_.toInt) (hy5 : nat_.toInt ≤ 40) (hy6 : 0 ≤ nde.toInt) (hy7 : nde.toInt ≤ 24) (hy8 : 0 ≤ nhu.toInt) (hy9 : nhu.toInt ≤ 9) (hy10 : 0 ≤ nra.toInt) (hy11 : nra.toInt ≤ 2000) (hy12 : 0 ≤ nik.toInt) (hy13 : nik.toInt ≤ 1) (hp_gsl : zRg gsl (0) 9) (hpz : Nat) : Met l yX8_stitch wsX8_stitch ({ frames := 1, cells := 0, slots := 0, locals := 21 }) (va_Pc [.ref m0, .int t_] (zW D (zKT cI cJ cZ cP cS) po [(zMO m0 npu nte nat_ nde nto nse nhu nga nsd nfa mrf mki mpa mta mla msl mco mhe mso msi msh mce mca mwo mnu mte nba npl nen nnu nwr mwa mke mma mth mtr nra nik), (mrf, .inl (cI, 8, .inl grf)), (msl, .inl (cI, 40, .inl gsl))] hpz)) (va_Qi (fun (r : Int32) (u : (Nat → Int32) × (Nat → Int32)) => zRg u.2 (0) 9 ∧ (((0 ≤ t_.toInt ∧ t_.toInt < nte.toInt) ∧ r.toInt = zTk gsl nte.toInt (t_.toInt - 2) 5 ∧ (∀ j : Nat, u.2 j = (if t_.toInt - 2 ≤ (j : Int) ∧ (j : Int) ≤ t_.toInt + 2 ∧ (j : Int) < nte.toInt then 0 else gsl j))) ∨ (¬ (0 ≤ t_.toInt ∧ t_.toInt < nte.toInt) ∧ r.toInt = -1 ∧ u.2 = gsl)) ∧ (True)) (zB D [(zMO m0 npu nte nat_ nde nto nse nhu nga nsd nfa mrf mki mpa mta mla msl mco mhe mso msi msh mce mca mwo mnu mte nba npl nen nnu nwr mwa mke mma mth mtr nra nik), (mrf, .inl (cI, 8, .inl grf)), (msl, .inl (cI, 40, .inl gsl))] hpz (fun (u : (Nat → Int32) × (Nat → Int32)) => [(zMO m0 npu nte nat_ nde nto nse nhu nga nsd nfa mrf mki mpa mta mla msl mco mhe mso msi msh mce mca mwo mnu mte nba npl nen nnu nwr mwa mke mma mth mtr nra nik), (mrf, .inl (cI, 8, .inl u.1)), (msl, .inl (cI, 40, .inl u.2))])) (va_A [(zMO m0 npu nte nat_ nde nto nse nhu nga nsd nfa mrf mki mpa mta mla msl mco mhe mso msi msh mce mca mwo mnu mte nba npl nen nnu nwr mwa mke mma mth mtr nra nik), (mrf, .inl (cI, 8, .inl grf)), (msl, .inl (cI, 40, .inl gsl))] hpz)) 0 0 (va_A [(zMO m0 npu nte nat_ nde nto nse nhu nga nsd nfa mrf mki mpa mta mla msl mco mhe mso msi msh mce mca mwo mnu mte nba npl nen nnu nwr mwa mke mma mth mtr nra nik), (mrf, .inl (cI, 8, .inl grf)), (msl, .inl (cI, 40, .inl gsl))] hpz) := by
  refine Met.ofW (cc := cX8_stitch) (maxL := 4) (ret := (some .int)) (by decide) rfl ?_
  intro p e s m args below meth c s₁ B hml hv
  obtain ⟨rfl, hsz, hP, hK, hD0, hN, hZ⟩ := hv
  have hx := B.exec
  have hb := B.bytes
  have hr := B.returns
  have hts := atoms_spec (ws := wsX8_stitch) B.pre
  have hown : s.vm.findClass RX8 = some m.cls := findClass_of_methodNamed B.named
  have hlocks := B.notSynchronized
  subst hsz
  have hD := hD0.self (sz := s.heap.size)
  have hA := zA_of hD
  have hl := lv_entry ([.ref m0, .int t_]) (n := 4) (Nat.le_of_ble_eq_true rfl)
  rw [lg_entry_eq]
  generalize (lg_sl ([.ref m0, .int t_]) ++ List.replicate (4 - (lg_sl ([.ref m0, .int t_])).length) Slot.unset).toArray = ls at hl ⊢
  replace hl : lv_has ls 4 [(0, .ref m0), (1, .int t_)] := hl
  refine zw_begin hP hD (fun H locs hP1 hS => ?_)
  clear hP
  have hP := hP1
  clear hP1
  refine lv_aload_n hx hb dX8_stitch_0 rfl (lv_at hl 0 rfl) ?_
  refine lv_iload_n hx hb dX8_stitch_1 rfl (lv_at hl 1 rfl) ?_
  refine zc_V (As := [.int t_]) (rest := []) ⟨hx, hb, hml, hown, hts⟩ (c_M_isTooth l D cI cJ cZ cP cS po m0 mrf mki mpa mta mla msl mco mhe mso msi msh mce mca mwo mnu mte mwa mke mma mth mtr (npu) (nte) (nat_) (nde) (nto) (nse) (nhu) (nga) (nsd) (nfa) (nba) (npl) (nen) (nnu) (nwr) (nra) (nik) (t_) hy0 hy1 hy2 hy3 hy4 hy5 hy6 hy7 hy8 hy9 hy10 hy11 hy12 hy13) (cwV 1 hts gX8_stitch_X8_isTooth rfl rfl rfl ⟨rfl, dh_X8_isTooth⟩ ⟨Nat.le_of_ble_eq_true rfl, Nat.le_of_ble_eq_true rfl⟩) hK hN (hZ.kept hS) hP (hP.sub [0] rfl) (va_recv (q := (RX8, TX8, 38)) hK hP (ci := 8) (q0 := 0) rfl rfl) rfl hl.1 rfl (Nat.le_of_ble_eq_true rfl) dX8_stitch_2 ⟨Nat.le_of_ble_eq_true rfl, Nat.le_of_ble_eq_true rfl⟩ (fun r_1 hr_1 => ?_)
  rcases hr_1 with ⟨rfl, g_2⟩ | ⟨rfl, g_3, g_4⟩ | ⟨rfl, g_5, g_6⟩
  · refine lv_if_ne (tgt := 14) hx hb dX8_stitch_5 (by decide) (fun c_7 => ?_) (fun c_7 => ?_)
    · exact absurd c_7 (by decide)
    · refine lv_aload_n hx hb dX8_stitch_8 rfl (lv_at hl 0 rfl) ?_
      refine lv_iconst (v := (-1)) hx hb dX8_stitch_9 (by decide) ?_
      skip
      refine zw_V (As := [.int (-1)]) (rest := []) (wr := [(msl, .inl (cI, 40, .inl gsl))]) ⟨hx, hb, hml, hown, hts⟩ (c_M_no_1 l D cI cJ cZ cP cS po m0 mrf mki mpa mta mla msl mco mhe mso msi msh mce mca mwo mnu mte mwa mke mma mth mtr (npu) (nte) (nat_) (nde) (nto) (nse) (nhu) (nga) (nsd) (nfa) (nba) (npl) (nen) (nnu) (nwr) (nra) (nik) grf hy0 hy1 hy2 hy3 hy4 hy5 hy6 hy7 hy8 hy9 hy10 hy11 hy12 hy13 H.size) (cwV 1 hts gX8_stitch_X8_no rfl rfl rfl ⟨rfl, dh_X8_no⟩ ⟨Nat.le_of_ble_eq_true rfl, Nat.le_of_ble_eq_true rfl⟩) hK hN (hZ.kept hS) hP hD hS hA [0, 1] [2] rfl rfl (by decide) (by decide) (by decide) (va_recv (q := (RX8, TX8, 38)) hK hP (ci := 8) (q0 := 0) rfl rfl) rfl hl.1 rfl (Nat.le_of_ble_eq_true rfl) dX8_stitch_10 ⟨Nat.le_of_ble_eq_true rfl, Nat.le_of_ble_eq_true rfl⟩ (fun r_8 u_9 H locs hr_8 hP hD hS => ?_)
      obtain ⟨q_10, rfl⟩ : ∃ z, z = u_9 := ⟨_, rfl⟩
      have h9R := zRe (ws' := [(msl, .inl (cI, 40, .inl gsl)), (zMO m0 npu nte nat_ nde nto nse nhu nga nsd nfa mrf mki mpa mta mla msl mco mhe mso msi msh mce mca mwo mnu mte nba npl nen nnu nwr mwa mke mma mth mtr nra nik), (mrf, .inl (cI, 8, .inl q_10))]) hP hD rfl
      clear hP hD
      obtain ⟨hP, hD⟩ := h9R
      obtain rfl := hr_8
      exact W.iret (v := (-1)) hx hb hr (fun t ht hW => ⟨⟨(-1), (q_10, gsl), rfl, ⟨hp_gsl, (show ((0 ≤ t_.toInt ∧ t_.toInt < nte.toInt) ∧ ((-1) : Int32).toInt = zTk gsl nte.toInt (t_.toInt - 2) 5 ∧ (∀ j : Nat, gsl j = (if t_.toInt - 2 ≤ (j : Int) ∧ (j : Int) ≤ t_.toInt + 2 ∧ (j : Int) < nte.toInt then 0 else gsl j))) ∨ (¬ (0 ≤ t_.toInt ∧ t_.toInt < nte.toInt) ∧ ((-1) : Int32).toInt = -1 ∧ gsl = gsl) from by (have k9 : ((-1) : Int32).toInt = -1 := (by decide); exact Or.inr ⟨by omega, by omega, rfl⟩)), trivial⟩, zRet ht hP hD [1, 2, 0] (by decide) rfl⟩, hS.F ht⟩) hS.2.2 dX8_stitch_13
  · refine lv_if_ne (tgt := 14) hx hb dX8_stitch_5 (by decide) (fun c_11 => ?_) (fun c_11 => ?_)
    · exact absurd c_11 (by decide)
    · refine lv_aload_n hx hb dX8_stitch_8 rfl (lv_at hl 0 rfl) ?_
      refine lv_iconst (v := (-1)) hx hb dX8_stitch_9 (by decide) ?_
      skip
      refine zw_V (As := [.int (-1)]) (rest := []) (wr := [(msl, .inl (cI, 40, .inl gsl))]) ⟨hx, hb, hml, hown, hts⟩ (c_M_no_1 l D cI cJ cZ cP cS po m0 mrf mki mpa mta mla msl mco mhe mso msi msh mce mca mwo mnu mte mwa mke mma mth mtr (npu) (nte) (nat_) (nde) (nto) (nse) (nhu) (nga) (nsd) (nfa) (nba) (npl) (nen) (nnu) (nwr) (nra) (nik) grf hy0 hy1 hy2 hy3 hy4 hy5 hy6 hy7 hy8 hy9 hy10 hy11 hy12 hy13 H.size) (cwV 1 hts gX8_stitch_X8_no rfl rfl rfl ⟨rfl, dh_X8_no⟩ ⟨Nat.le_of_ble_eq_true rfl, Nat.le_of_ble_eq_true rfl⟩) hK hN (hZ.kept hS) hP hD hS hA [0, 1] [2] rfl rfl (by decide) (by decide) (by decide) (va_recv (q := (RX8, TX8, 38)) hK hP (ci := 8) (q0 := 0) rfl rfl) rfl hl.1 rfl (Nat.le_of_ble_eq_true rfl) dX8_stitch_10 ⟨Nat.le_of_ble_eq_true rfl, Nat.le_of_ble_eq_true rfl⟩ (fun r_12 u_13 H locs hr_12 hP hD hS => ?_)
      obtain ⟨q_14, rfl⟩ : ∃ z, z = u_13 := ⟨_, rfl⟩
      have h9R := zRe (ws' := [(msl, .inl (cI, 40, .inl gsl)), (zMO m0 npu nte nat_ nde nto nse nhu nga nsd nfa mrf mki mpa mta mla msl mco mhe mso msi msh mce mca mwo mnu mte nba npl nen nnu nwr mwa mke mma mth mtr nra nik), (mrf, .inl (cI, 8, .inl q_14))]) hP hD rfl
      clear hP hD
      obtain ⟨hP, hD⟩ := h9R
      obtain rfl := hr_12
      exact W.iret (v := (-1)) hx hb hr (fun t ht hW => ⟨⟨(-1), (q_14, gsl), rfl, ⟨hp_gsl, (show ((0 ≤ t_.toInt ∧ t_.toInt < nte.toInt) ∧ ((-1) : Int32).toInt = zTk gsl nte.toInt (t_.toInt - 2) 5 ∧ (∀ j : Nat, gsl j = (if t_.toInt - 2 ≤ (j : Int) ∧ (j : Int) ≤ t_.toInt + 2 ∧ (j : Int) < nte.toInt then 0 else gsl j))) ∨ (¬ (0 ≤ t_.toInt ∧ t_.toInt < nte.toInt) ∧ ((-1) : Int32).toInt = -1 ∧ gsl = gsl) from by (have k9 : ((-1) : Int32).toInt = -1 := (by decide); exact Or.inr ⟨by omega, by omega, rfl⟩)), trivial⟩, zRet ht hP hD [1, 2, 0] (by decide) rfl⟩, hS.F ht⟩) hS.2.2 dX8_stitch_13
  · refine lv_if_ne (tgt := 14) hx hb dX8_stitch_5 (by decide) (fun c_15 => ?_) (fun c_15 => ?_)
    · refine lv_iconst (v := 0) hx hb dX8_stitch_14 (by decide) ?_
      refine lv_istore_n (lv' := [(2, .int 0), (0, .ref m0), (1, .int t_)]) hx hb dX8_stitch_15 rfl hl (by decide) rfl (fun ls hl => ?_)
      refine lv_iload_n hx hb dX8_stitch_16 rfl (lv_at hl 2 rfl) ?_
      refine lv_iconst (v := 2) hx hb dX8_stitch_17 (by decide) ?_
      refine lv_isub hx hb dX8_stitch_18 ?_
      refine lv_topi (fun x_16 ex_16 => ?_)
      have qx_16 : x_16.toInt = t_.toInt - 2 := by rw [ex_16]; exact zf_sub rfl (by decide) (by omega) (by omega)
      refine lv_istore_n (lv' := [(3, .int x_16), (2, .int 0), (0, .ref m0), (1, .int t_)]) hx hb dX8_stitch_19 rfl hl (by decide) rfl (fun ls hl => ?_)
      obtain ⟨i_20, hi_20⟩ : ∃ i : Int32, i = x_16 := ⟨_, rfl⟩
      replace hl : lv_has ls 4 [(3, .int i_20), (2, .int 0), (0, .ref m0), (1, .int t_)] := by rw [hi_20]; exact lv_sub hl [0, 1, 2, 3] rfl
      have h1i_20 : i_20.toInt = x_16.toInt := by rw [hi_20]
      obtain ⟨nfu, hni_20⟩ : ∃ nq9 : Nat, t_.toInt + 3 ≤ i_20.toInt + (nq9 : Int) := ⟨((t_.toInt + 3 : Int) - x_16.toInt).toNat, by omega⟩
      have hloi_20 : -2 ≤ i_20.toInt := by omega
      obtain ⟨g_17, hg_17⟩ : ∃ g : Nat → Int32, g = gsl := ⟨_, rfl⟩
      have hpg_17 : zRg g_17 (0) 9 := by rw [hg_17]; exact hp_gsl
      replace hP : va_P D vwCl [(zMO m0 npu nte nat_ nde nto nse nhu nga nsd nfa mrf mki mpa mta mla msl mco mhe mso msi msh mce mca mwo mnu mte nba npl nen nnu nwr mwa mke mma mth mtr nra nik), (mrf, .inl (cI, 8, .inl grf)), (msl, .inl (cI, 40, .inl g_17))] H := by rw [hg_17]; exact hP
      replace hD : va_D (va_A [(zMO m0 npu nte nat_ nde nto nse nhu nga nsd nfa mrf mki mpa mta mla msl mco mhe mso msi msh mce mca mwo mnu mte nba npl nen nnu nwr mwa mke mma mth mtr nra nik), (mrf, .inl (cI, 8, .inl grf)), (msl, .inl (cI, 40, .inl gsl))] s.heap.size) [(zMO m0 npu nte nat_ nde nto nse nhu nga nsd nfa mrf mki mpa mta mla msl mco mhe mso msi msh mce mca mwo mnu mte nba npl nen nnu nwr mwa mke mma mth mtr nra nik), (mrf, .inl (cI, 8, .inl grf)), (msl, .inl (cI, 40, .inl g_17))] := by rw [hg_17]; exact hD
      obtain ⟨v_18, hv_18⟩ : ∃ g : Int32, g = 0 := ⟨_, rfl⟩
      replace hl : lv_has ls 4 [(3, .int i_20), (2, .int v_18), (0, .ref m0), (1, .int t_)] := by rw [hv_18]; exact hl
      have hbv_18 : 0 ≤ v_18.toInt ∧ v_18.toInt ≤ 45 := by rw [hv_18]; exact ⟨by decide, by decide⟩
      have hvi_20_0 : (v_18 : Int32).toInt = zTk gsl nte.toInt (t_.toInt - 2) (i_20.toInt - (t_.toInt - 2)).toNat := by
        (try rw [hi_20]); (try rw [hg_17]); (try rw [hv_18]); (exact Eq.trans (show (0 : Int32).toInt = zTk gsl nte.toInt (t_.toInt - 2) 0 from (by decide : (0 : Int32).toInt = 0)) (congrArg _ (by omega)))
      have hvi_20_1 : (∀ j : Nat, g_17 j = (if t_.toInt - 2 ≤ (j : Int) ∧ (j : Int) < i_20.toInt ∧ (j : Int) < nte.toInt then 0 else gsl j)) := by
        (try rw [hi_20]); (try rw [hg_17]); (try rw [hv_18]); (intro j; rw [if_neg (by omega)])
      have hvi_20_2 : t_.toInt - 2 ≤ i_20.toInt ∧ i_20.toInt ≤ t_.toInt + 3 ∧ (v_18 : Int32).toInt ≤ 9 * (i_20.toInt - (t_.toInt - 2)) := by
        (try rw [hi_20]); (try rw [hg_17]); (try rw [hv_18]); (have k0 : (0 : Int32).toInt = 0 := (by decide); omega)
      clear h1i_20 hi_20 hg_17 hv_18
      skip
      revert hni_20
      revert hloi_20
      revert hvi_20_2
      revert hvi_20_1
      revert hvi_20_0
      revert hbv_18
      revert hpg_17
      revert hl
      revert hS
      revert hD
      revert hP
      revert ls
      revert locs
      revert H
      revert g_17
      revert v_18
      revert i_20
      induction nfu with
      | zero =>
        intro i_20 v_18 g_17 H locs ls hP hD hS hl hpg_17 hbv_18 hvi_20_0 hvi_20_1 hvi_20_2 hloi_20 hni_20
        have hzi_20 : t_.toInt + 3 ≤ i_20.toInt := by omega
        refine lv_iload_n hx hb dX8_stitch_20 rfl (lv_at hl 0 rfl) ?_
        refine lv_iload_n hx hb dX8_stitch_21 rfl (lv_at hl 3 rfl) ?_
        refine lv_iconst (v := 2) hx hb dX8_stitch_22 (by decide) ?_
        refine lv_iadd hx hb dX8_stitch_23 ?_
        refine lv_topi (fun x_19 ex_19 => ?_)
        have qx_19 : x_19.toInt = t_.toInt + 2 := by rw [ex_19]; exact zf_add rfl (by decide) (by omega) (by omega)
        refine lv_icmp_gt (tgt := 60) hx hb dX8_stitch_24 (by decide) (fun c_20 => ?_) (fun c_20 => ?_)
        · have fc_20 : x_19.toInt < i_20.toInt := zf_lt c_20 rfl rfl
          refine lv_iload_n hx hb dX8_stitch_60 rfl (lv_at hl 1 rfl) ?_
          exact W.iret (v := v_18) hx hb hr (fun t ht hW => ⟨⟨v_18, (grf, g_17), rfl, ⟨hpg_17, (show ((0 ≤ t_.toInt ∧ t_.toInt < nte.toInt) ∧ (v_18 : Int32).toInt = zTk gsl nte.toInt (t_.toInt - 2) 5 ∧ (∀ j : Nat, g_17 j = (if t_.toInt - 2 ≤ (j : Int) ∧ (j : Int) ≤ t_.toInt + 2 ∧ (j : Int) < nte.toInt then 0 else gsl j))) ∨ (¬ (0 ≤ t_.toInt ∧ t_.toInt < nte.toInt) ∧ (v_18 : Int32).toInt = -1 ∧ g_17 = gsl) from by (have h9 : (i_20.toInt - (t_.toInt - 2)).toNat = 5 := (by omega); have z := hvi_20_0; rw [h9] at z; refine Or.inl ⟨by omega, z, fun j => ?_⟩; have z2 := hvi_20_1 j; rw [z2]; by_cases c : t_.toInt - 2 ≤ (j : Int) ∧ (j : Int) < i_20.toInt ∧ (j : Int) < nte.toInt; (rw [if_pos c, if_pos (by omega)]); (rw [if_neg c, if_neg (by omega)]))), trivial⟩, zRet ht hP hD [0, 1, 2] (by decide) rfl⟩, hS.F ht⟩) hS.2.2 dX8_stitch_61
        · have fc_20 : i_20.toInt ≤ x_19.toInt := zf_nlt c_20 rfl rfl
          refine lv_aload_n hx hb dX8_stitch_27 rfl (lv_at hl 2 rfl) ?_
          refine lv_iload_n hx hb dX8_stitch_28 rfl (lv_at hl 0 rfl) ?_
          refine zc_V (As := [.int i_20]) (rest := []) ⟨hx, hb, hml, hown, hts⟩ (c_M_isTooth l D cI cJ cZ cP cS po m0 mrf mki mpa mta mla msl mco mhe mso msi msh mce mca mwo mnu mte mwa mke mma mth mtr (npu) (nte) (nat_) (nde) (nto) (nse) (nhu) (nga) (nsd) (nfa) (nba) (npl) (nen) (nnu) (nwr) (nra) (nik) (i_20) hy0 hy1 hy2 hy3 hy4 hy5 hy6 hy7 hy8 hy9 hy10 hy11 hy12 hy13) (cwV 1 hts gX8_stitch_X8_isTooth rfl rfl rfl ⟨rfl, dh_X8_isTooth⟩ ⟨Nat.le_of_ble_eq_true rfl, Nat.le_of_ble_eq_true rfl⟩) hK hN (hZ.kept hS) hP (hP.sub [0] rfl) (va_recv (q := (RX8, TX8, 38)) hK hP (ci := 8) (q0 := 0) rfl rfl) rfl hl.1 rfl (Nat.le_of_ble_eq_true rfl) dX8_stitch_29 ⟨Nat.le_of_ble_eq_true rfl, Nat.le_of_ble_eq_true rfl⟩ (fun r_21 hr_21 => ?_)
          rcases hr_21 with ⟨rfl, g_22⟩ | ⟨rfl, g_23, g_24⟩ | ⟨rfl, g_25, g_26⟩
          · refine lv_if_ne (tgt := 38) hx hb dX8_stitch_32 (by decide) (fun c_27 => ?_) (fun c_27 => ?_)
            · exact absurd c_27 (by decide)
            · refine lv_goto (tgt := 54) hx hb dX8_stitch_35 (by decide) ?_
              obtain ⟨x_28, ex_28⟩ : ∃ y : Int32, y = i_20 + 1 := ⟨_, rfl⟩
              have rax_28 := zf_rng i_20
              have qx_28 : x_28.toInt = i_20.toInt + 1 := by rw [ex_28]; exact zf_add rfl (by decide) (by omega) (by omega)
              refine lv_iinc (v := x_28) (lv' := [(3, .int x_28), (2, .int v_18), (0, .ref m0), (1, .int t_)]) hx hb dX8_stitch_54 hl (k := 0) rfl ex_28.symm (by decide) rfl (fun ls hl => ?_)
              refine lv_goto (tgt := 20) hx hb dX8_stitch_57 (by decide) ?_
              exfalso; omega
          · refine lv_if_ne (tgt := 38) hx hb dX8_stitch_32 (by decide) (fun c_29 => ?_) (fun c_29 => ?_)
            · exact absurd c_29 (by decide)
            · refine lv_goto (tgt := 54) hx hb dX8_stitch_35 (by decide) ?_
              obtain ⟨x_30, ex_30⟩ : ∃ y : Int32, y = i_20 + 1 := ⟨_, rfl⟩
              have qx_30 : x_30.toInt = i_20.toInt + 1 := by rw [ex_30]; exact zf_add rfl (by decide) (by omega) (by omega)
              refine lv_iinc (v := x_30) (lv' := [(3, .int x_30), (2, .int v_18), (0, .ref m0), (1, .int t_)]) hx hb dX8_stitch_54 hl (k := 0) rfl ex_30.symm (by decide) rfl (fun ls hl => ?_)
              refine lv_goto (tgt := 20) hx hb dX8_stitch_57 (by decide) ?_
              exfalso; omega
          · refine lv_if_ne (tgt := 38) hx hb dX8_stitch_32 (by decide) (fun c_31 => ?_) (fun c_31 => ?_)
            · refine lv_iload_n hx hb dX8_stitch_38 rfl (lv_at hl 1 rfl) ?_
              refine lv_aload_n hx hb dX8_stitch_39 rfl (lv_at hl 2 rfl) ?_
              refine va_get (D := D) (ci := 8) (v := .ref msl) (C := RX8) (T := TX8) (N := 38) hx hb hts hi_X8_stitch_8 hown hK hP 0 rfl rfl 15 (by decide) (hts (.fieldLink RX8 41 "TheLiningsInItModel" "slack" "[I") (List.mem_of_getElem? (i := 1) rfl)) (fun _ h9 => h9) rfl dX8_stitch_40 ?_
              refine lv_iload_n hx hb dX8_stitch_43 rfl (lv_at hl 0 rfl) ?_
              refine va_iald hx hb hK hP 2 0 rfl rfl (zf_in (by omega) (by omega)) dX8_stitch_44 ?_
              refine lv_topi (fun x_32 ex_32 => ?_)
              have bx_32 : 0 ≤ x_32.toInt ∧ x_32.toInt ≤ 9 := by rw [ex_32]; exact hpg_17 _
              refine lv_iadd hx hb dX8_stitch_45 ?_
              refine lv_topi (fun x_33 ex_33 => ?_)
              have qx_33 : x_33.toInt = v_18.toInt + x_32.toInt := by rw [ex_33]; exact zf_add rfl rfl (by omega) (by omega)
              refine lv_istore_n (lv' := [(2, .int x_33), (3, .int i_20), (0, .ref m0), (1, .int t_)]) hx hb dX8_stitch_46 rfl hl (by decide) rfl (fun ls hl => ?_)
              refine lv_aload_n hx hb dX8_stitch_47 rfl (lv_at hl 2 rfl) ?_
              refine va_get (D := D) (ci := 8) (v := .ref msl) (C := RX8) (T := TX8) (N := 38) hx hb hts hi_X8_stitch_8 hown hK hP 0 rfl rfl 15 (by decide) (hts (.fieldLink RX8 41 "TheLiningsInItModel" "slack" "[I") (List.mem_of_getElem? (i := 1) rfl)) (fun _ h9 => h9) rfl dX8_stitch_48 ?_
              refine lv_iload_n hx hb dX8_stitch_51 rfl (lv_at hl 1 rfl) ?_
              refine lv_iconst (v := 0) hx hb dX8_stitch_52 (by decide) ?_
              refine va_iast hx hb hK hP hD hS 2 0 rfl rfl (zf_in (by omega) (by omega)) dX8_stitch_53 (fun H locs hP hD hS => ?_)
              have hpg_34 : zRg (upd g_17 i_20.toNatClampNeg 0) (0) 9 := zRg_upd hpg_17 (by decide) (by decide)
              obtain ⟨g_34, hg_34⟩ : ∃ g : Nat → Int32, g = upd g_17 i_20.toNatClampNeg 0 := ⟨_, rfl⟩
              rw [← hg_34] at hP hD hpg_34
              have h9R := zRe (ws' := [(zMO m0 npu nte nat_ nde nto nse nhu nga nsd nfa mrf mki mpa mta mla msl mco mhe mso msi msh mce mca mwo mnu mte nba npl nen nnu nwr mwa mke mma mth mtr nra nik), (mrf, .inl (cI, 8, .inl grf)), (msl, .inl (cI, 40, .inl g_34))]) hP hD rfl
              clear hP hD
              obtain ⟨hP, hD⟩ := h9R
              obtain ⟨x_35, ex_35⟩ : ∃ y : Int32, y = i_20 + 1 := ⟨_, rfl⟩
              have qx_35 : x_35.toInt = i_20.toInt + 1 := by rw [ex_35]; exact zf_add rfl (by decide) (by omega) (by omega)
              refine lv_iinc (v := x_35) (lv' := [(3, .int x_35), (2, .int x_33), (0, .ref m0), (1, .int t_)]) hx hb dX8_stitch_54 hl (k := 1) rfl ex_35.symm (by decide) rfl (fun ls hl => ?_)
              refine lv_goto (tgt := 20) hx hb dX8_stitch_57 (by decide) ?_
              exfalso; omega
            · exact absurd c_31 (by decide)
      | succ nfu ih =>
        intro i_20 v_18 g_17 H locs ls hP hD hS hl hpg_17 hbv_18 hvi_20_0 hvi_20_1 hvi_20_2 hloi_20 hni_20
        refine lv_iload_n hx hb dX8_stitch_20 rfl (lv_at hl 0 rfl) ?_
        refine lv_iload_n hx hb dX8_stitch_21 rfl (lv_at hl 3 rfl) ?_
        refine lv_iconst (v := 2) hx hb dX8_stitch_22 (by decide) ?_
        refine lv_iadd hx hb dX8_stitch_23 ?_
        refine lv_topi (fun x_36 ex_36 => ?_)
        have qx_36 : x_36.toInt = t_.toInt + 2 := by rw [ex_36]; exact zf_add rfl (by decide) (by omega) (by omega)
        refine lv_icmp_gt (tgt := 60) hx hb dX8_stitch_24 (by decide) (fun c_37 => ?_) (fun c_37 => ?_)
        · have fc_37 : x_36.toInt < i_20.toInt := zf_lt c_37 rfl rfl
          refine lv_iload_n hx hb dX8_stitch_60 rfl (lv_at hl 1 rfl) ?_
          exact W.iret (v := v_18) hx hb hr (fun t ht hW => ⟨⟨v_18, (grf, g_17), rfl, ⟨hpg_17, (show ((0 ≤ t_.toInt ∧ t_.toInt < nte.toInt) ∧ (v_18 : Int32).toInt = zTk gsl nte.toInt (t_.toInt - 2) 5 ∧ (∀ j : Nat, g_17 j = (if t_.toInt - 2 ≤ (j : Int) ∧ (j : Int) ≤ t_.toInt + 2 ∧ (j : Int) < nte.toInt then 0 else gsl j))) ∨ (¬ (0 ≤ t_.toInt ∧ t_.toInt < nte.toInt) ∧ (v_18 : Int32).toInt = -1 ∧ g_17 = gsl) from by (have h9 : (i_20.toInt - (t_.toInt - 2)).toNat = 5 := (by omega); have z := hvi_20_0; rw [h9] at z; refine Or.inl ⟨by omega, z, fun j => ?_⟩; have z2 := hvi_20_1 j; rw [z2]; by_cases c : t_.toInt - 2 ≤ (j : Int) ∧ (j : Int) < i_20.toInt ∧ (j : Int) < nte.toInt; (rw [if_pos c, if_pos (by omega)]); (rw [if_neg c, if_neg (by omega)]))), trivial⟩, zRet ht hP hD [0, 1, 2] (by decide) rfl⟩, hS.F ht⟩) hS.2.2 dX8_stitch_61
        · have fc_37 : i_20.toInt ≤ x_36.toInt := zf_nlt c_37 rfl rfl
          refine lv_aload_n hx hb dX8_stitch_27 rfl (lv_at hl 2 rfl) ?_
          refine lv_iload_n hx hb dX8_stitch_28 rfl (lv_at hl 0 rfl) ?_
          refine zc_V (As := [.int i_20]) (rest := []) ⟨hx, hb, hml, hown, hts⟩ (c_M_isTooth l D cI cJ cZ cP cS po m0 mrf mki mpa mta mla msl mco mhe mso msi msh mce mca mwo mnu mte mwa mke mma mth mtr (npu) (nte) (nat_) (nde) (nto) (nse) (nhu) (nga) (nsd) (nfa) (nba) (npl) (nen) (nnu) (nwr) (nra) (nik) (i_20) hy0 hy1 hy2 hy3 hy4 hy5 hy6 hy7 hy8 hy9 hy10 hy11 hy12 hy13) (cwV 1 hts gX8_stitch_X8_isTooth rfl rfl rfl ⟨rfl, dh_X8_isTooth⟩ ⟨Nat.le_of_ble_eq_true rfl, Nat.le_of_ble_eq_true rfl⟩) hK hN (hZ.kept hS) hP (hP.sub [0] rfl) (va_recv (q := (RX8, TX8, 38)) hK hP (ci := 8) (q0 := 0) rfl rfl) rfl hl.1 rfl (Nat.le_of_ble_eq_true rfl) dX8_stitch_29 ⟨Nat.le_of_ble_eq_true rfl, Nat.le_of_ble_eq_true rfl⟩ (fun r_38 hr_38 => ?_)
          rcases hr_38 with ⟨rfl, g_39⟩ | ⟨rfl, g_40, g_41⟩ | ⟨rfl, g_42, g_43⟩
          · refine lv_if_ne (tgt := 38) hx hb dX8_stitch_32 (by decide) (fun c_44 => ?_) (fun c_44 => ?_)
            · exact absurd c_44 (by decide)
            · refine lv_goto (tgt := 54) hx hb dX8_stitch_35 (by decide) ?_
              obtain ⟨x_45, ex_45⟩ : ∃ y : Int32, y = i_20 + 1 := ⟨_, rfl⟩
              have qx_45 : x_45.toInt = i_20.toInt + 1 := by rw [ex_45]; exact zf_add rfl (by decide) (by omega) (by omega)
              refine lv_iinc (v := x_45) (lv' := [(3, .int x_45), (2, .int v_18), (0, .ref m0), (1, .int t_)]) hx hb dX8_stitch_54 hl (k := 0) rfl ex_45.symm (by decide) rfl (fun ls hl => ?_)
              refine lv_goto (tgt := 20) hx hb dX8_stitch_57 (by decide) ?_
              exact ih x_45 v_18 (g_17) _ _ _ (hP.sub [0, 1, 2] rfl) (hD.sub [0, 1, 2] (by decide) rfl) hS (lv_sub hl [0, 1, 2, 3] rfl) hpg_17 hbv_18 (show (v_18 : Int32).toInt = zTk gsl nte.toInt (t_.toInt - 2) (x_45.toInt - (t_.toInt - 2)).toNat from by (rw [show (x_45.toInt - (t_.toInt - 2)).toNat = (i_20.toInt - (t_.toInt - 2)).toNat + 1 from by omega, zTk_s, show t_.toInt - 2 + (((i_20.toInt - (t_.toInt - 2)).toNat : Nat) : Int) = i_20.toInt from by omega]; rw [if_neg (by omega)]; omega)) (show (∀ j : Nat, g_17 j = (if t_.toInt - 2 ≤ (j : Int) ∧ (j : Int) < x_45.toInt ∧ (j : Int) < nte.toInt then 0 else gsl j)) from by (intro j; have z := hvi_20_1 j; rw [z]; by_cases c : t_.toInt - 2 ≤ (j : Int) ∧ (j : Int) < i_20.toInt ∧ (j : Int) < nte.toInt; (rw [if_pos c, if_pos (by omega)]); (rw [if_neg c, if_neg (by omega)]))) (show t_.toInt - 2 ≤ x_45.toInt ∧ x_45.toInt ≤ t_.toInt + 3 ∧ (v_18 : Int32).toInt ≤ 9 * (x_45.toInt - (t_.toInt - 2)) from by exact ⟨by omega, by omega, by omega⟩) (dw_lo hloi_20 qx_45) (dw_hn hni_20 qx_45)
          · refine lv_if_ne (tgt := 38) hx hb dX8_stitch_32 (by decide) (fun c_46 => ?_) (fun c_46 => ?_)
            · exact absurd c_46 (by decide)
            · refine lv_goto (tgt := 54) hx hb dX8_stitch_35 (by decide) ?_
              obtain ⟨x_47, ex_47⟩ : ∃ y : Int32, y = i_20 + 1 := ⟨_, rfl⟩
              have qx_47 : x_47.toInt = i_20.toInt + 1 := by rw [ex_47]; exact zf_add rfl (by decide) (by omega) (by omega)
              refine lv_iinc (v := x_47) (lv' := [(3, .int x_47), (2, .int v_18), (0, .ref m0), (1, .int t_)]) hx hb dX8_stitch_54 hl (k := 0) rfl ex_47.symm (by decide) rfl (fun ls hl => ?_)
              refine lv_goto (tgt := 20) hx hb dX8_stitch_57 (by decide) ?_
              exact ih x_47 v_18 (g_17) _ _ _ (hP.sub [0, 1, 2] rfl) (hD.sub [0, 1, 2] (by decide) rfl) hS (lv_sub hl [0, 1, 2, 3] rfl) hpg_17 hbv_18 (show (v_18 : Int32).toInt = zTk gsl nte.toInt (t_.toInt - 2) (x_47.toInt - (t_.toInt - 2)).toNat from by (rw [show (x_47.toInt - (t_.toInt - 2)).toNat = (i_20.toInt - (t_.toInt - 2)).toNat + 1 from by omega, zTk_s, show t_.toInt - 2 + (((i_20.toInt - (t_.toInt - 2)).toNat : Nat) : Int) = i_20.toInt from by omega]; rw [if_neg (by omega)]; omega)) (show (∀ j : Nat, g_17 j = (if t_.toInt - 2 ≤ (j : Int) ∧ (j : Int) < x_47.toInt ∧ (j : Int) < nte.toInt then 0 else gsl j)) from by (intro j; have z := hvi_20_1 j; rw [z]; by_cases c : t_.toInt - 2 ≤ (j : Int) ∧ (j : Int) < i_20.toInt ∧ (j : Int) < nte.toInt; (rw [if_pos c, if_pos (by omega)]); (rw [if_neg c, if_neg (by omega)]))) (show t_.toInt - 2 ≤ x_47.toInt ∧ x_47.toInt ≤ t_.toInt + 3 ∧ (v_18 : Int32).toInt ≤ 9 * (x_47.toInt - (t_.toInt - 2)) from by exact ⟨by omega, by omega, by omega⟩) (dw_lo hloi_20 qx_47) (dw_hn hni_20 qx_47)
          · refine lv_if_ne (tgt := 38) hx hb dX8_stitch_32 (by decide) (fun c_48 => ?_) (fun c_48 => ?_)
            · refine lv_iload_n hx hb dX8_stitch_38 rfl (lv_at hl 1 rfl) ?_
              refine lv_aload_n hx hb dX8_stitch_39 rfl (lv_at hl 2 rfl) ?_
              refine va_get (D := D) (ci := 8) (v := .ref msl) (C := RX8) (T := TX8) (N := 38) hx hb hts hi_X8_stitch_8 hown hK hP 0 rfl rfl 15 (by decide) (hts (.fieldLink RX8 41 "TheLiningsInItModel" "slack" "[I") (List.mem_of_getElem? (i := 1) rfl)) (fun _ h9 => h9) rfl dX8_stitch_40 ?_
              refine lv_iload_n hx hb dX8_stitch_43 rfl (lv_at hl 0 rfl) ?_
              refine va_iald hx hb hK hP 2 0 rfl rfl (zf_in (by omega) (by omega)) dX8_stitch_44 ?_
              refine lv_topi (fun x_49 ex_49 => ?_)
              have bx_49 : 0 ≤ x_49.toInt ∧ x_49.toInt ≤ 9 := by rw [ex_49]; exact hpg_17 _
              refine lv_iadd hx hb dX8_stitch_45 ?_
              refine lv_topi (fun x_50 ex_50 => ?_)
              have qx_50 : x_50.toInt = v_18.toInt + x_49.toInt := by rw [ex_50]; exact zf_add rfl rfl (by omega) (by omega)
              refine lv_istore_n (lv' := [(2, .int x_50), (3, .int i_20), (0, .ref m0), (1, .int t_)]) hx hb dX8_stitch_46 rfl hl (by decide) rfl (fun ls hl => ?_)
              refine lv_aload_n hx hb dX8_stitch_47 rfl (lv_at hl 2 rfl) ?_
              refine va_get (D := D) (ci := 8) (v := .ref msl) (C := RX8) (T := TX8) (N := 38) hx hb hts hi_X8_stitch_8 hown hK hP 0 rfl rfl 15 (by decide) (hts (.fieldLink RX8 41 "TheLiningsInItModel" "slack" "[I") (List.mem_of_getElem? (i := 1) rfl)) (fun _ h9 => h9) rfl dX8_stitch_48 ?_
              refine lv_iload_n hx hb dX8_stitch_51 rfl (lv_at hl 1 rfl) ?_
              refine lv_iconst (v := 0) hx hb dX8_stitch_52 (by decide) ?_
              refine va_iast hx hb hK hP hD hS 2 0 rfl rfl (zf_in (by omega) (by omega)) dX8_stitch_53 (fun H locs hP hD hS => ?_)
              have hpg_51 : zRg (upd g_17 i_20.toNatClampNeg 0) (0) 9 := zRg_upd hpg_17 (by decide) (by decide)
              obtain ⟨g_51, hg_51⟩ : ∃ g : Nat → Int32, g = upd g_17 i_20.toNatClampNeg 0 := ⟨_, rfl⟩
              rw [← hg_51] at hP hD hpg_51
              have h9R := zRe (ws' := [(zMO m0 npu nte nat_ nde nto nse nhu nga nsd nfa mrf mki mpa mta mla msl mco mhe mso msi msh mce mca mwo mnu mte nba npl nen nnu nwr mwa mke mma mth mtr nra nik), (mrf, .inl (cI, 8, .inl grf)), (msl, .inl (cI, 40, .inl g_51))]) hP hD rfl
              clear hP hD
              obtain ⟨hP, hD⟩ := h9R
              obtain ⟨x_52, ex_52⟩ : ∃ y : Int32, y = i_20 + 1 := ⟨_, rfl⟩
              have qx_52 : x_52.toInt = i_20.toInt + 1 := by rw [ex_52]; exact zf_add rfl (by decide) (by omega) (by omega)
              refine lv_iinc (v := x_52) (lv' := [(3, .int x_52), (2, .int x_50), (0, .ref m0), (1, .int t_)]) hx hb dX8_stitch_54 hl (k := 1) rfl ex_52.symm (by decide) rfl (fun ls hl => ?_)
              refine lv_goto (tgt := 20) hx hb dX8_stitch_57 (by decide) ?_
              exact ih x_52 x_50 (g_51) _ _ _ (hP.sub [0, 1, 2] rfl) (hD.sub [0, 1, 2] (by decide) rfl) hS (lv_sub hl [0, 1, 2, 3] rfl) hpg_51 ⟨by omega, by omega⟩ (show (x_50 : Int32).toInt = zTk gsl nte.toInt (t_.toInt - 2) (x_52.toInt - (t_.toInt - 2)).toNat from by (rw [show (x_52.toInt - (t_.toInt - 2)).toNat = (i_20.toInt - (t_.toInt - 2)).toNat + 1 from by omega, zTk_s, show t_.toInt - 2 + (((i_20.toInt - (t_.toInt - 2)).toNat : Nat) : Int) = i_20.toInt from by omega]; rw [if_pos (by omega)]; have h8 : (gsl i_20.toInt.toNat).toInt = x_49.toInt := (by rw [ex_49]; have z := hvi_20_1 i_20.toInt.toNat; rw [if_neg (by omega)] at z; exact congrArg Int32.toInt z.symm); omega)) (show (∀ j : Nat, g_51 j = (if t_.toInt - 2 ≤ (j : Int) ∧ (j : Int) < x_52.toInt ∧ (j : Int) < nte.toInt then 0 else gsl j)) from by (intro j; rw [hg_51]; simp only [upd]; have h7 : i_20.toNatClampNeg = i_20.toInt.toNat := rfl; by_cases e9 : j = i_20.toNatClampNeg; (rw [if_pos e9, if_pos (by omega)]); (rw [if_neg e9]; have z := hvi_20_1 j; rw [z]; by_cases c : t_.toInt - 2 ≤ (j : Int) ∧ (j : Int) < i_20.toInt ∧ (j : Int) < nte.toInt; (rw [if_pos c, if_pos (by omega)]); (rw [if_neg c, if_neg (by omega)])))) (show t_.toInt - 2 ≤ x_52.toInt ∧ x_52.toInt ≤ t_.toInt + 3 ∧ (x_50 : Int32).toInt ≤ 9 * (x_52.toInt - (t_.toInt - 2)) from by exact ⟨by omega, by omega, by omega⟩) (dw_lo hloi_20 qx_52) (dw_hn hni_20 qx_52)
            · exact absurd c_48 (by decide)
    · exact absurd c_15 (by decide)

