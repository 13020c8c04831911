set_option maxHeartbeats 4000000 in
set_option maxRecDepth 100000 in
theorem c_F_M_wanted (l : Launch) (D : va_G) (cI cJ cZ cP cS : ClassId) (po : zPool) (m0 mrf mki mpa mta mla msl mco mhe mso msi msh mce mca mwo mnu mte mwa mke mma mth mtr : Nat) (npu nte nat_ nde nto nse nhu nga nsd nfa nba npl nen nnu nwr nra nik : Int32) (ghe : Nat → Int32) (s_ : Int32) (hy0 : 0 ≤ npu.toInt) (hy1 : npu.toInt ≤ 8) (hy2 : 4 ≤ nte.toInt) (hy3 : nte.toInt ≤ 40) (hy4 : 0 ≤ nat_.toInt) (hy5 : nat_.toInt ≤ 40) (hy6 : 0 ≤ nde.toInt) (hy7 : nde.toInt ≤ 24) (hy8 : 0 ≤ nhu.toInt) (hy9 : nhu.toInt ≤ 9) (hy10 : 0 ≤ nra.toInt) (hy11 : nra.toInt ≤ 2000) (hy12 : 0 ≤ nik.toInt) (hy13 : nik.toInt ≤ 1) (hp_ghe : zRg ghe (0) 2) : Met l yX8_wanted wsX8_wanted ({ frames := 1, cells := 0, slots := 0, locals := 21 }) (va_Pc [.ref m0, .int s_] (zR D (zKT cI cJ cZ cP cS) po [(zMO m0 npu nte nat_ nde nto nse nhu nga nsd nfa mrf mki mpa mta mla msl mco mhe mso msi msh mce mca mwo mnu mte nba npl nen nnu nwr mwa mke mma mth mtr nra nik), (mhe, .inl (cI, 8, .inl ghe))])) (vp_Si (fun r => -3 ≤ r.toInt ∧ r.toInt ≤ 0 ∧ ((((s_.toInt < 0 ∨ 7 < s_.toInt) ∧ r.toInt = -1) ∨ ((0 ≤ s_.toInt ∧ s_.toInt ≤ 7) ∧ (((ghe s_.toNatClampNeg).toInt = 2 ∧ r.toInt = -2) ∨ ((ghe s_.toNatClampNeg).toInt = 0 ∧ r.toInt = -3) ∨ ((ghe s_.toNatClampNeg).toInt = 1 ∧ r.toInt = 0))))))) 0 0 (fun _ => False) := by
  refine Met.ofW (cc := cX8_wanted) (maxL := 2) (ret := (some .int)) (by decide) rfl ?_
  intro p e s m args below meth c s₁ B hml hv
  obtain ⟨rfl, hP, hK, hN, hZ⟩ := hv
  have hx := B.exec
  have hb := B.bytes
  have hr := B.returns
  have hts := atoms_spec (ws := wsX8_wanted) B.pre
  have hown : s.vm.findClass RX8 = some m.cls := findClass_of_methodNamed B.named
  have hlocks := B.notSynchronized
  have hl := lv_entry ([.ref m0, .int s_]) (n := 2) (Nat.le_of_ble_eq_true rfl)
  rw [lg_entry_eq]
  generalize (lg_sl ([.ref m0, .int s_]) ++ List.replicate (2 - (lg_sl ([.ref m0, .int s_])).length) Slot.unset).toArray = ls at hl ⊢
  replace hl : lv_has ls 2 [(0, .ref m0), (1, .int s_)] := hl
  refine lv_aload_n hx hb dX8_wanted_0 rfl (lv_at hl 0 rfl) ?_
  refine lv_iload_n hx hb dX8_wanted_1 rfl (lv_at hl 1 rfl) ?_
  refine zc_V (As := [.int s_]) (rest := []) ⟨hx, hb, hml, hown, hts⟩ (c_M_isShelf l D cI cJ cZ cP cS po m0 mrf mki mpa mta mla msl mco mhe mso msi msh mce mca mwo mnu mte mwa mke mma mth mtr (npu) (nte) (nat_) (nde) (nto) (nse) (nhu) (nga) (nsd) (nfa) (nba) (npl) (nen) (nnu) (nwr) (nra) (nik) (s_) hy0 hy1 hy2 hy3 hy4 hy5 hy6 hy7 hy8 hy9 hy10 hy11 hy12 hy13) (cwV 1 hts gX8_wanted_X8_isShelf rfl rfl rfl ⟨rfl, dh_X8_isShelf⟩ ⟨Nat.le_of_ble_eq_true rfl, Nat.le_of_ble_eq_true rfl⟩) hK hN hZ hP (hP.sub [0] rfl) (va_recv (q := (RX8, TX8, 38)) hK hP (ci := 8) (q0 := 0) rfl rfl) rfl hl.1 rfl (Nat.le_of_ble_eq_true rfl) dX8_wanted_2 ⟨Nat.le_of_ble_eq_true rfl, Nat.le_of_ble_eq_true rfl⟩ (fun r_1 hr_1 => ?_)
  rcases hr_1 with ⟨rfl, g_2⟩ | ⟨rfl, g_3, g_4⟩ | ⟨rfl, g_5, g_6⟩
  · refine lv_if_ne (tgt := 12) hx hb dX8_wanted_5 (by decide) (fun c_7 => ?_) (fun c_7 => ?_)
    · exact absurd c_7 (by decide)
    · refine lv_iconst (v := (-1)) hx hb dX8_wanted_8 (by decide) ?_
      refine lv_goto (tgt := 42) hx hb dX8_wanted_9 (by decide) ?_
      exact W.iret (v := (-1)) hx hb hr (fun t ht hW => ⟨(-1), rfl, ⟨by decide, by decide, (show (((s_.toInt < 0 ∨ 7 < s_.toInt) ∧ ((-1) : Int32).toInt = -1) ∨ ((0 ≤ s_.toInt ∧ s_.toInt ≤ 7) ∧ (((ghe s_.toNatClampNeg).toInt = 2 ∧ ((-1) : Int32).toInt = -2) ∨ ((ghe s_.toNatClampNeg).toInt = 0 ∧ ((-1) : Int32).toInt = -3) ∨ ((ghe s_.toNatClampNeg).toInt = 1 ∧ ((-1) : Int32).toInt = 0)))) from by (have k9 : ((-1) : Int32).toInt = -1 := (by decide); omega))⟩, ht⟩) (fun q hq => by cases hq) dX8_wanted_42
  · refine lv_if_ne (tgt := 12) hx hb dX8_wanted_5 (by decide) (fun c_8 => ?_) (fun c_8 => ?_)
    · exact absurd c_8 (by decide)
    · refine lv_iconst (v := (-1)) hx hb dX8_wanted_8 (by decide) ?_
      refine lv_goto (tgt := 42) hx hb dX8_wanted_9 (by decide) ?_
      exact W.iret (v := (-1)) hx hb hr (fun t ht hW => ⟨(-1), rfl, ⟨by decide, by decide, (show (((s_.toInt < 0 ∨ 7 < s_.toInt) ∧ ((-1) : Int32).toInt = -1) ∨ ((0 ≤ s_.toInt ∧ s_.toInt ≤ 7) ∧ (((ghe s_.toNatClampNeg).toInt = 2 ∧ ((-1) : Int32).toInt = -2) ∨ ((ghe s_.toNatClampNeg).toInt = 0 ∧ ((-1) : Int32).toInt = -3) ∨ ((ghe s_.toNatClampNeg).toInt = 1 ∧ ((-1) : Int32).toInt = 0)))) from by (have k9 : ((-1) : Int32).toInt = -1 := (by decide); omega))⟩, ht⟩) (fun q hq => by cases hq) dX8_wanted_42
  · refine lv_if_ne (tgt := 12) hx hb dX8_wanted_5 (by decide) (fun c_9 => ?_) (fun c_9 => ?_)
    · refine lv_aload_n hx hb dX8_wanted_12 rfl (lv_at hl 0 rfl) ?_
      refine va_get (D := D) (ci := 8) (v := .ref mhe) (C := RX8) (T := TX8) (N := 38) hx hb hts hi_X8_wanted_8 hown hK hP 0 rfl rfl 17 (by decide) (hts (.fieldLink RX8 47 "TheLiningsInItModel" "held" "[I") (List.mem_of_getElem? (i := 1) rfl)) (fun _ h9 => h9) rfl dX8_wanted_13 ?_
      refine lv_iload_n hx hb dX8_wanted_16 rfl (lv_at hl 1 rfl) ?_
      refine va_iald hx hb hK hP 1 0 rfl rfl (zf_in (by omega) (by omega)) dX8_wanted_17 ?_
      refine lv_topi (fun x_10 ex_10 => ?_)
      have bx_10 : 0 ≤ x_10.toInt ∧ x_10.toInt ≤ 2 := by rw [ex_10]; exact hp_ghe _
      refine lv_iconst (v := 2) hx hb dX8_wanted_18 (by decide) ?_
      refine lv_icmp_ne (tgt := 27) hx hb dX8_wanted_19 (by decide) (fun c_11 => ?_) (fun c_11 => ?_)
      · have fc_11 : x_10.toInt ≠ 2 := zf_ne c_11 rfl (by decide)
        refine lv_aload_n hx hb dX8_wanted_27 rfl (lv_at hl 0 rfl) ?_
        refine va_get (D := D) (ci := 8) (v := .ref mhe) (C := RX8) (T := TX8) (N := 38) hx hb hts hi_X8_wanted_8 hown hK hP 0 rfl rfl 17 (by decide) (hts (.fieldLink RX8 47 "TheLiningsInItModel" "held" "[I") (List.mem_of_getElem? (i := 1) rfl)) (fun _ h9 => h9) rfl dX8_wanted_28 ?_
        refine lv_iload_n hx hb dX8_wanted_31 rfl (lv_at hl 1 rfl) ?_
        refine va_iald hx hb hK hP 1 0 rfl rfl (zf_in (by omega) (by omega)) dX8_wanted_32 ?_
        refine lv_topi (fun y_12 ey_12 => ?_)
        obtain rfl : x_10 = y_12 := ex_10.trans ey_12.symm
        refine lv_if_ne (tgt := 41) hx hb dX8_wanted_33 (by decide) (fun c_13 => ?_) (fun c_13 => ?_)
        · have fc_13 : x_10.toInt ≠ 0 := zf_ne c_13 rfl (by decide)
          refine lv_iconst (v := 0) hx hb dX8_wanted_41 (by decide) ?_
          exact W.iret (v := 0) hx hb hr (fun t ht hW => ⟨0, rfl, ⟨by decide, by decide, (show (((s_.toInt < 0 ∨ 7 < s_.toInt) ∧ (0 : Int32).toInt = -1) ∨ ((0 ≤ s_.toInt ∧ s_.toInt ≤ 7) ∧ (((ghe s_.toNatClampNeg).toInt = 2 ∧ (0 : Int32).toInt = -2) ∨ ((ghe s_.toNatClampNeg).toInt = 0 ∧ (0 : Int32).toInt = -3) ∨ ((ghe s_.toNatClampNeg).toInt = 1 ∧ (0 : Int32).toInt = 0)))) from by (have k9 : (0 : Int32).toInt = 0 := (by decide); rw [← ex_10]; omega))⟩, ht⟩) (fun q hq => by cases hq) dX8_wanted_42
        · have fc_13 : x_10.toInt = 0 := zf_eq c_13 rfl (by decide)
          refine lv_bipush (v := (-3)) hx hb dX8_wanted_36 (by decide) ?_
          refine lv_goto (tgt := 42) hx hb dX8_wanted_38 (by decide) ?_
          exact W.iret (v := (-3)) hx hb hr (fun t ht hW => ⟨(-3), rfl, ⟨by decide, by decide, (show (((s_.toInt < 0 ∨ 7 < s_.toInt) ∧ ((-3) : Int32).toInt = -1) ∨ ((0 ≤ s_.toInt ∧ s_.toInt ≤ 7) ∧ (((ghe s_.toNatClampNeg).toInt = 2 ∧ ((-3) : Int32).toInt = -2) ∨ ((ghe s_.toNatClampNeg).toInt = 0 ∧ ((-3) : Int32).toInt = -3) ∨ ((ghe s_.toNatClampNeg).toInt = 1 ∧ ((-3) : Int32).toInt = 0)))) from by (have k9 : ((-3) : Int32).toInt = -3 := (by decide); rw [← ex_10]; omega))⟩, ht⟩) (fun q hq => by cases hq) dX8_wanted_42
      · have fc_11 : x_10.toInt = 2 := zf_eq c_11 rfl (by decide)
        refine lv_bipush (v := (-2)) hx hb dX8_wanted_22 (by decide) ?_
        refine lv_goto (tgt := 42) hx hb dX8_wanted_24 (by decide) ?_
        exact W.iret (v := (-2)) hx hb hr (fun t ht hW => ⟨(-2), rfl, ⟨by decide, by decide, (show (((s_.toInt < 0 ∨ 7 < s_.toInt) ∧ ((-2) : Int32).toInt = -1) ∨ ((0 ≤ s_.toInt ∧ s_.toInt ≤ 7) ∧ (((ghe s_.toNatClampNeg).toInt = 2 ∧ ((-2) : Int32).toInt = -2) ∨ ((ghe s_.toNatClampNeg).toInt = 0 ∧ ((-2) : Int32).toInt = -3) ∨ ((ghe s_.toNatClampNeg).toInt = 1 ∧ ((-2) : Int32).toInt = 0)))) from by (have k9 : ((-2) : Int32).toInt = -2 := (by decide); rw [← ex_10]; omega))⟩, ht⟩) (fun q hq => by cases hq) dX8_wanted_42
    · exact absurd c_9 (by decide)
set_option maxHeartbeats 4000000 in
set_option maxRecDepth 100000 in
theorem c_F_M_jacket (l : Launch) (D : va_G) (cI cJ cZ cP cS : ClassId) (po : zPool) (m0 mrf mki mpa mta mla msl mco mhe mso msi msh mce mca mwo mnu mte mwa mke mma mth mtr : Nat) (npu nte nat_ nde nto nse nhu nga nsd nfa nba npl nen nnu nwr nra nik : Int32) (grf ghe gsi gwa gwo gnu gki gpa gta gla gsl gco gte : Nat → Int32) (gce : Nat → Int64) (s_ : Int32) (hy0 : 0 ≤ npu.toInt) (hy1 : npu.toInt ≤ 8) (hy2 : 4 ≤ nte.toInt) (hy3 : nte.toInt ≤ 40) (hy4 : 0 ≤ nat_.toInt) (hy5 : nat_.toInt ≤ 40) (hy6 : 0 ≤ nde.toInt) (hy7 : nde.toInt ≤ 24) (hy8 : 0 ≤ nhu.toInt) (hy9 : nhu.toInt ≤ 9) (hy10 : 0 ≤ nra.toInt) (hy11 : nra.toInt ≤ 2000) (hy12 : 0 ≤ nik.toInt) (hy13 : nik.toInt ≤ 1) (hwo : zHWo gwo) (hnu : zHNu gnu) (hp_ghe : zRg ghe (0) 2) (hp_gsi : zRg gsi (0) 160) (hp_gki : zRg gki (0) 6) (hp_gpa : zRg gpa (0) 9) (hp_gta : zRg gta (0) 60) (hp_gla : zRg gla (0) 1) (hp_gsl : zRg gsl (0) 9) (hp_gco : zRg gco (0) 99) (hpz : Nat) : Met l yX8_jacket wsX8_jacket ({ frames := 4, cells := 0, slots := 0, locals := 88 }) (va_Pc [.ref m0, .int s_] (zW D (zKT cI cJ cZ cP cS) po [(zMO m0 npu nte nat_ nde nto nse nhu nga nsd nfa mrf mki mpa mta mla msl mco mhe mso msi msh mce mca mwo mnu mte nba npl nen nnu nwr mwa mke mma mth mtr nra nik), (mrf, .inl (cI, 8, .inl grf)), (mhe, .inl (cI, 8, .inl ghe)), (msi, .inl (cI, 8, .inl gsi)), (mwa, .inl (cI, 130, .inl gwa)), (mwo, .inl (cI, 64, .inl gwo)), (mnu, .inl (cI, 10, .inl gnu)), (mce, .inl (cJ, 1280, .inr (.inl gce))), (mki, .inl (cI, 8, .inl gki)), (mpa, .inl (cI, 8, .inl gpa)), (mta, .inl (cI, 8, .inl gta)), (mla, .inl (cI, 40, .inl gla)), (msl, .inl (cI, 40, .inl gsl)), (mco, .inl (cI, 3, .inl gco)), (mte, .inl (cI, 3, .inl gte))] hpz)) (va_Qi (fun (r : Int32) (u : (Int32) × (Int32) × (Int32) × (Int32) × (Int32) × (Int32) × (Int32) × (Int32) × (Int32) × (Nat → Int32) × (Nat → Int32) × (Nat → Int32) × (Nat → Int32) × (Nat → Int32) × (Nat → Int32) × (Nat → Int32) × (Nat → Int32) × (Nat → Int32) × (Int32) × (Int32) × (Int32) × (Int32) × (Int32) × (Int32)) => (0 ≤ u.1.toInt ∧ u.1.toInt ≤ 8) ∧ (4 ≤ u.2.1.toInt ∧ u.2.1.toInt ≤ 40) ∧ (0 ≤ u.2.2.1.toInt ∧ u.2.2.1.toInt ≤ 40) ∧ (0 ≤ u.2.2.2.1.toInt ∧ u.2.2.2.1.toInt ≤ 24) ∧ (0 ≤ u.2.2.2.2.2.2.1.toInt ∧ u.2.2.2.2.2.2.1.toInt ≤ 9) ∧ zRg u.2.2.2.2.2.2.2.2.2.2.2.1 (0) 6 ∧ zRg u.2.2.2.2.2.2.2.2.2.2.2.2.1 (0) 9 ∧ zRg u.2.2.2.2.2.2.2.2.2.2.2.2.2.1 (0) 60 ∧ zRg u.2.2.2.2.2.2.2.2.2.2.2.2.2.2.1 (0) 1 ∧ zRg u.2.2.2.2.2.2.2.2.2.2.2.2.2.2.2.1 (0) 9 ∧ zRg u.2.2.2.2.2.2.2.2.2.2.2.2.2.2.2.2.1 (0) 99 ∧ (zJac (zMF gce (160 * s_.toInt)) (gsi s_.toNatClampNeg).toInt s_.toInt (zHc (ghe s_.toNatClampNeg).toInt) nfa.toInt npu.toInt nte.toInt r.toInt u.2.2.2.2.2.2.2.2.2.2.2.2.2.2.2.2.2.2.1.toInt u.1.toInt u.2.1.toInt) ∧ (True)) (zB D [(zMO m0 npu nte nat_ nde nto nse nhu nga nsd nfa mrf mki mpa mta mla msl mco mhe mso msi msh mce mca mwo mnu mte nba npl nen nnu nwr mwa mke mma mth mtr nra nik), (mrf, .inl (cI, 8, .inl grf)), (mhe, .inl (cI, 8, .inl ghe)), (msi, .inl (cI, 8, .inl gsi)), (mwa, .inl (cI, 130, .inl gwa)), (mwo, .inl (cI, 64, .inl gwo)), (mnu, .inl (cI, 10, .inl gnu)), (mce, .inl (cJ, 1280, .inr (.inl gce))), (mki, .inl (cI, 8, .inl gki)), (mpa, .inl (cI, 8, .inl gpa)), (mta, .inl (cI, 8, .inl gta)), (mla, .inl (cI, 40, .inl gla)), (msl, .inl (cI, 40, .inl gsl)), (mco, .inl (cI, 3, .inl gco)), (mte, .inl (cI, 3, .inl gte))] hpz (fun (u : (Int32) × (Int32) × (Int32) × (Int32) × (Int32) × (Int32) × (Int32) × (Int32) × (Int32) × (Nat → Int32) × (Nat → Int32) × (Nat → Int32) × (Nat → Int32) × (Nat → Int32) × (Nat → Int32) × (Nat → Int32) × (Nat → Int32) × (Nat → Int32) × (Int32) × (Int32) × (Int32) × (Int32) × (Int32) × (Int32)) => [(zMO m0 u.1 u.2.1 u.2.2.1 u.2.2.2.1 u.2.2.2.2.1 u.2.2.2.2.2.1 u.2.2.2.2.2.2.1 u.2.2.2.2.2.2.2.1 u.2.2.2.2.2.2.2.2.1 u.2.2.2.2.2.2.2.2.2.2.2.2.2.2.2.2.2.2.1 mrf mki mpa mta mla msl mco mhe mso msi msh mce mca mwo mnu mte u.2.2.2.2.2.2.2.2.2.2.2.2.2.2.2.2.2.2.2.1 u.2.2.2.2.2.2.2.2.2.2.2.2.2.2.2.2.2.2.2.2.1 u.2.2.2.2.2.2.2.2.2.2.2.2.2.2.2.2.2.2.2.2.2.1 u.2.2.2.2.2.2.2.2.2.2.2.2.2.2.2.2.2.2.2.2.2.2.1 u.2.2.2.2.2.2.2.2.2.2.2.2.2.2.2.2.2.2.2.2.2.2.2 mwa mke mma mth mtr nra nik), (mrf, .inl (cI, 8, .inl u.2.2.2.2.2.2.2.2.2.1)), (mhe, .inl (cI, 8, .inl ghe)), (msi, .inl (cI, 8, .inl gsi)), (mwa, .inl (cI, 130, .inl u.2.2.2.2.2.2.2.2.2.2.1)), (mwo, .inl (cI, 64, .inl gwo)), (mnu, .inl (cI, 10, .inl gnu)), (mce, .inl (cJ, 1280, .inr (.inl gce))), (mki, .inl (cI, 8, .inl u.2.2.2.2.2.2.2.2.2.2.2.1)), (mpa, .inl (cI, 8, .inl u.2.2.2.2.2.2.2.2.2.2.2.2.1)), (mta, .inl (cI, 8, .inl u.2.2.2.2.2.2.2.2.2.2.2.2.2.1)), (mla, .inl (cI, 40, .inl u.2.2.2.2.2.2.2.2.2.2.2.2.2.2.1)), (msl, .inl (cI, 40, .inl u.2.2.2.2.2.2.2.2.2.2.2.2.2.2.2.1)), (mco, .inl (cI, 3, .inl u.2.2.2.2.2.2.2.2.2.2.2.2.2.2.2.2.1)), (mte, .inl (cI, 3, .inl u.2.2.2.2.2.2.2.2.2.2.2.2.2.2.2.2.2.1))])) (va_A [(zMO m0 npu nte nat_ nde nto nse nhu nga nsd nfa mrf mki mpa mta mla msl mco mhe mso msi msh mce mca mwo mnu mte nba npl nen nnu nwr mwa mke mma mth mtr nra nik), (mrf, .inl (cI, 8, .inl grf)), (mhe, .inl (cI, 8, .inl ghe)), (msi, .inl (cI, 8, .inl gsi)), (mwa, .inl (cI, 130, .inl gwa)), (mwo, .inl (cI, 64, .inl gwo)), (mnu, .inl (cI, 10, .inl gnu)), (mce, .inl (cJ, 1280, .inr (.inl gce))), (mki, .inl (cI, 8, .inl gki)), (mpa, .inl (cI, 8, .inl gpa)), (mta, .inl (cI, 8, .inl gta)), (mla, .inl (cI, 40, .inl gla)), (msl, .inl (cI, 40, .inl gsl)), (mco, .inl (cI, 3, .inl gco)), (mte, .inl (cI, 3, .inl gte))] hpz)) 0 0 (va_A [(zMO m0 npu nte nat_ nde nto nse nhu nga nsd nfa mrf mki mpa mta mla msl mco mhe mso msi msh mce mca mwo mnu mte nba npl nen nnu nwr mwa mke mma mth mtr nra nik), (mrf, .inl (cI, 8, .inl grf)), (mhe, .inl (cI, 8, .inl ghe)), (msi, .inl (cI, 8, .inl gsi)), (mwa, .inl (cI, 130, .inl gwa)), (mwo, .inl (cI, 64, .inl gwo)), (mnu, .inl (cI, 10, .inl gnu)), (mce, .inl (cJ, 1280, .inr (.inl gce))), (mki, .inl (cI, 8, .inl gki)), (mpa, .inl (cI, 8, .inl gpa)), (mta, .inl (cI, 8, .inl gta)), (mla, .inl (cI, 40, .inl gla)), (msl, .inl (cI, 40, .inl gsl)), (mco, .inl (cI, 3, .inl gco)), (mte, .inl (cI, 3, .inl gte))] hpz) := by
  refine Met.ofW (cc := cX8_jacket) (maxL := 5) (ret := (some .int)) (by decide) rfl ?_
  intro p e s m args below meth c s₁ B hml hv
  obtain ⟨rfl, hsz, hP, hK, hD0, hN, hZ⟩ := hv
  have hx := B.exec
  have hb := B.bytes
  have hr := B.returns
  have hts := atoms_spec (ws := wsX8_jacket) B.pre
  have hown : s.vm.findClass RX8 = some m.cls := findClass_of_methodNamed B.named
  have hlocks := B.notSynchronized
  subst hsz
  have hD := hD0.self (sz := s.heap.size)
  have hA := zA_of hD
  have hl := lv_entry ([.ref m0, .int s_]) (n := 5) (Nat.le_of_ble_eq_true rfl)
  rw [lg_entry_eq]
  generalize (lg_sl ([.ref m0, .int s_]) ++ List.replicate (5 - (lg_sl ([.ref m0, .int s_])).length) Slot.unset).toArray = ls at hl ⊢
  replace hl : lv_has ls 5 [(0, .ref m0), (1, .int s_)] := hl
  refine zw_begin hP hD (fun H locs hP1 hS => ?_)
  clear hP
  have hP := hP1
  clear hP1
  refine lv_aload_n hx hb dX8_jacket_0 rfl (lv_at hl 0 rfl) ?_
  refine lv_iload_n hx hb dX8_jacket_1 rfl (lv_at hl 1 rfl) ?_
  refine zc_V (As := [.int s_]) (rest := []) ⟨hx, hb, hml, hown, hts⟩ (c_F_M_wanted l D cI cJ cZ cP cS po m0 mrf mki mpa mta mla msl mco mhe mso msi msh mce mca mwo mnu mte mwa mke mma mth mtr (npu) (nte) (nat_) (nde) (nto) (nse) (nhu) (nga) (nsd) (nfa) (nba) (npl) (nen) (nnu) (nwr) (nra) (nik) ghe (s_) hy0 hy1 hy2 hy3 hy4 hy5 hy6 hy7 hy8 hy9 hy10 hy11 hy12 hy13 hp_ghe) (cwV 1 hts gX8_jacket_X8_wanted rfl rfl rfl ⟨rfl, dh_X8_wanted⟩ ⟨Nat.le_of_ble_eq_true rfl, Nat.le_of_ble_eq_true rfl⟩) hK hN (hZ.kept hS) hP (hP.sub [0, 2] rfl) (va_recv (q := (RX8, TX8, 38)) hK hP (ci := 8) (q0 := 0) rfl rfl) rfl hl.1 rfl (Nat.le_of_ble_eq_true rfl) dX8_jacket_2 ⟨Nat.le_of_ble_eq_true rfl, Nat.le_of_ble_eq_true rfl⟩ (fun r_1 hr_1 => ?_)
  obtain ⟨g_2, g_3, hsr_1_0⟩ := hr_1
  refine lv_istore_n (lv' := [(2, .int r_1), (0, .ref m0), (1, .int s_)]) hx hb dX8_jacket_5 rfl hl (by decide) rfl (fun ls hl => ?_)
  refine lv_iload_n hx hb dX8_jacket_6 rfl (lv_at hl 0 rfl) ?_
  refine lv_if_eq (tgt := 16) hx hb dX8_jacket_7 (by decide) (fun c_4 => ?_) (fun c_4 => ?_)
  · have fc_4 : r_1.toInt = 0 := zf_eq c_4 rfl (by decide)
    have hs9 : 0 ≤ s_.toInt ∧ s_.toInt ≤ 7 := by (have z := hsr_1_0; omega)
    refine lv_aload_n hx hb dX8_jacket_16 rfl (lv_at hl 1 rfl) ?_
    refine lv_aload_n hx hb dX8_jacket_17 rfl (lv_at hl 1 rfl) ?_
    refine va_get (D := D) (ci := 8) (v := .ref mwa) (C := RX8) (T := TX8) (N := 38) hx hb hts hi_X8_jacket_8 hown hK hP 0 rfl rfl 31 (by decide) (hts (.fieldLink RX8 75 "TheLiningsInItModel" "was" "[I") (List.mem_of_getElem? (i := 1) rfl)) (fun _ h9 => h9) rfl dX8_jacket_18 ?_
    refine lv_iconst (v := 0) hx hb dX8_jacket_21 (by decide) ?_
    skip
    refine zw_Vv (As := [.ref mwa, .int 0]) (rest := []) (wr := [(mrf, .inl (cI, 8, .inl grf)), (mhe, .inl (cI, 8, .inl ghe)), (msi, .inl (cI, 8, .inl gsi)), (mwo, .inl (cI, 64, .inl gwo)), (mnu, .inl (cI, 10, .inl gnu)), (mce, .inl (cJ, 1280, .inr (.inl gce))), (mte, .inl (cI, 3, .inl gte))]) ⟨hx, hb, hml, hown, hts⟩ (c_M_all_f l D cI cJ cZ cP cS po m0 mrf mki mpa mta mla msl mco mhe mso msi msh mce mca mwo mnu mte mwa mke mma mth mtr (npu) (nte) (nat_) (nde) (nto) (nse) (nhu) (nga) (nsd) (nfa) (nba) (npl) (nen) (nnu) (nwr) (nra) (nik) gki gpa gta gla gsl gco mwa gwa hy0 hy1 hy2 hy3 hy4 hy5 hy6 hy7 hy8 hy9 hy10 hy11 hy12 hy13 hp_gki hp_gpa hp_gta hp_gla hp_gsl hp_gco H.size) (cwV 2 hts gX8_jacket_X8_all rfl rfl rfl ⟨rfl, dh_X8_all⟩ ⟨Nat.le_of_ble_eq_true rfl, Nat.le_of_ble_eq_true rfl⟩) hK hN (hZ.kept hS) hP hD hS hA [0, 8, 9, 10, 11, 12, 13, 4] [1, 2, 3, 5, 6, 7, 14] rfl rfl (by decide) (by decide) (by decide) (va_recv (q := (RX8, TX8, 38)) hK hP (ci := 8) (q0 := 0) rfl rfl) rfl hl.1 rfl (Nat.le_of_ble_eq_true rfl) dX8_jacket_22 ⟨Nat.le_of_ble_eq_true rfl, Nat.le_of_ble_eq_true rfl⟩ (fun u_6 H locs hr_5 hP hD hS => ?_)
    obtain ⟨q_7, rfl⟩ : ∃ z, z = u_6 := ⟨_, rfl⟩
    obtain ⟨hsr_5_0, hr_5⟩ := hr_5
    have h9R := zRe (ws' := [(mrf, .inl (cI, 8, .inl grf)), (mhe, .inl (cI, 8, .inl ghe)), (msi, .inl (cI, 8, .inl gsi)), (mwo, .inl (cI, 64, .inl gwo)), (mnu, .inl (cI, 10, .inl gnu)), (mce, .inl (cJ, 1280, .inr (.inl gce))), (mte, .inl (cI, 3, .inl gte)), (zMO m0 npu nte nat_ nde nto nse nhu nga nsd nfa mrf mki mpa mta mla msl mco mhe mso msi msh mce mca mwo mnu mte nba npl nen nnu nwr mwa mke mma mth mtr nra nik), (mki, .inl (cI, 8, .inl gki)), (mpa, .inl (cI, 8, .inl gpa)), (mta, .inl (cI, 8, .inl gta)), (mla, .inl (cI, 40, .inl gla)), (msl, .inl (cI, 40, .inl gsl)), (mco, .inl (cI, 3, .inl gco)), (mwa, .inl (cI, 130, .inl q_7))]) hP hD rfl
    clear hP hD
    obtain ⟨hP, hD⟩ := h9R
    refine lv_aload_n hx hb dX8_jacket_25 rfl (lv_at hl 1 rfl) ?_
    refine lv_sipush (v := 160) hx hb dX8_jacket_26 (by decide) ?_
    refine lv_iload_n hx hb dX8_jacket_29 rfl (lv_at hl 2 rfl) ?_
    refine lv_imul hx hb dX8_jacket_30 ?_
    refine lv_topi (fun x_8 ex_8 => ?_)
    have qx_8 : x_8.toInt = 160 * s_.toInt := by rw [ex_8]; exact zf_mul (by decide) rfl (by omega) (by omega)
    refine va_put (D := D) (ci := 8) (v := .int x_8) (ty := .int) (C := RX8) (T := TX8) (N := 38) hx hb hts hi_X8_jacket_8 tyX8 tyX8_ok nmX8 hown hK hP hD hS 7 rfl rfl 26 (by decide) (hts (.fieldLink RX8 158 "TheLiningsInItModel" "base" "I") (List.mem_of_getElem? (i := 2) rfl)) (fun _ h9 => h9) rfl (tyX8_ok 26 (Nat.le_of_ble_eq_true rfl)) rfl rfl (Nat.le_of_ble_eq_true rfl) dX8_jacket_31 (fun H locs hP hD hS => ?_)
    have h9R := zRe (ws' := [(mrf, .inl (cI, 8, .inl grf)), (mhe, .inl (cI, 8, .inl ghe)), (msi, .inl (cI, 8, .inl gsi)), (mwo, .inl (cI, 64, .inl gwo)), (mnu, .inl (cI, 10, .inl gnu)), (mce, .inl (cJ, 1280, .inr (.inl gce))), (mte, .inl (cI, 3, .inl gte)), (zMO m0 npu nte nat_ nde nto nse nhu nga nsd nfa mrf mki mpa mta mla msl mco mhe mso msi msh mce mca mwo mnu mte x_8 npl nen nnu nwr mwa mke mma mth mtr nra nik), (mki, .inl (cI, 8, .inl gki)), (mpa, .inl (cI, 8, .inl gpa)), (mta, .inl (cI, 8, .inl gta)), (mla, .inl (cI, 40, .inl gla)), (msl, .inl (cI, 40, .inl gsl)), (mco, .inl (cI, 3, .inl gco)), (mwa, .inl (cI, 130, .inl q_7))]) hP hD rfl
    clear hP hD
    obtain ⟨hP, hD⟩ := h9R
    refine lv_aload_n hx hb dX8_jacket_34 rfl (lv_at hl 1 rfl) ?_
    refine lv_iconst (v := 0) hx hb dX8_jacket_35 (by decide) ?_
    refine va_put (D := D) (ci := 8) (v := .int 0) (ty := .int) (C := RX8) (T := TX8) (N := 38) hx hb hts hi_X8_jacket_8 tyX8 tyX8_ok nmX8 hown hK hP hD hS 7 rfl rfl 27 (by decide) (hts (.fieldLink RX8 152 "TheLiningsInItModel" "place" "I") (List.mem_of_getElem? (i := 3) rfl)) (fun _ h9 => h9) rfl (tyX8_ok 27 (Nat.le_of_ble_eq_true rfl)) rfl rfl (Nat.le_of_ble_eq_true rfl) dX8_jacket_36 (fun H locs hP hD hS => ?_)
    have h9R := zRe (ws' := [(mrf, .inl (cI, 8, .inl grf)), (mhe, .inl (cI, 8, .inl ghe)), (msi, .inl (cI, 8, .inl gsi)), (mwo, .inl (cI, 64, .inl gwo)), (mnu, .inl (cI, 10, .inl gnu)), (mce, .inl (cJ, 1280, .inr (.inl gce))), (mte, .inl (cI, 3, .inl gte)), (zMO m0 npu nte nat_ nde nto nse nhu nga nsd nfa mrf mki mpa mta mla msl mco mhe mso msi msh mce mca mwo mnu mte x_8 0 nen nnu nwr mwa mke mma mth mtr nra nik), (mki, .inl (cI, 8, .inl gki)), (mpa, .inl (cI, 8, .inl gpa)), (mta, .inl (cI, 8, .inl gta)), (mla, .inl (cI, 40, .inl gla)), (msl, .inl (cI, 40, .inl gsl)), (mco, .inl (cI, 3, .inl gco)), (mwa, .inl (cI, 130, .inl q_7))]) hP hD rfl
    clear hP hD
    obtain ⟨hP, hD⟩ := h9R
    refine lv_aload_n hx hb dX8_jacket_39 rfl (lv_at hl 1 rfl) ?_
    refine lv_aload_n hx hb dX8_jacket_40 rfl (lv_at hl 1 rfl) ?_
    refine va_get (D := D) (ci := 8) (v := .ref msi) (C := RX8) (T := TX8) (N := 38) hx hb hts hi_X8_jacket_8 hown hK hP 7 rfl rfl 19 (by decide) (hts (.fieldLink RX8 53 "TheLiningsInItModel" "size" "[I") (List.mem_of_getElem? (i := 4) rfl)) (fun _ h9 => h9) rfl dX8_jacket_41 ?_
    refine lv_iload_n hx hb dX8_jacket_44 rfl (lv_at hl 2 rfl) ?_
    refine va_iald hx hb hK hP 2 0 rfl rfl (zf_in (by omega) (by omega)) dX8_jacket_45 ?_
    refine lv_topi (fun x_9 ex_9 => ?_)
    have bx_9 : 0 ≤ x_9.toInt ∧ x_9.toInt ≤ 160 := by rw [ex_9]; exact hp_gsi _
    refine va_put (D := D) (ci := 8) (v := .int x_9) (ty := .int) (C := RX8) (T := TX8) (N := 38) hx hb hts hi_X8_jacket_8 tyX8 tyX8_ok nmX8 hown hK hP hD hS 7 rfl rfl 28 (by decide) (hts (.fieldLink RX8 155 "TheLiningsInItModel" "end" "I") (List.mem_of_getElem? (i := 5) rfl)) (fun _ h9 => h9) rfl (tyX8_ok 28 (Nat.le_of_ble_eq_true rfl)) rfl rfl (Nat.le_of_ble_eq_true rfl) dX8_jacket_46 (fun H locs hP hD hS => ?_)
    have h9R := zRe (ws' := [(mrf, .inl (cI, 8, .inl grf)), (mhe, .inl (cI, 8, .inl ghe)), (msi, .inl (cI, 8, .inl gsi)), (mwo, .inl (cI, 64, .inl gwo)), (mnu, .inl (cI, 10, .inl gnu)), (mce, .inl (cJ, 1280, .inr (.inl gce))), (mte, .inl (cI, 3, .inl gte)), (zMO m0 npu nte nat_ nde nto nse nhu nga nsd nfa mrf mki mpa mta mla msl mco mhe mso msi msh mce mca mwo mnu mte x_8 0 x_9 nnu nwr mwa mke mma mth mtr nra nik), (mki, .inl (cI, 8, .inl gki)), (mpa, .inl (cI, 8, .inl gpa)), (mta, .inl (cI, 8, .inl gta)), (mla, .inl (cI, 40, .inl gla)), (msl, .inl (cI, 40, .inl gsl)), (mco, .inl (cI, 3, .inl gco)), (mwa, .inl (cI, 130, .inl q_7))]) hP hD rfl
    clear hP hD
    obtain ⟨hP, hD⟩ := h9R
    refine lv_aload_n hx hb dX8_jacket_49 rfl (lv_at hl 1 rfl) ?_
    refine lv_iconst (v := (-1)) hx hb dX8_jacket_50 (by decide) ?_
    refine va_put (D := D) (ci := 8) (v := .int (-1)) (ty := .int) (C := RX8) (T := TX8) (N := 38) hx hb hts hi_X8_jacket_8 tyX8 tyX8_ok nmX8 hown hK hP hD hS 7 rfl rfl 9 (by decide) (hts (.fieldLink RX8 22 "TheLiningsInItModel" "fault" "I") (List.mem_of_getElem? (i := 6) rfl)) (fun _ h9 => h9) rfl (tyX8_ok 9 (Nat.le_of_ble_eq_true rfl)) rfl rfl (Nat.le_of_ble_eq_true rfl) dX8_jacket_51 (fun H locs hP hD hS => ?_)
    have h9R := zRe (ws' := [(mrf, .inl (cI, 8, .inl grf)), (mhe, .inl (cI, 8, .inl ghe)), (msi, .inl (cI, 8, .inl gsi)), (mwo, .inl (cI, 64, .inl gwo)), (mnu, .inl (cI, 10, .inl gnu)), (mce, .inl (cJ, 1280, .inr (.inl gce))), (mte, .inl (cI, 3, .inl gte)), (zMO m0 npu nte nat_ nde nto nse nhu nga nsd (-1) mrf mki mpa mta mla msl mco mhe mso msi msh mce mca mwo mnu mte x_8 0 x_9 nnu nwr mwa mke mma mth mtr nra nik), (mki, .inl (cI, 8, .inl gki)), (mpa, .inl (cI, 8, .inl gpa)), (mta, .inl (cI, 8, .inl gta)), (mla, .inl (cI, 40, .inl gla)), (msl, .inl (cI, 40, .inl gsl)), (mco, .inl (cI, 3, .inl gco)), (mwa, .inl (cI, 130, .inl q_7))]) hP hD rfl
    clear hP hD
    obtain ⟨hP, hD⟩ := h9R
    refine lv_iconst (v := 1) hx hb dX8_jacket_54 (by decide) ?_
    refine lv_istore_n (lv' := [(3, .int 1), (2, .int r_1), (0, .ref m0), (1, .int s_)]) hx hb dX8_jacket_55 rfl hl (by decide) rfl (fun ls hl => ?_)
    refine lv_aload_n hx hb dX8_jacket_56 rfl (lv_at hl 2 rfl) ?_
    have kc0 : (0 : Int32).toInt = 0 := by decide
    skip
    refine zw_V (As := []) (rest := []) (wr := [(mrf, .inl (cI, 8, .inl grf)), (mhe, .inl (cI, 8, .inl ghe)), (msi, .inl (cI, 8, .inl gsi)), (mwa, .inl (cI, 130, .inl q_7))]) ⟨hx, hb, hml, hown, hts⟩ (c_F_M_item l D cI cJ cZ cP cS po m0 mrf mki mpa mta mla msl mco mhe mso msi msh mce mca mwo mnu mte mwa mke mma mth mtr (npu) (nte) (nat_) (nde) (nto) (nse) (nhu) (nga) (nsd) ((-1)) (x_8) (0) (x_9) (nnu) (nwr) (nra) (nik) gwo gnu gki gpa gta gla gsl gco gte gce hy0 hy1 hy2 hy3 hy4 hy5 hy6 hy7 hy8 hy9 hy10 hy11 hy12 hy13 (by omega) (by omega) (by omega) (by omega) (by omega) (by omega) (by omega) hwo hnu hp_gki hp_gpa hp_gta hp_gla hp_gsl hp_gco H.size) (cwV 0 hts gX8_jacket_X8_item rfl rfl rfl ⟨rfl, dh_X8_item⟩ ⟨Nat.le_of_ble_eq_true rfl, Nat.le_of_ble_eq_true rfl⟩) hK hN (hZ.kept hS) hP hD hS hA [7, 3, 4, 5, 8, 9, 10, 11, 12, 13, 6] [0, 1, 2, 14] rfl rfl (by decide) (by decide) (by decide) (va_recv (q := (RX8, TX8, 38)) hK hP (ci := 8) (q0 := 7) rfl rfl) rfl hl.1 rfl (Nat.le_of_ble_eq_true rfl) dX8_jacket_57 ⟨Nat.le_of_ble_eq_true rfl, Nat.le_of_ble_eq_true rfl⟩ (fun r_10 u_11 H locs hr_10 hP hD hS => ?_)
    obtain ⟨q_12, q_13, q_14, q_15, q_16, q_17, q_18, q_19, q_20, q_21, q_22, q_23, q_24, q_25, q_26, q_27, q_28⟩ := u_11
    try dsimp only at hr_10
    obtain ⟨hbq_12, hbq_13, hbq_14, hbq_15, hbq_17, hpq_19, hpq_20, hpq_21, hpq_22, hpq_23, hpq_24, hbq_26, hsr_10_0, hsr_10_1, hr_10⟩ := hr_10
    have h9R := zRe (ws' := [(mrf, .inl (cI, 8, .inl grf)), (mhe, .inl (cI, 8, .inl ghe)), (msi, .inl (cI, 8, .inl gsi)), (mwa, .inl (cI, 130, .inl q_7)), (zMO m0 q_12 q_13 q_14 q_15 nto q_16 q_17 q_18 nsd (-1) mrf mki mpa mta mla msl mco mhe mso msi msh mce mca mwo mnu mte x_8 q_26 x_9 q_27 q_28 mwa mke mma mth mtr nra nik), (mwo, .inl (cI, 64, .inl gwo)), (mnu, .inl (cI, 10, .inl gnu)), (mce, .inl (cJ, 1280, .inr (.inl gce))), (mki, .inl (cI, 8, .inl q_19)), (mpa, .inl (cI, 8, .inl q_20)), (mta, .inl (cI, 8, .inl q_21)), (mla, .inl (cI, 40, .inl q_22)), (msl, .inl (cI, 40, .inl q_23)), (mco, .inl (cI, 3, .inl q_24)), (mte, .inl (cI, 3, .inl q_25))]) hP hD rfl
    clear hP hD
    obtain ⟨hP, hD⟩ := h9R
    obtain ⟨g_29, g_30⟩ := hr_10
    refine lv_istore (lv' := [(4, .int r_10), (3, .int 1), (2, .int r_1), (0, .ref m0), (1, .int s_)]) hx hb dX8_jacket_60 hl (by decide) rfl (fun ls hl => ?_)
    obtain ⟨i_62, hi_62⟩ : ∃ i : Int32, i = q_26 := ⟨_, rfl⟩
    replace hl : lv_has ls 5 [(4, .int r_10), (3, .int 1), (0, .ref m0), (1, .int s_)] := lv_sub hl [0, 1, 3, 4] rfl
    replace hP : va_P D vwCl [(mrf, .inl (cI, 8, .inl grf)), (mhe, .inl (cI, 8, .inl ghe)), (msi, .inl (cI, 8, .inl gsi)), (mwa, .inl (cI, 130, .inl q_7)), (zMO m0 q_12 q_13 q_14 q_15 nto q_16 q_17 q_18 nsd (-1) mrf mki mpa mta mla msl mco mhe mso msi msh mce mca mwo mnu mte x_8 i_62 x_9 q_27 q_28 mwa mke mma mth mtr nra nik), (mwo, .inl (cI, 64, .inl gwo)), (mnu, .inl (cI, 10, .inl gnu)), (mce, .inl (cJ, 1280, .inr (.inl gce))), (mki, .inl (cI, 8, .inl q_19)), (mpa, .inl (cI, 8, .inl q_20)), (mta, .inl (cI, 8, .inl q_21)), (mla, .inl (cI, 40, .inl q_22)), (msl, .inl (cI, 40, .inl q_23)), (mco, .inl (cI, 3, .inl q_24)), (mte, .inl (cI, 3, .inl q_25))] H := by rw [hi_62]; exact hP
    replace hD : va_D (va_A [(zMO m0 npu nte nat_ nde nto nse nhu nga nsd nfa mrf mki mpa mta mla msl mco mhe mso msi msh mce mca mwo mnu mte nba npl nen nnu nwr mwa mke mma mth mtr nra nik), (mrf, .inl (cI, 8, .inl grf)), (mhe, .inl (cI, 8, .inl ghe)), (msi, .inl (cI, 8, .inl gsi)), (mwa, .inl (cI, 130, .inl gwa)), (mwo, .inl (cI, 64, .inl gwo)), (mnu, .inl (cI, 10, .inl gnu)), (mce, .inl (cJ, 1280, .inr (.inl gce))), (mki, .inl (cI, 8, .inl gki)), (mpa, .inl (cI, 8, .inl gpa)), (mta, .inl (cI, 8, .inl gta)), (mla, .inl (cI, 40, .inl gla)), (msl, .inl (cI, 40, .inl gsl)), (mco, .inl (cI, 3, .inl gco)), (mte, .inl (cI, 3, .inl gte))] s.heap.size) [(mrf, .inl (cI, 8, .inl grf)), (mhe, .inl (cI, 8, .inl ghe)), (msi, .inl (cI, 8, .inl gsi)), (mwa, .inl (cI, 130, .inl q_7)), (zMO m0 q_12 q_13 q_14 q_15 nto q_16 q_17 q_18 nsd (-1) mrf mki mpa mta mla msl mco mhe mso msi msh mce mca mwo mnu mte x_8 i_62 x_9 q_27 q_28 mwa mke mma mth mtr nra nik), (mwo, .inl (cI, 64, .inl gwo)), (mnu, .inl (cI, 10, .inl gnu)), (mce, .inl (cJ, 1280, .inr (.inl gce))), (mki, .inl (cI, 8, .inl q_19)), (mpa, .inl (cI, 8, .inl q_20)), (mta, .inl (cI, 8, .inl q_21)), (mla, .inl (cI, 40, .inl q_22)), (msl, .inl (cI, 40, .inl q_23)), (mco, .inl (cI, 3, .inl q_24)), (mte, .inl (cI, 3, .inl q_25))] := by rw [hi_62]; exact hD
    have h1i_62 : i_62.toInt = q_26.toInt := by rw [hi_62]
    obtain ⟨nfu, hni_62⟩ : ∃ nq9 : Nat, x_9.toInt ≤ i_62.toInt + (nq9 : Int) := ⟨((x_9.toInt : Int) - q_26.toInt).toNat, by omega⟩
    have hloi_62 : 0 ≤ i_62.toInt := by omega
    obtain ⟨g_31, hg_31⟩ : ∃ g : Nat → Int32, g = q_19 := ⟨_, rfl⟩
    have hpg_31 : zRg g_31 (0) 6 := by rw [hg_31]; exact hpq_19
    obtain ⟨g_32, hg_32⟩ : ∃ g : Nat → Int32, g = q_20 := ⟨_, rfl⟩
    have hpg_32 : zRg g_32 (0) 9 := by rw [hg_32]; exact hpq_20
    obtain ⟨g_33, hg_33⟩ : ∃ g : Nat → Int32, g = q_21 := ⟨_, rfl⟩
    have hpg_33 : zRg g_33 (0) 60 := by rw [hg_33]; exact hpq_21
    obtain ⟨g_34, hg_34⟩ : ∃ g : Nat → Int32, g = q_22 := ⟨_, rfl⟩
    have hpg_34 : zRg g_34 (0) 1 := by rw [hg_34]; exact hpq_22
    obtain ⟨g_35, hg_35⟩ : ∃ g : Nat → Int32, g = q_23 := ⟨_, rfl⟩
    have hpg_35 : zRg g_35 (0) 9 := by rw [hg_35]; exact hpq_23
    obtain ⟨g_36, hg_36⟩ : ∃ g : Nat → Int32, g = q_24 := ⟨_, rfl⟩
    have hpg_36 : zRg g_36 (0) 99 := by rw [hg_36]; exact hpq_24
    obtain ⟨g_37, hg_37⟩ : ∃ g : Nat → Int32, g = q_25 := ⟨_, rfl⟩
    obtain ⟨v_38, hv_38⟩ : ∃ g : Int32, g = q_12 := ⟨_, rfl⟩
    have hbv_38 : 0 ≤ v_38.toInt ∧ v_38.toInt ≤ 8 := by rw [hv_38]; exact ⟨by omega, by omega⟩
    obtain ⟨v_39, hv_39⟩ : ∃ g : Int32, g = q_13 := ⟨_, rfl⟩
    have hbv_39 : 4 ≤ v_39.toInt ∧ v_39.toInt ≤ 40 := by rw [hv_39]; exact ⟨by omega, by omega⟩
    obtain ⟨v_40, hv_40⟩ : ∃ g : Int32, g = q_14 := ⟨_, rfl⟩
    have hbv_40 : 0 ≤ v_40.toInt ∧ v_40.toInt ≤ 40 := by rw [hv_40]; exact ⟨by omega, by omega⟩
    obtain ⟨v_41, hv_41⟩ : ∃ g : Int32, g = q_15 := ⟨_, rfl⟩
    have hbv_41 : 0 ≤ v_41.toInt ∧ v_41.toInt ≤ 24 := by rw [hv_41]; exact ⟨by omega, by omega⟩
    obtain ⟨v_42, hv_42⟩ : ∃ g : Int32, g = q_16 := ⟨_, rfl⟩
    obtain ⟨v_43, hv_43⟩ : ∃ g : Int32, g = q_17 := ⟨_, rfl⟩
    have hbv_43 : 0 ≤ v_43.toInt ∧ v_43.toInt ≤ 9 := by rw [hv_43]; exact ⟨by omega, by omega⟩
    obtain ⟨v_44, hv_44⟩ : ∃ g : Int32, g = q_18 := ⟨_, rfl⟩
    obtain ⟨v_45, hv_45⟩ : ∃ g : Int32, g = q_27 := ⟨_, rfl⟩
    obtain ⟨v_46, hv_46⟩ : ∃ g : Int32, g = q_28 := ⟨_, rfl⟩
    replace hP : va_P D vwCl [(mrf, .inl (cI, 8, .inl grf)), (mhe, .inl (cI, 8, .inl ghe)), (msi, .inl (cI, 8, .inl gsi)), (mwa, .inl (cI, 130, .inl q_7)), (zMO m0 v_38 v_39 v_40 v_41 nto v_42 v_43 v_44 nsd (-1) mrf mki mpa mta mla msl mco mhe mso msi msh mce mca mwo mnu mte x_8 i_62 x_9 v_45 v_46 mwa mke mma mth mtr nra nik), (mwo, .inl (cI, 64, .inl gwo)), (mnu, .inl (cI, 10, .inl gnu)), (mce, .inl (cJ, 1280, .inr (.inl gce))), (mki, .inl (cI, 8, .inl g_31)), (mpa, .inl (cI, 8, .inl g_32)), (mta, .inl (cI, 8, .inl g_33)), (mla, .inl (cI, 40, .inl g_34)), (msl, .inl (cI, 40, .inl g_35)), (mco, .inl (cI, 3, .inl g_36)), (mte, .inl (cI, 3, .inl g_37))] H := by rw [hg_31, hg_32, hg_33, hg_34, hg_35, hg_36, hg_37, hv_38, hv_39, hv_40, hv_41, hv_42, hv_43, hv_44, hv_45, hv_46]; exact hP
    replace hD : va_D (va_A [(zMO m0 npu nte nat_ nde nto nse nhu nga nsd nfa mrf mki mpa mta mla msl mco mhe mso msi msh mce mca mwo mnu mte nba npl nen nnu nwr mwa mke mma mth mtr nra nik), (mrf, .inl (cI, 8, .inl grf)), (mhe, .inl (cI, 8, .inl ghe)), (msi, .inl (cI, 8, .inl gsi)), (mwa, .inl (cI, 130, .inl gwa)), (mwo, .inl (cI, 64, .inl gwo)), (mnu, .inl (cI, 10, .inl gnu)), (mce, .inl (cJ, 1280, .inr (.inl gce))), (mki, .inl (cI, 8, .inl gki)), (mpa, .inl (cI, 8, .inl gpa)), (mta, .inl (cI, 8, .inl gta)), (mla, .inl (cI, 40, .inl gla)), (msl, .inl (cI, 40, .inl gsl)), (mco, .inl (cI, 3, .inl gco)), (mte, .inl (cI, 3, .inl gte))] s.heap.size) [(mrf, .inl (cI, 8, .inl grf)), (mhe, .inl (cI, 8, .inl ghe)), (msi, .inl (cI, 8, .inl gsi)), (mwa, .inl (cI, 130, .inl q_7)), (zMO m0 v_38 v_39 v_40 v_41 nto v_42 v_43 v_44 nsd (-1) mrf mki mpa mta mla msl mco mhe mso msi msh mce mca mwo mnu mte x_8 i_62 x_9 v_45 v_46 mwa mke mma mth mtr nra nik), (mwo, .inl (cI, 64, .inl gwo)), (mnu, .inl (cI, 10, .inl gnu)), (mce, .inl (cJ, 1280, .inr (.inl gce))), (mki, .inl (cI, 8, .inl g_31)), (mpa, .inl (cI, 8, .inl g_32)), (mta, .inl (cI, 8, .inl g_33)), (mla, .inl (cI, 40, .inl g_34)), (msl, .inl (cI, 40, .inl g_35)), (mco, .inl (cI, 3, .inl g_36)), (mte, .inl (cI, 3, .inl g_37))] := by rw [hg_31, hg_32, hg_33, hg_34, hg_35, hg_36, hg_37, hv_38, hv_39, hv_40, hv_41, hv_42, hv_43, hv_44, hv_45, hv_46]; exact hD
    obtain ⟨v_47, hv_47⟩ : ∃ g : Int32, g = 1 := ⟨_, rfl⟩
    obtain ⟨v_48, hv_48⟩ : ∃ g : Int32, g = r_10 := ⟨_, rfl⟩
    replace hl : lv_has ls 5 [(4, .int v_48), (3, .int v_47), (0, .ref m0), (1, .int s_)] := by rw [hv_47, hv_48]; exact hl
    have hbv_47 : 1 ≤ v_47.toInt ∧ v_47.toInt ≤ 33 := by rw [hv_47]; exact ⟨by decide, by decide⟩
    have hbv_48 : 0 ≤ v_48.toInt ∧ v_48.toInt ≤ 1 := by rw [hv_48]; exact ⟨by omega, by omega⟩
    have hvi_62_0 : i_62.toInt ≤ (x_9 : Int32).toInt := by
      (try rw [hi_62]); (try rw [hg_31]); (try rw [hg_32]); (try rw [hg_33]); (try rw [hg_34]); (try rw [hg_35]); (try rw [hg_36]); (try rw [hg_37]); (try rw [hv_38]); (try rw [hv_39]); (try rw [hv_40]); (try rw [hv_41]); (try rw [hv_42]); (try rw [hv_43]); (try rw [hv_44]); (try rw [hv_45]); (try rw [hv_46]); (try rw [hv_47]); (try rw [hv_48]); omega
    have hvi_62_1 : ((v_48 : Int32).toInt = 1 → ∃ p t u : Int, zRgo (zMF gce (x_8 : Int32).toInt) (x_9 : Int32).toInt nte.toInt npu.toInt ((v_47 : Int32).toInt - 1).toNat = some (p, t, u) ∧ (zItem (zMF gce (x_8 : Int32).toInt) (x_9 : Int32).toInt p t u).1 = -1 ∧ i_62.toInt = (zItem (zMF gce (x_8 : Int32).toInt) (x_9 : Int32).toInt p t u).2.1 ∧ (v_39 : Int32).toInt = (zItem (zMF gce (x_8 : Int32).toInt) (x_9 : Int32).toInt p t u).2.2.1 ∧ (v_38 : Int32).toInt = (zItem (zMF gce (x_8 : Int32).toInt) (x_9 : Int32).toInt p t u).2.2.2) := by
      (try rw [hi_62]); (try rw [hg_31]); (try rw [hg_32]); (try rw [hg_33]); (try rw [hg_34]); (try rw [hg_35]); (try rw [hg_36]); (try rw [hg_37]); (try rw [hv_38]); (try rw [hv_39]); (try rw [hv_40]); (try rw [hv_41]); (try rw [hv_42]); (try rw [hv_43]); (try rw [hv_44]); (try rw [hv_45]); (try rw [hv_46]); (try rw [hv_47]); (try rw [hv_48]); (intro h; have k0 : (0 : Int32).toInt = 0 := (by decide); obtain ⟨z1, z2, z3, z4⟩ := hsr_10_1.1 h; rw [k0] at z1 z2 z3 z4; rw [show ((1 : Int32).toInt - 1).toNat = 0 from by decide]; exact ⟨0, nte.toInt, npu.toInt, rfl, z1, z2, z3, z4⟩)
    have hvi_62_2 : ((v_48 : Int32).toInt = 0 → 0 ≤ (v_46 : Int32).toInt ∧ zEnd (zMF gce (x_8 : Int32).toInt) (x_9 : Int32).toInt nte.toInt npu.toInt ((v_47 : Int32).toInt - 1).toNat (v_46 : Int32).toInt 0 0) := by
      (try rw [hi_62]); (try rw [hg_31]); (try rw [hg_32]); (try rw [hg_33]); (try rw [hg_34]); (try rw [hg_35]); (try rw [hg_36]); (try rw [hg_37]); (try rw [hv_38]); (try rw [hv_39]); (try rw [hv_40]); (try rw [hv_41]); (try rw [hv_42]); (try rw [hv_43]); (try rw [hv_44]); (try rw [hv_45]); (try rw [hv_46]); (try rw [hv_47]); (try rw [hv_48]); (intro h; have k0 : (0 : Int32).toInt = 0 := (by decide); obtain ⟨z1, z2⟩ := hsr_10_1.2 h; rw [k0] at z1; rw [show ((1 : Int32).toInt - 1).toNat = 0 from by decide]; exact ⟨z2, zEnd_a (k := 0) (p := 0) (t := nte.toInt) (u := npu.toInt) rfl (by omega) z1.symm rfl⟩)
    clear h1i_62 hi_62 hg_31 hg_32 hg_33 hg_34 hg_35 hg_36 hg_37 hv_38 hv_39 hv_40 hv_41 hv_42 hv_43 hv_44 hv_45 hv_46 hv_47 hv_48
    skip
    revert hni_62
    revert hloi_62
    revert hvi_62_2
    revert hvi_62_1
    revert hvi_62_0
    revert hbv_48
    revert hbv_47
    revert hbv_43
    revert hbv_41
    revert hbv_40
    revert hbv_39
    revert hbv_38
    revert hpg_36
    revert hpg_35
    revert hpg_34
    revert hpg_33
    revert hpg_32
    revert hpg_31
    revert hl
    revert hS
    revert hD
    revert hP
    revert ls
    revert locs
    revert H
    revert g_31
    revert g_32
    revert g_33
    revert g_34
    revert g_35
    revert g_36
    revert g_37
    revert v_38
    revert v_39
    revert v_40
    revert v_41
    revert v_42
    revert v_43
    revert v_44
    revert v_45
    revert v_46
    revert v_48
    revert v_47
    revert i_62
    induction nfu with
    | zero =>
      intro i_62 v_47 v_48 v_46 v_45 v_44 v_43 v_42 v_41 v_40 v_39 v_38 g_37 g_36 g_35 g_34 g_33 g_32 g_31 H locs ls hP hD hS hl hpg_31 hpg_32 hpg_33 hpg_34 hpg_35 hpg_36 hbv_38 hbv_39 hbv_40 hbv_41 hbv_43 hbv_47 hbv_48 hvi_62_0 hvi_62_1 hvi_62_2 hloi_62 hni_62
      have hzi_62 : x_9.toInt ≤ i_62.toInt := by omega
      refine lv_iload hx hb dX8_jacket_62 (lv_at hl 0 rfl) ?_
      refine lv_if_eq (tgt := 133) hx hb dX8_jacket_64 (by decide) (fun c_49 => ?_) (fun c_49 => ?_)
      · have fc_49 : v_48.toInt = 0 := zf_eq c_49 rfl (by decide)
        refine lv_iload hx hb dX8_jacket_133 (lv_at hl 0 rfl) ?_
        refine lv_if_eq (tgt := 140) hx hb dX8_jacket_135 (by decide) (fun c_50 => ?_) (fun c_50 => ?_)
        · have fc_50 : v_48.toInt = 0 := zf_eq c_50 rfl (by decide)
          refine lv_aload_n hx hb dX8_jacket_140 rfl (lv_at hl 2 rfl) ?_
          refine lv_aload_n hx hb dX8_jacket_141 rfl (lv_at hl 2 rfl) ?_
          refine va_get (D := D) (ci := 8) (v := .ref mwa) (C := RX8) (T := TX8) (N := 38) hx hb hts hi_X8_jacket_8 hown hK hP 4 rfl rfl 31 (by decide) (hts (.fieldLink RX8 75 "TheLiningsInItModel" "was" "[I") (List.mem_of_getElem? (i := 1) rfl)) (fun _ h9 => h9) rfl dX8_jacket_142 ?_
          refine lv_iconst (v := 1) hx hb dX8_jacket_145 (by decide) ?_
          skip
          refine zw_Vv (As := [.ref mwa, .int 1]) (rest := []) (wr := [(mrf, .inl (cI, 8, .inl grf)), (mhe, .inl (cI, 8, .inl ghe)), (msi, .inl (cI, 8, .inl gsi)), (mwo, .inl (cI, 64, .inl gwo)), (mnu, .inl (cI, 10, .inl gnu)), (mce, .inl (cJ, 1280, .inr (.inl gce))), (mte, .inl (cI, 3, .inl g_37))]) ⟨hx, hb, hml, hown, hts⟩ (c_M_all_b l D cI cJ cZ cP cS po m0 mrf mki mpa mta mla msl mco mhe mso msi msh mce mca mwo mnu mte mwa mke mma mth mtr (v_38) (v_39) (v_40) (v_41) (nto) (v_42) (v_43) (v_44) (nsd) ((-1)) (x_8) (i_62) (x_9) (v_45) (v_46) (nra) (nik) g_31 g_32 g_33 g_34 g_35 g_36 mwa q_7 hbv_38.1 hbv_38.2 hbv_39.1 hbv_39.2 hbv_40.1 hbv_40.2 hbv_41.1 hbv_41.2 hbv_43.1 hbv_43.2 hy10 hy11 hy12 hy13 (zAll_kp hsr_5_0 hp_gki hp_gpa hp_gta hp_gla hp_gsl hp_gco ⟨by omega, by omega⟩ ⟨by omega, by omega⟩ ⟨by omega, by omega⟩ ⟨by omega, by omega⟩ ⟨by omega, by omega⟩) hpg_31 hpg_32 hpg_33 hpg_34 hpg_35 hpg_36 H.size) (cwV 2 hts gX8_jacket_X8_all rfl rfl rfl ⟨rfl, dh_X8_all⟩ ⟨Nat.le_of_ble_eq_true rfl, Nat.le_of_ble_eq_true rfl⟩) hK hN (hZ.kept hS) hP hD hS hA [4, 8, 9, 10, 11, 12, 13, 3] [0, 1, 2, 5, 6, 7, 14] rfl rfl (by decide) (by decide) (by decide) (va_recv (q := (RX8, TX8, 38)) hK hP (ci := 8) (q0 := 4) rfl rfl) rfl hl.1 rfl (Nat.le_of_ble_eq_true rfl) dX8_jacket_146 ⟨Nat.le_of_ble_eq_true rfl, Nat.le_of_ble_eq_true rfl⟩ (fun u_52 H locs hr_51 hP hD hS => ?_)
          obtain ⟨q_53, q_54, q_55, q_56, q_57, q_58, q_59, q_60, q_61, q_62, q_63, q_64, q_65, q_66, q_67⟩ := u_52
          try dsimp only at hr_51
          obtain ⟨hbq_53, hbq_54, hbq_55, hbq_56, hbq_59, hpq_62, hpq_63, hpq_64, hpq_65, hpq_66, hpq_67, hsr_51_0, hsr_51_1, hsr_51_2, hsr_51_3, hsr_51_4, hsr_51_5, hsr_51_6, hr_51⟩ := hr_51
          have h9R := zRe (ws' := [(mrf, .inl (cI, 8, .inl grf)), (mhe, .inl (cI, 8, .inl ghe)), (msi, .inl (cI, 8, .inl gsi)), (mwo, .inl (cI, 64, .inl gwo)), (mnu, .inl (cI, 10, .inl gnu)), (mce, .inl (cJ, 1280, .inr (.inl gce))), (mte, .inl (cI, 3, .inl g_37)), (zMO m0 q_53 q_54 q_55 q_56 q_57 q_58 q_59 q_60 q_61 (-1) mrf mki mpa mta mla msl mco mhe mso msi msh mce mca mwo mnu mte x_8 i_62 x_9 v_45 v_46 mwa mke mma mth mtr nra nik), (mki, .inl (cI, 8, .inl q_62)), (mpa, .inl (cI, 8, .inl q_63)), (mta, .inl (cI, 8, .inl q_64)), (mla, .inl (cI, 40, .inl q_65)), (msl, .inl (cI, 40, .inl q_66)), (mco, .inl (cI, 3, .inl q_67)), (mwa, .inl (cI, 130, .inl q_7))]) hP hD rfl
          clear hP hD
          obtain ⟨hP, hD⟩ := h9R
          refine lv_aload_n hx hb dX8_jacket_149 rfl (lv_at hl 2 rfl) ?_
          refine lv_aload_n hx hb dX8_jacket_150 rfl (lv_at hl 2 rfl) ?_
          refine va_get (D := D) (ci := 8) (v := .int v_46) (C := RX8) (T := TX8) (N := 38) hx hb hts hi_X8_jacket_8 hown hK hP 7 rfl rfl 30 (by decide) (hts (.fieldLink RX8 149 "TheLiningsInItModel" "wrongAt" "I") (List.mem_of_getElem? (i := 8) rfl)) (fun _ h9 => h9) rfl dX8_jacket_151 ?_
          refine va_put (D := D) (ci := 8) (v := .int v_46) (ty := .int) (C := RX8) (T := TX8) (N := 38) hx hb hts hi_X8_jacket_8 tyX8 tyX8_ok nmX8 hown hK hP hD hS 7 rfl rfl 9 (by decide) (hts (.fieldLink RX8 22 "TheLiningsInItModel" "fault" "I") (List.mem_of_getElem? (i := 6) rfl)) (fun _ h9 => h9) rfl (tyX8_ok 9 (Nat.le_of_ble_eq_true rfl)) rfl rfl (Nat.le_of_ble_eq_true rfl) dX8_jacket_154 (fun H locs hP hD hS => ?_)
          have h9R := zRe (ws' := [(mrf, .inl (cI, 8, .inl grf)), (mhe, .inl (cI, 8, .inl ghe)), (msi, .inl (cI, 8, .inl gsi)), (mwo, .inl (cI, 64, .inl gwo)), (mnu, .inl (cI, 10, .inl gnu)), (mce, .inl (cJ, 1280, .inr (.inl gce))), (mte, .inl (cI, 3, .inl g_37)), (zMO m0 q_53 q_54 q_55 q_56 q_57 q_58 q_59 q_60 q_61 v_46 mrf mki mpa mta mla msl mco mhe mso msi msh mce mca mwo mnu mte x_8 i_62 x_9 v_45 v_46 mwa mke mma mth mtr nra nik), (mki, .inl (cI, 8, .inl q_62)), (mpa, .inl (cI, 8, .inl q_63)), (mta, .inl (cI, 8, .inl q_64)), (mla, .inl (cI, 40, .inl q_65)), (msl, .inl (cI, 40, .inl q_66)), (mco, .inl (cI, 3, .inl q_67)), (mwa, .inl (cI, 130, .inl q_7))]) hP hD rfl
          clear hP hD
          obtain ⟨hP, hD⟩ := h9R
          refine lv_aload_n hx hb dX8_jacket_157 rfl (lv_at hl 2 rfl) ?_
          refine lv_bipush (v := (-6)) hx hb dX8_jacket_158 (by decide) ?_
          skip
          refine zw_V (As := [.int (-6)]) (rest := []) (wr := [(mhe, .inl (cI, 8, .inl ghe)), (msi, .inl (cI, 8, .inl gsi)), (mwo, .inl (cI, 64, .inl gwo)), (mnu, .inl (cI, 10, .inl gnu)), (mce, .inl (cJ, 1280, .inr (.inl gce))), (mte, .inl (cI, 3, .inl g_37)), (mki, .inl (cI, 8, .inl q_62)), (mpa, .inl (cI, 8, .inl q_63)), (mta, .inl (cI, 8, .inl q_64)), (mla, .inl (cI, 40, .inl q_65)), (msl, .inl (cI, 40, .inl q_66)), (mco, .inl (cI, 3, .inl q_67)), (mwa, .inl (cI, 130, .inl q_7))]) ⟨hx, hb, hml, hown, hts⟩ (c_M_no_6 l D cI cJ cZ cP cS po m0 mrf mki mpa mta mla msl mco mhe mso msi msh mce mca mwo mnu mte mwa mke mma mth mtr (q_53) (q_54) (q_55) (q_56) (q_57) (q_58) (q_59) (q_60) (q_61) (v_46) (x_8) (i_62) (x_9) (v_45) (v_46) (nra) (nik) grf hbq_53.1 hbq_53.2 hbq_54.1 hbq_54.2 hbq_55.1 hbq_55.2 hbq_56.1 hbq_56.2 hbq_59.1 hbq_59.2 hy10 hy11 hy12 hy13 H.size) (cwV 1 hts gX8_jacket_X8_no rfl rfl rfl ⟨rfl, dh_X8_no⟩ ⟨Nat.le_of_ble_eq_true rfl, Nat.le_of_ble_eq_true rfl⟩) hK hN (hZ.kept hS) hP hD hS hA [7, 0] [1, 2, 3, 4, 5, 6, 8, 9, 10, 11, 12, 13, 14] rfl rfl (by decide) (by decide) (by decide) (va_recv (q := (RX8, TX8, 38)) hK hP (ci := 8) (q0 := 7) rfl rfl) rfl hl.1 rfl (Nat.le_of_ble_eq_true rfl) dX8_jacket_160 ⟨Nat.le_of_ble_eq_true rfl, Nat.le_of_ble_eq_true rfl⟩ (fun r_68 u_69 H locs hr_68 hP hD hS => ?_)
          obtain ⟨q_70, rfl⟩ : ∃ z, z = u_69 := ⟨_, rfl⟩
          have h9R := zRe (ws' := [(mhe, .inl (cI, 8, .inl ghe)), (msi, .inl (cI, 8, .inl gsi)), (mwo, .inl (cI, 64, .inl gwo)), (mnu, .inl (cI, 10, .inl gnu)), (mce, .inl (cJ, 1280, .inr (.inl gce))), (mte, .inl (cI, 3, .inl g_37)), (mki, .inl (cI, 8, .inl q_62)), (mpa, .inl (cI, 8, .inl q_63)), (mta, .inl (cI, 8, .inl q_64)), (mla, .inl (cI, 40, .inl q_65)), (msl, .inl (cI, 40, .inl q_66)), (mco, .inl (cI, 3, .inl q_67)), (mwa, .inl (cI, 130, .inl q_7)), (zMO m0 q_53 q_54 q_55 q_56 q_57 q_58 q_59 q_60 q_61 v_46 mrf mki mpa mta mla msl mco mhe mso msi msh mce mca mwo mnu mte x_8 i_62 x_9 v_45 v_46 mwa mke mma mth mtr nra nik), (mrf, .inl (cI, 8, .inl q_70))]) hP hD rfl
          clear hP hD
          obtain ⟨hP, hD⟩ := h9R
          obtain rfl := hr_68
          exact W.iret (v := (-6)) hx hb hr (fun t ht hW => ⟨⟨(-6), (q_53, q_54, q_55, q_56, q_57, q_58, q_59, q_60, q_61, q_70, q_7, q_62, q_63, q_64, q_65, q_66, q_67, g_37, v_46, x_8, i_62, x_9, v_45, v_46), rfl, ⟨(show 0 ≤ q_53.toInt ∧ q_53.toInt ≤ 8 from hbq_53), (show 4 ≤ q_54.toInt ∧ q_54.toInt ≤ 40 from hbq_54), (show 0 ≤ q_55.toInt ∧ q_55.toInt ≤ 40 from hbq_55), (show 0 ≤ q_56.toInt ∧ q_56.toInt ≤ 24 from hbq_56), (show 0 ≤ q_59.toInt ∧ q_59.toInt ≤ 9 from hbq_59), hpq_62, hpq_63, hpq_64, hpq_65, hpq_66, hpq_67, (show zJac (zMF gce (160 * s_.toInt)) (gsi s_.toNatClampNeg).toInt s_.toInt (zHc (ghe s_.toNatClampNeg).toInt) nfa.toInt npu.toInt nte.toInt ((-6) : Int32).toInt v_46.toInt q_53.toInt q_54.toInt from by (have k9 : ((-6) : Int32).toInt = -6 := (by decide); have zw := hsr_1_0; obtain ⟨zW, zE⟩ := hvi_62_2 (by omega); rw [show (x_8 : Int32).toInt = 160 * s_.toInt from by omega, show (x_9 : Int32).toInt = (gsi s_.toNatClampNeg).toInt from by (rw [ex_9])] at zE; unfold zJac zHc; rw [if_pos (show (ghe s_.toNatClampNeg).toInt = 1 from by omega)]; refine Or.inr (Or.inr (Or.inr ⟨by omega, by omega, _, _, _, _, zE, ?_⟩)); exact Or.inl ⟨by omega, by omega, by first | rfl | omega, by rw [hsr_51_6.1, hsr_5_0 107 (by decide)]; rfl, by rw [hsr_51_6.2.1, hsr_5_0 108 (by decide)]; rfl⟩)), trivial⟩, zRet ht hP hD [13, 14, 0, 1, 12, 2, 3, 4, 6, 7, 8, 9, 10, 11, 5] (by decide) rfl⟩, hS.F ht⟩) hS.2.2 dX8_jacket_163
        · exfalso; have fc_50 : v_48.toInt ≠ 0 := zf_ne c_50 rfl (by decide); omega
      · have fc_49 : v_48.toInt ≠ 0 := zf_ne c_49 rfl (by decide)
        refine lv_aload_n hx hb dX8_jacket_67 rfl (lv_at hl 2 rfl) ?_
        refine va_get (D := D) (ci := 8) (v := .int i_62) (C := RX8) (T := TX8) (N := 38) hx hb hts hi_X8_jacket_8 hown hK hP 4 rfl rfl 27 (by decide) (hts (.fieldLink RX8 152 "TheLiningsInItModel" "place" "I") (List.mem_of_getElem? (i := 3) rfl)) (fun _ h9 => h9) rfl dX8_jacket_68 ?_
        refine lv_aload_n hx hb dX8_jacket_71 rfl (lv_at hl 2 rfl) ?_
        refine va_get (D := D) (ci := 8) (v := .int x_9) (C := RX8) (T := TX8) (N := 38) hx hb hts hi_X8_jacket_8 hown hK hP 4 rfl rfl 28 (by decide) (hts (.fieldLink RX8 155 "TheLiningsInItModel" "end" "I") (List.mem_of_getElem? (i := 5) rfl)) (fun _ h9 => h9) rfl dX8_jacket_72 ?_
        refine lv_icmp_ge (tgt := 133) hx hb dX8_jacket_75 (by decide) (fun c_71 => ?_) (fun c_71 => ?_)
        · have fc_71 : x_9.toInt ≤ i_62.toInt := zf_le c_71 rfl rfl
          refine lv_iload hx hb dX8_jacket_133 (lv_at hl 0 rfl) ?_
          refine lv_if_eq (tgt := 140) hx hb dX8_jacket_135 (by decide) (fun c_72 => ?_) (fun c_72 => ?_)
          · exfalso; have fc_72 : v_48.toInt = 0 := zf_eq c_72 rfl (by decide); omega
          · have fc_72 : v_48.toInt ≠ 0 := zf_ne c_72 rfl (by decide)
            refine lv_iload_n hx hb dX8_jacket_138 rfl (lv_at hl 1 rfl) ?_
            exact W.iret (v := v_47) hx hb hr (fun t ht hW => ⟨⟨v_47, (v_38, v_39, v_40, v_41, nto, v_42, v_43, v_44, nsd, grf, q_7, g_31, g_32, g_33, g_34, g_35, g_36, g_37, (-1), x_8, i_62, x_9, v_45, v_46), rfl, ⟨(show 0 ≤ v_38.toInt ∧ v_38.toInt ≤ 8 from hbv_38), (show 4 ≤ v_39.toInt ∧ v_39.toInt ≤ 40 from hbv_39), (show 0 ≤ v_40.toInt ∧ v_40.toInt ≤ 40 from hbv_40), (show 0 ≤ v_41.toInt ∧ v_41.toInt ≤ 24 from hbv_41), (show 0 ≤ v_43.toInt ∧ v_43.toInt ≤ 9 from hbv_43), hpg_31, hpg_32, hpg_33, hpg_34, hpg_35, hpg_36, (show zJac (zMF gce (160 * s_.toInt)) (gsi s_.toNatClampNeg).toInt s_.toInt (zHc (ghe s_.toNatClampNeg).toInt) nfa.toInt npu.toInt nte.toInt (v_47 : Int32).toInt ((-1) : Int32).toInt v_38.toInt v_39.toInt from by (have zw := hsr_1_0; obtain ⟨p, t, u, z1, z2, z3, z4, z5⟩ := hvi_62_1 (by omega); have zE := zEnd_b (k2 := (v_47.toInt - 1).toNat) z1 z2 (by omega) rfl rfl rfl rfl; rw [show (x_8 : Int32).toInt = 160 * s_.toInt from by omega, show (x_9 : Int32).toInt = (gsi s_.toNatClampNeg).toInt from by (rw [ex_9])] at zE z4 z5; unfold zJac zHc; rw [if_pos (show (ghe s_.toNatClampNeg).toInt = 1 from by omega)]; refine Or.inr (Or.inr (Or.inr ⟨by omega, by omega, _, _, _, _, zE, ?_⟩)); exact Or.inr ⟨rfl, by omega, by first | decide | omega, z5, z4⟩)), trivial⟩, zRet ht hP hD [4, 0, 1, 2, 3, 5, 6, 7, 8, 9, 10, 11, 12, 13, 14] (by decide) rfl⟩, hS.F ht⟩) hS.2.2 dX8_jacket_139
        · exfalso; have fc_71 : i_62.toInt < x_9.toInt := zf_nle c_71 rfl rfl; omega
    | succ nfu ih =>
      intro i_62 v_47 v_48 v_46 v_45 v_44 v_43 v_42 v_41 v_40 v_39 v_38 g_37 g_36 g_35 g_34 g_33 g_32 g_31 H locs ls hP hD hS hl hpg_31 hpg_32 hpg_33 hpg_34 hpg_35 hpg_36 hbv_38 hbv_39 hbv_40 hbv_41 hbv_43 hbv_47 hbv_48 hvi_62_0 hvi_62_1 hvi_62_2 hloi_62 hni_62
      refine lv_iload hx hb dX8_jacket_62 (lv_at hl 0 rfl) ?_
      refine lv_if_eq (tgt := 133) hx hb dX8_jacket_64 (by decide) (fun c_73 => ?_) (fun c_73 => ?_)
      · have fc_73 : v_48.toInt = 0 := zf_eq c_73 rfl (by decide)
        refine lv_iload hx hb dX8_jacket_133 (lv_at hl 0 rfl) ?_
        refine lv_if_eq (tgt := 140) hx hb dX8_jacket_135 (by decide) (fun c_74 => ?_) (fun c_74 => ?_)
        · have fc_74 : v_48.toInt = 0 := zf_eq c_74 rfl (by decide)
          refine lv_aload_n hx hb dX8_jacket_140 rfl (lv_at hl 2 rfl) ?_
          refine lv_aload_n hx hb dX8_jacket_141 rfl (lv_at hl 2 rfl) ?_
          refine va_get (D := D) (ci := 8) (v := .ref mwa) (C := RX8) (T := TX8) (N := 38) hx hb hts hi_X8_jacket_8 hown hK hP 4 rfl rfl 31 (by decide) (hts (.fieldLink RX8 75 "TheLiningsInItModel" "was" "[I") (List.mem_of_getElem? (i := 1) rfl)) (fun _ h9 => h9) rfl dX8_jacket_142 ?_
          refine lv_iconst (v := 1) hx hb dX8_jacket_145 (by decide) ?_
          skip
          refine zw_Vv (As := [.ref mwa, .int 1]) (rest := []) (wr := [(mrf, .inl (cI, 8, .inl grf)), (mhe, .inl (cI, 8, .inl ghe)), (msi, .inl (cI, 8, .inl gsi)), (mwo, .inl (cI, 64, .inl gwo)), (mnu, .inl (cI, 10, .inl gnu)), (mce, .inl (cJ, 1280, .inr (.inl gce))), (mte, .inl (cI, 3, .inl g_37))]) ⟨hx, hb, hml, hown, hts⟩ (c_M_all_b l D cI cJ cZ cP cS po m0 mrf mki mpa mta mla msl mco mhe mso msi msh mce mca mwo mnu mte mwa mke mma mth mtr (v_38) (v_39) (v_40) (v_41) (nto) (v_42) (v_43) (v_44) (nsd) ((-1)) (x_8) (i_62) (x_9) (v_45) (v_46) (nra) (nik) g_31 g_32 g_33 g_34 g_35 g_36 mwa q_7 hbv_38.1 hbv_38.2 hbv_39.1 hbv_39.2 hbv_40.1 hbv_40.2 hbv_41.1 hbv_41.2 hbv_43.1 hbv_43.2 hy10 hy11 hy12 hy13 (zAll_kp hsr_5_0 hp_gki hp_gpa hp_gta hp_gla hp_gsl hp_gco ⟨by omega, by omega⟩ ⟨by omega, by omega⟩ ⟨by omega, by omega⟩ ⟨by omega, by omega⟩ ⟨by omega, by omega⟩) hpg_31 hpg_32 hpg_33 hpg_34 hpg_35 hpg_36 H.size) (cwV 2 hts gX8_jacket_X8_all rfl rfl rfl ⟨rfl, dh_X8_all⟩ ⟨Nat.le_of_ble_eq_true rfl, Nat.le_of_ble_eq_true rfl⟩) hK hN (hZ.kept hS) hP hD hS hA [4, 8, 9, 10, 11, 12, 13, 3] [0, 1, 2, 5, 6, 7, 14] rfl rfl (by decide) (by decide) (by decide) (va_recv (q := (RX8, TX8, 38)) hK hP (ci := 8) (q0 := 4) rfl rfl) rfl hl.1 rfl (Nat.le_of_ble_eq_true rfl) dX8_jacket_146 ⟨Nat.le_of_ble_eq_true rfl, Nat.le_of_ble_eq_true rfl⟩ (fun u_76 H locs hr_75 hP hD hS => ?_)
          obtain ⟨q_77, q_78, q_79, q_80, q_81, q_82, q_83, q_84, q_85, q_86, q_87, q_88, q_89, q_90, q_91⟩ := u_76
          try dsimp only at hr_75
          obtain ⟨hbq_77, hbq_78, hbq_79, hbq_80, hbq_83, hpq_86, hpq_87, hpq_88, hpq_89, hpq_90, hpq_91, hsr_75_0, hsr_75_1, hsr_75_2, hsr_75_3, hsr_75_4, hsr_75_5, hsr_75_6, hr_75⟩ := hr_75
          have h9R := zRe (ws' := [(mrf, .inl (cI, 8, .inl grf)), (mhe, .inl (cI, 8, .inl ghe)), (msi, .inl (cI, 8, .inl gsi)), (mwo, .inl (cI, 64, .inl gwo)), (mnu, .inl (cI, 10, .inl gnu)), (mce, .inl (cJ, 1280, .inr (.inl gce))), (mte, .inl (cI, 3, .inl g_37)), (zMO m0 q_77 q_78 q_79 q_80 q_81 q_82 q_83 q_84 q_85 (-1) mrf mki mpa mta mla msl mco mhe mso msi msh mce mca mwo mnu mte x_8 i_62 x_9 v_45 v_46 mwa mke mma mth mtr nra nik), (mki, .inl (cI, 8, .inl q_86)), (mpa, .inl (cI, 8, .inl q_87)), (mta, .inl (cI, 8, .inl q_88)), (mla, .inl (cI, 40, .inl q_89)), (msl, .inl (cI, 40, .inl q_90)), (mco, .inl (cI, 3, .inl q_91)), (mwa, .inl (cI, 130, .inl q_7))]) hP hD rfl
          clear hP hD
          obtain ⟨hP, hD⟩ := h9R
          refine lv_aload_n hx hb dX8_jacket_149 rfl (lv_at hl 2 rfl) ?_
          refine lv_aload_n hx hb dX8_jacket_150 rfl (lv_at hl 2 rfl) ?_
          refine va_get (D := D) (ci := 8) (v := .int v_46) (C := RX8) (T := TX8) (N := 38) hx hb hts hi_X8_jacket_8 hown hK hP 7 rfl rfl 30 (by decide) (hts (.fieldLink RX8 149 "TheLiningsInItModel" "wrongAt" "I") (List.mem_of_getElem? (i := 8) rfl)) (fun _ h9 => h9) rfl dX8_jacket_151 ?_
          refine va_put (D := D) (ci := 8) (v := .int v_46) (ty := .int) (C := RX8) (T := TX8) (N := 38) hx hb hts hi_X8_jacket_8 tyX8 tyX8_ok nmX8 hown hK hP hD hS 7 rfl rfl 9 (by decide) (hts (.fieldLink RX8 22 "TheLiningsInItModel" "fault" "I") (List.mem_of_getElem? (i := 6) rfl)) (fun _ h9 => h9) rfl (tyX8_ok 9 (Nat.le_of_ble_eq_true rfl)) rfl rfl (Nat.le_of_ble_eq_true rfl) dX8_jacket_154 (fun H locs hP hD hS => ?_)
          have h9R := zRe (ws' := [(mrf, .inl (cI, 8, .inl grf)), (mhe, .inl (cI, 8, .inl ghe)), (msi, .inl (cI, 8, .inl gsi)), (mwo, .inl (cI, 64, .inl gwo)), (mnu, .inl (cI, 10, .inl gnu)), (mce, .inl (cJ, 1280, .inr (.inl gce))), (mte, .inl (cI, 3, .inl g_37)), (zMO m0 q_77 q_78 q_79 q_80 q_81 q_82 q_83 q_84 q_85 v_46 mrf mki mpa mta mla msl mco mhe mso msi msh mce mca mwo mnu mte x_8 i_62 x_9 v_45 v_46 mwa mke mma mth mtr nra nik), (mki, .inl (cI, 8, .inl q_86)), (mpa, .inl (cI, 8, .inl q_87)), (mta, .inl (cI, 8, .inl q_88)), (mla, .inl (cI, 40, .inl q_89)), (msl, .inl (cI, 40, .inl q_90)), (mco, .inl (cI, 3, .inl q_91)), (mwa, .inl (cI, 130, .inl q_7))]) hP hD rfl
          clear hP hD
          obtain ⟨hP, hD⟩ := h9R
          refine lv_aload_n hx hb dX8_jacket_157 rfl (lv_at hl 2 rfl) ?_
          refine lv_bipush (v := (-6)) hx hb dX8_jacket_158 (by decide) ?_
          skip
          refine zw_V (As := [.int (-6)]) (rest := []) (wr := [(mhe, .inl (cI, 8, .inl ghe)), (msi, .inl (cI, 8, .inl gsi)), (mwo, .inl (cI, 64, .inl gwo)), (mnu, .inl (cI, 10, .inl gnu)), (mce, .inl (cJ, 1280, .inr (.inl gce))), (mte, .inl (cI, 3, .inl g_37)), (mki, .inl (cI, 8, .inl q_86)), (mpa, .inl (cI, 8, .inl q_87)), (mta, .inl (cI, 8, .inl q_88)), (mla, .inl (cI, 40, .inl q_89)), (msl, .inl (cI, 40, .inl q_90)), (mco, .inl (cI, 3, .inl q_91)), (mwa, .inl (cI, 130, .inl q_7))]) ⟨hx, hb, hml, hown, hts⟩ (c_M_no_6 l D cI cJ cZ cP cS po m0 mrf mki mpa mta mla msl mco mhe mso msi msh mce mca mwo mnu mte mwa mke mma mth mtr (q_77) (q_78) (q_79) (q_80) (q_81) (q_82) (q_83) (q_84) (q_85) (v_46) (x_8) (i_62) (x_9) (v_45) (v_46) (nra) (nik) grf hbq_77.1 hbq_77.2 hbq_78.1 hbq_78.2 hbq_79.1 hbq_79.2 hbq_80.1 hbq_80.2 hbq_83.1 hbq_83.2 hy10 hy11 hy12 hy13 H.size) (cwV 1 hts gX8_jacket_X8_no rfl rfl rfl ⟨rfl, dh_X8_no⟩ ⟨Nat.le_of_ble_eq_true rfl, Nat.le_of_ble_eq_true rfl⟩) hK hN (hZ.kept hS) hP hD hS hA [7, 0] [1, 2, 3, 4, 5, 6, 8, 9, 10, 11, 12, 13, 14] rfl rfl (by decide) (by decide) (by decide) (va_recv (q := (RX8, TX8, 38)) hK hP (ci := 8) (q0 := 7) rfl rfl) rfl hl.1 rfl (Nat.le_of_ble_eq_true rfl) dX8_jacket_160 ⟨Nat.le_of_ble_eq_true rfl, Nat.le_of_ble_eq_true rfl⟩ (fun r_92 u_93 H locs hr_92 hP hD hS => ?_)
          obtain ⟨q_94, rfl⟩ : ∃ z, z = u_93 := ⟨_, rfl⟩
          have h9R := zRe (ws' := [(mhe, .inl (cI, 8, .inl ghe)), (msi, .inl (cI, 8, .inl gsi)), (mwo, .inl (cI, 64, .inl gwo)), (mnu, .inl (cI, 10, .inl gnu)), (mce, .inl (cJ, 1280, .inr (.inl gce))), (mte, .inl (cI, 3, .inl g_37)), (mki, .inl (cI, 8, .inl q_86)), (mpa, .inl (cI, 8, .inl q_87)), (mta, .inl (cI, 8, .inl q_88)), (mla, .inl (cI, 40, .inl q_89)), (msl, .inl (cI, 40, .inl q_90)), (mco, .inl (cI, 3, .inl q_91)), (mwa, .inl (cI, 130, .inl q_7)), (zMO m0 q_77 q_78 q_79 q_80 q_81 q_82 q_83 q_84 q_85 v_46 mrf mki mpa mta mla msl mco mhe mso msi msh mce mca mwo mnu mte x_8 i_62 x_9 v_45 v_46 mwa mke mma mth mtr nra nik), (mrf, .inl (cI, 8, .inl q_94))]) hP hD rfl
          clear hP hD
          obtain ⟨hP, hD⟩ := h9R
          obtain rfl := hr_92
          exact W.iret (v := (-6)) hx hb hr (fun t ht hW => ⟨⟨(-6), (q_77, q_78, q_79, q_80, q_81, q_82, q_83, q_84, q_85, q_94, q_7, q_86, q_87, q_88, q_89, q_90, q_91, g_37, v_46, x_8, i_62, x_9, v_45, v_46), rfl, ⟨(show 0 ≤ q_77.toInt ∧ q_77.toInt ≤ 8 from hbq_77), (show 4 ≤ q_78.toInt ∧ q_78.toInt ≤ 40 from hbq_78), (show 0 ≤ q_79.toInt ∧ q_79.toInt ≤ 40 from hbq_79), (show 0 ≤ q_80.toInt ∧ q_80.toInt ≤ 24 from hbq_80), (show 0 ≤ q_83.toInt ∧ q_83.toInt ≤ 9 from hbq_83), hpq_86, hpq_87, hpq_88, hpq_89, hpq_90, hpq_91, (show zJac (zMF gce (160 * s_.toInt)) (gsi s_.toNatClampNeg).toInt s_.toInt (zHc (ghe s_.toNatClampNeg).toInt) nfa.toInt npu.toInt nte.toInt ((-6) : Int32).toInt v_46.toInt q_77.toInt q_78.toInt from by (have k9 : ((-6) : Int32).toInt = -6 := (by decide); have zw := hsr_1_0; obtain ⟨zW, zE⟩ := hvi_62_2 (by omega); rw [show (x_8 : Int32).toInt = 160 * s_.toInt from by omega, show (x_9 : Int32).toInt = (gsi s_.toNatClampNeg).toInt from by (rw [ex_9])] at zE; unfold zJac zHc; rw [if_pos (show (ghe s_.toNatClampNeg).toInt = 1 from by omega)]; refine Or.inr (Or.inr (Or.inr ⟨by omega, by omega, _, _, _, _, zE, ?_⟩)); exact Or.inl ⟨by omega, by omega, by first | rfl | omega, by rw [hsr_75_6.1, hsr_5_0 107 (by decide)]; rfl, by rw [hsr_75_6.2.1, hsr_5_0 108 (by decide)]; rfl⟩)), trivial⟩, zRet ht hP hD [13, 14, 0, 1, 12, 2, 3, 4, 6, 7, 8, 9, 10, 11, 5] (by decide) rfl⟩, hS.F ht⟩) hS.2.2 dX8_jacket_163
        · exfalso; have fc_74 : v_48.toInt ≠ 0 := zf_ne c_74 rfl (by decide); omega
      · have fc_73 : v_48.toInt ≠ 0 := zf_ne c_73 rfl (by decide)
        refine lv_aload_n hx hb dX8_jacket_67 rfl (lv_at hl 2 rfl) ?_
        refine va_get (D := D) (ci := 8) (v := .int i_62) (C := RX8) (T := TX8) (N := 38) hx hb hts hi_X8_jacket_8 hown hK hP 4 rfl rfl 27 (by decide) (hts (.fieldLink RX8 152 "TheLiningsInItModel" "place" "I") (List.mem_of_getElem? (i := 3) rfl)) (fun _ h9 => h9) rfl dX8_jacket_68 ?_
        refine lv_aload_n hx hb dX8_jacket_71 rfl (lv_at hl 2 rfl) ?_
        refine va_get (D := D) (ci := 8) (v := .int x_9) (C := RX8) (T := TX8) (N := 38) hx hb hts hi_X8_jacket_8 hown hK hP 4 rfl rfl 28 (by decide) (hts (.fieldLink RX8 155 "TheLiningsInItModel" "end" "I") (List.mem_of_getElem? (i := 5) rfl)) (fun _ h9 => h9) rfl dX8_jacket_72 ?_
        refine lv_icmp_ge (tgt := 133) hx hb dX8_jacket_75 (by decide) (fun c_95 => ?_) (fun c_95 => ?_)
        · have fc_95 : x_9.toInt ≤ i_62.toInt := zf_le c_95 rfl rfl
          refine lv_iload hx hb dX8_jacket_133 (lv_at hl 0 rfl) ?_
          refine lv_if_eq (tgt := 140) hx hb dX8_jacket_135 (by decide) (fun c_96 => ?_) (fun c_96 => ?_)
          · exfalso; have fc_96 : v_48.toInt = 0 := zf_eq c_96 rfl (by decide); omega
          · have fc_96 : v_48.toInt ≠ 0 := zf_ne c_96 rfl (by decide)
            refine lv_iload_n hx hb dX8_jacket_138 rfl (lv_at hl 1 rfl) ?_
            exact W.iret (v := v_47) hx hb hr (fun t ht hW => ⟨⟨v_47, (v_38, v_39, v_40, v_41, nto, v_42, v_43, v_44, nsd, grf, q_7, g_31, g_32, g_33, g_34, g_35, g_36, g_37, (-1), x_8, i_62, x_9, v_45, v_46), rfl, ⟨(show 0 ≤ v_38.toInt ∧ v_38.toInt ≤ 8 from hbv_38), (show 4 ≤ v_39.toInt ∧ v_39.toInt ≤ 40 from hbv_39), (show 0 ≤ v_40.toInt ∧ v_40.toInt ≤ 40 from hbv_40), (show 0 ≤ v_41.toInt ∧ v_41.toInt ≤ 24 from hbv_41), (show 0 ≤ v_43.toInt ∧ v_43.toInt ≤ 9 from hbv_43), hpg_31, hpg_32, hpg_33, hpg_34, hpg_35, hpg_36, (show zJac (zMF gce (160 * s_.toInt)) (gsi s_.toNatClampNeg).toInt s_.toInt (zHc (ghe s_.toNatClampNeg).toInt) nfa.toInt npu.toInt nte.toInt (v_47 : Int32).toInt ((-1) : Int32).toInt v_38.toInt v_39.toInt from by (have zw := hsr_1_0; obtain ⟨p, t, u, z1, z2, z3, z4, z5⟩ := hvi_62_1 (by omega); have zE := zEnd_b (k2 := (v_47.toInt - 1).toNat) z1 z2 (by omega) rfl rfl rfl rfl; rw [show (x_8 : Int32).toInt = 160 * s_.toInt from by omega, show (x_9 : Int32).toInt = (gsi s_.toNatClampNeg).toInt from by (rw [ex_9])] at zE z4 z5; unfold zJac zHc; rw [if_pos (show (ghe s_.toNatClampNeg).toInt = 1 from by omega)]; refine Or.inr (Or.inr (Or.inr ⟨by omega, by omega, _, _, _, _, zE, ?_⟩)); exact Or.inr ⟨rfl, by omega, by first | decide | omega, z5, z4⟩)), trivial⟩, zRet ht hP hD [4, 0, 1, 2, 3, 5, 6, 7, 8, 9, 10, 11, 12, 13, 14] (by decide) rfl⟩, hS.F ht⟩) hS.2.2 dX8_jacket_139
        · have fc_95 : i_62.toInt < x_9.toInt := zf_nle c_95 rfl rfl
          refine lv_aload_n hx hb dX8_jacket_78 rfl (lv_at hl 2 rfl) ?_
          refine va_get (D := D) (ci := 8) (v := .ref mce) (C := RX8) (T := TX8) (N := 38) hx hb hts hi_X8_jacket_8 hown hK hP 4 rfl rfl 21 (by decide) (hts (.fieldLink RX8 59 "TheLiningsInItModel" "cells" "[J") (List.mem_of_getElem? (i := 7) rfl)) (fun _ h9 => h9) rfl dX8_jacket_79 ?_
          refine lv_aload_n hx hb dX8_jacket_82 rfl (lv_at hl 2 rfl) ?_
          refine va_get (D := D) (ci := 8) (v := .int x_8) (C := RX8) (T := TX8) (N := 38) hx hb hts hi_X8_jacket_8 hown hK hP 4 rfl rfl 26 (by decide) (hts (.fieldLink RX8 158 "TheLiningsInItModel" "base" "I") (List.mem_of_getElem? (i := 2) rfl)) (fun _ h9 => h9) rfl dX8_jacket_83 ?_
          refine lv_aload_n hx hb dX8_jacket_86 rfl (lv_at hl 2 rfl) ?_
          refine va_get (D := D) (ci := 8) (v := .int i_62) (C := RX8) (T := TX8) (N := 38) hx hb hts hi_X8_jacket_8 hown hK hP 4 rfl rfl 27 (by decide) (hts (.fieldLink RX8 152 "TheLiningsInItModel" "place" "I") (List.mem_of_getElem? (i := 3) rfl)) (fun _ h9 => h9) rfl dX8_jacket_87 ?_
          refine lv_iadd hx hb dX8_jacket_90 ?_
          refine lv_topi (fun x_97 ex_97 => ?_)
          have qx_97 : x_97.toInt = x_8.toInt + i_62.toInt := by rw [ex_97]; exact zf_add rfl rfl (by omega) (by omega)
          refine va_lald hx hb hK hP 7 1 rfl rfl (zf_in (by omega) (by omega)) dX8_jacket_91 ?_
          refine lv_topl (fun x_98 ex_98 => ?_)
          refine lv_l2i hx hb dX8_jacket_92 rfl ?_
          refine lv_topi (fun x_99 ex_99 => ?_)
          have hcx_99 : x_99 = zChX gce (x_8.toInt + i_62.toInt).toNat := by rw [ex_99, ex_98]; unfold zChX; congr 2; (show x_97.toInt.toNat = _; omega)
          have hdx_99 : x_99.toInt = (zChX gce (x_8.toInt + i_62.toInt).toNat).toInt := by rw [hcx_99]
          refine lv_bipush (v := 59) hx hb dX8_jacket_93 (by decide) ?_
          refine lv_icmp_eq (tgt := 111) hx hb dX8_jacket_95 (by decide) (fun c_100 => ?_) (fun c_100 => ?_)
          · have fc_100 : x_99.toInt = 59 := zf_eq c_100 rfl (by decide)
            refine lv_aload_n hx hb dX8_jacket_111 rfl (lv_at hl 2 rfl) ?_
            refine lv_dup hx hb dX8_jacket_112 rfl ?_
            refine va_get (D := D) (ci := 8) (v := .int i_62) (C := RX8) (T := TX8) (N := 38) hx hb hts hi_X8_jacket_8 hown hK hP 4 rfl rfl 27 (by decide) (hts (.fieldLink RX8 152 "TheLiningsInItModel" "place" "I") (List.mem_of_getElem? (i := 3) rfl)) (fun _ h9 => h9) rfl dX8_jacket_113 ?_
            refine lv_iconst (v := 1) hx hb dX8_jacket_116 (by decide) ?_
            refine lv_iadd hx hb dX8_jacket_117 ?_
            refine lv_topi (fun x_101 ex_101 => ?_)
            have qx_101 : x_101.toInt = i_62.toInt + 1 := dw_inc ex_101 fc_95
            refine va_put (D := D) (ci := 8) (v := .int x_101) (ty := .int) (C := RX8) (T := TX8) (N := 38) hx hb hts hi_X8_jacket_8 tyX8 tyX8_ok nmX8 hown hK hP hD hS 4 rfl rfl 27 (by decide) (hts (.fieldLink RX8 152 "TheLiningsInItModel" "place" "I") (List.mem_of_getElem? (i := 3) rfl)) (fun _ h9 => h9) rfl (tyX8_ok 27 (Nat.le_of_ble_eq_true rfl)) rfl rfl (Nat.le_of_ble_eq_true rfl) dX8_jacket_118 (fun H locs hP hD hS => ?_)
            have h9R := zRe (ws' := [(mrf, .inl (cI, 8, .inl grf)), (mhe, .inl (cI, 8, .inl ghe)), (msi, .inl (cI, 8, .inl gsi)), (mwa, .inl (cI, 130, .inl q_7)), (zMO m0 v_38 v_39 v_40 v_41 nto v_42 v_43 v_44 nsd (-1) mrf mki mpa mta mla msl mco mhe mso msi msh mce mca mwo mnu mte x_8 x_101 x_9 v_45 v_46 mwa mke mma mth mtr nra nik), (mwo, .inl (cI, 64, .inl gwo)), (mnu, .inl (cI, 10, .inl gnu)), (mce, .inl (cJ, 1280, .inr (.inl gce))), (mki, .inl (cI, 8, .inl g_31)), (mpa, .inl (cI, 8, .inl g_32)), (mta, .inl (cI, 8, .inl g_33)), (mla, .inl (cI, 40, .inl g_34)), (msl, .inl (cI, 40, .inl g_35)), (mco, .inl (cI, 3, .inl g_36)), (mte, .inl (cI, 3, .inl g_37))]) hP hD rfl
            clear hP hD
            obtain ⟨hP, hD⟩ := h9R
            obtain ⟨x_102, ex_102⟩ : ∃ y : Int32, y = v_47 + 1 := ⟨_, rfl⟩
            have qx_102 : x_102.toInt = v_47.toInt + 1 := by rw [ex_102]; exact zf_add rfl (by decide) (by omega) (by omega)
            refine lv_iinc (v := x_102) (lv' := [(3, .int x_102), (4, .int v_48), (0, .ref m0), (1, .int s_)]) hx hb dX8_jacket_121 hl (k := 1) rfl ex_102.symm (by decide) rfl (fun ls hl => ?_)
            have hn5 : (x_102 : Int32).toInt ≤ 33 := by (obtain ⟨p, t, u, z1, z2, z3, z4, z5⟩ := hvi_62_1 (by omega); have zr := zRgo_S (p2 := (x_101 : Int32).toInt) (k2 := ((x_102 : Int32).toInt - 1).toNat) z1 z2 (by omega) (by rw [← z3, zMF_at (by omega), ← hdx_99]; omega) (by omega) z4 z5 (by omega); have z := zRgo_rg (by omega) ⟨by omega, by omega⟩ ⟨by omega, by omega⟩ _ _ _ _ zr; omega)
            refine lv_aload_n hx hb dX8_jacket_124 rfl (lv_at hl 2 rfl) ?_
            skip
            refine zw_V (As := []) (rest := []) (wr := [(mrf, .inl (cI, 8, .inl grf)), (mhe, .inl (cI, 8, .inl ghe)), (msi, .inl (cI, 8, .inl gsi)), (mwa, .inl (cI, 130, .inl q_7))]) ⟨hx, hb, hml, hown, hts⟩ (c_F_M_item l D cI cJ cZ cP cS po m0 mrf mki mpa mta mla msl mco mhe mso msi msh mce mca mwo mnu mte mwa mke mma mth mtr (v_38) (v_39) (v_40) (v_41) (nto) (v_42) (v_43) (v_44) (nsd) ((-1)) (x_8) (x_101) (x_9) (v_45) (v_46) (nra) (nik) gwo gnu g_31 g_32 g_33 g_34 g_35 g_36 g_37 gce hbv_38.1 hbv_38.2 hbv_39.1 hbv_39.2 hbv_40.1 hbv_40.2 hbv_41.1 hbv_41.2 hbv_43.1 hbv_43.2 hy10 hy11 hy12 hy13 (by omega) (by omega) (by omega) (by omega) (by omega) (by omega) (by omega) hwo hnu hpg_31 hpg_32 hpg_33 hpg_34 hpg_35 hpg_36 H.size) (cwV 0 hts gX8_jacket_X8_item rfl rfl rfl ⟨rfl, dh_X8_item⟩ ⟨Nat.le_of_ble_eq_true rfl, Nat.le_of_ble_eq_true rfl⟩) hK hN (hZ.kept hS) hP hD hS hA [4, 5, 6, 7, 8, 9, 10, 11, 12, 13, 14] [0, 1, 2, 3] rfl rfl (by decide) (by decide) (by decide) (va_recv (q := (RX8, TX8, 38)) hK hP (ci := 8) (q0 := 4) rfl rfl) rfl hl.1 rfl (Nat.le_of_ble_eq_true rfl) dX8_jacket_125 ⟨Nat.le_of_ble_eq_true rfl, Nat.le_of_ble_eq_true rfl⟩ (fun r_103 u_104 H locs hr_103 hP hD hS => ?_)
            obtain ⟨q_105, q_106, q_107, q_108, q_109, q_110, q_111, q_112, q_113, q_114, q_115, q_116, q_117, q_118, q_119, q_120, q_121⟩ := u_104
            try dsimp only at hr_103
            obtain ⟨hbq_105, hbq_106, hbq_107, hbq_108, hbq_110, hpq_112, hpq_113, hpq_114, hpq_115, hpq_116, hpq_117, hbq_119, hsr_103_0, hsr_103_1, hr_103⟩ := hr_103
            have h9R := zRe (ws' := [(mrf, .inl (cI, 8, .inl grf)), (mhe, .inl (cI, 8, .inl ghe)), (msi, .inl (cI, 8, .inl gsi)), (mwa, .inl (cI, 130, .inl q_7)), (zMO m0 q_105 q_106 q_107 q_108 nto q_109 q_110 q_111 nsd (-1) mrf mki mpa mta mla msl mco mhe mso msi msh mce mca mwo mnu mte x_8 q_119 x_9 q_120 q_121 mwa mke mma mth mtr nra nik), (mwo, .inl (cI, 64, .inl gwo)), (mnu, .inl (cI, 10, .inl gnu)), (mce, .inl (cJ, 1280, .inr (.inl gce))), (mki, .inl (cI, 8, .inl q_112)), (mpa, .inl (cI, 8, .inl q_113)), (mta, .inl (cI, 8, .inl q_114)), (mla, .inl (cI, 40, .inl q_115)), (msl, .inl (cI, 40, .inl q_116)), (mco, .inl (cI, 3, .inl q_117)), (mte, .inl (cI, 3, .inl q_118))]) hP hD rfl
            clear hP hD
            obtain ⟨hP, hD⟩ := h9R
            obtain ⟨g_122, g_123⟩ := hr_103
            refine lv_istore (lv' := [(4, .int r_103), (3, .int x_102), (0, .ref m0), (1, .int s_)]) hx hb dX8_jacket_128 hl (by decide) rfl (fun ls hl => ?_)
            refine lv_goto (tgt := 62) hx hb dX8_jacket_130 (by decide) ?_
            exact ih q_119 x_102 r_103 (q_121) (q_120) (q_111) (q_110) (q_109) (q_108) (q_107) (q_106) (q_105) (q_118) (q_117) (q_116) (q_115) (q_114) (q_113) (q_112) _ _ _ (hP.sub [0, 1, 2, 3, 4, 5, 6, 7, 8, 9, 10, 11, 12, 13, 14] rfl) (hD.sub [0, 1, 2, 3, 4, 5, 6, 7, 8, 9, 10, 11, 12, 13, 14] (by decide) rfl) hS (lv_sub hl [0, 1, 2, 3] rfl) hpq_112 hpq_113 hpq_114 hpq_115 hpq_116 hpq_117 hbq_105 hbq_106 hbq_107 hbq_108 hbq_110 ⟨by omega, by omega⟩ ⟨by omega, by omega⟩ (show q_119.toInt ≤ (x_9 : Int32).toInt from by omega) (show ((r_103 : Int32).toInt = 1 → ∃ p t u : Int, zRgo (zMF gce (x_8 : Int32).toInt) (x_9 : Int32).toInt nte.toInt npu.toInt ((x_102 : Int32).toInt - 1).toNat = some (p, t, u) ∧ (zItem (zMF gce (x_8 : Int32).toInt) (x_9 : Int32).toInt p t u).1 = -1 ∧ q_119.toInt = (zItem (zMF gce (x_8 : Int32).toInt) (x_9 : Int32).toInt p t u).2.1 ∧ (q_106 : Int32).toInt = (zItem (zMF gce (x_8 : Int32).toInt) (x_9 : Int32).toInt p t u).2.2.1 ∧ (q_105 : Int32).toInt = (zItem (zMF gce (x_8 : Int32).toInt) (x_9 : Int32).toInt p t u).2.2.2) from by (intro _; obtain ⟨p, t, u, z1, z2, z3, z4, z5⟩ := hvi_62_1 (by omega); obtain ⟨y1, y2, y3, y4⟩ := hsr_103_1.1 (by omega); have zr := zRgo_S (p2 := (x_101 : Int32).toInt) (k2 := ((x_102 : Int32).toInt - 1).toNat) z1 z2 (by omega) (by rw [← z3, zMF_at (by omega), ← hdx_99]; omega) (by omega) z4 z5 (by omega); exact ⟨_, _, _, zr, y1, y2, y3, y4⟩)) (show ((r_103 : Int32).toInt = 0 → 0 ≤ (q_121 : Int32).toInt ∧ zEnd (zMF gce (x_8 : Int32).toInt) (x_9 : Int32).toInt nte.toInt npu.toInt ((x_102 : Int32).toInt - 1).toNat (q_121 : Int32).toInt 0 0) from by (intro _; obtain ⟨p, t, u, z1, z2, z3, z4, z5⟩ := hvi_62_1 (by omega); obtain ⟨y1, y2⟩ := hsr_103_1.2 (by omega); have zr := zRgo_S (p2 := (x_101 : Int32).toInt) (k2 := ((x_102 : Int32).toInt - 1).toNat) z1 z2 (by omega) (by rw [← z3, zMF_at (by omega), ← hdx_99]; omega) (by omega) z4 z5 (by omega); exact ⟨y2, zEnd_a zr (by omega) y1.symm (by omega)⟩)) (by omega) (by omega)
          · have fc_100 : x_99.toInt ≠ 59 := zf_ne c_100 rfl (by decide)
            refine lv_aload_n hx hb dX8_jacket_98 rfl (lv_at hl 2 rfl) ?_
            refine lv_aload_n hx hb dX8_jacket_99 rfl (lv_at hl 2 rfl) ?_
            refine va_get (D := D) (ci := 8) (v := .int i_62) (C := RX8) (T := TX8) (N := 38) hx hb hts hi_X8_jacket_8 hown hK hP 4 rfl rfl 27 (by decide) (hts (.fieldLink RX8 152 "TheLiningsInItModel" "place" "I") (List.mem_of_getElem? (i := 3) rfl)) (fun _ h9 => h9) rfl dX8_jacket_100 ?_
            skip
            refine zw_V (As := [.int i_62]) (rest := []) (wr := [(mrf, .inl (cI, 8, .inl grf)), (mhe, .inl (cI, 8, .inl ghe)), (msi, .inl (cI, 8, .inl gsi)), (mwa, .inl (cI, 130, .inl q_7)), (mwo, .inl (cI, 64, .inl gwo)), (mnu, .inl (cI, 10, .inl gnu)), (mce, .inl (cJ, 1280, .inr (.inl gce))), (mki, .inl (cI, 8, .inl g_31)), (mpa, .inl (cI, 8, .inl g_32)), (mta, .inl (cI, 8, .inl g_33)), (mla, .inl (cI, 40, .inl g_34)), (msl, .inl (cI, 40, .inl g_35)), (mco, .inl (cI, 3, .inl g_36)), (mte, .inl (cI, 3, .inl g_37))]) ⟨hx, hb, hml, hown, hts⟩ (c_F_M_wrong l D cI cJ cZ cP cS po m0 mrf mki mpa mta mla msl mco mhe mso msi msh mce mca mwo mnu mte mwa mke mma mth mtr (v_38) (v_39) (v_40) (v_41) (nto) (v_42) (v_43) (v_44) (nsd) ((-1)) (x_8) (i_62) (x_9) (v_45) (v_46) (nra) (nik) (i_62) hbv_38.1 hbv_38.2 hbv_39.1 hbv_39.2 hbv_40.1 hbv_40.2 hbv_41.1 hbv_41.2 hbv_43.1 hbv_43.2 hy10 hy11 hy12 hy13 H.size) (cwV 1 hts gX8_jacket_X8_wrong rfl rfl rfl ⟨rfl, dh_X8_wrong⟩ ⟨Nat.le_of_ble_eq_true rfl, Nat.le_of_ble_eq_true rfl⟩) hK hN (hZ.kept hS) hP hD hS hA [4] [0, 1, 2, 3, 5, 6, 7, 8, 9, 10, 11, 12, 13, 14] rfl rfl (by decide) (by decide) (by decide) (va_recv (q := (RX8, TX8, 38)) hK hP (ci := 8) (q0 := 4) rfl rfl) rfl hl.1 rfl (Nat.le_of_ble_eq_true rfl) dX8_jacket_103 ⟨Nat.le_of_ble_eq_true rfl, Nat.le_of_ble_eq_true rfl⟩ (fun r_124 u_125 H locs hr_124 hP hD hS => ?_)
            obtain ⟨q_126, rfl⟩ : ∃ z, z = u_125 := ⟨_, rfl⟩
            obtain ⟨hsr_124_0, hr_124⟩ := hr_124
            have h9R := zRe (ws' := [(mrf, .inl (cI, 8, .inl grf)), (mhe, .inl (cI, 8, .inl ghe)), (msi, .inl (cI, 8, .inl gsi)), (mwa, .inl (cI, 130, .inl q_7)), (mwo, .inl (cI, 64, .inl gwo)), (mnu, .inl (cI, 10, .inl gnu)), (mce, .inl (cJ, 1280, .inr (.inl gce))), (mki, .inl (cI, 8, .inl g_31)), (mpa, .inl (cI, 8, .inl g_32)), (mta, .inl (cI, 8, .inl g_33)), (mla, .inl (cI, 40, .inl g_34)), (msl, .inl (cI, 40, .inl g_35)), (mco, .inl (cI, 3, .inl g_36)), (mte, .inl (cI, 3, .inl g_37)), (zMO m0 v_38 v_39 v_40 v_41 nto v_42 v_43 v_44 nsd (-1) mrf mki mpa mta mla msl mco mhe mso msi msh mce mca mwo mnu mte x_8 i_62 x_9 v_45 q_126 mwa mke mma mth mtr nra nik)]) hP hD rfl
            clear hP hD
            obtain ⟨hP, hD⟩ := h9R
            obtain rfl := hr_124
            refine lv_istore (lv' := [(4, .int 0), (3, .int v_47), (0, .ref m0), (1, .int s_)]) hx hb dX8_jacket_106 hl (by decide) rfl (fun ls hl => ?_)
            refine lv_goto (tgt := 62) hx hb dX8_jacket_108 (by decide) ?_
            refine lv_iload hx hb dX8_jacket_62 (lv_at hl 0 rfl) ?_
            refine lv_if_eq (tgt := 133) hx hb dX8_jacket_64 (by decide) (fun c_127 => ?_) (fun c_127 => ?_)
            · refine lv_iload hx hb dX8_jacket_133 (lv_at hl 0 rfl) ?_
              refine lv_if_eq (tgt := 140) hx hb dX8_jacket_135 (by decide) (fun c_128 => ?_) (fun c_128 => ?_)
              · refine lv_aload_n hx hb dX8_jacket_140 rfl (lv_at hl 2 rfl) ?_
                refine lv_aload_n hx hb dX8_jacket_141 rfl (lv_at hl 2 rfl) ?_
                refine va_get (D := D) (ci := 8) (v := .ref mwa) (C := RX8) (T := TX8) (N := 38) hx hb hts hi_X8_jacket_8 hown hK hP 14 rfl rfl 31 (by decide) (hts (.fieldLink RX8 75 "TheLiningsInItModel" "was" "[I") (List.mem_of_getElem? (i := 1) rfl)) (fun _ h9 => h9) rfl dX8_jacket_142 ?_
                refine lv_iconst (v := 1) hx hb dX8_jacket_145 (by decide) ?_
                skip
                refine zw_Vv (As := [.ref mwa, .int 1]) (rest := []) (wr := [(mrf, .inl (cI, 8, .inl grf)), (mhe, .inl (cI, 8, .inl ghe)), (msi, .inl (cI, 8, .inl gsi)), (mwo, .inl (cI, 64, .inl gwo)), (mnu, .inl (cI, 10, .inl gnu)), (mce, .inl (cJ, 1280, .inr (.inl gce))), (mte, .inl (cI, 3, .inl g_37))]) ⟨hx, hb, hml, hown, hts⟩ (c_M_all_b l D cI cJ cZ cP cS po m0 mrf mki mpa mta mla msl mco mhe mso msi msh mce mca mwo mnu mte mwa mke mma mth mtr (v_38) (v_39) (v_40) (v_41) (nto) (v_42) (v_43) (v_44) (nsd) ((-1)) (x_8) (i_62) (x_9) (v_45) (q_126) (nra) (nik) g_31 g_32 g_33 g_34 g_35 g_36 mwa q_7 hbv_38.1 hbv_38.2 hbv_39.1 hbv_39.2 hbv_40.1 hbv_40.2 hbv_41.1 hbv_41.2 hbv_43.1 hbv_43.2 hy10 hy11 hy12 hy13 (zAll_kp hsr_5_0 hp_gki hp_gpa hp_gta hp_gla hp_gsl hp_gco ⟨by omega, by omega⟩ ⟨by omega, by omega⟩ ⟨by omega, by omega⟩ ⟨by omega, by omega⟩ ⟨by omega, by omega⟩) hpg_31 hpg_32 hpg_33 hpg_34 hpg_35 hpg_36 H.size) (cwV 2 hts gX8_jacket_X8_all rfl rfl rfl ⟨rfl, dh_X8_all⟩ ⟨Nat.le_of_ble_eq_true rfl, Nat.le_of_ble_eq_true rfl⟩) hK hN (hZ.kept hS) hP hD hS hA [14, 7, 8, 9, 10, 11, 12, 3] [0, 1, 2, 4, 5, 6, 13] rfl rfl (by decide) (by decide) (by decide) (va_recv (q := (RX8, TX8, 38)) hK hP (ci := 8) (q0 := 14) rfl rfl) rfl hl.1 rfl (Nat.le_of_ble_eq_true rfl) dX8_jacket_146 ⟨Nat.le_of_ble_eq_true rfl, Nat.le_of_ble_eq_true rfl⟩ (fun u_130 H locs hr_129 hP hD hS => ?_)
                obtain ⟨q_131, q_132, q_133, q_134, q_135, q_136, q_137, q_138, q_139, q_140, q_141, q_142, q_143, q_144, q_145⟩ := u_130
                try dsimp only at hr_129
                obtain ⟨hbq_131, hbq_132, hbq_133, hbq_134, hbq_137, hpq_140, hpq_141, hpq_142, hpq_143, hpq_144, hpq_145, hsr_129_0, hsr_129_1, hsr_129_2, hsr_129_3, hsr_129_4, hsr_129_5, hsr_129_6, hr_129⟩ := hr_129
                have h9R := zRe (ws' := [(mrf, .inl (cI, 8, .inl grf)), (mhe, .inl (cI, 8, .inl ghe)), (msi, .inl (cI, 8, .inl gsi)), (mwo, .inl (cI, 64, .inl gwo)), (mnu, .inl (cI, 10, .inl gnu)), (mce, .inl (cJ, 1280, .inr (.inl gce))), (mte, .inl (cI, 3, .inl g_37)), (zMO m0 q_131 q_132 q_133 q_134 q_135 q_136 q_137 q_138 q_139 (-1) mrf mki mpa mta mla msl mco mhe mso msi msh mce mca mwo mnu mte x_8 i_62 x_9 v_45 q_126 mwa mke mma mth mtr nra nik), (mki, .inl (cI, 8, .inl q_140)), (mpa, .inl (cI, 8, .inl q_141)), (mta, .inl (cI, 8, .inl q_142)), (mla, .inl (cI, 40, .inl q_143)), (msl, .inl (cI, 40, .inl q_144)), (mco, .inl (cI, 3, .inl q_145)), (mwa, .inl (cI, 130, .inl q_7))]) hP hD rfl
                clear hP hD
                obtain ⟨hP, hD⟩ := h9R
                refine lv_aload_n hx hb dX8_jacket_149 rfl (lv_at hl 2 rfl) ?_
                refine lv_aload_n hx hb dX8_jacket_150 rfl (lv_at hl 2 rfl) ?_
                refine va_get (D := D) (ci := 8) (v := .int q_126) (C := RX8) (T := TX8) (N := 38) hx hb hts hi_X8_jacket_8 hown hK hP 7 rfl rfl 30 (by decide) (hts (.fieldLink RX8 149 "TheLiningsInItModel" "wrongAt" "I") (List.mem_of_getElem? (i := 8) rfl)) (fun _ h9 => h9) rfl dX8_jacket_151 ?_
                refine va_put (D := D) (ci := 8) (v := .int q_126) (ty := .int) (C := RX8) (T := TX8) (N := 38) hx hb hts hi_X8_jacket_8 tyX8 tyX8_ok nmX8 hown hK hP hD hS 7 rfl rfl 9 (by decide) (hts (.fieldLink RX8 22 "TheLiningsInItModel" "fault" "I") (List.mem_of_getElem? (i := 6) rfl)) (fun _ h9 => h9) rfl (tyX8_ok 9 (Nat.le_of_ble_eq_true rfl)) rfl rfl (Nat.le_of_ble_eq_true rfl) dX8_jacket_154 (fun H locs hP hD hS => ?_)
                have h9R := zRe (ws' := [(mrf, .inl (cI, 8, .inl grf)), (mhe, .inl (cI, 8, .inl ghe)), (msi, .inl (cI, 8, .inl gsi)), (mwo, .inl (cI, 64, .inl gwo)), (mnu, .inl (cI, 10, .inl gnu)), (mce, .inl (cJ, 1280, .inr (.inl gce))), (mte, .inl (cI, 3, .inl g_37)), (zMO m0 q_131 q_132 q_133 q_134 q_135 q_136 q_137 q_138 q_139 q_126 mrf mki mpa mta mla msl mco mhe mso msi msh mce mca mwo mnu mte x_8 i_62 x_9 v_45 q_126 mwa mke mma mth mtr nra nik), (mki, .inl (cI, 8, .inl q_140)), (mpa, .inl (cI, 8, .inl q_141)), (mta, .inl (cI, 8, .inl q_142)), (mla, .inl (cI, 40, .inl q_143)), (msl, .inl (cI, 40, .inl q_144)), (mco, .inl (cI, 3, .inl q_145)), (mwa, .inl (cI, 130, .inl q_7))]) hP hD rfl
                clear hP hD
                obtain ⟨hP, hD⟩ := h9R
                refine lv_aload_n hx hb dX8_jacket_157 rfl (lv_at hl 2 rfl) ?_
                refine lv_bipush (v := (-6)) hx hb dX8_jacket_158 (by decide) ?_
                skip
                refine zw_V (As := [.int (-6)]) (rest := []) (wr := [(mhe, .inl (cI, 8, .inl ghe)), (msi, .inl (cI, 8, .inl gsi)), (mwo, .inl (cI, 64, .inl gwo)), (mnu, .inl (cI, 10, .inl gnu)), (mce, .inl (cJ, 1280, .inr (.inl gce))), (mte, .inl (cI, 3, .inl g_37)), (mki, .inl (cI, 8, .inl q_140)), (mpa, .inl (cI, 8, .inl q_141)), (mta, .inl (cI, 8, .inl q_142)), (mla, .inl (cI, 40, .inl q_143)), (msl, .inl (cI, 40, .inl q_144)), (mco, .inl (cI, 3, .inl q_145)), (mwa, .inl (cI, 130, .inl q_7))]) ⟨hx, hb, hml, hown, hts⟩ (c_M_no_6 l D cI cJ cZ cP cS po m0 mrf mki mpa mta mla msl mco mhe mso msi msh mce mca mwo mnu mte mwa mke mma mth mtr (q_131) (q_132) (q_133) (q_134) (q_135) (q_136) (q_137) (q_138) (q_139) (q_126) (x_8) (i_62) (x_9) (v_45) (q_126) (nra) (nik) grf hbq_131.1 hbq_131.2 hbq_132.1 hbq_132.2 hbq_133.1 hbq_133.2 hbq_134.1 hbq_134.2 hbq_137.1 hbq_137.2 hy10 hy11 hy12 hy13 H.size) (cwV 1 hts gX8_jacket_X8_no rfl rfl rfl ⟨rfl, dh_X8_no⟩ ⟨Nat.le_of_ble_eq_true rfl, Nat.le_of_ble_eq_true rfl⟩) hK hN (hZ.kept hS) hP hD hS hA [7, 0] [1, 2, 3, 4, 5, 6, 8, 9, 10, 11, 12, 13, 14] rfl rfl (by decide) (by decide) (by decide) (va_recv (q := (RX8, TX8, 38)) hK hP (ci := 8) (q0 := 7) rfl rfl) rfl hl.1 rfl (Nat.le_of_ble_eq_true rfl) dX8_jacket_160 ⟨Nat.le_of_ble_eq_true rfl, Nat.le_of_ble_eq_true rfl⟩ (fun r_146 u_147 H locs hr_146 hP hD hS => ?_)
                obtain ⟨q_148, rfl⟩ : ∃ z, z = u_147 := ⟨_, rfl⟩
                have h9R := zRe (ws' := [(mhe, .inl (cI, 8, .inl ghe)), (msi, .inl (cI, 8, .inl gsi)), (mwo, .inl (cI, 64, .inl gwo)), (mnu, .inl (cI, 10, .inl gnu)), (mce, .inl (cJ, 1280, .inr (.inl gce))), (mte, .inl (cI, 3, .inl g_37)), (mki, .inl (cI, 8, .inl q_140)), (mpa, .inl (cI, 8, .inl q_141)), (mta, .inl (cI, 8, .inl q_142)), (mla, .inl (cI, 40, .inl q_143)), (msl, .inl (cI, 40, .inl q_144)), (mco, .inl (cI, 3, .inl q_145)), (mwa, .inl (cI, 130, .inl q_7)), (zMO m0 q_131 q_132 q_133 q_134 q_135 q_136 q_137 q_138 q_139 q_126 mrf mki mpa mta mla msl mco mhe mso msi msh mce mca mwo mnu mte x_8 i_62 x_9 v_45 q_126 mwa mke mma mth mtr nra nik), (mrf, .inl (cI, 8, .inl q_148))]) hP hD rfl
                clear hP hD
                obtain ⟨hP, hD⟩ := h9R
                obtain rfl := hr_146
                exact W.iret (v := (-6)) hx hb hr (fun t ht hW => ⟨⟨(-6), (q_131, q_132, q_133, q_134, q_135, q_136, q_137, q_138, q_139, q_148, q_7, q_140, q_141, q_142, q_143, q_144, q_145, g_37, q_126, x_8, i_62, x_9, v_45, q_126), rfl, ⟨(show 0 ≤ q_131.toInt ∧ q_131.toInt ≤ 8 from hbq_131), (show 4 ≤ q_132.toInt ∧ q_132.toInt ≤ 40 from hbq_132), (show 0 ≤ q_133.toInt ∧ q_133.toInt ≤ 40 from hbq_133), (show 0 ≤ q_134.toInt ∧ q_134.toInt ≤ 24 from hbq_134), (show 0 ≤ q_137.toInt ∧ q_137.toInt ≤ 9 from hbq_137), hpq_140, hpq_141, hpq_142, hpq_143, hpq_144, hpq_145, (show zJac (zMF gce (160 * s_.toInt)) (gsi s_.toNatClampNeg).toInt s_.toInt (zHc (ghe s_.toNatClampNeg).toInt) nfa.toInt npu.toInt nte.toInt ((-6) : Int32).toInt q_126.toInt q_131.toInt q_132.toInt from by (have k9 : ((-6) : Int32).toInt = -6 := (by decide); have zw := hsr_1_0; obtain ⟨p, t, u, z1, z2, z3, z4, z5⟩ := hvi_62_1 (by omega); have zE : zEnd (zMF gce (x_8 : Int32).toInt) (x_9 : Int32).toInt nte.toInt npu.toInt ((v_47 : Int32).toInt - 1).toNat (q_126 : Int32).toInt 0 0 := zEnd_c z1 z2 (by omega) (by rw [← z3, zMF_at (by omega), ← hdx_99]; omega) (by omega) (by omega); rw [show (x_8 : Int32).toInt = 160 * s_.toInt from by omega, show (x_9 : Int32).toInt = (gsi s_.toNatClampNeg).toInt from by (rw [ex_9])] at zE; unfold zJac zHc; rw [if_pos (show (ghe s_.toNatClampNeg).toInt = 1 from by omega)]; refine Or.inr (Or.inr (Or.inr ⟨by omega, by omega, _, _, _, _, zE, ?_⟩)); exact Or.inl ⟨by omega, by omega, by first | rfl | omega, by rw [hsr_129_6.1, hsr_5_0 107 (by decide)]; rfl, by rw [hsr_129_6.2.1, hsr_5_0 108 (by decide)]; rfl⟩)), trivial⟩, zRet ht hP hD [13, 14, 0, 1, 12, 2, 3, 4, 6, 7, 8, 9, 10, 11, 5] (by decide) rfl⟩, hS.F ht⟩) hS.2.2 dX8_jacket_163
              · exact absurd c_128 (by decide)
            · exact absurd c_127 (by decide)
  · have fc_4 : r_1.toInt ≠ 0 := zf_ne c_4 rfl (by decide)
    refine lv_aload_n hx hb dX8_jacket_10 rfl (lv_at hl 1 rfl) ?_
    refine lv_iload_n hx hb dX8_jacket_11 rfl (lv_at hl 0 rfl) ?_
    skip
    refine zw_V (As := [.int r_1]) (rest := []) (wr := [(mhe, .inl (cI, 8, .inl ghe)), (msi, .inl (cI, 8, .inl gsi)), (mwa, .inl (cI, 130, .inl gwa)), (mwo, .inl (cI, 64, .inl gwo)), (mnu, .inl (cI, 10, .inl gnu)), (mce, .inl (cJ, 1280, .inr (.inl gce))), (mki, .inl (cI, 8, .inl gki)), (mpa, .inl (cI, 8, .inl gpa)), (mta, .inl (cI, 8, .inl gta)), (mla, .inl (cI, 40, .inl gla)), (msl, .inl (cI, 40, .inl gsl)), (mco, .inl (cI, 3, .inl gco)), (mte, .inl (cI, 3, .inl gte))]) ⟨hx, hb, hml, hown, hts⟩ (c_M_no l D cI cJ cZ cP cS po m0 mrf mki mpa mta mla msl mco mhe mso msi msh mce mca mwo mnu mte mwa mke mma mth mtr (npu) (nte) (nat_) (nde) (nto) (nse) (nhu) (nga) (nsd) (nfa) (nba) (npl) (nen) (nnu) (nwr) (nra) (nik) grf (r_1) hy0 hy1 hy2 hy3 hy4 hy5 hy6 hy7 hy8 hy9 hy10 hy11 hy12 hy13 (by omega) (by omega) H.size) (cwV 1 hts gX8_jacket_X8_no rfl rfl rfl ⟨rfl, dh_X8_no⟩ ⟨Nat.le_of_ble_eq_true rfl, Nat.le_of_ble_eq_true rfl⟩) hK hN (hZ.kept hS) hP hD hS hA [0, 1] [2, 3, 4, 5, 6, 7, 8, 9, 10, 11, 12, 13, 14] rfl rfl (by decide) (by decide) (by decide) (va_recv (q := (RX8, TX8, 38)) hK hP (ci := 8) (q0 := 0) rfl rfl) rfl hl.1 rfl (Nat.le_of_ble_eq_true rfl) dX8_jacket_12 ⟨Nat.le_of_ble_eq_true rfl, Nat.le_of_ble_eq_true rfl⟩ (fun r_149 u_150 H locs hr_149 hP hD hS => ?_)
    obtain ⟨q_151, rfl⟩ : ∃ z, z = u_150 := ⟨_, rfl⟩
    have h9R := zRe (ws' := [(mhe, .inl (cI, 8, .inl ghe)), (msi, .inl (cI, 8, .inl gsi)), (mwa, .inl (cI, 130, .inl gwa)), (mwo, .inl (cI, 64, .inl gwo)), (mnu, .inl (cI, 10, .inl gnu)), (mce, .inl (cJ, 1280, .inr (.inl gce))), (mki, .inl (cI, 8, .inl gki)), (mpa, .inl (cI, 8, .inl gpa)), (mta, .inl (cI, 8, .inl gta)), (mla, .inl (cI, 40, .inl gla)), (msl, .inl (cI, 40, .inl gsl)), (mco, .inl (cI, 3, .inl gco)), (mte, .inl (cI, 3, .inl gte)), (zMO m0 npu nte nat_ nde nto nse nhu nga nsd nfa mrf mki mpa mta mla msl mco mhe mso msi msh mce mca mwo mnu mte nba npl nen nnu nwr mwa mke mma mth mtr nra nik), (mrf, .inl (cI, 8, .inl q_151))]) hP hD rfl
    clear hP hD
    obtain ⟨hP, hD⟩ := h9R
    have w_152 := hr_149
    obtain rfl : r_1 = r_149 := w_152.symm
    exact W.iret (v := r_1) hx hb hr (fun t ht hW => ⟨⟨r_1, (npu, nte, nat_, nde, nto, nse, nhu, nga, nsd, q_151, gwa, gki, gpa, gta, gla, gsl, gco, gte, nfa, nba, npl, nen, nnu, nwr), rfl, ⟨(show 0 ≤ npu.toInt ∧ npu.toInt ≤ 8 from ⟨hy0, hy1⟩), (show 4 ≤ nte.toInt ∧ nte.toInt ≤ 40 from ⟨hy2, hy3⟩), (show 0 ≤ nat_.toInt ∧ nat_.toInt ≤ 40 from ⟨hy4, hy5⟩), (show 0 ≤ nde.toInt ∧ nde.toInt ≤ 24 from ⟨hy6, hy7⟩), (show 0 ≤ nhu.toInt ∧ nhu.toInt ≤ 9 from ⟨hy8, hy9⟩), hp_gki, hp_gpa, hp_gta, hp_gla, hp_gsl, hp_gco, (show zJac (zMF gce (160 * s_.toInt)) (gsi s_.toNatClampNeg).toInt s_.toInt (zHc (ghe s_.toNatClampNeg).toInt) nfa.toInt npu.toInt nte.toInt (r_1 : Int32).toInt nfa.toInt npu.toInt nte.toInt from by (have zw := hsr_1_0; unfold zJac zHc; rcases zw with zw | ⟨zs, zw | zw | zw⟩; (left; omega); (right; right; left; rw [if_neg (by omega), if_neg (by omega)]; omega); (right; left; rw [if_neg (by omega), if_pos (by omega)]; omega); (exfalso; omega))), trivial⟩, zRet ht hP hD [13, 14, 0, 1, 2, 3, 4, 5, 6, 7, 8, 9, 10, 11, 12] (by decide) rfl⟩, hS.F ht⟩) hS.2.2 dX8_jacket_15

